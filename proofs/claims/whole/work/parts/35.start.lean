set_option maxHeartbeats 1000000 in
set_option maxRecDepth 100000 in
/-- THE LAW'S LOOP -/
theorem law_loop {p : Program} {l : Launch} {e : Env} {s : State} {m : MethodId} {below : List Frame} {meth : Method} {cD : Code} {dC : Nat → ClassId} {dI : Nat → Nat → Nat} {b L : Nat} {xs : Nat → Int32} (hL : L ≤ 3074) (C0 : lw_At p s m meth cD b L xs) (hN : nst s) : ∀ (n i : Nat), i ≤ L + 2 → L + 3 ≤ i + n → LawSt p l e s m below meth cD b dC dI 38 i := by
  obtain ⟨hx, hb, hr, hml, hown, hts, hX, hbl, hlocks, hgv⟩ := id C0
  have hown : s.vm.findClass RL = some m.cls := hown
  have hts : ∀ w ∈ wsL_law, w.before #[Value.ref b] s = true := fun w h => hts w (wsL_law_in w h)
  have hA : ∀ q : Nat, s.heap.size ≤ q → (fun q : Nat => s.heap.size ≤ q) q := fun _ h => h
  have hbA : ¬ (fun q : Nat => s.heap.size ≤ q) b := Nat.not_le.mpr hbl
  intro n
  induction n with
  | zero => intro i h1 h2; exfalso; omega
  | succ n ih =>
    intro i hi hm
    intro ad am tc tm w h qd se th ar vx vy vz col dep rea que mc md mk hwh4 hv hz hf hc hd H locs hK hP hD hS ls hl
    refine lv_iload_n hx hb dL_law_38 rfl (lv_at hl 3 rfl) ?_
    refine lv_aload_n hx hb dL_law_39 rfl (lv_at hl 0 rfl) ?_
    refine va_slen hx hb hX hbl hbA hS dL_law_40 ?_
    refine lv_bipush (v := 6) hx hb dL_law_41 (by decide) ?_
    refine lv_isub hx hb dL_law_43 ?_
    refine lv_icmp_gt (tgt := 474) hx hb dL_law_44 (by decide) (fun c44 => ?_) (fun c44 => ?_)
    · refine lv_iconst (v := 1) hx hb dL_law_474 (by decide) ?_
      refine va_forget (fun q hq => hS.2.2 q hq) ?_
      refine W.widen (k := 600000) (n := 7302250) (by omega) (by omega) ?_
      exact lw_ret hx hb hr hlocks dL_law_475
    · have c44 : ¬ nI L - 6 < nI i := c44
      have hi6 : i + 6 ≤ L := by
        rw [Int32.lt_iff_toInt_lt, show (6 : Int32) = nI 6 from rfl, pk_sub_toInt (by omega) (by omega), nI_toInt (by omega)] at c44; omega
      refine lv_aload_n hx hb dL_law_47 rfl (lv_at hl 0 rfl) ?_
      refine lv_iload_n hx hb dL_law_48 rfl (lv_at hl 3 rfl) ?_
      refine va_sld hx hb hX hbl hbA hS (vp_in_nI (by omega) (by omega)) dL_law_49 ?_
      refine lv_topi (fun zz ezz => ?_)
      obtain rfl : zz = xs i := ezz.trans (congrArg xs (nI_clamp (by omega)))
      refine lv_bipush (v := 15) hx hb dL_law_50 (by decide) ?_
      refine lv_iand hx hb dL_law_52 ?_
      obtain ⟨j, hj, ej⟩ := pk_andE (xs i) (m := 15) 4 (by decide +kernel)
      refine lv_topi (fun zz ezz => ?_)
      obtain rfl : zz = nI j := ezz.trans (ej)
      have K468 : LawSt p l e s m below meth cD b dC dI 468 i := by
        intro ad am tc tm w h qd se th ar vx vy vz col dep rea que mc md mk hwh4 hv hz hf hc hd H locs hK hP hD hS ls hl
        refine lv_iinc (v := nI (i + 6)) (lv' := [(3, .int (nI (i + 6))), (0, .ref b), (1, .ref (ad 0)), (2, .ref (am 0))]) hx hb dL_law_468 hl (k := 3) rfl (nI_add _ 6) (by decide) rfl (fun ls hl => ?_)
        refine lv_goto (tgt := 38) hx hb dL_law_471 (by decide) ?_
        exact ih (i + 6) (by omega) (by omega) ad am tc tm w h qd se th ar vx vy vz col dep rea que mc md mk hwh4 hv hz hf hc hd H locs hK (hP.sub [0, 1, 2, 3, 4, 5, 6, 7, 8, 9, 10, 11, 12, 13, 14, 15] rfl) (hD.sub [0, 1, 2, 3, 4, 5, 6, 7, 8, 9, 10, 11, 12, 13, 14, 15] (by decide) rfl) hS ls (lv_sub hl [1, 2, 3, 0] rfl)
      rcases (show j = 0 ∨ j = 1 ∨ j = 2 ∨ j = 3 ∨ j = 4 ∨ j = 5 ∨ j = 6 ∨ j = 7 ∨ j = 8 ∨ j = 9 ∨ (10 ≤ j ∧ j < 16) by omega) with rfl | rfl | rfl | rfl | rfl | rfl | rfl | rfl | rfl | rfl | hj2
      · refine lv_tableIn (off := 55) (tgt := 108) hx hb dL_law_53 (by decide +kernel) (by decide +kernel) (by decide +kernel) (by decide) ?_
        exact law_108 hL C0 hN i hi6 K468 ad am tc tm w h qd se th ar vx vy vz col dep rea que mc md mk hwh4 hv hz hf hc hd H locs hK hP hD hS ls (lv_sub hl [0, 1, 2, 3] rfl)
      · refine lv_tableIn (off := 88) (tgt := 141) hx hb dL_law_53 (by decide +kernel) (by decide +kernel) (by decide +kernel) (by decide) ?_
        exact law_141 hL C0 hN i hi6 K468 ad am tc tm w h qd se th ar vx vy vz col dep rea que mc md mk hwh4 hv hz hf hc hd H locs hK hP hD hS ls (lv_sub hl [0, 1, 2, 3] rfl)
      · refine lv_tableIn (off := 141) (tgt := 194) hx hb dL_law_53 (by decide +kernel) (by decide +kernel) (by decide +kernel) (by decide) ?_
        exact law_194 hL C0 hN i hi6 K468 ad am tc tm w h qd se th ar vx vy vz col dep rea que mc md mk hwh4 hv hz hf hc hd H locs hK hP hD hS ls (lv_sub hl [0, 1, 2, 3] rfl)
      · refine lv_tableIn (off := 164) (tgt := 217) hx hb dL_law_53 (by decide +kernel) (by decide +kernel) (by decide +kernel) (by decide) ?_
        exact law_217 hL C0 hN i hi6 K468 ad am tc tm w h qd se th ar vx vy vz col dep rea que mc md mk hwh4 hv hz hf hc hd H locs hK hP hD hS ls (lv_sub hl [0, 1, 2, 3] rfl)
      · refine lv_tableIn (off := 197) (tgt := 250) hx hb dL_law_53 (by decide +kernel) (by decide +kernel) (by decide +kernel) (by decide) ?_
        exact law_250 hL C0 hN i hi6 K468 ad am tc tm w h qd se th ar vx vy vz col dep rea que mc md mk hwh4 hv hz hf hc hd H locs hK hP hD hS ls (lv_sub hl [0, 1, 2, 3] rfl)
      · refine lv_tableIn (off := 260) (tgt := 313) hx hb dL_law_53 (by decide +kernel) (by decide +kernel) (by decide +kernel) (by decide) ?_
        exact law_313 hL C0 hN i hi6 K468 ad am tc tm w h qd se th ar vx vy vz col dep rea que mc md mk hwh4 hv hz hf hc hd H locs hK hP hD hS ls (lv_sub hl [0, 1, 2, 3] rfl)
      · refine lv_tableIn (off := 303) (tgt := 356) hx hb dL_law_53 (by decide +kernel) (by decide +kernel) (by decide +kernel) (by decide) ?_
        exact law_356 hL C0 hN i hi6 K468 ad am tc tm w h qd se th ar vx vy vz col dep rea que mc md mk hwh4 hv hz hf hc hd H locs hK hP hD hS ls (lv_sub hl [0, 1, 2, 3] rfl)
      · refine lv_tableIn (off := 336) (tgt := 389) hx hb dL_law_53 (by decide +kernel) (by decide +kernel) (by decide +kernel) (by decide) ?_
        exact law_389 hL C0 hN i hi6 K468 ad am tc tm w h qd se th ar vx vy vz col dep rea que mc md mk hwh4 hv hz hf hc hd H locs hK hP hD hS ls (lv_sub hl [0, 1, 2, 3] rfl)
      · refine lv_tableIn (off := 369) (tgt := 422) hx hb dL_law_53 (by decide +kernel) (by decide +kernel) (by decide +kernel) (by decide) ?_
        exact law_422 hL C0 hN i hi6 K468 ad am tc tm w h qd se th ar vx vy vz col dep rea que mc md mk hwh4 hv hz hf hc hd H locs hK hP hD hS ls (lv_sub hl [0, 1, 2, 3] rfl)
      · refine lv_tableIn (off := 392) (tgt := 445) hx hb dL_law_53 (by decide +kernel) (by decide +kernel) (by decide +kernel) (by decide) ?_
        exact law_445 hL C0 hN i hi6 K468 ad am tc tm w h qd se th ar vx vy vz col dep rea que mc md mk hwh4 hv hz hf hc hd H locs hK hP hD hS ls (lv_sub hl [0, 1, 2, 3] rfl)
      · refine lv_tableOut (tgt := 468) hx hb dL_law_53 (Or.inr (by rw [nI_toInt (by omega)]; omega)) (by decide) ?_
        exact K468 ad am tc tm w h qd se th ar vx vy vz col dep rea que mc md mk hwh4 hv hz hf hc hd H locs hK hP hD hS ls (lv_sub hl [0, 1, 2, 3] rfl)

set_option maxHeartbeats 1000000 in
set_option maxRecDepth 100000 in
/-- THE LAW, from its entry -/
theorem whole_start {p : Program} {e : Env} {s : State} {m : MethodId} {below : List Frame} {meth : Method} {c : Code} (l : Launch) {b L : Nat} {xs : Nat → Int32} (hL : L ≤ 3074) (C0 : lw_At p s m meth c b L xs) : W p l e room_1 s m #[Value.ref b] below meth c s.heap [] 0 0 (lw_Z below #[Value.ref b] s) (entryFrame m ([Value.ref b] : List Value).toArray 4) := by
  obtain ⟨hx, hb, hr, hml, hown, hts0, hX, hbl, hlocks, hgv⟩ := id C0
  have hN : nst s := ⟨va_Nw.of rfl (hts0 (.methodLinkNest RX1 29 yX0_init RX1) (by decide +kernel)), va_Nw.of rfl (hts0 (.methodLinkNest RX1 60 yX0_place RX1) (by decide +kernel)), va_Nw.of rfl (hts0 (.methodLinkNest RX1 68 yX0_depthOver RX1) (by decide +kernel))⟩
  have hown : s.vm.findClass RL = some m.cls := hown
  have hts : ∀ w ∈ wsL_law, w.before #[Value.ref b] s = true := fun w h => hts0 w (wsL_law_in w h)
  have hA : ∀ q : Nat, s.heap.size ≤ q → (fun q : Nat => s.heap.size ≤ q) q := fun _ h => h
  have hbA : ¬ (fun q : Nat => s.heap.size ≤ q) b := Nat.not_le.mpr hbl
  obtain ⟨c0, iS0, hKn0⟩ := u_known (C := RX0) (T := TX0) (N := 6) (n := 6) hts0 inX0 (hts (.instantiable RX0 6) (by decide +kernel))
  obtain ⟨c1, iS1, hKn1⟩ := u_known (C := RX1) (T := TX1) (N := 8) (n := 8) hts0 inX1 (hts (.instantiable RX1 8) (by decide +kernel))
  obtain ⟨c2, iS2, hKn2⟩ := u_known (C := RX2) (T := TX2) (N := 8) (n := 8) hts0 inX2 (hts (.instantiable RX2 8) (by decide +kernel))
  obtain ⟨dC, dI, hKc⟩ : ∃ (dC : Nat → ClassId) (dI : Nat → Nat → Nat), ∀ (k : Nat) (q : vw_C), vwCl[k]? = some q → u_Kn s q.1 q.2.1 q.2.2 (dC k) (dI k) := by
    refine ⟨fun k => if k = 0 then c0 else if k = 1 then c1 else c2, fun k => if k = 0 then iS0 else if k = 1 then iS1 else iS2, ?_⟩
    intro k q hq
    match k, hq with
    | 0, hq => cases hq; exact hKn0
    | 1, hq => cases hq; exact hKn1
    | 2, hq => cases hq; exact hKn2
    | k + 3, hq => simp [vwCl] at hq
  have hS : va_S (fun q : Nat => s.heap.size ≤ q) s.heap s.heap [] := va_S.rf
  have hK : va_K (dC, dI) vwCl [] s := ⟨hKc, fun k q h => by simp at h⟩
  have hK0 := hK
  have hP : va_P (dC, dI) vwCl [] s.heap := fun k q h => by simp at h
  have hD : va_D (fun q : Nat => s.heap.size ≤ q) [] := ⟨fun i j p q h => by simp at h, fun k q h => by simp at h⟩
  have hl := lv_entry ([.ref b]) (n := 4) (Nat.le_of_ble_eq_true rfl)
  rw [lg_entry_eq]
  generalize (lg_sl ([.ref b]) ++ List.replicate (4 - (lg_sl ([.ref b])).length) Slot.unset).toArray = ls at hl ⊢
  have hl : lv_has ls 4 [(0, .ref b)] := hl
  refine va_new (ci := 1) (fs := [.int 0, .int 0, .null, .null, .null, .null, .null, .int 0]) (C := RX1) (T := TX1) (N := 8) hx hb hts (by decide +kernel) tyX1 tyX1_ok hown (hts (.classLink RL 7 RX1) (by decide +kernel)) (hts (.instantiable RX1 8) (by decide +kernel)) (hts (.initialized RX1) (by decide +kernel)) hK hP hD hS hA rfl (fun j hj => by rcases (show j = 0 ∨ j = 1 ∨ j = 2 ∨ j = 3 ∨ j = 4 ∨ j = 5 ∨ j = 6 ∨ j = 7 by omega) with rfl | rfl | rfl | rfl | rfl | rfl | rfl | rfl <;> rfl) (Nat.le_of_ble_eq_true rfl) (Nat.le_of_ble_eq_true rfl) dL_law_0 (fun q0 H hP hD hS => ?_)
  refine W.widen (k := 1) (n := 8) (by omega) (by omega) ?_
  have hP : va_P (dC, dI) vwCl [(q0, .inr (1, [.int 0, .int 0, .null, .null, .null, .null, .null, .int 0]))] H := hP
  have hD : va_D (fun q : Nat => s.heap.size ≤ q) [(q0, .inr (1, [.int 0, .int 0, .null, .null, .null, .null, .null, .int 0]))] := hD
  refine lv_dup hx hb dL_law_3 rfl ?_
  refine lv_aload_n hx hb dL_law_4 rfl (lv_at hl 0 rfl) ?_
  refine lv_iconst (v := 0) hx hb dL_law_5 (by decide) ?_
  refine lv_topi (fun zz ezz => ?_)
  obtain rfl : zz = nI 0 := ezz.trans (rfl)
  refine m_calli (cs := []) (wr := [(q0, .inr (1, [.int 0, .int 0, .null, .null, .null, .null, .null, .int 0]))]) hP hD hS hA [] [0] rfl rfl (by decide) (by decide) (va_runS (As := [.ref b, .int (nI 0)]) (rest := [.ref q0, .ref q0]) ⟨hx, hb, hml, hown, hts⟩ (c_L_cell l dC dI _ b L xs (by omega) 0 (by omega)) (va_cwS 2 hts gL_law_L_cell rfl rfl rfl (by decide +kernel) ⟨Nat.le_of_ble_eq_true rfl, Nat.le_of_ble_eq_true rfl⟩) (m_preC hX hbl hS (hK.sub [] rfl)) rfl rfl hl.1 rfl (lv_room (Nat.le_of_ble_eq_true rfl)) dL_law_6 ⟨Nat.le_of_ble_eq_true rfl, Nat.le_of_ble_eq_true rfl⟩) (fun r6 _ H locs q6 hK2 hP hD hS => ?_)
  have hP : va_P (dC, dI) vwCl [(q0, .inr (1, [.int 0, .int 0, .null, .null, .null, .null, .null, .int 0]))] H := hP.sub [0] rfl
  have hD : va_D (fun q : Nat => s.heap.size ≤ q) [(q0, .inr (1, [.int 0, .int 0, .null, .null, .null, .null, .null, .int 0]))] := hD.sub [0] (by decide) rfl
  refine lv_aload_n hx hb dL_law_9 rfl (lv_at hl 0 rfl) ?_
  refine lv_iconst (v := 1) hx hb dL_law_10 (by decide) ?_
  refine lv_topi (fun zz ezz => ?_)
  obtain rfl : zz = nI 1 := ezz.trans (rfl)
  refine m_calli (cs := []) (wr := [(q0, .inr (1, [.int 0, .int 0, .null, .null, .null, .null, .null, .int 0]))]) hP hD hS hA [] [0] rfl rfl (by decide) (by decide) (va_runS (As := [.ref b, .int (nI 1)]) (rest := [.int r6, .ref q0, .ref q0]) ⟨hx, hb, hml, hown, hts⟩ (c_L_cell l dC dI _ b L xs (by omega) 1 (by omega)) (va_cwS 2 hts gL_law_L_cell rfl rfl rfl (by decide +kernel) ⟨Nat.le_of_ble_eq_true rfl, Nat.le_of_ble_eq_true rfl⟩) (m_preC hX hbl hS (hK.sub [] rfl)) rfl rfl hl.1 rfl (lv_room (Nat.le_of_ble_eq_true rfl)) dL_law_11 ⟨Nat.le_of_ble_eq_true rfl, Nat.le_of_ble_eq_true rfl⟩) (fun r11 _ H locs q11 hK2 hP hD hS => ?_)
  have hP : va_P (dC, dI) vwCl [(q0, .inr (1, [.int 0, .int 0, .null, .null, .null, .null, .null, .int 0]))] H := hP.sub [0] rfl
  have hD : va_D (fun q : Nat => s.heap.size ≤ q) [(q0, .inr (1, [.int 0, .int 0, .null, .null, .null, .null, .null, .int 0]))] := hD.sub [0] (by decide) rfl
  refine m_callvt (cs := [(q0, .inr (1, [.int 0, .int 0, .null, .null, .null, .null, .null, .int 0]))]) (wr := []) hP hD hS hA [0] [] rfl rfl (by decide) (by decide) (va_runI (As := [.int r6, .int r11]) (rest := [.ref q0]) ⟨hx, hb, hml, hown, hts⟩ (c_X1_init l dC dI _ q0 r6 r11) (cwI 2 hts gL_law_X1_init rfl rfl rfl (hts (.initialized RX1) (by decide +kernel)) (hts (.methodLink RL 15 yX1_init) (by decide +kernel)) (hts (.instanceMethod yX1_init) (by decide +kernel)) rfl (by decide +kernel) ⟨Nat.le_of_ble_eq_true rfl, Nat.le_of_ble_eq_true rfl⟩) (m_preS (hP.sub [0] rfl) (hK.sub [] rfl) (hD.sub [0] (by decide) rfl) hN) rfl rfl hl.1 rfl (lv_room (Nat.le_of_ble_eq_true rfl)) dL_law_14 ⟨Nat.le_of_ble_eq_true rfl, Nat.le_of_ble_eq_true rfl⟩) (fun u14 H locs q14 hK2 hP hD hS => ?_)
  obtain ⟨ad, tc, w, h⟩ := u14
  have hK := hK.app hK2
  have hK : va_K (dC, dI) vwCl [(tc 1, .int), (tc 2, .int), (tc 4, .boolean), (tc 5, .int), (tc 6, .int), (tc 7, .int), (tc 8, .int)] s := hK
  have hP : va_P (dC, dI) vwCl [(ad 0, .inr (1, [.int (nI w), .int (nI h), .ref (ad 1), .ref (ad 2), .ref (ad 3), .ref (ad 4), .ref (ad 5), .int 0])), (ad 1, .inl (tc 1, (w * h), .inl (fun _ => 0))), (ad 2, .inl (tc 2, (w * h), .inl (fun _ => 0))), (ad 3, .inr (0, [.ref (ad 6), .ref (ad 7), .ref (ad 8), .int 1, .int 2, .long 0])), (ad 4, .inl (tc 4, (w * h), .inl (fun _ => 0))), (ad 5, .inl (tc 5, (w * h), .inl (fun _ => 0))), (ad 6, .inl (tc 6, 3, .inl (fun _ => 0))), (ad 7, .inl (tc 7, 3, .inl (fun _ => 0))), (ad 8, .inl (tc 8, 3, .inl (fun _ => 0)))] H := hP.sub [0, 1, 2, 3, 4, 5, 6, 7, 8] rfl
  have hD : va_D (fun q : Nat => s.heap.size ≤ q) [(ad 0, .inr (1, [.int (nI w), .int (nI h), .ref (ad 1), .ref (ad 2), .ref (ad 3), .ref (ad 4), .ref (ad 5), .int 0])), (ad 1, .inl (tc 1, (w * h), .inl (fun _ => 0))), (ad 2, .inl (tc 2, (w * h), .inl (fun _ => 0))), (ad 3, .inr (0, [.ref (ad 6), .ref (ad 7), .ref (ad 8), .int 1, .int 2, .long 0])), (ad 4, .inl (tc 4, (w * h), .inl (fun _ => 0))), (ad 5, .inl (tc 5, (w * h), .inl (fun _ => 0))), (ad 6, .inl (tc 6, 3, .inl (fun _ => 0))), (ad 7, .inl (tc 7, 3, .inl (fun _ => 0))), (ad 8, .inl (tc 8, 3, .inl (fun _ => 0)))] := hD.sub [0, 1, 2, 3, 4, 5, 6, 7, 8] (by decide) rfl
  refine W.widen (k := 9) (n := 2327) (by omega) (by omega) ?_
  obtain ⟨a0, sW, sH⟩ := q14
  have a0 : ad 0 = q0 := a0
  have sW : SIDE r6 w := sW
  have sH : SIDE r11 h := sH
  rw [← a0]
  refine lv_astore_n (lv' := [(1, .ref (ad 0)), (0, .ref b)]) hx hb dL_law_17 rfl hl (by decide) rfl (fun ls hl => ?_)
  refine va_new (ci := 2) (fs := [.int 0, .int 0, .null, .null, .null, .null, .null, .null]) (C := RX2) (T := TX2) (N := 8) hx hb hts (by decide +kernel) tyX2 tyX2_ok hown (hts (.classLink RL 18 RX2) (by decide +kernel)) (hts (.instantiable RX2 8) (by decide +kernel)) (hts (.initialized RX2) (by decide +kernel)) hK hP hD hS hA rfl (fun j hj => by rcases (show j = 0 ∨ j = 1 ∨ j = 2 ∨ j = 3 ∨ j = 4 ∨ j = 5 ∨ j = 6 ∨ j = 7 by omega) with rfl | rfl | rfl | rfl | rfl | rfl | rfl | rfl <;> rfl) (Nat.le_of_ble_eq_true rfl) (Nat.le_of_ble_eq_true rfl) dL_law_18 (fun q18 H hP hD hS => ?_)
  refine W.widen (k := 10) (n := 2335) (by omega) (by omega) ?_
  have hP : va_P (dC, dI) vwCl [(ad 0, .inr (1, [.int (nI w), .int (nI h), .ref (ad 1), .ref (ad 2), .ref (ad 3), .ref (ad 4), .ref (ad 5), .int 0])), (ad 1, .inl (tc 1, (w * h), .inl (fun _ => 0))), (ad 2, .inl (tc 2, (w * h), .inl (fun _ => 0))), (ad 3, .inr (0, [.ref (ad 6), .ref (ad 7), .ref (ad 8), .int 1, .int 2, .long 0])), (ad 4, .inl (tc 4, (w * h), .inl (fun _ => 0))), (ad 5, .inl (tc 5, (w * h), .inl (fun _ => 0))), (ad 6, .inl (tc 6, 3, .inl (fun _ => 0))), (ad 7, .inl (tc 7, 3, .inl (fun _ => 0))), (ad 8, .inl (tc 8, 3, .inl (fun _ => 0))), (q18, .inr (2, [.int 0, .int 0, .null, .null, .null, .null, .null, .null]))] H := hP
  have hD : va_D (fun q : Nat => s.heap.size ≤ q) [(ad 0, .inr (1, [.int (nI w), .int (nI h), .ref (ad 1), .ref (ad 2), .ref (ad 3), .ref (ad 4), .ref (ad 5), .int 0])), (ad 1, .inl (tc 1, (w * h), .inl (fun _ => 0))), (ad 2, .inl (tc 2, (w * h), .inl (fun _ => 0))), (ad 3, .inr (0, [.ref (ad 6), .ref (ad 7), .ref (ad 8), .int 1, .int 2, .long 0])), (ad 4, .inl (tc 4, (w * h), .inl (fun _ => 0))), (ad 5, .inl (tc 5, (w * h), .inl (fun _ => 0))), (ad 6, .inl (tc 6, 3, .inl (fun _ => 0))), (ad 7, .inl (tc 7, 3, .inl (fun _ => 0))), (ad 8, .inl (tc 8, 3, .inl (fun _ => 0))), (q18, .inr (2, [.int 0, .int 0, .null, .null, .null, .null, .null, .null]))] := hD
  refine lv_dup hx hb dL_law_21 rfl ?_
  refine lv_aload_n hx hb dL_law_22 rfl (lv_at hl 1 rfl) ?_
  refine lv_iconst (v := 0) hx hb dL_law_23 (by decide) ?_
  refine lv_topi (fun zz ezz => ?_)
  obtain rfl : zz = nI 0 := ezz.trans (rfl)
  refine m_calli (cs := []) (wr := [(ad 0, .inr (1, [.int (nI w), .int (nI h), .ref (ad 1), .ref (ad 2), .ref (ad 3), .ref (ad 4), .ref (ad 5), .int 0])), (ad 1, .inl (tc 1, (w * h), .inl (fun _ => 0))), (ad 2, .inl (tc 2, (w * h), .inl (fun _ => 0))), (ad 3, .inr (0, [.ref (ad 6), .ref (ad 7), .ref (ad 8), .int 1, .int 2, .long 0])), (ad 4, .inl (tc 4, (w * h), .inl (fun _ => 0))), (ad 5, .inl (tc 5, (w * h), .inl (fun _ => 0))), (ad 6, .inl (tc 6, 3, .inl (fun _ => 0))), (ad 7, .inl (tc 7, 3, .inl (fun _ => 0))), (ad 8, .inl (tc 8, 3, .inl (fun _ => 0))), (q18, .inr (2, [.int 0, .int 0, .null, .null, .null, .null, .null, .null]))]) hP hD hS hA [] [0, 1, 2, 3, 4, 5, 6, 7, 8, 9] rfl rfl (by decide) (by decide) (va_runS (As := [.ref b, .int (nI 0)]) (rest := [.ref q18, .ref q18]) ⟨hx, hb, hml, hown, hts⟩ (c_L_cell l dC dI _ b L xs (by omega) 0 (by omega)) (va_cwS 2 hts gL_law_L_cell rfl rfl rfl (by decide +kernel) ⟨Nat.le_of_ble_eq_true rfl, Nat.le_of_ble_eq_true rfl⟩) (m_preC hX hbl hS (hK.sub [] rfl)) rfl rfl hl.1 rfl (lv_room (Nat.le_of_ble_eq_true rfl)) dL_law_24 ⟨Nat.le_of_ble_eq_true rfl, Nat.le_of_ble_eq_true rfl⟩) (fun r24 _ H locs q24 hK2 hP hD hS => ?_)
  have hP : va_P (dC, dI) vwCl [(ad 0, .inr (1, [.int (nI w), .int (nI h), .ref (ad 1), .ref (ad 2), .ref (ad 3), .ref (ad 4), .ref (ad 5), .int 0])), (ad 1, .inl (tc 1, (w * h), .inl (fun _ => 0))), (ad 2, .inl (tc 2, (w * h), .inl (fun _ => 0))), (ad 3, .inr (0, [.ref (ad 6), .ref (ad 7), .ref (ad 8), .int 1, .int 2, .long 0])), (ad 4, .inl (tc 4, (w * h), .inl (fun _ => 0))), (ad 5, .inl (tc 5, (w * h), .inl (fun _ => 0))), (ad 6, .inl (tc 6, 3, .inl (fun _ => 0))), (ad 7, .inl (tc 7, 3, .inl (fun _ => 0))), (ad 8, .inl (tc 8, 3, .inl (fun _ => 0))), (q18, .inr (2, [.int 0, .int 0, .null, .null, .null, .null, .null, .null]))] H := hP.sub [0, 1, 2, 3, 4, 5, 6, 7, 8, 9] rfl
  have hD : va_D (fun q : Nat => s.heap.size ≤ q) [(ad 0, .inr (1, [.int (nI w), .int (nI h), .ref (ad 1), .ref (ad 2), .ref (ad 3), .ref (ad 4), .ref (ad 5), .int 0])), (ad 1, .inl (tc 1, (w * h), .inl (fun _ => 0))), (ad 2, .inl (tc 2, (w * h), .inl (fun _ => 0))), (ad 3, .inr (0, [.ref (ad 6), .ref (ad 7), .ref (ad 8), .int 1, .int 2, .long 0])), (ad 4, .inl (tc 4, (w * h), .inl (fun _ => 0))), (ad 5, .inl (tc 5, (w * h), .inl (fun _ => 0))), (ad 6, .inl (tc 6, 3, .inl (fun _ => 0))), (ad 7, .inl (tc 7, 3, .inl (fun _ => 0))), (ad 8, .inl (tc 8, 3, .inl (fun _ => 0))), (q18, .inr (2, [.int 0, .int 0, .null, .null, .null, .null, .null, .null]))] := hD.sub [0, 1, 2, 3, 4, 5, 6, 7, 8, 9] (by decide) rfl
  refine lv_aload_n hx hb dL_law_27 rfl (lv_at hl 1 rfl) ?_
  refine lv_iconst (v := 1) hx hb dL_law_28 (by decide) ?_
  refine lv_topi (fun zz ezz => ?_)
  obtain rfl : zz = nI 1 := ezz.trans (rfl)
  refine m_calli (cs := []) (wr := [(ad 0, .inr (1, [.int (nI w), .int (nI h), .ref (ad 1), .ref (ad 2), .ref (ad 3), .ref (ad 4), .ref (ad 5), .int 0])), (ad 1, .inl (tc 1, (w * h), .inl (fun _ => 0))), (ad 2, .inl (tc 2, (w * h), .inl (fun _ => 0))), (ad 3, .inr (0, [.ref (ad 6), .ref (ad 7), .ref (ad 8), .int 1, .int 2, .long 0])), (ad 4, .inl (tc 4, (w * h), .inl (fun _ => 0))), (ad 5, .inl (tc 5, (w * h), .inl (fun _ => 0))), (ad 6, .inl (tc 6, 3, .inl (fun _ => 0))), (ad 7, .inl (tc 7, 3, .inl (fun _ => 0))), (ad 8, .inl (tc 8, 3, .inl (fun _ => 0))), (q18, .inr (2, [.int 0, .int 0, .null, .null, .null, .null, .null, .null]))]) hP hD hS hA [] [0, 1, 2, 3, 4, 5, 6, 7, 8, 9] rfl rfl (by decide) (by decide) (va_runS (As := [.ref b, .int (nI 1)]) (rest := [.int r24, .ref q18, .ref q18]) ⟨hx, hb, hml, hown, hts⟩ (c_L_cell l dC dI _ b L xs (by omega) 1 (by omega)) (va_cwS 2 hts gL_law_L_cell rfl rfl rfl (by decide +kernel) ⟨Nat.le_of_ble_eq_true rfl, Nat.le_of_ble_eq_true rfl⟩) (m_preC hX hbl hS (hK.sub [] rfl)) rfl rfl hl.1 rfl (lv_room (Nat.le_of_ble_eq_true rfl)) dL_law_29 ⟨Nat.le_of_ble_eq_true rfl, Nat.le_of_ble_eq_true rfl⟩) (fun r29 _ H locs q29 hK2 hP hD hS => ?_)
  have hP : va_P (dC, dI) vwCl [(ad 0, .inr (1, [.int (nI w), .int (nI h), .ref (ad 1), .ref (ad 2), .ref (ad 3), .ref (ad 4), .ref (ad 5), .int 0])), (ad 1, .inl (tc 1, (w * h), .inl (fun _ => 0))), (ad 2, .inl (tc 2, (w * h), .inl (fun _ => 0))), (ad 3, .inr (0, [.ref (ad 6), .ref (ad 7), .ref (ad 8), .int 1, .int 2, .long 0])), (ad 4, .inl (tc 4, (w * h), .inl (fun _ => 0))), (ad 5, .inl (tc 5, (w * h), .inl (fun _ => 0))), (ad 6, .inl (tc 6, 3, .inl (fun _ => 0))), (ad 7, .inl (tc 7, 3, .inl (fun _ => 0))), (ad 8, .inl (tc 8, 3, .inl (fun _ => 0))), (q18, .inr (2, [.int 0, .int 0, .null, .null, .null, .null, .null, .null]))] H := hP.sub [0, 1, 2, 3, 4, 5, 6, 7, 8, 9] rfl
  have hD : va_D (fun q : Nat => s.heap.size ≤ q) [(ad 0, .inr (1, [.int (nI w), .int (nI h), .ref (ad 1), .ref (ad 2), .ref (ad 3), .ref (ad 4), .ref (ad 5), .int 0])), (ad 1, .inl (tc 1, (w * h), .inl (fun _ => 0))), (ad 2, .inl (tc 2, (w * h), .inl (fun _ => 0))), (ad 3, .inr (0, [.ref (ad 6), .ref (ad 7), .ref (ad 8), .int 1, .int 2, .long 0])), (ad 4, .inl (tc 4, (w * h), .inl (fun _ => 0))), (ad 5, .inl (tc 5, (w * h), .inl (fun _ => 0))), (ad 6, .inl (tc 6, 3, .inl (fun _ => 0))), (ad 7, .inl (tc 7, 3, .inl (fun _ => 0))), (ad 8, .inl (tc 8, 3, .inl (fun _ => 0))), (q18, .inr (2, [.int 0, .int 0, .null, .null, .null, .null, .null, .null]))] := hD.sub [0, 1, 2, 3, 4, 5, 6, 7, 8, 9] (by decide) rfl
  refine m_callvt (cs := [(q18, .inr (2, [.int 0, .int 0, .null, .null, .null, .null, .null, .null]))]) (wr := [(ad 0, .inr (1, [.int (nI w), .int (nI h), .ref (ad 1), .ref (ad 2), .ref (ad 3), .ref (ad 4), .ref (ad 5), .int 0])), (ad 1, .inl (tc 1, (w * h), .inl (fun _ => 0))), (ad 2, .inl (tc 2, (w * h), .inl (fun _ => 0))), (ad 3, .inr (0, [.ref (ad 6), .ref (ad 7), .ref (ad 8), .int 1, .int 2, .long 0])), (ad 4, .inl (tc 4, (w * h), .inl (fun _ => 0))), (ad 5, .inl (tc 5, (w * h), .inl (fun _ => 0))), (ad 6, .inl (tc 6, 3, .inl (fun _ => 0))), (ad 7, .inl (tc 7, 3, .inl (fun _ => 0))), (ad 8, .inl (tc 8, 3, .inl (fun _ => 0)))]) hP hD hS hA [9] [0, 1, 2, 3, 4, 5, 6, 7, 8] rfl rfl (by decide) (by decide) (va_runI (As := [.int r24, .int r29]) (rest := [.ref q18]) ⟨hx, hb, hml, hown, hts⟩ (c_X2_init l dC dI _ q18 r24 r29) (cwI 2 hts gL_law_X2_init rfl rfl rfl (hts (.initialized RX2) (by decide +kernel)) (hts (.methodLink RL 20 yX2_init) (by decide +kernel)) (hts (.instanceMethod yX2_init) (by decide +kernel)) rfl (by decide +kernel) ⟨Nat.le_of_ble_eq_true rfl, Nat.le_of_ble_eq_true rfl⟩) (m_preS (hP.sub [9] rfl) (hK.sub [] rfl) (hD.sub [9] (by decide) rfl) hN) rfl rfl hl.1 rfl (lv_room (Nat.le_of_ble_eq_true rfl)) dL_law_32 ⟨Nat.le_of_ble_eq_true rfl, Nat.le_of_ble_eq_true rfl⟩) (fun u32 H locs q32 hK2 hP hD hS => ?_)
  obtain ⟨am, tm, w', h'⟩ := u32
  have hK := hK.app hK2
  have hK : va_K (dC, dI) vwCl [(tc 1, .int), (tc 2, .int), (tc 4, .boolean), (tc 5, .int), (tc 6, .int), (tc 7, .int), (tc 8, .int), (tm 1, .int), (tm 2, .int), (tm 3, .int), (tm 4, .int), (tm 5, .int), (tm 6, .boolean)] s := hK
  have hP : va_P (dC, dI) vwCl [(ad 0, .inr (1, [.int (nI w), .int (nI h), .ref (ad 1), .ref (ad 2), .ref (ad 3), .ref (ad 4), .ref (ad 5), .int 0])), (ad 1, .inl (tc 1, (w * h), .inl (fun _ => 0))), (ad 2, .inl (tc 2, (w * h), .inl (fun _ => 0))), (ad 3, .inr (0, [.ref (ad 6), .ref (ad 7), .ref (ad 8), .int 1, .int 2, .long 0])), (ad 4, .inl (tc 4, (w * h), .inl (fun _ => 0))), (ad 5, .inl (tc 5, (w * h), .inl (fun _ => 0))), (ad 6, .inl (tc 6, 3, .inl (fun _ => 0))), (ad 7, .inl (tc 7, 3, .inl (fun _ => 0))), (ad 8, .inl (tc 8, 3, .inl (fun _ => 0))), (am 0, .inr (2, [.int (nI w'), .int (nI h'), .ref (am 1), .ref (am 2), .ref (am 3), .ref (am 4), .ref (am 5), .ref (am 6)])), (am 1, .inl (tm 1, 576, .inl (fun _ => 0))), (am 2, .inl (tm 2, 576, .inl (fun _ => 0))), (am 3, .inl (tm 3, 3, .inl (fun _ => 0))), (am 4, .inl (tm 4, 3, .inl (fun _ => 0))), (am 5, .inl (tm 5, 3, .inl (fun _ => 0))), (am 6, .inl (tm 6, 576, .inl (fun _ => 0)))] H := hP.sub [0, 1, 2, 3, 4, 5, 6, 7, 8, 9, 10, 11, 12, 13, 14, 15] rfl
  have hD : va_D (fun q : Nat => s.heap.size ≤ q) [(ad 0, .inr (1, [.int (nI w), .int (nI h), .ref (ad 1), .ref (ad 2), .ref (ad 3), .ref (ad 4), .ref (ad 5), .int 0])), (ad 1, .inl (tc 1, (w * h), .inl (fun _ => 0))), (ad 2, .inl (tc 2, (w * h), .inl (fun _ => 0))), (ad 3, .inr (0, [.ref (ad 6), .ref (ad 7), .ref (ad 8), .int 1, .int 2, .long 0])), (ad 4, .inl (tc 4, (w * h), .inl (fun _ => 0))), (ad 5, .inl (tc 5, (w * h), .inl (fun _ => 0))), (ad 6, .inl (tc 6, 3, .inl (fun _ => 0))), (ad 7, .inl (tc 7, 3, .inl (fun _ => 0))), (ad 8, .inl (tc 8, 3, .inl (fun _ => 0))), (am 0, .inr (2, [.int (nI w'), .int (nI h'), .ref (am 1), .ref (am 2), .ref (am 3), .ref (am 4), .ref (am 5), .ref (am 6)])), (am 1, .inl (tm 1, 576, .inl (fun _ => 0))), (am 2, .inl (tm 2, 576, .inl (fun _ => 0))), (am 3, .inl (tm 3, 3, .inl (fun _ => 0))), (am 4, .inl (tm 4, 3, .inl (fun _ => 0))), (am 5, .inl (tm 5, 3, .inl (fun _ => 0))), (am 6, .inl (tm 6, 576, .inl (fun _ => 0)))] := hD.sub [0, 1, 2, 3, 4, 5, 6, 7, 8, 9, 10, 11, 12, 13, 14, 15] (by decide) rfl
  refine W.widen (k := 16) (n := 4072) (by omega) (by omega) ?_
  obtain ⟨a1, sW2, sH2⟩ := q32
  have a1 : am 0 = q18 := a1
  have sW2 : SIDE r24 w' := sW2
  have sH2 : SIDE r29 h' := sH2
  rw [← a1]
  have e24 : r24 = r6 := by rw [q6, q24]
  have e29 : r29 = r11 := by rw [q11, q29]
  rw [e24] at sW2
  rw [e29] at sH2
  have ew : w' = w := SIDE_eq sW2 sW
  have eh : h' = h := SIDE_eq sH2 sH
  rw [ew, eh] at hP hD
  refine lv_astore_n (lv' := [(2, .ref (am 0)), (1, .ref (ad 0)), (0, .ref b)]) hx hb dL_law_35 rfl hl (by decide) rfl (fun ls hl => ?_)
  refine lv_iconst (v := 2) hx hb dL_law_36 (by decide) ?_
  refine lv_topi (fun zz ezz => ?_)
  obtain rfl : zz = nI 2 := ezz.trans (rfl)
  refine lv_istore_n (lv' := [(3, .int (nI 2)), (2, .ref (am 0)), (1, .ref (ad 0)), (0, .ref b)]) hx hb dL_law_37 rfl hl (by decide) rfl (fun ls hl => ?_)
  have bw := SIDE_b sW
  have bh := SIDE_b sH
  have hf0 : facOK (fun _ => 0) (fun _ => 0) 1 2 0 := Or.inr ⟨by decide +kernel, rfl, rfl, by decide +kernel⟩
  exact law_loop hL C0 hN (L + 3) 2 (by omega) (by omega) ad am tc tm w h 0 1 2 0 (fun _ => 0) (fun _ => 0) (fun _ => 0) (fun _ => 0) (fun _ => 0) (fun _ => 0) (fun _ => 0) (fun _ => 0) (fun _ => 0) (fun _ => 0) ⟨bw.1, bw.2, bh.1, bh.2⟩ (fun k _ => ⟨show (0 : Int32).toInt.natAbs ≤ 16384 from (by decide), show (0 : Int32).toInt.natAbs ≤ 16384 from (by decide)⟩) (fun k _ => ⟨show 0 ≤ (0 : Int32).toInt from (by decide), show (0 : Int32).toInt ≤ 32768 from (by decide)⟩) hf0 (fun _ _ => rfl) (fun _ _ => rfl) H locs (hK.sub [0, 1, 2, 3, 4, 5, 6, 7, 8, 9, 10, 11, 12] rfl) (hP.sub [0, 1, 2, 3, 4, 5, 6, 7, 8, 9, 10, 11, 12, 13, 14, 15] rfl) (hD.sub [0, 1, 2, 3, 4, 5, 6, 7, 8, 9, 10, 11, 12, 13, 14, 15] (by decide) rfl) hS ls (lv_sub hl [3, 2, 1, 0] rfl)

