set_option maxHeartbeats 1000000 in
set_option maxRecDepth 100000 in
/-- count -/
theorem c_X2_count (l : Launch) (dC : Nat → ClassId) (dI : Nat → Nat → Nat) (sz : Nat) (am : Nat → Nat) (tm : Nat → ClassId) (w h : Nat) (mc : Nat → Int32) (hw1 : 1 ≤ w) (hw2 : w ≤ 24) (hh1 : 1 ≤ h) (hh2 : h ≤ 24) (c : Int32) : Met l yX2_count wsX2_count ({ frames := 0, cells := 0, slots := 0, locals := 0 }) (mP (dC, dI) vwCl [(tm 1, .int)] [(am 0, .inr (2, [.int (nI w), .int (nI h), .ref (am 1), .ref (am 2), .ref (am 3), .ref (am 4), .ref (am 5), .ref (am 6)])), (am 1, .inl (tm 1, 576, .inl mc))] sz [.ref (am 0), .int c]) (va_Qi (fun (r : Int32) (u : Unit) => r = nI (cnt (fun i => ab w mc i = c) (w * h))) (mB (dC, dI) vwCl [(tm 1, .int)] (va_A [(am 0, .inr (2, [.int (nI w), .int (nI h), .ref (am 1), .ref (am 2), .ref (am 3), .ref (am 4), .ref (am 5), .ref (am 6)])), (am 1, .inl (tm 1, 576, .inl mc))] sz) (fun u => [(am 0, .inr (2, [.int (nI w), .int (nI h), .ref (am 1), .ref (am 2), .ref (am 3), .ref (am 4), .ref (am 5), .ref (am 6)])), (am 1, .inl (tm 1, 576, .inl mc))])) (va_A [(am 0, .inr (2, [.int (nI w), .int (nI h), .ref (am 1), .ref (am 2), .ref (am 3), .ref (am 4), .ref (am 5), .ref (am 6)])), (am 1, .inl (tm 1, 576, .inl mc))] sz)) 0 0 (va_A [(am 0, .inr (2, [.int (nI w), .int (nI h), .ref (am 1), .ref (am 2), .ref (am 3), .ref (am 4), .ref (am 5), .ref (am 6)])), (am 1, .inl (tm 1, 576, .inl mc))] sz) := by
  refine Met.ofW (cc := cX2_count) (maxL := 5) (ret := (some .int)) (by decide) rfl ?_
  intro p e s m args below meth cD s₁ B hml hv
  obtain ⟨rfl, hsz, hP, hK, hD0, hN⟩ := hv
  have hx := B.exec
  have hb := B.bytes
  have hr := B.returns
  have hts := atoms_spec (ws := wsX2_count) B.pre
  have hown : s.vm.findClass RX2 = some m.cls := findClass_of_methodNamed B.named
  have hlocks := B.notSynchronized
  subst hsz
  have hD := hD0.self (sz := s.heap.size)
  generalize hAe : va_A [(am 0, .inr (2, [.int (nI w), .int (nI h), .ref (am 1), .ref (am 2), .ref (am 3), .ref (am 4), .ref (am 5), .ref (am 6)])), (am 1, .inl (tm 1, 576, .inl mc))] s.heap.size = A at hD ⊢
  have hA : ∀ q : Nat, s.heap.size ≤ q → A q := fun q h => by rw [← hAe]; exact Or.inr h
  have hS : va_S A s.heap s.heap [] := va_S.rf
  have hP : va_P (dC, dI) vwCl [(am 0, .inr (2, [.int (nI w), .int (nI h), .ref (am 1), .ref (am 2), .ref (am 3), .ref (am 4), .ref (am 5), .ref (am 6)])), (am 1, .inl (tm 1, 576, .inl mc))] s.heap := hP
  have hl := lv_entry ([.ref (am 0), .int c]) (n := 5) (Nat.le_of_ble_eq_true rfl)
  rw [lg_entry_eq]
  generalize (lg_sl ([.ref (am 0), .int c]) ++ List.replicate (5 - (lg_sl ([.ref (am 0), .int c])).length) Slot.unset).toArray = ls at hl ⊢
  have hl : lv_has ls 5 [(0, .ref (am 0)), (1, .int c)] := hl
  refine lv_iconst (v := 0) hx hb dX2_count_0 (by decide) ?_
  refine lv_topi (fun zz ezz => ?_)
  obtain rfl : zz = nI 0 := ezz.trans (nI_0.symm)
  refine lv_istore_n (lv' := [(2, .int (nI 0)), (0, .ref (am 0)), (1, .int c)]) hx hb dX2_count_1 rfl hl (by decide) rfl (fun ls hl => ?_)
  refine lv_iconst (v := 0) hx hb dX2_count_2 (by decide) ?_
  refine lv_topi (fun zz ezz => ?_)
  obtain rfl : zz = nI 0 := ezz.trans (nI_0.symm)
  refine lv_istore_n (lv' := [(3, .int (nI 0)), (2, .int (nI 0)), (0, .ref (am 0)), (1, .int c)]) hx hb dX2_count_3 rfl hl (by decide) rfl (fun ls hl => ?_)
  have outer : ∀ (n : Nat) (y : Nat) (k : Nat), y ≤ h → k = cnt (fun i => ab w mc i = c) (y * w) → h + 1 ≤ y + n → ∀ (H : Heap) (locs : List Loc), va_P (dC, dI) vwCl [(am 0, .inr (2, [.int (nI w), .int (nI h), .ref (am 1), .ref (am 2), .ref (am 3), .ref (am 4), .ref (am 5), .ref (am 6)])), (am 1, .inl (tm 1, 576, .inl mc))] H → va_D A [(am 0, .inr (2, [.int (nI w), .int (nI h), .ref (am 1), .ref (am 2), .ref (am 3), .ref (am 4), .ref (am 5), .ref (am 6)])), (am 1, .inl (tm 1, 576, .inl mc))] → va_S A s.heap H locs → ∀ (ls : Array Slot), lv_has ls 5 [(0, .ref (am 0)), (1, .int c), (2, .int (nI k)), (3, .int (nI y))] → W p l e (headSpec wsX2_count { frames := 0, cells := 0, slots := 0, locals := 0 }).room s m [.ref (am 0), .int c].toArray below meth cD H locs 0 0 (MQ below (va_Qi (fun (r : Int32) (u : Unit) => r = nI (cnt (fun i => ab w mc i = c) (w * h))) (mB (dC, dI) vwCl [(tm 1, .int)] A (fun u => [(am 0, .inr (2, [.int (nI w), .int (nI h), .ref (am 1), .ref (am 2), .ref (am 3), .ref (am 4), .ref (am 5), .ref (am 6)])), (am 1, .inl (tm 1, 576, .inl mc))])) A) [.ref (am 0), .int c].toArray s 0 0 A) (F0 m 4 ls []) := by
    intro n
    induction n with
    | zero => intro y k hy hk hm; exfalso; omega
    | succ n ih =>
      intro y k hy hk hm H locs hP hD hS ls hl
      refine lv_iload_n hx hb dX2_count_4 rfl (lv_at hl 3 rfl) ?_
      refine lv_aload_n hx hb dX2_count_5 rfl (lv_at hl 0 rfl) ?_
      refine va_get (D := (dC, dI)) (ci := 2) (v := .int (nI h)) (C := RX2) (T := TX2) (N := 8) hx hb hts (by decide +kernel) hown hK hP 0 rfl rfl 1 (by decide) (hts (.fieldLink RX2 33 "TriangleRasterModel" "h" "I") (by decide +kernel)) (fun _ h9 => h9) rfl dX2_count_6 ?_
      refine lv_icmp_ge (tgt := 60) hx hb dX2_count_9 (by decide) (fun c9 => ?_) (fun c9 => ?_)
      · refine lv_iload_n hx hb dX2_count_60 rfl (lv_at hl 2 rfl) ?_
        have hP9 := hP.sub (ws' := [(am 0, .inr (2, [.int (nI w), .int (nI h), .ref (am 1), .ref (am 2), .ref (am 3), .ref (am 4), .ref (am 5), .ref (am 6)])), (am 1, .inl (tm 1, 576, .inl mc))]) [0, 1] rfl
        have hD9 := hD.sub (ws' := [(am 0, .inr (2, [.int (nI w), .int (nI h), .ref (am 1), .ref (am 2), .ref (am 3), .ref (am 4), .ref (am 5), .ref (am 6)])), (am 1, .inl (tm 1, 576, .inl mc))]) [0, 1] (by decide) rfl
        exact W.iret (v := (nI k)) hx hb hr (fun t ht hW => ⟨⟨nI k, (), rfl, by have hyh : y = h := (by rw [nI_leI (by omega) (by omega)] at c9; omega); rw [hk, hyh, Nat.mul_comm h w], by rw [ht]; exact hP9, va_K.moved hW.alike hK, hD9⟩, hS.F ht⟩) hS.2.2 dX2_count_61
      · have hy0 : y < h := by rw [nI_leI (by omega) (by omega)] at c9; omega
        refine lv_iconst (v := 0) hx hb dX2_count_12 (by decide) ?_
        refine lv_topi (fun zz ezz => ?_)
        obtain rfl : zz = nI 0 := ezz.trans (nI_0.symm)
        refine lv_istore (lv' := [(4, .int (nI 0)), (0, .ref (am 0)), (1, .int c), (2, .int (nI k)), (3, .int (nI y))]) hx hb dX2_count_13 hl (by decide) rfl (fun ls hl => ?_)
        have inner : ∀ (n : Nat) (x : Nat) (k : Nat), x ≤ w → k = cnt (fun i => ab w mc i = c) (y * w + x) → w + 1 ≤ x + n → ∀ (H : Heap) (locs : List Loc), va_P (dC, dI) vwCl [(am 0, .inr (2, [.int (nI w), .int (nI h), .ref (am 1), .ref (am 2), .ref (am 3), .ref (am 4), .ref (am 5), .ref (am 6)])), (am 1, .inl (tm 1, 576, .inl mc))] H → va_D A [(am 0, .inr (2, [.int (nI w), .int (nI h), .ref (am 1), .ref (am 2), .ref (am 3), .ref (am 4), .ref (am 5), .ref (am 6)])), (am 1, .inl (tm 1, 576, .inl mc))] → va_S A s.heap H locs → ∀ (ls : Array Slot), lv_has ls 5 [(0, .ref (am 0)), (1, .int c), (2, .int (nI k)), (3, .int (nI y)), (4, .int (nI x))] → W p l e (headSpec wsX2_count { frames := 0, cells := 0, slots := 0, locals := 0 }).room s m [.ref (am 0), .int c].toArray below meth cD H locs 0 0 (MQ below (va_Qi (fun (r : Int32) (u : Unit) => r = nI (cnt (fun i => ab w mc i = c) (w * h))) (mB (dC, dI) vwCl [(tm 1, .int)] A (fun u => [(am 0, .inr (2, [.int (nI w), .int (nI h), .ref (am 1), .ref (am 2), .ref (am 3), .ref (am 4), .ref (am 5), .ref (am 6)])), (am 1, .inl (tm 1, 576, .inl mc))])) A) [.ref (am 0), .int c].toArray s 0 0 A) (F0 m 15 ls []) := by
          intro n
          induction n with
          | zero => intro x k hx9 hk hm; exfalso; omega
          | succ n ih2 =>
            intro x k hx9 hk hm H locs hP hD hS ls hl
            refine lv_iload hx hb dX2_count_15 (lv_at hl 4 rfl) ?_
            refine lv_aload_n hx hb dX2_count_17 rfl (lv_at hl 0 rfl) ?_
            refine va_get (D := (dC, dI)) (ci := 2) (v := .int (nI w)) (C := RX2) (T := TX2) (N := 8) hx hb hts (by decide +kernel) hown hK hP 0 rfl rfl 0 (by decide) (hts (.fieldLink RX2 29 "TriangleRasterModel" "w" "I") (by decide +kernel)) (fun _ h9 => h9) rfl dX2_count_18 ?_
            refine lv_icmp_ge (tgt := 54) hx hb dX2_count_21 (by decide) (fun c21 => ?_) (fun c21 => ?_)
            · have hxw : x = w := by rw [nI_leI (by omega) (by omega)] at c21; omega
              refine lv_iinc (v := nI (y + 1)) (lv' := [(3, .int (nI (y + 1))), (0, .ref (am 0)), (1, .int c), (2, .int (nI k)), (4, .int (nI x))]) hx hb dX2_count_54 hl (k := 3) rfl (nI_add _ 1) (by decide) rfl (fun ls hl => ?_)
              refine lv_goto (tgt := 4) hx hb dX2_count_57 (by decide) ?_
              exact ih (y + 1) k (by omega) (by rw [hk, Nat.add_mul, Nat.one_mul, hxw]) (by omega) _ _ (hP.sub [0, 1] rfl) (hD.sub [0, 1] (by decide) rfl) hS ls (lv_sub hl [1, 2, 3, 0] rfl)
            · have hx0 : x < w := by rw [nI_leI (by omega) (by omega)] at c21; omega
              refine lv_iload_n hx hb dX2_count_24 rfl (lv_at hl 2 rfl) ?_
              refine lv_aload_n hx hb dX2_count_25 rfl (lv_at hl 0 rfl) ?_
              refine va_get (D := (dC, dI)) (ci := 2) (v := .ref (am 1)) (C := RX2) (T := TX2) (N := 8) hx hb hts (by decide +kernel) hown hK hP 0 rfl rfl 2 (by decide) (hts (.fieldLink RX2 7 "TriangleRasterModel" "colours" "[I") (by decide +kernel)) (fun _ h9 => h9) rfl dX2_count_26 ?_
              refine lv_bipush (v := 24) hx hb dX2_count_29 (by decide) ?_
              refine lv_iload_n hx hb dX2_count_31 rfl (lv_at hl 3 rfl) ?_
              refine lv_imul hx hb dX2_count_32 ?_
              refine lv_iload hx hb dX2_count_33 (lv_at hl 4 rfl) ?_
              refine lv_iadd hx hb dX2_count_35 ?_
              refine lv_topi (fun zz ezz => ?_)
              obtain rfl : zz = nI (24 * y + x) := ezz.trans (ix24 _ _)
              refine va_iald hx hb hK hP 1 0 rfl rfl (vp_in_nI (by omega) (by omega)) dX2_count_36 ?_
              refine lv_topi (fun v36 ev36 => ?_)
              rw [nI_clamp (by omega), ← ab_at (f := mc) hx0] at ev36
              refine lv_iload_n hx hb dX2_count_37 rfl (lv_at hl 1 rfl) ?_
              refine lv_icmp_ne (tgt := 45) hx hb dX2_count_38 (by decide) (fun c38 => ?_) (fun c38 => ?_)
              · have cc : ¬ (fun i => ab w mc i = c) (y * w + x) := fun q => c38 (ev36.trans q)
                refine lv_iconst (v := 0) hx hb dX2_count_45 (by decide) ?_
                refine lv_iadd hx hb dX2_count_46 ?_
                refine lv_topi (fun zz ezz => ?_)
                obtain rfl : zz = nI k := ezz.trans (by rw [← nI_0, nI_add]; rfl)
                refine lv_istore_n (lv' := [(2, .int (nI k)), (0, .ref (am 0)), (1, .int c), (3, .int (nI y)), (4, .int (nI x))]) hx hb dX2_count_47 rfl hl (by decide) rfl (fun ls hl => ?_)
                refine lv_iinc (v := nI (x + 1)) (lv' := [(4, .int (nI (x + 1))), (2, .int (nI k)), (0, .ref (am 0)), (1, .int c), (3, .int (nI y))]) hx hb dX2_count_48 hl (k := 4) rfl (nI_add _ 1) (by decide) rfl (fun ls hl => ?_)
                refine lv_goto (tgt := 15) hx hb dX2_count_51 (by decide) ?_
                exact ih2 (x + 1) k (by omega) (by rw [hk, ← Nat.add_assoc, cnt_no cc]) (by omega) _ _ (hP.sub [0, 1] rfl) (hD.sub [0, 1] (by decide) rfl) hS ls (lv_sub hl [2, 3, 1, 4, 0] rfl)
              · have cc : (fun i => ab w mc i = c) (y * w + x) := ev36.symm.trans c38
                refine lv_iconst (v := 1) hx hb dX2_count_41 (by decide) ?_
                refine lv_goto (tgt := 46) hx hb dX2_count_42 (by decide) ?_
                refine lv_iadd hx hb dX2_count_46 ?_
                refine lv_topi (fun zz ezz => ?_)
                obtain rfl : zz = nI (k + 1) := ezz.trans (nI_1 k)
                refine lv_istore_n (lv' := [(2, .int (nI (k + 1))), (0, .ref (am 0)), (1, .int c), (3, .int (nI y)), (4, .int (nI x))]) hx hb dX2_count_47 rfl hl (by decide) rfl (fun ls hl => ?_)
                refine lv_iinc (v := nI (x + 1)) (lv' := [(4, .int (nI (x + 1))), (2, .int (nI (k + 1))), (0, .ref (am 0)), (1, .int c), (3, .int (nI y))]) hx hb dX2_count_48 hl (k := 4) rfl (nI_add _ 1) (by decide) rfl (fun ls hl => ?_)
                refine lv_goto (tgt := 15) hx hb dX2_count_51 (by decide) ?_
                exact ih2 (x + 1) (k + 1) (by omega) (by rw [hk, ← Nat.add_assoc, cnt_yes cc]) (by omega) _ _ (hP.sub [0, 1] rfl) (hD.sub [0, 1] (by decide) rfl) hS ls (lv_sub hl [2, 3, 1, 4, 0] rfl)
        exact inner (w + 1) 0 k (Nat.zero_le _) hk (by omega) _ _ (hP.sub [0, 1] rfl) (hD.sub [0, 1] (by decide) rfl) hS ls (lv_sub hl [1, 2, 3, 4, 0] rfl)
  exact outer (h + 1) 0 0 (Nat.zero_le _) (by rw [Nat.zero_mul]; rfl) (by omega) _ _ (hP.sub [0, 1] rfl) (hD.sub [0, 1] (by decide) rfl) hS ls (lv_sub hl [2, 3, 1, 0] rfl)

set_option maxHeartbeats 1000000 in
set_option maxRecDepth 100000 in
/-- triangle -/
theorem c_X2_triangle (l : Launch) (dC : Nat → ClassId) (dI : Nat → Nat → Nat) (sz : Nat) (am : Nat → Nat) (tm : Nat → ClassId) (w h : Nat) (mc md vx vy vz : Nat → Int32) (hw1 : 1 ≤ w) (hw2 : w ≤ 24) (hh1 : 1 ≤ h) (hh2 : h ≤ 24) (hv : vb vx vy) (hz : zb vz) (c : Int32) : Met l yX2_triangle wsX2_triangle ({ frames := 3, cells := 0, slots := 0, locals := 82 }) (mP (dC, dI) vwCl [(tm 1, .int), (tm 2, .int), (tm 3, .int), (tm 4, .int), (tm 5, .int)] [(am 0, .inr (2, [.int (nI w), .int (nI h), .ref (am 1), .ref (am 2), .ref (am 3), .ref (am 4), .ref (am 5), .ref (am 6)])), (am 1, .inl (tm 1, 576, .inl mc)), (am 2, .inl (tm 2, 576, .inl md)), (am 3, .inl (tm 3, 3, .inl vx)), (am 4, .inl (tm 4, 3, .inl vy)), (am 5, .inl (tm 5, 3, .inl vz))] sz [.ref (am 0), .int c]) (va_Qi (fun (r : Int32) (u : (Nat → Int32) × (Nat → Int32)) => r = nI (cnt (TPi w vx vy vz (ab w md)) (w * h)) ∧ TIn w (w * h) vx vy vz (ab w mc) (ab w md) c (w * h) (ab w u.1) (ab w u.2)) (mB (dC, dI) vwCl [(tm 1, .int), (tm 2, .int), (tm 3, .int), (tm 4, .int), (tm 5, .int)] (va_A [(am 0, .inr (2, [.int (nI w), .int (nI h), .ref (am 1), .ref (am 2), .ref (am 3), .ref (am 4), .ref (am 5), .ref (am 6)])), (am 1, .inl (tm 1, 576, .inl mc)), (am 2, .inl (tm 2, 576, .inl md)), (am 3, .inl (tm 3, 3, .inl vx)), (am 4, .inl (tm 4, 3, .inl vy)), (am 5, .inl (tm 5, 3, .inl vz))] sz) (fun u => [(am 0, .inr (2, [.int (nI w), .int (nI h), .ref (am 1), .ref (am 2), .ref (am 3), .ref (am 4), .ref (am 5), .ref (am 6)])), (am 1, .inl (tm 1, 576, .inl u.1)), (am 2, .inl (tm 2, 576, .inl u.2)), (am 3, .inl (tm 3, 3, .inl vx)), (am 4, .inl (tm 4, 3, .inl vy)), (am 5, .inl (tm 5, 3, .inl vz))])) (va_A [(am 0, .inr (2, [.int (nI w), .int (nI h), .ref (am 1), .ref (am 2), .ref (am 3), .ref (am 4), .ref (am 5), .ref (am 6)])), (am 1, .inl (tm 1, 576, .inl mc)), (am 2, .inl (tm 2, 576, .inl md)), (am 3, .inl (tm 3, 3, .inl vx)), (am 4, .inl (tm 4, 3, .inl vy)), (am 5, .inl (tm 5, 3, .inl vz))] sz)) 0 0 (va_A [(am 0, .inr (2, [.int (nI w), .int (nI h), .ref (am 1), .ref (am 2), .ref (am 3), .ref (am 4), .ref (am 5), .ref (am 6)])), (am 1, .inl (tm 1, 576, .inl mc)), (am 2, .inl (tm 2, 576, .inl md)), (am 3, .inl (tm 3, 3, .inl vx)), (am 4, .inl (tm 4, 3, .inl vy)), (am 5, .inl (tm 5, 3, .inl vz))] sz) := by
  refine Met.ofW (cc := cX2_triangle) (maxL := 5) (ret := (some .int)) (by decide) rfl ?_
  intro p e s m args below meth cD s₁ B hml hv
  obtain ⟨rfl, hsz, hP, hK, hD0, hN⟩ := hv
  have hx := B.exec
  have hb := B.bytes
  have hr := B.returns
  have hts := atoms_spec (ws := wsX2_triangle) B.pre
  have hown : s.vm.findClass RX2 = some m.cls := findClass_of_methodNamed B.named
  have hlocks := B.notSynchronized
  subst hsz
  have hD := hD0.self (sz := s.heap.size)
  generalize hAe : va_A [(am 0, .inr (2, [.int (nI w), .int (nI h), .ref (am 1), .ref (am 2), .ref (am 3), .ref (am 4), .ref (am 5), .ref (am 6)])), (am 1, .inl (tm 1, 576, .inl mc)), (am 2, .inl (tm 2, 576, .inl md)), (am 3, .inl (tm 3, 3, .inl vx)), (am 4, .inl (tm 4, 3, .inl vy)), (am 5, .inl (tm 5, 3, .inl vz))] s.heap.size = A at hD ⊢
  have hA : ∀ q : Nat, s.heap.size ≤ q → A q := fun q h => by rw [← hAe]; exact Or.inr h
  have hS : va_S A s.heap s.heap [] := va_S.rf
  have hP : va_P (dC, dI) vwCl [(am 0, .inr (2, [.int (nI w), .int (nI h), .ref (am 1), .ref (am 2), .ref (am 3), .ref (am 4), .ref (am 5), .ref (am 6)])), (am 1, .inl (tm 1, 576, .inl mc)), (am 2, .inl (tm 2, 576, .inl md)), (am 3, .inl (tm 3, 3, .inl vx)), (am 4, .inl (tm 4, 3, .inl vy)), (am 5, .inl (tm 5, 3, .inl vz))] s.heap := hP
  have hl := lv_entry ([.ref (am 0), .int c]) (n := 5) (Nat.le_of_ble_eq_true rfl)
  rw [lg_entry_eq]
  generalize (lg_sl ([.ref (am 0), .int c]) ++ List.replicate (5 - (lg_sl ([.ref (am 0), .int c])).length) Slot.unset).toArray = ls at hl ⊢
  have hl : lv_has ls 5 [(0, .ref (am 0)), (1, .int c)] := hl
  have hwh := wh_le hw2 hh2
  refine lv_iconst (v := 0) hx hb dX2_triangle_0 (by decide) ?_
  refine lv_topi (fun zz ezz => ?_)
  obtain rfl : zz = nI 0 := ezz.trans (nI_0.symm)
  refine lv_istore_n (lv' := [(2, .int (nI 0)), (0, .ref (am 0)), (1, .int c)]) hx hb dX2_triangle_1 rfl hl (by decide) rfl (fun ls hl => ?_)
  refine lv_iconst (v := 0) hx hb dX2_triangle_2 (by decide) ?_
  refine lv_topi (fun zz ezz => ?_)
  obtain rfl : zz = nI 0 := ezz.trans (nI_0.symm)
  refine lv_istore_n (lv' := [(3, .int (nI 0)), (2, .int (nI 0)), (0, .ref (am 0)), (1, .int c)]) hx hb dX2_triangle_3 rfl hl (by decide) rfl (fun ls hl => ?_)
  have outer : ∀ (n : Nat) (y : Nat) (k : Nat) (mc' : Nat → Int32) (md' : Nat → Int32), y ≤ h → k = cnt (TPi w vx vy vz (ab w md)) (y * w) → TIn w (w * h) vx vy vz (ab w mc) (ab w md) c (y * w) (ab w mc') (ab w md') → h + 1 ≤ y + n → ∀ (H : Heap) (locs : List Loc), va_P (dC, dI) vwCl [(am 0, .inr (2, [.int (nI w), .int (nI h), .ref (am 1), .ref (am 2), .ref (am 3), .ref (am 4), .ref (am 5), .ref (am 6)])), (am 1, .inl (tm 1, 576, .inl mc')), (am 2, .inl (tm 2, 576, .inl md')), (am 3, .inl (tm 3, 3, .inl vx)), (am 4, .inl (tm 4, 3, .inl vy)), (am 5, .inl (tm 5, 3, .inl vz))] H → va_D A [(am 0, .inr (2, [.int (nI w), .int (nI h), .ref (am 1), .ref (am 2), .ref (am 3), .ref (am 4), .ref (am 5), .ref (am 6)])), (am 1, .inl (tm 1, 576, .inl mc')), (am 2, .inl (tm 2, 576, .inl md')), (am 3, .inl (tm 3, 3, .inl vx)), (am 4, .inl (tm 4, 3, .inl vy)), (am 5, .inl (tm 5, 3, .inl vz))] → va_S A s.heap H locs → ∀ (ls : Array Slot), lv_has ls 5 [(0, .ref (am 0)), (1, .int c), (2, .int (nI k)), (3, .int (nI y))] → W p l e (headSpec wsX2_triangle { frames := 3, cells := 0, slots := 0, locals := 82 }).room s m [.ref (am 0), .int c].toArray below meth cD H locs 0 0 (MQ below (va_Qi (fun (r : Int32) (u : (Nat → Int32) × (Nat → Int32)) => r = nI (cnt (TPi w vx vy vz (ab w md)) (w * h)) ∧ TIn w (w * h) vx vy vz (ab w mc) (ab w md) c (w * h) (ab w u.1) (ab w u.2)) (mB (dC, dI) vwCl [(tm 1, .int), (tm 2, .int), (tm 3, .int), (tm 4, .int), (tm 5, .int)] A (fun u => [(am 0, .inr (2, [.int (nI w), .int (nI h), .ref (am 1), .ref (am 2), .ref (am 3), .ref (am 4), .ref (am 5), .ref (am 6)])), (am 1, .inl (tm 1, 576, .inl u.1)), (am 2, .inl (tm 2, 576, .inl u.2)), (am 3, .inl (tm 3, 3, .inl vx)), (am 4, .inl (tm 4, 3, .inl vy)), (am 5, .inl (tm 5, 3, .inl vz))])) A) [.ref (am 0), .int c].toArray s 0 0 A) (F0 m 4 ls []) := by
    intro n
    induction n with
    | zero => intro y k mc' md' hy hk hI hm; exfalso; omega
    | succ n ih =>
      intro y k mc' md' hy hk hI hm H locs hP hD hS ls hl
      refine lv_iload_n hx hb dX2_triangle_4 rfl (lv_at hl 3 rfl) ?_
      refine lv_aload_n hx hb dX2_triangle_5 rfl (lv_at hl 0 rfl) ?_
      refine va_get (D := (dC, dI)) (ci := 2) (v := .int (nI h)) (C := RX2) (T := TX2) (N := 8) hx hb hts (by decide +kernel) hown hK hP 0 rfl rfl 1 (by decide) (hts (.fieldLink RX2 33 "TriangleRasterModel" "h" "I") (by decide +kernel)) (fun _ h9 => h9) rfl dX2_triangle_6 ?_
      refine lv_icmp_ge (tgt := 103) hx hb dX2_triangle_9 (by decide) (fun c9 => ?_) (fun c9 => ?_)
      · refine lv_iload_n hx hb dX2_triangle_103 rfl (lv_at hl 2 rfl) ?_
        have hP9 := hP.sub (ws' := [(am 0, .inr (2, [.int (nI w), .int (nI h), .ref (am 1), .ref (am 2), .ref (am 3), .ref (am 4), .ref (am 5), .ref (am 6)])), (am 1, .inl (tm 1, 576, .inl mc')), (am 2, .inl (tm 2, 576, .inl md')), (am 3, .inl (tm 3, 3, .inl vx)), (am 4, .inl (tm 4, 3, .inl vy)), (am 5, .inl (tm 5, 3, .inl vz))]) [0, 1, 2, 3, 4, 5] rfl
        have hD9 := hD.sub (ws' := [(am 0, .inr (2, [.int (nI w), .int (nI h), .ref (am 1), .ref (am 2), .ref (am 3), .ref (am 4), .ref (am 5), .ref (am 6)])), (am 1, .inl (tm 1, 576, .inl mc')), (am 2, .inl (tm 2, 576, .inl md')), (am 3, .inl (tm 3, 3, .inl vx)), (am 4, .inl (tm 4, 3, .inl vy)), (am 5, .inl (tm 5, 3, .inl vz))]) [0, 1, 2, 3, 4, 5] (by decide) rfl
        exact W.iret (v := (nI k)) hx hb hr (fun t ht hW => ⟨⟨nI k, (mc', md'), rfl, by have hyh : y = h := (by rw [nI_leI (by omega) (by omega)] at c9; omega); rw [hyh, Nat.mul_comm h w] at hk hI; exact ⟨by rw [hk], hI⟩, by rw [ht]; exact hP9, va_K.moved hW.alike hK, hD9⟩, hS.F ht⟩) hS.2.2 dX2_triangle_104
      · have hy0 : y < h := by rw [nI_leI (by omega) (by omega)] at c9; omega
        refine lv_iconst (v := 0) hx hb dX2_triangle_12 (by decide) ?_
        refine lv_topi (fun zz ezz => ?_)
        obtain rfl : zz = nI 0 := ezz.trans (nI_0.symm)
        refine lv_istore (lv' := [(4, .int (nI 0)), (0, .ref (am 0)), (1, .int c), (2, .int (nI k)), (3, .int (nI y))]) hx hb dX2_triangle_13 hl (by decide) rfl (fun ls hl => ?_)
        have inner : ∀ (n : Nat) (x : Nat) (k : Nat) (mc' : Nat → Int32) (md' : Nat → Int32), x ≤ w → k = cnt (TPi w vx vy vz (ab w md)) (y * w + x) → TIn w (w * h) vx vy vz (ab w mc) (ab w md) c (y * w + x) (ab w mc') (ab w md') → w + 1 ≤ x + n → ∀ (H : Heap) (locs : List Loc), va_P (dC, dI) vwCl [(am 0, .inr (2, [.int (nI w), .int (nI h), .ref (am 1), .ref (am 2), .ref (am 3), .ref (am 4), .ref (am 5), .ref (am 6)])), (am 1, .inl (tm 1, 576, .inl mc')), (am 2, .inl (tm 2, 576, .inl md')), (am 3, .inl (tm 3, 3, .inl vx)), (am 4, .inl (tm 4, 3, .inl vy)), (am 5, .inl (tm 5, 3, .inl vz))] H → va_D A [(am 0, .inr (2, [.int (nI w), .int (nI h), .ref (am 1), .ref (am 2), .ref (am 3), .ref (am 4), .ref (am 5), .ref (am 6)])), (am 1, .inl (tm 1, 576, .inl mc')), (am 2, .inl (tm 2, 576, .inl md')), (am 3, .inl (tm 3, 3, .inl vx)), (am 4, .inl (tm 4, 3, .inl vy)), (am 5, .inl (tm 5, 3, .inl vz))] → va_S A s.heap H locs → ∀ (ls : Array Slot), lv_has ls 5 [(0, .ref (am 0)), (1, .int c), (2, .int (nI k)), (3, .int (nI y)), (4, .int (nI x))] → W p l e (headSpec wsX2_triangle { frames := 3, cells := 0, slots := 0, locals := 82 }).room s m [.ref (am 0), .int c].toArray below meth cD H locs 0 0 (MQ below (va_Qi (fun (r : Int32) (u : (Nat → Int32) × (Nat → Int32)) => r = nI (cnt (TPi w vx vy vz (ab w md)) (w * h)) ∧ TIn w (w * h) vx vy vz (ab w mc) (ab w md) c (w * h) (ab w u.1) (ab w u.2)) (mB (dC, dI) vwCl [(tm 1, .int), (tm 2, .int), (tm 3, .int), (tm 4, .int), (tm 5, .int)] A (fun u => [(am 0, .inr (2, [.int (nI w), .int (nI h), .ref (am 1), .ref (am 2), .ref (am 3), .ref (am 4), .ref (am 5), .ref (am 6)])), (am 1, .inl (tm 1, 576, .inl u.1)), (am 2, .inl (tm 2, 576, .inl u.2)), (am 3, .inl (tm 3, 3, .inl vx)), (am 4, .inl (tm 4, 3, .inl vy)), (am 5, .inl (tm 5, 3, .inl vz))])) A) [.ref (am 0), .int c].toArray s 0 0 A) (F0 m 15 ls []) := by
          intro n
          induction n with
          | zero => intro x k mc' md' hx9 hk hI hm; exfalso; omega
          | succ n ih2 =>
            intro x k mc' md' hx9 hk hI hm H locs hP hD hS ls hl
            refine lv_iload hx hb dX2_triangle_15 (lv_at hl 4 rfl) ?_
            refine lv_aload_n hx hb dX2_triangle_17 rfl (lv_at hl 0 rfl) ?_
            refine va_get (D := (dC, dI)) (ci := 2) (v := .int (nI w)) (C := RX2) (T := TX2) (N := 8) hx hb hts (by decide +kernel) hown hK hP 0 rfl rfl 0 (by decide) (hts (.fieldLink RX2 29 "TriangleRasterModel" "w" "I") (by decide +kernel)) (fun _ h9 => h9) rfl dX2_triangle_18 ?_
            refine lv_icmp_ge (tgt := 97) hx hb dX2_triangle_21 (by decide) (fun c21 => ?_) (fun c21 => ?_)
            · have hxw : x = w := by rw [nI_leI (by omega) (by omega)] at c21; omega
              refine lv_iinc (v := nI (y + 1)) (lv' := [(3, .int (nI (y + 1))), (0, .ref (am 0)), (1, .int c), (2, .int (nI k)), (4, .int (nI x))]) hx hb dX2_triangle_97 hl (k := 3) rfl (nI_add _ 1) (by decide) rfl (fun ls hl => ?_)
              refine lv_goto (tgt := 4) hx hb dX2_triangle_100 (by decide) ?_
              exact ih (y + 1) k mc' md' (by omega) (by rw [hk, Nat.add_mul, Nat.one_mul, hxw]) (by rw [hxw] at hI; rw [Nat.add_mul, Nat.one_mul]; exact hI) (by omega) _ _ (hP.sub [0, 1, 2, 3, 4, 5] rfl) (hD.sub [0, 1, 2, 3, 4, 5] (by decide) rfl) hS ls (lv_sub hl [1, 2, 3, 0] rfl)
            · have hx0 : x < w := by rw [nI_leI (by omega) (by omega)] at c21; omega
              have hlt := row_lt hx0 hy0
              have ex : (nI x).toInt = (x : Int) := nI_toInt (by omega)
              have ey : (nI y).toInt = (y : Int) := nI_toInt (by omega)
              have bx : (nI x).toInt.natAbs ≤ 2000 := by rw [ex]; omega
              have bY : (nI y).toInt.natAbs ≤ 2000 := by rw [ey]; omega
              refine lv_aload_n hx hb dX2_triangle_24 rfl (lv_at hl 0 rfl) ?_
              refine lv_iload hx hb dX2_triangle_25 (lv_at hl 4 rfl) ?_
              refine lv_iload_n hx hb dX2_triangle_27 rfl (lv_at hl 3 rfl) ?_
              refine m_calli (cs := [(am 0, .inr (2, [.int (nI w), .int (nI h), .ref (am 1), .ref (am 2), .ref (am 3), .ref (am 4), .ref (am 5), .ref (am 6)])), (am 3, .inl (tm 3, 3, .inl vx)), (am 4, .inl (tm 4, 3, .inl vy))]) (wr := [(am 1, .inl (tm 1, 576, .inl mc')), (am 2, .inl (tm 2, 576, .inl md')), (am 5, .inl (tm 5, 3, .inl vz))]) hP hD hS hA [0, 3, 4] [1, 2, 5] rfl rfl (by decide) (by decide) (va_runV (As := [.int (nI x), .int (nI y)]) (rest := []) ⟨hx, hb, hml, hown, hts⟩ (c_X2_isCovered l dC dI _ am tm w h vx vy hv (nI x) (nI y) bx bY) (cwV 2 hts gX2_triangle_X2_isCovered rfl rfl rfl (by decide +kernel) ⟨Nat.le_of_ble_eq_true rfl, Nat.le_of_ble_eq_true rfl⟩) (m_preV (ci := 2) (q0 := 0) (hP.sub [0, 3, 4] rfl) (hK.sub [2, 3] rfl) (hD.sub [0, 3, 4] (by decide) rfl) hN rfl rfl) rfl rfl hl.1 rfl (lv_room (Nat.le_of_ble_eq_true rfl)) dX2_triangle_28 ⟨Nat.le_of_ble_eq_true rfl, Nat.le_of_ble_eq_true rfl⟩) (fun r28 _ H locs q28 hK2 hP hD hS => ?_)
              have hP : va_P (dC, dI) vwCl [(am 0, .inr (2, [.int (nI w), .int (nI h), .ref (am 1), .ref (am 2), .ref (am 3), .ref (am 4), .ref (am 5), .ref (am 6)])), (am 1, .inl (tm 1, 576, .inl mc')), (am 2, .inl (tm 2, 576, .inl md')), (am 3, .inl (tm 3, 3, .inl vx)), (am 4, .inl (tm 4, 3, .inl vy)), (am 5, .inl (tm 5, 3, .inl vz))] H := hP.sub [3, 0, 1, 4, 5, 2] rfl
              have hD : va_D A [(am 0, .inr (2, [.int (nI w), .int (nI h), .ref (am 1), .ref (am 2), .ref (am 3), .ref (am 4), .ref (am 5), .ref (am 6)])), (am 1, .inl (tm 1, 576, .inl mc')), (am 2, .inl (tm 2, 576, .inl md')), (am 3, .inl (tm 3, 3, .inl vx)), (am 4, .inl (tm 4, 3, .inl vy)), (am 5, .inl (tm 5, 3, .inl vz))] := hD.sub [3, 0, 1, 4, 5, 2] (by decide) rfl
              refine lv_if_eq (tgt := 91) hx hb dX2_triangle_31 (by decide) (fun c31 => ?_) (fun c31 => ?_)
              · have hT : ¬ TPi w vx vy vz (ab w md) (y * w + x) := fun q => (b01 q28).mp c31 (by rw [ex, ey]; exact ((TPi_at hx0).mp q).1)
                refine lv_iinc (v := nI (x + 1)) (lv' := [(4, .int (nI (x + 1))), (0, .ref (am 0)), (1, .int c), (2, .int (nI k)), (3, .int (nI y))]) hx hb dX2_triangle_91 hl (k := 4) rfl (nI_add _ 1) (by decide) rfl (fun ls hl => ?_)
                refine lv_goto (tgt := 15) hx hb dX2_triangle_94 (by decide) ?_
                exact ih2 (x + 1) k mc' md' (by omega) (by rw [hk, ← Nat.add_assoc, cnt_no hT]) (TIn_no hI hT) (by omega) _ _ (hP.sub [0, 1, 2, 3, 4, 5] rfl) (hD.sub [0, 1, 2, 3, 4, 5] (by decide) rfl) hS ls (lv_sub hl [1, 2, 3, 4, 0] rfl)
              · have hC := Classical.byContradiction (fun h => c31 ((b01 q28).mpr h))
                have hC2 := hC
                rw [ex, ey] at hC2
                have hdb := DPT_b hz hC2
                have hde := TIn_dep hI hlt
                refine lv_aload_n hx hb dX2_triangle_34 rfl (lv_at hl 0 rfl) ?_
                refine va_get (D := (dC, dI)) (ci := 2) (v := .ref (am 2)) (C := RX2) (T := TX2) (N := 8) hx hb hts (by decide +kernel) hown hK hP 0 rfl rfl 3 (by decide) (hts (.fieldLink RX2 13 "TriangleRasterModel" "depths" "[I") (by decide +kernel)) (fun _ h9 => h9) rfl dX2_triangle_35 ?_
                refine lv_bipush (v := 24) hx hb dX2_triangle_38 (by decide) ?_
                refine lv_iload_n hx hb dX2_triangle_40 rfl (lv_at hl 3 rfl) ?_
                refine lv_imul hx hb dX2_triangle_41 ?_
                refine lv_iload hx hb dX2_triangle_42 (lv_at hl 4 rfl) ?_
                refine lv_iadd hx hb dX2_triangle_44 ?_
                refine lv_topi (fun zz ezz => ?_)
                obtain rfl : zz = nI (24 * y + x) := ezz.trans (ix24 _ _)
                refine va_iald hx hb hK hP 2 1 rfl rfl (vp_in_nI (by omega) (by omega)) dX2_triangle_45 ?_
                refine lv_topi (fun v45 ev45 => ?_)
                rw [nI_clamp (by omega), ← ab_at (f := md') hx0, hde] at ev45
                refine lv_aload_n hx hb dX2_triangle_46 rfl (lv_at hl 0 rfl) ?_
                refine lv_iload hx hb dX2_triangle_47 (lv_at hl 4 rfl) ?_
                refine lv_iload_n hx hb dX2_triangle_49 rfl (lv_at hl 3 rfl) ?_
                refine m_calli (cs := [(am 0, .inr (2, [.int (nI w), .int (nI h), .ref (am 1), .ref (am 2), .ref (am 3), .ref (am 4), .ref (am 5), .ref (am 6)])), (am 3, .inl (tm 3, 3, .inl vx)), (am 4, .inl (tm 4, 3, .inl vy)), (am 5, .inl (tm 5, 3, .inl vz))]) (wr := [(am 1, .inl (tm 1, 576, .inl mc')), (am 2, .inl (tm 2, 576, .inl md'))]) hP hD hS hA [0, 3, 4, 5] [1, 2] rfl rfl (by decide) (by decide) (va_runV (As := [.int (nI x), .int (nI y)]) (rest := [.int v45]) ⟨hx, hb, hml, hown, hts⟩ (c_X2_depthOf l dC dI _ am tm w h vx vy vz hv hz (nI x) (nI y) bx bY hC) (cwV 2 hts gX2_triangle_X2_depthOf rfl rfl rfl (by decide +kernel) ⟨Nat.le_of_ble_eq_true rfl, Nat.le_of_ble_eq_true rfl⟩) (m_preV (ci := 2) (q0 := 0) (hP.sub [0, 3, 4, 5] rfl) (hK.sub [2, 3, 4] rfl) (hD.sub [0, 3, 4, 5] (by decide) rfl) hN rfl rfl) rfl rfl hl.1 rfl (lv_room (Nat.le_of_ble_eq_true rfl)) dX2_triangle_50 ⟨Nat.le_of_ble_eq_true rfl, Nat.le_of_ble_eq_true rfl⟩) (fun r50 _ H locs q50 hK2 hP hD hS => ?_)
                have hP : va_P (dC, dI) vwCl [(am 0, .inr (2, [.int (nI w), .int (nI h), .ref (am 1), .ref (am 2), .ref (am 3), .ref (am 4), .ref (am 5), .ref (am 6)])), (am 1, .inl (tm 1, 576, .inl mc')), (am 2, .inl (tm 2, 576, .inl md')), (am 3, .inl (tm 3, 3, .inl vx)), (am 4, .inl (tm 4, 3, .inl vy)), (am 5, .inl (tm 5, 3, .inl vz))] H := hP.sub [2, 0, 1, 3, 4, 5] rfl
                have hD : va_D A [(am 0, .inr (2, [.int (nI w), .int (nI h), .ref (am 1), .ref (am 2), .ref (am 3), .ref (am 4), .ref (am 5), .ref (am 6)])), (am 1, .inl (tm 1, 576, .inl mc')), (am 2, .inl (tm 2, 576, .inl md')), (am 3, .inl (tm 3, 3, .inl vx)), (am 4, .inl (tm 4, 3, .inl vy)), (am 5, .inl (tm 5, 3, .inl vz))] := hD.sub [2, 0, 1, 3, 4, 5] (by decide) rfl
                rw [ex, ey] at q50
                have hdi : r50.toInt = DPT vx vy vz (x : Int) (y : Int) := by rw [q50]; exact Int32.toInt_ofInt_of_le (by omega) (by omega)
                refine lv_icmp_le (tgt := 91) hx hb dX2_triangle_53 (by decide) (fun c53 => ?_) (fun c53 => ?_)
                · have hT : ¬ TPi w vx vy vz (ab w md) (y * w + x) := fun q => by have q := ((TPi_at hx0).mp q).2; rw [Int32.le_iff_toInt_le, hdi, ev45] at c53; omega
                  refine lv_iinc (v := nI (x + 1)) (lv' := [(4, .int (nI (x + 1))), (0, .ref (am 0)), (1, .int c), (2, .int (nI k)), (3, .int (nI y))]) hx hb dX2_triangle_91 hl (k := 4) rfl (nI_add _ 1) (by decide) rfl (fun ls hl => ?_)
                  refine lv_goto (tgt := 15) hx hb dX2_triangle_94 (by decide) ?_
                  exact ih2 (x + 1) k mc' md' (by omega) (by rw [hk, ← Nat.add_assoc, cnt_no hT]) (TIn_no hI hT) (by omega) _ _ (hP.sub [0, 1, 2, 3, 4, 5] rfl) (hD.sub [0, 1, 2, 3, 4, 5] (by decide) rfl) hS ls (lv_sub hl [1, 2, 3, 4, 0] rfl)
                · have hT : TPi w vx vy vz (ab w md) (y * w + x) := (TPi_at hx0).mpr ⟨hC2, by rw [Int32.le_iff_toInt_le, hdi, ev45] at c53; omega⟩
                  refine lv_aload_n hx hb dX2_triangle_56 rfl (lv_at hl 0 rfl) ?_
                  refine va_get (D := (dC, dI)) (ci := 2) (v := .ref (am 1)) (C := RX2) (T := TX2) (N := 8) hx hb hts (by decide +kernel) hown hK hP 0 rfl rfl 2 (by decide) (hts (.fieldLink RX2 7 "TriangleRasterModel" "colours" "[I") (by decide +kernel)) (fun _ h9 => h9) rfl dX2_triangle_57 ?_
                  refine lv_bipush (v := 24) hx hb dX2_triangle_60 (by decide) ?_
                  refine lv_iload_n hx hb dX2_triangle_62 rfl (lv_at hl 3 rfl) ?_
                  refine lv_imul hx hb dX2_triangle_63 ?_
                  refine lv_iload hx hb dX2_triangle_64 (lv_at hl 4 rfl) ?_
                  refine lv_iadd hx hb dX2_triangle_66 ?_
                  refine lv_topi (fun zz ezz => ?_)
                  obtain rfl : zz = nI (24 * y + x) := ezz.trans (ix24 _ _)
                  refine lv_iload_n hx hb dX2_triangle_67 rfl (lv_at hl 1 rfl) ?_
                  refine va_iast hx hb hK hP hD hS 1 0 rfl rfl (vp_in_nI (by omega) (by omega)) dX2_triangle_68 (fun H locs hP hD hS => ?_)
                  have hP : va_P (dC, dI) vwCl [(am 0, .inr (2, [.int (nI w), .int (nI h), .ref (am 1), .ref (am 2), .ref (am 3), .ref (am 4), .ref (am 5), .ref (am 6)])), (am 1, .inl (tm 1, 576, .inl (upd mc' (nI (24 * y + x)).toNatClampNeg c))), (am 2, .inl (tm 2, 576, .inl md')), (am 3, .inl (tm 3, 3, .inl vx)), (am 4, .inl (tm 4, 3, .inl vy)), (am 5, .inl (tm 5, 3, .inl vz))] H := hP
                  have hD : va_D A [(am 0, .inr (2, [.int (nI w), .int (nI h), .ref (am 1), .ref (am 2), .ref (am 3), .ref (am 4), .ref (am 5), .ref (am 6)])), (am 1, .inl (tm 1, 576, .inl (upd mc' (nI (24 * y + x)).toNatClampNeg c))), (am 2, .inl (tm 2, 576, .inl md')), (am 3, .inl (tm 3, 3, .inl vx)), (am 4, .inl (tm 4, 3, .inl vy)), (am 5, .inl (tm 5, 3, .inl vz))] := hD
                  rw [nI_clamp (by omega)] at hP hD
                  have hP : va_P (dC, dI) vwCl [(am 0, .inr (2, [.int (nI w), .int (nI h), .ref (am 1), .ref (am 2), .ref (am 3), .ref (am 4), .ref (am 5), .ref (am 6)])), (am 1, .inl (tm 1, 576, .inl (upd mc' (24 * y + x) c))), (am 2, .inl (tm 2, 576, .inl md')), (am 3, .inl (tm 3, 3, .inl vx)), (am 4, .inl (tm 4, 3, .inl vy)), (am 5, .inl (tm 5, 3, .inl vz))] H := hP
                  have hD : va_D A [(am 0, .inr (2, [.int (nI w), .int (nI h), .ref (am 1), .ref (am 2), .ref (am 3), .ref (am 4), .ref (am 5), .ref (am 6)])), (am 1, .inl (tm 1, 576, .inl (upd mc' (24 * y + x) c))), (am 2, .inl (tm 2, 576, .inl md')), (am 3, .inl (tm 3, 3, .inl vx)), (am 4, .inl (tm 4, 3, .inl vy)), (am 5, .inl (tm 5, 3, .inl vz))] := hD
                  refine lv_aload_n hx hb dX2_triangle_69 rfl (lv_at hl 0 rfl) ?_
                  refine va_get (D := (dC, dI)) (ci := 2) (v := .ref (am 2)) (C := RX2) (T := TX2) (N := 8) hx hb hts (by decide +kernel) hown hK hP 0 rfl rfl 3 (by decide) (hts (.fieldLink RX2 13 "TriangleRasterModel" "depths" "[I") (by decide +kernel)) (fun _ h9 => h9) rfl dX2_triangle_70 ?_
                  refine lv_bipush (v := 24) hx hb dX2_triangle_73 (by decide) ?_
                  refine lv_iload_n hx hb dX2_triangle_75 rfl (lv_at hl 3 rfl) ?_
                  refine lv_imul hx hb dX2_triangle_76 ?_
                  refine lv_iload hx hb dX2_triangle_77 (lv_at hl 4 rfl) ?_
                  refine lv_iadd hx hb dX2_triangle_79 ?_
                  refine lv_topi (fun zz ezz => ?_)
                  obtain rfl : zz = nI (24 * y + x) := ezz.trans (ix24 _ _)
                  refine lv_aload_n hx hb dX2_triangle_80 rfl (lv_at hl 0 rfl) ?_
                  refine lv_iload hx hb dX2_triangle_81 (lv_at hl 4 rfl) ?_
                  refine lv_iload_n hx hb dX2_triangle_83 rfl (lv_at hl 3 rfl) ?_
                  refine m_calli (cs := [(am 0, .inr (2, [.int (nI w), .int (nI h), .ref (am 1), .ref (am 2), .ref (am 3), .ref (am 4), .ref (am 5), .ref (am 6)])), (am 3, .inl (tm 3, 3, .inl vx)), (am 4, .inl (tm 4, 3, .inl vy)), (am 5, .inl (tm 5, 3, .inl vz))]) (wr := [(am 1, .inl (tm 1, 576, .inl (upd mc' (24 * y + x) c))), (am 2, .inl (tm 2, 576, .inl md'))]) hP hD hS hA [0, 3, 4, 5] [1, 2] rfl rfl (by decide) (by decide) (va_runV (As := [.int (nI x), .int (nI y)]) (rest := [.int (nI (24 * y + x)), .ref (am 2)]) ⟨hx, hb, hml, hown, hts⟩ (c_X2_depthOf l dC dI _ am tm w h vx vy vz hv hz (nI x) (nI y) bx bY hC) (cwV 2 hts gX2_triangle_X2_depthOf rfl rfl rfl (by decide +kernel) ⟨Nat.le_of_ble_eq_true rfl, Nat.le_of_ble_eq_true rfl⟩) (m_preV (ci := 2) (q0 := 0) (hP.sub [0, 3, 4, 5] rfl) (hK.sub [2, 3, 4] rfl) (hD.sub [0, 3, 4, 5] (by decide) rfl) hN rfl rfl) rfl rfl hl.1 rfl (lv_room (Nat.le_of_ble_eq_true rfl)) dX2_triangle_84 ⟨Nat.le_of_ble_eq_true rfl, Nat.le_of_ble_eq_true rfl⟩) (fun r84 _ H locs q84 hK2 hP hD hS => ?_)
                  have hP : va_P (dC, dI) vwCl [(am 0, .inr (2, [.int (nI w), .int (nI h), .ref (am 1), .ref (am 2), .ref (am 3), .ref (am 4), .ref (am 5), .ref (am 6)])), (am 1, .inl (tm 1, 576, .inl (upd mc' (24 * y + x) c))), (am 2, .inl (tm 2, 576, .inl md')), (am 3, .inl (tm 3, 3, .inl vx)), (am 4, .inl (tm 4, 3, .inl vy)), (am 5, .inl (tm 5, 3, .inl vz))] H := hP.sub [2, 0, 1, 3, 4, 5] rfl
                  have hD : va_D A [(am 0, .inr (2, [.int (nI w), .int (nI h), .ref (am 1), .ref (am 2), .ref (am 3), .ref (am 4), .ref (am 5), .ref (am 6)])), (am 1, .inl (tm 1, 576, .inl (upd mc' (24 * y + x) c))), (am 2, .inl (tm 2, 576, .inl md')), (am 3, .inl (tm 3, 3, .inl vx)), (am 4, .inl (tm 4, 3, .inl vy)), (am 5, .inl (tm 5, 3, .inl vz))] := hD.sub [2, 0, 1, 3, 4, 5] (by decide) rfl
                  refine va_iast hx hb hK hP hD hS 2 1 rfl rfl (vp_in_nI (by omega) (by omega)) dX2_triangle_87 (fun H locs hP hD hS => ?_)
                  have hP : va_P (dC, dI) vwCl [(am 0, .inr (2, [.int (nI w), .int (nI h), .ref (am 1), .ref (am 2), .ref (am 3), .ref (am 4), .ref (am 5), .ref (am 6)])), (am 1, .inl (tm 1, 576, .inl (upd mc' (24 * y + x) c))), (am 2, .inl (tm 2, 576, .inl (upd md' (nI (24 * y + x)).toNatClampNeg r84))), (am 3, .inl (tm 3, 3, .inl vx)), (am 4, .inl (tm 4, 3, .inl vy)), (am 5, .inl (tm 5, 3, .inl vz))] H := hP
                  have hD : va_D A [(am 0, .inr (2, [.int (nI w), .int (nI h), .ref (am 1), .ref (am 2), .ref (am 3), .ref (am 4), .ref (am 5), .ref (am 6)])), (am 1, .inl (tm 1, 576, .inl (upd mc' (24 * y + x) c))), (am 2, .inl (tm 2, 576, .inl (upd md' (nI (24 * y + x)).toNatClampNeg r84))), (am 3, .inl (tm 3, 3, .inl vx)), (am 4, .inl (tm 4, 3, .inl vy)), (am 5, .inl (tm 5, 3, .inl vz))] := hD
                  rw [nI_clamp (by omega)] at hP hD
                  have hP : va_P (dC, dI) vwCl [(am 0, .inr (2, [.int (nI w), .int (nI h), .ref (am 1), .ref (am 2), .ref (am 3), .ref (am 4), .ref (am 5), .ref (am 6)])), (am 1, .inl (tm 1, 576, .inl (upd mc' (24 * y + x) c))), (am 2, .inl (tm 2, 576, .inl (upd md' (24 * y + x) r84))), (am 3, .inl (tm 3, 3, .inl vx)), (am 4, .inl (tm 4, 3, .inl vy)), (am 5, .inl (tm 5, 3, .inl vz))] H := hP
                  have hD : va_D A [(am 0, .inr (2, [.int (nI w), .int (nI h), .ref (am 1), .ref (am 2), .ref (am 3), .ref (am 4), .ref (am 5), .ref (am 6)])), (am 1, .inl (tm 1, 576, .inl (upd mc' (24 * y + x) c))), (am 2, .inl (tm 2, 576, .inl (upd md' (24 * y + x) r84))), (am 3, .inl (tm 3, 3, .inl vx)), (am 4, .inl (tm 4, 3, .inl vy)), (am 5, .inl (tm 5, 3, .inl vz))] := hD
                  rw [ex, ey] at q84
                  refine lv_iinc (v := nI (k + 1)) (lv' := [(2, .int (nI (k + 1))), (0, .ref (am 0)), (1, .int c), (3, .int (nI y)), (4, .int (nI x))]) hx hb dX2_triangle_88 hl (k := 2) rfl (nI_add _ 1) (by decide) rfl (fun ls hl => ?_)
                  refine lv_iinc (v := nI (x + 1)) (lv' := [(4, .int (nI (x + 1))), (2, .int (nI (k + 1))), (0, .ref (am 0)), (1, .int c), (3, .int (nI y))]) hx hb dX2_triangle_91 hl (k := 4) rfl (nI_add _ 1) (by decide) rfl (fun ls hl => ?_)
                  refine lv_goto (tgt := 15) hx hb dX2_triangle_94 (by decide) ?_
                  exact ih2 (x + 1) (k + 1) (upd mc' (24 * y + x) c) (upd md' (24 * y + x) r84) (by omega) (by rw [hk, ← Nat.add_assoc, cnt_yes hT]) (by have hI2 := TIn_yes hI hT; rw [row_mod y hx0, row_div y hx0] at hI2; rw [ab_upd hw2 hx0, ab_upd hw2 hx0, q84]; exact hI2) (by omega) _ _ (hP.sub [0, 1, 2, 3, 4, 5] rfl) (hD.sub [0, 1, 2, 3, 4, 5] (by decide) rfl) hS ls (lv_sub hl [2, 3, 1, 4, 0] rfl)
        exact inner (w + 1) 0 k mc' md' (Nat.zero_le _) hk hI (by omega) _ _ (hP.sub [0, 1, 2, 3, 4, 5] rfl) (hD.sub [0, 1, 2, 3, 4, 5] (by decide) rfl) hS ls (lv_sub hl [1, 2, 3, 4, 0] rfl)
  exact outer (h + 1) 0 0 mc md (Nat.zero_le _) (by rw [Nat.zero_mul]; rfl) (by rw [Nat.zero_mul]; exact TIn_0) (by omega) _ _ (hP.sub [0, 1, 2, 3, 4, 5] rfl) (hD.sub [0, 1, 2, 3, 4, 5] (by decide) rfl) hS ls (lv_sub hl [2, 3, 1, 0] rfl)

