set_option maxHeartbeats 1000000 in
set_option maxRecDepth 100000 in
/-- mark -/
theorem c_X2_mark (l : Launch) (dC : Nat → ClassId) (dI : Nat → Nat → Nat) (sz : Nat) (am : Nat → Nat) (tm : Nat → ClassId) (w h : Nat) (mc mk : Nat → Int32) (hw1 : 1 ≤ w) (hw2 : w ≤ 24) (hh1 : 1 ≤ h) (hh2 : h ≤ 24) (x0 y0 c : Int32) (hin0 : inX w h x0 y0) (hc0 : ab w mc (lin w x0 y0) = c) (hr0 : ab w mk (lin w x0 y0) = 0) (hO : OLD w (w * h) (ab w mc) (ab w mk) c) : Met l yX2_mark wsX2_mark ({ frames := 0, cells := 0, slots := 0, locals := 0 }) (mP (dC, dI) vwCl [(tm 1, .int), (tm 6, .boolean)] [(am 0, .inr (2, [.int (nI w), .int (nI h), .ref (am 1), .ref (am 2), .ref (am 3), .ref (am 4), .ref (am 5), .ref (am 6)])), (am 1, .inl (tm 1, 576, .inl mc)), (am 6, .inl (tm 6, 576, .inl mk))] sz [.ref (am 0), .int x0, .int y0]) (va_Qi (fun (r : Int32) (u : (Nat → Int32) × Nat) => r = nI u.2 ∧ MPC w (w * h) (ab w mc) (ab w mk) c (lin w x0 y0) (ab w u.1) u.2) (mB (dC, dI) vwCl [(tm 1, .int), (tm 6, .boolean)] (va_A [(am 0, .inr (2, [.int (nI w), .int (nI h), .ref (am 1), .ref (am 2), .ref (am 3), .ref (am 4), .ref (am 5), .ref (am 6)])), (am 1, .inl (tm 1, 576, .inl mc)), (am 6, .inl (tm 6, 576, .inl mk))] sz) (fun u => [(am 0, .inr (2, [.int (nI w), .int (nI h), .ref (am 1), .ref (am 2), .ref (am 3), .ref (am 4), .ref (am 5), .ref (am 6)])), (am 1, .inl (tm 1, 576, .inl mc)), (am 6, .inl (tm 6, 576, .inl u.1))])) (va_A [(am 0, .inr (2, [.int (nI w), .int (nI h), .ref (am 1), .ref (am 2), .ref (am 3), .ref (am 4), .ref (am 5), .ref (am 6)])), (am 1, .inl (tm 1, 576, .inl mc)), (am 6, .inl (tm 6, 576, .inl mk))] sz)) 0 0 (va_A [(am 0, .inr (2, [.int (nI w), .int (nI h), .ref (am 1), .ref (am 2), .ref (am 3), .ref (am 4), .ref (am 5), .ref (am 6)])), (am 1, .inl (tm 1, 576, .inl mc)), (am 6, .inl (tm 6, 576, .inl mk))] sz) := by
  refine Met.ofW (cc := cX2_mark) (maxL := 10) (ret := (some .int)) (by decide) rfl ?_
  intro p e s m args below meth cD s₁ B hml hv
  obtain ⟨rfl, hsz, hP, hK, hD0, hN⟩ := hv
  have hx := B.exec
  have hb := B.bytes
  have hr := B.returns
  have hts := atoms_spec (ws := wsX2_mark) B.pre
  have hown : s.vm.findClass RX2 = some m.cls := findClass_of_methodNamed B.named
  have hlocks := B.notSynchronized
  subst hsz
  have hD := hD0.self (sz := s.heap.size)
  generalize hAe : va_A [(am 0, .inr (2, [.int (nI w), .int (nI h), .ref (am 1), .ref (am 2), .ref (am 3), .ref (am 4), .ref (am 5), .ref (am 6)])), (am 1, .inl (tm 1, 576, .inl mc)), (am 6, .inl (tm 6, 576, .inl mk))] s.heap.size = A at hD ⊢
  have hA : ∀ q : Nat, s.heap.size ≤ q → A q := fun q h => by rw [← hAe]; exact Or.inr h
  have hS : va_S A s.heap s.heap [] := va_S.rf
  have hP : va_P (dC, dI) vwCl [(am 0, .inr (2, [.int (nI w), .int (nI h), .ref (am 1), .ref (am 2), .ref (am 3), .ref (am 4), .ref (am 5), .ref (am 6)])), (am 1, .inl (tm 1, 576, .inl mc)), (am 6, .inl (tm 6, 576, .inl mk))] s.heap := hP
  have hl := lv_entry ([.ref (am 0), .int x0, .int y0]) (n := 10) (Nat.le_of_ble_eq_true rfl)
  rw [lg_entry_eq]
  generalize (lg_sl ([.ref (am 0), .int x0, .int y0]) ++ List.replicate (10 - (lg_sl ([.ref (am 0), .int x0, .int y0])).length) Slot.unset).toArray = ls at hl ⊢
  have hl : lv_has ls 10 [(0, .ref (am 0)), (1, .int x0), (2, .int y0)] := hl
  have hwh := wh_le hw2 hh2
  have hix : 24 * y0.toInt.toNat + x0.toInt.toNat < 576 := by have g := hin0; unfold inX at g; omega
  refine lv_aload_n hx hb dX2_mark_0 rfl (lv_at hl 0 rfl) ?_
  refine va_get (D := (dC, dI)) (ci := 2) (v := .ref (am 1)) (C := RX2) (T := TX2) (N := 8) hx hb hts (by decide +kernel) hown hK hP 0 rfl rfl 2 (by decide) (hts (.fieldLink RX2 7 "TriangleRasterModel" "colours" "[I") (by decide +kernel)) (fun _ h9 => h9) rfl dX2_mark_1 ?_
  refine lv_bipush (v := 24) hx hb dX2_mark_4 (by decide) ?_
  refine lv_iload_n hx hb dX2_mark_6 rfl (lv_at hl 2 rfl) ?_
  refine lv_imul hx hb dX2_mark_7 ?_
  refine lv_iload_n hx hb dX2_mark_8 rfl (lv_at hl 1 rfl) ?_
  refine lv_iadd hx hb dX2_mark_9 ?_
  refine lv_topi (fun zz ezz => ?_)
  obtain rfl : zz = nI (24 * y0.toInt.toNat + x0.toInt.toNat) := ezz.trans (ix24X hin0)
  refine va_iald hx hb hK hP 1 0 rfl rfl (vp_in_nI hix (by omega)) dX2_mark_10 ?_
  refine lv_topi (fun zz ezz => ?_)
  obtain rfl : c = zz := (ezz.trans ((show mc (nI (24 * y0.toInt.toNat + x0.toInt.toNat)).toNatClampNeg = c from (by rw [nI_clamp (by omega), ← ab_lin (f := mc) hin0]; exact hc0)))).symm
  refine lv_istore_n (lv' := [(3, .int c), (0, .ref (am 0)), (1, .int x0), (2, .int y0)]) hx hb dX2_mark_11 rfl hl (by decide) rfl (fun ls hl => ?_)
  refine lv_aload_n hx hb dX2_mark_12 rfl (lv_at hl 1 rfl) ?_
  refine va_get (D := (dC, dI)) (ci := 2) (v := .ref (am 6)) (C := RX2) (T := TX2) (N := 8) hx hb hts (by decide +kernel) hown hK hP 0 rfl rfl 7 (by decide) (hts (.fieldLink RX2 25 "TriangleRasterModel" "marks" "[Z") (by decide +kernel)) (fun _ h9 => h9) rfl dX2_mark_13 ?_
  refine lv_bipush (v := 24) hx hb dX2_mark_16 (by decide) ?_
  refine lv_iload_n hx hb dX2_mark_18 rfl (lv_at hl 3 rfl) ?_
  refine lv_imul hx hb dX2_mark_19 ?_
  refine lv_iload_n hx hb dX2_mark_20 rfl (lv_at hl 2 rfl) ?_
  refine lv_iadd hx hb dX2_mark_21 ?_
  refine lv_topi (fun zz ezz => ?_)
  obtain rfl : zz = nI (24 * y0.toInt.toNat + x0.toInt.toNat) := ezz.trans (ix24X hin0)
  refine lv_iconst (v := 1) hx hb dX2_mark_22 (by decide) ?_
  refine va_zast hx hb hK hP hD hS 2 1 rfl rfl (vp_in_nI hix (by omega)) dX2_mark_23 (fun H locs hP hD hS => ?_)
  have hP : va_P (dC, dI) vwCl [(am 0, .inr (2, [.int (nI w), .int (nI h), .ref (am 1), .ref (am 2), .ref (am 3), .ref (am 4), .ref (am 5), .ref (am 6)])), (am 1, .inl (tm 1, 576, .inl mc)), (am 6, .inl (tm 6, 576, .inl (upd mk (nI (24 * y0.toInt.toNat + x0.toInt.toNat)).toNatClampNeg 1)))] H := hP
  have hD : va_D A [(am 0, .inr (2, [.int (nI w), .int (nI h), .ref (am 1), .ref (am 2), .ref (am 3), .ref (am 4), .ref (am 5), .ref (am 6)])), (am 1, .inl (tm 1, 576, .inl mc)), (am 6, .inl (tm 6, 576, .inl (upd mk (nI (24 * y0.toInt.toNat + x0.toInt.toNat)).toNatClampNeg 1)))] := hD
  rw [nI_clamp (by omega)] at hP hD
  have hP : va_P (dC, dI) vwCl [(am 0, .inr (2, [.int (nI w), .int (nI h), .ref (am 1), .ref (am 2), .ref (am 3), .ref (am 4), .ref (am 5), .ref (am 6)])), (am 1, .inl (tm 1, 576, .inl mc)), (am 6, .inl (tm 6, 576, .inl (upd mk (24 * y0.toInt.toNat + x0.toInt.toNat) 1)))] H := hP
  have hD : va_D A [(am 0, .inr (2, [.int (nI w), .int (nI h), .ref (am 1), .ref (am 2), .ref (am 3), .ref (am 4), .ref (am 5), .ref (am 6)])), (am 1, .inl (tm 1, 576, .inl mc)), (am 6, .inl (tm 6, 576, .inl (upd mk (24 * y0.toInt.toNat + x0.toInt.toNat) 1)))] := hD
  have hB0 : BFM w (w * h) (ab w mc) (ab w mk) c (lin w x0 y0) (ab w (upd mk (24 * y0.toInt.toNat + x0.toInt.toNat) 1)) 1 := by
    rw [ab_upd hw2 (by have g := hin0.1; omega)]; exact BFM_0 (lin_lt hin0) hr0
  refine lv_iconst (v := 1) hx hb dX2_mark_24 (by decide) ?_
  refine lv_topi (fun zz ezz => ?_)
  obtain rfl : zz = nI 1 := ezz.trans (rfl)
  refine lv_istore (lv' := [(4, .int (nI 1)), (3, .int c), (0, .ref (am 0)), (1, .int x0), (2, .int y0)]) hx hb dX2_mark_25 hl (by decide) rfl (fun ls hl => ?_)
  refine lv_iconst (v := 1) hx hb dX2_mark_27 (by decide) ?_
  refine lv_topi (fun zz ezz => ?_)
  obtain rfl : zz = nI 1 := ezz.trans (rfl)
  refine lv_istore (lv' := [(5, .int (nI 1)), (4, .int (nI 1)), (3, .int c), (0, .ref (am 0)), (1, .int x0), (2, .int y0)]) hx hb dX2_mark_28 hl (by decide) rfl (fun ls hl => ?_)
  have sweeps : ∀ (n : Nat) (k : Nat) (go : Nat) (mk' : Nat → Int32), BFM w (w * h) (ab w mc) (ab w mk) c (lin w x0 y0) (ab w mk') k → ((go = 0 ∧ (∀ i, i < w * h → ¬ ADD w (w * h) (ab w mc) c (ab w mk') i)) ∨ go = 1) → w * h + go + 1 ≤ k + n → ∀ (H : Heap) (locs : List Loc), va_P (dC, dI) vwCl [(am 0, .inr (2, [.int (nI w), .int (nI h), .ref (am 1), .ref (am 2), .ref (am 3), .ref (am 4), .ref (am 5), .ref (am 6)])), (am 1, .inl (tm 1, 576, .inl mc)), (am 6, .inl (tm 6, 576, .inl mk'))] H → va_D A [(am 0, .inr (2, [.int (nI w), .int (nI h), .ref (am 1), .ref (am 2), .ref (am 3), .ref (am 4), .ref (am 5), .ref (am 6)])), (am 1, .inl (tm 1, 576, .inl mc)), (am 6, .inl (tm 6, 576, .inl mk'))] → va_S A s.heap H locs → ∀ (ls : Array Slot), lv_has ls 10 [(0, .ref (am 0)), (1, .int x0), (2, .int y0), (3, .int c), (4, .int (nI k)), (5, .int (nI go))] → W p l e (headSpec wsX2_mark { frames := 0, cells := 0, slots := 0, locals := 0 }).room s m [.ref (am 0), .int x0, .int y0].toArray below meth cD H locs 0 0 (MQ below (va_Qi (fun (r : Int32) (u : (Nat → Int32) × Nat) => r = nI u.2 ∧ MPC w (w * h) (ab w mc) (ab w mk) c (lin w x0 y0) (ab w u.1) u.2) (mB (dC, dI) vwCl [(tm 1, .int), (tm 6, .boolean)] A (fun u => [(am 0, .inr (2, [.int (nI w), .int (nI h), .ref (am 1), .ref (am 2), .ref (am 3), .ref (am 4), .ref (am 5), .ref (am 6)])), (am 1, .inl (tm 1, 576, .inl mc)), (am 6, .inl (tm 6, 576, .inl u.1))])) A) [.ref (am 0), .int x0, .int y0].toArray s 0 0 A) (F0 m 30 ls []) := by
    intro n
    induction n with
    | zero => intro k go mk' hB hgo hm; exfalso; have := BFM_k hB; omega
    | succ n ih =>
      intro k go mk' hB hgo hm H locs hP hD hS ls hl
      refine lv_iload hx hb dX2_mark_30 (lv_at hl 5 rfl) ?_
      refine lv_if_eq (tgt := 216) hx hb dX2_mark_32 (by decide) (fun c32 => ?_) (fun c32 => ?_)
      · have hgz : go = 0 := by rw [← nI_0, nI_eq (by omega) (by omega)] at c32; exact c32
        have hna := hgo.elim (fun q => q.2) (fun q => absurd (hgz.symm.trans q) (by decide))
        refine lv_iload hx hb dX2_mark_216 (lv_at hl 4 rfl) ?_
        have hP9 := hP.sub (ws' := [(am 0, .inr (2, [.int (nI w), .int (nI h), .ref (am 1), .ref (am 2), .ref (am 3), .ref (am 4), .ref (am 5), .ref (am 6)])), (am 1, .inl (tm 1, 576, .inl mc)), (am 6, .inl (tm 6, 576, .inl mk'))]) [0, 1, 2] rfl
        have hD9 := hD.sub (ws' := [(am 0, .inr (2, [.int (nI w), .int (nI h), .ref (am 1), .ref (am 2), .ref (am 3), .ref (am 4), .ref (am 5), .ref (am 6)])), (am 1, .inl (tm 1, 576, .inl mc)), (am 6, .inl (tm 6, 576, .inl mk'))]) [0, 1, 2] (by decide) rfl
        exact W.iret (v := (nI k)) hx hb hr (fun t ht hW => ⟨⟨nI k, (mk', k), rfl, ⟨rfl, BFM_end ⟨lin_lt hin0, hc0⟩ hr0 hO hB hna⟩, by rw [ht]; exact hP9, va_K.moved hW.alike hK, hD9⟩, hS.F ht⟩) hS.2.2 dX2_mark_218
      · have hg1 : go = 1 := by rcases hgo with q | q; rw [q.1, nI_0] at c32; exact absurd rfl c32; exact q
        have hB1 := hB
        have hkb := BFM_k hB
        obtain ⟨k0, hk0⟩ : ∃ z : Nat, z = k := ⟨_, rfl⟩
        refine lv_iconst (v := 0) hx hb dX2_mark_35 (by decide) ?_
        refine lv_topi (fun zz ezz => ?_)
        obtain rfl : zz = nI 0 := ezz.trans (nI_0.symm)
        refine lv_istore (lv' := [(5, .int (nI 0)), (0, .ref (am 0)), (1, .int x0), (2, .int y0), (3, .int c), (4, .int (nI k))]) hx hb dX2_mark_36 hl (by decide) rfl (fun ls hl => ?_)
        refine lv_iconst (v := 0) hx hb dX2_mark_38 (by decide) ?_
        refine lv_topi (fun zz ezz => ?_)
        obtain rfl : zz = nI 0 := ezz.trans (nI_0.symm)
        refine lv_istore (lv' := [(6, .int (nI 0)), (5, .int (nI 0)), (0, .ref (am 0)), (1, .int x0), (2, .int y0), (3, .int c), (4, .int (nI k))]) hx hb dX2_mark_39 hl (by decide) rfl (fun ls hl => ?_)
        have rows : ∀ (n : Nat) (y : Nat) (k : Nat) (go : Nat) (mk' : Nat → Int32), y ≤ h → BFM w (w * h) (ab w mc) (ab w mk) c (lin w x0 y0) (ab w mk') k → ((go = 0 ∧ k = k0 ∧ (∀ i, i < y * w → ¬ ADD w (w * h) (ab w mc) c (ab w mk') i)) ∨ (go = 1 ∧ k0 < k)) → h + 1 ≤ y + n → ∀ (H : Heap) (locs : List Loc), va_P (dC, dI) vwCl [(am 0, .inr (2, [.int (nI w), .int (nI h), .ref (am 1), .ref (am 2), .ref (am 3), .ref (am 4), .ref (am 5), .ref (am 6)])), (am 1, .inl (tm 1, 576, .inl mc)), (am 6, .inl (tm 6, 576, .inl mk'))] H → va_D A [(am 0, .inr (2, [.int (nI w), .int (nI h), .ref (am 1), .ref (am 2), .ref (am 3), .ref (am 4), .ref (am 5), .ref (am 6)])), (am 1, .inl (tm 1, 576, .inl mc)), (am 6, .inl (tm 6, 576, .inl mk'))] → va_S A s.heap H locs → ∀ (ls : Array Slot), lv_has ls 10 [(0, .ref (am 0)), (1, .int x0), (2, .int y0), (3, .int c), (4, .int (nI k)), (5, .int (nI go)), (6, .int (nI y))] → W p l e (headSpec wsX2_mark { frames := 0, cells := 0, slots := 0, locals := 0 }).room s m [.ref (am 0), .int x0, .int y0].toArray below meth cD H locs 0 0 (MQ below (va_Qi (fun (r : Int32) (u : (Nat → Int32) × Nat) => r = nI u.2 ∧ MPC w (w * h) (ab w mc) (ab w mk) c (lin w x0 y0) (ab w u.1) u.2) (mB (dC, dI) vwCl [(tm 1, .int), (tm 6, .boolean)] A (fun u => [(am 0, .inr (2, [.int (nI w), .int (nI h), .ref (am 1), .ref (am 2), .ref (am 3), .ref (am 4), .ref (am 5), .ref (am 6)])), (am 1, .inl (tm 1, 576, .inl mc)), (am 6, .inl (tm 6, 576, .inl u.1))])) A) [.ref (am 0), .int x0, .int y0].toArray s 0 0 A) (F0 m 41 ls []) := by
          intro n
          induction n with
          | zero => intro y k go mk' hy hB hgo hmy; exfalso; omega
          | succ n ihy =>
            intro y k go mk' hy hB hgo hmy H locs hP hD hS ls hl
            refine lv_iload hx hb dX2_mark_41 (lv_at hl 6 rfl) ?_
            refine lv_aload_n hx hb dX2_mark_43 rfl (lv_at hl 0 rfl) ?_
            refine va_get (D := (dC, dI)) (ci := 2) (v := .int (nI h)) (C := RX2) (T := TX2) (N := 8) hx hb hts (by decide +kernel) hown hK hP 0 rfl rfl 1 (by decide) (hts (.fieldLink RX2 33 "TriangleRasterModel" "h" "I") (by decide +kernel)) (fun _ h9 => h9) rfl dX2_mark_44 ?_
            refine lv_icmp_ge (tgt := 213) hx hb dX2_mark_47 (by decide) (fun c47 => ?_) (fun c47 => ?_)
            · refine lv_goto (tgt := 30) hx hb dX2_mark_213 (by decide) ?_
              have hyh : y = h := by rw [nI_leI (by omega) (by omega)] at c47; omega
              rw [hyh, Nat.mul_comm h w] at hgo
              exact ih k go mk' hB (by rcases hgo with q | q; exact Or.inl ⟨q.1, q.2.2⟩; exact Or.inr q.1) (by rcases hgo with q | q <;> omega) _ _ (hP.sub [0, 1, 2] rfl) (hD.sub [0, 1, 2] (by decide) rfl) hS ls (lv_sub hl [0, 1, 2, 3, 4, 5] rfl)
            · have hy0 : y < h := by rw [nI_leI (by omega) (by omega)] at c47; omega
              refine lv_iconst (v := 0) hx hb dX2_mark_50 (by decide) ?_
              refine lv_topi (fun zz ezz => ?_)
              obtain rfl : zz = nI 0 := ezz.trans (nI_0.symm)
              refine lv_istore (lv' := [(7, .int (nI 0)), (0, .ref (am 0)), (1, .int x0), (2, .int y0), (3, .int c), (4, .int (nI k)), (5, .int (nI go)), (6, .int (nI y))]) hx hb dX2_mark_51 hl (by decide) rfl (fun ls hl => ?_)
              have cols : ∀ (n : Nat) (x : Nat) (k : Nat) (go : Nat) (mk' : Nat → Int32), x ≤ w → BFM w (w * h) (ab w mc) (ab w mk) c (lin w x0 y0) (ab w mk') k → ((go = 0 ∧ k = k0 ∧ (∀ i, i < y * w + x → ¬ ADD w (w * h) (ab w mc) c (ab w mk') i)) ∨ (go = 1 ∧ k0 < k)) → w + 1 ≤ x + n → ∀ (H : Heap) (locs : List Loc), va_P (dC, dI) vwCl [(am 0, .inr (2, [.int (nI w), .int (nI h), .ref (am 1), .ref (am 2), .ref (am 3), .ref (am 4), .ref (am 5), .ref (am 6)])), (am 1, .inl (tm 1, 576, .inl mc)), (am 6, .inl (tm 6, 576, .inl mk'))] H → va_D A [(am 0, .inr (2, [.int (nI w), .int (nI h), .ref (am 1), .ref (am 2), .ref (am 3), .ref (am 4), .ref (am 5), .ref (am 6)])), (am 1, .inl (tm 1, 576, .inl mc)), (am 6, .inl (tm 6, 576, .inl mk'))] → va_S A s.heap H locs → ∀ (ls : Array Slot), lv_has ls 10 [(0, .ref (am 0)), (1, .int x0), (2, .int y0), (3, .int c), (4, .int (nI k)), (5, .int (nI go)), (6, .int (nI y)), (7, .int (nI x))] → W p l e (headSpec wsX2_mark { frames := 0, cells := 0, slots := 0, locals := 0 }).room s m [.ref (am 0), .int x0, .int y0].toArray below meth cD H locs 0 0 (MQ below (va_Qi (fun (r : Int32) (u : (Nat → Int32) × Nat) => r = nI u.2 ∧ MPC w (w * h) (ab w mc) (ab w mk) c (lin w x0 y0) (ab w u.1) u.2) (mB (dC, dI) vwCl [(tm 1, .int), (tm 6, .boolean)] A (fun u => [(am 0, .inr (2, [.int (nI w), .int (nI h), .ref (am 1), .ref (am 2), .ref (am 3), .ref (am 4), .ref (am 5), .ref (am 6)])), (am 1, .inl (tm 1, 576, .inl mc)), (am 6, .inl (tm 6, 576, .inl u.1))])) A) [.ref (am 0), .int x0, .int y0].toArray s 0 0 A) (F0 m 53 ls []) := by
                intro n
                induction n with
                | zero => intro x k go mk' hx9 hB hgo hmx; exfalso; omega
                | succ n ihx =>
                  intro x k go mk' hx9 hB hgo hmx H locs hP hD hS ls hl
                  refine lv_iload hx hb dX2_mark_53 (lv_at hl 7 rfl) ?_
                  refine lv_aload_n hx hb dX2_mark_55 rfl (lv_at hl 0 rfl) ?_
                  refine va_get (D := (dC, dI)) (ci := 2) (v := .int (nI w)) (C := RX2) (T := TX2) (N := 8) hx hb hts (by decide +kernel) hown hK hP 0 rfl rfl 0 (by decide) (hts (.fieldLink RX2 29 "TriangleRasterModel" "w" "I") (by decide +kernel)) (fun _ h9 => h9) rfl dX2_mark_56 ?_
                  refine lv_icmp_ge (tgt := 207) hx hb dX2_mark_59 (by decide) (fun c59 => ?_) (fun c59 => ?_)
                  · have hxw : x = w := by rw [nI_leI (by omega) (by omega)] at c59; omega
                    refine lv_iinc (v := nI (y + 1)) (lv' := [(6, .int (nI (y + 1))), (0, .ref (am 0)), (1, .int x0), (2, .int y0), (3, .int c), (4, .int (nI k)), (5, .int (nI go)), (7, .int (nI x))]) hx hb dX2_mark_207 hl (k := 6) rfl (nI_add _ 1) (by decide) rfl (fun ls hl => ?_)
                    refine lv_goto (tgt := 41) hx hb dX2_mark_210 (by decide) ?_
                    exact ihy (y + 1) k go mk' (by omega) hB (by rw [hxw] at hgo; rw [Nat.add_mul, Nat.one_mul]; exact hgo) (by omega) _ _ (hP.sub [0, 1, 2] rfl) (hD.sub [0, 1, 2] (by decide) rfl) hS ls (lv_sub hl [1, 2, 3, 4, 5, 6, 0] rfl)
                  · have hx0 : x < w := by rw [nI_leI (by omega) (by omega)] at c59; omega
                    have hlt := row_lt hx0 hy0
                    refine lv_bipush (v := 24) hx hb dX2_mark_62 (by decide) ?_
                    refine lv_iload hx hb dX2_mark_64 (lv_at hl 6 rfl) ?_
                    refine lv_imul hx hb dX2_mark_66 ?_
                    refine lv_iload hx hb dX2_mark_67 (lv_at hl 7 rfl) ?_
                    refine lv_iadd hx hb dX2_mark_69 ?_
                    refine lv_topi (fun zz ezz => ?_)
                    obtain rfl : zz = nI (24 * y + x) := ezz.trans (ix24 _ _)
                    refine lv_istore (lv' := [(8, .int (nI (24 * y + x))), (0, .ref (am 0)), (1, .int x0), (2, .int y0), (3, .int c), (4, .int (nI k)), (5, .int (nI go)), (6, .int (nI y)), (7, .int (nI x))]) hx hb dX2_mark_70 hl (by decide) rfl (fun ls hl => ?_)
                    have j161 : ∀ (bs : Int32) (ls : Array Slot), (((∃ b, adj w (y * w + x) b ∧ b < w * h ∧ ¬ ab w mk' b = 0) ∧ bs = 1) ∨ (¬ (∃ b, adj w (y * w + x) b ∧ b < w * h ∧ ¬ ab w mk' b = 0) ∧ bs = 0)) → lv_has ls 10 [(0, .ref (am 0)), (1, .int x0), (2, .int y0), (3, .int c), (4, .int (nI k)), (5, .int (nI go)), (6, .int (nI y)), (7, .int (nI x)), (8, .int (nI (24 * y + x))), (9, .int bs)] → W p l e (headSpec wsX2_mark { frames := 0, cells := 0, slots := 0, locals := 0 }).room s m [.ref (am 0), .int x0, .int y0].toArray below meth cD H locs 0 0 (MQ below (va_Qi (fun (r : Int32) (u : (Nat → Int32) × Nat) => r = nI u.2 ∧ MPC w (w * h) (ab w mc) (ab w mk) c (lin w x0 y0) (ab w u.1) u.2) (mB (dC, dI) vwCl [(tm 1, .int), (tm 6, .boolean)] A (fun u => [(am 0, .inr (2, [.int (nI w), .int (nI h), .ref (am 1), .ref (am 2), .ref (am 3), .ref (am 4), .ref (am 5), .ref (am 6)])), (am 1, .inl (tm 1, 576, .inl mc)), (am 6, .inl (tm 6, 576, .inl u.1))])) A) [.ref (am 0), .int x0, .int y0].toArray s 0 0 A) (F0 m 161 ls []) := by
                      intro bs ls hbs hl
                      refine lv_aload_n hx hb dX2_mark_161 rfl (lv_at hl 0 rfl) ?_
                      refine va_get (D := (dC, dI)) (ci := 2) (v := .ref (am 6)) (C := RX2) (T := TX2) (N := 8) hx hb hts (by decide +kernel) hown hK hP 0 rfl rfl 7 (by decide) (hts (.fieldLink RX2 25 "TriangleRasterModel" "marks" "[Z") (by decide +kernel)) (fun _ h9 => h9) rfl dX2_mark_162 ?_
                      refine lv_iload hx hb dX2_mark_165 (lv_at hl 8 rfl) ?_
                      refine va_zald hx hb hK hP 2 1 rfl rfl (vp_in_nI (by omega) (by omega)) dX2_mark_167 ?_
                      refine lv_topi (fun v167 ev167 => ?_)
                      have e168 : v167 = ab w mk' (y * w + x) := by rw [ev167, nI_clamp (by omega)]; exact (ab_at hx0).symm
                      refine lv_if_ne (tgt := 201) hx hb dX2_mark_168 (by decide) (fun c168 => ?_) (fun c168 => ?_)
                      · have hadd : ¬ ADD w (w * h) (ab w mc) c (ab w mk') (y * w + x) := fun q => c168 (e168.trans q.1)
                        refine lv_iinc (v := nI (x + 1)) (lv' := [(7, .int (nI (x + 1))), (0, .ref (am 0)), (1, .int x0), (2, .int y0), (3, .int c), (4, .int (nI k)), (5, .int (nI go)), (6, .int (nI y)), (8, .int (nI (24 * y + x))), (9, .int bs)]) hx hb dX2_mark_201 hl (k := 7) rfl (nI_add _ 1) (by decide) rfl (fun ls hl => ?_)
                        refine lv_goto (tgt := 53) hx hb dX2_mark_204 (by decide) ?_
                        exact ihx (x + 1) k go mk' (by omega) hB (by rcases hgo with q | q; exact Or.inl ⟨q.1, q.2.1, fun i hi => by by_cases hxi : i = y * w + x; rw [hxi]; exact hadd; exact q.2.2 i (by omega)⟩; exact Or.inr q) (by omega) _ _ (hP.sub [0, 1, 2] rfl) (hD.sub [0, 1, 2] (by decide) rfl) hS ls (lv_sub hl [1, 2, 3, 4, 5, 6, 7, 0] rfl)
                      · refine lv_aload_n hx hb dX2_mark_171 rfl (lv_at hl 0 rfl) ?_
                        refine va_get (D := (dC, dI)) (ci := 2) (v := .ref (am 1)) (C := RX2) (T := TX2) (N := 8) hx hb hts (by decide +kernel) hown hK hP 0 rfl rfl 2 (by decide) (hts (.fieldLink RX2 7 "TriangleRasterModel" "colours" "[I") (by decide +kernel)) (fun _ h9 => h9) rfl dX2_mark_172 ?_
                        refine lv_iload hx hb dX2_mark_175 (lv_at hl 8 rfl) ?_
                        refine va_iald hx hb hK hP 1 0 rfl rfl (vp_in_nI (by omega) (by omega)) dX2_mark_177 ?_
                        refine lv_topi (fun v177 ev177 => ?_)
                        have e178 : v177 = ab w mc (y * w + x) := by rw [ev177, nI_clamp (by omega)]; exact (ab_at hx0).symm
                        refine lv_iload_n hx hb dX2_mark_178 rfl (lv_at hl 3 rfl) ?_
                        refine lv_icmp_ne (tgt := 201) hx hb dX2_mark_179 (by decide) (fun c179 => ?_) (fun c179 => ?_)
                        · have hadd : ¬ ADD w (w * h) (ab w mc) c (ab w mk') (y * w + x) := fun q => c179 (e178.trans q.2.1)
                          refine lv_iinc (v := nI (x + 1)) (lv' := [(7, .int (nI (x + 1))), (0, .ref (am 0)), (1, .int x0), (2, .int y0), (3, .int c), (4, .int (nI k)), (5, .int (nI go)), (6, .int (nI y)), (8, .int (nI (24 * y + x))), (9, .int bs)]) hx hb dX2_mark_201 hl (k := 7) rfl (nI_add _ 1) (by decide) rfl (fun ls hl => ?_)
                          refine lv_goto (tgt := 53) hx hb dX2_mark_204 (by decide) ?_
                          exact ihx (x + 1) k go mk' (by omega) hB (by rcases hgo with q | q; exact Or.inl ⟨q.1, q.2.1, fun i hi => by by_cases hxi : i = y * w + x; rw [hxi]; exact hadd; exact q.2.2 i (by omega)⟩; exact Or.inr q) (by omega) _ _ (hP.sub [0, 1, 2] rfl) (hD.sub [0, 1, 2] (by decide) rfl) hS ls (lv_sub hl [1, 2, 3, 4, 5, 6, 7, 0] rfl)
                        · refine lv_iload hx hb dX2_mark_182 (lv_at hl 9 rfl) ?_
                          refine lv_if_eq (tgt := 201) hx hb dX2_mark_184 (by decide) (fun c184 => ?_) (fun c184 => ?_)
                          · have hadd : ¬ ADD w (w * h) (ab w mc) c (ab w mk') (y * w + x) := fun q => (b01 hbs).mp c184 q.2.2
                            refine lv_iinc (v := nI (x + 1)) (lv' := [(7, .int (nI (x + 1))), (0, .ref (am 0)), (1, .int x0), (2, .int y0), (3, .int c), (4, .int (nI k)), (5, .int (nI go)), (6, .int (nI y)), (8, .int (nI (24 * y + x))), (9, .int bs)]) hx hb dX2_mark_201 hl (k := 7) rfl (nI_add _ 1) (by decide) rfl (fun ls hl => ?_)
                            refine lv_goto (tgt := 53) hx hb dX2_mark_204 (by decide) ?_
                            exact ihx (x + 1) k go mk' (by omega) hB (by rcases hgo with q | q; exact Or.inl ⟨q.1, q.2.1, fun i hi => by by_cases hxi : i = y * w + x; rw [hxi]; exact hadd; exact q.2.2 i (by omega)⟩; exact Or.inr q) (by omega) _ _ (hP.sub [0, 1, 2] rfl) (hD.sub [0, 1, 2] (by decide) rfl) hS ls (lv_sub hl [1, 2, 3, 4, 5, 6, 7, 0] rfl)
                          · have hadd : ADD w (w * h) (ab w mc) c (ab w mk') (y * w + x) := ⟨e168.symm.trans c168, e178.symm.trans c179, Classical.byContradiction (fun q => c184 ((b01 hbs).mpr q))⟩
                            refine lv_aload_n hx hb dX2_mark_187 rfl (lv_at hl 0 rfl) ?_
                            refine va_get (D := (dC, dI)) (ci := 2) (v := .ref (am 6)) (C := RX2) (T := TX2) (N := 8) hx hb hts (by decide +kernel) hown hK hP 0 rfl rfl 7 (by decide) (hts (.fieldLink RX2 25 "TriangleRasterModel" "marks" "[Z") (by decide +kernel)) (fun _ h9 => h9) rfl dX2_mark_188 ?_
                            refine lv_iload hx hb dX2_mark_191 (lv_at hl 8 rfl) ?_
                            refine lv_iconst (v := 1) hx hb dX2_mark_193 (by decide) ?_
                            refine va_zast hx hb hK hP hD hS 2 1 rfl rfl (vp_in_nI (by omega) (by omega)) dX2_mark_194 (fun H locs hP hD hS => ?_)
                            have hP : va_P (dC, dI) vwCl [(am 0, .inr (2, [.int (nI w), .int (nI h), .ref (am 1), .ref (am 2), .ref (am 3), .ref (am 4), .ref (am 5), .ref (am 6)])), (am 1, .inl (tm 1, 576, .inl mc)), (am 6, .inl (tm 6, 576, .inl (upd mk' (nI (24 * y + x)).toNatClampNeg 1)))] H := hP
                            have hD : va_D A [(am 0, .inr (2, [.int (nI w), .int (nI h), .ref (am 1), .ref (am 2), .ref (am 3), .ref (am 4), .ref (am 5), .ref (am 6)])), (am 1, .inl (tm 1, 576, .inl mc)), (am 6, .inl (tm 6, 576, .inl (upd mk' (nI (24 * y + x)).toNatClampNeg 1)))] := hD
                            rw [nI_clamp (by omega)] at hP hD
                            have hP : va_P (dC, dI) vwCl [(am 0, .inr (2, [.int (nI w), .int (nI h), .ref (am 1), .ref (am 2), .ref (am 3), .ref (am 4), .ref (am 5), .ref (am 6)])), (am 1, .inl (tm 1, 576, .inl mc)), (am 6, .inl (tm 6, 576, .inl (upd mk' (24 * y + x) 1)))] H := hP
                            have hD : va_D A [(am 0, .inr (2, [.int (nI w), .int (nI h), .ref (am 1), .ref (am 2), .ref (am 3), .ref (am 4), .ref (am 5), .ref (am 6)])), (am 1, .inl (tm 1, 576, .inl mc)), (am 6, .inl (tm 6, 576, .inl (upd mk' (24 * y + x) 1)))] := hD
                            refine lv_iinc (v := nI (k + 1)) (lv' := [(4, .int (nI (k + 1))), (0, .ref (am 0)), (1, .int x0), (2, .int y0), (3, .int c), (5, .int (nI go)), (6, .int (nI y)), (7, .int (nI x)), (8, .int (nI (24 * y + x))), (9, .int bs)]) hx hb dX2_mark_195 hl (k := 4) rfl (nI_add _ 1) (by decide) rfl (fun ls hl => ?_)
                            refine lv_iconst (v := 1) hx hb dX2_mark_198 (by decide) ?_
                            refine lv_topi (fun zz ezz => ?_)
                            obtain rfl : zz = nI 1 := ezz.trans (rfl)
                            refine lv_istore (lv' := [(5, .int (nI 1)), (4, .int (nI (k + 1))), (0, .ref (am 0)), (1, .int x0), (2, .int y0), (3, .int c), (6, .int (nI y)), (7, .int (nI x)), (8, .int (nI (24 * y + x))), (9, .int bs)]) hx hb dX2_mark_199 hl (by decide) rfl (fun ls hl => ?_)
                            refine lv_iinc (v := nI (x + 1)) (lv' := [(7, .int (nI (x + 1))), (5, .int (nI 1)), (4, .int (nI (k + 1))), (0, .ref (am 0)), (1, .int x0), (2, .int y0), (3, .int c), (6, .int (nI y)), (8, .int (nI (24 * y + x))), (9, .int bs)]) hx hb dX2_mark_201 hl (k := 7) rfl (nI_add _ 1) (by decide) rfl (fun ls hl => ?_)
                            refine lv_goto (tgt := 53) hx hb dX2_mark_204 (by decide) ?_
                            exact ihx (x + 1) (k + 1) 1 (upd mk' (24 * y + x) 1) (by omega) (by rw [ab_upd hw2 hx0]; exact BFM_add hO hB hlt hadd) (Or.inr ⟨rfl, by rcases hgo with q | q <;> omega⟩) (by omega) _ _ (hP.sub [0, 1, 2] rfl) (hD.sub [0, 1, 2] (by decide) rfl) hS ls (lv_sub hl [3, 4, 5, 6, 2, 1, 7, 0] rfl)
                    have j130 : ∀ (ls : Array Slot), ¬ (0 < x ∧ ¬ ab w mk' (y * w + (x - 1)) = 0) → ¬ (x + 1 < w ∧ ¬ ab w mk' (y * w + (x + 1)) = 0) → ¬ (0 < y ∧ ¬ ab w mk' ((y - 1) * w + x) = 0) → lv_has ls 10 [(0, .ref (am 0)), (1, .int x0), (2, .int y0), (3, .int c), (4, .int (nI k)), (5, .int (nI go)), (6, .int (nI y)), (7, .int (nI x)), (8, .int (nI (24 * y + x)))] → W p l e (headSpec wsX2_mark { frames := 0, cells := 0, slots := 0, locals := 0 }).room s m [.ref (am 0), .int x0, .int y0].toArray below meth cD H locs 0 0 (MQ below (va_Qi (fun (r : Int32) (u : (Nat → Int32) × Nat) => r = nI u.2 ∧ MPC w (w * h) (ab w mc) (ab w mk) c (lin w x0 y0) (ab w u.1) u.2) (mB (dC, dI) vwCl [(tm 1, .int), (tm 6, .boolean)] A (fun u => [(am 0, .inr (2, [.int (nI w), .int (nI h), .ref (am 1), .ref (am 2), .ref (am 3), .ref (am 4), .ref (am 5), .ref (am 6)])), (am 1, .inl (tm 1, 576, .inl mc)), (am 6, .inl (tm 6, 576, .inl u.1))])) A) [.ref (am 0), .int x0, .int y0].toArray s 0 0 A) (F0 m 130 ls []) := by
                      intro  ls n1 n2 n3 hl
                      refine lv_iload hx hb dX2_mark_130 (lv_at hl 6 rfl) ?_
                      refine lv_iconst (v := 1) hx hb dX2_mark_132 (by decide) ?_
                      refine lv_iadd hx hb dX2_mark_133 ?_
                      refine lv_topi (fun zz ezz => ?_)
                      obtain rfl : zz = nI (y + 1) := ezz.trans (nI_1 y)
                      refine lv_aload_n hx hb dX2_mark_134 rfl (lv_at hl 0 rfl) ?_
                      refine va_get (D := (dC, dI)) (ci := 2) (v := .int (nI h)) (C := RX2) (T := TX2) (N := 8) hx hb hts (by decide +kernel) hown hK hP 0 rfl rfl 1 (by decide) (hts (.fieldLink RX2 33 "TriangleRasterModel" "h" "I") (by decide +kernel)) (fun _ h9 => h9) rfl dX2_mark_135 ?_
                      refine lv_icmp_ge (tgt := 158) hx hb dX2_mark_138 (by decide) (fun c138 => ?_) (fun c138 => ?_)
                      · have b138 : ¬ y + 1 < h := by rw [nI_leI (by omega) (by omega)] at c138; omega
                        refine lv_iconst (v := 0) hx hb dX2_mark_158 (by decide) ?_
                        refine lv_istore (lv' := [(9, .int 0), (0, .ref (am 0)), (1, .int x0), (2, .int y0), (3, .int c), (4, .int (nI k)), (5, .int (nI go)), (6, .int (nI y)), (7, .int (nI x)), (8, .int (nI (24 * y + x)))]) hx hb dX2_mark_159 hl (by decide) rfl (fun ls hl => ?_)
                        have n4 : ¬ (y + 1 < h ∧ ¬ ab w mk' ((y + 1) * w + x) = 0) := fun q => absurd q.1 (by omega)
                        exact j161 0 ls (Or.inr ⟨fun q => ((BES_iff hx0 hy0).mpr q).elim n1 (fun q => q.elim n2 (fun q => q.elim n3 n4)), rfl⟩) (lv_sub hl [1, 2, 3, 4, 5, 6, 7, 8, 9, 0] rfl)
                      · have b138 : y + 1 < h := by rw [nI_leI (by omega) (by omega)] at c138; omega
                        refine lv_aload_n hx hb dX2_mark_141 rfl (lv_at hl 0 rfl) ?_
                        refine va_get (D := (dC, dI)) (ci := 2) (v := .ref (am 6)) (C := RX2) (T := TX2) (N := 8) hx hb hts (by decide +kernel) hown hK hP 0 rfl rfl 7 (by decide) (hts (.fieldLink RX2 25 "TriangleRasterModel" "marks" "[Z") (by decide +kernel)) (fun _ h9 => h9) rfl dX2_mark_142 ?_
                        refine lv_iload hx hb dX2_mark_145 (lv_at hl 8 rfl) ?_
                        refine lv_bipush (v := 24) hx hb dX2_mark_147 (by decide) ?_
                        refine lv_iadd hx hb dX2_mark_149 ?_
                        refine lv_topi (fun zz ezz => ?_)
                        obtain rfl : zz = nI (24 * (y + 1) + x) := ezz.trans ((by rw [show (24 : Int32) = nI 24 from rfl, nI_add]; congr 1; omega))
                        refine va_zald hx hb hK hP 2 1 rfl rfl (vp_in_nI (by omega) (by omega)) dX2_mark_150 ?_
                        refine lv_topi (fun e151_ ee151_ => ?_)
                        have e151 : e151_ = ab w mk' ((y + 1) * w + x) := by rw [ee151_, nI_clamp (by omega)]; exact (ab_at hx0).symm
                        refine lv_if_eq (tgt := 158) hx hb dX2_mark_151 (by decide) (fun c151 => ?_) (fun c151 => ?_)
                        · refine lv_iconst (v := 0) hx hb dX2_mark_158 (by decide) ?_
                          refine lv_istore (lv' := [(9, .int 0), (0, .ref (am 0)), (1, .int x0), (2, .int y0), (3, .int c), (4, .int (nI k)), (5, .int (nI go)), (6, .int (nI y)), (7, .int (nI x)), (8, .int (nI (24 * y + x)))]) hx hb dX2_mark_159 hl (by decide) rfl (fun ls hl => ?_)
                          have n4 : ¬ (y + 1 < h ∧ ¬ ab w mk' ((y + 1) * w + x) = 0) := fun q => q.2 (e151.symm.trans c151)
                          exact j161 0 ls (Or.inr ⟨fun q => ((BES_iff hx0 hy0).mpr q).elim n1 (fun q => q.elim n2 (fun q => q.elim n3 n4)), rfl⟩) (lv_sub hl [1, 2, 3, 4, 5, 6, 7, 8, 9, 0] rfl)
                        · refine lv_iconst (v := 1) hx hb dX2_mark_154 (by decide) ?_
                          refine lv_goto (tgt := 159) hx hb dX2_mark_155 (by decide) ?_
                          refine lv_istore (lv' := [(9, .int 1), (0, .ref (am 0)), (1, .int x0), (2, .int y0), (3, .int c), (4, .int (nI k)), (5, .int (nI go)), (6, .int (nI y)), (7, .int (nI x)), (8, .int (nI (24 * y + x)))]) hx hb dX2_mark_159 hl (by decide) rfl (fun ls hl => ?_)
                          exact j161 1 ls (Or.inl ⟨(BES_iff hx0 hy0).mp (Or.inr (Or.inr (Or.inr ⟨by omega, fun q => c151 (e151.trans q)⟩))), rfl⟩) (lv_sub hl [1, 2, 3, 4, 5, 6, 7, 8, 9, 0] rfl)
                    have j112 : ∀ (ls : Array Slot), ¬ (0 < x ∧ ¬ ab w mk' (y * w + (x - 1)) = 0) → ¬ (x + 1 < w ∧ ¬ ab w mk' (y * w + (x + 1)) = 0) → lv_has ls 10 [(0, .ref (am 0)), (1, .int x0), (2, .int y0), (3, .int c), (4, .int (nI k)), (5, .int (nI go)), (6, .int (nI y)), (7, .int (nI x)), (8, .int (nI (24 * y + x)))] → W p l e (headSpec wsX2_mark { frames := 0, cells := 0, slots := 0, locals := 0 }).room s m [.ref (am 0), .int x0, .int y0].toArray below meth cD H locs 0 0 (MQ below (va_Qi (fun (r : Int32) (u : (Nat → Int32) × Nat) => r = nI u.2 ∧ MPC w (w * h) (ab w mc) (ab w mk) c (lin w x0 y0) (ab w u.1) u.2) (mB (dC, dI) vwCl [(tm 1, .int), (tm 6, .boolean)] A (fun u => [(am 0, .inr (2, [.int (nI w), .int (nI h), .ref (am 1), .ref (am 2), .ref (am 3), .ref (am 4), .ref (am 5), .ref (am 6)])), (am 1, .inl (tm 1, 576, .inl mc)), (am 6, .inl (tm 6, 576, .inl u.1))])) A) [.ref (am 0), .int x0, .int y0].toArray s 0 0 A) (F0 m 112 ls []) := by
                      intro  ls n1 n2 hl
                      refine lv_iload hx hb dX2_mark_112 (lv_at hl 6 rfl) ?_
                      refine lv_if_le (tgt := 130) hx hb dX2_mark_114 (by decide) (fun c114 => ?_) (fun c114 => ?_)
                      · have b114 := nI_le0 (by omega) c114
                        have n3 : ¬ (0 < y ∧ ¬ ab w mk' ((y - 1) * w + x) = 0) := fun q => absurd q.1 (by omega)
                        exact j130  ls n1 n2 n3 (lv_sub hl [0, 1, 2, 3, 4, 5, 6, 7, 8] rfl)
                      · have b114 := nI_gt0 c114
                        refine lv_aload_n hx hb dX2_mark_117 rfl (lv_at hl 0 rfl) ?_
                        refine va_get (D := (dC, dI)) (ci := 2) (v := .ref (am 6)) (C := RX2) (T := TX2) (N := 8) hx hb hts (by decide +kernel) hown hK hP 0 rfl rfl 7 (by decide) (hts (.fieldLink RX2 25 "TriangleRasterModel" "marks" "[Z") (by decide +kernel)) (fun _ h9 => h9) rfl dX2_mark_118 ?_
                        refine lv_iload hx hb dX2_mark_121 (lv_at hl 8 rfl) ?_
                        refine lv_bipush (v := 24) hx hb dX2_mark_123 (by decide) ?_
                        refine lv_isub hx hb dX2_mark_125 ?_
                        refine lv_topi (fun zz ezz => ?_)
                        obtain rfl : zz = nI (24 * (y - 1) + x) := ezz.trans ((by rw [show (24 : Int32) = nI 24 from rfl, pk_sub (by omega)]; congr 1; omega))
                        refine va_zald hx hb hK hP 2 1 rfl rfl (vp_in_nI (by omega) (by omega)) dX2_mark_126 ?_
                        refine lv_topi (fun e127_ ee127_ => ?_)
                        have e127 : e127_ = ab w mk' ((y - 1) * w + x) := by rw [ee127_, nI_clamp (by omega)]; exact (ab_at hx0).symm
                        refine lv_if_ne (tgt := 154) hx hb dX2_mark_127 (by decide) (fun c127 => ?_) (fun c127 => ?_)
                        · refine lv_iconst (v := 1) hx hb dX2_mark_154 (by decide) ?_
                          refine lv_goto (tgt := 159) hx hb dX2_mark_155 (by decide) ?_
                          refine lv_istore (lv' := [(9, .int 1), (0, .ref (am 0)), (1, .int x0), (2, .int y0), (3, .int c), (4, .int (nI k)), (5, .int (nI go)), (6, .int (nI y)), (7, .int (nI x)), (8, .int (nI (24 * y + x)))]) hx hb dX2_mark_159 hl (by decide) rfl (fun ls hl => ?_)
                          exact j161 1 ls (Or.inl ⟨(BES_iff hx0 hy0).mp (Or.inr (Or.inr (Or.inl ⟨by omega, fun q => c127 (e127.trans q)⟩))), rfl⟩) (lv_sub hl [1, 2, 3, 4, 5, 6, 7, 8, 9, 0] rfl)
                        · have n3 : ¬ (0 < y ∧ ¬ ab w mk' ((y - 1) * w + x) = 0) := fun q => q.2 (e127.symm.trans c127)
                          exact j130  ls n1 n2 n3 (lv_sub hl [0, 1, 2, 3, 4, 5, 6, 7, 8] rfl)
                    have j89 : ∀ (ls : Array Slot), ¬ (0 < x ∧ ¬ ab w mk' (y * w + (x - 1)) = 0) → lv_has ls 10 [(0, .ref (am 0)), (1, .int x0), (2, .int y0), (3, .int c), (4, .int (nI k)), (5, .int (nI go)), (6, .int (nI y)), (7, .int (nI x)), (8, .int (nI (24 * y + x)))] → W p l e (headSpec wsX2_mark { frames := 0, cells := 0, slots := 0, locals := 0 }).room s m [.ref (am 0), .int x0, .int y0].toArray below meth cD H locs 0 0 (MQ below (va_Qi (fun (r : Int32) (u : (Nat → Int32) × Nat) => r = nI u.2 ∧ MPC w (w * h) (ab w mc) (ab w mk) c (lin w x0 y0) (ab w u.1) u.2) (mB (dC, dI) vwCl [(tm 1, .int), (tm 6, .boolean)] A (fun u => [(am 0, .inr (2, [.int (nI w), .int (nI h), .ref (am 1), .ref (am 2), .ref (am 3), .ref (am 4), .ref (am 5), .ref (am 6)])), (am 1, .inl (tm 1, 576, .inl mc)), (am 6, .inl (tm 6, 576, .inl u.1))])) A) [.ref (am 0), .int x0, .int y0].toArray s 0 0 A) (F0 m 89 ls []) := by
                      intro  ls n1 hl
                      refine lv_iload hx hb dX2_mark_89 (lv_at hl 7 rfl) ?_
                      refine lv_iconst (v := 1) hx hb dX2_mark_91 (by decide) ?_
                      refine lv_iadd hx hb dX2_mark_92 ?_
                      refine lv_topi (fun zz ezz => ?_)
                      obtain rfl : zz = nI (x + 1) := ezz.trans (nI_1 x)
                      refine lv_aload_n hx hb dX2_mark_93 rfl (lv_at hl 0 rfl) ?_
                      refine va_get (D := (dC, dI)) (ci := 2) (v := .int (nI w)) (C := RX2) (T := TX2) (N := 8) hx hb hts (by decide +kernel) hown hK hP 0 rfl rfl 0 (by decide) (hts (.fieldLink RX2 29 "TriangleRasterModel" "w" "I") (by decide +kernel)) (fun _ h9 => h9) rfl dX2_mark_94 ?_
                      refine lv_icmp_ge (tgt := 112) hx hb dX2_mark_97 (by decide) (fun c97 => ?_) (fun c97 => ?_)
                      · have b97 : ¬ x + 1 < w := by rw [nI_leI (by omega) (by omega)] at c97; omega
                        have n2 : ¬ (x + 1 < w ∧ ¬ ab w mk' (y * w + (x + 1)) = 0) := fun q => absurd q.1 (by omega)
                        exact j112  ls n1 n2 (lv_sub hl [0, 1, 2, 3, 4, 5, 6, 7, 8] rfl)
                      · have b97 : x + 1 < w := by rw [nI_leI (by omega) (by omega)] at c97; omega
                        refine lv_aload_n hx hb dX2_mark_100 rfl (lv_at hl 0 rfl) ?_
                        refine va_get (D := (dC, dI)) (ci := 2) (v := .ref (am 6)) (C := RX2) (T := TX2) (N := 8) hx hb hts (by decide +kernel) hown hK hP 0 rfl rfl 7 (by decide) (hts (.fieldLink RX2 25 "TriangleRasterModel" "marks" "[Z") (by decide +kernel)) (fun _ h9 => h9) rfl dX2_mark_101 ?_
                        refine lv_iload hx hb dX2_mark_104 (lv_at hl 8 rfl) ?_
                        refine lv_iconst (v := 1) hx hb dX2_mark_106 (by decide) ?_
                        refine lv_iadd hx hb dX2_mark_107 ?_
                        refine lv_topi (fun zz ezz => ?_)
                        obtain rfl : zz = nI (24 * y + (x + 1)) := ezz.trans (nI_1 _)
                        refine va_zald hx hb hK hP 2 1 rfl rfl (vp_in_nI (by omega) (by omega)) dX2_mark_108 ?_
                        refine lv_topi (fun e109_ ee109_ => ?_)
                        have e109 : e109_ = ab w mk' (y * w + (x + 1)) := by rw [ee109_, nI_clamp (by omega)]; exact (ab_at (by omega)).symm
                        refine lv_if_ne (tgt := 154) hx hb dX2_mark_109 (by decide) (fun c109 => ?_) (fun c109 => ?_)
                        · refine lv_iconst (v := 1) hx hb dX2_mark_154 (by decide) ?_
                          refine lv_goto (tgt := 159) hx hb dX2_mark_155 (by decide) ?_
                          refine lv_istore (lv' := [(9, .int 1), (0, .ref (am 0)), (1, .int x0), (2, .int y0), (3, .int c), (4, .int (nI k)), (5, .int (nI go)), (6, .int (nI y)), (7, .int (nI x)), (8, .int (nI (24 * y + x)))]) hx hb dX2_mark_159 hl (by decide) rfl (fun ls hl => ?_)
                          exact j161 1 ls (Or.inl ⟨(BES_iff hx0 hy0).mp (Or.inr (Or.inl ⟨by omega, fun q => c109 (e109.trans q)⟩)), rfl⟩) (lv_sub hl [1, 2, 3, 4, 5, 6, 7, 8, 9, 0] rfl)
                        · have n2 : ¬ (x + 1 < w ∧ ¬ ab w mk' (y * w + (x + 1)) = 0) := fun q => q.2 (e109.symm.trans c109)
                          exact j112  ls n1 n2 (lv_sub hl [0, 1, 2, 3, 4, 5, 6, 7, 8] rfl)
                    refine lv_iload hx hb dX2_mark_72 (lv_at hl 8 rfl) ?_
                    refine lv_if_le (tgt := 89) hx hb dX2_mark_74 (by decide) (fun c74 => ?_) (fun c74 => ?_)
                    · have b74 := nI_le0 (by omega) c74
                      have n1 : ¬ (0 < x ∧ ¬ ab w mk' (y * w + (x - 1)) = 0) := fun q => absurd q.1 (by omega)
                      exact j89  ls n1 (lv_sub hl [1, 2, 3, 4, 5, 6, 7, 8, 0] rfl)
                    · have b74 := nI_gt0 c74
                      refine lv_aload_n hx hb dX2_mark_77 rfl (lv_at hl 1 rfl) ?_
                      refine va_get (D := (dC, dI)) (ci := 2) (v := .ref (am 6)) (C := RX2) (T := TX2) (N := 8) hx hb hts (by decide +kernel) hown hK hP 0 rfl rfl 7 (by decide) (hts (.fieldLink RX2 25 "TriangleRasterModel" "marks" "[Z") (by decide +kernel)) (fun _ h9 => h9) rfl dX2_mark_78 ?_
                      refine lv_iload hx hb dX2_mark_81 (lv_at hl 0 rfl) ?_
                      refine lv_iconst (v := 1) hx hb dX2_mark_83 (by decide) ?_
                      refine lv_isub hx hb dX2_mark_84 ?_
                      refine lv_topi (fun zz ezz => ?_)
                      obtain rfl : zz = nI (24 * y + (x - 1)) := ezz.trans ((by rw [show 24 * y + x = (24 * y + (x - 1)) + 1 by omega]; exact nI_pred _))
                      refine va_zald hx hb hK hP 2 1 rfl rfl (vp_in_nI (by omega) (by omega)) dX2_mark_85 ?_
                      refine lv_topi (fun e86_ ee86_ => ?_)
                      have e86 : e86_ = ab w mk' (y * w + (x - 1)) := by rw [ee86_, nI_clamp (by omega)]; exact (ab_at (by omega)).symm
                      refine lv_if_ne (tgt := 154) hx hb dX2_mark_86 (by decide) (fun c86 => ?_) (fun c86 => ?_)
                      · refine lv_iconst (v := 1) hx hb dX2_mark_154 (by decide) ?_
                        refine lv_goto (tgt := 159) hx hb dX2_mark_155 (by decide) ?_
                        refine lv_istore (lv' := [(9, .int 1), (8, .int (nI (24 * y + x))), (0, .ref (am 0)), (1, .int x0), (2, .int y0), (3, .int c), (4, .int (nI k)), (5, .int (nI go)), (6, .int (nI y)), (7, .int (nI x))]) hx hb dX2_mark_159 hl (by decide) rfl (fun ls hl => ?_)
                        exact j161 1 ls (Or.inl ⟨(BES_iff hx0 hy0).mp (Or.inl ⟨by omega, fun q => c86 (e86.trans q)⟩), rfl⟩) (lv_sub hl [2, 3, 4, 5, 6, 7, 8, 9, 1, 0] rfl)
                      · have n1 : ¬ (0 < x ∧ ¬ ab w mk' (y * w + (x - 1)) = 0) := fun q => q.2 (e86.symm.trans c86)
                        exact j89  ls n1 (lv_sub hl [1, 2, 3, 4, 5, 6, 7, 8, 0] rfl)
              exact cols (w + 1) 0 k go mk' (Nat.zero_le _) hB hgo (by omega) _ _ (hP.sub [0, 1, 2] rfl) (hD.sub [0, 1, 2] (by decide) rfl) hS ls (lv_sub hl [1, 2, 3, 4, 5, 6, 7, 0] rfl)
        exact rows (h + 1) 0 k 0 mk' (Nat.zero_le _) hB (Or.inl ⟨rfl, hk0.symm, fun i hi => absurd hi (by rw [Nat.zero_mul]; exact Nat.not_lt_zero i)⟩) (by omega) _ _ (hP.sub [0, 1, 2] rfl) (hD.sub [0, 1, 2] (by decide) rfl) hS ls (lv_sub hl [2, 3, 4, 5, 6, 1, 0] rfl)
  exact sweeps (w * h + 3) 1 1 _ hB0 (Or.inr rfl) (by omega) _ _ (hP.sub [0, 1, 2] rfl) (hD.sub [0, 1, 2] (by decide) rfl) hS ls (lv_sub hl [3, 4, 5, 2, 1, 0] rfl)

set_option maxHeartbeats 1000000 in
set_option maxRecDepth 100000 in
/-- fill -/
theorem c_X2_fill (l : Launch) (dC : Nat → ClassId) (dI : Nat → Nat → Nat) (sz : Nat) (am : Nat → Nat) (tm : Nat → ClassId) (w h : Nat) (mc mk : Nat → Int32) (hw1 : 1 ≤ w) (hw2 : w ≤ 24) (hh1 : 1 ≤ h) (hh2 : h ≤ 24) (x y c : Int32) : Met l yX2_fill wsX2_fill ({ frames := 1, cells := 0, slots := 0, locals := 29 }) (mP (dC, dI) vwCl [(tm 1, .int), (tm 6, .boolean)] [(am 0, .inr (2, [.int (nI w), .int (nI h), .ref (am 1), .ref (am 2), .ref (am 3), .ref (am 4), .ref (am 5), .ref (am 6)])), (am 1, .inl (tm 1, 576, .inl mc)), (am 6, .inl (tm 6, 576, .inl mk))] sz [.ref (am 0), .int x, .int y, .int c]) (va_Qi (fun (r : Int32) (u : (Nat → Int32) × (Nat → Int32)) => (¬ (inX w h x y ∧ ¬ ab w mc (lin w x y) = c) ∧ r = 0 ∧ u.1 = mc) ∨ ((inX w h x y ∧ ¬ ab w mc (lin w x y) = c) ∧ r = nI (cnt (hang w (w * h) (fun a => ab w mc a = ab w mc (lin w x y)) (lin w x y)) (w * h)) ∧ LFin (w * h) (hang w (w * h) (fun a => ab w mc a = ab w mc (lin w x y)) (lin w x y)) (ab w mc) c (ab w u.1))) (mB (dC, dI) vwCl [(tm 1, .int), (tm 6, .boolean)] (va_A [(am 0, .inr (2, [.int (nI w), .int (nI h), .ref (am 1), .ref (am 2), .ref (am 3), .ref (am 4), .ref (am 5), .ref (am 6)])), (am 1, .inl (tm 1, 576, .inl mc)), (am 6, .inl (tm 6, 576, .inl mk))] sz) (fun u => [(am 0, .inr (2, [.int (nI w), .int (nI h), .ref (am 1), .ref (am 2), .ref (am 3), .ref (am 4), .ref (am 5), .ref (am 6)])), (am 1, .inl (tm 1, 576, .inl u.1)), (am 6, .inl (tm 6, 576, .inl u.2))])) (va_A [(am 0, .inr (2, [.int (nI w), .int (nI h), .ref (am 1), .ref (am 2), .ref (am 3), .ref (am 4), .ref (am 5), .ref (am 6)])), (am 1, .inl (tm 1, 576, .inl mc)), (am 6, .inl (tm 6, 576, .inl mk))] sz)) 0 0 (va_A [(am 0, .inr (2, [.int (nI w), .int (nI h), .ref (am 1), .ref (am 2), .ref (am 3), .ref (am 4), .ref (am 5), .ref (am 6)])), (am 1, .inl (tm 1, 576, .inl mc)), (am 6, .inl (tm 6, 576, .inl mk))] sz) := by
  refine Met.ofW (cc := cX2_fill) (maxL := 6) (ret := (some .int)) (by decide) rfl ?_
  intro p e s m args below meth cD s₁ B hml hv
  obtain ⟨rfl, hsz, hP, hK, hD0, hN⟩ := hv
  have hx := B.exec
  have hb := B.bytes
  have hr := B.returns
  have hts := atoms_spec (ws := wsX2_fill) B.pre
  have hown : s.vm.findClass RX2 = some m.cls := findClass_of_methodNamed B.named
  have hlocks := B.notSynchronized
  subst hsz
  have hD := hD0.self (sz := s.heap.size)
  generalize hAe : va_A [(am 0, .inr (2, [.int (nI w), .int (nI h), .ref (am 1), .ref (am 2), .ref (am 3), .ref (am 4), .ref (am 5), .ref (am 6)])), (am 1, .inl (tm 1, 576, .inl mc)), (am 6, .inl (tm 6, 576, .inl mk))] s.heap.size = A at hD ⊢
  have hA : ∀ q : Nat, s.heap.size ≤ q → A q := fun q h => by rw [← hAe]; exact Or.inr h
  have hS : va_S A s.heap s.heap [] := va_S.rf
  have hP : va_P (dC, dI) vwCl [(am 0, .inr (2, [.int (nI w), .int (nI h), .ref (am 1), .ref (am 2), .ref (am 3), .ref (am 4), .ref (am 5), .ref (am 6)])), (am 1, .inl (tm 1, 576, .inl mc)), (am 6, .inl (tm 6, 576, .inl mk))] s.heap := hP
  have hl := lv_entry ([.ref (am 0), .int x, .int y, .int c]) (n := 6) (Nat.le_of_ble_eq_true rfl)
  rw [lg_entry_eq]
  generalize (lg_sl ([.ref (am 0), .int x, .int y, .int c]) ++ List.replicate (6 - (lg_sl ([.ref (am 0), .int x, .int y, .int c])).length) Slot.unset).toArray = ls at hl ⊢
  have hl : lv_has ls 6 [(0, .ref (am 0)), (1, .int x), (2, .int y), (3, .int c)] := hl
  refine lv_aload_n hx hb dX2_fill_0 rfl (lv_at hl 0 rfl) ?_
  refine lv_iload_n hx hb dX2_fill_1 rfl (lv_at hl 1 rfl) ?_
  refine lv_iload_n hx hb dX2_fill_2 rfl (lv_at hl 2 rfl) ?_
  refine m_calli (cs := [(am 0, .inr (2, [.int (nI w), .int (nI h), .ref (am 1), .ref (am 2), .ref (am 3), .ref (am 4), .ref (am 5), .ref (am 6)]))]) (wr := [(am 1, .inl (tm 1, 576, .inl mc)), (am 6, .inl (tm 6, 576, .inl mk))]) hP hD hS hA [0] [1, 2] rfl rfl (by decide) (by decide) (va_runV (As := [.int x, .int y]) (rest := []) ⟨hx, hb, hml, hown, hts⟩ (c_X2_isPixel l dC dI _ am w h hw1 hw2 hh1 hh2 x y) (cwV 2 hts gX2_fill_X2_isPixel rfl rfl rfl (by decide +kernel) ⟨Nat.le_of_ble_eq_true rfl, Nat.le_of_ble_eq_true rfl⟩) (m_preV (ci := 2) (q0 := 0) (hP.sub [0] rfl) (hK.sub [] rfl) (hD.sub [0] (by decide) rfl) hN rfl rfl) rfl rfl hl.1 rfl (lv_room (Nat.le_of_ble_eq_true rfl)) dX2_fill_3 ⟨Nat.le_of_ble_eq_true rfl, Nat.le_of_ble_eq_true rfl⟩) (fun r3 _ H locs q3 hK2 hP hD hS => ?_)
  have hP : va_P (dC, dI) vwCl [(am 0, .inr (2, [.int (nI w), .int (nI h), .ref (am 1), .ref (am 2), .ref (am 3), .ref (am 4), .ref (am 5), .ref (am 6)])), (am 1, .inl (tm 1, 576, .inl mc)), (am 6, .inl (tm 6, 576, .inl mk))] H := hP.sub [2, 0, 1] rfl
  have hD : va_D A [(am 0, .inr (2, [.int (nI w), .int (nI h), .ref (am 1), .ref (am 2), .ref (am 3), .ref (am 4), .ref (am 5), .ref (am 6)])), (am 1, .inl (tm 1, 576, .inl mc)), (am 6, .inl (tm 6, 576, .inl mk))] := hD.sub [2, 0, 1] (by decide) rfl
  refine lv_if_eq (tgt := 24) hx hb dX2_fill_6 (by decide) (fun c6 => ?_) (fun c6 => ?_)
  · refine lv_iconst (v := 0) hx hb dX2_fill_24 (by decide) ?_
    have hP9 := hP.sub (ws' := [(am 0, .inr (2, [.int (nI w), .int (nI h), .ref (am 1), .ref (am 2), .ref (am 3), .ref (am 4), .ref (am 5), .ref (am 6)])), (am 1, .inl (tm 1, 576, .inl mc)), (am 6, .inl (tm 6, 576, .inl mk))]) [0, 1, 2] rfl
    have hD9 := hD.sub (ws' := [(am 0, .inr (2, [.int (nI w), .int (nI h), .ref (am 1), .ref (am 2), .ref (am 3), .ref (am 4), .ref (am 5), .ref (am 6)])), (am 1, .inl (tm 1, 576, .inl mc)), (am 6, .inl (tm 6, 576, .inl mk))]) [0, 1, 2] (by decide) rfl
    exact W.iret (v := 0) hx hb hr (fun t ht hW => ⟨⟨0, (mc, mk), rfl, Or.inl ⟨fun q => (b01 q3).mp c6 q.1, rfl, rfl⟩, by rw [ht]; exact hP9, va_K.moved hW.alike hK, hD9⟩, hS.F ht⟩) hS.2.2 dX2_fill_25
  · have hin := Classical.byContradiction (fun h => c6 ((b01 q3).mpr h))
    have hlt : 24 * y.toInt.toNat + x.toInt.toNat < 576 := by have g := hin; unfold inX at g; omega
    have hwh := wh_le hw2 hh2
    refine lv_aload_n hx hb dX2_fill_9 rfl (lv_at hl 0 rfl) ?_
    refine va_get (D := (dC, dI)) (ci := 2) (v := .ref (am 1)) (C := RX2) (T := TX2) (N := 8) hx hb hts (by decide +kernel) hown hK hP 0 rfl rfl 2 (by decide) (hts (.fieldLink RX2 7 "TriangleRasterModel" "colours" "[I") (by decide +kernel)) (fun _ h9 => h9) rfl dX2_fill_10 ?_
    refine lv_bipush (v := 24) hx hb dX2_fill_13 (by decide) ?_
    refine lv_iload_n hx hb dX2_fill_15 rfl (lv_at hl 2 rfl) ?_
    refine lv_imul hx hb dX2_fill_16 ?_
    refine lv_iload_n hx hb dX2_fill_17 rfl (lv_at hl 1 rfl) ?_
    refine lv_iadd hx hb dX2_fill_18 ?_
    refine lv_topi (fun zz ezz => ?_)
    obtain rfl : zz = nI (24 * y.toInt.toNat + x.toInt.toNat) := ezz.trans (ix24X hin)
    refine va_iald hx hb hK hP 1 0 rfl rfl (vp_in_nI hlt (by omega)) dX2_fill_19 ?_
    refine lv_topi (fun v19 ev19 => ?_)
    have e19 : v19 = ab w mc (lin w x y) := by rw [ev19, nI_clamp (by omega)]; exact (ab_lin hin).symm
    refine lv_iload_n hx hb dX2_fill_20 rfl (lv_at hl 3 rfl) ?_
    refine lv_icmp_ne (tgt := 26) hx hb dX2_fill_21 (by decide) (fun c21 => ?_) (fun c21 => ?_)
    · refine lv_aload_n hx hb dX2_fill_26 rfl (lv_at hl 0 rfl) ?_
      refine m_callv (cs := [(am 0, .inr (2, [.int (nI w), .int (nI h), .ref (am 1), .ref (am 2), .ref (am 3), .ref (am 4), .ref (am 5), .ref (am 6)])), (am 6, .inl (tm 6, 576, .inl mk))]) (wr := [(am 1, .inl (tm 1, 576, .inl mc))]) hP hD hS hA [0, 2] [1] rfl rfl (by decide) (by decide) (va_runV (As := []) (rest := []) ⟨hx, hb, hml, hown, hts⟩ (c_X2_unmark l dC dI _ am tm w h mk) (cwV 0 hts gX2_fill_X2_unmark rfl rfl rfl (by decide +kernel) ⟨Nat.le_of_ble_eq_true rfl, Nat.le_of_ble_eq_true rfl⟩) (m_preV (ci := 2) (q0 := 0) (hP.sub [0, 2] rfl) (hK.sub [1] rfl) (hD.sub [0, 2] (by decide) rfl) hN rfl rfl) rfl rfl hl.1 rfl (lv_room (Nat.le_of_ble_eq_true rfl)) dX2_fill_27 ⟨Nat.le_of_ble_eq_true rfl, Nat.le_of_ble_eq_true rfl⟩) (fun g27 H locs q27 hK2 hP hD hS => ?_)
      have hP : va_P (dC, dI) vwCl [(am 0, .inr (2, [.int (nI w), .int (nI h), .ref (am 1), .ref (am 2), .ref (am 3), .ref (am 4), .ref (am 5), .ref (am 6)])), (am 1, .inl (tm 1, 576, .inl mc)), (am 6, .inl (tm 6, 576, .inl g27))] H := hP.sub [1, 0, 2] rfl
      have hD : va_D A [(am 0, .inr (2, [.int (nI w), .int (nI h), .ref (am 1), .ref (am 2), .ref (am 3), .ref (am 4), .ref (am 5), .ref (am 6)])), (am 1, .inl (tm 1, 576, .inl mc)), (am 6, .inl (tm 6, 576, .inl g27))] := hD.sub [1, 0, 2] (by decide) rfl
      refine lv_aload_n hx hb dX2_fill_30 rfl (lv_at hl 0 rfl) ?_
      refine lv_iload_n hx hb dX2_fill_31 rfl (lv_at hl 1 rfl) ?_
      refine lv_iload_n hx hb dX2_fill_32 rfl (lv_at hl 2 rfl) ?_
      refine m_calli (cs := [(am 0, .inr (2, [.int (nI w), .int (nI h), .ref (am 1), .ref (am 2), .ref (am 3), .ref (am 4), .ref (am 5), .ref (am 6)])), (am 1, .inl (tm 1, 576, .inl mc)), (am 6, .inl (tm 6, 576, .inl g27))]) (wr := []) hP hD hS hA [0, 1, 2] [] rfl rfl (by decide) (by decide) (va_runV (As := [.int x, .int y]) (rest := []) ⟨hx, hb, hml, hown, hts⟩ (c_X2_mark l dC dI _ am tm w h mc g27 hw1 hw2 hh1 hh2 x y (ab w mc (lin w x y)) hin rfl (q27 _ (by have := ab_ix hw2 hh2 (lin_lt hin); exact this)) (OLD_0 (fun i hi => q27 _ (ab_ix hw2 hh2 hi)))) (cwV 2 hts gX2_fill_X2_mark rfl rfl rfl (by decide +kernel) ⟨Nat.le_of_ble_eq_true rfl, Nat.le_of_ble_eq_true rfl⟩) (m_preV (ci := 2) (q0 := 0) (hP.sub [0, 1, 2] rfl) (hK.sub [0, 1] rfl) (hD.sub [0, 1, 2] (by decide) rfl) hN rfl rfl) rfl rfl hl.1 rfl (lv_room (Nat.le_of_ble_eq_true rfl)) dX2_fill_33 ⟨Nat.le_of_ble_eq_true rfl, Nat.le_of_ble_eq_true rfl⟩) (fun r33 u33 H locs q33 hK2 hP hD hS => ?_)
      obtain ⟨mk33, k33⟩ := u33
      have hP : va_P (dC, dI) vwCl [(am 0, .inr (2, [.int (nI w), .int (nI h), .ref (am 1), .ref (am 2), .ref (am 3), .ref (am 4), .ref (am 5), .ref (am 6)])), (am 1, .inl (tm 1, 576, .inl mc)), (am 6, .inl (tm 6, 576, .inl mk33))] H := hP.sub [0, 1, 2] rfl
      have hD : va_D A [(am 0, .inr (2, [.int (nI w), .int (nI h), .ref (am 1), .ref (am 2), .ref (am 3), .ref (am 4), .ref (am 5), .ref (am 6)])), (am 1, .inl (tm 1, 576, .inl mc)), (am 6, .inl (tm 6, 576, .inl mk33))] := hD.sub [0, 1, 2] (by decide) rfl
      obtain ⟨e33, p1, p2⟩ := q33
      have e33 : r33 = nI k33 := e33
      have p1 : k33 = _ := p1
      have p2 : ∀ i, i < w * h → (¬ ab w mk33 i = 0 ↔ (¬ ab w g27 i = 0 ∨ hang w (w * h) (fun a => ab w mc a = ab w mc (lin w x y)) (lin w x y) i)) := p2
      have p3 : ∀ i, i < w * h → (¬ ab w mk33 i = 0 ↔ hang w (w * h) (fun a => ab w mc a = ab w mc (lin w x y)) (lin w x y) i) := fun i hi => by
        rw [p2 i hi]
        exact ⟨fun q => q.elim (fun q => absurd (q27 _ (ab_ix hw2 hh2 hi)) q) id, Or.inr⟩
      refine lv_istore (lv' := [(4, .int r33), (0, .ref (am 0)), (1, .int x), (2, .int y), (3, .int c)]) hx hb dX2_fill_36 hl (by decide) rfl (fun ls hl => ?_)
      refine lv_iconst (v := 0) hx hb dX2_fill_38 (by decide) ?_
      refine lv_topi (fun zz ezz => ?_)
      obtain rfl : zz = nI 0 := ezz.trans (nI_0.symm)
      refine lv_istore (lv' := [(5, .int (nI 0)), (4, .int r33), (0, .ref (am 0)), (1, .int x), (2, .int y), (3, .int c)]) hx hb dX2_fill_39 hl (by decide) rfl (fun ls hl => ?_)
      have loop : ∀ (n : Nat) (ti : Nat) (g : Nat → Int32), ti ≤ 576 → MFI mk33 mc c ti g → 576 + 1 ≤ ti + n → ∀ (H : Heap) (locs : List Loc), va_P (dC, dI) vwCl [(am 0, .inr (2, [.int (nI w), .int (nI h), .ref (am 1), .ref (am 2), .ref (am 3), .ref (am 4), .ref (am 5), .ref (am 6)])), (am 1, .inl (tm 1, 576, .inl g)), (am 6, .inl (tm 6, 576, .inl mk33))] H → va_D A [(am 0, .inr (2, [.int (nI w), .int (nI h), .ref (am 1), .ref (am 2), .ref (am 3), .ref (am 4), .ref (am 5), .ref (am 6)])), (am 1, .inl (tm 1, 576, .inl g)), (am 6, .inl (tm 6, 576, .inl mk33))] → va_S A s.heap H locs → ∀ (ls : Array Slot), lv_has ls 6 [(0, .ref (am 0)), (1, .int x), (2, .int y), (3, .int c), (4, .int r33), (5, .int (nI ti))] → W p l e (headSpec wsX2_fill { frames := 1, cells := 0, slots := 0, locals := 29 }).room s m [.ref (am 0), .int x, .int y, .int c].toArray below meth cD H locs 0 0 (MQ below (va_Qi (fun (r : Int32) (u : (Nat → Int32) × (Nat → Int32)) => (¬ (inX w h x y ∧ ¬ ab w mc (lin w x y) = c) ∧ r = 0 ∧ u.1 = mc) ∨ ((inX w h x y ∧ ¬ ab w mc (lin w x y) = c) ∧ r = nI (cnt (hang w (w * h) (fun a => ab w mc a = ab w mc (lin w x y)) (lin w x y)) (w * h)) ∧ LFin (w * h) (hang w (w * h) (fun a => ab w mc a = ab w mc (lin w x y)) (lin w x y)) (ab w mc) c (ab w u.1))) (mB (dC, dI) vwCl [(tm 1, .int), (tm 6, .boolean)] A (fun u => [(am 0, .inr (2, [.int (nI w), .int (nI h), .ref (am 1), .ref (am 2), .ref (am 3), .ref (am 4), .ref (am 5), .ref (am 6)])), (am 1, .inl (tm 1, 576, .inl u.1)), (am 6, .inl (tm 6, 576, .inl u.2))])) A) [.ref (am 0), .int x, .int y, .int c].toArray s 0 0 A) (F0 m 41 ls []) := by
        intro n
        induction n with
        | zero => intro ti g ht hI hm; exfalso; omega
        | succ n ih =>
          intro ti g ht hI hm H locs hP hD hS ls hl
          refine lv_iload hx hb dX2_fill_41 (lv_at hl 5 rfl) ?_
          refine lv_sipush (v := 576) hx hb dX2_fill_43 (by decide) ?_
          refine lv_icmp_ge (tgt := 83) hx hb dX2_fill_46 (by decide) (fun c46 => ?_) (fun c46 => ?_)
          · refine lv_iload hx hb dX2_fill_83 (lv_at hl 4 rfl) ?_
            have hP9 := hP.sub (ws' := [(am 0, .inr (2, [.int (nI w), .int (nI h), .ref (am 1), .ref (am 2), .ref (am 3), .ref (am 4), .ref (am 5), .ref (am 6)])), (am 1, .inl (tm 1, 576, .inl g)), (am 6, .inl (tm 6, 576, .inl mk33))]) [0, 1, 2] rfl
            have hD9 := hD.sub (ws' := [(am 0, .inr (2, [.int (nI w), .int (nI h), .ref (am 1), .ref (am 2), .ref (am 3), .ref (am 4), .ref (am 5), .ref (am 6)])), (am 1, .inl (tm 1, 576, .inl g)), (am 6, .inl (tm 6, 576, .inl mk33))]) [0, 1, 2] (by decide) rfl
            exact W.iret (v := r33) hx hb hr (fun t ht hW => ⟨⟨r33, (g, mk33), rfl, Or.inr ⟨⟨hin, fun q => c21 (e19.trans q)⟩, by rw [e33, p1], by have hte : ti = 576 := (by rw [show (576 : Int32) = nI 576 from rfl, nI_leI (by omega) (by omega)] at c46; omega); rw [hte] at hI; exact MFI_fin hw2 hh2 hI p3⟩, by rw [ht]; exact hP9, va_K.moved hW.alike hK, hD9⟩, hS.F ht⟩) hS.2.2 dX2_fill_85
          · have htl : ti < 576 := by
              rw [show (576 : Int32) = nI 576 from rfl, nI_leI (by omega) (by omega)] at c46; omega
            refine lv_aload_n hx hb dX2_fill_49 rfl (lv_at hl 0 rfl) ?_
            refine va_get (D := (dC, dI)) (ci := 2) (v := .ref (am 1)) (C := RX2) (T := TX2) (N := 8) hx hb hts (by decide +kernel) hown hK hP 0 rfl rfl 2 (by decide) (hts (.fieldLink RX2 7 "TriangleRasterModel" "colours" "[I") (by decide +kernel)) (fun _ h9 => h9) rfl dX2_fill_50 ?_
            refine lv_iload hx hb dX2_fill_53 (lv_at hl 5 rfl) ?_
            refine lv_aload_n hx hb dX2_fill_55 rfl (lv_at hl 0 rfl) ?_
            refine va_get (D := (dC, dI)) (ci := 2) (v := .ref (am 6)) (C := RX2) (T := TX2) (N := 8) hx hb hts (by decide +kernel) hown hK hP 0 rfl rfl 7 (by decide) (hts (.fieldLink RX2 25 "TriangleRasterModel" "marks" "[Z") (by decide +kernel)) (fun _ h9 => h9) rfl dX2_fill_56 ?_
            refine lv_iload hx hb dX2_fill_59 (lv_at hl 5 rfl) ?_
            refine va_zald hx hb hK hP 2 1 rfl rfl (vp_in_nI htl (by omega)) dX2_fill_61 ?_
            refine lv_topi (fun v61 ev61 => ?_)
            have e61 : v61 = mk33 ti := by rw [ev61, nI_clamp (by omega)]
            refine lv_if_eq (tgt := 69) hx hb dX2_fill_62 (by decide) (fun c62 => ?_) (fun c62 => ?_)
            · refine lv_aload_n hx hb dX2_fill_69 rfl (lv_at hl 0 rfl) ?_
              refine va_get (D := (dC, dI)) (ci := 2) (v := .ref (am 1)) (C := RX2) (T := TX2) (N := 8) hx hb hts (by decide +kernel) hown hK hP 0 rfl rfl 2 (by decide) (hts (.fieldLink RX2 7 "TriangleRasterModel" "colours" "[I") (by decide +kernel)) (fun _ h9 => h9) rfl dX2_fill_70 ?_
              refine lv_iload hx hb dX2_fill_73 (lv_at hl 5 rfl) ?_
              refine va_iald hx hb hK hP 1 0 rfl rfl (vp_in_nI htl (by omega)) dX2_fill_75 ?_
              refine va_iast hx hb hK hP hD hS 1 0 rfl rfl (vp_in_nI htl (by omega)) dX2_fill_76 (fun H locs hP hD hS => ?_)
              have hP : va_P (dC, dI) vwCl [(am 0, .inr (2, [.int (nI w), .int (nI h), .ref (am 1), .ref (am 2), .ref (am 3), .ref (am 4), .ref (am 5), .ref (am 6)])), (am 1, .inl (tm 1, 576, .inl (upd g (nI ti).toNatClampNeg (g (nI ti).toNatClampNeg)))), (am 6, .inl (tm 6, 576, .inl mk33))] H := hP
              have hD : va_D A [(am 0, .inr (2, [.int (nI w), .int (nI h), .ref (am 1), .ref (am 2), .ref (am 3), .ref (am 4), .ref (am 5), .ref (am 6)])), (am 1, .inl (tm 1, 576, .inl (upd g (nI ti).toNatClampNeg (g (nI ti).toNatClampNeg)))), (am 6, .inl (tm 6, 576, .inl mk33))] := hD
              rw [nI_clamp (by omega)] at hP hD
              have hP : va_P (dC, dI) vwCl [(am 0, .inr (2, [.int (nI w), .int (nI h), .ref (am 1), .ref (am 2), .ref (am 3), .ref (am 4), .ref (am 5), .ref (am 6)])), (am 1, .inl (tm 1, 576, .inl (upd g ti (g ti)))), (am 6, .inl (tm 6, 576, .inl mk33))] H := hP
              have hD : va_D A [(am 0, .inr (2, [.int (nI w), .int (nI h), .ref (am 1), .ref (am 2), .ref (am 3), .ref (am 4), .ref (am 5), .ref (am 6)])), (am 1, .inl (tm 1, 576, .inl (upd g ti (g ti)))), (am 6, .inl (tm 6, 576, .inl mk33))] := hD
              refine lv_iinc (v := nI (ti + 1)) (lv' := [(5, .int (nI (ti + 1))), (0, .ref (am 0)), (1, .int x), (2, .int y), (3, .int c), (4, .int r33)]) hx hb dX2_fill_77 hl (k := 5) rfl (nI_add _ 1) (by decide) rfl (fun ls hl => ?_)
              refine lv_goto (tgt := 41) hx hb dX2_fill_80 (by decide) ?_
              exact ih (ti + 1) (upd g ti (g ti)) (by omega) (MFI_no hI (e61.symm.trans c62)) (by omega) _ _ (hP.sub [0, 1, 2] rfl) (hD.sub [0, 1, 2] (by decide) rfl) hS ls (lv_sub hl [1, 2, 3, 4, 5, 0] rfl)
            · refine lv_iload_n hx hb dX2_fill_65 rfl (lv_at hl 3 rfl) ?_
              refine lv_goto (tgt := 76) hx hb dX2_fill_66 (by decide) ?_
              refine va_iast hx hb hK hP hD hS 1 0 rfl rfl (vp_in_nI htl (by omega)) dX2_fill_76 (fun H locs hP hD hS => ?_)
              have hP : va_P (dC, dI) vwCl [(am 0, .inr (2, [.int (nI w), .int (nI h), .ref (am 1), .ref (am 2), .ref (am 3), .ref (am 4), .ref (am 5), .ref (am 6)])), (am 1, .inl (tm 1, 576, .inl (upd g (nI ti).toNatClampNeg c))), (am 6, .inl (tm 6, 576, .inl mk33))] H := hP
              have hD : va_D A [(am 0, .inr (2, [.int (nI w), .int (nI h), .ref (am 1), .ref (am 2), .ref (am 3), .ref (am 4), .ref (am 5), .ref (am 6)])), (am 1, .inl (tm 1, 576, .inl (upd g (nI ti).toNatClampNeg c))), (am 6, .inl (tm 6, 576, .inl mk33))] := hD
              rw [nI_clamp (by omega)] at hP hD
              have hP : va_P (dC, dI) vwCl [(am 0, .inr (2, [.int (nI w), .int (nI h), .ref (am 1), .ref (am 2), .ref (am 3), .ref (am 4), .ref (am 5), .ref (am 6)])), (am 1, .inl (tm 1, 576, .inl (upd g ti c))), (am 6, .inl (tm 6, 576, .inl mk33))] H := hP
              have hD : va_D A [(am 0, .inr (2, [.int (nI w), .int (nI h), .ref (am 1), .ref (am 2), .ref (am 3), .ref (am 4), .ref (am 5), .ref (am 6)])), (am 1, .inl (tm 1, 576, .inl (upd g ti c))), (am 6, .inl (tm 6, 576, .inl mk33))] := hD
              refine lv_iinc (v := nI (ti + 1)) (lv' := [(5, .int (nI (ti + 1))), (0, .ref (am 0)), (1, .int x), (2, .int y), (3, .int c), (4, .int r33)]) hx hb dX2_fill_77 hl (k := 5) rfl (nI_add _ 1) (by decide) rfl (fun ls hl => ?_)
              refine lv_goto (tgt := 41) hx hb dX2_fill_80 (by decide) ?_
              exact ih (ti + 1) (upd g ti c) (by omega) (MFI_yes hI (fun q => c62 (e61.trans q))) (by omega) _ _ (hP.sub [0, 1, 2] rfl) (hD.sub [0, 1, 2] (by decide) rfl) hS ls (lv_sub hl [1, 2, 3, 4, 5, 0] rfl)
      exact loop (577) 0 mc (Nat.zero_le _) MFI_0 (by omega) _ _ (hP.sub [0, 1, 2] rfl) (hD.sub [0, 1, 2] (by decide) rfl) hS ls (lv_sub hl [2, 3, 4, 5, 1, 0] rfl)
    · refine lv_iconst (v := 0) hx hb dX2_fill_24 (by decide) ?_
      have hP9 := hP.sub (ws' := [(am 0, .inr (2, [.int (nI w), .int (nI h), .ref (am 1), .ref (am 2), .ref (am 3), .ref (am 4), .ref (am 5), .ref (am 6)])), (am 1, .inl (tm 1, 576, .inl mc)), (am 6, .inl (tm 6, 576, .inl mk))]) [0, 1, 2] rfl
      have hD9 := hD.sub (ws' := [(am 0, .inr (2, [.int (nI w), .int (nI h), .ref (am 1), .ref (am 2), .ref (am 3), .ref (am 4), .ref (am 5), .ref (am 6)])), (am 1, .inl (tm 1, 576, .inl mc)), (am 6, .inl (tm 6, 576, .inl mk))]) [0, 1, 2] (by decide) rfl
      exact W.iret (v := 0) hx hb hr (fun t ht hW => ⟨⟨0, (mc, mk), rfl, Or.inl ⟨fun q => q.2 (e19.symm.trans c21), rfl, rfl⟩, by rw [ht]; exact hP9, va_K.moved hW.alike hK, hD9⟩, hS.F ht⟩) hS.2.2 dX2_fill_25

set_option maxHeartbeats 1000000 in
set_option maxRecDepth 100000 in
/-- pieces -/
theorem c_X2_pieces (l : Launch) (dC : Nat → ClassId) (dI : Nat → Nat → Nat) (sz : Nat) (am : Nat → Nat) (tm : Nat → ClassId) (w h : Nat) (mc mk : Nat → Int32) (hw1 : 1 ≤ w) (hw2 : w ≤ 24) (hh1 : 1 ≤ h) (hh2 : h ≤ 24) (c : Int32) : Met l yX2_pieces wsX2_pieces ({ frames := 1, cells := 0, slots := 0, locals := 29 }) (mP (dC, dI) vwCl [(tm 1, .int), (tm 6, .boolean)] [(am 0, .inr (2, [.int (nI w), .int (nI h), .ref (am 1), .ref (am 2), .ref (am 3), .ref (am 4), .ref (am 5), .ref (am 6)])), (am 1, .inl (tm 1, 576, .inl mc)), (am 6, .inl (tm 6, 576, .inl mk))] sz [.ref (am 0), .int c]) (va_Qi (fun (r : Int32) (u : Nat → Int32) => r = nI (cnt (PCS w (w * h) (ab w mc) c) (w * h))) (mB (dC, dI) vwCl [(tm 1, .int), (tm 6, .boolean)] (va_A [(am 0, .inr (2, [.int (nI w), .int (nI h), .ref (am 1), .ref (am 2), .ref (am 3), .ref (am 4), .ref (am 5), .ref (am 6)])), (am 1, .inl (tm 1, 576, .inl mc)), (am 6, .inl (tm 6, 576, .inl mk))] sz) (fun u => [(am 0, .inr (2, [.int (nI w), .int (nI h), .ref (am 1), .ref (am 2), .ref (am 3), .ref (am 4), .ref (am 5), .ref (am 6)])), (am 1, .inl (tm 1, 576, .inl mc)), (am 6, .inl (tm 6, 576, .inl u))])) (va_A [(am 0, .inr (2, [.int (nI w), .int (nI h), .ref (am 1), .ref (am 2), .ref (am 3), .ref (am 4), .ref (am 5), .ref (am 6)])), (am 1, .inl (tm 1, 576, .inl mc)), (am 6, .inl (tm 6, 576, .inl mk))] sz)) 0 0 (va_A [(am 0, .inr (2, [.int (nI w), .int (nI h), .ref (am 1), .ref (am 2), .ref (am 3), .ref (am 4), .ref (am 5), .ref (am 6)])), (am 1, .inl (tm 1, 576, .inl mc)), (am 6, .inl (tm 6, 576, .inl mk))] sz) := by
  refine Met.ofW (cc := cX2_pieces) (maxL := 5) (ret := (some .int)) (by decide) rfl ?_
  intro p e s m args below meth cD s₁ B hml hv
  obtain ⟨rfl, hsz, hP, hK, hD0, hN⟩ := hv
  have hx := B.exec
  have hb := B.bytes
  have hr := B.returns
  have hts := atoms_spec (ws := wsX2_pieces) B.pre
  have hown : s.vm.findClass RX2 = some m.cls := findClass_of_methodNamed B.named
  have hlocks := B.notSynchronized
  subst hsz
  have hD := hD0.self (sz := s.heap.size)
  generalize hAe : va_A [(am 0, .inr (2, [.int (nI w), .int (nI h), .ref (am 1), .ref (am 2), .ref (am 3), .ref (am 4), .ref (am 5), .ref (am 6)])), (am 1, .inl (tm 1, 576, .inl mc)), (am 6, .inl (tm 6, 576, .inl mk))] s.heap.size = A at hD ⊢
  have hA : ∀ q : Nat, s.heap.size ≤ q → A q := fun q h => by rw [← hAe]; exact Or.inr h
  have hS : va_S A s.heap s.heap [] := va_S.rf
  have hP : va_P (dC, dI) vwCl [(am 0, .inr (2, [.int (nI w), .int (nI h), .ref (am 1), .ref (am 2), .ref (am 3), .ref (am 4), .ref (am 5), .ref (am 6)])), (am 1, .inl (tm 1, 576, .inl mc)), (am 6, .inl (tm 6, 576, .inl mk))] s.heap := hP
  have hl := lv_entry ([.ref (am 0), .int c]) (n := 5) (Nat.le_of_ble_eq_true rfl)
  rw [lg_entry_eq]
  generalize (lg_sl ([.ref (am 0), .int c]) ++ List.replicate (5 - (lg_sl ([.ref (am 0), .int c])).length) Slot.unset).toArray = ls at hl ⊢
  have hl : lv_has ls 5 [(0, .ref (am 0)), (1, .int c)] := hl
  have hwh := wh_le hw2 hh2
  refine lv_aload_n hx hb dX2_pieces_0 rfl (lv_at hl 0 rfl) ?_
  refine m_callv (cs := [(am 0, .inr (2, [.int (nI w), .int (nI h), .ref (am 1), .ref (am 2), .ref (am 3), .ref (am 4), .ref (am 5), .ref (am 6)])), (am 6, .inl (tm 6, 576, .inl mk))]) (wr := [(am 1, .inl (tm 1, 576, .inl mc))]) hP hD hS hA [0, 2] [1] rfl rfl (by decide) (by decide) (va_runV (As := []) (rest := []) ⟨hx, hb, hml, hown, hts⟩ (c_X2_unmark l dC dI _ am tm w h mk) (cwV 0 hts gX2_pieces_X2_unmark rfl rfl rfl (by decide +kernel) ⟨Nat.le_of_ble_eq_true rfl, Nat.le_of_ble_eq_true rfl⟩) (m_preV (ci := 2) (q0 := 0) (hP.sub [0, 2] rfl) (hK.sub [1] rfl) (hD.sub [0, 2] (by decide) rfl) hN rfl rfl) rfl rfl hl.1 rfl (lv_room (Nat.le_of_ble_eq_true rfl)) dX2_pieces_1 ⟨Nat.le_of_ble_eq_true rfl, Nat.le_of_ble_eq_true rfl⟩) (fun g1 H locs q1 hK2 hP hD hS => ?_)
  have hP : va_P (dC, dI) vwCl [(am 0, .inr (2, [.int (nI w), .int (nI h), .ref (am 1), .ref (am 2), .ref (am 3), .ref (am 4), .ref (am 5), .ref (am 6)])), (am 1, .inl (tm 1, 576, .inl mc)), (am 6, .inl (tm 6, 576, .inl g1))] H := hP.sub [1, 0, 2] rfl
  have hD : va_D A [(am 0, .inr (2, [.int (nI w), .int (nI h), .ref (am 1), .ref (am 2), .ref (am 3), .ref (am 4), .ref (am 5), .ref (am 6)])), (am 1, .inl (tm 1, 576, .inl mc)), (am 6, .inl (tm 6, 576, .inl g1))] := hD.sub [1, 0, 2] (by decide) rfl
  refine lv_iconst (v := 0) hx hb dX2_pieces_4 (by decide) ?_
  refine lv_topi (fun zz ezz => ?_)
  obtain rfl : zz = nI 0 := ezz.trans (nI_0.symm)
  refine lv_istore_n (lv' := [(2, .int (nI 0)), (0, .ref (am 0)), (1, .int c)]) hx hb dX2_pieces_5 rfl hl (by decide) rfl (fun ls hl => ?_)
  refine lv_iconst (v := 0) hx hb dX2_pieces_6 (by decide) ?_
  refine lv_topi (fun zz ezz => ?_)
  obtain rfl : zz = nI 0 := ezz.trans (nI_0.symm)
  refine lv_istore_n (lv' := [(3, .int (nI 0)), (2, .int (nI 0)), (0, .ref (am 0)), (1, .int c)]) hx hb dX2_pieces_7 rfl hl (by decide) rfl (fun ls hl => ?_)
  have outer : ∀ (n : Nat) (y : Nat) (k : Nat) (mk' : Nat → Int32), y ≤ h → k = cnt (PCS w (w * h) (ab w mc) c) (y * w) → PRE w (w * h) (ab w mc) c (y * w) (ab w mk') → h + 1 ≤ y + n → ∀ (H : Heap) (locs : List Loc), va_P (dC, dI) vwCl [(am 0, .inr (2, [.int (nI w), .int (nI h), .ref (am 1), .ref (am 2), .ref (am 3), .ref (am 4), .ref (am 5), .ref (am 6)])), (am 1, .inl (tm 1, 576, .inl mc)), (am 6, .inl (tm 6, 576, .inl mk'))] H → va_D A [(am 0, .inr (2, [.int (nI w), .int (nI h), .ref (am 1), .ref (am 2), .ref (am 3), .ref (am 4), .ref (am 5), .ref (am 6)])), (am 1, .inl (tm 1, 576, .inl mc)), (am 6, .inl (tm 6, 576, .inl mk'))] → va_S A s.heap H locs → ∀ (ls : Array Slot), lv_has ls 5 [(0, .ref (am 0)), (1, .int c), (2, .int (nI k)), (3, .int (nI y))] → W p l e (headSpec wsX2_pieces { frames := 1, cells := 0, slots := 0, locals := 29 }).room s m [.ref (am 0), .int c].toArray below meth cD H locs 0 0 (MQ below (va_Qi (fun (r : Int32) (u : Nat → Int32) => r = nI (cnt (PCS w (w * h) (ab w mc) c) (w * h))) (mB (dC, dI) vwCl [(tm 1, .int), (tm 6, .boolean)] A (fun u => [(am 0, .inr (2, [.int (nI w), .int (nI h), .ref (am 1), .ref (am 2), .ref (am 3), .ref (am 4), .ref (am 5), .ref (am 6)])), (am 1, .inl (tm 1, 576, .inl mc)), (am 6, .inl (tm 6, 576, .inl u))])) A) [.ref (am 0), .int c].toArray s 0 0 A) (F0 m 8 ls []) := by
    intro n
    induction n with
    | zero => intro y k mk' hy hk hI hm; exfalso; omega
    | succ n ih =>
      intro y k mk' hy hk hI hm H locs hP hD hS ls hl
      refine lv_iload_n hx hb dX2_pieces_8 rfl (lv_at hl 3 rfl) ?_
      refine lv_aload_n hx hb dX2_pieces_9 rfl (lv_at hl 0 rfl) ?_
      refine va_get (D := (dC, dI)) (ci := 2) (v := .int (nI h)) (C := RX2) (T := TX2) (N := 8) hx hb hts (by decide +kernel) hown hK hP 0 rfl rfl 1 (by decide) (hts (.fieldLink RX2 33 "TriangleRasterModel" "h" "I") (by decide +kernel)) (fun _ h9 => h9) rfl dX2_pieces_10 ?_
      refine lv_icmp_ge (tgt := 82) hx hb dX2_pieces_13 (by decide) (fun c13 => ?_) (fun c13 => ?_)
      · refine lv_iload_n hx hb dX2_pieces_82 rfl (lv_at hl 2 rfl) ?_
        have hP9 := hP.sub (ws' := [(am 0, .inr (2, [.int (nI w), .int (nI h), .ref (am 1), .ref (am 2), .ref (am 3), .ref (am 4), .ref (am 5), .ref (am 6)])), (am 1, .inl (tm 1, 576, .inl mc)), (am 6, .inl (tm 6, 576, .inl mk'))]) [0, 1, 2] rfl
        have hD9 := hD.sub (ws' := [(am 0, .inr (2, [.int (nI w), .int (nI h), .ref (am 1), .ref (am 2), .ref (am 3), .ref (am 4), .ref (am 5), .ref (am 6)])), (am 1, .inl (tm 1, 576, .inl mc)), (am 6, .inl (tm 6, 576, .inl mk'))]) [0, 1, 2] (by decide) rfl
        exact W.iret (v := (nI k)) hx hb hr (fun t ht hW => ⟨⟨nI k, mk', rfl, by have hyh : y = h := (by rw [nI_leI (by omega) (by omega)] at c13; omega); rw [hk, hyh, Nat.mul_comm h w], by rw [ht]; exact hP9, va_K.moved hW.alike hK, hD9⟩, hS.F ht⟩) hS.2.2 dX2_pieces_83
      · have hy0 : y < h := by rw [nI_leI (by omega) (by omega)] at c13; omega
        refine lv_iconst (v := 0) hx hb dX2_pieces_16 (by decide) ?_
        refine lv_topi (fun zz ezz => ?_)
        obtain rfl : zz = nI 0 := ezz.trans (nI_0.symm)
        refine lv_istore (lv' := [(4, .int (nI 0)), (0, .ref (am 0)), (1, .int c), (2, .int (nI k)), (3, .int (nI y))]) hx hb dX2_pieces_17 hl (by decide) rfl (fun ls hl => ?_)
        have inner : ∀ (n : Nat) (x : Nat) (k : Nat) (mk' : Nat → Int32), x ≤ w → k = cnt (PCS w (w * h) (ab w mc) c) (y * w + x) → PRE w (w * h) (ab w mc) c (y * w + x) (ab w mk') → w + 1 ≤ x + n → ∀ (H : Heap) (locs : List Loc), va_P (dC, dI) vwCl [(am 0, .inr (2, [.int (nI w), .int (nI h), .ref (am 1), .ref (am 2), .ref (am 3), .ref (am 4), .ref (am 5), .ref (am 6)])), (am 1, .inl (tm 1, 576, .inl mc)), (am 6, .inl (tm 6, 576, .inl mk'))] H → va_D A [(am 0, .inr (2, [.int (nI w), .int (nI h), .ref (am 1), .ref (am 2), .ref (am 3), .ref (am 4), .ref (am 5), .ref (am 6)])), (am 1, .inl (tm 1, 576, .inl mc)), (am 6, .inl (tm 6, 576, .inl mk'))] → va_S A s.heap H locs → ∀ (ls : Array Slot), lv_has ls 5 [(0, .ref (am 0)), (1, .int c), (2, .int (nI k)), (3, .int (nI y)), (4, .int (nI x))] → W p l e (headSpec wsX2_pieces { frames := 1, cells := 0, slots := 0, locals := 29 }).room s m [.ref (am 0), .int c].toArray below meth cD H locs 0 0 (MQ below (va_Qi (fun (r : Int32) (u : Nat → Int32) => r = nI (cnt (PCS w (w * h) (ab w mc) c) (w * h))) (mB (dC, dI) vwCl [(tm 1, .int), (tm 6, .boolean)] A (fun u => [(am 0, .inr (2, [.int (nI w), .int (nI h), .ref (am 1), .ref (am 2), .ref (am 3), .ref (am 4), .ref (am 5), .ref (am 6)])), (am 1, .inl (tm 1, 576, .inl mc)), (am 6, .inl (tm 6, 576, .inl u))])) A) [.ref (am 0), .int c].toArray s 0 0 A) (F0 m 19 ls []) := by
          intro n
          induction n with
          | zero => intro x k mk' hx9 hk hI hm; exfalso; omega
          | succ n ih2 =>
            intro x k mk' hx9 hk hI hm H locs hP hD hS ls hl
            refine lv_iload hx hb dX2_pieces_19 (lv_at hl 4 rfl) ?_
            refine lv_aload_n hx hb dX2_pieces_21 rfl (lv_at hl 0 rfl) ?_
            refine va_get (D := (dC, dI)) (ci := 2) (v := .int (nI w)) (C := RX2) (T := TX2) (N := 8) hx hb hts (by decide +kernel) hown hK hP 0 rfl rfl 0 (by decide) (hts (.fieldLink RX2 29 "TriangleRasterModel" "w" "I") (by decide +kernel)) (fun _ h9 => h9) rfl dX2_pieces_22 ?_
            refine lv_icmp_ge (tgt := 76) hx hb dX2_pieces_25 (by decide) (fun c25 => ?_) (fun c25 => ?_)
            · have hxw : x = w := by rw [nI_leI (by omega) (by omega)] at c25; omega
              refine lv_iinc (v := nI (y + 1)) (lv' := [(3, .int (nI (y + 1))), (0, .ref (am 0)), (1, .int c), (2, .int (nI k)), (4, .int (nI x))]) hx hb dX2_pieces_76 hl (k := 3) rfl (nI_add _ 1) (by decide) rfl (fun ls hl => ?_)
              refine lv_goto (tgt := 8) hx hb dX2_pieces_79 (by decide) ?_
              exact ih (y + 1) k mk' (by omega) (by rw [hk, Nat.add_mul, Nat.one_mul, hxw]) (by rw [hxw] at hI; rw [Nat.add_mul, Nat.one_mul]; exact hI) (by omega) _ _ (hP.sub [0, 1, 2] rfl) (hD.sub [0, 1, 2] (by decide) rfl) hS ls (lv_sub hl [1, 2, 3, 0] rfl)
            · have hx0 : x < w := by rw [nI_leI (by omega) (by omega)] at c25; omega
              have hlt := row_lt hx0 hy0
              refine lv_aload_n hx hb dX2_pieces_28 rfl (lv_at hl 0 rfl) ?_
              refine va_get (D := (dC, dI)) (ci := 2) (v := .ref (am 1)) (C := RX2) (T := TX2) (N := 8) hx hb hts (by decide +kernel) hown hK hP 0 rfl rfl 2 (by decide) (hts (.fieldLink RX2 7 "TriangleRasterModel" "colours" "[I") (by decide +kernel)) (fun _ h9 => h9) rfl dX2_pieces_29 ?_
              refine lv_bipush (v := 24) hx hb dX2_pieces_32 (by decide) ?_
              refine lv_iload_n hx hb dX2_pieces_34 rfl (lv_at hl 3 rfl) ?_
              refine lv_imul hx hb dX2_pieces_35 ?_
              refine lv_iload hx hb dX2_pieces_36 (lv_at hl 4 rfl) ?_
              refine lv_iadd hx hb dX2_pieces_38 ?_
              refine lv_topi (fun zz ezz => ?_)
              obtain rfl : zz = nI (24 * y + x) := ezz.trans (ix24 _ _)
              refine va_iald hx hb hK hP 1 0 rfl rfl (vp_in_nI (by omega) (by omega)) dX2_pieces_39 ?_
              refine lv_topi (fun v39 ev39 => ?_)
              have e39 : v39 = ab w mc (y * w + x) := by rw [ev39, nI_clamp (by omega)]; exact (ab_at hx0).symm
              refine lv_iload_n hx hb dX2_pieces_40 rfl (lv_at hl 1 rfl) ?_
              refine lv_icmp_ne (tgt := 70) hx hb dX2_pieces_41 (by decide) (fun c41 => ?_) (fun c41 => ?_)
              · obtain ⟨s1, s2⟩ := PRE_other hI (fun q => c41 (e39.trans q))
                refine lv_iinc (v := nI (x + 1)) (lv' := [(4, .int (nI (x + 1))), (0, .ref (am 0)), (1, .int c), (2, .int (nI k)), (3, .int (nI y))]) hx hb dX2_pieces_70 hl (k := 4) rfl (nI_add _ 1) (by decide) rfl (fun ls hl => ?_)
                refine lv_goto (tgt := 19) hx hb dX2_pieces_73 (by decide) ?_
                exact ih2 (x + 1) k mk' (by omega) (by rw [hk, ← Nat.add_assoc, cnt_no s2]) s1 (by omega) _ _ (hP.sub [0, 1, 2] rfl) (hD.sub [0, 1, 2] (by decide) rfl) hS ls (lv_sub hl [1, 2, 3, 4, 0] rfl)
              · refine lv_aload_n hx hb dX2_pieces_44 rfl (lv_at hl 0 rfl) ?_
                refine va_get (D := (dC, dI)) (ci := 2) (v := .ref (am 6)) (C := RX2) (T := TX2) (N := 8) hx hb hts (by decide +kernel) hown hK hP 0 rfl rfl 7 (by decide) (hts (.fieldLink RX2 25 "TriangleRasterModel" "marks" "[Z") (by decide +kernel)) (fun _ h9 => h9) rfl dX2_pieces_45 ?_
                refine lv_bipush (v := 24) hx hb dX2_pieces_48 (by decide) ?_
                refine lv_iload_n hx hb dX2_pieces_50 rfl (lv_at hl 3 rfl) ?_
                refine lv_imul hx hb dX2_pieces_51 ?_
                refine lv_iload hx hb dX2_pieces_52 (lv_at hl 4 rfl) ?_
                refine lv_iadd hx hb dX2_pieces_54 ?_
                refine lv_topi (fun zz ezz => ?_)
                obtain rfl : zz = nI (24 * y + x) := ezz.trans (ix24 _ _)
                refine va_zald hx hb hK hP 2 1 rfl rfl (vp_in_nI (by omega) (by omega)) dX2_pieces_55 ?_
                refine lv_topi (fun v55 ev55 => ?_)
                have e55 : v55 = ab w mk' (y * w + x) := by rw [ev55, nI_clamp (by omega)]; exact (ab_at hx0).symm
                refine lv_if_ne (tgt := 70) hx hb dX2_pieces_56 (by decide) (fun c56 => ?_) (fun c56 => ?_)
                · obtain ⟨s1, s2⟩ := PRE_seen hlt hI (fun q => c56 (e55.trans q))
                  refine lv_iinc (v := nI (x + 1)) (lv' := [(4, .int (nI (x + 1))), (0, .ref (am 0)), (1, .int c), (2, .int (nI k)), (3, .int (nI y))]) hx hb dX2_pieces_70 hl (k := 4) rfl (nI_add _ 1) (by decide) rfl (fun ls hl => ?_)
                  refine lv_goto (tgt := 19) hx hb dX2_pieces_73 (by decide) ?_
                  exact ih2 (x + 1) k mk' (by omega) (by rw [hk, ← Nat.add_assoc, cnt_no s2]) s1 (by omega) _ _ (hP.sub [0, 1, 2] rfl) (hD.sub [0, 1, 2] (by decide) rfl) hS ls (lv_sub hl [1, 2, 3, 4, 0] rfl)
                · have hl63 : lin w (nI x) (nI y) = y * w + x := lin_nI (by omega) (by omega)
                  have hin63 := inX_nI hw2 hh2 hx0 hy0
                  refine lv_aload_n hx hb dX2_pieces_59 rfl (lv_at hl 0 rfl) ?_
                  refine lv_iload hx hb dX2_pieces_60 (lv_at hl 4 rfl) ?_
                  refine lv_iload_n hx hb dX2_pieces_62 rfl (lv_at hl 3 rfl) ?_
                  refine m_calli (cs := [(am 0, .inr (2, [.int (nI w), .int (nI h), .ref (am 1), .ref (am 2), .ref (am 3), .ref (am 4), .ref (am 5), .ref (am 6)])), (am 1, .inl (tm 1, 576, .inl mc)), (am 6, .inl (tm 6, 576, .inl mk'))]) (wr := []) hP hD hS hA [0, 1, 2] [] rfl rfl (by decide) (by decide) (va_runV (As := [.int (nI x), .int (nI y)]) (rest := []) ⟨hx, hb, hml, hown, hts⟩ (c_X2_mark l dC dI _ am tm w h mc mk' hw1 hw2 hh1 hh2 (nI x) (nI y) c hin63 (by rw [hl63]; exact e39.symm.trans c41) (by rw [hl63]; exact e55.symm.trans c56) (PRE_old (by omega) hI)) (cwV 2 hts gX2_pieces_X2_mark rfl rfl rfl (by decide +kernel) ⟨Nat.le_of_ble_eq_true rfl, Nat.le_of_ble_eq_true rfl⟩) (m_preV (ci := 2) (q0 := 0) (hP.sub [0, 1, 2] rfl) (hK.sub [0, 1] rfl) (hD.sub [0, 1, 2] (by decide) rfl) hN rfl rfl) rfl rfl hl.1 rfl (lv_room (Nat.le_of_ble_eq_true rfl)) dX2_pieces_63 ⟨Nat.le_of_ble_eq_true rfl, Nat.le_of_ble_eq_true rfl⟩) (fun r63 u63 H locs q63 hK2 hP hD hS => ?_)
                  obtain ⟨mk63, k63⟩ := u63
                  have hP : va_P (dC, dI) vwCl [(am 0, .inr (2, [.int (nI w), .int (nI h), .ref (am 1), .ref (am 2), .ref (am 3), .ref (am 4), .ref (am 5), .ref (am 6)])), (am 1, .inl (tm 1, 576, .inl mc)), (am 6, .inl (tm 6, 576, .inl mk63))] H := hP.sub [0, 1, 2] rfl
                  have hD : va_D A [(am 0, .inr (2, [.int (nI w), .int (nI h), .ref (am 1), .ref (am 2), .ref (am 3), .ref (am 4), .ref (am 5), .ref (am 6)])), (am 1, .inl (tm 1, 576, .inl mc)), (am 6, .inl (tm 6, 576, .inl mk63))] := hD.sub [0, 1, 2] (by decide) rfl
                  obtain ⟨-, -, p2⟩ := q63
                  rw [hl63] at p2
                  obtain ⟨s1, s2⟩ := PRE_new hlt (e39.symm.trans c41) hI (e55.symm.trans c56) p2
                  refine lv_pop hx hb dX2_pieces_66 rfl ?_
                  refine lv_iinc (v := nI (k + 1)) (lv' := [(2, .int (nI (k + 1))), (0, .ref (am 0)), (1, .int c), (3, .int (nI y)), (4, .int (nI x))]) hx hb dX2_pieces_67 hl (k := 2) rfl (nI_add _ 1) (by decide) rfl (fun ls hl => ?_)
                  refine lv_iinc (v := nI (x + 1)) (lv' := [(4, .int (nI (x + 1))), (2, .int (nI (k + 1))), (0, .ref (am 0)), (1, .int c), (3, .int (nI y))]) hx hb dX2_pieces_70 hl (k := 4) rfl (nI_add _ 1) (by decide) rfl (fun ls hl => ?_)
                  refine lv_goto (tgt := 19) hx hb dX2_pieces_73 (by decide) ?_
                  exact ih2 (x + 1) (k + 1) mk63 (by omega) (by rw [hk, ← Nat.add_assoc, cnt_yes s2]) s1 (by omega) _ _ (hP.sub [0, 1, 2] rfl) (hD.sub [0, 1, 2] (by decide) rfl) hS ls (lv_sub hl [2, 3, 1, 4, 0] rfl)
        exact inner (w + 1) 0 k mk' (Nat.zero_le _) hk hI (by omega) _ _ (hP.sub [0, 1, 2] rfl) (hD.sub [0, 1, 2] (by decide) rfl) hS ls (lv_sub hl [1, 2, 3, 4, 0] rfl)
  exact outer (h + 1) 0 0 g1 (Nat.zero_le _) (by rw [Nat.zero_mul]; rfl) (by rw [Nat.zero_mul]; exact PRE_0 (fun i hi => q1 _ (ab_ix hw2 hh2 hi))) (by omega) _ _ (hP.sub [0, 1, 2] rfl) (hD.sub [0, 1, 2] (by decide) rfl) hS ls (lv_sub hl [2, 3, 1, 0] rfl)

