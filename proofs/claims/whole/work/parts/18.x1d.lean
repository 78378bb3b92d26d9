set_option maxHeartbeats 4000000 in
set_option maxRecDepth 100000 in
/-- placeBeside -/
theorem c_X1_placeBeside (l : Launch) (dC : Nat → ClassId) (dI : Nat → Nat → Nat) (sz : Nat) (a a0 a1 b0 b1 : Int32) (ha : a.toInt.natAbs ≤ 2000) (ha0 : a0.toInt.natAbs ≤ 16384) (ha1 : a1.toInt.natAbs ≤ 16384) (hb0 : b0.toInt.natAbs ≤ 16384) (hb1 : b1.toInt.natAbs ≤ 16384) : Met l yX1_placeBeside wsX1_placeBeside ({ frames := 1, cells := 0, slots := 0, locals := 24 }) (mP (dC, dI) vwCl [] [] sz [.int a, .int a0, .int a1, .int b0, .int b1]) (va_Qi (fun (r : Int32) (u : Unit) => PBp a0.toInt a1.toInt b0.toInt b1.toInt a.toInt r) (mB (dC, dI) vwCl [] (va_A [] sz) (fun u => [])) (va_A [] sz)) 0 0 (va_A [] sz) := by
  refine Met.ofW (cc := cX1_placeBeside) (maxL := 12) (ret := (some .int)) (by decide) rfl ?_
  intro p e s m args below meth cD s₁ B hml hv
  obtain ⟨rfl, hsz, hP, hK, hD0, hN⟩ := hv
  have hx := B.exec
  have hb := B.bytes
  have hr := B.returns
  have hts := atoms_spec (ws := wsX1_placeBeside) B.pre
  have hown : s.vm.findClass RX1 = some m.cls := findClass_of_methodNamed B.named
  have hlocks := B.notSynchronized
  subst hsz
  have hD := hD0.self (sz := s.heap.size)
  generalize hAe : va_A [] s.heap.size = A at hD ⊢
  have hA : ∀ q : Nat, s.heap.size ≤ q → A q := fun q h => by rw [← hAe]; exact Or.inr h
  have hS : va_S A s.heap s.heap [] := va_S.rf
  have hP : va_P (dC, dI) vwCl [] s.heap := hP
  have hl := lv_entry ([.int a, .int a0, .int a1, .int b0, .int b1]) (n := 12) (Nat.le_of_ble_eq_true rfl)
  rw [lg_entry_eq]
  generalize (lg_sl ([.int a, .int a0, .int a1, .int b0, .int b1]) ++ List.replicate (12 - (lg_sl ([.int a, .int a0, .int a1, .int b0, .int b1])).length) Slot.unset).toArray = ls at hl ⊢
  have hl : lv_has ls 12 [(0, .int a), (1, .int a0), (2, .int a1), (3, .int b0), (4, .int b1)] := hl
  refine lv_iload_n hx hb dX1_placeBeside_0 rfl (lv_at hl 2 rfl) ?_
  refine lv_iload_n hx hb dX1_placeBeside_1 rfl (lv_at hl 1 rfl) ?_
  refine lv_isub hx hb dX1_placeBeside_2 ?_
  refine va_mabs hx hb (by rw [hml]; exact hl.1.symm) hown (hts (.methodLink RX1 72 Lib.Math.abs.name) (by decide +kernel)) (hts (.static Lib.Math.abs.name) (by decide +kernel)) (hts (.initialized "java/lang/Math") (by decide +kernel)) (hts _ (List.mem_of_getElem? (i := 4) rfl)) (Nat.le_of_ble_eq_true rfl) (Nat.le_of_ble_eq_true rfl) (Nat.zero_le _) (Nat.zero_le _) dX1_placeBeside_3 ?_
  refine lv_topi (fun v3 ev3 => ?_)
  have hn : v3.toInt64.toInt = (lnN a0.toInt a1.toInt : Int) := by
    rw [Jvm.Kit.i64_of_i32, ev3, abs32 (by rw [sub32 (by omega) (by omega)]; omega), sub32 (by omega) (by omega)]; rfl
  have hnb : lnN a0.toInt a1.toInt ≤ 32768 := by unfold lnN; omega
  generalize hNe : lnN a0.toInt a1.toInt = N at hn hnb
  refine lv_i2l hx hb dX1_placeBeside_6 rfl ?_
  refine lv_lstore (lv' := [(5, .long v3.toInt64), (0, .int a), (1, .int a0), (2, .int a1), (3, .int b0), (4, .int b1)]) hx hb dX1_placeBeside_7 hl (by decide) rfl (fun ls hl => ?_)
  refine lv_iload_n hx hb dX1_placeBeside_9 rfl (lv_at hl 3 rfl) ?_
  refine lv_iload_n hx hb dX1_placeBeside_10 rfl (lv_at hl 2 rfl) ?_
  refine lv_icmp_ge (tgt := 21) hx hb dX1_placeBeside_11 (by decide) (fun c11 => ?_) (fun c11 => ?_)
  · refine lv_iload_n hx hb dX1_placeBeside_21 rfl (lv_at hl 1 rfl) ?_
    refine lv_iload_n hx hb dX1_placeBeside_22 rfl (lv_at hl 2 rfl) ?_
    refine lv_isub hx hb dX1_placeBeside_23 ?_
    refine lv_i2l hx hb dX1_placeBeside_24 rfl ?_
    refine lv_lstore (lv' := [(7, .long ((a - a0).toInt64)), (5, .long v3.toInt64), (0, .int a), (1, .int a0), (2, .int a1), (3, .int b0), (4, .int b1)]) hx hb dX1_placeBeside_25 hl (by decide) rfl (fun ls hl => ?_)
    have hlt : ¬ a1.toInt < a0.toInt := by rw [Int32.le_iff_toInt_le] at c11; omega
    obtain ⟨K, hK0⟩ : ∃ K : Int, K = a.toInt - a0.toInt := ⟨_, rfl⟩
    have hkv : (a - a0).toInt64.toInt = K := by rw [Jvm.Kit.i64_of_i32, sub32 (by omega) (by omega), hK0]
    have hX : ∀ k : Nat, lnX a0.toInt a1.toInt k = a.toInt ↔ (k : Int) = K := fun k => by unfold lnX; rw [if_neg hlt]; omega
    refine lv_lload hx hb dX1_placeBeside_27 (lv_at hl 0 rfl) ?_
    refine lv_lconst (v := 0) hx hb dX1_placeBeside_29 (by decide) ?_
    refine W.lcmp hx hb dX1_placeBeside_30 ?_
    refine lv_if_lt (tgt := 42) hx hb dX1_placeBeside_31 (by decide) (fun c31 => ?_) (fun c31 => ?_)
    · rw [lg_cmp_lt, Int64.lt_iff_toInt_lt, hkv, Int64.toInt_zero] at c31
      refine lv_iconst (v := (-1)) hx hb dX1_placeBeside_42 (by decide) ?_
      have hP9 := hP.sub (ws' := []) [] rfl
      have hD9 := hD.sub (ws' := []) [] (by decide) rfl
      exact W.iret (v := (-1)) hx hb hr (fun t ht hW => ⟨⟨(-1), (), rfl, Or.inr ⟨fun k hk q => by rw [hX] at q; rw [hNe] at hk; omega, rfl⟩, by rw [ht]; exact hP9, va_K.moved hW.alike hK, hD9⟩, hS.F ht⟩) hS.2.2 dX1_placeBeside_43
    · rw [lg_cmp_lt, Int64.lt_iff_toInt_lt, hkv, Int64.toInt_zero] at c31
      refine lv_lload hx hb dX1_placeBeside_34 (lv_at hl 0 rfl) ?_
      refine lv_lload hx hb dX1_placeBeside_36 (lv_at hl 1 rfl) ?_
      refine W.lcmp hx hb dX1_placeBeside_38 ?_
      refine lv_if_le (tgt := 44) hx hb dX1_placeBeside_39 (by decide) (fun c39 => ?_) (fun c39 => ?_)
      · rw [lg_cmp_le, Int64.le_iff_toInt_le, hkv, hn] at c39
        have hKn : ((K.toNat : Nat) : Int) = K := by omega
        refine lv_lload hx hb dX1_placeBeside_44 (lv_at hl 1 rfl) ?_
        refine lv_lconst (v := 0) hx hb dX1_placeBeside_46 (by decide) ?_
        refine W.lcmp hx hb dX1_placeBeside_47 ?_
        refine lv_if_ne (tgt := 53) hx hb dX1_placeBeside_48 (by decide) (fun c48 => ?_) (fun c48 => ?_)
        · rw [lg_cmp_eq, ← Int64.toInt_inj, hn, Int64.toInt_zero] at c48
          refine lv_iload hx hb dX1_placeBeside_53 (lv_at hl 6 rfl) ?_
          refine lv_iload_n hx hb dX1_placeBeside_55 rfl (lv_at hl 5 rfl) ?_
          refine lv_isub hx hb dX1_placeBeside_56 ?_
          refine va_mabs hx hb (by rw [hml]; exact hl.1.symm) hown (hts (.methodLink RX1 72 Lib.Math.abs.name) (by decide +kernel)) (hts (.static Lib.Math.abs.name) (by decide +kernel)) (hts (.initialized "java/lang/Math") (by decide +kernel)) (hts _ (List.mem_of_getElem? (i := 4) rfl)) (Nat.le_of_ble_eq_true rfl) (Nat.le_of_ble_eq_true rfl) (Nat.zero_le _) (Nat.zero_le _) dX1_placeBeside_57 ?_
          refine lv_topi (fun v57 ev57 => ?_)
          have hm : v57.toInt64.toInt = (lnN b0.toInt b1.toInt : Int) := by
            rw [Jvm.Kit.i64_of_i32, ev57, abs32 (by rw [sub32 (by omega) (by omega)]; omega), sub32 (by omega) (by omega)]; rfl
          have hmb : lnN b0.toInt b1.toInt ≤ 32768 := by unfold lnN; omega
          refine lv_i2l hx hb dX1_placeBeside_60 rfl ?_
          refine lv_lstore (lv' := [(9, .long v57.toInt64), (7, .long ((a - a0).toInt64)), (5, .long v3.toInt64), (0, .int a), (1, .int a0), (2, .int a1), (3, .int b0), (4, .int b1)]) hx hb dX1_placeBeside_61 hl (by decide) rfl (fun ls hl => ?_)
          refine lv_ldc2 (v := 2) hx hb hown (hts (.constantLong RX1 93 2) (by decide +kernel)) dX1_placeBeside_63 ?_
          refine lv_lload hx hb dX1_placeBeside_66 (lv_at hl 1 rfl) ?_
          refine lv_lmul hx hb dX1_placeBeside_68 ?_
          refine lv_lload hx hb dX1_placeBeside_69 (lv_at hl 0 rfl) ?_
          refine lv_lmul hx hb dX1_placeBeside_71 ?_
          refine lv_lload hx hb dX1_placeBeside_72 (lv_at hl 2 rfl) ?_
          refine lv_ladd hx hb dX1_placeBeside_74 ?_
          refine lv_lconst (v := 1) hx hb dX1_placeBeside_75 (by decide) ?_
          refine lv_lsub hx hb dX1_placeBeside_76 ?_
          refine lv_ldc2 (v := 2) hx hb hown (hts (.constantLong RX1 93 2) (by decide +kernel)) dX1_placeBeside_77 ?_
          refine lv_lload hx hb dX1_placeBeside_80 (lv_at hl 2 rfl) ?_
          refine lv_lmul hx hb dX1_placeBeside_82 ?_
          have hnz : ¬ 2 * v3.toInt64 = 0 := by
            rw [← Int64.toInt_inj, Jvm.Kit.i64_mul (by rw [hn, show (2 : Int64).toInt = 2 from by decide]; omega) (by rw [hn, show (2 : Int64).toInt = 2 from by decide]; omega), hn, show (2 : Int64).toInt = 2 from by decide, Int64.toInt_zero]; omega
          refine lv_ldiv hx hb dX1_placeBeside_83 hnz ?_
          refine lv_l2i hx hb dX1_placeBeside_84 rfl ?_
          refine lv_topi (fun v84 ev84 => ?_)
          have hfar : v84.toInt = lnF N (lnN b0.toInt b1.toInt : Nat) K := by rw [ev84]; exact far_val hn hm hkv (by omega) (by omega) (by omega)
          have hfb := lnF_b (n := N) (m := (lnN b0.toInt b1.toInt : Nat)) (k := K) (by omega) (by omega) (by omega)
          refine lv_istore (lv' := [(11, .int v84), (9, .long v57.toInt64), (7, .long ((a - a0).toInt64)), (5, .long v3.toInt64), (0, .int a), (1, .int a0), (2, .int a1), (3, .int b0), (4, .int b1)]) hx hb dX1_placeBeside_85 hl (by decide) rfl (fun ls hl => ?_)
          refine lv_iload hx hb dX1_placeBeside_87 (lv_at hl 8 rfl) ?_
          refine lv_iload_n hx hb dX1_placeBeside_89 rfl (lv_at hl 7 rfl) ?_
          refine lv_icmp_ge (tgt := 100) hx hb dX1_placeBeside_90 (by decide) (fun c90 => ?_) (fun c90 => ?_)
          · refine lv_iload_n hx hb dX1_placeBeside_100 rfl (lv_at hl 7 rfl) ?_
            refine lv_iload hx hb dX1_placeBeside_101 (lv_at hl 0 rfl) ?_
            refine lv_iadd hx hb dX1_placeBeside_103 ?_
            have hP9 := hP.sub (ws' := []) [] rfl
            have hD9 := hD.sub (ws' := []) [] (by decide) rfl
            exact W.iret (v := (b0 + v84)) hx hb hr (fun t ht hW => ⟨⟨b0 + v84, (), rfl, Or.inl ⟨K.toNat, by rw [hNe]; omega, (hX _).mpr hKn, by unfold lnY; rw [hNe, hKn, ← hfar, if_neg (by rw [Int32.le_iff_toInt_le] at c90; omega), Jvm.Kit.i32_add (by omega) (by omega)]⟩, by rw [ht]; exact hP9, va_K.moved hW.alike hK, hD9⟩, hS.F ht⟩) hS.2.2 dX1_placeBeside_104
          · refine lv_iload_n hx hb dX1_placeBeside_93 rfl (lv_at hl 7 rfl) ?_
            refine lv_iload hx hb dX1_placeBeside_94 (lv_at hl 0 rfl) ?_
            refine lv_isub hx hb dX1_placeBeside_96 ?_
            refine lv_goto (tgt := 104) hx hb dX1_placeBeside_97 (by decide) ?_
            have hP9 := hP.sub (ws' := []) [] rfl
            have hD9 := hD.sub (ws' := []) [] (by decide) rfl
            exact W.iret (v := (b0 - v84)) hx hb hr (fun t ht hW => ⟨⟨b0 - v84, (), rfl, Or.inl ⟨K.toNat, by rw [hNe]; omega, (hX _).mpr hKn, by unfold lnY; rw [hNe, hKn, ← hfar, if_pos (by rw [Int32.le_iff_toInt_le] at c90; omega), Jvm.Kit.i32_sub (by omega) (by omega)]⟩, by rw [ht]; exact hP9, va_K.moved hW.alike hK, hD9⟩, hS.F ht⟩) hS.2.2 dX1_placeBeside_104
        · rw [lg_cmp_eq, ← Int64.toInt_inj, hn, Int64.toInt_zero] at c48
          refine lv_iload_n hx hb dX1_placeBeside_51 rfl (lv_at hl 5 rfl) ?_
          have hP9 := hP.sub (ws' := []) [] rfl
          have hD9 := hD.sub (ws' := []) [] (by decide) rfl
          exact W.iret (v := b0) hx hb hr (fun t ht hW => ⟨⟨b0, (), rfl, Or.inl ⟨0, Nat.zero_le _, (hX 0).mpr (by omega), by unfold lnY; rw [hNe, show ((N : Nat) : Int) = 0 from c48]; unfold lnF; simp⟩, by rw [ht]; exact hP9, va_K.moved hW.alike hK, hD9⟩, hS.F ht⟩) hS.2.2 dX1_placeBeside_52
      · rw [lg_cmp_le, Int64.le_iff_toInt_le, hkv, hn] at c39
        refine lv_iconst (v := (-1)) hx hb dX1_placeBeside_42 (by decide) ?_
        have hP9 := hP.sub (ws' := []) [] rfl
        have hD9 := hD.sub (ws' := []) [] (by decide) rfl
        exact W.iret (v := (-1)) hx hb hr (fun t ht hW => ⟨⟨(-1), (), rfl, Or.inr ⟨fun k hk q => by rw [hX] at q; rw [hNe] at hk; omega, rfl⟩, by rw [ht]; exact hP9, va_K.moved hW.alike hK, hD9⟩, hS.F ht⟩) hS.2.2 dX1_placeBeside_43
  · refine lv_iload_n hx hb dX1_placeBeside_14 rfl (lv_at hl 2 rfl) ?_
    refine lv_iload_n hx hb dX1_placeBeside_15 rfl (lv_at hl 1 rfl) ?_
    refine lv_isub hx hb dX1_placeBeside_16 ?_
    refine lv_i2l hx hb dX1_placeBeside_17 rfl ?_
    refine lv_goto (tgt := 25) hx hb dX1_placeBeside_18 (by decide) ?_
    refine lv_lstore (lv' := [(7, .long ((a0 - a).toInt64)), (5, .long v3.toInt64), (0, .int a), (1, .int a0), (2, .int a1), (3, .int b0), (4, .int b1)]) hx hb dX1_placeBeside_25 hl (by decide) rfl (fun ls hl => ?_)
    have hlt : a1.toInt < a0.toInt := by rw [Int32.le_iff_toInt_le] at c11; omega
    obtain ⟨K, hK0⟩ : ∃ K : Int, K = a0.toInt - a.toInt := ⟨_, rfl⟩
    have hkv : (a0 - a).toInt64.toInt = K := by rw [Jvm.Kit.i64_of_i32, sub32 (by omega) (by omega), hK0]
    have hX : ∀ k : Nat, lnX a0.toInt a1.toInt k = a.toInt ↔ (k : Int) = K := fun k => by unfold lnX; rw [if_pos hlt]; omega
    refine lv_lload hx hb dX1_placeBeside_27 (lv_at hl 0 rfl) ?_
    refine lv_lconst (v := 0) hx hb dX1_placeBeside_29 (by decide) ?_
    refine W.lcmp hx hb dX1_placeBeside_30 ?_
    refine lv_if_lt (tgt := 42) hx hb dX1_placeBeside_31 (by decide) (fun c31 => ?_) (fun c31 => ?_)
    · rw [lg_cmp_lt, Int64.lt_iff_toInt_lt, hkv, Int64.toInt_zero] at c31
      refine lv_iconst (v := (-1)) hx hb dX1_placeBeside_42 (by decide) ?_
      have hP9 := hP.sub (ws' := []) [] rfl
      have hD9 := hD.sub (ws' := []) [] (by decide) rfl
      exact W.iret (v := (-1)) hx hb hr (fun t ht hW => ⟨⟨(-1), (), rfl, Or.inr ⟨fun k hk q => by rw [hX] at q; rw [hNe] at hk; omega, rfl⟩, by rw [ht]; exact hP9, va_K.moved hW.alike hK, hD9⟩, hS.F ht⟩) hS.2.2 dX1_placeBeside_43
    · rw [lg_cmp_lt, Int64.lt_iff_toInt_lt, hkv, Int64.toInt_zero] at c31
      refine lv_lload hx hb dX1_placeBeside_34 (lv_at hl 0 rfl) ?_
      refine lv_lload hx hb dX1_placeBeside_36 (lv_at hl 1 rfl) ?_
      refine W.lcmp hx hb dX1_placeBeside_38 ?_
      refine lv_if_le (tgt := 44) hx hb dX1_placeBeside_39 (by decide) (fun c39 => ?_) (fun c39 => ?_)
      · rw [lg_cmp_le, Int64.le_iff_toInt_le, hkv, hn] at c39
        have hKn : ((K.toNat : Nat) : Int) = K := by omega
        refine lv_lload hx hb dX1_placeBeside_44 (lv_at hl 1 rfl) ?_
        refine lv_lconst (v := 0) hx hb dX1_placeBeside_46 (by decide) ?_
        refine W.lcmp hx hb dX1_placeBeside_47 ?_
        refine lv_if_ne (tgt := 53) hx hb dX1_placeBeside_48 (by decide) (fun c48 => ?_) (fun c48 => ?_)
        · rw [lg_cmp_eq, ← Int64.toInt_inj, hn, Int64.toInt_zero] at c48
          refine lv_iload hx hb dX1_placeBeside_53 (lv_at hl 6 rfl) ?_
          refine lv_iload_n hx hb dX1_placeBeside_55 rfl (lv_at hl 5 rfl) ?_
          refine lv_isub hx hb dX1_placeBeside_56 ?_
          refine va_mabs hx hb (by rw [hml]; exact hl.1.symm) hown (hts (.methodLink RX1 72 Lib.Math.abs.name) (by decide +kernel)) (hts (.static Lib.Math.abs.name) (by decide +kernel)) (hts (.initialized "java/lang/Math") (by decide +kernel)) (hts _ (List.mem_of_getElem? (i := 4) rfl)) (Nat.le_of_ble_eq_true rfl) (Nat.le_of_ble_eq_true rfl) (Nat.zero_le _) (Nat.zero_le _) dX1_placeBeside_57 ?_
          refine lv_topi (fun v57 ev57 => ?_)
          have hm : v57.toInt64.toInt = (lnN b0.toInt b1.toInt : Int) := by
            rw [Jvm.Kit.i64_of_i32, ev57, abs32 (by rw [sub32 (by omega) (by omega)]; omega), sub32 (by omega) (by omega)]; rfl
          have hmb : lnN b0.toInt b1.toInt ≤ 32768 := by unfold lnN; omega
          refine lv_i2l hx hb dX1_placeBeside_60 rfl ?_
          refine lv_lstore (lv' := [(9, .long v57.toInt64), (7, .long ((a0 - a).toInt64)), (5, .long v3.toInt64), (0, .int a), (1, .int a0), (2, .int a1), (3, .int b0), (4, .int b1)]) hx hb dX1_placeBeside_61 hl (by decide) rfl (fun ls hl => ?_)
          refine lv_ldc2 (v := 2) hx hb hown (hts (.constantLong RX1 93 2) (by decide +kernel)) dX1_placeBeside_63 ?_
          refine lv_lload hx hb dX1_placeBeside_66 (lv_at hl 1 rfl) ?_
          refine lv_lmul hx hb dX1_placeBeside_68 ?_
          refine lv_lload hx hb dX1_placeBeside_69 (lv_at hl 0 rfl) ?_
          refine lv_lmul hx hb dX1_placeBeside_71 ?_
          refine lv_lload hx hb dX1_placeBeside_72 (lv_at hl 2 rfl) ?_
          refine lv_ladd hx hb dX1_placeBeside_74 ?_
          refine lv_lconst (v := 1) hx hb dX1_placeBeside_75 (by decide) ?_
          refine lv_lsub hx hb dX1_placeBeside_76 ?_
          refine lv_ldc2 (v := 2) hx hb hown (hts (.constantLong RX1 93 2) (by decide +kernel)) dX1_placeBeside_77 ?_
          refine lv_lload hx hb dX1_placeBeside_80 (lv_at hl 2 rfl) ?_
          refine lv_lmul hx hb dX1_placeBeside_82 ?_
          have hnz : ¬ 2 * v3.toInt64 = 0 := by
            rw [← Int64.toInt_inj, Jvm.Kit.i64_mul (by rw [hn, show (2 : Int64).toInt = 2 from by decide]; omega) (by rw [hn, show (2 : Int64).toInt = 2 from by decide]; omega), hn, show (2 : Int64).toInt = 2 from by decide, Int64.toInt_zero]; omega
          refine lv_ldiv hx hb dX1_placeBeside_83 hnz ?_
          refine lv_l2i hx hb dX1_placeBeside_84 rfl ?_
          refine lv_topi (fun v84 ev84 => ?_)
          have hfar : v84.toInt = lnF N (lnN b0.toInt b1.toInt : Nat) K := by rw [ev84]; exact far_val hn hm hkv (by omega) (by omega) (by omega)
          have hfb := lnF_b (n := N) (m := (lnN b0.toInt b1.toInt : Nat)) (k := K) (by omega) (by omega) (by omega)
          refine lv_istore (lv' := [(11, .int v84), (9, .long v57.toInt64), (7, .long ((a0 - a).toInt64)), (5, .long v3.toInt64), (0, .int a), (1, .int a0), (2, .int a1), (3, .int b0), (4, .int b1)]) hx hb dX1_placeBeside_85 hl (by decide) rfl (fun ls hl => ?_)
          refine lv_iload hx hb dX1_placeBeside_87 (lv_at hl 8 rfl) ?_
          refine lv_iload_n hx hb dX1_placeBeside_89 rfl (lv_at hl 7 rfl) ?_
          refine lv_icmp_ge (tgt := 100) hx hb dX1_placeBeside_90 (by decide) (fun c90 => ?_) (fun c90 => ?_)
          · refine lv_iload_n hx hb dX1_placeBeside_100 rfl (lv_at hl 7 rfl) ?_
            refine lv_iload hx hb dX1_placeBeside_101 (lv_at hl 0 rfl) ?_
            refine lv_iadd hx hb dX1_placeBeside_103 ?_
            have hP9 := hP.sub (ws' := []) [] rfl
            have hD9 := hD.sub (ws' := []) [] (by decide) rfl
            exact W.iret (v := (b0 + v84)) hx hb hr (fun t ht hW => ⟨⟨b0 + v84, (), rfl, Or.inl ⟨K.toNat, by rw [hNe]; omega, (hX _).mpr hKn, by unfold lnY; rw [hNe, hKn, ← hfar, if_neg (by rw [Int32.le_iff_toInt_le] at c90; omega), Jvm.Kit.i32_add (by omega) (by omega)]⟩, by rw [ht]; exact hP9, va_K.moved hW.alike hK, hD9⟩, hS.F ht⟩) hS.2.2 dX1_placeBeside_104
          · refine lv_iload_n hx hb dX1_placeBeside_93 rfl (lv_at hl 7 rfl) ?_
            refine lv_iload hx hb dX1_placeBeside_94 (lv_at hl 0 rfl) ?_
            refine lv_isub hx hb dX1_placeBeside_96 ?_
            refine lv_goto (tgt := 104) hx hb dX1_placeBeside_97 (by decide) ?_
            have hP9 := hP.sub (ws' := []) [] rfl
            have hD9 := hD.sub (ws' := []) [] (by decide) rfl
            exact W.iret (v := (b0 - v84)) hx hb hr (fun t ht hW => ⟨⟨b0 - v84, (), rfl, Or.inl ⟨K.toNat, by rw [hNe]; omega, (hX _).mpr hKn, by unfold lnY; rw [hNe, hKn, ← hfar, if_pos (by rw [Int32.le_iff_toInt_le] at c90; omega), Jvm.Kit.i32_sub (by omega) (by omega)]⟩, by rw [ht]; exact hP9, va_K.moved hW.alike hK, hD9⟩, hS.F ht⟩) hS.2.2 dX1_placeBeside_104
        · rw [lg_cmp_eq, ← Int64.toInt_inj, hn, Int64.toInt_zero] at c48
          refine lv_iload_n hx hb dX1_placeBeside_51 rfl (lv_at hl 5 rfl) ?_
          have hP9 := hP.sub (ws' := []) [] rfl
          have hD9 := hD.sub (ws' := []) [] (by decide) rfl
          exact W.iret (v := b0) hx hb hr (fun t ht hW => ⟨⟨b0, (), rfl, Or.inl ⟨0, Nat.zero_le _, (hX 0).mpr (by omega), by unfold lnY; rw [hNe, show ((N : Nat) : Int) = 0 from c48]; unfold lnF; simp⟩, by rw [ht]; exact hP9, va_K.moved hW.alike hK, hD9⟩, hS.F ht⟩) hS.2.2 dX1_placeBeside_52
      · rw [lg_cmp_le, Int64.le_iff_toInt_le, hkv, hn] at c39
        refine lv_iconst (v := (-1)) hx hb dX1_placeBeside_42 (by decide) ?_
        have hP9 := hP.sub (ws' := []) [] rfl
        have hD9 := hD.sub (ws' := []) [] (by decide) rfl
        exact W.iret (v := (-1)) hx hb hr (fun t ht hW => ⟨⟨(-1), (), rfl, Or.inr ⟨fun k hk q => by rw [hX] at q; rw [hNe] at hk; omega, rfl⟩, by rw [ht]; exact hP9, va_K.moved hW.alike hK, hD9⟩, hS.F ht⟩) hS.2.2 dX1_placeBeside_43

set_option maxHeartbeats 4000000 in
set_option maxRecDepth 100000 in
/-- line -/
theorem c_X1_line (l : Launch) (dC : Nat → ClassId) (dI : Nat → Nat → Nat) (sz : Nat) (ad : Nat → Nat) (tc : Nat → ClassId) (w h : Nat) (qd : Int32) (col : Nat → Int32) (hw1 : 1 ≤ w) (hw2 : w ≤ 24) (hh1 : 1 ≤ h) (hh2 : h ≤ 24) (x0 y0 x1 y1 c : Int32) : Met l yX1_line wsX1_line ({ frames := 3, cells := 0, slots := 0, locals := 69 }) (mP (dC, dI) vwCl [(tc 1, .int)] [(ad 0, .inr (1, [.int (nI w), .int (nI h), .ref (ad 1), .ref (ad 2), .ref (ad 3), .ref (ad 4), .ref (ad 5), .int qd])), (ad 1, .inl (tc 1, (w * h), .inl col))] sz [.ref (ad 0), .int x0, .int y0, .int x1, .int y1, .int c]) (va_Qi (fun (r : Int32) (u : Nat → Int32) => (¬ LOK x0 y0 x1 y1 ∧ r = -1 ∧ u = col) ∨ (LOK x0 y0 x1 y1 ∧ WIDE x0 y0 x1 y1 ∧ r = nI (cnt (HIT x0.toInt x1.toInt y0.toInt y1.toInt h) w) ∧ LFin (w * h) (QW w x0 y0 x1 y1) col c u) ∨ (LOK x0 y0 x1 y1 ∧ ¬ WIDE x0 y0 x1 y1 ∧ r = nI (cnt (HIT y0.toInt y1.toInt x0.toInt x1.toInt w) h) ∧ LFin (w * h) (QT w x0 y0 x1 y1) col c u)) (mB (dC, dI) vwCl [(tc 1, .int)] (va_A [(ad 0, .inr (1, [.int (nI w), .int (nI h), .ref (ad 1), .ref (ad 2), .ref (ad 3), .ref (ad 4), .ref (ad 5), .int qd])), (ad 1, .inl (tc 1, (w * h), .inl col))] sz) (fun u => [(ad 0, .inr (1, [.int (nI w), .int (nI h), .ref (ad 1), .ref (ad 2), .ref (ad 3), .ref (ad 4), .ref (ad 5), .int qd])), (ad 1, .inl (tc 1, (w * h), .inl u))])) (va_A [(ad 0, .inr (1, [.int (nI w), .int (nI h), .ref (ad 1), .ref (ad 2), .ref (ad 3), .ref (ad 4), .ref (ad 5), .int qd])), (ad 1, .inl (tc 1, (w * h), .inl col))] sz)) 0 0 (va_A [(ad 0, .inr (1, [.int (nI w), .int (nI h), .ref (ad 1), .ref (ad 2), .ref (ad 3), .ref (ad 4), .ref (ad 5), .int qd])), (ad 1, .inl (tc 1, (w * h), .inl col))] sz) := by
  refine Met.ofW (cc := cX1_line) (maxL := 8) (ret := (some .int)) (by decide) rfl ?_
  intro p e s m args below meth cD s₁ B hml hv
  obtain ⟨rfl, hsz, hP, hK, hD0, hN⟩ := hv
  have hx := B.exec
  have hb := B.bytes
  have hr := B.returns
  have hts := atoms_spec (ws := wsX1_line) B.pre
  have hown : s.vm.findClass RX1 = some m.cls := findClass_of_methodNamed B.named
  have hlocks := B.notSynchronized
  subst hsz
  have hD := hD0.self (sz := s.heap.size)
  generalize hAe : va_A [(ad 0, .inr (1, [.int (nI w), .int (nI h), .ref (ad 1), .ref (ad 2), .ref (ad 3), .ref (ad 4), .ref (ad 5), .int qd])), (ad 1, .inl (tc 1, (w * h), .inl col))] s.heap.size = A at hD ⊢
  have hA : ∀ q : Nat, s.heap.size ≤ q → A q := fun q h => by rw [← hAe]; exact Or.inr h
  have hS : va_S A s.heap s.heap [] := va_S.rf
  have hP : va_P (dC, dI) vwCl [(ad 0, .inr (1, [.int (nI w), .int (nI h), .ref (ad 1), .ref (ad 2), .ref (ad 3), .ref (ad 4), .ref (ad 5), .int qd])), (ad 1, .inl (tc 1, (w * h), .inl col))] s.heap := hP
  have hl := lv_entry ([.ref (ad 0), .int x0, .int y0, .int x1, .int y1, .int c]) (n := 8) (Nat.le_of_ble_eq_true rfl)
  rw [lg_entry_eq]
  generalize (lg_sl ([.ref (ad 0), .int x0, .int y0, .int x1, .int y1, .int c]) ++ List.replicate (8 - (lg_sl ([.ref (ad 0), .int x0, .int y0, .int x1, .int y1, .int c])).length) Slot.unset).toArray = ls at hl ⊢
  have hl : lv_has ls 8 [(0, .ref (ad 0)), (1, .int x0), (2, .int y0), (3, .int x1), (4, .int y1), (5, .int c)] := hl
  have hwh := wh_le hw2 hh2
  refine lv_iload_n hx hb dX1_line_0 rfl (lv_at hl 1 rfl) ?_
  refine m_calli (cs := []) (wr := [(ad 0, .inr (1, [.int (nI w), .int (nI h), .ref (ad 1), .ref (ad 2), .ref (ad 3), .ref (ad 4), .ref (ad 5), .int qd])), (ad 1, .inl (tc 1, (w * h), .inl col))]) hP hD hS hA [] [0, 1] rfl rfl (by decide) (by decide) (va_runS (As := [.int x0]) (rest := []) ⟨hx, hb, hml, hown, hts⟩ (c_X1_isCoordinate l dC dI _ x0) (va_cwS 1 hts gX1_line_X1_isCoordinate rfl rfl rfl (by decide +kernel) ⟨Nat.le_of_ble_eq_true rfl, Nat.le_of_ble_eq_true rfl⟩) (m_preS (hP.sub [] rfl) (hK.sub [] rfl) (hD.sub [] (by decide) rfl) hN) rfl rfl hl.1 rfl (lv_room (Nat.le_of_ble_eq_true rfl)) dX1_line_1 ⟨Nat.le_of_ble_eq_true rfl, Nat.le_of_ble_eq_true rfl⟩) (fun r1 _ H locs q1 _ hP hD hS => ?_)
  have hP : va_P (dC, dI) vwCl [(ad 0, .inr (1, [.int (nI w), .int (nI h), .ref (ad 1), .ref (ad 2), .ref (ad 3), .ref (ad 4), .ref (ad 5), .int qd])), (ad 1, .inl (tc 1, (w * h), .inl col))] H := hP.sub [0, 1] rfl
  have hD : va_D A [(ad 0, .inr (1, [.int (nI w), .int (nI h), .ref (ad 1), .ref (ad 2), .ref (ad 3), .ref (ad 4), .ref (ad 5), .int qd])), (ad 1, .inl (tc 1, (w * h), .inl col))] := hD.sub [0, 1] (by decide) rfl
  refine lv_if_eq (tgt := 29) hx hb dX1_line_4 (by decide) (fun c4 => ?_) (fun c4 => ?_)
  · refine lv_iconst (v := (-1)) hx hb dX1_line_29 (by decide) ?_
    have hP9 := hP.sub (ws' := [(ad 0, .inr (1, [.int (nI w), .int (nI h), .ref (ad 1), .ref (ad 2), .ref (ad 3), .ref (ad 4), .ref (ad 5), .int qd])), (ad 1, .inl (tc 1, (w * h), .inl col))]) [0, 1] rfl
    have hD9 := hD.sub (ws' := [(ad 0, .inr (1, [.int (nI w), .int (nI h), .ref (ad 1), .ref (ad 2), .ref (ad 3), .ref (ad 4), .ref (ad 5), .int qd])), (ad 1, .inl (tc 1, (w * h), .inl col))]) [0, 1] (by decide) rfl
    exact W.iret (v := (-1)) hx hb hr (fun t ht hW => ⟨⟨(-1), col, rfl, Or.inl ⟨fun h => (b01 q1).mp c4 h.1, rfl, rfl⟩, by rw [ht]; exact hP9, va_K.moved hW.alike hK, hD9⟩, hS.F ht⟩) hS.2.2 dX1_line_30
  · refine lv_iload_n hx hb dX1_line_7 rfl (lv_at hl 2 rfl) ?_
    refine m_calli (cs := []) (wr := [(ad 0, .inr (1, [.int (nI w), .int (nI h), .ref (ad 1), .ref (ad 2), .ref (ad 3), .ref (ad 4), .ref (ad 5), .int qd])), (ad 1, .inl (tc 1, (w * h), .inl col))]) hP hD hS hA [] [0, 1] rfl rfl (by decide) (by decide) (va_runS (As := [.int y0]) (rest := []) ⟨hx, hb, hml, hown, hts⟩ (c_X1_isCoordinate l dC dI _ y0) (va_cwS 1 hts gX1_line_X1_isCoordinate rfl rfl rfl (by decide +kernel) ⟨Nat.le_of_ble_eq_true rfl, Nat.le_of_ble_eq_true rfl⟩) (m_preS (hP.sub [] rfl) (hK.sub [] rfl) (hD.sub [] (by decide) rfl) hN) rfl rfl hl.1 rfl (lv_room (Nat.le_of_ble_eq_true rfl)) dX1_line_8 ⟨Nat.le_of_ble_eq_true rfl, Nat.le_of_ble_eq_true rfl⟩) (fun r8 _ H locs q8 _ hP hD hS => ?_)
    have hP : va_P (dC, dI) vwCl [(ad 0, .inr (1, [.int (nI w), .int (nI h), .ref (ad 1), .ref (ad 2), .ref (ad 3), .ref (ad 4), .ref (ad 5), .int qd])), (ad 1, .inl (tc 1, (w * h), .inl col))] H := hP.sub [0, 1] rfl
    have hD : va_D A [(ad 0, .inr (1, [.int (nI w), .int (nI h), .ref (ad 1), .ref (ad 2), .ref (ad 3), .ref (ad 4), .ref (ad 5), .int qd])), (ad 1, .inl (tc 1, (w * h), .inl col))] := hD.sub [0, 1] (by decide) rfl
    refine lv_if_eq (tgt := 29) hx hb dX1_line_11 (by decide) (fun c11 => ?_) (fun c11 => ?_)
    · refine lv_iconst (v := (-1)) hx hb dX1_line_29 (by decide) ?_
      have hP9 := hP.sub (ws' := [(ad 0, .inr (1, [.int (nI w), .int (nI h), .ref (ad 1), .ref (ad 2), .ref (ad 3), .ref (ad 4), .ref (ad 5), .int qd])), (ad 1, .inl (tc 1, (w * h), .inl col))]) [0, 1] rfl
      have hD9 := hD.sub (ws' := [(ad 0, .inr (1, [.int (nI w), .int (nI h), .ref (ad 1), .ref (ad 2), .ref (ad 3), .ref (ad 4), .ref (ad 5), .int qd])), (ad 1, .inl (tc 1, (w * h), .inl col))]) [0, 1] (by decide) rfl
      exact W.iret (v := (-1)) hx hb hr (fun t ht hW => ⟨⟨(-1), col, rfl, Or.inl ⟨fun h => (b01 q8).mp c11 h.2.1, rfl, rfl⟩, by rw [ht]; exact hP9, va_K.moved hW.alike hK, hD9⟩, hS.F ht⟩) hS.2.2 dX1_line_30
    · refine lv_iload_n hx hb dX1_line_14 rfl (lv_at hl 3 rfl) ?_
      refine m_calli (cs := []) (wr := [(ad 0, .inr (1, [.int (nI w), .int (nI h), .ref (ad 1), .ref (ad 2), .ref (ad 3), .ref (ad 4), .ref (ad 5), .int qd])), (ad 1, .inl (tc 1, (w * h), .inl col))]) hP hD hS hA [] [0, 1] rfl rfl (by decide) (by decide) (va_runS (As := [.int x1]) (rest := []) ⟨hx, hb, hml, hown, hts⟩ (c_X1_isCoordinate l dC dI _ x1) (va_cwS 1 hts gX1_line_X1_isCoordinate rfl rfl rfl (by decide +kernel) ⟨Nat.le_of_ble_eq_true rfl, Nat.le_of_ble_eq_true rfl⟩) (m_preS (hP.sub [] rfl) (hK.sub [] rfl) (hD.sub [] (by decide) rfl) hN) rfl rfl hl.1 rfl (lv_room (Nat.le_of_ble_eq_true rfl)) dX1_line_15 ⟨Nat.le_of_ble_eq_true rfl, Nat.le_of_ble_eq_true rfl⟩) (fun r15 _ H locs q15 _ hP hD hS => ?_)
      have hP : va_P (dC, dI) vwCl [(ad 0, .inr (1, [.int (nI w), .int (nI h), .ref (ad 1), .ref (ad 2), .ref (ad 3), .ref (ad 4), .ref (ad 5), .int qd])), (ad 1, .inl (tc 1, (w * h), .inl col))] H := hP.sub [0, 1] rfl
      have hD : va_D A [(ad 0, .inr (1, [.int (nI w), .int (nI h), .ref (ad 1), .ref (ad 2), .ref (ad 3), .ref (ad 4), .ref (ad 5), .int qd])), (ad 1, .inl (tc 1, (w * h), .inl col))] := hD.sub [0, 1] (by decide) rfl
      refine lv_if_eq (tgt := 29) hx hb dX1_line_18 (by decide) (fun c18 => ?_) (fun c18 => ?_)
      · refine lv_iconst (v := (-1)) hx hb dX1_line_29 (by decide) ?_
        have hP9 := hP.sub (ws' := [(ad 0, .inr (1, [.int (nI w), .int (nI h), .ref (ad 1), .ref (ad 2), .ref (ad 3), .ref (ad 4), .ref (ad 5), .int qd])), (ad 1, .inl (tc 1, (w * h), .inl col))]) [0, 1] rfl
        have hD9 := hD.sub (ws' := [(ad 0, .inr (1, [.int (nI w), .int (nI h), .ref (ad 1), .ref (ad 2), .ref (ad 3), .ref (ad 4), .ref (ad 5), .int qd])), (ad 1, .inl (tc 1, (w * h), .inl col))]) [0, 1] (by decide) rfl
        exact W.iret (v := (-1)) hx hb hr (fun t ht hW => ⟨⟨(-1), col, rfl, Or.inl ⟨fun h => (b01 q15).mp c18 h.2.2.1, rfl, rfl⟩, by rw [ht]; exact hP9, va_K.moved hW.alike hK, hD9⟩, hS.F ht⟩) hS.2.2 dX1_line_30
      · refine lv_iload hx hb dX1_line_21 (lv_at hl 4 rfl) ?_
        refine m_calli (cs := []) (wr := [(ad 0, .inr (1, [.int (nI w), .int (nI h), .ref (ad 1), .ref (ad 2), .ref (ad 3), .ref (ad 4), .ref (ad 5), .int qd])), (ad 1, .inl (tc 1, (w * h), .inl col))]) hP hD hS hA [] [0, 1] rfl rfl (by decide) (by decide) (va_runS (As := [.int y1]) (rest := []) ⟨hx, hb, hml, hown, hts⟩ (c_X1_isCoordinate l dC dI _ y1) (va_cwS 1 hts gX1_line_X1_isCoordinate rfl rfl rfl (by decide +kernel) ⟨Nat.le_of_ble_eq_true rfl, Nat.le_of_ble_eq_true rfl⟩) (m_preS (hP.sub [] rfl) (hK.sub [] rfl) (hD.sub [] (by decide) rfl) hN) rfl rfl hl.1 rfl (lv_room (Nat.le_of_ble_eq_true rfl)) dX1_line_23 ⟨Nat.le_of_ble_eq_true rfl, Nat.le_of_ble_eq_true rfl⟩) (fun r23 _ H locs q23 _ hP hD hS => ?_)
        have hP : va_P (dC, dI) vwCl [(ad 0, .inr (1, [.int (nI w), .int (nI h), .ref (ad 1), .ref (ad 2), .ref (ad 3), .ref (ad 4), .ref (ad 5), .int qd])), (ad 1, .inl (tc 1, (w * h), .inl col))] H := hP.sub [0, 1] rfl
        have hD : va_D A [(ad 0, .inr (1, [.int (nI w), .int (nI h), .ref (ad 1), .ref (ad 2), .ref (ad 3), .ref (ad 4), .ref (ad 5), .int qd])), (ad 1, .inl (tc 1, (w * h), .inl col))] := hD.sub [0, 1] (by decide) rfl
        refine lv_if_ne (tgt := 31) hx hb dX1_line_26 (by decide) (fun c26 => ?_) (fun c26 => ?_)
        · have i1 := Classical.byContradiction (fun h => c4 ((b01 q1).mpr h))
          have i8 := Classical.byContradiction (fun h => c11 ((b01 q8).mpr h))
          have i15 := Classical.byContradiction (fun h => c18 ((b01 q15).mpr h))
          have i23 := Classical.byContradiction (fun h => c26 ((b01 q23).mpr h))
          have hOK : LOK x0 y0 x1 y1 := ⟨i1, i8, i15, i23⟩
          have n0 : x0.toInt.natAbs ≤ 16384 := by omega
          have n1 : y0.toInt.natAbs ≤ 16384 := by omega
          have n2 : x1.toInt.natAbs ≤ 16384 := by omega
          have n3 : y1.toInt.natAbs ≤ 16384 := by omega
          refine lv_iconst (v := 0) hx hb dX1_line_31 (by decide) ?_
          refine lv_topi (fun zz ezz => ?_)
          obtain rfl : zz = nI 0 := ezz.trans (nI_0.symm)
          refine lv_istore (lv' := [(6, .int (nI 0)), (0, .ref (ad 0)), (1, .int x0), (2, .int y0), (3, .int x1), (4, .int y1), (5, .int c)]) hx hb dX1_line_32 hl (by decide) rfl (fun ls hl => ?_)
          refine lv_iload_n hx hb dX1_line_34 rfl (lv_at hl 4 rfl) ?_
          refine lv_iload_n hx hb dX1_line_35 rfl (lv_at hl 2 rfl) ?_
          refine lv_isub hx hb dX1_line_36 ?_
          refine va_mabs hx hb (by rw [hml]; exact hl.1.symm) hown (hts (.methodLink RX1 72 Lib.Math.abs.name) (by decide +kernel)) (hts (.static Lib.Math.abs.name) (by decide +kernel)) (hts (.initialized "java/lang/Math") (by decide +kernel)) (hts _ (List.mem_of_getElem? (i := 4) rfl)) (Nat.le_of_ble_eq_true rfl) (Nat.le_of_ble_eq_true rfl) (Nat.zero_le _) (Nat.zero_le _) dX1_line_37 ?_
          refine lv_topi (fun v37 ev37 => ?_)
          have e37 : v37.toInt = (lnN x0.toInt x1.toInt : Int) := by
            rw [ev37, abs32 (by rw [sub32 (by omega) (by omega)]; omega), sub32 (by omega) (by omega)]; rfl
          refine lv_iload hx hb dX1_line_40 (lv_at hl 5 rfl) ?_
          refine lv_iload_n hx hb dX1_line_42 rfl (lv_at hl 3 rfl) ?_
          refine lv_isub hx hb dX1_line_43 ?_
          refine va_mabs hx hb (by rw [hml]; exact hl.1.symm) hown (hts (.methodLink RX1 72 Lib.Math.abs.name) (by decide +kernel)) (hts (.static Lib.Math.abs.name) (by decide +kernel)) (hts (.initialized "java/lang/Math") (by decide +kernel)) (hts _ (List.mem_of_getElem? (i := 4) rfl)) (Nat.le_of_ble_eq_true rfl) (Nat.le_of_ble_eq_true rfl) (Nat.zero_le _) (Nat.zero_le _) dX1_line_44 ?_
          refine lv_topi (fun v44 ev44 => ?_)
          have e44 : v44.toInt = (lnN y0.toInt y1.toInt : Int) := by
            rw [ev44, abs32 (by rw [sub32 (by omega) (by omega)]; omega), sub32 (by omega) (by omega)]; rfl
          refine lv_icmp_lt (tgt := 94) hx hb dX1_line_47 (by decide) (fun c47 => ?_) (fun c47 => ?_)
          · have hWi : ¬ WIDE x0 y0 x1 y1 := by unfold WIDE; rw [Int32.lt_iff_toInt_lt, e37, e44] at c47; omega
            refine lv_iconst (v := 0) hx hb dX1_line_94 (by decide) ?_
            refine lv_topi (fun zz ezz => ?_)
            obtain rfl : zz = nI 0 := ezz.trans (nI_0.symm)
            refine lv_istore (lv' := [(7, .int (nI 0)), (6, .int (nI 0)), (0, .ref (ad 0)), (1, .int x0), (2, .int y0), (3, .int x1), (4, .int y1), (5, .int c)]) hx hb dX1_line_95 hl (by decide) rfl (fun ls hl => ?_)
            have loop97 : ∀ (n : Nat) (y : Nat) (k : Nat) (g : Nat → Int32), y ≤ h → k = cnt (HIT y0.toInt y1.toInt x0.toInt x1.toInt w) y → LIn (w * h) (fun i => i / w) (QT w x0 y0 x1 y1) col c y g → h + 1 ≤ y + n → ∀ (H : Heap) (locs : List Loc), va_P (dC, dI) vwCl [(ad 0, .inr (1, [.int (nI w), .int (nI h), .ref (ad 1), .ref (ad 2), .ref (ad 3), .ref (ad 4), .ref (ad 5), .int qd])), (ad 1, .inl (tc 1, (w * h), .inl g))] H → va_D A [(ad 0, .inr (1, [.int (nI w), .int (nI h), .ref (ad 1), .ref (ad 2), .ref (ad 3), .ref (ad 4), .ref (ad 5), .int qd])), (ad 1, .inl (tc 1, (w * h), .inl g))] → va_S A s.heap H locs → ∀ (ls : Array Slot), lv_has ls 8 [(0, .ref (ad 0)), (1, .int x0), (2, .int y0), (3, .int x1), (4, .int y1), (5, .int c), (6, .int (nI k)), (7, .int (nI y))] → W p l e (headSpec wsX1_line { frames := 3, cells := 0, slots := 0, locals := 69 }).room s m [.ref (ad 0), .int x0, .int y0, .int x1, .int y1, .int c].toArray below meth cD H locs 0 0 (MQ below (va_Qi (fun (r : Int32) (u : Nat → Int32) => (¬ LOK x0 y0 x1 y1 ∧ r = -1 ∧ u = col) ∨ (LOK x0 y0 x1 y1 ∧ WIDE x0 y0 x1 y1 ∧ r = nI (cnt (HIT x0.toInt x1.toInt y0.toInt y1.toInt h) w) ∧ LFin (w * h) (QW w x0 y0 x1 y1) col c u) ∨ (LOK x0 y0 x1 y1 ∧ ¬ WIDE x0 y0 x1 y1 ∧ r = nI (cnt (HIT y0.toInt y1.toInt x0.toInt x1.toInt w) h) ∧ LFin (w * h) (QT w x0 y0 x1 y1) col c u)) (mB (dC, dI) vwCl [(tc 1, .int)] A (fun u => [(ad 0, .inr (1, [.int (nI w), .int (nI h), .ref (ad 1), .ref (ad 2), .ref (ad 3), .ref (ad 4), .ref (ad 5), .int qd])), (ad 1, .inl (tc 1, (w * h), .inl u))])) A) [.ref (ad 0), .int x0, .int y0, .int x1, .int y1, .int c].toArray s 0 0 A) (F0 m 97 ls []) := by
              intro n
              induction n with
              | zero => intro y k g hx9 hk hI hm; exfalso; omega
              | succ n ih =>
                intro y k g hx9 hk hI hm H locs hP hD hS ls hl
                refine lv_iload hx hb dX1_line_97 (lv_at hl 7 rfl) ?_
                refine lv_aload_n hx hb dX1_line_99 rfl (lv_at hl 0 rfl) ?_
                refine va_get (D := (dC, dI)) (ci := 1) (v := .int (nI h)) (C := RX1) (T := TX1) (N := 8) hx hb hts (by decide +kernel) hown hK hP 0 rfl rfl 1 (by decide) (hts (.fieldLink RX1 17 "TriangleRaster" "height" "I") (by decide +kernel)) (fun _ h9 => h9) rfl dX1_line_100 ?_
                refine lv_icmp_ge (tgt := 135) hx hb dX1_line_103 (by decide) (fun c103 => ?_) (fun c103 => ?_)
                · refine lv_iload hx hb dX1_line_135 (lv_at hl 6 rfl) ?_
                  have hP9 := hP.sub (ws' := [(ad 0, .inr (1, [.int (nI w), .int (nI h), .ref (ad 1), .ref (ad 2), .ref (ad 3), .ref (ad 4), .ref (ad 5), .int qd])), (ad 1, .inl (tc 1, (w * h), .inl g))]) [0, 1] rfl
                  have hD9 := hD.sub (ws' := [(ad 0, .inr (1, [.int (nI w), .int (nI h), .ref (ad 1), .ref (ad 2), .ref (ad 3), .ref (ad 4), .ref (ad 5), .int qd])), (ad 1, .inl (tc 1, (w * h), .inl g))]) [0, 1] (by decide) rfl
                  exact W.iret (v := (nI k)) hx hb hr (fun t ht hW => ⟨⟨nI k, g, rfl, by have hyh : y = h := (by rw [nI_leI (by omega) (by omega)] at c103; omega); rw [hyh] at hk hI; exact Or.inr (Or.inr ⟨hOK, hWi, by rw [hk], LIn_fin hI (fun i hi => (row_bd hi).2)⟩), by rw [ht]; exact hP9, va_K.moved hW.alike hK, hD9⟩, hS.F ht⟩) hS.2.2 dX1_line_137
                · have hy0 : y < h := by rw [nI_leI (by omega) (by omega)] at c103; omega
                  refine lv_iload hx hb dX1_line_106 (lv_at hl 6 rfl) ?_
                  refine lv_aload_n hx hb dX1_line_108 rfl (lv_at hl 0 rfl) ?_
                  refine lv_iload hx hb dX1_line_109 (lv_at hl 7 rfl) ?_
                  refine lv_iload_n hx hb dX1_line_111 rfl (lv_at hl 2 rfl) ?_
                  refine lv_iload hx hb dX1_line_112 (lv_at hl 4 rfl) ?_
                  refine lv_iload_n hx hb dX1_line_114 rfl (lv_at hl 1 rfl) ?_
                  refine lv_iload_n hx hb dX1_line_115 rfl (lv_at hl 3 rfl) ?_
                  refine m_calli (cs := []) (wr := [(ad 0, .inr (1, [.int (nI w), .int (nI h), .ref (ad 1), .ref (ad 2), .ref (ad 3), .ref (ad 4), .ref (ad 5), .int qd])), (ad 1, .inl (tc 1, (w * h), .inl g))]) hP hD hS hA [] [0, 1] rfl rfl (by decide) (by decide) (va_runS (As := [.int (nI y), .int y0, .int y1, .int x0, .int x1]) (rest := [.ref (ad 0), .int (nI k)]) ⟨hx, hb, hml, hown, hts⟩ (c_X1_placeBeside l dC dI _ (nI y) y0 y1 x0 x1 (by rw [nI_toInt (by omega)]; omega) n1 n3 n0 n2) (va_cwS 5 hts gX1_line_X1_placeBeside rfl rfl rfl (by decide +kernel) ⟨Nat.le_of_ble_eq_true rfl, Nat.le_of_ble_eq_true rfl⟩) (m_preS (hP.sub [] rfl) (hK.sub [] rfl) (hD.sub [] (by decide) rfl) hN) rfl rfl hl.1 rfl (lv_room (Nat.le_of_ble_eq_true rfl)) dX1_line_116 ⟨Nat.le_of_ble_eq_true rfl, Nat.le_of_ble_eq_true rfl⟩) (fun r116 _ H locs q116 _ hP hD hS => ?_)
                  have hP : va_P (dC, dI) vwCl [(ad 0, .inr (1, [.int (nI w), .int (nI h), .ref (ad 1), .ref (ad 2), .ref (ad 3), .ref (ad 4), .ref (ad 5), .int qd])), (ad 1, .inl (tc 1, (w * h), .inl g))] H := hP.sub [0, 1] rfl
                  have hD : va_D A [(ad 0, .inr (1, [.int (nI w), .int (nI h), .ref (ad 1), .ref (ad 2), .ref (ad 3), .ref (ad 4), .ref (ad 5), .int qd])), (ad 1, .inl (tc 1, (w * h), .inl g))] := hD.sub [0, 1] (by decide) rfl
                  rw [nI_toInt (by omega)] at q116
                  refine lv_iload hx hb dX1_line_119 (lv_at hl 7 rfl) ?_
                  refine lv_iload hx hb dX1_line_121 (lv_at hl 5 rfl) ?_
                  refine m_calli (cs := [(ad 0, .inr (1, [.int (nI w), .int (nI h), .ref (ad 1), .ref (ad 2), .ref (ad 3), .ref (ad 4), .ref (ad 5), .int qd])), (ad 1, .inl (tc 1, (w * h), .inl g))]) (wr := []) hP hD hS hA [0, 1] [] rfl rfl (by decide) (by decide) (va_runV (As := [.int r116, .int (nI y), .int c]) (rest := [.int (nI k)]) ⟨hx, hb, hml, hown, hts⟩ (c_X1_paint l dC dI _ ad tc w h qd g hw1 hw2 hh1 hh2 r116 (nI y) c) (cwV 3 hts gX1_line_X1_paint rfl rfl rfl (by decide +kernel) ⟨Nat.le_of_ble_eq_true rfl, Nat.le_of_ble_eq_true rfl⟩) (m_preV (ci := 1) (q0 := 0) (hP.sub [0, 1] rfl) (hK.sub [0] rfl) (hD.sub [0, 1] (by decide) rfl) hN rfl rfl) rfl rfl hl.1 rfl (lv_room (Nat.le_of_ble_eq_true rfl)) dX1_line_123 ⟨Nat.le_of_ble_eq_true rfl, Nat.le_of_ble_eq_true rfl⟩) (fun r123 f123 H locs q123 _ hP hD hS => ?_)
                  have hP : va_P (dC, dI) vwCl [(ad 0, .inr (1, [.int (nI w), .int (nI h), .ref (ad 1), .ref (ad 2), .ref (ad 3), .ref (ad 4), .ref (ad 5), .int qd])), (ad 1, .inl (tc 1, (w * h), .inl f123))] H := hP.sub [0, 1] rfl
                  have hD : va_D A [(ad 0, .inr (1, [.int (nI w), .int (nI h), .ref (ad 1), .ref (ad 2), .ref (ad 3), .ref (ad 4), .ref (ad 5), .int qd])), (ad 1, .inl (tc 1, (w * h), .inl f123))] := hD.sub [0, 1] (by decide) rfl
                  refine lv_iadd hx hb dX1_line_126 ?_
                  refine lv_istore (lv' := [(6, .int ((nI k) + r123)), (0, .ref (ad 0)), (1, .int x0), (2, .int y0), (3, .int x1), (4, .int y1), (5, .int c), (7, .int (nI y))]) hx hb dX1_line_127 hl (by decide) rfl (fun ls hl => ?_)
                  refine lv_iinc (v := nI (y + 1)) (lv' := [(7, .int (nI (y + 1))), (6, .int ((nI k) + r123)), (0, .ref (ad 0)), (1, .int x0), (2, .int y0), (3, .int x1), (4, .int y1), (5, .int c)]) hx hb dX1_line_129 hl (k := 7) rfl (nI_add _ 1) (by decide) rfl (fun ls hl => ?_)
                  refine lv_goto (tgt := 97) hx hb dX1_line_132 (by decide) ?_
                  rcases q123 with ⟨g1, g2, g3⟩ | ⟨g1, g2, g3⟩
                  · subst g2
                    have hin := g1.1
                    obtain ⟨t1, t2, t3⟩ := LT_yes (w := w) q116 hin
                    have e2 : nI k + 1 = nI (k + 1) := nI_1 k
                    rw [e2] at hl
                    have hL : lin w r116 (nI y) = y * w + r116.toInt.toNat := by unfold lin; rw [nI_toInt (by omega), Int.toNat_natCast]
                    rw [hL] at g3
                    exact ih (y + 1) (k + 1) f123 (by omega) (by rw [hk, cnt_yes t1]) (by rw [g3]; exact LIn_yes hI (row_div _ (by omega)) t2 (fun i _ => t3 i)) (by omega) _ _ (hP.sub [0, 1] rfl) (hD.sub [0, 1] (by decide) rfl) hS ls (lv_sub hl [2, 3, 4, 5, 6, 7, 1, 0] rfl)
                  · subst g2
                    have hout : ¬ (0 ≤ r116.toInt ∧ r116.toInt < w) := fun q => g1 ⟨q, by rw [nI_toInt (by omega)]; omega⟩
                    obtain ⟨t1, t2⟩ := LT_no (w := w) (h := h) q116 hout
                    have e2 : nI k + 0 = nI k := by rw [← nI_0, nI_add]; rfl
                    rw [e2] at hl
                    exact ih (y + 1) k f123 (by omega) (by rw [hk, cnt_no t1]) (by rw [g3]; exact LIn_no hI (fun i hi => t2 i hi)) (by omega) _ _ (hP.sub [0, 1] rfl) (hD.sub [0, 1] (by decide) rfl) hS ls (lv_sub hl [2, 3, 4, 5, 6, 7, 1, 0] rfl)
            exact loop97 (h + 1) 0 0 col (Nat.zero_le _) rfl LIn_0 (by omega) _ _ (hP.sub [0, 1] rfl) (hD.sub [0, 1] (by decide) rfl) hS ls (lv_sub hl [2, 3, 4, 5, 6, 7, 1, 0] rfl)
          · have hWi : WIDE x0 y0 x1 y1 := by unfold WIDE; rw [Int32.lt_iff_toInt_lt, e37, e44] at c47; omega
            refine lv_iconst (v := 0) hx hb dX1_line_50 (by decide) ?_
            refine lv_topi (fun zz ezz => ?_)
            obtain rfl : zz = nI 0 := ezz.trans (nI_0.symm)
            refine lv_istore (lv' := [(7, .int (nI 0)), (6, .int (nI 0)), (0, .ref (ad 0)), (1, .int x0), (2, .int y0), (3, .int x1), (4, .int y1), (5, .int c)]) hx hb dX1_line_51 hl (by decide) rfl (fun ls hl => ?_)
            have loop53 : ∀ (n : Nat) (x : Nat) (k : Nat) (g : Nat → Int32), x ≤ w → k = cnt (HIT x0.toInt x1.toInt y0.toInt y1.toInt h) x → LIn (w * h) (fun i => i % w) (QW w x0 y0 x1 y1) col c x g → w + 1 ≤ x + n → ∀ (H : Heap) (locs : List Loc), va_P (dC, dI) vwCl [(ad 0, .inr (1, [.int (nI w), .int (nI h), .ref (ad 1), .ref (ad 2), .ref (ad 3), .ref (ad 4), .ref (ad 5), .int qd])), (ad 1, .inl (tc 1, (w * h), .inl g))] H → va_D A [(ad 0, .inr (1, [.int (nI w), .int (nI h), .ref (ad 1), .ref (ad 2), .ref (ad 3), .ref (ad 4), .ref (ad 5), .int qd])), (ad 1, .inl (tc 1, (w * h), .inl g))] → va_S A s.heap H locs → ∀ (ls : Array Slot), lv_has ls 8 [(0, .ref (ad 0)), (1, .int x0), (2, .int y0), (3, .int x1), (4, .int y1), (5, .int c), (6, .int (nI k)), (7, .int (nI x))] → W p l e (headSpec wsX1_line { frames := 3, cells := 0, slots := 0, locals := 69 }).room s m [.ref (ad 0), .int x0, .int y0, .int x1, .int y1, .int c].toArray below meth cD H locs 0 0 (MQ below (va_Qi (fun (r : Int32) (u : Nat → Int32) => (¬ LOK x0 y0 x1 y1 ∧ r = -1 ∧ u = col) ∨ (LOK x0 y0 x1 y1 ∧ WIDE x0 y0 x1 y1 ∧ r = nI (cnt (HIT x0.toInt x1.toInt y0.toInt y1.toInt h) w) ∧ LFin (w * h) (QW w x0 y0 x1 y1) col c u) ∨ (LOK x0 y0 x1 y1 ∧ ¬ WIDE x0 y0 x1 y1 ∧ r = nI (cnt (HIT y0.toInt y1.toInt x0.toInt x1.toInt w) h) ∧ LFin (w * h) (QT w x0 y0 x1 y1) col c u)) (mB (dC, dI) vwCl [(tc 1, .int)] A (fun u => [(ad 0, .inr (1, [.int (nI w), .int (nI h), .ref (ad 1), .ref (ad 2), .ref (ad 3), .ref (ad 4), .ref (ad 5), .int qd])), (ad 1, .inl (tc 1, (w * h), .inl u))])) A) [.ref (ad 0), .int x0, .int y0, .int x1, .int y1, .int c].toArray s 0 0 A) (F0 m 53 ls []) := by
              intro n
              induction n with
              | zero => intro x k g hx9 hk hI hm; exfalso; omega
              | succ n ih =>
                intro x k g hx9 hk hI hm H locs hP hD hS ls hl
                refine lv_iload hx hb dX1_line_53 (lv_at hl 7 rfl) ?_
                refine lv_aload_n hx hb dX1_line_55 rfl (lv_at hl 0 rfl) ?_
                refine va_get (D := (dC, dI)) (ci := 1) (v := .int (nI w)) (C := RX1) (T := TX1) (N := 8) hx hb hts (by decide +kernel) hown hK hP 0 rfl rfl 0 (by decide) (hts (.fieldLink RX1 13 "TriangleRaster" "width" "I") (by decide +kernel)) (fun _ h9 => h9) rfl dX1_line_56 ?_
                refine lv_icmp_ge (tgt := 91) hx hb dX1_line_59 (by decide) (fun c59 => ?_) (fun c59 => ?_)
                · refine lv_goto (tgt := 135) hx hb dX1_line_91 (by decide) ?_
                  refine lv_iload hx hb dX1_line_135 (lv_at hl 6 rfl) ?_
                  have hP9 := hP.sub (ws' := [(ad 0, .inr (1, [.int (nI w), .int (nI h), .ref (ad 1), .ref (ad 2), .ref (ad 3), .ref (ad 4), .ref (ad 5), .int qd])), (ad 1, .inl (tc 1, (w * h), .inl g))]) [0, 1] rfl
                  have hD9 := hD.sub (ws' := [(ad 0, .inr (1, [.int (nI w), .int (nI h), .ref (ad 1), .ref (ad 2), .ref (ad 3), .ref (ad 4), .ref (ad 5), .int qd])), (ad 1, .inl (tc 1, (w * h), .inl g))]) [0, 1] (by decide) rfl
                  exact W.iret (v := (nI k)) hx hb hr (fun t ht hW => ⟨⟨nI k, g, rfl, by have hxw : x = w := (by rw [nI_leI (by omega) (by omega)] at c59; omega); rw [hxw] at hk hI; exact Or.inr (Or.inl ⟨hOK, hWi, by rw [hk], LIn_fin hI (fun i hi => (row_bd hi).1)⟩), by rw [ht]; exact hP9, va_K.moved hW.alike hK, hD9⟩, hS.F ht⟩) hS.2.2 dX1_line_137
                · have hx0 : x < w := by rw [nI_leI (by omega) (by omega)] at c59; omega
                  refine lv_iload hx hb dX1_line_62 (lv_at hl 6 rfl) ?_
                  refine lv_aload_n hx hb dX1_line_64 rfl (lv_at hl 0 rfl) ?_
                  refine lv_iload hx hb dX1_line_65 (lv_at hl 7 rfl) ?_
                  refine lv_iload hx hb dX1_line_67 (lv_at hl 7 rfl) ?_
                  refine lv_iload_n hx hb dX1_line_69 rfl (lv_at hl 1 rfl) ?_
                  refine lv_iload_n hx hb dX1_line_70 rfl (lv_at hl 3 rfl) ?_
                  refine lv_iload_n hx hb dX1_line_71 rfl (lv_at hl 2 rfl) ?_
                  refine lv_iload hx hb dX1_line_72 (lv_at hl 4 rfl) ?_
                  refine m_calli (cs := []) (wr := [(ad 0, .inr (1, [.int (nI w), .int (nI h), .ref (ad 1), .ref (ad 2), .ref (ad 3), .ref (ad 4), .ref (ad 5), .int qd])), (ad 1, .inl (tc 1, (w * h), .inl g))]) hP hD hS hA [] [0, 1] rfl rfl (by decide) (by decide) (va_runS (As := [.int (nI x), .int x0, .int x1, .int y0, .int y1]) (rest := [.int (nI x), .ref (ad 0), .int (nI k)]) ⟨hx, hb, hml, hown, hts⟩ (c_X1_placeBeside l dC dI _ (nI x) x0 x1 y0 y1 (by rw [nI_toInt (by omega)]; omega) n0 n2 n1 n3) (va_cwS 5 hts gX1_line_X1_placeBeside rfl rfl rfl (by decide +kernel) ⟨Nat.le_of_ble_eq_true rfl, Nat.le_of_ble_eq_true rfl⟩) (m_preS (hP.sub [] rfl) (hK.sub [] rfl) (hD.sub [] (by decide) rfl) hN) rfl rfl hl.1 rfl (lv_room (Nat.le_of_ble_eq_true rfl)) dX1_line_74 ⟨Nat.le_of_ble_eq_true rfl, Nat.le_of_ble_eq_true rfl⟩) (fun r74 _ H locs q74 _ hP hD hS => ?_)
                  have hP : va_P (dC, dI) vwCl [(ad 0, .inr (1, [.int (nI w), .int (nI h), .ref (ad 1), .ref (ad 2), .ref (ad 3), .ref (ad 4), .ref (ad 5), .int qd])), (ad 1, .inl (tc 1, (w * h), .inl g))] H := hP.sub [0, 1] rfl
                  have hD : va_D A [(ad 0, .inr (1, [.int (nI w), .int (nI h), .ref (ad 1), .ref (ad 2), .ref (ad 3), .ref (ad 4), .ref (ad 5), .int qd])), (ad 1, .inl (tc 1, (w * h), .inl g))] := hD.sub [0, 1] (by decide) rfl
                  rw [nI_toInt (by omega)] at q74
                  refine lv_iload hx hb dX1_line_77 (lv_at hl 5 rfl) ?_
                  refine m_calli (cs := [(ad 0, .inr (1, [.int (nI w), .int (nI h), .ref (ad 1), .ref (ad 2), .ref (ad 3), .ref (ad 4), .ref (ad 5), .int qd])), (ad 1, .inl (tc 1, (w * h), .inl g))]) (wr := []) hP hD hS hA [0, 1] [] rfl rfl (by decide) (by decide) (va_runV (As := [.int (nI x), .int r74, .int c]) (rest := [.int (nI k)]) ⟨hx, hb, hml, hown, hts⟩ (c_X1_paint l dC dI _ ad tc w h qd g hw1 hw2 hh1 hh2 (nI x) r74 c) (cwV 3 hts gX1_line_X1_paint rfl rfl rfl (by decide +kernel) ⟨Nat.le_of_ble_eq_true rfl, Nat.le_of_ble_eq_true rfl⟩) (m_preV (ci := 1) (q0 := 0) (hP.sub [0, 1] rfl) (hK.sub [0] rfl) (hD.sub [0, 1] (by decide) rfl) hN rfl rfl) rfl rfl hl.1 rfl (lv_room (Nat.le_of_ble_eq_true rfl)) dX1_line_79 ⟨Nat.le_of_ble_eq_true rfl, Nat.le_of_ble_eq_true rfl⟩) (fun r79 f79 H locs q79 _ hP hD hS => ?_)
                  have hP : va_P (dC, dI) vwCl [(ad 0, .inr (1, [.int (nI w), .int (nI h), .ref (ad 1), .ref (ad 2), .ref (ad 3), .ref (ad 4), .ref (ad 5), .int qd])), (ad 1, .inl (tc 1, (w * h), .inl f79))] H := hP.sub [0, 1] rfl
                  have hD : va_D A [(ad 0, .inr (1, [.int (nI w), .int (nI h), .ref (ad 1), .ref (ad 2), .ref (ad 3), .ref (ad 4), .ref (ad 5), .int qd])), (ad 1, .inl (tc 1, (w * h), .inl f79))] := hD.sub [0, 1] (by decide) rfl
                  refine lv_iadd hx hb dX1_line_82 ?_
                  refine lv_istore (lv' := [(6, .int ((nI k) + r79)), (0, .ref (ad 0)), (1, .int x0), (2, .int y0), (3, .int x1), (4, .int y1), (5, .int c), (7, .int (nI x))]) hx hb dX1_line_83 hl (by decide) rfl (fun ls hl => ?_)
                  refine lv_iinc (v := nI (x + 1)) (lv' := [(7, .int (nI (x + 1))), (6, .int ((nI k) + r79)), (0, .ref (ad 0)), (1, .int x0), (2, .int y0), (3, .int x1), (4, .int y1), (5, .int c)]) hx hb dX1_line_85 hl (k := 7) rfl (nI_add _ 1) (by decide) rfl (fun ls hl => ?_)
                  refine lv_goto (tgt := 53) hx hb dX1_line_88 (by decide) ?_
                  rcases q79 with ⟨g1, g2, g3⟩ | ⟨g1, g2, g3⟩
                  · subst g2
                    have hin := g1.2
                    obtain ⟨t1, t2, t3⟩ := LW_yes (w := w) (h := h) hx0 q74 hin
                    have e2 : nI k + 1 = nI (k + 1) := nI_1 k
                    rw [e2] at hl
                    have hL : lin w (nI x) r74 = r74.toInt.toNat * w + x := by unfold lin; rw [nI_toInt (by omega), Int.toNat_natCast]
                    rw [hL] at g3
                    exact ih (x + 1) (k + 1) f79 (by omega) (by rw [hk, cnt_yes t1]) (by rw [g3]; exact LIn_yes hI (row_mod _ hx0) t2 (fun i _ => t3 i)) (by omega) _ _ (hP.sub [0, 1] rfl) (hD.sub [0, 1] (by decide) rfl) hS ls (lv_sub hl [2, 3, 4, 5, 6, 7, 1, 0] rfl)
                  · subst g2
                    have hout : ¬ (0 ≤ r74.toInt ∧ r74.toInt < h) := fun q => g1 ⟨by rw [nI_toInt (by omega)]; omega, q⟩
                    obtain ⟨t1, t2⟩ := LW_no (w := w) (h := h) q74 hout
                    have e2 : nI k + 0 = nI k := by rw [← nI_0, nI_add]; rfl
                    rw [e2] at hl
                    exact ih (x + 1) k f79 (by omega) (by rw [hk, cnt_no t1]) (by rw [g3]; exact LIn_no hI (fun i hi => t2 i hi)) (by omega) _ _ (hP.sub [0, 1] rfl) (hD.sub [0, 1] (by decide) rfl) hS ls (lv_sub hl [2, 3, 4, 5, 6, 7, 1, 0] rfl)
            exact loop53 (w + 1) 0 0 col (Nat.zero_le _) rfl LIn_0 (by omega) _ _ (hP.sub [0, 1] rfl) (hD.sub [0, 1] (by decide) rfl) hS ls (lv_sub hl [2, 3, 4, 5, 6, 7, 1, 0] rfl)
        · refine lv_iconst (v := (-1)) hx hb dX1_line_29 (by decide) ?_
          have hP9 := hP.sub (ws' := [(ad 0, .inr (1, [.int (nI w), .int (nI h), .ref (ad 1), .ref (ad 2), .ref (ad 3), .ref (ad 4), .ref (ad 5), .int qd])), (ad 1, .inl (tc 1, (w * h), .inl col))]) [0, 1] rfl
          have hD9 := hD.sub (ws' := [(ad 0, .inr (1, [.int (nI w), .int (nI h), .ref (ad 1), .ref (ad 2), .ref (ad 3), .ref (ad 4), .ref (ad 5), .int qd])), (ad 1, .inl (tc 1, (w * h), .inl col))]) [0, 1] (by decide) rfl
          exact W.iret (v := (-1)) hx hb hr (fun t ht hW => ⟨⟨(-1), col, rfl, Or.inl ⟨fun h => (b01 q23).mp c26 h.2.2.2, rfl, rfl⟩, by rw [ht]; exact hP9, va_K.moved hW.alike hK, hD9⟩, hS.F ht⟩) hS.2.2 dX1_line_30

