section
-- ===== PART A: goes FIRST, ahead of the names: the tables' words, and 'selects' of the private methods out of them =====
/-- a private method of a class that the tables say can be made, by its rows of tables_1 -/
def lw_okq (q : MethodName × Nat) : Prop := (q.1.cls ≠ "java/lang/invoke/MethodHandle" ∧ q.1.cls ≠ "java/lang/invoke/VarHandle") ∧ Cond.instantiable q.1.cls q.2 ∈ tables_1 ∧ Cond.privateMethod q.1 ∈ tables_1 ∧ Cond.instanceMethod q.1 ∈ tables_1
theorem lw_p0 : lw_okq (⟨"TriangleRaster$Facet", "place", "(IIII)V"⟩, 6) := ⟨⟨by decide +kernel, by decide +kernel⟩, List.mem_of_getElem? (i := 21) (by decide +kernel), List.mem_of_getElem? (i := 89) (by decide +kernel), List.mem_of_getElem? (i := 90) (by decide +kernel)⟩
theorem lw_p1 : lw_okq (⟨"TriangleRaster$Facet", "takeRound", "()V"⟩, 6) := ⟨⟨by decide +kernel, by decide +kernel⟩, List.mem_of_getElem? (i := 21) (by decide +kernel), List.mem_of_getElem? (i := 93) (by decide +kernel), List.mem_of_getElem? (i := 94) (by decide +kernel)⟩
theorem lw_p2 : lw_okq (⟨"TriangleRaster$Facet", "edge", "(IIII)J"⟩, 6) := ⟨⟨by decide +kernel, by decide +kernel⟩, List.mem_of_getElem? (i := 21) (by decide +kernel), List.mem_of_getElem? (i := 97) (by decide +kernel), List.mem_of_getElem? (i := 98) (by decide +kernel)⟩
theorem lw_p3 : lw_okq (⟨"TriangleRaster", "paintNearer", "(III)I"⟩, 8) := ⟨⟨by decide +kernel, by decide +kernel⟩, List.mem_of_getElem? (i := 7) (by decide +kernel), List.mem_of_getElem? (i := 108) (by decide +kernel), List.mem_of_getElem? (i := 109) (by decide +kernel)⟩
theorem lw_p4 : lw_okq (⟨"TriangleRaster", "indexOf", "(II)I"⟩, 8) := ⟨⟨by decide +kernel, by decide +kernel⟩, List.mem_of_getElem? (i := 7) (by decide +kernel), List.mem_of_getElem? (i := 112) (by decide +kernel), List.mem_of_getElem? (i := 113) (by decide +kernel)⟩
theorem lw_p5 : lw_okq (⟨"TriangleRaster$Facet", "depthOver", "(II)I"⟩, 6) := ⟨⟨by decide +kernel, by decide +kernel⟩, List.mem_of_getElem? (i := 21) (by decide +kernel), List.mem_of_getElem? (i := 116) (by decide +kernel), List.mem_of_getElem? (i := 117) (by decide +kernel)⟩
theorem lw_p6 : lw_okq (⟨"TriangleRaster$Facet", "isInside", "(JII)Z"⟩, 6) := ⟨⟨by decide +kernel, by decide +kernel⟩, List.mem_of_getElem? (i := 21) (by decide +kernel), List.mem_of_getElem? (i := 120) (by decide +kernel), List.mem_of_getElem? (i := 121) (by decide +kernel)⟩
theorem lw_p7 : lw_okq (⟨"TriangleRaster$Facet", "isTopOrLeft", "(II)Z"⟩, 6) := ⟨⟨by decide +kernel, by decide +kernel⟩, List.mem_of_getElem? (i := 21) (by decide +kernel), List.mem_of_getElem? (i := 124) (by decide +kernel), List.mem_of_getElem? (i := 125) (by decide +kernel)⟩
theorem lw_p8 : lw_okq (⟨"TriangleRaster", "paint", "(III)I"⟩, 8) := ⟨⟨by decide +kernel, by decide +kernel⟩, List.mem_of_getElem? (i := 7) (by decide +kernel), List.mem_of_getElem? (i := 143) (by decide +kernel), List.mem_of_getElem? (i := 144) (by decide +kernel)⟩
theorem lw_p9 : lw_okq (⟨"TriangleRaster", "forgetReached", "()V"⟩, 8) := ⟨⟨by decide +kernel, by decide +kernel⟩, List.mem_of_getElem? (i := 7) (by decide +kernel), List.mem_of_getElem? (i := 151) (by decide +kernel), List.mem_of_getElem? (i := 152) (by decide +kernel)⟩
theorem lw_p10 : lw_okq (⟨"TriangleRaster", "reachPiece", "(II)I"⟩, 8) := ⟨⟨by decide +kernel, by decide +kernel⟩, List.mem_of_getElem? (i := 7) (by decide +kernel), List.mem_of_getElem? (i := 155) (by decide +kernel), List.mem_of_getElem? (i := 156) (by decide +kernel)⟩
theorem lw_p11 : lw_okq (⟨"TriangleRaster", "reach", "(III)V"⟩, 8) := ⟨⟨by decide +kernel, by decide +kernel⟩, List.mem_of_getElem? (i := 7) (by decide +kernel), List.mem_of_getElem? (i := 163) (by decide +kernel), List.mem_of_getElem? (i := 164) (by decide +kernel)⟩
theorem lw_p12 : lw_okq (⟨"TriangleRasterModel", "isCovered", "(II)Z"⟩, 8) := ⟨⟨by decide +kernel, by decide +kernel⟩, List.mem_of_getElem? (i := 183) (by decide +kernel), List.mem_of_getElem? (i := 231) (by decide +kernel), List.mem_of_getElem? (i := 232) (by decide +kernel)⟩
theorem lw_p13 : lw_okq (⟨"TriangleRasterModel", "area", "()J"⟩, 8) := ⟨⟨by decide +kernel, by decide +kernel⟩, List.mem_of_getElem? (i := 183) (by decide +kernel), List.mem_of_getElem? (i := 237) (by decide +kernel), List.mem_of_getElem? (i := 238) (by decide +kernel)⟩
theorem lw_p14 : lw_okq (⟨"TriangleRasterModel", "edge", "(IIJJ)J"⟩, 8) := ⟨⟨by decide +kernel, by decide +kernel⟩, List.mem_of_getElem? (i := 183) (by decide +kernel), List.mem_of_getElem? (i := 241) (by decide +kernel), List.mem_of_getElem? (i := 242) (by decide +kernel)⟩
theorem lw_p15 : lw_okq (⟨"TriangleRasterModel", "isInside", "(IIJJ)Z"⟩, 8) := ⟨⟨by decide +kernel, by decide +kernel⟩, List.mem_of_getElem? (i := 183) (by decide +kernel), List.mem_of_getElem? (i := 245) (by decide +kernel), List.mem_of_getElem? (i := 246) (by decide +kernel)⟩
def lw_privs_1 : List (MethodName × Nat) := [(⟨"TriangleRaster$Facet", "place", "(IIII)V"⟩, 6), (⟨"TriangleRaster$Facet", "takeRound", "()V"⟩, 6), (⟨"TriangleRaster$Facet", "edge", "(IIII)J"⟩, 6), (⟨"TriangleRaster", "paintNearer", "(III)I"⟩, 8), (⟨"TriangleRaster", "indexOf", "(II)I"⟩, 8), (⟨"TriangleRaster$Facet", "depthOver", "(II)I"⟩, 6), (⟨"TriangleRaster$Facet", "isInside", "(JII)Z"⟩, 6), (⟨"TriangleRaster$Facet", "isTopOrLeft", "(II)Z"⟩, 6), (⟨"TriangleRaster", "paint", "(III)I"⟩, 8), (⟨"TriangleRaster", "forgetReached", "()V"⟩, 8), (⟨"TriangleRaster", "reachPiece", "(II)I"⟩, 8), (⟨"TriangleRaster", "reach", "(III)V"⟩, 8), (⟨"TriangleRasterModel", "isCovered", "(II)Z"⟩, 8), (⟨"TriangleRasterModel", "area", "()J"⟩, 8), (⟨"TriangleRasterModel", "edge", "(IIJJ)J"⟩, 8), (⟨"TriangleRasterModel", "isInside", "(IIJJ)Z"⟩, 8)]
theorem lw_r1 : ∀ q ∈ lw_privs_1, lw_okq q := List.forall_mem_cons.mpr ⟨lw_p0, List.forall_mem_cons.mpr ⟨lw_p1, List.forall_mem_cons.mpr ⟨lw_p2, List.forall_mem_cons.mpr ⟨lw_p3, List.forall_mem_cons.mpr ⟨lw_p4, List.forall_mem_cons.mpr ⟨lw_p5, List.forall_mem_cons.mpr ⟨lw_p6, List.forall_mem_cons.mpr ⟨lw_p7, List.forall_mem_cons.mpr ⟨lw_p8, List.forall_mem_cons.mpr ⟨lw_p9, List.forall_mem_cons.mpr ⟨lw_p10, List.forall_mem_cons.mpr ⟨lw_p11, List.forall_mem_cons.mpr ⟨lw_p12, List.forall_mem_cons.mpr ⟨lw_p13, List.forall_mem_cons.mpr ⟨lw_p14, List.forall_mem_cons.mpr ⟨lw_p15, fun _ h => absurd h List.not_mem_nil⟩⟩⟩⟩⟩⟩⟩⟩⟩⟩⟩⟩⟩⟩⟩⟩
theorem lw_p16 : lw_okq (⟨"TriangleRasterModel", "isTopOrLeft", "(II)Z"⟩, 8) := ⟨⟨by decide +kernel, by decide +kernel⟩, List.mem_of_getElem? (i := 183) (by decide +kernel), List.mem_of_getElem? (i := 249) (by decide +kernel), List.mem_of_getElem? (i := 250) (by decide +kernel)⟩
theorem lw_p17 : lw_okq (⟨"TriangleRasterModel", "depthOf", "(II)I"⟩, 8) := ⟨⟨by decide +kernel, by decide +kernel⟩, List.mem_of_getElem? (i := 183) (by decide +kernel), List.mem_of_getElem? (i := 253) (by decide +kernel), List.mem_of_getElem? (i := 254) (by decide +kernel)⟩
theorem lw_p18 : lw_okq (⟨"TriangleRasterModel", "isPixel", "(II)Z"⟩, 8) := ⟨⟨by decide +kernel, by decide +kernel⟩, List.mem_of_getElem? (i := 183) (by decide +kernel), List.mem_of_getElem? (i := 269) (by decide +kernel), List.mem_of_getElem? (i := 270) (by decide +kernel)⟩
theorem lw_p19 : lw_okq (⟨"TriangleRasterModel", "unmark", "()V"⟩, 8) := ⟨⟨by decide +kernel, by decide +kernel⟩, List.mem_of_getElem? (i := 183) (by decide +kernel), List.mem_of_getElem? (i := 277) (by decide +kernel), List.mem_of_getElem? (i := 278) (by decide +kernel)⟩
theorem lw_p20 : lw_okq (⟨"TriangleRasterModel", "mark", "(II)I"⟩, 8) := ⟨⟨by decide +kernel, by decide +kernel⟩, List.mem_of_getElem? (i := 183) (by decide +kernel), List.mem_of_getElem? (i := 281) (by decide +kernel), List.mem_of_getElem? (i := 282) (by decide +kernel)⟩
def lw_privs_2 : List (MethodName × Nat) := [(⟨"TriangleRasterModel", "isTopOrLeft", "(II)Z"⟩, 8), (⟨"TriangleRasterModel", "depthOf", "(II)I"⟩, 8), (⟨"TriangleRasterModel", "isPixel", "(II)Z"⟩, 8), (⟨"TriangleRasterModel", "unmark", "()V"⟩, 8), (⟨"TriangleRasterModel", "mark", "(II)I"⟩, 8)]
theorem lw_r2 : ∀ q ∈ lw_privs_2, lw_okq q := List.forall_mem_cons.mpr ⟨lw_p16, List.forall_mem_cons.mpr ⟨lw_p17, List.forall_mem_cons.mpr ⟨lw_p18, List.forall_mem_cons.mpr ⟨lw_p19, List.forall_mem_cons.mpr ⟨lw_p20, fun _ h => absurd h List.not_mem_nil⟩⟩⟩⟩⟩
def lw_privs : List (MethodName × Nat) := lw_privs_1 ++ (lw_privs_2)
def lw_tbl : List Cond := k2_sels lw_privs ++ tables_1
theorem lw_privs_ok : ∀ q ∈ lw_privs, lw_okq q := by
  show ∀ q ∈ lw_privs_1 ++ (lw_privs_2), lw_okq q
  exact List.forall_mem_append.mpr ⟨lw_r1, lw_r2⟩
end
section
/-! ===== BEGIN words of one list among another's, by their places ===== -/
theorem goodIn_r {big : List Cond} (ws : List Cond) (ps : List Nat) (hp : ws = ps.filterMap (fun i => big[i]?)) (h : ws.all goodWord = true) : GoodIn big ws := by
  intro w hw
  have h1 := List.all_eq_true.mp h w hw
  rw [hp] at hw
  obtain ⟨i, -, hi⟩ := List.mem_filterMap.mp hw
  have hm : w ∈ big := by first | exact List.mem_of_getElem? hi | exact List.getElem?_mem hi
  exact ⟨hm, good_of_word h1⟩
theorem goodIn_app {big a b : List Cond} (ha : GoodIn big a) (hb : GoodIn big b) : GoodIn big (a ++ b) := fun w h => (List.mem_append.mp h).elim (ha w) (hb w)
theorem goodIn_ca {big a b : List Cond} {c : Cond} (ha : GoodIn big (c :: a)) (hb : GoodIn big b) : GoodIn big (c :: (a ++ b)) := fun w h => (List.mem_cons.mp h).elim (fun e => ha w (List.mem_cons.mpr (Or.inl e))) (fun h => (List.mem_append.mp h).elim (fun h => ha w (List.mem_cons.mpr (Or.inr h))) (hb w))
theorem goodIn_sub {big ws : List Cond} (hm : ∀ w ∈ ws, w ∈ big) (h : ws.all goodWord = true) : GoodIn big ws := fun w hw => ⟨hm w hw, good_of_word (List.all_eq_true.mp h w hw)⟩
/-! ===== END ===== -/

/-! ===== BEGIN printed: names, fields, word lists, decode rows ===== -/
def RX0 : String := "TriangleRaster$Facet"
def TX0 : u_T := fun k => match k with
  | 0 => ("TriangleRaster$Facet", "xs", "[I", true)
  | 1 => ("TriangleRaster$Facet", "ys", "[I", true)
  | 2 => ("TriangleRaster$Facet", "zs", "[I", true)
  | 3 => ("TriangleRaster$Facet", "second", "I", false)
  | 4 => ("TriangleRaster$Facet", "third", "I", false)
  | _ => ("TriangleRaster$Facet", "area", "J", false)
def tyX0 : Nat → FieldType := fun k => match k with
  | 0 => .array .int
  | 1 => .array .int
  | 2 => .array .int
  | 3 => .int
  | 4 => .int
  | _ => .long
abbrev wsX00 : List Cond := u_ws RX0 TX0 6
theorem nmX0 : ∀ a, a < 6 → ∀ b, b < 6 → a ≠ b → (TX0 a).2.1 ≠ (TX0 b).2.1 := by decide +kernel
theorem tyX0_ok : ∀ k, k < 6 → parseFieldDescriptor (TX0 k).2.2.1 = some (tyX0 k) := by decide +kernel
abbrev cX0_init : ByteArray := prog_2_method_1_code
def yX0_init : MethodName := ⟨RX0, "<init>", "()V"⟩
abbrev cX0_place : ByteArray := prog_2_method_2_code
def yX0_place : MethodName := ⟨RX0, "place", "(IIII)V"⟩
abbrev cX0_takeRound : ByteArray := prog_2_method_3_code
def yX0_takeRound : MethodName := ⟨RX0, "takeRound", "()V"⟩
abbrev cX0_depthOver : ByteArray := prog_2_method_4_code
def yX0_depthOver : MethodName := ⟨RX0, "depthOver", "(II)I"⟩
abbrev cX0_edge : ByteArray := prog_2_method_5_code
def yX0_edge : MethodName := ⟨RX0, "edge", "(IIII)J"⟩
abbrev cX0_isInside : ByteArray := prog_2_method_6_code
def yX0_isInside : MethodName := ⟨RX0, "isInside", "(JII)Z"⟩
abbrev cX0_isTopOrLeft : ByteArray := prog_2_method_7_code
def yX0_isTopOrLeft : MethodName := ⟨RX0, "isTopOrLeft", "(II)Z"⟩
def RX1 : String := "TriangleRaster"
def TX1 : u_T := fun k => match k with
  | 0 => ("TriangleRaster", "width", "I", true)
  | 1 => ("TriangleRaster", "height", "I", true)
  | 2 => ("TriangleRaster", "colours", "[I", true)
  | 3 => ("TriangleRaster", "depths", "[I", true)
  | 4 => ("TriangleRaster", "facet", "LTriangleRaster$Facet;", true)
  | 5 => ("TriangleRaster", "reached", "[Z", true)
  | 6 => ("TriangleRaster", "queue", "[I", true)
  | _ => ("TriangleRaster", "queued", "I", false)
def tyX1 : Nat → FieldType := fun k => match k with
  | 0 => .int
  | 1 => .int
  | 2 => .array .int
  | 3 => .array .int
  | 4 => .object "TriangleRaster$Facet"
  | 5 => .array .boolean
  | 6 => .array .int
  | _ => .int
abbrev wsX10 : List Cond := u_ws RX1 TX1 8
theorem nmX1 : ∀ a, a < 8 → ∀ b, b < 8 → a ≠ b → (TX1 a).2.1 ≠ (TX1 b).2.1 := by decide +kernel
theorem tyX1_ok : ∀ k, k < 8 → parseFieldDescriptor (TX1 k).2.2.1 = some (tyX1 k) := by decide +kernel
abbrev cX1_init : ByteArray := prog_1_method_1_code
def yX1_init : MethodName := ⟨RX1, "<init>", "(II)V"⟩
abbrev cX1_clear : ByteArray := prog_1_method_2_code
def yX1_clear : MethodName := ⟨RX1, "clear", "(II)Z"⟩
abbrev cX1_vertex : ByteArray := prog_1_method_3_code
def yX1_vertex : MethodName := ⟨RX1, "vertex", "(IIII)Z"⟩
abbrev cX1_triangle : ByteArray := prog_1_method_4_code
def yX1_triangle : MethodName := ⟨RX1, "triangle", "(I)I"⟩
abbrev cX1_covers : ByteArray := prog_1_method_5_code
def yX1_covers : MethodName := ⟨RX1, "covers", "(II)Z"⟩
abbrev cX1_line : ByteArray := prog_1_method_6_code
def yX1_line : MethodName := ⟨RX1, "line", "(IIIII)I"⟩
abbrev cX1_fill : ByteArray := prog_1_method_7_code
def yX1_fill : MethodName := ⟨RX1, "fill", "(III)I"⟩
abbrev cX1_pixel : ByteArray := prog_1_method_8_code
def yX1_pixel : MethodName := ⟨RX1, "pixel", "(II)I"⟩
abbrev cX1_depthAt : ByteArray := prog_1_method_9_code
def yX1_depthAt : MethodName := ⟨RX1, "depthAt", "(II)I"⟩
abbrev cX1_count : ByteArray := prog_1_method_10_code
def yX1_count : MethodName := ⟨RX1, "count", "(I)I"⟩
abbrev cX1_pieces : ByteArray := prog_1_method_11_code
def yX1_pieces : MethodName := ⟨RX1, "pieces", "(I)I"⟩
abbrev cX1_sideOf : ByteArray := prog_1_method_12_code
def yX1_sideOf : MethodName := ⟨RX1, "sideOf", "(I)I"⟩
abbrev cX1_isWithin : ByteArray := prog_1_method_13_code
def yX1_isWithin : MethodName := ⟨RX1, "isWithin", "(III)Z"⟩
abbrev cX1_isCoordinate : ByteArray := prog_1_method_14_code
def yX1_isCoordinate : MethodName := ⟨RX1, "isCoordinate", "(I)Z"⟩
abbrev cX1_indexOf : ByteArray := prog_1_method_15_code
def yX1_indexOf : MethodName := ⟨RX1, "indexOf", "(II)I"⟩
abbrev cX1_paint : ByteArray := prog_1_method_16_code
def yX1_paint : MethodName := ⟨RX1, "paint", "(III)I"⟩
abbrev cX1_paintNearer : ByteArray := prog_1_method_17_code
def yX1_paintNearer : MethodName := ⟨RX1, "paintNearer", "(III)I"⟩
abbrev cX1_placeBeside : ByteArray := prog_1_method_18_code
def yX1_placeBeside : MethodName := ⟨RX1, "placeBeside", "(IIIII)I"⟩
abbrev cX1_forgetReached : ByteArray := prog_1_method_19_code
def yX1_forgetReached : MethodName := ⟨RX1, "forgetReached", "()V"⟩
abbrev cX1_reachPiece : ByteArray := prog_1_method_20_code
def yX1_reachPiece : MethodName := ⟨RX1, "reachPiece", "(II)I"⟩
abbrev cX1_reach : ByteArray := prog_1_method_21_code
def yX1_reach : MethodName := ⟨RX1, "reach", "(III)V"⟩
def RX2 : String := "TriangleRasterModel"
def TX2 : u_T := fun k => match k with
  | 0 => ("TriangleRasterModel", "w", "I", true)
  | 1 => ("TriangleRasterModel", "h", "I", true)
  | 2 => ("TriangleRasterModel", "colours", "[I", true)
  | 3 => ("TriangleRasterModel", "depths", "[I", true)
  | 4 => ("TriangleRasterModel", "xs", "[I", true)
  | 5 => ("TriangleRasterModel", "ys", "[I", true)
  | 6 => ("TriangleRasterModel", "zs", "[I", true)
  | _ => ("TriangleRasterModel", "marks", "[Z", true)
def tyX2 : Nat → FieldType := fun k => match k with
  | 0 => .int
  | 1 => .int
  | 2 => .array .int
  | 3 => .array .int
  | 4 => .array .int
  | 5 => .array .int
  | 6 => .array .int
  | _ => .array .boolean
abbrev wsX20 : List Cond := u_ws RX2 TX2 8
theorem nmX2 : ∀ a, a < 8 → ∀ b, b < 8 → a ≠ b → (TX2 a).2.1 ≠ (TX2 b).2.1 := by decide +kernel
theorem tyX2_ok : ∀ k, k < 8 → parseFieldDescriptor (TX2 k).2.2.1 = some (tyX2 k) := by decide +kernel
abbrev cX2_init : ByteArray := prog_4_method_1_code
def yX2_init : MethodName := ⟨RX2, "<init>", "(II)V"⟩
abbrev cX2_isPixel : ByteArray := prog_4_method_3_code
def yX2_isPixel : MethodName := ⟨RX2, "isPixel", "(II)Z"⟩
abbrev cX2_clear : ByteArray := prog_4_method_4_code
def yX2_clear : MethodName := ⟨RX2, "clear", "(II)Z"⟩
abbrev cX2_isFar : ByteArray := prog_4_method_5_code
def yX2_isFar : MethodName := ⟨RX2, "isFar", "(I)Z"⟩
abbrev cX2_vertex : ByteArray := prog_4_method_6_code
def yX2_vertex : MethodName := ⟨RX2, "vertex", "(IIII)Z"⟩
abbrev cX2_edge : ByteArray := prog_4_method_7_code
def yX2_edge : MethodName := ⟨RX2, "edge", "(IIJJ)J"⟩
abbrev cX2_area : ByteArray := prog_4_method_8_code
def yX2_area : MethodName := ⟨RX2, "area", "()J"⟩
abbrev cX2_isTopOrLeft : ByteArray := prog_4_method_9_code
def yX2_isTopOrLeft : MethodName := ⟨RX2, "isTopOrLeft", "(II)Z"⟩
abbrev cX2_isInside : ByteArray := prog_4_method_10_code
def yX2_isInside : MethodName := ⟨RX2, "isInside", "(IIJJ)Z"⟩
abbrev cX2_isCovered : ByteArray := prog_4_method_11_code
def yX2_isCovered : MethodName := ⟨RX2, "isCovered", "(II)Z"⟩
abbrev cX2_depthOf : ByteArray := prog_4_method_12_code
def yX2_depthOf : MethodName := ⟨RX2, "depthOf", "(II)I"⟩
abbrev cX2_triangle : ByteArray := prog_4_method_13_code
def yX2_triangle : MethodName := ⟨RX2, "triangle", "(I)I"⟩
abbrev cX2_covers : ByteArray := prog_4_method_14_code
def yX2_covers : MethodName := ⟨RX2, "covers", "(II)Z"⟩
abbrev cX2_sign : ByteArray := prog_4_method_15_code
def yX2_sign : MethodName := ⟨RX2, "sign", "(I)I"⟩
abbrev cX2_line : ByteArray := prog_4_method_16_code
def yX2_line : MethodName := ⟨RX2, "line", "(IIIII)I"⟩
abbrev cX2_mark : ByteArray := prog_4_method_17_code
def yX2_mark : MethodName := ⟨RX2, "mark", "(II)I"⟩
abbrev cX2_unmark : ByteArray := prog_4_method_18_code
def yX2_unmark : MethodName := ⟨RX2, "unmark", "()V"⟩
abbrev cX2_fill : ByteArray := prog_4_method_19_code
def yX2_fill : MethodName := ⟨RX2, "fill", "(III)I"⟩
abbrev cX2_pieces : ByteArray := prog_4_method_20_code
def yX2_pieces : MethodName := ⟨RX2, "pieces", "(I)I"⟩
abbrev cX2_pixel : ByteArray := prog_4_method_21_code
def yX2_pixel : MethodName := ⟨RX2, "pixel", "(II)I"⟩
abbrev cX2_depthAt : ByteArray := prog_4_method_22_code
def yX2_depthAt : MethodName := ⟨RX2, "depthAt", "(II)I"⟩
abbrev cX2_count : ByteArray := prog_4_method_23_code
def yX2_count : MethodName := ⟨RX2, "count", "(I)I"⟩
def RJ9 : String := "java/lang/Math"
def TJ9 : u_T := fun k => match k with
  | _ => ("", "", "", false)
def tyJ9 : Nat → FieldType := fun k => match k with
  | _ => .int
abbrev wsJ90 : List Cond := u_ws RJ9 TJ9 0
theorem nmJ9 : ∀ a, a < 0 → ∀ b, b < 0 → a ≠ b → (TJ9 a).2.1 ≠ (TJ9 b).2.1 := by decide +kernel
theorem tyJ9_ok : ∀ k, k < 0 → parseFieldDescriptor (TJ9 k).2.2.1 = some (tyJ9 k) := by decide +kernel
abbrev cJ9_abs_0f7a4 : ByteArray := prog_5_method_59_code
def yJ9_abs_0f7a4 : MethodName := ⟨RJ9, "abs", "(I)I"⟩
abbrev cJ9_abs_067f4 : ByteArray := prog_5_method_61_code
def yJ9_abs_067f4 : MethodName := ⟨RJ9, "abs", "(J)J"⟩
def RJ7 : String := "java/util/Arrays"
def TJ7 : u_T := fun k => match k with
  | _ => ("", "", "", false)
def tyJ7 : Nat → FieldType := fun k => match k with
  | _ => .int
abbrev wsJ70 : List Cond := u_ws RJ7 TJ7 0
theorem nmJ7 : ∀ a, a < 0 → ∀ b, b < 0 → a ≠ b → (TJ7 a).2.1 ≠ (TJ7 b).2.1 := by decide +kernel
theorem tyJ7_ok : ∀ k, k < 0 → parseFieldDescriptor (TJ7 k).2.2.1 = some (tyJ7 k) := by decide +kernel
abbrev cJ7_fill_53178 : ByteArray := prog_6_method_103_code
def yJ7_fill_53178 : MethodName := ⟨RJ7, "fill", "([II)V"⟩
def RL : String := "TriangleRasterLaw"
abbrev cL_cell : ByteArray := method_2_code
def yL_cell : MethodName := ⟨RL, "cell", "([II)I"⟩
abbrev cL_law : ByteArray := code
def yL_law : MethodName := ⟨RL, "law", "([I)Z"⟩
def wsX0_init : List Cond := .code yX0_init cX0_init 1 none :: ([.methodLink RX0 3 objectInit, .instanceMethod objectInit, .code objectInit ⟨#[0xb1]⟩ 1 none, .arrayClass .int, .fieldLink RX0 9 "TriangleRaster$Facet" "xs" "[I", .fieldLink RX0 15 "TriangleRaster$Facet" "ys" "[I", .fieldLink RX0 18 "TriangleRaster$Facet" "zs" "[I", .fieldLink RX0 21 "TriangleRaster$Facet" "second" "I", .fieldLink RX0 25 "TriangleRaster$Facet" "third" "I", .fieldLink RX0 28 "TriangleRaster$Facet" "area" "J"] ++ wsX00)
def wsX0_edge : List Cond := .code yX0_edge cX0_edge 9 (some .long) :: ([.fieldLink RX0 9 "TriangleRaster$Facet" "xs" "[I", .fieldLink RX0 15 "TriangleRaster$Facet" "ys" "[I"] ++ wsX00)
def wsX0_takeRound : List Cond := .code yX0_takeRound cX0_takeRound 3 none :: ([.fieldLink RX0 9 "TriangleRaster$Facet" "xs" "[I", .fieldLink RX0 15 "TriangleRaster$Facet" "ys" "[I", .fieldLink RX0 21 "TriangleRaster$Facet" "second" "I", .fieldLink RX0 25 "TriangleRaster$Facet" "third" "I", .methodLink RX0 39 Lib.MathLoose.abs_long.x, .static Lib.MathLoose.abs_long.x, .initialized "java/lang/Math", .code Lib.MathLoose.abs_long.x Lib.MathLoose.abs_long.code 2 (some .long), .fieldLink RX0 28 "TriangleRaster$Facet" "area" "J", .methodLink RX0 35 yX0_edge, .instanceMethod yX0_edge, .selects RX0 yX0_edge yX0_edge, .initialized RX0, .code yX0_edge cX0_edge 9 (some .long)] ++ wsX00)
def wsX0_place : List Cond := .code yX0_place cX0_place 5 none :: ([.fieldLink RX0 9 "TriangleRaster$Facet" "xs" "[I", .fieldLink RX0 15 "TriangleRaster$Facet" "ys" "[I", .fieldLink RX0 18 "TriangleRaster$Facet" "zs" "[I", .methodLink RX0 32 yX0_takeRound, .instanceMethod yX0_takeRound, .selects RX0 yX0_takeRound yX0_takeRound, .initialized RX0, .code yX0_takeRound cX0_takeRound 3 none, .fieldLink RX0 21 "TriangleRaster$Facet" "second" "I", .fieldLink RX0 25 "TriangleRaster$Facet" "third" "I", .methodLink RX0 39 Lib.MathLoose.abs_long.x, .static Lib.MathLoose.abs_long.x, .initialized "java/lang/Math", .code Lib.MathLoose.abs_long.x Lib.MathLoose.abs_long.code 2 (some .long), .fieldLink RX0 28 "TriangleRaster$Facet" "area" "J", .methodLink RX0 35 yX0_edge, .instanceMethod yX0_edge, .selects RX0 yX0_edge yX0_edge, .code yX0_edge cX0_edge 9 (some .long)] ++ wsX00)
def wsX0_isTopOrLeft : List Cond := .code yX0_isTopOrLeft cX0_isTopOrLeft 5 (some .boolean) :: ([.fieldLink RX0 15 "TriangleRaster$Facet" "ys" "[I", .fieldLink RX0 9 "TriangleRaster$Facet" "xs" "[I"] ++ wsX00)
def wsX0_isInside : List Cond := .code yX0_isInside cX0_isInside 5 (some .boolean) :: ([.methodLink RX0 49 yX0_isTopOrLeft, .instanceMethod yX0_isTopOrLeft, .selects RX0 yX0_isTopOrLeft yX0_isTopOrLeft, .initialized RX0, .code yX0_isTopOrLeft cX0_isTopOrLeft 5 (some .boolean), .fieldLink RX0 15 "TriangleRaster$Facet" "ys" "[I", .fieldLink RX0 9 "TriangleRaster$Facet" "xs" "[I"] ++ wsX00)
def wsX0_depthOver : List Cond := .code yX0_depthOver cX0_depthOver 11 (some .int) :: ([.fieldLink RX0 28 "TriangleRaster$Facet" "area" "J", .fieldLink RX0 21 "TriangleRaster$Facet" "second" "I", .fieldLink RX0 25 "TriangleRaster$Facet" "third" "I", .fieldLink RX0 18 "TriangleRaster$Facet" "zs" "[I", .methodLink RX0 35 yX0_edge, .instanceMethod yX0_edge, .selects RX0 yX0_edge yX0_edge, .initialized RX0, .code yX0_edge cX0_edge 9 (some .long), .fieldLink RX0 9 "TriangleRaster$Facet" "xs" "[I", .fieldLink RX0 15 "TriangleRaster$Facet" "ys" "[I", .methodLink RX0 45 yX0_isInside, .instanceMethod yX0_isInside, .selects RX0 yX0_isInside yX0_isInside, .code yX0_isInside cX0_isInside 5 (some .boolean), .methodLink RX0 49 yX0_isTopOrLeft, .instanceMethod yX0_isTopOrLeft, .selects RX0 yX0_isTopOrLeft yX0_isTopOrLeft, .code yX0_isTopOrLeft cX0_isTopOrLeft 5 (some .boolean)] ++ wsX00)
def wsX1_isWithin : List Cond := .code yX1_isWithin cX1_isWithin 3 (some .boolean) :: ([])
def wsX1_sideOf : List Cond := .code yX1_sideOf cX1_sideOf 1 (some .int) :: ([.methodLink RX1 45 yX1_isWithin, .static yX1_isWithin, .initialized RX1, .code yX1_isWithin cX1_isWithin 3 (some .boolean)])
def wsX1_init_r1 : List Cond := [Cond.methodLink RX1 1 objectInit, Cond.instanceMethod objectInit, Cond.code objectInit ⟨#[0xb1]⟩ 1 none, Cond.fieldLink RX1 13 "TriangleRaster" "width" "I", Cond.fieldLink RX1 17 "TriangleRaster" "height" "I", Cond.arrayClass .int, Cond.fieldLink RX1 20 "TriangleRaster" "colours" "[I", Cond.fieldLink RX1 24 "TriangleRaster" "depths" "[I", Cond.classLink RX1 27 RX0, Cond.instantiable RX0 6, Cond.initialized RX0, Cond.fieldLink RX1 30 "TriangleRaster" "facet" "LTriangleRaster$Facet;", Cond.arrayClass .boolean, Cond.fieldLink RX1 34 "TriangleRaster" "reached" "[Z", Cond.fieldLink RX1 38 "TriangleRaster" "queue" "[I", Cond.fieldLink RX1 41 "TriangleRaster" "queued" "I", Cond.methodLink RX1 7 yX1_sideOf, Cond.static yX1_sideOf, Cond.initialized RX1, Cond.code yX1_sideOf cX1_sideOf 1 (some .int), Cond.methodLink RX1 45 yX1_isWithin, Cond.static yX1_isWithin, Cond.code yX1_isWithin cX1_isWithin 3 (some .boolean), Cond.instanceMethod yX0_init]
def wsX1_init_r2 : List Cond := [Cond.code yX0_init cX0_init 1 none, Cond.methodLink RX0 3 objectInit, Cond.fieldLink RX0 9 "TriangleRaster$Facet" "xs" "[I", Cond.fieldLink RX0 15 "TriangleRaster$Facet" "ys" "[I", Cond.fieldLink RX0 18 "TriangleRaster$Facet" "zs" "[I", Cond.fieldLink RX0 21 "TriangleRaster$Facet" "second" "I", Cond.fieldLink RX0 25 "TriangleRaster$Facet" "third" "I", Cond.fieldLink RX0 28 "TriangleRaster$Facet" "area" "J"]
def wsX1_init : List Cond := .code yX1_init cX1_init 4 none :: ((wsX1_init_r1 ++ wsX1_init_r2) ++ wsX10 ++ wsX00)
def wsJ7_fill_53178 : List Cond := .code yJ7_fill_53178 cJ7_fill_53178 4 none :: ([])
def wsX1_clear : List Cond := .code yX1_clear cX1_clear 3 (some .boolean) :: ([.constant RX1 44 (65535), .fieldLink RX1 20 "TriangleRaster" "colours" "[I", .fieldLink RX1 24 "TriangleRaster" "depths" "[I", .methodLink RX1 45 yX1_isWithin, .static yX1_isWithin, .initialized RX1, .code yX1_isWithin cX1_isWithin 3 (some .boolean), .methodLink RX1 49 yJ7_fill_53178, .static yJ7_fill_53178, .initialized RJ7, .code yJ7_fill_53178 cJ7_fill_53178 4 none] ++ wsX10)
def wsX1_isCoordinate : List Cond := .code yX1_isCoordinate cX1_isCoordinate 1 (some .boolean) :: ([.methodLink RX1 45 yX1_isWithin, .static yX1_isWithin, .initialized RX1, .code yX1_isWithin cX1_isWithin 3 (some .boolean)])
def wsX1_vertex_r1 : List Cond := [Cond.constant RX1 59 (32768), Cond.fieldLink RX1 30 "TriangleRaster" "facet" "LTriangleRaster$Facet;", Cond.methodLink RX1 45 yX1_isWithin, Cond.static yX1_isWithin, Cond.initialized RX1, Cond.code yX1_isWithin cX1_isWithin 3 (some .boolean), Cond.methodLink RX1 55 yX1_isCoordinate, Cond.static yX1_isCoordinate, Cond.code yX1_isCoordinate cX1_isCoordinate 1 (some .boolean), Cond.instanceMethod yX0_place, Cond.initialized RX0, Cond.selects RX0 yX0_place yX0_place, Cond.code yX0_place cX0_place 5 none, Cond.fieldLink RX0 9 "TriangleRaster$Facet" "xs" "[I", Cond.fieldLink RX0 15 "TriangleRaster$Facet" "ys" "[I", Cond.fieldLink RX0 18 "TriangleRaster$Facet" "zs" "[I", Cond.methodLink RX0 32 yX0_takeRound, Cond.instanceMethod yX0_takeRound, Cond.selects RX0 yX0_takeRound yX0_takeRound, Cond.code yX0_takeRound cX0_takeRound 3 none, Cond.fieldLink RX0 21 "TriangleRaster$Facet" "second" "I", Cond.fieldLink RX0 25 "TriangleRaster$Facet" "third" "I", Cond.methodLink RX0 39 Lib.MathLoose.abs_long.x, Cond.static Lib.MathLoose.abs_long.x]
def wsX1_vertex_r2 : List Cond := [Cond.initialized "java/lang/Math", Cond.code Lib.MathLoose.abs_long.x Lib.MathLoose.abs_long.code 2 (some .long), Cond.fieldLink RX0 28 "TriangleRaster$Facet" "area" "J", Cond.methodLink RX0 35 yX0_edge, Cond.instanceMethod yX0_edge, Cond.selects RX0 yX0_edge yX0_edge, Cond.code yX0_edge cX0_edge 9 (some .long)]
def wsX1_vertex : List Cond := .code yX1_vertex cX1_vertex 5 (some .boolean) :: ((wsX1_vertex_r1 ++ wsX1_vertex_r2) ++ wsX10 ++ wsX00)
def wsX1_indexOf : List Cond := .code yX1_indexOf cX1_indexOf 4 (some .int) :: ([.fieldLink RX1 13 "TriangleRaster" "width" "I", .fieldLink RX1 17 "TriangleRaster" "height" "I", .methodLink RX1 45 yX1_isWithin, .static yX1_isWithin, .initialized RX1, .code yX1_isWithin cX1_isWithin 3 (some .boolean)] ++ wsX10)
def wsX1_paintNearer_r1 : List Cond := [Cond.fieldLink RX1 30 "TriangleRaster" "facet" "LTriangleRaster$Facet;", Cond.fieldLink RX1 24 "TriangleRaster" "depths" "[I", Cond.fieldLink RX1 20 "TriangleRaster" "colours" "[I", Cond.methodLink RX1 84 yX1_indexOf, Cond.instanceMethod yX1_indexOf, Cond.selects RX1 yX1_indexOf yX1_indexOf, Cond.initialized RX1, Cond.code yX1_indexOf cX1_indexOf 4 (some .int), Cond.fieldLink RX1 13 "TriangleRaster" "width" "I", Cond.fieldLink RX1 17 "TriangleRaster" "height" "I", Cond.methodLink RX1 45 yX1_isWithin, Cond.static yX1_isWithin, Cond.code yX1_isWithin cX1_isWithin 3 (some .boolean), Cond.instanceMethod yX0_depthOver, Cond.initialized RX0, Cond.selects RX0 yX0_depthOver yX0_depthOver, Cond.code yX0_depthOver cX0_depthOver 11 (some .int), Cond.fieldLink RX0 28 "TriangleRaster$Facet" "area" "J", Cond.fieldLink RX0 21 "TriangleRaster$Facet" "second" "I", Cond.fieldLink RX0 25 "TriangleRaster$Facet" "third" "I", Cond.fieldLink RX0 18 "TriangleRaster$Facet" "zs" "[I", Cond.methodLink RX0 35 yX0_edge, Cond.instanceMethod yX0_edge, Cond.selects RX0 yX0_edge yX0_edge]
def wsX1_paintNearer_r2 : List Cond := [Cond.code yX0_edge cX0_edge 9 (some .long), Cond.fieldLink RX0 9 "TriangleRaster$Facet" "xs" "[I", Cond.fieldLink RX0 15 "TriangleRaster$Facet" "ys" "[I", Cond.methodLink RX0 45 yX0_isInside, Cond.instanceMethod yX0_isInside, Cond.selects RX0 yX0_isInside yX0_isInside, Cond.code yX0_isInside cX0_isInside 5 (some .boolean), Cond.methodLink RX0 49 yX0_isTopOrLeft, Cond.instanceMethod yX0_isTopOrLeft, Cond.selects RX0 yX0_isTopOrLeft yX0_isTopOrLeft, Cond.code yX0_isTopOrLeft cX0_isTopOrLeft 5 (some .boolean)]
def wsX1_paintNearer : List Cond := .code yX1_paintNearer cX1_paintNearer 6 (some .int) :: ((wsX1_paintNearer_r1 ++ wsX1_paintNearer_r2) ++ wsX10 ++ wsX00)
def wsX1_triangle_r1 : List Cond := [Cond.fieldLink RX1 17 "TriangleRaster" "height" "I", Cond.fieldLink RX1 13 "TriangleRaster" "width" "I", Cond.methodLink RX1 64 yX1_paintNearer, Cond.instanceMethod yX1_paintNearer, Cond.selects RX1 yX1_paintNearer yX1_paintNearer, Cond.initialized RX1, Cond.code yX1_paintNearer cX1_paintNearer 6 (some .int), Cond.fieldLink RX1 30 "TriangleRaster" "facet" "LTriangleRaster$Facet;", Cond.fieldLink RX1 24 "TriangleRaster" "depths" "[I", Cond.fieldLink RX1 20 "TriangleRaster" "colours" "[I", Cond.methodLink RX1 84 yX1_indexOf, Cond.instanceMethod yX1_indexOf, Cond.selects RX1 yX1_indexOf yX1_indexOf, Cond.code yX1_indexOf cX1_indexOf 4 (some .int), Cond.methodLink RX1 45 yX1_isWithin, Cond.static yX1_isWithin, Cond.code yX1_isWithin cX1_isWithin 3 (some .boolean), Cond.instanceMethod yX0_depthOver, Cond.initialized RX0, Cond.selects RX0 yX0_depthOver yX0_depthOver, Cond.code yX0_depthOver cX0_depthOver 11 (some .int), Cond.fieldLink RX0 28 "TriangleRaster$Facet" "area" "J", Cond.fieldLink RX0 21 "TriangleRaster$Facet" "second" "I", Cond.fieldLink RX0 25 "TriangleRaster$Facet" "third" "I"]
def wsX1_triangle_r2 : List Cond := [Cond.fieldLink RX0 18 "TriangleRaster$Facet" "zs" "[I", Cond.methodLink RX0 35 yX0_edge, Cond.instanceMethod yX0_edge, Cond.selects RX0 yX0_edge yX0_edge, Cond.code yX0_edge cX0_edge 9 (some .long), Cond.fieldLink RX0 9 "TriangleRaster$Facet" "xs" "[I", Cond.fieldLink RX0 15 "TriangleRaster$Facet" "ys" "[I", Cond.methodLink RX0 45 yX0_isInside, Cond.instanceMethod yX0_isInside, Cond.selects RX0 yX0_isInside yX0_isInside, Cond.code yX0_isInside cX0_isInside 5 (some .boolean), Cond.methodLink RX0 49 yX0_isTopOrLeft, Cond.instanceMethod yX0_isTopOrLeft, Cond.selects RX0 yX0_isTopOrLeft yX0_isTopOrLeft, Cond.code yX0_isTopOrLeft cX0_isTopOrLeft 5 (some .boolean)]
def wsX1_triangle : List Cond := .code yX1_triangle cX1_triangle 5 (some .int) :: ((wsX1_triangle_r1 ++ wsX1_triangle_r2) ++ wsX10 ++ wsX00)
def wsX1_covers_r1 : List Cond := [Cond.fieldLink RX1 30 "TriangleRaster" "facet" "LTriangleRaster$Facet;", Cond.methodLink RX1 45 yX1_isWithin, Cond.static yX1_isWithin, Cond.initialized RX1, Cond.code yX1_isWithin cX1_isWithin 3 (some .boolean), Cond.instanceMethod yX0_depthOver, Cond.initialized RX0, Cond.selects RX0 yX0_depthOver yX0_depthOver, Cond.code yX0_depthOver cX0_depthOver 11 (some .int), Cond.fieldLink RX0 28 "TriangleRaster$Facet" "area" "J", Cond.fieldLink RX0 21 "TriangleRaster$Facet" "second" "I", Cond.fieldLink RX0 25 "TriangleRaster$Facet" "third" "I", Cond.fieldLink RX0 18 "TriangleRaster$Facet" "zs" "[I", Cond.methodLink RX0 35 yX0_edge, Cond.instanceMethod yX0_edge, Cond.selects RX0 yX0_edge yX0_edge, Cond.code yX0_edge cX0_edge 9 (some .long), Cond.fieldLink RX0 9 "TriangleRaster$Facet" "xs" "[I", Cond.fieldLink RX0 15 "TriangleRaster$Facet" "ys" "[I", Cond.methodLink RX0 45 yX0_isInside, Cond.instanceMethod yX0_isInside, Cond.selects RX0 yX0_isInside yX0_isInside, Cond.code yX0_isInside cX0_isInside 5 (some .boolean), Cond.methodLink RX0 49 yX0_isTopOrLeft]
def wsX1_covers_r2 : List Cond := [Cond.instanceMethod yX0_isTopOrLeft, Cond.selects RX0 yX0_isTopOrLeft yX0_isTopOrLeft, Cond.code yX0_isTopOrLeft cX0_isTopOrLeft 5 (some .boolean)]
def wsX1_covers : List Cond := .code yX1_covers cX1_covers 3 (some .boolean) :: ((wsX1_covers_r1 ++ wsX1_covers_r2) ++ wsX10 ++ wsX00)
def wsX1_placeBeside : List Cond := .code yX1_placeBeside cX1_placeBeside 12 (some .int) :: ([.methodLink RX1 72 Lib.Math.abs.name, .static Lib.Math.abs.name, .initialized "java/lang/Math", .code Lib.Math.abs.name Lib.Math.abs.code 1 (some .int), .constantLong RX1 93 (2)])
def wsX1_paint : List Cond := .code yX1_paint cX1_paint 5 (some .int) :: ([.fieldLink RX1 20 "TriangleRaster" "colours" "[I", .methodLink RX1 84 yX1_indexOf, .instanceMethod yX1_indexOf, .selects RX1 yX1_indexOf yX1_indexOf, .initialized RX1, .code yX1_indexOf cX1_indexOf 4 (some .int), .fieldLink RX1 13 "TriangleRaster" "width" "I", .fieldLink RX1 17 "TriangleRaster" "height" "I", .methodLink RX1 45 yX1_isWithin, .static yX1_isWithin, .code yX1_isWithin cX1_isWithin 3 (some .boolean)] ++ wsX10)
def wsX1_line_r1 : List Cond := [Cond.methodLink RX1 72 Lib.Math.abs.name, Cond.static Lib.Math.abs.name, Cond.initialized "java/lang/Math", Cond.code Lib.Math.abs.name Lib.Math.abs.code 1 (some .int), Cond.fieldLink RX1 13 "TriangleRaster" "width" "I", Cond.fieldLink RX1 17 "TriangleRaster" "height" "I", Cond.methodLink RX1 55 yX1_isCoordinate, Cond.static yX1_isCoordinate, Cond.initialized RX1, Cond.code yX1_isCoordinate cX1_isCoordinate 1 (some .boolean), Cond.methodLink RX1 45 yX1_isWithin, Cond.static yX1_isWithin, Cond.code yX1_isWithin cX1_isWithin 3 (some .boolean), Cond.methodLink RX1 77 yX1_placeBeside, Cond.static yX1_placeBeside, Cond.code yX1_placeBeside cX1_placeBeside 12 (some .int), Cond.constantLong RX1 93 (2), Cond.methodLink RX1 81 yX1_paint, Cond.instanceMethod yX1_paint, Cond.selects RX1 yX1_paint yX1_paint, Cond.code yX1_paint cX1_paint 5 (some .int), Cond.fieldLink RX1 20 "TriangleRaster" "colours" "[I", Cond.methodLink RX1 84 yX1_indexOf, Cond.instanceMethod yX1_indexOf]
def wsX1_line_r2 : List Cond := [Cond.selects RX1 yX1_indexOf yX1_indexOf, Cond.code yX1_indexOf cX1_indexOf 4 (some .int)]
def wsX1_line : List Cond := .code yX1_line cX1_line 8 (some .int) :: ((wsX1_line_r1 ++ wsX1_line_r2) ++ wsX10)
def wsX1_forgetReached : List Cond := .code yX1_forgetReached cX1_forgetReached 2 none :: ([.fieldLink RX1 34 "TriangleRaster" "reached" "[Z"] ++ wsX10)
def wsX1_pixel : List Cond := .code yX1_pixel cX1_pixel 4 (some .int) :: ([.fieldLink RX1 20 "TriangleRaster" "colours" "[I", .methodLink RX1 84 yX1_indexOf, .instanceMethod yX1_indexOf, .selects RX1 yX1_indexOf yX1_indexOf, .initialized RX1, .code yX1_indexOf cX1_indexOf 4 (some .int), .fieldLink RX1 13 "TriangleRaster" "width" "I", .fieldLink RX1 17 "TriangleRaster" "height" "I", .methodLink RX1 45 yX1_isWithin, .static yX1_isWithin, .code yX1_isWithin cX1_isWithin 3 (some .boolean)] ++ wsX10)
def wsX1_reach : List Cond := .code yX1_reach cX1_reach 5 none :: ([.fieldLink RX1 34 "TriangleRaster" "reached" "[Z", .fieldLink RX1 20 "TriangleRaster" "colours" "[I", .fieldLink RX1 41 "TriangleRaster" "queued" "I", .fieldLink RX1 38 "TriangleRaster" "queue" "[I", .methodLink RX1 84 yX1_indexOf, .instanceMethod yX1_indexOf, .selects RX1 yX1_indexOf yX1_indexOf, .initialized RX1, .code yX1_indexOf cX1_indexOf 4 (some .int), .fieldLink RX1 13 "TriangleRaster" "width" "I", .fieldLink RX1 17 "TriangleRaster" "height" "I", .methodLink RX1 45 yX1_isWithin, .static yX1_isWithin, .code yX1_isWithin cX1_isWithin 3 (some .boolean)] ++ wsX10)
def wsX1_reachPiece : List Cond := .code yX1_reachPiece cX1_reachPiece 7 (some .int) :: ([.fieldLink RX1 41 "TriangleRaster" "queued" "I", .fieldLink RX1 38 "TriangleRaster" "queue" "[I", .fieldLink RX1 13 "TriangleRaster" "width" "I", .methodLink RX1 95 yX1_pixel, .instanceMethod yX1_pixel, .selects RX1 yX1_pixel yX1_pixel, .initialized RX1, .code yX1_pixel cX1_pixel 4 (some .int), .fieldLink RX1 20 "TriangleRaster" "colours" "[I", .methodLink RX1 84 yX1_indexOf, .instanceMethod yX1_indexOf, .selects RX1 yX1_indexOf yX1_indexOf, .code yX1_indexOf cX1_indexOf 4 (some .int), .fieldLink RX1 17 "TriangleRaster" "height" "I", .methodLink RX1 45 yX1_isWithin, .static yX1_isWithin, .code yX1_isWithin cX1_isWithin 3 (some .boolean), .methodLink RX1 98 yX1_reach, .instanceMethod yX1_reach, .selects RX1 yX1_reach yX1_reach, .code yX1_reach cX1_reach 5 none, .fieldLink RX1 34 "TriangleRaster" "reached" "[Z"] ++ wsX10)
def wsX1_fill_r1 : List Cond := [Cond.fieldLink RX1 20 "TriangleRaster" "colours" "[I", Cond.fieldLink RX1 38 "TriangleRaster" "queue" "[I", Cond.methodLink RX1 84 yX1_indexOf, Cond.instanceMethod yX1_indexOf, Cond.selects RX1 yX1_indexOf yX1_indexOf, Cond.initialized RX1, Cond.code yX1_indexOf cX1_indexOf 4 (some .int), Cond.fieldLink RX1 13 "TriangleRaster" "width" "I", Cond.fieldLink RX1 17 "TriangleRaster" "height" "I", Cond.methodLink RX1 45 yX1_isWithin, Cond.static yX1_isWithin, Cond.code yX1_isWithin cX1_isWithin 3 (some .boolean), Cond.methodLink RX1 87 yX1_forgetReached, Cond.instanceMethod yX1_forgetReached, Cond.selects RX1 yX1_forgetReached yX1_forgetReached, Cond.code yX1_forgetReached cX1_forgetReached 2 none, Cond.fieldLink RX1 34 "TriangleRaster" "reached" "[Z", Cond.methodLink RX1 90 yX1_reachPiece, Cond.instanceMethod yX1_reachPiece, Cond.selects RX1 yX1_reachPiece yX1_reachPiece, Cond.code yX1_reachPiece cX1_reachPiece 7 (some .int), Cond.fieldLink RX1 41 "TriangleRaster" "queued" "I", Cond.methodLink RX1 95 yX1_pixel, Cond.instanceMethod yX1_pixel]
def wsX1_fill_r2 : List Cond := [Cond.selects RX1 yX1_pixel yX1_pixel, Cond.code yX1_pixel cX1_pixel 4 (some .int), Cond.methodLink RX1 98 yX1_reach, Cond.instanceMethod yX1_reach, Cond.selects RX1 yX1_reach yX1_reach, Cond.code yX1_reach cX1_reach 5 none]
def wsX1_fill : List Cond := .code yX1_fill cX1_fill 7 (some .int) :: ((wsX1_fill_r1 ++ wsX1_fill_r2) ++ wsX10)
def wsX1_depthAt : List Cond := .code yX1_depthAt cX1_depthAt 4 (some .int) :: ([.fieldLink RX1 24 "TriangleRaster" "depths" "[I", .methodLink RX1 84 yX1_indexOf, .instanceMethod yX1_indexOf, .selects RX1 yX1_indexOf yX1_indexOf, .initialized RX1, .code yX1_indexOf cX1_indexOf 4 (some .int), .fieldLink RX1 13 "TriangleRaster" "width" "I", .fieldLink RX1 17 "TriangleRaster" "height" "I", .methodLink RX1 45 yX1_isWithin, .static yX1_isWithin, .code yX1_isWithin cX1_isWithin 3 (some .boolean)] ++ wsX10)
def wsX1_count : List Cond := .code yX1_count cX1_count 4 (some .int) :: ([.fieldLink RX1 20 "TriangleRaster" "colours" "[I"] ++ wsX10)
def wsX1_pieces_r1 : List Cond := [Cond.fieldLink RX1 20 "TriangleRaster" "colours" "[I", Cond.fieldLink RX1 34 "TriangleRaster" "reached" "[Z", Cond.fieldLink RX1 13 "TriangleRaster" "width" "I", Cond.methodLink RX1 87 yX1_forgetReached, Cond.instanceMethod yX1_forgetReached, Cond.selects RX1 yX1_forgetReached yX1_forgetReached, Cond.initialized RX1, Cond.code yX1_forgetReached cX1_forgetReached 2 none, Cond.methodLink RX1 90 yX1_reachPiece, Cond.instanceMethod yX1_reachPiece, Cond.selects RX1 yX1_reachPiece yX1_reachPiece, Cond.code yX1_reachPiece cX1_reachPiece 7 (some .int), Cond.fieldLink RX1 41 "TriangleRaster" "queued" "I", Cond.fieldLink RX1 38 "TriangleRaster" "queue" "[I", Cond.methodLink RX1 95 yX1_pixel, Cond.instanceMethod yX1_pixel, Cond.selects RX1 yX1_pixel yX1_pixel, Cond.code yX1_pixel cX1_pixel 4 (some .int), Cond.methodLink RX1 84 yX1_indexOf, Cond.instanceMethod yX1_indexOf, Cond.selects RX1 yX1_indexOf yX1_indexOf, Cond.code yX1_indexOf cX1_indexOf 4 (some .int), Cond.fieldLink RX1 17 "TriangleRaster" "height" "I", Cond.methodLink RX1 45 yX1_isWithin]
def wsX1_pieces_r2 : List Cond := [Cond.static yX1_isWithin, Cond.code yX1_isWithin cX1_isWithin 3 (some .boolean), Cond.methodLink RX1 98 yX1_reach, Cond.instanceMethod yX1_reach, Cond.selects RX1 yX1_reach yX1_reach, Cond.code yX1_reach cX1_reach 5 none]
def wsX1_pieces : List Cond := .code yX1_pieces cX1_pieces 4 (some .int) :: ((wsX1_pieces_r1 ++ wsX1_pieces_r2) ++ wsX10)
def wsX2_init : List Cond := .code yX2_init cX2_init 3 none :: ([.methodLink RX2 1 objectInit, .instanceMethod objectInit, .code objectInit ⟨#[0xb1]⟩ 1 none, .arrayClass .int, .fieldLink RX2 7 "TriangleRasterModel" "colours" "[I", .fieldLink RX2 13 "TriangleRasterModel" "depths" "[I", .fieldLink RX2 16 "TriangleRasterModel" "xs" "[I", .fieldLink RX2 19 "TriangleRasterModel" "ys" "[I", .fieldLink RX2 22 "TriangleRasterModel" "zs" "[I", .arrayClass .boolean, .fieldLink RX2 25 "TriangleRasterModel" "marks" "[Z", .fieldLink RX2 29 "TriangleRasterModel" "w" "I", .fieldLink RX2 33 "TriangleRasterModel" "h" "I"] ++ wsX20)
def wsX2_isPixel : List Cond := .code yX2_isPixel cX2_isPixel 3 (some .boolean) :: ([.fieldLink RX2 29 "TriangleRasterModel" "w" "I", .fieldLink RX2 33 "TriangleRasterModel" "h" "I"] ++ wsX20)
def wsX2_clear : List Cond := .code yX2_clear cX2_clear 4 (some .boolean) :: ([.constant RX2 36 (65535), .fieldLink RX2 7 "TriangleRasterModel" "colours" "[I", .fieldLink RX2 13 "TriangleRasterModel" "depths" "[I"] ++ wsX20)
def wsX2_isFar : List Cond := .code yX2_isFar cX2_isFar 1 (some .boolean) :: ([])
def wsX2_vertex : List Cond := .code yX2_vertex cX2_vertex 5 (some .boolean) :: ([.constant RX2 41 (32768), .fieldLink RX2 16 "TriangleRasterModel" "xs" "[I", .fieldLink RX2 19 "TriangleRasterModel" "ys" "[I", .fieldLink RX2 22 "TriangleRasterModel" "zs" "[I", .methodLink RX2 37 yX2_isFar, .static yX2_isFar, .initialized RX2, .code yX2_isFar cX2_isFar 1 (some .boolean)] ++ wsX20)
def wsX2_edge : List Cond := .code yX2_edge cX2_edge 7 (some .long) :: ([.fieldLink RX2 16 "TriangleRasterModel" "xs" "[I", .fieldLink RX2 19 "TriangleRasterModel" "ys" "[I"] ++ wsX20)
def wsX2_area : List Cond := .code yX2_area cX2_area 1 (some .long) :: ([.fieldLink RX2 16 "TriangleRasterModel" "xs" "[I", .fieldLink RX2 19 "TriangleRasterModel" "ys" "[I", .methodLink RX2 42 yX2_edge, .instanceMethod yX2_edge, .selects RX2 yX2_edge yX2_edge, .initialized RX2, .code yX2_edge cX2_edge 7 (some .long)] ++ wsX20)
def wsX2_isTopOrLeft : List Cond := .code yX2_isTopOrLeft cX2_isTopOrLeft 3 (some .boolean) :: ([.fieldLink RX2 19 "TriangleRasterModel" "ys" "[I", .fieldLink RX2 16 "TriangleRasterModel" "xs" "[I"] ++ wsX20)
def wsX2_isInside : List Cond := .code yX2_isInside cX2_isInside 9 (some .boolean) :: ([.methodLink RX2 42 yX2_edge, .instanceMethod yX2_edge, .selects RX2 yX2_edge yX2_edge, .initialized RX2, .code yX2_edge cX2_edge 7 (some .long), .fieldLink RX2 16 "TriangleRasterModel" "xs" "[I", .fieldLink RX2 19 "TriangleRasterModel" "ys" "[I", .methodLink RX2 46 yX2_isTopOrLeft, .instanceMethod yX2_isTopOrLeft, .selects RX2 yX2_isTopOrLeft yX2_isTopOrLeft, .code yX2_isTopOrLeft cX2_isTopOrLeft 3 (some .boolean)] ++ wsX20)
def wsX2_isCovered : List Cond := .code yX2_isCovered cX2_isCovered 9 (some .boolean) :: ([.constantLong RX2 50 (16), .constantLong RX2 52 (8), .methodLink RX2 54 yX2_area, .instanceMethod yX2_area, .selects RX2 yX2_area yX2_area, .initialized RX2, .code yX2_area cX2_area 1 (some .long), .fieldLink RX2 16 "TriangleRasterModel" "xs" "[I", .fieldLink RX2 19 "TriangleRasterModel" "ys" "[I", .methodLink RX2 42 yX2_edge, .instanceMethod yX2_edge, .selects RX2 yX2_edge yX2_edge, .code yX2_edge cX2_edge 7 (some .long), .methodLink RX2 58 yX2_isInside, .instanceMethod yX2_isInside, .selects RX2 yX2_isInside yX2_isInside, .code yX2_isInside cX2_isInside 9 (some .boolean), .methodLink RX2 46 yX2_isTopOrLeft, .instanceMethod yX2_isTopOrLeft, .selects RX2 yX2_isTopOrLeft yX2_isTopOrLeft, .code yX2_isTopOrLeft cX2_isTopOrLeft 3 (some .boolean)] ++ wsX20)
def wsX2_depthOf : List Cond := .code yX2_depthOf cX2_depthOf 9 (some .int) :: ([.constantLong RX2 50 (16), .constantLong RX2 52 (8), .fieldLink RX2 22 "TriangleRasterModel" "zs" "[I", .methodLink RX2 42 yX2_edge, .instanceMethod yX2_edge, .selects RX2 yX2_edge yX2_edge, .initialized RX2, .code yX2_edge cX2_edge 7 (some .long), .fieldLink RX2 16 "TriangleRasterModel" "xs" "[I", .fieldLink RX2 19 "TriangleRasterModel" "ys" "[I", .methodLink RX2 54 yX2_area, .instanceMethod yX2_area, .selects RX2 yX2_area yX2_area, .code yX2_area cX2_area 1 (some .long)] ++ wsX20)
def wsX2_triangle_r1 : List Cond := [Cond.fieldLink RX2 33 "TriangleRasterModel" "h" "I", Cond.fieldLink RX2 29 "TriangleRasterModel" "w" "I", Cond.fieldLink RX2 13 "TriangleRasterModel" "depths" "[I", Cond.fieldLink RX2 7 "TriangleRasterModel" "colours" "[I", Cond.methodLink RX2 62 yX2_isCovered, Cond.instanceMethod yX2_isCovered, Cond.selects RX2 yX2_isCovered yX2_isCovered, Cond.initialized RX2, Cond.code yX2_isCovered cX2_isCovered 9 (some .boolean), Cond.constantLong RX2 50 (16), Cond.constantLong RX2 52 (8), Cond.methodLink RX2 54 yX2_area, Cond.instanceMethod yX2_area, Cond.selects RX2 yX2_area yX2_area, Cond.code yX2_area cX2_area 1 (some .long), Cond.fieldLink RX2 16 "TriangleRasterModel" "xs" "[I", Cond.fieldLink RX2 19 "TriangleRasterModel" "ys" "[I", Cond.methodLink RX2 42 yX2_edge, Cond.instanceMethod yX2_edge, Cond.selects RX2 yX2_edge yX2_edge, Cond.code yX2_edge cX2_edge 7 (some .long), Cond.methodLink RX2 58 yX2_isInside, Cond.instanceMethod yX2_isInside, Cond.selects RX2 yX2_isInside yX2_isInside]
def wsX2_triangle_r2 : List Cond := [Cond.code yX2_isInside cX2_isInside 9 (some .boolean), Cond.methodLink RX2 46 yX2_isTopOrLeft, Cond.instanceMethod yX2_isTopOrLeft, Cond.selects RX2 yX2_isTopOrLeft yX2_isTopOrLeft, Cond.code yX2_isTopOrLeft cX2_isTopOrLeft 3 (some .boolean), Cond.methodLink RX2 65 yX2_depthOf, Cond.instanceMethod yX2_depthOf, Cond.selects RX2 yX2_depthOf yX2_depthOf, Cond.code yX2_depthOf cX2_depthOf 9 (some .int), Cond.fieldLink RX2 22 "TriangleRasterModel" "zs" "[I"]
def wsX2_triangle : List Cond := .code yX2_triangle cX2_triangle 5 (some .int) :: ((wsX2_triangle_r1 ++ wsX2_triangle_r2) ++ wsX20)
def wsX2_covers_r1 : List Cond := [Cond.methodLink RX2 62 yX2_isCovered, Cond.instanceMethod yX2_isCovered, Cond.selects RX2 yX2_isCovered yX2_isCovered, Cond.initialized RX2, Cond.code yX2_isCovered cX2_isCovered 9 (some .boolean), Cond.constantLong RX2 50 (16), Cond.constantLong RX2 52 (8), Cond.methodLink RX2 54 yX2_area, Cond.instanceMethod yX2_area, Cond.selects RX2 yX2_area yX2_area, Cond.code yX2_area cX2_area 1 (some .long), Cond.fieldLink RX2 16 "TriangleRasterModel" "xs" "[I", Cond.fieldLink RX2 19 "TriangleRasterModel" "ys" "[I", Cond.methodLink RX2 42 yX2_edge, Cond.instanceMethod yX2_edge, Cond.selects RX2 yX2_edge yX2_edge, Cond.code yX2_edge cX2_edge 7 (some .long), Cond.methodLink RX2 58 yX2_isInside, Cond.instanceMethod yX2_isInside, Cond.selects RX2 yX2_isInside yX2_isInside, Cond.code yX2_isInside cX2_isInside 9 (some .boolean), Cond.methodLink RX2 46 yX2_isTopOrLeft, Cond.instanceMethod yX2_isTopOrLeft, Cond.selects RX2 yX2_isTopOrLeft yX2_isTopOrLeft]
def wsX2_covers_r2 : List Cond := [Cond.code yX2_isTopOrLeft cX2_isTopOrLeft 3 (some .boolean)]
def wsX2_covers : List Cond := .code yX2_covers cX2_covers 4 (some .boolean) :: ((wsX2_covers_r1 ++ wsX2_covers_r2) ++ wsX20)
def wsX2_sign : List Cond := .code yX2_sign cX2_sign 1 (some .int) :: ([])
def wsX2_line : List Cond := .code yX2_line cX2_line 16 (some .int) :: ([.constantLong RX2 69 (2), .fieldLink RX2 7 "TriangleRasterModel" "colours" "[I", .methodLink RX2 37 yX2_isFar, .static yX2_isFar, .initialized RX2, .code yX2_isFar cX2_isFar 1 (some .boolean), .methodLink RX2 71 yX2_sign, .static yX2_sign, .code yX2_sign cX2_sign 1 (some .int), .methodLink RX2 75 yX2_isPixel, .instanceMethod yX2_isPixel, .selects RX2 yX2_isPixel yX2_isPixel, .code yX2_isPixel cX2_isPixel 3 (some .boolean), .fieldLink RX2 29 "TriangleRasterModel" "w" "I", .fieldLink RX2 33 "TriangleRasterModel" "h" "I"] ++ wsX20)
def wsX2_mark : List Cond := .code yX2_mark cX2_mark 10 (some .int) :: ([.fieldLink RX2 7 "TriangleRasterModel" "colours" "[I", .fieldLink RX2 25 "TriangleRasterModel" "marks" "[Z", .fieldLink RX2 33 "TriangleRasterModel" "h" "I", .fieldLink RX2 29 "TriangleRasterModel" "w" "I"] ++ wsX20)
def wsX2_unmark : List Cond := .code yX2_unmark cX2_unmark 2 none :: ([.fieldLink RX2 25 "TriangleRasterModel" "marks" "[Z"] ++ wsX20)
def wsX2_fill : List Cond := .code yX2_fill cX2_fill 6 (some .int) :: ([.fieldLink RX2 7 "TriangleRasterModel" "colours" "[I", .fieldLink RX2 25 "TriangleRasterModel" "marks" "[Z", .methodLink RX2 75 yX2_isPixel, .instanceMethod yX2_isPixel, .selects RX2 yX2_isPixel yX2_isPixel, .initialized RX2, .code yX2_isPixel cX2_isPixel 3 (some .boolean), .fieldLink RX2 29 "TriangleRasterModel" "w" "I", .fieldLink RX2 33 "TriangleRasterModel" "h" "I", .methodLink RX2 78 yX2_unmark, .instanceMethod yX2_unmark, .selects RX2 yX2_unmark yX2_unmark, .code yX2_unmark cX2_unmark 2 none, .methodLink RX2 81 yX2_mark, .instanceMethod yX2_mark, .selects RX2 yX2_mark yX2_mark, .code yX2_mark cX2_mark 10 (some .int)] ++ wsX20)
def wsX2_pieces : List Cond := .code yX2_pieces cX2_pieces 5 (some .int) :: ([.fieldLink RX2 33 "TriangleRasterModel" "h" "I", .fieldLink RX2 29 "TriangleRasterModel" "w" "I", .fieldLink RX2 7 "TriangleRasterModel" "colours" "[I", .fieldLink RX2 25 "TriangleRasterModel" "marks" "[Z", .methodLink RX2 78 yX2_unmark, .instanceMethod yX2_unmark, .selects RX2 yX2_unmark yX2_unmark, .initialized RX2, .code yX2_unmark cX2_unmark 2 none, .methodLink RX2 81 yX2_mark, .instanceMethod yX2_mark, .selects RX2 yX2_mark yX2_mark, .code yX2_mark cX2_mark 10 (some .int)] ++ wsX20)
def wsX2_pixel : List Cond := .code yX2_pixel cX2_pixel 3 (some .int) :: ([.fieldLink RX2 7 "TriangleRasterModel" "colours" "[I", .methodLink RX2 75 yX2_isPixel, .instanceMethod yX2_isPixel, .selects RX2 yX2_isPixel yX2_isPixel, .initialized RX2, .code yX2_isPixel cX2_isPixel 3 (some .boolean), .fieldLink RX2 29 "TriangleRasterModel" "w" "I", .fieldLink RX2 33 "TriangleRasterModel" "h" "I"] ++ wsX20)
def wsX2_depthAt : List Cond := .code yX2_depthAt cX2_depthAt 3 (some .int) :: ([.fieldLink RX2 13 "TriangleRasterModel" "depths" "[I", .methodLink RX2 75 yX2_isPixel, .instanceMethod yX2_isPixel, .selects RX2 yX2_isPixel yX2_isPixel, .initialized RX2, .code yX2_isPixel cX2_isPixel 3 (some .boolean), .fieldLink RX2 29 "TriangleRasterModel" "w" "I", .fieldLink RX2 33 "TriangleRasterModel" "h" "I"] ++ wsX20)
def wsX2_count : List Cond := .code yX2_count cX2_count 5 (some .int) :: ([.fieldLink RX2 33 "TriangleRasterModel" "h" "I", .fieldLink RX2 29 "TriangleRasterModel" "w" "I", .fieldLink RX2 7 "TriangleRasterModel" "colours" "[I"] ++ wsX20)
def wsJ9_abs_0f7a4 : List Cond := .code yJ9_abs_0f7a4 cJ9_abs_0f7a4 1 (some .int) :: ([])
def wsJ9_abs_067f4 : List Cond := .code yJ9_abs_067f4 cJ9_abs_067f4 2 (some .long) :: ([])
def wsL_cell : List Cond := .code yL_cell cL_cell 2 (some .int) :: ([])
def wsL_law_r1 : List Cond := [Cond.classLink RL 7 RX1, Cond.instantiable RX1 8, Cond.initialized RX1, Cond.classLink RL 18 RX2, Cond.instantiable RX2 8, Cond.initialized RX2, Cond.methodLink RL 9 yL_cell, Cond.static yL_cell, Cond.initialized RL, Cond.code yL_cell cL_cell 2 (some .int), Cond.methodLink RL 15 yX1_init, Cond.instanceMethod yX1_init, Cond.code yX1_init cX1_init 4 none, Cond.methodLink RX1 1 objectInit, Cond.instanceMethod objectInit, Cond.code objectInit ⟨#[0xb1]⟩ 1 none, Cond.fieldLink RX1 13 "TriangleRaster" "width" "I", Cond.fieldLink RX1 17 "TriangleRaster" "height" "I", Cond.arrayClass .int, Cond.fieldLink RX1 20 "TriangleRaster" "colours" "[I", Cond.fieldLink RX1 24 "TriangleRaster" "depths" "[I", Cond.classLink RX1 27 RX0, Cond.instantiable RX0 6, Cond.initialized RX0]
def wsL_law_r2 : List Cond := [Cond.fieldLink RX1 30 "TriangleRaster" "facet" "LTriangleRaster$Facet;", Cond.arrayClass .boolean, Cond.fieldLink RX1 34 "TriangleRaster" "reached" "[Z", Cond.fieldLink RX1 38 "TriangleRaster" "queue" "[I", Cond.fieldLink RX1 41 "TriangleRaster" "queued" "I", Cond.methodLink RX1 7 yX1_sideOf, Cond.static yX1_sideOf, Cond.code yX1_sideOf cX1_sideOf 1 (some .int), Cond.methodLink RX1 45 yX1_isWithin, Cond.static yX1_isWithin, Cond.code yX1_isWithin cX1_isWithin 3 (some .boolean), Cond.instanceMethod yX0_init, Cond.code yX0_init cX0_init 1 none, Cond.methodLink RX0 3 objectInit, Cond.fieldLink RX0 9 "TriangleRaster$Facet" "xs" "[I", Cond.fieldLink RX0 15 "TriangleRaster$Facet" "ys" "[I", Cond.fieldLink RX0 18 "TriangleRaster$Facet" "zs" "[I", Cond.fieldLink RX0 21 "TriangleRaster$Facet" "second" "I", Cond.fieldLink RX0 25 "TriangleRaster$Facet" "third" "I", Cond.fieldLink RX0 28 "TriangleRaster$Facet" "area" "J", Cond.methodLink RL 20 yX2_init, Cond.instanceMethod yX2_init, Cond.code yX2_init cX2_init 3 none, Cond.methodLink RX2 1 objectInit]
def wsL_law_r3 : List Cond := [Cond.fieldLink RX2 7 "TriangleRasterModel" "colours" "[I", Cond.fieldLink RX2 13 "TriangleRasterModel" "depths" "[I", Cond.fieldLink RX2 16 "TriangleRasterModel" "xs" "[I", Cond.fieldLink RX2 19 "TriangleRasterModel" "ys" "[I", Cond.fieldLink RX2 22 "TriangleRasterModel" "zs" "[I", Cond.fieldLink RX2 25 "TriangleRasterModel" "marks" "[Z", Cond.fieldLink RX2 29 "TriangleRasterModel" "w" "I", Cond.fieldLink RX2 33 "TriangleRasterModel" "h" "I", Cond.methodLink RL 21 yX1_clear, Cond.instanceMethod yX1_clear, Cond.selects RX1 yX1_clear yX1_clear, Cond.code yX1_clear cX1_clear 3 (some .boolean), Cond.constant RX1 44 (65535), Cond.methodLink RX1 49 yJ7_fill_53178, Cond.static yJ7_fill_53178, Cond.initialized RJ7, Cond.code yJ7_fill_53178 cJ7_fill_53178 4 none, Cond.methodLink RL 25 yX2_clear, Cond.instanceMethod yX2_clear, Cond.selects RX2 yX2_clear yX2_clear, Cond.code yX2_clear cX2_clear 4 (some .boolean), Cond.constant RX2 36 (65535), Cond.methodLink RL 26 yX1_vertex, Cond.instanceMethod yX1_vertex]
def wsL_law_r4 : List Cond := [Cond.selects RX1 yX1_vertex yX1_vertex, Cond.code yX1_vertex cX1_vertex 5 (some .boolean), Cond.constant RX1 59 (32768), Cond.methodLink RX1 55 yX1_isCoordinate, Cond.static yX1_isCoordinate, Cond.code yX1_isCoordinate cX1_isCoordinate 1 (some .boolean), Cond.instanceMethod yX0_place, Cond.selects RX0 yX0_place yX0_place, Cond.code yX0_place cX0_place 5 none, Cond.methodLink RX0 32 yX0_takeRound, Cond.instanceMethod yX0_takeRound, Cond.selects RX0 yX0_takeRound yX0_takeRound, Cond.code yX0_takeRound cX0_takeRound 3 none, Cond.methodLink RX0 39 Lib.MathLoose.abs_long.x, Cond.static Lib.MathLoose.abs_long.x, Cond.initialized "java/lang/Math", Cond.code Lib.MathLoose.abs_long.x Lib.MathLoose.abs_long.code 2 (some .long), Cond.methodLink RX0 35 yX0_edge, Cond.instanceMethod yX0_edge, Cond.selects RX0 yX0_edge yX0_edge, Cond.code yX0_edge cX0_edge 9 (some .long), Cond.methodLink RL 30 yX2_vertex, Cond.instanceMethod yX2_vertex, Cond.selects RX2 yX2_vertex yX2_vertex]
def wsL_law_r5 : List Cond := [Cond.code yX2_vertex cX2_vertex 5 (some .boolean), Cond.constant RX2 41 (32768), Cond.methodLink RX2 37 yX2_isFar, Cond.static yX2_isFar, Cond.code yX2_isFar cX2_isFar 1 (some .boolean), Cond.methodLink RL 31 yX1_triangle, Cond.instanceMethod yX1_triangle, Cond.selects RX1 yX1_triangle yX1_triangle, Cond.code yX1_triangle cX1_triangle 5 (some .int), Cond.methodLink RX1 64 yX1_paintNearer, Cond.instanceMethod yX1_paintNearer, Cond.selects RX1 yX1_paintNearer yX1_paintNearer, Cond.code yX1_paintNearer cX1_paintNearer 6 (some .int), Cond.methodLink RX1 84 yX1_indexOf, Cond.instanceMethod yX1_indexOf, Cond.selects RX1 yX1_indexOf yX1_indexOf, Cond.code yX1_indexOf cX1_indexOf 4 (some .int), Cond.instanceMethod yX0_depthOver, Cond.selects RX0 yX0_depthOver yX0_depthOver, Cond.code yX0_depthOver cX0_depthOver 11 (some .int), Cond.methodLink RX0 45 yX0_isInside, Cond.instanceMethod yX0_isInside, Cond.selects RX0 yX0_isInside yX0_isInside, Cond.code yX0_isInside cX0_isInside 5 (some .boolean)]
def wsL_law_r6 : List Cond := [Cond.methodLink RX0 49 yX0_isTopOrLeft, Cond.instanceMethod yX0_isTopOrLeft, Cond.selects RX0 yX0_isTopOrLeft yX0_isTopOrLeft, Cond.code yX0_isTopOrLeft cX0_isTopOrLeft 5 (some .boolean), Cond.methodLink RL 35 yX2_triangle, Cond.instanceMethod yX2_triangle, Cond.selects RX2 yX2_triangle yX2_triangle, Cond.code yX2_triangle cX2_triangle 5 (some .int), Cond.methodLink RX2 62 yX2_isCovered, Cond.instanceMethod yX2_isCovered, Cond.selects RX2 yX2_isCovered yX2_isCovered, Cond.code yX2_isCovered cX2_isCovered 9 (some .boolean), Cond.constantLong RX2 50 (16), Cond.constantLong RX2 52 (8), Cond.methodLink RX2 54 yX2_area, Cond.instanceMethod yX2_area, Cond.selects RX2 yX2_area yX2_area, Cond.code yX2_area cX2_area 1 (some .long), Cond.methodLink RX2 42 yX2_edge, Cond.instanceMethod yX2_edge, Cond.selects RX2 yX2_edge yX2_edge, Cond.code yX2_edge cX2_edge 7 (some .long), Cond.methodLink RX2 58 yX2_isInside, Cond.instanceMethod yX2_isInside]
def wsL_law_r7 : List Cond := [Cond.selects RX2 yX2_isInside yX2_isInside, Cond.code yX2_isInside cX2_isInside 9 (some .boolean), Cond.methodLink RX2 46 yX2_isTopOrLeft, Cond.instanceMethod yX2_isTopOrLeft, Cond.selects RX2 yX2_isTopOrLeft yX2_isTopOrLeft, Cond.code yX2_isTopOrLeft cX2_isTopOrLeft 3 (some .boolean), Cond.methodLink RX2 65 yX2_depthOf, Cond.instanceMethod yX2_depthOf, Cond.selects RX2 yX2_depthOf yX2_depthOf, Cond.code yX2_depthOf cX2_depthOf 9 (some .int), Cond.methodLink RL 36 yX1_covers, Cond.instanceMethod yX1_covers, Cond.selects RX1 yX1_covers yX1_covers, Cond.code yX1_covers cX1_covers 3 (some .boolean), Cond.methodLink RL 39 yX2_covers, Cond.instanceMethod yX2_covers, Cond.selects RX2 yX2_covers yX2_covers, Cond.code yX2_covers cX2_covers 4 (some .boolean), Cond.methodLink RL 40 yX1_line, Cond.instanceMethod yX1_line, Cond.selects RX1 yX1_line yX1_line, Cond.code yX1_line cX1_line 8 (some .int), Cond.methodLink RX1 72 Lib.Math.abs.name, Cond.static Lib.Math.abs.name]
def wsL_law_r8 : List Cond := [Cond.code Lib.Math.abs.name Lib.Math.abs.code 1 (some .int), Cond.methodLink RX1 77 yX1_placeBeside, Cond.static yX1_placeBeside, Cond.code yX1_placeBeside cX1_placeBeside 12 (some .int), Cond.constantLong RX1 93 (2), Cond.methodLink RX1 81 yX1_paint, Cond.instanceMethod yX1_paint, Cond.selects RX1 yX1_paint yX1_paint, Cond.code yX1_paint cX1_paint 5 (some .int), Cond.methodLink RL 44 yX2_line, Cond.instanceMethod yX2_line, Cond.selects RX2 yX2_line yX2_line, Cond.code yX2_line cX2_line 16 (some .int), Cond.constantLong RX2 69 (2), Cond.methodLink RX2 71 yX2_sign, Cond.static yX2_sign, Cond.code yX2_sign cX2_sign 1 (some .int), Cond.methodLink RX2 75 yX2_isPixel, Cond.instanceMethod yX2_isPixel, Cond.selects RX2 yX2_isPixel yX2_isPixel, Cond.code yX2_isPixel cX2_isPixel 3 (some .boolean), Cond.methodLink RL 45 yX1_fill, Cond.instanceMethod yX1_fill, Cond.selects RX1 yX1_fill yX1_fill]
def wsL_law_r9 : List Cond := [Cond.code yX1_fill cX1_fill 7 (some .int), Cond.methodLink RX1 87 yX1_forgetReached, Cond.instanceMethod yX1_forgetReached, Cond.selects RX1 yX1_forgetReached yX1_forgetReached, Cond.code yX1_forgetReached cX1_forgetReached 2 none, Cond.methodLink RX1 90 yX1_reachPiece, Cond.instanceMethod yX1_reachPiece, Cond.selects RX1 yX1_reachPiece yX1_reachPiece, Cond.code yX1_reachPiece cX1_reachPiece 7 (some .int), Cond.methodLink RX1 95 yX1_pixel, Cond.instanceMethod yX1_pixel, Cond.selects RX1 yX1_pixel yX1_pixel, Cond.code yX1_pixel cX1_pixel 4 (some .int), Cond.methodLink RX1 98 yX1_reach, Cond.instanceMethod yX1_reach, Cond.selects RX1 yX1_reach yX1_reach, Cond.code yX1_reach cX1_reach 5 none, Cond.methodLink RL 49 yX2_fill, Cond.instanceMethod yX2_fill, Cond.selects RX2 yX2_fill yX2_fill, Cond.code yX2_fill cX2_fill 6 (some .int), Cond.methodLink RX2 78 yX2_unmark, Cond.instanceMethod yX2_unmark, Cond.selects RX2 yX2_unmark yX2_unmark]
def wsL_law_r10 : List Cond := [Cond.code yX2_unmark cX2_unmark 2 none, Cond.methodLink RX2 81 yX2_mark, Cond.instanceMethod yX2_mark, Cond.selects RX2 yX2_mark yX2_mark, Cond.code yX2_mark cX2_mark 10 (some .int), Cond.methodLink RL 50 yX1_pixel, Cond.methodLink RL 54 yX2_pixel, Cond.instanceMethod yX2_pixel, Cond.selects RX2 yX2_pixel yX2_pixel, Cond.code yX2_pixel cX2_pixel 3 (some .int), Cond.methodLink RL 55 yX1_depthAt, Cond.instanceMethod yX1_depthAt, Cond.selects RX1 yX1_depthAt yX1_depthAt, Cond.code yX1_depthAt cX1_depthAt 4 (some .int), Cond.methodLink RL 58 yX2_depthAt, Cond.instanceMethod yX2_depthAt, Cond.selects RX2 yX2_depthAt yX2_depthAt, Cond.code yX2_depthAt cX2_depthAt 3 (some .int), Cond.methodLink RL 59 yX1_count, Cond.instanceMethod yX1_count, Cond.selects RX1 yX1_count yX1_count, Cond.code yX1_count cX1_count 4 (some .int), Cond.methodLink RL 62 yX2_count, Cond.instanceMethod yX2_count]
def wsL_law_r11 : List Cond := [Cond.selects RX2 yX2_count yX2_count, Cond.code yX2_count cX2_count 5 (some .int), Cond.methodLink RL 63 yX1_pieces, Cond.instanceMethod yX1_pieces, Cond.selects RX1 yX1_pieces yX1_pieces, Cond.code yX1_pieces cX1_pieces 4 (some .int), Cond.methodLink RL 66 yX2_pieces, Cond.instanceMethod yX2_pieces, Cond.selects RX2 yX2_pieces yX2_pieces, Cond.code yX2_pieces cX2_pieces 5 (some .int)]
def wsL_law : List Cond := (wsL_law_r1 ++ (wsL_law_r2 ++ (wsL_law_r3 ++ (wsL_law_r4 ++ (wsL_law_r5 ++ (wsL_law_r6 ++ (wsL_law_r7 ++ (wsL_law_r8 ++ (wsL_law_r9 ++ (wsL_law_r10 ++ wsL_law_r11)))))))))) ++ wsX10 ++ wsX20 ++ wsX00 ++ ([] : List Cond)
set_option maxRecDepth 20000 in
theorem wsL_law_in : ∀ w ∈ wsL_law, w ∈ lw_tbl := fun w h => (goodIn_p wsL_law [202, 31, 34, 37, 40, 45, 207, 96, 100, 237, 104, 107, 112, 116, 123, 120, 242, 245, 127, 131, 135, 139, 143, 147, 250, 254, 260, 264, 268, 272, 276, 151, 280, 155, 158, 161, 166, 284, 288, 292, 170, 174, 178, 182, 186, 296, 300, 304, 312, 191, 316, 195, 320, 199, 308] (by decide +kernel) (by decide +kernel) w h).1
theorem inlX0 : ∀ w ∈ wsX00, w ∈ wsL_law := fun _ h => List.mem_append_left _ (List.mem_append_right _ h)
theorem inX0 : ∀ w ∈ wsX00, w ∈ lw_tbl := fun w h => wsL_law_in w (inlX0 w h)
theorem inlX1 : ∀ w ∈ wsX10, w ∈ wsL_law := fun _ h => List.mem_append_left _ (List.mem_append_left _ (List.mem_append_left _ (List.mem_append_right _ h)))
theorem inX1 : ∀ w ∈ wsX10, w ∈ lw_tbl := fun w h => wsL_law_in w (inlX1 w h)
theorem inlX2 : ∀ w ∈ wsX20, w ∈ wsL_law := fun _ h => List.mem_append_left _ (List.mem_append_left _ (List.mem_append_right _ h))
theorem inX2 : ∀ w ∈ wsX20, w ∈ lw_tbl := fun w h => wsL_law_in w (inlX2 w h)
theorem inJ9 : ∀ w ∈ wsJ90, w ∈ lw_tbl := by decide +kernel
theorem inJ7 : ∀ w ∈ wsJ70, w ∈ lw_tbl := by decide +kernel
abbrev vwCl : List vw_C := [(RX0, TX0, 6), (RX1, TX1, 8), (RX2, TX2, 8)]
end
section
theorem dX0_init_0 : decode cX0_init 0 = .ok (.aload_n 0, 1) := by decide +kernel
theorem dX0_init_1 : decode cX0_init 1 = .ok (.invokespecial 3, 3) := by decide +kernel
theorem dX0_init_4 : decode cX0_init 4 = .ok (.aload_n 0, 1) := by decide +kernel
theorem dX0_init_5 : decode cX0_init 5 = .ok (.iconst 3, 1) := by decide +kernel
theorem dX0_init_6 : decode cX0_init 6 = .ok (.newarray .int, 2) := by decide +kernel
theorem dX0_init_8 : decode cX0_init 8 = .ok (.putfield 9, 3) := by decide +kernel
theorem dX0_init_11 : decode cX0_init 11 = .ok (.aload_n 0, 1) := by decide +kernel
theorem dX0_init_12 : decode cX0_init 12 = .ok (.iconst 3, 1) := by decide +kernel
theorem dX0_init_13 : decode cX0_init 13 = .ok (.newarray .int, 2) := by decide +kernel
theorem dX0_init_15 : decode cX0_init 15 = .ok (.putfield 15, 3) := by decide +kernel
theorem dX0_init_18 : decode cX0_init 18 = .ok (.aload_n 0, 1) := by decide +kernel
theorem dX0_init_19 : decode cX0_init 19 = .ok (.iconst 3, 1) := by decide +kernel
theorem dX0_init_20 : decode cX0_init 20 = .ok (.newarray .int, 2) := by decide +kernel
theorem dX0_init_22 : decode cX0_init 22 = .ok (.putfield 18, 3) := by decide +kernel
theorem dX0_init_25 : decode cX0_init 25 = .ok (.aload_n 0, 1) := by decide +kernel
theorem dX0_init_26 : decode cX0_init 26 = .ok (.iconst 1, 1) := by decide +kernel
theorem dX0_init_27 : decode cX0_init 27 = .ok (.putfield 21, 3) := by decide +kernel
theorem dX0_init_30 : decode cX0_init 30 = .ok (.aload_n 0, 1) := by decide +kernel
theorem dX0_init_31 : decode cX0_init 31 = .ok (.iconst 2, 1) := by decide +kernel
theorem dX0_init_32 : decode cX0_init 32 = .ok (.putfield 25, 3) := by decide +kernel
theorem dX0_init_35 : decode cX0_init 35 = .ok (.aload_n 0, 1) := by decide +kernel
theorem dX0_init_36 : decode cX0_init 36 = .ok (.lconst 0, 1) := by decide +kernel
theorem dX0_init_37 : decode cX0_init 37 = .ok (.putfield 28, 3) := by decide +kernel
theorem dX0_init_40 : decode cX0_init 40 = .ok (.return_, 1) := by decide +kernel
set_option maxRecDepth 20000 in
theorem ggX0_place_X0_takeRound : GoodIn wsX0_place wsX0_takeRound := goodIn_r _ [8, 1, 2, 9, 10, 11, 12, 13, 14, 15, 16, 17, 18, 7, 19, 20, 21, 22, 23, 24, 25] (by decide +kernel) (by decide +kernel)
set_option maxRecDepth 20000 in
theorem gX0_place_X0_takeRound : GoodIn wsX0_place (wsV RX0 32 RX0 yX0_takeRound wsX0_takeRound) := goodIn_app (goodIn_of _ (by decide +kernel)) ggX0_place_X0_takeRound
theorem dX0_place_0 : decode cX0_place 0 = .ok (.aload_n 0, 1) := by decide +kernel
theorem dX0_place_1 : decode cX0_place 1 = .ok (.getfield 9, 3) := by decide +kernel
theorem dX0_place_4 : decode cX0_place 4 = .ok (.iload_n 1, 1) := by decide +kernel
theorem dX0_place_5 : decode cX0_place 5 = .ok (.iload_n 2, 1) := by decide +kernel
theorem dX0_place_6 : decode cX0_place 6 = .ok (.iastore, 1) := by decide +kernel
theorem dX0_place_7 : decode cX0_place 7 = .ok (.aload_n 0, 1) := by decide +kernel
theorem dX0_place_8 : decode cX0_place 8 = .ok (.getfield 15, 3) := by decide +kernel
theorem dX0_place_11 : decode cX0_place 11 = .ok (.iload_n 1, 1) := by decide +kernel
theorem dX0_place_12 : decode cX0_place 12 = .ok (.iload_n 3, 1) := by decide +kernel
theorem dX0_place_13 : decode cX0_place 13 = .ok (.iastore, 1) := by decide +kernel
theorem dX0_place_14 : decode cX0_place 14 = .ok (.aload_n 0, 1) := by decide +kernel
theorem dX0_place_15 : decode cX0_place 15 = .ok (.getfield 18, 3) := by decide +kernel
theorem dX0_place_18 : decode cX0_place 18 = .ok (.iload_n 1, 1) := by decide +kernel
theorem dX0_place_19 : decode cX0_place 19 = .ok (.iload 4, 2) := by decide +kernel
theorem dX0_place_21 : decode cX0_place 21 = .ok (.iastore, 1) := by decide +kernel
theorem dX0_place_22 : decode cX0_place 22 = .ok (.aload_n 0, 1) := by decide +kernel
theorem dX0_place_23 : decode cX0_place 23 = .ok (.invokevirtual 32, 3) := by decide +kernel
theorem dX0_place_26 : decode cX0_place 26 = .ok (.return_, 1) := by decide +kernel
set_option maxRecDepth 20000 in
theorem ggX0_takeRound_X0_edge : GoodIn wsX0_takeRound wsX0_edge := goodIn_r _ [14, 1, 2, 15, 16, 17, 18, 19, 20] (by decide +kernel) (by decide +kernel)
set_option maxRecDepth 20000 in
theorem gX0_takeRound_X0_edge : GoodIn wsX0_takeRound (wsV RX0 35 RX0 yX0_edge wsX0_edge) := goodIn_app (goodIn_of _ (by decide +kernel)) ggX0_takeRound_X0_edge
theorem dX0_takeRound_0 : decode cX0_takeRound 0 = .ok (.aload_n 0, 1) := by decide +kernel
theorem dX0_takeRound_1 : decode cX0_takeRound 1 = .ok (.iconst 0, 1) := by decide +kernel
theorem dX0_takeRound_2 : decode cX0_takeRound 2 = .ok (.iconst 1, 1) := by decide +kernel
theorem dX0_takeRound_3 : decode cX0_takeRound 3 = .ok (.aload_n 0, 1) := by decide +kernel
theorem dX0_takeRound_4 : decode cX0_takeRound 4 = .ok (.getfield 9, 3) := by decide +kernel
theorem dX0_takeRound_7 : decode cX0_takeRound 7 = .ok (.iconst 2, 1) := by decide +kernel
theorem dX0_takeRound_8 : decode cX0_takeRound 8 = .ok (.iaload, 1) := by decide +kernel
theorem dX0_takeRound_9 : decode cX0_takeRound 9 = .ok (.aload_n 0, 1) := by decide +kernel
theorem dX0_takeRound_10 : decode cX0_takeRound 10 = .ok (.getfield 15, 3) := by decide +kernel
theorem dX0_takeRound_13 : decode cX0_takeRound 13 = .ok (.iconst 2, 1) := by decide +kernel
theorem dX0_takeRound_14 : decode cX0_takeRound 14 = .ok (.iaload, 1) := by decide +kernel
theorem dX0_takeRound_15 : decode cX0_takeRound 15 = .ok (.invokevirtual 35, 3) := by decide +kernel
theorem dX0_takeRound_18 : decode cX0_takeRound 18 = .ok (.lstore_n 1, 1) := by decide +kernel
theorem dX0_takeRound_19 : decode cX0_takeRound 19 = .ok (.aload_n 0, 1) := by decide +kernel
theorem dX0_takeRound_20 : decode cX0_takeRound 20 = .ok (.lload_n 1, 1) := by decide +kernel
theorem dX0_takeRound_21 : decode cX0_takeRound 21 = .ok (.lconst 0, 1) := by decide +kernel
theorem dX0_takeRound_22 : decode cX0_takeRound 22 = .ok (.lcmp, 1) := by decide +kernel
theorem dX0_takeRound_23 : decode cX0_takeRound 23 = .ok (.ifCond .ge 7, 3) := by decide +kernel
theorem dX0_takeRound_26 : decode cX0_takeRound 26 = .ok (.iconst 2, 1) := by decide +kernel
theorem dX0_takeRound_27 : decode cX0_takeRound 27 = .ok (.goto 4, 3) := by decide +kernel
theorem dX0_takeRound_30 : decode cX0_takeRound 30 = .ok (.iconst 1, 1) := by decide +kernel
theorem dX0_takeRound_31 : decode cX0_takeRound 31 = .ok (.putfield 21, 3) := by decide +kernel
theorem dX0_takeRound_34 : decode cX0_takeRound 34 = .ok (.aload_n 0, 1) := by decide +kernel
theorem dX0_takeRound_35 : decode cX0_takeRound 35 = .ok (.lload_n 1, 1) := by decide +kernel
theorem dX0_takeRound_36 : decode cX0_takeRound 36 = .ok (.lconst 0, 1) := by decide +kernel
theorem dX0_takeRound_37 : decode cX0_takeRound 37 = .ok (.lcmp, 1) := by decide +kernel
theorem dX0_takeRound_38 : decode cX0_takeRound 38 = .ok (.ifCond .ge 7, 3) := by decide +kernel
theorem dX0_takeRound_41 : decode cX0_takeRound 41 = .ok (.iconst 1, 1) := by decide +kernel
theorem dX0_takeRound_42 : decode cX0_takeRound 42 = .ok (.goto 4, 3) := by decide +kernel
theorem dX0_takeRound_45 : decode cX0_takeRound 45 = .ok (.iconst 2, 1) := by decide +kernel
theorem dX0_takeRound_46 : decode cX0_takeRound 46 = .ok (.putfield 25, 3) := by decide +kernel
theorem dX0_takeRound_49 : decode cX0_takeRound 49 = .ok (.aload_n 0, 1) := by decide +kernel
theorem dX0_takeRound_50 : decode cX0_takeRound 50 = .ok (.lload_n 1, 1) := by decide +kernel
theorem dX0_takeRound_51 : decode cX0_takeRound 51 = .ok (.invokestatic 39, 3) := by decide +kernel
theorem dX0_takeRound_54 : decode cX0_takeRound 54 = .ok (.putfield 28, 3) := by decide +kernel
theorem dX0_takeRound_57 : decode cX0_takeRound 57 = .ok (.return_, 1) := by decide +kernel
set_option maxRecDepth 20000 in
theorem ggX0_depthOver_X0_edge : GoodIn wsX0_depthOver wsX0_edge := goodIn_r _ [9, 10, 11, 20, 21, 22, 23, 24, 25] (by decide +kernel) (by decide +kernel)
set_option maxRecDepth 20000 in
theorem gX0_depthOver_X0_edge : GoodIn wsX0_depthOver (wsV RX0 35 RX0 yX0_edge wsX0_edge) := goodIn_app (goodIn_of _ (by decide +kernel)) ggX0_depthOver_X0_edge
set_option maxRecDepth 20000 in
theorem ggX0_depthOver_X0_isInside : GoodIn wsX0_depthOver wsX0_isInside := goodIn_r _ [15, 16, 17, 18, 8, 19, 11, 10, 20, 21, 22, 23, 24, 25] (by decide +kernel) (by decide +kernel)
set_option maxRecDepth 20000 in
theorem gX0_depthOver_X0_isInside : GoodIn wsX0_depthOver (wsV RX0 45 RX0 yX0_isInside wsX0_isInside) := goodIn_app (goodIn_of _ (by decide +kernel)) ggX0_depthOver_X0_isInside
theorem dX0_depthOver_0 : decode cX0_depthOver 0 = .ok (.aload_n 0, 1) := by decide +kernel
theorem dX0_depthOver_1 : decode cX0_depthOver 1 = .ok (.getfield 28, 3) := by decide +kernel
theorem dX0_depthOver_4 : decode cX0_depthOver 4 = .ok (.lconst 0, 1) := by decide +kernel
theorem dX0_depthOver_5 : decode cX0_depthOver 5 = .ok (.lcmp, 1) := by decide +kernel
theorem dX0_depthOver_6 : decode cX0_depthOver 6 = .ok (.ifCond .ne 5, 3) := by decide +kernel
theorem dX0_depthOver_9 : decode cX0_depthOver 9 = .ok (.iconst (-1), 1) := by decide +kernel
theorem dX0_depthOver_10 : decode cX0_depthOver 10 = .ok (.ireturn, 1) := by decide +kernel
theorem dX0_depthOver_11 : decode cX0_depthOver 11 = .ok (.bipush 16, 2) := by decide +kernel
theorem dX0_depthOver_13 : decode cX0_depthOver 13 = .ok (.iload_n 1, 1) := by decide +kernel
theorem dX0_depthOver_14 : decode cX0_depthOver 14 = .ok (.imul, 1) := by decide +kernel
theorem dX0_depthOver_15 : decode cX0_depthOver 15 = .ok (.bipush 8, 2) := by decide +kernel
theorem dX0_depthOver_17 : decode cX0_depthOver 17 = .ok (.iadd, 1) := by decide +kernel
theorem dX0_depthOver_18 : decode cX0_depthOver 18 = .ok (.istore_n 3, 1) := by decide +kernel
theorem dX0_depthOver_19 : decode cX0_depthOver 19 = .ok (.bipush 16, 2) := by decide +kernel
theorem dX0_depthOver_21 : decode cX0_depthOver 21 = .ok (.iload_n 2, 1) := by decide +kernel
theorem dX0_depthOver_22 : decode cX0_depthOver 22 = .ok (.imul, 1) := by decide +kernel
theorem dX0_depthOver_23 : decode cX0_depthOver 23 = .ok (.bipush 8, 2) := by decide +kernel
theorem dX0_depthOver_25 : decode cX0_depthOver 25 = .ok (.iadd, 1) := by decide +kernel
theorem dX0_depthOver_26 : decode cX0_depthOver 26 = .ok (.istore 4, 2) := by decide +kernel
theorem dX0_depthOver_28 : decode cX0_depthOver 28 = .ok (.aload_n 0, 1) := by decide +kernel
theorem dX0_depthOver_29 : decode cX0_depthOver 29 = .ok (.aload_n 0, 1) := by decide +kernel
theorem dX0_depthOver_30 : decode cX0_depthOver 30 = .ok (.getfield 21, 3) := by decide +kernel
theorem dX0_depthOver_33 : decode cX0_depthOver 33 = .ok (.aload_n 0, 1) := by decide +kernel
theorem dX0_depthOver_34 : decode cX0_depthOver 34 = .ok (.getfield 25, 3) := by decide +kernel
theorem dX0_depthOver_37 : decode cX0_depthOver 37 = .ok (.iload_n 3, 1) := by decide +kernel
theorem dX0_depthOver_38 : decode cX0_depthOver 38 = .ok (.iload 4, 2) := by decide +kernel
theorem dX0_depthOver_40 : decode cX0_depthOver 40 = .ok (.invokevirtual 35, 3) := by decide +kernel
theorem dX0_depthOver_43 : decode cX0_depthOver 43 = .ok (.lstore 5, 2) := by decide +kernel
theorem dX0_depthOver_45 : decode cX0_depthOver 45 = .ok (.aload_n 0, 1) := by decide +kernel
theorem dX0_depthOver_46 : decode cX0_depthOver 46 = .ok (.aload_n 0, 1) := by decide +kernel
theorem dX0_depthOver_47 : decode cX0_depthOver 47 = .ok (.getfield 25, 3) := by decide +kernel
theorem dX0_depthOver_50 : decode cX0_depthOver 50 = .ok (.iconst 0, 1) := by decide +kernel
theorem dX0_depthOver_51 : decode cX0_depthOver 51 = .ok (.iload_n 3, 1) := by decide +kernel
theorem dX0_depthOver_52 : decode cX0_depthOver 52 = .ok (.iload 4, 2) := by decide +kernel
theorem dX0_depthOver_54 : decode cX0_depthOver 54 = .ok (.invokevirtual 35, 3) := by decide +kernel
theorem dX0_depthOver_57 : decode cX0_depthOver 57 = .ok (.lstore 7, 2) := by decide +kernel
theorem dX0_depthOver_59 : decode cX0_depthOver 59 = .ok (.aload_n 0, 1) := by decide +kernel
theorem dX0_depthOver_60 : decode cX0_depthOver 60 = .ok (.iconst 0, 1) := by decide +kernel
theorem dX0_depthOver_61 : decode cX0_depthOver 61 = .ok (.aload_n 0, 1) := by decide +kernel
theorem dX0_depthOver_62 : decode cX0_depthOver 62 = .ok (.getfield 21, 3) := by decide +kernel
theorem dX0_depthOver_65 : decode cX0_depthOver 65 = .ok (.iload_n 3, 1) := by decide +kernel
theorem dX0_depthOver_66 : decode cX0_depthOver 66 = .ok (.iload 4, 2) := by decide +kernel
theorem dX0_depthOver_68 : decode cX0_depthOver 68 = .ok (.invokevirtual 35, 3) := by decide +kernel
theorem dX0_depthOver_71 : decode cX0_depthOver 71 = .ok (.lstore 9, 2) := by decide +kernel
theorem dX0_depthOver_73 : decode cX0_depthOver 73 = .ok (.aload_n 0, 1) := by decide +kernel
theorem dX0_depthOver_74 : decode cX0_depthOver 74 = .ok (.lload 5, 2) := by decide +kernel
theorem dX0_depthOver_76 : decode cX0_depthOver 76 = .ok (.aload_n 0, 1) := by decide +kernel
theorem dX0_depthOver_77 : decode cX0_depthOver 77 = .ok (.getfield 21, 3) := by decide +kernel
theorem dX0_depthOver_80 : decode cX0_depthOver 80 = .ok (.aload_n 0, 1) := by decide +kernel
theorem dX0_depthOver_81 : decode cX0_depthOver 81 = .ok (.getfield 25, 3) := by decide +kernel
theorem dX0_depthOver_84 : decode cX0_depthOver 84 = .ok (.invokevirtual 45, 3) := by decide +kernel
theorem dX0_depthOver_87 : decode cX0_depthOver 87 = .ok (.ifCond .eq 31, 3) := by decide +kernel
theorem dX0_depthOver_90 : decode cX0_depthOver 90 = .ok (.aload_n 0, 1) := by decide +kernel
theorem dX0_depthOver_91 : decode cX0_depthOver 91 = .ok (.lload 7, 2) := by decide +kernel
theorem dX0_depthOver_93 : decode cX0_depthOver 93 = .ok (.aload_n 0, 1) := by decide +kernel
theorem dX0_depthOver_94 : decode cX0_depthOver 94 = .ok (.getfield 25, 3) := by decide +kernel
theorem dX0_depthOver_97 : decode cX0_depthOver 97 = .ok (.iconst 0, 1) := by decide +kernel
theorem dX0_depthOver_98 : decode cX0_depthOver 98 = .ok (.invokevirtual 45, 3) := by decide +kernel
theorem dX0_depthOver_101 : decode cX0_depthOver 101 = .ok (.ifCond .eq 17, 3) := by decide +kernel
theorem dX0_depthOver_104 : decode cX0_depthOver 104 = .ok (.aload_n 0, 1) := by decide +kernel
theorem dX0_depthOver_105 : decode cX0_depthOver 105 = .ok (.lload 9, 2) := by decide +kernel
theorem dX0_depthOver_107 : decode cX0_depthOver 107 = .ok (.iconst 0, 1) := by decide +kernel
theorem dX0_depthOver_108 : decode cX0_depthOver 108 = .ok (.aload_n 0, 1) := by decide +kernel
theorem dX0_depthOver_109 : decode cX0_depthOver 109 = .ok (.getfield 21, 3) := by decide +kernel
theorem dX0_depthOver_112 : decode cX0_depthOver 112 = .ok (.invokevirtual 45, 3) := by decide +kernel
theorem dX0_depthOver_115 : decode cX0_depthOver 115 = .ok (.ifCond .ne 5, 3) := by decide +kernel
theorem dX0_depthOver_118 : decode cX0_depthOver 118 = .ok (.iconst (-1), 1) := by decide +kernel
theorem dX0_depthOver_119 : decode cX0_depthOver 119 = .ok (.ireturn, 1) := by decide +kernel
theorem dX0_depthOver_120 : decode cX0_depthOver 120 = .ok (.lload 5, 2) := by decide +kernel
theorem dX0_depthOver_122 : decode cX0_depthOver 122 = .ok (.aload_n 0, 1) := by decide +kernel
theorem dX0_depthOver_123 : decode cX0_depthOver 123 = .ok (.getfield 18, 3) := by decide +kernel
theorem dX0_depthOver_126 : decode cX0_depthOver 126 = .ok (.iconst 0, 1) := by decide +kernel
theorem dX0_depthOver_127 : decode cX0_depthOver 127 = .ok (.iaload, 1) := by decide +kernel
theorem dX0_depthOver_128 : decode cX0_depthOver 128 = .ok (.i2l, 1) := by decide +kernel
theorem dX0_depthOver_129 : decode cX0_depthOver 129 = .ok (.lmul, 1) := by decide +kernel
theorem dX0_depthOver_130 : decode cX0_depthOver 130 = .ok (.lload 7, 2) := by decide +kernel
theorem dX0_depthOver_132 : decode cX0_depthOver 132 = .ok (.aload_n 0, 1) := by decide +kernel
theorem dX0_depthOver_133 : decode cX0_depthOver 133 = .ok (.getfield 18, 3) := by decide +kernel
theorem dX0_depthOver_136 : decode cX0_depthOver 136 = .ok (.aload_n 0, 1) := by decide +kernel
theorem dX0_depthOver_137 : decode cX0_depthOver 137 = .ok (.getfield 21, 3) := by decide +kernel
theorem dX0_depthOver_140 : decode cX0_depthOver 140 = .ok (.iaload, 1) := by decide +kernel
theorem dX0_depthOver_141 : decode cX0_depthOver 141 = .ok (.i2l, 1) := by decide +kernel
theorem dX0_depthOver_142 : decode cX0_depthOver 142 = .ok (.lmul, 1) := by decide +kernel
theorem dX0_depthOver_143 : decode cX0_depthOver 143 = .ok (.ladd, 1) := by decide +kernel
theorem dX0_depthOver_144 : decode cX0_depthOver 144 = .ok (.lload 9, 2) := by decide +kernel
theorem dX0_depthOver_146 : decode cX0_depthOver 146 = .ok (.aload_n 0, 1) := by decide +kernel
theorem dX0_depthOver_147 : decode cX0_depthOver 147 = .ok (.getfield 18, 3) := by decide +kernel
theorem dX0_depthOver_150 : decode cX0_depthOver 150 = .ok (.aload_n 0, 1) := by decide +kernel
theorem dX0_depthOver_151 : decode cX0_depthOver 151 = .ok (.getfield 25, 3) := by decide +kernel
theorem dX0_depthOver_154 : decode cX0_depthOver 154 = .ok (.iaload, 1) := by decide +kernel
theorem dX0_depthOver_155 : decode cX0_depthOver 155 = .ok (.i2l, 1) := by decide +kernel
theorem dX0_depthOver_156 : decode cX0_depthOver 156 = .ok (.lmul, 1) := by decide +kernel
theorem dX0_depthOver_157 : decode cX0_depthOver 157 = .ok (.ladd, 1) := by decide +kernel
theorem dX0_depthOver_158 : decode cX0_depthOver 158 = .ok (.aload_n 0, 1) := by decide +kernel
theorem dX0_depthOver_159 : decode cX0_depthOver 159 = .ok (.getfield 28, 3) := by decide +kernel
theorem dX0_depthOver_162 : decode cX0_depthOver 162 = .ok (.ldiv, 1) := by decide +kernel
theorem dX0_depthOver_163 : decode cX0_depthOver 163 = .ok (.l2i, 1) := by decide +kernel
theorem dX0_depthOver_164 : decode cX0_depthOver 164 = .ok (.ireturn, 1) := by decide +kernel
theorem dX0_edge_0 : decode cX0_edge 0 = .ok (.aload_n 0, 1) := by decide +kernel
theorem dX0_edge_1 : decode cX0_edge 1 = .ok (.getfield 9, 3) := by decide +kernel
theorem dX0_edge_4 : decode cX0_edge 4 = .ok (.iload_n 2, 1) := by decide +kernel
theorem dX0_edge_5 : decode cX0_edge 5 = .ok (.iaload, 1) := by decide +kernel
theorem dX0_edge_6 : decode cX0_edge 6 = .ok (.aload_n 0, 1) := by decide +kernel
theorem dX0_edge_7 : decode cX0_edge 7 = .ok (.getfield 9, 3) := by decide +kernel
theorem dX0_edge_10 : decode cX0_edge 10 = .ok (.iload_n 1, 1) := by decide +kernel
theorem dX0_edge_11 : decode cX0_edge 11 = .ok (.iaload, 1) := by decide +kernel
theorem dX0_edge_12 : decode cX0_edge 12 = .ok (.isub, 1) := by decide +kernel
theorem dX0_edge_13 : decode cX0_edge 13 = .ok (.i2l, 1) := by decide +kernel
theorem dX0_edge_14 : decode cX0_edge 14 = .ok (.lstore 5, 2) := by decide +kernel
theorem dX0_edge_16 : decode cX0_edge 16 = .ok (.aload_n 0, 1) := by decide +kernel
theorem dX0_edge_17 : decode cX0_edge 17 = .ok (.getfield 15, 3) := by decide +kernel
theorem dX0_edge_20 : decode cX0_edge 20 = .ok (.iload_n 2, 1) := by decide +kernel
theorem dX0_edge_21 : decode cX0_edge 21 = .ok (.iaload, 1) := by decide +kernel
theorem dX0_edge_22 : decode cX0_edge 22 = .ok (.aload_n 0, 1) := by decide +kernel
theorem dX0_edge_23 : decode cX0_edge 23 = .ok (.getfield 15, 3) := by decide +kernel
theorem dX0_edge_26 : decode cX0_edge 26 = .ok (.iload_n 1, 1) := by decide +kernel
theorem dX0_edge_27 : decode cX0_edge 27 = .ok (.iaload, 1) := by decide +kernel
theorem dX0_edge_28 : decode cX0_edge 28 = .ok (.isub, 1) := by decide +kernel
theorem dX0_edge_29 : decode cX0_edge 29 = .ok (.i2l, 1) := by decide +kernel
theorem dX0_edge_30 : decode cX0_edge 30 = .ok (.lstore 7, 2) := by decide +kernel
theorem dX0_edge_32 : decode cX0_edge 32 = .ok (.lload 5, 2) := by decide +kernel
theorem dX0_edge_34 : decode cX0_edge 34 = .ok (.iload 4, 2) := by decide +kernel
theorem dX0_edge_36 : decode cX0_edge 36 = .ok (.aload_n 0, 1) := by decide +kernel
theorem dX0_edge_37 : decode cX0_edge 37 = .ok (.getfield 15, 3) := by decide +kernel
theorem dX0_edge_40 : decode cX0_edge 40 = .ok (.iload_n 1, 1) := by decide +kernel
theorem dX0_edge_41 : decode cX0_edge 41 = .ok (.iaload, 1) := by decide +kernel
theorem dX0_edge_42 : decode cX0_edge 42 = .ok (.isub, 1) := by decide +kernel
theorem dX0_edge_43 : decode cX0_edge 43 = .ok (.i2l, 1) := by decide +kernel
theorem dX0_edge_44 : decode cX0_edge 44 = .ok (.lmul, 1) := by decide +kernel
theorem dX0_edge_45 : decode cX0_edge 45 = .ok (.lload 7, 2) := by decide +kernel
theorem dX0_edge_47 : decode cX0_edge 47 = .ok (.iload_n 3, 1) := by decide +kernel
theorem dX0_edge_48 : decode cX0_edge 48 = .ok (.aload_n 0, 1) := by decide +kernel
theorem dX0_edge_49 : decode cX0_edge 49 = .ok (.getfield 9, 3) := by decide +kernel
theorem dX0_edge_52 : decode cX0_edge 52 = .ok (.iload_n 1, 1) := by decide +kernel
theorem dX0_edge_53 : decode cX0_edge 53 = .ok (.iaload, 1) := by decide +kernel
theorem dX0_edge_54 : decode cX0_edge 54 = .ok (.isub, 1) := by decide +kernel
theorem dX0_edge_55 : decode cX0_edge 55 = .ok (.i2l, 1) := by decide +kernel
theorem dX0_edge_56 : decode cX0_edge 56 = .ok (.lmul, 1) := by decide +kernel
theorem dX0_edge_57 : decode cX0_edge 57 = .ok (.lsub, 1) := by decide +kernel
theorem dX0_edge_58 : decode cX0_edge 58 = .ok (.lreturn, 1) := by decide +kernel
set_option maxRecDepth 20000 in
theorem ggX0_isInside_X0_isTopOrLeft : GoodIn wsX0_isInside wsX0_isTopOrLeft := goodIn_r _ [5, 6, 7, 8, 9, 10, 11, 12, 13] (by decide +kernel) (by decide +kernel)
set_option maxRecDepth 20000 in
theorem gX0_isInside_X0_isTopOrLeft : GoodIn wsX0_isInside (wsV RX0 49 RX0 yX0_isTopOrLeft wsX0_isTopOrLeft) := goodIn_app (goodIn_of _ (by decide +kernel)) ggX0_isInside_X0_isTopOrLeft
theorem dX0_isInside_0 : decode cX0_isInside 0 = .ok (.lload_n 1, 1) := by decide +kernel
theorem dX0_isInside_1 : decode cX0_isInside 1 = .ok (.lconst 0, 1) := by decide +kernel
theorem dX0_isInside_2 : decode cX0_isInside 2 = .ok (.lcmp, 1) := by decide +kernel
theorem dX0_isInside_3 : decode cX0_isInside 3 = .ok (.ifCond .gt 19, 3) := by decide +kernel
theorem dX0_isInside_6 : decode cX0_isInside 6 = .ok (.lload_n 1, 1) := by decide +kernel
theorem dX0_isInside_7 : decode cX0_isInside 7 = .ok (.lconst 0, 1) := by decide +kernel
theorem dX0_isInside_8 : decode cX0_isInside 8 = .ok (.lcmp, 1) := by decide +kernel
theorem dX0_isInside_9 : decode cX0_isInside 9 = .ok (.ifCond .ne 17, 3) := by decide +kernel
theorem dX0_isInside_12 : decode cX0_isInside 12 = .ok (.aload_n 0, 1) := by decide +kernel
theorem dX0_isInside_13 : decode cX0_isInside 13 = .ok (.iload_n 3, 1) := by decide +kernel
theorem dX0_isInside_14 : decode cX0_isInside 14 = .ok (.iload 4, 2) := by decide +kernel
theorem dX0_isInside_16 : decode cX0_isInside 16 = .ok (.invokevirtual 49, 3) := by decide +kernel
theorem dX0_isInside_19 : decode cX0_isInside 19 = .ok (.ifCond .eq 7, 3) := by decide +kernel
theorem dX0_isInside_22 : decode cX0_isInside 22 = .ok (.iconst 1, 1) := by decide +kernel
theorem dX0_isInside_23 : decode cX0_isInside 23 = .ok (.goto 4, 3) := by decide +kernel
theorem dX0_isInside_26 : decode cX0_isInside 26 = .ok (.iconst 0, 1) := by decide +kernel
theorem dX0_isInside_27 : decode cX0_isInside 27 = .ok (.ireturn, 1) := by decide +kernel
theorem dX0_isTopOrLeft_0 : decode cX0_isTopOrLeft 0 = .ok (.aload_n 0, 1) := by decide +kernel
theorem dX0_isTopOrLeft_1 : decode cX0_isTopOrLeft 1 = .ok (.getfield 15, 3) := by decide +kernel
theorem dX0_isTopOrLeft_4 : decode cX0_isTopOrLeft 4 = .ok (.iload_n 1, 1) := by decide +kernel
theorem dX0_isTopOrLeft_5 : decode cX0_isTopOrLeft 5 = .ok (.iaload, 1) := by decide +kernel
theorem dX0_isTopOrLeft_6 : decode cX0_isTopOrLeft 6 = .ok (.aload_n 0, 1) := by decide +kernel
theorem dX0_isTopOrLeft_7 : decode cX0_isTopOrLeft 7 = .ok (.getfield 15, 3) := by decide +kernel
theorem dX0_isTopOrLeft_10 : decode cX0_isTopOrLeft 10 = .ok (.iload_n 2, 1) := by decide +kernel
theorem dX0_isTopOrLeft_11 : decode cX0_isTopOrLeft 11 = .ok (.iaload, 1) := by decide +kernel
theorem dX0_isTopOrLeft_12 : decode cX0_isTopOrLeft 12 = .ok (.if_icmp .ne 22, 3) := by decide +kernel
theorem dX0_isTopOrLeft_15 : decode cX0_isTopOrLeft 15 = .ok (.aload_n 0, 1) := by decide +kernel
theorem dX0_isTopOrLeft_16 : decode cX0_isTopOrLeft 16 = .ok (.getfield 9, 3) := by decide +kernel
theorem dX0_isTopOrLeft_19 : decode cX0_isTopOrLeft 19 = .ok (.iload_n 2, 1) := by decide +kernel
theorem dX0_isTopOrLeft_20 : decode cX0_isTopOrLeft 20 = .ok (.iaload, 1) := by decide +kernel
theorem dX0_isTopOrLeft_21 : decode cX0_isTopOrLeft 21 = .ok (.aload_n 0, 1) := by decide +kernel
theorem dX0_isTopOrLeft_22 : decode cX0_isTopOrLeft 22 = .ok (.getfield 9, 3) := by decide +kernel
theorem dX0_isTopOrLeft_25 : decode cX0_isTopOrLeft 25 = .ok (.iload_n 1, 1) := by decide +kernel
theorem dX0_isTopOrLeft_26 : decode cX0_isTopOrLeft 26 = .ok (.iaload, 1) := by decide +kernel
theorem dX0_isTopOrLeft_27 : decode cX0_isTopOrLeft 27 = .ok (.if_icmp .le 7, 3) := by decide +kernel
theorem dX0_isTopOrLeft_30 : decode cX0_isTopOrLeft 30 = .ok (.iconst 1, 1) := by decide +kernel
theorem dX0_isTopOrLeft_31 : decode cX0_isTopOrLeft 31 = .ok (.goto 4, 3) := by decide +kernel
theorem dX0_isTopOrLeft_34 : decode cX0_isTopOrLeft 34 = .ok (.iconst 0, 1) := by decide +kernel
theorem dX0_isTopOrLeft_35 : decode cX0_isTopOrLeft 35 = .ok (.istore_n 3, 1) := by decide +kernel
theorem dX0_isTopOrLeft_36 : decode cX0_isTopOrLeft 36 = .ok (.aload_n 0, 1) := by decide +kernel
theorem dX0_isTopOrLeft_37 : decode cX0_isTopOrLeft 37 = .ok (.getfield 15, 3) := by decide +kernel
theorem dX0_isTopOrLeft_40 : decode cX0_isTopOrLeft 40 = .ok (.iload_n 2, 1) := by decide +kernel
theorem dX0_isTopOrLeft_41 : decode cX0_isTopOrLeft 41 = .ok (.iaload, 1) := by decide +kernel
theorem dX0_isTopOrLeft_42 : decode cX0_isTopOrLeft 42 = .ok (.aload_n 0, 1) := by decide +kernel
theorem dX0_isTopOrLeft_43 : decode cX0_isTopOrLeft 43 = .ok (.getfield 15, 3) := by decide +kernel
theorem dX0_isTopOrLeft_46 : decode cX0_isTopOrLeft 46 = .ok (.iload_n 1, 1) := by decide +kernel
theorem dX0_isTopOrLeft_47 : decode cX0_isTopOrLeft 47 = .ok (.iaload, 1) := by decide +kernel
theorem dX0_isTopOrLeft_48 : decode cX0_isTopOrLeft 48 = .ok (.if_icmp .ge 7, 3) := by decide +kernel
theorem dX0_isTopOrLeft_51 : decode cX0_isTopOrLeft 51 = .ok (.iconst 1, 1) := by decide +kernel
theorem dX0_isTopOrLeft_52 : decode cX0_isTopOrLeft 52 = .ok (.goto 4, 3) := by decide +kernel
theorem dX0_isTopOrLeft_55 : decode cX0_isTopOrLeft 55 = .ok (.iconst 0, 1) := by decide +kernel
theorem dX0_isTopOrLeft_56 : decode cX0_isTopOrLeft 56 = .ok (.istore 4, 2) := by decide +kernel
theorem dX0_isTopOrLeft_58 : decode cX0_isTopOrLeft 58 = .ok (.iload_n 3, 1) := by decide +kernel
theorem dX0_isTopOrLeft_59 : decode cX0_isTopOrLeft 59 = .ok (.ifCond .ne 8, 3) := by decide +kernel
theorem dX0_isTopOrLeft_62 : decode cX0_isTopOrLeft 62 = .ok (.iload 4, 2) := by decide +kernel
theorem dX0_isTopOrLeft_64 : decode cX0_isTopOrLeft 64 = .ok (.ifCond .eq 7, 3) := by decide +kernel
theorem dX0_isTopOrLeft_67 : decode cX0_isTopOrLeft 67 = .ok (.iconst 1, 1) := by decide +kernel
theorem dX0_isTopOrLeft_68 : decode cX0_isTopOrLeft 68 = .ok (.goto 4, 3) := by decide +kernel
theorem dX0_isTopOrLeft_71 : decode cX0_isTopOrLeft 71 = .ok (.iconst 0, 1) := by decide +kernel
theorem dX0_isTopOrLeft_72 : decode cX0_isTopOrLeft 72 = .ok (.ireturn, 1) := by decide +kernel
end
section
set_option maxRecDepth 20000 in
theorem ggX1_init_X1_sideOf : GoodIn wsX1_init wsX1_sideOf := goodIn_r _ [20, 21, 22, 19, 23] (by decide +kernel) (by decide +kernel)
set_option maxRecDepth 20000 in
theorem gX1_init_X1_sideOf : GoodIn wsX1_init (va_wsS RX1 7 yX1_sideOf wsX1_sideOf) := goodIn_app (goodIn_of _ (by decide +kernel)) ggX1_init_X1_sideOf
set_option maxRecDepth 20000 in
theorem ggX1_init_X0_init : GoodIn wsX1_init wsX0_init := goodIn_r _ [25, 26, 2, 3, 6, 27, 28, 29, 30, 31, 32, 41, 42, 43, 44, 45, 46] (by decide +kernel) (by decide +kernel)
set_option maxRecDepth 20000 in
theorem gX1_init_X0_init_n29 : GoodIn wsX1_init (wsX0_init) := ggX1_init_X0_init
theorem dX1_init_0 : decode cX1_init 0 = .ok (.aload_n 0, 1) := by decide +kernel
theorem dX1_init_1 : decode cX1_init 1 = .ok (.invokespecial 1, 3) := by decide +kernel
theorem dX1_init_4 : decode cX1_init 4 = .ok (.aload_n 0, 1) := by decide +kernel
theorem dX1_init_5 : decode cX1_init 5 = .ok (.iload_n 1, 1) := by decide +kernel
theorem dX1_init_6 : decode cX1_init 6 = .ok (.invokestatic 7, 3) := by decide +kernel
theorem dX1_init_9 : decode cX1_init 9 = .ok (.putfield 13, 3) := by decide +kernel
theorem dX1_init_12 : decode cX1_init 12 = .ok (.aload_n 0, 1) := by decide +kernel
theorem dX1_init_13 : decode cX1_init 13 = .ok (.iload_n 2, 1) := by decide +kernel
theorem dX1_init_14 : decode cX1_init 14 = .ok (.invokestatic 7, 3) := by decide +kernel
theorem dX1_init_17 : decode cX1_init 17 = .ok (.putfield 17, 3) := by decide +kernel
theorem dX1_init_20 : decode cX1_init 20 = .ok (.aload_n 0, 1) := by decide +kernel
theorem dX1_init_21 : decode cX1_init 21 = .ok (.getfield 13, 3) := by decide +kernel
theorem dX1_init_24 : decode cX1_init 24 = .ok (.aload_n 0, 1) := by decide +kernel
theorem dX1_init_25 : decode cX1_init 25 = .ok (.getfield 17, 3) := by decide +kernel
theorem dX1_init_28 : decode cX1_init 28 = .ok (.imul, 1) := by decide +kernel
theorem dX1_init_29 : decode cX1_init 29 = .ok (.istore_n 3, 1) := by decide +kernel
theorem dX1_init_30 : decode cX1_init 30 = .ok (.aload_n 0, 1) := by decide +kernel
theorem dX1_init_31 : decode cX1_init 31 = .ok (.iload_n 3, 1) := by decide +kernel
theorem dX1_init_32 : decode cX1_init 32 = .ok (.newarray .int, 2) := by decide +kernel
theorem dX1_init_34 : decode cX1_init 34 = .ok (.putfield 20, 3) := by decide +kernel
theorem dX1_init_37 : decode cX1_init 37 = .ok (.aload_n 0, 1) := by decide +kernel
theorem dX1_init_38 : decode cX1_init 38 = .ok (.iload_n 3, 1) := by decide +kernel
theorem dX1_init_39 : decode cX1_init 39 = .ok (.newarray .int, 2) := by decide +kernel
theorem dX1_init_41 : decode cX1_init 41 = .ok (.putfield 24, 3) := by decide +kernel
theorem dX1_init_44 : decode cX1_init 44 = .ok (.aload_n 0, 1) := by decide +kernel
theorem dX1_init_45 : decode cX1_init 45 = .ok (.new 27, 3) := by decide +kernel
theorem dX1_init_48 : decode cX1_init 48 = .ok (.dup, 1) := by decide +kernel
theorem dX1_init_49 : decode cX1_init 49 = .ok (.invokespecial 29, 3) := by decide +kernel
theorem dX1_init_52 : decode cX1_init 52 = .ok (.putfield 30, 3) := by decide +kernel
theorem dX1_init_55 : decode cX1_init 55 = .ok (.aload_n 0, 1) := by decide +kernel
theorem dX1_init_56 : decode cX1_init 56 = .ok (.iload_n 3, 1) := by decide +kernel
theorem dX1_init_57 : decode cX1_init 57 = .ok (.newarray .boolean, 2) := by decide +kernel
theorem dX1_init_59 : decode cX1_init 59 = .ok (.putfield 34, 3) := by decide +kernel
theorem dX1_init_62 : decode cX1_init 62 = .ok (.aload_n 0, 1) := by decide +kernel
theorem dX1_init_63 : decode cX1_init 63 = .ok (.iload_n 3, 1) := by decide +kernel
theorem dX1_init_64 : decode cX1_init 64 = .ok (.newarray .int, 2) := by decide +kernel
theorem dX1_init_66 : decode cX1_init 66 = .ok (.putfield 38, 3) := by decide +kernel
theorem dX1_init_69 : decode cX1_init 69 = .ok (.aload_n 0, 1) := by decide +kernel
theorem dX1_init_70 : decode cX1_init 70 = .ok (.iconst 0, 1) := by decide +kernel
theorem dX1_init_71 : decode cX1_init 71 = .ok (.putfield 41, 3) := by decide +kernel
theorem dX1_init_74 : decode cX1_init 74 = .ok (.return_, 1) := by decide +kernel
set_option maxRecDepth 20000 in
theorem ggX1_clear_X1_isWithin : GoodIn wsX1_clear wsX1_isWithin := goodIn_r _ [7] (by decide +kernel) (by decide +kernel)
set_option maxRecDepth 20000 in
theorem gX1_clear_X1_isWithin : GoodIn wsX1_clear (va_wsS RX1 45 yX1_isWithin wsX1_isWithin) := goodIn_app (goodIn_of _ (by decide +kernel)) ggX1_clear_X1_isWithin
set_option maxRecDepth 20000 in
theorem ggX1_clear_J7_fill_53178 : GoodIn wsX1_clear wsJ7_fill_53178 := goodIn_r _ [11] (by decide +kernel) (by decide +kernel)
set_option maxRecDepth 20000 in
theorem gX1_clear_J7_fill_53178 : GoodIn wsX1_clear (va_wsS RX1 49 yJ7_fill_53178 wsJ7_fill_53178) := goodIn_app (goodIn_of _ (by decide +kernel)) ggX1_clear_J7_fill_53178
theorem dX1_clear_0 : decode cX1_clear 0 = .ok (.iload_n 2, 1) := by decide +kernel
theorem dX1_clear_1 : decode cX1_clear 1 = .ok (.iconst 0, 1) := by decide +kernel
theorem dX1_clear_2 : decode cX1_clear 2 = .ok (.ldc 44, 2) := by decide +kernel
theorem dX1_clear_4 : decode cX1_clear 4 = .ok (.invokestatic 45, 3) := by decide +kernel
theorem dX1_clear_7 : decode cX1_clear 7 = .ok (.ifCond .ne 5, 3) := by decide +kernel
theorem dX1_clear_10 : decode cX1_clear 10 = .ok (.iconst 0, 1) := by decide +kernel
theorem dX1_clear_11 : decode cX1_clear 11 = .ok (.ireturn, 1) := by decide +kernel
theorem dX1_clear_12 : decode cX1_clear 12 = .ok (.aload_n 0, 1) := by decide +kernel
theorem dX1_clear_13 : decode cX1_clear 13 = .ok (.getfield 20, 3) := by decide +kernel
theorem dX1_clear_16 : decode cX1_clear 16 = .ok (.iload_n 1, 1) := by decide +kernel
theorem dX1_clear_17 : decode cX1_clear 17 = .ok (.invokestatic 49, 3) := by decide +kernel
theorem dX1_clear_20 : decode cX1_clear 20 = .ok (.aload_n 0, 1) := by decide +kernel
theorem dX1_clear_21 : decode cX1_clear 21 = .ok (.getfield 24, 3) := by decide +kernel
theorem dX1_clear_24 : decode cX1_clear 24 = .ok (.iload_n 2, 1) := by decide +kernel
theorem dX1_clear_25 : decode cX1_clear 25 = .ok (.invokestatic 49, 3) := by decide +kernel
theorem dX1_clear_28 : decode cX1_clear 28 = .ok (.iconst 1, 1) := by decide +kernel
theorem dX1_clear_29 : decode cX1_clear 29 = .ok (.ireturn, 1) := by decide +kernel
set_option maxRecDepth 20000 in
theorem ggX1_vertex_X1_isWithin : GoodIn wsX1_vertex wsX1_isWithin := goodIn_r _ [6] (by decide +kernel) (by decide +kernel)
set_option maxRecDepth 20000 in
theorem gX1_vertex_X1_isWithin : GoodIn wsX1_vertex (va_wsS RX1 45 yX1_isWithin wsX1_isWithin) := goodIn_app (goodIn_of _ (by decide +kernel)) ggX1_vertex_X1_isWithin
set_option maxRecDepth 20000 in
theorem ggX1_vertex_X1_isCoordinate : GoodIn wsX1_vertex wsX1_isCoordinate := goodIn_r _ [9, 3, 4, 5, 6] (by decide +kernel) (by decide +kernel)
set_option maxRecDepth 20000 in
theorem gX1_vertex_X1_isCoordinate : GoodIn wsX1_vertex (va_wsS RX1 55 yX1_isCoordinate wsX1_isCoordinate) := goodIn_app (goodIn_of _ (by decide +kernel)) ggX1_vertex_X1_isCoordinate
set_option maxRecDepth 20000 in
theorem ggX1_vertex_X0_place : GoodIn wsX1_vertex wsX0_place := goodIn_r _ [13, 14, 15, 16, 17, 18, 19, 11, 20, 21, 22, 23, 24, 25, 26, 27, 28, 29, 30, 31, 40, 41, 42, 43, 44, 45] (by decide +kernel) (by decide +kernel)
set_option maxRecDepth 20000 in
theorem gX1_vertex_X0_place_n60 : GoodIn wsX1_vertex (wsX0_place) := ggX1_vertex_X0_place
theorem dX1_vertex_0 : decode cX1_vertex 0 = .ok (.iload_n 1, 1) := by decide +kernel
theorem dX1_vertex_1 : decode cX1_vertex 1 = .ok (.iconst 0, 1) := by decide +kernel
theorem dX1_vertex_2 : decode cX1_vertex 2 = .ok (.iconst 2, 1) := by decide +kernel
theorem dX1_vertex_3 : decode cX1_vertex 3 = .ok (.invokestatic 45, 3) := by decide +kernel
theorem dX1_vertex_6 : decode cX1_vertex 6 = .ok (.ifCond .eq 28, 3) := by decide +kernel
theorem dX1_vertex_9 : decode cX1_vertex 9 = .ok (.iload_n 2, 1) := by decide +kernel
theorem dX1_vertex_10 : decode cX1_vertex 10 = .ok (.invokestatic 55, 3) := by decide +kernel
theorem dX1_vertex_13 : decode cX1_vertex 13 = .ok (.ifCond .eq 21, 3) := by decide +kernel
theorem dX1_vertex_16 : decode cX1_vertex 16 = .ok (.iload_n 3, 1) := by decide +kernel
theorem dX1_vertex_17 : decode cX1_vertex 17 = .ok (.invokestatic 55, 3) := by decide +kernel
theorem dX1_vertex_20 : decode cX1_vertex 20 = .ok (.ifCond .eq 14, 3) := by decide +kernel
theorem dX1_vertex_23 : decode cX1_vertex 23 = .ok (.iload 4, 2) := by decide +kernel
theorem dX1_vertex_25 : decode cX1_vertex 25 = .ok (.iconst 0, 1) := by decide +kernel
theorem dX1_vertex_26 : decode cX1_vertex 26 = .ok (.ldc 59, 2) := by decide +kernel
theorem dX1_vertex_28 : decode cX1_vertex 28 = .ok (.invokestatic 45, 3) := by decide +kernel
theorem dX1_vertex_31 : decode cX1_vertex 31 = .ok (.ifCond .ne 5, 3) := by decide +kernel
theorem dX1_vertex_34 : decode cX1_vertex 34 = .ok (.iconst 0, 1) := by decide +kernel
theorem dX1_vertex_35 : decode cX1_vertex 35 = .ok (.ireturn, 1) := by decide +kernel
theorem dX1_vertex_36 : decode cX1_vertex 36 = .ok (.aload_n 0, 1) := by decide +kernel
theorem dX1_vertex_37 : decode cX1_vertex 37 = .ok (.getfield 30, 3) := by decide +kernel
theorem dX1_vertex_40 : decode cX1_vertex 40 = .ok (.iload_n 1, 1) := by decide +kernel
theorem dX1_vertex_41 : decode cX1_vertex 41 = .ok (.iload_n 2, 1) := by decide +kernel
theorem dX1_vertex_42 : decode cX1_vertex 42 = .ok (.iload_n 3, 1) := by decide +kernel
theorem dX1_vertex_43 : decode cX1_vertex 43 = .ok (.iload 4, 2) := by decide +kernel
theorem dX1_vertex_45 : decode cX1_vertex 45 = .ok (.invokevirtual 60, 3) := by decide +kernel
theorem dX1_vertex_48 : decode cX1_vertex 48 = .ok (.iconst 1, 1) := by decide +kernel
theorem dX1_vertex_49 : decode cX1_vertex 49 = .ok (.ireturn, 1) := by decide +kernel
set_option maxRecDepth 20000 in
theorem ggX1_triangle_X1_paintNearer : GoodIn wsX1_triangle wsX1_paintNearer := goodIn_r _ [7, 8, 9, 10, 11, 12, 13, 6, 14, 2, 1, 15, 16, 17, 18, 19, 20, 21, 22, 23, 24, 25, 26, 27, 28, 29, 30, 31, 32, 33, 34, 35, 36, 37, 38, 39, 40, 41, 42, 43, 44, 45, 46, 47, 48, 49, 50, 51, 52, 53] (by decide +kernel) (by decide +kernel)
set_option maxRecDepth 20000 in
theorem gX1_triangle_X1_paintNearer : GoodIn wsX1_triangle (wsV RX1 64 RX1 yX1_paintNearer wsX1_paintNearer) := goodIn_app (goodIn_of _ (by decide +kernel)) ggX1_triangle_X1_paintNearer
theorem dX1_triangle_0 : decode cX1_triangle 0 = .ok (.iconst 0, 1) := by decide +kernel
theorem dX1_triangle_1 : decode cX1_triangle 1 = .ok (.istore_n 2, 1) := by decide +kernel
theorem dX1_triangle_2 : decode cX1_triangle 2 = .ok (.iconst 0, 1) := by decide +kernel
theorem dX1_triangle_3 : decode cX1_triangle 3 = .ok (.istore_n 3, 1) := by decide +kernel
theorem dX1_triangle_4 : decode cX1_triangle 4 = .ok (.iload_n 3, 1) := by decide +kernel
theorem dX1_triangle_5 : decode cX1_triangle 5 = .ok (.aload_n 0, 1) := by decide +kernel
theorem dX1_triangle_6 : decode cX1_triangle 6 = .ok (.getfield 17, 3) := by decide +kernel
theorem dX1_triangle_9 : decode cX1_triangle 9 = .ok (.if_icmp .ge 38, 3) := by decide +kernel
theorem dX1_triangle_12 : decode cX1_triangle 12 = .ok (.iconst 0, 1) := by decide +kernel
theorem dX1_triangle_13 : decode cX1_triangle 13 = .ok (.istore 4, 2) := by decide +kernel
theorem dX1_triangle_15 : decode cX1_triangle 15 = .ok (.iload 4, 2) := by decide +kernel
theorem dX1_triangle_17 : decode cX1_triangle 17 = .ok (.aload_n 0, 1) := by decide +kernel
theorem dX1_triangle_18 : decode cX1_triangle 18 = .ok (.getfield 13, 3) := by decide +kernel
theorem dX1_triangle_21 : decode cX1_triangle 21 = .ok (.if_icmp .ge 20, 3) := by decide +kernel
theorem dX1_triangle_24 : decode cX1_triangle 24 = .ok (.iload_n 2, 1) := by decide +kernel
theorem dX1_triangle_25 : decode cX1_triangle 25 = .ok (.aload_n 0, 1) := by decide +kernel
theorem dX1_triangle_26 : decode cX1_triangle 26 = .ok (.iload 4, 2) := by decide +kernel
theorem dX1_triangle_28 : decode cX1_triangle 28 = .ok (.iload_n 3, 1) := by decide +kernel
theorem dX1_triangle_29 : decode cX1_triangle 29 = .ok (.iload_n 1, 1) := by decide +kernel
theorem dX1_triangle_30 : decode cX1_triangle 30 = .ok (.invokevirtual 64, 3) := by decide +kernel
theorem dX1_triangle_33 : decode cX1_triangle 33 = .ok (.iadd, 1) := by decide +kernel
theorem dX1_triangle_34 : decode cX1_triangle 34 = .ok (.istore_n 2, 1) := by decide +kernel
theorem dX1_triangle_35 : decode cX1_triangle 35 = .ok (.iinc 4 1, 3) := by decide +kernel
theorem dX1_triangle_38 : decode cX1_triangle 38 = .ok (.goto (-23), 3) := by decide +kernel
theorem dX1_triangle_41 : decode cX1_triangle 41 = .ok (.iinc 3 1, 3) := by decide +kernel
theorem dX1_triangle_44 : decode cX1_triangle 44 = .ok (.goto (-40), 3) := by decide +kernel
theorem dX1_triangle_47 : decode cX1_triangle 47 = .ok (.iload_n 2, 1) := by decide +kernel
theorem dX1_triangle_48 : decode cX1_triangle 48 = .ok (.ireturn, 1) := by decide +kernel
set_option maxRecDepth 20000 in
theorem ggX1_covers_X1_isWithin : GoodIn wsX1_covers wsX1_isWithin := goodIn_r _ [5] (by decide +kernel) (by decide +kernel)
set_option maxRecDepth 20000 in
theorem gX1_covers_X1_isWithin : GoodIn wsX1_covers (va_wsS RX1 45 yX1_isWithin wsX1_isWithin) := goodIn_app (goodIn_of _ (by decide +kernel)) ggX1_covers_X1_isWithin
set_option maxRecDepth 20000 in
theorem ggX1_covers_X0_depthOver : GoodIn wsX1_covers wsX0_depthOver := goodIn_r _ [9, 10, 11, 12, 13, 14, 15, 16, 7, 17, 18, 19, 20, 21, 22, 23, 24, 25, 26, 27, 36, 37, 38, 39, 40, 41] (by decide +kernel) (by decide +kernel)
set_option maxRecDepth 20000 in
theorem gX1_covers_X0_depthOver_n68 : GoodIn wsX1_covers (wsX0_depthOver) := ggX1_covers_X0_depthOver
theorem dX1_covers_0 : decode cX1_covers 0 = .ok (.iload_n 1, 1) := by decide +kernel
theorem dX1_covers_1 : decode cX1_covers 1 = .ok (.sipush (-2000), 3) := by decide +kernel
theorem dX1_covers_4 : decode cX1_covers 4 = .ok (.sipush 2000, 3) := by decide +kernel
theorem dX1_covers_7 : decode cX1_covers 7 = .ok (.invokestatic 45, 3) := by decide +kernel
theorem dX1_covers_10 : decode cX1_covers 10 = .ok (.ifCond .eq 33, 3) := by decide +kernel
theorem dX1_covers_13 : decode cX1_covers 13 = .ok (.iload_n 2, 1) := by decide +kernel
theorem dX1_covers_14 : decode cX1_covers 14 = .ok (.sipush (-2000), 3) := by decide +kernel
theorem dX1_covers_17 : decode cX1_covers 17 = .ok (.sipush 2000, 3) := by decide +kernel
theorem dX1_covers_20 : decode cX1_covers 20 = .ok (.invokestatic 45, 3) := by decide +kernel
theorem dX1_covers_23 : decode cX1_covers 23 = .ok (.ifCond .eq 20, 3) := by decide +kernel
theorem dX1_covers_26 : decode cX1_covers 26 = .ok (.aload_n 0, 1) := by decide +kernel
theorem dX1_covers_27 : decode cX1_covers 27 = .ok (.getfield 30, 3) := by decide +kernel
theorem dX1_covers_30 : decode cX1_covers 30 = .ok (.iload_n 1, 1) := by decide +kernel
theorem dX1_covers_31 : decode cX1_covers 31 = .ok (.iload_n 2, 1) := by decide +kernel
theorem dX1_covers_32 : decode cX1_covers 32 = .ok (.invokevirtual 68, 3) := by decide +kernel
theorem dX1_covers_35 : decode cX1_covers 35 = .ok (.iconst (-1), 1) := by decide +kernel
theorem dX1_covers_36 : decode cX1_covers 36 = .ok (.if_icmp .eq 7, 3) := by decide +kernel
theorem dX1_covers_39 : decode cX1_covers 39 = .ok (.iconst 1, 1) := by decide +kernel
theorem dX1_covers_40 : decode cX1_covers 40 = .ok (.goto 4, 3) := by decide +kernel
theorem dX1_covers_43 : decode cX1_covers 43 = .ok (.iconst 0, 1) := by decide +kernel
theorem dX1_covers_44 : decode cX1_covers 44 = .ok (.ireturn, 1) := by decide +kernel
set_option maxRecDepth 20000 in
theorem ggX1_line_X1_isCoordinate : GoodIn wsX1_line wsX1_isCoordinate := goodIn_r _ [10, 11, 12, 9, 13] (by decide +kernel) (by decide +kernel)
set_option maxRecDepth 20000 in
theorem gX1_line_X1_isCoordinate : GoodIn wsX1_line (va_wsS RX1 55 yX1_isCoordinate wsX1_isCoordinate) := goodIn_app (goodIn_of _ (by decide +kernel)) ggX1_line_X1_isCoordinate
set_option maxRecDepth 20000 in
theorem ggX1_line_X1_placeBeside : GoodIn wsX1_line wsX1_placeBeside := goodIn_r _ [16, 1, 2, 3, 4, 17] (by decide +kernel) (by decide +kernel)
set_option maxRecDepth 20000 in
theorem gX1_line_X1_placeBeside : GoodIn wsX1_line (va_wsS RX1 77 yX1_placeBeside wsX1_placeBeside) := goodIn_app (goodIn_of _ (by decide +kernel)) ggX1_line_X1_placeBeside
set_option maxRecDepth 20000 in
theorem ggX1_line_X1_paint : GoodIn wsX1_line wsX1_paint := goodIn_r _ [21, 22, 23, 24, 25, 9, 26, 5, 6, 11, 12, 13, 27, 28, 29, 30, 31, 32, 33, 34] (by decide +kernel) (by decide +kernel)
set_option maxRecDepth 20000 in
theorem gX1_line_X1_paint : GoodIn wsX1_line (wsV RX1 81 RX1 yX1_paint wsX1_paint) := goodIn_app (goodIn_of _ (by decide +kernel)) ggX1_line_X1_paint
theorem dX1_line_0 : decode cX1_line 0 = .ok (.iload_n 1, 1) := by decide +kernel
theorem dX1_line_1 : decode cX1_line 1 = .ok (.invokestatic 55, 3) := by decide +kernel
theorem dX1_line_4 : decode cX1_line 4 = .ok (.ifCond .eq 25, 3) := by decide +kernel
theorem dX1_line_7 : decode cX1_line 7 = .ok (.iload_n 2, 1) := by decide +kernel
theorem dX1_line_8 : decode cX1_line 8 = .ok (.invokestatic 55, 3) := by decide +kernel
theorem dX1_line_11 : decode cX1_line 11 = .ok (.ifCond .eq 18, 3) := by decide +kernel
theorem dX1_line_14 : decode cX1_line 14 = .ok (.iload_n 3, 1) := by decide +kernel
theorem dX1_line_15 : decode cX1_line 15 = .ok (.invokestatic 55, 3) := by decide +kernel
theorem dX1_line_18 : decode cX1_line 18 = .ok (.ifCond .eq 11, 3) := by decide +kernel
theorem dX1_line_21 : decode cX1_line 21 = .ok (.iload 4, 2) := by decide +kernel
theorem dX1_line_23 : decode cX1_line 23 = .ok (.invokestatic 55, 3) := by decide +kernel
theorem dX1_line_26 : decode cX1_line 26 = .ok (.ifCond .ne 5, 3) := by decide +kernel
theorem dX1_line_29 : decode cX1_line 29 = .ok (.iconst (-1), 1) := by decide +kernel
theorem dX1_line_30 : decode cX1_line 30 = .ok (.ireturn, 1) := by decide +kernel
theorem dX1_line_31 : decode cX1_line 31 = .ok (.iconst 0, 1) := by decide +kernel
theorem dX1_line_32 : decode cX1_line 32 = .ok (.istore 6, 2) := by decide +kernel
theorem dX1_line_34 : decode cX1_line 34 = .ok (.iload_n 3, 1) := by decide +kernel
theorem dX1_line_35 : decode cX1_line 35 = .ok (.iload_n 1, 1) := by decide +kernel
theorem dX1_line_36 : decode cX1_line 36 = .ok (.isub, 1) := by decide +kernel
theorem dX1_line_37 : decode cX1_line 37 = .ok (.invokestatic 72, 3) := by decide +kernel
theorem dX1_line_40 : decode cX1_line 40 = .ok (.iload 4, 2) := by decide +kernel
theorem dX1_line_42 : decode cX1_line 42 = .ok (.iload_n 2, 1) := by decide +kernel
theorem dX1_line_43 : decode cX1_line 43 = .ok (.isub, 1) := by decide +kernel
theorem dX1_line_44 : decode cX1_line 44 = .ok (.invokestatic 72, 3) := by decide +kernel
theorem dX1_line_47 : decode cX1_line 47 = .ok (.if_icmp .lt 47, 3) := by decide +kernel
theorem dX1_line_50 : decode cX1_line 50 = .ok (.iconst 0, 1) := by decide +kernel
theorem dX1_line_51 : decode cX1_line 51 = .ok (.istore 7, 2) := by decide +kernel
theorem dX1_line_53 : decode cX1_line 53 = .ok (.iload 7, 2) := by decide +kernel
theorem dX1_line_55 : decode cX1_line 55 = .ok (.aload_n 0, 1) := by decide +kernel
theorem dX1_line_56 : decode cX1_line 56 = .ok (.getfield 13, 3) := by decide +kernel
theorem dX1_line_59 : decode cX1_line 59 = .ok (.if_icmp .ge 32, 3) := by decide +kernel
theorem dX1_line_62 : decode cX1_line 62 = .ok (.iload 6, 2) := by decide +kernel
theorem dX1_line_64 : decode cX1_line 64 = .ok (.aload_n 0, 1) := by decide +kernel
theorem dX1_line_65 : decode cX1_line 65 = .ok (.iload 7, 2) := by decide +kernel
theorem dX1_line_67 : decode cX1_line 67 = .ok (.iload 7, 2) := by decide +kernel
theorem dX1_line_69 : decode cX1_line 69 = .ok (.iload_n 1, 1) := by decide +kernel
theorem dX1_line_70 : decode cX1_line 70 = .ok (.iload_n 3, 1) := by decide +kernel
theorem dX1_line_71 : decode cX1_line 71 = .ok (.iload_n 2, 1) := by decide +kernel
theorem dX1_line_72 : decode cX1_line 72 = .ok (.iload 4, 2) := by decide +kernel
theorem dX1_line_74 : decode cX1_line 74 = .ok (.invokestatic 77, 3) := by decide +kernel
theorem dX1_line_77 : decode cX1_line 77 = .ok (.iload 5, 2) := by decide +kernel
theorem dX1_line_79 : decode cX1_line 79 = .ok (.invokevirtual 81, 3) := by decide +kernel
theorem dX1_line_82 : decode cX1_line 82 = .ok (.iadd, 1) := by decide +kernel
theorem dX1_line_83 : decode cX1_line 83 = .ok (.istore 6, 2) := by decide +kernel
theorem dX1_line_85 : decode cX1_line 85 = .ok (.iinc 7 1, 3) := by decide +kernel
theorem dX1_line_88 : decode cX1_line 88 = .ok (.goto (-35), 3) := by decide +kernel
theorem dX1_line_91 : decode cX1_line 91 = .ok (.goto 44, 3) := by decide +kernel
theorem dX1_line_94 : decode cX1_line 94 = .ok (.iconst 0, 1) := by decide +kernel
theorem dX1_line_95 : decode cX1_line 95 = .ok (.istore 7, 2) := by decide +kernel
theorem dX1_line_97 : decode cX1_line 97 = .ok (.iload 7, 2) := by decide +kernel
theorem dX1_line_99 : decode cX1_line 99 = .ok (.aload_n 0, 1) := by decide +kernel
theorem dX1_line_100 : decode cX1_line 100 = .ok (.getfield 17, 3) := by decide +kernel
theorem dX1_line_103 : decode cX1_line 103 = .ok (.if_icmp .ge 32, 3) := by decide +kernel
theorem dX1_line_106 : decode cX1_line 106 = .ok (.iload 6, 2) := by decide +kernel
theorem dX1_line_108 : decode cX1_line 108 = .ok (.aload_n 0, 1) := by decide +kernel
theorem dX1_line_109 : decode cX1_line 109 = .ok (.iload 7, 2) := by decide +kernel
theorem dX1_line_111 : decode cX1_line 111 = .ok (.iload_n 2, 1) := by decide +kernel
theorem dX1_line_112 : decode cX1_line 112 = .ok (.iload 4, 2) := by decide +kernel
theorem dX1_line_114 : decode cX1_line 114 = .ok (.iload_n 1, 1) := by decide +kernel
theorem dX1_line_115 : decode cX1_line 115 = .ok (.iload_n 3, 1) := by decide +kernel
theorem dX1_line_116 : decode cX1_line 116 = .ok (.invokestatic 77, 3) := by decide +kernel
theorem dX1_line_119 : decode cX1_line 119 = .ok (.iload 7, 2) := by decide +kernel
theorem dX1_line_121 : decode cX1_line 121 = .ok (.iload 5, 2) := by decide +kernel
theorem dX1_line_123 : decode cX1_line 123 = .ok (.invokevirtual 81, 3) := by decide +kernel
theorem dX1_line_126 : decode cX1_line 126 = .ok (.iadd, 1) := by decide +kernel
theorem dX1_line_127 : decode cX1_line 127 = .ok (.istore 6, 2) := by decide +kernel
theorem dX1_line_129 : decode cX1_line 129 = .ok (.iinc 7 1, 3) := by decide +kernel
theorem dX1_line_132 : decode cX1_line 132 = .ok (.goto (-35), 3) := by decide +kernel
theorem dX1_line_135 : decode cX1_line 135 = .ok (.iload 6, 2) := by decide +kernel
theorem dX1_line_137 : decode cX1_line 137 = .ok (.ireturn, 1) := by decide +kernel
set_option maxRecDepth 20000 in
theorem ggX1_fill_X1_indexOf : GoodIn wsX1_fill wsX1_indexOf := goodIn_r _ [7, 8, 9, 10, 11, 6, 12, 31, 32, 33, 34, 35, 36, 37, 38] (by decide +kernel) (by decide +kernel)
set_option maxRecDepth 20000 in
theorem gX1_fill_X1_indexOf : GoodIn wsX1_fill (wsV RX1 84 RX1 yX1_indexOf wsX1_indexOf) := goodIn_app (goodIn_of _ (by decide +kernel)) ggX1_fill_X1_indexOf
set_option maxRecDepth 20000 in
theorem ggX1_fill_X1_forgetReached : GoodIn wsX1_fill wsX1_forgetReached := goodIn_r _ [16, 17, 31, 32, 33, 34, 35, 36, 37, 38] (by decide +kernel) (by decide +kernel)
set_option maxRecDepth 20000 in
theorem gX1_fill_X1_forgetReached : GoodIn wsX1_fill (wsV RX1 87 RX1 yX1_forgetReached wsX1_forgetReached) := goodIn_app (goodIn_of _ (by decide +kernel)) ggX1_fill_X1_forgetReached
set_option maxRecDepth 20000 in
theorem ggX1_fill_X1_reachPiece : GoodIn wsX1_fill wsX1_reachPiece := goodIn_r _ [21, 22, 2, 8, 23, 24, 25, 6, 26, 1, 3, 4, 5, 7, 9, 10, 11, 12, 27, 28, 29, 30, 17, 31, 32, 33, 34, 35, 36, 37, 38] (by decide +kernel) (by decide +kernel)
set_option maxRecDepth 20000 in
theorem gX1_fill_X1_reachPiece : GoodIn wsX1_fill (wsV RX1 90 RX1 yX1_reachPiece wsX1_reachPiece) := goodIn_app (goodIn_of _ (by decide +kernel)) ggX1_fill_X1_reachPiece
theorem dX1_fill_0 : decode cX1_fill 0 = .ok (.aload_n 0, 1) := by decide +kernel
theorem dX1_fill_1 : decode cX1_fill 1 = .ok (.iload_n 1, 1) := by decide +kernel
theorem dX1_fill_2 : decode cX1_fill 2 = .ok (.iload_n 2, 1) := by decide +kernel
theorem dX1_fill_3 : decode cX1_fill 3 = .ok (.invokevirtual 84, 3) := by decide +kernel
theorem dX1_fill_6 : decode cX1_fill 6 = .ok (.istore 4, 2) := by decide +kernel
theorem dX1_fill_8 : decode cX1_fill 8 = .ok (.iload 4, 2) := by decide +kernel
theorem dX1_fill_10 : decode cX1_fill 10 = .ok (.iconst (-1), 1) := by decide +kernel
theorem dX1_fill_11 : decode cX1_fill 11 = .ok (.if_icmp .eq 14, 3) := by decide +kernel
theorem dX1_fill_14 : decode cX1_fill 14 = .ok (.aload_n 0, 1) := by decide +kernel
theorem dX1_fill_15 : decode cX1_fill 15 = .ok (.getfield 20, 3) := by decide +kernel
theorem dX1_fill_18 : decode cX1_fill 18 = .ok (.iload 4, 2) := by decide +kernel
theorem dX1_fill_20 : decode cX1_fill 20 = .ok (.iaload, 1) := by decide +kernel
theorem dX1_fill_21 : decode cX1_fill 21 = .ok (.iload_n 3, 1) := by decide +kernel
theorem dX1_fill_22 : decode cX1_fill 22 = .ok (.if_icmp .ne 5, 3) := by decide +kernel
theorem dX1_fill_25 : decode cX1_fill 25 = .ok (.iconst 0, 1) := by decide +kernel
theorem dX1_fill_26 : decode cX1_fill 26 = .ok (.ireturn, 1) := by decide +kernel
theorem dX1_fill_27 : decode cX1_fill 27 = .ok (.aload_n 0, 1) := by decide +kernel
theorem dX1_fill_28 : decode cX1_fill 28 = .ok (.invokevirtual 87, 3) := by decide +kernel
theorem dX1_fill_31 : decode cX1_fill 31 = .ok (.aload_n 0, 1) := by decide +kernel
theorem dX1_fill_32 : decode cX1_fill 32 = .ok (.iload_n 1, 1) := by decide +kernel
theorem dX1_fill_33 : decode cX1_fill 33 = .ok (.iload_n 2, 1) := by decide +kernel
theorem dX1_fill_34 : decode cX1_fill 34 = .ok (.invokevirtual 90, 3) := by decide +kernel
theorem dX1_fill_37 : decode cX1_fill 37 = .ok (.istore 5, 2) := by decide +kernel
theorem dX1_fill_39 : decode cX1_fill 39 = .ok (.iconst 0, 1) := by decide +kernel
theorem dX1_fill_40 : decode cX1_fill 40 = .ok (.istore 6, 2) := by decide +kernel
theorem dX1_fill_42 : decode cX1_fill 42 = .ok (.iload 6, 2) := by decide +kernel
theorem dX1_fill_44 : decode cX1_fill 44 = .ok (.iload 5, 2) := by decide +kernel
theorem dX1_fill_46 : decode cX1_fill 46 = .ok (.if_icmp .ge 22, 3) := by decide +kernel
theorem dX1_fill_49 : decode cX1_fill 49 = .ok (.aload_n 0, 1) := by decide +kernel
theorem dX1_fill_50 : decode cX1_fill 50 = .ok (.getfield 20, 3) := by decide +kernel
theorem dX1_fill_53 : decode cX1_fill 53 = .ok (.aload_n 0, 1) := by decide +kernel
theorem dX1_fill_54 : decode cX1_fill 54 = .ok (.getfield 38, 3) := by decide +kernel
theorem dX1_fill_57 : decode cX1_fill 57 = .ok (.iload 6, 2) := by decide +kernel
theorem dX1_fill_59 : decode cX1_fill 59 = .ok (.iaload, 1) := by decide +kernel
theorem dX1_fill_60 : decode cX1_fill 60 = .ok (.iload_n 3, 1) := by decide +kernel
theorem dX1_fill_61 : decode cX1_fill 61 = .ok (.iastore, 1) := by decide +kernel
theorem dX1_fill_62 : decode cX1_fill 62 = .ok (.iinc 6 1, 3) := by decide +kernel
theorem dX1_fill_65 : decode cX1_fill 65 = .ok (.goto (-23), 3) := by decide +kernel
theorem dX1_fill_68 : decode cX1_fill 68 = .ok (.iload 5, 2) := by decide +kernel
theorem dX1_fill_70 : decode cX1_fill 70 = .ok (.ireturn, 1) := by decide +kernel
set_option maxRecDepth 20000 in
theorem ggX1_pixel_X1_indexOf : GoodIn wsX1_pixel wsX1_indexOf := goodIn_r _ [6, 7, 8, 9, 10, 5, 11, 12, 13, 14, 15, 16, 17, 18, 19] (by decide +kernel) (by decide +kernel)
set_option maxRecDepth 20000 in
theorem gX1_pixel_X1_indexOf : GoodIn wsX1_pixel (wsV RX1 84 RX1 yX1_indexOf wsX1_indexOf) := goodIn_app (goodIn_of _ (by decide +kernel)) ggX1_pixel_X1_indexOf
theorem dX1_pixel_0 : decode cX1_pixel 0 = .ok (.aload_n 0, 1) := by decide +kernel
theorem dX1_pixel_1 : decode cX1_pixel 1 = .ok (.iload_n 1, 1) := by decide +kernel
theorem dX1_pixel_2 : decode cX1_pixel 2 = .ok (.iload_n 2, 1) := by decide +kernel
theorem dX1_pixel_3 : decode cX1_pixel 3 = .ok (.invokevirtual 84, 3) := by decide +kernel
theorem dX1_pixel_6 : decode cX1_pixel 6 = .ok (.istore_n 3, 1) := by decide +kernel
theorem dX1_pixel_7 : decode cX1_pixel 7 = .ok (.iload_n 3, 1) := by decide +kernel
theorem dX1_pixel_8 : decode cX1_pixel 8 = .ok (.iconst (-1), 1) := by decide +kernel
theorem dX1_pixel_9 : decode cX1_pixel 9 = .ok (.if_icmp .ne 7, 3) := by decide +kernel
theorem dX1_pixel_12 : decode cX1_pixel 12 = .ok (.iconst (-1), 1) := by decide +kernel
theorem dX1_pixel_13 : decode cX1_pixel 13 = .ok (.goto 9, 3) := by decide +kernel
theorem dX1_pixel_16 : decode cX1_pixel 16 = .ok (.aload_n 0, 1) := by decide +kernel
theorem dX1_pixel_17 : decode cX1_pixel 17 = .ok (.getfield 20, 3) := by decide +kernel
theorem dX1_pixel_20 : decode cX1_pixel 20 = .ok (.iload_n 3, 1) := by decide +kernel
theorem dX1_pixel_21 : decode cX1_pixel 21 = .ok (.iaload, 1) := by decide +kernel
theorem dX1_pixel_22 : decode cX1_pixel 22 = .ok (.ireturn, 1) := by decide +kernel
set_option maxRecDepth 20000 in
theorem ggX1_depthAt_X1_indexOf : GoodIn wsX1_depthAt wsX1_indexOf := goodIn_r _ [6, 7, 8, 9, 10, 5, 11, 12, 13, 14, 15, 16, 17, 18, 19] (by decide +kernel) (by decide +kernel)
set_option maxRecDepth 20000 in
theorem gX1_depthAt_X1_indexOf : GoodIn wsX1_depthAt (wsV RX1 84 RX1 yX1_indexOf wsX1_indexOf) := goodIn_app (goodIn_of _ (by decide +kernel)) ggX1_depthAt_X1_indexOf
theorem dX1_depthAt_0 : decode cX1_depthAt 0 = .ok (.aload_n 0, 1) := by decide +kernel
theorem dX1_depthAt_1 : decode cX1_depthAt 1 = .ok (.iload_n 1, 1) := by decide +kernel
theorem dX1_depthAt_2 : decode cX1_depthAt 2 = .ok (.iload_n 2, 1) := by decide +kernel
theorem dX1_depthAt_3 : decode cX1_depthAt 3 = .ok (.invokevirtual 84, 3) := by decide +kernel
theorem dX1_depthAt_6 : decode cX1_depthAt 6 = .ok (.istore_n 3, 1) := by decide +kernel
theorem dX1_depthAt_7 : decode cX1_depthAt 7 = .ok (.iload_n 3, 1) := by decide +kernel
theorem dX1_depthAt_8 : decode cX1_depthAt 8 = .ok (.iconst (-1), 1) := by decide +kernel
theorem dX1_depthAt_9 : decode cX1_depthAt 9 = .ok (.if_icmp .ne 7, 3) := by decide +kernel
theorem dX1_depthAt_12 : decode cX1_depthAt 12 = .ok (.iconst (-1), 1) := by decide +kernel
theorem dX1_depthAt_13 : decode cX1_depthAt 13 = .ok (.goto 9, 3) := by decide +kernel
theorem dX1_depthAt_16 : decode cX1_depthAt 16 = .ok (.aload_n 0, 1) := by decide +kernel
theorem dX1_depthAt_17 : decode cX1_depthAt 17 = .ok (.getfield 24, 3) := by decide +kernel
theorem dX1_depthAt_20 : decode cX1_depthAt 20 = .ok (.iload_n 3, 1) := by decide +kernel
theorem dX1_depthAt_21 : decode cX1_depthAt 21 = .ok (.iaload, 1) := by decide +kernel
theorem dX1_depthAt_22 : decode cX1_depthAt 22 = .ok (.ireturn, 1) := by decide +kernel
theorem dX1_count_0 : decode cX1_count 0 = .ok (.iconst 0, 1) := by decide +kernel
theorem dX1_count_1 : decode cX1_count 1 = .ok (.istore_n 2, 1) := by decide +kernel
theorem dX1_count_2 : decode cX1_count 2 = .ok (.iconst 0, 1) := by decide +kernel
theorem dX1_count_3 : decode cX1_count 3 = .ok (.istore_n 3, 1) := by decide +kernel
theorem dX1_count_4 : decode cX1_count 4 = .ok (.iload_n 3, 1) := by decide +kernel
theorem dX1_count_5 : decode cX1_count 5 = .ok (.aload_n 0, 1) := by decide +kernel
theorem dX1_count_6 : decode cX1_count 6 = .ok (.getfield 20, 3) := by decide +kernel
theorem dX1_count_9 : decode cX1_count 9 = .ok (.arraylength, 1) := by decide +kernel
theorem dX1_count_10 : decode cX1_count 10 = .ok (.if_icmp .ge 22, 3) := by decide +kernel
theorem dX1_count_13 : decode cX1_count 13 = .ok (.aload_n 0, 1) := by decide +kernel
theorem dX1_count_14 : decode cX1_count 14 = .ok (.getfield 20, 3) := by decide +kernel
theorem dX1_count_17 : decode cX1_count 17 = .ok (.iload_n 3, 1) := by decide +kernel
theorem dX1_count_18 : decode cX1_count 18 = .ok (.iaload, 1) := by decide +kernel
theorem dX1_count_19 : decode cX1_count 19 = .ok (.iload_n 1, 1) := by decide +kernel
theorem dX1_count_20 : decode cX1_count 20 = .ok (.if_icmp .ne 6, 3) := by decide +kernel
theorem dX1_count_23 : decode cX1_count 23 = .ok (.iinc 2 1, 3) := by decide +kernel
theorem dX1_count_26 : decode cX1_count 26 = .ok (.iinc 3 1, 3) := by decide +kernel
theorem dX1_count_29 : decode cX1_count 29 = .ok (.goto (-25), 3) := by decide +kernel
theorem dX1_count_32 : decode cX1_count 32 = .ok (.iload_n 2, 1) := by decide +kernel
theorem dX1_count_33 : decode cX1_count 33 = .ok (.ireturn, 1) := by decide +kernel
set_option maxRecDepth 20000 in
theorem ggX1_pieces_X1_forgetReached : GoodIn wsX1_pieces wsX1_forgetReached := goodIn_r _ [8, 2, 31, 32, 33, 34, 35, 36, 37, 38] (by decide +kernel) (by decide +kernel)
set_option maxRecDepth 20000 in
theorem gX1_pieces_X1_forgetReached : GoodIn wsX1_pieces (wsV RX1 87 RX1 yX1_forgetReached wsX1_forgetReached) := goodIn_app (goodIn_of _ (by decide +kernel)) ggX1_pieces_X1_forgetReached
set_option maxRecDepth 20000 in
theorem ggX1_pieces_X1_reachPiece : GoodIn wsX1_pieces wsX1_reachPiece := goodIn_r _ [12, 13, 14, 3, 15, 16, 17, 7, 18, 1, 19, 20, 21, 22, 23, 24, 25, 26, 27, 28, 29, 30, 2, 31, 32, 33, 34, 35, 36, 37, 38] (by decide +kernel) (by decide +kernel)
set_option maxRecDepth 20000 in
theorem gX1_pieces_X1_reachPiece : GoodIn wsX1_pieces (wsV RX1 90 RX1 yX1_reachPiece wsX1_reachPiece) := goodIn_app (goodIn_of _ (by decide +kernel)) ggX1_pieces_X1_reachPiece
theorem dX1_pieces_0 : decode cX1_pieces 0 = .ok (.aload_n 0, 1) := by decide +kernel
theorem dX1_pieces_1 : decode cX1_pieces 1 = .ok (.invokevirtual 87, 3) := by decide +kernel
theorem dX1_pieces_4 : decode cX1_pieces 4 = .ok (.iconst 0, 1) := by decide +kernel
theorem dX1_pieces_5 : decode cX1_pieces 5 = .ok (.istore_n 2, 1) := by decide +kernel
theorem dX1_pieces_6 : decode cX1_pieces 6 = .ok (.iconst 0, 1) := by decide +kernel
theorem dX1_pieces_7 : decode cX1_pieces 7 = .ok (.istore_n 3, 1) := by decide +kernel
theorem dX1_pieces_8 : decode cX1_pieces 8 = .ok (.iload_n 3, 1) := by decide +kernel
theorem dX1_pieces_9 : decode cX1_pieces 9 = .ok (.aload_n 0, 1) := by decide +kernel
theorem dX1_pieces_10 : decode cX1_pieces 10 = .ok (.getfield 20, 3) := by decide +kernel
theorem dX1_pieces_13 : decode cX1_pieces 13 = .ok (.arraylength, 1) := by decide +kernel
theorem dX1_pieces_14 : decode cX1_pieces 14 = .ok (.if_icmp .ge 48, 3) := by decide +kernel
theorem dX1_pieces_17 : decode cX1_pieces 17 = .ok (.aload_n 0, 1) := by decide +kernel
theorem dX1_pieces_18 : decode cX1_pieces 18 = .ok (.getfield 20, 3) := by decide +kernel
theorem dX1_pieces_21 : decode cX1_pieces 21 = .ok (.iload_n 3, 1) := by decide +kernel
theorem dX1_pieces_22 : decode cX1_pieces 22 = .ok (.iaload, 1) := by decide +kernel
theorem dX1_pieces_23 : decode cX1_pieces 23 = .ok (.iload_n 1, 1) := by decide +kernel
theorem dX1_pieces_24 : decode cX1_pieces 24 = .ok (.if_icmp .ne 32, 3) := by decide +kernel
theorem dX1_pieces_27 : decode cX1_pieces 27 = .ok (.aload_n 0, 1) := by decide +kernel
theorem dX1_pieces_28 : decode cX1_pieces 28 = .ok (.getfield 34, 3) := by decide +kernel
theorem dX1_pieces_31 : decode cX1_pieces 31 = .ok (.iload_n 3, 1) := by decide +kernel
theorem dX1_pieces_32 : decode cX1_pieces 32 = .ok (.baload, 1) := by decide +kernel
theorem dX1_pieces_33 : decode cX1_pieces 33 = .ok (.ifCond .ne 23, 3) := by decide +kernel
theorem dX1_pieces_36 : decode cX1_pieces 36 = .ok (.aload_n 0, 1) := by decide +kernel
theorem dX1_pieces_37 : decode cX1_pieces 37 = .ok (.iload_n 3, 1) := by decide +kernel
theorem dX1_pieces_38 : decode cX1_pieces 38 = .ok (.aload_n 0, 1) := by decide +kernel
theorem dX1_pieces_39 : decode cX1_pieces 39 = .ok (.getfield 13, 3) := by decide +kernel
theorem dX1_pieces_42 : decode cX1_pieces 42 = .ok (.irem, 1) := by decide +kernel
theorem dX1_pieces_43 : decode cX1_pieces 43 = .ok (.iload_n 3, 1) := by decide +kernel
theorem dX1_pieces_44 : decode cX1_pieces 44 = .ok (.aload_n 0, 1) := by decide +kernel
theorem dX1_pieces_45 : decode cX1_pieces 45 = .ok (.getfield 13, 3) := by decide +kernel
theorem dX1_pieces_48 : decode cX1_pieces 48 = .ok (.idiv, 1) := by decide +kernel
theorem dX1_pieces_49 : decode cX1_pieces 49 = .ok (.invokevirtual 90, 3) := by decide +kernel
theorem dX1_pieces_52 : decode cX1_pieces 52 = .ok (.pop, 1) := by decide +kernel
theorem dX1_pieces_53 : decode cX1_pieces 53 = .ok (.iinc 2 1, 3) := by decide +kernel
theorem dX1_pieces_56 : decode cX1_pieces 56 = .ok (.iinc 3 1, 3) := by decide +kernel
theorem dX1_pieces_59 : decode cX1_pieces 59 = .ok (.goto (-51), 3) := by decide +kernel
theorem dX1_pieces_62 : decode cX1_pieces 62 = .ok (.iload_n 2, 1) := by decide +kernel
theorem dX1_pieces_63 : decode cX1_pieces 63 = .ok (.ireturn, 1) := by decide +kernel
set_option maxRecDepth 20000 in
theorem ggX1_sideOf_X1_isWithin : GoodIn wsX1_sideOf wsX1_isWithin := goodIn_r _ [4] (by decide +kernel) (by decide +kernel)
set_option maxRecDepth 20000 in
theorem gX1_sideOf_X1_isWithin : GoodIn wsX1_sideOf (va_wsS RX1 45 yX1_isWithin wsX1_isWithin) := goodIn_app (goodIn_of _ (by decide +kernel)) ggX1_sideOf_X1_isWithin
theorem dX1_sideOf_0 : decode cX1_sideOf 0 = .ok (.iload_n 0, 1) := by decide +kernel
theorem dX1_sideOf_1 : decode cX1_sideOf 1 = .ok (.iconst 1, 1) := by decide +kernel
theorem dX1_sideOf_2 : decode cX1_sideOf 2 = .ok (.bipush 24, 2) := by decide +kernel
theorem dX1_sideOf_4 : decode cX1_sideOf 4 = .ok (.invokestatic 45, 3) := by decide +kernel
theorem dX1_sideOf_7 : decode cX1_sideOf 7 = .ok (.ifCond .eq 7, 3) := by decide +kernel
theorem dX1_sideOf_10 : decode cX1_sideOf 10 = .ok (.iload_n 0, 1) := by decide +kernel
theorem dX1_sideOf_11 : decode cX1_sideOf 11 = .ok (.goto 4, 3) := by decide +kernel
theorem dX1_sideOf_14 : decode cX1_sideOf 14 = .ok (.iconst 1, 1) := by decide +kernel
theorem dX1_sideOf_15 : decode cX1_sideOf 15 = .ok (.ireturn, 1) := by decide +kernel
theorem dX1_isWithin_0 : decode cX1_isWithin 0 = .ok (.iload_n 0, 1) := by decide +kernel
theorem dX1_isWithin_1 : decode cX1_isWithin 1 = .ok (.iload_n 1, 1) := by decide +kernel
theorem dX1_isWithin_2 : decode cX1_isWithin 2 = .ok (.if_icmp .lt 12, 3) := by decide +kernel
theorem dX1_isWithin_5 : decode cX1_isWithin 5 = .ok (.iload_n 0, 1) := by decide +kernel
theorem dX1_isWithin_6 : decode cX1_isWithin 6 = .ok (.iload_n 2, 1) := by decide +kernel
theorem dX1_isWithin_7 : decode cX1_isWithin 7 = .ok (.if_icmp .gt 7, 3) := by decide +kernel
theorem dX1_isWithin_10 : decode cX1_isWithin 10 = .ok (.iconst 1, 1) := by decide +kernel
theorem dX1_isWithin_11 : decode cX1_isWithin 11 = .ok (.goto 4, 3) := by decide +kernel
theorem dX1_isWithin_14 : decode cX1_isWithin 14 = .ok (.iconst 0, 1) := by decide +kernel
theorem dX1_isWithin_15 : decode cX1_isWithin 15 = .ok (.ireturn, 1) := by decide +kernel
set_option maxRecDepth 20000 in
theorem ggX1_isCoordinate_X1_isWithin : GoodIn wsX1_isCoordinate wsX1_isWithin := goodIn_r _ [4] (by decide +kernel) (by decide +kernel)
set_option maxRecDepth 20000 in
theorem gX1_isCoordinate_X1_isWithin : GoodIn wsX1_isCoordinate (va_wsS RX1 45 yX1_isWithin wsX1_isWithin) := goodIn_app (goodIn_of _ (by decide +kernel)) ggX1_isCoordinate_X1_isWithin
theorem dX1_isCoordinate_0 : decode cX1_isCoordinate 0 = .ok (.iload_n 0, 1) := by decide +kernel
theorem dX1_isCoordinate_1 : decode cX1_isCoordinate 1 = .ok (.sipush (-16384), 3) := by decide +kernel
theorem dX1_isCoordinate_4 : decode cX1_isCoordinate 4 = .ok (.sipush 16384, 3) := by decide +kernel
theorem dX1_isCoordinate_7 : decode cX1_isCoordinate 7 = .ok (.invokestatic 45, 3) := by decide +kernel
theorem dX1_isCoordinate_10 : decode cX1_isCoordinate 10 = .ok (.ireturn, 1) := by decide +kernel
set_option maxRecDepth 20000 in
theorem ggX1_indexOf_X1_isWithin : GoodIn wsX1_indexOf wsX1_isWithin := goodIn_r _ [6] (by decide +kernel) (by decide +kernel)
set_option maxRecDepth 20000 in
theorem gX1_indexOf_X1_isWithin : GoodIn wsX1_indexOf (va_wsS RX1 45 yX1_isWithin wsX1_isWithin) := goodIn_app (goodIn_of _ (by decide +kernel)) ggX1_indexOf_X1_isWithin
theorem dX1_indexOf_0 : decode cX1_indexOf 0 = .ok (.iload_n 1, 1) := by decide +kernel
theorem dX1_indexOf_1 : decode cX1_indexOf 1 = .ok (.iconst 0, 1) := by decide +kernel
theorem dX1_indexOf_2 : decode cX1_indexOf 2 = .ok (.aload_n 0, 1) := by decide +kernel
theorem dX1_indexOf_3 : decode cX1_indexOf 3 = .ok (.getfield 13, 3) := by decide +kernel
theorem dX1_indexOf_6 : decode cX1_indexOf 6 = .ok (.iconst 1, 1) := by decide +kernel
theorem dX1_indexOf_7 : decode cX1_indexOf 7 = .ok (.isub, 1) := by decide +kernel
theorem dX1_indexOf_8 : decode cX1_indexOf 8 = .ok (.invokestatic 45, 3) := by decide +kernel
theorem dX1_indexOf_11 : decode cX1_indexOf 11 = .ok (.ifCond .eq 21, 3) := by decide +kernel
theorem dX1_indexOf_14 : decode cX1_indexOf 14 = .ok (.iload_n 2, 1) := by decide +kernel
theorem dX1_indexOf_15 : decode cX1_indexOf 15 = .ok (.iconst 0, 1) := by decide +kernel
theorem dX1_indexOf_16 : decode cX1_indexOf 16 = .ok (.aload_n 0, 1) := by decide +kernel
theorem dX1_indexOf_17 : decode cX1_indexOf 17 = .ok (.getfield 17, 3) := by decide +kernel
theorem dX1_indexOf_20 : decode cX1_indexOf 20 = .ok (.iconst 1, 1) := by decide +kernel
theorem dX1_indexOf_21 : decode cX1_indexOf 21 = .ok (.isub, 1) := by decide +kernel
theorem dX1_indexOf_22 : decode cX1_indexOf 22 = .ok (.invokestatic 45, 3) := by decide +kernel
theorem dX1_indexOf_25 : decode cX1_indexOf 25 = .ok (.ifCond .eq 7, 3) := by decide +kernel
theorem dX1_indexOf_28 : decode cX1_indexOf 28 = .ok (.iconst 1, 1) := by decide +kernel
theorem dX1_indexOf_29 : decode cX1_indexOf 29 = .ok (.goto 4, 3) := by decide +kernel
theorem dX1_indexOf_32 : decode cX1_indexOf 32 = .ok (.iconst 0, 1) := by decide +kernel
theorem dX1_indexOf_33 : decode cX1_indexOf 33 = .ok (.istore_n 3, 1) := by decide +kernel
theorem dX1_indexOf_34 : decode cX1_indexOf 34 = .ok (.iload_n 3, 1) := by decide +kernel
theorem dX1_indexOf_35 : decode cX1_indexOf 35 = .ok (.ifCond .eq 14, 3) := by decide +kernel
theorem dX1_indexOf_38 : decode cX1_indexOf 38 = .ok (.iload_n 2, 1) := by decide +kernel
theorem dX1_indexOf_39 : decode cX1_indexOf 39 = .ok (.aload_n 0, 1) := by decide +kernel
theorem dX1_indexOf_40 : decode cX1_indexOf 40 = .ok (.getfield 13, 3) := by decide +kernel
theorem dX1_indexOf_43 : decode cX1_indexOf 43 = .ok (.imul, 1) := by decide +kernel
theorem dX1_indexOf_44 : decode cX1_indexOf 44 = .ok (.iload_n 1, 1) := by decide +kernel
theorem dX1_indexOf_45 : decode cX1_indexOf 45 = .ok (.iadd, 1) := by decide +kernel
theorem dX1_indexOf_46 : decode cX1_indexOf 46 = .ok (.goto 4, 3) := by decide +kernel
theorem dX1_indexOf_49 : decode cX1_indexOf 49 = .ok (.iconst (-1), 1) := by decide +kernel
theorem dX1_indexOf_50 : decode cX1_indexOf 50 = .ok (.ireturn, 1) := by decide +kernel
set_option maxRecDepth 20000 in
theorem ggX1_paint_X1_indexOf : GoodIn wsX1_paint wsX1_indexOf := goodIn_r _ [6, 7, 8, 9, 10, 5, 11, 12, 13, 14, 15, 16, 17, 18, 19] (by decide +kernel) (by decide +kernel)
end
section
set_option maxRecDepth 20000 in
theorem gX1_paint_X1_indexOf : GoodIn wsX1_paint (wsV RX1 84 RX1 yX1_indexOf wsX1_indexOf) := goodIn_app (goodIn_of _ (by decide +kernel)) ggX1_paint_X1_indexOf
theorem dX1_paint_0 : decode cX1_paint 0 = .ok (.aload_n 0, 1) := by decide +kernel
theorem dX1_paint_1 : decode cX1_paint 1 = .ok (.iload_n 1, 1) := by decide +kernel
theorem dX1_paint_2 : decode cX1_paint 2 = .ok (.iload_n 2, 1) := by decide +kernel
theorem dX1_paint_3 : decode cX1_paint 3 = .ok (.invokevirtual 84, 3) := by decide +kernel
theorem dX1_paint_6 : decode cX1_paint 6 = .ok (.istore 4, 2) := by decide +kernel
theorem dX1_paint_8 : decode cX1_paint 8 = .ok (.iload 4, 2) := by decide +kernel
theorem dX1_paint_10 : decode cX1_paint 10 = .ok (.iconst (-1), 1) := by decide +kernel
theorem dX1_paint_11 : decode cX1_paint 11 = .ok (.if_icmp .ne 5, 3) := by decide +kernel
theorem dX1_paint_14 : decode cX1_paint 14 = .ok (.iconst 0, 1) := by decide +kernel
theorem dX1_paint_15 : decode cX1_paint 15 = .ok (.ireturn, 1) := by decide +kernel
theorem dX1_paint_16 : decode cX1_paint 16 = .ok (.aload_n 0, 1) := by decide +kernel
theorem dX1_paint_17 : decode cX1_paint 17 = .ok (.getfield 20, 3) := by decide +kernel
theorem dX1_paint_20 : decode cX1_paint 20 = .ok (.iload 4, 2) := by decide +kernel
theorem dX1_paint_22 : decode cX1_paint 22 = .ok (.iload_n 3, 1) := by decide +kernel
theorem dX1_paint_23 : decode cX1_paint 23 = .ok (.iastore, 1) := by decide +kernel
theorem dX1_paint_24 : decode cX1_paint 24 = .ok (.iconst 1, 1) := by decide +kernel
theorem dX1_paint_25 : decode cX1_paint 25 = .ok (.ireturn, 1) := by decide +kernel
set_option maxRecDepth 20000 in
theorem ggX1_paintNearer_X1_indexOf : GoodIn wsX1_paintNearer wsX1_indexOf := goodIn_r _ [8, 9, 10, 11, 12, 7, 13, 36, 37, 38, 39, 40, 41, 42, 43] (by decide +kernel) (by decide +kernel)
set_option maxRecDepth 20000 in
theorem gX1_paintNearer_X1_indexOf : GoodIn wsX1_paintNearer (wsV RX1 84 RX1 yX1_indexOf wsX1_indexOf) := goodIn_app (goodIn_of _ (by decide +kernel)) ggX1_paintNearer_X1_indexOf
set_option maxRecDepth 20000 in
theorem ggX1_paintNearer_X0_depthOver : GoodIn wsX1_paintNearer wsX0_depthOver := goodIn_r _ [17, 18, 19, 20, 21, 22, 23, 24, 15, 25, 26, 27, 28, 29, 30, 31, 32, 33, 34, 35, 44, 45, 46, 47, 48, 49] (by decide +kernel) (by decide +kernel)
set_option maxRecDepth 20000 in
theorem gX1_paintNearer_X0_depthOver_n68 : GoodIn wsX1_paintNearer (wsX0_depthOver) := ggX1_paintNearer_X0_depthOver
theorem dX1_paintNearer_0 : decode cX1_paintNearer 0 = .ok (.aload_n 0, 1) := by decide +kernel
theorem dX1_paintNearer_1 : decode cX1_paintNearer 1 = .ok (.iload_n 1, 1) := by decide +kernel
theorem dX1_paintNearer_2 : decode cX1_paintNearer 2 = .ok (.iload_n 2, 1) := by decide +kernel
theorem dX1_paintNearer_3 : decode cX1_paintNearer 3 = .ok (.invokevirtual 84, 3) := by decide +kernel
theorem dX1_paintNearer_6 : decode cX1_paintNearer 6 = .ok (.istore 4, 2) := by decide +kernel
theorem dX1_paintNearer_8 : decode cX1_paintNearer 8 = .ok (.aload_n 0, 1) := by decide +kernel
theorem dX1_paintNearer_9 : decode cX1_paintNearer 9 = .ok (.getfield 30, 3) := by decide +kernel
theorem dX1_paintNearer_12 : decode cX1_paintNearer 12 = .ok (.iload_n 1, 1) := by decide +kernel
theorem dX1_paintNearer_13 : decode cX1_paintNearer 13 = .ok (.iload_n 2, 1) := by decide +kernel
theorem dX1_paintNearer_14 : decode cX1_paintNearer 14 = .ok (.invokevirtual 68, 3) := by decide +kernel
theorem dX1_paintNearer_17 : decode cX1_paintNearer 17 = .ok (.istore 5, 2) := by decide +kernel
theorem dX1_paintNearer_19 : decode cX1_paintNearer 19 = .ok (.iload 4, 2) := by decide +kernel
theorem dX1_paintNearer_21 : decode cX1_paintNearer 21 = .ok (.iconst (-1), 1) := by decide +kernel
theorem dX1_paintNearer_22 : decode cX1_paintNearer 22 = .ok (.if_icmp .eq 21, 3) := by decide +kernel
theorem dX1_paintNearer_25 : decode cX1_paintNearer 25 = .ok (.iload 5, 2) := by decide +kernel
theorem dX1_paintNearer_27 : decode cX1_paintNearer 27 = .ok (.iconst (-1), 1) := by decide +kernel
theorem dX1_paintNearer_28 : decode cX1_paintNearer 28 = .ok (.if_icmp .eq 15, 3) := by decide +kernel
theorem dX1_paintNearer_31 : decode cX1_paintNearer 31 = .ok (.aload_n 0, 1) := by decide +kernel
theorem dX1_paintNearer_32 : decode cX1_paintNearer 32 = .ok (.getfield 24, 3) := by decide +kernel
theorem dX1_paintNearer_35 : decode cX1_paintNearer 35 = .ok (.iload 4, 2) := by decide +kernel
theorem dX1_paintNearer_37 : decode cX1_paintNearer 37 = .ok (.iaload, 1) := by decide +kernel
theorem dX1_paintNearer_38 : decode cX1_paintNearer 38 = .ok (.iload 5, 2) := by decide +kernel
theorem dX1_paintNearer_40 : decode cX1_paintNearer 40 = .ok (.if_icmp .gt 5, 3) := by decide +kernel
theorem dX1_paintNearer_43 : decode cX1_paintNearer 43 = .ok (.iconst 0, 1) := by decide +kernel
theorem dX1_paintNearer_44 : decode cX1_paintNearer 44 = .ok (.ireturn, 1) := by decide +kernel
theorem dX1_paintNearer_45 : decode cX1_paintNearer 45 = .ok (.aload_n 0, 1) := by decide +kernel
theorem dX1_paintNearer_46 : decode cX1_paintNearer 46 = .ok (.getfield 20, 3) := by decide +kernel
theorem dX1_paintNearer_49 : decode cX1_paintNearer 49 = .ok (.iload 4, 2) := by decide +kernel
theorem dX1_paintNearer_51 : decode cX1_paintNearer 51 = .ok (.iload_n 3, 1) := by decide +kernel
theorem dX1_paintNearer_52 : decode cX1_paintNearer 52 = .ok (.iastore, 1) := by decide +kernel
theorem dX1_paintNearer_53 : decode cX1_paintNearer 53 = .ok (.aload_n 0, 1) := by decide +kernel
theorem dX1_paintNearer_54 : decode cX1_paintNearer 54 = .ok (.getfield 24, 3) := by decide +kernel
theorem dX1_paintNearer_57 : decode cX1_paintNearer 57 = .ok (.iload 4, 2) := by decide +kernel
theorem dX1_paintNearer_59 : decode cX1_paintNearer 59 = .ok (.iload 5, 2) := by decide +kernel
theorem dX1_paintNearer_61 : decode cX1_paintNearer 61 = .ok (.iastore, 1) := by decide +kernel
theorem dX1_paintNearer_62 : decode cX1_paintNearer 62 = .ok (.iconst 1, 1) := by decide +kernel
theorem dX1_paintNearer_63 : decode cX1_paintNearer 63 = .ok (.ireturn, 1) := by decide +kernel
theorem dX1_placeBeside_0 : decode cX1_placeBeside 0 = .ok (.iload_n 2, 1) := by decide +kernel
theorem dX1_placeBeside_1 : decode cX1_placeBeside 1 = .ok (.iload_n 1, 1) := by decide +kernel
theorem dX1_placeBeside_2 : decode cX1_placeBeside 2 = .ok (.isub, 1) := by decide +kernel
theorem dX1_placeBeside_3 : decode cX1_placeBeside 3 = .ok (.invokestatic 72, 3) := by decide +kernel
theorem dX1_placeBeside_6 : decode cX1_placeBeside 6 = .ok (.i2l, 1) := by decide +kernel
theorem dX1_placeBeside_7 : decode cX1_placeBeside 7 = .ok (.lstore 5, 2) := by decide +kernel
theorem dX1_placeBeside_9 : decode cX1_placeBeside 9 = .ok (.iload_n 2, 1) := by decide +kernel
theorem dX1_placeBeside_10 : decode cX1_placeBeside 10 = .ok (.iload_n 1, 1) := by decide +kernel
theorem dX1_placeBeside_11 : decode cX1_placeBeside 11 = .ok (.if_icmp .ge 10, 3) := by decide +kernel
theorem dX1_placeBeside_14 : decode cX1_placeBeside 14 = .ok (.iload_n 1, 1) := by decide +kernel
theorem dX1_placeBeside_15 : decode cX1_placeBeside 15 = .ok (.iload_n 0, 1) := by decide +kernel
theorem dX1_placeBeside_16 : decode cX1_placeBeside 16 = .ok (.isub, 1) := by decide +kernel
theorem dX1_placeBeside_17 : decode cX1_placeBeside 17 = .ok (.i2l, 1) := by decide +kernel
theorem dX1_placeBeside_18 : decode cX1_placeBeside 18 = .ok (.goto 7, 3) := by decide +kernel
theorem dX1_placeBeside_21 : decode cX1_placeBeside 21 = .ok (.iload_n 0, 1) := by decide +kernel
theorem dX1_placeBeside_22 : decode cX1_placeBeside 22 = .ok (.iload_n 1, 1) := by decide +kernel
theorem dX1_placeBeside_23 : decode cX1_placeBeside 23 = .ok (.isub, 1) := by decide +kernel
theorem dX1_placeBeside_24 : decode cX1_placeBeside 24 = .ok (.i2l, 1) := by decide +kernel
theorem dX1_placeBeside_25 : decode cX1_placeBeside 25 = .ok (.lstore 7, 2) := by decide +kernel
theorem dX1_placeBeside_27 : decode cX1_placeBeside 27 = .ok (.lload 7, 2) := by decide +kernel
theorem dX1_placeBeside_29 : decode cX1_placeBeside 29 = .ok (.lconst 0, 1) := by decide +kernel
theorem dX1_placeBeside_30 : decode cX1_placeBeside 30 = .ok (.lcmp, 1) := by decide +kernel
theorem dX1_placeBeside_31 : decode cX1_placeBeside 31 = .ok (.ifCond .lt 11, 3) := by decide +kernel
theorem dX1_placeBeside_34 : decode cX1_placeBeside 34 = .ok (.lload 7, 2) := by decide +kernel
theorem dX1_placeBeside_36 : decode cX1_placeBeside 36 = .ok (.lload 5, 2) := by decide +kernel
theorem dX1_placeBeside_38 : decode cX1_placeBeside 38 = .ok (.lcmp, 1) := by decide +kernel
theorem dX1_placeBeside_39 : decode cX1_placeBeside 39 = .ok (.ifCond .le 5, 3) := by decide +kernel
theorem dX1_placeBeside_42 : decode cX1_placeBeside 42 = .ok (.iconst (-1), 1) := by decide +kernel
theorem dX1_placeBeside_43 : decode cX1_placeBeside 43 = .ok (.ireturn, 1) := by decide +kernel
theorem dX1_placeBeside_44 : decode cX1_placeBeside 44 = .ok (.lload 5, 2) := by decide +kernel
theorem dX1_placeBeside_46 : decode cX1_placeBeside 46 = .ok (.lconst 0, 1) := by decide +kernel
theorem dX1_placeBeside_47 : decode cX1_placeBeside 47 = .ok (.lcmp, 1) := by decide +kernel
theorem dX1_placeBeside_48 : decode cX1_placeBeside 48 = .ok (.ifCond .ne 5, 3) := by decide +kernel
theorem dX1_placeBeside_51 : decode cX1_placeBeside 51 = .ok (.iload_n 3, 1) := by decide +kernel
theorem dX1_placeBeside_52 : decode cX1_placeBeside 52 = .ok (.ireturn, 1) := by decide +kernel
theorem dX1_placeBeside_53 : decode cX1_placeBeside 53 = .ok (.iload 4, 2) := by decide +kernel
theorem dX1_placeBeside_55 : decode cX1_placeBeside 55 = .ok (.iload_n 3, 1) := by decide +kernel
theorem dX1_placeBeside_56 : decode cX1_placeBeside 56 = .ok (.isub, 1) := by decide +kernel
theorem dX1_placeBeside_57 : decode cX1_placeBeside 57 = .ok (.invokestatic 72, 3) := by decide +kernel
theorem dX1_placeBeside_60 : decode cX1_placeBeside 60 = .ok (.i2l, 1) := by decide +kernel
theorem dX1_placeBeside_61 : decode cX1_placeBeside 61 = .ok (.lstore 9, 2) := by decide +kernel
theorem dX1_placeBeside_63 : decode cX1_placeBeside 63 = .ok (.ldc2_w 93, 3) := by decide +kernel
theorem dX1_placeBeside_66 : decode cX1_placeBeside 66 = .ok (.lload 7, 2) := by decide +kernel
theorem dX1_placeBeside_68 : decode cX1_placeBeside 68 = .ok (.lmul, 1) := by decide +kernel
theorem dX1_placeBeside_69 : decode cX1_placeBeside 69 = .ok (.lload 9, 2) := by decide +kernel
theorem dX1_placeBeside_71 : decode cX1_placeBeside 71 = .ok (.lmul, 1) := by decide +kernel
theorem dX1_placeBeside_72 : decode cX1_placeBeside 72 = .ok (.lload 5, 2) := by decide +kernel
theorem dX1_placeBeside_74 : decode cX1_placeBeside 74 = .ok (.ladd, 1) := by decide +kernel
theorem dX1_placeBeside_75 : decode cX1_placeBeside 75 = .ok (.lconst 1, 1) := by decide +kernel
theorem dX1_placeBeside_76 : decode cX1_placeBeside 76 = .ok (.lsub, 1) := by decide +kernel
theorem dX1_placeBeside_77 : decode cX1_placeBeside 77 = .ok (.ldc2_w 93, 3) := by decide +kernel
theorem dX1_placeBeside_80 : decode cX1_placeBeside 80 = .ok (.lload 5, 2) := by decide +kernel
theorem dX1_placeBeside_82 : decode cX1_placeBeside 82 = .ok (.lmul, 1) := by decide +kernel
theorem dX1_placeBeside_83 : decode cX1_placeBeside 83 = .ok (.ldiv, 1) := by decide +kernel
theorem dX1_placeBeside_84 : decode cX1_placeBeside 84 = .ok (.l2i, 1) := by decide +kernel
theorem dX1_placeBeside_85 : decode cX1_placeBeside 85 = .ok (.istore 11, 2) := by decide +kernel
theorem dX1_placeBeside_87 : decode cX1_placeBeside 87 = .ok (.iload 4, 2) := by decide +kernel
theorem dX1_placeBeside_89 : decode cX1_placeBeside 89 = .ok (.iload_n 3, 1) := by decide +kernel
theorem dX1_placeBeside_90 : decode cX1_placeBeside 90 = .ok (.if_icmp .ge 10, 3) := by decide +kernel
theorem dX1_placeBeside_93 : decode cX1_placeBeside 93 = .ok (.iload_n 3, 1) := by decide +kernel
theorem dX1_placeBeside_94 : decode cX1_placeBeside 94 = .ok (.iload 11, 2) := by decide +kernel
theorem dX1_placeBeside_96 : decode cX1_placeBeside 96 = .ok (.isub, 1) := by decide +kernel
theorem dX1_placeBeside_97 : decode cX1_placeBeside 97 = .ok (.goto 7, 3) := by decide +kernel
theorem dX1_placeBeside_100 : decode cX1_placeBeside 100 = .ok (.iload_n 3, 1) := by decide +kernel
theorem dX1_placeBeside_101 : decode cX1_placeBeside 101 = .ok (.iload 11, 2) := by decide +kernel
theorem dX1_placeBeside_103 : decode cX1_placeBeside 103 = .ok (.iadd, 1) := by decide +kernel
theorem dX1_placeBeside_104 : decode cX1_placeBeside 104 = .ok (.ireturn, 1) := by decide +kernel
theorem dX1_forgetReached_0 : decode cX1_forgetReached 0 = .ok (.iconst 0, 1) := by decide +kernel
theorem dX1_forgetReached_1 : decode cX1_forgetReached 1 = .ok (.istore_n 1, 1) := by decide +kernel
theorem dX1_forgetReached_2 : decode cX1_forgetReached 2 = .ok (.iload_n 1, 1) := by decide +kernel
theorem dX1_forgetReached_3 : decode cX1_forgetReached 3 = .ok (.aload_n 0, 1) := by decide +kernel
theorem dX1_forgetReached_4 : decode cX1_forgetReached 4 = .ok (.getfield 34, 3) := by decide +kernel
theorem dX1_forgetReached_7 : decode cX1_forgetReached 7 = .ok (.arraylength, 1) := by decide +kernel
theorem dX1_forgetReached_8 : decode cX1_forgetReached 8 = .ok (.if_icmp .ge 16, 3) := by decide +kernel
theorem dX1_forgetReached_11 : decode cX1_forgetReached 11 = .ok (.aload_n 0, 1) := by decide +kernel
theorem dX1_forgetReached_12 : decode cX1_forgetReached 12 = .ok (.getfield 34, 3) := by decide +kernel
theorem dX1_forgetReached_15 : decode cX1_forgetReached 15 = .ok (.iload_n 1, 1) := by decide +kernel
theorem dX1_forgetReached_16 : decode cX1_forgetReached 16 = .ok (.iconst 0, 1) := by decide +kernel
theorem dX1_forgetReached_17 : decode cX1_forgetReached 17 = .ok (.bastore, 1) := by decide +kernel
theorem dX1_forgetReached_18 : decode cX1_forgetReached 18 = .ok (.iinc 1 1, 3) := by decide +kernel
theorem dX1_forgetReached_21 : decode cX1_forgetReached 21 = .ok (.goto (-19), 3) := by decide +kernel
theorem dX1_forgetReached_24 : decode cX1_forgetReached 24 = .ok (.return_, 1) := by decide +kernel
set_option maxRecDepth 20000 in
theorem ggX1_reachPiece_X1_pixel : GoodIn wsX1_reachPiece wsX1_pixel := goodIn_r _ [8, 9, 10, 11, 12, 7, 13, 3, 14, 15, 16, 17, 23, 24, 25, 26, 27, 28, 29, 30] (by decide +kernel) (by decide +kernel)
set_option maxRecDepth 20000 in
theorem gX1_reachPiece_X1_pixel : GoodIn wsX1_reachPiece (wsV RX1 95 RX1 yX1_pixel wsX1_pixel) := goodIn_app (goodIn_of _ (by decide +kernel)) ggX1_reachPiece_X1_pixel
set_option maxRecDepth 20000 in
theorem ggX1_reachPiece_X1_reach : GoodIn wsX1_reachPiece wsX1_reach := goodIn_r _ [21, 22, 9, 1, 2, 10, 11, 12, 7, 13, 3, 14, 15, 16, 17, 23, 24, 25, 26, 27, 28, 29, 30] (by decide +kernel) (by decide +kernel)
set_option maxRecDepth 20000 in
theorem gX1_reachPiece_X1_reach : GoodIn wsX1_reachPiece (wsV RX1 98 RX1 yX1_reach wsX1_reach) := goodIn_app (goodIn_of _ (by decide +kernel)) ggX1_reachPiece_X1_reach
theorem dX1_reachPiece_0 : decode cX1_reachPiece 0 = .ok (.aload_n 0, 1) := by decide +kernel
theorem dX1_reachPiece_1 : decode cX1_reachPiece 1 = .ok (.iload_n 1, 1) := by decide +kernel
theorem dX1_reachPiece_2 : decode cX1_reachPiece 2 = .ok (.iload_n 2, 1) := by decide +kernel
theorem dX1_reachPiece_3 : decode cX1_reachPiece 3 = .ok (.invokevirtual 95, 3) := by decide +kernel
theorem dX1_reachPiece_6 : decode cX1_reachPiece 6 = .ok (.istore_n 3, 1) := by decide +kernel
theorem dX1_reachPiece_7 : decode cX1_reachPiece 7 = .ok (.aload_n 0, 1) := by decide +kernel
theorem dX1_reachPiece_8 : decode cX1_reachPiece 8 = .ok (.iconst 0, 1) := by decide +kernel
theorem dX1_reachPiece_9 : decode cX1_reachPiece 9 = .ok (.putfield 41, 3) := by decide +kernel
theorem dX1_reachPiece_12 : decode cX1_reachPiece 12 = .ok (.aload_n 0, 1) := by decide +kernel
theorem dX1_reachPiece_13 : decode cX1_reachPiece 13 = .ok (.iload_n 1, 1) := by decide +kernel
theorem dX1_reachPiece_14 : decode cX1_reachPiece 14 = .ok (.iload_n 2, 1) := by decide +kernel
theorem dX1_reachPiece_15 : decode cX1_reachPiece 15 = .ok (.iload_n 3, 1) := by decide +kernel
theorem dX1_reachPiece_16 : decode cX1_reachPiece 16 = .ok (.invokevirtual 98, 3) := by decide +kernel
theorem dX1_reachPiece_19 : decode cX1_reachPiece 19 = .ok (.iconst 0, 1) := by decide +kernel
theorem dX1_reachPiece_20 : decode cX1_reachPiece 20 = .ok (.istore 4, 2) := by decide +kernel
theorem dX1_reachPiece_22 : decode cX1_reachPiece 22 = .ok (.iload 4, 2) := by decide +kernel
theorem dX1_reachPiece_24 : decode cX1_reachPiece 24 = .ok (.aload_n 0, 1) := by decide +kernel
theorem dX1_reachPiece_25 : decode cX1_reachPiece 25 = .ok (.getfield 38, 3) := by decide +kernel
theorem dX1_reachPiece_28 : decode cX1_reachPiece 28 = .ok (.arraylength, 1) := by decide +kernel
theorem dX1_reachPiece_29 : decode cX1_reachPiece 29 = .ok (.if_icmp .ge 90, 3) := by decide +kernel
theorem dX1_reachPiece_32 : decode cX1_reachPiece 32 = .ok (.iload 4, 2) := by decide +kernel
theorem dX1_reachPiece_34 : decode cX1_reachPiece 34 = .ok (.aload_n 0, 1) := by decide +kernel
theorem dX1_reachPiece_35 : decode cX1_reachPiece 35 = .ok (.getfield 41, 3) := by decide +kernel
theorem dX1_reachPiece_38 : decode cX1_reachPiece 38 = .ok (.if_icmp .ge 81, 3) := by decide +kernel
theorem dX1_reachPiece_41 : decode cX1_reachPiece 41 = .ok (.aload_n 0, 1) := by decide +kernel
theorem dX1_reachPiece_42 : decode cX1_reachPiece 42 = .ok (.getfield 38, 3) := by decide +kernel
theorem dX1_reachPiece_45 : decode cX1_reachPiece 45 = .ok (.iload 4, 2) := by decide +kernel
theorem dX1_reachPiece_47 : decode cX1_reachPiece 47 = .ok (.iaload, 1) := by decide +kernel
theorem dX1_reachPiece_48 : decode cX1_reachPiece 48 = .ok (.aload_n 0, 1) := by decide +kernel
theorem dX1_reachPiece_49 : decode cX1_reachPiece 49 = .ok (.getfield 13, 3) := by decide +kernel
theorem dX1_reachPiece_52 : decode cX1_reachPiece 52 = .ok (.irem, 1) := by decide +kernel
theorem dX1_reachPiece_53 : decode cX1_reachPiece 53 = .ok (.istore 5, 2) := by decide +kernel
theorem dX1_reachPiece_55 : decode cX1_reachPiece 55 = .ok (.aload_n 0, 1) := by decide +kernel
theorem dX1_reachPiece_56 : decode cX1_reachPiece 56 = .ok (.getfield 38, 3) := by decide +kernel
theorem dX1_reachPiece_59 : decode cX1_reachPiece 59 = .ok (.iload 4, 2) := by decide +kernel
theorem dX1_reachPiece_61 : decode cX1_reachPiece 61 = .ok (.iaload, 1) := by decide +kernel
theorem dX1_reachPiece_62 : decode cX1_reachPiece 62 = .ok (.aload_n 0, 1) := by decide +kernel
theorem dX1_reachPiece_63 : decode cX1_reachPiece 63 = .ok (.getfield 13, 3) := by decide +kernel
theorem dX1_reachPiece_66 : decode cX1_reachPiece 66 = .ok (.idiv, 1) := by decide +kernel
theorem dX1_reachPiece_67 : decode cX1_reachPiece 67 = .ok (.istore 6, 2) := by decide +kernel
theorem dX1_reachPiece_69 : decode cX1_reachPiece 69 = .ok (.aload_n 0, 1) := by decide +kernel
theorem dX1_reachPiece_70 : decode cX1_reachPiece 70 = .ok (.iload 5, 2) := by decide +kernel
theorem dX1_reachPiece_72 : decode cX1_reachPiece 72 = .ok (.iconst 1, 1) := by decide +kernel
theorem dX1_reachPiece_73 : decode cX1_reachPiece 73 = .ok (.isub, 1) := by decide +kernel
theorem dX1_reachPiece_74 : decode cX1_reachPiece 74 = .ok (.iload 6, 2) := by decide +kernel
theorem dX1_reachPiece_76 : decode cX1_reachPiece 76 = .ok (.iload_n 3, 1) := by decide +kernel
theorem dX1_reachPiece_77 : decode cX1_reachPiece 77 = .ok (.invokevirtual 98, 3) := by decide +kernel
theorem dX1_reachPiece_80 : decode cX1_reachPiece 80 = .ok (.aload_n 0, 1) := by decide +kernel
theorem dX1_reachPiece_81 : decode cX1_reachPiece 81 = .ok (.iload 5, 2) := by decide +kernel
theorem dX1_reachPiece_83 : decode cX1_reachPiece 83 = .ok (.iconst 1, 1) := by decide +kernel
theorem dX1_reachPiece_84 : decode cX1_reachPiece 84 = .ok (.iadd, 1) := by decide +kernel
theorem dX1_reachPiece_85 : decode cX1_reachPiece 85 = .ok (.iload 6, 2) := by decide +kernel
theorem dX1_reachPiece_87 : decode cX1_reachPiece 87 = .ok (.iload_n 3, 1) := by decide +kernel
theorem dX1_reachPiece_88 : decode cX1_reachPiece 88 = .ok (.invokevirtual 98, 3) := by decide +kernel
theorem dX1_reachPiece_91 : decode cX1_reachPiece 91 = .ok (.aload_n 0, 1) := by decide +kernel
theorem dX1_reachPiece_92 : decode cX1_reachPiece 92 = .ok (.iload 5, 2) := by decide +kernel
theorem dX1_reachPiece_94 : decode cX1_reachPiece 94 = .ok (.iload 6, 2) := by decide +kernel
theorem dX1_reachPiece_96 : decode cX1_reachPiece 96 = .ok (.iconst 1, 1) := by decide +kernel
theorem dX1_reachPiece_97 : decode cX1_reachPiece 97 = .ok (.isub, 1) := by decide +kernel
theorem dX1_reachPiece_98 : decode cX1_reachPiece 98 = .ok (.iload_n 3, 1) := by decide +kernel
theorem dX1_reachPiece_99 : decode cX1_reachPiece 99 = .ok (.invokevirtual 98, 3) := by decide +kernel
theorem dX1_reachPiece_102 : decode cX1_reachPiece 102 = .ok (.aload_n 0, 1) := by decide +kernel
theorem dX1_reachPiece_103 : decode cX1_reachPiece 103 = .ok (.iload 5, 2) := by decide +kernel
theorem dX1_reachPiece_105 : decode cX1_reachPiece 105 = .ok (.iload 6, 2) := by decide +kernel
theorem dX1_reachPiece_107 : decode cX1_reachPiece 107 = .ok (.iconst 1, 1) := by decide +kernel
theorem dX1_reachPiece_108 : decode cX1_reachPiece 108 = .ok (.iadd, 1) := by decide +kernel
theorem dX1_reachPiece_109 : decode cX1_reachPiece 109 = .ok (.iload_n 3, 1) := by decide +kernel
theorem dX1_reachPiece_110 : decode cX1_reachPiece 110 = .ok (.invokevirtual 98, 3) := by decide +kernel
theorem dX1_reachPiece_113 : decode cX1_reachPiece 113 = .ok (.iinc 4 1, 3) := by decide +kernel
theorem dX1_reachPiece_116 : decode cX1_reachPiece 116 = .ok (.goto (-94), 3) := by decide +kernel
theorem dX1_reachPiece_119 : decode cX1_reachPiece 119 = .ok (.aload_n 0, 1) := by decide +kernel
theorem dX1_reachPiece_120 : decode cX1_reachPiece 120 = .ok (.getfield 41, 3) := by decide +kernel
theorem dX1_reachPiece_123 : decode cX1_reachPiece 123 = .ok (.ireturn, 1) := by decide +kernel
set_option maxRecDepth 20000 in
theorem ggX1_reach_X1_indexOf : GoodIn wsX1_reach wsX1_indexOf := goodIn_r _ [9, 10, 11, 12, 13, 8, 14, 15, 16, 17, 18, 19, 20, 21, 22] (by decide +kernel) (by decide +kernel)
set_option maxRecDepth 20000 in
theorem gX1_reach_X1_indexOf : GoodIn wsX1_reach (wsV RX1 84 RX1 yX1_indexOf wsX1_indexOf) := goodIn_app (goodIn_of _ (by decide +kernel)) ggX1_reach_X1_indexOf
theorem dX1_reach_0 : decode cX1_reach 0 = .ok (.aload_n 0, 1) := by decide +kernel
theorem dX1_reach_1 : decode cX1_reach 1 = .ok (.iload_n 1, 1) := by decide +kernel
theorem dX1_reach_2 : decode cX1_reach 2 = .ok (.iload_n 2, 1) := by decide +kernel
theorem dX1_reach_3 : decode cX1_reach 3 = .ok (.invokevirtual 84, 3) := by decide +kernel
theorem dX1_reach_6 : decode cX1_reach 6 = .ok (.istore 4, 2) := by decide +kernel
theorem dX1_reach_8 : decode cX1_reach 8 = .ok (.iload 4, 2) := by decide +kernel
theorem dX1_reach_10 : decode cX1_reach 10 = .ok (.iconst (-1), 1) := by decide +kernel
theorem dX1_reach_11 : decode cX1_reach 11 = .ok (.if_icmp .eq 36, 3) := by decide +kernel
theorem dX1_reach_14 : decode cX1_reach 14 = .ok (.aload_n 0, 1) := by decide +kernel
theorem dX1_reach_15 : decode cX1_reach 15 = .ok (.getfield 34, 3) := by decide +kernel
theorem dX1_reach_18 : decode cX1_reach 18 = .ok (.iload 4, 2) := by decide +kernel
theorem dX1_reach_20 : decode cX1_reach 20 = .ok (.baload, 1) := by decide +kernel
theorem dX1_reach_21 : decode cX1_reach 21 = .ok (.ifCond .ne 26, 3) := by decide +kernel
theorem dX1_reach_24 : decode cX1_reach 24 = .ok (.aload_n 0, 1) := by decide +kernel
theorem dX1_reach_25 : decode cX1_reach 25 = .ok (.getfield 20, 3) := by decide +kernel
theorem dX1_reach_28 : decode cX1_reach 28 = .ok (.iload 4, 2) := by decide +kernel
theorem dX1_reach_30 : decode cX1_reach 30 = .ok (.iaload, 1) := by decide +kernel
theorem dX1_reach_31 : decode cX1_reach 31 = .ok (.iload_n 3, 1) := by decide +kernel
theorem dX1_reach_32 : decode cX1_reach 32 = .ok (.if_icmp .ne 15, 3) := by decide +kernel
theorem dX1_reach_35 : decode cX1_reach 35 = .ok (.aload_n 0, 1) := by decide +kernel
theorem dX1_reach_36 : decode cX1_reach 36 = .ok (.getfield 41, 3) := by decide +kernel
theorem dX1_reach_39 : decode cX1_reach 39 = .ok (.aload_n 0, 1) := by decide +kernel
theorem dX1_reach_40 : decode cX1_reach 40 = .ok (.getfield 38, 3) := by decide +kernel
theorem dX1_reach_43 : decode cX1_reach 43 = .ok (.arraylength, 1) := by decide +kernel
theorem dX1_reach_44 : decode cX1_reach 44 = .ok (.if_icmp .lt 4, 3) := by decide +kernel
theorem dX1_reach_47 : decode cX1_reach 47 = .ok (.return_, 1) := by decide +kernel
theorem dX1_reach_48 : decode cX1_reach 48 = .ok (.aload_n 0, 1) := by decide +kernel
theorem dX1_reach_49 : decode cX1_reach 49 = .ok (.getfield 34, 3) := by decide +kernel
theorem dX1_reach_52 : decode cX1_reach 52 = .ok (.iload 4, 2) := by decide +kernel
theorem dX1_reach_54 : decode cX1_reach 54 = .ok (.iconst 1, 1) := by decide +kernel
theorem dX1_reach_55 : decode cX1_reach 55 = .ok (.bastore, 1) := by decide +kernel
theorem dX1_reach_56 : decode cX1_reach 56 = .ok (.aload_n 0, 1) := by decide +kernel
theorem dX1_reach_57 : decode cX1_reach 57 = .ok (.getfield 38, 3) := by decide +kernel
theorem dX1_reach_60 : decode cX1_reach 60 = .ok (.aload_n 0, 1) := by decide +kernel
theorem dX1_reach_61 : decode cX1_reach 61 = .ok (.getfield 41, 3) := by decide +kernel
theorem dX1_reach_64 : decode cX1_reach 64 = .ok (.iload 4, 2) := by decide +kernel
theorem dX1_reach_66 : decode cX1_reach 66 = .ok (.iastore, 1) := by decide +kernel
theorem dX1_reach_67 : decode cX1_reach 67 = .ok (.aload_n 0, 1) := by decide +kernel
theorem dX1_reach_68 : decode cX1_reach 68 = .ok (.dup, 1) := by decide +kernel
theorem dX1_reach_69 : decode cX1_reach 69 = .ok (.getfield 41, 3) := by decide +kernel
theorem dX1_reach_72 : decode cX1_reach 72 = .ok (.iconst 1, 1) := by decide +kernel
theorem dX1_reach_73 : decode cX1_reach 73 = .ok (.iadd, 1) := by decide +kernel
theorem dX1_reach_74 : decode cX1_reach 74 = .ok (.putfield 41, 3) := by decide +kernel
theorem dX1_reach_77 : decode cX1_reach 77 = .ok (.return_, 1) := by decide +kernel
end
section
theorem dX2_init_0 : decode cX2_init 0 = .ok (.aload_n 0, 1) := by decide +kernel
theorem dX2_init_1 : decode cX2_init 1 = .ok (.invokespecial 1, 3) := by decide +kernel
theorem dX2_init_4 : decode cX2_init 4 = .ok (.aload_n 0, 1) := by decide +kernel
theorem dX2_init_5 : decode cX2_init 5 = .ok (.sipush 576, 3) := by decide +kernel
theorem dX2_init_8 : decode cX2_init 8 = .ok (.newarray .int, 2) := by decide +kernel
theorem dX2_init_10 : decode cX2_init 10 = .ok (.putfield 7, 3) := by decide +kernel
theorem dX2_init_13 : decode cX2_init 13 = .ok (.aload_n 0, 1) := by decide +kernel
theorem dX2_init_14 : decode cX2_init 14 = .ok (.sipush 576, 3) := by decide +kernel
theorem dX2_init_17 : decode cX2_init 17 = .ok (.newarray .int, 2) := by decide +kernel
theorem dX2_init_19 : decode cX2_init 19 = .ok (.putfield 13, 3) := by decide +kernel
theorem dX2_init_22 : decode cX2_init 22 = .ok (.aload_n 0, 1) := by decide +kernel
theorem dX2_init_23 : decode cX2_init 23 = .ok (.iconst 3, 1) := by decide +kernel
theorem dX2_init_24 : decode cX2_init 24 = .ok (.newarray .int, 2) := by decide +kernel
theorem dX2_init_26 : decode cX2_init 26 = .ok (.putfield 16, 3) := by decide +kernel
theorem dX2_init_29 : decode cX2_init 29 = .ok (.aload_n 0, 1) := by decide +kernel
theorem dX2_init_30 : decode cX2_init 30 = .ok (.iconst 3, 1) := by decide +kernel
theorem dX2_init_31 : decode cX2_init 31 = .ok (.newarray .int, 2) := by decide +kernel
theorem dX2_init_33 : decode cX2_init 33 = .ok (.putfield 19, 3) := by decide +kernel
theorem dX2_init_36 : decode cX2_init 36 = .ok (.aload_n 0, 1) := by decide +kernel
theorem dX2_init_37 : decode cX2_init 37 = .ok (.iconst 3, 1) := by decide +kernel
theorem dX2_init_38 : decode cX2_init 38 = .ok (.newarray .int, 2) := by decide +kernel
theorem dX2_init_40 : decode cX2_init 40 = .ok (.putfield 22, 3) := by decide +kernel
theorem dX2_init_43 : decode cX2_init 43 = .ok (.aload_n 0, 1) := by decide +kernel
theorem dX2_init_44 : decode cX2_init 44 = .ok (.sipush 576, 3) := by decide +kernel
theorem dX2_init_47 : decode cX2_init 47 = .ok (.newarray .boolean, 2) := by decide +kernel
theorem dX2_init_49 : decode cX2_init 49 = .ok (.putfield 25, 3) := by decide +kernel
theorem dX2_init_52 : decode cX2_init 52 = .ok (.aload_n 0, 1) := by decide +kernel
theorem dX2_init_53 : decode cX2_init 53 = .ok (.iload_n 1, 1) := by decide +kernel
theorem dX2_init_54 : decode cX2_init 54 = .ok (.iconst 1, 1) := by decide +kernel
theorem dX2_init_55 : decode cX2_init 55 = .ok (.if_icmp .lt 13, 3) := by decide +kernel
theorem dX2_init_58 : decode cX2_init 58 = .ok (.iload_n 1, 1) := by decide +kernel
theorem dX2_init_59 : decode cX2_init 59 = .ok (.bipush 24, 2) := by decide +kernel
theorem dX2_init_61 : decode cX2_init 61 = .ok (.if_icmp .gt 7, 3) := by decide +kernel
theorem dX2_init_64 : decode cX2_init 64 = .ok (.iload_n 1, 1) := by decide +kernel
theorem dX2_init_65 : decode cX2_init 65 = .ok (.goto 4, 3) := by decide +kernel
theorem dX2_init_68 : decode cX2_init 68 = .ok (.iconst 1, 1) := by decide +kernel
theorem dX2_init_69 : decode cX2_init 69 = .ok (.putfield 29, 3) := by decide +kernel
theorem dX2_init_72 : decode cX2_init 72 = .ok (.aload_n 0, 1) := by decide +kernel
theorem dX2_init_73 : decode cX2_init 73 = .ok (.iload_n 2, 1) := by decide +kernel
theorem dX2_init_74 : decode cX2_init 74 = .ok (.iconst 1, 1) := by decide +kernel
theorem dX2_init_75 : decode cX2_init 75 = .ok (.if_icmp .lt 13, 3) := by decide +kernel
theorem dX2_init_78 : decode cX2_init 78 = .ok (.iload_n 2, 1) := by decide +kernel
theorem dX2_init_79 : decode cX2_init 79 = .ok (.bipush 24, 2) := by decide +kernel
theorem dX2_init_81 : decode cX2_init 81 = .ok (.if_icmp .gt 7, 3) := by decide +kernel
theorem dX2_init_84 : decode cX2_init 84 = .ok (.iload_n 2, 1) := by decide +kernel
theorem dX2_init_85 : decode cX2_init 85 = .ok (.goto 4, 3) := by decide +kernel
theorem dX2_init_88 : decode cX2_init 88 = .ok (.iconst 1, 1) := by decide +kernel
theorem dX2_init_89 : decode cX2_init 89 = .ok (.putfield 33, 3) := by decide +kernel
theorem dX2_init_92 : decode cX2_init 92 = .ok (.return_, 1) := by decide +kernel
theorem dX2_isPixel_0 : decode cX2_isPixel 0 = .ok (.iload_n 1, 1) := by decide +kernel
theorem dX2_isPixel_1 : decode cX2_isPixel 1 = .ok (.ifCond .lt 27, 3) := by decide +kernel
theorem dX2_isPixel_4 : decode cX2_isPixel 4 = .ok (.iload_n 1, 1) := by decide +kernel
theorem dX2_isPixel_5 : decode cX2_isPixel 5 = .ok (.aload_n 0, 1) := by decide +kernel
theorem dX2_isPixel_6 : decode cX2_isPixel 6 = .ok (.getfield 29, 3) := by decide +kernel
theorem dX2_isPixel_9 : decode cX2_isPixel 9 = .ok (.if_icmp .ge 19, 3) := by decide +kernel
theorem dX2_isPixel_12 : decode cX2_isPixel 12 = .ok (.iload_n 2, 1) := by decide +kernel
theorem dX2_isPixel_13 : decode cX2_isPixel 13 = .ok (.ifCond .lt 15, 3) := by decide +kernel
theorem dX2_isPixel_16 : decode cX2_isPixel 16 = .ok (.iload_n 2, 1) := by decide +kernel
theorem dX2_isPixel_17 : decode cX2_isPixel 17 = .ok (.aload_n 0, 1) := by decide +kernel
theorem dX2_isPixel_18 : decode cX2_isPixel 18 = .ok (.getfield 33, 3) := by decide +kernel
theorem dX2_isPixel_21 : decode cX2_isPixel 21 = .ok (.if_icmp .ge 7, 3) := by decide +kernel
theorem dX2_isPixel_24 : decode cX2_isPixel 24 = .ok (.iconst 1, 1) := by decide +kernel
theorem dX2_isPixel_25 : decode cX2_isPixel 25 = .ok (.goto 4, 3) := by decide +kernel
theorem dX2_isPixel_28 : decode cX2_isPixel 28 = .ok (.iconst 0, 1) := by decide +kernel
theorem dX2_isPixel_29 : decode cX2_isPixel 29 = .ok (.ireturn, 1) := by decide +kernel
theorem dX2_clear_0 : decode cX2_clear 0 = .ok (.iload_n 2, 1) := by decide +kernel
theorem dX2_clear_1 : decode cX2_clear 1 = .ok (.ifCond .lt 9, 3) := by decide +kernel
theorem dX2_clear_4 : decode cX2_clear 4 = .ok (.iload_n 2, 1) := by decide +kernel
theorem dX2_clear_5 : decode cX2_clear 5 = .ok (.ldc 36, 2) := by decide +kernel
theorem dX2_clear_7 : decode cX2_clear 7 = .ok (.if_icmp .le 5, 3) := by decide +kernel
theorem dX2_clear_10 : decode cX2_clear 10 = .ok (.iconst 0, 1) := by decide +kernel
theorem dX2_clear_11 : decode cX2_clear 11 = .ok (.ireturn, 1) := by decide +kernel
theorem dX2_clear_12 : decode cX2_clear 12 = .ok (.iconst 0, 1) := by decide +kernel
theorem dX2_clear_13 : decode cX2_clear 13 = .ok (.istore_n 3, 1) := by decide +kernel
theorem dX2_clear_14 : decode cX2_clear 14 = .ok (.iload_n 3, 1) := by decide +kernel
theorem dX2_clear_15 : decode cX2_clear 15 = .ok (.sipush 576, 3) := by decide +kernel
theorem dX2_clear_18 : decode cX2_clear 18 = .ok (.if_icmp .ge 23, 3) := by decide +kernel
theorem dX2_clear_21 : decode cX2_clear 21 = .ok (.aload_n 0, 1) := by decide +kernel
theorem dX2_clear_22 : decode cX2_clear 22 = .ok (.getfield 7, 3) := by decide +kernel
theorem dX2_clear_25 : decode cX2_clear 25 = .ok (.iload_n 3, 1) := by decide +kernel
theorem dX2_clear_26 : decode cX2_clear 26 = .ok (.iload_n 1, 1) := by decide +kernel
theorem dX2_clear_27 : decode cX2_clear 27 = .ok (.iastore, 1) := by decide +kernel
theorem dX2_clear_28 : decode cX2_clear 28 = .ok (.aload_n 0, 1) := by decide +kernel
theorem dX2_clear_29 : decode cX2_clear 29 = .ok (.getfield 13, 3) := by decide +kernel
theorem dX2_clear_32 : decode cX2_clear 32 = .ok (.iload_n 3, 1) := by decide +kernel
theorem dX2_clear_33 : decode cX2_clear 33 = .ok (.iload_n 2, 1) := by decide +kernel
theorem dX2_clear_34 : decode cX2_clear 34 = .ok (.iastore, 1) := by decide +kernel
theorem dX2_clear_35 : decode cX2_clear 35 = .ok (.iinc 3 1, 3) := by decide +kernel
theorem dX2_clear_38 : decode cX2_clear 38 = .ok (.goto (-24), 3) := by decide +kernel
theorem dX2_clear_41 : decode cX2_clear 41 = .ok (.iconst 1, 1) := by decide +kernel
theorem dX2_clear_42 : decode cX2_clear 42 = .ok (.ireturn, 1) := by decide +kernel
theorem dX2_isFar_0 : decode cX2_isFar 0 = .ok (.iload_n 0, 1) := by decide +kernel
theorem dX2_isFar_1 : decode cX2_isFar 1 = .ok (.sipush (-16384), 3) := by decide +kernel
theorem dX2_isFar_4 : decode cX2_isFar 4 = .ok (.if_icmp .lt 10, 3) := by decide +kernel
theorem dX2_isFar_7 : decode cX2_isFar 7 = .ok (.iload_n 0, 1) := by decide +kernel
theorem dX2_isFar_8 : decode cX2_isFar 8 = .ok (.sipush 16384, 3) := by decide +kernel
theorem dX2_isFar_11 : decode cX2_isFar 11 = .ok (.if_icmp .le 7, 3) := by decide +kernel
theorem dX2_isFar_14 : decode cX2_isFar 14 = .ok (.iconst 1, 1) := by decide +kernel
theorem dX2_isFar_15 : decode cX2_isFar 15 = .ok (.goto 4, 3) := by decide +kernel
theorem dX2_isFar_18 : decode cX2_isFar 18 = .ok (.iconst 0, 1) := by decide +kernel
theorem dX2_isFar_19 : decode cX2_isFar 19 = .ok (.ireturn, 1) := by decide +kernel
set_option maxRecDepth 20000 in
theorem ggX2_vertex_X2_isFar : GoodIn wsX2_vertex wsX2_isFar := goodIn_r _ [8] (by decide +kernel) (by decide +kernel)
set_option maxRecDepth 20000 in
theorem gX2_vertex_X2_isFar : GoodIn wsX2_vertex (va_wsS RX2 37 yX2_isFar wsX2_isFar) := goodIn_app (goodIn_of _ (by decide +kernel)) ggX2_vertex_X2_isFar
theorem dX2_vertex_0 : decode cX2_vertex 0 = .ok (.iload_n 1, 1) := by decide +kernel
theorem dX2_vertex_1 : decode cX2_vertex 1 = .ok (.ifCond .lt 34, 3) := by decide +kernel
theorem dX2_vertex_4 : decode cX2_vertex 4 = .ok (.iload_n 1, 1) := by decide +kernel
theorem dX2_vertex_5 : decode cX2_vertex 5 = .ok (.iconst 2, 1) := by decide +kernel
theorem dX2_vertex_6 : decode cX2_vertex 6 = .ok (.if_icmp .gt 29, 3) := by decide +kernel
theorem dX2_vertex_9 : decode cX2_vertex 9 = .ok (.iload_n 2, 1) := by decide +kernel
theorem dX2_vertex_10 : decode cX2_vertex 10 = .ok (.invokestatic 37, 3) := by decide +kernel
theorem dX2_vertex_13 : decode cX2_vertex 13 = .ok (.ifCond .ne 22, 3) := by decide +kernel
theorem dX2_vertex_16 : decode cX2_vertex 16 = .ok (.iload_n 3, 1) := by decide +kernel
theorem dX2_vertex_17 : decode cX2_vertex 17 = .ok (.invokestatic 37, 3) := by decide +kernel
theorem dX2_vertex_20 : decode cX2_vertex 20 = .ok (.ifCond .ne 15, 3) := by decide +kernel
theorem dX2_vertex_23 : decode cX2_vertex 23 = .ok (.iload 4, 2) := by decide +kernel
theorem dX2_vertex_25 : decode cX2_vertex 25 = .ok (.ifCond .lt 10, 3) := by decide +kernel
theorem dX2_vertex_28 : decode cX2_vertex 28 = .ok (.iload 4, 2) := by decide +kernel
theorem dX2_vertex_30 : decode cX2_vertex 30 = .ok (.ldc 41, 2) := by decide +kernel
theorem dX2_vertex_32 : decode cX2_vertex 32 = .ok (.if_icmp .le 5, 3) := by decide +kernel
theorem dX2_vertex_35 : decode cX2_vertex 35 = .ok (.iconst 0, 1) := by decide +kernel
theorem dX2_vertex_36 : decode cX2_vertex 36 = .ok (.ireturn, 1) := by decide +kernel
theorem dX2_vertex_37 : decode cX2_vertex 37 = .ok (.aload_n 0, 1) := by decide +kernel
theorem dX2_vertex_38 : decode cX2_vertex 38 = .ok (.getfield 16, 3) := by decide +kernel
theorem dX2_vertex_41 : decode cX2_vertex 41 = .ok (.iload_n 1, 1) := by decide +kernel
theorem dX2_vertex_42 : decode cX2_vertex 42 = .ok (.iload_n 2, 1) := by decide +kernel
theorem dX2_vertex_43 : decode cX2_vertex 43 = .ok (.iastore, 1) := by decide +kernel
theorem dX2_vertex_44 : decode cX2_vertex 44 = .ok (.aload_n 0, 1) := by decide +kernel
theorem dX2_vertex_45 : decode cX2_vertex 45 = .ok (.getfield 19, 3) := by decide +kernel
theorem dX2_vertex_48 : decode cX2_vertex 48 = .ok (.iload_n 1, 1) := by decide +kernel
theorem dX2_vertex_49 : decode cX2_vertex 49 = .ok (.iload_n 3, 1) := by decide +kernel
theorem dX2_vertex_50 : decode cX2_vertex 50 = .ok (.iastore, 1) := by decide +kernel
theorem dX2_vertex_51 : decode cX2_vertex 51 = .ok (.aload_n 0, 1) := by decide +kernel
theorem dX2_vertex_52 : decode cX2_vertex 52 = .ok (.getfield 22, 3) := by decide +kernel
theorem dX2_vertex_55 : decode cX2_vertex 55 = .ok (.iload_n 1, 1) := by decide +kernel
theorem dX2_vertex_56 : decode cX2_vertex 56 = .ok (.iload 4, 2) := by decide +kernel
theorem dX2_vertex_58 : decode cX2_vertex 58 = .ok (.iastore, 1) := by decide +kernel
theorem dX2_vertex_59 : decode cX2_vertex 59 = .ok (.iconst 1, 1) := by decide +kernel
theorem dX2_vertex_60 : decode cX2_vertex 60 = .ok (.ireturn, 1) := by decide +kernel
theorem dX2_edge_0 : decode cX2_edge 0 = .ok (.aload_n 0, 1) := by decide +kernel
theorem dX2_edge_1 : decode cX2_edge 1 = .ok (.getfield 16, 3) := by decide +kernel
theorem dX2_edge_4 : decode cX2_edge 4 = .ok (.iload_n 2, 1) := by decide +kernel
theorem dX2_edge_5 : decode cX2_edge 5 = .ok (.iaload, 1) := by decide +kernel
theorem dX2_edge_6 : decode cX2_edge 6 = .ok (.aload_n 0, 1) := by decide +kernel
theorem dX2_edge_7 : decode cX2_edge 7 = .ok (.getfield 16, 3) := by decide +kernel
theorem dX2_edge_10 : decode cX2_edge 10 = .ok (.iload_n 1, 1) := by decide +kernel
theorem dX2_edge_11 : decode cX2_edge 11 = .ok (.iaload, 1) := by decide +kernel
theorem dX2_edge_12 : decode cX2_edge 12 = .ok (.isub, 1) := by decide +kernel
theorem dX2_edge_13 : decode cX2_edge 13 = .ok (.i2l, 1) := by decide +kernel
theorem dX2_edge_14 : decode cX2_edge 14 = .ok (.lload 5, 2) := by decide +kernel
theorem dX2_edge_16 : decode cX2_edge 16 = .ok (.aload_n 0, 1) := by decide +kernel
theorem dX2_edge_17 : decode cX2_edge 17 = .ok (.getfield 19, 3) := by decide +kernel
theorem dX2_edge_20 : decode cX2_edge 20 = .ok (.iload_n 1, 1) := by decide +kernel
theorem dX2_edge_21 : decode cX2_edge 21 = .ok (.iaload, 1) := by decide +kernel
theorem dX2_edge_22 : decode cX2_edge 22 = .ok (.i2l, 1) := by decide +kernel
theorem dX2_edge_23 : decode cX2_edge 23 = .ok (.lsub, 1) := by decide +kernel
theorem dX2_edge_24 : decode cX2_edge 24 = .ok (.lmul, 1) := by decide +kernel
theorem dX2_edge_25 : decode cX2_edge 25 = .ok (.aload_n 0, 1) := by decide +kernel
theorem dX2_edge_26 : decode cX2_edge 26 = .ok (.getfield 19, 3) := by decide +kernel
theorem dX2_edge_29 : decode cX2_edge 29 = .ok (.iload_n 2, 1) := by decide +kernel
theorem dX2_edge_30 : decode cX2_edge 30 = .ok (.iaload, 1) := by decide +kernel
theorem dX2_edge_31 : decode cX2_edge 31 = .ok (.aload_n 0, 1) := by decide +kernel
theorem dX2_edge_32 : decode cX2_edge 32 = .ok (.getfield 19, 3) := by decide +kernel
theorem dX2_edge_35 : decode cX2_edge 35 = .ok (.iload_n 1, 1) := by decide +kernel
theorem dX2_edge_36 : decode cX2_edge 36 = .ok (.iaload, 1) := by decide +kernel
theorem dX2_edge_37 : decode cX2_edge 37 = .ok (.isub, 1) := by decide +kernel
theorem dX2_edge_38 : decode cX2_edge 38 = .ok (.i2l, 1) := by decide +kernel
theorem dX2_edge_39 : decode cX2_edge 39 = .ok (.lload_n 3, 1) := by decide +kernel
theorem dX2_edge_40 : decode cX2_edge 40 = .ok (.aload_n 0, 1) := by decide +kernel
theorem dX2_edge_41 : decode cX2_edge 41 = .ok (.getfield 16, 3) := by decide +kernel
theorem dX2_edge_44 : decode cX2_edge 44 = .ok (.iload_n 1, 1) := by decide +kernel
theorem dX2_edge_45 : decode cX2_edge 45 = .ok (.iaload, 1) := by decide +kernel
theorem dX2_edge_46 : decode cX2_edge 46 = .ok (.i2l, 1) := by decide +kernel
theorem dX2_edge_47 : decode cX2_edge 47 = .ok (.lsub, 1) := by decide +kernel
theorem dX2_edge_48 : decode cX2_edge 48 = .ok (.lmul, 1) := by decide +kernel
theorem dX2_edge_49 : decode cX2_edge 49 = .ok (.lsub, 1) := by decide +kernel
theorem dX2_edge_50 : decode cX2_edge 50 = .ok (.lreturn, 1) := by decide +kernel
set_option maxRecDepth 20000 in
theorem ggX2_area_X2_edge : GoodIn wsX2_area wsX2_edge := goodIn_r _ [7, 1, 2, 8, 9, 10, 11, 12, 13, 14, 15] (by decide +kernel) (by decide +kernel)
set_option maxRecDepth 20000 in
theorem gX2_area_X2_edge : GoodIn wsX2_area (wsV RX2 42 RX2 yX2_edge wsX2_edge) := goodIn_app (goodIn_of _ (by decide +kernel)) ggX2_area_X2_edge
theorem dX2_area_0 : decode cX2_area 0 = .ok (.aload_n 0, 1) := by decide +kernel
theorem dX2_area_1 : decode cX2_area 1 = .ok (.iconst 0, 1) := by decide +kernel
theorem dX2_area_2 : decode cX2_area 2 = .ok (.iconst 1, 1) := by decide +kernel
theorem dX2_area_3 : decode cX2_area 3 = .ok (.aload_n 0, 1) := by decide +kernel
theorem dX2_area_4 : decode cX2_area 4 = .ok (.getfield 16, 3) := by decide +kernel
theorem dX2_area_7 : decode cX2_area 7 = .ok (.iconst 2, 1) := by decide +kernel
theorem dX2_area_8 : decode cX2_area 8 = .ok (.iaload, 1) := by decide +kernel
theorem dX2_area_9 : decode cX2_area 9 = .ok (.i2l, 1) := by decide +kernel
theorem dX2_area_10 : decode cX2_area 10 = .ok (.aload_n 0, 1) := by decide +kernel
theorem dX2_area_11 : decode cX2_area 11 = .ok (.getfield 19, 3) := by decide +kernel
theorem dX2_area_14 : decode cX2_area 14 = .ok (.iconst 2, 1) := by decide +kernel
theorem dX2_area_15 : decode cX2_area 15 = .ok (.iaload, 1) := by decide +kernel
theorem dX2_area_16 : decode cX2_area 16 = .ok (.i2l, 1) := by decide +kernel
theorem dX2_area_17 : decode cX2_area 17 = .ok (.invokevirtual 42, 3) := by decide +kernel
theorem dX2_area_20 : decode cX2_area 20 = .ok (.lreturn, 1) := by decide +kernel
theorem dX2_isTopOrLeft_0 : decode cX2_isTopOrLeft 0 = .ok (.aload_n 0, 1) := by decide +kernel
theorem dX2_isTopOrLeft_1 : decode cX2_isTopOrLeft 1 = .ok (.getfield 19, 3) := by decide +kernel
theorem dX2_isTopOrLeft_4 : decode cX2_isTopOrLeft 4 = .ok (.iload_n 1, 1) := by decide +kernel
theorem dX2_isTopOrLeft_5 : decode cX2_isTopOrLeft 5 = .ok (.iaload, 1) := by decide +kernel
theorem dX2_isTopOrLeft_6 : decode cX2_isTopOrLeft 6 = .ok (.aload_n 0, 1) := by decide +kernel
theorem dX2_isTopOrLeft_7 : decode cX2_isTopOrLeft 7 = .ok (.getfield 19, 3) := by decide +kernel
theorem dX2_isTopOrLeft_10 : decode cX2_isTopOrLeft 10 = .ok (.iload_n 2, 1) := by decide +kernel
theorem dX2_isTopOrLeft_11 : decode cX2_isTopOrLeft 11 = .ok (.iaload, 1) := by decide +kernel
theorem dX2_isTopOrLeft_12 : decode cX2_isTopOrLeft 12 = .ok (.if_icmp .ne 18, 3) := by decide +kernel
theorem dX2_isTopOrLeft_15 : decode cX2_isTopOrLeft 15 = .ok (.aload_n 0, 1) := by decide +kernel
theorem dX2_isTopOrLeft_16 : decode cX2_isTopOrLeft 16 = .ok (.getfield 16, 3) := by decide +kernel
theorem dX2_isTopOrLeft_19 : decode cX2_isTopOrLeft 19 = .ok (.iload_n 2, 1) := by decide +kernel
theorem dX2_isTopOrLeft_20 : decode cX2_isTopOrLeft 20 = .ok (.iaload, 1) := by decide +kernel
theorem dX2_isTopOrLeft_21 : decode cX2_isTopOrLeft 21 = .ok (.aload_n 0, 1) := by decide +kernel
theorem dX2_isTopOrLeft_22 : decode cX2_isTopOrLeft 22 = .ok (.getfield 16, 3) := by decide +kernel
theorem dX2_isTopOrLeft_25 : decode cX2_isTopOrLeft 25 = .ok (.iload_n 1, 1) := by decide +kernel
theorem dX2_isTopOrLeft_26 : decode cX2_isTopOrLeft 26 = .ok (.iaload, 1) := by decide +kernel
theorem dX2_isTopOrLeft_27 : decode cX2_isTopOrLeft 27 = .ok (.if_icmp .gt 18, 3) := by decide +kernel
theorem dX2_isTopOrLeft_30 : decode cX2_isTopOrLeft 30 = .ok (.aload_n 0, 1) := by decide +kernel
theorem dX2_isTopOrLeft_31 : decode cX2_isTopOrLeft 31 = .ok (.getfield 19, 3) := by decide +kernel
theorem dX2_isTopOrLeft_34 : decode cX2_isTopOrLeft 34 = .ok (.iload_n 2, 1) := by decide +kernel
theorem dX2_isTopOrLeft_35 : decode cX2_isTopOrLeft 35 = .ok (.iaload, 1) := by decide +kernel
theorem dX2_isTopOrLeft_36 : decode cX2_isTopOrLeft 36 = .ok (.aload_n 0, 1) := by decide +kernel
theorem dX2_isTopOrLeft_37 : decode cX2_isTopOrLeft 37 = .ok (.getfield 19, 3) := by decide +kernel
theorem dX2_isTopOrLeft_40 : decode cX2_isTopOrLeft 40 = .ok (.iload_n 1, 1) := by decide +kernel
theorem dX2_isTopOrLeft_41 : decode cX2_isTopOrLeft 41 = .ok (.iaload, 1) := by decide +kernel
theorem dX2_isTopOrLeft_42 : decode cX2_isTopOrLeft 42 = .ok (.if_icmp .ge 7, 3) := by decide +kernel
theorem dX2_isTopOrLeft_45 : decode cX2_isTopOrLeft 45 = .ok (.iconst 1, 1) := by decide +kernel
theorem dX2_isTopOrLeft_46 : decode cX2_isTopOrLeft 46 = .ok (.goto 4, 3) := by decide +kernel
theorem dX2_isTopOrLeft_49 : decode cX2_isTopOrLeft 49 = .ok (.iconst 0, 1) := by decide +kernel
theorem dX2_isTopOrLeft_50 : decode cX2_isTopOrLeft 50 = .ok (.ireturn, 1) := by decide +kernel
set_option maxRecDepth 20000 in
theorem ggX2_isInside_X2_edge : GoodIn wsX2_isInside wsX2_edge := goodIn_r _ [5, 6, 7, 12, 13, 14, 15, 16, 17, 18, 19] (by decide +kernel) (by decide +kernel)
set_option maxRecDepth 20000 in
theorem gX2_isInside_X2_edge : GoodIn wsX2_isInside (wsV RX2 42 RX2 yX2_edge wsX2_edge) := goodIn_app (goodIn_of _ (by decide +kernel)) ggX2_isInside_X2_edge
set_option maxRecDepth 20000 in
theorem ggX2_isInside_X2_isTopOrLeft : GoodIn wsX2_isInside wsX2_isTopOrLeft := goodIn_r _ [11, 7, 6, 12, 13, 14, 15, 16, 17, 18, 19] (by decide +kernel) (by decide +kernel)
set_option maxRecDepth 20000 in
theorem gX2_isInside_X2_isTopOrLeft : GoodIn wsX2_isInside (wsV RX2 46 RX2 yX2_isTopOrLeft wsX2_isTopOrLeft) := goodIn_app (goodIn_of _ (by decide +kernel)) ggX2_isInside_X2_isTopOrLeft
theorem dX2_isInside_0 : decode cX2_isInside 0 = .ok (.aload_n 0, 1) := by decide +kernel
theorem dX2_isInside_1 : decode cX2_isInside 1 = .ok (.iload_n 1, 1) := by decide +kernel
theorem dX2_isInside_2 : decode cX2_isInside 2 = .ok (.iload_n 2, 1) := by decide +kernel
theorem dX2_isInside_3 : decode cX2_isInside 3 = .ok (.lload_n 3, 1) := by decide +kernel
theorem dX2_isInside_4 : decode cX2_isInside 4 = .ok (.lload 5, 2) := by decide +kernel
theorem dX2_isInside_6 : decode cX2_isInside 6 = .ok (.invokevirtual 42, 3) := by decide +kernel
theorem dX2_isInside_9 : decode cX2_isInside 9 = .ok (.lstore 7, 2) := by decide +kernel
theorem dX2_isInside_11 : decode cX2_isInside 11 = .ok (.lload 7, 2) := by decide +kernel
theorem dX2_isInside_13 : decode cX2_isInside 13 = .ok (.lconst 0, 1) := by decide +kernel
theorem dX2_isInside_14 : decode cX2_isInside 14 = .ok (.lcmp, 1) := by decide +kernel
theorem dX2_isInside_15 : decode cX2_isInside 15 = .ok (.ifCond .gt 19, 3) := by decide +kernel
theorem dX2_isInside_18 : decode cX2_isInside 18 = .ok (.lload 7, 2) := by decide +kernel
theorem dX2_isInside_20 : decode cX2_isInside 20 = .ok (.lconst 0, 1) := by decide +kernel
theorem dX2_isInside_21 : decode cX2_isInside 21 = .ok (.lcmp, 1) := by decide +kernel
theorem dX2_isInside_22 : decode cX2_isInside 22 = .ok (.ifCond .ne 16, 3) := by decide +kernel
theorem dX2_isInside_25 : decode cX2_isInside 25 = .ok (.aload_n 0, 1) := by decide +kernel
theorem dX2_isInside_26 : decode cX2_isInside 26 = .ok (.iload_n 1, 1) := by decide +kernel
theorem dX2_isInside_27 : decode cX2_isInside 27 = .ok (.iload_n 2, 1) := by decide +kernel
theorem dX2_isInside_28 : decode cX2_isInside 28 = .ok (.invokevirtual 46, 3) := by decide +kernel
theorem dX2_isInside_31 : decode cX2_isInside 31 = .ok (.ifCond .eq 7, 3) := by decide +kernel
theorem dX2_isInside_34 : decode cX2_isInside 34 = .ok (.iconst 1, 1) := by decide +kernel
theorem dX2_isInside_35 : decode cX2_isInside 35 = .ok (.goto 4, 3) := by decide +kernel
theorem dX2_isInside_38 : decode cX2_isInside 38 = .ok (.iconst 0, 1) := by decide +kernel
theorem dX2_isInside_39 : decode cX2_isInside 39 = .ok (.ireturn, 1) := by decide +kernel
set_option maxRecDepth 20000 in
theorem ggX2_isCovered_X2_area : GoodIn wsX2_isCovered wsX2_area := goodIn_r _ [7, 8, 9, 10, 11, 12, 6, 13, 22, 23, 24, 25, 26, 27, 28, 29] (by decide +kernel) (by decide +kernel)
set_option maxRecDepth 20000 in
theorem gX2_isCovered_X2_area : GoodIn wsX2_isCovered (wsV RX2 54 RX2 yX2_area wsX2_area) := goodIn_app (goodIn_of _ (by decide +kernel)) ggX2_isCovered_X2_area
set_option maxRecDepth 20000 in
theorem ggX2_isCovered_X2_isInside : GoodIn wsX2_isCovered wsX2_isInside := goodIn_r _ [17, 10, 11, 12, 6, 13, 8, 9, 18, 19, 20, 21, 22, 23, 24, 25, 26, 27, 28, 29] (by decide +kernel) (by decide +kernel)
set_option maxRecDepth 20000 in
theorem gX2_isCovered_X2_isInside : GoodIn wsX2_isCovered (wsV RX2 58 RX2 yX2_isInside wsX2_isInside) := goodIn_app (goodIn_of _ (by decide +kernel)) ggX2_isCovered_X2_isInside
theorem dX2_isCovered_0 : decode cX2_isCovered 0 = .ok (.ldc2_w 50, 3) := by decide +kernel
theorem dX2_isCovered_3 : decode cX2_isCovered 3 = .ok (.iload_n 1, 1) := by decide +kernel
theorem dX2_isCovered_4 : decode cX2_isCovered 4 = .ok (.i2l, 1) := by decide +kernel
theorem dX2_isCovered_5 : decode cX2_isCovered 5 = .ok (.lmul, 1) := by decide +kernel
theorem dX2_isCovered_6 : decode cX2_isCovered 6 = .ok (.ldc2_w 52, 3) := by decide +kernel
theorem dX2_isCovered_9 : decode cX2_isCovered 9 = .ok (.ladd, 1) := by decide +kernel
theorem dX2_isCovered_10 : decode cX2_isCovered 10 = .ok (.lstore_n 3, 1) := by decide +kernel
theorem dX2_isCovered_11 : decode cX2_isCovered 11 = .ok (.ldc2_w 50, 3) := by decide +kernel
theorem dX2_isCovered_14 : decode cX2_isCovered 14 = .ok (.iload_n 2, 1) := by decide +kernel
theorem dX2_isCovered_15 : decode cX2_isCovered 15 = .ok (.i2l, 1) := by decide +kernel
theorem dX2_isCovered_16 : decode cX2_isCovered 16 = .ok (.lmul, 1) := by decide +kernel
theorem dX2_isCovered_17 : decode cX2_isCovered 17 = .ok (.ldc2_w 52, 3) := by decide +kernel
theorem dX2_isCovered_20 : decode cX2_isCovered 20 = .ok (.ladd, 1) := by decide +kernel
theorem dX2_isCovered_21 : decode cX2_isCovered 21 = .ok (.lstore 5, 2) := by decide +kernel
theorem dX2_isCovered_23 : decode cX2_isCovered 23 = .ok (.aload_n 0, 1) := by decide +kernel
theorem dX2_isCovered_24 : decode cX2_isCovered 24 = .ok (.invokevirtual 54, 3) := by decide +kernel
theorem dX2_isCovered_27 : decode cX2_isCovered 27 = .ok (.lstore 7, 2) := by decide +kernel
theorem dX2_isCovered_29 : decode cX2_isCovered 29 = .ok (.lload 7, 2) := by decide +kernel
theorem dX2_isCovered_31 : decode cX2_isCovered 31 = .ok (.lconst 0, 1) := by decide +kernel
theorem dX2_isCovered_32 : decode cX2_isCovered 32 = .ok (.lcmp, 1) := by decide +kernel
theorem dX2_isCovered_33 : decode cX2_isCovered 33 = .ok (.ifCond .le 45, 3) := by decide +kernel
theorem dX2_isCovered_36 : decode cX2_isCovered 36 = .ok (.aload_n 0, 1) := by decide +kernel
theorem dX2_isCovered_37 : decode cX2_isCovered 37 = .ok (.iconst 0, 1) := by decide +kernel
theorem dX2_isCovered_38 : decode cX2_isCovered 38 = .ok (.iconst 1, 1) := by decide +kernel
theorem dX2_isCovered_39 : decode cX2_isCovered 39 = .ok (.lload_n 3, 1) := by decide +kernel
theorem dX2_isCovered_40 : decode cX2_isCovered 40 = .ok (.lload 5, 2) := by decide +kernel
theorem dX2_isCovered_42 : decode cX2_isCovered 42 = .ok (.invokevirtual 58, 3) := by decide +kernel
theorem dX2_isCovered_45 : decode cX2_isCovered 45 = .ok (.ifCond .eq 31, 3) := by decide +kernel
theorem dX2_isCovered_48 : decode cX2_isCovered 48 = .ok (.aload_n 0, 1) := by decide +kernel
theorem dX2_isCovered_49 : decode cX2_isCovered 49 = .ok (.iconst 1, 1) := by decide +kernel
theorem dX2_isCovered_50 : decode cX2_isCovered 50 = .ok (.iconst 2, 1) := by decide +kernel
theorem dX2_isCovered_51 : decode cX2_isCovered 51 = .ok (.lload_n 3, 1) := by decide +kernel
theorem dX2_isCovered_52 : decode cX2_isCovered 52 = .ok (.lload 5, 2) := by decide +kernel
theorem dX2_isCovered_54 : decode cX2_isCovered 54 = .ok (.invokevirtual 58, 3) := by decide +kernel
theorem dX2_isCovered_57 : decode cX2_isCovered 57 = .ok (.ifCond .eq 19, 3) := by decide +kernel
theorem dX2_isCovered_60 : decode cX2_isCovered 60 = .ok (.aload_n 0, 1) := by decide +kernel
theorem dX2_isCovered_61 : decode cX2_isCovered 61 = .ok (.iconst 2, 1) := by decide +kernel
theorem dX2_isCovered_62 : decode cX2_isCovered 62 = .ok (.iconst 0, 1) := by decide +kernel
theorem dX2_isCovered_63 : decode cX2_isCovered 63 = .ok (.lload_n 3, 1) := by decide +kernel
theorem dX2_isCovered_64 : decode cX2_isCovered 64 = .ok (.lload 5, 2) := by decide +kernel
theorem dX2_isCovered_66 : decode cX2_isCovered 66 = .ok (.invokevirtual 58, 3) := by decide +kernel
theorem dX2_isCovered_69 : decode cX2_isCovered 69 = .ok (.ifCond .eq 7, 3) := by decide +kernel
theorem dX2_isCovered_72 : decode cX2_isCovered 72 = .ok (.iconst 1, 1) := by decide +kernel
theorem dX2_isCovered_73 : decode cX2_isCovered 73 = .ok (.goto 4, 3) := by decide +kernel
theorem dX2_isCovered_76 : decode cX2_isCovered 76 = .ok (.iconst 0, 1) := by decide +kernel
theorem dX2_isCovered_77 : decode cX2_isCovered 77 = .ok (.ireturn, 1) := by decide +kernel
theorem dX2_isCovered_78 : decode cX2_isCovered 78 = .ok (.lload 7, 2) := by decide +kernel
theorem dX2_isCovered_80 : decode cX2_isCovered 80 = .ok (.lconst 0, 1) := by decide +kernel
theorem dX2_isCovered_81 : decode cX2_isCovered 81 = .ok (.lcmp, 1) := by decide +kernel
theorem dX2_isCovered_82 : decode cX2_isCovered 82 = .ok (.ifCond .ge 43, 3) := by decide +kernel
theorem dX2_isCovered_85 : decode cX2_isCovered 85 = .ok (.aload_n 0, 1) := by decide +kernel
theorem dX2_isCovered_86 : decode cX2_isCovered 86 = .ok (.iconst 0, 1) := by decide +kernel
theorem dX2_isCovered_87 : decode cX2_isCovered 87 = .ok (.iconst 2, 1) := by decide +kernel
theorem dX2_isCovered_88 : decode cX2_isCovered 88 = .ok (.lload_n 3, 1) := by decide +kernel
theorem dX2_isCovered_89 : decode cX2_isCovered 89 = .ok (.lload 5, 2) := by decide +kernel
theorem dX2_isCovered_91 : decode cX2_isCovered 91 = .ok (.invokevirtual 58, 3) := by decide +kernel
theorem dX2_isCovered_94 : decode cX2_isCovered 94 = .ok (.ifCond .eq 31, 3) := by decide +kernel
theorem dX2_isCovered_97 : decode cX2_isCovered 97 = .ok (.aload_n 0, 1) := by decide +kernel
theorem dX2_isCovered_98 : decode cX2_isCovered 98 = .ok (.iconst 2, 1) := by decide +kernel
theorem dX2_isCovered_99 : decode cX2_isCovered 99 = .ok (.iconst 1, 1) := by decide +kernel
theorem dX2_isCovered_100 : decode cX2_isCovered 100 = .ok (.lload_n 3, 1) := by decide +kernel
theorem dX2_isCovered_101 : decode cX2_isCovered 101 = .ok (.lload 5, 2) := by decide +kernel
theorem dX2_isCovered_103 : decode cX2_isCovered 103 = .ok (.invokevirtual 58, 3) := by decide +kernel
theorem dX2_isCovered_106 : decode cX2_isCovered 106 = .ok (.ifCond .eq 19, 3) := by decide +kernel
theorem dX2_isCovered_109 : decode cX2_isCovered 109 = .ok (.aload_n 0, 1) := by decide +kernel
theorem dX2_isCovered_110 : decode cX2_isCovered 110 = .ok (.iconst 1, 1) := by decide +kernel
theorem dX2_isCovered_111 : decode cX2_isCovered 111 = .ok (.iconst 0, 1) := by decide +kernel
theorem dX2_isCovered_112 : decode cX2_isCovered 112 = .ok (.lload_n 3, 1) := by decide +kernel
theorem dX2_isCovered_113 : decode cX2_isCovered 113 = .ok (.lload 5, 2) := by decide +kernel
theorem dX2_isCovered_115 : decode cX2_isCovered 115 = .ok (.invokevirtual 58, 3) := by decide +kernel
theorem dX2_isCovered_118 : decode cX2_isCovered 118 = .ok (.ifCond .eq 7, 3) := by decide +kernel
theorem dX2_isCovered_121 : decode cX2_isCovered 121 = .ok (.iconst 1, 1) := by decide +kernel
theorem dX2_isCovered_122 : decode cX2_isCovered 122 = .ok (.goto 4, 3) := by decide +kernel
theorem dX2_isCovered_125 : decode cX2_isCovered 125 = .ok (.iconst 0, 1) := by decide +kernel
theorem dX2_isCovered_126 : decode cX2_isCovered 126 = .ok (.ireturn, 1) := by decide +kernel
set_option maxRecDepth 20000 in
theorem ggX2_depthOf_X2_edge : GoodIn wsX2_depthOf wsX2_edge := goodIn_r _ [8, 9, 10, 15, 16, 17, 18, 19, 20, 21, 22] (by decide +kernel) (by decide +kernel)
set_option maxRecDepth 20000 in
theorem gX2_depthOf_X2_edge : GoodIn wsX2_depthOf (wsV RX2 42 RX2 yX2_edge wsX2_edge) := goodIn_app (goodIn_of _ (by decide +kernel)) ggX2_depthOf_X2_edge
set_option maxRecDepth 20000 in
theorem ggX2_depthOf_X2_area : GoodIn wsX2_depthOf wsX2_area := goodIn_r _ [14, 9, 10, 4, 5, 6, 7, 8, 15, 16, 17, 18, 19, 20, 21, 22] (by decide +kernel) (by decide +kernel)
set_option maxRecDepth 20000 in
theorem gX2_depthOf_X2_area : GoodIn wsX2_depthOf (wsV RX2 54 RX2 yX2_area wsX2_area) := goodIn_app (goodIn_of _ (by decide +kernel)) ggX2_depthOf_X2_area
theorem dX2_depthOf_0 : decode cX2_depthOf 0 = .ok (.ldc2_w 50, 3) := by decide +kernel
theorem dX2_depthOf_3 : decode cX2_depthOf 3 = .ok (.iload_n 1, 1) := by decide +kernel
theorem dX2_depthOf_4 : decode cX2_depthOf 4 = .ok (.i2l, 1) := by decide +kernel
theorem dX2_depthOf_5 : decode cX2_depthOf 5 = .ok (.lmul, 1) := by decide +kernel
theorem dX2_depthOf_6 : decode cX2_depthOf 6 = .ok (.ldc2_w 52, 3) := by decide +kernel
theorem dX2_depthOf_9 : decode cX2_depthOf 9 = .ok (.ladd, 1) := by decide +kernel
theorem dX2_depthOf_10 : decode cX2_depthOf 10 = .ok (.lstore_n 3, 1) := by decide +kernel
theorem dX2_depthOf_11 : decode cX2_depthOf 11 = .ok (.ldc2_w 50, 3) := by decide +kernel
theorem dX2_depthOf_14 : decode cX2_depthOf 14 = .ok (.iload_n 2, 1) := by decide +kernel
theorem dX2_depthOf_15 : decode cX2_depthOf 15 = .ok (.i2l, 1) := by decide +kernel
theorem dX2_depthOf_16 : decode cX2_depthOf 16 = .ok (.lmul, 1) := by decide +kernel
theorem dX2_depthOf_17 : decode cX2_depthOf 17 = .ok (.ldc2_w 52, 3) := by decide +kernel
theorem dX2_depthOf_20 : decode cX2_depthOf 20 = .ok (.ladd, 1) := by decide +kernel
theorem dX2_depthOf_21 : decode cX2_depthOf 21 = .ok (.lstore 5, 2) := by decide +kernel
theorem dX2_depthOf_23 : decode cX2_depthOf 23 = .ok (.aload_n 0, 1) := by decide +kernel
theorem dX2_depthOf_24 : decode cX2_depthOf 24 = .ok (.iconst 1, 1) := by decide +kernel
theorem dX2_depthOf_25 : decode cX2_depthOf 25 = .ok (.iconst 2, 1) := by decide +kernel
theorem dX2_depthOf_26 : decode cX2_depthOf 26 = .ok (.lload_n 3, 1) := by decide +kernel
theorem dX2_depthOf_27 : decode cX2_depthOf 27 = .ok (.lload 5, 2) := by decide +kernel
theorem dX2_depthOf_29 : decode cX2_depthOf 29 = .ok (.invokevirtual 42, 3) := by decide +kernel
theorem dX2_depthOf_32 : decode cX2_depthOf 32 = .ok (.aload_n 0, 1) := by decide +kernel
theorem dX2_depthOf_33 : decode cX2_depthOf 33 = .ok (.getfield 22, 3) := by decide +kernel
theorem dX2_depthOf_36 : decode cX2_depthOf 36 = .ok (.iconst 0, 1) := by decide +kernel
theorem dX2_depthOf_37 : decode cX2_depthOf 37 = .ok (.iaload, 1) := by decide +kernel
theorem dX2_depthOf_38 : decode cX2_depthOf 38 = .ok (.i2l, 1) := by decide +kernel
theorem dX2_depthOf_39 : decode cX2_depthOf 39 = .ok (.lmul, 1) := by decide +kernel
theorem dX2_depthOf_40 : decode cX2_depthOf 40 = .ok (.aload_n 0, 1) := by decide +kernel
theorem dX2_depthOf_41 : decode cX2_depthOf 41 = .ok (.iconst 2, 1) := by decide +kernel
theorem dX2_depthOf_42 : decode cX2_depthOf 42 = .ok (.iconst 0, 1) := by decide +kernel
theorem dX2_depthOf_43 : decode cX2_depthOf 43 = .ok (.lload_n 3, 1) := by decide +kernel
theorem dX2_depthOf_44 : decode cX2_depthOf 44 = .ok (.lload 5, 2) := by decide +kernel
theorem dX2_depthOf_46 : decode cX2_depthOf 46 = .ok (.invokevirtual 42, 3) := by decide +kernel
theorem dX2_depthOf_49 : decode cX2_depthOf 49 = .ok (.aload_n 0, 1) := by decide +kernel
theorem dX2_depthOf_50 : decode cX2_depthOf 50 = .ok (.getfield 22, 3) := by decide +kernel
theorem dX2_depthOf_53 : decode cX2_depthOf 53 = .ok (.iconst 1, 1) := by decide +kernel
theorem dX2_depthOf_54 : decode cX2_depthOf 54 = .ok (.iaload, 1) := by decide +kernel
theorem dX2_depthOf_55 : decode cX2_depthOf 55 = .ok (.i2l, 1) := by decide +kernel
theorem dX2_depthOf_56 : decode cX2_depthOf 56 = .ok (.lmul, 1) := by decide +kernel
theorem dX2_depthOf_57 : decode cX2_depthOf 57 = .ok (.ladd, 1) := by decide +kernel
theorem dX2_depthOf_58 : decode cX2_depthOf 58 = .ok (.aload_n 0, 1) := by decide +kernel
theorem dX2_depthOf_59 : decode cX2_depthOf 59 = .ok (.iconst 0, 1) := by decide +kernel
theorem dX2_depthOf_60 : decode cX2_depthOf 60 = .ok (.iconst 1, 1) := by decide +kernel
theorem dX2_depthOf_61 : decode cX2_depthOf 61 = .ok (.lload_n 3, 1) := by decide +kernel
theorem dX2_depthOf_62 : decode cX2_depthOf 62 = .ok (.lload 5, 2) := by decide +kernel
theorem dX2_depthOf_64 : decode cX2_depthOf 64 = .ok (.invokevirtual 42, 3) := by decide +kernel
theorem dX2_depthOf_67 : decode cX2_depthOf 67 = .ok (.aload_n 0, 1) := by decide +kernel
theorem dX2_depthOf_68 : decode cX2_depthOf 68 = .ok (.getfield 22, 3) := by decide +kernel
theorem dX2_depthOf_71 : decode cX2_depthOf 71 = .ok (.iconst 2, 1) := by decide +kernel
theorem dX2_depthOf_72 : decode cX2_depthOf 72 = .ok (.iaload, 1) := by decide +kernel
theorem dX2_depthOf_73 : decode cX2_depthOf 73 = .ok (.i2l, 1) := by decide +kernel
theorem dX2_depthOf_74 : decode cX2_depthOf 74 = .ok (.lmul, 1) := by decide +kernel
theorem dX2_depthOf_75 : decode cX2_depthOf 75 = .ok (.ladd, 1) := by decide +kernel
theorem dX2_depthOf_76 : decode cX2_depthOf 76 = .ok (.lstore 7, 2) := by decide +kernel
theorem dX2_depthOf_78 : decode cX2_depthOf 78 = .ok (.lload 7, 2) := by decide +kernel
theorem dX2_depthOf_80 : decode cX2_depthOf 80 = .ok (.aload_n 0, 1) := by decide +kernel
theorem dX2_depthOf_81 : decode cX2_depthOf 81 = .ok (.invokevirtual 54, 3) := by decide +kernel
theorem dX2_depthOf_84 : decode cX2_depthOf 84 = .ok (.ldiv, 1) := by decide +kernel
theorem dX2_depthOf_85 : decode cX2_depthOf 85 = .ok (.l2i, 1) := by decide +kernel
theorem dX2_depthOf_86 : decode cX2_depthOf 86 = .ok (.ireturn, 1) := by decide +kernel
set_option maxRecDepth 20000 in
theorem ggX2_triangle_X2_isCovered : GoodIn wsX2_triangle wsX2_isCovered := goodIn_r _ [9, 10, 11, 12, 13, 14, 8, 15, 16, 17, 18, 19, 20, 21, 22, 23, 24, 25, 26, 27, 28, 29, 35, 36, 37, 38, 39, 40, 41, 42] (by decide +kernel) (by decide +kernel)
set_option maxRecDepth 20000 in
theorem gX2_triangle_X2_isCovered : GoodIn wsX2_triangle (wsV RX2 62 RX2 yX2_isCovered wsX2_isCovered) := goodIn_app (goodIn_of _ (by decide +kernel)) ggX2_triangle_X2_isCovered
set_option maxRecDepth 20000 in
theorem ggX2_triangle_X2_depthOf : GoodIn wsX2_triangle wsX2_depthOf := goodIn_r _ [33, 10, 11, 34, 18, 19, 20, 8, 21, 16, 17, 12, 13, 14, 15, 35, 36, 37, 38, 39, 40, 41, 42] (by decide +kernel) (by decide +kernel)
set_option maxRecDepth 20000 in
theorem gX2_triangle_X2_depthOf : GoodIn wsX2_triangle (wsV RX2 65 RX2 yX2_depthOf wsX2_depthOf) := goodIn_app (goodIn_of _ (by decide +kernel)) ggX2_triangle_X2_depthOf
theorem dX2_triangle_0 : decode cX2_triangle 0 = .ok (.iconst 0, 1) := by decide +kernel
theorem dX2_triangle_1 : decode cX2_triangle 1 = .ok (.istore_n 2, 1) := by decide +kernel
theorem dX2_triangle_2 : decode cX2_triangle 2 = .ok (.iconst 0, 1) := by decide +kernel
theorem dX2_triangle_3 : decode cX2_triangle 3 = .ok (.istore_n 3, 1) := by decide +kernel
theorem dX2_triangle_4 : decode cX2_triangle 4 = .ok (.iload_n 3, 1) := by decide +kernel
theorem dX2_triangle_5 : decode cX2_triangle 5 = .ok (.aload_n 0, 1) := by decide +kernel
theorem dX2_triangle_6 : decode cX2_triangle 6 = .ok (.getfield 33, 3) := by decide +kernel
theorem dX2_triangle_9 : decode cX2_triangle 9 = .ok (.if_icmp .ge 94, 3) := by decide +kernel
theorem dX2_triangle_12 : decode cX2_triangle 12 = .ok (.iconst 0, 1) := by decide +kernel
theorem dX2_triangle_13 : decode cX2_triangle 13 = .ok (.istore 4, 2) := by decide +kernel
theorem dX2_triangle_15 : decode cX2_triangle 15 = .ok (.iload 4, 2) := by decide +kernel
theorem dX2_triangle_17 : decode cX2_triangle 17 = .ok (.aload_n 0, 1) := by decide +kernel
theorem dX2_triangle_18 : decode cX2_triangle 18 = .ok (.getfield 29, 3) := by decide +kernel
theorem dX2_triangle_21 : decode cX2_triangle 21 = .ok (.if_icmp .ge 76, 3) := by decide +kernel
theorem dX2_triangle_24 : decode cX2_triangle 24 = .ok (.aload_n 0, 1) := by decide +kernel
theorem dX2_triangle_25 : decode cX2_triangle 25 = .ok (.iload 4, 2) := by decide +kernel
theorem dX2_triangle_27 : decode cX2_triangle 27 = .ok (.iload_n 3, 1) := by decide +kernel
theorem dX2_triangle_28 : decode cX2_triangle 28 = .ok (.invokevirtual 62, 3) := by decide +kernel
theorem dX2_triangle_31 : decode cX2_triangle 31 = .ok (.ifCond .eq 60, 3) := by decide +kernel
theorem dX2_triangle_34 : decode cX2_triangle 34 = .ok (.aload_n 0, 1) := by decide +kernel
theorem dX2_triangle_35 : decode cX2_triangle 35 = .ok (.getfield 13, 3) := by decide +kernel
theorem dX2_triangle_38 : decode cX2_triangle 38 = .ok (.bipush 24, 2) := by decide +kernel
theorem dX2_triangle_40 : decode cX2_triangle 40 = .ok (.iload_n 3, 1) := by decide +kernel
theorem dX2_triangle_41 : decode cX2_triangle 41 = .ok (.imul, 1) := by decide +kernel
theorem dX2_triangle_42 : decode cX2_triangle 42 = .ok (.iload 4, 2) := by decide +kernel
theorem dX2_triangle_44 : decode cX2_triangle 44 = .ok (.iadd, 1) := by decide +kernel
theorem dX2_triangle_45 : decode cX2_triangle 45 = .ok (.iaload, 1) := by decide +kernel
theorem dX2_triangle_46 : decode cX2_triangle 46 = .ok (.aload_n 0, 1) := by decide +kernel
theorem dX2_triangle_47 : decode cX2_triangle 47 = .ok (.iload 4, 2) := by decide +kernel
theorem dX2_triangle_49 : decode cX2_triangle 49 = .ok (.iload_n 3, 1) := by decide +kernel
theorem dX2_triangle_50 : decode cX2_triangle 50 = .ok (.invokevirtual 65, 3) := by decide +kernel
theorem dX2_triangle_53 : decode cX2_triangle 53 = .ok (.if_icmp .le 38, 3) := by decide +kernel
theorem dX2_triangle_56 : decode cX2_triangle 56 = .ok (.aload_n 0, 1) := by decide +kernel
theorem dX2_triangle_57 : decode cX2_triangle 57 = .ok (.getfield 7, 3) := by decide +kernel
theorem dX2_triangle_60 : decode cX2_triangle 60 = .ok (.bipush 24, 2) := by decide +kernel
theorem dX2_triangle_62 : decode cX2_triangle 62 = .ok (.iload_n 3, 1) := by decide +kernel
theorem dX2_triangle_63 : decode cX2_triangle 63 = .ok (.imul, 1) := by decide +kernel
theorem dX2_triangle_64 : decode cX2_triangle 64 = .ok (.iload 4, 2) := by decide +kernel
theorem dX2_triangle_66 : decode cX2_triangle 66 = .ok (.iadd, 1) := by decide +kernel
theorem dX2_triangle_67 : decode cX2_triangle 67 = .ok (.iload_n 1, 1) := by decide +kernel
theorem dX2_triangle_68 : decode cX2_triangle 68 = .ok (.iastore, 1) := by decide +kernel
theorem dX2_triangle_69 : decode cX2_triangle 69 = .ok (.aload_n 0, 1) := by decide +kernel
theorem dX2_triangle_70 : decode cX2_triangle 70 = .ok (.getfield 13, 3) := by decide +kernel
theorem dX2_triangle_73 : decode cX2_triangle 73 = .ok (.bipush 24, 2) := by decide +kernel
theorem dX2_triangle_75 : decode cX2_triangle 75 = .ok (.iload_n 3, 1) := by decide +kernel
theorem dX2_triangle_76 : decode cX2_triangle 76 = .ok (.imul, 1) := by decide +kernel
theorem dX2_triangle_77 : decode cX2_triangle 77 = .ok (.iload 4, 2) := by decide +kernel
theorem dX2_triangle_79 : decode cX2_triangle 79 = .ok (.iadd, 1) := by decide +kernel
theorem dX2_triangle_80 : decode cX2_triangle 80 = .ok (.aload_n 0, 1) := by decide +kernel
theorem dX2_triangle_81 : decode cX2_triangle 81 = .ok (.iload 4, 2) := by decide +kernel
theorem dX2_triangle_83 : decode cX2_triangle 83 = .ok (.iload_n 3, 1) := by decide +kernel
theorem dX2_triangle_84 : decode cX2_triangle 84 = .ok (.invokevirtual 65, 3) := by decide +kernel
theorem dX2_triangle_87 : decode cX2_triangle 87 = .ok (.iastore, 1) := by decide +kernel
theorem dX2_triangle_88 : decode cX2_triangle 88 = .ok (.iinc 2 1, 3) := by decide +kernel
theorem dX2_triangle_91 : decode cX2_triangle 91 = .ok (.iinc 4 1, 3) := by decide +kernel
theorem dX2_triangle_94 : decode cX2_triangle 94 = .ok (.goto (-79), 3) := by decide +kernel
theorem dX2_triangle_97 : decode cX2_triangle 97 = .ok (.iinc 3 1, 3) := by decide +kernel
theorem dX2_triangle_100 : decode cX2_triangle 100 = .ok (.goto (-96), 3) := by decide +kernel
theorem dX2_triangle_103 : decode cX2_triangle 103 = .ok (.iload_n 2, 1) := by decide +kernel
theorem dX2_triangle_104 : decode cX2_triangle 104 = .ok (.ireturn, 1) := by decide +kernel
set_option maxRecDepth 20000 in
theorem ggX2_covers_X2_isCovered : GoodIn wsX2_covers wsX2_isCovered := goodIn_r _ [5, 6, 7, 8, 9, 10, 4, 11, 12, 13, 14, 15, 16, 17, 18, 19, 20, 21, 22, 23, 24, 25, 26, 27, 28, 29, 30, 31, 32, 33] (by decide +kernel) (by decide +kernel)
end
section
set_option maxRecDepth 20000 in
theorem gX2_covers_X2_isCovered : GoodIn wsX2_covers (wsV RX2 62 RX2 yX2_isCovered wsX2_isCovered) := goodIn_app (goodIn_of _ (by decide +kernel)) ggX2_covers_X2_isCovered
theorem dX2_covers_0 : decode cX2_covers 0 = .ok (.iload_n 1, 1) := by decide +kernel
theorem dX2_covers_1 : decode cX2_covers 1 = .ok (.sipush (-2000), 3) := by decide +kernel
theorem dX2_covers_4 : decode cX2_covers 4 = .ok (.if_icmp .lt 28, 3) := by decide +kernel
theorem dX2_covers_7 : decode cX2_covers 7 = .ok (.iload_n 1, 1) := by decide +kernel
theorem dX2_covers_8 : decode cX2_covers 8 = .ok (.sipush 2000, 3) := by decide +kernel
theorem dX2_covers_11 : decode cX2_covers 11 = .ok (.if_icmp .gt 21, 3) := by decide +kernel
theorem dX2_covers_14 : decode cX2_covers 14 = .ok (.iload_n 2, 1) := by decide +kernel
theorem dX2_covers_15 : decode cX2_covers 15 = .ok (.sipush (-2000), 3) := by decide +kernel
theorem dX2_covers_18 : decode cX2_covers 18 = .ok (.if_icmp .lt 14, 3) := by decide +kernel
theorem dX2_covers_21 : decode cX2_covers 21 = .ok (.iload_n 2, 1) := by decide +kernel
theorem dX2_covers_22 : decode cX2_covers 22 = .ok (.sipush 2000, 3) := by decide +kernel
theorem dX2_covers_25 : decode cX2_covers 25 = .ok (.if_icmp .gt 7, 3) := by decide +kernel
theorem dX2_covers_28 : decode cX2_covers 28 = .ok (.iconst 1, 1) := by decide +kernel
theorem dX2_covers_29 : decode cX2_covers 29 = .ok (.goto 4, 3) := by decide +kernel
theorem dX2_covers_32 : decode cX2_covers 32 = .ok (.iconst 0, 1) := by decide +kernel
theorem dX2_covers_33 : decode cX2_covers 33 = .ok (.istore_n 3, 1) := by decide +kernel
theorem dX2_covers_34 : decode cX2_covers 34 = .ok (.iload_n 3, 1) := by decide +kernel
theorem dX2_covers_35 : decode cX2_covers 35 = .ok (.ifCond .eq 16, 3) := by decide +kernel
theorem dX2_covers_38 : decode cX2_covers 38 = .ok (.aload_n 0, 1) := by decide +kernel
theorem dX2_covers_39 : decode cX2_covers 39 = .ok (.iload_n 1, 1) := by decide +kernel
theorem dX2_covers_40 : decode cX2_covers 40 = .ok (.iload_n 2, 1) := by decide +kernel
theorem dX2_covers_41 : decode cX2_covers 41 = .ok (.invokevirtual 62, 3) := by decide +kernel
theorem dX2_covers_44 : decode cX2_covers 44 = .ok (.ifCond .eq 7, 3) := by decide +kernel
theorem dX2_covers_47 : decode cX2_covers 47 = .ok (.iconst 1, 1) := by decide +kernel
theorem dX2_covers_48 : decode cX2_covers 48 = .ok (.goto 4, 3) := by decide +kernel
theorem dX2_covers_51 : decode cX2_covers 51 = .ok (.iconst 0, 1) := by decide +kernel
theorem dX2_covers_52 : decode cX2_covers 52 = .ok (.ireturn, 1) := by decide +kernel
theorem dX2_sign_0 : decode cX2_sign 0 = .ok (.iload_n 0, 1) := by decide +kernel
theorem dX2_sign_1 : decode cX2_sign 1 = .ok (.ifCond .ge 7, 3) := by decide +kernel
theorem dX2_sign_4 : decode cX2_sign 4 = .ok (.iconst (-1), 1) := by decide +kernel
theorem dX2_sign_5 : decode cX2_sign 5 = .ok (.goto 12, 3) := by decide +kernel
theorem dX2_sign_8 : decode cX2_sign 8 = .ok (.iload_n 0, 1) := by decide +kernel
theorem dX2_sign_9 : decode cX2_sign 9 = .ok (.ifCond .le 7, 3) := by decide +kernel
theorem dX2_sign_12 : decode cX2_sign 12 = .ok (.iconst 1, 1) := by decide +kernel
theorem dX2_sign_13 : decode cX2_sign 13 = .ok (.goto 4, 3) := by decide +kernel
theorem dX2_sign_16 : decode cX2_sign 16 = .ok (.iconst 0, 1) := by decide +kernel
theorem dX2_sign_17 : decode cX2_sign 17 = .ok (.ireturn, 1) := by decide +kernel
set_option maxRecDepth 20000 in
theorem ggX2_line_X2_isFar : GoodIn wsX2_line wsX2_isFar := goodIn_r _ [6] (by decide +kernel) (by decide +kernel)
set_option maxRecDepth 20000 in
theorem gX2_line_X2_isFar : GoodIn wsX2_line (va_wsS RX2 37 yX2_isFar wsX2_isFar) := goodIn_app (goodIn_of _ (by decide +kernel)) ggX2_line_X2_isFar
set_option maxRecDepth 20000 in
theorem ggX2_line_X2_sign : GoodIn wsX2_line wsX2_sign := goodIn_r _ [9] (by decide +kernel) (by decide +kernel)
set_option maxRecDepth 20000 in
theorem gX2_line_X2_sign : GoodIn wsX2_line (va_wsS RX2 71 yX2_sign wsX2_sign) := goodIn_app (goodIn_of _ (by decide +kernel)) ggX2_line_X2_sign
set_option maxRecDepth 20000 in
theorem ggX2_line_X2_isPixel : GoodIn wsX2_line wsX2_isPixel := goodIn_r _ [13, 14, 15, 16, 17, 18, 19, 20, 21, 22, 23] (by decide +kernel) (by decide +kernel)
set_option maxRecDepth 20000 in
theorem gX2_line_X2_isPixel : GoodIn wsX2_line (wsV RX2 75 RX2 yX2_isPixel wsX2_isPixel) := goodIn_app (goodIn_of _ (by decide +kernel)) ggX2_line_X2_isPixel
theorem dX2_line_0 : decode cX2_line 0 = .ok (.iload_n 1, 1) := by decide +kernel
theorem dX2_line_1 : decode cX2_line 1 = .ok (.invokestatic 37, 3) := by decide +kernel
theorem dX2_line_4 : decode cX2_line 4 = .ok (.ifCond .ne 25, 3) := by decide +kernel
theorem dX2_line_7 : decode cX2_line 7 = .ok (.iload_n 2, 1) := by decide +kernel
theorem dX2_line_8 : decode cX2_line 8 = .ok (.invokestatic 37, 3) := by decide +kernel
theorem dX2_line_11 : decode cX2_line 11 = .ok (.ifCond .ne 18, 3) := by decide +kernel
theorem dX2_line_14 : decode cX2_line 14 = .ok (.iload_n 3, 1) := by decide +kernel
theorem dX2_line_15 : decode cX2_line 15 = .ok (.invokestatic 37, 3) := by decide +kernel
theorem dX2_line_18 : decode cX2_line 18 = .ok (.ifCond .ne 11, 3) := by decide +kernel
theorem dX2_line_21 : decode cX2_line 21 = .ok (.iload 4, 2) := by decide +kernel
theorem dX2_line_23 : decode cX2_line 23 = .ok (.invokestatic 37, 3) := by decide +kernel
theorem dX2_line_26 : decode cX2_line 26 = .ok (.ifCond .eq 5, 3) := by decide +kernel
theorem dX2_line_29 : decode cX2_line 29 = .ok (.iconst (-1), 1) := by decide +kernel
theorem dX2_line_30 : decode cX2_line 30 = .ok (.ireturn, 1) := by decide +kernel
theorem dX2_line_31 : decode cX2_line 31 = .ok (.iload_n 3, 1) := by decide +kernel
theorem dX2_line_32 : decode cX2_line 32 = .ok (.iload_n 1, 1) := by decide +kernel
theorem dX2_line_33 : decode cX2_line 33 = .ok (.if_icmp .ge 9, 3) := by decide +kernel
theorem dX2_line_36 : decode cX2_line 36 = .ok (.iload_n 1, 1) := by decide +kernel
theorem dX2_line_37 : decode cX2_line 37 = .ok (.iload_n 3, 1) := by decide +kernel
theorem dX2_line_38 : decode cX2_line 38 = .ok (.isub, 1) := by decide +kernel
theorem dX2_line_39 : decode cX2_line 39 = .ok (.goto 6, 3) := by decide +kernel
theorem dX2_line_42 : decode cX2_line 42 = .ok (.iload_n 3, 1) := by decide +kernel
theorem dX2_line_43 : decode cX2_line 43 = .ok (.iload_n 1, 1) := by decide +kernel
theorem dX2_line_44 : decode cX2_line 44 = .ok (.isub, 1) := by decide +kernel
theorem dX2_line_45 : decode cX2_line 45 = .ok (.istore 6, 2) := by decide +kernel
theorem dX2_line_47 : decode cX2_line 47 = .ok (.iload 4, 2) := by decide +kernel
theorem dX2_line_49 : decode cX2_line 49 = .ok (.iload_n 2, 1) := by decide +kernel
theorem dX2_line_50 : decode cX2_line 50 = .ok (.if_icmp .ge 10, 3) := by decide +kernel
theorem dX2_line_53 : decode cX2_line 53 = .ok (.iload_n 2, 1) := by decide +kernel
theorem dX2_line_54 : decode cX2_line 54 = .ok (.iload 4, 2) := by decide +kernel
theorem dX2_line_56 : decode cX2_line 56 = .ok (.isub, 1) := by decide +kernel
theorem dX2_line_57 : decode cX2_line 57 = .ok (.goto 7, 3) := by decide +kernel
theorem dX2_line_60 : decode cX2_line 60 = .ok (.iload 4, 2) := by decide +kernel
theorem dX2_line_62 : decode cX2_line 62 = .ok (.iload_n 2, 1) := by decide +kernel
theorem dX2_line_63 : decode cX2_line 63 = .ok (.isub, 1) := by decide +kernel
theorem dX2_line_64 : decode cX2_line 64 = .ok (.istore 7, 2) := by decide +kernel
theorem dX2_line_66 : decode cX2_line 66 = .ok (.iload 6, 2) := by decide +kernel
theorem dX2_line_68 : decode cX2_line 68 = .ok (.iload 7, 2) := by decide +kernel
theorem dX2_line_70 : decode cX2_line 70 = .ok (.if_icmp .lt 7, 3) := by decide +kernel
theorem dX2_line_73 : decode cX2_line 73 = .ok (.iconst 1, 1) := by decide +kernel
theorem dX2_line_74 : decode cX2_line 74 = .ok (.goto 4, 3) := by decide +kernel
theorem dX2_line_77 : decode cX2_line 77 = .ok (.iconst 0, 1) := by decide +kernel
theorem dX2_line_78 : decode cX2_line 78 = .ok (.istore 8, 2) := by decide +kernel
theorem dX2_line_80 : decode cX2_line 80 = .ok (.iload 8, 2) := by decide +kernel
theorem dX2_line_82 : decode cX2_line 82 = .ok (.ifCond .eq 8, 3) := by decide +kernel
theorem dX2_line_85 : decode cX2_line 85 = .ok (.iload 6, 2) := by decide +kernel
theorem dX2_line_87 : decode cX2_line 87 = .ok (.goto 5, 3) := by decide +kernel
theorem dX2_line_90 : decode cX2_line 90 = .ok (.iload 7, 2) := by decide +kernel
theorem dX2_line_92 : decode cX2_line 92 = .ok (.istore 9, 2) := by decide +kernel
theorem dX2_line_94 : decode cX2_line 94 = .ok (.iload 8, 2) := by decide +kernel
theorem dX2_line_96 : decode cX2_line 96 = .ok (.ifCond .eq 8, 3) := by decide +kernel
theorem dX2_line_99 : decode cX2_line 99 = .ok (.iload 7, 2) := by decide +kernel
theorem dX2_line_101 : decode cX2_line 101 = .ok (.goto 5, 3) := by decide +kernel
theorem dX2_line_104 : decode cX2_line 104 = .ok (.iload 6, 2) := by decide +kernel
theorem dX2_line_106 : decode cX2_line 106 = .ok (.istore 10, 2) := by decide +kernel
theorem dX2_line_108 : decode cX2_line 108 = .ok (.iconst 0, 1) := by decide +kernel
theorem dX2_line_109 : decode cX2_line 109 = .ok (.istore 11, 2) := by decide +kernel
theorem dX2_line_111 : decode cX2_line 111 = .ok (.iconst 0, 1) := by decide +kernel
theorem dX2_line_112 : decode cX2_line 112 = .ok (.istore 12, 2) := by decide +kernel
theorem dX2_line_114 : decode cX2_line 114 = .ok (.iload 12, 2) := by decide +kernel
theorem dX2_line_116 : decode cX2_line 116 = .ok (.iload 9, 2) := by decide +kernel
theorem dX2_line_118 : decode cX2_line 118 = .ok (.if_icmp .gt 122, 3) := by decide +kernel
theorem dX2_line_121 : decode cX2_line 121 = .ok (.iload 9, 2) := by decide +kernel
theorem dX2_line_123 : decode cX2_line 123 = .ok (.ifCond .ne 7, 3) := by decide +kernel
theorem dX2_line_126 : decode cX2_line 126 = .ok (.iconst 0, 1) := by decide +kernel
theorem dX2_line_127 : decode cX2_line 127 = .ok (.goto 29, 3) := by decide +kernel
theorem dX2_line_130 : decode cX2_line 130 = .ok (.ldc2_w 69, 3) := by decide +kernel
theorem dX2_line_133 : decode cX2_line 133 = .ok (.iload 12, 2) := by decide +kernel
theorem dX2_line_135 : decode cX2_line 135 = .ok (.i2l, 1) := by decide +kernel
theorem dX2_line_136 : decode cX2_line 136 = .ok (.lmul, 1) := by decide +kernel
theorem dX2_line_137 : decode cX2_line 137 = .ok (.iload 10, 2) := by decide +kernel
theorem dX2_line_139 : decode cX2_line 139 = .ok (.i2l, 1) := by decide +kernel
theorem dX2_line_140 : decode cX2_line 140 = .ok (.lmul, 1) := by decide +kernel
theorem dX2_line_141 : decode cX2_line 141 = .ok (.iload 9, 2) := by decide +kernel
theorem dX2_line_143 : decode cX2_line 143 = .ok (.i2l, 1) := by decide +kernel
theorem dX2_line_144 : decode cX2_line 144 = .ok (.ladd, 1) := by decide +kernel
theorem dX2_line_145 : decode cX2_line 145 = .ok (.lconst 1, 1) := by decide +kernel
theorem dX2_line_146 : decode cX2_line 146 = .ok (.lsub, 1) := by decide +kernel
theorem dX2_line_147 : decode cX2_line 147 = .ok (.ldc2_w 69, 3) := by decide +kernel
theorem dX2_line_150 : decode cX2_line 150 = .ok (.iload 9, 2) := by decide +kernel
theorem dX2_line_152 : decode cX2_line 152 = .ok (.i2l, 1) := by decide +kernel
theorem dX2_line_153 : decode cX2_line 153 = .ok (.lmul, 1) := by decide +kernel
theorem dX2_line_154 : decode cX2_line 154 = .ok (.ldiv, 1) := by decide +kernel
theorem dX2_line_155 : decode cX2_line 155 = .ok (.l2i, 1) := by decide +kernel
theorem dX2_line_156 : decode cX2_line 156 = .ok (.istore 13, 2) := by decide +kernel
theorem dX2_line_158 : decode cX2_line 158 = .ok (.iload_n 1, 1) := by decide +kernel
theorem dX2_line_159 : decode cX2_line 159 = .ok (.iload_n 3, 1) := by decide +kernel
theorem dX2_line_160 : decode cX2_line 160 = .ok (.iload_n 1, 1) := by decide +kernel
theorem dX2_line_161 : decode cX2_line 161 = .ok (.isub, 1) := by decide +kernel
theorem dX2_line_162 : decode cX2_line 162 = .ok (.invokestatic 71, 3) := by decide +kernel
theorem dX2_line_165 : decode cX2_line 165 = .ok (.iload 8, 2) := by decide +kernel
theorem dX2_line_167 : decode cX2_line 167 = .ok (.ifCond .eq 8, 3) := by decide +kernel
theorem dX2_line_170 : decode cX2_line 170 = .ok (.iload 12, 2) := by decide +kernel
theorem dX2_line_172 : decode cX2_line 172 = .ok (.goto 5, 3) := by decide +kernel
theorem dX2_line_175 : decode cX2_line 175 = .ok (.iload 13, 2) := by decide +kernel
theorem dX2_line_177 : decode cX2_line 177 = .ok (.imul, 1) := by decide +kernel
theorem dX2_line_178 : decode cX2_line 178 = .ok (.iadd, 1) := by decide +kernel
theorem dX2_line_179 : decode cX2_line 179 = .ok (.istore 14, 2) := by decide +kernel
theorem dX2_line_181 : decode cX2_line 181 = .ok (.iload_n 2, 1) := by decide +kernel
theorem dX2_line_182 : decode cX2_line 182 = .ok (.iload 4, 2) := by decide +kernel
theorem dX2_line_184 : decode cX2_line 184 = .ok (.iload_n 2, 1) := by decide +kernel
theorem dX2_line_185 : decode cX2_line 185 = .ok (.isub, 1) := by decide +kernel
theorem dX2_line_186 : decode cX2_line 186 = .ok (.invokestatic 71, 3) := by decide +kernel
theorem dX2_line_189 : decode cX2_line 189 = .ok (.iload 8, 2) := by decide +kernel
theorem dX2_line_191 : decode cX2_line 191 = .ok (.ifCond .eq 8, 3) := by decide +kernel
theorem dX2_line_194 : decode cX2_line 194 = .ok (.iload 13, 2) := by decide +kernel
theorem dX2_line_196 : decode cX2_line 196 = .ok (.goto 5, 3) := by decide +kernel
theorem dX2_line_199 : decode cX2_line 199 = .ok (.iload 12, 2) := by decide +kernel
theorem dX2_line_201 : decode cX2_line 201 = .ok (.imul, 1) := by decide +kernel
theorem dX2_line_202 : decode cX2_line 202 = .ok (.iadd, 1) := by decide +kernel
theorem dX2_line_203 : decode cX2_line 203 = .ok (.istore 15, 2) := by decide +kernel
theorem dX2_line_205 : decode cX2_line 205 = .ok (.aload_n 0, 1) := by decide +kernel
theorem dX2_line_206 : decode cX2_line 206 = .ok (.iload 14, 2) := by decide +kernel
theorem dX2_line_208 : decode cX2_line 208 = .ok (.iload 15, 2) := by decide +kernel
theorem dX2_line_210 : decode cX2_line 210 = .ok (.invokevirtual 75, 3) := by decide +kernel
theorem dX2_line_213 : decode cX2_line 213 = .ok (.ifCond .eq 21, 3) := by decide +kernel
theorem dX2_line_216 : decode cX2_line 216 = .ok (.aload_n 0, 1) := by decide +kernel
theorem dX2_line_217 : decode cX2_line 217 = .ok (.getfield 7, 3) := by decide +kernel
theorem dX2_line_220 : decode cX2_line 220 = .ok (.bipush 24, 2) := by decide +kernel
theorem dX2_line_222 : decode cX2_line 222 = .ok (.iload 15, 2) := by decide +kernel
theorem dX2_line_224 : decode cX2_line 224 = .ok (.imul, 1) := by decide +kernel
theorem dX2_line_225 : decode cX2_line 225 = .ok (.iload 14, 2) := by decide +kernel
theorem dX2_line_227 : decode cX2_line 227 = .ok (.iadd, 1) := by decide +kernel
theorem dX2_line_228 : decode cX2_line 228 = .ok (.iload 5, 2) := by decide +kernel
theorem dX2_line_230 : decode cX2_line 230 = .ok (.iastore, 1) := by decide +kernel
theorem dX2_line_231 : decode cX2_line 231 = .ok (.iinc 11 1, 3) := by decide +kernel
theorem dX2_line_234 : decode cX2_line 234 = .ok (.iinc 12 1, 3) := by decide +kernel
theorem dX2_line_237 : decode cX2_line 237 = .ok (.goto (-123), 3) := by decide +kernel
theorem dX2_line_240 : decode cX2_line 240 = .ok (.iload 11, 2) := by decide +kernel
theorem dX2_line_242 : decode cX2_line 242 = .ok (.ireturn, 1) := by decide +kernel
theorem dX2_mark_0 : decode cX2_mark 0 = .ok (.aload_n 0, 1) := by decide +kernel
theorem dX2_mark_1 : decode cX2_mark 1 = .ok (.getfield 7, 3) := by decide +kernel
theorem dX2_mark_4 : decode cX2_mark 4 = .ok (.bipush 24, 2) := by decide +kernel
theorem dX2_mark_6 : decode cX2_mark 6 = .ok (.iload_n 2, 1) := by decide +kernel
theorem dX2_mark_7 : decode cX2_mark 7 = .ok (.imul, 1) := by decide +kernel
theorem dX2_mark_8 : decode cX2_mark 8 = .ok (.iload_n 1, 1) := by decide +kernel
theorem dX2_mark_9 : decode cX2_mark 9 = .ok (.iadd, 1) := by decide +kernel
theorem dX2_mark_10 : decode cX2_mark 10 = .ok (.iaload, 1) := by decide +kernel
theorem dX2_mark_11 : decode cX2_mark 11 = .ok (.istore_n 3, 1) := by decide +kernel
theorem dX2_mark_12 : decode cX2_mark 12 = .ok (.aload_n 0, 1) := by decide +kernel
theorem dX2_mark_13 : decode cX2_mark 13 = .ok (.getfield 25, 3) := by decide +kernel
theorem dX2_mark_16 : decode cX2_mark 16 = .ok (.bipush 24, 2) := by decide +kernel
theorem dX2_mark_18 : decode cX2_mark 18 = .ok (.iload_n 2, 1) := by decide +kernel
theorem dX2_mark_19 : decode cX2_mark 19 = .ok (.imul, 1) := by decide +kernel
theorem dX2_mark_20 : decode cX2_mark 20 = .ok (.iload_n 1, 1) := by decide +kernel
theorem dX2_mark_21 : decode cX2_mark 21 = .ok (.iadd, 1) := by decide +kernel
theorem dX2_mark_22 : decode cX2_mark 22 = .ok (.iconst 1, 1) := by decide +kernel
theorem dX2_mark_23 : decode cX2_mark 23 = .ok (.bastore, 1) := by decide +kernel
theorem dX2_mark_24 : decode cX2_mark 24 = .ok (.iconst 1, 1) := by decide +kernel
theorem dX2_mark_25 : decode cX2_mark 25 = .ok (.istore 4, 2) := by decide +kernel
theorem dX2_mark_27 : decode cX2_mark 27 = .ok (.iconst 1, 1) := by decide +kernel
theorem dX2_mark_28 : decode cX2_mark 28 = .ok (.istore 5, 2) := by decide +kernel
theorem dX2_mark_30 : decode cX2_mark 30 = .ok (.iload 5, 2) := by decide +kernel
theorem dX2_mark_32 : decode cX2_mark 32 = .ok (.ifCond .eq 184, 3) := by decide +kernel
theorem dX2_mark_35 : decode cX2_mark 35 = .ok (.iconst 0, 1) := by decide +kernel
theorem dX2_mark_36 : decode cX2_mark 36 = .ok (.istore 5, 2) := by decide +kernel
theorem dX2_mark_38 : decode cX2_mark 38 = .ok (.iconst 0, 1) := by decide +kernel
theorem dX2_mark_39 : decode cX2_mark 39 = .ok (.istore 6, 2) := by decide +kernel
theorem dX2_mark_41 : decode cX2_mark 41 = .ok (.iload 6, 2) := by decide +kernel
theorem dX2_mark_43 : decode cX2_mark 43 = .ok (.aload_n 0, 1) := by decide +kernel
theorem dX2_mark_44 : decode cX2_mark 44 = .ok (.getfield 33, 3) := by decide +kernel
theorem dX2_mark_47 : decode cX2_mark 47 = .ok (.if_icmp .ge 166, 3) := by decide +kernel
theorem dX2_mark_50 : decode cX2_mark 50 = .ok (.iconst 0, 1) := by decide +kernel
theorem dX2_mark_51 : decode cX2_mark 51 = .ok (.istore 7, 2) := by decide +kernel
theorem dX2_mark_53 : decode cX2_mark 53 = .ok (.iload 7, 2) := by decide +kernel
theorem dX2_mark_55 : decode cX2_mark 55 = .ok (.aload_n 0, 1) := by decide +kernel
theorem dX2_mark_56 : decode cX2_mark 56 = .ok (.getfield 29, 3) := by decide +kernel
theorem dX2_mark_59 : decode cX2_mark 59 = .ok (.if_icmp .ge 148, 3) := by decide +kernel
theorem dX2_mark_62 : decode cX2_mark 62 = .ok (.bipush 24, 2) := by decide +kernel
theorem dX2_mark_64 : decode cX2_mark 64 = .ok (.iload 6, 2) := by decide +kernel
theorem dX2_mark_66 : decode cX2_mark 66 = .ok (.imul, 1) := by decide +kernel
theorem dX2_mark_67 : decode cX2_mark 67 = .ok (.iload 7, 2) := by decide +kernel
theorem dX2_mark_69 : decode cX2_mark 69 = .ok (.iadd, 1) := by decide +kernel
theorem dX2_mark_70 : decode cX2_mark 70 = .ok (.istore 8, 2) := by decide +kernel
theorem dX2_mark_72 : decode cX2_mark 72 = .ok (.iload 7, 2) := by decide +kernel
theorem dX2_mark_74 : decode cX2_mark 74 = .ok (.ifCond .le 15, 3) := by decide +kernel
theorem dX2_mark_77 : decode cX2_mark 77 = .ok (.aload_n 0, 1) := by decide +kernel
theorem dX2_mark_78 : decode cX2_mark 78 = .ok (.getfield 25, 3) := by decide +kernel
theorem dX2_mark_81 : decode cX2_mark 81 = .ok (.iload 8, 2) := by decide +kernel
theorem dX2_mark_83 : decode cX2_mark 83 = .ok (.iconst 1, 1) := by decide +kernel
theorem dX2_mark_84 : decode cX2_mark 84 = .ok (.isub, 1) := by decide +kernel
theorem dX2_mark_85 : decode cX2_mark 85 = .ok (.baload, 1) := by decide +kernel
theorem dX2_mark_86 : decode cX2_mark 86 = .ok (.ifCond .ne 68, 3) := by decide +kernel
theorem dX2_mark_89 : decode cX2_mark 89 = .ok (.iload 7, 2) := by decide +kernel
theorem dX2_mark_91 : decode cX2_mark 91 = .ok (.iconst 1, 1) := by decide +kernel
theorem dX2_mark_92 : decode cX2_mark 92 = .ok (.iadd, 1) := by decide +kernel
theorem dX2_mark_93 : decode cX2_mark 93 = .ok (.aload_n 0, 1) := by decide +kernel
theorem dX2_mark_94 : decode cX2_mark 94 = .ok (.getfield 29, 3) := by decide +kernel
theorem dX2_mark_97 : decode cX2_mark 97 = .ok (.if_icmp .ge 15, 3) := by decide +kernel
theorem dX2_mark_100 : decode cX2_mark 100 = .ok (.aload_n 0, 1) := by decide +kernel
theorem dX2_mark_101 : decode cX2_mark 101 = .ok (.getfield 25, 3) := by decide +kernel
theorem dX2_mark_104 : decode cX2_mark 104 = .ok (.iload 8, 2) := by decide +kernel
theorem dX2_mark_106 : decode cX2_mark 106 = .ok (.iconst 1, 1) := by decide +kernel
theorem dX2_mark_107 : decode cX2_mark 107 = .ok (.iadd, 1) := by decide +kernel
theorem dX2_mark_108 : decode cX2_mark 108 = .ok (.baload, 1) := by decide +kernel
theorem dX2_mark_109 : decode cX2_mark 109 = .ok (.ifCond .ne 45, 3) := by decide +kernel
theorem dX2_mark_112 : decode cX2_mark 112 = .ok (.iload 6, 2) := by decide +kernel
theorem dX2_mark_114 : decode cX2_mark 114 = .ok (.ifCond .le 16, 3) := by decide +kernel
theorem dX2_mark_117 : decode cX2_mark 117 = .ok (.aload_n 0, 1) := by decide +kernel
theorem dX2_mark_118 : decode cX2_mark 118 = .ok (.getfield 25, 3) := by decide +kernel
theorem dX2_mark_121 : decode cX2_mark 121 = .ok (.iload 8, 2) := by decide +kernel
theorem dX2_mark_123 : decode cX2_mark 123 = .ok (.bipush 24, 2) := by decide +kernel
theorem dX2_mark_125 : decode cX2_mark 125 = .ok (.isub, 1) := by decide +kernel
theorem dX2_mark_126 : decode cX2_mark 126 = .ok (.baload, 1) := by decide +kernel
theorem dX2_mark_127 : decode cX2_mark 127 = .ok (.ifCond .ne 27, 3) := by decide +kernel
theorem dX2_mark_130 : decode cX2_mark 130 = .ok (.iload 6, 2) := by decide +kernel
theorem dX2_mark_132 : decode cX2_mark 132 = .ok (.iconst 1, 1) := by decide +kernel
theorem dX2_mark_133 : decode cX2_mark 133 = .ok (.iadd, 1) := by decide +kernel
theorem dX2_mark_134 : decode cX2_mark 134 = .ok (.aload_n 0, 1) := by decide +kernel
theorem dX2_mark_135 : decode cX2_mark 135 = .ok (.getfield 33, 3) := by decide +kernel
theorem dX2_mark_138 : decode cX2_mark 138 = .ok (.if_icmp .ge 20, 3) := by decide +kernel
theorem dX2_mark_141 : decode cX2_mark 141 = .ok (.aload_n 0, 1) := by decide +kernel
theorem dX2_mark_142 : decode cX2_mark 142 = .ok (.getfield 25, 3) := by decide +kernel
theorem dX2_mark_145 : decode cX2_mark 145 = .ok (.iload 8, 2) := by decide +kernel
theorem dX2_mark_147 : decode cX2_mark 147 = .ok (.bipush 24, 2) := by decide +kernel
theorem dX2_mark_149 : decode cX2_mark 149 = .ok (.iadd, 1) := by decide +kernel
theorem dX2_mark_150 : decode cX2_mark 150 = .ok (.baload, 1) := by decide +kernel
theorem dX2_mark_151 : decode cX2_mark 151 = .ok (.ifCond .eq 7, 3) := by decide +kernel
theorem dX2_mark_154 : decode cX2_mark 154 = .ok (.iconst 1, 1) := by decide +kernel
theorem dX2_mark_155 : decode cX2_mark 155 = .ok (.goto 4, 3) := by decide +kernel
theorem dX2_mark_158 : decode cX2_mark 158 = .ok (.iconst 0, 1) := by decide +kernel
theorem dX2_mark_159 : decode cX2_mark 159 = .ok (.istore 9, 2) := by decide +kernel
theorem dX2_mark_161 : decode cX2_mark 161 = .ok (.aload_n 0, 1) := by decide +kernel
theorem dX2_mark_162 : decode cX2_mark 162 = .ok (.getfield 25, 3) := by decide +kernel
theorem dX2_mark_165 : decode cX2_mark 165 = .ok (.iload 8, 2) := by decide +kernel
theorem dX2_mark_167 : decode cX2_mark 167 = .ok (.baload, 1) := by decide +kernel
theorem dX2_mark_168 : decode cX2_mark 168 = .ok (.ifCond .ne 33, 3) := by decide +kernel
theorem dX2_mark_171 : decode cX2_mark 171 = .ok (.aload_n 0, 1) := by decide +kernel
theorem dX2_mark_172 : decode cX2_mark 172 = .ok (.getfield 7, 3) := by decide +kernel
theorem dX2_mark_175 : decode cX2_mark 175 = .ok (.iload 8, 2) := by decide +kernel
theorem dX2_mark_177 : decode cX2_mark 177 = .ok (.iaload, 1) := by decide +kernel
theorem dX2_mark_178 : decode cX2_mark 178 = .ok (.iload_n 3, 1) := by decide +kernel
theorem dX2_mark_179 : decode cX2_mark 179 = .ok (.if_icmp .ne 22, 3) := by decide +kernel
theorem dX2_mark_182 : decode cX2_mark 182 = .ok (.iload 9, 2) := by decide +kernel
theorem dX2_mark_184 : decode cX2_mark 184 = .ok (.ifCond .eq 17, 3) := by decide +kernel
theorem dX2_mark_187 : decode cX2_mark 187 = .ok (.aload_n 0, 1) := by decide +kernel
theorem dX2_mark_188 : decode cX2_mark 188 = .ok (.getfield 25, 3) := by decide +kernel
theorem dX2_mark_191 : decode cX2_mark 191 = .ok (.iload 8, 2) := by decide +kernel
theorem dX2_mark_193 : decode cX2_mark 193 = .ok (.iconst 1, 1) := by decide +kernel
theorem dX2_mark_194 : decode cX2_mark 194 = .ok (.bastore, 1) := by decide +kernel
theorem dX2_mark_195 : decode cX2_mark 195 = .ok (.iinc 4 1, 3) := by decide +kernel
theorem dX2_mark_198 : decode cX2_mark 198 = .ok (.iconst 1, 1) := by decide +kernel
theorem dX2_mark_199 : decode cX2_mark 199 = .ok (.istore 5, 2) := by decide +kernel
theorem dX2_mark_201 : decode cX2_mark 201 = .ok (.iinc 7 1, 3) := by decide +kernel
theorem dX2_mark_204 : decode cX2_mark 204 = .ok (.goto (-151), 3) := by decide +kernel
theorem dX2_mark_207 : decode cX2_mark 207 = .ok (.iinc 6 1, 3) := by decide +kernel
theorem dX2_mark_210 : decode cX2_mark 210 = .ok (.goto (-169), 3) := by decide +kernel
theorem dX2_mark_213 : decode cX2_mark 213 = .ok (.goto (-183), 3) := by decide +kernel
theorem dX2_mark_216 : decode cX2_mark 216 = .ok (.iload 4, 2) := by decide +kernel
theorem dX2_mark_218 : decode cX2_mark 218 = .ok (.ireturn, 1) := by decide +kernel
theorem dX2_unmark_0 : decode cX2_unmark 0 = .ok (.iconst 0, 1) := by decide +kernel
theorem dX2_unmark_1 : decode cX2_unmark 1 = .ok (.istore_n 1, 1) := by decide +kernel
theorem dX2_unmark_2 : decode cX2_unmark 2 = .ok (.iload_n 1, 1) := by decide +kernel
theorem dX2_unmark_3 : decode cX2_unmark 3 = .ok (.sipush 576, 3) := by decide +kernel
theorem dX2_unmark_6 : decode cX2_unmark 6 = .ok (.if_icmp .ge 16, 3) := by decide +kernel
theorem dX2_unmark_9 : decode cX2_unmark 9 = .ok (.aload_n 0, 1) := by decide +kernel
theorem dX2_unmark_10 : decode cX2_unmark 10 = .ok (.getfield 25, 3) := by decide +kernel
theorem dX2_unmark_13 : decode cX2_unmark 13 = .ok (.iload_n 1, 1) := by decide +kernel
theorem dX2_unmark_14 : decode cX2_unmark 14 = .ok (.iconst 0, 1) := by decide +kernel
theorem dX2_unmark_15 : decode cX2_unmark 15 = .ok (.bastore, 1) := by decide +kernel
theorem dX2_unmark_16 : decode cX2_unmark 16 = .ok (.iinc 1 1, 3) := by decide +kernel
theorem dX2_unmark_19 : decode cX2_unmark 19 = .ok (.goto (-17), 3) := by decide +kernel
theorem dX2_unmark_22 : decode cX2_unmark 22 = .ok (.return_, 1) := by decide +kernel
set_option maxRecDepth 20000 in
theorem ggX2_fill_X2_isPixel : GoodIn wsX2_fill wsX2_isPixel := goodIn_r _ [7, 8, 9, 18, 19, 20, 21, 22, 23, 24, 25] (by decide +kernel) (by decide +kernel)
set_option maxRecDepth 20000 in
theorem gX2_fill_X2_isPixel : GoodIn wsX2_fill (wsV RX2 75 RX2 yX2_isPixel wsX2_isPixel) := goodIn_app (goodIn_of _ (by decide +kernel)) ggX2_fill_X2_isPixel
set_option maxRecDepth 20000 in
theorem ggX2_fill_X2_unmark : GoodIn wsX2_fill wsX2_unmark := goodIn_r _ [13, 2, 18, 19, 20, 21, 22, 23, 24, 25] (by decide +kernel) (by decide +kernel)
set_option maxRecDepth 20000 in
theorem gX2_fill_X2_unmark : GoodIn wsX2_fill (wsV RX2 78 RX2 yX2_unmark wsX2_unmark) := goodIn_app (goodIn_of _ (by decide +kernel)) ggX2_fill_X2_unmark
set_option maxRecDepth 20000 in
theorem ggX2_fill_X2_mark : GoodIn wsX2_fill wsX2_mark := goodIn_r _ [17, 1, 2, 9, 8, 18, 19, 20, 21, 22, 23, 24, 25] (by decide +kernel) (by decide +kernel)
set_option maxRecDepth 20000 in
theorem gX2_fill_X2_mark : GoodIn wsX2_fill (wsV RX2 81 RX2 yX2_mark wsX2_mark) := goodIn_app (goodIn_of _ (by decide +kernel)) ggX2_fill_X2_mark
theorem dX2_fill_0 : decode cX2_fill 0 = .ok (.aload_n 0, 1) := by decide +kernel
theorem dX2_fill_1 : decode cX2_fill 1 = .ok (.iload_n 1, 1) := by decide +kernel
theorem dX2_fill_2 : decode cX2_fill 2 = .ok (.iload_n 2, 1) := by decide +kernel
theorem dX2_fill_3 : decode cX2_fill 3 = .ok (.invokevirtual 75, 3) := by decide +kernel
theorem dX2_fill_6 : decode cX2_fill 6 = .ok (.ifCond .eq 18, 3) := by decide +kernel
theorem dX2_fill_9 : decode cX2_fill 9 = .ok (.aload_n 0, 1) := by decide +kernel
theorem dX2_fill_10 : decode cX2_fill 10 = .ok (.getfield 7, 3) := by decide +kernel
theorem dX2_fill_13 : decode cX2_fill 13 = .ok (.bipush 24, 2) := by decide +kernel
theorem dX2_fill_15 : decode cX2_fill 15 = .ok (.iload_n 2, 1) := by decide +kernel
theorem dX2_fill_16 : decode cX2_fill 16 = .ok (.imul, 1) := by decide +kernel
theorem dX2_fill_17 : decode cX2_fill 17 = .ok (.iload_n 1, 1) := by decide +kernel
theorem dX2_fill_18 : decode cX2_fill 18 = .ok (.iadd, 1) := by decide +kernel
theorem dX2_fill_19 : decode cX2_fill 19 = .ok (.iaload, 1) := by decide +kernel
theorem dX2_fill_20 : decode cX2_fill 20 = .ok (.iload_n 3, 1) := by decide +kernel
theorem dX2_fill_21 : decode cX2_fill 21 = .ok (.if_icmp .ne 5, 3) := by decide +kernel
theorem dX2_fill_24 : decode cX2_fill 24 = .ok (.iconst 0, 1) := by decide +kernel
theorem dX2_fill_25 : decode cX2_fill 25 = .ok (.ireturn, 1) := by decide +kernel
theorem dX2_fill_26 : decode cX2_fill 26 = .ok (.aload_n 0, 1) := by decide +kernel
theorem dX2_fill_27 : decode cX2_fill 27 = .ok (.invokevirtual 78, 3) := by decide +kernel
theorem dX2_fill_30 : decode cX2_fill 30 = .ok (.aload_n 0, 1) := by decide +kernel
theorem dX2_fill_31 : decode cX2_fill 31 = .ok (.iload_n 1, 1) := by decide +kernel
theorem dX2_fill_32 : decode cX2_fill 32 = .ok (.iload_n 2, 1) := by decide +kernel
theorem dX2_fill_33 : decode cX2_fill 33 = .ok (.invokevirtual 81, 3) := by decide +kernel
theorem dX2_fill_36 : decode cX2_fill 36 = .ok (.istore 4, 2) := by decide +kernel
theorem dX2_fill_38 : decode cX2_fill 38 = .ok (.iconst 0, 1) := by decide +kernel
theorem dX2_fill_39 : decode cX2_fill 39 = .ok (.istore 5, 2) := by decide +kernel
theorem dX2_fill_41 : decode cX2_fill 41 = .ok (.iload 5, 2) := by decide +kernel
theorem dX2_fill_43 : decode cX2_fill 43 = .ok (.sipush 576, 3) := by decide +kernel
theorem dX2_fill_46 : decode cX2_fill 46 = .ok (.if_icmp .ge 37, 3) := by decide +kernel
theorem dX2_fill_49 : decode cX2_fill 49 = .ok (.aload_n 0, 1) := by decide +kernel
theorem dX2_fill_50 : decode cX2_fill 50 = .ok (.getfield 7, 3) := by decide +kernel
theorem dX2_fill_53 : decode cX2_fill 53 = .ok (.iload 5, 2) := by decide +kernel
theorem dX2_fill_55 : decode cX2_fill 55 = .ok (.aload_n 0, 1) := by decide +kernel
theorem dX2_fill_56 : decode cX2_fill 56 = .ok (.getfield 25, 3) := by decide +kernel
theorem dX2_fill_59 : decode cX2_fill 59 = .ok (.iload 5, 2) := by decide +kernel
theorem dX2_fill_61 : decode cX2_fill 61 = .ok (.baload, 1) := by decide +kernel
theorem dX2_fill_62 : decode cX2_fill 62 = .ok (.ifCond .eq 7, 3) := by decide +kernel
theorem dX2_fill_65 : decode cX2_fill 65 = .ok (.iload_n 3, 1) := by decide +kernel
theorem dX2_fill_66 : decode cX2_fill 66 = .ok (.goto 10, 3) := by decide +kernel
theorem dX2_fill_69 : decode cX2_fill 69 = .ok (.aload_n 0, 1) := by decide +kernel
theorem dX2_fill_70 : decode cX2_fill 70 = .ok (.getfield 7, 3) := by decide +kernel
theorem dX2_fill_73 : decode cX2_fill 73 = .ok (.iload 5, 2) := by decide +kernel
theorem dX2_fill_75 : decode cX2_fill 75 = .ok (.iaload, 1) := by decide +kernel
theorem dX2_fill_76 : decode cX2_fill 76 = .ok (.iastore, 1) := by decide +kernel
theorem dX2_fill_77 : decode cX2_fill 77 = .ok (.iinc 5 1, 3) := by decide +kernel
theorem dX2_fill_80 : decode cX2_fill 80 = .ok (.goto (-39), 3) := by decide +kernel
theorem dX2_fill_83 : decode cX2_fill 83 = .ok (.iload 4, 2) := by decide +kernel
theorem dX2_fill_85 : decode cX2_fill 85 = .ok (.ireturn, 1) := by decide +kernel
set_option maxRecDepth 20000 in
theorem ggX2_pieces_X2_unmark : GoodIn wsX2_pieces wsX2_unmark := goodIn_r _ [9, 4, 14, 15, 16, 17, 18, 19, 20, 21] (by decide +kernel) (by decide +kernel)
set_option maxRecDepth 20000 in
theorem gX2_pieces_X2_unmark : GoodIn wsX2_pieces (wsV RX2 78 RX2 yX2_unmark wsX2_unmark) := goodIn_app (goodIn_of _ (by decide +kernel)) ggX2_pieces_X2_unmark
set_option maxRecDepth 20000 in
theorem ggX2_pieces_X2_mark : GoodIn wsX2_pieces wsX2_mark := goodIn_r _ [13, 3, 4, 1, 2, 14, 15, 16, 17, 18, 19, 20, 21] (by decide +kernel) (by decide +kernel)
set_option maxRecDepth 20000 in
theorem gX2_pieces_X2_mark : GoodIn wsX2_pieces (wsV RX2 81 RX2 yX2_mark wsX2_mark) := goodIn_app (goodIn_of _ (by decide +kernel)) ggX2_pieces_X2_mark
theorem dX2_pieces_0 : decode cX2_pieces 0 = .ok (.aload_n 0, 1) := by decide +kernel
theorem dX2_pieces_1 : decode cX2_pieces 1 = .ok (.invokevirtual 78, 3) := by decide +kernel
theorem dX2_pieces_4 : decode cX2_pieces 4 = .ok (.iconst 0, 1) := by decide +kernel
theorem dX2_pieces_5 : decode cX2_pieces 5 = .ok (.istore_n 2, 1) := by decide +kernel
theorem dX2_pieces_6 : decode cX2_pieces 6 = .ok (.iconst 0, 1) := by decide +kernel
theorem dX2_pieces_7 : decode cX2_pieces 7 = .ok (.istore_n 3, 1) := by decide +kernel
theorem dX2_pieces_8 : decode cX2_pieces 8 = .ok (.iload_n 3, 1) := by decide +kernel
theorem dX2_pieces_9 : decode cX2_pieces 9 = .ok (.aload_n 0, 1) := by decide +kernel
theorem dX2_pieces_10 : decode cX2_pieces 10 = .ok (.getfield 33, 3) := by decide +kernel
theorem dX2_pieces_13 : decode cX2_pieces 13 = .ok (.if_icmp .ge 69, 3) := by decide +kernel
theorem dX2_pieces_16 : decode cX2_pieces 16 = .ok (.iconst 0, 1) := by decide +kernel
theorem dX2_pieces_17 : decode cX2_pieces 17 = .ok (.istore 4, 2) := by decide +kernel
theorem dX2_pieces_19 : decode cX2_pieces 19 = .ok (.iload 4, 2) := by decide +kernel
theorem dX2_pieces_21 : decode cX2_pieces 21 = .ok (.aload_n 0, 1) := by decide +kernel
theorem dX2_pieces_22 : decode cX2_pieces 22 = .ok (.getfield 29, 3) := by decide +kernel
theorem dX2_pieces_25 : decode cX2_pieces 25 = .ok (.if_icmp .ge 51, 3) := by decide +kernel
theorem dX2_pieces_28 : decode cX2_pieces 28 = .ok (.aload_n 0, 1) := by decide +kernel
theorem dX2_pieces_29 : decode cX2_pieces 29 = .ok (.getfield 7, 3) := by decide +kernel
theorem dX2_pieces_32 : decode cX2_pieces 32 = .ok (.bipush 24, 2) := by decide +kernel
theorem dX2_pieces_34 : decode cX2_pieces 34 = .ok (.iload_n 3, 1) := by decide +kernel
theorem dX2_pieces_35 : decode cX2_pieces 35 = .ok (.imul, 1) := by decide +kernel
theorem dX2_pieces_36 : decode cX2_pieces 36 = .ok (.iload 4, 2) := by decide +kernel
theorem dX2_pieces_38 : decode cX2_pieces 38 = .ok (.iadd, 1) := by decide +kernel
theorem dX2_pieces_39 : decode cX2_pieces 39 = .ok (.iaload, 1) := by decide +kernel
theorem dX2_pieces_40 : decode cX2_pieces 40 = .ok (.iload_n 1, 1) := by decide +kernel
theorem dX2_pieces_41 : decode cX2_pieces 41 = .ok (.if_icmp .ne 29, 3) := by decide +kernel
theorem dX2_pieces_44 : decode cX2_pieces 44 = .ok (.aload_n 0, 1) := by decide +kernel
theorem dX2_pieces_45 : decode cX2_pieces 45 = .ok (.getfield 25, 3) := by decide +kernel
theorem dX2_pieces_48 : decode cX2_pieces 48 = .ok (.bipush 24, 2) := by decide +kernel
theorem dX2_pieces_50 : decode cX2_pieces 50 = .ok (.iload_n 3, 1) := by decide +kernel
theorem dX2_pieces_51 : decode cX2_pieces 51 = .ok (.imul, 1) := by decide +kernel
theorem dX2_pieces_52 : decode cX2_pieces 52 = .ok (.iload 4, 2) := by decide +kernel
theorem dX2_pieces_54 : decode cX2_pieces 54 = .ok (.iadd, 1) := by decide +kernel
theorem dX2_pieces_55 : decode cX2_pieces 55 = .ok (.baload, 1) := by decide +kernel
theorem dX2_pieces_56 : decode cX2_pieces 56 = .ok (.ifCond .ne 14, 3) := by decide +kernel
theorem dX2_pieces_59 : decode cX2_pieces 59 = .ok (.aload_n 0, 1) := by decide +kernel
theorem dX2_pieces_60 : decode cX2_pieces 60 = .ok (.iload 4, 2) := by decide +kernel
theorem dX2_pieces_62 : decode cX2_pieces 62 = .ok (.iload_n 3, 1) := by decide +kernel
theorem dX2_pieces_63 : decode cX2_pieces 63 = .ok (.invokevirtual 81, 3) := by decide +kernel
theorem dX2_pieces_66 : decode cX2_pieces 66 = .ok (.pop, 1) := by decide +kernel
theorem dX2_pieces_67 : decode cX2_pieces 67 = .ok (.iinc 2 1, 3) := by decide +kernel
theorem dX2_pieces_70 : decode cX2_pieces 70 = .ok (.iinc 4 1, 3) := by decide +kernel
theorem dX2_pieces_73 : decode cX2_pieces 73 = .ok (.goto (-54), 3) := by decide +kernel
theorem dX2_pieces_76 : decode cX2_pieces 76 = .ok (.iinc 3 1, 3) := by decide +kernel
theorem dX2_pieces_79 : decode cX2_pieces 79 = .ok (.goto (-71), 3) := by decide +kernel
theorem dX2_pieces_82 : decode cX2_pieces 82 = .ok (.iload_n 2, 1) := by decide +kernel
theorem dX2_pieces_83 : decode cX2_pieces 83 = .ok (.ireturn, 1) := by decide +kernel
set_option maxRecDepth 20000 in
theorem ggX2_pixel_X2_isPixel : GoodIn wsX2_pixel wsX2_isPixel := goodIn_r _ [6, 7, 8, 9, 10, 11, 12, 13, 14, 15, 16] (by decide +kernel) (by decide +kernel)
set_option maxRecDepth 20000 in
theorem gX2_pixel_X2_isPixel : GoodIn wsX2_pixel (wsV RX2 75 RX2 yX2_isPixel wsX2_isPixel) := goodIn_app (goodIn_of _ (by decide +kernel)) ggX2_pixel_X2_isPixel
theorem dX2_pixel_0 : decode cX2_pixel 0 = .ok (.aload_n 0, 1) := by decide +kernel
theorem dX2_pixel_1 : decode cX2_pixel 1 = .ok (.iload_n 1, 1) := by decide +kernel
theorem dX2_pixel_2 : decode cX2_pixel 2 = .ok (.iload_n 2, 1) := by decide +kernel
theorem dX2_pixel_3 : decode cX2_pixel 3 = .ok (.invokevirtual 75, 3) := by decide +kernel
theorem dX2_pixel_6 : decode cX2_pixel 6 = .ok (.ifCond .eq 17, 3) := by decide +kernel
theorem dX2_pixel_9 : decode cX2_pixel 9 = .ok (.aload_n 0, 1) := by decide +kernel
theorem dX2_pixel_10 : decode cX2_pixel 10 = .ok (.getfield 7, 3) := by decide +kernel
theorem dX2_pixel_13 : decode cX2_pixel 13 = .ok (.bipush 24, 2) := by decide +kernel
theorem dX2_pixel_15 : decode cX2_pixel 15 = .ok (.iload_n 2, 1) := by decide +kernel
theorem dX2_pixel_16 : decode cX2_pixel 16 = .ok (.imul, 1) := by decide +kernel
theorem dX2_pixel_17 : decode cX2_pixel 17 = .ok (.iload_n 1, 1) := by decide +kernel
theorem dX2_pixel_18 : decode cX2_pixel 18 = .ok (.iadd, 1) := by decide +kernel
theorem dX2_pixel_19 : decode cX2_pixel 19 = .ok (.iaload, 1) := by decide +kernel
theorem dX2_pixel_20 : decode cX2_pixel 20 = .ok (.goto 4, 3) := by decide +kernel
theorem dX2_pixel_23 : decode cX2_pixel 23 = .ok (.iconst (-1), 1) := by decide +kernel
theorem dX2_pixel_24 : decode cX2_pixel 24 = .ok (.ireturn, 1) := by decide +kernel
set_option maxRecDepth 20000 in
theorem ggX2_depthAt_X2_isPixel : GoodIn wsX2_depthAt wsX2_isPixel := goodIn_r _ [6, 7, 8, 9, 10, 11, 12, 13, 14, 15, 16] (by decide +kernel) (by decide +kernel)
set_option maxRecDepth 20000 in
theorem gX2_depthAt_X2_isPixel : GoodIn wsX2_depthAt (wsV RX2 75 RX2 yX2_isPixel wsX2_isPixel) := goodIn_app (goodIn_of _ (by decide +kernel)) ggX2_depthAt_X2_isPixel
theorem dX2_depthAt_0 : decode cX2_depthAt 0 = .ok (.aload_n 0, 1) := by decide +kernel
theorem dX2_depthAt_1 : decode cX2_depthAt 1 = .ok (.iload_n 1, 1) := by decide +kernel
theorem dX2_depthAt_2 : decode cX2_depthAt 2 = .ok (.iload_n 2, 1) := by decide +kernel
theorem dX2_depthAt_3 : decode cX2_depthAt 3 = .ok (.invokevirtual 75, 3) := by decide +kernel
theorem dX2_depthAt_6 : decode cX2_depthAt 6 = .ok (.ifCond .eq 17, 3) := by decide +kernel
theorem dX2_depthAt_9 : decode cX2_depthAt 9 = .ok (.aload_n 0, 1) := by decide +kernel
theorem dX2_depthAt_10 : decode cX2_depthAt 10 = .ok (.getfield 13, 3) := by decide +kernel
theorem dX2_depthAt_13 : decode cX2_depthAt 13 = .ok (.bipush 24, 2) := by decide +kernel
theorem dX2_depthAt_15 : decode cX2_depthAt 15 = .ok (.iload_n 2, 1) := by decide +kernel
theorem dX2_depthAt_16 : decode cX2_depthAt 16 = .ok (.imul, 1) := by decide +kernel
theorem dX2_depthAt_17 : decode cX2_depthAt 17 = .ok (.iload_n 1, 1) := by decide +kernel
theorem dX2_depthAt_18 : decode cX2_depthAt 18 = .ok (.iadd, 1) := by decide +kernel
theorem dX2_depthAt_19 : decode cX2_depthAt 19 = .ok (.iaload, 1) := by decide +kernel
theorem dX2_depthAt_20 : decode cX2_depthAt 20 = .ok (.goto 4, 3) := by decide +kernel
theorem dX2_depthAt_23 : decode cX2_depthAt 23 = .ok (.iconst (-1), 1) := by decide +kernel
theorem dX2_depthAt_24 : decode cX2_depthAt 24 = .ok (.ireturn, 1) := by decide +kernel
theorem dX2_count_0 : decode cX2_count 0 = .ok (.iconst 0, 1) := by decide +kernel
theorem dX2_count_1 : decode cX2_count 1 = .ok (.istore_n 2, 1) := by decide +kernel
theorem dX2_count_2 : decode cX2_count 2 = .ok (.iconst 0, 1) := by decide +kernel
theorem dX2_count_3 : decode cX2_count 3 = .ok (.istore_n 3, 1) := by decide +kernel
theorem dX2_count_4 : decode cX2_count 4 = .ok (.iload_n 3, 1) := by decide +kernel
theorem dX2_count_5 : decode cX2_count 5 = .ok (.aload_n 0, 1) := by decide +kernel
theorem dX2_count_6 : decode cX2_count 6 = .ok (.getfield 33, 3) := by decide +kernel
theorem dX2_count_9 : decode cX2_count 9 = .ok (.if_icmp .ge 51, 3) := by decide +kernel
theorem dX2_count_12 : decode cX2_count 12 = .ok (.iconst 0, 1) := by decide +kernel
theorem dX2_count_13 : decode cX2_count 13 = .ok (.istore 4, 2) := by decide +kernel
theorem dX2_count_15 : decode cX2_count 15 = .ok (.iload 4, 2) := by decide +kernel
end
section
theorem dX2_count_17 : decode cX2_count 17 = .ok (.aload_n 0, 1) := by decide +kernel
theorem dX2_count_18 : decode cX2_count 18 = .ok (.getfield 29, 3) := by decide +kernel
theorem dX2_count_21 : decode cX2_count 21 = .ok (.if_icmp .ge 33, 3) := by decide +kernel
theorem dX2_count_24 : decode cX2_count 24 = .ok (.iload_n 2, 1) := by decide +kernel
theorem dX2_count_25 : decode cX2_count 25 = .ok (.aload_n 0, 1) := by decide +kernel
theorem dX2_count_26 : decode cX2_count 26 = .ok (.getfield 7, 3) := by decide +kernel
theorem dX2_count_29 : decode cX2_count 29 = .ok (.bipush 24, 2) := by decide +kernel
theorem dX2_count_31 : decode cX2_count 31 = .ok (.iload_n 3, 1) := by decide +kernel
theorem dX2_count_32 : decode cX2_count 32 = .ok (.imul, 1) := by decide +kernel
theorem dX2_count_33 : decode cX2_count 33 = .ok (.iload 4, 2) := by decide +kernel
theorem dX2_count_35 : decode cX2_count 35 = .ok (.iadd, 1) := by decide +kernel
theorem dX2_count_36 : decode cX2_count 36 = .ok (.iaload, 1) := by decide +kernel
theorem dX2_count_37 : decode cX2_count 37 = .ok (.iload_n 1, 1) := by decide +kernel
theorem dX2_count_38 : decode cX2_count 38 = .ok (.if_icmp .ne 7, 3) := by decide +kernel
theorem dX2_count_41 : decode cX2_count 41 = .ok (.iconst 1, 1) := by decide +kernel
theorem dX2_count_42 : decode cX2_count 42 = .ok (.goto 4, 3) := by decide +kernel
theorem dX2_count_45 : decode cX2_count 45 = .ok (.iconst 0, 1) := by decide +kernel
theorem dX2_count_46 : decode cX2_count 46 = .ok (.iadd, 1) := by decide +kernel
theorem dX2_count_47 : decode cX2_count 47 = .ok (.istore_n 2, 1) := by decide +kernel
theorem dX2_count_48 : decode cX2_count 48 = .ok (.iinc 4 1, 3) := by decide +kernel
theorem dX2_count_51 : decode cX2_count 51 = .ok (.goto (-36), 3) := by decide +kernel
theorem dX2_count_54 : decode cX2_count 54 = .ok (.iinc 3 1, 3) := by decide +kernel
theorem dX2_count_57 : decode cX2_count 57 = .ok (.goto (-53), 3) := by decide +kernel
theorem dX2_count_60 : decode cX2_count 60 = .ok (.iload_n 2, 1) := by decide +kernel
theorem dX2_count_61 : decode cX2_count 61 = .ok (.ireturn, 1) := by decide +kernel
end
section
theorem dJ9_abs_0f7a4_0 : decode cJ9_abs_0f7a4 0 = .ok (.iload_n 0, 1) := by decide +kernel
theorem dJ9_abs_0f7a4_1 : decode cJ9_abs_0f7a4 1 = .ok (.ifCond .ge 8, 3) := by decide +kernel
theorem dJ9_abs_0f7a4_4 : decode cJ9_abs_0f7a4 4 = .ok (.iload_n 0, 1) := by decide +kernel
theorem dJ9_abs_0f7a4_5 : decode cJ9_abs_0f7a4 5 = .ok (.ineg, 1) := by decide +kernel
theorem dJ9_abs_0f7a4_6 : decode cJ9_abs_0f7a4 6 = .ok (.goto 4, 3) := by decide +kernel
theorem dJ9_abs_0f7a4_9 : decode cJ9_abs_0f7a4 9 = .ok (.iload_n 0, 1) := by decide +kernel
theorem dJ9_abs_0f7a4_10 : decode cJ9_abs_0f7a4 10 = .ok (.ireturn, 1) := by decide +kernel
theorem dJ9_abs_067f4_0 : decode cJ9_abs_067f4 0 = .ok (.lload_n 0, 1) := by decide +kernel
theorem dJ9_abs_067f4_1 : decode cJ9_abs_067f4 1 = .ok (.lconst 0, 1) := by decide +kernel
theorem dJ9_abs_067f4_2 : decode cJ9_abs_067f4 2 = .ok (.lcmp, 1) := by decide +kernel
theorem dJ9_abs_067f4_3 : decode cJ9_abs_067f4 3 = .ok (.ifCond .ge 8, 3) := by decide +kernel
theorem dJ9_abs_067f4_6 : decode cJ9_abs_067f4 6 = .ok (.lload_n 0, 1) := by decide +kernel
theorem dJ9_abs_067f4_7 : decode cJ9_abs_067f4 7 = .ok (.lneg, 1) := by decide +kernel
theorem dJ9_abs_067f4_8 : decode cJ9_abs_067f4 8 = .ok (.goto 4, 3) := by decide +kernel
theorem dJ9_abs_067f4_11 : decode cJ9_abs_067f4 11 = .ok (.lload_n 0, 1) := by decide +kernel
theorem dJ9_abs_067f4_12 : decode cJ9_abs_067f4 12 = .ok (.lreturn, 1) := by decide +kernel
theorem dJ7_fill_53178_0 : decode cJ7_fill_53178 0 = .ok (.iconst 0, 1) := by decide +kernel
theorem dJ7_fill_53178_1 : decode cJ7_fill_53178 1 = .ok (.istore_n 2, 1) := by decide +kernel
theorem dJ7_fill_53178_2 : decode cJ7_fill_53178 2 = .ok (.aload_n 0, 1) := by decide +kernel
theorem dJ7_fill_53178_3 : decode cJ7_fill_53178 3 = .ok (.arraylength, 1) := by decide +kernel
theorem dJ7_fill_53178_4 : decode cJ7_fill_53178 4 = .ok (.istore_n 3, 1) := by decide +kernel
theorem dJ7_fill_53178_5 : decode cJ7_fill_53178 5 = .ok (.iload_n 2, 1) := by decide +kernel
theorem dJ7_fill_53178_6 : decode cJ7_fill_53178 6 = .ok (.iload_n 3, 1) := by decide +kernel
theorem dJ7_fill_53178_7 : decode cJ7_fill_53178 7 = .ok (.if_icmp .ge 13, 3) := by decide +kernel
theorem dJ7_fill_53178_10 : decode cJ7_fill_53178 10 = .ok (.aload_n 0, 1) := by decide +kernel
theorem dJ7_fill_53178_11 : decode cJ7_fill_53178 11 = .ok (.iload_n 2, 1) := by decide +kernel
theorem dJ7_fill_53178_12 : decode cJ7_fill_53178 12 = .ok (.iload_n 1, 1) := by decide +kernel
theorem dJ7_fill_53178_13 : decode cJ7_fill_53178 13 = .ok (.iastore, 1) := by decide +kernel
theorem dJ7_fill_53178_14 : decode cJ7_fill_53178 14 = .ok (.iinc 2 1, 3) := by decide +kernel
theorem dJ7_fill_53178_17 : decode cJ7_fill_53178 17 = .ok (.goto (-12), 3) := by decide +kernel
theorem dJ7_fill_53178_20 : decode cJ7_fill_53178 20 = .ok (.return_, 1) := by decide +kernel
theorem dL_cell_0 : decode cL_cell 0 = .ok (.iload_n 1, 1) := by decide +kernel
theorem dL_cell_1 : decode cL_cell 1 = .ok (.aload_n 0, 1) := by decide +kernel
theorem dL_cell_2 : decode cL_cell 2 = .ok (.arraylength, 1) := by decide +kernel
theorem dL_cell_3 : decode cL_cell 3 = .ok (.if_icmp .ge 9, 3) := by decide +kernel
theorem dL_cell_6 : decode cL_cell 6 = .ok (.aload_n 0, 1) := by decide +kernel
theorem dL_cell_7 : decode cL_cell 7 = .ok (.iload_n 1, 1) := by decide +kernel
theorem dL_cell_8 : decode cL_cell 8 = .ok (.iaload, 1) := by decide +kernel
theorem dL_cell_9 : decode cL_cell 9 = .ok (.goto 4, 3) := by decide +kernel
theorem dL_cell_12 : decode cL_cell 12 = .ok (.iconst 0, 1) := by decide +kernel
theorem dL_cell_13 : decode cL_cell 13 = .ok (.ireturn, 1) := by decide +kernel
set_option maxRecDepth 20000 in
theorem ggL_law_L_cell : GoodIn wsL_law wsL_cell := goodIn_r _ [9] (by decide +kernel) (by decide +kernel)
set_option maxRecDepth 20000 in
theorem gL_law_L_cell : GoodIn wsL_law (va_wsS RL 9 yL_cell wsL_cell) := goodIn_app (goodIn_of _ (by decide +kernel)) ggL_law_L_cell
set_option maxRecDepth 20000 in
theorem ggL_law_X1_init : GoodIn wsL_law wsX1_init := goodIn_r _ [12, 13, 14, 15, 16, 17, 18, 19, 20, 21, 22, 23, 24, 25, 26, 27, 28, 29, 30, 2, 31, 32, 33, 34, 35, 36, 37, 38, 39, 40, 41, 42, 43, 250, 251, 252, 253, 254, 255, 256, 257, 266, 267, 268, 269, 270, 271] (by decide +kernel) (by decide +kernel)
set_option maxRecDepth 20000 in
theorem gL_law_X1_init : GoodIn wsL_law (wsX1_init) := ggL_law_X1_init
set_option maxRecDepth 20000 in
theorem ggL_law_X2_init : GoodIn wsL_law wsX2_init := goodIn_r _ [46, 47, 14, 15, 18, 48, 49, 50, 51, 52, 25, 53, 54, 55, 258, 259, 260, 261, 262, 263, 264, 265] (by decide +kernel) (by decide +kernel)
set_option maxRecDepth 20000 in
theorem gL_law_X2_init : GoodIn wsL_law (wsX2_init) := ggL_law_X2_init
set_option maxRecDepth 20000 in
theorem ggL_law_X1_clear : GoodIn wsL_law wsX1_clear := goodIn_r _ [59, 60, 19, 20, 32, 33, 2, 34, 61, 62, 63, 64, 250, 251, 252, 253, 254, 255, 256, 257] (by decide +kernel) (by decide +kernel)
set_option maxRecDepth 20000 in
theorem gL_law_X1_clear : GoodIn wsL_law (wsV RL 21 RX1 yX1_clear wsX1_clear) := goodIn_app (goodIn_of _ (by decide +kernel)) ggL_law_X1_clear
set_option maxRecDepth 20000 in
theorem ggL_law_X2_clear : GoodIn wsL_law wsX2_clear := goodIn_r _ [68, 69, 48, 49, 258, 259, 260, 261, 262, 263, 264, 265] (by decide +kernel) (by decide +kernel)
set_option maxRecDepth 20000 in
theorem gL_law_X2_clear : GoodIn wsL_law (wsV RL 25 RX2 yX2_clear wsX2_clear) := goodIn_app (goodIn_of _ (by decide +kernel)) ggL_law_X2_clear
set_option maxRecDepth 20000 in
theorem ggL_law_X1_vertex : GoodIn wsL_law wsX1_vertex := goodIn_r _ [73, 74, 24, 32, 33, 2, 34, 75, 76, 77, 78, 23, 79, 80, 38, 39, 40, 81, 82, 83, 84, 41, 42, 85, 86, 87, 88, 43, 89, 90, 91, 92, 250, 251, 252, 253, 254, 255, 256, 257, 266, 267, 268, 269, 270, 271] (by decide +kernel) (by decide +kernel)
set_option maxRecDepth 20000 in
theorem gL_law_X1_vertex : GoodIn wsL_law (wsV RL 26 RX1 yX1_vertex wsX1_vertex) := goodIn_app (goodIn_of _ (by decide +kernel)) ggL_law_X1_vertex
set_option maxRecDepth 20000 in
theorem ggL_law_X2_vertex : GoodIn wsL_law wsX2_vertex := goodIn_r _ [96, 97, 50, 51, 52, 98, 99, 5, 100, 258, 259, 260, 261, 262, 263, 264, 265] (by decide +kernel) (by decide +kernel)
set_option maxRecDepth 20000 in
theorem gL_law_X2_vertex : GoodIn wsL_law (wsV RL 30 RX2 yX2_vertex wsX2_vertex) := goodIn_app (goodIn_of _ (by decide +kernel)) ggL_law_X2_vertex
set_option maxRecDepth 20000 in
theorem ggL_law_X1_triangle : GoodIn wsL_law wsX1_triangle := goodIn_r _ [104, 17, 16, 105, 106, 107, 2, 108, 24, 20, 19, 109, 110, 111, 112, 32, 33, 34, 113, 23, 114, 115, 43, 41, 42, 40, 89, 90, 91, 92, 38, 39, 116, 117, 118, 119, 120, 121, 122, 123, 250, 251, 252, 253, 254, 255, 256, 257, 266, 267, 268, 269, 270, 271] (by decide +kernel) (by decide +kernel)
set_option maxRecDepth 20000 in
theorem gL_law_X1_triangle : GoodIn wsL_law (wsV RL 31 RX1 yX1_triangle wsX1_triangle) := goodIn_app (goodIn_of _ (by decide +kernel)) ggL_law_X1_triangle
set_option maxRecDepth 20000 in
theorem ggL_law_X2_triangle : GoodIn wsL_law wsX2_triangle := goodIn_r _ [127, 55, 54, 49, 48, 128, 129, 130, 5, 131, 132, 133, 134, 135, 136, 137, 50, 51, 138, 139, 140, 141, 142, 143, 144, 145, 146, 147, 148, 149, 150, 151, 152, 153, 52, 258, 259, 260, 261, 262, 263, 264, 265] (by decide +kernel) (by decide +kernel)
set_option maxRecDepth 20000 in
theorem gL_law_X2_triangle : GoodIn wsL_law (wsV RL 35 RX2 yX2_triangle wsX2_triangle) := goodIn_app (goodIn_of _ (by decide +kernel)) ggL_law_X2_triangle
set_option maxRecDepth 20000 in
theorem ggL_law_X1_covers : GoodIn wsL_law wsX1_covers := goodIn_r _ [157, 24, 32, 33, 2, 34, 113, 23, 114, 115, 43, 41, 42, 40, 89, 90, 91, 92, 38, 39, 116, 117, 118, 119, 120, 121, 122, 123, 250, 251, 252, 253, 254, 255, 256, 257, 266, 267, 268, 269, 270, 271] (by decide +kernel) (by decide +kernel)
set_option maxRecDepth 20000 in
theorem gL_law_X1_covers : GoodIn wsL_law (wsV RL 36 RX1 yX1_covers wsX1_covers) := goodIn_app (goodIn_of _ (by decide +kernel)) ggL_law_X1_covers
set_option maxRecDepth 20000 in
theorem ggL_law_X2_covers : GoodIn wsL_law wsX2_covers := goodIn_r _ [161, 128, 129, 130, 5, 131, 132, 133, 134, 135, 136, 137, 50, 51, 138, 139, 140, 141, 142, 143, 144, 145, 146, 147, 148, 149, 258, 259, 260, 261, 262, 263, 264, 265] (by decide +kernel) (by decide +kernel)
set_option maxRecDepth 20000 in
theorem gL_law_X2_covers : GoodIn wsL_law (wsV RL 39 RX2 yX2_covers wsX2_covers) := goodIn_app (goodIn_of _ (by decide +kernel)) ggL_law_X2_covers
set_option maxRecDepth 20000 in
theorem ggL_law_X1_line : GoodIn wsL_law wsX1_line := goodIn_r _ [165, 166, 167, 87, 168, 16, 17, 75, 76, 2, 77, 32, 33, 34, 169, 170, 171, 172, 173, 174, 175, 176, 19, 109, 110, 111, 112, 250, 251, 252, 253, 254, 255, 256, 257] (by decide +kernel) (by decide +kernel)
set_option maxRecDepth 20000 in
theorem gL_law_X1_line : GoodIn wsL_law (wsV RL 40 RX1 yX1_line wsX1_line) := goodIn_app (goodIn_of _ (by decide +kernel)) ggL_law_X1_line
set_option maxRecDepth 20000 in
theorem ggL_law_X2_line : GoodIn wsL_law wsX2_line := goodIn_r _ [180, 181, 48, 98, 99, 5, 100, 182, 183, 184, 185, 186, 187, 188, 54, 55, 258, 259, 260, 261, 262, 263, 264, 265] (by decide +kernel) (by decide +kernel)
set_option maxRecDepth 20000 in
theorem gL_law_X2_line : GoodIn wsL_law (wsV RL 44 RX2 yX2_line wsX2_line) := goodIn_app (goodIn_of _ (by decide +kernel)) ggL_law_X2_line
set_option maxRecDepth 20000 in
theorem ggL_law_X1_fill : GoodIn wsL_law wsX1_fill := goodIn_r _ [192, 19, 27, 109, 110, 111, 2, 112, 16, 17, 32, 33, 34, 193, 194, 195, 196, 26, 197, 198, 199, 200, 28, 201, 202, 203, 204, 205, 206, 207, 208, 250, 251, 252, 253, 254, 255, 256, 257] (by decide +kernel) (by decide +kernel)
set_option maxRecDepth 20000 in
theorem gL_law_X1_fill : GoodIn wsL_law (wsV RL 45 RX1 yX1_fill wsX1_fill) := goodIn_app (goodIn_of _ (by decide +kernel)) ggL_law_X1_fill
set_option maxRecDepth 20000 in
theorem ggL_law_X2_fill : GoodIn wsL_law wsX2_fill := goodIn_r _ [212, 48, 53, 185, 186, 187, 5, 188, 54, 55, 213, 214, 215, 216, 217, 218, 219, 220, 258, 259, 260, 261, 262, 263, 264, 265] (by decide +kernel) (by decide +kernel)
set_option maxRecDepth 20000 in
theorem gL_law_X2_fill : GoodIn wsL_law (wsV RL 49 RX2 yX2_fill wsX2_fill) := goodIn_app (goodIn_of _ (by decide +kernel)) ggL_law_X2_fill
set_option maxRecDepth 20000 in
theorem ggL_law_X1_pixel : GoodIn wsL_law wsX1_pixel := goodIn_r _ [204, 19, 109, 110, 111, 2, 112, 16, 17, 32, 33, 34, 250, 251, 252, 253, 254, 255, 256, 257] (by decide +kernel) (by decide +kernel)
set_option maxRecDepth 20000 in
theorem gL_law_X1_pixel : GoodIn wsL_law (wsV RL 50 RX1 yX1_pixel wsX1_pixel) := goodIn_app (goodIn_of _ (by decide +kernel)) ggL_law_X1_pixel
set_option maxRecDepth 20000 in
theorem ggL_law_X2_pixel : GoodIn wsL_law wsX2_pixel := goodIn_r _ [225, 48, 185, 186, 187, 5, 188, 54, 55, 258, 259, 260, 261, 262, 263, 264, 265] (by decide +kernel) (by decide +kernel)
set_option maxRecDepth 20000 in
theorem gL_law_X2_pixel : GoodIn wsL_law (wsV RL 54 RX2 yX2_pixel wsX2_pixel) := goodIn_app (goodIn_of _ (by decide +kernel)) ggL_law_X2_pixel
set_option maxRecDepth 20000 in
theorem ggL_law_X1_depthAt : GoodIn wsL_law wsX1_depthAt := goodIn_r _ [229, 20, 109, 110, 111, 2, 112, 16, 17, 32, 33, 34, 250, 251, 252, 253, 254, 255, 256, 257] (by decide +kernel) (by decide +kernel)
set_option maxRecDepth 20000 in
theorem gL_law_X1_depthAt : GoodIn wsL_law (wsV RL 55 RX1 yX1_depthAt wsX1_depthAt) := goodIn_app (goodIn_of _ (by decide +kernel)) ggL_law_X1_depthAt
set_option maxRecDepth 20000 in
theorem ggL_law_X2_depthAt : GoodIn wsL_law wsX2_depthAt := goodIn_r _ [233, 49, 185, 186, 187, 5, 188, 54, 55, 258, 259, 260, 261, 262, 263, 264, 265] (by decide +kernel) (by decide +kernel)
set_option maxRecDepth 20000 in
theorem gL_law_X2_depthAt : GoodIn wsL_law (wsV RL 58 RX2 yX2_depthAt wsX2_depthAt) := goodIn_app (goodIn_of _ (by decide +kernel)) ggL_law_X2_depthAt
set_option maxRecDepth 20000 in
theorem ggL_law_X1_count : GoodIn wsL_law wsX1_count := goodIn_r _ [237, 19, 250, 251, 252, 253, 254, 255, 256, 257] (by decide +kernel) (by decide +kernel)
set_option maxRecDepth 20000 in
theorem gL_law_X1_count : GoodIn wsL_law (wsV RL 59 RX1 yX1_count wsX1_count) := goodIn_app (goodIn_of _ (by decide +kernel)) ggL_law_X1_count
set_option maxRecDepth 20000 in
theorem ggL_law_X2_count : GoodIn wsL_law wsX2_count := goodIn_r _ [241, 55, 54, 48, 258, 259, 260, 261, 262, 263, 264, 265] (by decide +kernel) (by decide +kernel)
set_option maxRecDepth 20000 in
theorem gL_law_X2_count : GoodIn wsL_law (wsV RL 62 RX2 yX2_count wsX2_count) := goodIn_app (goodIn_of _ (by decide +kernel)) ggL_law_X2_count
set_option maxRecDepth 20000 in
theorem ggL_law_X1_pieces : GoodIn wsL_law wsX1_pieces := goodIn_r _ [245, 19, 26, 16, 193, 194, 195, 2, 196, 197, 198, 199, 200, 28, 27, 201, 202, 203, 204, 109, 110, 111, 112, 17, 32, 33, 34, 205, 206, 207, 208, 250, 251, 252, 253, 254, 255, 256, 257] (by decide +kernel) (by decide +kernel)
set_option maxRecDepth 20000 in
theorem gL_law_X1_pieces : GoodIn wsL_law (wsV RL 63 RX1 yX1_pieces wsX1_pieces) := goodIn_app (goodIn_of _ (by decide +kernel)) ggL_law_X1_pieces
set_option maxRecDepth 20000 in
theorem ggL_law_X2_pieces : GoodIn wsL_law wsX2_pieces := goodIn_r _ [249, 55, 54, 48, 53, 213, 214, 215, 5, 216, 217, 218, 219, 220, 258, 259, 260, 261, 262, 263, 264, 265] (by decide +kernel) (by decide +kernel)
set_option maxRecDepth 20000 in
theorem gL_law_X2_pieces : GoodIn wsL_law (wsV RL 66 RX2 yX2_pieces wsX2_pieces) := goodIn_app (goodIn_of _ (by decide +kernel)) ggL_law_X2_pieces
theorem dL_law_0 : decode cL_law 0 = .ok (.new 7, 3) := by decide +kernel
theorem dL_law_3 : decode cL_law 3 = .ok (.dup, 1) := by decide +kernel
theorem dL_law_4 : decode cL_law 4 = .ok (.aload_n 0, 1) := by decide +kernel
theorem dL_law_5 : decode cL_law 5 = .ok (.iconst 0, 1) := by decide +kernel
theorem dL_law_6 : decode cL_law 6 = .ok (.invokestatic 9, 3) := by decide +kernel
theorem dL_law_9 : decode cL_law 9 = .ok (.aload_n 0, 1) := by decide +kernel
theorem dL_law_10 : decode cL_law 10 = .ok (.iconst 1, 1) := by decide +kernel
theorem dL_law_11 : decode cL_law 11 = .ok (.invokestatic 9, 3) := by decide +kernel
theorem dL_law_14 : decode cL_law 14 = .ok (.invokespecial 15, 3) := by decide +kernel
theorem dL_law_17 : decode cL_law 17 = .ok (.astore_n 1, 1) := by decide +kernel
theorem dL_law_18 : decode cL_law 18 = .ok (.new 18, 3) := by decide +kernel
theorem dL_law_21 : decode cL_law 21 = .ok (.dup, 1) := by decide +kernel
theorem dL_law_22 : decode cL_law 22 = .ok (.aload_n 0, 1) := by decide +kernel
theorem dL_law_23 : decode cL_law 23 = .ok (.iconst 0, 1) := by decide +kernel
theorem dL_law_24 : decode cL_law 24 = .ok (.invokestatic 9, 3) := by decide +kernel
theorem dL_law_27 : decode cL_law 27 = .ok (.aload_n 0, 1) := by decide +kernel
theorem dL_law_28 : decode cL_law 28 = .ok (.iconst 1, 1) := by decide +kernel
theorem dL_law_29 : decode cL_law 29 = .ok (.invokestatic 9, 3) := by decide +kernel
theorem dL_law_32 : decode cL_law 32 = .ok (.invokespecial 20, 3) := by decide +kernel
theorem dL_law_35 : decode cL_law 35 = .ok (.astore_n 2, 1) := by decide +kernel
theorem dL_law_36 : decode cL_law 36 = .ok (.iconst 2, 1) := by decide +kernel
theorem dL_law_37 : decode cL_law 37 = .ok (.istore_n 3, 1) := by decide +kernel
theorem dL_law_38 : decode cL_law 38 = .ok (.iload_n 3, 1) := by decide +kernel
theorem dL_law_39 : decode cL_law 39 = .ok (.aload_n 0, 1) := by decide +kernel
theorem dL_law_40 : decode cL_law 40 = .ok (.arraylength, 1) := by decide +kernel
theorem dL_law_41 : decode cL_law 41 = .ok (.bipush 6, 2) := by decide +kernel
theorem dL_law_43 : decode cL_law 43 = .ok (.isub, 1) := by decide +kernel
theorem dL_law_44 : decode cL_law 44 = .ok (.if_icmp .gt 430, 3) := by decide +kernel
theorem dL_law_47 : decode cL_law 47 = .ok (.aload_n 0, 1) := by decide +kernel
theorem dL_law_48 : decode cL_law 48 = .ok (.iload_n 3, 1) := by decide +kernel
theorem dL_law_49 : decode cL_law 49 = .ok (.iaload, 1) := by decide +kernel
theorem dL_law_50 : decode cL_law 50 = .ok (.bipush 15, 2) := by decide +kernel
theorem dL_law_52 : decode cL_law 52 = .ok (.iand, 1) := by decide +kernel
theorem dL_law_53 : decode cL_law 53 = .ok (.tableswitch 415 0 9 #[55, 88, 141, 164, 197, 260, 303, 336, 369, 392], 55) := by decide +kernel
theorem dL_law_108 : decode cL_law 108 = .ok (.aload_n 1, 1) := by decide +kernel
theorem dL_law_109 : decode cL_law 109 = .ok (.aload_n 0, 1) := by decide +kernel
theorem dL_law_110 : decode cL_law 110 = .ok (.iload_n 3, 1) := by decide +kernel
theorem dL_law_111 : decode cL_law 111 = .ok (.iconst 1, 1) := by decide +kernel
theorem dL_law_112 : decode cL_law 112 = .ok (.iadd, 1) := by decide +kernel
theorem dL_law_113 : decode cL_law 113 = .ok (.iaload, 1) := by decide +kernel
theorem dL_law_114 : decode cL_law 114 = .ok (.aload_n 0, 1) := by decide +kernel
theorem dL_law_115 : decode cL_law 115 = .ok (.iload_n 3, 1) := by decide +kernel
theorem dL_law_116 : decode cL_law 116 = .ok (.iconst 2, 1) := by decide +kernel
theorem dL_law_117 : decode cL_law 117 = .ok (.iadd, 1) := by decide +kernel
theorem dL_law_118 : decode cL_law 118 = .ok (.iaload, 1) := by decide +kernel
theorem dL_law_119 : decode cL_law 119 = .ok (.invokevirtual 21, 3) := by decide +kernel
theorem dL_law_122 : decode cL_law 122 = .ok (.aload_n 2, 1) := by decide +kernel
theorem dL_law_123 : decode cL_law 123 = .ok (.aload_n 0, 1) := by decide +kernel
theorem dL_law_124 : decode cL_law 124 = .ok (.iload_n 3, 1) := by decide +kernel
theorem dL_law_125 : decode cL_law 125 = .ok (.iconst 1, 1) := by decide +kernel
theorem dL_law_126 : decode cL_law 126 = .ok (.iadd, 1) := by decide +kernel
theorem dL_law_127 : decode cL_law 127 = .ok (.iaload, 1) := by decide +kernel
theorem dL_law_128 : decode cL_law 128 = .ok (.aload_n 0, 1) := by decide +kernel
theorem dL_law_129 : decode cL_law 129 = .ok (.iload_n 3, 1) := by decide +kernel
theorem dL_law_130 : decode cL_law 130 = .ok (.iconst 2, 1) := by decide +kernel
theorem dL_law_131 : decode cL_law 131 = .ok (.iadd, 1) := by decide +kernel
theorem dL_law_132 : decode cL_law 132 = .ok (.iaload, 1) := by decide +kernel
theorem dL_law_133 : decode cL_law 133 = .ok (.invokevirtual 25, 3) := by decide +kernel
theorem dL_law_136 : decode cL_law 136 = .ok (.if_icmp .eq 332, 3) := by decide +kernel
theorem dL_law_139 : decode cL_law 139 = .ok (.iconst 0, 1) := by decide +kernel
theorem dL_law_140 : decode cL_law 140 = .ok (.ireturn, 1) := by decide +kernel
theorem dL_law_141 : decode cL_law 141 = .ok (.aload_n 1, 1) := by decide +kernel
theorem dL_law_142 : decode cL_law 142 = .ok (.aload_n 0, 1) := by decide +kernel
theorem dL_law_143 : decode cL_law 143 = .ok (.iload_n 3, 1) := by decide +kernel
theorem dL_law_144 : decode cL_law 144 = .ok (.iconst 1, 1) := by decide +kernel
theorem dL_law_145 : decode cL_law 145 = .ok (.iadd, 1) := by decide +kernel
theorem dL_law_146 : decode cL_law 146 = .ok (.iaload, 1) := by decide +kernel
theorem dL_law_147 : decode cL_law 147 = .ok (.aload_n 0, 1) := by decide +kernel
theorem dL_law_148 : decode cL_law 148 = .ok (.iload_n 3, 1) := by decide +kernel
theorem dL_law_149 : decode cL_law 149 = .ok (.iconst 2, 1) := by decide +kernel
theorem dL_law_150 : decode cL_law 150 = .ok (.iadd, 1) := by decide +kernel
theorem dL_law_151 : decode cL_law 151 = .ok (.iaload, 1) := by decide +kernel
theorem dL_law_152 : decode cL_law 152 = .ok (.aload_n 0, 1) := by decide +kernel
theorem dL_law_153 : decode cL_law 153 = .ok (.iload_n 3, 1) := by decide +kernel
theorem dL_law_154 : decode cL_law 154 = .ok (.iconst 3, 1) := by decide +kernel
theorem dL_law_155 : decode cL_law 155 = .ok (.iadd, 1) := by decide +kernel
theorem dL_law_156 : decode cL_law 156 = .ok (.iaload, 1) := by decide +kernel
theorem dL_law_157 : decode cL_law 157 = .ok (.aload_n 0, 1) := by decide +kernel
theorem dL_law_158 : decode cL_law 158 = .ok (.iload_n 3, 1) := by decide +kernel
theorem dL_law_159 : decode cL_law 159 = .ok (.iconst 4, 1) := by decide +kernel
theorem dL_law_160 : decode cL_law 160 = .ok (.iadd, 1) := by decide +kernel
theorem dL_law_161 : decode cL_law 161 = .ok (.iaload, 1) := by decide +kernel
theorem dL_law_162 : decode cL_law 162 = .ok (.invokevirtual 26, 3) := by decide +kernel
theorem dL_law_165 : decode cL_law 165 = .ok (.aload_n 2, 1) := by decide +kernel
theorem dL_law_166 : decode cL_law 166 = .ok (.aload_n 0, 1) := by decide +kernel
theorem dL_law_167 : decode cL_law 167 = .ok (.iload_n 3, 1) := by decide +kernel
theorem dL_law_168 : decode cL_law 168 = .ok (.iconst 1, 1) := by decide +kernel
theorem dL_law_169 : decode cL_law 169 = .ok (.iadd, 1) := by decide +kernel
theorem dL_law_170 : decode cL_law 170 = .ok (.iaload, 1) := by decide +kernel
theorem dL_law_171 : decode cL_law 171 = .ok (.aload_n 0, 1) := by decide +kernel
theorem dL_law_172 : decode cL_law 172 = .ok (.iload_n 3, 1) := by decide +kernel
theorem dL_law_173 : decode cL_law 173 = .ok (.iconst 2, 1) := by decide +kernel
theorem dL_law_174 : decode cL_law 174 = .ok (.iadd, 1) := by decide +kernel
theorem dL_law_175 : decode cL_law 175 = .ok (.iaload, 1) := by decide +kernel
theorem dL_law_176 : decode cL_law 176 = .ok (.aload_n 0, 1) := by decide +kernel
theorem dL_law_177 : decode cL_law 177 = .ok (.iload_n 3, 1) := by decide +kernel
theorem dL_law_178 : decode cL_law 178 = .ok (.iconst 3, 1) := by decide +kernel
theorem dL_law_179 : decode cL_law 179 = .ok (.iadd, 1) := by decide +kernel
theorem dL_law_180 : decode cL_law 180 = .ok (.iaload, 1) := by decide +kernel
theorem dL_law_181 : decode cL_law 181 = .ok (.aload_n 0, 1) := by decide +kernel
theorem dL_law_182 : decode cL_law 182 = .ok (.iload_n 3, 1) := by decide +kernel
theorem dL_law_183 : decode cL_law 183 = .ok (.iconst 4, 1) := by decide +kernel
theorem dL_law_184 : decode cL_law 184 = .ok (.iadd, 1) := by decide +kernel
theorem dL_law_185 : decode cL_law 185 = .ok (.iaload, 1) := by decide +kernel
theorem dL_law_186 : decode cL_law 186 = .ok (.invokevirtual 30, 3) := by decide +kernel
theorem dL_law_189 : decode cL_law 189 = .ok (.if_icmp .eq 279, 3) := by decide +kernel
theorem dL_law_192 : decode cL_law 192 = .ok (.iconst 0, 1) := by decide +kernel
theorem dL_law_193 : decode cL_law 193 = .ok (.ireturn, 1) := by decide +kernel
theorem dL_law_194 : decode cL_law 194 = .ok (.aload_n 1, 1) := by decide +kernel
theorem dL_law_195 : decode cL_law 195 = .ok (.aload_n 0, 1) := by decide +kernel
theorem dL_law_196 : decode cL_law 196 = .ok (.iload_n 3, 1) := by decide +kernel
theorem dL_law_197 : decode cL_law 197 = .ok (.iconst 1, 1) := by decide +kernel
theorem dL_law_198 : decode cL_law 198 = .ok (.iadd, 1) := by decide +kernel
theorem dL_law_199 : decode cL_law 199 = .ok (.iaload, 1) := by decide +kernel
theorem dL_law_200 : decode cL_law 200 = .ok (.invokevirtual 31, 3) := by decide +kernel
theorem dL_law_203 : decode cL_law 203 = .ok (.aload_n 2, 1) := by decide +kernel
theorem dL_law_204 : decode cL_law 204 = .ok (.aload_n 0, 1) := by decide +kernel
theorem dL_law_205 : decode cL_law 205 = .ok (.iload_n 3, 1) := by decide +kernel
theorem dL_law_206 : decode cL_law 206 = .ok (.iconst 1, 1) := by decide +kernel
theorem dL_law_207 : decode cL_law 207 = .ok (.iadd, 1) := by decide +kernel
theorem dL_law_208 : decode cL_law 208 = .ok (.iaload, 1) := by decide +kernel
theorem dL_law_209 : decode cL_law 209 = .ok (.invokevirtual 35, 3) := by decide +kernel
theorem dL_law_212 : decode cL_law 212 = .ok (.if_icmp .eq 256, 3) := by decide +kernel
theorem dL_law_215 : decode cL_law 215 = .ok (.iconst 0, 1) := by decide +kernel
theorem dL_law_216 : decode cL_law 216 = .ok (.ireturn, 1) := by decide +kernel
theorem dL_law_217 : decode cL_law 217 = .ok (.aload_n 1, 1) := by decide +kernel
theorem dL_law_218 : decode cL_law 218 = .ok (.aload_n 0, 1) := by decide +kernel
theorem dL_law_219 : decode cL_law 219 = .ok (.iload_n 3, 1) := by decide +kernel
theorem dL_law_220 : decode cL_law 220 = .ok (.iconst 1, 1) := by decide +kernel
theorem dL_law_221 : decode cL_law 221 = .ok (.iadd, 1) := by decide +kernel
theorem dL_law_222 : decode cL_law 222 = .ok (.iaload, 1) := by decide +kernel
theorem dL_law_223 : decode cL_law 223 = .ok (.aload_n 0, 1) := by decide +kernel
theorem dL_law_224 : decode cL_law 224 = .ok (.iload_n 3, 1) := by decide +kernel
theorem dL_law_225 : decode cL_law 225 = .ok (.iconst 2, 1) := by decide +kernel
theorem dL_law_226 : decode cL_law 226 = .ok (.iadd, 1) := by decide +kernel
theorem dL_law_227 : decode cL_law 227 = .ok (.iaload, 1) := by decide +kernel
theorem dL_law_228 : decode cL_law 228 = .ok (.invokevirtual 36, 3) := by decide +kernel
theorem dL_law_231 : decode cL_law 231 = .ok (.aload_n 2, 1) := by decide +kernel
theorem dL_law_232 : decode cL_law 232 = .ok (.aload_n 0, 1) := by decide +kernel
theorem dL_law_233 : decode cL_law 233 = .ok (.iload_n 3, 1) := by decide +kernel
theorem dL_law_234 : decode cL_law 234 = .ok (.iconst 1, 1) := by decide +kernel
theorem dL_law_235 : decode cL_law 235 = .ok (.iadd, 1) := by decide +kernel
theorem dL_law_236 : decode cL_law 236 = .ok (.iaload, 1) := by decide +kernel
theorem dL_law_237 : decode cL_law 237 = .ok (.aload_n 0, 1) := by decide +kernel
theorem dL_law_238 : decode cL_law 238 = .ok (.iload_n 3, 1) := by decide +kernel
theorem dL_law_239 : decode cL_law 239 = .ok (.iconst 2, 1) := by decide +kernel
theorem dL_law_240 : decode cL_law 240 = .ok (.iadd, 1) := by decide +kernel
theorem dL_law_241 : decode cL_law 241 = .ok (.iaload, 1) := by decide +kernel
theorem dL_law_242 : decode cL_law 242 = .ok (.invokevirtual 39, 3) := by decide +kernel
theorem dL_law_245 : decode cL_law 245 = .ok (.if_icmp .eq 223, 3) := by decide +kernel
theorem dL_law_248 : decode cL_law 248 = .ok (.iconst 0, 1) := by decide +kernel
theorem dL_law_249 : decode cL_law 249 = .ok (.ireturn, 1) := by decide +kernel
theorem dL_law_250 : decode cL_law 250 = .ok (.aload_n 1, 1) := by decide +kernel
theorem dL_law_251 : decode cL_law 251 = .ok (.aload_n 0, 1) := by decide +kernel
theorem dL_law_252 : decode cL_law 252 = .ok (.iload_n 3, 1) := by decide +kernel
theorem dL_law_253 : decode cL_law 253 = .ok (.iconst 1, 1) := by decide +kernel
theorem dL_law_254 : decode cL_law 254 = .ok (.iadd, 1) := by decide +kernel
theorem dL_law_255 : decode cL_law 255 = .ok (.iaload, 1) := by decide +kernel
theorem dL_law_256 : decode cL_law 256 = .ok (.aload_n 0, 1) := by decide +kernel
theorem dL_law_257 : decode cL_law 257 = .ok (.iload_n 3, 1) := by decide +kernel
theorem dL_law_258 : decode cL_law 258 = .ok (.iconst 2, 1) := by decide +kernel
theorem dL_law_259 : decode cL_law 259 = .ok (.iadd, 1) := by decide +kernel
theorem dL_law_260 : decode cL_law 260 = .ok (.iaload, 1) := by decide +kernel
theorem dL_law_261 : decode cL_law 261 = .ok (.aload_n 0, 1) := by decide +kernel
theorem dL_law_262 : decode cL_law 262 = .ok (.iload_n 3, 1) := by decide +kernel
theorem dL_law_263 : decode cL_law 263 = .ok (.iconst 3, 1) := by decide +kernel
theorem dL_law_264 : decode cL_law 264 = .ok (.iadd, 1) := by decide +kernel
theorem dL_law_265 : decode cL_law 265 = .ok (.iaload, 1) := by decide +kernel
theorem dL_law_266 : decode cL_law 266 = .ok (.aload_n 0, 1) := by decide +kernel
theorem dL_law_267 : decode cL_law 267 = .ok (.iload_n 3, 1) := by decide +kernel
theorem dL_law_268 : decode cL_law 268 = .ok (.iconst 4, 1) := by decide +kernel
theorem dL_law_269 : decode cL_law 269 = .ok (.iadd, 1) := by decide +kernel
theorem dL_law_270 : decode cL_law 270 = .ok (.iaload, 1) := by decide +kernel
theorem dL_law_271 : decode cL_law 271 = .ok (.aload_n 0, 1) := by decide +kernel
theorem dL_law_272 : decode cL_law 272 = .ok (.iload_n 3, 1) := by decide +kernel
theorem dL_law_273 : decode cL_law 273 = .ok (.iconst 5, 1) := by decide +kernel
theorem dL_law_274 : decode cL_law 274 = .ok (.iadd, 1) := by decide +kernel
theorem dL_law_275 : decode cL_law 275 = .ok (.iaload, 1) := by decide +kernel
theorem dL_law_276 : decode cL_law 276 = .ok (.invokevirtual 40, 3) := by decide +kernel
theorem dL_law_279 : decode cL_law 279 = .ok (.aload_n 2, 1) := by decide +kernel
theorem dL_law_280 : decode cL_law 280 = .ok (.aload_n 0, 1) := by decide +kernel
theorem dL_law_281 : decode cL_law 281 = .ok (.iload_n 3, 1) := by decide +kernel
theorem dL_law_282 : decode cL_law 282 = .ok (.iconst 1, 1) := by decide +kernel
theorem dL_law_283 : decode cL_law 283 = .ok (.iadd, 1) := by decide +kernel
theorem dL_law_284 : decode cL_law 284 = .ok (.iaload, 1) := by decide +kernel
theorem dL_law_285 : decode cL_law 285 = .ok (.aload_n 0, 1) := by decide +kernel
theorem dL_law_286 : decode cL_law 286 = .ok (.iload_n 3, 1) := by decide +kernel
theorem dL_law_287 : decode cL_law 287 = .ok (.iconst 2, 1) := by decide +kernel
theorem dL_law_288 : decode cL_law 288 = .ok (.iadd, 1) := by decide +kernel
theorem dL_law_289 : decode cL_law 289 = .ok (.iaload, 1) := by decide +kernel
theorem dL_law_290 : decode cL_law 290 = .ok (.aload_n 0, 1) := by decide +kernel
theorem dL_law_291 : decode cL_law 291 = .ok (.iload_n 3, 1) := by decide +kernel
theorem dL_law_292 : decode cL_law 292 = .ok (.iconst 3, 1) := by decide +kernel
theorem dL_law_293 : decode cL_law 293 = .ok (.iadd, 1) := by decide +kernel
theorem dL_law_294 : decode cL_law 294 = .ok (.iaload, 1) := by decide +kernel
theorem dL_law_295 : decode cL_law 295 = .ok (.aload_n 0, 1) := by decide +kernel
theorem dL_law_296 : decode cL_law 296 = .ok (.iload_n 3, 1) := by decide +kernel
theorem dL_law_297 : decode cL_law 297 = .ok (.iconst 4, 1) := by decide +kernel
theorem dL_law_298 : decode cL_law 298 = .ok (.iadd, 1) := by decide +kernel
theorem dL_law_299 : decode cL_law 299 = .ok (.iaload, 1) := by decide +kernel
theorem dL_law_300 : decode cL_law 300 = .ok (.aload_n 0, 1) := by decide +kernel
theorem dL_law_301 : decode cL_law 301 = .ok (.iload_n 3, 1) := by decide +kernel
theorem dL_law_302 : decode cL_law 302 = .ok (.iconst 5, 1) := by decide +kernel
theorem dL_law_303 : decode cL_law 303 = .ok (.iadd, 1) := by decide +kernel
theorem dL_law_304 : decode cL_law 304 = .ok (.iaload, 1) := by decide +kernel
theorem dL_law_305 : decode cL_law 305 = .ok (.invokevirtual 44, 3) := by decide +kernel
theorem dL_law_308 : decode cL_law 308 = .ok (.if_icmp .eq 160, 3) := by decide +kernel
theorem dL_law_311 : decode cL_law 311 = .ok (.iconst 0, 1) := by decide +kernel
theorem dL_law_312 : decode cL_law 312 = .ok (.ireturn, 1) := by decide +kernel
theorem dL_law_313 : decode cL_law 313 = .ok (.aload_n 1, 1) := by decide +kernel
theorem dL_law_314 : decode cL_law 314 = .ok (.aload_n 0, 1) := by decide +kernel
theorem dL_law_315 : decode cL_law 315 = .ok (.iload_n 3, 1) := by decide +kernel
theorem dL_law_316 : decode cL_law 316 = .ok (.iconst 1, 1) := by decide +kernel
theorem dL_law_317 : decode cL_law 317 = .ok (.iadd, 1) := by decide +kernel
theorem dL_law_318 : decode cL_law 318 = .ok (.iaload, 1) := by decide +kernel
theorem dL_law_319 : decode cL_law 319 = .ok (.aload_n 0, 1) := by decide +kernel
theorem dL_law_320 : decode cL_law 320 = .ok (.iload_n 3, 1) := by decide +kernel
theorem dL_law_321 : decode cL_law 321 = .ok (.iconst 2, 1) := by decide +kernel
theorem dL_law_322 : decode cL_law 322 = .ok (.iadd, 1) := by decide +kernel
theorem dL_law_323 : decode cL_law 323 = .ok (.iaload, 1) := by decide +kernel
theorem dL_law_324 : decode cL_law 324 = .ok (.aload_n 0, 1) := by decide +kernel
theorem dL_law_325 : decode cL_law 325 = .ok (.iload_n 3, 1) := by decide +kernel
theorem dL_law_326 : decode cL_law 326 = .ok (.iconst 3, 1) := by decide +kernel
theorem dL_law_327 : decode cL_law 327 = .ok (.iadd, 1) := by decide +kernel
theorem dL_law_328 : decode cL_law 328 = .ok (.iaload, 1) := by decide +kernel
theorem dL_law_329 : decode cL_law 329 = .ok (.invokevirtual 45, 3) := by decide +kernel
theorem dL_law_332 : decode cL_law 332 = .ok (.aload_n 2, 1) := by decide +kernel
theorem dL_law_333 : decode cL_law 333 = .ok (.aload_n 0, 1) := by decide +kernel
theorem dL_law_334 : decode cL_law 334 = .ok (.iload_n 3, 1) := by decide +kernel
theorem dL_law_335 : decode cL_law 335 = .ok (.iconst 1, 1) := by decide +kernel
theorem dL_law_336 : decode cL_law 336 = .ok (.iadd, 1) := by decide +kernel
theorem dL_law_337 : decode cL_law 337 = .ok (.iaload, 1) := by decide +kernel
theorem dL_law_338 : decode cL_law 338 = .ok (.aload_n 0, 1) := by decide +kernel
theorem dL_law_339 : decode cL_law 339 = .ok (.iload_n 3, 1) := by decide +kernel
theorem dL_law_340 : decode cL_law 340 = .ok (.iconst 2, 1) := by decide +kernel
theorem dL_law_341 : decode cL_law 341 = .ok (.iadd, 1) := by decide +kernel
theorem dL_law_342 : decode cL_law 342 = .ok (.iaload, 1) := by decide +kernel
theorem dL_law_343 : decode cL_law 343 = .ok (.aload_n 0, 1) := by decide +kernel
theorem dL_law_344 : decode cL_law 344 = .ok (.iload_n 3, 1) := by decide +kernel
theorem dL_law_345 : decode cL_law 345 = .ok (.iconst 3, 1) := by decide +kernel
theorem dL_law_346 : decode cL_law 346 = .ok (.iadd, 1) := by decide +kernel
theorem dL_law_347 : decode cL_law 347 = .ok (.iaload, 1) := by decide +kernel
theorem dL_law_348 : decode cL_law 348 = .ok (.invokevirtual 49, 3) := by decide +kernel
theorem dL_law_351 : decode cL_law 351 = .ok (.if_icmp .eq 117, 3) := by decide +kernel
theorem dL_law_354 : decode cL_law 354 = .ok (.iconst 0, 1) := by decide +kernel
theorem dL_law_355 : decode cL_law 355 = .ok (.ireturn, 1) := by decide +kernel
theorem dL_law_356 : decode cL_law 356 = .ok (.aload_n 1, 1) := by decide +kernel
theorem dL_law_357 : decode cL_law 357 = .ok (.aload_n 0, 1) := by decide +kernel
theorem dL_law_358 : decode cL_law 358 = .ok (.iload_n 3, 1) := by decide +kernel
theorem dL_law_359 : decode cL_law 359 = .ok (.iconst 1, 1) := by decide +kernel
theorem dL_law_360 : decode cL_law 360 = .ok (.iadd, 1) := by decide +kernel
theorem dL_law_361 : decode cL_law 361 = .ok (.iaload, 1) := by decide +kernel
theorem dL_law_362 : decode cL_law 362 = .ok (.aload_n 0, 1) := by decide +kernel
theorem dL_law_363 : decode cL_law 363 = .ok (.iload_n 3, 1) := by decide +kernel
theorem dL_law_364 : decode cL_law 364 = .ok (.iconst 2, 1) := by decide +kernel
theorem dL_law_365 : decode cL_law 365 = .ok (.iadd, 1) := by decide +kernel
theorem dL_law_366 : decode cL_law 366 = .ok (.iaload, 1) := by decide +kernel
theorem dL_law_367 : decode cL_law 367 = .ok (.invokevirtual 50, 3) := by decide +kernel
theorem dL_law_370 : decode cL_law 370 = .ok (.aload_n 2, 1) := by decide +kernel
theorem dL_law_371 : decode cL_law 371 = .ok (.aload_n 0, 1) := by decide +kernel
theorem dL_law_372 : decode cL_law 372 = .ok (.iload_n 3, 1) := by decide +kernel
theorem dL_law_373 : decode cL_law 373 = .ok (.iconst 1, 1) := by decide +kernel
theorem dL_law_374 : decode cL_law 374 = .ok (.iadd, 1) := by decide +kernel
theorem dL_law_375 : decode cL_law 375 = .ok (.iaload, 1) := by decide +kernel
theorem dL_law_376 : decode cL_law 376 = .ok (.aload_n 0, 1) := by decide +kernel
theorem dL_law_377 : decode cL_law 377 = .ok (.iload_n 3, 1) := by decide +kernel
theorem dL_law_378 : decode cL_law 378 = .ok (.iconst 2, 1) := by decide +kernel
theorem dL_law_379 : decode cL_law 379 = .ok (.iadd, 1) := by decide +kernel
theorem dL_law_380 : decode cL_law 380 = .ok (.iaload, 1) := by decide +kernel
theorem dL_law_381 : decode cL_law 381 = .ok (.invokevirtual 54, 3) := by decide +kernel
theorem dL_law_384 : decode cL_law 384 = .ok (.if_icmp .eq 84, 3) := by decide +kernel
theorem dL_law_387 : decode cL_law 387 = .ok (.iconst 0, 1) := by decide +kernel
theorem dL_law_388 : decode cL_law 388 = .ok (.ireturn, 1) := by decide +kernel
theorem dL_law_389 : decode cL_law 389 = .ok (.aload_n 1, 1) := by decide +kernel
theorem dL_law_390 : decode cL_law 390 = .ok (.aload_n 0, 1) := by decide +kernel
theorem dL_law_391 : decode cL_law 391 = .ok (.iload_n 3, 1) := by decide +kernel
theorem dL_law_392 : decode cL_law 392 = .ok (.iconst 1, 1) := by decide +kernel
theorem dL_law_393 : decode cL_law 393 = .ok (.iadd, 1) := by decide +kernel
theorem dL_law_394 : decode cL_law 394 = .ok (.iaload, 1) := by decide +kernel
theorem dL_law_395 : decode cL_law 395 = .ok (.aload_n 0, 1) := by decide +kernel
theorem dL_law_396 : decode cL_law 396 = .ok (.iload_n 3, 1) := by decide +kernel
theorem dL_law_397 : decode cL_law 397 = .ok (.iconst 2, 1) := by decide +kernel
theorem dL_law_398 : decode cL_law 398 = .ok (.iadd, 1) := by decide +kernel
theorem dL_law_399 : decode cL_law 399 = .ok (.iaload, 1) := by decide +kernel
theorem dL_law_400 : decode cL_law 400 = .ok (.invokevirtual 55, 3) := by decide +kernel
theorem dL_law_403 : decode cL_law 403 = .ok (.aload_n 2, 1) := by decide +kernel
theorem dL_law_404 : decode cL_law 404 = .ok (.aload_n 0, 1) := by decide +kernel
theorem dL_law_405 : decode cL_law 405 = .ok (.iload_n 3, 1) := by decide +kernel
theorem dL_law_406 : decode cL_law 406 = .ok (.iconst 1, 1) := by decide +kernel
theorem dL_law_407 : decode cL_law 407 = .ok (.iadd, 1) := by decide +kernel
theorem dL_law_408 : decode cL_law 408 = .ok (.iaload, 1) := by decide +kernel
theorem dL_law_409 : decode cL_law 409 = .ok (.aload_n 0, 1) := by decide +kernel
theorem dL_law_410 : decode cL_law 410 = .ok (.iload_n 3, 1) := by decide +kernel
theorem dL_law_411 : decode cL_law 411 = .ok (.iconst 2, 1) := by decide +kernel
theorem dL_law_412 : decode cL_law 412 = .ok (.iadd, 1) := by decide +kernel
theorem dL_law_413 : decode cL_law 413 = .ok (.iaload, 1) := by decide +kernel
theorem dL_law_414 : decode cL_law 414 = .ok (.invokevirtual 58, 3) := by decide +kernel
theorem dL_law_417 : decode cL_law 417 = .ok (.if_icmp .eq 51, 3) := by decide +kernel
theorem dL_law_420 : decode cL_law 420 = .ok (.iconst 0, 1) := by decide +kernel
theorem dL_law_421 : decode cL_law 421 = .ok (.ireturn, 1) := by decide +kernel
theorem dL_law_422 : decode cL_law 422 = .ok (.aload_n 1, 1) := by decide +kernel
theorem dL_law_423 : decode cL_law 423 = .ok (.aload_n 0, 1) := by decide +kernel
theorem dL_law_424 : decode cL_law 424 = .ok (.iload_n 3, 1) := by decide +kernel
theorem dL_law_425 : decode cL_law 425 = .ok (.iconst 1, 1) := by decide +kernel
theorem dL_law_426 : decode cL_law 426 = .ok (.iadd, 1) := by decide +kernel
theorem dL_law_427 : decode cL_law 427 = .ok (.iaload, 1) := by decide +kernel
theorem dL_law_428 : decode cL_law 428 = .ok (.invokevirtual 59, 3) := by decide +kernel
theorem dL_law_431 : decode cL_law 431 = .ok (.aload_n 2, 1) := by decide +kernel
theorem dL_law_432 : decode cL_law 432 = .ok (.aload_n 0, 1) := by decide +kernel
theorem dL_law_433 : decode cL_law 433 = .ok (.iload_n 3, 1) := by decide +kernel
theorem dL_law_434 : decode cL_law 434 = .ok (.iconst 1, 1) := by decide +kernel
theorem dL_law_435 : decode cL_law 435 = .ok (.iadd, 1) := by decide +kernel
theorem dL_law_436 : decode cL_law 436 = .ok (.iaload, 1) := by decide +kernel
theorem dL_law_437 : decode cL_law 437 = .ok (.invokevirtual 62, 3) := by decide +kernel
theorem dL_law_440 : decode cL_law 440 = .ok (.if_icmp .eq 28, 3) := by decide +kernel
theorem dL_law_443 : decode cL_law 443 = .ok (.iconst 0, 1) := by decide +kernel
theorem dL_law_444 : decode cL_law 444 = .ok (.ireturn, 1) := by decide +kernel
theorem dL_law_445 : decode cL_law 445 = .ok (.aload_n 1, 1) := by decide +kernel
theorem dL_law_446 : decode cL_law 446 = .ok (.aload_n 0, 1) := by decide +kernel
theorem dL_law_447 : decode cL_law 447 = .ok (.iload_n 3, 1) := by decide +kernel
theorem dL_law_448 : decode cL_law 448 = .ok (.iconst 1, 1) := by decide +kernel
theorem dL_law_449 : decode cL_law 449 = .ok (.iadd, 1) := by decide +kernel
theorem dL_law_450 : decode cL_law 450 = .ok (.iaload, 1) := by decide +kernel
theorem dL_law_451 : decode cL_law 451 = .ok (.invokevirtual 63, 3) := by decide +kernel
theorem dL_law_454 : decode cL_law 454 = .ok (.aload_n 2, 1) := by decide +kernel
theorem dL_law_455 : decode cL_law 455 = .ok (.aload_n 0, 1) := by decide +kernel
theorem dL_law_456 : decode cL_law 456 = .ok (.iload_n 3, 1) := by decide +kernel
theorem dL_law_457 : decode cL_law 457 = .ok (.iconst 1, 1) := by decide +kernel
theorem dL_law_458 : decode cL_law 458 = .ok (.iadd, 1) := by decide +kernel
theorem dL_law_459 : decode cL_law 459 = .ok (.iaload, 1) := by decide +kernel
theorem dL_law_460 : decode cL_law 460 = .ok (.invokevirtual 66, 3) := by decide +kernel
theorem dL_law_463 : decode cL_law 463 = .ok (.if_icmp .eq 5, 3) := by decide +kernel
theorem dL_law_466 : decode cL_law 466 = .ok (.iconst 0, 1) := by decide +kernel
theorem dL_law_467 : decode cL_law 467 = .ok (.ireturn, 1) := by decide +kernel
theorem dL_law_468 : decode cL_law 468 = .ok (.iinc 3 6, 3) := by decide +kernel
theorem dL_law_471 : decode cL_law 471 = .ok (.goto (-433), 3) := by decide +kernel
theorem dL_law_474 : decode cL_law 474 = .ok (.iconst 1, 1) := by decide +kernel
theorem dL_law_475 : decode cL_law 475 = .ok (.ireturn, 1) := by decide +kernel
end
section
/-! MY OWN LAYER over the kit: a contract's start and end by lists of cells, a call as ONE row (cut, run, join) -/
/-- the three links of TriangleRaster into its nested class, which a state keeps -/
def nst (U : State) : Prop := va_Nw (.methodLinkNest RX1 29 yX0_init RX1) U ∧ va_Nw (.methodLinkNest RX1 60 yX0_place RX1) U ∧ va_Nw (.methodLinkNest RX1 68 yX0_depthOver RX1) U
theorem nst.same {u U : State} (h : u.vm = U.vm) (q : nst u) : nst U := ⟨va_Nw.same rfl h q.1, va_Nw.same rfl h q.2.1, va_Nw.same rfl h q.2.2⟩
theorem nst.warm {s U : State} (hW : s.WarmedH U.vm) (q : nst s) : nst U := ⟨va_Nw.warmM hW q.1, va_Nw.warmM hW q.2.1, va_Nw.warmM hW q.2.2⟩
abbrev mP (D : va_G) (cl : List vw_C) (tys : List (ClassId × FieldType)) (cs : va_W) (sz : Nat) (av : List Value) : Array Value → State → Prop :=
  va_Pc av (fun U => U.heap.size = sz ∧ va_P D cl cs U.heap ∧ va_K D cl tys U ∧ va_D (fun _ => True) cs ∧ nst U)
abbrev mB {S : Type} (D : va_G) (cl : List vw_C) (tys : List (ClassId × FieldType)) (A : Nat → Prop) (out : S → va_W) : S → State → Prop :=
  fun u t => va_P D cl (out u) t.heap ∧ va_K D cl tys t ∧ va_D A (out u)
theorem m_blind {D : va_G} {cl : List vw_C} {tys : List (ClassId × FieldType)} {cs : va_W} {sz : Nat} {av : List Value} : FrameBlind (mP D cl tys cs sz av) := fun a U g mk q => by
  obtain ⟨q0, q1, qP, qK, qD, qN⟩ := q
  exact ⟨q0, q1, qP, va_K.moved (u := U) (U := U.calling g mk a) (Vm.Alike.refl U.vm) qK, qD, qN.same rfl⟩
theorem m_preS {s : State} {H : Heap} {D : va_G} {cl : List vw_C} {tys : List (ClassId × FieldType)} {cs : va_W} {A : Nat → Prop} {av : List Value} (hP : va_P D cl cs H) (hK : va_K D cl tys s) (hD : va_D A cs) (hN : nst s) : PreS s H (mP D cl tys cs H.size av) av :=
  ⟨m_blind, fun U hU hW => ⟨rfl, by rw [hU], by rw [hU]; exact hP, va_K.moved hW.alike hK, hD.weaken (fun _ _ _ _ => trivial), hN.warm hW⟩⟩
theorem m_preV {s : State} {H : Heap} {D : va_G} {cl : List vw_C} {tys : List (ClassId × FieldType)} {cs : va_W} {A : Nat → Prop} {av : List Value} {C : String} {T : u_T} {N b ci q0 : Nat} {fs : List Value} (hP : va_P D cl cs H) (hK : va_K D cl tys s) (hD : va_D A cs) (hN : nst s) (hc : cl[ci]? = some (C, T, N)) (he : cs[q0]? = some (b, .inr (ci, fs))) : PreV s H C b (mP D cl tys cs H.size (.ref b :: av)) av :=
  ⟨m_blind, va_recv hK hP hc he, fun U hU hW => ⟨rfl, by rw [hU], by rw [hU]; exact hP, va_K.moved hW.alike hK, hD.weaken (fun _ _ _ _ => trivial), hN.warm hW⟩⟩
section MC
variable {p : Program} {l : Launch} {e : Env} {R : Room} {s : State} {m : MethodId} {args : Array Value} {below : List Frame} {meth : Method} {c : Code} {H : Heap} {locs : List Loc} {cells slots : Nat} {Q : State → Prop}
variable {pc : Nat} {ls : Array Slot} {rest st0 : List Value} {a : Array Value} {A0 : Nat → Prop} {H0 : Heap} {mc ms : Nat} {D : va_G} {cl : List vw_C} {tysC : List (ClassId × FieldType)} {ws cs wr : va_W}
theorem m_calli {S : Type} {post : Int32 → S → Prop} {out : S → va_W} (hP : va_P D cl ws H) (hD : va_D A0 ws) (hS : va_S A0 H0 H locs) (hA : ∀ q, H0.size ≤ q → A0 q) (isC isR : List Nat) (hC : isC.map (fun i => ws[i]?) = cs.map some) (hR : isR.map (fun i => ws[i]?) = wr.map some) (hn : va_nd isR = true) (hdis : ∀ i ∈ isR, i ∉ isC)
    (hr : va_Run p l e R s m args below meth c H locs cells slots mc ms (F0 m pc ls st0) rest (va_Qi post (mB D cl tysC (va_A cs H.size) out) (va_A cs H.size) a) (va_A cs H.size))
    (kk : ∀ (r : Int32) (u : S) (H1 : Heap) (locs1 : List Loc), post r u → va_K D cl tysC s → va_P D cl (wr ++ out u) H1 → va_D A0 (wr ++ out u) → va_S A0 H0 H1 locs1 → W p l e R s m args below meth c H1 locs1 (cells + mc) (slots + ms) Q (F0 m (pc + 3) ls (.int r :: rest))) :
    W p l e R s m args below meth c H locs cells slots Q (F0 m pc ls st0) := by
  have hFc := va_free (wc := cs) hD hS hA isC hC
  refine va_calli hr hS (fun q _ h => hFc q h) hFc (fun r u t H1 locs1 ht hvm hw hB hz1 hk1 hS1 => ?_)
  obtain ⟨hP1, hK1, hD1⟩ := hB
  rw [ht] at hP1
  obtain ⟨hP2, hD2⟩ := va_join hP hD isC isR hC hR hn hdis hk1 hFc hP1 hD1
  exact kk r u H1 locs1 hw (va_K.moved hvm.symm hK1) hP2 hD2 hS1
theorem m_calll {S : Type} {post : Int64 → S → Prop} {out : S → va_W} (hP : va_P D cl ws H) (hD : va_D A0 ws) (hS : va_S A0 H0 H locs) (hA : ∀ q, H0.size ≤ q → A0 q) (isC isR : List Nat) (hC : isC.map (fun i => ws[i]?) = cs.map some) (hR : isR.map (fun i => ws[i]?) = wr.map some) (hn : va_nd isR = true) (hdis : ∀ i ∈ isR, i ∉ isC)
    (hr : va_Run p l e R s m args below meth c H locs cells slots mc ms (F0 m pc ls st0) rest (va_Ql post (mB D cl tysC (va_A cs H.size) out) (va_A cs H.size) a) (va_A cs H.size))
    (kk : ∀ (r : Int64) (u : S) (H1 : Heap) (locs1 : List Loc), post r u → va_K D cl tysC s → va_P D cl (wr ++ out u) H1 → va_D A0 (wr ++ out u) → va_S A0 H0 H1 locs1 → W p l e R s m args below meth c H1 locs1 (cells + mc) (slots + ms) Q (F0 m (pc + 3) ls (.long r :: rest))) :
    W p l e R s m args below meth c H locs cells slots Q (F0 m pc ls st0) := by
  have hFc := va_free (wc := cs) hD hS hA isC hC
  refine va_calll hr hS (fun q _ h => hFc q h) hFc (fun r u t H1 locs1 ht hvm hw hB hz1 hk1 hS1 => ?_)
  obtain ⟨hP1, hK1, hD1⟩ := hB
  rw [ht] at hP1
  obtain ⟨hP2, hD2⟩ := va_join hP hD isC isR hC hR hn hdis hk1 hFc hP1 hD1
  exact kk r u H1 locs1 hw (va_K.moved hvm.symm hK1) hP2 hD2 hS1
theorem m_callv {S : Type} {post : S → Prop} {out : S → va_W} (hP : va_P D cl ws H) (hD : va_D A0 ws) (hS : va_S A0 H0 H locs) (hA : ∀ q, H0.size ≤ q → A0 q) (isC isR : List Nat) (hC : isC.map (fun i => ws[i]?) = cs.map some) (hR : isR.map (fun i => ws[i]?) = wr.map some) (hn : va_nd isR = true) (hdis : ∀ i ∈ isR, i ∉ isC)
    (hr : va_Run p l e R s m args below meth c H locs cells slots mc ms (F0 m pc ls st0) rest (va_Qv post (mB D cl tysC (va_A cs H.size) out) (va_A cs H.size) a) (va_A cs H.size))
    (kk : ∀ (u : S) (H1 : Heap) (locs1 : List Loc), post u → va_K D cl tysC s → va_P D cl (wr ++ out u) H1 → va_D A0 (wr ++ out u) → va_S A0 H0 H1 locs1 → W p l e R s m args below meth c H1 locs1 (cells + mc) (slots + ms) Q (F0 m (pc + 3) ls rest)) :
    W p l e R s m args below meth c H locs cells slots Q (F0 m pc ls st0) := by
  have hFc := va_free (wc := cs) hD hS hA isC hC
  refine va_callv hr hS (fun q _ h => hFc q h) hFc (fun u t H1 locs1 ht hvm hw hB hz1 hk1 hS1 => ?_)
  obtain ⟨hP1, hK1, hD1⟩ := hB
  rw [ht] at hP1
  obtain ⟨hP2, hD2⟩ := va_join hP hD isC isR hC hR hn hdis hk1 hFc hP1 hD1
  exact kk u H1 locs1 hw (va_K.moved hvm.symm hK1) hP2 hD2 hS1
end MC
theorem m_arrV {cA : ClassId} {n : Nat} {f g : Nat → Value} (h : ∀ i, i < n → f i = g i) : arrV cA n f = arrV cA n g := by
  unfold arrV
  have h1 : (fun j : Fin n => f j.val) = (fun j : Fin n => g j.val) := funext fun j => h j.val j.isLt
  rw [h1]
/-- an array's cell says nothing of its function beyond its length -/
theorem m_arrc {D : va_G} {cl : List vw_C} {ws : va_W} {H : Heap} (h : va_P D cl ws H) (k : Nat) {a n : Nat} {cA : ClassId} {f : Nat → Int32} (g : Nat → Int32) (hk : ws[k]? = some (a, .inl (cA, n, .inl f))) (he : ∀ i, i < n → f i = g i) : va_P D cl (ws.set k (a, .inl (cA, n, .inl g))) H := by
  intro j q hj
  by_cases hjk : k = j
  · subst hjk
    have hlt : k < ws.length := (List.getElem?_eq_some_iff.mp hk).1
    rw [List.getElem?_set_self hlt] at hj
    obtain rfl := Option.some.inj hj
    have h1 : H[a]? = some (arrV cA n (fun j => .int (f j))) := h k _ hk
    show H[a]? = some (arrV cA n (fun j => .int (g j)))
    rw [h1, m_arrV (fun i hi => by rw [he i hi])]
  · rw [List.getElem?_set_ne hjk] at hj
    exact h j q hj
theorem m_arrD {A : Nat → Prop} {ws : va_W} (h : va_D A ws) (k : Nat) {a : Nat} {x y : va_E} (hk : ws[k]? = some (a, x)) : va_D A (ws.set k (a, y)) := h.set hk
end
section
/-! counting, and what hangs together -/
noncomputable def tt (p : Prop) : Bool := @decide p (Classical.propDecidable p)
theorem tt_iff {p : Prop} : tt p = true ↔ p := @decide_eq_true_iff p (Classical.propDecidable p)
theorem tt_pos {p : Prop} (h : p) : tt p = true := tt_iff.mpr h
theorem tt_neg {p : Prop} (h : ¬ p) : tt p = false := by
  cases hq : tt p with
  | false => rfl
  | true => exact absurd (tt_iff.mp hq) h
theorem tt_eq {p q : Prop} (h : p ↔ q) : tt p = tt q := by
  by_cases hp : p
  · rw [tt_pos hp, tt_pos (h.mp hp)]
  · rw [tt_neg hp, tt_neg (fun hq => hp (h.mpr hq))]
/-- how many numbers below n have p -/
noncomputable def cnt (p : Nat → Prop) : Nat → Nat
  | 0 => 0
  | n + 1 => cnt p n + (if tt (p n) = true then 1 else 0)
theorem cnt_0 {p : Nat → Prop} : cnt p 0 = 0 := rfl
theorem cnt_yes {p : Nat → Prop} {n : Nat} (h : p n) : cnt p (n + 1) = cnt p n + 1 := by
  show cnt p n + _ = _
  rw [if_pos (tt_pos h)]
theorem cnt_no {p : Nat → Prop} {n : Nat} (h : ¬ p n) : cnt p (n + 1) = cnt p n := by
  show cnt p n + _ = _
  rw [if_neg (by rw [tt_neg h]; decide)]; rfl
theorem cnt_congr {p q : Nat → Prop} : ∀ {n : Nat}, (∀ i, i < n → (p i ↔ q i)) → cnt p n = cnt q n := by
  intro n
  induction n with
  | zero => intro _; rfl
  | succ n ih =>
    intro h
    have h1 := ih (fun i hi => h i (by omega))
    by_cases hp : p n
    · rw [cnt_yes hp, cnt_yes ((h n (by omega)).mp hp), h1]
    · rw [cnt_no hp, cnt_no (fun hq => hp ((h n (by omega)).mpr hq)), h1]
theorem cnt_le (p : Nat → Prop) : ∀ n : Nat, cnt p n ≤ n := by
  intro n
  induction n with
  | zero => exact Nat.le_refl 0
  | succ n ih =>
    by_cases hp : p n
    · rw [cnt_yes hp]; omega
    · rw [cnt_no hp]; omega
theorem cnt_lt {p : Nat → Prop} {k : Nat} (hk : ¬ p k) : ∀ n : Nat, k < n → cnt p n < n := by
  intro n
  induction n with
  | zero => intro h; omega
  | succ n ih =>
    intro h
    by_cases he : k = n
    · subst he
      have := cnt_le p k
      rw [cnt_no hk]; omega
    · have := ih (by omega)
      by_cases hp : p n
      · rw [cnt_yes hp]; omega
      · rw [cnt_no hp]; omega
theorem cnt_none {p : Nat → Prop} : ∀ {n : Nat}, (∀ i, i < n → ¬ p i) → cnt p n = 0 := by
  intro n
  induction n with
  | zero => intro _; rfl
  | succ n ih =>
    intro h
    rw [cnt_no (h n (by omega)), ih (fun i hi => h i (by omega))]
/-- one more -/
theorem cnt_add {p q : Nat → Prop} {k : Nat} (hk : ¬ p k) (hq : ∀ i, q i ↔ (p i ∨ i = k)) : ∀ n : Nat, cnt q n = cnt p n + (if k < n then 1 else 0) := by
  intro n
  induction n with
  | zero => rfl
  | succ n ih =>
    by_cases he : k = n
    · subst he
      rw [cnt_yes ((hq k).mpr (Or.inr rfl)), cnt_no hk, ih, if_neg (Nat.lt_irrefl k), if_pos (Nat.lt_succ_self k)]
    · have hn : q n ↔ p n := by
        rw [hq n]
        constructor
        · rintro (h | h)
          · exact h
          · exact absurd h.symm he
        · exact Or.inl
      have h2 : (if k < n + 1 then 1 else 0) = (if k < n then 1 else 0 : Nat) := by
        by_cases h3 : k < n
        · rw [if_pos h3, if_pos (by omega)]
        · rw [if_neg h3, if_neg (by omega)]
      rw [h2]
      by_cases hp : p n
      · rw [cnt_yes hp, cnt_yes (hn.mpr hp), ih]; omega
      · rw [cnt_no hp, cnt_no (fun h => hp (hn.mp h)), ih]
theorem cnt_add' {p q : Nat → Prop} {k n : Nat} (hk : ¬ p k) (hq : ∀ i, q i ↔ (p i ∨ i = k)) (hn : k < n) : cnt q n = cnt p n + 1 := by
  rw [cnt_add hk hq n, if_pos hn]
/-- places that lie side by side in rows of w places -/
def adj (w i j : Nat) : Prop := (j + 1 = i ∧ i % w ≠ 0) ∨ (i + 1 = j ∧ j % w ≠ 0) ∨ j + w = i ∨ i + w = j
theorem adj_sym {w i j : Nat} (h : adj w i j) : adj w j i := by
  rcases h with h | h | h | h
  · exact Or.inr (Or.inl h)
  · exact Or.inl h
  · exact Or.inr (Or.inr (Or.inr h))
  · exact Or.inr (Or.inr (Or.inl h))
/-- a set of places below n that holds, with a place, its neighbours that have property g -/
def clo (w n : Nat) (g : Nat → Prop) (S : Nat → Prop) : Prop := ∀ a b, S a → adj w a b → b < n → g b → S b
/-- b hangs together with a over places of property g: every closed set that holds a holds b -/
def hang (w n : Nat) (g : Nat → Prop) (a b : Nat) : Prop := ∀ S : Nat → Prop, S a → clo w n g S → S b
theorem hang_self {w n : Nat} {g : Nat → Prop} {a : Nat} : hang w n g a a := fun _ h _ => h
theorem hang_step {w n : Nat} {g : Nat → Prop} {a b c : Nat} (h : hang w n g a b) (h1 : adj w b c) (h2 : c < n) (h3 : g c) : hang w n g a c := fun S hS hc => hc b c (h S hS hc) h1 h2 h3
theorem hang_trans {w n : Nat} {g : Nat → Prop} {a b c : Nat} (h : hang w n g a b) (h1 : hang w n g b c) : hang w n g a c := fun S hS hc => h1 S (h S hS hc) hc
theorem hang_in {w n : Nat} {g : Nat → Prop} {a b : Nat} (ha : a < n ∧ g a) (h : hang w n g a b) : b < n ∧ g b := h (fun x => x < n ∧ g x) ha (fun _ _ _ _ h1 h2 => ⟨h1, h2⟩)
theorem hang_sym {w n : Nat} {g : Nat → Prop} {a b : Nat} (ha : a < n ∧ g a) (h : hang w n g a b) : hang w n g b a := by
  have h1 : (fun x => (x < n ∧ g x) ∧ hang w n g x a) b := h (fun x => (x < n ∧ g x) ∧ hang w n g x a) ⟨ha, hang_self⟩ (fun c d hc hcd hd hg => ⟨⟨hd, hg⟩, hang_trans (hang_step hang_self (adj_sym hcd) hc.1.1 hc.1.2) hc.2⟩)
  exact h1.2
theorem hang_cong {w n : Nat} {g g' : Nat → Prop} {a b : Nat} (hg : ∀ i, i < n → (g i ↔ g' i)) (h : hang w n g a b) : hang w n g' a b := fun S hS hc => h S hS (fun x y h1 h2 h3 h4 => hc x y h1 h2 h3 ((hg y h3).mp h4))
/-- a closed set that holds a and lies in all such is the piece of a -/
theorem hang_is {w n : Nat} {g : Nat → Prop} {a : Nat} {S : Nat → Prop} (ha : S a) (hc : clo w n g S) (hs : ∀ b, S b → hang w n g a b) (b : Nat) : S b ↔ hang w n g a b := ⟨hs b, fun h => h S ha hc⟩
end
section
/-! numbers: no wrap-around where the bounds are known -/
theorem mulb {a b : Int} {A B : Nat} (ha : a.natAbs ≤ A) (hb : b.natAbs ≤ B) : (a * b).natAbs ≤ A * B := by
  rw [Int.natAbs_mul]; exact Nat.mul_le_mul ha hb
/-- E of the document -/
def Ed (ax ay bx bY px py : Int) : Int := (bx - ax) * (py - ay) - (bY - ay) * (px - ax)
theorem Ed_sum (ax ay bx bY cx cy px py : Int) : Ed bx bY cx cy px py + Ed cx cy ax ay px py + Ed ax ay bx bY px py = Ed ax ay bx bY cx cy := by
  unfold Ed; grind
theorem Ed_swap (ax ay bx bY cx cy : Int) : Ed ax ay cx cy bx bY = - Ed ax ay bx bY cx cy := by
  unfold Ed; grind
theorem Ed_b {ax ay bx bY px py : Int} (h1 : ax.natAbs ≤ 16384) (h2 : ay.natAbs ≤ 16384) (h3 : bx.natAbs ≤ 16384) (h4 : bY.natAbs ≤ 16384) (h5 : px.natAbs ≤ 33000) (h6 : py.natAbs ≤ 33000) : (Ed ax ay bx bY px py).natAbs ≤ 3300000000 := by
  have a1 : ((bx - ax) * (py - ay)).natAbs ≤ 32768 * 49384 := mulb (by omega) (by omega)
  have a2 : ((bY - ay) * (px - ax)).natAbs ≤ 32768 * 49384 := mulb (by omega) (by omega)
  unfold Ed; omega
/-- the weighted depth lies between 0 and the greatest one -/
theorem dep_b {w0 w1 w2 z0 z1 z2 ar : Int} (h0 : 0 ≤ w0) (h1 : 0 ≤ w1) (h2 : 0 ≤ w2) (hs : w0 + w1 + w2 = ar) (ha : 0 < ar) (g0 : 0 ≤ z0 ∧ z0 ≤ 32768) (g1 : 0 ≤ z1 ∧ z1 ≤ 32768) (g2 : 0 ≤ z2 ∧ z2 ≤ 32768) : 0 ≤ w0 * z0 + w1 * z1 + w2 * z2 ∧ w0 * z0 + w1 * z1 + w2 * z2 ≤ 32768 * ar ∧ 0 ≤ (w0 * z0 + w1 * z1 + w2 * z2) / ar ∧ (w0 * z0 + w1 * z1 + w2 * z2) / ar ≤ 32768 := by
  have p0 : 0 ≤ w0 * z0 := Int.mul_nonneg h0 g0.1
  have p1 : 0 ≤ w1 * z1 := Int.mul_nonneg h1 g1.1
  have p2 : 0 ≤ w2 * z2 := Int.mul_nonneg h2 g2.1
  have q0 : w0 * z0 ≤ w0 * 32768 := Int.mul_le_mul_of_nonneg_left g0.2 h0
  have q1 : w1 * z1 ≤ w1 * 32768 := Int.mul_le_mul_of_nonneg_left g1.2 h1
  have q2 : w2 * z2 ≤ w2 * 32768 := Int.mul_le_mul_of_nonneg_left g2.2 h2
  have r1 : w0 * z0 + w1 * z1 + w2 * z2 ≤ 32768 * ar := by omega
  have r0 : 0 ≤ w0 * z0 + w1 * z1 + w2 * z2 := by omega
  refine ⟨r0, r1, Int.ediv_nonneg r0 (by omega), ?_⟩
  exact Int.ediv_le_of_le_mul ha r1
end
section
/-! the words for the state: places of a picture of w columns and h rows -/
def inX (w h : Nat) (x y : Int32) : Prop := (0 ≤ x.toInt ∧ x.toInt < w) ∧ (0 ≤ y.toInt ∧ y.toInt < h)
def lin (w : Nat) (x y : Int32) : Nat := y.toInt.toNat * w + x.toInt.toNat
theorem nI_toNat {x : Int32} (h : 0 ≤ x.toInt) : x = nI x.toInt.toNat := by
  obtain ⟨j, hj, rfl⟩ := nI_of (x := x) (by rw [Int32.lt_iff_toInt_lt, Int32.toInt_zero]; omega)
  rw [nI_toInt hj, Int.toNat_natCast]
theorem row_lt {w h x y : Nat} (hx : x < w) (hy : y < h) : y * w + x < w * h := by
  have h1 : (y + 1) * w ≤ h * w := Nat.mul_le_mul_right w hy
  rw [Nat.add_mul, Nat.one_mul] at h1
  rw [Nat.mul_comm w h]; omega
theorem row_mod {w x : Nat} (y : Nat) (hx : x < w) : (y * w + x) % w = x := by
  rw [Nat.add_comm, Nat.add_mul_mod_self_right, Nat.mod_eq_of_lt hx]
theorem row_div {w x : Nat} (y : Nat) (hx : x < w) : (y * w + x) / w = y := by
  rw [Nat.add_comm, Nat.add_mul_div_right _ _ (by omega : 0 < w), Nat.div_eq_of_lt hx, Nat.zero_add]
theorem row_of (w i : Nat) : i / w * w + i % w = i := by
  rw [Nat.mul_comm]; exact Nat.div_add_mod i w
theorem row_bd {w h i : Nat} (hi : i < w * h) : i % w < w ∧ i / w < h := by
  have hw : 0 < w := by
    rcases Nat.eq_zero_or_pos w with h0 | h0
    · subst h0; simp at hi
    · exact h0
  exact ⟨Nat.mod_lt _ hw, Nat.div_lt_of_lt_mul hi⟩
theorem wh_le {w h : Nat} (hw : w ≤ 24) (hh : h ≤ 24) : w * h ≤ 576 := Nat.mul_le_mul hw hh
theorem lin_lt {w h : Nat} {x y : Int32} (h0 : inX w h x y) : lin w x y < w * h := by
  obtain ⟨⟨h1, h2⟩, h3, h4⟩ := h0
  exact row_lt (by omega) (by omega)
theorem lin_ix {w h : Nat} {x y : Int32} (h0 : inX w h x y) : y * nI w + x = nI (lin w x y) := by
  obtain ⟨⟨h1, h2⟩, h3, h4⟩ := h0
  have e1 := nI_toNat h1
  have e2 := nI_toNat h3
  generalize hb : y.toInt.toNat = b at e2
  generalize ha : x.toInt.toNat = a at e1
  unfold lin
  rw [hb, ha, e1, e2, pk_mul, nI_add]
theorem lin_mod {w h : Nat} {x y : Int32} (h0 : inX w h x y) : lin w x y % w = x.toInt.toNat ∧ lin w x y / w = y.toInt.toNat := by
  obtain ⟨⟨h1, h2⟩, h3, h4⟩ := h0
  exact ⟨row_mod _ (by omega), row_div _ (by omega)⟩
theorem inX_nI {w h x y : Nat} (hw : w ≤ 24) (hh : h ≤ 24) (hx : x < w) (hy : y < h) : inX w h (nI x) (nI y) := by
  unfold inX
  rw [nI_toInt (by omega), nI_toInt (by omega)]
  omega
theorem lin_nI {w x y : Nat} (hx : x < 2 ^ 31) (hy : y < 2 ^ 31) : lin w (nI x) (nI y) = y * w + x := by
  unfold lin
  rw [nI_toInt hx, nI_toInt hy, Int.toNat_natCast, Int.toNat_natCast]
theorem nI_m1 {n : Nat} (h : n < 2 ^ 31) : ¬ nI n = -1 := by
  intro q
  have a := nI_toInt h
  rw [q] at a
  have b : (-1 : Int32).toInt = -1 := by decide
  omega
/-- 0 and 1 by a test -/
theorem b01 {r : Int32} {p : Prop} (h : (p ∧ r = 1) ∨ (¬ p ∧ r = 0)) : (r = 0 ↔ ¬ p) := by
  rcases h with ⟨h1, rfl⟩ | ⟨h1, rfl⟩
  · exact ⟨fun h => absurd h (by decide), fun h => absurd h1 h⟩
  · exact ⟨fun _ => h1, fun _ => rfl⟩
theorem nI_subm {w : Nat} (h1 : 1 ≤ w) (h2 : w ≤ 24) : (nI w - 1).toInt = (w : Int) - 1 := by
  have e : nI w - 1 = nI (w - 1) := by
    have := nI_pred (w - 1)
    rw [show w - 1 + 1 = w by omega] at this
    exact this
  rw [e, nI_toInt (by omega)]; omega
end
section
set_option maxHeartbeats 4000000 in
set_option maxRecDepth 100000 in
/-- isWithin: least <= number <= most -/
theorem c_X1_isWithin (l : Launch) (dC : Nat → ClassId) (dI : Nat → Nat → Nat) (sz : Nat) (x lo hi : Int32) (a b : Int) (ha : lo.toInt = a) (hb0 : hi.toInt = b) : Met l yX1_isWithin wsX1_isWithin ({ frames := 0, cells := 0, slots := 0, locals := 0 }) (mP (dC, dI) vwCl [] [] sz [.int x, .int lo, .int hi]) (va_Qi (fun (r : Int32) (u : Unit) => ((a ≤ x.toInt ∧ x.toInt ≤ b) ∧ r = 1) ∨ (¬ (a ≤ x.toInt ∧ x.toInt ≤ b) ∧ r = 0)) (mB (dC, dI) vwCl [] (va_A [] sz) (fun u => [])) (va_A [] sz)) 0 0 (va_A [] sz) := by
  refine Met.ofW (cc := cX1_isWithin) (maxL := 3) (ret := (some .boolean)) (by decide) rfl ?_
  intro p e s m args below meth cD s₁ B hml hv
  obtain ⟨rfl, hsz, hP, hK, hD0, hN⟩ := hv
  have hx := B.exec
  have hb := B.bytes
  have hr := B.returns
  have hts := atoms_spec (ws := wsX1_isWithin) B.pre
  have hown : s.vm.findClass RX1 = some m.cls := findClass_of_methodNamed B.named
  have hlocks := B.notSynchronized
  subst hsz
  have hD := hD0.self (sz := s.heap.size)
  generalize hAe : va_A [] s.heap.size = A at hD ⊢
  have hA : ∀ q : Nat, s.heap.size ≤ q → A q := fun q h => by rw [← hAe]; exact Or.inr h
  have hS : va_S A s.heap s.heap [] := va_S.rf
  have hP : va_P (dC, dI) vwCl [] s.heap := hP
  have hl := lv_entry ([.int x, .int lo, .int hi]) (n := 3) (Nat.le_of_ble_eq_true rfl)
  rw [lg_entry_eq]
  generalize (lg_sl ([.int x, .int lo, .int hi]) ++ List.replicate (3 - (lg_sl ([.int x, .int lo, .int hi])).length) Slot.unset).toArray = ls at hl ⊢
  have hl : lv_has ls 3 [(0, .int x), (1, .int lo), (2, .int hi)] := hl
  refine lv_iload_n hx hb dX1_isWithin_0 rfl (lv_at hl 0 rfl) ?_
  refine lv_iload_n hx hb dX1_isWithin_1 rfl (lv_at hl 1 rfl) ?_
  refine lv_icmp_lt (tgt := 14) hx hb dX1_isWithin_2 (by decide) (fun c2 => ?_) (fun c2 => ?_)
  · refine lv_iconst (v := 0) hx hb dX1_isWithin_14 (by decide) ?_
    have hP9 := hP.sub (ws' := []) [] rfl
    have hD9 := hD.sub (ws' := []) [] (by decide) rfl
    exact W.zret (v := 0) hx hb hr rfl (fun t ht hW => ⟨⟨0, (), rfl, Or.inr ⟨by simp only [Int32.lt_iff_toInt_lt, Int32.le_iff_toInt_le] at c2; omega, rfl⟩, by rw [ht]; exact hP9, va_K.moved hW.alike hK, hD9⟩, hS.F ht⟩) hS.2.2 dX1_isWithin_15
  · refine lv_iload_n hx hb dX1_isWithin_5 rfl (lv_at hl 0 rfl) ?_
    refine lv_iload_n hx hb dX1_isWithin_6 rfl (lv_at hl 2 rfl) ?_
    refine lv_icmp_gt (tgt := 14) hx hb dX1_isWithin_7 (by decide) (fun c7 => ?_) (fun c7 => ?_)
    · refine lv_iconst (v := 0) hx hb dX1_isWithin_14 (by decide) ?_
      have hP9 := hP.sub (ws' := []) [] rfl
      have hD9 := hD.sub (ws' := []) [] (by decide) rfl
      exact W.zret (v := 0) hx hb hr rfl (fun t ht hW => ⟨⟨0, (), rfl, Or.inr ⟨by simp only [Int32.lt_iff_toInt_lt, Int32.le_iff_toInt_le] at c2 c7; omega, rfl⟩, by rw [ht]; exact hP9, va_K.moved hW.alike hK, hD9⟩, hS.F ht⟩) hS.2.2 dX1_isWithin_15
    · refine lv_iconst (v := 1) hx hb dX1_isWithin_10 (by decide) ?_
      refine lv_goto (tgt := 15) hx hb dX1_isWithin_11 (by decide) ?_
      have hP9 := hP.sub (ws' := []) [] rfl
      have hD9 := hD.sub (ws' := []) [] (by decide) rfl
      exact W.zret (v := 1) hx hb hr rfl (fun t ht hW => ⟨⟨1, (), rfl, Or.inl ⟨by simp only [Int32.lt_iff_toInt_lt, Int32.le_iff_toInt_le] at c2 c7; omega, rfl⟩, by rw [ht]; exact hP9, va_K.moved hW.alike hK, hD9⟩, hS.F ht⟩) hS.2.2 dX1_isWithin_15

set_option maxHeartbeats 4000000 in
set_option maxRecDepth 100000 in
/-- sideOf -/
theorem c_X1_sideOf (l : Launch) (dC : Nat → ClassId) (dI : Nat → Nat → Nat) (sz : Nat) (x : Int32) : Met l yX1_sideOf wsX1_sideOf ({ frames := 1, cells := 0, slots := 0, locals := 22 }) (mP (dC, dI) vwCl [] [] sz [.int x]) (va_Qi (fun (r : Int32) (u : Unit) => ((1 ≤ x.toInt ∧ x.toInt ≤ 24) ∧ r = x) ∨ (¬ (1 ≤ x.toInt ∧ x.toInt ≤ 24) ∧ r = 1)) (mB (dC, dI) vwCl [] (va_A [] sz) (fun u => [])) (va_A [] sz)) 0 0 (va_A [] sz) := by
  refine Met.ofW (cc := cX1_sideOf) (maxL := 1) (ret := (some .int)) (by decide) rfl ?_
  intro p e s m args below meth cD s₁ B hml hv
  obtain ⟨rfl, hsz, hP, hK, hD0, hN⟩ := hv
  have hx := B.exec
  have hb := B.bytes
  have hr := B.returns
  have hts := atoms_spec (ws := wsX1_sideOf) B.pre
  have hown : s.vm.findClass RX1 = some m.cls := findClass_of_methodNamed B.named
  have hlocks := B.notSynchronized
  subst hsz
  have hD := hD0.self (sz := s.heap.size)
  generalize hAe : va_A [] s.heap.size = A at hD ⊢
  have hA : ∀ q : Nat, s.heap.size ≤ q → A q := fun q h => by rw [← hAe]; exact Or.inr h
  have hS : va_S A s.heap s.heap [] := va_S.rf
  have hP : va_P (dC, dI) vwCl [] s.heap := hP
  have hl := lv_entry ([.int x]) (n := 1) (Nat.le_of_ble_eq_true rfl)
  rw [lg_entry_eq]
  generalize (lg_sl ([.int x]) ++ List.replicate (1 - (lg_sl ([.int x])).length) Slot.unset).toArray = ls at hl ⊢
  have hl : lv_has ls 1 [(0, .int x)] := hl
  refine lv_iload_n hx hb dX1_sideOf_0 rfl (lv_at hl 0 rfl) ?_
  refine lv_iconst (v := 1) hx hb dX1_sideOf_1 (by decide) ?_
  refine lv_bipush (v := 24) hx hb dX1_sideOf_2 (by decide) ?_
  refine m_calli (cs := []) (wr := []) hP hD hS hA [] [] rfl rfl (by decide) (by decide) (va_runS (As := [.int x, .int 1, .int 24]) (rest := []) ⟨hx, hb, hml, hown, hts⟩ (c_X1_isWithin l dC dI _ x 1 24 1 24 rfl rfl) (va_cwS 3 hts gX1_sideOf_X1_isWithin rfl rfl rfl (by decide +kernel) ⟨Nat.le_of_ble_eq_true rfl, Nat.le_of_ble_eq_true rfl⟩) (m_preS (hP.sub [] rfl) (hK.sub [] rfl) (hD.sub [] (by decide) rfl) hN) rfl rfl hl.1 rfl (lv_room (Nat.le_of_ble_eq_true rfl)) dX1_sideOf_4 ⟨Nat.le_of_ble_eq_true rfl, Nat.le_of_ble_eq_true rfl⟩) (fun r4 _ H locs q4 _ hP hD hS => ?_)
  have hP : va_P (dC, dI) vwCl [] H := hP.sub [] rfl
  have hD : va_D A [] := hD.sub [] (by decide) rfl
  refine lv_if_eq (tgt := 14) hx hb dX1_sideOf_7 (by decide) (fun c7 => ?_) (fun c7 => ?_)
  · refine lv_iconst (v := 1) hx hb dX1_sideOf_14 (by decide) ?_
    have hP9 := hP.sub (ws' := []) [] rfl
    have hD9 := hD.sub (ws' := []) [] (by decide) rfl
    exact W.iret (v := 1) hx hb hr (fun t ht hW => ⟨⟨1, (), rfl, Or.inr ⟨(b01 q4).mp c7, rfl⟩, by rw [ht]; exact hP9, va_K.moved hW.alike hK, hD9⟩, hS.F ht⟩) hS.2.2 dX1_sideOf_15
  · refine lv_iload_n hx hb dX1_sideOf_10 rfl (lv_at hl 0 rfl) ?_
    refine lv_goto (tgt := 15) hx hb dX1_sideOf_11 (by decide) ?_
    have hP9 := hP.sub (ws' := []) [] rfl
    have hD9 := hD.sub (ws' := []) [] (by decide) rfl
    exact W.iret (v := x) hx hb hr (fun t ht hW => ⟨⟨x, (), rfl, Or.inl ⟨Classical.byContradiction (fun h => c7 ((b01 q4).mpr h)), rfl⟩, by rw [ht]; exact hP9, va_K.moved hW.alike hK, hD9⟩, hS.F ht⟩) hS.2.2 dX1_sideOf_15

set_option maxHeartbeats 4000000 in
set_option maxRecDepth 100000 in
/-- isCoordinate -/
theorem c_X1_isCoordinate (l : Launch) (dC : Nat → ClassId) (dI : Nat → Nat → Nat) (sz : Nat) (x : Int32) : Met l yX1_isCoordinate wsX1_isCoordinate ({ frames := 1, cells := 0, slots := 0, locals := 22 }) (mP (dC, dI) vwCl [] [] sz [.int x]) (va_Qi (fun (r : Int32) (u : Unit) => ((-16384 ≤ x.toInt ∧ x.toInt ≤ 16384) ∧ r = 1) ∨ (¬ (-16384 ≤ x.toInt ∧ x.toInt ≤ 16384) ∧ r = 0)) (mB (dC, dI) vwCl [] (va_A [] sz) (fun u => [])) (va_A [] sz)) 0 0 (va_A [] sz) := by
  refine Met.ofW (cc := cX1_isCoordinate) (maxL := 1) (ret := (some .boolean)) (by decide) rfl ?_
  intro p e s m args below meth cD s₁ B hml hv
  obtain ⟨rfl, hsz, hP, hK, hD0, hN⟩ := hv
  have hx := B.exec
  have hb := B.bytes
  have hr := B.returns
  have hts := atoms_spec (ws := wsX1_isCoordinate) B.pre
  have hown : s.vm.findClass RX1 = some m.cls := findClass_of_methodNamed B.named
  have hlocks := B.notSynchronized
  subst hsz
  have hD := hD0.self (sz := s.heap.size)
  generalize hAe : va_A [] s.heap.size = A at hD ⊢
  have hA : ∀ q : Nat, s.heap.size ≤ q → A q := fun q h => by rw [← hAe]; exact Or.inr h
  have hS : va_S A s.heap s.heap [] := va_S.rf
  have hP : va_P (dC, dI) vwCl [] s.heap := hP
  have hl := lv_entry ([.int x]) (n := 1) (Nat.le_of_ble_eq_true rfl)
  rw [lg_entry_eq]
  generalize (lg_sl ([.int x]) ++ List.replicate (1 - (lg_sl ([.int x])).length) Slot.unset).toArray = ls at hl ⊢
  have hl : lv_has ls 1 [(0, .int x)] := hl
  refine lv_iload_n hx hb dX1_isCoordinate_0 rfl (lv_at hl 0 rfl) ?_
  refine lv_sipush (v := (-16384)) hx hb dX1_isCoordinate_1 (by decide) ?_
  refine lv_sipush (v := 16384) hx hb dX1_isCoordinate_4 (by decide) ?_
  refine m_calli (cs := []) (wr := []) hP hD hS hA [] [] rfl rfl (by decide) (by decide) (va_runS (As := [.int x, .int (-16384), .int 16384]) (rest := []) ⟨hx, hb, hml, hown, hts⟩ (c_X1_isWithin l dC dI _ x (-16384) 16384 (-16384) 16384 (by decide) (by decide)) (va_cwS 3 hts gX1_isCoordinate_X1_isWithin rfl rfl rfl (by decide +kernel) ⟨Nat.le_of_ble_eq_true rfl, Nat.le_of_ble_eq_true rfl⟩) (m_preS (hP.sub [] rfl) (hK.sub [] rfl) (hD.sub [] (by decide) rfl) hN) rfl rfl hl.1 rfl (lv_room (Nat.le_of_ble_eq_true rfl)) dX1_isCoordinate_7 ⟨Nat.le_of_ble_eq_true rfl, Nat.le_of_ble_eq_true rfl⟩) (fun r7 _ H locs q7 _ hP hD hS => ?_)
  have hP : va_P (dC, dI) vwCl [] H := hP.sub [] rfl
  have hD : va_D A [] := hD.sub [] (by decide) rfl
  have hz9 : narrow .boolean (.int r7) = .int r7 := by rcases q7 with h | h <;> rw [h.2] <;> rfl
  have hP9 := hP.sub (ws' := []) [] rfl
  have hD9 := hD.sub (ws' := []) [] (by decide) rfl
  exact W.zret (v := r7) hx hb hr hz9 (fun t ht hW => ⟨⟨r7, (), rfl, q7, by rw [ht]; exact hP9, va_K.moved hW.alike hK, hD9⟩, hS.F ht⟩) hS.2.2 dX1_isCoordinate_10

set_option maxHeartbeats 4000000 in
set_option maxRecDepth 100000 in
/-- indexOf -/
theorem c_X1_indexOf (l : Launch) (dC : Nat → ClassId) (dI : Nat → Nat → Nat) (sz : Nat) (ad : Nat → Nat) (w h : Nat) (qd : Int32) (hw1 : 1 ≤ w) (hw2 : w ≤ 24) (hh1 : 1 ≤ h) (hh2 : h ≤ 24) (x y : Int32) : Met l yX1_indexOf wsX1_indexOf ({ frames := 1, cells := 0, slots := 0, locals := 22 }) (mP (dC, dI) vwCl [] [(ad 0, .inr (1, [.int (nI w), .int (nI h), .ref (ad 1), .ref (ad 2), .ref (ad 3), .ref (ad 4), .ref (ad 5), .int qd]))] sz [.ref (ad 0), .int x, .int y]) (va_Qi (fun (r : Int32) (u : Unit) => (inX w h x y ∧ r = nI (lin w x y)) ∨ (¬ inX w h x y ∧ r = -1)) (mB (dC, dI) vwCl [] (va_A [(ad 0, .inr (1, [.int (nI w), .int (nI h), .ref (ad 1), .ref (ad 2), .ref (ad 3), .ref (ad 4), .ref (ad 5), .int qd]))] sz) (fun u => [(ad 0, .inr (1, [.int (nI w), .int (nI h), .ref (ad 1), .ref (ad 2), .ref (ad 3), .ref (ad 4), .ref (ad 5), .int qd]))])) (va_A [(ad 0, .inr (1, [.int (nI w), .int (nI h), .ref (ad 1), .ref (ad 2), .ref (ad 3), .ref (ad 4), .ref (ad 5), .int qd]))] sz)) 0 0 (va_A [(ad 0, .inr (1, [.int (nI w), .int (nI h), .ref (ad 1), .ref (ad 2), .ref (ad 3), .ref (ad 4), .ref (ad 5), .int qd]))] sz) := by
  refine Met.ofW (cc := cX1_indexOf) (maxL := 4) (ret := (some .int)) (by decide) rfl ?_
  intro p e s m args below meth cD s₁ B hml hv
  obtain ⟨rfl, hsz, hP, hK, hD0, hN⟩ := hv
  have hx := B.exec
  have hb := B.bytes
  have hr := B.returns
  have hts := atoms_spec (ws := wsX1_indexOf) B.pre
  have hown : s.vm.findClass RX1 = some m.cls := findClass_of_methodNamed B.named
  have hlocks := B.notSynchronized
  subst hsz
  have hD := hD0.self (sz := s.heap.size)
  generalize hAe : va_A [(ad 0, .inr (1, [.int (nI w), .int (nI h), .ref (ad 1), .ref (ad 2), .ref (ad 3), .ref (ad 4), .ref (ad 5), .int qd]))] s.heap.size = A at hD ⊢
  have hA : ∀ q : Nat, s.heap.size ≤ q → A q := fun q h => by rw [← hAe]; exact Or.inr h
  have hS : va_S A s.heap s.heap [] := va_S.rf
  have hP : va_P (dC, dI) vwCl [(ad 0, .inr (1, [.int (nI w), .int (nI h), .ref (ad 1), .ref (ad 2), .ref (ad 3), .ref (ad 4), .ref (ad 5), .int qd]))] s.heap := hP
  have hl := lv_entry ([.ref (ad 0), .int x, .int y]) (n := 4) (Nat.le_of_ble_eq_true rfl)
  rw [lg_entry_eq]
  generalize (lg_sl ([.ref (ad 0), .int x, .int y]) ++ List.replicate (4 - (lg_sl ([.ref (ad 0), .int x, .int y])).length) Slot.unset).toArray = ls at hl ⊢
  have hl : lv_has ls 4 [(0, .ref (ad 0)), (1, .int x), (2, .int y)] := hl
  refine lv_iload_n hx hb dX1_indexOf_0 rfl (lv_at hl 1 rfl) ?_
  refine lv_iconst (v := 0) hx hb dX1_indexOf_1 (by decide) ?_
  refine lv_aload_n hx hb dX1_indexOf_2 rfl (lv_at hl 0 rfl) ?_
  refine va_get (D := (dC, dI)) (ci := 1) (v := .int (nI w)) (C := RX1) (T := TX1) (N := 8) hx hb hts (by decide +kernel) hown hK hP 0 rfl rfl 0 (by decide) (hts (.fieldLink RX1 13 "TriangleRaster" "width" "I") (by decide +kernel)) (fun _ h9 => h9) rfl dX1_indexOf_3 ?_
  refine lv_iconst (v := 1) hx hb dX1_indexOf_6 (by decide) ?_
  refine lv_isub hx hb dX1_indexOf_7 ?_
  refine m_calli (cs := []) (wr := [(ad 0, .inr (1, [.int (nI w), .int (nI h), .ref (ad 1), .ref (ad 2), .ref (ad 3), .ref (ad 4), .ref (ad 5), .int qd]))]) hP hD hS hA [] [0] rfl rfl (by decide) (by decide) (va_runS (As := [.int x, .int 0, .int ((nI w) - 1)]) (rest := []) ⟨hx, hb, hml, hown, hts⟩ (c_X1_isWithin l dC dI _ x 0 ((nI w) - 1) 0 (w - 1) rfl (nI_subm hw1 hw2)) (va_cwS 3 hts gX1_indexOf_X1_isWithin rfl rfl rfl (by decide +kernel) ⟨Nat.le_of_ble_eq_true rfl, Nat.le_of_ble_eq_true rfl⟩) (m_preS (hP.sub [] rfl) (hK.sub [] rfl) (hD.sub [] (by decide) rfl) hN) rfl rfl hl.1 rfl (lv_room (Nat.le_of_ble_eq_true rfl)) dX1_indexOf_8 ⟨Nat.le_of_ble_eq_true rfl, Nat.le_of_ble_eq_true rfl⟩) (fun r8 _ H locs q8 _ hP hD hS => ?_)
  have hP : va_P (dC, dI) vwCl [(ad 0, .inr (1, [.int (nI w), .int (nI h), .ref (ad 1), .ref (ad 2), .ref (ad 3), .ref (ad 4), .ref (ad 5), .int qd]))] H := hP.sub [0] rfl
  have hD : va_D A [(ad 0, .inr (1, [.int (nI w), .int (nI h), .ref (ad 1), .ref (ad 2), .ref (ad 3), .ref (ad 4), .ref (ad 5), .int qd]))] := hD.sub [0] (by decide) rfl
  refine lv_if_eq (tgt := 32) hx hb dX1_indexOf_11 (by decide) (fun c11 => ?_) (fun c11 => ?_)
  · refine lv_iconst (v := 0) hx hb dX1_indexOf_32 (by decide) ?_
    refine lv_istore_n (lv' := [(3, .int 0), (0, .ref (ad 0)), (1, .int x), (2, .int y)]) hx hb dX1_indexOf_33 rfl hl (by decide) rfl (fun ls hl => ?_)
    refine lv_iload_n hx hb dX1_indexOf_34 rfl (lv_at hl 0 rfl) ?_
    refine lv_if_eq (tgt := 49) hx hb dX1_indexOf_35 (by decide) (fun c35 => ?_) (fun c35 => ?_)
    · refine lv_iconst (v := (-1)) hx hb dX1_indexOf_49 (by decide) ?_
      have hP9 := hP.sub (ws' := [(ad 0, .inr (1, [.int (nI w), .int (nI h), .ref (ad 1), .ref (ad 2), .ref (ad 3), .ref (ad 4), .ref (ad 5), .int qd]))]) [0] rfl
      have hD9 := hD.sub (ws' := [(ad 0, .inr (1, [.int (nI w), .int (nI h), .ref (ad 1), .ref (ad 2), .ref (ad 3), .ref (ad 4), .ref (ad 5), .int qd]))]) [0] (by decide) rfl
      exact W.iret (v := (-1)) hx hb hr (fun t ht hW => ⟨⟨(-1), (), rfl, Or.inr ⟨fun h => (b01 q8).mp c11 ⟨h.1.1, by have := h.1.2; omega⟩, rfl⟩, by rw [ht]; exact hP9, va_K.moved hW.alike hK, hD9⟩, hS.F ht⟩) hS.2.2 dX1_indexOf_50
    · exact absurd c35 (by decide)
  · refine lv_iload_n hx hb dX1_indexOf_14 rfl (lv_at hl 2 rfl) ?_
    refine lv_iconst (v := 0) hx hb dX1_indexOf_15 (by decide) ?_
    refine lv_aload_n hx hb dX1_indexOf_16 rfl (lv_at hl 0 rfl) ?_
    refine va_get (D := (dC, dI)) (ci := 1) (v := .int (nI h)) (C := RX1) (T := TX1) (N := 8) hx hb hts (by decide +kernel) hown hK hP 0 rfl rfl 1 (by decide) (hts (.fieldLink RX1 17 "TriangleRaster" "height" "I") (by decide +kernel)) (fun _ h9 => h9) rfl dX1_indexOf_17 ?_
    refine lv_iconst (v := 1) hx hb dX1_indexOf_20 (by decide) ?_
    refine lv_isub hx hb dX1_indexOf_21 ?_
    refine m_calli (cs := []) (wr := [(ad 0, .inr (1, [.int (nI w), .int (nI h), .ref (ad 1), .ref (ad 2), .ref (ad 3), .ref (ad 4), .ref (ad 5), .int qd]))]) hP hD hS hA [] [0] rfl rfl (by decide) (by decide) (va_runS (As := [.int y, .int 0, .int ((nI h) - 1)]) (rest := []) ⟨hx, hb, hml, hown, hts⟩ (c_X1_isWithin l dC dI _ y 0 ((nI h) - 1) 0 (h - 1) rfl (nI_subm hh1 hh2)) (va_cwS 3 hts gX1_indexOf_X1_isWithin rfl rfl rfl (by decide +kernel) ⟨Nat.le_of_ble_eq_true rfl, Nat.le_of_ble_eq_true rfl⟩) (m_preS (hP.sub [] rfl) (hK.sub [] rfl) (hD.sub [] (by decide) rfl) hN) rfl rfl hl.1 rfl (lv_room (Nat.le_of_ble_eq_true rfl)) dX1_indexOf_22 ⟨Nat.le_of_ble_eq_true rfl, Nat.le_of_ble_eq_true rfl⟩) (fun r22 _ H locs q22 _ hP hD hS => ?_)
    have hP : va_P (dC, dI) vwCl [(ad 0, .inr (1, [.int (nI w), .int (nI h), .ref (ad 1), .ref (ad 2), .ref (ad 3), .ref (ad 4), .ref (ad 5), .int qd]))] H := hP.sub [0] rfl
    have hD : va_D A [(ad 0, .inr (1, [.int (nI w), .int (nI h), .ref (ad 1), .ref (ad 2), .ref (ad 3), .ref (ad 4), .ref (ad 5), .int qd]))] := hD.sub [0] (by decide) rfl
    refine lv_if_eq (tgt := 32) hx hb dX1_indexOf_25 (by decide) (fun c25 => ?_) (fun c25 => ?_)
    · refine lv_iconst (v := 0) hx hb dX1_indexOf_32 (by decide) ?_
      refine lv_istore_n (lv' := [(3, .int 0), (0, .ref (ad 0)), (1, .int x), (2, .int y)]) hx hb dX1_indexOf_33 rfl hl (by decide) rfl (fun ls hl => ?_)
      refine lv_iload_n hx hb dX1_indexOf_34 rfl (lv_at hl 0 rfl) ?_
      refine lv_if_eq (tgt := 49) hx hb dX1_indexOf_35 (by decide) (fun c35 => ?_) (fun c35 => ?_)
      · refine lv_iconst (v := (-1)) hx hb dX1_indexOf_49 (by decide) ?_
        have hP9 := hP.sub (ws' := [(ad 0, .inr (1, [.int (nI w), .int (nI h), .ref (ad 1), .ref (ad 2), .ref (ad 3), .ref (ad 4), .ref (ad 5), .int qd]))]) [0] rfl
        have hD9 := hD.sub (ws' := [(ad 0, .inr (1, [.int (nI w), .int (nI h), .ref (ad 1), .ref (ad 2), .ref (ad 3), .ref (ad 4), .ref (ad 5), .int qd]))]) [0] (by decide) rfl
        exact W.iret (v := (-1)) hx hb hr (fun t ht hW => ⟨⟨(-1), (), rfl, Or.inr ⟨fun h => (b01 q22).mp c25 ⟨h.2.1, by have := h.2.2; omega⟩, rfl⟩, by rw [ht]; exact hP9, va_K.moved hW.alike hK, hD9⟩, hS.F ht⟩) hS.2.2 dX1_indexOf_50
      · exact absurd c35 (by decide)
    · refine lv_iconst (v := 1) hx hb dX1_indexOf_28 (by decide) ?_
      refine lv_goto (tgt := 33) hx hb dX1_indexOf_29 (by decide) ?_
      refine lv_istore_n (lv' := [(3, .int 1), (0, .ref (ad 0)), (1, .int x), (2, .int y)]) hx hb dX1_indexOf_33 rfl hl (by decide) rfl (fun ls hl => ?_)
      refine lv_iload_n hx hb dX1_indexOf_34 rfl (lv_at hl 0 rfl) ?_
      refine lv_if_eq (tgt := 49) hx hb dX1_indexOf_35 (by decide) (fun c35 => ?_) (fun c35 => ?_)
      · exact absurd c35 (by decide)
      · refine lv_iload_n hx hb dX1_indexOf_38 rfl (lv_at hl 3 rfl) ?_
        refine lv_aload_n hx hb dX1_indexOf_39 rfl (lv_at hl 1 rfl) ?_
        refine va_get (D := (dC, dI)) (ci := 1) (v := .int (nI w)) (C := RX1) (T := TX1) (N := 8) hx hb hts (by decide +kernel) hown hK hP 0 rfl rfl 0 (by decide) (hts (.fieldLink RX1 13 "TriangleRaster" "width" "I") (by decide +kernel)) (fun _ h9 => h9) rfl dX1_indexOf_40 ?_
        refine lv_imul hx hb dX1_indexOf_43 ?_
        refine lv_iload_n hx hb dX1_indexOf_44 rfl (lv_at hl 2 rfl) ?_
        refine lv_iadd hx hb dX1_indexOf_45 ?_
        refine lv_goto (tgt := 50) hx hb dX1_indexOf_46 (by decide) ?_
        have h8 : (0 : Int) ≤ x.toInt ∧ x.toInt ≤ w - 1 := Classical.byContradiction (fun h => c11 ((b01 q8).mpr h))
        have h22 : (0 : Int) ≤ y.toInt ∧ y.toInt ≤ h - 1 := Classical.byContradiction (fun h => c25 ((b01 q22).mpr h))
        have hi9 : inX w h x y := ⟨⟨h8.1, by omega⟩, h22.1, by omega⟩
        have hP9 := hP.sub (ws' := [(ad 0, .inr (1, [.int (nI w), .int (nI h), .ref (ad 1), .ref (ad 2), .ref (ad 3), .ref (ad 4), .ref (ad 5), .int qd]))]) [0] rfl
        have hD9 := hD.sub (ws' := [(ad 0, .inr (1, [.int (nI w), .int (nI h), .ref (ad 1), .ref (ad 2), .ref (ad 3), .ref (ad 4), .ref (ad 5), .int qd]))]) [0] (by decide) rfl
        exact W.iret (v := ((y * (nI w)) + x)) hx hb hr (fun t ht hW => ⟨⟨(y * (nI w)) + x, (), rfl, Or.inl ⟨hi9, lin_ix hi9⟩, by rw [ht]; exact hP9, va_K.moved hW.alike hK, hD9⟩, hS.F ht⟩) hS.2.2 dX1_indexOf_50

set_option maxHeartbeats 4000000 in
set_option maxRecDepth 100000 in
/-- pixel -/
theorem c_X1_pixel (l : Launch) (dC : Nat → ClassId) (dI : Nat → Nat → Nat) (sz : Nat) (ad : Nat → Nat) (tc : Nat → ClassId) (w h : Nat) (qd : Int32) (col : Nat → Int32) (hw1 : 1 ≤ w) (hw2 : w ≤ 24) (hh1 : 1 ≤ h) (hh2 : h ≤ 24) (x y : Int32) : Met l yX1_pixel wsX1_pixel ({ frames := 2, cells := 0, slots := 0, locals := 45 }) (mP (dC, dI) vwCl [(tc 1, .int)] [(ad 0, .inr (1, [.int (nI w), .int (nI h), .ref (ad 1), .ref (ad 2), .ref (ad 3), .ref (ad 4), .ref (ad 5), .int qd])), (ad 1, .inl (tc 1, (w * h), .inl col))] sz [.ref (ad 0), .int x, .int y]) (va_Qi (fun (r : Int32) (u : Unit) => (inX w h x y ∧ r = col (lin w x y)) ∨ (¬ inX w h x y ∧ r = -1)) (mB (dC, dI) vwCl [(tc 1, .int)] (va_A [(ad 0, .inr (1, [.int (nI w), .int (nI h), .ref (ad 1), .ref (ad 2), .ref (ad 3), .ref (ad 4), .ref (ad 5), .int qd])), (ad 1, .inl (tc 1, (w * h), .inl col))] sz) (fun u => [(ad 0, .inr (1, [.int (nI w), .int (nI h), .ref (ad 1), .ref (ad 2), .ref (ad 3), .ref (ad 4), .ref (ad 5), .int qd])), (ad 1, .inl (tc 1, (w * h), .inl col))])) (va_A [(ad 0, .inr (1, [.int (nI w), .int (nI h), .ref (ad 1), .ref (ad 2), .ref (ad 3), .ref (ad 4), .ref (ad 5), .int qd])), (ad 1, .inl (tc 1, (w * h), .inl col))] sz)) 0 0 (va_A [(ad 0, .inr (1, [.int (nI w), .int (nI h), .ref (ad 1), .ref (ad 2), .ref (ad 3), .ref (ad 4), .ref (ad 5), .int qd])), (ad 1, .inl (tc 1, (w * h), .inl col))] sz) := by
  refine Met.ofW (cc := cX1_pixel) (maxL := 4) (ret := (some .int)) (by decide) rfl ?_
  intro p e s m args below meth cD s₁ B hml hv
  obtain ⟨rfl, hsz, hP, hK, hD0, hN⟩ := hv
  have hx := B.exec
  have hb := B.bytes
  have hr := B.returns
  have hts := atoms_spec (ws := wsX1_pixel) B.pre
  have hown : s.vm.findClass RX1 = some m.cls := findClass_of_methodNamed B.named
  have hlocks := B.notSynchronized
  subst hsz
  have hD := hD0.self (sz := s.heap.size)
  generalize hAe : va_A [(ad 0, .inr (1, [.int (nI w), .int (nI h), .ref (ad 1), .ref (ad 2), .ref (ad 3), .ref (ad 4), .ref (ad 5), .int qd])), (ad 1, .inl (tc 1, (w * h), .inl col))] s.heap.size = A at hD ⊢
  have hA : ∀ q : Nat, s.heap.size ≤ q → A q := fun q h => by rw [← hAe]; exact Or.inr h
  have hS : va_S A s.heap s.heap [] := va_S.rf
  have hP : va_P (dC, dI) vwCl [(ad 0, .inr (1, [.int (nI w), .int (nI h), .ref (ad 1), .ref (ad 2), .ref (ad 3), .ref (ad 4), .ref (ad 5), .int qd])), (ad 1, .inl (tc 1, (w * h), .inl col))] s.heap := hP
  have hl := lv_entry ([.ref (ad 0), .int x, .int y]) (n := 4) (Nat.le_of_ble_eq_true rfl)
  rw [lg_entry_eq]
  generalize (lg_sl ([.ref (ad 0), .int x, .int y]) ++ List.replicate (4 - (lg_sl ([.ref (ad 0), .int x, .int y])).length) Slot.unset).toArray = ls at hl ⊢
  have hl : lv_has ls 4 [(0, .ref (ad 0)), (1, .int x), (2, .int y)] := hl
  refine lv_aload_n hx hb dX1_pixel_0 rfl (lv_at hl 0 rfl) ?_
  refine lv_iload_n hx hb dX1_pixel_1 rfl (lv_at hl 1 rfl) ?_
  refine lv_iload_n hx hb dX1_pixel_2 rfl (lv_at hl 2 rfl) ?_
  refine m_calli (cs := [(ad 0, .inr (1, [.int (nI w), .int (nI h), .ref (ad 1), .ref (ad 2), .ref (ad 3), .ref (ad 4), .ref (ad 5), .int qd]))]) (wr := [(ad 1, .inl (tc 1, (w * h), .inl col))]) hP hD hS hA [0] [1] rfl rfl (by decide) (by decide) (va_runV (As := [.int x, .int y]) (rest := []) ⟨hx, hb, hml, hown, hts⟩ (c_X1_indexOf l dC dI _ ad w h qd hw1 hw2 hh1 hh2 x y) (cwV 2 hts gX1_pixel_X1_indexOf rfl rfl rfl (by decide +kernel) ⟨Nat.le_of_ble_eq_true rfl, Nat.le_of_ble_eq_true rfl⟩) (m_preV (ci := 1) (q0 := 0) (hP.sub [0] rfl) (hK.sub [] rfl) (hD.sub [0] (by decide) rfl) hN rfl rfl) rfl rfl hl.1 rfl (lv_room (Nat.le_of_ble_eq_true rfl)) dX1_pixel_3 ⟨Nat.le_of_ble_eq_true rfl, Nat.le_of_ble_eq_true rfl⟩) (fun r3 _ H locs q3 _ hP hD hS => ?_)
  have hP : va_P (dC, dI) vwCl [(ad 0, .inr (1, [.int (nI w), .int (nI h), .ref (ad 1), .ref (ad 2), .ref (ad 3), .ref (ad 4), .ref (ad 5), .int qd])), (ad 1, .inl (tc 1, (w * h), .inl col))] H := hP.sub [1, 0] rfl
  have hD : va_D A [(ad 0, .inr (1, [.int (nI w), .int (nI h), .ref (ad 1), .ref (ad 2), .ref (ad 3), .ref (ad 4), .ref (ad 5), .int qd])), (ad 1, .inl (tc 1, (w * h), .inl col))] := hD.sub [1, 0] (by decide) rfl
  refine lv_istore_n (lv' := [(3, .int r3), (0, .ref (ad 0)), (1, .int x), (2, .int y)]) hx hb dX1_pixel_6 rfl hl (by decide) rfl (fun ls hl => ?_)
  refine lv_iload_n hx hb dX1_pixel_7 rfl (lv_at hl 0 rfl) ?_
  refine lv_iconst (v := (-1)) hx hb dX1_pixel_8 (by decide) ?_
  refine lv_icmp_ne (tgt := 16) hx hb dX1_pixel_9 (by decide) (fun c9 => ?_) (fun c9 => ?_)
  · have hc9 : inX w h x y ∧ r3 = nI (lin w x y) := by
      rcases q3 with h | h
      · exact h
      · exact absurd h.2 c9
    have hlt9 := lin_lt hc9.1
    have hwh9 := wh_le hw2 hh2
    have hi21 : vp_in r3 (w * h) := by rw [hc9.2]; exact vp_in_nI hlt9 (by omega)
    refine lv_aload_n hx hb dX1_pixel_16 rfl (lv_at hl 1 rfl) ?_
    refine va_get (D := (dC, dI)) (ci := 1) (v := .ref (ad 1)) (C := RX1) (T := TX1) (N := 8) hx hb hts (by decide +kernel) hown hK hP 0 rfl rfl 2 (by decide) (hts (.fieldLink RX1 20 "TriangleRaster" "colours" "[I") (by decide +kernel)) (fun _ h9 => h9) rfl dX1_pixel_17 ?_
    refine lv_iload_n hx hb dX1_pixel_20 rfl (lv_at hl 0 rfl) ?_
    refine va_iald hx hb hK hP 1 0 rfl rfl hi21 dX1_pixel_21 ?_
    have hP9 := hP.sub (ws' := [(ad 0, .inr (1, [.int (nI w), .int (nI h), .ref (ad 1), .ref (ad 2), .ref (ad 3), .ref (ad 4), .ref (ad 5), .int qd])), (ad 1, .inl (tc 1, (w * h), .inl col))]) [0, 1] rfl
    have hD9 := hD.sub (ws' := [(ad 0, .inr (1, [.int (nI w), .int (nI h), .ref (ad 1), .ref (ad 2), .ref (ad 3), .ref (ad 4), .ref (ad 5), .int qd])), (ad 1, .inl (tc 1, (w * h), .inl col))]) [0, 1] (by decide) rfl
    exact W.iret (v := (col r3.toNatClampNeg)) hx hb hr (fun t ht hW => ⟨⟨col r3.toNatClampNeg, (), rfl, Or.inl ⟨hc9.1, by rw [hc9.2, nI_clamp (by omega)]⟩, by rw [ht]; exact hP9, va_K.moved hW.alike hK, hD9⟩, hS.F ht⟩) hS.2.2 dX1_pixel_22
  · refine lv_iconst (v := (-1)) hx hb dX1_pixel_12 (by decide) ?_
    refine lv_goto (tgt := 22) hx hb dX1_pixel_13 (by decide) ?_
    have hP9 := hP.sub (ws' := [(ad 0, .inr (1, [.int (nI w), .int (nI h), .ref (ad 1), .ref (ad 2), .ref (ad 3), .ref (ad 4), .ref (ad 5), .int qd])), (ad 1, .inl (tc 1, (w * h), .inl col))]) [0, 1] rfl
    have hD9 := hD.sub (ws' := [(ad 0, .inr (1, [.int (nI w), .int (nI h), .ref (ad 1), .ref (ad 2), .ref (ad 3), .ref (ad 4), .ref (ad 5), .int qd])), (ad 1, .inl (tc 1, (w * h), .inl col))]) [0, 1] (by decide) rfl
    exact W.iret (v := (-1)) hx hb hr (fun t ht hW => ⟨⟨(-1), (), rfl, Or.inr ⟨fun h => (by rcases q3 with h1 | h1; exact nI_m1 (n := lin w x y) (by have := lin_lt h; have := wh_le hw2 hh2; omega) (h1.2.symm.trans c9); exact h1.1 h), rfl⟩, by rw [ht]; exact hP9, va_K.moved hW.alike hK, hD9⟩, hS.F ht⟩) hS.2.2 dX1_pixel_22

set_option maxHeartbeats 4000000 in
set_option maxRecDepth 100000 in
/-- depthAt -/
theorem c_X1_depthAt (l : Launch) (dC : Nat → ClassId) (dI : Nat → Nat → Nat) (sz : Nat) (ad : Nat → Nat) (tc : Nat → ClassId) (w h : Nat) (qd : Int32) (dep : Nat → Int32) (hw1 : 1 ≤ w) (hw2 : w ≤ 24) (hh1 : 1 ≤ h) (hh2 : h ≤ 24) (x y : Int32) : Met l yX1_depthAt wsX1_depthAt ({ frames := 2, cells := 0, slots := 0, locals := 45 }) (mP (dC, dI) vwCl [(tc 2, .int)] [(ad 0, .inr (1, [.int (nI w), .int (nI h), .ref (ad 1), .ref (ad 2), .ref (ad 3), .ref (ad 4), .ref (ad 5), .int qd])), (ad 2, .inl (tc 2, (w * h), .inl dep))] sz [.ref (ad 0), .int x, .int y]) (va_Qi (fun (r : Int32) (u : Unit) => (inX w h x y ∧ r = dep (lin w x y)) ∨ (¬ inX w h x y ∧ r = -1)) (mB (dC, dI) vwCl [(tc 2, .int)] (va_A [(ad 0, .inr (1, [.int (nI w), .int (nI h), .ref (ad 1), .ref (ad 2), .ref (ad 3), .ref (ad 4), .ref (ad 5), .int qd])), (ad 2, .inl (tc 2, (w * h), .inl dep))] sz) (fun u => [(ad 0, .inr (1, [.int (nI w), .int (nI h), .ref (ad 1), .ref (ad 2), .ref (ad 3), .ref (ad 4), .ref (ad 5), .int qd])), (ad 2, .inl (tc 2, (w * h), .inl dep))])) (va_A [(ad 0, .inr (1, [.int (nI w), .int (nI h), .ref (ad 1), .ref (ad 2), .ref (ad 3), .ref (ad 4), .ref (ad 5), .int qd])), (ad 2, .inl (tc 2, (w * h), .inl dep))] sz)) 0 0 (va_A [(ad 0, .inr (1, [.int (nI w), .int (nI h), .ref (ad 1), .ref (ad 2), .ref (ad 3), .ref (ad 4), .ref (ad 5), .int qd])), (ad 2, .inl (tc 2, (w * h), .inl dep))] sz) := by
  refine Met.ofW (cc := cX1_depthAt) (maxL := 4) (ret := (some .int)) (by decide) rfl ?_
  intro p e s m args below meth cD s₁ B hml hv
  obtain ⟨rfl, hsz, hP, hK, hD0, hN⟩ := hv
  have hx := B.exec
  have hb := B.bytes
  have hr := B.returns
  have hts := atoms_spec (ws := wsX1_depthAt) B.pre
  have hown : s.vm.findClass RX1 = some m.cls := findClass_of_methodNamed B.named
  have hlocks := B.notSynchronized
  subst hsz
  have hD := hD0.self (sz := s.heap.size)
  generalize hAe : va_A [(ad 0, .inr (1, [.int (nI w), .int (nI h), .ref (ad 1), .ref (ad 2), .ref (ad 3), .ref (ad 4), .ref (ad 5), .int qd])), (ad 2, .inl (tc 2, (w * h), .inl dep))] s.heap.size = A at hD ⊢
  have hA : ∀ q : Nat, s.heap.size ≤ q → A q := fun q h => by rw [← hAe]; exact Or.inr h
  have hS : va_S A s.heap s.heap [] := va_S.rf
  have hP : va_P (dC, dI) vwCl [(ad 0, .inr (1, [.int (nI w), .int (nI h), .ref (ad 1), .ref (ad 2), .ref (ad 3), .ref (ad 4), .ref (ad 5), .int qd])), (ad 2, .inl (tc 2, (w * h), .inl dep))] s.heap := hP
  have hl := lv_entry ([.ref (ad 0), .int x, .int y]) (n := 4) (Nat.le_of_ble_eq_true rfl)
  rw [lg_entry_eq]
  generalize (lg_sl ([.ref (ad 0), .int x, .int y]) ++ List.replicate (4 - (lg_sl ([.ref (ad 0), .int x, .int y])).length) Slot.unset).toArray = ls at hl ⊢
  have hl : lv_has ls 4 [(0, .ref (ad 0)), (1, .int x), (2, .int y)] := hl
  refine lv_aload_n hx hb dX1_depthAt_0 rfl (lv_at hl 0 rfl) ?_
  refine lv_iload_n hx hb dX1_depthAt_1 rfl (lv_at hl 1 rfl) ?_
  refine lv_iload_n hx hb dX1_depthAt_2 rfl (lv_at hl 2 rfl) ?_
  refine m_calli (cs := [(ad 0, .inr (1, [.int (nI w), .int (nI h), .ref (ad 1), .ref (ad 2), .ref (ad 3), .ref (ad 4), .ref (ad 5), .int qd]))]) (wr := [(ad 2, .inl (tc 2, (w * h), .inl dep))]) hP hD hS hA [0] [1] rfl rfl (by decide) (by decide) (va_runV (As := [.int x, .int y]) (rest := []) ⟨hx, hb, hml, hown, hts⟩ (c_X1_indexOf l dC dI _ ad w h qd hw1 hw2 hh1 hh2 x y) (cwV 2 hts gX1_depthAt_X1_indexOf rfl rfl rfl (by decide +kernel) ⟨Nat.le_of_ble_eq_true rfl, Nat.le_of_ble_eq_true rfl⟩) (m_preV (ci := 1) (q0 := 0) (hP.sub [0] rfl) (hK.sub [] rfl) (hD.sub [0] (by decide) rfl) hN rfl rfl) rfl rfl hl.1 rfl (lv_room (Nat.le_of_ble_eq_true rfl)) dX1_depthAt_3 ⟨Nat.le_of_ble_eq_true rfl, Nat.le_of_ble_eq_true rfl⟩) (fun r3 _ H locs q3 _ hP hD hS => ?_)
  have hP : va_P (dC, dI) vwCl [(ad 0, .inr (1, [.int (nI w), .int (nI h), .ref (ad 1), .ref (ad 2), .ref (ad 3), .ref (ad 4), .ref (ad 5), .int qd])), (ad 2, .inl (tc 2, (w * h), .inl dep))] H := hP.sub [1, 0] rfl
  have hD : va_D A [(ad 0, .inr (1, [.int (nI w), .int (nI h), .ref (ad 1), .ref (ad 2), .ref (ad 3), .ref (ad 4), .ref (ad 5), .int qd])), (ad 2, .inl (tc 2, (w * h), .inl dep))] := hD.sub [1, 0] (by decide) rfl
  refine lv_istore_n (lv' := [(3, .int r3), (0, .ref (ad 0)), (1, .int x), (2, .int y)]) hx hb dX1_depthAt_6 rfl hl (by decide) rfl (fun ls hl => ?_)
  refine lv_iload_n hx hb dX1_depthAt_7 rfl (lv_at hl 0 rfl) ?_
  refine lv_iconst (v := (-1)) hx hb dX1_depthAt_8 (by decide) ?_
  refine lv_icmp_ne (tgt := 16) hx hb dX1_depthAt_9 (by decide) (fun c9 => ?_) (fun c9 => ?_)
  · have hc9 : inX w h x y ∧ r3 = nI (lin w x y) := by
      rcases q3 with h | h
      · exact h
      · exact absurd h.2 c9
    have hlt9 := lin_lt hc9.1
    have hwh9 := wh_le hw2 hh2
    have hi21 : vp_in r3 (w * h) := by rw [hc9.2]; exact vp_in_nI hlt9 (by omega)
    refine lv_aload_n hx hb dX1_depthAt_16 rfl (lv_at hl 1 rfl) ?_
    refine va_get (D := (dC, dI)) (ci := 1) (v := .ref (ad 2)) (C := RX1) (T := TX1) (N := 8) hx hb hts (by decide +kernel) hown hK hP 0 rfl rfl 3 (by decide) (hts (.fieldLink RX1 24 "TriangleRaster" "depths" "[I") (by decide +kernel)) (fun _ h9 => h9) rfl dX1_depthAt_17 ?_
    refine lv_iload_n hx hb dX1_depthAt_20 rfl (lv_at hl 0 rfl) ?_
    refine va_iald hx hb hK hP 1 0 rfl rfl hi21 dX1_depthAt_21 ?_
    have hP9 := hP.sub (ws' := [(ad 0, .inr (1, [.int (nI w), .int (nI h), .ref (ad 1), .ref (ad 2), .ref (ad 3), .ref (ad 4), .ref (ad 5), .int qd])), (ad 2, .inl (tc 2, (w * h), .inl dep))]) [0, 1] rfl
    have hD9 := hD.sub (ws' := [(ad 0, .inr (1, [.int (nI w), .int (nI h), .ref (ad 1), .ref (ad 2), .ref (ad 3), .ref (ad 4), .ref (ad 5), .int qd])), (ad 2, .inl (tc 2, (w * h), .inl dep))]) [0, 1] (by decide) rfl
    exact W.iret (v := (dep r3.toNatClampNeg)) hx hb hr (fun t ht hW => ⟨⟨dep r3.toNatClampNeg, (), rfl, Or.inl ⟨hc9.1, by rw [hc9.2, nI_clamp (by omega)]⟩, by rw [ht]; exact hP9, va_K.moved hW.alike hK, hD9⟩, hS.F ht⟩) hS.2.2 dX1_depthAt_22
  · refine lv_iconst (v := (-1)) hx hb dX1_depthAt_12 (by decide) ?_
    refine lv_goto (tgt := 22) hx hb dX1_depthAt_13 (by decide) ?_
    have hP9 := hP.sub (ws' := [(ad 0, .inr (1, [.int (nI w), .int (nI h), .ref (ad 1), .ref (ad 2), .ref (ad 3), .ref (ad 4), .ref (ad 5), .int qd])), (ad 2, .inl (tc 2, (w * h), .inl dep))]) [0, 1] rfl
    have hD9 := hD.sub (ws' := [(ad 0, .inr (1, [.int (nI w), .int (nI h), .ref (ad 1), .ref (ad 2), .ref (ad 3), .ref (ad 4), .ref (ad 5), .int qd])), (ad 2, .inl (tc 2, (w * h), .inl dep))]) [0, 1] (by decide) rfl
    exact W.iret (v := (-1)) hx hb hr (fun t ht hW => ⟨⟨(-1), (), rfl, Or.inr ⟨fun h => (by rcases q3 with h1 | h1; exact nI_m1 (n := lin w x y) (by have := lin_lt h; have := wh_le hw2 hh2; omega) (h1.2.symm.trans c9); exact h1.1 h), rfl⟩, by rw [ht]; exact hP9, va_K.moved hW.alike hK, hD9⟩, hS.F ht⟩) hS.2.2 dX1_depthAt_22
end
section
set_option maxHeartbeats 4000000 in
set_option maxRecDepth 100000 in
/-- Arrays.fill -/
theorem c_J7_fill_53178 (l : Launch) (dC : Nat → ClassId) (dI : Nat → Nat → Nat) (sz : Nat) (a : Nat) (t : ClassId) (n0 : Nat) (hn0 : n0 < 2 ^ 31) (f : Nat → Int32) (v : Int32) : Met l yJ7_fill_53178 wsJ7_fill_53178 ({ frames := 0, cells := 0, slots := 0, locals := 0 }) (mP (dC, dI) vwCl [(t, .int)] [(a, .inl (t, n0, .inl f))] sz [.ref a, .int v]) (va_Qv (fun (u : Nat → Int32) => ∀ i, i < n0 → u i = v) (mB (dC, dI) vwCl [(t, .int)] (va_A [(a, .inl (t, n0, .inl f))] sz) (fun u => [(a, .inl (t, n0, .inl u))])) (va_A [(a, .inl (t, n0, .inl f))] sz)) 0 0 (va_A [(a, .inl (t, n0, .inl f))] sz) := by
  refine Met.ofW (cc := cJ7_fill_53178) (maxL := 4) (ret := none) (by decide) rfl ?_
  intro p e s m args below meth cD s₁ B hml hv
  obtain ⟨rfl, hsz, hP, hK, hD0, hN⟩ := hv
  have hx := B.exec
  have hb := B.bytes
  have hr := B.returns
  have hts := atoms_spec (ws := wsJ7_fill_53178) B.pre
  have hown : s.vm.findClass RJ7 = some m.cls := findClass_of_methodNamed B.named
  have hlocks := B.notSynchronized
  subst hsz
  have hD := hD0.self (sz := s.heap.size)
  generalize hAe : va_A [(a, .inl (t, n0, .inl f))] s.heap.size = A at hD ⊢
  have hA : ∀ q : Nat, s.heap.size ≤ q → A q := fun q h => by rw [← hAe]; exact Or.inr h
  have hS : va_S A s.heap s.heap [] := va_S.rf
  have hP : va_P (dC, dI) vwCl [(a, .inl (t, n0, .inl f))] s.heap := hP
  have hl := lv_entry ([.ref a, .int v]) (n := 4) (Nat.le_of_ble_eq_true rfl)
  rw [lg_entry_eq]
  generalize (lg_sl ([.ref a, .int v]) ++ List.replicate (4 - (lg_sl ([.ref a, .int v])).length) Slot.unset).toArray = ls at hl ⊢
  have hl : lv_has ls 4 [(0, .ref a), (1, .int v)] := hl
  refine lv_iconst (v := 0) hx hb dJ7_fill_53178_0 (by decide) ?_
  refine lv_topi (fun zz ezz => ?_)
  obtain rfl : zz = nI 0 := ezz.trans (nI_0.symm)
  refine lv_istore_n (lv' := [(2, .int (nI 0)), (0, .ref a), (1, .int v)]) hx hb dJ7_fill_53178_1 rfl hl (by decide) rfl (fun ls hl => ?_)
  refine lv_aload_n hx hb dJ7_fill_53178_2 rfl (lv_at hl 1 rfl) ?_
  refine va_alen (v := nI n0) hx hb hK hP 0 0 rfl rfl rfl dJ7_fill_53178_3 ?_
  refine lv_istore_n (lv' := [(3, .int (nI n0)), (2, .int (nI 0)), (0, .ref a), (1, .int v)]) hx hb dJ7_fill_53178_4 rfl hl (by decide) rfl (fun ls hl => ?_)
  have loop : ∀ (n : Nat) (i : Nat) (g : Nat → Int32), i ≤ n0 → (∀ j, j < i → g j = v) → n0 + 1 ≤ i + n → ∀ (H : Heap) (locs : List Loc), va_P (dC, dI) vwCl [(a, .inl (t, n0, .inl g))] H → va_D A [(a, .inl (t, n0, .inl g))] → va_S A s.heap H locs → ∀ (ls : Array Slot), lv_has ls 4 [(0, .ref a), (1, .int v), (2, .int (nI i)), (3, .int (nI n0))] → W p l e (headSpec wsJ7_fill_53178 { frames := 0, cells := 0, slots := 0, locals := 0 }).room s m [.ref a, .int v].toArray below meth cD H locs 0 0 (MQ below (va_Qv (fun (u : Nat → Int32) => ∀ i, i < n0 → u i = v) (mB (dC, dI) vwCl [(t, .int)] A (fun u => [(a, .inl (t, n0, .inl u))])) A) [.ref a, .int v].toArray s 0 0 A) (F0 m 5 ls []) := by
    intro n
    induction n with
    | zero => intro i g hi hg hm; exfalso; omega
    | succ n ih =>
      intro i g hi hg hm H locs hP hD hS ls hl
      refine lv_iload_n hx hb dJ7_fill_53178_5 rfl (lv_at hl 2 rfl) ?_
      refine lv_iload_n hx hb dJ7_fill_53178_6 rfl (lv_at hl 3 rfl) ?_
      refine lv_icmp_ge (tgt := 20) hx hb dJ7_fill_53178_7 (by decide) (fun c7 => ?_) (fun c7 => ?_)
      · have hP9 := hP.sub (ws' := [(a, .inl (t, n0, .inl g))]) [0] rfl
        have hD9 := hD.sub (ws' := [(a, .inl (t, n0, .inl g))]) [0] (by decide) rfl
        exact W.vret hx hb hr (fun t ht hW => ⟨⟨g, rfl, fun j hj => hg j (by rw [nI_leI hn0 (by omega)] at c7; omega), by rw [ht]; exact hP9, va_K.moved hW.alike hK, hD9⟩, hS.F ht⟩) hS.2.2 dJ7_fill_53178_20
      · have hlt : i < n0 := by rw [nI_leI hn0 (by omega)] at c7; omega
        refine lv_aload_n hx hb dJ7_fill_53178_10 rfl (lv_at hl 0 rfl) ?_
        refine lv_iload_n hx hb dJ7_fill_53178_11 rfl (lv_at hl 2 rfl) ?_
        refine lv_iload_n hx hb dJ7_fill_53178_12 rfl (lv_at hl 1 rfl) ?_
        refine va_iast hx hb hK hP hD hS 0 0 rfl rfl (vp_in_nI hlt hn0) dJ7_fill_53178_13 (fun H locs hP hD hS => ?_)
        have hP : va_P (dC, dI) vwCl [(a, .inl (t, n0, .inl (upd g (nI i).toNatClampNeg v)))] H := hP
        have hD : va_D A [(a, .inl (t, n0, .inl (upd g (nI i).toNatClampNeg v)))] := hD
        refine lv_iinc (v := nI (i + 1)) (lv' := [(2, .int (nI (i + 1))), (0, .ref a), (1, .int v), (3, .int (nI n0))]) hx hb dJ7_fill_53178_14 hl (k := 2) rfl (nI_add _ 1) (by decide) rfl (fun ls hl => ?_)
        refine lv_goto (tgt := 5) hx hb dJ7_fill_53178_17 (by decide) ?_
        exact ih (i + 1) (upd g (nI i).toNatClampNeg v) (by omega) (fun j h => by rw [nI_clamp (by omega)]; unfold upd; split <;> first | rfl | exact hg j (by omega)) (by omega) _ _ (hP.sub [0] rfl) (hD.sub [0] (by decide) rfl) hS ls (lv_sub hl [1, 2, 0, 3] rfl)
  exact loop (n0 + 1) 0 f (Nat.zero_le _) (fun j h => absurd h (Nat.not_lt_zero j)) (by omega) _ _ (hP.sub [0] rfl) (hD.sub [0] (by decide) rfl) hS ls (lv_sub hl [2, 3, 1, 0] rfl)

set_option maxHeartbeats 4000000 in
set_option maxRecDepth 100000 in
/-- clear -/
theorem c_X1_clear (l : Launch) (dC : Nat → ClassId) (dI : Nat → Nat → Nat) (sz : Nat) (ad : Nat → Nat) (tc : Nat → ClassId) (w h : Nat) (qd : Int32) (col dep : Nat → Int32) (hw1 : 1 ≤ w) (hw2 : w ≤ 24) (hh1 : 1 ≤ h) (hh2 : h ≤ 24) (c z : Int32) : Met l yX1_clear wsX1_clear ({ frames := 1, cells := 0, slots := 0, locals := 23 }) (mP (dC, dI) vwCl [(tc 1, .int), (tc 2, .int)] [(ad 0, .inr (1, [.int (nI w), .int (nI h), .ref (ad 1), .ref (ad 2), .ref (ad 3), .ref (ad 4), .ref (ad 5), .int qd])), (ad 1, .inl (tc 1, (w * h), .inl col)), (ad 2, .inl (tc 2, (w * h), .inl dep))] sz [.ref (ad 0), .int c, .int z]) (va_Qi (fun (r : Int32) (u : (Nat → Int32) × (Nat → Int32)) => ((0 ≤ z.toInt ∧ z.toInt ≤ 65535) ∧ r = 1 ∧ (∀ i, i < w * h → u.1 i = c ∧ u.2 i = z)) ∨ (¬ (0 ≤ z.toInt ∧ z.toInt ≤ 65535) ∧ r = 0 ∧ u = (col, dep))) (mB (dC, dI) vwCl [(tc 1, .int), (tc 2, .int)] (va_A [(ad 0, .inr (1, [.int (nI w), .int (nI h), .ref (ad 1), .ref (ad 2), .ref (ad 3), .ref (ad 4), .ref (ad 5), .int qd])), (ad 1, .inl (tc 1, (w * h), .inl col)), (ad 2, .inl (tc 2, (w * h), .inl dep))] sz) (fun u => [(ad 0, .inr (1, [.int (nI w), .int (nI h), .ref (ad 1), .ref (ad 2), .ref (ad 3), .ref (ad 4), .ref (ad 5), .int qd])), (ad 1, .inl (tc 1, (w * h), .inl u.1)), (ad 2, .inl (tc 2, (w * h), .inl u.2))])) (va_A [(ad 0, .inr (1, [.int (nI w), .int (nI h), .ref (ad 1), .ref (ad 2), .ref (ad 3), .ref (ad 4), .ref (ad 5), .int qd])), (ad 1, .inl (tc 1, (w * h), .inl col)), (ad 2, .inl (tc 2, (w * h), .inl dep))] sz)) 0 0 (va_A [(ad 0, .inr (1, [.int (nI w), .int (nI h), .ref (ad 1), .ref (ad 2), .ref (ad 3), .ref (ad 4), .ref (ad 5), .int qd])), (ad 1, .inl (tc 1, (w * h), .inl col)), (ad 2, .inl (tc 2, (w * h), .inl dep))] sz) := by
  refine Met.ofW (cc := cX1_clear) (maxL := 3) (ret := (some .boolean)) (by decide) rfl ?_
  intro p e s m args below meth cD s₁ B hml hv
  obtain ⟨rfl, hsz, hP, hK, hD0, hN⟩ := hv
  have hx := B.exec
  have hb := B.bytes
  have hr := B.returns
  have hts := atoms_spec (ws := wsX1_clear) B.pre
  have hown : s.vm.findClass RX1 = some m.cls := findClass_of_methodNamed B.named
  have hlocks := B.notSynchronized
  subst hsz
  have hD := hD0.self (sz := s.heap.size)
  generalize hAe : va_A [(ad 0, .inr (1, [.int (nI w), .int (nI h), .ref (ad 1), .ref (ad 2), .ref (ad 3), .ref (ad 4), .ref (ad 5), .int qd])), (ad 1, .inl (tc 1, (w * h), .inl col)), (ad 2, .inl (tc 2, (w * h), .inl dep))] s.heap.size = A at hD ⊢
  have hA : ∀ q : Nat, s.heap.size ≤ q → A q := fun q h => by rw [← hAe]; exact Or.inr h
  have hS : va_S A s.heap s.heap [] := va_S.rf
  have hP : va_P (dC, dI) vwCl [(ad 0, .inr (1, [.int (nI w), .int (nI h), .ref (ad 1), .ref (ad 2), .ref (ad 3), .ref (ad 4), .ref (ad 5), .int qd])), (ad 1, .inl (tc 1, (w * h), .inl col)), (ad 2, .inl (tc 2, (w * h), .inl dep))] s.heap := hP
  have hl := lv_entry ([.ref (ad 0), .int c, .int z]) (n := 3) (Nat.le_of_ble_eq_true rfl)
  rw [lg_entry_eq]
  generalize (lg_sl ([.ref (ad 0), .int c, .int z]) ++ List.replicate (3 - (lg_sl ([.ref (ad 0), .int c, .int z])).length) Slot.unset).toArray = ls at hl ⊢
  have hl : lv_has ls 3 [(0, .ref (ad 0)), (1, .int c), (2, .int z)] := hl
  refine lv_iload_n hx hb dX1_clear_0 rfl (lv_at hl 2 rfl) ?_
  refine lv_iconst (v := 0) hx hb dX1_clear_1 (by decide) ?_
  refine lv_ldc (v := 65535) hx hb hown (hts (.constant RX1 44 65535) (by decide +kernel)) dX1_clear_2 ?_
  refine m_calli (cs := []) (wr := [(ad 0, .inr (1, [.int (nI w), .int (nI h), .ref (ad 1), .ref (ad 2), .ref (ad 3), .ref (ad 4), .ref (ad 5), .int qd])), (ad 1, .inl (tc 1, (w * h), .inl col)), (ad 2, .inl (tc 2, (w * h), .inl dep))]) hP hD hS hA [] [0, 1, 2] rfl rfl (by decide) (by decide) (va_runS (As := [.int z, .int 0, .int 65535]) (rest := []) ⟨hx, hb, hml, hown, hts⟩ (c_X1_isWithin l dC dI _ z 0 65535 0 65535 rfl (by decide)) (va_cwS 3 hts gX1_clear_X1_isWithin rfl rfl rfl (by decide +kernel) ⟨Nat.le_of_ble_eq_true rfl, Nat.le_of_ble_eq_true rfl⟩) (m_preS (hP.sub [] rfl) (hK.sub [] rfl) (hD.sub [] (by decide) rfl) hN) rfl rfl hl.1 rfl (lv_room (Nat.le_of_ble_eq_true rfl)) dX1_clear_4 ⟨Nat.le_of_ble_eq_true rfl, Nat.le_of_ble_eq_true rfl⟩) (fun r4 _ H locs q4 _ hP hD hS => ?_)
  have hP : va_P (dC, dI) vwCl [(ad 0, .inr (1, [.int (nI w), .int (nI h), .ref (ad 1), .ref (ad 2), .ref (ad 3), .ref (ad 4), .ref (ad 5), .int qd])), (ad 1, .inl (tc 1, (w * h), .inl col)), (ad 2, .inl (tc 2, (w * h), .inl dep))] H := hP.sub [0, 1, 2] rfl
  have hD : va_D A [(ad 0, .inr (1, [.int (nI w), .int (nI h), .ref (ad 1), .ref (ad 2), .ref (ad 3), .ref (ad 4), .ref (ad 5), .int qd])), (ad 1, .inl (tc 1, (w * h), .inl col)), (ad 2, .inl (tc 2, (w * h), .inl dep))] := hD.sub [0, 1, 2] (by decide) rfl
  refine lv_if_ne (tgt := 12) hx hb dX1_clear_7 (by decide) (fun c7 => ?_) (fun c7 => ?_)
  · refine lv_aload_n hx hb dX1_clear_12 rfl (lv_at hl 0 rfl) ?_
    refine va_get (D := (dC, dI)) (ci := 1) (v := .ref (ad 1)) (C := RX1) (T := TX1) (N := 8) hx hb hts (by decide +kernel) hown hK hP 0 rfl rfl 2 (by decide) (hts (.fieldLink RX1 20 "TriangleRaster" "colours" "[I") (by decide +kernel)) (fun _ h9 => h9) rfl dX1_clear_13 ?_
    refine lv_iload_n hx hb dX1_clear_16 rfl (lv_at hl 1 rfl) ?_
    refine m_callv (cs := [(ad 1, .inl (tc 1, (w * h), .inl col))]) (wr := [(ad 0, .inr (1, [.int (nI w), .int (nI h), .ref (ad 1), .ref (ad 2), .ref (ad 3), .ref (ad 4), .ref (ad 5), .int qd])), (ad 2, .inl (tc 2, (w * h), .inl dep))]) hP hD hS hA [1] [0, 2] rfl rfl (by decide) (by decide) (va_runS (As := [.ref (ad 1), .int c]) (rest := []) ⟨hx, hb, hml, hown, hts⟩ (c_J7_fill_53178 l dC dI _ (ad 1) (tc 1) (w * h) (by have := wh_le hw2 hh2; omega) col c) (va_cwS 2 hts gX1_clear_J7_fill_53178 rfl rfl rfl (by decide +kernel) ⟨Nat.le_of_ble_eq_true rfl, Nat.le_of_ble_eq_true rfl⟩) (m_preS (hP.sub [1] rfl) (hK.sub [0] rfl) (hD.sub [1] (by decide) rfl) hN) rfl rfl hl.1 rfl (lv_room (Nat.le_of_ble_eq_true rfl)) dX1_clear_17 ⟨Nat.le_of_ble_eq_true rfl, Nat.le_of_ble_eq_true rfl⟩) (fun f17 H locs q17 _ hP hD hS => ?_)
    have hP : va_P (dC, dI) vwCl [(ad 0, .inr (1, [.int (nI w), .int (nI h), .ref (ad 1), .ref (ad 2), .ref (ad 3), .ref (ad 4), .ref (ad 5), .int qd])), (ad 1, .inl (tc 1, (w * h), .inl f17)), (ad 2, .inl (tc 2, (w * h), .inl dep))] H := hP.sub [0, 2, 1] rfl
    have hD : va_D A [(ad 0, .inr (1, [.int (nI w), .int (nI h), .ref (ad 1), .ref (ad 2), .ref (ad 3), .ref (ad 4), .ref (ad 5), .int qd])), (ad 1, .inl (tc 1, (w * h), .inl f17)), (ad 2, .inl (tc 2, (w * h), .inl dep))] := hD.sub [0, 2, 1] (by decide) rfl
    refine lv_aload_n hx hb dX1_clear_20 rfl (lv_at hl 0 rfl) ?_
    refine va_get (D := (dC, dI)) (ci := 1) (v := .ref (ad 2)) (C := RX1) (T := TX1) (N := 8) hx hb hts (by decide +kernel) hown hK hP 0 rfl rfl 3 (by decide) (hts (.fieldLink RX1 24 "TriangleRaster" "depths" "[I") (by decide +kernel)) (fun _ h9 => h9) rfl dX1_clear_21 ?_
    refine lv_iload_n hx hb dX1_clear_24 rfl (lv_at hl 2 rfl) ?_
    refine m_callv (cs := [(ad 2, .inl (tc 2, (w * h), .inl dep))]) (wr := [(ad 0, .inr (1, [.int (nI w), .int (nI h), .ref (ad 1), .ref (ad 2), .ref (ad 3), .ref (ad 4), .ref (ad 5), .int qd])), (ad 1, .inl (tc 1, (w * h), .inl f17))]) hP hD hS hA [2] [0, 1] rfl rfl (by decide) (by decide) (va_runS (As := [.ref (ad 2), .int z]) (rest := []) ⟨hx, hb, hml, hown, hts⟩ (c_J7_fill_53178 l dC dI _ (ad 2) (tc 2) (w * h) (by have := wh_le hw2 hh2; omega) dep z) (va_cwS 2 hts gX1_clear_J7_fill_53178 rfl rfl rfl (by decide +kernel) ⟨Nat.le_of_ble_eq_true rfl, Nat.le_of_ble_eq_true rfl⟩) (m_preS (hP.sub [2] rfl) (hK.sub [1] rfl) (hD.sub [2] (by decide) rfl) hN) rfl rfl hl.1 rfl (lv_room (Nat.le_of_ble_eq_true rfl)) dX1_clear_25 ⟨Nat.le_of_ble_eq_true rfl, Nat.le_of_ble_eq_true rfl⟩) (fun f25 H locs q25 _ hP hD hS => ?_)
    have hP : va_P (dC, dI) vwCl [(ad 0, .inr (1, [.int (nI w), .int (nI h), .ref (ad 1), .ref (ad 2), .ref (ad 3), .ref (ad 4), .ref (ad 5), .int qd])), (ad 1, .inl (tc 1, (w * h), .inl f17)), (ad 2, .inl (tc 2, (w * h), .inl f25))] H := hP.sub [0, 1, 2] rfl
    have hD : va_D A [(ad 0, .inr (1, [.int (nI w), .int (nI h), .ref (ad 1), .ref (ad 2), .ref (ad 3), .ref (ad 4), .ref (ad 5), .int qd])), (ad 1, .inl (tc 1, (w * h), .inl f17)), (ad 2, .inl (tc 2, (w * h), .inl f25))] := hD.sub [0, 1, 2] (by decide) rfl
    refine lv_iconst (v := 1) hx hb dX1_clear_28 (by decide) ?_
    have hP9 := hP.sub (ws' := [(ad 0, .inr (1, [.int (nI w), .int (nI h), .ref (ad 1), .ref (ad 2), .ref (ad 3), .ref (ad 4), .ref (ad 5), .int qd])), (ad 1, .inl (tc 1, (w * h), .inl f17)), (ad 2, .inl (tc 2, (w * h), .inl f25))]) [0, 1, 2] rfl
    have hD9 := hD.sub (ws' := [(ad 0, .inr (1, [.int (nI w), .int (nI h), .ref (ad 1), .ref (ad 2), .ref (ad 3), .ref (ad 4), .ref (ad 5), .int qd])), (ad 1, .inl (tc 1, (w * h), .inl f17)), (ad 2, .inl (tc 2, (w * h), .inl f25))]) [0, 1, 2] (by decide) rfl
    exact W.zret (v := 1) hx hb hr rfl (fun t ht hW => ⟨⟨1, (f17, f25), rfl, Or.inl ⟨Classical.byContradiction (fun h => c7 ((b01 q4).mpr h)), rfl, fun i hi => ⟨q17 i hi, q25 i hi⟩⟩, by rw [ht]; exact hP9, va_K.moved hW.alike hK, hD9⟩, hS.F ht⟩) hS.2.2 dX1_clear_29
  · refine lv_iconst (v := 0) hx hb dX1_clear_10 (by decide) ?_
    have hP9 := hP.sub (ws' := [(ad 0, .inr (1, [.int (nI w), .int (nI h), .ref (ad 1), .ref (ad 2), .ref (ad 3), .ref (ad 4), .ref (ad 5), .int qd])), (ad 1, .inl (tc 1, (w * h), .inl col)), (ad 2, .inl (tc 2, (w * h), .inl dep))]) [0, 1, 2] rfl
    have hD9 := hD.sub (ws' := [(ad 0, .inr (1, [.int (nI w), .int (nI h), .ref (ad 1), .ref (ad 2), .ref (ad 3), .ref (ad 4), .ref (ad 5), .int qd])), (ad 1, .inl (tc 1, (w * h), .inl col)), (ad 2, .inl (tc 2, (w * h), .inl dep))]) [0, 1, 2] (by decide) rfl
    exact W.zret (v := 0) hx hb hr rfl (fun t ht hW => ⟨⟨0, (col, dep), rfl, Or.inr ⟨(b01 q4).mp c7, rfl, rfl⟩, by rw [ht]; exact hP9, va_K.moved hW.alike hK, hD9⟩, hS.F ht⟩) hS.2.2 dX1_clear_11

set_option maxHeartbeats 4000000 in
set_option maxRecDepth 100000 in
/-- count -/
theorem c_X1_count (l : Launch) (dC : Nat → ClassId) (dI : Nat → Nat → Nat) (sz : Nat) (ad : Nat → Nat) (tc : Nat → ClassId) (w h : Nat) (qd : Int32) (col : Nat → Int32) (hw1 : 1 ≤ w) (hw2 : w ≤ 24) (hh1 : 1 ≤ h) (hh2 : h ≤ 24) (c : Int32) : Met l yX1_count wsX1_count ({ frames := 0, cells := 0, slots := 0, locals := 0 }) (mP (dC, dI) vwCl [(tc 1, .int)] [(ad 0, .inr (1, [.int (nI w), .int (nI h), .ref (ad 1), .ref (ad 2), .ref (ad 3), .ref (ad 4), .ref (ad 5), .int qd])), (ad 1, .inl (tc 1, (w * h), .inl col))] sz [.ref (ad 0), .int c]) (va_Qi (fun (r : Int32) (u : Unit) => r = nI (cnt (fun i => col i = c) (w * h))) (mB (dC, dI) vwCl [(tc 1, .int)] (va_A [(ad 0, .inr (1, [.int (nI w), .int (nI h), .ref (ad 1), .ref (ad 2), .ref (ad 3), .ref (ad 4), .ref (ad 5), .int qd])), (ad 1, .inl (tc 1, (w * h), .inl col))] sz) (fun u => [(ad 0, .inr (1, [.int (nI w), .int (nI h), .ref (ad 1), .ref (ad 2), .ref (ad 3), .ref (ad 4), .ref (ad 5), .int qd])), (ad 1, .inl (tc 1, (w * h), .inl col))])) (va_A [(ad 0, .inr (1, [.int (nI w), .int (nI h), .ref (ad 1), .ref (ad 2), .ref (ad 3), .ref (ad 4), .ref (ad 5), .int qd])), (ad 1, .inl (tc 1, (w * h), .inl col))] sz)) 0 0 (va_A [(ad 0, .inr (1, [.int (nI w), .int (nI h), .ref (ad 1), .ref (ad 2), .ref (ad 3), .ref (ad 4), .ref (ad 5), .int qd])), (ad 1, .inl (tc 1, (w * h), .inl col))] sz) := by
  refine Met.ofW (cc := cX1_count) (maxL := 4) (ret := (some .int)) (by decide) rfl ?_
  intro p e s m args below meth cD s₁ B hml hv
  obtain ⟨rfl, hsz, hP, hK, hD0, hN⟩ := hv
  have hx := B.exec
  have hb := B.bytes
  have hr := B.returns
  have hts := atoms_spec (ws := wsX1_count) B.pre
  have hown : s.vm.findClass RX1 = some m.cls := findClass_of_methodNamed B.named
  have hlocks := B.notSynchronized
  subst hsz
  have hD := hD0.self (sz := s.heap.size)
  generalize hAe : va_A [(ad 0, .inr (1, [.int (nI w), .int (nI h), .ref (ad 1), .ref (ad 2), .ref (ad 3), .ref (ad 4), .ref (ad 5), .int qd])), (ad 1, .inl (tc 1, (w * h), .inl col))] s.heap.size = A at hD ⊢
  have hA : ∀ q : Nat, s.heap.size ≤ q → A q := fun q h => by rw [← hAe]; exact Or.inr h
  have hS : va_S A s.heap s.heap [] := va_S.rf
  have hP : va_P (dC, dI) vwCl [(ad 0, .inr (1, [.int (nI w), .int (nI h), .ref (ad 1), .ref (ad 2), .ref (ad 3), .ref (ad 4), .ref (ad 5), .int qd])), (ad 1, .inl (tc 1, (w * h), .inl col))] s.heap := hP
  have hl := lv_entry ([.ref (ad 0), .int c]) (n := 4) (Nat.le_of_ble_eq_true rfl)
  rw [lg_entry_eq]
  generalize (lg_sl ([.ref (ad 0), .int c]) ++ List.replicate (4 - (lg_sl ([.ref (ad 0), .int c])).length) Slot.unset).toArray = ls at hl ⊢
  have hl : lv_has ls 4 [(0, .ref (ad 0)), (1, .int c)] := hl
  refine lv_iconst (v := 0) hx hb dX1_count_0 (by decide) ?_
  refine lv_topi (fun zz ezz => ?_)
  obtain rfl : zz = nI 0 := ezz.trans (nI_0.symm)
  refine lv_istore_n (lv' := [(2, .int (nI 0)), (0, .ref (ad 0)), (1, .int c)]) hx hb dX1_count_1 rfl hl (by decide) rfl (fun ls hl => ?_)
  refine lv_iconst (v := 0) hx hb dX1_count_2 (by decide) ?_
  refine lv_topi (fun zz ezz => ?_)
  obtain rfl : zz = nI 0 := ezz.trans (nI_0.symm)
  have hwh := wh_le hw2 hh2
  refine lv_istore_n (lv' := [(3, .int (nI 0)), (2, .int (nI 0)), (0, .ref (ad 0)), (1, .int c)]) hx hb dX1_count_3 rfl hl (by decide) rfl (fun ls hl => ?_)
  have loop : ∀ (n : Nat) (i : Nat) (k : Nat), i ≤ w * h → k = cnt (fun i => col i = c) i → w * h + 1 ≤ i + n → ∀ (H : Heap) (locs : List Loc), va_P (dC, dI) vwCl [(ad 0, .inr (1, [.int (nI w), .int (nI h), .ref (ad 1), .ref (ad 2), .ref (ad 3), .ref (ad 4), .ref (ad 5), .int qd])), (ad 1, .inl (tc 1, (w * h), .inl col))] H → va_D A [(ad 0, .inr (1, [.int (nI w), .int (nI h), .ref (ad 1), .ref (ad 2), .ref (ad 3), .ref (ad 4), .ref (ad 5), .int qd])), (ad 1, .inl (tc 1, (w * h), .inl col))] → va_S A s.heap H locs → ∀ (ls : Array Slot), lv_has ls 4 [(0, .ref (ad 0)), (1, .int c), (2, .int (nI k)), (3, .int (nI i))] → W p l e (headSpec wsX1_count { frames := 0, cells := 0, slots := 0, locals := 0 }).room s m [.ref (ad 0), .int c].toArray below meth cD H locs 0 0 (MQ below (va_Qi (fun (r : Int32) (u : Unit) => r = nI (cnt (fun i => col i = c) (w * h))) (mB (dC, dI) vwCl [(tc 1, .int)] A (fun u => [(ad 0, .inr (1, [.int (nI w), .int (nI h), .ref (ad 1), .ref (ad 2), .ref (ad 3), .ref (ad 4), .ref (ad 5), .int qd])), (ad 1, .inl (tc 1, (w * h), .inl col))])) A) [.ref (ad 0), .int c].toArray s 0 0 A) (F0 m 4 ls []) := by
    intro n
    induction n with
    | zero => intro i k hi hk hm; exfalso; omega
    | succ n ih =>
      intro i k hi hk hm H locs hP hD hS ls hl
      refine lv_iload_n hx hb dX1_count_4 rfl (lv_at hl 3 rfl) ?_
      refine lv_aload_n hx hb dX1_count_5 rfl (lv_at hl 0 rfl) ?_
      refine va_get (D := (dC, dI)) (ci := 1) (v := .ref (ad 1)) (C := RX1) (T := TX1) (N := 8) hx hb hts (by decide +kernel) hown hK hP 0 rfl rfl 2 (by decide) (hts (.fieldLink RX1 20 "TriangleRaster" "colours" "[I") (by decide +kernel)) (fun _ h9 => h9) rfl dX1_count_6 ?_
      refine va_alen (v := nI (w * h)) hx hb hK hP 1 0 rfl rfl rfl dX1_count_9 ?_
      refine lv_icmp_ge (tgt := 32) hx hb dX1_count_10 (by decide) (fun c10 => ?_) (fun c10 => ?_)
      · refine lv_iload_n hx hb dX1_count_32 rfl (lv_at hl 2 rfl) ?_
        have hP9 := hP.sub (ws' := [(ad 0, .inr (1, [.int (nI w), .int (nI h), .ref (ad 1), .ref (ad 2), .ref (ad 3), .ref (ad 4), .ref (ad 5), .int qd])), (ad 1, .inl (tc 1, (w * h), .inl col))]) [0, 1] rfl
        have hD9 := hD.sub (ws' := [(ad 0, .inr (1, [.int (nI w), .int (nI h), .ref (ad 1), .ref (ad 2), .ref (ad 3), .ref (ad 4), .ref (ad 5), .int qd])), (ad 1, .inl (tc 1, (w * h), .inl col))]) [0, 1] (by decide) rfl
        exact W.iret (v := (nI k)) hx hb hr (fun t ht hW => ⟨⟨nI k, (), rfl, by rw [hk, show i = w * h by rw [nI_leI (by omega) (by omega)] at c10; omega], by rw [ht]; exact hP9, va_K.moved hW.alike hK, hD9⟩, hS.F ht⟩) hS.2.2 dX1_count_33
      · have hlt : i < w * h := by rw [nI_leI (by omega) (by omega)] at c10; omega
        refine lv_aload_n hx hb dX1_count_13 rfl (lv_at hl 0 rfl) ?_
        refine va_get (D := (dC, dI)) (ci := 1) (v := .ref (ad 1)) (C := RX1) (T := TX1) (N := 8) hx hb hts (by decide +kernel) hown hK hP 0 rfl rfl 2 (by decide) (hts (.fieldLink RX1 20 "TriangleRaster" "colours" "[I") (by decide +kernel)) (fun _ h9 => h9) rfl dX1_count_14 ?_
        refine lv_iload_n hx hb dX1_count_17 rfl (lv_at hl 3 rfl) ?_
        refine va_iald hx hb hK hP 1 0 rfl rfl (vp_in_nI hlt (by omega)) dX1_count_18 ?_
        refine lv_topi (fun v18 ev18 => ?_)
        rw [nI_clamp (by omega)] at ev18
        refine lv_iload_n hx hb dX1_count_19 rfl (lv_at hl 1 rfl) ?_
        refine lv_icmp_ne (tgt := 26) hx hb dX1_count_20 (by decide) (fun c20 => ?_) (fun c20 => ?_)
        · have cc : ¬ (fun i => col i = c) i := fun q => c20 (ev18.trans q)
          refine lv_iinc (v := nI (i + 1)) (lv' := [(3, .int (nI (i + 1))), (0, .ref (ad 0)), (1, .int c), (2, .int (nI k))]) hx hb dX1_count_26 hl (k := 3) rfl (nI_add _ 1) (by decide) rfl (fun ls hl => ?_)
          refine lv_goto (tgt := 4) hx hb dX1_count_29 (by decide) ?_
          exact ih (i + 1) (k) (by omega) (by rw [hk, cnt_no cc]) (by omega) _ _ (hP.sub [0, 1] rfl) (hD.sub [0, 1] (by decide) rfl) hS ls (lv_sub hl [1, 2, 3, 0] rfl)
        · have cc : (fun i => col i = c) i := ev18.symm.trans c20
          refine lv_iinc (v := nI (k + 1)) (lv' := [(2, .int (nI (k + 1))), (0, .ref (ad 0)), (1, .int c), (3, .int (nI i))]) hx hb dX1_count_23 hl (k := 2) rfl (nI_add _ 1) (by decide) rfl (fun ls hl => ?_)
          refine lv_iinc (v := nI (i + 1)) (lv' := [(3, .int (nI (i + 1))), (2, .int (nI (k + 1))), (0, .ref (ad 0)), (1, .int c)]) hx hb dX1_count_26 hl (k := 3) rfl (nI_add _ 1) (by decide) rfl (fun ls hl => ?_)
          refine lv_goto (tgt := 4) hx hb dX1_count_29 (by decide) ?_
          exact ih (i + 1) (k + 1) (by omega) (by rw [hk, cnt_yes cc]) (by omega) _ _ (hP.sub [0, 1] rfl) (hD.sub [0, 1] (by decide) rfl) hS ls (lv_sub hl [2, 3, 1, 0] rfl)
  exact loop (w * h + 1) 0 0 (Nat.zero_le _) rfl (by omega) _ _ (hP.sub [0, 1] rfl) (hD.sub [0, 1] (by decide) rfl) hS ls (lv_sub hl [2, 3, 1, 0] rfl)

set_option maxHeartbeats 4000000 in
set_option maxRecDepth 100000 in
/-- forgetReached -/
theorem c_X1_forgetReached (l : Launch) (dC : Nat → ClassId) (dI : Nat → Nat → Nat) (sz : Nat) (ad : Nat → Nat) (tc : Nat → ClassId) (w h : Nat) (qd : Int32) (rea : Nat → Int32) (hw1 : 1 ≤ w) (hw2 : w ≤ 24) (hh1 : 1 ≤ h) (hh2 : h ≤ 24) : Met l yX1_forgetReached wsX1_forgetReached ({ frames := 0, cells := 0, slots := 0, locals := 0 }) (mP (dC, dI) vwCl [(tc 4, .boolean)] [(ad 0, .inr (1, [.int (nI w), .int (nI h), .ref (ad 1), .ref (ad 2), .ref (ad 3), .ref (ad 4), .ref (ad 5), .int qd])), (ad 4, .inl (tc 4, (w * h), .inl rea))] sz [.ref (ad 0)]) (va_Qv (fun (u : Nat → Int32) => ∀ i, i < w * h → u i = 0) (mB (dC, dI) vwCl [(tc 4, .boolean)] (va_A [(ad 0, .inr (1, [.int (nI w), .int (nI h), .ref (ad 1), .ref (ad 2), .ref (ad 3), .ref (ad 4), .ref (ad 5), .int qd])), (ad 4, .inl (tc 4, (w * h), .inl rea))] sz) (fun u => [(ad 0, .inr (1, [.int (nI w), .int (nI h), .ref (ad 1), .ref (ad 2), .ref (ad 3), .ref (ad 4), .ref (ad 5), .int qd])), (ad 4, .inl (tc 4, (w * h), .inl u))])) (va_A [(ad 0, .inr (1, [.int (nI w), .int (nI h), .ref (ad 1), .ref (ad 2), .ref (ad 3), .ref (ad 4), .ref (ad 5), .int qd])), (ad 4, .inl (tc 4, (w * h), .inl rea))] sz)) 0 0 (va_A [(ad 0, .inr (1, [.int (nI w), .int (nI h), .ref (ad 1), .ref (ad 2), .ref (ad 3), .ref (ad 4), .ref (ad 5), .int qd])), (ad 4, .inl (tc 4, (w * h), .inl rea))] sz) := by
  refine Met.ofW (cc := cX1_forgetReached) (maxL := 2) (ret := none) (by decide) rfl ?_
  intro p e s m args below meth cD s₁ B hml hv
  obtain ⟨rfl, hsz, hP, hK, hD0, hN⟩ := hv
  have hx := B.exec
  have hb := B.bytes
  have hr := B.returns
  have hts := atoms_spec (ws := wsX1_forgetReached) B.pre
  have hown : s.vm.findClass RX1 = some m.cls := findClass_of_methodNamed B.named
  have hlocks := B.notSynchronized
  subst hsz
  have hD := hD0.self (sz := s.heap.size)
  generalize hAe : va_A [(ad 0, .inr (1, [.int (nI w), .int (nI h), .ref (ad 1), .ref (ad 2), .ref (ad 3), .ref (ad 4), .ref (ad 5), .int qd])), (ad 4, .inl (tc 4, (w * h), .inl rea))] s.heap.size = A at hD ⊢
  have hA : ∀ q : Nat, s.heap.size ≤ q → A q := fun q h => by rw [← hAe]; exact Or.inr h
  have hS : va_S A s.heap s.heap [] := va_S.rf
  have hP : va_P (dC, dI) vwCl [(ad 0, .inr (1, [.int (nI w), .int (nI h), .ref (ad 1), .ref (ad 2), .ref (ad 3), .ref (ad 4), .ref (ad 5), .int qd])), (ad 4, .inl (tc 4, (w * h), .inl rea))] s.heap := hP
  have hl := lv_entry ([.ref (ad 0)]) (n := 2) (Nat.le_of_ble_eq_true rfl)
  rw [lg_entry_eq]
  generalize (lg_sl ([.ref (ad 0)]) ++ List.replicate (2 - (lg_sl ([.ref (ad 0)])).length) Slot.unset).toArray = ls at hl ⊢
  have hl : lv_has ls 2 [(0, .ref (ad 0))] := hl
  refine lv_iconst (v := 0) hx hb dX1_forgetReached_0 (by decide) ?_
  refine lv_topi (fun zz ezz => ?_)
  obtain rfl : zz = nI 0 := ezz.trans (nI_0.symm)
  have hwh := wh_le hw2 hh2
  refine lv_istore_n (lv' := [(1, .int (nI 0)), (0, .ref (ad 0))]) hx hb dX1_forgetReached_1 rfl hl (by decide) rfl (fun ls hl => ?_)
  have loop : ∀ (n : Nat) (i : Nat) (g : Nat → Int32), i ≤ w * h → (∀ j, j < i → g j = 0) → w * h + 1 ≤ i + n → ∀ (H : Heap) (locs : List Loc), va_P (dC, dI) vwCl [(ad 0, .inr (1, [.int (nI w), .int (nI h), .ref (ad 1), .ref (ad 2), .ref (ad 3), .ref (ad 4), .ref (ad 5), .int qd])), (ad 4, .inl (tc 4, (w * h), .inl g))] H → va_D A [(ad 0, .inr (1, [.int (nI w), .int (nI h), .ref (ad 1), .ref (ad 2), .ref (ad 3), .ref (ad 4), .ref (ad 5), .int qd])), (ad 4, .inl (tc 4, (w * h), .inl g))] → va_S A s.heap H locs → ∀ (ls : Array Slot), lv_has ls 2 [(0, .ref (ad 0)), (1, .int (nI i))] → W p l e (headSpec wsX1_forgetReached { frames := 0, cells := 0, slots := 0, locals := 0 }).room s m [.ref (ad 0)].toArray below meth cD H locs 0 0 (MQ below (va_Qv (fun (u : Nat → Int32) => ∀ i, i < w * h → u i = 0) (mB (dC, dI) vwCl [(tc 4, .boolean)] A (fun u => [(ad 0, .inr (1, [.int (nI w), .int (nI h), .ref (ad 1), .ref (ad 2), .ref (ad 3), .ref (ad 4), .ref (ad 5), .int qd])), (ad 4, .inl (tc 4, (w * h), .inl u))])) A) [.ref (ad 0)].toArray s 0 0 A) (F0 m 2 ls []) := by
    intro n
    induction n with
    | zero => intro i g hi hg hm; exfalso; omega
    | succ n ih =>
      intro i g hi hg hm H locs hP hD hS ls hl
      refine lv_iload_n hx hb dX1_forgetReached_2 rfl (lv_at hl 1 rfl) ?_
      refine lv_aload_n hx hb dX1_forgetReached_3 rfl (lv_at hl 0 rfl) ?_
      refine va_get (D := (dC, dI)) (ci := 1) (v := .ref (ad 4)) (C := RX1) (T := TX1) (N := 8) hx hb hts (by decide +kernel) hown hK hP 0 rfl rfl 5 (by decide) (hts (.fieldLink RX1 34 "TriangleRaster" "reached" "[Z") (by decide +kernel)) (fun _ h9 => h9) rfl dX1_forgetReached_4 ?_
      refine va_alen (v := nI (w * h)) hx hb hK hP 1 0 rfl rfl rfl dX1_forgetReached_7 ?_
      refine lv_icmp_ge (tgt := 24) hx hb dX1_forgetReached_8 (by decide) (fun c8 => ?_) (fun c8 => ?_)
      · have hP9 := hP.sub (ws' := [(ad 0, .inr (1, [.int (nI w), .int (nI h), .ref (ad 1), .ref (ad 2), .ref (ad 3), .ref (ad 4), .ref (ad 5), .int qd])), (ad 4, .inl (tc 4, (w * h), .inl g))]) [0, 1] rfl
        have hD9 := hD.sub (ws' := [(ad 0, .inr (1, [.int (nI w), .int (nI h), .ref (ad 1), .ref (ad 2), .ref (ad 3), .ref (ad 4), .ref (ad 5), .int qd])), (ad 4, .inl (tc 4, (w * h), .inl g))]) [0, 1] (by decide) rfl
        exact W.vret hx hb hr (fun t ht hW => ⟨⟨g, rfl, fun j hj => hg j (by rw [nI_leI (by omega) (by omega)] at c8; omega), by rw [ht]; exact hP9, va_K.moved hW.alike hK, hD9⟩, hS.F ht⟩) hS.2.2 dX1_forgetReached_24
      · have hlt : i < w * h := by rw [nI_leI (by omega) (by omega)] at c8; omega
        refine lv_aload_n hx hb dX1_forgetReached_11 rfl (lv_at hl 0 rfl) ?_
        refine va_get (D := (dC, dI)) (ci := 1) (v := .ref (ad 4)) (C := RX1) (T := TX1) (N := 8) hx hb hts (by decide +kernel) hown hK hP 0 rfl rfl 5 (by decide) (hts (.fieldLink RX1 34 "TriangleRaster" "reached" "[Z") (by decide +kernel)) (fun _ h9 => h9) rfl dX1_forgetReached_12 ?_
        refine lv_iload_n hx hb dX1_forgetReached_15 rfl (lv_at hl 1 rfl) ?_
        refine lv_iconst (v := 0) hx hb dX1_forgetReached_16 (by decide) ?_
        refine va_zast hx hb hK hP hD hS 1 0 rfl rfl (vp_in_nI hlt (by omega)) dX1_forgetReached_17 (fun H locs hP hD hS => ?_)
        have hP : va_P (dC, dI) vwCl [(ad 0, .inr (1, [.int (nI w), .int (nI h), .ref (ad 1), .ref (ad 2), .ref (ad 3), .ref (ad 4), .ref (ad 5), .int qd])), (ad 4, .inl (tc 4, (w * h), .inl (upd g (nI i).toNatClampNeg 0)))] H := hP
        have hD : va_D A [(ad 0, .inr (1, [.int (nI w), .int (nI h), .ref (ad 1), .ref (ad 2), .ref (ad 3), .ref (ad 4), .ref (ad 5), .int qd])), (ad 4, .inl (tc 4, (w * h), .inl (upd g (nI i).toNatClampNeg 0)))] := hD
        refine lv_iinc (v := nI (i + 1)) (lv' := [(1, .int (nI (i + 1))), (0, .ref (ad 0))]) hx hb dX1_forgetReached_18 hl (k := 1) rfl (nI_add _ 1) (by decide) rfl (fun ls hl => ?_)
        refine lv_goto (tgt := 2) hx hb dX1_forgetReached_21 (by decide) ?_
        exact ih (i + 1) (upd g (nI i).toNatClampNeg 0) (by omega) (fun j h => by rw [nI_clamp (by omega)]; unfold upd; split <;> first | rfl | exact hg j (by omega)) (by omega) _ _ (hP.sub [0, 1] rfl) (hD.sub [0, 1] (by decide) rfl) hS ls (lv_sub hl [1, 0] rfl)
  exact loop (w * h + 1) 0 rea (Nat.zero_le _) (fun j h => absurd h (Nat.not_lt_zero j)) (by omega) _ _ (hP.sub [0, 1] rfl) (hD.sub [0, 1] (by decide) rfl) hS ls (lv_sub hl [1, 0] rfl)

set_option maxHeartbeats 4000000 in
set_option maxRecDepth 100000 in
/-- paint -/
theorem c_X1_paint (l : Launch) (dC : Nat → ClassId) (dI : Nat → Nat → Nat) (sz : Nat) (ad : Nat → Nat) (tc : Nat → ClassId) (w h : Nat) (qd : Int32) (col : Nat → Int32) (hw1 : 1 ≤ w) (hw2 : w ≤ 24) (hh1 : 1 ≤ h) (hh2 : h ≤ 24) (x y c : Int32) : Met l yX1_paint wsX1_paint ({ frames := 2, cells := 0, slots := 0, locals := 45 }) (mP (dC, dI) vwCl [(tc 1, .int)] [(ad 0, .inr (1, [.int (nI w), .int (nI h), .ref (ad 1), .ref (ad 2), .ref (ad 3), .ref (ad 4), .ref (ad 5), .int qd])), (ad 1, .inl (tc 1, (w * h), .inl col))] sz [.ref (ad 0), .int x, .int y, .int c]) (va_Qi (fun (r : Int32) (u : Nat → Int32) => (inX w h x y ∧ r = 1 ∧ u = upd col (lin w x y) c) ∨ (¬ inX w h x y ∧ r = 0 ∧ u = col)) (mB (dC, dI) vwCl [(tc 1, .int)] (va_A [(ad 0, .inr (1, [.int (nI w), .int (nI h), .ref (ad 1), .ref (ad 2), .ref (ad 3), .ref (ad 4), .ref (ad 5), .int qd])), (ad 1, .inl (tc 1, (w * h), .inl col))] sz) (fun u => [(ad 0, .inr (1, [.int (nI w), .int (nI h), .ref (ad 1), .ref (ad 2), .ref (ad 3), .ref (ad 4), .ref (ad 5), .int qd])), (ad 1, .inl (tc 1, (w * h), .inl u))])) (va_A [(ad 0, .inr (1, [.int (nI w), .int (nI h), .ref (ad 1), .ref (ad 2), .ref (ad 3), .ref (ad 4), .ref (ad 5), .int qd])), (ad 1, .inl (tc 1, (w * h), .inl col))] sz)) 0 0 (va_A [(ad 0, .inr (1, [.int (nI w), .int (nI h), .ref (ad 1), .ref (ad 2), .ref (ad 3), .ref (ad 4), .ref (ad 5), .int qd])), (ad 1, .inl (tc 1, (w * h), .inl col))] sz) := by
  refine Met.ofW (cc := cX1_paint) (maxL := 5) (ret := (some .int)) (by decide) rfl ?_
  intro p e s m args below meth cD s₁ B hml hv
  obtain ⟨rfl, hsz, hP, hK, hD0, hN⟩ := hv
  have hx := B.exec
  have hb := B.bytes
  have hr := B.returns
  have hts := atoms_spec (ws := wsX1_paint) B.pre
  have hown : s.vm.findClass RX1 = some m.cls := findClass_of_methodNamed B.named
  have hlocks := B.notSynchronized
  subst hsz
  have hD := hD0.self (sz := s.heap.size)
  generalize hAe : va_A [(ad 0, .inr (1, [.int (nI w), .int (nI h), .ref (ad 1), .ref (ad 2), .ref (ad 3), .ref (ad 4), .ref (ad 5), .int qd])), (ad 1, .inl (tc 1, (w * h), .inl col))] s.heap.size = A at hD ⊢
  have hA : ∀ q : Nat, s.heap.size ≤ q → A q := fun q h => by rw [← hAe]; exact Or.inr h
  have hS : va_S A s.heap s.heap [] := va_S.rf
  have hP : va_P (dC, dI) vwCl [(ad 0, .inr (1, [.int (nI w), .int (nI h), .ref (ad 1), .ref (ad 2), .ref (ad 3), .ref (ad 4), .ref (ad 5), .int qd])), (ad 1, .inl (tc 1, (w * h), .inl col))] s.heap := hP
  have hl := lv_entry ([.ref (ad 0), .int x, .int y, .int c]) (n := 5) (Nat.le_of_ble_eq_true rfl)
  rw [lg_entry_eq]
  generalize (lg_sl ([.ref (ad 0), .int x, .int y, .int c]) ++ List.replicate (5 - (lg_sl ([.ref (ad 0), .int x, .int y, .int c])).length) Slot.unset).toArray = ls at hl ⊢
  have hl : lv_has ls 5 [(0, .ref (ad 0)), (1, .int x), (2, .int y), (3, .int c)] := hl
  refine lv_aload_n hx hb dX1_paint_0 rfl (lv_at hl 0 rfl) ?_
  refine lv_iload_n hx hb dX1_paint_1 rfl (lv_at hl 1 rfl) ?_
  refine lv_iload_n hx hb dX1_paint_2 rfl (lv_at hl 2 rfl) ?_
  refine m_calli (cs := [(ad 0, .inr (1, [.int (nI w), .int (nI h), .ref (ad 1), .ref (ad 2), .ref (ad 3), .ref (ad 4), .ref (ad 5), .int qd]))]) (wr := [(ad 1, .inl (tc 1, (w * h), .inl col))]) hP hD hS hA [0] [1] rfl rfl (by decide) (by decide) (va_runV (As := [.int x, .int y]) (rest := []) ⟨hx, hb, hml, hown, hts⟩ (c_X1_indexOf l dC dI _ ad w h qd hw1 hw2 hh1 hh2 x y) (cwV 2 hts gX1_paint_X1_indexOf rfl rfl rfl (by decide +kernel) ⟨Nat.le_of_ble_eq_true rfl, Nat.le_of_ble_eq_true rfl⟩) (m_preV (ci := 1) (q0 := 0) (hP.sub [0] rfl) (hK.sub [] rfl) (hD.sub [0] (by decide) rfl) hN rfl rfl) rfl rfl hl.1 rfl (lv_room (Nat.le_of_ble_eq_true rfl)) dX1_paint_3 ⟨Nat.le_of_ble_eq_true rfl, Nat.le_of_ble_eq_true rfl⟩) (fun r3 _ H locs q3 _ hP hD hS => ?_)
  have hP : va_P (dC, dI) vwCl [(ad 0, .inr (1, [.int (nI w), .int (nI h), .ref (ad 1), .ref (ad 2), .ref (ad 3), .ref (ad 4), .ref (ad 5), .int qd])), (ad 1, .inl (tc 1, (w * h), .inl col))] H := hP.sub [1, 0] rfl
  have hD : va_D A [(ad 0, .inr (1, [.int (nI w), .int (nI h), .ref (ad 1), .ref (ad 2), .ref (ad 3), .ref (ad 4), .ref (ad 5), .int qd])), (ad 1, .inl (tc 1, (w * h), .inl col))] := hD.sub [1, 0] (by decide) rfl
  refine lv_istore (lv' := [(4, .int r3), (0, .ref (ad 0)), (1, .int x), (2, .int y), (3, .int c)]) hx hb dX1_paint_6 hl (by decide) rfl (fun ls hl => ?_)
  refine lv_iload hx hb dX1_paint_8 (lv_at hl 0 rfl) ?_
  refine lv_iconst (v := (-1)) hx hb dX1_paint_10 (by decide) ?_
  refine lv_icmp_ne (tgt := 16) hx hb dX1_paint_11 (by decide) (fun c11 => ?_) (fun c11 => ?_)
  · have hc9 : inX w h x y ∧ r3 = nI (lin w x y) := by
      rcases q3 with h | h
      · exact h
      · exact absurd h.2 c11
    have hlt9 := lin_lt hc9.1
    have hwh9 := wh_le hw2 hh2
    have hi9 : vp_in r3 (w * h) := by rw [hc9.2]; exact vp_in_nI hlt9 (by omega)
    have hcl9 : r3.toNatClampNeg = lin w x y := by rw [hc9.2]; exact nI_clamp (by omega)
    refine lv_aload_n hx hb dX1_paint_16 rfl (lv_at hl 1 rfl) ?_
    refine va_get (D := (dC, dI)) (ci := 1) (v := .ref (ad 1)) (C := RX1) (T := TX1) (N := 8) hx hb hts (by decide +kernel) hown hK hP 0 rfl rfl 2 (by decide) (hts (.fieldLink RX1 20 "TriangleRaster" "colours" "[I") (by decide +kernel)) (fun _ h9 => h9) rfl dX1_paint_17 ?_
    refine lv_iload hx hb dX1_paint_20 (lv_at hl 0 rfl) ?_
    refine lv_iload_n hx hb dX1_paint_22 rfl (lv_at hl 4 rfl) ?_
    refine va_iast hx hb hK hP hD hS 1 0 rfl rfl hi9 dX1_paint_23 (fun H locs hP hD hS => ?_)
    have hP : va_P (dC, dI) vwCl [(ad 0, .inr (1, [.int (nI w), .int (nI h), .ref (ad 1), .ref (ad 2), .ref (ad 3), .ref (ad 4), .ref (ad 5), .int qd])), (ad 1, .inl (tc 1, (w * h), .inl (upd col r3.toNatClampNeg c)))] H := hP
    have hD : va_D A [(ad 0, .inr (1, [.int (nI w), .int (nI h), .ref (ad 1), .ref (ad 2), .ref (ad 3), .ref (ad 4), .ref (ad 5), .int qd])), (ad 1, .inl (tc 1, (w * h), .inl (upd col r3.toNatClampNeg c)))] := hD
    refine lv_iconst (v := 1) hx hb dX1_paint_24 (by decide) ?_
    have hP9 := hP.sub (ws' := [(ad 0, .inr (1, [.int (nI w), .int (nI h), .ref (ad 1), .ref (ad 2), .ref (ad 3), .ref (ad 4), .ref (ad 5), .int qd])), (ad 1, .inl (tc 1, (w * h), .inl (upd col r3.toNatClampNeg c)))]) [0, 1] rfl
    have hD9 := hD.sub (ws' := [(ad 0, .inr (1, [.int (nI w), .int (nI h), .ref (ad 1), .ref (ad 2), .ref (ad 3), .ref (ad 4), .ref (ad 5), .int qd])), (ad 1, .inl (tc 1, (w * h), .inl (upd col r3.toNatClampNeg c)))]) [0, 1] (by decide) rfl
    exact W.iret (v := 1) hx hb hr (fun t ht hW => ⟨⟨1, upd col r3.toNatClampNeg c, rfl, Or.inl ⟨hc9.1, rfl, by rw [hcl9]⟩, by rw [ht]; exact hP9, va_K.moved hW.alike hK, hD9⟩, hS.F ht⟩) hS.2.2 dX1_paint_25
  · refine lv_iconst (v := 0) hx hb dX1_paint_14 (by decide) ?_
    have hP9 := hP.sub (ws' := [(ad 0, .inr (1, [.int (nI w), .int (nI h), .ref (ad 1), .ref (ad 2), .ref (ad 3), .ref (ad 4), .ref (ad 5), .int qd])), (ad 1, .inl (tc 1, (w * h), .inl col))]) [0, 1] rfl
    have hD9 := hD.sub (ws' := [(ad 0, .inr (1, [.int (nI w), .int (nI h), .ref (ad 1), .ref (ad 2), .ref (ad 3), .ref (ad 4), .ref (ad 5), .int qd])), (ad 1, .inl (tc 1, (w * h), .inl col))]) [0, 1] (by decide) rfl
    exact W.iret (v := 0) hx hb hr (fun t ht hW => ⟨⟨0, col, rfl, Or.inr ⟨fun h => (by rcases q3 with h1 | h1; exact nI_m1 (n := lin w x y) (by have := lin_lt h; have := wh_le hw2 hh2; omega) (h1.2.symm.trans c11); exact h1.1 h), rfl, rfl⟩, by rw [ht]; exact hP9, va_K.moved hW.alike hK, hD9⟩, hS.F ht⟩) hS.2.2 dX1_paint_15

set_option maxHeartbeats 4000000 in
set_option maxRecDepth 100000 in
/-- reach -/
theorem c_X1_reach (l : Launch) (dC : Nat → ClassId) (dI : Nat → Nat → Nat) (sz : Nat) (ad : Nat → Nat) (tc : Nat → ClassId) (w h k : Nat) (col rea que : Nat → Int32) (hw1 : 1 ≤ w) (hw2 : w ≤ 24) (hh1 : 1 ≤ h) (hh2 : h ≤ 24) (hk : k ≤ w * h) (x y c : Int32) : Met l yX1_reach wsX1_reach ({ frames := 2, cells := 0, slots := 0, locals := 45 }) (mP (dC, dI) vwCl [(tc 1, .int), (tc 4, .boolean), (tc 5, .int)] [(ad 0, .inr (1, [.int (nI w), .int (nI h), .ref (ad 1), .ref (ad 2), .ref (ad 3), .ref (ad 4), .ref (ad 5), .int (nI k)])), (ad 1, .inl (tc 1, (w * h), .inl col)), (ad 4, .inl (tc 4, (w * h), .inl rea)), (ad 5, .inl (tc 5, (w * h), .inl que))] sz [.ref (ad 0), .int x, .int y, .int c]) (va_Qv (fun (u : (Nat → Int32) × (Nat → Int32) × Nat) => ((inX w h x y ∧ rea (lin w x y) = 0 ∧ col (lin w x y) = c ∧ k < w * h) ∧ u = (upd rea (lin w x y) 1, upd que k (nI (lin w x y)), k + 1)) ∨ (¬ (inX w h x y ∧ rea (lin w x y) = 0 ∧ col (lin w x y) = c ∧ k < w * h) ∧ u = (rea, que, k))) (mB (dC, dI) vwCl [(tc 1, .int), (tc 4, .boolean), (tc 5, .int)] (va_A [(ad 0, .inr (1, [.int (nI w), .int (nI h), .ref (ad 1), .ref (ad 2), .ref (ad 3), .ref (ad 4), .ref (ad 5), .int (nI k)])), (ad 1, .inl (tc 1, (w * h), .inl col)), (ad 4, .inl (tc 4, (w * h), .inl rea)), (ad 5, .inl (tc 5, (w * h), .inl que))] sz) (fun u => [(ad 0, .inr (1, [.int (nI w), .int (nI h), .ref (ad 1), .ref (ad 2), .ref (ad 3), .ref (ad 4), .ref (ad 5), .int (nI u.2.2)])), (ad 1, .inl (tc 1, (w * h), .inl col)), (ad 4, .inl (tc 4, (w * h), .inl u.1)), (ad 5, .inl (tc 5, (w * h), .inl u.2.1))])) (va_A [(ad 0, .inr (1, [.int (nI w), .int (nI h), .ref (ad 1), .ref (ad 2), .ref (ad 3), .ref (ad 4), .ref (ad 5), .int (nI k)])), (ad 1, .inl (tc 1, (w * h), .inl col)), (ad 4, .inl (tc 4, (w * h), .inl rea)), (ad 5, .inl (tc 5, (w * h), .inl que))] sz)) 0 0 (va_A [(ad 0, .inr (1, [.int (nI w), .int (nI h), .ref (ad 1), .ref (ad 2), .ref (ad 3), .ref (ad 4), .ref (ad 5), .int (nI k)])), (ad 1, .inl (tc 1, (w * h), .inl col)), (ad 4, .inl (tc 4, (w * h), .inl rea)), (ad 5, .inl (tc 5, (w * h), .inl que))] sz) := by
  refine Met.ofW (cc := cX1_reach) (maxL := 5) (ret := none) (by decide) rfl ?_
  intro p e s m args below meth cD s₁ B hml hv
  obtain ⟨rfl, hsz, hP, hK, hD0, hN⟩ := hv
  have hx := B.exec
  have hb := B.bytes
  have hr := B.returns
  have hts := atoms_spec (ws := wsX1_reach) B.pre
  have hown : s.vm.findClass RX1 = some m.cls := findClass_of_methodNamed B.named
  have hlocks := B.notSynchronized
  subst hsz
  have hD := hD0.self (sz := s.heap.size)
  generalize hAe : va_A [(ad 0, .inr (1, [.int (nI w), .int (nI h), .ref (ad 1), .ref (ad 2), .ref (ad 3), .ref (ad 4), .ref (ad 5), .int (nI k)])), (ad 1, .inl (tc 1, (w * h), .inl col)), (ad 4, .inl (tc 4, (w * h), .inl rea)), (ad 5, .inl (tc 5, (w * h), .inl que))] s.heap.size = A at hD ⊢
  have hA : ∀ q : Nat, s.heap.size ≤ q → A q := fun q h => by rw [← hAe]; exact Or.inr h
  have hS : va_S A s.heap s.heap [] := va_S.rf
  have hP : va_P (dC, dI) vwCl [(ad 0, .inr (1, [.int (nI w), .int (nI h), .ref (ad 1), .ref (ad 2), .ref (ad 3), .ref (ad 4), .ref (ad 5), .int (nI k)])), (ad 1, .inl (tc 1, (w * h), .inl col)), (ad 4, .inl (tc 4, (w * h), .inl rea)), (ad 5, .inl (tc 5, (w * h), .inl que))] s.heap := hP
  have hl := lv_entry ([.ref (ad 0), .int x, .int y, .int c]) (n := 5) (Nat.le_of_ble_eq_true rfl)
  rw [lg_entry_eq]
  generalize (lg_sl ([.ref (ad 0), .int x, .int y, .int c]) ++ List.replicate (5 - (lg_sl ([.ref (ad 0), .int x, .int y, .int c])).length) Slot.unset).toArray = ls at hl ⊢
  have hl : lv_has ls 5 [(0, .ref (ad 0)), (1, .int x), (2, .int y), (3, .int c)] := hl
  refine lv_aload_n hx hb dX1_reach_0 rfl (lv_at hl 0 rfl) ?_
  refine lv_iload_n hx hb dX1_reach_1 rfl (lv_at hl 1 rfl) ?_
  refine lv_iload_n hx hb dX1_reach_2 rfl (lv_at hl 2 rfl) ?_
  refine m_calli (cs := [(ad 0, .inr (1, [.int (nI w), .int (nI h), .ref (ad 1), .ref (ad 2), .ref (ad 3), .ref (ad 4), .ref (ad 5), .int (nI k)]))]) (wr := [(ad 1, .inl (tc 1, (w * h), .inl col)), (ad 4, .inl (tc 4, (w * h), .inl rea)), (ad 5, .inl (tc 5, (w * h), .inl que))]) hP hD hS hA [0] [1, 2, 3] rfl rfl (by decide) (by decide) (va_runV (As := [.int x, .int y]) (rest := []) ⟨hx, hb, hml, hown, hts⟩ (c_X1_indexOf l dC dI _ ad w h (nI k) hw1 hw2 hh1 hh2 x y) (cwV 2 hts gX1_reach_X1_indexOf rfl rfl rfl (by decide +kernel) ⟨Nat.le_of_ble_eq_true rfl, Nat.le_of_ble_eq_true rfl⟩) (m_preV (ci := 1) (q0 := 0) (hP.sub [0] rfl) (hK.sub [] rfl) (hD.sub [0] (by decide) rfl) hN rfl rfl) rfl rfl hl.1 rfl (lv_room (Nat.le_of_ble_eq_true rfl)) dX1_reach_3 ⟨Nat.le_of_ble_eq_true rfl, Nat.le_of_ble_eq_true rfl⟩) (fun r3 _ H locs q3 _ hP hD hS => ?_)
  have hP : va_P (dC, dI) vwCl [(ad 0, .inr (1, [.int (nI w), .int (nI h), .ref (ad 1), .ref (ad 2), .ref (ad 3), .ref (ad 4), .ref (ad 5), .int (nI k)])), (ad 1, .inl (tc 1, (w * h), .inl col)), (ad 4, .inl (tc 4, (w * h), .inl rea)), (ad 5, .inl (tc 5, (w * h), .inl que))] H := hP.sub [3, 0, 1, 2] rfl
  have hD : va_D A [(ad 0, .inr (1, [.int (nI w), .int (nI h), .ref (ad 1), .ref (ad 2), .ref (ad 3), .ref (ad 4), .ref (ad 5), .int (nI k)])), (ad 1, .inl (tc 1, (w * h), .inl col)), (ad 4, .inl (tc 4, (w * h), .inl rea)), (ad 5, .inl (tc 5, (w * h), .inl que))] := hD.sub [3, 0, 1, 2] (by decide) rfl
  refine lv_istore (lv' := [(4, .int r3), (0, .ref (ad 0)), (1, .int x), (2, .int y), (3, .int c)]) hx hb dX1_reach_6 hl (by decide) rfl (fun ls hl => ?_)
  refine lv_iload hx hb dX1_reach_8 (lv_at hl 0 rfl) ?_
  refine lv_iconst (v := (-1)) hx hb dX1_reach_10 (by decide) ?_
  refine lv_icmp_eq (tgt := 47) hx hb dX1_reach_11 (by decide) (fun c11 => ?_) (fun c11 => ?_)
  · have hP9 := hP.sub (ws' := [(ad 0, .inr (1, [.int (nI w), .int (nI h), .ref (ad 1), .ref (ad 2), .ref (ad 3), .ref (ad 4), .ref (ad 5), .int (nI k)])), (ad 1, .inl (tc 1, (w * h), .inl col)), (ad 4, .inl (tc 4, (w * h), .inl rea)), (ad 5, .inl (tc 5, (w * h), .inl que))]) [0, 1, 2, 3] rfl
    have hD9 := hD.sub (ws' := [(ad 0, .inr (1, [.int (nI w), .int (nI h), .ref (ad 1), .ref (ad 2), .ref (ad 3), .ref (ad 4), .ref (ad 5), .int (nI k)])), (ad 1, .inl (tc 1, (w * h), .inl col)), (ad 4, .inl (tc 4, (w * h), .inl rea)), (ad 5, .inl (tc 5, (w * h), .inl que))]) [0, 1, 2, 3] (by decide) rfl
    exact W.vret hx hb hr (fun t ht hW => ⟨⟨(rea, que, k), rfl, Or.inr ⟨fun h => (fun h => (by rcases q3 with h1 | h1; exact nI_m1 (n := lin w x y) (by have := lin_lt h; have := wh_le hw2 hh2; omega) (h1.2.symm.trans c11); exact h1.1 h)) h.1, rfl⟩, by rw [ht]; exact hP9, va_K.moved hW.alike hK, hD9⟩, hS.F ht⟩) hS.2.2 dX1_reach_47
  · have hc9 : inX w h x y ∧ r3 = nI (lin w x y) := by
      rcases q3 with h | h
      · exact h
      · exact absurd h.2 c11
    have hlt9 := lin_lt hc9.1
    have hwh9 := wh_le hw2 hh2
    have hi9 : vp_in r3 (w * h) := by rw [hc9.2]; exact vp_in_nI hlt9 (by omega)
    have hcl9 : r3.toNatClampNeg = lin w x y := by rw [hc9.2]; exact nI_clamp (by omega)
    refine lv_aload_n hx hb dX1_reach_14 rfl (lv_at hl 1 rfl) ?_
    refine va_get (D := (dC, dI)) (ci := 1) (v := .ref (ad 4)) (C := RX1) (T := TX1) (N := 8) hx hb hts (by decide +kernel) hown hK hP 0 rfl rfl 5 (by decide) (hts (.fieldLink RX1 34 "TriangleRaster" "reached" "[Z") (by decide +kernel)) (fun _ h9 => h9) rfl dX1_reach_15 ?_
    refine lv_iload hx hb dX1_reach_18 (lv_at hl 0 rfl) ?_
    refine va_zald hx hb hK hP 2 1 rfl rfl hi9 dX1_reach_20 ?_
    refine lv_topi (fun v20 ev20 => ?_)
    rw [hcl9] at ev20
    refine lv_if_ne (tgt := 47) hx hb dX1_reach_21 (by decide) (fun c21 => ?_) (fun c21 => ?_)
    · have hP9 := hP.sub (ws' := [(ad 0, .inr (1, [.int (nI w), .int (nI h), .ref (ad 1), .ref (ad 2), .ref (ad 3), .ref (ad 4), .ref (ad 5), .int (nI k)])), (ad 1, .inl (tc 1, (w * h), .inl col)), (ad 4, .inl (tc 4, (w * h), .inl rea)), (ad 5, .inl (tc 5, (w * h), .inl que))]) [0, 1, 2, 3] rfl
      have hD9 := hD.sub (ws' := [(ad 0, .inr (1, [.int (nI w), .int (nI h), .ref (ad 1), .ref (ad 2), .ref (ad 3), .ref (ad 4), .ref (ad 5), .int (nI k)])), (ad 1, .inl (tc 1, (w * h), .inl col)), (ad 4, .inl (tc 4, (w * h), .inl rea)), (ad 5, .inl (tc 5, (w * h), .inl que))]) [0, 1, 2, 3] (by decide) rfl
      exact W.vret hx hb hr (fun t ht hW => ⟨⟨(rea, que, k), rfl, Or.inr ⟨fun h => c21 (ev20.trans h.2.1), rfl⟩, by rw [ht]; exact hP9, va_K.moved hW.alike hK, hD9⟩, hS.F ht⟩) hS.2.2 dX1_reach_47
    · refine lv_aload_n hx hb dX1_reach_24 rfl (lv_at hl 1 rfl) ?_
      refine va_get (D := (dC, dI)) (ci := 1) (v := .ref (ad 1)) (C := RX1) (T := TX1) (N := 8) hx hb hts (by decide +kernel) hown hK hP 0 rfl rfl 2 (by decide) (hts (.fieldLink RX1 20 "TriangleRaster" "colours" "[I") (by decide +kernel)) (fun _ h9 => h9) rfl dX1_reach_25 ?_
      refine lv_iload hx hb dX1_reach_28 (lv_at hl 0 rfl) ?_
      refine va_iald hx hb hK hP 1 0 rfl rfl hi9 dX1_reach_30 ?_
      refine lv_topi (fun v30 ev30 => ?_)
      rw [hcl9] at ev30
      refine lv_iload_n hx hb dX1_reach_31 rfl (lv_at hl 4 rfl) ?_
      refine lv_icmp_ne (tgt := 47) hx hb dX1_reach_32 (by decide) (fun c32 => ?_) (fun c32 => ?_)
      · have hP9 := hP.sub (ws' := [(ad 0, .inr (1, [.int (nI w), .int (nI h), .ref (ad 1), .ref (ad 2), .ref (ad 3), .ref (ad 4), .ref (ad 5), .int (nI k)])), (ad 1, .inl (tc 1, (w * h), .inl col)), (ad 4, .inl (tc 4, (w * h), .inl rea)), (ad 5, .inl (tc 5, (w * h), .inl que))]) [0, 1, 2, 3] rfl
        have hD9 := hD.sub (ws' := [(ad 0, .inr (1, [.int (nI w), .int (nI h), .ref (ad 1), .ref (ad 2), .ref (ad 3), .ref (ad 4), .ref (ad 5), .int (nI k)])), (ad 1, .inl (tc 1, (w * h), .inl col)), (ad 4, .inl (tc 4, (w * h), .inl rea)), (ad 5, .inl (tc 5, (w * h), .inl que))]) [0, 1, 2, 3] (by decide) rfl
        exact W.vret hx hb hr (fun t ht hW => ⟨⟨(rea, que, k), rfl, Or.inr ⟨fun h => c32 (ev30.trans h.2.2.1), rfl⟩, by rw [ht]; exact hP9, va_K.moved hW.alike hK, hD9⟩, hS.F ht⟩) hS.2.2 dX1_reach_47
      · refine lv_aload_n hx hb dX1_reach_35 rfl (lv_at hl 1 rfl) ?_
        refine va_get (D := (dC, dI)) (ci := 1) (v := .int (nI k)) (C := RX1) (T := TX1) (N := 8) hx hb hts (by decide +kernel) hown hK hP 0 rfl rfl 7 (by decide) (hts (.fieldLink RX1 41 "TriangleRaster" "queued" "I") (by decide +kernel)) (fun _ h9 => h9) rfl dX1_reach_36 ?_
        refine lv_aload_n hx hb dX1_reach_39 rfl (lv_at hl 1 rfl) ?_
        refine va_get (D := (dC, dI)) (ci := 1) (v := .ref (ad 5)) (C := RX1) (T := TX1) (N := 8) hx hb hts (by decide +kernel) hown hK hP 0 rfl rfl 6 (by decide) (hts (.fieldLink RX1 38 "TriangleRaster" "queue" "[I") (by decide +kernel)) (fun _ h9 => h9) rfl dX1_reach_40 ?_
        refine va_alen (v := nI (w * h)) hx hb hK hP 3 2 rfl rfl rfl dX1_reach_43 ?_
        refine lv_icmp_lt (tgt := 48) hx hb dX1_reach_44 (by decide) (fun c44 => ?_) (fun c44 => ?_)
        · have hk9 : k < w * h := by rw [nI_ltI (by omega) (by omega)] at c44; omega
          refine lv_aload_n hx hb dX1_reach_48 rfl (lv_at hl 1 rfl) ?_
          refine va_get (D := (dC, dI)) (ci := 1) (v := .ref (ad 4)) (C := RX1) (T := TX1) (N := 8) hx hb hts (by decide +kernel) hown hK hP 0 rfl rfl 5 (by decide) (hts (.fieldLink RX1 34 "TriangleRaster" "reached" "[Z") (by decide +kernel)) (fun _ h9 => h9) rfl dX1_reach_49 ?_
          refine lv_iload hx hb dX1_reach_52 (lv_at hl 0 rfl) ?_
          refine lv_iconst (v := 1) hx hb dX1_reach_54 (by decide) ?_
          refine va_zast hx hb hK hP hD hS 2 1 rfl rfl hi9 dX1_reach_55 (fun H locs hP hD hS => ?_)
          have hP : va_P (dC, dI) vwCl [(ad 0, .inr (1, [.int (nI w), .int (nI h), .ref (ad 1), .ref (ad 2), .ref (ad 3), .ref (ad 4), .ref (ad 5), .int (nI k)])), (ad 1, .inl (tc 1, (w * h), .inl col)), (ad 4, .inl (tc 4, (w * h), .inl (upd rea r3.toNatClampNeg 1))), (ad 5, .inl (tc 5, (w * h), .inl que))] H := hP
          have hD : va_D A [(ad 0, .inr (1, [.int (nI w), .int (nI h), .ref (ad 1), .ref (ad 2), .ref (ad 3), .ref (ad 4), .ref (ad 5), .int (nI k)])), (ad 1, .inl (tc 1, (w * h), .inl col)), (ad 4, .inl (tc 4, (w * h), .inl (upd rea r3.toNatClampNeg 1))), (ad 5, .inl (tc 5, (w * h), .inl que))] := hD
          refine lv_aload_n hx hb dX1_reach_56 rfl (lv_at hl 1 rfl) ?_
          refine va_get (D := (dC, dI)) (ci := 1) (v := .ref (ad 5)) (C := RX1) (T := TX1) (N := 8) hx hb hts (by decide +kernel) hown hK hP 0 rfl rfl 6 (by decide) (hts (.fieldLink RX1 38 "TriangleRaster" "queue" "[I") (by decide +kernel)) (fun _ h9 => h9) rfl dX1_reach_57 ?_
          refine lv_aload_n hx hb dX1_reach_60 rfl (lv_at hl 1 rfl) ?_
          refine va_get (D := (dC, dI)) (ci := 1) (v := .int (nI k)) (C := RX1) (T := TX1) (N := 8) hx hb hts (by decide +kernel) hown hK hP 0 rfl rfl 7 (by decide) (hts (.fieldLink RX1 41 "TriangleRaster" "queued" "I") (by decide +kernel)) (fun _ h9 => h9) rfl dX1_reach_61 ?_
          refine lv_iload hx hb dX1_reach_64 (lv_at hl 0 rfl) ?_
          refine va_iast hx hb hK hP hD hS 3 2 rfl rfl (vp_in_nI hk9 (by omega)) dX1_reach_66 (fun H locs hP hD hS => ?_)
          have hP : va_P (dC, dI) vwCl [(ad 0, .inr (1, [.int (nI w), .int (nI h), .ref (ad 1), .ref (ad 2), .ref (ad 3), .ref (ad 4), .ref (ad 5), .int (nI k)])), (ad 1, .inl (tc 1, (w * h), .inl col)), (ad 4, .inl (tc 4, (w * h), .inl (upd rea r3.toNatClampNeg 1))), (ad 5, .inl (tc 5, (w * h), .inl (upd que (nI k).toNatClampNeg r3)))] H := hP
          have hD : va_D A [(ad 0, .inr (1, [.int (nI w), .int (nI h), .ref (ad 1), .ref (ad 2), .ref (ad 3), .ref (ad 4), .ref (ad 5), .int (nI k)])), (ad 1, .inl (tc 1, (w * h), .inl col)), (ad 4, .inl (tc 4, (w * h), .inl (upd rea r3.toNatClampNeg 1))), (ad 5, .inl (tc 5, (w * h), .inl (upd que (nI k).toNatClampNeg r3)))] := hD
          refine lv_aload_n hx hb dX1_reach_67 rfl (lv_at hl 1 rfl) ?_
          refine lv_dup hx hb dX1_reach_68 rfl ?_
          refine va_get (D := (dC, dI)) (ci := 1) (v := .int (nI k)) (C := RX1) (T := TX1) (N := 8) hx hb hts (by decide +kernel) hown hK hP 0 rfl rfl 7 (by decide) (hts (.fieldLink RX1 41 "TriangleRaster" "queued" "I") (by decide +kernel)) (fun _ h9 => h9) rfl dX1_reach_69 ?_
          refine lv_iconst (v := 1) hx hb dX1_reach_72 (by decide) ?_
          refine lv_iadd hx hb dX1_reach_73 ?_
          refine lv_topi (fun zz ezz => ?_)
          obtain rfl : zz = nI (k + 1) := ezz.trans (nI_1 k)
          refine va_put (D := (dC, dI)) (ci := 1) (v := .int (nI (k + 1))) (ty := .int) (C := RX1) (T := TX1) (N := 8) hx hb hts (by decide +kernel) tyX1 tyX1_ok nmX1 hown hK hP hD hS 0 rfl rfl 7 (by decide) (hts (.fieldLink RX1 41 "TriangleRaster" "queued" "I") (by decide +kernel)) (fun _ h9 => h9) rfl (by decide +kernel) rfl rfl (Nat.le_of_ble_eq_true rfl) dX1_reach_74 (fun H locs hP hD hS => ?_)
          have hP : va_P (dC, dI) vwCl [(ad 0, .inr (1, [.int (nI w), .int (nI h), .ref (ad 1), .ref (ad 2), .ref (ad 3), .ref (ad 4), .ref (ad 5), .int (nI (k + 1))])), (ad 1, .inl (tc 1, (w * h), .inl col)), (ad 4, .inl (tc 4, (w * h), .inl (upd rea r3.toNatClampNeg 1))), (ad 5, .inl (tc 5, (w * h), .inl (upd que (nI k).toNatClampNeg r3)))] H := hP
          have hD : va_D A [(ad 0, .inr (1, [.int (nI w), .int (nI h), .ref (ad 1), .ref (ad 2), .ref (ad 3), .ref (ad 4), .ref (ad 5), .int (nI (k + 1))])), (ad 1, .inl (tc 1, (w * h), .inl col)), (ad 4, .inl (tc 4, (w * h), .inl (upd rea r3.toNatClampNeg 1))), (ad 5, .inl (tc 5, (w * h), .inl (upd que (nI k).toNatClampNeg r3)))] := hD
          have hP9 := hP.sub (ws' := [(ad 0, .inr (1, [.int (nI w), .int (nI h), .ref (ad 1), .ref (ad 2), .ref (ad 3), .ref (ad 4), .ref (ad 5), .int (nI (k + 1))])), (ad 1, .inl (tc 1, (w * h), .inl col)), (ad 4, .inl (tc 4, (w * h), .inl (upd rea r3.toNatClampNeg 1))), (ad 5, .inl (tc 5, (w * h), .inl (upd que (nI k).toNatClampNeg r3)))]) [0, 1, 2, 3] rfl
          have hD9 := hD.sub (ws' := [(ad 0, .inr (1, [.int (nI w), .int (nI h), .ref (ad 1), .ref (ad 2), .ref (ad 3), .ref (ad 4), .ref (ad 5), .int (nI (k + 1))])), (ad 1, .inl (tc 1, (w * h), .inl col)), (ad 4, .inl (tc 4, (w * h), .inl (upd rea r3.toNatClampNeg 1))), (ad 5, .inl (tc 5, (w * h), .inl (upd que (nI k).toNatClampNeg r3)))]) [0, 1, 2, 3] (by decide) rfl
          exact W.vret hx hb hr (fun t ht hW => ⟨⟨(upd rea r3.toNatClampNeg 1, upd que (nI k).toNatClampNeg r3, k + 1), rfl, Or.inl ⟨⟨hc9.1, ev20.symm.trans c21, ev30.symm.trans c32, hk9⟩, by rw [hcl9, nI_clamp (by omega), hc9.2]⟩, by rw [ht]; exact hP9, va_K.moved hW.alike hK, hD9⟩, hS.F ht⟩) hS.2.2 dX1_reach_77
        · have hP9 := hP.sub (ws' := [(ad 0, .inr (1, [.int (nI w), .int (nI h), .ref (ad 1), .ref (ad 2), .ref (ad 3), .ref (ad 4), .ref (ad 5), .int (nI k)])), (ad 1, .inl (tc 1, (w * h), .inl col)), (ad 4, .inl (tc 4, (w * h), .inl rea)), (ad 5, .inl (tc 5, (w * h), .inl que))]) [0, 1, 2, 3] rfl
          have hD9 := hD.sub (ws' := [(ad 0, .inr (1, [.int (nI w), .int (nI h), .ref (ad 1), .ref (ad 2), .ref (ad 3), .ref (ad 4), .ref (ad 5), .int (nI k)])), (ad 1, .inl (tc 1, (w * h), .inl col)), (ad 4, .inl (tc 4, (w * h), .inl rea)), (ad 5, .inl (tc 5, (w * h), .inl que))]) [0, 1, 2, 3] (by decide) rfl
          exact W.vret hx hb hr (fun t ht hW => ⟨⟨(rea, que, k), rfl, Or.inr ⟨fun h => c44 (nI_lt h.2.2.2 (by omega)), rfl⟩, by rw [ht]; exact hP9, va_K.moved hW.alike hK, hD9⟩, hS.F ht⟩) hS.2.2 dX1_reach_47
end
section
/-! the triangle's words -/
def vb (vx vy : Nat → Int32) : Prop := ∀ k, k < 3 → (vx k).toInt.natAbs ≤ 16384 ∧ (vy k).toInt.natAbs ≤ 16384
def zb (vz : Nat → Int32) : Prop := ∀ k, k < 3 → 0 ≤ (vz k).toInt ∧ (vz k).toInt ≤ 32768
def TL (vx vy : Nat → Int32) (i j : Nat) : Prop := (vy i = vy j ∧ vx i < vx j) ∨ vy j < vy i
/-- E of the edge from vertex i to vertex j at a place -/
def EP (vx vy : Nat → Int32) (i j : Nat) (px py : Int) : Int := Ed (vx i).toInt (vy i).toInt (vx j).toInt (vy j).toInt px py
/-- at the middle of the pixel in column c, row r -/
def EE (vx vy : Nat → Int32) (i j : Nat) (c r : Int) : Int := EP vx vy i j (16 * c + 8) (16 * r + 8)
def INS (vx vy : Nat → Int32) (i j : Nat) (c r : Int) : Prop := 0 < EE vx vy i j c r ∨ (EE vx vy i j c r = 0 ∧ TL vx vy i j)
def tT (vx vy : Nat → Int32) : Int := EP vx vy 0 1 (vx 2).toInt (vy 2).toInt
def COV (vx vy : Nat → Int32) (c r : Int) : Prop := (0 < tT vx vy ∧ INS vx vy 0 1 c r ∧ INS vx vy 1 2 c r ∧ INS vx vy 2 0 c r) ∨ (tT vx vy < 0 ∧ INS vx vy 0 2 c r ∧ INS vx vy 2 1 c r ∧ INS vx vy 1 0 c r)
def DSUM (vx vy vz : Nat → Int32) (c r : Int) : Int := EE vx vy 1 2 c r * (vz 0).toInt + EE vx vy 2 0 c r * (vz 1).toInt + EE vx vy 0 1 c r * (vz 2).toInt
def DPT (vx vy vz : Nat → Int32) (c r : Int) : Int := (DSUM vx vy vz c r).tdiv (tT vx vy)
def facOK (vx vy : Nat → Int32) (se th : Int32) (ar : Int64) : Prop := (tT vx vy < 0 ∧ se = 2 ∧ th = 1 ∧ ar.toInt = - tT vx vy) ∨ (0 ≤ tT vx vy ∧ se = 1 ∧ th = 2 ∧ ar.toInt = tT vx vy)
theorem EP_neg (vx vy : Nat → Int32) (i j : Nat) (px py : Int) : EP vx vy j i px py = - EP vx vy i j px py := by
  unfold EP Ed; grind
theorem EE_neg (vx vy : Nat → Int32) (i j : Nat) (c r : Int) : EE vx vy j i c r = - EE vx vy i j c r := EP_neg vx vy i j _ _
theorem EE_sum (vx vy : Nat → Int32) (c r : Int) : EE vx vy 1 2 c r + EE vx vy 2 0 c r + EE vx vy 0 1 c r = tT vx vy := Ed_sum _ _ _ _ _ _ _ _
theorem EP_b {vx vy : Nat → Int32} (hv : vb vx vy) {i j : Nat} (hi : i < 3) (hj : j < 3) {px py : Int} (h5 : px.natAbs ≤ 33000) (h6 : py.natAbs ≤ 33000) : (EP vx vy i j px py).natAbs ≤ 3300000000 := Ed_b (hv i hi).1 (hv i hi).2 (hv j hj).1 (hv j hj).2 h5 h6
theorem tT_b {vx vy : Nat → Int32} (hv : vb vx vy) : (tT vx vy).natAbs ≤ 3300000000 := EP_b hv (by omega) (by omega) (Nat.le_trans (hv 2 (by omega)).1 (by omega)) (Nat.le_trans (hv 2 (by omega)).2 (by omega))
theorem EE_b {vx vy : Nat → Int32} (hv : vb vx vy) {i j : Nat} (hi : i < 3) (hj : j < 3) {c r : Int} (h5 : c.natAbs ≤ 2000) (h6 : r.natAbs ≤ 2000) : (EE vx vy i j c r).natAbs ≤ 3300000000 := EP_b hv hi hj (by omega) (by omega)
theorem edge_val {ax ay bx bY px py : Int32} (h1 : ax.toInt.natAbs ≤ 16384) (h2 : ay.toInt.natAbs ≤ 16384) (h3 : bx.toInt.natAbs ≤ 16384) (h4 : bY.toInt.natAbs ≤ 16384) (h5 : px.toInt.natAbs ≤ 33000) (h6 : py.toInt.natAbs ≤ 33000) : ((bx - ax).toInt64 * (py - ay).toInt64 - (bY - ay).toInt64 * (px - ax).toInt64).toInt = Ed ax.toInt ay.toInt bx.toInt bY.toInt px.toInt py.toInt := by
  have e1 : (bx - ax).toInt64.toInt = bx.toInt - ax.toInt := by rw [Jvm.Kit.i64_of_i32, Jvm.Kit.i32_sub (by omega) (by omega)]
  have e2 : (py - ay).toInt64.toInt = py.toInt - ay.toInt := by rw [Jvm.Kit.i64_of_i32, Jvm.Kit.i32_sub (by omega) (by omega)]
  have e3 : (bY - ay).toInt64.toInt = bY.toInt - ay.toInt := by rw [Jvm.Kit.i64_of_i32, Jvm.Kit.i32_sub (by omega) (by omega)]
  have e4 : (px - ax).toInt64.toInt = px.toInt - ax.toInt := by rw [Jvm.Kit.i64_of_i32, Jvm.Kit.i32_sub (by omega) (by omega)]
  have a1 : ((bx.toInt - ax.toInt) * (py.toInt - ay.toInt)).natAbs ≤ 32768 * 49384 := mulb (by omega) (by omega)
  have a2 : ((bY.toInt - ay.toInt) * (px.toInt - ax.toInt)).natAbs ≤ 32768 * 49384 := mulb (by omega) (by omega)
  have m1 : ((bx - ax).toInt64 * (py - ay).toInt64).toInt = (bx.toInt - ax.toInt) * (py.toInt - ay.toInt) := by
    rw [Jvm.Kit.i64_mul (by rw [e1, e2]; omega) (by rw [e1, e2]; omega), e1, e2]
  have m2 : ((bY - ay).toInt64 * (px - ax).toInt64).toInt = (bY.toInt - ay.toInt) * (px.toInt - ax.toInt) := by
    rw [Jvm.Kit.i64_mul (by rw [e3, e4]; omega) (by rw [e3, e4]; omega), e3, e4]
  rw [Jvm.Kit.i64_sub (by rw [m1, m2]; omega) (by rw [m1, m2]; omega), m1, m2]
  rfl
theorem INS_nn {vx vy : Nat → Int32} {i j : Nat} {c r : Int} (h : INS vx vy i j c r) : 0 ≤ EE vx vy i j c r := by
  rcases h with h | h <;> omega
/-- where the triangle covers a pixel its depth there is 0 .. 32768 -/
theorem DPT_b {vx vy vz : Nat → Int32} (hz : zb vz) {c r : Int} (h : COV vx vy c r) : 0 ≤ DPT vx vy vz c r ∧ DPT vx vy vz c r ≤ 32768 := by
  have g0 := hz 0 (by omega)
  have g1 := hz 1 (by omega)
  have g2 := hz 2 (by omega)
  have hs := EE_sum vx vy c r
  rcases h with ⟨ht, a1, a2, a3⟩ | ⟨ht, a1, a2, a3⟩
  · have q := dep_b (INS_nn a2) (INS_nn a3) (INS_nn a1) hs ht g0 g1 g2
    unfold DPT DSUM
    rw [Int.tdiv_eq_ediv_of_nonneg q.1]
    exact ⟨q.2.2.1, q.2.2.2⟩
  · have b1 := INS_nn a1
    have b2 := INS_nn a2
    have b3 := INS_nn a3
    rw [EE_neg vx vy 2 0] at b1
    rw [EE_neg vx vy 1 2] at b2
    rw [EE_neg vx vy 0 1] at b3
    have q := dep_b b2 b1 b3 (ar := - tT vx vy) (by omega) (by omega) g0 g1 g2
    unfold DPT
    rw [← Int.neg_tdiv_neg]
    have e : - DSUM vx vy vz c r = -EE vx vy 1 2 c r * (vz 0).toInt + -EE vx vy 2 0 c r * (vz 1).toInt + -EE vx vy 0 1 c r * (vz 2).toInt := by
      unfold DSUM; grind
    rw [e, Int.tdiv_eq_ediv_of_nonneg q.1]
    exact ⟨q.2.2.1, q.2.2.2⟩
/-- three long products and their sum, divided, as an int -/
theorem dep_val {w0 w1 w2 ar : Int64} {z0 z1 z2 : Int32} {W0 W1 W2 AR : Int} (e0 : w0.toInt = W0) (e1 : w1.toInt = W1) (e2 : w2.toInt = W2) (ea : ar.toInt = AR) (b0 : W0.natAbs ≤ 3300000000) (b1 : W1.natAbs ≤ 3300000000) (b2 : W2.natAbs ≤ 3300000000) (g0 : 0 ≤ z0.toInt ∧ z0.toInt ≤ 32768) (g1 : 0 ≤ z1.toInt ∧ z1.toInt ≤ 32768) (g2 : 0 ≤ z2.toInt ∧ z2.toInt ≤ 32768) (hq : 0 ≤ (W0 * z0.toInt + W1 * z1.toInt + W2 * z2.toInt).tdiv AR ∧ (W0 * z0.toInt + W1 * z1.toInt + W2 * z2.toInt).tdiv AR ≤ 32768) : ((w0 * z0.toInt64 + w1 * z1.toInt64 + w2 * z2.toInt64) / ar).toInt32 = Int32.ofInt ((W0 * z0.toInt + W1 * z1.toInt + W2 * z2.toInt).tdiv AR) := by
  have c0 : (W0 * z0.toInt).natAbs ≤ 3300000000 * 32768 := mulb b0 (by omega)
  have c1 : (W1 * z1.toInt).natAbs ≤ 3300000000 * 32768 := mulb b1 (by omega)
  have c2 : (W2 * z2.toInt).natAbs ≤ 3300000000 * 32768 := mulb b2 (by omega)
  have f0 : (w0 * z0.toInt64).toInt = W0 * z0.toInt := by rw [Jvm.Kit.i64_mul (by rw [e0, Jvm.Kit.i64_of_i32]; omega) (by rw [e0, Jvm.Kit.i64_of_i32]; omega), e0, Jvm.Kit.i64_of_i32]
  have f1 : (w1 * z1.toInt64).toInt = W1 * z1.toInt := by rw [Jvm.Kit.i64_mul (by rw [e1, Jvm.Kit.i64_of_i32]; omega) (by rw [e1, Jvm.Kit.i64_of_i32]; omega), e1, Jvm.Kit.i64_of_i32]
  have f2 : (w2 * z2.toInt64).toInt = W2 * z2.toInt := by rw [Jvm.Kit.i64_mul (by rw [e2, Jvm.Kit.i64_of_i32]; omega) (by rw [e2, Jvm.Kit.i64_of_i32]; omega), e2, Jvm.Kit.i64_of_i32]
  have s1 : (w0 * z0.toInt64 + w1 * z1.toInt64).toInt = W0 * z0.toInt + W1 * z1.toInt := by rw [Jvm.Kit.i64_add (by rw [f0, f1]; omega) (by rw [f0, f1]; omega), f0, f1]
  have s2 : (w0 * z0.toInt64 + w1 * z1.toInt64 + w2 * z2.toInt64).toInt = W0 * z0.toInt + W1 * z1.toInt + W2 * z2.toInt := by rw [Jvm.Kit.i64_add (by rw [s1, f2]; omega) (by rw [s1, f2]; omega), s1, f2]
  have d1 : ((w0 * z0.toInt64 + w1 * z1.toInt64 + w2 * z2.toInt64) / ar).toInt = (W0 * z0.toInt + W1 * z1.toInt + W2 * z2.toInt).tdiv AR := by
    rw [Jvm.Kit.i64_div (by rw [s2]; omega), s2, ea]
  apply Int32.toInt_inj.mp
  rw [Jvm.Kit.i32_of_i64 (by rw [d1]; omega) (by rw [d1]; omega), d1, Int32.toInt_ofInt_of_le (by omega) (by omega)]
end
section
set_option maxHeartbeats 4000000 in
set_option maxRecDepth 100000 in
/-- edge -/
theorem c_X0_edge (l : Launch) (dC : Nat → ClassId) (dI : Nat → Nat → Nat) (sz : Nat) (ad : Nat → Nat) (tc : Nat → ClassId) (se th : Int32) (ar : Int64) (vx vy : Nat → Int32) (hv : vb vx vy) (a b : Int32) (i j : Nat) (hi : i < 3) (hj : j < 3) (ea : a = nI i) (eb : b = nI j) (px py : Int32) (hpx : px.toInt.natAbs ≤ 33000) (hpy : py.toInt.natAbs ≤ 33000) : Met l yX0_edge wsX0_edge ({ frames := 0, cells := 0, slots := 0, locals := 0 }) (mP (dC, dI) vwCl [(tc 6, .int), (tc 7, .int)] [(ad 3, .inr (0, [.ref (ad 6), .ref (ad 7), .ref (ad 8), .int se, .int th, .long ar])), (ad 6, .inl (tc 6, 3, .inl vx)), (ad 7, .inl (tc 7, 3, .inl vy))] sz [.ref (ad 3), .int a, .int b, .int px, .int py]) (va_Ql (fun (r : Int64) (u : Unit) => r.toInt = EP vx vy i j px.toInt py.toInt) (mB (dC, dI) vwCl [(tc 6, .int), (tc 7, .int)] (va_A [(ad 3, .inr (0, [.ref (ad 6), .ref (ad 7), .ref (ad 8), .int se, .int th, .long ar])), (ad 6, .inl (tc 6, 3, .inl vx)), (ad 7, .inl (tc 7, 3, .inl vy))] sz) (fun u => [(ad 3, .inr (0, [.ref (ad 6), .ref (ad 7), .ref (ad 8), .int se, .int th, .long ar])), (ad 6, .inl (tc 6, 3, .inl vx)), (ad 7, .inl (tc 7, 3, .inl vy))])) (va_A [(ad 3, .inr (0, [.ref (ad 6), .ref (ad 7), .ref (ad 8), .int se, .int th, .long ar])), (ad 6, .inl (tc 6, 3, .inl vx)), (ad 7, .inl (tc 7, 3, .inl vy))] sz)) 0 0 (va_A [(ad 3, .inr (0, [.ref (ad 6), .ref (ad 7), .ref (ad 8), .int se, .int th, .long ar])), (ad 6, .inl (tc 6, 3, .inl vx)), (ad 7, .inl (tc 7, 3, .inl vy))] sz) := by
  refine Met.ofW (cc := cX0_edge) (maxL := 9) (ret := (some .long)) (by decide) rfl ?_
  intro p e s m args below meth cD s₁ B hml hv
  obtain ⟨rfl, hsz, hP, hK, hD0, hN⟩ := hv
  have hx := B.exec
  have hb := B.bytes
  have hr := B.returns
  have hts := atoms_spec (ws := wsX0_edge) B.pre
  have hown : s.vm.findClass RX0 = some m.cls := findClass_of_methodNamed B.named
  have hlocks := B.notSynchronized
  subst hsz
  have hD := hD0.self (sz := s.heap.size)
  generalize hAe : va_A [(ad 3, .inr (0, [.ref (ad 6), .ref (ad 7), .ref (ad 8), .int se, .int th, .long ar])), (ad 6, .inl (tc 6, 3, .inl vx)), (ad 7, .inl (tc 7, 3, .inl vy))] s.heap.size = A at hD ⊢
  have hA : ∀ q : Nat, s.heap.size ≤ q → A q := fun q h => by rw [← hAe]; exact Or.inr h
  have hS : va_S A s.heap s.heap [] := va_S.rf
  have hP : va_P (dC, dI) vwCl [(ad 3, .inr (0, [.ref (ad 6), .ref (ad 7), .ref (ad 8), .int se, .int th, .long ar])), (ad 6, .inl (tc 6, 3, .inl vx)), (ad 7, .inl (tc 7, 3, .inl vy))] s.heap := hP
  have hl := lv_entry ([.ref (ad 3), .int a, .int b, .int px, .int py]) (n := 9) (Nat.le_of_ble_eq_true rfl)
  rw [lg_entry_eq]
  generalize (lg_sl ([.ref (ad 3), .int a, .int b, .int px, .int py]) ++ List.replicate (9 - (lg_sl ([.ref (ad 3), .int a, .int b, .int px, .int py])).length) Slot.unset).toArray = ls at hl ⊢
  have hl : lv_has ls 9 [(0, .ref (ad 3)), (1, .int a), (2, .int b), (3, .int px), (4, .int py)] := hl
  have hia : vp_in a 3 := by rw [ea]; exact vp_in_nI hi (by omega)
  have hib : vp_in b 3 := by rw [eb]; exact vp_in_nI hj (by omega)
  have hca : a.toNatClampNeg = i := by rw [ea]; exact nI_clamp (by omega)
  have hcb : b.toNatClampNeg = j := by rw [eb]; exact nI_clamp (by omega)
  refine lv_aload_n hx hb dX0_edge_0 rfl (lv_at hl 0 rfl) ?_
  refine va_get (D := (dC, dI)) (ci := 0) (v := .ref (ad 6)) (C := RX0) (T := TX0) (N := 6) hx hb hts (by decide +kernel) hown hK hP 0 rfl rfl 0 (by decide) (hts (.fieldLink RX0 9 "TriangleRaster$Facet" "xs" "[I") (by decide +kernel)) (fun _ h9 => h9) rfl dX0_edge_1 ?_
  refine lv_iload_n hx hb dX0_edge_4 rfl (lv_at hl 2 rfl) ?_
  refine va_iald hx hb hK hP 1 0 rfl rfl hib dX0_edge_5 ?_
  refine lv_aload_n hx hb dX0_edge_6 rfl (lv_at hl 0 rfl) ?_
  refine va_get (D := (dC, dI)) (ci := 0) (v := .ref (ad 6)) (C := RX0) (T := TX0) (N := 6) hx hb hts (by decide +kernel) hown hK hP 0 rfl rfl 0 (by decide) (hts (.fieldLink RX0 9 "TriangleRaster$Facet" "xs" "[I") (by decide +kernel)) (fun _ h9 => h9) rfl dX0_edge_7 ?_
  refine lv_iload_n hx hb dX0_edge_10 rfl (lv_at hl 1 rfl) ?_
  refine va_iald hx hb hK hP 1 0 rfl rfl hia dX0_edge_11 ?_
  refine lv_isub hx hb dX0_edge_12 ?_
  refine lv_i2l hx hb dX0_edge_13 rfl ?_
  refine lv_lstore (lv' := [(5, .long (((vx b.toNatClampNeg) - (vx a.toNatClampNeg)).toInt64)), (0, .ref (ad 3)), (1, .int a), (2, .int b), (3, .int px), (4, .int py)]) hx hb dX0_edge_14 hl (by decide) rfl (fun ls hl => ?_)
  refine lv_aload_n hx hb dX0_edge_16 rfl (lv_at hl 1 rfl) ?_
  refine va_get (D := (dC, dI)) (ci := 0) (v := .ref (ad 7)) (C := RX0) (T := TX0) (N := 6) hx hb hts (by decide +kernel) hown hK hP 0 rfl rfl 1 (by decide) (hts (.fieldLink RX0 15 "TriangleRaster$Facet" "ys" "[I") (by decide +kernel)) (fun _ h9 => h9) rfl dX0_edge_17 ?_
  refine lv_iload_n hx hb dX0_edge_20 rfl (lv_at hl 3 rfl) ?_
  refine va_iald hx hb hK hP 2 1 rfl rfl hib dX0_edge_21 ?_
  refine lv_aload_n hx hb dX0_edge_22 rfl (lv_at hl 1 rfl) ?_
  refine va_get (D := (dC, dI)) (ci := 0) (v := .ref (ad 7)) (C := RX0) (T := TX0) (N := 6) hx hb hts (by decide +kernel) hown hK hP 0 rfl rfl 1 (by decide) (hts (.fieldLink RX0 15 "TriangleRaster$Facet" "ys" "[I") (by decide +kernel)) (fun _ h9 => h9) rfl dX0_edge_23 ?_
  refine lv_iload_n hx hb dX0_edge_26 rfl (lv_at hl 2 rfl) ?_
  refine va_iald hx hb hK hP 2 1 rfl rfl hia dX0_edge_27 ?_
  refine lv_isub hx hb dX0_edge_28 ?_
  refine lv_i2l hx hb dX0_edge_29 rfl ?_
  refine lv_lstore (lv' := [(7, .long (((vy b.toNatClampNeg) - (vy a.toNatClampNeg)).toInt64)), (5, .long (((vx b.toNatClampNeg) - (vx a.toNatClampNeg)).toInt64)), (0, .ref (ad 3)), (1, .int a), (2, .int b), (3, .int px), (4, .int py)]) hx hb dX0_edge_30 hl (by decide) rfl (fun ls hl => ?_)
  refine lv_lload hx hb dX0_edge_32 (lv_at hl 1 rfl) ?_
  refine lv_iload hx hb dX0_edge_34 (lv_at hl 6 rfl) ?_
  refine lv_aload_n hx hb dX0_edge_36 rfl (lv_at hl 2 rfl) ?_
  refine va_get (D := (dC, dI)) (ci := 0) (v := .ref (ad 7)) (C := RX0) (T := TX0) (N := 6) hx hb hts (by decide +kernel) hown hK hP 0 rfl rfl 1 (by decide) (hts (.fieldLink RX0 15 "TriangleRaster$Facet" "ys" "[I") (by decide +kernel)) (fun _ h9 => h9) rfl dX0_edge_37 ?_
  refine lv_iload_n hx hb dX0_edge_40 rfl (lv_at hl 3 rfl) ?_
  refine va_iald hx hb hK hP 2 1 rfl rfl hia dX0_edge_41 ?_
  refine lv_isub hx hb dX0_edge_42 ?_
  refine lv_i2l hx hb dX0_edge_43 rfl ?_
  refine lv_lmul hx hb dX0_edge_44 ?_
  refine lv_lload hx hb dX0_edge_45 (lv_at hl 0 rfl) ?_
  refine lv_iload_n hx hb dX0_edge_47 rfl (lv_at hl 5 rfl) ?_
  refine lv_aload_n hx hb dX0_edge_48 rfl (lv_at hl 2 rfl) ?_
  refine va_get (D := (dC, dI)) (ci := 0) (v := .ref (ad 6)) (C := RX0) (T := TX0) (N := 6) hx hb hts (by decide +kernel) hown hK hP 0 rfl rfl 0 (by decide) (hts (.fieldLink RX0 9 "TriangleRaster$Facet" "xs" "[I") (by decide +kernel)) (fun _ h9 => h9) rfl dX0_edge_49 ?_
  refine lv_iload_n hx hb dX0_edge_52 rfl (lv_at hl 3 rfl) ?_
  refine va_iald hx hb hK hP 1 0 rfl rfl hia dX0_edge_53 ?_
  refine lv_isub hx hb dX0_edge_54 ?_
  refine lv_i2l hx hb dX0_edge_55 rfl ?_
  refine lv_lmul hx hb dX0_edge_56 ?_
  refine lv_lsub hx hb dX0_edge_57 ?_
  have hP9 := hP.sub (ws' := [(ad 3, .inr (0, [.ref (ad 6), .ref (ad 7), .ref (ad 8), .int se, .int th, .long ar])), (ad 6, .inl (tc 6, 3, .inl vx)), (ad 7, .inl (tc 7, 3, .inl vy))]) [0, 1, 2] rfl
  have hD9 := hD.sub (ws' := [(ad 3, .inr (0, [.ref (ad 6), .ref (ad 7), .ref (ad 8), .int se, .int th, .long ar])), (ad 6, .inl (tc 6, 3, .inl vx)), (ad 7, .inl (tc 7, 3, .inl vy))]) [0, 1, 2] (by decide) rfl
  exact W.lret (v := (((((vx b.toNatClampNeg) - (vx a.toNatClampNeg)).toInt64) * ((py - (vy a.toNatClampNeg)).toInt64)) - ((((vy b.toNatClampNeg) - (vy a.toNatClampNeg)).toInt64) * ((px - (vx a.toNatClampNeg)).toInt64)))) hx hb hr (fun t ht hW => ⟨⟨((((vx b.toNatClampNeg) - (vx a.toNatClampNeg)).toInt64) * ((py - (vy a.toNatClampNeg)).toInt64)) - ((((vy b.toNatClampNeg) - (vy a.toNatClampNeg)).toInt64) * ((px - (vx a.toNatClampNeg)).toInt64)), (), rfl, by rw [hca, hcb]; exact edge_val (hv i hi).1 (hv i hi).2 (hv j hj).1 (hv j hj).2 hpx hpy, by rw [ht]; exact hP9, va_K.moved hW.alike hK, hD9⟩, hS.F ht⟩) hS.2.2 dX0_edge_58

set_option maxHeartbeats 4000000 in
set_option maxRecDepth 100000 in
/-- isTopOrLeft -/
theorem c_X0_isTopOrLeft (l : Launch) (dC : Nat → ClassId) (dI : Nat → Nat → Nat) (sz : Nat) (ad : Nat → Nat) (tc : Nat → ClassId) (se th : Int32) (ar : Int64) (vx vy : Nat → Int32) (a b : Int32) (i j : Nat) (hi : i < 3) (hj : j < 3) (ea : a = nI i) (eb : b = nI j) : Met l yX0_isTopOrLeft wsX0_isTopOrLeft ({ frames := 0, cells := 0, slots := 0, locals := 0 }) (mP (dC, dI) vwCl [(tc 6, .int), (tc 7, .int)] [(ad 3, .inr (0, [.ref (ad 6), .ref (ad 7), .ref (ad 8), .int se, .int th, .long ar])), (ad 6, .inl (tc 6, 3, .inl vx)), (ad 7, .inl (tc 7, 3, .inl vy))] sz [.ref (ad 3), .int a, .int b]) (va_Qi (fun (r : Int32) (u : Unit) => (TL vx vy i j ∧ r = 1) ∨ (¬ TL vx vy i j ∧ r = 0)) (mB (dC, dI) vwCl [(tc 6, .int), (tc 7, .int)] (va_A [(ad 3, .inr (0, [.ref (ad 6), .ref (ad 7), .ref (ad 8), .int se, .int th, .long ar])), (ad 6, .inl (tc 6, 3, .inl vx)), (ad 7, .inl (tc 7, 3, .inl vy))] sz) (fun u => [(ad 3, .inr (0, [.ref (ad 6), .ref (ad 7), .ref (ad 8), .int se, .int th, .long ar])), (ad 6, .inl (tc 6, 3, .inl vx)), (ad 7, .inl (tc 7, 3, .inl vy))])) (va_A [(ad 3, .inr (0, [.ref (ad 6), .ref (ad 7), .ref (ad 8), .int se, .int th, .long ar])), (ad 6, .inl (tc 6, 3, .inl vx)), (ad 7, .inl (tc 7, 3, .inl vy))] sz)) 0 0 (va_A [(ad 3, .inr (0, [.ref (ad 6), .ref (ad 7), .ref (ad 8), .int se, .int th, .long ar])), (ad 6, .inl (tc 6, 3, .inl vx)), (ad 7, .inl (tc 7, 3, .inl vy))] sz) := by
  refine Met.ofW (cc := cX0_isTopOrLeft) (maxL := 5) (ret := (some .boolean)) (by decide) rfl ?_
  intro p e s m args below meth cD s₁ B hml hv
  obtain ⟨rfl, hsz, hP, hK, hD0, hN⟩ := hv
  have hx := B.exec
  have hb := B.bytes
  have hr := B.returns
  have hts := atoms_spec (ws := wsX0_isTopOrLeft) B.pre
  have hown : s.vm.findClass RX0 = some m.cls := findClass_of_methodNamed B.named
  have hlocks := B.notSynchronized
  subst hsz
  have hD := hD0.self (sz := s.heap.size)
  generalize hAe : va_A [(ad 3, .inr (0, [.ref (ad 6), .ref (ad 7), .ref (ad 8), .int se, .int th, .long ar])), (ad 6, .inl (tc 6, 3, .inl vx)), (ad 7, .inl (tc 7, 3, .inl vy))] s.heap.size = A at hD ⊢
  have hA : ∀ q : Nat, s.heap.size ≤ q → A q := fun q h => by rw [← hAe]; exact Or.inr h
  have hS : va_S A s.heap s.heap [] := va_S.rf
  have hP : va_P (dC, dI) vwCl [(ad 3, .inr (0, [.ref (ad 6), .ref (ad 7), .ref (ad 8), .int se, .int th, .long ar])), (ad 6, .inl (tc 6, 3, .inl vx)), (ad 7, .inl (tc 7, 3, .inl vy))] s.heap := hP
  have hl := lv_entry ([.ref (ad 3), .int a, .int b]) (n := 5) (Nat.le_of_ble_eq_true rfl)
  rw [lg_entry_eq]
  generalize (lg_sl ([.ref (ad 3), .int a, .int b]) ++ List.replicate (5 - (lg_sl ([.ref (ad 3), .int a, .int b])).length) Slot.unset).toArray = ls at hl ⊢
  have hl : lv_has ls 5 [(0, .ref (ad 3)), (1, .int a), (2, .int b)] := hl
  have hia : vp_in a 3 := by rw [ea]; exact vp_in_nI hi (by omega)
  have hib : vp_in b 3 := by rw [eb]; exact vp_in_nI hj (by omega)
  have hca : a.toNatClampNeg = i := by rw [ea]; exact nI_clamp (by omega)
  have hcb : b.toNatClampNeg = j := by rw [eb]; exact nI_clamp (by omega)
  refine lv_aload_n hx hb dX0_isTopOrLeft_0 rfl (lv_at hl 0 rfl) ?_
  refine va_get (D := (dC, dI)) (ci := 0) (v := .ref (ad 7)) (C := RX0) (T := TX0) (N := 6) hx hb hts (by decide +kernel) hown hK hP 0 rfl rfl 1 (by decide) (hts (.fieldLink RX0 15 "TriangleRaster$Facet" "ys" "[I") (by decide +kernel)) (fun _ h9 => h9) rfl dX0_isTopOrLeft_1 ?_
  refine lv_iload_n hx hb dX0_isTopOrLeft_4 rfl (lv_at hl 1 rfl) ?_
  refine va_iald hx hb hK hP 2 1 rfl rfl hia dX0_isTopOrLeft_5 ?_
  refine lv_aload_n hx hb dX0_isTopOrLeft_6 rfl (lv_at hl 0 rfl) ?_
  refine va_get (D := (dC, dI)) (ci := 0) (v := .ref (ad 7)) (C := RX0) (T := TX0) (N := 6) hx hb hts (by decide +kernel) hown hK hP 0 rfl rfl 1 (by decide) (hts (.fieldLink RX0 15 "TriangleRaster$Facet" "ys" "[I") (by decide +kernel)) (fun _ h9 => h9) rfl dX0_isTopOrLeft_7 ?_
  refine lv_iload_n hx hb dX0_isTopOrLeft_10 rfl (lv_at hl 2 rfl) ?_
  refine va_iald hx hb hK hP 2 1 rfl rfl hib dX0_isTopOrLeft_11 ?_
  refine lv_icmp_ne (tgt := 34) hx hb dX0_isTopOrLeft_12 (by decide) (fun c12 => ?_) (fun c12 => ?_)
  · refine lv_iconst (v := 0) hx hb dX0_isTopOrLeft_34 (by decide) ?_
    refine lv_istore_n (lv' := [(3, .int 0), (0, .ref (ad 3)), (1, .int a), (2, .int b)]) hx hb dX0_isTopOrLeft_35 rfl hl (by decide) rfl (fun ls hl => ?_)
    refine lv_aload_n hx hb dX0_isTopOrLeft_36 rfl (lv_at hl 1 rfl) ?_
    refine va_get (D := (dC, dI)) (ci := 0) (v := .ref (ad 7)) (C := RX0) (T := TX0) (N := 6) hx hb hts (by decide +kernel) hown hK hP 0 rfl rfl 1 (by decide) (hts (.fieldLink RX0 15 "TriangleRaster$Facet" "ys" "[I") (by decide +kernel)) (fun _ h9 => h9) rfl dX0_isTopOrLeft_37 ?_
    refine lv_iload_n hx hb dX0_isTopOrLeft_40 rfl (lv_at hl 3 rfl) ?_
    refine va_iald hx hb hK hP 2 1 rfl rfl hib dX0_isTopOrLeft_41 ?_
    refine lv_aload_n hx hb dX0_isTopOrLeft_42 rfl (lv_at hl 1 rfl) ?_
    refine va_get (D := (dC, dI)) (ci := 0) (v := .ref (ad 7)) (C := RX0) (T := TX0) (N := 6) hx hb hts (by decide +kernel) hown hK hP 0 rfl rfl 1 (by decide) (hts (.fieldLink RX0 15 "TriangleRaster$Facet" "ys" "[I") (by decide +kernel)) (fun _ h9 => h9) rfl dX0_isTopOrLeft_43 ?_
    refine lv_iload_n hx hb dX0_isTopOrLeft_46 rfl (lv_at hl 2 rfl) ?_
    refine va_iald hx hb hK hP 2 1 rfl rfl hia dX0_isTopOrLeft_47 ?_
    refine lv_icmp_ge (tgt := 55) hx hb dX0_isTopOrLeft_48 (by decide) (fun c48 => ?_) (fun c48 => ?_)
    · refine lv_iconst (v := 0) hx hb dX0_isTopOrLeft_55 (by decide) ?_
      refine lv_istore (lv' := [(4, .int 0), (3, .int 0), (0, .ref (ad 3)), (1, .int a), (2, .int b)]) hx hb dX0_isTopOrLeft_56 hl (by decide) rfl (fun ls hl => ?_)
      refine lv_iload_n hx hb dX0_isTopOrLeft_58 rfl (lv_at hl 1 rfl) ?_
      refine lv_if_ne (tgt := 67) hx hb dX0_isTopOrLeft_59 (by decide) (fun c59 => ?_) (fun c59 => ?_)
      · exact absurd c59 (by decide)
      · refine lv_iload hx hb dX0_isTopOrLeft_62 (lv_at hl 0 rfl) ?_
        refine lv_if_eq (tgt := 71) hx hb dX0_isTopOrLeft_64 (by decide) (fun c64 => ?_) (fun c64 => ?_)
        · refine lv_iconst (v := 0) hx hb dX0_isTopOrLeft_71 (by decide) ?_
          have hP9 := hP.sub (ws' := [(ad 3, .inr (0, [.ref (ad 6), .ref (ad 7), .ref (ad 8), .int se, .int th, .long ar])), (ad 6, .inl (tc 6, 3, .inl vx)), (ad 7, .inl (tc 7, 3, .inl vy))]) [0, 1, 2] rfl
          have hD9 := hD.sub (ws' := [(ad 3, .inr (0, [.ref (ad 6), .ref (ad 7), .ref (ad 8), .int se, .int th, .long ar])), (ad 6, .inl (tc 6, 3, .inl vx)), (ad 7, .inl (tc 7, 3, .inl vy))]) [0, 1, 2] (by decide) rfl
          exact W.zret (v := 0) hx hb hr rfl (fun t ht hW => ⟨⟨0, (), rfl, Or.inr ⟨by rw [hca, hcb] at c12 c48; simp only [TL, Int32.lt_iff_toInt_lt, Int32.le_iff_toInt_le, ← Int32.toInt_inj] at c12 c48 ⊢; omega, rfl⟩, by rw [ht]; exact hP9, va_K.moved hW.alike hK, hD9⟩, hS.F ht⟩) hS.2.2 dX0_isTopOrLeft_72
        · exact absurd c64 (by decide)
    · refine lv_iconst (v := 1) hx hb dX0_isTopOrLeft_51 (by decide) ?_
      refine lv_goto (tgt := 56) hx hb dX0_isTopOrLeft_52 (by decide) ?_
      refine lv_istore (lv' := [(4, .int 1), (3, .int 0), (0, .ref (ad 3)), (1, .int a), (2, .int b)]) hx hb dX0_isTopOrLeft_56 hl (by decide) rfl (fun ls hl => ?_)
      refine lv_iload_n hx hb dX0_isTopOrLeft_58 rfl (lv_at hl 1 rfl) ?_
      refine lv_if_ne (tgt := 67) hx hb dX0_isTopOrLeft_59 (by decide) (fun c59 => ?_) (fun c59 => ?_)
      · exact absurd c59 (by decide)
      · refine lv_iload hx hb dX0_isTopOrLeft_62 (lv_at hl 0 rfl) ?_
        refine lv_if_eq (tgt := 71) hx hb dX0_isTopOrLeft_64 (by decide) (fun c64 => ?_) (fun c64 => ?_)
        · exact absurd c64 (by decide)
        · refine lv_iconst (v := 1) hx hb dX0_isTopOrLeft_67 (by decide) ?_
          refine lv_goto (tgt := 72) hx hb dX0_isTopOrLeft_68 (by decide) ?_
          have hP9 := hP.sub (ws' := [(ad 3, .inr (0, [.ref (ad 6), .ref (ad 7), .ref (ad 8), .int se, .int th, .long ar])), (ad 6, .inl (tc 6, 3, .inl vx)), (ad 7, .inl (tc 7, 3, .inl vy))]) [0, 1, 2] rfl
          have hD9 := hD.sub (ws' := [(ad 3, .inr (0, [.ref (ad 6), .ref (ad 7), .ref (ad 8), .int se, .int th, .long ar])), (ad 6, .inl (tc 6, 3, .inl vx)), (ad 7, .inl (tc 7, 3, .inl vy))]) [0, 1, 2] (by decide) rfl
          exact W.zret (v := 1) hx hb hr rfl (fun t ht hW => ⟨⟨1, (), rfl, Or.inl ⟨by rw [hca, hcb] at c12 c48; simp only [TL, Int32.lt_iff_toInt_lt, Int32.le_iff_toInt_le, ← Int32.toInt_inj] at c12 c48 ⊢; omega, rfl⟩, by rw [ht]; exact hP9, va_K.moved hW.alike hK, hD9⟩, hS.F ht⟩) hS.2.2 dX0_isTopOrLeft_72
  · refine lv_aload_n hx hb dX0_isTopOrLeft_15 rfl (lv_at hl 0 rfl) ?_
    refine va_get (D := (dC, dI)) (ci := 0) (v := .ref (ad 6)) (C := RX0) (T := TX0) (N := 6) hx hb hts (by decide +kernel) hown hK hP 0 rfl rfl 0 (by decide) (hts (.fieldLink RX0 9 "TriangleRaster$Facet" "xs" "[I") (by decide +kernel)) (fun _ h9 => h9) rfl dX0_isTopOrLeft_16 ?_
    refine lv_iload_n hx hb dX0_isTopOrLeft_19 rfl (lv_at hl 2 rfl) ?_
    refine va_iald hx hb hK hP 1 0 rfl rfl hib dX0_isTopOrLeft_20 ?_
    refine lv_aload_n hx hb dX0_isTopOrLeft_21 rfl (lv_at hl 0 rfl) ?_
    refine va_get (D := (dC, dI)) (ci := 0) (v := .ref (ad 6)) (C := RX0) (T := TX0) (N := 6) hx hb hts (by decide +kernel) hown hK hP 0 rfl rfl 0 (by decide) (hts (.fieldLink RX0 9 "TriangleRaster$Facet" "xs" "[I") (by decide +kernel)) (fun _ h9 => h9) rfl dX0_isTopOrLeft_22 ?_
    refine lv_iload_n hx hb dX0_isTopOrLeft_25 rfl (lv_at hl 1 rfl) ?_
    refine va_iald hx hb hK hP 1 0 rfl rfl hia dX0_isTopOrLeft_26 ?_
    refine lv_icmp_le (tgt := 34) hx hb dX0_isTopOrLeft_27 (by decide) (fun c27 => ?_) (fun c27 => ?_)
    · refine lv_iconst (v := 0) hx hb dX0_isTopOrLeft_34 (by decide) ?_
      refine lv_istore_n (lv' := [(3, .int 0), (0, .ref (ad 3)), (1, .int a), (2, .int b)]) hx hb dX0_isTopOrLeft_35 rfl hl (by decide) rfl (fun ls hl => ?_)
      refine lv_aload_n hx hb dX0_isTopOrLeft_36 rfl (lv_at hl 1 rfl) ?_
      refine va_get (D := (dC, dI)) (ci := 0) (v := .ref (ad 7)) (C := RX0) (T := TX0) (N := 6) hx hb hts (by decide +kernel) hown hK hP 0 rfl rfl 1 (by decide) (hts (.fieldLink RX0 15 "TriangleRaster$Facet" "ys" "[I") (by decide +kernel)) (fun _ h9 => h9) rfl dX0_isTopOrLeft_37 ?_
      refine lv_iload_n hx hb dX0_isTopOrLeft_40 rfl (lv_at hl 3 rfl) ?_
      refine va_iald hx hb hK hP 2 1 rfl rfl hib dX0_isTopOrLeft_41 ?_
      refine lv_aload_n hx hb dX0_isTopOrLeft_42 rfl (lv_at hl 1 rfl) ?_
      refine va_get (D := (dC, dI)) (ci := 0) (v := .ref (ad 7)) (C := RX0) (T := TX0) (N := 6) hx hb hts (by decide +kernel) hown hK hP 0 rfl rfl 1 (by decide) (hts (.fieldLink RX0 15 "TriangleRaster$Facet" "ys" "[I") (by decide +kernel)) (fun _ h9 => h9) rfl dX0_isTopOrLeft_43 ?_
      refine lv_iload_n hx hb dX0_isTopOrLeft_46 rfl (lv_at hl 2 rfl) ?_
      refine va_iald hx hb hK hP 2 1 rfl rfl hia dX0_isTopOrLeft_47 ?_
      refine lv_icmp_ge (tgt := 55) hx hb dX0_isTopOrLeft_48 (by decide) (fun c48 => ?_) (fun c48 => ?_)
      · refine lv_iconst (v := 0) hx hb dX0_isTopOrLeft_55 (by decide) ?_
        refine lv_istore (lv' := [(4, .int 0), (3, .int 0), (0, .ref (ad 3)), (1, .int a), (2, .int b)]) hx hb dX0_isTopOrLeft_56 hl (by decide) rfl (fun ls hl => ?_)
        refine lv_iload_n hx hb dX0_isTopOrLeft_58 rfl (lv_at hl 1 rfl) ?_
        refine lv_if_ne (tgt := 67) hx hb dX0_isTopOrLeft_59 (by decide) (fun c59 => ?_) (fun c59 => ?_)
        · exact absurd c59 (by decide)
        · refine lv_iload hx hb dX0_isTopOrLeft_62 (lv_at hl 0 rfl) ?_
          refine lv_if_eq (tgt := 71) hx hb dX0_isTopOrLeft_64 (by decide) (fun c64 => ?_) (fun c64 => ?_)
          · refine lv_iconst (v := 0) hx hb dX0_isTopOrLeft_71 (by decide) ?_
            have hP9 := hP.sub (ws' := [(ad 3, .inr (0, [.ref (ad 6), .ref (ad 7), .ref (ad 8), .int se, .int th, .long ar])), (ad 6, .inl (tc 6, 3, .inl vx)), (ad 7, .inl (tc 7, 3, .inl vy))]) [0, 1, 2] rfl
            have hD9 := hD.sub (ws' := [(ad 3, .inr (0, [.ref (ad 6), .ref (ad 7), .ref (ad 8), .int se, .int th, .long ar])), (ad 6, .inl (tc 6, 3, .inl vx)), (ad 7, .inl (tc 7, 3, .inl vy))]) [0, 1, 2] (by decide) rfl
            exact W.zret (v := 0) hx hb hr rfl (fun t ht hW => ⟨⟨0, (), rfl, Or.inr ⟨by rw [hca, hcb] at c12 c27 c48; simp only [TL, Int32.lt_iff_toInt_lt, Int32.le_iff_toInt_le, ← Int32.toInt_inj] at c12 c27 c48 ⊢; omega, rfl⟩, by rw [ht]; exact hP9, va_K.moved hW.alike hK, hD9⟩, hS.F ht⟩) hS.2.2 dX0_isTopOrLeft_72
          · exact absurd c64 (by decide)
      · refine lv_iconst (v := 1) hx hb dX0_isTopOrLeft_51 (by decide) ?_
        refine lv_goto (tgt := 56) hx hb dX0_isTopOrLeft_52 (by decide) ?_
        refine lv_istore (lv' := [(4, .int 1), (3, .int 0), (0, .ref (ad 3)), (1, .int a), (2, .int b)]) hx hb dX0_isTopOrLeft_56 hl (by decide) rfl (fun ls hl => ?_)
        refine lv_iload_n hx hb dX0_isTopOrLeft_58 rfl (lv_at hl 1 rfl) ?_
        refine lv_if_ne (tgt := 67) hx hb dX0_isTopOrLeft_59 (by decide) (fun c59 => ?_) (fun c59 => ?_)
        · exact absurd c59 (by decide)
        · refine lv_iload hx hb dX0_isTopOrLeft_62 (lv_at hl 0 rfl) ?_
          refine lv_if_eq (tgt := 71) hx hb dX0_isTopOrLeft_64 (by decide) (fun c64 => ?_) (fun c64 => ?_)
          · exact absurd c64 (by decide)
          · refine lv_iconst (v := 1) hx hb dX0_isTopOrLeft_67 (by decide) ?_
            refine lv_goto (tgt := 72) hx hb dX0_isTopOrLeft_68 (by decide) ?_
            have hP9 := hP.sub (ws' := [(ad 3, .inr (0, [.ref (ad 6), .ref (ad 7), .ref (ad 8), .int se, .int th, .long ar])), (ad 6, .inl (tc 6, 3, .inl vx)), (ad 7, .inl (tc 7, 3, .inl vy))]) [0, 1, 2] rfl
            have hD9 := hD.sub (ws' := [(ad 3, .inr (0, [.ref (ad 6), .ref (ad 7), .ref (ad 8), .int se, .int th, .long ar])), (ad 6, .inl (tc 6, 3, .inl vx)), (ad 7, .inl (tc 7, 3, .inl vy))]) [0, 1, 2] (by decide) rfl
            exact W.zret (v := 1) hx hb hr rfl (fun t ht hW => ⟨⟨1, (), rfl, Or.inl ⟨by rw [hca, hcb] at c12 c27 c48; simp only [TL, Int32.lt_iff_toInt_lt, Int32.le_iff_toInt_le, ← Int32.toInt_inj] at c12 c27 c48 ⊢; omega, rfl⟩, by rw [ht]; exact hP9, va_K.moved hW.alike hK, hD9⟩, hS.F ht⟩) hS.2.2 dX0_isTopOrLeft_72
    · refine lv_iconst (v := 1) hx hb dX0_isTopOrLeft_30 (by decide) ?_
      refine lv_goto (tgt := 35) hx hb dX0_isTopOrLeft_31 (by decide) ?_
      refine lv_istore_n (lv' := [(3, .int 1), (0, .ref (ad 3)), (1, .int a), (2, .int b)]) hx hb dX0_isTopOrLeft_35 rfl hl (by decide) rfl (fun ls hl => ?_)
      refine lv_aload_n hx hb dX0_isTopOrLeft_36 rfl (lv_at hl 1 rfl) ?_
      refine va_get (D := (dC, dI)) (ci := 0) (v := .ref (ad 7)) (C := RX0) (T := TX0) (N := 6) hx hb hts (by decide +kernel) hown hK hP 0 rfl rfl 1 (by decide) (hts (.fieldLink RX0 15 "TriangleRaster$Facet" "ys" "[I") (by decide +kernel)) (fun _ h9 => h9) rfl dX0_isTopOrLeft_37 ?_
      refine lv_iload_n hx hb dX0_isTopOrLeft_40 rfl (lv_at hl 3 rfl) ?_
      refine va_iald hx hb hK hP 2 1 rfl rfl hib dX0_isTopOrLeft_41 ?_
      refine lv_aload_n hx hb dX0_isTopOrLeft_42 rfl (lv_at hl 1 rfl) ?_
      refine va_get (D := (dC, dI)) (ci := 0) (v := .ref (ad 7)) (C := RX0) (T := TX0) (N := 6) hx hb hts (by decide +kernel) hown hK hP 0 rfl rfl 1 (by decide) (hts (.fieldLink RX0 15 "TriangleRaster$Facet" "ys" "[I") (by decide +kernel)) (fun _ h9 => h9) rfl dX0_isTopOrLeft_43 ?_
      refine lv_iload_n hx hb dX0_isTopOrLeft_46 rfl (lv_at hl 2 rfl) ?_
      refine va_iald hx hb hK hP 2 1 rfl rfl hia dX0_isTopOrLeft_47 ?_
      refine lv_icmp_ge (tgt := 55) hx hb dX0_isTopOrLeft_48 (by decide) (fun c48 => ?_) (fun c48 => ?_)
      · refine lv_iconst (v := 0) hx hb dX0_isTopOrLeft_55 (by decide) ?_
        refine lv_istore (lv' := [(4, .int 0), (3, .int 1), (0, .ref (ad 3)), (1, .int a), (2, .int b)]) hx hb dX0_isTopOrLeft_56 hl (by decide) rfl (fun ls hl => ?_)
        refine lv_iload_n hx hb dX0_isTopOrLeft_58 rfl (lv_at hl 1 rfl) ?_
        refine lv_if_ne (tgt := 67) hx hb dX0_isTopOrLeft_59 (by decide) (fun c59 => ?_) (fun c59 => ?_)
        · refine lv_iconst (v := 1) hx hb dX0_isTopOrLeft_67 (by decide) ?_
          refine lv_goto (tgt := 72) hx hb dX0_isTopOrLeft_68 (by decide) ?_
          have hP9 := hP.sub (ws' := [(ad 3, .inr (0, [.ref (ad 6), .ref (ad 7), .ref (ad 8), .int se, .int th, .long ar])), (ad 6, .inl (tc 6, 3, .inl vx)), (ad 7, .inl (tc 7, 3, .inl vy))]) [0, 1, 2] rfl
          have hD9 := hD.sub (ws' := [(ad 3, .inr (0, [.ref (ad 6), .ref (ad 7), .ref (ad 8), .int se, .int th, .long ar])), (ad 6, .inl (tc 6, 3, .inl vx)), (ad 7, .inl (tc 7, 3, .inl vy))]) [0, 1, 2] (by decide) rfl
          exact W.zret (v := 1) hx hb hr rfl (fun t ht hW => ⟨⟨1, (), rfl, Or.inl ⟨by rw [hca, hcb] at c12 c27 c48; simp only [TL, Int32.lt_iff_toInt_lt, Int32.le_iff_toInt_le, ← Int32.toInt_inj] at c12 c27 c48 ⊢; omega, rfl⟩, by rw [ht]; exact hP9, va_K.moved hW.alike hK, hD9⟩, hS.F ht⟩) hS.2.2 dX0_isTopOrLeft_72
        · exact absurd c59 (by decide)
      · refine lv_iconst (v := 1) hx hb dX0_isTopOrLeft_51 (by decide) ?_
        refine lv_goto (tgt := 56) hx hb dX0_isTopOrLeft_52 (by decide) ?_
        refine lv_istore (lv' := [(4, .int 1), (3, .int 1), (0, .ref (ad 3)), (1, .int a), (2, .int b)]) hx hb dX0_isTopOrLeft_56 hl (by decide) rfl (fun ls hl => ?_)
        refine lv_iload_n hx hb dX0_isTopOrLeft_58 rfl (lv_at hl 1 rfl) ?_
        refine lv_if_ne (tgt := 67) hx hb dX0_isTopOrLeft_59 (by decide) (fun c59 => ?_) (fun c59 => ?_)
        · refine lv_iconst (v := 1) hx hb dX0_isTopOrLeft_67 (by decide) ?_
          refine lv_goto (tgt := 72) hx hb dX0_isTopOrLeft_68 (by decide) ?_
          have hP9 := hP.sub (ws' := [(ad 3, .inr (0, [.ref (ad 6), .ref (ad 7), .ref (ad 8), .int se, .int th, .long ar])), (ad 6, .inl (tc 6, 3, .inl vx)), (ad 7, .inl (tc 7, 3, .inl vy))]) [0, 1, 2] rfl
          have hD9 := hD.sub (ws' := [(ad 3, .inr (0, [.ref (ad 6), .ref (ad 7), .ref (ad 8), .int se, .int th, .long ar])), (ad 6, .inl (tc 6, 3, .inl vx)), (ad 7, .inl (tc 7, 3, .inl vy))]) [0, 1, 2] (by decide) rfl
          exact W.zret (v := 1) hx hb hr rfl (fun t ht hW => ⟨⟨1, (), rfl, Or.inl ⟨by rw [hca, hcb] at c12 c27 c48; simp only [TL, Int32.lt_iff_toInt_lt, Int32.le_iff_toInt_le, ← Int32.toInt_inj] at c12 c27 c48 ⊢; omega, rfl⟩, by rw [ht]; exact hP9, va_K.moved hW.alike hK, hD9⟩, hS.F ht⟩) hS.2.2 dX0_isTopOrLeft_72
        · exact absurd c59 (by decide)

set_option maxHeartbeats 4000000 in
set_option maxRecDepth 100000 in
/-- isInside -/
theorem c_X0_isInside (l : Launch) (dC : Nat → ClassId) (dI : Nat → Nat → Nat) (sz : Nat) (ad : Nat → Nat) (tc : Nat → ClassId) (se th : Int32) (ar : Int64) (vx vy : Nat → Int32) (x : Int64) (a b : Int32) (i j : Nat) (hi : i < 3) (hj : j < 3) (ea : a = nI i) (eb : b = nI j) : Met l yX0_isInside wsX0_isInside ({ frames := 1, cells := 0, slots := 0, locals := 24 }) (mP (dC, dI) vwCl [(tc 6, .int), (tc 7, .int)] [(ad 3, .inr (0, [.ref (ad 6), .ref (ad 7), .ref (ad 8), .int se, .int th, .long ar])), (ad 6, .inl (tc 6, 3, .inl vx)), (ad 7, .inl (tc 7, 3, .inl vy))] sz [.ref (ad 3), .long x, .int a, .int b]) (va_Qi (fun (r : Int32) (u : Unit) => ((0 < x.toInt ∨ (x.toInt = 0 ∧ TL vx vy i j)) ∧ r = 1) ∨ (¬ (0 < x.toInt ∨ (x.toInt = 0 ∧ TL vx vy i j)) ∧ r = 0)) (mB (dC, dI) vwCl [(tc 6, .int), (tc 7, .int)] (va_A [(ad 3, .inr (0, [.ref (ad 6), .ref (ad 7), .ref (ad 8), .int se, .int th, .long ar])), (ad 6, .inl (tc 6, 3, .inl vx)), (ad 7, .inl (tc 7, 3, .inl vy))] sz) (fun u => [(ad 3, .inr (0, [.ref (ad 6), .ref (ad 7), .ref (ad 8), .int se, .int th, .long ar])), (ad 6, .inl (tc 6, 3, .inl vx)), (ad 7, .inl (tc 7, 3, .inl vy))])) (va_A [(ad 3, .inr (0, [.ref (ad 6), .ref (ad 7), .ref (ad 8), .int se, .int th, .long ar])), (ad 6, .inl (tc 6, 3, .inl vx)), (ad 7, .inl (tc 7, 3, .inl vy))] sz)) 0 0 (va_A [(ad 3, .inr (0, [.ref (ad 6), .ref (ad 7), .ref (ad 8), .int se, .int th, .long ar])), (ad 6, .inl (tc 6, 3, .inl vx)), (ad 7, .inl (tc 7, 3, .inl vy))] sz) := by
  refine Met.ofW (cc := cX0_isInside) (maxL := 5) (ret := (some .boolean)) (by decide) rfl ?_
  intro p e s m args below meth cD s₁ B hml hv
  obtain ⟨rfl, hsz, hP, hK, hD0, hN⟩ := hv
  have hx := B.exec
  have hb := B.bytes
  have hr := B.returns
  have hts := atoms_spec (ws := wsX0_isInside) B.pre
  have hown : s.vm.findClass RX0 = some m.cls := findClass_of_methodNamed B.named
  have hlocks := B.notSynchronized
  subst hsz
  have hD := hD0.self (sz := s.heap.size)
  generalize hAe : va_A [(ad 3, .inr (0, [.ref (ad 6), .ref (ad 7), .ref (ad 8), .int se, .int th, .long ar])), (ad 6, .inl (tc 6, 3, .inl vx)), (ad 7, .inl (tc 7, 3, .inl vy))] s.heap.size = A at hD ⊢
  have hA : ∀ q : Nat, s.heap.size ≤ q → A q := fun q h => by rw [← hAe]; exact Or.inr h
  have hS : va_S A s.heap s.heap [] := va_S.rf
  have hP : va_P (dC, dI) vwCl [(ad 3, .inr (0, [.ref (ad 6), .ref (ad 7), .ref (ad 8), .int se, .int th, .long ar])), (ad 6, .inl (tc 6, 3, .inl vx)), (ad 7, .inl (tc 7, 3, .inl vy))] s.heap := hP
  have hl := lv_entry ([.ref (ad 3), .long x, .int a, .int b]) (n := 5) (Nat.le_of_ble_eq_true rfl)
  rw [lg_entry_eq]
  generalize (lg_sl ([.ref (ad 3), .long x, .int a, .int b]) ++ List.replicate (5 - (lg_sl ([.ref (ad 3), .long x, .int a, .int b])).length) Slot.unset).toArray = ls at hl ⊢
  have hl : lv_has ls 5 [(0, .ref (ad 3)), (1, .long x), (3, .int a), (4, .int b)] := hl
  refine lv_lload_n hx hb dX0_isInside_0 rfl (lv_at hl 1 rfl) ?_
  refine lv_lconst (v := 0) hx hb dX0_isInside_1 (by decide) ?_
  refine W.lcmp hx hb dX0_isInside_2 ?_
  refine lv_if_gt (tgt := 22) hx hb dX0_isInside_3 (by decide) (fun c3 => ?_) (fun c3 => ?_)
  · refine lv_iconst (v := 1) hx hb dX0_isInside_22 (by decide) ?_
    refine lv_goto (tgt := 27) hx hb dX0_isInside_23 (by decide) ?_
    have hP9 := hP.sub (ws' := [(ad 3, .inr (0, [.ref (ad 6), .ref (ad 7), .ref (ad 8), .int se, .int th, .long ar])), (ad 6, .inl (tc 6, 3, .inl vx)), (ad 7, .inl (tc 7, 3, .inl vy))]) [0, 1, 2] rfl
    have hD9 := hD.sub (ws' := [(ad 3, .inr (0, [.ref (ad 6), .ref (ad 7), .ref (ad 8), .int se, .int th, .long ar])), (ad 6, .inl (tc 6, 3, .inl vx)), (ad 7, .inl (tc 7, 3, .inl vy))]) [0, 1, 2] (by decide) rfl
    exact W.zret (v := 1) hx hb hr rfl (fun t ht hW => ⟨⟨1, (), rfl, Or.inl ⟨by rw [lg_cmp_gt, Int64.lt_iff_toInt_lt, Int64.toInt_zero] at c3; exact Or.inl c3, rfl⟩, by rw [ht]; exact hP9, va_K.moved hW.alike hK, hD9⟩, hS.F ht⟩) hS.2.2 dX0_isInside_27
  · refine lv_lload_n hx hb dX0_isInside_6 rfl (lv_at hl 1 rfl) ?_
    refine lv_lconst (v := 0) hx hb dX0_isInside_7 (by decide) ?_
    refine W.lcmp hx hb dX0_isInside_8 ?_
    refine lv_if_ne (tgt := 26) hx hb dX0_isInside_9 (by decide) (fun c9 => ?_) (fun c9 => ?_)
    · refine lv_iconst (v := 0) hx hb dX0_isInside_26 (by decide) ?_
      have hP9 := hP.sub (ws' := [(ad 3, .inr (0, [.ref (ad 6), .ref (ad 7), .ref (ad 8), .int se, .int th, .long ar])), (ad 6, .inl (tc 6, 3, .inl vx)), (ad 7, .inl (tc 7, 3, .inl vy))]) [0, 1, 2] rfl
      have hD9 := hD.sub (ws' := [(ad 3, .inr (0, [.ref (ad 6), .ref (ad 7), .ref (ad 8), .int se, .int th, .long ar])), (ad 6, .inl (tc 6, 3, .inl vx)), (ad 7, .inl (tc 7, 3, .inl vy))]) [0, 1, 2] (by decide) rfl
      exact W.zret (v := 0) hx hb hr rfl (fun t ht hW => ⟨⟨0, (), rfl, Or.inr ⟨by rw [lg_cmp_gt, Int64.lt_iff_toInt_lt, Int64.toInt_zero] at c3; rw [lg_cmp_eq, ← Int64.toInt_inj, Int64.toInt_zero] at c9; exact fun h => h.elim c3 (fun h2 => c9 h2.1), rfl⟩, by rw [ht]; exact hP9, va_K.moved hW.alike hK, hD9⟩, hS.F ht⟩) hS.2.2 dX0_isInside_27
    · refine lv_aload_n hx hb dX0_isInside_12 rfl (lv_at hl 0 rfl) ?_
      refine lv_iload_n hx hb dX0_isInside_13 rfl (lv_at hl 2 rfl) ?_
      refine lv_iload hx hb dX0_isInside_14 (lv_at hl 3 rfl) ?_
      refine m_calli (cs := [(ad 3, .inr (0, [.ref (ad 6), .ref (ad 7), .ref (ad 8), .int se, .int th, .long ar])), (ad 6, .inl (tc 6, 3, .inl vx)), (ad 7, .inl (tc 7, 3, .inl vy))]) (wr := []) hP hD hS hA [0, 1, 2] [] rfl rfl (by decide) (by decide) (va_runV (As := [.int a, .int b]) (rest := []) ⟨hx, hb, hml, hown, hts⟩ (c_X0_isTopOrLeft l dC dI _ ad tc se th ar vx vy a b i j hi hj ea eb) (cwV 2 hts gX0_isInside_X0_isTopOrLeft rfl rfl rfl (by decide +kernel) ⟨Nat.le_of_ble_eq_true rfl, Nat.le_of_ble_eq_true rfl⟩) (m_preV (ci := 0) (q0 := 0) (hP.sub [0, 1, 2] rfl) (hK.sub [0, 1] rfl) (hD.sub [0, 1, 2] (by decide) rfl) hN rfl rfl) rfl rfl hl.1 rfl (lv_room (Nat.le_of_ble_eq_true rfl)) dX0_isInside_16 ⟨Nat.le_of_ble_eq_true rfl, Nat.le_of_ble_eq_true rfl⟩) (fun r16 _ H locs q16 _ hP hD hS => ?_)
      have hP : va_P (dC, dI) vwCl [(ad 3, .inr (0, [.ref (ad 6), .ref (ad 7), .ref (ad 8), .int se, .int th, .long ar])), (ad 6, .inl (tc 6, 3, .inl vx)), (ad 7, .inl (tc 7, 3, .inl vy))] H := hP.sub [0, 1, 2] rfl
      have hD : va_D A [(ad 3, .inr (0, [.ref (ad 6), .ref (ad 7), .ref (ad 8), .int se, .int th, .long ar])), (ad 6, .inl (tc 6, 3, .inl vx)), (ad 7, .inl (tc 7, 3, .inl vy))] := hD.sub [0, 1, 2] (by decide) rfl
      refine lv_if_eq (tgt := 26) hx hb dX0_isInside_19 (by decide) (fun c19 => ?_) (fun c19 => ?_)
      · refine lv_iconst (v := 0) hx hb dX0_isInside_26 (by decide) ?_
        have hP9 := hP.sub (ws' := [(ad 3, .inr (0, [.ref (ad 6), .ref (ad 7), .ref (ad 8), .int se, .int th, .long ar])), (ad 6, .inl (tc 6, 3, .inl vx)), (ad 7, .inl (tc 7, 3, .inl vy))]) [0, 1, 2] rfl
        have hD9 := hD.sub (ws' := [(ad 3, .inr (0, [.ref (ad 6), .ref (ad 7), .ref (ad 8), .int se, .int th, .long ar])), (ad 6, .inl (tc 6, 3, .inl vx)), (ad 7, .inl (tc 7, 3, .inl vy))]) [0, 1, 2] (by decide) rfl
        exact W.zret (v := 0) hx hb hr rfl (fun t ht hW => ⟨⟨0, (), rfl, Or.inr ⟨by rw [lg_cmp_gt, Int64.lt_iff_toInt_lt, Int64.toInt_zero] at c3; rw [lg_cmp_eq, ← Int64.toInt_inj, Int64.toInt_zero] at c9; exact fun h => h.elim c3 (fun h2 => (b01 q16).mp c19 h2.2), rfl⟩, by rw [ht]; exact hP9, va_K.moved hW.alike hK, hD9⟩, hS.F ht⟩) hS.2.2 dX0_isInside_27
      · refine lv_iconst (v := 1) hx hb dX0_isInside_22 (by decide) ?_
        refine lv_goto (tgt := 27) hx hb dX0_isInside_23 (by decide) ?_
        have hP9 := hP.sub (ws' := [(ad 3, .inr (0, [.ref (ad 6), .ref (ad 7), .ref (ad 8), .int se, .int th, .long ar])), (ad 6, .inl (tc 6, 3, .inl vx)), (ad 7, .inl (tc 7, 3, .inl vy))]) [0, 1, 2] rfl
        have hD9 := hD.sub (ws' := [(ad 3, .inr (0, [.ref (ad 6), .ref (ad 7), .ref (ad 8), .int se, .int th, .long ar])), (ad 6, .inl (tc 6, 3, .inl vx)), (ad 7, .inl (tc 7, 3, .inl vy))]) [0, 1, 2] (by decide) rfl
        exact W.zret (v := 1) hx hb hr rfl (fun t ht hW => ⟨⟨1, (), rfl, Or.inl ⟨by rw [lg_cmp_gt, Int64.lt_iff_toInt_lt, Int64.toInt_zero] at c3; rw [lg_cmp_eq, ← Int64.toInt_inj, Int64.toInt_zero] at c9; exact Or.inr ⟨c9, Classical.byContradiction (fun h => c19 ((b01 q16).mpr h))⟩, rfl⟩, by rw [ht]; exact hP9, va_K.moved hW.alike hK, hD9⟩, hS.F ht⟩) hS.2.2 dX0_isInside_27

set_option maxHeartbeats 4000000 in
set_option maxRecDepth 100000 in
/-- takeRound -/
theorem c_X0_takeRound (l : Launch) (dC : Nat → ClassId) (dI : Nat → Nat → Nat) (sz : Nat) (ad : Nat → Nat) (tc : Nat → ClassId) (se th : Int32) (ar : Int64) (vx vy : Nat → Int32) (hv : vb vx vy) : Met l yX0_takeRound wsX0_takeRound ({ frames := 1, cells := 0, slots := 0, locals := 28 }) (mP (dC, dI) vwCl [(tc 6, .int), (tc 7, .int)] [(ad 3, .inr (0, [.ref (ad 6), .ref (ad 7), .ref (ad 8), .int se, .int th, .long ar])), (ad 6, .inl (tc 6, 3, .inl vx)), (ad 7, .inl (tc 7, 3, .inl vy))] sz [.ref (ad 3)]) (va_Qv (fun (u : Int32 × Int32 × Int64) => facOK vx vy u.1 u.2.1 u.2.2) (mB (dC, dI) vwCl [(tc 6, .int), (tc 7, .int)] (va_A [(ad 3, .inr (0, [.ref (ad 6), .ref (ad 7), .ref (ad 8), .int se, .int th, .long ar])), (ad 6, .inl (tc 6, 3, .inl vx)), (ad 7, .inl (tc 7, 3, .inl vy))] sz) (fun u => [(ad 3, .inr (0, [.ref (ad 6), .ref (ad 7), .ref (ad 8), .int u.1, .int u.2.1, .long u.2.2])), (ad 6, .inl (tc 6, 3, .inl vx)), (ad 7, .inl (tc 7, 3, .inl vy))])) (va_A [(ad 3, .inr (0, [.ref (ad 6), .ref (ad 7), .ref (ad 8), .int se, .int th, .long ar])), (ad 6, .inl (tc 6, 3, .inl vx)), (ad 7, .inl (tc 7, 3, .inl vy))] sz)) 0 0 (va_A [(ad 3, .inr (0, [.ref (ad 6), .ref (ad 7), .ref (ad 8), .int se, .int th, .long ar])), (ad 6, .inl (tc 6, 3, .inl vx)), (ad 7, .inl (tc 7, 3, .inl vy))] sz) := by
  refine Met.ofW (cc := cX0_takeRound) (maxL := 3) (ret := none) (by decide) rfl ?_
  intro p e s m args below meth cD s₁ B hml hv
  obtain ⟨rfl, hsz, hP, hK, hD0, hN⟩ := hv
  have hx := B.exec
  have hb := B.bytes
  have hr := B.returns
  have hts := atoms_spec (ws := wsX0_takeRound) B.pre
  have hown : s.vm.findClass RX0 = some m.cls := findClass_of_methodNamed B.named
  have hlocks := B.notSynchronized
  subst hsz
  have hD := hD0.self (sz := s.heap.size)
  generalize hAe : va_A [(ad 3, .inr (0, [.ref (ad 6), .ref (ad 7), .ref (ad 8), .int se, .int th, .long ar])), (ad 6, .inl (tc 6, 3, .inl vx)), (ad 7, .inl (tc 7, 3, .inl vy))] s.heap.size = A at hD ⊢
  have hA : ∀ q : Nat, s.heap.size ≤ q → A q := fun q h => by rw [← hAe]; exact Or.inr h
  have hS : va_S A s.heap s.heap [] := va_S.rf
  have hP : va_P (dC, dI) vwCl [(ad 3, .inr (0, [.ref (ad 6), .ref (ad 7), .ref (ad 8), .int se, .int th, .long ar])), (ad 6, .inl (tc 6, 3, .inl vx)), (ad 7, .inl (tc 7, 3, .inl vy))] s.heap := hP
  have hl := lv_entry ([.ref (ad 3)]) (n := 3) (Nat.le_of_ble_eq_true rfl)
  rw [lg_entry_eq]
  generalize (lg_sl ([.ref (ad 3)]) ++ List.replicate (3 - (lg_sl ([.ref (ad 3)])).length) Slot.unset).toArray = ls at hl ⊢
  have hl : lv_has ls 3 [(0, .ref (ad 3))] := hl
  refine lv_aload_n hx hb dX0_takeRound_0 rfl (lv_at hl 0 rfl) ?_
  refine lv_iconst (v := 0) hx hb dX0_takeRound_1 (by decide) ?_
  refine lv_iconst (v := 1) hx hb dX0_takeRound_2 (by decide) ?_
  refine lv_aload_n hx hb dX0_takeRound_3 rfl (lv_at hl 0 rfl) ?_
  refine va_get (D := (dC, dI)) (ci := 0) (v := .ref (ad 6)) (C := RX0) (T := TX0) (N := 6) hx hb hts (by decide +kernel) hown hK hP 0 rfl rfl 0 (by decide) (hts (.fieldLink RX0 9 "TriangleRaster$Facet" "xs" "[I") (by decide +kernel)) (fun _ h9 => h9) rfl dX0_takeRound_4 ?_
  refine lv_iconst (v := 2) hx hb dX0_takeRound_7 (by decide) ?_
  refine va_iald hx hb hK hP 1 0 rfl rfl (by unfold vp_in; decide) dX0_takeRound_8 ?_
  refine lv_aload_n hx hb dX0_takeRound_9 rfl (lv_at hl 0 rfl) ?_
  refine va_get (D := (dC, dI)) (ci := 0) (v := .ref (ad 7)) (C := RX0) (T := TX0) (N := 6) hx hb hts (by decide +kernel) hown hK hP 0 rfl rfl 1 (by decide) (hts (.fieldLink RX0 15 "TriangleRaster$Facet" "ys" "[I") (by decide +kernel)) (fun _ h9 => h9) rfl dX0_takeRound_10 ?_
  refine lv_iconst (v := 2) hx hb dX0_takeRound_13 (by decide) ?_
  refine va_iald hx hb hK hP 2 1 rfl rfl (by unfold vp_in; decide) dX0_takeRound_14 ?_
  refine m_calll (cs := [(ad 3, .inr (0, [.ref (ad 6), .ref (ad 7), .ref (ad 8), .int se, .int th, .long ar])), (ad 6, .inl (tc 6, 3, .inl vx)), (ad 7, .inl (tc 7, 3, .inl vy))]) (wr := []) hP hD hS hA [0, 1, 2] [] rfl rfl (by decide) (by decide) (va_runV (As := [.int 0, .int 1, .int (vx 2), .int (vy 2)]) (rest := []) ⟨hx, hb, hml, hown, hts⟩ (c_X0_edge l dC dI _ ad tc se th ar vx vy hv 0 1 0 1 (by omega) (by omega) rfl rfl (vx 2) (vy 2) (Nat.le_trans (hv 2 (by omega)).1 (by omega)) (Nat.le_trans (hv 2 (by omega)).2 (by omega))) (cwV 4 hts gX0_takeRound_X0_edge rfl rfl rfl (by decide +kernel) ⟨Nat.le_of_ble_eq_true rfl, Nat.le_of_ble_eq_true rfl⟩) (m_preV (ci := 0) (q0 := 0) (hP.sub [0, 1, 2] rfl) (hK.sub [0, 1] rfl) (hD.sub [0, 1, 2] (by decide) rfl) hN rfl rfl) rfl rfl hl.1 rfl (lv_room (Nat.le_of_ble_eq_true rfl)) dX0_takeRound_15 ⟨Nat.le_of_ble_eq_true rfl, Nat.le_of_ble_eq_true rfl⟩) (fun r15 _ H locs q15 _ hP hD hS => ?_)
  have hP : va_P (dC, dI) vwCl [(ad 3, .inr (0, [.ref (ad 6), .ref (ad 7), .ref (ad 8), .int se, .int th, .long ar])), (ad 6, .inl (tc 6, 3, .inl vx)), (ad 7, .inl (tc 7, 3, .inl vy))] H := hP.sub [0, 1, 2] rfl
  have hD : va_D A [(ad 3, .inr (0, [.ref (ad 6), .ref (ad 7), .ref (ad 8), .int se, .int th, .long ar])), (ad 6, .inl (tc 6, 3, .inl vx)), (ad 7, .inl (tc 7, 3, .inl vy))] := hD.sub [0, 1, 2] (by decide) rfl
  have hT : r15.toInt = tT vx vy := q15
  have hTb := tT_b hv
  refine lv_lstore_n (lv' := [(1, .long r15), (0, .ref (ad 3))]) hx hb dX0_takeRound_18 rfl hl (by decide) rfl (fun ls hl => ?_)
  refine lv_aload_n hx hb dX0_takeRound_19 rfl (lv_at hl 1 rfl) ?_
  refine lv_lload_n hx hb dX0_takeRound_20 rfl (lv_at hl 0 rfl) ?_
  refine lv_lconst (v := 0) hx hb dX0_takeRound_21 (by decide) ?_
  refine W.lcmp hx hb dX0_takeRound_22 ?_
  refine lv_if_ge (tgt := 30) hx hb dX0_takeRound_23 (by decide) (fun c23 => ?_) (fun c23 => ?_)
  · refine lv_iconst (v := 1) hx hb dX0_takeRound_30 (by decide) ?_
    refine va_put (D := (dC, dI)) (ci := 0) (v := .int 1) (ty := .int) (C := RX0) (T := TX0) (N := 6) hx hb hts (by decide +kernel) tyX0 tyX0_ok nmX0 hown hK hP hD hS 0 rfl rfl 3 (by decide) (hts (.fieldLink RX0 21 "TriangleRaster$Facet" "second" "I") (by decide +kernel)) (fun _ h9 => h9) rfl (by decide +kernel) rfl rfl (Nat.le_of_ble_eq_true rfl) dX0_takeRound_31 (fun H locs hP hD hS => ?_)
    have hP : va_P (dC, dI) vwCl [(ad 3, .inr (0, [.ref (ad 6), .ref (ad 7), .ref (ad 8), .int 1, .int th, .long ar])), (ad 6, .inl (tc 6, 3, .inl vx)), (ad 7, .inl (tc 7, 3, .inl vy))] H := hP
    have hD : va_D A [(ad 3, .inr (0, [.ref (ad 6), .ref (ad 7), .ref (ad 8), .int 1, .int th, .long ar])), (ad 6, .inl (tc 6, 3, .inl vx)), (ad 7, .inl (tc 7, 3, .inl vy))] := hD
    refine lv_aload_n hx hb dX0_takeRound_34 rfl (lv_at hl 1 rfl) ?_
    refine lv_lload_n hx hb dX0_takeRound_35 rfl (lv_at hl 0 rfl) ?_
    refine lv_lconst (v := 0) hx hb dX0_takeRound_36 (by decide) ?_
    refine W.lcmp hx hb dX0_takeRound_37 ?_
    refine lv_if_ge (tgt := 45) hx hb dX0_takeRound_38 (by decide) (fun c38 => ?_) (fun c38 => ?_)
    · refine lv_iconst (v := 2) hx hb dX0_takeRound_45 (by decide) ?_
      refine va_put (D := (dC, dI)) (ci := 0) (v := .int 2) (ty := .int) (C := RX0) (T := TX0) (N := 6) hx hb hts (by decide +kernel) tyX0 tyX0_ok nmX0 hown hK hP hD hS 0 rfl rfl 4 (by decide) (hts (.fieldLink RX0 25 "TriangleRaster$Facet" "third" "I") (by decide +kernel)) (fun _ h9 => h9) rfl (by decide +kernel) rfl rfl (Nat.le_of_ble_eq_true rfl) dX0_takeRound_46 (fun H locs hP hD hS => ?_)
      have hP : va_P (dC, dI) vwCl [(ad 3, .inr (0, [.ref (ad 6), .ref (ad 7), .ref (ad 8), .int 1, .int 2, .long ar])), (ad 6, .inl (tc 6, 3, .inl vx)), (ad 7, .inl (tc 7, 3, .inl vy))] H := hP
      have hD : va_D A [(ad 3, .inr (0, [.ref (ad 6), .ref (ad 7), .ref (ad 8), .int 1, .int 2, .long ar])), (ad 6, .inl (tc 6, 3, .inl vx)), (ad 7, .inl (tc 7, 3, .inl vy))] := hD
      refine lv_aload_n hx hb dX0_takeRound_49 rfl (lv_at hl 1 rfl) ?_
      refine lv_lload_n hx hb dX0_takeRound_50 rfl (lv_at hl 0 rfl) ?_
      refine va_mabs_long hx hb (by rw [hml]; exact hl.1.symm) hown (hts (.methodLink RX0 39 Lib.MathLoose.abs_long.x) (by decide +kernel)) (hts (.static Lib.MathLoose.abs_long.x) (by decide +kernel)) (hts (.initialized "java/lang/Math") (by decide +kernel)) (hts _ (List.mem_of_getElem? (i := 8) rfl)) (Nat.le_of_ble_eq_true rfl) (Nat.le_of_ble_eq_true rfl) (Nat.zero_le _) (Nat.zero_le _) dX0_takeRound_51 ?_
      refine va_put (D := (dC, dI)) (ci := 0) (v := .long (if 0 < r15 then r15 else -r15)) (ty := .long) (C := RX0) (T := TX0) (N := 6) hx hb hts (by decide +kernel) tyX0 tyX0_ok nmX0 hown hK hP hD hS 0 rfl rfl 5 (by decide) (hts (.fieldLink RX0 28 "TriangleRaster$Facet" "area" "J") (by decide +kernel)) (fun _ h9 => h9) rfl (by decide +kernel) rfl rfl (Nat.le_of_ble_eq_true rfl) dX0_takeRound_54 (fun H locs hP hD hS => ?_)
      have hP : va_P (dC, dI) vwCl [(ad 3, .inr (0, [.ref (ad 6), .ref (ad 7), .ref (ad 8), .int 1, .int 2, .long (if 0 < r15 then r15 else -r15)])), (ad 6, .inl (tc 6, 3, .inl vx)), (ad 7, .inl (tc 7, 3, .inl vy))] H := hP
      have hD : va_D A [(ad 3, .inr (0, [.ref (ad 6), .ref (ad 7), .ref (ad 8), .int 1, .int 2, .long (if 0 < r15 then r15 else -r15)])), (ad 6, .inl (tc 6, 3, .inl vx)), (ad 7, .inl (tc 7, 3, .inl vy))] := hD
      have hP9 := hP.sub (ws' := [(ad 3, .inr (0, [.ref (ad 6), .ref (ad 7), .ref (ad 8), .int 1, .int 2, .long (if 0 < r15 then r15 else -r15)])), (ad 6, .inl (tc 6, 3, .inl vx)), (ad 7, .inl (tc 7, 3, .inl vy))]) [0, 1, 2] rfl
      have hD9 := hD.sub (ws' := [(ad 3, .inr (0, [.ref (ad 6), .ref (ad 7), .ref (ad 8), .int 1, .int 2, .long (if 0 < r15 then r15 else -r15)])), (ad 6, .inl (tc 6, 3, .inl vx)), (ad 7, .inl (tc 7, 3, .inl vy))]) [0, 1, 2] (by decide) rfl
      exact W.vret hx hb hr (fun t ht hW => ⟨⟨(1, 2, if 0 < r15 then r15 else -r15), rfl, by rw [lg_cmp_ge, Int64.le_iff_toInt_le, Int64.toInt_zero, hT] at c23; exact Or.inr ⟨by omega, rfl, rfl, by show (if 0 < r15 then r15 else -r15).toInt = _; by_cases h0 : (0 : Int64) < r15; rw [if_pos h0, hT]; rw [if_neg h0, Jvm.Kit.i64_neg (by omega), hT]; rw [Int64.lt_iff_toInt_lt, Int64.toInt_zero, hT] at h0; omega⟩, by rw [ht]; exact hP9, va_K.moved hW.alike hK, hD9⟩, hS.F ht⟩) hS.2.2 dX0_takeRound_57
    · exact absurd c23 c38
  · refine lv_iconst (v := 2) hx hb dX0_takeRound_26 (by decide) ?_
    refine lv_goto (tgt := 31) hx hb dX0_takeRound_27 (by decide) ?_
    refine va_put (D := (dC, dI)) (ci := 0) (v := .int 2) (ty := .int) (C := RX0) (T := TX0) (N := 6) hx hb hts (by decide +kernel) tyX0 tyX0_ok nmX0 hown hK hP hD hS 0 rfl rfl 3 (by decide) (hts (.fieldLink RX0 21 "TriangleRaster$Facet" "second" "I") (by decide +kernel)) (fun _ h9 => h9) rfl (by decide +kernel) rfl rfl (Nat.le_of_ble_eq_true rfl) dX0_takeRound_31 (fun H locs hP hD hS => ?_)
    have hP : va_P (dC, dI) vwCl [(ad 3, .inr (0, [.ref (ad 6), .ref (ad 7), .ref (ad 8), .int 2, .int th, .long ar])), (ad 6, .inl (tc 6, 3, .inl vx)), (ad 7, .inl (tc 7, 3, .inl vy))] H := hP
    have hD : va_D A [(ad 3, .inr (0, [.ref (ad 6), .ref (ad 7), .ref (ad 8), .int 2, .int th, .long ar])), (ad 6, .inl (tc 6, 3, .inl vx)), (ad 7, .inl (tc 7, 3, .inl vy))] := hD
    refine lv_aload_n hx hb dX0_takeRound_34 rfl (lv_at hl 1 rfl) ?_
    refine lv_lload_n hx hb dX0_takeRound_35 rfl (lv_at hl 0 rfl) ?_
    refine lv_lconst (v := 0) hx hb dX0_takeRound_36 (by decide) ?_
    refine W.lcmp hx hb dX0_takeRound_37 ?_
    refine lv_if_ge (tgt := 45) hx hb dX0_takeRound_38 (by decide) (fun c38 => ?_) (fun c38 => ?_)
    · exact absurd c38 c23
    · refine lv_iconst (v := 1) hx hb dX0_takeRound_41 (by decide) ?_
      refine lv_goto (tgt := 46) hx hb dX0_takeRound_42 (by decide) ?_
      refine va_put (D := (dC, dI)) (ci := 0) (v := .int 1) (ty := .int) (C := RX0) (T := TX0) (N := 6) hx hb hts (by decide +kernel) tyX0 tyX0_ok nmX0 hown hK hP hD hS 0 rfl rfl 4 (by decide) (hts (.fieldLink RX0 25 "TriangleRaster$Facet" "third" "I") (by decide +kernel)) (fun _ h9 => h9) rfl (by decide +kernel) rfl rfl (Nat.le_of_ble_eq_true rfl) dX0_takeRound_46 (fun H locs hP hD hS => ?_)
      have hP : va_P (dC, dI) vwCl [(ad 3, .inr (0, [.ref (ad 6), .ref (ad 7), .ref (ad 8), .int 2, .int 1, .long ar])), (ad 6, .inl (tc 6, 3, .inl vx)), (ad 7, .inl (tc 7, 3, .inl vy))] H := hP
      have hD : va_D A [(ad 3, .inr (0, [.ref (ad 6), .ref (ad 7), .ref (ad 8), .int 2, .int 1, .long ar])), (ad 6, .inl (tc 6, 3, .inl vx)), (ad 7, .inl (tc 7, 3, .inl vy))] := hD
      refine lv_aload_n hx hb dX0_takeRound_49 rfl (lv_at hl 1 rfl) ?_
      refine lv_lload_n hx hb dX0_takeRound_50 rfl (lv_at hl 0 rfl) ?_
      refine va_mabs_long hx hb (by rw [hml]; exact hl.1.symm) hown (hts (.methodLink RX0 39 Lib.MathLoose.abs_long.x) (by decide +kernel)) (hts (.static Lib.MathLoose.abs_long.x) (by decide +kernel)) (hts (.initialized "java/lang/Math") (by decide +kernel)) (hts _ (List.mem_of_getElem? (i := 8) rfl)) (Nat.le_of_ble_eq_true rfl) (Nat.le_of_ble_eq_true rfl) (Nat.zero_le _) (Nat.zero_le _) dX0_takeRound_51 ?_
      refine va_put (D := (dC, dI)) (ci := 0) (v := .long (if 0 < r15 then r15 else -r15)) (ty := .long) (C := RX0) (T := TX0) (N := 6) hx hb hts (by decide +kernel) tyX0 tyX0_ok nmX0 hown hK hP hD hS 0 rfl rfl 5 (by decide) (hts (.fieldLink RX0 28 "TriangleRaster$Facet" "area" "J") (by decide +kernel)) (fun _ h9 => h9) rfl (by decide +kernel) rfl rfl (Nat.le_of_ble_eq_true rfl) dX0_takeRound_54 (fun H locs hP hD hS => ?_)
      have hP : va_P (dC, dI) vwCl [(ad 3, .inr (0, [.ref (ad 6), .ref (ad 7), .ref (ad 8), .int 2, .int 1, .long (if 0 < r15 then r15 else -r15)])), (ad 6, .inl (tc 6, 3, .inl vx)), (ad 7, .inl (tc 7, 3, .inl vy))] H := hP
      have hD : va_D A [(ad 3, .inr (0, [.ref (ad 6), .ref (ad 7), .ref (ad 8), .int 2, .int 1, .long (if 0 < r15 then r15 else -r15)])), (ad 6, .inl (tc 6, 3, .inl vx)), (ad 7, .inl (tc 7, 3, .inl vy))] := hD
      have hP9 := hP.sub (ws' := [(ad 3, .inr (0, [.ref (ad 6), .ref (ad 7), .ref (ad 8), .int 2, .int 1, .long (if 0 < r15 then r15 else -r15)])), (ad 6, .inl (tc 6, 3, .inl vx)), (ad 7, .inl (tc 7, 3, .inl vy))]) [0, 1, 2] rfl
      have hD9 := hD.sub (ws' := [(ad 3, .inr (0, [.ref (ad 6), .ref (ad 7), .ref (ad 8), .int 2, .int 1, .long (if 0 < r15 then r15 else -r15)])), (ad 6, .inl (tc 6, 3, .inl vx)), (ad 7, .inl (tc 7, 3, .inl vy))]) [0, 1, 2] (by decide) rfl
      exact W.vret hx hb hr (fun t ht hW => ⟨⟨(2, 1, if 0 < r15 then r15 else -r15), rfl, by rw [lg_cmp_ge, Int64.le_iff_toInt_le, Int64.toInt_zero, hT] at c23; exact Or.inl ⟨by omega, rfl, rfl, by show (if 0 < r15 then r15 else -r15).toInt = _; rw [if_neg (by rw [Int64.lt_iff_toInt_lt, Int64.toInt_zero, hT]; omega), Jvm.Kit.i64_neg (by omega), hT]⟩, by rw [ht]; exact hP9, va_K.moved hW.alike hK, hD9⟩, hS.F ht⟩) hS.2.2 dX0_takeRound_57

set_option maxHeartbeats 4000000 in
set_option maxRecDepth 100000 in
/-- place -/
theorem c_X0_place (l : Launch) (dC : Nat → ClassId) (dI : Nat → Nat → Nat) (sz : Nat) (ad : Nat → Nat) (tc : Nat → ClassId) (se th : Int32) (ar : Int64) (vx vy : Nat → Int32) (vz : Nat → Int32) (k x y z : Int32) (i : Nat) (hi : i < 3) (ek : k = nI i) (hv : vb (upd vx i x) (upd vy i y)) : Met l yX0_place wsX0_place ({ frames := 2, cells := 0, slots := 0, locals := 50 }) (mP (dC, dI) vwCl [(tc 6, .int), (tc 7, .int), (tc 8, .int)] [(ad 3, .inr (0, [.ref (ad 6), .ref (ad 7), .ref (ad 8), .int se, .int th, .long ar])), (ad 6, .inl (tc 6, 3, .inl vx)), (ad 7, .inl (tc 7, 3, .inl vy)), (ad 8, .inl (tc 8, 3, .inl vz))] sz [.ref (ad 3), .int k, .int x, .int y, .int z]) (va_Qv (fun (u : Int32 × Int32 × Int64) => facOK (upd vx i x) (upd vy i y) u.1 u.2.1 u.2.2) (mB (dC, dI) vwCl [(tc 6, .int), (tc 7, .int), (tc 8, .int)] (va_A [(ad 3, .inr (0, [.ref (ad 6), .ref (ad 7), .ref (ad 8), .int se, .int th, .long ar])), (ad 6, .inl (tc 6, 3, .inl vx)), (ad 7, .inl (tc 7, 3, .inl vy)), (ad 8, .inl (tc 8, 3, .inl vz))] sz) (fun u => [(ad 3, .inr (0, [.ref (ad 6), .ref (ad 7), .ref (ad 8), .int u.1, .int u.2.1, .long u.2.2])), (ad 6, .inl (tc 6, 3, .inl (upd vx i x))), (ad 7, .inl (tc 7, 3, .inl (upd vy i y))), (ad 8, .inl (tc 8, 3, .inl (upd vz i z)))])) (va_A [(ad 3, .inr (0, [.ref (ad 6), .ref (ad 7), .ref (ad 8), .int se, .int th, .long ar])), (ad 6, .inl (tc 6, 3, .inl vx)), (ad 7, .inl (tc 7, 3, .inl vy)), (ad 8, .inl (tc 8, 3, .inl vz))] sz)) 0 0 (va_A [(ad 3, .inr (0, [.ref (ad 6), .ref (ad 7), .ref (ad 8), .int se, .int th, .long ar])), (ad 6, .inl (tc 6, 3, .inl vx)), (ad 7, .inl (tc 7, 3, .inl vy)), (ad 8, .inl (tc 8, 3, .inl vz))] sz) := by
  refine Met.ofW (cc := cX0_place) (maxL := 5) (ret := none) (by decide) rfl ?_
  intro p e s m args below meth cD s₁ B hml hv
  obtain ⟨rfl, hsz, hP, hK, hD0, hN⟩ := hv
  have hx := B.exec
  have hb := B.bytes
  have hr := B.returns
  have hts := atoms_spec (ws := wsX0_place) B.pre
  have hown : s.vm.findClass RX0 = some m.cls := findClass_of_methodNamed B.named
  have hlocks := B.notSynchronized
  subst hsz
  have hD := hD0.self (sz := s.heap.size)
  generalize hAe : va_A [(ad 3, .inr (0, [.ref (ad 6), .ref (ad 7), .ref (ad 8), .int se, .int th, .long ar])), (ad 6, .inl (tc 6, 3, .inl vx)), (ad 7, .inl (tc 7, 3, .inl vy)), (ad 8, .inl (tc 8, 3, .inl vz))] s.heap.size = A at hD ⊢
  have hA : ∀ q : Nat, s.heap.size ≤ q → A q := fun q h => by rw [← hAe]; exact Or.inr h
  have hS : va_S A s.heap s.heap [] := va_S.rf
  have hP : va_P (dC, dI) vwCl [(ad 3, .inr (0, [.ref (ad 6), .ref (ad 7), .ref (ad 8), .int se, .int th, .long ar])), (ad 6, .inl (tc 6, 3, .inl vx)), (ad 7, .inl (tc 7, 3, .inl vy)), (ad 8, .inl (tc 8, 3, .inl vz))] s.heap := hP
  have hl := lv_entry ([.ref (ad 3), .int k, .int x, .int y, .int z]) (n := 5) (Nat.le_of_ble_eq_true rfl)
  rw [lg_entry_eq]
  generalize (lg_sl ([.ref (ad 3), .int k, .int x, .int y, .int z]) ++ List.replicate (5 - (lg_sl ([.ref (ad 3), .int k, .int x, .int y, .int z])).length) Slot.unset).toArray = ls at hl ⊢
  have hl : lv_has ls 5 [(0, .ref (ad 3)), (1, .int k), (2, .int x), (3, .int y), (4, .int z)] := hl
  have hik : vp_in k 3 := by rw [ek]; exact vp_in_nI hi (by omega)
  have hck : k.toNatClampNeg = i := by rw [ek]; exact nI_clamp (by omega)
  refine lv_aload_n hx hb dX0_place_0 rfl (lv_at hl 0 rfl) ?_
  refine va_get (D := (dC, dI)) (ci := 0) (v := .ref (ad 6)) (C := RX0) (T := TX0) (N := 6) hx hb hts (by decide +kernel) hown hK hP 0 rfl rfl 0 (by decide) (hts (.fieldLink RX0 9 "TriangleRaster$Facet" "xs" "[I") (by decide +kernel)) (fun _ h9 => h9) rfl dX0_place_1 ?_
  refine lv_iload_n hx hb dX0_place_4 rfl (lv_at hl 1 rfl) ?_
  refine lv_iload_n hx hb dX0_place_5 rfl (lv_at hl 2 rfl) ?_
  refine va_iast hx hb hK hP hD hS 1 0 rfl rfl hik dX0_place_6 (fun H locs hP hD hS => ?_)
  have hP : va_P (dC, dI) vwCl [(ad 3, .inr (0, [.ref (ad 6), .ref (ad 7), .ref (ad 8), .int se, .int th, .long ar])), (ad 6, .inl (tc 6, 3, .inl (upd vx k.toNatClampNeg x))), (ad 7, .inl (tc 7, 3, .inl vy)), (ad 8, .inl (tc 8, 3, .inl vz))] H := hP
  have hD : va_D A [(ad 3, .inr (0, [.ref (ad 6), .ref (ad 7), .ref (ad 8), .int se, .int th, .long ar])), (ad 6, .inl (tc 6, 3, .inl (upd vx k.toNatClampNeg x))), (ad 7, .inl (tc 7, 3, .inl vy)), (ad 8, .inl (tc 8, 3, .inl vz))] := hD
  refine lv_aload_n hx hb dX0_place_7 rfl (lv_at hl 0 rfl) ?_
  refine va_get (D := (dC, dI)) (ci := 0) (v := .ref (ad 7)) (C := RX0) (T := TX0) (N := 6) hx hb hts (by decide +kernel) hown hK hP 0 rfl rfl 1 (by decide) (hts (.fieldLink RX0 15 "TriangleRaster$Facet" "ys" "[I") (by decide +kernel)) (fun _ h9 => h9) rfl dX0_place_8 ?_
  refine lv_iload_n hx hb dX0_place_11 rfl (lv_at hl 1 rfl) ?_
  refine lv_iload_n hx hb dX0_place_12 rfl (lv_at hl 3 rfl) ?_
  refine va_iast hx hb hK hP hD hS 2 1 rfl rfl hik dX0_place_13 (fun H locs hP hD hS => ?_)
  have hP : va_P (dC, dI) vwCl [(ad 3, .inr (0, [.ref (ad 6), .ref (ad 7), .ref (ad 8), .int se, .int th, .long ar])), (ad 6, .inl (tc 6, 3, .inl (upd vx k.toNatClampNeg x))), (ad 7, .inl (tc 7, 3, .inl (upd vy k.toNatClampNeg y))), (ad 8, .inl (tc 8, 3, .inl vz))] H := hP
  have hD : va_D A [(ad 3, .inr (0, [.ref (ad 6), .ref (ad 7), .ref (ad 8), .int se, .int th, .long ar])), (ad 6, .inl (tc 6, 3, .inl (upd vx k.toNatClampNeg x))), (ad 7, .inl (tc 7, 3, .inl (upd vy k.toNatClampNeg y))), (ad 8, .inl (tc 8, 3, .inl vz))] := hD
  refine lv_aload_n hx hb dX0_place_14 rfl (lv_at hl 0 rfl) ?_
  refine va_get (D := (dC, dI)) (ci := 0) (v := .ref (ad 8)) (C := RX0) (T := TX0) (N := 6) hx hb hts (by decide +kernel) hown hK hP 0 rfl rfl 2 (by decide) (hts (.fieldLink RX0 18 "TriangleRaster$Facet" "zs" "[I") (by decide +kernel)) (fun _ h9 => h9) rfl dX0_place_15 ?_
  refine lv_iload_n hx hb dX0_place_18 rfl (lv_at hl 1 rfl) ?_
  refine lv_iload hx hb dX0_place_19 (lv_at hl 4 rfl) ?_
  refine va_iast hx hb hK hP hD hS 3 2 rfl rfl hik dX0_place_21 (fun H locs hP hD hS => ?_)
  have hP : va_P (dC, dI) vwCl [(ad 3, .inr (0, [.ref (ad 6), .ref (ad 7), .ref (ad 8), .int se, .int th, .long ar])), (ad 6, .inl (tc 6, 3, .inl (upd vx k.toNatClampNeg x))), (ad 7, .inl (tc 7, 3, .inl (upd vy k.toNatClampNeg y))), (ad 8, .inl (tc 8, 3, .inl (upd vz k.toNatClampNeg z)))] H := hP
  have hD : va_D A [(ad 3, .inr (0, [.ref (ad 6), .ref (ad 7), .ref (ad 8), .int se, .int th, .long ar])), (ad 6, .inl (tc 6, 3, .inl (upd vx k.toNatClampNeg x))), (ad 7, .inl (tc 7, 3, .inl (upd vy k.toNatClampNeg y))), (ad 8, .inl (tc 8, 3, .inl (upd vz k.toNatClampNeg z)))] := hD
  rw [hck] at hP hD
  have hP : va_P (dC, dI) vwCl [(ad 3, .inr (0, [.ref (ad 6), .ref (ad 7), .ref (ad 8), .int se, .int th, .long ar])), (ad 6, .inl (tc 6, 3, .inl (upd vx i x))), (ad 7, .inl (tc 7, 3, .inl (upd vy i y))), (ad 8, .inl (tc 8, 3, .inl (upd vz i z)))] H := hP
  have hD : va_D A [(ad 3, .inr (0, [.ref (ad 6), .ref (ad 7), .ref (ad 8), .int se, .int th, .long ar])), (ad 6, .inl (tc 6, 3, .inl (upd vx i x))), (ad 7, .inl (tc 7, 3, .inl (upd vy i y))), (ad 8, .inl (tc 8, 3, .inl (upd vz i z)))] := hD
  refine lv_aload_n hx hb dX0_place_22 rfl (lv_at hl 0 rfl) ?_
  refine m_callv (cs := [(ad 3, .inr (0, [.ref (ad 6), .ref (ad 7), .ref (ad 8), .int se, .int th, .long ar])), (ad 6, .inl (tc 6, 3, .inl (upd vx i x))), (ad 7, .inl (tc 7, 3, .inl (upd vy i y)))]) (wr := [(ad 8, .inl (tc 8, 3, .inl (upd vz i z)))]) hP hD hS hA [0, 1, 2] [3] rfl rfl (by decide) (by decide) (va_runV (As := []) (rest := []) ⟨hx, hb, hml, hown, hts⟩ (c_X0_takeRound l dC dI _ ad tc se th ar (upd vx i x) (upd vy i y) hv) (cwV 0 hts gX0_place_X0_takeRound rfl rfl rfl (by decide +kernel) ⟨Nat.le_of_ble_eq_true rfl, Nat.le_of_ble_eq_true rfl⟩) (m_preV (ci := 0) (q0 := 0) (hP.sub [0, 1, 2] rfl) (hK.sub [0, 1] rfl) (hD.sub [0, 1, 2] (by decide) rfl) hN rfl rfl) rfl rfl hl.1 rfl (lv_room (Nat.le_of_ble_eq_true rfl)) dX0_place_23 ⟨Nat.le_of_ble_eq_true rfl, Nat.le_of_ble_eq_true rfl⟩) (fun u23 H locs q23 _ hP hD hS => ?_)
  obtain ⟨se23, th23, ar23⟩ := u23
  have hP : va_P (dC, dI) vwCl [(ad 3, .inr (0, [.ref (ad 6), .ref (ad 7), .ref (ad 8), .int se23, .int th23, .long ar23])), (ad 6, .inl (tc 6, 3, .inl (upd vx i x))), (ad 7, .inl (tc 7, 3, .inl (upd vy i y))), (ad 8, .inl (tc 8, 3, .inl (upd vz i z)))] H := hP.sub [1, 2, 3, 0] rfl
  have hD : va_D A [(ad 3, .inr (0, [.ref (ad 6), .ref (ad 7), .ref (ad 8), .int se23, .int th23, .long ar23])), (ad 6, .inl (tc 6, 3, .inl (upd vx i x))), (ad 7, .inl (tc 7, 3, .inl (upd vy i y))), (ad 8, .inl (tc 8, 3, .inl (upd vz i z)))] := hD.sub [1, 2, 3, 0] (by decide) rfl
  have hP9 := hP.sub (ws' := [(ad 3, .inr (0, [.ref (ad 6), .ref (ad 7), .ref (ad 8), .int se23, .int th23, .long ar23])), (ad 6, .inl (tc 6, 3, .inl (upd vx i x))), (ad 7, .inl (tc 7, 3, .inl (upd vy i y))), (ad 8, .inl (tc 8, 3, .inl (upd vz i z)))]) [0, 1, 2, 3] rfl
  have hD9 := hD.sub (ws' := [(ad 3, .inr (0, [.ref (ad 6), .ref (ad 7), .ref (ad 8), .int se23, .int th23, .long ar23])), (ad 6, .inl (tc 6, 3, .inl (upd vx i x))), (ad 7, .inl (tc 7, 3, .inl (upd vy i y))), (ad 8, .inl (tc 8, 3, .inl (upd vz i z)))]) [0, 1, 2, 3] (by decide) rfl
  exact W.vret hx hb hr (fun t ht hW => ⟨⟨(se23, th23, ar23), rfl, q23, by rw [ht]; exact hP9, va_K.moved hW.alike hK, hD9⟩, hS.F ht⟩) hS.2.2 dX0_place_26

set_option maxHeartbeats 4000000 in
set_option maxRecDepth 100000 in
/-- depthOver -/
theorem c_X0_depthOver (l : Launch) (dC : Nat → ClassId) (dI : Nat → Nat → Nat) (sz : Nat) (ad : Nat → Nat) (tc : Nat → ClassId) (se th : Int32) (ar : Int64) (vx vy : Nat → Int32) (vz : Nat → Int32) (hv : vb vx vy) (hz : zb vz) (hf : facOK vx vy se th ar) (cl rw_ : Int32) (hcl : cl.toInt.natAbs ≤ 2000) (hrw : rw_.toInt.natAbs ≤ 2000) : Met l yX0_depthOver wsX0_depthOver ({ frames := 2, cells := 0, slots := 0, locals := 48 }) (mP (dC, dI) vwCl [(tc 6, .int), (tc 7, .int), (tc 8, .int)] [(ad 3, .inr (0, [.ref (ad 6), .ref (ad 7), .ref (ad 8), .int se, .int th, .long ar])), (ad 6, .inl (tc 6, 3, .inl vx)), (ad 7, .inl (tc 7, 3, .inl vy)), (ad 8, .inl (tc 8, 3, .inl vz))] sz [.ref (ad 3), .int cl, .int rw_]) (va_Qi (fun (r : Int32) (u : Unit) => (COV vx vy cl.toInt rw_.toInt ∧ r = Int32.ofInt (DPT vx vy vz cl.toInt rw_.toInt)) ∨ (¬ COV vx vy cl.toInt rw_.toInt ∧ r = -1)) (mB (dC, dI) vwCl [(tc 6, .int), (tc 7, .int), (tc 8, .int)] (va_A [(ad 3, .inr (0, [.ref (ad 6), .ref (ad 7), .ref (ad 8), .int se, .int th, .long ar])), (ad 6, .inl (tc 6, 3, .inl vx)), (ad 7, .inl (tc 7, 3, .inl vy)), (ad 8, .inl (tc 8, 3, .inl vz))] sz) (fun u => [(ad 3, .inr (0, [.ref (ad 6), .ref (ad 7), .ref (ad 8), .int se, .int th, .long ar])), (ad 6, .inl (tc 6, 3, .inl vx)), (ad 7, .inl (tc 7, 3, .inl vy)), (ad 8, .inl (tc 8, 3, .inl vz))])) (va_A [(ad 3, .inr (0, [.ref (ad 6), .ref (ad 7), .ref (ad 8), .int se, .int th, .long ar])), (ad 6, .inl (tc 6, 3, .inl vx)), (ad 7, .inl (tc 7, 3, .inl vy)), (ad 8, .inl (tc 8, 3, .inl vz))] sz)) 0 0 (va_A [(ad 3, .inr (0, [.ref (ad 6), .ref (ad 7), .ref (ad 8), .int se, .int th, .long ar])), (ad 6, .inl (tc 6, 3, .inl vx)), (ad 7, .inl (tc 7, 3, .inl vy)), (ad 8, .inl (tc 8, 3, .inl vz))] sz) := by
  refine Met.ofW (cc := cX0_depthOver) (maxL := 11) (ret := (some .int)) (by decide) rfl ?_
  intro p e s m args below meth cD s₁ B hml hv
  obtain ⟨rfl, hsz, hP, hK, hD0, hN⟩ := hv
  have hx := B.exec
  have hb := B.bytes
  have hr := B.returns
  have hts := atoms_spec (ws := wsX0_depthOver) B.pre
  have hown : s.vm.findClass RX0 = some m.cls := findClass_of_methodNamed B.named
  have hlocks := B.notSynchronized
  subst hsz
  have hD := hD0.self (sz := s.heap.size)
  generalize hAe : va_A [(ad 3, .inr (0, [.ref (ad 6), .ref (ad 7), .ref (ad 8), .int se, .int th, .long ar])), (ad 6, .inl (tc 6, 3, .inl vx)), (ad 7, .inl (tc 7, 3, .inl vy)), (ad 8, .inl (tc 8, 3, .inl vz))] s.heap.size = A at hD ⊢
  have hA : ∀ q : Nat, s.heap.size ≤ q → A q := fun q h => by rw [← hAe]; exact Or.inr h
  have hS : va_S A s.heap s.heap [] := va_S.rf
  have hP : va_P (dC, dI) vwCl [(ad 3, .inr (0, [.ref (ad 6), .ref (ad 7), .ref (ad 8), .int se, .int th, .long ar])), (ad 6, .inl (tc 6, 3, .inl vx)), (ad 7, .inl (tc 7, 3, .inl vy)), (ad 8, .inl (tc 8, 3, .inl vz))] s.heap := hP
  have hl := lv_entry ([.ref (ad 3), .int cl, .int rw_]) (n := 11) (Nat.le_of_ble_eq_true rfl)
  rw [lg_entry_eq]
  generalize (lg_sl ([.ref (ad 3), .int cl, .int rw_]) ++ List.replicate (11 - (lg_sl ([.ref (ad 3), .int cl, .int rw_])).length) Slot.unset).toArray = ls at hl ⊢
  have hl : lv_has ls 11 [(0, .ref (ad 3)), (1, .int cl), (2, .int rw_)] := hl
  have epx : (16 * cl + 8).toInt = 16 * cl.toInt + 8 := by
    have h1 : (16 * cl).toInt = 16 * cl.toInt := by rw [Jvm.Kit.i32_mul (by rw [show (16 : Int32).toInt = 16 from by decide]; omega) (by rw [show (16 : Int32).toInt = 16 from by decide]; omega)]; rfl
    rw [Jvm.Kit.i32_add (by rw [h1, show (8 : Int32).toInt = 8 from by decide]; omega) (by rw [h1, show (8 : Int32).toInt = 8 from by decide]; omega), h1]; rfl
  have epy : (16 * rw_ + 8).toInt = 16 * rw_.toInt + 8 := by
    have h1 : (16 * rw_).toInt = 16 * rw_.toInt := by rw [Jvm.Kit.i32_mul (by rw [show (16 : Int32).toInt = 16 from by decide]; omega) (by rw [show (16 : Int32).toInt = 16 from by decide]; omega)]; rfl
    rw [Jvm.Kit.i32_add (by rw [h1, show (8 : Int32).toInt = 8 from by decide]; omega) (by rw [h1, show (8 : Int32).toInt = 8 from by decide]; omega), h1]; rfl
  have hbx : (16 * cl + 8).toInt.natAbs ≤ 33000 := by rw [epx]; omega
  have hby : (16 * rw_ + 8).toInt.natAbs ≤ 33000 := by rw [epy]; omega
  rcases hf with ⟨hT, rfl, rfl, har⟩ | ⟨hT, rfl, rfl, har⟩
  · refine lv_aload_n hx hb dX0_depthOver_0 rfl (lv_at hl 0 rfl) ?_
    refine va_get (D := (dC, dI)) (ci := 0) (v := .long ar) (C := RX0) (T := TX0) (N := 6) hx hb hts (by decide +kernel) hown hK hP 0 rfl rfl 5 (by decide) (hts (.fieldLink RX0 28 "TriangleRaster$Facet" "area" "J") (by decide +kernel)) (fun _ h9 => h9) rfl dX0_depthOver_1 ?_
    refine lv_lconst (v := 0) hx hb dX0_depthOver_4 (by decide) ?_
    refine W.lcmp hx hb dX0_depthOver_5 ?_
    refine lv_if_ne (tgt := 11) hx hb dX0_depthOver_6 (by decide) (fun c6 => ?_) (fun c6 => ?_)
    · refine lv_bipush (v := 16) hx hb dX0_depthOver_11 (by decide) ?_
      refine lv_iload_n hx hb dX0_depthOver_13 rfl (lv_at hl 1 rfl) ?_
      refine lv_imul hx hb dX0_depthOver_14 ?_
      refine lv_bipush (v := 8) hx hb dX0_depthOver_15 (by decide) ?_
      refine lv_iadd hx hb dX0_depthOver_17 ?_
      refine lv_istore_n (lv' := [(3, .int ((16 * cl) + 8)), (0, .ref (ad 3)), (1, .int cl), (2, .int rw_)]) hx hb dX0_depthOver_18 rfl hl (by decide) rfl (fun ls hl => ?_)
      refine lv_bipush (v := 16) hx hb dX0_depthOver_19 (by decide) ?_
      refine lv_iload_n hx hb dX0_depthOver_21 rfl (lv_at hl 3 rfl) ?_
      refine lv_imul hx hb dX0_depthOver_22 ?_
      refine lv_bipush (v := 8) hx hb dX0_depthOver_23 (by decide) ?_
      refine lv_iadd hx hb dX0_depthOver_25 ?_
      refine lv_istore (lv' := [(4, .int ((16 * rw_) + 8)), (3, .int ((16 * cl) + 8)), (0, .ref (ad 3)), (1, .int cl), (2, .int rw_)]) hx hb dX0_depthOver_26 hl (by decide) rfl (fun ls hl => ?_)
      refine lv_aload_n hx hb dX0_depthOver_28 rfl (lv_at hl 2 rfl) ?_
      refine lv_aload_n hx hb dX0_depthOver_29 rfl (lv_at hl 2 rfl) ?_
      refine va_get (D := (dC, dI)) (ci := 0) (v := .int 2) (C := RX0) (T := TX0) (N := 6) hx hb hts (by decide +kernel) hown hK hP 0 rfl rfl 3 (by decide) (hts (.fieldLink RX0 21 "TriangleRaster$Facet" "second" "I") (by decide +kernel)) (fun _ h9 => h9) rfl dX0_depthOver_30 ?_
      refine lv_aload_n hx hb dX0_depthOver_33 rfl (lv_at hl 2 rfl) ?_
      refine va_get (D := (dC, dI)) (ci := 0) (v := .int 1) (C := RX0) (T := TX0) (N := 6) hx hb hts (by decide +kernel) hown hK hP 0 rfl rfl 4 (by decide) (hts (.fieldLink RX0 25 "TriangleRaster$Facet" "third" "I") (by decide +kernel)) (fun _ h9 => h9) rfl dX0_depthOver_34 ?_
      refine lv_iload_n hx hb dX0_depthOver_37 rfl (lv_at hl 1 rfl) ?_
      refine lv_iload hx hb dX0_depthOver_38 (lv_at hl 0 rfl) ?_
      refine m_calll (cs := [(ad 3, .inr (0, [.ref (ad 6), .ref (ad 7), .ref (ad 8), .int 2, .int 1, .long ar])), (ad 6, .inl (tc 6, 3, .inl vx)), (ad 7, .inl (tc 7, 3, .inl vy))]) (wr := [(ad 8, .inl (tc 8, 3, .inl vz))]) hP hD hS hA [0, 1, 2] [3] rfl rfl (by decide) (by decide) (va_runV (As := [.int 2, .int 1, .int ((16 * cl) + 8), .int ((16 * rw_) + 8)]) (rest := []) ⟨hx, hb, hml, hown, hts⟩ (c_X0_edge l dC dI _ ad tc 2 1 ar vx vy hv 2 1 2 1 (by omega) (by omega) rfl rfl ((16 * cl) + 8) ((16 * rw_) + 8) hbx hby) (cwV 4 hts gX0_depthOver_X0_edge rfl rfl rfl (by decide +kernel) ⟨Nat.le_of_ble_eq_true rfl, Nat.le_of_ble_eq_true rfl⟩) (m_preV (ci := 0) (q0 := 0) (hP.sub [0, 1, 2] rfl) (hK.sub [0, 1] rfl) (hD.sub [0, 1, 2] (by decide) rfl) hN rfl rfl) rfl rfl hl.1 rfl (lv_room (Nat.le_of_ble_eq_true rfl)) dX0_depthOver_40 ⟨Nat.le_of_ble_eq_true rfl, Nat.le_of_ble_eq_true rfl⟩) (fun r40 _ H locs q40 _ hP hD hS => ?_)
      have hP : va_P (dC, dI) vwCl [(ad 3, .inr (0, [.ref (ad 6), .ref (ad 7), .ref (ad 8), .int 2, .int 1, .long ar])), (ad 6, .inl (tc 6, 3, .inl vx)), (ad 7, .inl (tc 7, 3, .inl vy)), (ad 8, .inl (tc 8, 3, .inl vz))] H := hP.sub [1, 2, 3, 0] rfl
      have hD : va_D A [(ad 3, .inr (0, [.ref (ad 6), .ref (ad 7), .ref (ad 8), .int 2, .int 1, .long ar])), (ad 6, .inl (tc 6, 3, .inl vx)), (ad 7, .inl (tc 7, 3, .inl vy)), (ad 8, .inl (tc 8, 3, .inl vz))] := hD.sub [1, 2, 3, 0] (by decide) rfl
      have e40 : r40.toInt = EE vx vy 2 1 cl.toInt rw_.toInt := by rw [q40, epx, epy]; rfl
      refine lv_lstore (lv' := [(5, .long r40), (4, .int ((16 * rw_) + 8)), (3, .int ((16 * cl) + 8)), (0, .ref (ad 3)), (1, .int cl), (2, .int rw_)]) hx hb dX0_depthOver_43 hl (by decide) rfl (fun ls hl => ?_)
      refine lv_aload_n hx hb dX0_depthOver_45 rfl (lv_at hl 3 rfl) ?_
      refine lv_aload_n hx hb dX0_depthOver_46 rfl (lv_at hl 3 rfl) ?_
      refine va_get (D := (dC, dI)) (ci := 0) (v := .int 1) (C := RX0) (T := TX0) (N := 6) hx hb hts (by decide +kernel) hown hK hP 0 rfl rfl 4 (by decide) (hts (.fieldLink RX0 25 "TriangleRaster$Facet" "third" "I") (by decide +kernel)) (fun _ h9 => h9) rfl dX0_depthOver_47 ?_
      refine lv_iconst (v := 0) hx hb dX0_depthOver_50 (by decide) ?_
      refine lv_iload_n hx hb dX0_depthOver_51 rfl (lv_at hl 2 rfl) ?_
      refine lv_iload hx hb dX0_depthOver_52 (lv_at hl 1 rfl) ?_
      refine m_calll (cs := [(ad 3, .inr (0, [.ref (ad 6), .ref (ad 7), .ref (ad 8), .int 2, .int 1, .long ar])), (ad 6, .inl (tc 6, 3, .inl vx)), (ad 7, .inl (tc 7, 3, .inl vy))]) (wr := [(ad 8, .inl (tc 8, 3, .inl vz))]) hP hD hS hA [0, 1, 2] [3] rfl rfl (by decide) (by decide) (va_runV (As := [.int 1, .int 0, .int ((16 * cl) + 8), .int ((16 * rw_) + 8)]) (rest := []) ⟨hx, hb, hml, hown, hts⟩ (c_X0_edge l dC dI _ ad tc 2 1 ar vx vy hv 1 0 1 0 (by omega) (by omega) rfl rfl ((16 * cl) + 8) ((16 * rw_) + 8) hbx hby) (cwV 4 hts gX0_depthOver_X0_edge rfl rfl rfl (by decide +kernel) ⟨Nat.le_of_ble_eq_true rfl, Nat.le_of_ble_eq_true rfl⟩) (m_preV (ci := 0) (q0 := 0) (hP.sub [0, 1, 2] rfl) (hK.sub [0, 1] rfl) (hD.sub [0, 1, 2] (by decide) rfl) hN rfl rfl) rfl rfl hl.1 rfl (lv_room (Nat.le_of_ble_eq_true rfl)) dX0_depthOver_54 ⟨Nat.le_of_ble_eq_true rfl, Nat.le_of_ble_eq_true rfl⟩) (fun r54 _ H locs q54 _ hP hD hS => ?_)
      have hP : va_P (dC, dI) vwCl [(ad 3, .inr (0, [.ref (ad 6), .ref (ad 7), .ref (ad 8), .int 2, .int 1, .long ar])), (ad 6, .inl (tc 6, 3, .inl vx)), (ad 7, .inl (tc 7, 3, .inl vy)), (ad 8, .inl (tc 8, 3, .inl vz))] H := hP.sub [1, 2, 3, 0] rfl
      have hD : va_D A [(ad 3, .inr (0, [.ref (ad 6), .ref (ad 7), .ref (ad 8), .int 2, .int 1, .long ar])), (ad 6, .inl (tc 6, 3, .inl vx)), (ad 7, .inl (tc 7, 3, .inl vy)), (ad 8, .inl (tc 8, 3, .inl vz))] := hD.sub [1, 2, 3, 0] (by decide) rfl
      have e54 : r54.toInt = EE vx vy 1 0 cl.toInt rw_.toInt := by rw [q54, epx, epy]; rfl
      refine lv_lstore (lv' := [(7, .long r54), (5, .long r40), (4, .int ((16 * rw_) + 8)), (3, .int ((16 * cl) + 8)), (0, .ref (ad 3)), (1, .int cl), (2, .int rw_)]) hx hb dX0_depthOver_57 hl (by decide) rfl (fun ls hl => ?_)
      refine lv_aload_n hx hb dX0_depthOver_59 rfl (lv_at hl 4 rfl) ?_
      refine lv_iconst (v := 0) hx hb dX0_depthOver_60 (by decide) ?_
      refine lv_aload_n hx hb dX0_depthOver_61 rfl (lv_at hl 4 rfl) ?_
      refine va_get (D := (dC, dI)) (ci := 0) (v := .int 2) (C := RX0) (T := TX0) (N := 6) hx hb hts (by decide +kernel) hown hK hP 0 rfl rfl 3 (by decide) (hts (.fieldLink RX0 21 "TriangleRaster$Facet" "second" "I") (by decide +kernel)) (fun _ h9 => h9) rfl dX0_depthOver_62 ?_
      refine lv_iload_n hx hb dX0_depthOver_65 rfl (lv_at hl 3 rfl) ?_
      refine lv_iload hx hb dX0_depthOver_66 (lv_at hl 2 rfl) ?_
      refine m_calll (cs := [(ad 3, .inr (0, [.ref (ad 6), .ref (ad 7), .ref (ad 8), .int 2, .int 1, .long ar])), (ad 6, .inl (tc 6, 3, .inl vx)), (ad 7, .inl (tc 7, 3, .inl vy))]) (wr := [(ad 8, .inl (tc 8, 3, .inl vz))]) hP hD hS hA [0, 1, 2] [3] rfl rfl (by decide) (by decide) (va_runV (As := [.int 0, .int 2, .int ((16 * cl) + 8), .int ((16 * rw_) + 8)]) (rest := []) ⟨hx, hb, hml, hown, hts⟩ (c_X0_edge l dC dI _ ad tc 2 1 ar vx vy hv 0 2 0 2 (by omega) (by omega) rfl rfl ((16 * cl) + 8) ((16 * rw_) + 8) hbx hby) (cwV 4 hts gX0_depthOver_X0_edge rfl rfl rfl (by decide +kernel) ⟨Nat.le_of_ble_eq_true rfl, Nat.le_of_ble_eq_true rfl⟩) (m_preV (ci := 0) (q0 := 0) (hP.sub [0, 1, 2] rfl) (hK.sub [0, 1] rfl) (hD.sub [0, 1, 2] (by decide) rfl) hN rfl rfl) rfl rfl hl.1 rfl (lv_room (Nat.le_of_ble_eq_true rfl)) dX0_depthOver_68 ⟨Nat.le_of_ble_eq_true rfl, Nat.le_of_ble_eq_true rfl⟩) (fun r68 _ H locs q68 _ hP hD hS => ?_)
      have hP : va_P (dC, dI) vwCl [(ad 3, .inr (0, [.ref (ad 6), .ref (ad 7), .ref (ad 8), .int 2, .int 1, .long ar])), (ad 6, .inl (tc 6, 3, .inl vx)), (ad 7, .inl (tc 7, 3, .inl vy)), (ad 8, .inl (tc 8, 3, .inl vz))] H := hP.sub [1, 2, 3, 0] rfl
      have hD : va_D A [(ad 3, .inr (0, [.ref (ad 6), .ref (ad 7), .ref (ad 8), .int 2, .int 1, .long ar])), (ad 6, .inl (tc 6, 3, .inl vx)), (ad 7, .inl (tc 7, 3, .inl vy)), (ad 8, .inl (tc 8, 3, .inl vz))] := hD.sub [1, 2, 3, 0] (by decide) rfl
      have e68 : r68.toInt = EE vx vy 0 2 cl.toInt rw_.toInt := by rw [q68, epx, epy]; rfl
      refine lv_lstore (lv' := [(9, .long r68), (7, .long r54), (5, .long r40), (4, .int ((16 * rw_) + 8)), (3, .int ((16 * cl) + 8)), (0, .ref (ad 3)), (1, .int cl), (2, .int rw_)]) hx hb dX0_depthOver_71 hl (by decide) rfl (fun ls hl => ?_)
      refine lv_aload_n hx hb dX0_depthOver_73 rfl (lv_at hl 5 rfl) ?_
      refine lv_lload hx hb dX0_depthOver_74 (lv_at hl 2 rfl) ?_
      refine lv_aload_n hx hb dX0_depthOver_76 rfl (lv_at hl 5 rfl) ?_
      refine va_get (D := (dC, dI)) (ci := 0) (v := .int 2) (C := RX0) (T := TX0) (N := 6) hx hb hts (by decide +kernel) hown hK hP 0 rfl rfl 3 (by decide) (hts (.fieldLink RX0 21 "TriangleRaster$Facet" "second" "I") (by decide +kernel)) (fun _ h9 => h9) rfl dX0_depthOver_77 ?_
      refine lv_aload_n hx hb dX0_depthOver_80 rfl (lv_at hl 5 rfl) ?_
      refine va_get (D := (dC, dI)) (ci := 0) (v := .int 1) (C := RX0) (T := TX0) (N := 6) hx hb hts (by decide +kernel) hown hK hP 0 rfl rfl 4 (by decide) (hts (.fieldLink RX0 25 "TriangleRaster$Facet" "third" "I") (by decide +kernel)) (fun _ h9 => h9) rfl dX0_depthOver_81 ?_
      refine m_calli (cs := [(ad 3, .inr (0, [.ref (ad 6), .ref (ad 7), .ref (ad 8), .int 2, .int 1, .long ar])), (ad 6, .inl (tc 6, 3, .inl vx)), (ad 7, .inl (tc 7, 3, .inl vy))]) (wr := [(ad 8, .inl (tc 8, 3, .inl vz))]) hP hD hS hA [0, 1, 2] [3] rfl rfl (by decide) (by decide) (va_runV (As := [.long r40, .int 2, .int 1]) (rest := []) ⟨hx, hb, hml, hown, hts⟩ (c_X0_isInside l dC dI _ ad tc 2 1 ar vx vy r40 2 1 2 1 (by omega) (by omega) rfl rfl) (cwV 3 hts gX0_depthOver_X0_isInside rfl rfl rfl (by decide +kernel) ⟨Nat.le_of_ble_eq_true rfl, Nat.le_of_ble_eq_true rfl⟩) (m_preV (ci := 0) (q0 := 0) (hP.sub [0, 1, 2] rfl) (hK.sub [0, 1] rfl) (hD.sub [0, 1, 2] (by decide) rfl) hN rfl rfl) rfl rfl hl.1 rfl (lv_room (Nat.le_of_ble_eq_true rfl)) dX0_depthOver_84 ⟨Nat.le_of_ble_eq_true rfl, Nat.le_of_ble_eq_true rfl⟩) (fun r84 _ H locs q84 _ hP hD hS => ?_)
      have hP : va_P (dC, dI) vwCl [(ad 3, .inr (0, [.ref (ad 6), .ref (ad 7), .ref (ad 8), .int 2, .int 1, .long ar])), (ad 6, .inl (tc 6, 3, .inl vx)), (ad 7, .inl (tc 7, 3, .inl vy)), (ad 8, .inl (tc 8, 3, .inl vz))] H := hP.sub [1, 2, 3, 0] rfl
      have hD : va_D A [(ad 3, .inr (0, [.ref (ad 6), .ref (ad 7), .ref (ad 8), .int 2, .int 1, .long ar])), (ad 6, .inl (tc 6, 3, .inl vx)), (ad 7, .inl (tc 7, 3, .inl vy)), (ad 8, .inl (tc 8, 3, .inl vz))] := hD.sub [1, 2, 3, 0] (by decide) rfl
      refine lv_if_eq (tgt := 118) hx hb dX0_depthOver_87 (by decide) (fun c87 => ?_) (fun c87 => ?_)
      · refine lv_iconst (v := (-1)) hx hb dX0_depthOver_118 (by decide) ?_
        have hP9 := hP.sub (ws' := [(ad 3, .inr (0, [.ref (ad 6), .ref (ad 7), .ref (ad 8), .int 2, .int 1, .long ar])), (ad 6, .inl (tc 6, 3, .inl vx)), (ad 7, .inl (tc 7, 3, .inl vy)), (ad 8, .inl (tc 8, 3, .inl vz))]) [0, 1, 2, 3] rfl
        have hD9 := hD.sub (ws' := [(ad 3, .inr (0, [.ref (ad 6), .ref (ad 7), .ref (ad 8), .int 2, .int 1, .long ar])), (ad 6, .inl (tc 6, 3, .inl vx)), (ad 7, .inl (tc 7, 3, .inl vy)), (ad 8, .inl (tc 8, 3, .inl vz))]) [0, 1, 2, 3] (by decide) rfl
        exact W.iret (v := (-1)) hx hb hr (fun t ht hW => ⟨⟨(-1), (), rfl, Or.inr ⟨by have hn := (b01 q84).mp c87; rw [e40] at hn; exact fun h => h.elim (fun h => by have := h.1; omega) (fun h => hn h.2.2.1), rfl⟩, by rw [ht]; exact hP9, va_K.moved hW.alike hK, hD9⟩, hS.F ht⟩) hS.2.2 dX0_depthOver_119
      · refine lv_aload_n hx hb dX0_depthOver_90 rfl (lv_at hl 5 rfl) ?_
        refine lv_lload hx hb dX0_depthOver_91 (lv_at hl 1 rfl) ?_
        refine lv_aload_n hx hb dX0_depthOver_93 rfl (lv_at hl 5 rfl) ?_
        refine va_get (D := (dC, dI)) (ci := 0) (v := .int 1) (C := RX0) (T := TX0) (N := 6) hx hb hts (by decide +kernel) hown hK hP 0 rfl rfl 4 (by decide) (hts (.fieldLink RX0 25 "TriangleRaster$Facet" "third" "I") (by decide +kernel)) (fun _ h9 => h9) rfl dX0_depthOver_94 ?_
        refine lv_iconst (v := 0) hx hb dX0_depthOver_97 (by decide) ?_
        refine m_calli (cs := [(ad 3, .inr (0, [.ref (ad 6), .ref (ad 7), .ref (ad 8), .int 2, .int 1, .long ar])), (ad 6, .inl (tc 6, 3, .inl vx)), (ad 7, .inl (tc 7, 3, .inl vy))]) (wr := [(ad 8, .inl (tc 8, 3, .inl vz))]) hP hD hS hA [0, 1, 2] [3] rfl rfl (by decide) (by decide) (va_runV (As := [.long r54, .int 1, .int 0]) (rest := []) ⟨hx, hb, hml, hown, hts⟩ (c_X0_isInside l dC dI _ ad tc 2 1 ar vx vy r54 1 0 1 0 (by omega) (by omega) rfl rfl) (cwV 3 hts gX0_depthOver_X0_isInside rfl rfl rfl (by decide +kernel) ⟨Nat.le_of_ble_eq_true rfl, Nat.le_of_ble_eq_true rfl⟩) (m_preV (ci := 0) (q0 := 0) (hP.sub [0, 1, 2] rfl) (hK.sub [0, 1] rfl) (hD.sub [0, 1, 2] (by decide) rfl) hN rfl rfl) rfl rfl hl.1 rfl (lv_room (Nat.le_of_ble_eq_true rfl)) dX0_depthOver_98 ⟨Nat.le_of_ble_eq_true rfl, Nat.le_of_ble_eq_true rfl⟩) (fun r98 _ H locs q98 _ hP hD hS => ?_)
        have hP : va_P (dC, dI) vwCl [(ad 3, .inr (0, [.ref (ad 6), .ref (ad 7), .ref (ad 8), .int 2, .int 1, .long ar])), (ad 6, .inl (tc 6, 3, .inl vx)), (ad 7, .inl (tc 7, 3, .inl vy)), (ad 8, .inl (tc 8, 3, .inl vz))] H := hP.sub [1, 2, 3, 0] rfl
        have hD : va_D A [(ad 3, .inr (0, [.ref (ad 6), .ref (ad 7), .ref (ad 8), .int 2, .int 1, .long ar])), (ad 6, .inl (tc 6, 3, .inl vx)), (ad 7, .inl (tc 7, 3, .inl vy)), (ad 8, .inl (tc 8, 3, .inl vz))] := hD.sub [1, 2, 3, 0] (by decide) rfl
        refine lv_if_eq (tgt := 118) hx hb dX0_depthOver_101 (by decide) (fun c101 => ?_) (fun c101 => ?_)
        · refine lv_iconst (v := (-1)) hx hb dX0_depthOver_118 (by decide) ?_
          have hP9 := hP.sub (ws' := [(ad 3, .inr (0, [.ref (ad 6), .ref (ad 7), .ref (ad 8), .int 2, .int 1, .long ar])), (ad 6, .inl (tc 6, 3, .inl vx)), (ad 7, .inl (tc 7, 3, .inl vy)), (ad 8, .inl (tc 8, 3, .inl vz))]) [0, 1, 2, 3] rfl
          have hD9 := hD.sub (ws' := [(ad 3, .inr (0, [.ref (ad 6), .ref (ad 7), .ref (ad 8), .int 2, .int 1, .long ar])), (ad 6, .inl (tc 6, 3, .inl vx)), (ad 7, .inl (tc 7, 3, .inl vy)), (ad 8, .inl (tc 8, 3, .inl vz))]) [0, 1, 2, 3] (by decide) rfl
          exact W.iret (v := (-1)) hx hb hr (fun t ht hW => ⟨⟨(-1), (), rfl, Or.inr ⟨by have hn := (b01 q98).mp c101; rw [e54] at hn; exact fun h => h.elim (fun h => by have := h.1; omega) (fun h => hn h.2.2.2), rfl⟩, by rw [ht]; exact hP9, va_K.moved hW.alike hK, hD9⟩, hS.F ht⟩) hS.2.2 dX0_depthOver_119
        · refine lv_aload_n hx hb dX0_depthOver_104 rfl (lv_at hl 5 rfl) ?_
          refine lv_lload hx hb dX0_depthOver_105 (lv_at hl 0 rfl) ?_
          refine lv_iconst (v := 0) hx hb dX0_depthOver_107 (by decide) ?_
          refine lv_aload_n hx hb dX0_depthOver_108 rfl (lv_at hl 5 rfl) ?_
          refine va_get (D := (dC, dI)) (ci := 0) (v := .int 2) (C := RX0) (T := TX0) (N := 6) hx hb hts (by decide +kernel) hown hK hP 0 rfl rfl 3 (by decide) (hts (.fieldLink RX0 21 "TriangleRaster$Facet" "second" "I") (by decide +kernel)) (fun _ h9 => h9) rfl dX0_depthOver_109 ?_
          refine m_calli (cs := [(ad 3, .inr (0, [.ref (ad 6), .ref (ad 7), .ref (ad 8), .int 2, .int 1, .long ar])), (ad 6, .inl (tc 6, 3, .inl vx)), (ad 7, .inl (tc 7, 3, .inl vy))]) (wr := [(ad 8, .inl (tc 8, 3, .inl vz))]) hP hD hS hA [0, 1, 2] [3] rfl rfl (by decide) (by decide) (va_runV (As := [.long r68, .int 0, .int 2]) (rest := []) ⟨hx, hb, hml, hown, hts⟩ (c_X0_isInside l dC dI _ ad tc 2 1 ar vx vy r68 0 2 0 2 (by omega) (by omega) rfl rfl) (cwV 3 hts gX0_depthOver_X0_isInside rfl rfl rfl (by decide +kernel) ⟨Nat.le_of_ble_eq_true rfl, Nat.le_of_ble_eq_true rfl⟩) (m_preV (ci := 0) (q0 := 0) (hP.sub [0, 1, 2] rfl) (hK.sub [0, 1] rfl) (hD.sub [0, 1, 2] (by decide) rfl) hN rfl rfl) rfl rfl hl.1 rfl (lv_room (Nat.le_of_ble_eq_true rfl)) dX0_depthOver_112 ⟨Nat.le_of_ble_eq_true rfl, Nat.le_of_ble_eq_true rfl⟩) (fun r112 _ H locs q112 _ hP hD hS => ?_)
          have hP : va_P (dC, dI) vwCl [(ad 3, .inr (0, [.ref (ad 6), .ref (ad 7), .ref (ad 8), .int 2, .int 1, .long ar])), (ad 6, .inl (tc 6, 3, .inl vx)), (ad 7, .inl (tc 7, 3, .inl vy)), (ad 8, .inl (tc 8, 3, .inl vz))] H := hP.sub [1, 2, 3, 0] rfl
          have hD : va_D A [(ad 3, .inr (0, [.ref (ad 6), .ref (ad 7), .ref (ad 8), .int 2, .int 1, .long ar])), (ad 6, .inl (tc 6, 3, .inl vx)), (ad 7, .inl (tc 7, 3, .inl vy)), (ad 8, .inl (tc 8, 3, .inl vz))] := hD.sub [1, 2, 3, 0] (by decide) rfl
          refine lv_if_ne (tgt := 120) hx hb dX0_depthOver_115 (by decide) (fun c115 => ?_) (fun c115 => ?_)
          · have har0 : ¬ ar = 0 := fun h => c6 ((lg_cmp_eq _ _).mpr h)
            have hT0 : ¬ tT vx vy = 0 := fun h => har0 (by rw [← Int64.toInt_inj, har, h]; rfl)
            have i84 := Classical.byContradiction (fun h => c87 ((b01 q84).mpr h))
            have i98 := Classical.byContradiction (fun h => c101 ((b01 q98).mpr h))
            have i112 := Classical.byContradiction (fun h => c115 ((b01 q112).mpr h))
            rw [e40] at i84
            rw [e54] at i98
            rw [e68] at i112
            have hC : COV vx vy cl.toInt rw_.toInt := Or.inr ⟨hT, i112, i84, i98⟩
            refine lv_lload hx hb dX0_depthOver_120 (lv_at hl 2 rfl) ?_
            refine lv_aload_n hx hb dX0_depthOver_122 rfl (lv_at hl 5 rfl) ?_
            refine va_get (D := (dC, dI)) (ci := 0) (v := .ref (ad 8)) (C := RX0) (T := TX0) (N := 6) hx hb hts (by decide +kernel) hown hK hP 0 rfl rfl 2 (by decide) (hts (.fieldLink RX0 18 "TriangleRaster$Facet" "zs" "[I") (by decide +kernel)) (fun _ h9 => h9) rfl dX0_depthOver_123 ?_
            refine lv_iconst (v := 0) hx hb dX0_depthOver_126 (by decide) ?_
            refine va_iald hx hb hK hP 3 2 rfl rfl (by unfold vp_in; decide) dX0_depthOver_127 ?_
            refine lv_i2l hx hb dX0_depthOver_128 rfl ?_
            refine lv_lmul hx hb dX0_depthOver_129 ?_
            refine lv_lload hx hb dX0_depthOver_130 (lv_at hl 1 rfl) ?_
            refine lv_aload_n hx hb dX0_depthOver_132 rfl (lv_at hl 5 rfl) ?_
            refine va_get (D := (dC, dI)) (ci := 0) (v := .ref (ad 8)) (C := RX0) (T := TX0) (N := 6) hx hb hts (by decide +kernel) hown hK hP 0 rfl rfl 2 (by decide) (hts (.fieldLink RX0 18 "TriangleRaster$Facet" "zs" "[I") (by decide +kernel)) (fun _ h9 => h9) rfl dX0_depthOver_133 ?_
            refine lv_aload_n hx hb dX0_depthOver_136 rfl (lv_at hl 5 rfl) ?_
            refine va_get (D := (dC, dI)) (ci := 0) (v := .int 2) (C := RX0) (T := TX0) (N := 6) hx hb hts (by decide +kernel) hown hK hP 0 rfl rfl 3 (by decide) (hts (.fieldLink RX0 21 "TriangleRaster$Facet" "second" "I") (by decide +kernel)) (fun _ h9 => h9) rfl dX0_depthOver_137 ?_
            refine va_iald hx hb hK hP 3 2 rfl rfl (by unfold vp_in; decide) dX0_depthOver_140 ?_
            refine lv_i2l hx hb dX0_depthOver_141 rfl ?_
            refine lv_lmul hx hb dX0_depthOver_142 ?_
            refine lv_ladd hx hb dX0_depthOver_143 ?_
            refine lv_lload hx hb dX0_depthOver_144 (lv_at hl 0 rfl) ?_
            refine lv_aload_n hx hb dX0_depthOver_146 rfl (lv_at hl 5 rfl) ?_
            refine va_get (D := (dC, dI)) (ci := 0) (v := .ref (ad 8)) (C := RX0) (T := TX0) (N := 6) hx hb hts (by decide +kernel) hown hK hP 0 rfl rfl 2 (by decide) (hts (.fieldLink RX0 18 "TriangleRaster$Facet" "zs" "[I") (by decide +kernel)) (fun _ h9 => h9) rfl dX0_depthOver_147 ?_
            refine lv_aload_n hx hb dX0_depthOver_150 rfl (lv_at hl 5 rfl) ?_
            refine va_get (D := (dC, dI)) (ci := 0) (v := .int 1) (C := RX0) (T := TX0) (N := 6) hx hb hts (by decide +kernel) hown hK hP 0 rfl rfl 4 (by decide) (hts (.fieldLink RX0 25 "TriangleRaster$Facet" "third" "I") (by decide +kernel)) (fun _ h9 => h9) rfl dX0_depthOver_151 ?_
            refine va_iald hx hb hK hP 3 2 rfl rfl (by unfold vp_in; decide) dX0_depthOver_154 ?_
            refine lv_i2l hx hb dX0_depthOver_155 rfl ?_
            refine lv_lmul hx hb dX0_depthOver_156 ?_
            refine lv_ladd hx hb dX0_depthOver_157 ?_
            refine lv_aload_n hx hb dX0_depthOver_158 rfl (lv_at hl 5 rfl) ?_
            refine va_get (D := (dC, dI)) (ci := 0) (v := .long ar) (C := RX0) (T := TX0) (N := 6) hx hb hts (by decide +kernel) hown hK hP 0 rfl rfl 5 (by decide) (hts (.fieldLink RX0 28 "TriangleRaster$Facet" "area" "J") (by decide +kernel)) (fun _ h9 => h9) rfl dX0_depthOver_159 ?_
            refine lv_ldiv hx hb dX0_depthOver_162 har0 ?_
            refine lv_l2i hx hb dX0_depthOver_163 rfl ?_
            have hP9 := hP.sub (ws' := [(ad 3, .inr (0, [.ref (ad 6), .ref (ad 7), .ref (ad 8), .int 2, .int 1, .long ar])), (ad 6, .inl (tc 6, 3, .inl vx)), (ad 7, .inl (tc 7, 3, .inl vy)), (ad 8, .inl (tc 8, 3, .inl vz))]) [0, 1, 2, 3] rfl
            have hD9 := hD.sub (ws' := [(ad 3, .inr (0, [.ref (ad 6), .ref (ad 7), .ref (ad 8), .int 2, .int 1, .long ar])), (ad 6, .inl (tc 6, 3, .inl vx)), (ad 7, .inl (tc 7, 3, .inl vy)), (ad 8, .inl (tc 8, 3, .inl vz))]) [0, 1, 2, 3] (by decide) rfl
            exact W.iret (v := (((((r40 * ((vz 0).toInt64)) + (r54 * ((vz 2).toInt64))) + (r68 * ((vz 1).toInt64))) / ar).toInt32)) hx hb hr (fun t ht hW => ⟨⟨((((r40 * ((vz 0).toInt64)) + (r54 * ((vz 2).toInt64))) + (r68 * ((vz 1).toInt64))) / ar).toInt32, (), rfl, Or.inl ⟨hC, by have hq := DPT_b hz hC; have hD1 : DPT vx vy vz cl.toInt rw_.toInt = (EE vx vy 2 1 cl.toInt rw_.toInt * (vz 0).toInt + EE vx vy 1 0 cl.toInt rw_.toInt * (vz 2).toInt + EE vx vy 0 2 cl.toInt rw_.toInt * (vz 1).toInt).tdiv (- tT vx vy) := (by unfold DPT DSUM; rw [EE_neg vx vy 1 2, EE_neg vx vy 0 1, EE_neg vx vy 2 0, ← Int.neg_tdiv_neg]; congr 1; grind); rw [hD1] at hq ⊢; exact dep_val e40 e54 e68 har (EE_b hv (by omega) (by omega) hcl hrw) (EE_b hv (by omega) (by omega) hcl hrw) (EE_b hv (by omega) (by omega) hcl hrw) (hz 0 (by omega)) (hz 2 (by omega)) (hz 1 (by omega)) hq⟩, by rw [ht]; exact hP9, va_K.moved hW.alike hK, hD9⟩, hS.F ht⟩) hS.2.2 dX0_depthOver_164
          · refine lv_iconst (v := (-1)) hx hb dX0_depthOver_118 (by decide) ?_
            have hP9 := hP.sub (ws' := [(ad 3, .inr (0, [.ref (ad 6), .ref (ad 7), .ref (ad 8), .int 2, .int 1, .long ar])), (ad 6, .inl (tc 6, 3, .inl vx)), (ad 7, .inl (tc 7, 3, .inl vy)), (ad 8, .inl (tc 8, 3, .inl vz))]) [0, 1, 2, 3] rfl
            have hD9 := hD.sub (ws' := [(ad 3, .inr (0, [.ref (ad 6), .ref (ad 7), .ref (ad 8), .int 2, .int 1, .long ar])), (ad 6, .inl (tc 6, 3, .inl vx)), (ad 7, .inl (tc 7, 3, .inl vy)), (ad 8, .inl (tc 8, 3, .inl vz))]) [0, 1, 2, 3] (by decide) rfl
            exact W.iret (v := (-1)) hx hb hr (fun t ht hW => ⟨⟨(-1), (), rfl, Or.inr ⟨by have hn := (b01 q112).mp c115; rw [e68] at hn; exact fun h => h.elim (fun h => by have := h.1; omega) (fun h => hn h.2.1), rfl⟩, by rw [ht]; exact hP9, va_K.moved hW.alike hK, hD9⟩, hS.F ht⟩) hS.2.2 dX0_depthOver_119
    · refine lv_iconst (v := (-1)) hx hb dX0_depthOver_9 (by decide) ?_
      have hP9 := hP.sub (ws' := [(ad 3, .inr (0, [.ref (ad 6), .ref (ad 7), .ref (ad 8), .int 2, .int 1, .long ar])), (ad 6, .inl (tc 6, 3, .inl vx)), (ad 7, .inl (tc 7, 3, .inl vy)), (ad 8, .inl (tc 8, 3, .inl vz))]) [0, 1, 2, 3] rfl
      have hD9 := hD.sub (ws' := [(ad 3, .inr (0, [.ref (ad 6), .ref (ad 7), .ref (ad 8), .int 2, .int 1, .long ar])), (ad 6, .inl (tc 6, 3, .inl vx)), (ad 7, .inl (tc 7, 3, .inl vy)), (ad 8, .inl (tc 8, 3, .inl vz))]) [0, 1, 2, 3] (by decide) rfl
      exact W.iret (v := (-1)) hx hb hr (fun t ht hW => ⟨⟨(-1), (), rfl, Or.inr ⟨by have h0 : tT vx vy = 0 := (by rw [lg_cmp_eq, ← Int64.toInt_inj, Int64.toInt_zero, har] at c6; omega); exact fun h => h.elim (fun h => by have := h.1; omega) (fun h => by have := h.1; omega), rfl⟩, by rw [ht]; exact hP9, va_K.moved hW.alike hK, hD9⟩, hS.F ht⟩) hS.2.2 dX0_depthOver_10
  · refine lv_aload_n hx hb dX0_depthOver_0 rfl (lv_at hl 0 rfl) ?_
    refine va_get (D := (dC, dI)) (ci := 0) (v := .long ar) (C := RX0) (T := TX0) (N := 6) hx hb hts (by decide +kernel) hown hK hP 0 rfl rfl 5 (by decide) (hts (.fieldLink RX0 28 "TriangleRaster$Facet" "area" "J") (by decide +kernel)) (fun _ h9 => h9) rfl dX0_depthOver_1 ?_
    refine lv_lconst (v := 0) hx hb dX0_depthOver_4 (by decide) ?_
    refine W.lcmp hx hb dX0_depthOver_5 ?_
    refine lv_if_ne (tgt := 11) hx hb dX0_depthOver_6 (by decide) (fun c6 => ?_) (fun c6 => ?_)
    · refine lv_bipush (v := 16) hx hb dX0_depthOver_11 (by decide) ?_
      refine lv_iload_n hx hb dX0_depthOver_13 rfl (lv_at hl 1 rfl) ?_
      refine lv_imul hx hb dX0_depthOver_14 ?_
      refine lv_bipush (v := 8) hx hb dX0_depthOver_15 (by decide) ?_
      refine lv_iadd hx hb dX0_depthOver_17 ?_
      refine lv_istore_n (lv' := [(3, .int ((16 * cl) + 8)), (0, .ref (ad 3)), (1, .int cl), (2, .int rw_)]) hx hb dX0_depthOver_18 rfl hl (by decide) rfl (fun ls hl => ?_)
      refine lv_bipush (v := 16) hx hb dX0_depthOver_19 (by decide) ?_
      refine lv_iload_n hx hb dX0_depthOver_21 rfl (lv_at hl 3 rfl) ?_
      refine lv_imul hx hb dX0_depthOver_22 ?_
      refine lv_bipush (v := 8) hx hb dX0_depthOver_23 (by decide) ?_
      refine lv_iadd hx hb dX0_depthOver_25 ?_
      refine lv_istore (lv' := [(4, .int ((16 * rw_) + 8)), (3, .int ((16 * cl) + 8)), (0, .ref (ad 3)), (1, .int cl), (2, .int rw_)]) hx hb dX0_depthOver_26 hl (by decide) rfl (fun ls hl => ?_)
      refine lv_aload_n hx hb dX0_depthOver_28 rfl (lv_at hl 2 rfl) ?_
      refine lv_aload_n hx hb dX0_depthOver_29 rfl (lv_at hl 2 rfl) ?_
      refine va_get (D := (dC, dI)) (ci := 0) (v := .int 1) (C := RX0) (T := TX0) (N := 6) hx hb hts (by decide +kernel) hown hK hP 0 rfl rfl 3 (by decide) (hts (.fieldLink RX0 21 "TriangleRaster$Facet" "second" "I") (by decide +kernel)) (fun _ h9 => h9) rfl dX0_depthOver_30 ?_
      refine lv_aload_n hx hb dX0_depthOver_33 rfl (lv_at hl 2 rfl) ?_
      refine va_get (D := (dC, dI)) (ci := 0) (v := .int 2) (C := RX0) (T := TX0) (N := 6) hx hb hts (by decide +kernel) hown hK hP 0 rfl rfl 4 (by decide) (hts (.fieldLink RX0 25 "TriangleRaster$Facet" "third" "I") (by decide +kernel)) (fun _ h9 => h9) rfl dX0_depthOver_34 ?_
      refine lv_iload_n hx hb dX0_depthOver_37 rfl (lv_at hl 1 rfl) ?_
      refine lv_iload hx hb dX0_depthOver_38 (lv_at hl 0 rfl) ?_
      refine m_calll (cs := [(ad 3, .inr (0, [.ref (ad 6), .ref (ad 7), .ref (ad 8), .int 1, .int 2, .long ar])), (ad 6, .inl (tc 6, 3, .inl vx)), (ad 7, .inl (tc 7, 3, .inl vy))]) (wr := [(ad 8, .inl (tc 8, 3, .inl vz))]) hP hD hS hA [0, 1, 2] [3] rfl rfl (by decide) (by decide) (va_runV (As := [.int 1, .int 2, .int ((16 * cl) + 8), .int ((16 * rw_) + 8)]) (rest := []) ⟨hx, hb, hml, hown, hts⟩ (c_X0_edge l dC dI _ ad tc 1 2 ar vx vy hv 1 2 1 2 (by omega) (by omega) rfl rfl ((16 * cl) + 8) ((16 * rw_) + 8) hbx hby) (cwV 4 hts gX0_depthOver_X0_edge rfl rfl rfl (by decide +kernel) ⟨Nat.le_of_ble_eq_true rfl, Nat.le_of_ble_eq_true rfl⟩) (m_preV (ci := 0) (q0 := 0) (hP.sub [0, 1, 2] rfl) (hK.sub [0, 1] rfl) (hD.sub [0, 1, 2] (by decide) rfl) hN rfl rfl) rfl rfl hl.1 rfl (lv_room (Nat.le_of_ble_eq_true rfl)) dX0_depthOver_40 ⟨Nat.le_of_ble_eq_true rfl, Nat.le_of_ble_eq_true rfl⟩) (fun r40 _ H locs q40 _ hP hD hS => ?_)
      have hP : va_P (dC, dI) vwCl [(ad 3, .inr (0, [.ref (ad 6), .ref (ad 7), .ref (ad 8), .int 1, .int 2, .long ar])), (ad 6, .inl (tc 6, 3, .inl vx)), (ad 7, .inl (tc 7, 3, .inl vy)), (ad 8, .inl (tc 8, 3, .inl vz))] H := hP.sub [1, 2, 3, 0] rfl
      have hD : va_D A [(ad 3, .inr (0, [.ref (ad 6), .ref (ad 7), .ref (ad 8), .int 1, .int 2, .long ar])), (ad 6, .inl (tc 6, 3, .inl vx)), (ad 7, .inl (tc 7, 3, .inl vy)), (ad 8, .inl (tc 8, 3, .inl vz))] := hD.sub [1, 2, 3, 0] (by decide) rfl
      have e40 : r40.toInt = EE vx vy 1 2 cl.toInt rw_.toInt := by rw [q40, epx, epy]; rfl
      refine lv_lstore (lv' := [(5, .long r40), (4, .int ((16 * rw_) + 8)), (3, .int ((16 * cl) + 8)), (0, .ref (ad 3)), (1, .int cl), (2, .int rw_)]) hx hb dX0_depthOver_43 hl (by decide) rfl (fun ls hl => ?_)
      refine lv_aload_n hx hb dX0_depthOver_45 rfl (lv_at hl 3 rfl) ?_
      refine lv_aload_n hx hb dX0_depthOver_46 rfl (lv_at hl 3 rfl) ?_
      refine va_get (D := (dC, dI)) (ci := 0) (v := .int 2) (C := RX0) (T := TX0) (N := 6) hx hb hts (by decide +kernel) hown hK hP 0 rfl rfl 4 (by decide) (hts (.fieldLink RX0 25 "TriangleRaster$Facet" "third" "I") (by decide +kernel)) (fun _ h9 => h9) rfl dX0_depthOver_47 ?_
      refine lv_iconst (v := 0) hx hb dX0_depthOver_50 (by decide) ?_
      refine lv_iload_n hx hb dX0_depthOver_51 rfl (lv_at hl 2 rfl) ?_
      refine lv_iload hx hb dX0_depthOver_52 (lv_at hl 1 rfl) ?_
      refine m_calll (cs := [(ad 3, .inr (0, [.ref (ad 6), .ref (ad 7), .ref (ad 8), .int 1, .int 2, .long ar])), (ad 6, .inl (tc 6, 3, .inl vx)), (ad 7, .inl (tc 7, 3, .inl vy))]) (wr := [(ad 8, .inl (tc 8, 3, .inl vz))]) hP hD hS hA [0, 1, 2] [3] rfl rfl (by decide) (by decide) (va_runV (As := [.int 2, .int 0, .int ((16 * cl) + 8), .int ((16 * rw_) + 8)]) (rest := []) ⟨hx, hb, hml, hown, hts⟩ (c_X0_edge l dC dI _ ad tc 1 2 ar vx vy hv 2 0 2 0 (by omega) (by omega) rfl rfl ((16 * cl) + 8) ((16 * rw_) + 8) hbx hby) (cwV 4 hts gX0_depthOver_X0_edge rfl rfl rfl (by decide +kernel) ⟨Nat.le_of_ble_eq_true rfl, Nat.le_of_ble_eq_true rfl⟩) (m_preV (ci := 0) (q0 := 0) (hP.sub [0, 1, 2] rfl) (hK.sub [0, 1] rfl) (hD.sub [0, 1, 2] (by decide) rfl) hN rfl rfl) rfl rfl hl.1 rfl (lv_room (Nat.le_of_ble_eq_true rfl)) dX0_depthOver_54 ⟨Nat.le_of_ble_eq_true rfl, Nat.le_of_ble_eq_true rfl⟩) (fun r54 _ H locs q54 _ hP hD hS => ?_)
      have hP : va_P (dC, dI) vwCl [(ad 3, .inr (0, [.ref (ad 6), .ref (ad 7), .ref (ad 8), .int 1, .int 2, .long ar])), (ad 6, .inl (tc 6, 3, .inl vx)), (ad 7, .inl (tc 7, 3, .inl vy)), (ad 8, .inl (tc 8, 3, .inl vz))] H := hP.sub [1, 2, 3, 0] rfl
      have hD : va_D A [(ad 3, .inr (0, [.ref (ad 6), .ref (ad 7), .ref (ad 8), .int 1, .int 2, .long ar])), (ad 6, .inl (tc 6, 3, .inl vx)), (ad 7, .inl (tc 7, 3, .inl vy)), (ad 8, .inl (tc 8, 3, .inl vz))] := hD.sub [1, 2, 3, 0] (by decide) rfl
      have e54 : r54.toInt = EE vx vy 2 0 cl.toInt rw_.toInt := by rw [q54, epx, epy]; rfl
      refine lv_lstore (lv' := [(7, .long r54), (5, .long r40), (4, .int ((16 * rw_) + 8)), (3, .int ((16 * cl) + 8)), (0, .ref (ad 3)), (1, .int cl), (2, .int rw_)]) hx hb dX0_depthOver_57 hl (by decide) rfl (fun ls hl => ?_)
      refine lv_aload_n hx hb dX0_depthOver_59 rfl (lv_at hl 4 rfl) ?_
      refine lv_iconst (v := 0) hx hb dX0_depthOver_60 (by decide) ?_
      refine lv_aload_n hx hb dX0_depthOver_61 rfl (lv_at hl 4 rfl) ?_
      refine va_get (D := (dC, dI)) (ci := 0) (v := .int 1) (C := RX0) (T := TX0) (N := 6) hx hb hts (by decide +kernel) hown hK hP 0 rfl rfl 3 (by decide) (hts (.fieldLink RX0 21 "TriangleRaster$Facet" "second" "I") (by decide +kernel)) (fun _ h9 => h9) rfl dX0_depthOver_62 ?_
      refine lv_iload_n hx hb dX0_depthOver_65 rfl (lv_at hl 3 rfl) ?_
      refine lv_iload hx hb dX0_depthOver_66 (lv_at hl 2 rfl) ?_
      refine m_calll (cs := [(ad 3, .inr (0, [.ref (ad 6), .ref (ad 7), .ref (ad 8), .int 1, .int 2, .long ar])), (ad 6, .inl (tc 6, 3, .inl vx)), (ad 7, .inl (tc 7, 3, .inl vy))]) (wr := [(ad 8, .inl (tc 8, 3, .inl vz))]) hP hD hS hA [0, 1, 2] [3] rfl rfl (by decide) (by decide) (va_runV (As := [.int 0, .int 1, .int ((16 * cl) + 8), .int ((16 * rw_) + 8)]) (rest := []) ⟨hx, hb, hml, hown, hts⟩ (c_X0_edge l dC dI _ ad tc 1 2 ar vx vy hv 0 1 0 1 (by omega) (by omega) rfl rfl ((16 * cl) + 8) ((16 * rw_) + 8) hbx hby) (cwV 4 hts gX0_depthOver_X0_edge rfl rfl rfl (by decide +kernel) ⟨Nat.le_of_ble_eq_true rfl, Nat.le_of_ble_eq_true rfl⟩) (m_preV (ci := 0) (q0 := 0) (hP.sub [0, 1, 2] rfl) (hK.sub [0, 1] rfl) (hD.sub [0, 1, 2] (by decide) rfl) hN rfl rfl) rfl rfl hl.1 rfl (lv_room (Nat.le_of_ble_eq_true rfl)) dX0_depthOver_68 ⟨Nat.le_of_ble_eq_true rfl, Nat.le_of_ble_eq_true rfl⟩) (fun r68 _ H locs q68 _ hP hD hS => ?_)
      have hP : va_P (dC, dI) vwCl [(ad 3, .inr (0, [.ref (ad 6), .ref (ad 7), .ref (ad 8), .int 1, .int 2, .long ar])), (ad 6, .inl (tc 6, 3, .inl vx)), (ad 7, .inl (tc 7, 3, .inl vy)), (ad 8, .inl (tc 8, 3, .inl vz))] H := hP.sub [1, 2, 3, 0] rfl
      have hD : va_D A [(ad 3, .inr (0, [.ref (ad 6), .ref (ad 7), .ref (ad 8), .int 1, .int 2, .long ar])), (ad 6, .inl (tc 6, 3, .inl vx)), (ad 7, .inl (tc 7, 3, .inl vy)), (ad 8, .inl (tc 8, 3, .inl vz))] := hD.sub [1, 2, 3, 0] (by decide) rfl
      have e68 : r68.toInt = EE vx vy 0 1 cl.toInt rw_.toInt := by rw [q68, epx, epy]; rfl
      refine lv_lstore (lv' := [(9, .long r68), (7, .long r54), (5, .long r40), (4, .int ((16 * rw_) + 8)), (3, .int ((16 * cl) + 8)), (0, .ref (ad 3)), (1, .int cl), (2, .int rw_)]) hx hb dX0_depthOver_71 hl (by decide) rfl (fun ls hl => ?_)
      refine lv_aload_n hx hb dX0_depthOver_73 rfl (lv_at hl 5 rfl) ?_
      refine lv_lload hx hb dX0_depthOver_74 (lv_at hl 2 rfl) ?_
      refine lv_aload_n hx hb dX0_depthOver_76 rfl (lv_at hl 5 rfl) ?_
      refine va_get (D := (dC, dI)) (ci := 0) (v := .int 1) (C := RX0) (T := TX0) (N := 6) hx hb hts (by decide +kernel) hown hK hP 0 rfl rfl 3 (by decide) (hts (.fieldLink RX0 21 "TriangleRaster$Facet" "second" "I") (by decide +kernel)) (fun _ h9 => h9) rfl dX0_depthOver_77 ?_
      refine lv_aload_n hx hb dX0_depthOver_80 rfl (lv_at hl 5 rfl) ?_
      refine va_get (D := (dC, dI)) (ci := 0) (v := .int 2) (C := RX0) (T := TX0) (N := 6) hx hb hts (by decide +kernel) hown hK hP 0 rfl rfl 4 (by decide) (hts (.fieldLink RX0 25 "TriangleRaster$Facet" "third" "I") (by decide +kernel)) (fun _ h9 => h9) rfl dX0_depthOver_81 ?_
      refine m_calli (cs := [(ad 3, .inr (0, [.ref (ad 6), .ref (ad 7), .ref (ad 8), .int 1, .int 2, .long ar])), (ad 6, .inl (tc 6, 3, .inl vx)), (ad 7, .inl (tc 7, 3, .inl vy))]) (wr := [(ad 8, .inl (tc 8, 3, .inl vz))]) hP hD hS hA [0, 1, 2] [3] rfl rfl (by decide) (by decide) (va_runV (As := [.long r40, .int 1, .int 2]) (rest := []) ⟨hx, hb, hml, hown, hts⟩ (c_X0_isInside l dC dI _ ad tc 1 2 ar vx vy r40 1 2 1 2 (by omega) (by omega) rfl rfl) (cwV 3 hts gX0_depthOver_X0_isInside rfl rfl rfl (by decide +kernel) ⟨Nat.le_of_ble_eq_true rfl, Nat.le_of_ble_eq_true rfl⟩) (m_preV (ci := 0) (q0 := 0) (hP.sub [0, 1, 2] rfl) (hK.sub [0, 1] rfl) (hD.sub [0, 1, 2] (by decide) rfl) hN rfl rfl) rfl rfl hl.1 rfl (lv_room (Nat.le_of_ble_eq_true rfl)) dX0_depthOver_84 ⟨Nat.le_of_ble_eq_true rfl, Nat.le_of_ble_eq_true rfl⟩) (fun r84 _ H locs q84 _ hP hD hS => ?_)
      have hP : va_P (dC, dI) vwCl [(ad 3, .inr (0, [.ref (ad 6), .ref (ad 7), .ref (ad 8), .int 1, .int 2, .long ar])), (ad 6, .inl (tc 6, 3, .inl vx)), (ad 7, .inl (tc 7, 3, .inl vy)), (ad 8, .inl (tc 8, 3, .inl vz))] H := hP.sub [1, 2, 3, 0] rfl
      have hD : va_D A [(ad 3, .inr (0, [.ref (ad 6), .ref (ad 7), .ref (ad 8), .int 1, .int 2, .long ar])), (ad 6, .inl (tc 6, 3, .inl vx)), (ad 7, .inl (tc 7, 3, .inl vy)), (ad 8, .inl (tc 8, 3, .inl vz))] := hD.sub [1, 2, 3, 0] (by decide) rfl
      refine lv_if_eq (tgt := 118) hx hb dX0_depthOver_87 (by decide) (fun c87 => ?_) (fun c87 => ?_)
      · refine lv_iconst (v := (-1)) hx hb dX0_depthOver_118 (by decide) ?_
        have hP9 := hP.sub (ws' := [(ad 3, .inr (0, [.ref (ad 6), .ref (ad 7), .ref (ad 8), .int 1, .int 2, .long ar])), (ad 6, .inl (tc 6, 3, .inl vx)), (ad 7, .inl (tc 7, 3, .inl vy)), (ad 8, .inl (tc 8, 3, .inl vz))]) [0, 1, 2, 3] rfl
        have hD9 := hD.sub (ws' := [(ad 3, .inr (0, [.ref (ad 6), .ref (ad 7), .ref (ad 8), .int 1, .int 2, .long ar])), (ad 6, .inl (tc 6, 3, .inl vx)), (ad 7, .inl (tc 7, 3, .inl vy)), (ad 8, .inl (tc 8, 3, .inl vz))]) [0, 1, 2, 3] (by decide) rfl
        exact W.iret (v := (-1)) hx hb hr (fun t ht hW => ⟨⟨(-1), (), rfl, Or.inr ⟨by have hn := (b01 q84).mp c87; rw [e40] at hn; exact fun h => h.elim (fun h => hn h.2.2.1) (fun h => by have := h.1; omega), rfl⟩, by rw [ht]; exact hP9, va_K.moved hW.alike hK, hD9⟩, hS.F ht⟩) hS.2.2 dX0_depthOver_119
      · refine lv_aload_n hx hb dX0_depthOver_90 rfl (lv_at hl 5 rfl) ?_
        refine lv_lload hx hb dX0_depthOver_91 (lv_at hl 1 rfl) ?_
        refine lv_aload_n hx hb dX0_depthOver_93 rfl (lv_at hl 5 rfl) ?_
        refine va_get (D := (dC, dI)) (ci := 0) (v := .int 2) (C := RX0) (T := TX0) (N := 6) hx hb hts (by decide +kernel) hown hK hP 0 rfl rfl 4 (by decide) (hts (.fieldLink RX0 25 "TriangleRaster$Facet" "third" "I") (by decide +kernel)) (fun _ h9 => h9) rfl dX0_depthOver_94 ?_
        refine lv_iconst (v := 0) hx hb dX0_depthOver_97 (by decide) ?_
        refine m_calli (cs := [(ad 3, .inr (0, [.ref (ad 6), .ref (ad 7), .ref (ad 8), .int 1, .int 2, .long ar])), (ad 6, .inl (tc 6, 3, .inl vx)), (ad 7, .inl (tc 7, 3, .inl vy))]) (wr := [(ad 8, .inl (tc 8, 3, .inl vz))]) hP hD hS hA [0, 1, 2] [3] rfl rfl (by decide) (by decide) (va_runV (As := [.long r54, .int 2, .int 0]) (rest := []) ⟨hx, hb, hml, hown, hts⟩ (c_X0_isInside l dC dI _ ad tc 1 2 ar vx vy r54 2 0 2 0 (by omega) (by omega) rfl rfl) (cwV 3 hts gX0_depthOver_X0_isInside rfl rfl rfl (by decide +kernel) ⟨Nat.le_of_ble_eq_true rfl, Nat.le_of_ble_eq_true rfl⟩) (m_preV (ci := 0) (q0 := 0) (hP.sub [0, 1, 2] rfl) (hK.sub [0, 1] rfl) (hD.sub [0, 1, 2] (by decide) rfl) hN rfl rfl) rfl rfl hl.1 rfl (lv_room (Nat.le_of_ble_eq_true rfl)) dX0_depthOver_98 ⟨Nat.le_of_ble_eq_true rfl, Nat.le_of_ble_eq_true rfl⟩) (fun r98 _ H locs q98 _ hP hD hS => ?_)
        have hP : va_P (dC, dI) vwCl [(ad 3, .inr (0, [.ref (ad 6), .ref (ad 7), .ref (ad 8), .int 1, .int 2, .long ar])), (ad 6, .inl (tc 6, 3, .inl vx)), (ad 7, .inl (tc 7, 3, .inl vy)), (ad 8, .inl (tc 8, 3, .inl vz))] H := hP.sub [1, 2, 3, 0] rfl
        have hD : va_D A [(ad 3, .inr (0, [.ref (ad 6), .ref (ad 7), .ref (ad 8), .int 1, .int 2, .long ar])), (ad 6, .inl (tc 6, 3, .inl vx)), (ad 7, .inl (tc 7, 3, .inl vy)), (ad 8, .inl (tc 8, 3, .inl vz))] := hD.sub [1, 2, 3, 0] (by decide) rfl
        refine lv_if_eq (tgt := 118) hx hb dX0_depthOver_101 (by decide) (fun c101 => ?_) (fun c101 => ?_)
        · refine lv_iconst (v := (-1)) hx hb dX0_depthOver_118 (by decide) ?_
          have hP9 := hP.sub (ws' := [(ad 3, .inr (0, [.ref (ad 6), .ref (ad 7), .ref (ad 8), .int 1, .int 2, .long ar])), (ad 6, .inl (tc 6, 3, .inl vx)), (ad 7, .inl (tc 7, 3, .inl vy)), (ad 8, .inl (tc 8, 3, .inl vz))]) [0, 1, 2, 3] rfl
          have hD9 := hD.sub (ws' := [(ad 3, .inr (0, [.ref (ad 6), .ref (ad 7), .ref (ad 8), .int 1, .int 2, .long ar])), (ad 6, .inl (tc 6, 3, .inl vx)), (ad 7, .inl (tc 7, 3, .inl vy)), (ad 8, .inl (tc 8, 3, .inl vz))]) [0, 1, 2, 3] (by decide) rfl
          exact W.iret (v := (-1)) hx hb hr (fun t ht hW => ⟨⟨(-1), (), rfl, Or.inr ⟨by have hn := (b01 q98).mp c101; rw [e54] at hn; exact fun h => h.elim (fun h => hn h.2.2.2) (fun h => by have := h.1; omega), rfl⟩, by rw [ht]; exact hP9, va_K.moved hW.alike hK, hD9⟩, hS.F ht⟩) hS.2.2 dX0_depthOver_119
        · refine lv_aload_n hx hb dX0_depthOver_104 rfl (lv_at hl 5 rfl) ?_
          refine lv_lload hx hb dX0_depthOver_105 (lv_at hl 0 rfl) ?_
          refine lv_iconst (v := 0) hx hb dX0_depthOver_107 (by decide) ?_
          refine lv_aload_n hx hb dX0_depthOver_108 rfl (lv_at hl 5 rfl) ?_
          refine va_get (D := (dC, dI)) (ci := 0) (v := .int 1) (C := RX0) (T := TX0) (N := 6) hx hb hts (by decide +kernel) hown hK hP 0 rfl rfl 3 (by decide) (hts (.fieldLink RX0 21 "TriangleRaster$Facet" "second" "I") (by decide +kernel)) (fun _ h9 => h9) rfl dX0_depthOver_109 ?_
          refine m_calli (cs := [(ad 3, .inr (0, [.ref (ad 6), .ref (ad 7), .ref (ad 8), .int 1, .int 2, .long ar])), (ad 6, .inl (tc 6, 3, .inl vx)), (ad 7, .inl (tc 7, 3, .inl vy))]) (wr := [(ad 8, .inl (tc 8, 3, .inl vz))]) hP hD hS hA [0, 1, 2] [3] rfl rfl (by decide) (by decide) (va_runV (As := [.long r68, .int 0, .int 1]) (rest := []) ⟨hx, hb, hml, hown, hts⟩ (c_X0_isInside l dC dI _ ad tc 1 2 ar vx vy r68 0 1 0 1 (by omega) (by omega) rfl rfl) (cwV 3 hts gX0_depthOver_X0_isInside rfl rfl rfl (by decide +kernel) ⟨Nat.le_of_ble_eq_true rfl, Nat.le_of_ble_eq_true rfl⟩) (m_preV (ci := 0) (q0 := 0) (hP.sub [0, 1, 2] rfl) (hK.sub [0, 1] rfl) (hD.sub [0, 1, 2] (by decide) rfl) hN rfl rfl) rfl rfl hl.1 rfl (lv_room (Nat.le_of_ble_eq_true rfl)) dX0_depthOver_112 ⟨Nat.le_of_ble_eq_true rfl, Nat.le_of_ble_eq_true rfl⟩) (fun r112 _ H locs q112 _ hP hD hS => ?_)
          have hP : va_P (dC, dI) vwCl [(ad 3, .inr (0, [.ref (ad 6), .ref (ad 7), .ref (ad 8), .int 1, .int 2, .long ar])), (ad 6, .inl (tc 6, 3, .inl vx)), (ad 7, .inl (tc 7, 3, .inl vy)), (ad 8, .inl (tc 8, 3, .inl vz))] H := hP.sub [1, 2, 3, 0] rfl
          have hD : va_D A [(ad 3, .inr (0, [.ref (ad 6), .ref (ad 7), .ref (ad 8), .int 1, .int 2, .long ar])), (ad 6, .inl (tc 6, 3, .inl vx)), (ad 7, .inl (tc 7, 3, .inl vy)), (ad 8, .inl (tc 8, 3, .inl vz))] := hD.sub [1, 2, 3, 0] (by decide) rfl
          refine lv_if_ne (tgt := 120) hx hb dX0_depthOver_115 (by decide) (fun c115 => ?_) (fun c115 => ?_)
          · have har0 : ¬ ar = 0 := fun h => c6 ((lg_cmp_eq _ _).mpr h)
            have hT0 : ¬ tT vx vy = 0 := fun h => har0 (by rw [← Int64.toInt_inj, har, h]; rfl)
            have i84 := Classical.byContradiction (fun h => c87 ((b01 q84).mpr h))
            have i98 := Classical.byContradiction (fun h => c101 ((b01 q98).mpr h))
            have i112 := Classical.byContradiction (fun h => c115 ((b01 q112).mpr h))
            rw [e40] at i84
            rw [e54] at i98
            rw [e68] at i112
            have hC : COV vx vy cl.toInt rw_.toInt := Or.inl ⟨by omega, i112, i84, i98⟩
            refine lv_lload hx hb dX0_depthOver_120 (lv_at hl 2 rfl) ?_
            refine lv_aload_n hx hb dX0_depthOver_122 rfl (lv_at hl 5 rfl) ?_
            refine va_get (D := (dC, dI)) (ci := 0) (v := .ref (ad 8)) (C := RX0) (T := TX0) (N := 6) hx hb hts (by decide +kernel) hown hK hP 0 rfl rfl 2 (by decide) (hts (.fieldLink RX0 18 "TriangleRaster$Facet" "zs" "[I") (by decide +kernel)) (fun _ h9 => h9) rfl dX0_depthOver_123 ?_
            refine lv_iconst (v := 0) hx hb dX0_depthOver_126 (by decide) ?_
            refine va_iald hx hb hK hP 3 2 rfl rfl (by unfold vp_in; decide) dX0_depthOver_127 ?_
            refine lv_i2l hx hb dX0_depthOver_128 rfl ?_
            refine lv_lmul hx hb dX0_depthOver_129 ?_
            refine lv_lload hx hb dX0_depthOver_130 (lv_at hl 1 rfl) ?_
            refine lv_aload_n hx hb dX0_depthOver_132 rfl (lv_at hl 5 rfl) ?_
            refine va_get (D := (dC, dI)) (ci := 0) (v := .ref (ad 8)) (C := RX0) (T := TX0) (N := 6) hx hb hts (by decide +kernel) hown hK hP 0 rfl rfl 2 (by decide) (hts (.fieldLink RX0 18 "TriangleRaster$Facet" "zs" "[I") (by decide +kernel)) (fun _ h9 => h9) rfl dX0_depthOver_133 ?_
            refine lv_aload_n hx hb dX0_depthOver_136 rfl (lv_at hl 5 rfl) ?_
            refine va_get (D := (dC, dI)) (ci := 0) (v := .int 1) (C := RX0) (T := TX0) (N := 6) hx hb hts (by decide +kernel) hown hK hP 0 rfl rfl 3 (by decide) (hts (.fieldLink RX0 21 "TriangleRaster$Facet" "second" "I") (by decide +kernel)) (fun _ h9 => h9) rfl dX0_depthOver_137 ?_
            refine va_iald hx hb hK hP 3 2 rfl rfl (by unfold vp_in; decide) dX0_depthOver_140 ?_
            refine lv_i2l hx hb dX0_depthOver_141 rfl ?_
            refine lv_lmul hx hb dX0_depthOver_142 ?_
            refine lv_ladd hx hb dX0_depthOver_143 ?_
            refine lv_lload hx hb dX0_depthOver_144 (lv_at hl 0 rfl) ?_
            refine lv_aload_n hx hb dX0_depthOver_146 rfl (lv_at hl 5 rfl) ?_
            refine va_get (D := (dC, dI)) (ci := 0) (v := .ref (ad 8)) (C := RX0) (T := TX0) (N := 6) hx hb hts (by decide +kernel) hown hK hP 0 rfl rfl 2 (by decide) (hts (.fieldLink RX0 18 "TriangleRaster$Facet" "zs" "[I") (by decide +kernel)) (fun _ h9 => h9) rfl dX0_depthOver_147 ?_
            refine lv_aload_n hx hb dX0_depthOver_150 rfl (lv_at hl 5 rfl) ?_
            refine va_get (D := (dC, dI)) (ci := 0) (v := .int 2) (C := RX0) (T := TX0) (N := 6) hx hb hts (by decide +kernel) hown hK hP 0 rfl rfl 4 (by decide) (hts (.fieldLink RX0 25 "TriangleRaster$Facet" "third" "I") (by decide +kernel)) (fun _ h9 => h9) rfl dX0_depthOver_151 ?_
            refine va_iald hx hb hK hP 3 2 rfl rfl (by unfold vp_in; decide) dX0_depthOver_154 ?_
            refine lv_i2l hx hb dX0_depthOver_155 rfl ?_
            refine lv_lmul hx hb dX0_depthOver_156 ?_
            refine lv_ladd hx hb dX0_depthOver_157 ?_
            refine lv_aload_n hx hb dX0_depthOver_158 rfl (lv_at hl 5 rfl) ?_
            refine va_get (D := (dC, dI)) (ci := 0) (v := .long ar) (C := RX0) (T := TX0) (N := 6) hx hb hts (by decide +kernel) hown hK hP 0 rfl rfl 5 (by decide) (hts (.fieldLink RX0 28 "TriangleRaster$Facet" "area" "J") (by decide +kernel)) (fun _ h9 => h9) rfl dX0_depthOver_159 ?_
            refine lv_ldiv hx hb dX0_depthOver_162 har0 ?_
            refine lv_l2i hx hb dX0_depthOver_163 rfl ?_
            have hP9 := hP.sub (ws' := [(ad 3, .inr (0, [.ref (ad 6), .ref (ad 7), .ref (ad 8), .int 1, .int 2, .long ar])), (ad 6, .inl (tc 6, 3, .inl vx)), (ad 7, .inl (tc 7, 3, .inl vy)), (ad 8, .inl (tc 8, 3, .inl vz))]) [0, 1, 2, 3] rfl
            have hD9 := hD.sub (ws' := [(ad 3, .inr (0, [.ref (ad 6), .ref (ad 7), .ref (ad 8), .int 1, .int 2, .long ar])), (ad 6, .inl (tc 6, 3, .inl vx)), (ad 7, .inl (tc 7, 3, .inl vy)), (ad 8, .inl (tc 8, 3, .inl vz))]) [0, 1, 2, 3] (by decide) rfl
            exact W.iret (v := (((((r40 * ((vz 0).toInt64)) + (r54 * ((vz 1).toInt64))) + (r68 * ((vz 2).toInt64))) / ar).toInt32)) hx hb hr (fun t ht hW => ⟨⟨((((r40 * ((vz 0).toInt64)) + (r54 * ((vz 1).toInt64))) + (r68 * ((vz 2).toInt64))) / ar).toInt32, (), rfl, Or.inl ⟨hC, by have hq := DPT_b hz hC; exact dep_val e40 e54 e68 har (EE_b hv (by omega) (by omega) hcl hrw) (EE_b hv (by omega) (by omega) hcl hrw) (EE_b hv (by omega) (by omega) hcl hrw) (hz 0 (by omega)) (hz 1 (by omega)) (hz 2 (by omega)) hq⟩, by rw [ht]; exact hP9, va_K.moved hW.alike hK, hD9⟩, hS.F ht⟩) hS.2.2 dX0_depthOver_164
          · refine lv_iconst (v := (-1)) hx hb dX0_depthOver_118 (by decide) ?_
            have hP9 := hP.sub (ws' := [(ad 3, .inr (0, [.ref (ad 6), .ref (ad 7), .ref (ad 8), .int 1, .int 2, .long ar])), (ad 6, .inl (tc 6, 3, .inl vx)), (ad 7, .inl (tc 7, 3, .inl vy)), (ad 8, .inl (tc 8, 3, .inl vz))]) [0, 1, 2, 3] rfl
            have hD9 := hD.sub (ws' := [(ad 3, .inr (0, [.ref (ad 6), .ref (ad 7), .ref (ad 8), .int 1, .int 2, .long ar])), (ad 6, .inl (tc 6, 3, .inl vx)), (ad 7, .inl (tc 7, 3, .inl vy)), (ad 8, .inl (tc 8, 3, .inl vz))]) [0, 1, 2, 3] (by decide) rfl
            exact W.iret (v := (-1)) hx hb hr (fun t ht hW => ⟨⟨(-1), (), rfl, Or.inr ⟨by have hn := (b01 q112).mp c115; rw [e68] at hn; exact fun h => h.elim (fun h => hn h.2.1) (fun h => by have := h.1; omega), rfl⟩, by rw [ht]; exact hP9, va_K.moved hW.alike hK, hD9⟩, hS.F ht⟩) hS.2.2 dX0_depthOver_119
    · refine lv_iconst (v := (-1)) hx hb dX0_depthOver_9 (by decide) ?_
      have hP9 := hP.sub (ws' := [(ad 3, .inr (0, [.ref (ad 6), .ref (ad 7), .ref (ad 8), .int 1, .int 2, .long ar])), (ad 6, .inl (tc 6, 3, .inl vx)), (ad 7, .inl (tc 7, 3, .inl vy)), (ad 8, .inl (tc 8, 3, .inl vz))]) [0, 1, 2, 3] rfl
      have hD9 := hD.sub (ws' := [(ad 3, .inr (0, [.ref (ad 6), .ref (ad 7), .ref (ad 8), .int 1, .int 2, .long ar])), (ad 6, .inl (tc 6, 3, .inl vx)), (ad 7, .inl (tc 7, 3, .inl vy)), (ad 8, .inl (tc 8, 3, .inl vz))]) [0, 1, 2, 3] (by decide) rfl
      exact W.iret (v := (-1)) hx hb hr (fun t ht hW => ⟨⟨(-1), (), rfl, Or.inr ⟨by have h0 : tT vx vy = 0 := (by rw [lg_cmp_eq, ← Int64.toInt_inj, Int64.toInt_zero, har] at c6; omega); exact fun h => h.elim (fun h => by have := h.1; omega) (fun h => by have := h.1; omega), rfl⟩, by rw [ht]; exact hP9, va_K.moved hW.alike hK, hD9⟩, hS.F ht⟩) hS.2.2 dX0_depthOver_10
end
section
/-! a vertex that may be set; what a triangle does to the picture -/
def VOK (k x y z : Int32) : Prop := (0 ≤ k.toInt ∧ k.toInt ≤ 2) ∧ (-16384 ≤ x.toInt ∧ x.toInt ≤ 16384) ∧ (-16384 ≤ y.toInt ∧ y.toInt ≤ 16384) ∧ (0 ≤ z.toInt ∧ z.toInt ≤ 32768)
theorem vb_upd {vx vy : Nat → Int32} (hv : vb vx vy) {i : Nat} {x y : Int32} (hx : -16384 ≤ x.toInt ∧ x.toInt ≤ 16384) (hy : -16384 ≤ y.toInt ∧ y.toInt ≤ 16384) : vb (upd vx i x) (upd vy i y) := by
  intro k hk
  unfold upd
  by_cases h : k = i
  · rw [if_pos h, if_pos h]; omega
  · rw [if_neg h, if_neg h]; exact hv k hk
theorem zb_upd {vz : Nat → Int32} (hz : zb vz) {i : Nat} {z : Int32} (h0 : 0 ≤ z.toInt ∧ z.toInt ≤ 32768) : zb (upd vz i z) := by
  intro k hk
  unfold upd
  by_cases h : k = i
  · rw [if_pos h]; exact h0
  · rw [if_neg h]; exact hz k hk
def NEAR (c r : Int32) : Prop := (-2000 ≤ c.toInt ∧ c.toInt ≤ 2000) ∧ (-2000 ≤ r.toInt ∧ r.toInt ≤ 2000)
theorem dpt_ne {vx vy vz : Nat → Int32} (hz : zb vz) {c r : Int} (h : COV vx vy c r) : ¬ Int32.ofInt (DPT vx vy vz c r) = -1 := by
  intro q
  have b := DPT_b hz h
  have e := congrArg Int32.toInt q
  rw [Int32.toInt_ofInt_of_le (by omega) (by omega), show (-1 : Int32).toInt = -1 from by decide] at e
  omega
/-- the pixels that a triangle changes -/
def TPi (w : Nat) (vx vy vz dep : Nat → Int32) (i : Nat) : Prop := COV vx vy (i % w : Nat) (i / w : Nat) ∧ DPT vx vy vz (i % w : Nat) (i / w : Nat) < (dep i).toInt
/-- the picture behind the first k of its pixels -/
def TIn (w n : Nat) (vx vy vz col dep : Nat → Int32) (c : Int32) (k : Nat) (col' dep' : Nat → Int32) : Prop := ∀ i, i < n → ((i < k ∧ TPi w vx vy vz dep i) → col' i = c ∧ dep' i = Int32.ofInt (DPT vx vy vz (i % w : Nat) (i / w : Nat))) ∧ (¬ (i < k ∧ TPi w vx vy vz dep i) → col' i = col i ∧ dep' i = dep i)
theorem TIn_0 {w n : Nat} {vx vy vz col dep : Nat → Int32} {c : Int32} : TIn w n vx vy vz col dep c 0 col dep := fun i _ => ⟨fun h => absurd h.1 (Nat.not_lt_zero i), fun _ => ⟨rfl, rfl⟩⟩
theorem TIn_no {w n k : Nat} {vx vy vz col dep col' dep' : Nat → Int32} {c : Int32} (h : TIn w n vx vy vz col dep c k col' dep') (hk : ¬ TPi w vx vy vz dep k) : TIn w n vx vy vz col dep c (k + 1) col' dep' := by
  intro i hi
  refine ⟨fun q => (h i hi).1 ⟨?_, q.2⟩, fun q => (h i hi).2 (fun q2 => q ⟨by omega, q2.2⟩)⟩
  rcases Nat.lt_or_ge i k with h1 | h1
  · exact h1
  · have : i = k := by omega
    subst this
    exact absurd q.2 hk
theorem TIn_yes {w n k : Nat} {vx vy vz col dep col' dep' : Nat → Int32} {c : Int32} (h : TIn w n vx vy vz col dep c k col' dep') (hk : TPi w vx vy vz dep k) : TIn w n vx vy vz col dep c (k + 1) (upd col' k c) (upd dep' k (Int32.ofInt (DPT vx vy vz (k % w : Nat) (k / w : Nat)))) := by
  intro i hi
  by_cases he : i = k
  · subst he
    exact ⟨fun _ => ⟨pk_us, pk_us⟩, fun q => absurd ⟨Nat.lt_succ_self i, hk⟩ q⟩
  · rw [pk_un he, pk_un he]
    exact ⟨fun q => (h i hi).1 ⟨by omega, q.2⟩, fun q => (h i hi).2 (fun q2 => q ⟨by omega, q2.2⟩)⟩
theorem TIn_dep {w n k : Nat} {vx vy vz col dep col' dep' : Nat → Int32} {c : Int32} (h : TIn w n vx vy vz col dep c k col' dep') (hk : k < n) : dep' k = dep k := ((h k hk).2 (fun q => Nat.lt_irrefl k q.1)).2
/-- at a pixel (x, y) -/
theorem TPi_at {w x y : Nat} {vx vy vz dep : Nat → Int32} (hx : x < w) : TPi w vx vy vz dep (y * w + x) ↔ COV vx vy (x : Int) (y : Int) ∧ DPT vx vy vz (x : Int) (y : Int) < (dep (y * w + x)).toInt := by
  unfold TPi
  rw [row_mod y hx, row_div y hx]
end
section
set_option maxHeartbeats 4000000 in
set_option maxRecDepth 100000 in
/-- vertex -/
theorem c_X1_vertex (l : Launch) (dC : Nat → ClassId) (dI : Nat → Nat → Nat) (sz : Nat) (ad : Nat → Nat) (tc : Nat → ClassId) (w h : Nat) (qd se th : Int32) (ar : Int64) (vx vy vz : Nat → Int32) (hv : vb vx vy) (k x y z : Int32) : Met l yX1_vertex wsX1_vertex ({ frames := 3, cells := 0, slots := 0, locals := 74 }) (mP (dC, dI) vwCl [(tc 6, .int), (tc 7, .int), (tc 8, .int)] [(ad 0, .inr (1, [.int (nI w), .int (nI h), .ref (ad 1), .ref (ad 2), .ref (ad 3), .ref (ad 4), .ref (ad 5), .int qd])), (ad 3, .inr (0, [.ref (ad 6), .ref (ad 7), .ref (ad 8), .int se, .int th, .long ar])), (ad 6, .inl (tc 6, 3, .inl vx)), (ad 7, .inl (tc 7, 3, .inl vy)), (ad 8, .inl (tc 8, 3, .inl vz))] sz [.ref (ad 0), .int k, .int x, .int y, .int z]) (va_Qi (fun (r : Int32) (u : (Nat → Int32) × (Nat → Int32) × (Nat → Int32) × Int32 × Int32 × Int64) => (VOK k x y z ∧ r = 1 ∧ u.1 = upd vx k.toNatClampNeg x ∧ u.2.1 = upd vy k.toNatClampNeg y ∧ u.2.2.1 = upd vz k.toNatClampNeg z ∧ facOK u.1 u.2.1 u.2.2.2.1 u.2.2.2.2.1 u.2.2.2.2.2) ∨ (¬ VOK k x y z ∧ r = 0 ∧ u = (vx, vy, vz, se, th, ar))) (mB (dC, dI) vwCl [(tc 6, .int), (tc 7, .int), (tc 8, .int)] (va_A [(ad 0, .inr (1, [.int (nI w), .int (nI h), .ref (ad 1), .ref (ad 2), .ref (ad 3), .ref (ad 4), .ref (ad 5), .int qd])), (ad 3, .inr (0, [.ref (ad 6), .ref (ad 7), .ref (ad 8), .int se, .int th, .long ar])), (ad 6, .inl (tc 6, 3, .inl vx)), (ad 7, .inl (tc 7, 3, .inl vy)), (ad 8, .inl (tc 8, 3, .inl vz))] sz) (fun u => [(ad 0, .inr (1, [.int (nI w), .int (nI h), .ref (ad 1), .ref (ad 2), .ref (ad 3), .ref (ad 4), .ref (ad 5), .int qd])), (ad 3, .inr (0, [.ref (ad 6), .ref (ad 7), .ref (ad 8), .int u.2.2.2.1, .int u.2.2.2.2.1, .long u.2.2.2.2.2])), (ad 6, .inl (tc 6, 3, .inl u.1)), (ad 7, .inl (tc 7, 3, .inl u.2.1)), (ad 8, .inl (tc 8, 3, .inl u.2.2.1))])) (va_A [(ad 0, .inr (1, [.int (nI w), .int (nI h), .ref (ad 1), .ref (ad 2), .ref (ad 3), .ref (ad 4), .ref (ad 5), .int qd])), (ad 3, .inr (0, [.ref (ad 6), .ref (ad 7), .ref (ad 8), .int se, .int th, .long ar])), (ad 6, .inl (tc 6, 3, .inl vx)), (ad 7, .inl (tc 7, 3, .inl vy)), (ad 8, .inl (tc 8, 3, .inl vz))] sz)) 0 0 (va_A [(ad 0, .inr (1, [.int (nI w), .int (nI h), .ref (ad 1), .ref (ad 2), .ref (ad 3), .ref (ad 4), .ref (ad 5), .int qd])), (ad 3, .inr (0, [.ref (ad 6), .ref (ad 7), .ref (ad 8), .int se, .int th, .long ar])), (ad 6, .inl (tc 6, 3, .inl vx)), (ad 7, .inl (tc 7, 3, .inl vy)), (ad 8, .inl (tc 8, 3, .inl vz))] sz) := by
  refine Met.ofW (cc := cX1_vertex) (maxL := 5) (ret := (some .boolean)) (by decide) rfl ?_
  intro p e s m args below meth cD s₁ B hml hv
  obtain ⟨rfl, hsz, hP, hK, hD0, hN⟩ := hv
  have hx := B.exec
  have hb := B.bytes
  have hr := B.returns
  have hts := atoms_spec (ws := wsX1_vertex) B.pre
  have hown : s.vm.findClass RX1 = some m.cls := findClass_of_methodNamed B.named
  have hlocks := B.notSynchronized
  subst hsz
  have hD := hD0.self (sz := s.heap.size)
  generalize hAe : va_A [(ad 0, .inr (1, [.int (nI w), .int (nI h), .ref (ad 1), .ref (ad 2), .ref (ad 3), .ref (ad 4), .ref (ad 5), .int qd])), (ad 3, .inr (0, [.ref (ad 6), .ref (ad 7), .ref (ad 8), .int se, .int th, .long ar])), (ad 6, .inl (tc 6, 3, .inl vx)), (ad 7, .inl (tc 7, 3, .inl vy)), (ad 8, .inl (tc 8, 3, .inl vz))] s.heap.size = A at hD ⊢
  have hA : ∀ q : Nat, s.heap.size ≤ q → A q := fun q h => by rw [← hAe]; exact Or.inr h
  have hS : va_S A s.heap s.heap [] := va_S.rf
  have hP : va_P (dC, dI) vwCl [(ad 0, .inr (1, [.int (nI w), .int (nI h), .ref (ad 1), .ref (ad 2), .ref (ad 3), .ref (ad 4), .ref (ad 5), .int qd])), (ad 3, .inr (0, [.ref (ad 6), .ref (ad 7), .ref (ad 8), .int se, .int th, .long ar])), (ad 6, .inl (tc 6, 3, .inl vx)), (ad 7, .inl (tc 7, 3, .inl vy)), (ad 8, .inl (tc 8, 3, .inl vz))] s.heap := hP
  have hl := lv_entry ([.ref (ad 0), .int k, .int x, .int y, .int z]) (n := 5) (Nat.le_of_ble_eq_true rfl)
  rw [lg_entry_eq]
  generalize (lg_sl ([.ref (ad 0), .int k, .int x, .int y, .int z]) ++ List.replicate (5 - (lg_sl ([.ref (ad 0), .int k, .int x, .int y, .int z])).length) Slot.unset).toArray = ls at hl ⊢
  have hl : lv_has ls 5 [(0, .ref (ad 0)), (1, .int k), (2, .int x), (3, .int y), (4, .int z)] := hl
  refine lv_iload_n hx hb dX1_vertex_0 rfl (lv_at hl 1 rfl) ?_
  refine lv_iconst (v := 0) hx hb dX1_vertex_1 (by decide) ?_
  refine lv_iconst (v := 2) hx hb dX1_vertex_2 (by decide) ?_
  refine m_calli (cs := []) (wr := [(ad 0, .inr (1, [.int (nI w), .int (nI h), .ref (ad 1), .ref (ad 2), .ref (ad 3), .ref (ad 4), .ref (ad 5), .int qd])), (ad 3, .inr (0, [.ref (ad 6), .ref (ad 7), .ref (ad 8), .int se, .int th, .long ar])), (ad 6, .inl (tc 6, 3, .inl vx)), (ad 7, .inl (tc 7, 3, .inl vy)), (ad 8, .inl (tc 8, 3, .inl vz))]) hP hD hS hA [] [0, 1, 2, 3, 4] rfl rfl (by decide) (by decide) (va_runS (As := [.int k, .int 0, .int 2]) (rest := []) ⟨hx, hb, hml, hown, hts⟩ (c_X1_isWithin l dC dI _ k 0 2 0 2 rfl (by decide)) (va_cwS 3 hts gX1_vertex_X1_isWithin rfl rfl rfl (by decide +kernel) ⟨Nat.le_of_ble_eq_true rfl, Nat.le_of_ble_eq_true rfl⟩) (m_preS (hP.sub [] rfl) (hK.sub [] rfl) (hD.sub [] (by decide) rfl) hN) rfl rfl hl.1 rfl (lv_room (Nat.le_of_ble_eq_true rfl)) dX1_vertex_3 ⟨Nat.le_of_ble_eq_true rfl, Nat.le_of_ble_eq_true rfl⟩) (fun r3 _ H locs q3 _ hP hD hS => ?_)
  have hP : va_P (dC, dI) vwCl [(ad 0, .inr (1, [.int (nI w), .int (nI h), .ref (ad 1), .ref (ad 2), .ref (ad 3), .ref (ad 4), .ref (ad 5), .int qd])), (ad 3, .inr (0, [.ref (ad 6), .ref (ad 7), .ref (ad 8), .int se, .int th, .long ar])), (ad 6, .inl (tc 6, 3, .inl vx)), (ad 7, .inl (tc 7, 3, .inl vy)), (ad 8, .inl (tc 8, 3, .inl vz))] H := hP.sub [0, 1, 2, 3, 4] rfl
  have hD : va_D A [(ad 0, .inr (1, [.int (nI w), .int (nI h), .ref (ad 1), .ref (ad 2), .ref (ad 3), .ref (ad 4), .ref (ad 5), .int qd])), (ad 3, .inr (0, [.ref (ad 6), .ref (ad 7), .ref (ad 8), .int se, .int th, .long ar])), (ad 6, .inl (tc 6, 3, .inl vx)), (ad 7, .inl (tc 7, 3, .inl vy)), (ad 8, .inl (tc 8, 3, .inl vz))] := hD.sub [0, 1, 2, 3, 4] (by decide) rfl
  refine lv_if_eq (tgt := 34) hx hb dX1_vertex_6 (by decide) (fun c6 => ?_) (fun c6 => ?_)
  · refine lv_iconst (v := 0) hx hb dX1_vertex_34 (by decide) ?_
    have hP9 := hP.sub (ws' := [(ad 0, .inr (1, [.int (nI w), .int (nI h), .ref (ad 1), .ref (ad 2), .ref (ad 3), .ref (ad 4), .ref (ad 5), .int qd])), (ad 3, .inr (0, [.ref (ad 6), .ref (ad 7), .ref (ad 8), .int se, .int th, .long ar])), (ad 6, .inl (tc 6, 3, .inl vx)), (ad 7, .inl (tc 7, 3, .inl vy)), (ad 8, .inl (tc 8, 3, .inl vz))]) [0, 1, 2, 3, 4] rfl
    have hD9 := hD.sub (ws' := [(ad 0, .inr (1, [.int (nI w), .int (nI h), .ref (ad 1), .ref (ad 2), .ref (ad 3), .ref (ad 4), .ref (ad 5), .int qd])), (ad 3, .inr (0, [.ref (ad 6), .ref (ad 7), .ref (ad 8), .int se, .int th, .long ar])), (ad 6, .inl (tc 6, 3, .inl vx)), (ad 7, .inl (tc 7, 3, .inl vy)), (ad 8, .inl (tc 8, 3, .inl vz))]) [0, 1, 2, 3, 4] (by decide) rfl
    exact W.zret (v := 0) hx hb hr rfl (fun t ht hW => ⟨⟨0, (vx, vy, vz, se, th, ar), rfl, Or.inr ⟨fun h => (b01 q3).mp c6 h.1, rfl, rfl⟩, by rw [ht]; exact hP9, va_K.moved hW.alike hK, hD9⟩, hS.F ht⟩) hS.2.2 dX1_vertex_35
  · refine lv_iload_n hx hb dX1_vertex_9 rfl (lv_at hl 2 rfl) ?_
    refine m_calli (cs := []) (wr := [(ad 0, .inr (1, [.int (nI w), .int (nI h), .ref (ad 1), .ref (ad 2), .ref (ad 3), .ref (ad 4), .ref (ad 5), .int qd])), (ad 3, .inr (0, [.ref (ad 6), .ref (ad 7), .ref (ad 8), .int se, .int th, .long ar])), (ad 6, .inl (tc 6, 3, .inl vx)), (ad 7, .inl (tc 7, 3, .inl vy)), (ad 8, .inl (tc 8, 3, .inl vz))]) hP hD hS hA [] [0, 1, 2, 3, 4] rfl rfl (by decide) (by decide) (va_runS (As := [.int x]) (rest := []) ⟨hx, hb, hml, hown, hts⟩ (c_X1_isCoordinate l dC dI _ x) (va_cwS 1 hts gX1_vertex_X1_isCoordinate rfl rfl rfl (by decide +kernel) ⟨Nat.le_of_ble_eq_true rfl, Nat.le_of_ble_eq_true rfl⟩) (m_preS (hP.sub [] rfl) (hK.sub [] rfl) (hD.sub [] (by decide) rfl) hN) rfl rfl hl.1 rfl (lv_room (Nat.le_of_ble_eq_true rfl)) dX1_vertex_10 ⟨Nat.le_of_ble_eq_true rfl, Nat.le_of_ble_eq_true rfl⟩) (fun r10 _ H locs q10 _ hP hD hS => ?_)
    have hP : va_P (dC, dI) vwCl [(ad 0, .inr (1, [.int (nI w), .int (nI h), .ref (ad 1), .ref (ad 2), .ref (ad 3), .ref (ad 4), .ref (ad 5), .int qd])), (ad 3, .inr (0, [.ref (ad 6), .ref (ad 7), .ref (ad 8), .int se, .int th, .long ar])), (ad 6, .inl (tc 6, 3, .inl vx)), (ad 7, .inl (tc 7, 3, .inl vy)), (ad 8, .inl (tc 8, 3, .inl vz))] H := hP.sub [0, 1, 2, 3, 4] rfl
    have hD : va_D A [(ad 0, .inr (1, [.int (nI w), .int (nI h), .ref (ad 1), .ref (ad 2), .ref (ad 3), .ref (ad 4), .ref (ad 5), .int qd])), (ad 3, .inr (0, [.ref (ad 6), .ref (ad 7), .ref (ad 8), .int se, .int th, .long ar])), (ad 6, .inl (tc 6, 3, .inl vx)), (ad 7, .inl (tc 7, 3, .inl vy)), (ad 8, .inl (tc 8, 3, .inl vz))] := hD.sub [0, 1, 2, 3, 4] (by decide) rfl
    refine lv_if_eq (tgt := 34) hx hb dX1_vertex_13 (by decide) (fun c13 => ?_) (fun c13 => ?_)
    · refine lv_iconst (v := 0) hx hb dX1_vertex_34 (by decide) ?_
      have hP9 := hP.sub (ws' := [(ad 0, .inr (1, [.int (nI w), .int (nI h), .ref (ad 1), .ref (ad 2), .ref (ad 3), .ref (ad 4), .ref (ad 5), .int qd])), (ad 3, .inr (0, [.ref (ad 6), .ref (ad 7), .ref (ad 8), .int se, .int th, .long ar])), (ad 6, .inl (tc 6, 3, .inl vx)), (ad 7, .inl (tc 7, 3, .inl vy)), (ad 8, .inl (tc 8, 3, .inl vz))]) [0, 1, 2, 3, 4] rfl
      have hD9 := hD.sub (ws' := [(ad 0, .inr (1, [.int (nI w), .int (nI h), .ref (ad 1), .ref (ad 2), .ref (ad 3), .ref (ad 4), .ref (ad 5), .int qd])), (ad 3, .inr (0, [.ref (ad 6), .ref (ad 7), .ref (ad 8), .int se, .int th, .long ar])), (ad 6, .inl (tc 6, 3, .inl vx)), (ad 7, .inl (tc 7, 3, .inl vy)), (ad 8, .inl (tc 8, 3, .inl vz))]) [0, 1, 2, 3, 4] (by decide) rfl
      exact W.zret (v := 0) hx hb hr rfl (fun t ht hW => ⟨⟨0, (vx, vy, vz, se, th, ar), rfl, Or.inr ⟨fun h => (b01 q10).mp c13 h.2.1, rfl, rfl⟩, by rw [ht]; exact hP9, va_K.moved hW.alike hK, hD9⟩, hS.F ht⟩) hS.2.2 dX1_vertex_35
    · refine lv_iload_n hx hb dX1_vertex_16 rfl (lv_at hl 3 rfl) ?_
      refine m_calli (cs := []) (wr := [(ad 0, .inr (1, [.int (nI w), .int (nI h), .ref (ad 1), .ref (ad 2), .ref (ad 3), .ref (ad 4), .ref (ad 5), .int qd])), (ad 3, .inr (0, [.ref (ad 6), .ref (ad 7), .ref (ad 8), .int se, .int th, .long ar])), (ad 6, .inl (tc 6, 3, .inl vx)), (ad 7, .inl (tc 7, 3, .inl vy)), (ad 8, .inl (tc 8, 3, .inl vz))]) hP hD hS hA [] [0, 1, 2, 3, 4] rfl rfl (by decide) (by decide) (va_runS (As := [.int y]) (rest := []) ⟨hx, hb, hml, hown, hts⟩ (c_X1_isCoordinate l dC dI _ y) (va_cwS 1 hts gX1_vertex_X1_isCoordinate rfl rfl rfl (by decide +kernel) ⟨Nat.le_of_ble_eq_true rfl, Nat.le_of_ble_eq_true rfl⟩) (m_preS (hP.sub [] rfl) (hK.sub [] rfl) (hD.sub [] (by decide) rfl) hN) rfl rfl hl.1 rfl (lv_room (Nat.le_of_ble_eq_true rfl)) dX1_vertex_17 ⟨Nat.le_of_ble_eq_true rfl, Nat.le_of_ble_eq_true rfl⟩) (fun r17 _ H locs q17 _ hP hD hS => ?_)
      have hP : va_P (dC, dI) vwCl [(ad 0, .inr (1, [.int (nI w), .int (nI h), .ref (ad 1), .ref (ad 2), .ref (ad 3), .ref (ad 4), .ref (ad 5), .int qd])), (ad 3, .inr (0, [.ref (ad 6), .ref (ad 7), .ref (ad 8), .int se, .int th, .long ar])), (ad 6, .inl (tc 6, 3, .inl vx)), (ad 7, .inl (tc 7, 3, .inl vy)), (ad 8, .inl (tc 8, 3, .inl vz))] H := hP.sub [0, 1, 2, 3, 4] rfl
      have hD : va_D A [(ad 0, .inr (1, [.int (nI w), .int (nI h), .ref (ad 1), .ref (ad 2), .ref (ad 3), .ref (ad 4), .ref (ad 5), .int qd])), (ad 3, .inr (0, [.ref (ad 6), .ref (ad 7), .ref (ad 8), .int se, .int th, .long ar])), (ad 6, .inl (tc 6, 3, .inl vx)), (ad 7, .inl (tc 7, 3, .inl vy)), (ad 8, .inl (tc 8, 3, .inl vz))] := hD.sub [0, 1, 2, 3, 4] (by decide) rfl
      refine lv_if_eq (tgt := 34) hx hb dX1_vertex_20 (by decide) (fun c20 => ?_) (fun c20 => ?_)
      · refine lv_iconst (v := 0) hx hb dX1_vertex_34 (by decide) ?_
        have hP9 := hP.sub (ws' := [(ad 0, .inr (1, [.int (nI w), .int (nI h), .ref (ad 1), .ref (ad 2), .ref (ad 3), .ref (ad 4), .ref (ad 5), .int qd])), (ad 3, .inr (0, [.ref (ad 6), .ref (ad 7), .ref (ad 8), .int se, .int th, .long ar])), (ad 6, .inl (tc 6, 3, .inl vx)), (ad 7, .inl (tc 7, 3, .inl vy)), (ad 8, .inl (tc 8, 3, .inl vz))]) [0, 1, 2, 3, 4] rfl
        have hD9 := hD.sub (ws' := [(ad 0, .inr (1, [.int (nI w), .int (nI h), .ref (ad 1), .ref (ad 2), .ref (ad 3), .ref (ad 4), .ref (ad 5), .int qd])), (ad 3, .inr (0, [.ref (ad 6), .ref (ad 7), .ref (ad 8), .int se, .int th, .long ar])), (ad 6, .inl (tc 6, 3, .inl vx)), (ad 7, .inl (tc 7, 3, .inl vy)), (ad 8, .inl (tc 8, 3, .inl vz))]) [0, 1, 2, 3, 4] (by decide) rfl
        exact W.zret (v := 0) hx hb hr rfl (fun t ht hW => ⟨⟨0, (vx, vy, vz, se, th, ar), rfl, Or.inr ⟨fun h => (b01 q17).mp c20 h.2.2.1, rfl, rfl⟩, by rw [ht]; exact hP9, va_K.moved hW.alike hK, hD9⟩, hS.F ht⟩) hS.2.2 dX1_vertex_35
      · refine lv_iload hx hb dX1_vertex_23 (lv_at hl 4 rfl) ?_
        refine lv_iconst (v := 0) hx hb dX1_vertex_25 (by decide) ?_
        refine lv_ldc (v := 32768) hx hb hown (hts (.constant RX1 59 32768) (by decide +kernel)) dX1_vertex_26 ?_
        refine m_calli (cs := []) (wr := [(ad 0, .inr (1, [.int (nI w), .int (nI h), .ref (ad 1), .ref (ad 2), .ref (ad 3), .ref (ad 4), .ref (ad 5), .int qd])), (ad 3, .inr (0, [.ref (ad 6), .ref (ad 7), .ref (ad 8), .int se, .int th, .long ar])), (ad 6, .inl (tc 6, 3, .inl vx)), (ad 7, .inl (tc 7, 3, .inl vy)), (ad 8, .inl (tc 8, 3, .inl vz))]) hP hD hS hA [] [0, 1, 2, 3, 4] rfl rfl (by decide) (by decide) (va_runS (As := [.int z, .int 0, .int 32768]) (rest := []) ⟨hx, hb, hml, hown, hts⟩ (c_X1_isWithin l dC dI _ z 0 32768 0 32768 rfl (by decide)) (va_cwS 3 hts gX1_vertex_X1_isWithin rfl rfl rfl (by decide +kernel) ⟨Nat.le_of_ble_eq_true rfl, Nat.le_of_ble_eq_true rfl⟩) (m_preS (hP.sub [] rfl) (hK.sub [] rfl) (hD.sub [] (by decide) rfl) hN) rfl rfl hl.1 rfl (lv_room (Nat.le_of_ble_eq_true rfl)) dX1_vertex_28 ⟨Nat.le_of_ble_eq_true rfl, Nat.le_of_ble_eq_true rfl⟩) (fun r28 _ H locs q28 _ hP hD hS => ?_)
        have hP : va_P (dC, dI) vwCl [(ad 0, .inr (1, [.int (nI w), .int (nI h), .ref (ad 1), .ref (ad 2), .ref (ad 3), .ref (ad 4), .ref (ad 5), .int qd])), (ad 3, .inr (0, [.ref (ad 6), .ref (ad 7), .ref (ad 8), .int se, .int th, .long ar])), (ad 6, .inl (tc 6, 3, .inl vx)), (ad 7, .inl (tc 7, 3, .inl vy)), (ad 8, .inl (tc 8, 3, .inl vz))] H := hP.sub [0, 1, 2, 3, 4] rfl
        have hD : va_D A [(ad 0, .inr (1, [.int (nI w), .int (nI h), .ref (ad 1), .ref (ad 2), .ref (ad 3), .ref (ad 4), .ref (ad 5), .int qd])), (ad 3, .inr (0, [.ref (ad 6), .ref (ad 7), .ref (ad 8), .int se, .int th, .long ar])), (ad 6, .inl (tc 6, 3, .inl vx)), (ad 7, .inl (tc 7, 3, .inl vy)), (ad 8, .inl (tc 8, 3, .inl vz))] := hD.sub [0, 1, 2, 3, 4] (by decide) rfl
        refine lv_if_ne (tgt := 36) hx hb dX1_vertex_31 (by decide) (fun c31 => ?_) (fun c31 => ?_)
        · have i3 := Classical.byContradiction (fun h => c6 ((b01 q3).mpr h))
          have i10 := Classical.byContradiction (fun h => c13 ((b01 q10).mpr h))
          have i17 := Classical.byContradiction (fun h => c20 ((b01 q17).mpr h))
          have i28 := Classical.byContradiction (fun h => c31 ((b01 q28).mpr h))
          have hOK : VOK k x y z := ⟨i3, i10, i17, i28⟩
          obtain ⟨i, hi, ek⟩ : ∃ i : Nat, i < 3 ∧ k = nI i := ⟨k.toInt.toNat, by omega, nI_toNat i3.1⟩
          have hck : k.toNatClampNeg = i := by rw [ek]; exact nI_clamp (by omega)
          have hv2 : vb (upd vx i x) (upd vy i y) := vb_upd hv i10 i17
          refine lv_aload_n hx hb dX1_vertex_36 rfl (lv_at hl 0 rfl) ?_
          refine va_get (D := (dC, dI)) (ci := 1) (v := .ref (ad 3)) (C := RX1) (T := TX1) (N := 8) hx hb hts (by decide +kernel) hown hK hP 0 rfl rfl 4 (by decide) (hts (.fieldLink RX1 30 "TriangleRaster" "facet" "LTriangleRaster$Facet;") (by decide +kernel)) (fun _ h9 => h9) rfl dX1_vertex_37 ?_
          refine lv_iload_n hx hb dX1_vertex_40 rfl (lv_at hl 1 rfl) ?_
          refine lv_iload_n hx hb dX1_vertex_41 rfl (lv_at hl 2 rfl) ?_
          refine lv_iload_n hx hb dX1_vertex_42 rfl (lv_at hl 3 rfl) ?_
          refine lv_iload hx hb dX1_vertex_43 (lv_at hl 4 rfl) ?_
          refine m_callv (cs := [(ad 3, .inr (0, [.ref (ad 6), .ref (ad 7), .ref (ad 8), .int se, .int th, .long ar])), (ad 6, .inl (tc 6, 3, .inl vx)), (ad 7, .inl (tc 7, 3, .inl vy)), (ad 8, .inl (tc 8, 3, .inl vz))]) (wr := [(ad 0, .inr (1, [.int (nI w), .int (nI h), .ref (ad 1), .ref (ad 2), .ref (ad 3), .ref (ad 4), .ref (ad 5), .int qd]))]) hP hD hS hA [1, 2, 3, 4] [0] rfl rfl (by decide) (by decide) (va_runVN (As := [.int k, .int x, .int y, .int z]) (rest := []) ⟨hx, hb, hml, hown, hts⟩ (c_X0_place l dC dI _ ad tc se th ar vx vy vz k x y z i hi ek hv2) ⟨va_cnB 4 hts gX1_vertex_X0_place_n60 rfl rfl rfl hN.2.1 (hts (.initialized RX0) (by decide +kernel)) (by decide +kernel) ⟨Nat.le_of_ble_eq_true rfl, Nat.le_of_ble_eq_true rfl⟩, hts (.instanceMethod yX0_place) (by decide +kernel), hts (.selects RX0 yX0_place yX0_place) (by decide +kernel)⟩ (m_preV (ci := 0) (q0 := 0) (hP.sub [1, 2, 3, 4] rfl) (hK.sub [0, 1, 2] rfl) (hD.sub [1, 2, 3, 4] (by decide) rfl) hN rfl rfl) rfl rfl hl.1 rfl (lv_room (Nat.le_of_ble_eq_true rfl)) dX1_vertex_45 ⟨Nat.le_of_ble_eq_true rfl, Nat.le_of_ble_eq_true rfl⟩) (fun u45 H locs q45 _ hP hD hS => ?_)
          obtain ⟨se45, th45, ar45⟩ := u45
          have hP : va_P (dC, dI) vwCl [(ad 0, .inr (1, [.int (nI w), .int (nI h), .ref (ad 1), .ref (ad 2), .ref (ad 3), .ref (ad 4), .ref (ad 5), .int qd])), (ad 3, .inr (0, [.ref (ad 6), .ref (ad 7), .ref (ad 8), .int se45, .int th45, .long ar45])), (ad 6, .inl (tc 6, 3, .inl (upd vx i x))), (ad 7, .inl (tc 7, 3, .inl (upd vy i y))), (ad 8, .inl (tc 8, 3, .inl (upd vz i z)))] H := hP.sub [0, 1, 2, 3, 4] rfl
          have hD : va_D A [(ad 0, .inr (1, [.int (nI w), .int (nI h), .ref (ad 1), .ref (ad 2), .ref (ad 3), .ref (ad 4), .ref (ad 5), .int qd])), (ad 3, .inr (0, [.ref (ad 6), .ref (ad 7), .ref (ad 8), .int se45, .int th45, .long ar45])), (ad 6, .inl (tc 6, 3, .inl (upd vx i x))), (ad 7, .inl (tc 7, 3, .inl (upd vy i y))), (ad 8, .inl (tc 8, 3, .inl (upd vz i z)))] := hD.sub [0, 1, 2, 3, 4] (by decide) rfl
          refine lv_iconst (v := 1) hx hb dX1_vertex_48 (by decide) ?_
          have hP9 := hP.sub (ws' := [(ad 0, .inr (1, [.int (nI w), .int (nI h), .ref (ad 1), .ref (ad 2), .ref (ad 3), .ref (ad 4), .ref (ad 5), .int qd])), (ad 3, .inr (0, [.ref (ad 6), .ref (ad 7), .ref (ad 8), .int se45, .int th45, .long ar45])), (ad 6, .inl (tc 6, 3, .inl (upd vx i x))), (ad 7, .inl (tc 7, 3, .inl (upd vy i y))), (ad 8, .inl (tc 8, 3, .inl (upd vz i z)))]) [0, 1, 2, 3, 4] rfl
          have hD9 := hD.sub (ws' := [(ad 0, .inr (1, [.int (nI w), .int (nI h), .ref (ad 1), .ref (ad 2), .ref (ad 3), .ref (ad 4), .ref (ad 5), .int qd])), (ad 3, .inr (0, [.ref (ad 6), .ref (ad 7), .ref (ad 8), .int se45, .int th45, .long ar45])), (ad 6, .inl (tc 6, 3, .inl (upd vx i x))), (ad 7, .inl (tc 7, 3, .inl (upd vy i y))), (ad 8, .inl (tc 8, 3, .inl (upd vz i z)))]) [0, 1, 2, 3, 4] (by decide) rfl
          exact W.zret (v := 1) hx hb hr rfl (fun t ht hW => ⟨⟨1, (upd vx i x, upd vy i y, upd vz i z, se45, th45, ar45), rfl, Or.inl ⟨hOK, rfl, by rw [hck], by rw [hck], by rw [hck], q45⟩, by rw [ht]; exact hP9, va_K.moved hW.alike hK, hD9⟩, hS.F ht⟩) hS.2.2 dX1_vertex_49
        · refine lv_iconst (v := 0) hx hb dX1_vertex_34 (by decide) ?_
          have hP9 := hP.sub (ws' := [(ad 0, .inr (1, [.int (nI w), .int (nI h), .ref (ad 1), .ref (ad 2), .ref (ad 3), .ref (ad 4), .ref (ad 5), .int qd])), (ad 3, .inr (0, [.ref (ad 6), .ref (ad 7), .ref (ad 8), .int se, .int th, .long ar])), (ad 6, .inl (tc 6, 3, .inl vx)), (ad 7, .inl (tc 7, 3, .inl vy)), (ad 8, .inl (tc 8, 3, .inl vz))]) [0, 1, 2, 3, 4] rfl
          have hD9 := hD.sub (ws' := [(ad 0, .inr (1, [.int (nI w), .int (nI h), .ref (ad 1), .ref (ad 2), .ref (ad 3), .ref (ad 4), .ref (ad 5), .int qd])), (ad 3, .inr (0, [.ref (ad 6), .ref (ad 7), .ref (ad 8), .int se, .int th, .long ar])), (ad 6, .inl (tc 6, 3, .inl vx)), (ad 7, .inl (tc 7, 3, .inl vy)), (ad 8, .inl (tc 8, 3, .inl vz))]) [0, 1, 2, 3, 4] (by decide) rfl
          exact W.zret (v := 0) hx hb hr rfl (fun t ht hW => ⟨⟨0, (vx, vy, vz, se, th, ar), rfl, Or.inr ⟨fun h => (b01 q28).mp c31 h.2.2.2, rfl, rfl⟩, by rw [ht]; exact hP9, va_K.moved hW.alike hK, hD9⟩, hS.F ht⟩) hS.2.2 dX1_vertex_35

set_option maxHeartbeats 4000000 in
set_option maxRecDepth 100000 in
/-- covers -/
theorem c_X1_covers (l : Launch) (dC : Nat → ClassId) (dI : Nat → Nat → Nat) (sz : Nat) (ad : Nat → Nat) (tc : Nat → ClassId) (w h : Nat) (qd se th : Int32) (ar : Int64) (vx vy vz : Nat → Int32) (hv : vb vx vy) (hz : zb vz) (hf : facOK vx vy se th ar) (cl rw_ : Int32) : Met l yX1_covers wsX1_covers ({ frames := 3, cells := 0, slots := 0, locals := 78 }) (mP (dC, dI) vwCl [(tc 6, .int), (tc 7, .int), (tc 8, .int)] [(ad 0, .inr (1, [.int (nI w), .int (nI h), .ref (ad 1), .ref (ad 2), .ref (ad 3), .ref (ad 4), .ref (ad 5), .int qd])), (ad 3, .inr (0, [.ref (ad 6), .ref (ad 7), .ref (ad 8), .int se, .int th, .long ar])), (ad 6, .inl (tc 6, 3, .inl vx)), (ad 7, .inl (tc 7, 3, .inl vy)), (ad 8, .inl (tc 8, 3, .inl vz))] sz [.ref (ad 0), .int cl, .int rw_]) (va_Qi (fun (r : Int32) (u : Unit) => ((NEAR cl rw_ ∧ COV vx vy cl.toInt rw_.toInt) ∧ r = 1) ∨ (¬ (NEAR cl rw_ ∧ COV vx vy cl.toInt rw_.toInt) ∧ r = 0)) (mB (dC, dI) vwCl [(tc 6, .int), (tc 7, .int), (tc 8, .int)] (va_A [(ad 0, .inr (1, [.int (nI w), .int (nI h), .ref (ad 1), .ref (ad 2), .ref (ad 3), .ref (ad 4), .ref (ad 5), .int qd])), (ad 3, .inr (0, [.ref (ad 6), .ref (ad 7), .ref (ad 8), .int se, .int th, .long ar])), (ad 6, .inl (tc 6, 3, .inl vx)), (ad 7, .inl (tc 7, 3, .inl vy)), (ad 8, .inl (tc 8, 3, .inl vz))] sz) (fun u => [(ad 0, .inr (1, [.int (nI w), .int (nI h), .ref (ad 1), .ref (ad 2), .ref (ad 3), .ref (ad 4), .ref (ad 5), .int qd])), (ad 3, .inr (0, [.ref (ad 6), .ref (ad 7), .ref (ad 8), .int se, .int th, .long ar])), (ad 6, .inl (tc 6, 3, .inl vx)), (ad 7, .inl (tc 7, 3, .inl vy)), (ad 8, .inl (tc 8, 3, .inl vz))])) (va_A [(ad 0, .inr (1, [.int (nI w), .int (nI h), .ref (ad 1), .ref (ad 2), .ref (ad 3), .ref (ad 4), .ref (ad 5), .int qd])), (ad 3, .inr (0, [.ref (ad 6), .ref (ad 7), .ref (ad 8), .int se, .int th, .long ar])), (ad 6, .inl (tc 6, 3, .inl vx)), (ad 7, .inl (tc 7, 3, .inl vy)), (ad 8, .inl (tc 8, 3, .inl vz))] sz)) 0 0 (va_A [(ad 0, .inr (1, [.int (nI w), .int (nI h), .ref (ad 1), .ref (ad 2), .ref (ad 3), .ref (ad 4), .ref (ad 5), .int qd])), (ad 3, .inr (0, [.ref (ad 6), .ref (ad 7), .ref (ad 8), .int se, .int th, .long ar])), (ad 6, .inl (tc 6, 3, .inl vx)), (ad 7, .inl (tc 7, 3, .inl vy)), (ad 8, .inl (tc 8, 3, .inl vz))] sz) := by
  refine Met.ofW (cc := cX1_covers) (maxL := 3) (ret := (some .boolean)) (by decide) rfl ?_
  intro p e s m args below meth cD s₁ B hml hv
  obtain ⟨rfl, hsz, hP, hK, hD0, hN⟩ := hv
  have hx := B.exec
  have hb := B.bytes
  have hr := B.returns
  have hts := atoms_spec (ws := wsX1_covers) B.pre
  have hown : s.vm.findClass RX1 = some m.cls := findClass_of_methodNamed B.named
  have hlocks := B.notSynchronized
  subst hsz
  have hD := hD0.self (sz := s.heap.size)
  generalize hAe : va_A [(ad 0, .inr (1, [.int (nI w), .int (nI h), .ref (ad 1), .ref (ad 2), .ref (ad 3), .ref (ad 4), .ref (ad 5), .int qd])), (ad 3, .inr (0, [.ref (ad 6), .ref (ad 7), .ref (ad 8), .int se, .int th, .long ar])), (ad 6, .inl (tc 6, 3, .inl vx)), (ad 7, .inl (tc 7, 3, .inl vy)), (ad 8, .inl (tc 8, 3, .inl vz))] s.heap.size = A at hD ⊢
  have hA : ∀ q : Nat, s.heap.size ≤ q → A q := fun q h => by rw [← hAe]; exact Or.inr h
  have hS : va_S A s.heap s.heap [] := va_S.rf
  have hP : va_P (dC, dI) vwCl [(ad 0, .inr (1, [.int (nI w), .int (nI h), .ref (ad 1), .ref (ad 2), .ref (ad 3), .ref (ad 4), .ref (ad 5), .int qd])), (ad 3, .inr (0, [.ref (ad 6), .ref (ad 7), .ref (ad 8), .int se, .int th, .long ar])), (ad 6, .inl (tc 6, 3, .inl vx)), (ad 7, .inl (tc 7, 3, .inl vy)), (ad 8, .inl (tc 8, 3, .inl vz))] s.heap := hP
  have hl := lv_entry ([.ref (ad 0), .int cl, .int rw_]) (n := 3) (Nat.le_of_ble_eq_true rfl)
  rw [lg_entry_eq]
  generalize (lg_sl ([.ref (ad 0), .int cl, .int rw_]) ++ List.replicate (3 - (lg_sl ([.ref (ad 0), .int cl, .int rw_])).length) Slot.unset).toArray = ls at hl ⊢
  have hl : lv_has ls 3 [(0, .ref (ad 0)), (1, .int cl), (2, .int rw_)] := hl
  refine lv_iload_n hx hb dX1_covers_0 rfl (lv_at hl 1 rfl) ?_
  refine lv_sipush (v := (-2000)) hx hb dX1_covers_1 (by decide) ?_
  refine lv_sipush (v := 2000) hx hb dX1_covers_4 (by decide) ?_
  refine m_calli (cs := []) (wr := [(ad 0, .inr (1, [.int (nI w), .int (nI h), .ref (ad 1), .ref (ad 2), .ref (ad 3), .ref (ad 4), .ref (ad 5), .int qd])), (ad 3, .inr (0, [.ref (ad 6), .ref (ad 7), .ref (ad 8), .int se, .int th, .long ar])), (ad 6, .inl (tc 6, 3, .inl vx)), (ad 7, .inl (tc 7, 3, .inl vy)), (ad 8, .inl (tc 8, 3, .inl vz))]) hP hD hS hA [] [0, 1, 2, 3, 4] rfl rfl (by decide) (by decide) (va_runS (As := [.int cl, .int (-2000), .int 2000]) (rest := []) ⟨hx, hb, hml, hown, hts⟩ (c_X1_isWithin l dC dI _ cl (-2000) 2000 (-2000) 2000 (by decide) (by decide)) (va_cwS 3 hts gX1_covers_X1_isWithin rfl rfl rfl (by decide +kernel) ⟨Nat.le_of_ble_eq_true rfl, Nat.le_of_ble_eq_true rfl⟩) (m_preS (hP.sub [] rfl) (hK.sub [] rfl) (hD.sub [] (by decide) rfl) hN) rfl rfl hl.1 rfl (lv_room (Nat.le_of_ble_eq_true rfl)) dX1_covers_7 ⟨Nat.le_of_ble_eq_true rfl, Nat.le_of_ble_eq_true rfl⟩) (fun r7 _ H locs q7 _ hP hD hS => ?_)
  have hP : va_P (dC, dI) vwCl [(ad 0, .inr (1, [.int (nI w), .int (nI h), .ref (ad 1), .ref (ad 2), .ref (ad 3), .ref (ad 4), .ref (ad 5), .int qd])), (ad 3, .inr (0, [.ref (ad 6), .ref (ad 7), .ref (ad 8), .int se, .int th, .long ar])), (ad 6, .inl (tc 6, 3, .inl vx)), (ad 7, .inl (tc 7, 3, .inl vy)), (ad 8, .inl (tc 8, 3, .inl vz))] H := hP.sub [0, 1, 2, 3, 4] rfl
  have hD : va_D A [(ad 0, .inr (1, [.int (nI w), .int (nI h), .ref (ad 1), .ref (ad 2), .ref (ad 3), .ref (ad 4), .ref (ad 5), .int qd])), (ad 3, .inr (0, [.ref (ad 6), .ref (ad 7), .ref (ad 8), .int se, .int th, .long ar])), (ad 6, .inl (tc 6, 3, .inl vx)), (ad 7, .inl (tc 7, 3, .inl vy)), (ad 8, .inl (tc 8, 3, .inl vz))] := hD.sub [0, 1, 2, 3, 4] (by decide) rfl
  refine lv_if_eq (tgt := 43) hx hb dX1_covers_10 (by decide) (fun c10 => ?_) (fun c10 => ?_)
  · refine lv_iconst (v := 0) hx hb dX1_covers_43 (by decide) ?_
    have hP9 := hP.sub (ws' := [(ad 0, .inr (1, [.int (nI w), .int (nI h), .ref (ad 1), .ref (ad 2), .ref (ad 3), .ref (ad 4), .ref (ad 5), .int qd])), (ad 3, .inr (0, [.ref (ad 6), .ref (ad 7), .ref (ad 8), .int se, .int th, .long ar])), (ad 6, .inl (tc 6, 3, .inl vx)), (ad 7, .inl (tc 7, 3, .inl vy)), (ad 8, .inl (tc 8, 3, .inl vz))]) [0, 1, 2, 3, 4] rfl
    have hD9 := hD.sub (ws' := [(ad 0, .inr (1, [.int (nI w), .int (nI h), .ref (ad 1), .ref (ad 2), .ref (ad 3), .ref (ad 4), .ref (ad 5), .int qd])), (ad 3, .inr (0, [.ref (ad 6), .ref (ad 7), .ref (ad 8), .int se, .int th, .long ar])), (ad 6, .inl (tc 6, 3, .inl vx)), (ad 7, .inl (tc 7, 3, .inl vy)), (ad 8, .inl (tc 8, 3, .inl vz))]) [0, 1, 2, 3, 4] (by decide) rfl
    exact W.zret (v := 0) hx hb hr rfl (fun t ht hW => ⟨⟨0, (), rfl, Or.inr ⟨fun g => (b01 q7).mp c10 g.1.1, rfl⟩, by rw [ht]; exact hP9, va_K.moved hW.alike hK, hD9⟩, hS.F ht⟩) hS.2.2 dX1_covers_44
  · refine lv_iload_n hx hb dX1_covers_13 rfl (lv_at hl 2 rfl) ?_
    refine lv_sipush (v := (-2000)) hx hb dX1_covers_14 (by decide) ?_
    refine lv_sipush (v := 2000) hx hb dX1_covers_17 (by decide) ?_
    refine m_calli (cs := []) (wr := [(ad 0, .inr (1, [.int (nI w), .int (nI h), .ref (ad 1), .ref (ad 2), .ref (ad 3), .ref (ad 4), .ref (ad 5), .int qd])), (ad 3, .inr (0, [.ref (ad 6), .ref (ad 7), .ref (ad 8), .int se, .int th, .long ar])), (ad 6, .inl (tc 6, 3, .inl vx)), (ad 7, .inl (tc 7, 3, .inl vy)), (ad 8, .inl (tc 8, 3, .inl vz))]) hP hD hS hA [] [0, 1, 2, 3, 4] rfl rfl (by decide) (by decide) (va_runS (As := [.int rw_, .int (-2000), .int 2000]) (rest := []) ⟨hx, hb, hml, hown, hts⟩ (c_X1_isWithin l dC dI _ rw_ (-2000) 2000 (-2000) 2000 (by decide) (by decide)) (va_cwS 3 hts gX1_covers_X1_isWithin rfl rfl rfl (by decide +kernel) ⟨Nat.le_of_ble_eq_true rfl, Nat.le_of_ble_eq_true rfl⟩) (m_preS (hP.sub [] rfl) (hK.sub [] rfl) (hD.sub [] (by decide) rfl) hN) rfl rfl hl.1 rfl (lv_room (Nat.le_of_ble_eq_true rfl)) dX1_covers_20 ⟨Nat.le_of_ble_eq_true rfl, Nat.le_of_ble_eq_true rfl⟩) (fun r20 _ H locs q20 _ hP hD hS => ?_)
    have hP : va_P (dC, dI) vwCl [(ad 0, .inr (1, [.int (nI w), .int (nI h), .ref (ad 1), .ref (ad 2), .ref (ad 3), .ref (ad 4), .ref (ad 5), .int qd])), (ad 3, .inr (0, [.ref (ad 6), .ref (ad 7), .ref (ad 8), .int se, .int th, .long ar])), (ad 6, .inl (tc 6, 3, .inl vx)), (ad 7, .inl (tc 7, 3, .inl vy)), (ad 8, .inl (tc 8, 3, .inl vz))] H := hP.sub [0, 1, 2, 3, 4] rfl
    have hD : va_D A [(ad 0, .inr (1, [.int (nI w), .int (nI h), .ref (ad 1), .ref (ad 2), .ref (ad 3), .ref (ad 4), .ref (ad 5), .int qd])), (ad 3, .inr (0, [.ref (ad 6), .ref (ad 7), .ref (ad 8), .int se, .int th, .long ar])), (ad 6, .inl (tc 6, 3, .inl vx)), (ad 7, .inl (tc 7, 3, .inl vy)), (ad 8, .inl (tc 8, 3, .inl vz))] := hD.sub [0, 1, 2, 3, 4] (by decide) rfl
    refine lv_if_eq (tgt := 43) hx hb dX1_covers_23 (by decide) (fun c23 => ?_) (fun c23 => ?_)
    · refine lv_iconst (v := 0) hx hb dX1_covers_43 (by decide) ?_
      have hP9 := hP.sub (ws' := [(ad 0, .inr (1, [.int (nI w), .int (nI h), .ref (ad 1), .ref (ad 2), .ref (ad 3), .ref (ad 4), .ref (ad 5), .int qd])), (ad 3, .inr (0, [.ref (ad 6), .ref (ad 7), .ref (ad 8), .int se, .int th, .long ar])), (ad 6, .inl (tc 6, 3, .inl vx)), (ad 7, .inl (tc 7, 3, .inl vy)), (ad 8, .inl (tc 8, 3, .inl vz))]) [0, 1, 2, 3, 4] rfl
      have hD9 := hD.sub (ws' := [(ad 0, .inr (1, [.int (nI w), .int (nI h), .ref (ad 1), .ref (ad 2), .ref (ad 3), .ref (ad 4), .ref (ad 5), .int qd])), (ad 3, .inr (0, [.ref (ad 6), .ref (ad 7), .ref (ad 8), .int se, .int th, .long ar])), (ad 6, .inl (tc 6, 3, .inl vx)), (ad 7, .inl (tc 7, 3, .inl vy)), (ad 8, .inl (tc 8, 3, .inl vz))]) [0, 1, 2, 3, 4] (by decide) rfl
      exact W.zret (v := 0) hx hb hr rfl (fun t ht hW => ⟨⟨0, (), rfl, Or.inr ⟨fun g => (b01 q20).mp c23 g.1.2, rfl⟩, by rw [ht]; exact hP9, va_K.moved hW.alike hK, hD9⟩, hS.F ht⟩) hS.2.2 dX1_covers_44
    · have i7 := Classical.byContradiction (fun h => c10 ((b01 q7).mpr h))
      have i20 := Classical.byContradiction (fun h => c23 ((b01 q20).mpr h))
      refine lv_aload_n hx hb dX1_covers_26 rfl (lv_at hl 0 rfl) ?_
      refine va_get (D := (dC, dI)) (ci := 1) (v := .ref (ad 3)) (C := RX1) (T := TX1) (N := 8) hx hb hts (by decide +kernel) hown hK hP 0 rfl rfl 4 (by decide) (hts (.fieldLink RX1 30 "TriangleRaster" "facet" "LTriangleRaster$Facet;") (by decide +kernel)) (fun _ h9 => h9) rfl dX1_covers_27 ?_
      refine lv_iload_n hx hb dX1_covers_30 rfl (lv_at hl 1 rfl) ?_
      refine lv_iload_n hx hb dX1_covers_31 rfl (lv_at hl 2 rfl) ?_
      refine m_calli (cs := [(ad 3, .inr (0, [.ref (ad 6), .ref (ad 7), .ref (ad 8), .int se, .int th, .long ar])), (ad 6, .inl (tc 6, 3, .inl vx)), (ad 7, .inl (tc 7, 3, .inl vy)), (ad 8, .inl (tc 8, 3, .inl vz))]) (wr := [(ad 0, .inr (1, [.int (nI w), .int (nI h), .ref (ad 1), .ref (ad 2), .ref (ad 3), .ref (ad 4), .ref (ad 5), .int qd]))]) hP hD hS hA [1, 2, 3, 4] [0] rfl rfl (by decide) (by decide) (va_runVN (As := [.int cl, .int rw_]) (rest := []) ⟨hx, hb, hml, hown, hts⟩ (c_X0_depthOver l dC dI _ ad tc se th ar vx vy vz hv hz hf cl rw_ (by omega) (by omega)) ⟨va_cnB 2 hts gX1_covers_X0_depthOver_n68 rfl rfl rfl hN.2.2 (hts (.initialized RX0) (by decide +kernel)) (by decide +kernel) ⟨Nat.le_of_ble_eq_true rfl, Nat.le_of_ble_eq_true rfl⟩, hts (.instanceMethod yX0_depthOver) (by decide +kernel), hts (.selects RX0 yX0_depthOver yX0_depthOver) (by decide +kernel)⟩ (m_preV (ci := 0) (q0 := 0) (hP.sub [1, 2, 3, 4] rfl) (hK.sub [0, 1, 2] rfl) (hD.sub [1, 2, 3, 4] (by decide) rfl) hN rfl rfl) rfl rfl hl.1 rfl (lv_room (Nat.le_of_ble_eq_true rfl)) dX1_covers_32 ⟨Nat.le_of_ble_eq_true rfl, Nat.le_of_ble_eq_true rfl⟩) (fun r32 _ H locs q32 _ hP hD hS => ?_)
      have hP : va_P (dC, dI) vwCl [(ad 0, .inr (1, [.int (nI w), .int (nI h), .ref (ad 1), .ref (ad 2), .ref (ad 3), .ref (ad 4), .ref (ad 5), .int qd])), (ad 3, .inr (0, [.ref (ad 6), .ref (ad 7), .ref (ad 8), .int se, .int th, .long ar])), (ad 6, .inl (tc 6, 3, .inl vx)), (ad 7, .inl (tc 7, 3, .inl vy)), (ad 8, .inl (tc 8, 3, .inl vz))] H := hP.sub [0, 1, 2, 3, 4] rfl
      have hD : va_D A [(ad 0, .inr (1, [.int (nI w), .int (nI h), .ref (ad 1), .ref (ad 2), .ref (ad 3), .ref (ad 4), .ref (ad 5), .int qd])), (ad 3, .inr (0, [.ref (ad 6), .ref (ad 7), .ref (ad 8), .int se, .int th, .long ar])), (ad 6, .inl (tc 6, 3, .inl vx)), (ad 7, .inl (tc 7, 3, .inl vy)), (ad 8, .inl (tc 8, 3, .inl vz))] := hD.sub [0, 1, 2, 3, 4] (by decide) rfl
      refine lv_iconst (v := (-1)) hx hb dX1_covers_35 (by decide) ?_
      refine lv_icmp_eq (tgt := 43) hx hb dX1_covers_36 (by decide) (fun c36 => ?_) (fun c36 => ?_)
      · refine lv_iconst (v := 0) hx hb dX1_covers_43 (by decide) ?_
        have hP9 := hP.sub (ws' := [(ad 0, .inr (1, [.int (nI w), .int (nI h), .ref (ad 1), .ref (ad 2), .ref (ad 3), .ref (ad 4), .ref (ad 5), .int qd])), (ad 3, .inr (0, [.ref (ad 6), .ref (ad 7), .ref (ad 8), .int se, .int th, .long ar])), (ad 6, .inl (tc 6, 3, .inl vx)), (ad 7, .inl (tc 7, 3, .inl vy)), (ad 8, .inl (tc 8, 3, .inl vz))]) [0, 1, 2, 3, 4] rfl
        have hD9 := hD.sub (ws' := [(ad 0, .inr (1, [.int (nI w), .int (nI h), .ref (ad 1), .ref (ad 2), .ref (ad 3), .ref (ad 4), .ref (ad 5), .int qd])), (ad 3, .inr (0, [.ref (ad 6), .ref (ad 7), .ref (ad 8), .int se, .int th, .long ar])), (ad 6, .inl (tc 6, 3, .inl vx)), (ad 7, .inl (tc 7, 3, .inl vy)), (ad 8, .inl (tc 8, 3, .inl vz))]) [0, 1, 2, 3, 4] (by decide) rfl
        exact W.zret (v := 0) hx hb hr rfl (fun t ht hW => ⟨⟨0, (), rfl, Or.inr ⟨fun g => by rcases q32 with h | h; exact dpt_ne hz h.1 (h.2.symm.trans c36); exact h.1 g.2, rfl⟩, by rw [ht]; exact hP9, va_K.moved hW.alike hK, hD9⟩, hS.F ht⟩) hS.2.2 dX1_covers_44
      · refine lv_iconst (v := 1) hx hb dX1_covers_39 (by decide) ?_
        refine lv_goto (tgt := 44) hx hb dX1_covers_40 (by decide) ?_
        have hP9 := hP.sub (ws' := [(ad 0, .inr (1, [.int (nI w), .int (nI h), .ref (ad 1), .ref (ad 2), .ref (ad 3), .ref (ad 4), .ref (ad 5), .int qd])), (ad 3, .inr (0, [.ref (ad 6), .ref (ad 7), .ref (ad 8), .int se, .int th, .long ar])), (ad 6, .inl (tc 6, 3, .inl vx)), (ad 7, .inl (tc 7, 3, .inl vy)), (ad 8, .inl (tc 8, 3, .inl vz))]) [0, 1, 2, 3, 4] rfl
        have hD9 := hD.sub (ws' := [(ad 0, .inr (1, [.int (nI w), .int (nI h), .ref (ad 1), .ref (ad 2), .ref (ad 3), .ref (ad 4), .ref (ad 5), .int qd])), (ad 3, .inr (0, [.ref (ad 6), .ref (ad 7), .ref (ad 8), .int se, .int th, .long ar])), (ad 6, .inl (tc 6, 3, .inl vx)), (ad 7, .inl (tc 7, 3, .inl vy)), (ad 8, .inl (tc 8, 3, .inl vz))]) [0, 1, 2, 3, 4] (by decide) rfl
        exact W.zret (v := 1) hx hb hr rfl (fun t ht hW => ⟨⟨1, (), rfl, Or.inl ⟨by rcases q32 with h | h; exact ⟨⟨i7, i20⟩, h.1⟩; exact absurd h.2 c36, rfl⟩, by rw [ht]; exact hP9, va_K.moved hW.alike hK, hD9⟩, hS.F ht⟩) hS.2.2 dX1_covers_44

set_option maxHeartbeats 4000000 in
set_option maxRecDepth 100000 in
/-- paintNearer -/
theorem c_X1_paintNearer (l : Launch) (dC : Nat → ClassId) (dI : Nat → Nat → Nat) (sz : Nat) (ad : Nat → Nat) (tc : Nat → ClassId) (w h : Nat) (qd se th : Int32) (ar : Int64) (vx vy vz col dep : Nat → Int32) (hw1 : 1 ≤ w) (hw2 : w ≤ 24) (hh1 : 1 ≤ h) (hh2 : h ≤ 24) (hv : vb vx vy) (hz : zb vz) (hf : facOK vx vy se th ar) (x y : Nat) (hx0 : x < w) (hy0 : y < h) (c : Int32) : Met l yX1_paintNearer wsX1_paintNearer ({ frames := 3, cells := 0, slots := 0, locals := 78 }) (mP (dC, dI) vwCl [(tc 1, .int), (tc 2, .int), (tc 6, .int), (tc 7, .int), (tc 8, .int)] [(ad 0, .inr (1, [.int (nI w), .int (nI h), .ref (ad 1), .ref (ad 2), .ref (ad 3), .ref (ad 4), .ref (ad 5), .int qd])), (ad 1, .inl (tc 1, (w * h), .inl col)), (ad 2, .inl (tc 2, (w * h), .inl dep)), (ad 3, .inr (0, [.ref (ad 6), .ref (ad 7), .ref (ad 8), .int se, .int th, .long ar])), (ad 6, .inl (tc 6, 3, .inl vx)), (ad 7, .inl (tc 7, 3, .inl vy)), (ad 8, .inl (tc 8, 3, .inl vz))] sz [.ref (ad 0), .int (nI x), .int (nI y), .int c]) (va_Qi (fun (r : Int32) (u : (Nat → Int32) × (Nat → Int32)) => ((COV vx vy (x : Int) (y : Int) ∧ DPT vx vy vz (x : Int) (y : Int) < (dep (y * w + x)).toInt) ∧ r = 1 ∧ u = (upd col (y * w + x) c, upd dep (y * w + x) (Int32.ofInt (DPT vx vy vz (x : Int) (y : Int))))) ∨ (¬ (COV vx vy (x : Int) (y : Int) ∧ DPT vx vy vz (x : Int) (y : Int) < (dep (y * w + x)).toInt) ∧ r = 0 ∧ u = (col, dep))) (mB (dC, dI) vwCl [(tc 1, .int), (tc 2, .int), (tc 6, .int), (tc 7, .int), (tc 8, .int)] (va_A [(ad 0, .inr (1, [.int (nI w), .int (nI h), .ref (ad 1), .ref (ad 2), .ref (ad 3), .ref (ad 4), .ref (ad 5), .int qd])), (ad 1, .inl (tc 1, (w * h), .inl col)), (ad 2, .inl (tc 2, (w * h), .inl dep)), (ad 3, .inr (0, [.ref (ad 6), .ref (ad 7), .ref (ad 8), .int se, .int th, .long ar])), (ad 6, .inl (tc 6, 3, .inl vx)), (ad 7, .inl (tc 7, 3, .inl vy)), (ad 8, .inl (tc 8, 3, .inl vz))] sz) (fun u => [(ad 0, .inr (1, [.int (nI w), .int (nI h), .ref (ad 1), .ref (ad 2), .ref (ad 3), .ref (ad 4), .ref (ad 5), .int qd])), (ad 1, .inl (tc 1, (w * h), .inl u.1)), (ad 2, .inl (tc 2, (w * h), .inl u.2)), (ad 3, .inr (0, [.ref (ad 6), .ref (ad 7), .ref (ad 8), .int se, .int th, .long ar])), (ad 6, .inl (tc 6, 3, .inl vx)), (ad 7, .inl (tc 7, 3, .inl vy)), (ad 8, .inl (tc 8, 3, .inl vz))])) (va_A [(ad 0, .inr (1, [.int (nI w), .int (nI h), .ref (ad 1), .ref (ad 2), .ref (ad 3), .ref (ad 4), .ref (ad 5), .int qd])), (ad 1, .inl (tc 1, (w * h), .inl col)), (ad 2, .inl (tc 2, (w * h), .inl dep)), (ad 3, .inr (0, [.ref (ad 6), .ref (ad 7), .ref (ad 8), .int se, .int th, .long ar])), (ad 6, .inl (tc 6, 3, .inl vx)), (ad 7, .inl (tc 7, 3, .inl vy)), (ad 8, .inl (tc 8, 3, .inl vz))] sz)) 0 0 (va_A [(ad 0, .inr (1, [.int (nI w), .int (nI h), .ref (ad 1), .ref (ad 2), .ref (ad 3), .ref (ad 4), .ref (ad 5), .int qd])), (ad 1, .inl (tc 1, (w * h), .inl col)), (ad 2, .inl (tc 2, (w * h), .inl dep)), (ad 3, .inr (0, [.ref (ad 6), .ref (ad 7), .ref (ad 8), .int se, .int th, .long ar])), (ad 6, .inl (tc 6, 3, .inl vx)), (ad 7, .inl (tc 7, 3, .inl vy)), (ad 8, .inl (tc 8, 3, .inl vz))] sz) := by
  refine Met.ofW (cc := cX1_paintNearer) (maxL := 6) (ret := (some .int)) (by decide) rfl ?_
  intro p e s m args below meth cD s₁ B hml hv
  obtain ⟨rfl, hsz, hP, hK, hD0, hN⟩ := hv
  have hx := B.exec
  have hb := B.bytes
  have hr := B.returns
  have hts := atoms_spec (ws := wsX1_paintNearer) B.pre
  have hown : s.vm.findClass RX1 = some m.cls := findClass_of_methodNamed B.named
  have hlocks := B.notSynchronized
  subst hsz
  have hD := hD0.self (sz := s.heap.size)
  generalize hAe : va_A [(ad 0, .inr (1, [.int (nI w), .int (nI h), .ref (ad 1), .ref (ad 2), .ref (ad 3), .ref (ad 4), .ref (ad 5), .int qd])), (ad 1, .inl (tc 1, (w * h), .inl col)), (ad 2, .inl (tc 2, (w * h), .inl dep)), (ad 3, .inr (0, [.ref (ad 6), .ref (ad 7), .ref (ad 8), .int se, .int th, .long ar])), (ad 6, .inl (tc 6, 3, .inl vx)), (ad 7, .inl (tc 7, 3, .inl vy)), (ad 8, .inl (tc 8, 3, .inl vz))] s.heap.size = A at hD ⊢
  have hA : ∀ q : Nat, s.heap.size ≤ q → A q := fun q h => by rw [← hAe]; exact Or.inr h
  have hS : va_S A s.heap s.heap [] := va_S.rf
  have hP : va_P (dC, dI) vwCl [(ad 0, .inr (1, [.int (nI w), .int (nI h), .ref (ad 1), .ref (ad 2), .ref (ad 3), .ref (ad 4), .ref (ad 5), .int qd])), (ad 1, .inl (tc 1, (w * h), .inl col)), (ad 2, .inl (tc 2, (w * h), .inl dep)), (ad 3, .inr (0, [.ref (ad 6), .ref (ad 7), .ref (ad 8), .int se, .int th, .long ar])), (ad 6, .inl (tc 6, 3, .inl vx)), (ad 7, .inl (tc 7, 3, .inl vy)), (ad 8, .inl (tc 8, 3, .inl vz))] s.heap := hP
  have hl := lv_entry ([.ref (ad 0), .int (nI x), .int (nI y), .int c]) (n := 6) (Nat.le_of_ble_eq_true rfl)
  rw [lg_entry_eq]
  generalize (lg_sl ([.ref (ad 0), .int (nI x), .int (nI y), .int c]) ++ List.replicate (6 - (lg_sl ([.ref (ad 0), .int (nI x), .int (nI y), .int c])).length) Slot.unset).toArray = ls at hl ⊢
  have hl : lv_has ls 6 [(0, .ref (ad 0)), (1, .int (nI x)), (2, .int (nI y)), (3, .int c)] := hl
  refine lv_aload_n hx hb dX1_paintNearer_0 rfl (lv_at hl 0 rfl) ?_
  refine lv_iload_n hx hb dX1_paintNearer_1 rfl (lv_at hl 1 rfl) ?_
  refine lv_iload_n hx hb dX1_paintNearer_2 rfl (lv_at hl 2 rfl) ?_
  refine m_calli (cs := [(ad 0, .inr (1, [.int (nI w), .int (nI h), .ref (ad 1), .ref (ad 2), .ref (ad 3), .ref (ad 4), .ref (ad 5), .int qd]))]) (wr := [(ad 1, .inl (tc 1, (w * h), .inl col)), (ad 2, .inl (tc 2, (w * h), .inl dep)), (ad 3, .inr (0, [.ref (ad 6), .ref (ad 7), .ref (ad 8), .int se, .int th, .long ar])), (ad 6, .inl (tc 6, 3, .inl vx)), (ad 7, .inl (tc 7, 3, .inl vy)), (ad 8, .inl (tc 8, 3, .inl vz))]) hP hD hS hA [0] [1, 2, 3, 4, 5, 6] rfl rfl (by decide) (by decide) (va_runV (As := [.int (nI x), .int (nI y)]) (rest := []) ⟨hx, hb, hml, hown, hts⟩ (c_X1_indexOf l dC dI _ ad w h qd hw1 hw2 hh1 hh2 (nI x) (nI y)) (cwV 2 hts gX1_paintNearer_X1_indexOf rfl rfl rfl (by decide +kernel) ⟨Nat.le_of_ble_eq_true rfl, Nat.le_of_ble_eq_true rfl⟩) (m_preV (ci := 1) (q0 := 0) (hP.sub [0] rfl) (hK.sub [] rfl) (hD.sub [0] (by decide) rfl) hN rfl rfl) rfl rfl hl.1 rfl (lv_room (Nat.le_of_ble_eq_true rfl)) dX1_paintNearer_3 ⟨Nat.le_of_ble_eq_true rfl, Nat.le_of_ble_eq_true rfl⟩) (fun r3 _ H locs q3 _ hP hD hS => ?_)
  have hP : va_P (dC, dI) vwCl [(ad 0, .inr (1, [.int (nI w), .int (nI h), .ref (ad 1), .ref (ad 2), .ref (ad 3), .ref (ad 4), .ref (ad 5), .int qd])), (ad 1, .inl (tc 1, (w * h), .inl col)), (ad 2, .inl (tc 2, (w * h), .inl dep)), (ad 3, .inr (0, [.ref (ad 6), .ref (ad 7), .ref (ad 8), .int se, .int th, .long ar])), (ad 6, .inl (tc 6, 3, .inl vx)), (ad 7, .inl (tc 7, 3, .inl vy)), (ad 8, .inl (tc 8, 3, .inl vz))] H := hP.sub [6, 0, 1, 2, 3, 4, 5] rfl
  have hD : va_D A [(ad 0, .inr (1, [.int (nI w), .int (nI h), .ref (ad 1), .ref (ad 2), .ref (ad 3), .ref (ad 4), .ref (ad 5), .int qd])), (ad 1, .inl (tc 1, (w * h), .inl col)), (ad 2, .inl (tc 2, (w * h), .inl dep)), (ad 3, .inr (0, [.ref (ad 6), .ref (ad 7), .ref (ad 8), .int se, .int th, .long ar])), (ad 6, .inl (tc 6, 3, .inl vx)), (ad 7, .inl (tc 7, 3, .inl vy)), (ad 8, .inl (tc 8, 3, .inl vz))] := hD.sub [6, 0, 1, 2, 3, 4, 5] (by decide) rfl
  have hin := inX_nI hw2 hh2 hx0 hy0
  have hlin : lin w (nI x) (nI y) = y * w + x := lin_nI (by omega) (by omega)
  have hwh := wh_le hw2 hh2
  have hlt := row_lt hx0 hy0
  have e3 : r3 = nI (y * w + x) := by
    rcases q3 with h | h
    · rw [h.2, hlin]
    · exact absurd hin h.1
  subst e3
  refine lv_istore (lv' := [(4, .int (nI (y * w + x))), (0, .ref (ad 0)), (1, .int (nI x)), (2, .int (nI y)), (3, .int c)]) hx hb dX1_paintNearer_6 hl (by decide) rfl (fun ls hl => ?_)
  refine lv_aload_n hx hb dX1_paintNearer_8 rfl (lv_at hl 1 rfl) ?_
  refine va_get (D := (dC, dI)) (ci := 1) (v := .ref (ad 3)) (C := RX1) (T := TX1) (N := 8) hx hb hts (by decide +kernel) hown hK hP 0 rfl rfl 4 (by decide) (hts (.fieldLink RX1 30 "TriangleRaster" "facet" "LTriangleRaster$Facet;") (by decide +kernel)) (fun _ h9 => h9) rfl dX1_paintNearer_9 ?_
  have bx : (nI x).toInt.natAbs ≤ 2000 := by rw [nI_toInt (by omega)]; omega
  have bY : (nI y).toInt.natAbs ≤ 2000 := by rw [nI_toInt (by omega)]; omega
  refine lv_iload_n hx hb dX1_paintNearer_12 rfl (lv_at hl 2 rfl) ?_
  refine lv_iload_n hx hb dX1_paintNearer_13 rfl (lv_at hl 3 rfl) ?_
  refine m_calli (cs := [(ad 3, .inr (0, [.ref (ad 6), .ref (ad 7), .ref (ad 8), .int se, .int th, .long ar])), (ad 6, .inl (tc 6, 3, .inl vx)), (ad 7, .inl (tc 7, 3, .inl vy)), (ad 8, .inl (tc 8, 3, .inl vz))]) (wr := [(ad 0, .inr (1, [.int (nI w), .int (nI h), .ref (ad 1), .ref (ad 2), .ref (ad 3), .ref (ad 4), .ref (ad 5), .int qd])), (ad 1, .inl (tc 1, (w * h), .inl col)), (ad 2, .inl (tc 2, (w * h), .inl dep))]) hP hD hS hA [3, 4, 5, 6] [0, 1, 2] rfl rfl (by decide) (by decide) (va_runVN (As := [.int (nI x), .int (nI y)]) (rest := []) ⟨hx, hb, hml, hown, hts⟩ (c_X0_depthOver l dC dI _ ad tc se th ar vx vy vz hv hz hf (nI x) (nI y) bx bY) ⟨va_cnB 2 hts gX1_paintNearer_X0_depthOver_n68 rfl rfl rfl hN.2.2 (hts (.initialized RX0) (by decide +kernel)) (by decide +kernel) ⟨Nat.le_of_ble_eq_true rfl, Nat.le_of_ble_eq_true rfl⟩, hts (.instanceMethod yX0_depthOver) (by decide +kernel), hts (.selects RX0 yX0_depthOver yX0_depthOver) (by decide +kernel)⟩ (m_preV (ci := 0) (q0 := 0) (hP.sub [3, 4, 5, 6] rfl) (hK.sub [2, 3, 4] rfl) (hD.sub [3, 4, 5, 6] (by decide) rfl) hN rfl rfl) rfl rfl hl.1 rfl (lv_room (Nat.le_of_ble_eq_true rfl)) dX1_paintNearer_14 ⟨Nat.le_of_ble_eq_true rfl, Nat.le_of_ble_eq_true rfl⟩) (fun r14 _ H locs q14 _ hP hD hS => ?_)
  have hP : va_P (dC, dI) vwCl [(ad 0, .inr (1, [.int (nI w), .int (nI h), .ref (ad 1), .ref (ad 2), .ref (ad 3), .ref (ad 4), .ref (ad 5), .int qd])), (ad 1, .inl (tc 1, (w * h), .inl col)), (ad 2, .inl (tc 2, (w * h), .inl dep)), (ad 3, .inr (0, [.ref (ad 6), .ref (ad 7), .ref (ad 8), .int se, .int th, .long ar])), (ad 6, .inl (tc 6, 3, .inl vx)), (ad 7, .inl (tc 7, 3, .inl vy)), (ad 8, .inl (tc 8, 3, .inl vz))] H := hP.sub [0, 1, 2, 3, 4, 5, 6] rfl
  have hD : va_D A [(ad 0, .inr (1, [.int (nI w), .int (nI h), .ref (ad 1), .ref (ad 2), .ref (ad 3), .ref (ad 4), .ref (ad 5), .int qd])), (ad 1, .inl (tc 1, (w * h), .inl col)), (ad 2, .inl (tc 2, (w * h), .inl dep)), (ad 3, .inr (0, [.ref (ad 6), .ref (ad 7), .ref (ad 8), .int se, .int th, .long ar])), (ad 6, .inl (tc 6, 3, .inl vx)), (ad 7, .inl (tc 7, 3, .inl vy)), (ad 8, .inl (tc 8, 3, .inl vz))] := hD.sub [0, 1, 2, 3, 4, 5, 6] (by decide) rfl
  rw [nI_toInt (by omega), nI_toInt (by omega)] at q14
  refine lv_istore (lv' := [(5, .int r14), (4, .int (nI (y * w + x))), (0, .ref (ad 0)), (1, .int (nI x)), (2, .int (nI y)), (3, .int c)]) hx hb dX1_paintNearer_17 hl (by decide) rfl (fun ls hl => ?_)
  refine lv_iload hx hb dX1_paintNearer_19 (lv_at hl 1 rfl) ?_
  refine lv_iconst (v := (-1)) hx hb dX1_paintNearer_21 (by decide) ?_
  refine lv_icmp_eq (tgt := 43) hx hb dX1_paintNearer_22 (by decide) (fun c22 => ?_) (fun c22 => ?_)
  · exact absurd c22 (nI_m1 (by omega))
  · refine lv_iload hx hb dX1_paintNearer_25 (lv_at hl 0 rfl) ?_
    refine lv_iconst (v := (-1)) hx hb dX1_paintNearer_27 (by decide) ?_
    refine lv_icmp_eq (tgt := 43) hx hb dX1_paintNearer_28 (by decide) (fun c28 => ?_) (fun c28 => ?_)
    · refine lv_iconst (v := 0) hx hb dX1_paintNearer_43 (by decide) ?_
      have hP9 := hP.sub (ws' := [(ad 0, .inr (1, [.int (nI w), .int (nI h), .ref (ad 1), .ref (ad 2), .ref (ad 3), .ref (ad 4), .ref (ad 5), .int qd])), (ad 1, .inl (tc 1, (w * h), .inl col)), (ad 2, .inl (tc 2, (w * h), .inl dep)), (ad 3, .inr (0, [.ref (ad 6), .ref (ad 7), .ref (ad 8), .int se, .int th, .long ar])), (ad 6, .inl (tc 6, 3, .inl vx)), (ad 7, .inl (tc 7, 3, .inl vy)), (ad 8, .inl (tc 8, 3, .inl vz))]) [0, 1, 2, 3, 4, 5, 6] rfl
      have hD9 := hD.sub (ws' := [(ad 0, .inr (1, [.int (nI w), .int (nI h), .ref (ad 1), .ref (ad 2), .ref (ad 3), .ref (ad 4), .ref (ad 5), .int qd])), (ad 1, .inl (tc 1, (w * h), .inl col)), (ad 2, .inl (tc 2, (w * h), .inl dep)), (ad 3, .inr (0, [.ref (ad 6), .ref (ad 7), .ref (ad 8), .int se, .int th, .long ar])), (ad 6, .inl (tc 6, 3, .inl vx)), (ad 7, .inl (tc 7, 3, .inl vy)), (ad 8, .inl (tc 8, 3, .inl vz))]) [0, 1, 2, 3, 4, 5, 6] (by decide) rfl
      exact W.iret (v := 0) hx hb hr (fun t ht hW => ⟨⟨0, (col, dep), rfl, Or.inr ⟨fun g => by rcases q14 with h | h; exact dpt_ne hz h.1 (h.2.symm.trans c28); exact h.1 g.1, rfl, rfl⟩, by rw [ht]; exact hP9, va_K.moved hW.alike hK, hD9⟩, hS.F ht⟩) hS.2.2 dX1_paintNearer_44
    · have q14 : COV vx vy (x : Int) (y : Int) ∧ r14 = Int32.ofInt (DPT vx vy vz (x : Int) (y : Int)) := by
        rcases q14 with h | h
        · exact h
        · exact absurd h.2 c28
      have hdb := DPT_b hz q14.1
      have hcl : (nI (y * w + x)).toNatClampNeg = y * w + x := nI_clamp (by omega)
      have hdi : r14.toInt = DPT vx vy vz (x : Int) (y : Int) := by rw [q14.2]; exact Int32.toInt_ofInt_of_le (by omega) (by omega)
      refine lv_aload_n hx hb dX1_paintNearer_31 rfl (lv_at hl 2 rfl) ?_
      refine va_get (D := (dC, dI)) (ci := 1) (v := .ref (ad 2)) (C := RX1) (T := TX1) (N := 8) hx hb hts (by decide +kernel) hown hK hP 0 rfl rfl 3 (by decide) (hts (.fieldLink RX1 24 "TriangleRaster" "depths" "[I") (by decide +kernel)) (fun _ h9 => h9) rfl dX1_paintNearer_32 ?_
      refine lv_iload hx hb dX1_paintNearer_35 (lv_at hl 1 rfl) ?_
      refine va_iald hx hb hK hP 2 1 rfl rfl (vp_in_nI hlt (by omega)) dX1_paintNearer_37 ?_
      refine lv_iload hx hb dX1_paintNearer_38 (lv_at hl 0 rfl) ?_
      refine lv_icmp_gt (tgt := 45) hx hb dX1_paintNearer_40 (by decide) (fun c40 => ?_) (fun c40 => ?_)
      · refine lv_aload_n hx hb dX1_paintNearer_45 rfl (lv_at hl 2 rfl) ?_
        refine va_get (D := (dC, dI)) (ci := 1) (v := .ref (ad 1)) (C := RX1) (T := TX1) (N := 8) hx hb hts (by decide +kernel) hown hK hP 0 rfl rfl 2 (by decide) (hts (.fieldLink RX1 20 "TriangleRaster" "colours" "[I") (by decide +kernel)) (fun _ h9 => h9) rfl dX1_paintNearer_46 ?_
        refine lv_iload hx hb dX1_paintNearer_49 (lv_at hl 1 rfl) ?_
        refine lv_iload_n hx hb dX1_paintNearer_51 rfl (lv_at hl 5 rfl) ?_
        refine va_iast hx hb hK hP hD hS 1 0 rfl rfl (vp_in_nI hlt (by omega)) dX1_paintNearer_52 (fun H locs hP hD hS => ?_)
        have hP : va_P (dC, dI) vwCl [(ad 0, .inr (1, [.int (nI w), .int (nI h), .ref (ad 1), .ref (ad 2), .ref (ad 3), .ref (ad 4), .ref (ad 5), .int qd])), (ad 1, .inl (tc 1, (w * h), .inl (upd col (nI (y * w + x)).toNatClampNeg c))), (ad 2, .inl (tc 2, (w * h), .inl dep)), (ad 3, .inr (0, [.ref (ad 6), .ref (ad 7), .ref (ad 8), .int se, .int th, .long ar])), (ad 6, .inl (tc 6, 3, .inl vx)), (ad 7, .inl (tc 7, 3, .inl vy)), (ad 8, .inl (tc 8, 3, .inl vz))] H := hP
        have hD : va_D A [(ad 0, .inr (1, [.int (nI w), .int (nI h), .ref (ad 1), .ref (ad 2), .ref (ad 3), .ref (ad 4), .ref (ad 5), .int qd])), (ad 1, .inl (tc 1, (w * h), .inl (upd col (nI (y * w + x)).toNatClampNeg c))), (ad 2, .inl (tc 2, (w * h), .inl dep)), (ad 3, .inr (0, [.ref (ad 6), .ref (ad 7), .ref (ad 8), .int se, .int th, .long ar])), (ad 6, .inl (tc 6, 3, .inl vx)), (ad 7, .inl (tc 7, 3, .inl vy)), (ad 8, .inl (tc 8, 3, .inl vz))] := hD
        refine lv_aload_n hx hb dX1_paintNearer_53 rfl (lv_at hl 2 rfl) ?_
        refine va_get (D := (dC, dI)) (ci := 1) (v := .ref (ad 2)) (C := RX1) (T := TX1) (N := 8) hx hb hts (by decide +kernel) hown hK hP 0 rfl rfl 3 (by decide) (hts (.fieldLink RX1 24 "TriangleRaster" "depths" "[I") (by decide +kernel)) (fun _ h9 => h9) rfl dX1_paintNearer_54 ?_
        refine lv_iload hx hb dX1_paintNearer_57 (lv_at hl 1 rfl) ?_
        refine lv_iload hx hb dX1_paintNearer_59 (lv_at hl 0 rfl) ?_
        refine va_iast hx hb hK hP hD hS 2 1 rfl rfl (vp_in_nI hlt (by omega)) dX1_paintNearer_61 (fun H locs hP hD hS => ?_)
        have hP : va_P (dC, dI) vwCl [(ad 0, .inr (1, [.int (nI w), .int (nI h), .ref (ad 1), .ref (ad 2), .ref (ad 3), .ref (ad 4), .ref (ad 5), .int qd])), (ad 1, .inl (tc 1, (w * h), .inl (upd col (nI (y * w + x)).toNatClampNeg c))), (ad 2, .inl (tc 2, (w * h), .inl (upd dep (nI (y * w + x)).toNatClampNeg r14))), (ad 3, .inr (0, [.ref (ad 6), .ref (ad 7), .ref (ad 8), .int se, .int th, .long ar])), (ad 6, .inl (tc 6, 3, .inl vx)), (ad 7, .inl (tc 7, 3, .inl vy)), (ad 8, .inl (tc 8, 3, .inl vz))] H := hP
        have hD : va_D A [(ad 0, .inr (1, [.int (nI w), .int (nI h), .ref (ad 1), .ref (ad 2), .ref (ad 3), .ref (ad 4), .ref (ad 5), .int qd])), (ad 1, .inl (tc 1, (w * h), .inl (upd col (nI (y * w + x)).toNatClampNeg c))), (ad 2, .inl (tc 2, (w * h), .inl (upd dep (nI (y * w + x)).toNatClampNeg r14))), (ad 3, .inr (0, [.ref (ad 6), .ref (ad 7), .ref (ad 8), .int se, .int th, .long ar])), (ad 6, .inl (tc 6, 3, .inl vx)), (ad 7, .inl (tc 7, 3, .inl vy)), (ad 8, .inl (tc 8, 3, .inl vz))] := hD
        refine lv_iconst (v := 1) hx hb dX1_paintNearer_62 (by decide) ?_
        have hP9 := hP.sub (ws' := [(ad 0, .inr (1, [.int (nI w), .int (nI h), .ref (ad 1), .ref (ad 2), .ref (ad 3), .ref (ad 4), .ref (ad 5), .int qd])), (ad 1, .inl (tc 1, (w * h), .inl (upd col (nI (y * w + x)).toNatClampNeg c))), (ad 2, .inl (tc 2, (w * h), .inl (upd dep (nI (y * w + x)).toNatClampNeg r14))), (ad 3, .inr (0, [.ref (ad 6), .ref (ad 7), .ref (ad 8), .int se, .int th, .long ar])), (ad 6, .inl (tc 6, 3, .inl vx)), (ad 7, .inl (tc 7, 3, .inl vy)), (ad 8, .inl (tc 8, 3, .inl vz))]) [0, 1, 2, 3, 4, 5, 6] rfl
        have hD9 := hD.sub (ws' := [(ad 0, .inr (1, [.int (nI w), .int (nI h), .ref (ad 1), .ref (ad 2), .ref (ad 3), .ref (ad 4), .ref (ad 5), .int qd])), (ad 1, .inl (tc 1, (w * h), .inl (upd col (nI (y * w + x)).toNatClampNeg c))), (ad 2, .inl (tc 2, (w * h), .inl (upd dep (nI (y * w + x)).toNatClampNeg r14))), (ad 3, .inr (0, [.ref (ad 6), .ref (ad 7), .ref (ad 8), .int se, .int th, .long ar])), (ad 6, .inl (tc 6, 3, .inl vx)), (ad 7, .inl (tc 7, 3, .inl vy)), (ad 8, .inl (tc 8, 3, .inl vz))]) [0, 1, 2, 3, 4, 5, 6] (by decide) rfl
        exact W.iret (v := 1) hx hb hr (fun t ht hW => ⟨⟨1, (upd col (nI (y * w + x)).toNatClampNeg c, upd dep (nI (y * w + x)).toNatClampNeg r14), rfl, Or.inl ⟨⟨q14.1, by rw [hcl, Int32.lt_iff_toInt_lt, hdi] at c40; exact c40⟩, rfl, by rw [hcl, q14.2]⟩, by rw [ht]; exact hP9, va_K.moved hW.alike hK, hD9⟩, hS.F ht⟩) hS.2.2 dX1_paintNearer_63
      · refine lv_iconst (v := 0) hx hb dX1_paintNearer_43 (by decide) ?_
        have hP9 := hP.sub (ws' := [(ad 0, .inr (1, [.int (nI w), .int (nI h), .ref (ad 1), .ref (ad 2), .ref (ad 3), .ref (ad 4), .ref (ad 5), .int qd])), (ad 1, .inl (tc 1, (w * h), .inl col)), (ad 2, .inl (tc 2, (w * h), .inl dep)), (ad 3, .inr (0, [.ref (ad 6), .ref (ad 7), .ref (ad 8), .int se, .int th, .long ar])), (ad 6, .inl (tc 6, 3, .inl vx)), (ad 7, .inl (tc 7, 3, .inl vy)), (ad 8, .inl (tc 8, 3, .inl vz))]) [0, 1, 2, 3, 4, 5, 6] rfl
        have hD9 := hD.sub (ws' := [(ad 0, .inr (1, [.int (nI w), .int (nI h), .ref (ad 1), .ref (ad 2), .ref (ad 3), .ref (ad 4), .ref (ad 5), .int qd])), (ad 1, .inl (tc 1, (w * h), .inl col)), (ad 2, .inl (tc 2, (w * h), .inl dep)), (ad 3, .inr (0, [.ref (ad 6), .ref (ad 7), .ref (ad 8), .int se, .int th, .long ar])), (ad 6, .inl (tc 6, 3, .inl vx)), (ad 7, .inl (tc 7, 3, .inl vy)), (ad 8, .inl (tc 8, 3, .inl vz))]) [0, 1, 2, 3, 4, 5, 6] (by decide) rfl
        exact W.iret (v := 0) hx hb hr (fun t ht hW => ⟨⟨0, (col, dep), rfl, Or.inr ⟨fun g => c40 (by rw [hcl, Int32.lt_iff_toInt_lt, hdi]; exact g.2), rfl, rfl⟩, by rw [ht]; exact hP9, va_K.moved hW.alike hK, hD9⟩, hS.F ht⟩) hS.2.2 dX1_paintNearer_44

set_option maxHeartbeats 4000000 in
set_option maxRecDepth 100000 in
/-- triangle -/
theorem c_X1_triangle (l : Launch) (dC : Nat → ClassId) (dI : Nat → Nat → Nat) (sz : Nat) (ad : Nat → Nat) (tc : Nat → ClassId) (w h : Nat) (qd se th : Int32) (ar : Int64) (vx vy vz col dep : Nat → Int32) (hw1 : 1 ≤ w) (hw2 : w ≤ 24) (hh1 : 1 ≤ h) (hh2 : h ≤ 24) (hv : vb vx vy) (hz : zb vz) (hf : facOK vx vy se th ar) (c : Int32) : Met l yX1_triangle wsX1_triangle ({ frames := 4, cells := 0, slots := 0, locals := 103 }) (mP (dC, dI) vwCl [(tc 1, .int), (tc 2, .int), (tc 6, .int), (tc 7, .int), (tc 8, .int)] [(ad 0, .inr (1, [.int (nI w), .int (nI h), .ref (ad 1), .ref (ad 2), .ref (ad 3), .ref (ad 4), .ref (ad 5), .int qd])), (ad 1, .inl (tc 1, (w * h), .inl col)), (ad 2, .inl (tc 2, (w * h), .inl dep)), (ad 3, .inr (0, [.ref (ad 6), .ref (ad 7), .ref (ad 8), .int se, .int th, .long ar])), (ad 6, .inl (tc 6, 3, .inl vx)), (ad 7, .inl (tc 7, 3, .inl vy)), (ad 8, .inl (tc 8, 3, .inl vz))] sz [.ref (ad 0), .int c]) (va_Qi (fun (r : Int32) (u : (Nat → Int32) × (Nat → Int32)) => r = nI (cnt (TPi w vx vy vz dep) (w * h)) ∧ TIn w (w * h) vx vy vz col dep c (w * h) u.1 u.2) (mB (dC, dI) vwCl [(tc 1, .int), (tc 2, .int), (tc 6, .int), (tc 7, .int), (tc 8, .int)] (va_A [(ad 0, .inr (1, [.int (nI w), .int (nI h), .ref (ad 1), .ref (ad 2), .ref (ad 3), .ref (ad 4), .ref (ad 5), .int qd])), (ad 1, .inl (tc 1, (w * h), .inl col)), (ad 2, .inl (tc 2, (w * h), .inl dep)), (ad 3, .inr (0, [.ref (ad 6), .ref (ad 7), .ref (ad 8), .int se, .int th, .long ar])), (ad 6, .inl (tc 6, 3, .inl vx)), (ad 7, .inl (tc 7, 3, .inl vy)), (ad 8, .inl (tc 8, 3, .inl vz))] sz) (fun u => [(ad 0, .inr (1, [.int (nI w), .int (nI h), .ref (ad 1), .ref (ad 2), .ref (ad 3), .ref (ad 4), .ref (ad 5), .int qd])), (ad 1, .inl (tc 1, (w * h), .inl u.1)), (ad 2, .inl (tc 2, (w * h), .inl u.2)), (ad 3, .inr (0, [.ref (ad 6), .ref (ad 7), .ref (ad 8), .int se, .int th, .long ar])), (ad 6, .inl (tc 6, 3, .inl vx)), (ad 7, .inl (tc 7, 3, .inl vy)), (ad 8, .inl (tc 8, 3, .inl vz))])) (va_A [(ad 0, .inr (1, [.int (nI w), .int (nI h), .ref (ad 1), .ref (ad 2), .ref (ad 3), .ref (ad 4), .ref (ad 5), .int qd])), (ad 1, .inl (tc 1, (w * h), .inl col)), (ad 2, .inl (tc 2, (w * h), .inl dep)), (ad 3, .inr (0, [.ref (ad 6), .ref (ad 7), .ref (ad 8), .int se, .int th, .long ar])), (ad 6, .inl (tc 6, 3, .inl vx)), (ad 7, .inl (tc 7, 3, .inl vy)), (ad 8, .inl (tc 8, 3, .inl vz))] sz)) 0 0 (va_A [(ad 0, .inr (1, [.int (nI w), .int (nI h), .ref (ad 1), .ref (ad 2), .ref (ad 3), .ref (ad 4), .ref (ad 5), .int qd])), (ad 1, .inl (tc 1, (w * h), .inl col)), (ad 2, .inl (tc 2, (w * h), .inl dep)), (ad 3, .inr (0, [.ref (ad 6), .ref (ad 7), .ref (ad 8), .int se, .int th, .long ar])), (ad 6, .inl (tc 6, 3, .inl vx)), (ad 7, .inl (tc 7, 3, .inl vy)), (ad 8, .inl (tc 8, 3, .inl vz))] sz) := by
  refine Met.ofW (cc := cX1_triangle) (maxL := 5) (ret := (some .int)) (by decide) rfl ?_
  intro p e s m args below meth cD s₁ B hml hv
  obtain ⟨rfl, hsz, hP, hK, hD0, hN⟩ := hv
  have hx := B.exec
  have hb := B.bytes
  have hr := B.returns
  have hts := atoms_spec (ws := wsX1_triangle) B.pre
  have hown : s.vm.findClass RX1 = some m.cls := findClass_of_methodNamed B.named
  have hlocks := B.notSynchronized
  subst hsz
  have hD := hD0.self (sz := s.heap.size)
  generalize hAe : va_A [(ad 0, .inr (1, [.int (nI w), .int (nI h), .ref (ad 1), .ref (ad 2), .ref (ad 3), .ref (ad 4), .ref (ad 5), .int qd])), (ad 1, .inl (tc 1, (w * h), .inl col)), (ad 2, .inl (tc 2, (w * h), .inl dep)), (ad 3, .inr (0, [.ref (ad 6), .ref (ad 7), .ref (ad 8), .int se, .int th, .long ar])), (ad 6, .inl (tc 6, 3, .inl vx)), (ad 7, .inl (tc 7, 3, .inl vy)), (ad 8, .inl (tc 8, 3, .inl vz))] s.heap.size = A at hD ⊢
  have hA : ∀ q : Nat, s.heap.size ≤ q → A q := fun q h => by rw [← hAe]; exact Or.inr h
  have hS : va_S A s.heap s.heap [] := va_S.rf
  have hP : va_P (dC, dI) vwCl [(ad 0, .inr (1, [.int (nI w), .int (nI h), .ref (ad 1), .ref (ad 2), .ref (ad 3), .ref (ad 4), .ref (ad 5), .int qd])), (ad 1, .inl (tc 1, (w * h), .inl col)), (ad 2, .inl (tc 2, (w * h), .inl dep)), (ad 3, .inr (0, [.ref (ad 6), .ref (ad 7), .ref (ad 8), .int se, .int th, .long ar])), (ad 6, .inl (tc 6, 3, .inl vx)), (ad 7, .inl (tc 7, 3, .inl vy)), (ad 8, .inl (tc 8, 3, .inl vz))] s.heap := hP
  have hl := lv_entry ([.ref (ad 0), .int c]) (n := 5) (Nat.le_of_ble_eq_true rfl)
  rw [lg_entry_eq]
  generalize (lg_sl ([.ref (ad 0), .int c]) ++ List.replicate (5 - (lg_sl ([.ref (ad 0), .int c])).length) Slot.unset).toArray = ls at hl ⊢
  have hl : lv_has ls 5 [(0, .ref (ad 0)), (1, .int c)] := hl
  have hwh := wh_le hw2 hh2
  refine lv_iconst (v := 0) hx hb dX1_triangle_0 (by decide) ?_
  refine lv_topi (fun zz ezz => ?_)
  obtain rfl : zz = nI 0 := ezz.trans (nI_0.symm)
  refine lv_istore_n (lv' := [(2, .int (nI 0)), (0, .ref (ad 0)), (1, .int c)]) hx hb dX1_triangle_1 rfl hl (by decide) rfl (fun ls hl => ?_)
  refine lv_iconst (v := 0) hx hb dX1_triangle_2 (by decide) ?_
  refine lv_topi (fun zz ezz => ?_)
  obtain rfl : zz = nI 0 := ezz.trans (nI_0.symm)
  refine lv_istore_n (lv' := [(3, .int (nI 0)), (2, .int (nI 0)), (0, .ref (ad 0)), (1, .int c)]) hx hb dX1_triangle_3 rfl hl (by decide) rfl (fun ls hl => ?_)
  have outer : ∀ (n : Nat) (y : Nat) (k : Nat) (col' : Nat → Int32) (dep' : Nat → Int32), y ≤ h → k = cnt (TPi w vx vy vz dep) (y * w) → TIn w (w * h) vx vy vz col dep c (y * w) col' dep' → h + 1 ≤ y + n → ∀ (H : Heap) (locs : List Loc), va_P (dC, dI) vwCl [(ad 0, .inr (1, [.int (nI w), .int (nI h), .ref (ad 1), .ref (ad 2), .ref (ad 3), .ref (ad 4), .ref (ad 5), .int qd])), (ad 1, .inl (tc 1, (w * h), .inl col')), (ad 2, .inl (tc 2, (w * h), .inl dep')), (ad 3, .inr (0, [.ref (ad 6), .ref (ad 7), .ref (ad 8), .int se, .int th, .long ar])), (ad 6, .inl (tc 6, 3, .inl vx)), (ad 7, .inl (tc 7, 3, .inl vy)), (ad 8, .inl (tc 8, 3, .inl vz))] H → va_D A [(ad 0, .inr (1, [.int (nI w), .int (nI h), .ref (ad 1), .ref (ad 2), .ref (ad 3), .ref (ad 4), .ref (ad 5), .int qd])), (ad 1, .inl (tc 1, (w * h), .inl col')), (ad 2, .inl (tc 2, (w * h), .inl dep')), (ad 3, .inr (0, [.ref (ad 6), .ref (ad 7), .ref (ad 8), .int se, .int th, .long ar])), (ad 6, .inl (tc 6, 3, .inl vx)), (ad 7, .inl (tc 7, 3, .inl vy)), (ad 8, .inl (tc 8, 3, .inl vz))] → va_S A s.heap H locs → ∀ (ls : Array Slot), lv_has ls 5 [(0, .ref (ad 0)), (1, .int c), (2, .int (nI k)), (3, .int (nI y))] → W p l e (headSpec wsX1_triangle { frames := 4, cells := 0, slots := 0, locals := 103 }).room s m [.ref (ad 0), .int c].toArray below meth cD H locs 0 0 (MQ below (va_Qi (fun (r : Int32) (u : (Nat → Int32) × (Nat → Int32)) => r = nI (cnt (TPi w vx vy vz dep) (w * h)) ∧ TIn w (w * h) vx vy vz col dep c (w * h) u.1 u.2) (mB (dC, dI) vwCl [(tc 1, .int), (tc 2, .int), (tc 6, .int), (tc 7, .int), (tc 8, .int)] A (fun u => [(ad 0, .inr (1, [.int (nI w), .int (nI h), .ref (ad 1), .ref (ad 2), .ref (ad 3), .ref (ad 4), .ref (ad 5), .int qd])), (ad 1, .inl (tc 1, (w * h), .inl u.1)), (ad 2, .inl (tc 2, (w * h), .inl u.2)), (ad 3, .inr (0, [.ref (ad 6), .ref (ad 7), .ref (ad 8), .int se, .int th, .long ar])), (ad 6, .inl (tc 6, 3, .inl vx)), (ad 7, .inl (tc 7, 3, .inl vy)), (ad 8, .inl (tc 8, 3, .inl vz))])) A) [.ref (ad 0), .int c].toArray s 0 0 A) (F0 m 4 ls []) := by
    intro n
    induction n with
    | zero => intro y k col' dep' hy hk hI hm; exfalso; omega
    | succ n ih =>
      intro y k col' dep' hy hk hI hm H locs hP hD hS ls hl
      refine lv_iload_n hx hb dX1_triangle_4 rfl (lv_at hl 3 rfl) ?_
      refine lv_aload_n hx hb dX1_triangle_5 rfl (lv_at hl 0 rfl) ?_
      refine va_get (D := (dC, dI)) (ci := 1) (v := .int (nI h)) (C := RX1) (T := TX1) (N := 8) hx hb hts (by decide +kernel) hown hK hP 0 rfl rfl 1 (by decide) (hts (.fieldLink RX1 17 "TriangleRaster" "height" "I") (by decide +kernel)) (fun _ h9 => h9) rfl dX1_triangle_6 ?_
      refine lv_icmp_ge (tgt := 47) hx hb dX1_triangle_9 (by decide) (fun c9 => ?_) (fun c9 => ?_)
      · refine lv_iload_n hx hb dX1_triangle_47 rfl (lv_at hl 2 rfl) ?_
        have hP9 := hP.sub (ws' := [(ad 0, .inr (1, [.int (nI w), .int (nI h), .ref (ad 1), .ref (ad 2), .ref (ad 3), .ref (ad 4), .ref (ad 5), .int qd])), (ad 1, .inl (tc 1, (w * h), .inl col')), (ad 2, .inl (tc 2, (w * h), .inl dep')), (ad 3, .inr (0, [.ref (ad 6), .ref (ad 7), .ref (ad 8), .int se, .int th, .long ar])), (ad 6, .inl (tc 6, 3, .inl vx)), (ad 7, .inl (tc 7, 3, .inl vy)), (ad 8, .inl (tc 8, 3, .inl vz))]) [0, 1, 2, 3, 4, 5, 6] rfl
        have hD9 := hD.sub (ws' := [(ad 0, .inr (1, [.int (nI w), .int (nI h), .ref (ad 1), .ref (ad 2), .ref (ad 3), .ref (ad 4), .ref (ad 5), .int qd])), (ad 1, .inl (tc 1, (w * h), .inl col')), (ad 2, .inl (tc 2, (w * h), .inl dep')), (ad 3, .inr (0, [.ref (ad 6), .ref (ad 7), .ref (ad 8), .int se, .int th, .long ar])), (ad 6, .inl (tc 6, 3, .inl vx)), (ad 7, .inl (tc 7, 3, .inl vy)), (ad 8, .inl (tc 8, 3, .inl vz))]) [0, 1, 2, 3, 4, 5, 6] (by decide) rfl
        exact W.iret (v := (nI k)) hx hb hr (fun t ht hW => ⟨⟨nI k, (col', dep'), rfl, by have hyh : y = h := (by rw [nI_leI (by omega) (by omega)] at c9; omega); rw [hyh, Nat.mul_comm h w] at hk hI; exact ⟨by rw [hk], hI⟩, by rw [ht]; exact hP9, va_K.moved hW.alike hK, hD9⟩, hS.F ht⟩) hS.2.2 dX1_triangle_48
      · have hy0 : y < h := by rw [nI_leI (by omega) (by omega)] at c9; omega
        refine lv_iconst (v := 0) hx hb dX1_triangle_12 (by decide) ?_
        refine lv_topi (fun zz ezz => ?_)
        obtain rfl : zz = nI 0 := ezz.trans (nI_0.symm)
        refine lv_istore (lv' := [(4, .int (nI 0)), (0, .ref (ad 0)), (1, .int c), (2, .int (nI k)), (3, .int (nI y))]) hx hb dX1_triangle_13 hl (by decide) rfl (fun ls hl => ?_)
        have inner : ∀ (n : Nat) (x : Nat) (k : Nat) (col' : Nat → Int32) (dep' : Nat → Int32), x ≤ w → k = cnt (TPi w vx vy vz dep) (y * w + x) → TIn w (w * h) vx vy vz col dep c (y * w + x) col' dep' → w + 1 ≤ x + n → ∀ (H : Heap) (locs : List Loc), va_P (dC, dI) vwCl [(ad 0, .inr (1, [.int (nI w), .int (nI h), .ref (ad 1), .ref (ad 2), .ref (ad 3), .ref (ad 4), .ref (ad 5), .int qd])), (ad 1, .inl (tc 1, (w * h), .inl col')), (ad 2, .inl (tc 2, (w * h), .inl dep')), (ad 3, .inr (0, [.ref (ad 6), .ref (ad 7), .ref (ad 8), .int se, .int th, .long ar])), (ad 6, .inl (tc 6, 3, .inl vx)), (ad 7, .inl (tc 7, 3, .inl vy)), (ad 8, .inl (tc 8, 3, .inl vz))] H → va_D A [(ad 0, .inr (1, [.int (nI w), .int (nI h), .ref (ad 1), .ref (ad 2), .ref (ad 3), .ref (ad 4), .ref (ad 5), .int qd])), (ad 1, .inl (tc 1, (w * h), .inl col')), (ad 2, .inl (tc 2, (w * h), .inl dep')), (ad 3, .inr (0, [.ref (ad 6), .ref (ad 7), .ref (ad 8), .int se, .int th, .long ar])), (ad 6, .inl (tc 6, 3, .inl vx)), (ad 7, .inl (tc 7, 3, .inl vy)), (ad 8, .inl (tc 8, 3, .inl vz))] → va_S A s.heap H locs → ∀ (ls : Array Slot), lv_has ls 5 [(0, .ref (ad 0)), (1, .int c), (2, .int (nI k)), (3, .int (nI y)), (4, .int (nI x))] → W p l e (headSpec wsX1_triangle { frames := 4, cells := 0, slots := 0, locals := 103 }).room s m [.ref (ad 0), .int c].toArray below meth cD H locs 0 0 (MQ below (va_Qi (fun (r : Int32) (u : (Nat → Int32) × (Nat → Int32)) => r = nI (cnt (TPi w vx vy vz dep) (w * h)) ∧ TIn w (w * h) vx vy vz col dep c (w * h) u.1 u.2) (mB (dC, dI) vwCl [(tc 1, .int), (tc 2, .int), (tc 6, .int), (tc 7, .int), (tc 8, .int)] A (fun u => [(ad 0, .inr (1, [.int (nI w), .int (nI h), .ref (ad 1), .ref (ad 2), .ref (ad 3), .ref (ad 4), .ref (ad 5), .int qd])), (ad 1, .inl (tc 1, (w * h), .inl u.1)), (ad 2, .inl (tc 2, (w * h), .inl u.2)), (ad 3, .inr (0, [.ref (ad 6), .ref (ad 7), .ref (ad 8), .int se, .int th, .long ar])), (ad 6, .inl (tc 6, 3, .inl vx)), (ad 7, .inl (tc 7, 3, .inl vy)), (ad 8, .inl (tc 8, 3, .inl vz))])) A) [.ref (ad 0), .int c].toArray s 0 0 A) (F0 m 15 ls []) := by
          intro n
          induction n with
          | zero => intro x k col' dep' hx9 hk hI hm; exfalso; omega
          | succ n ih2 =>
            intro x k col' dep' hx9 hk hI hm H locs hP hD hS ls hl
            refine lv_iload hx hb dX1_triangle_15 (lv_at hl 4 rfl) ?_
            refine lv_aload_n hx hb dX1_triangle_17 rfl (lv_at hl 0 rfl) ?_
            refine va_get (D := (dC, dI)) (ci := 1) (v := .int (nI w)) (C := RX1) (T := TX1) (N := 8) hx hb hts (by decide +kernel) hown hK hP 0 rfl rfl 0 (by decide) (hts (.fieldLink RX1 13 "TriangleRaster" "width" "I") (by decide +kernel)) (fun _ h9 => h9) rfl dX1_triangle_18 ?_
            refine lv_icmp_ge (tgt := 41) hx hb dX1_triangle_21 (by decide) (fun c21 => ?_) (fun c21 => ?_)
            · have hxw : x = w := by rw [nI_leI (by omega) (by omega)] at c21; omega
              refine lv_iinc (v := nI (y + 1)) (lv' := [(3, .int (nI (y + 1))), (0, .ref (ad 0)), (1, .int c), (2, .int (nI k)), (4, .int (nI x))]) hx hb dX1_triangle_41 hl (k := 3) rfl (nI_add _ 1) (by decide) rfl (fun ls hl => ?_)
              refine lv_goto (tgt := 4) hx hb dX1_triangle_44 (by decide) ?_
              exact ih (y + 1) k col' dep' (by omega) (by rw [hk, Nat.add_mul, Nat.one_mul, hxw]) (by rw [hxw] at hI; rw [Nat.add_mul, Nat.one_mul]; exact hI) (by omega) _ _ (hP.sub [0, 1, 2, 3, 4, 5, 6] rfl) (hD.sub [0, 1, 2, 3, 4, 5, 6] (by decide) rfl) hS ls (lv_sub hl [1, 2, 3, 0] rfl)
            · have hx0 : x < w := by rw [nI_leI (by omega) (by omega)] at c21; omega
              have hlt := row_lt hx0 hy0
              refine lv_iload_n hx hb dX1_triangle_24 rfl (lv_at hl 2 rfl) ?_
              refine lv_aload_n hx hb dX1_triangle_25 rfl (lv_at hl 0 rfl) ?_
              refine lv_iload hx hb dX1_triangle_26 (lv_at hl 4 rfl) ?_
              refine lv_iload_n hx hb dX1_triangle_28 rfl (lv_at hl 3 rfl) ?_
              refine lv_iload_n hx hb dX1_triangle_29 rfl (lv_at hl 1 rfl) ?_
              refine m_calli (cs := [(ad 0, .inr (1, [.int (nI w), .int (nI h), .ref (ad 1), .ref (ad 2), .ref (ad 3), .ref (ad 4), .ref (ad 5), .int qd])), (ad 1, .inl (tc 1, (w * h), .inl col')), (ad 2, .inl (tc 2, (w * h), .inl dep')), (ad 3, .inr (0, [.ref (ad 6), .ref (ad 7), .ref (ad 8), .int se, .int th, .long ar])), (ad 6, .inl (tc 6, 3, .inl vx)), (ad 7, .inl (tc 7, 3, .inl vy)), (ad 8, .inl (tc 8, 3, .inl vz))]) (wr := []) hP hD hS hA [0, 1, 2, 3, 4, 5, 6] [] rfl rfl (by decide) (by decide) (va_runV (As := [.int (nI x), .int (nI y), .int c]) (rest := [.int (nI k)]) ⟨hx, hb, hml, hown, hts⟩ (c_X1_paintNearer l dC dI _ ad tc w h qd se th ar vx vy vz col' dep' hw1 hw2 hh1 hh2 hv hz hf x y hx0 hy0 c) (cwV 3 hts gX1_triangle_X1_paintNearer rfl rfl rfl (by decide +kernel) ⟨Nat.le_of_ble_eq_true rfl, Nat.le_of_ble_eq_true rfl⟩) (m_preV (ci := 1) (q0 := 0) (hP.sub [0, 1, 2, 3, 4, 5, 6] rfl) (hK.sub [0, 1, 2, 3, 4] rfl) (hD.sub [0, 1, 2, 3, 4, 5, 6] (by decide) rfl) hN rfl rfl) rfl rfl hl.1 rfl (lv_room (Nat.le_of_ble_eq_true rfl)) dX1_triangle_30 ⟨Nat.le_of_ble_eq_true rfl, Nat.le_of_ble_eq_true rfl⟩) (fun r30 u30 H locs q30 _ hP hD hS => ?_)
              obtain ⟨co30, de30⟩ := u30
              have hP : va_P (dC, dI) vwCl [(ad 0, .inr (1, [.int (nI w), .int (nI h), .ref (ad 1), .ref (ad 2), .ref (ad 3), .ref (ad 4), .ref (ad 5), .int qd])), (ad 1, .inl (tc 1, (w * h), .inl co30)), (ad 2, .inl (tc 2, (w * h), .inl de30)), (ad 3, .inr (0, [.ref (ad 6), .ref (ad 7), .ref (ad 8), .int se, .int th, .long ar])), (ad 6, .inl (tc 6, 3, .inl vx)), (ad 7, .inl (tc 7, 3, .inl vy)), (ad 8, .inl (tc 8, 3, .inl vz))] H := hP.sub [0, 1, 2, 3, 4, 5, 6] rfl
              have hD : va_D A [(ad 0, .inr (1, [.int (nI w), .int (nI h), .ref (ad 1), .ref (ad 2), .ref (ad 3), .ref (ad 4), .ref (ad 5), .int qd])), (ad 1, .inl (tc 1, (w * h), .inl co30)), (ad 2, .inl (tc 2, (w * h), .inl de30)), (ad 3, .inr (0, [.ref (ad 6), .ref (ad 7), .ref (ad 8), .int se, .int th, .long ar])), (ad 6, .inl (tc 6, 3, .inl vx)), (ad 7, .inl (tc 7, 3, .inl vy)), (ad 8, .inl (tc 8, 3, .inl vz))] := hD.sub [0, 1, 2, 3, 4, 5, 6] (by decide) rfl
              refine lv_iadd hx hb dX1_triangle_33 ?_
              refine lv_istore_n (lv' := [(2, .int ((nI k) + r30)), (0, .ref (ad 0)), (1, .int c), (3, .int (nI y)), (4, .int (nI x))]) hx hb dX1_triangle_34 rfl hl (by decide) rfl (fun ls hl => ?_)
              refine lv_iinc (v := nI (x + 1)) (lv' := [(4, .int (nI (x + 1))), (2, .int ((nI k) + r30)), (0, .ref (ad 0)), (1, .int c), (3, .int (nI y))]) hx hb dX1_triangle_35 hl (k := 4) rfl (nI_add _ 1) (by decide) rfl (fun ls hl => ?_)
              refine lv_goto (tgt := 15) hx hb dX1_triangle_38 (by decide) ?_
              have hP15 := hP
              have hD15 := hD
              rcases q30 with ⟨g1, g2, g3⟩ | ⟨g1, g2, g3⟩
              · subst g2
                have g4 : co30 = upd col' (y * w + x) c ∧ de30 = upd dep' (y * w + x) (Int32.ofInt (DPT vx vy vz (x : Int) (y : Int))) := by injection g3 with h1 h2; exact ⟨h1, h2⟩
                rw [g4.1, g4.2] at hP hD
                rw [TIn_dep hI hlt] at g1
                have hT := (TPi_at hx0).mpr g1
                have hI2 := TIn_yes hI hT
                rw [row_mod y hx0, row_div y hx0] at hI2
                have e2 : nI k + 1 = nI (k + 1) := nI_1 k
                rw [e2] at hl
                exact ih2 (x + 1) (k + 1) _ _ (by omega) (by rw [hk, ← Nat.add_assoc, cnt_yes hT]) hI2 (by omega) _ _ (hP.sub [0, 1, 2, 3, 4, 5, 6] rfl) (hD.sub [0, 1, 2, 3, 4, 5, 6] (by decide) rfl) hS ls (lv_sub hl [2, 3, 1, 4, 0] rfl)
              · subst g2
                have g4 : co30 = col' ∧ de30 = dep' := by injection g3 with h1 h2; exact ⟨h1, h2⟩
                rw [g4.1, g4.2] at hP hD
                rw [TIn_dep hI hlt] at g1
                have hT : ¬ TPi w vx vy vz dep (y * w + x) := fun h => g1 ((TPi_at hx0).mp h)
                have e2 : nI k + 0 = nI k := by rw [← nI_0, nI_add]; rfl
                rw [e2] at hl
                exact ih2 (x + 1) k _ _ (by omega) (by rw [hk, ← Nat.add_assoc, cnt_no hT]) (TIn_no hI hT) (by omega) _ _ (hP.sub [0, 1, 2, 3, 4, 5, 6] rfl) (hD.sub [0, 1, 2, 3, 4, 5, 6] (by decide) rfl) hS ls (lv_sub hl [2, 3, 1, 4, 0] rfl)
        exact inner (w + 1) 0 k col' dep' (Nat.zero_le _) hk hI (by omega) _ _ (hP.sub [0, 1, 2, 3, 4, 5, 6] rfl) (hD.sub [0, 1, 2, 3, 4, 5, 6] (by decide) rfl) hS ls (lv_sub hl [1, 2, 3, 4, 0] rfl)
  exact outer (h + 1) 0 0 col dep (Nat.zero_le _) (by rw [Nat.zero_mul]; rfl) (by rw [Nat.zero_mul]; exact TIn_0) (by omega) _ _ (hP.sub [0, 1, 2, 3, 4, 5, 6] rfl) (hD.sub [0, 1, 2, 3, 4, 5, 6] (by decide) rfl) hS ls (lv_sub hl [2, 3, 1, 0] rfl)
end
section
/-! a line's pixels -/
def lnN (a0 a1 : Int) : Nat := (a1 - a0).natAbs
def lnX (a0 a1 : Int) (k : Nat) : Int := if a1 < a0 then a0 - k else a0 + k
def lnF (n m k : Int) : Int := (2 * k * m + n - 1) / (2 * n)
def lnY (a0 a1 b0 b1 : Int) (k : Nat) : Int := if b1 < b0 then b0 - lnF (lnN a0 a1) (lnN b0 b1) k else b0 + lnF (lnN a0 a1) (lnN b0 b1) k
/-- the line whose greater way goes from a0 to a1, whose lesser one from b0 to b1, has the pixel at a along the one and b along the other -/
def ONL (a0 a1 b0 b1 a b : Int) : Prop := ∃ k : Nat, k ≤ lnN a0 a1 ∧ lnX a0 a1 k = a ∧ lnY a0 a1 b0 b1 k = b
theorem lnX_inj {a0 a1 : Int} {k j : Nat} (h : lnX a0 a1 k = lnX a0 a1 j) : k = j := by
  unfold lnX at h
  split at h <;> omega
/-- what placeBeside answers at a -/
def PBp (a0 a1 b0 b1 a : Int) (r : Int32) : Prop := (∃ k : Nat, k ≤ lnN a0 a1 ∧ lnX a0 a1 k = a ∧ r.toInt = lnY a0 a1 b0 b1 k) ∨ ((∀ k : Nat, k ≤ lnN a0 a1 → lnX a0 a1 k ≠ a) ∧ r = -1)
theorem PBp_hit {a0 a1 b0 b1 a b : Int} {r : Int32} (hp : PBp a0 a1 b0 b1 a r) (h : ONL a0 a1 b0 b1 a b) : r.toInt = b := by
  obtain ⟨k, h1, h2, h3⟩ := h
  rcases hp with ⟨j, g1, g2, g3⟩ | ⟨g1, g2⟩
  · have : k = j := lnX_inj (h2.trans g2.symm)
    subst this
    rw [g3, h3]
  · exact absurd h2 (g1 k h1)
theorem PBp_on {a0 a1 b0 b1 a : Int} {r : Int32} (hp : PBp a0 a1 b0 b1 a r) (h : 0 ≤ r.toInt) : ONL a0 a1 b0 b1 a r.toInt := by
  rcases hp with ⟨j, g1, g2, g3⟩ | ⟨g1, g2⟩
  · exact ⟨j, g1, g2, g3.symm⟩
  · rw [g2, show (-1 : Int32).toInt = -1 from by decide] at h
    omega
theorem abs32 {x : Int32} (h : x.toInt.natAbs ≤ 1000000) : (if 0 ≤ x then x else 0 - x).toInt = (x.toInt.natAbs : Int) := by
  by_cases h0 : (0 : Int32) ≤ x
  · rw [if_pos h0]
    rw [Int32.le_iff_toInt_le, Int32.toInt_zero] at h0
    omega
  · rw [if_neg h0]
    rw [Int32.le_iff_toInt_le, Int32.toInt_zero] at h0
    rw [Jvm.Kit.i32_sub (by rw [Int32.toInt_zero]; omega) (by rw [Int32.toInt_zero]; omega), Int32.toInt_zero]
    omega
theorem sub32 {x y : Int32} (hx : x.toInt.natAbs ≤ 40000) (hy : y.toInt.natAbs ≤ 40000) : (x - y).toInt = x.toInt - y.toInt := Jvm.Kit.i32_sub (by omega) (by omega)
theorem lnF_b {n m k : Int} (hn : 0 < n) (hk : 0 ≤ k ∧ k ≤ n) (hm : 0 ≤ m ∧ m ≤ 32768) : 0 ≤ 2 * k * m + n - 1 ∧ 0 ≤ lnF n m k ∧ lnF n m k ≤ 32769 := by
  have h1 : 0 ≤ k * m := Int.mul_nonneg hk.1 hm.1
  have h2 : k * m ≤ n * 32768 := Int.mul_le_mul hk.2 hm.2 hm.1 (by omega)
  have e : 2 * k * m = 2 * (k * m) := Int.mul_assoc 2 k m
  unfold lnF
  rw [e]
  refine ⟨by omega, Int.ediv_nonneg (by omega) (by omega), ?_⟩
  apply Int.ediv_le_of_le_mul (by omega)
  omega
theorem far_val {n m k : Int64} {N M K : Int} (en : n.toInt = N) (em : m.toInt = M) (ek : k.toInt = K) (hn : 0 < N ∧ N ≤ 32768) (hk : 0 ≤ K ∧ K ≤ N) (hm : 0 ≤ M ∧ M ≤ 32768) : ((2 * k * m + n - 1) / (2 * n)).toInt32.toInt = lnF N M K := by
  have e2 : (2 : Int64).toInt = 2 := by decide
  have e1 : (1 : Int64).toInt = 1 := by decide
  have b := lnF_b hn.1 hk hm
  have h1 : 0 ≤ K * M := Int.mul_nonneg hk.1 hm.1
  have h2 : K * M ≤ N * 32768 := Int.mul_le_mul hk.2 hm.2 hm.1 (by omega)
  have a1 : (2 * k).toInt = 2 * K := by rw [Jvm.Kit.i64_mul (by rw [e2, ek]; omega) (by rw [e2, ek]; omega), e2, ek]
  have e3 : 2 * K * M = 2 * (K * M) := Int.mul_assoc 2 K M
  have a2 : (2 * k * m).toInt = 2 * K * M := by rw [Jvm.Kit.i64_mul (by rw [a1, em]; omega) (by rw [a1, em]; omega), a1, em]
  have a3 : (2 * k * m + n).toInt = 2 * K * M + N := by rw [Jvm.Kit.i64_add (by rw [a2, en]; omega) (by rw [a2, en]; omega), a2, en]
  have a4 : (2 * k * m + n - 1).toInt = 2 * K * M + N - 1 := by rw [Jvm.Kit.i64_sub (by rw [a3, e1]; omega) (by rw [a3, e1]; omega), a3, e1]
  have a5 : (2 * n).toInt = 2 * N := by rw [Jvm.Kit.i64_mul (by rw [e2, en]; omega) (by rw [e2, en]; omega), e2, en]
  have a6 : ((2 * k * m + n - 1) / (2 * n)).toInt = lnF N M K := by
    rw [lg_ldiv_nonneg (by rw [a4]; omega) (by rw [a5]; omega), a4, a5]; rfl
  rw [Jvm.Kit.i32_of_i64 (by rw [a6]; omega) (by rw [a6]; omega), a6]
/-- the picture where the columns (or rows) below x are done: key i is i's column (or row), Q i: i is on the line -/
def LIn (n : Nat) (key : Nat → Nat) (Q : Nat → Prop) (col : Nat → Int32) (c : Int32) (x : Nat) (g : Nat → Int32) : Prop := ∀ i, i < n → ((key i < x ∧ Q i) → g i = c) ∧ (¬ (key i < x ∧ Q i) → g i = col i)
theorem LIn_0 {n : Nat} {key : Nat → Nat} {Q : Nat → Prop} {col : Nat → Int32} {c : Int32} : LIn n key Q col c 0 col := fun i _ => ⟨fun h => absurd h.1 (Nat.not_lt_zero _), fun _ => rfl⟩
theorem LIn_no {n x : Nat} {key : Nat → Nat} {Q : Nat → Prop} {col g : Nat → Int32} {c : Int32} (h : LIn n key Q col c x g) (hq : ∀ i, i < n → key i = x → ¬ Q i) : LIn n key Q col c (x + 1) g := by
  intro i hi
  refine ⟨fun q => (h i hi).1 ⟨?_, q.2⟩, fun q => (h i hi).2 (fun q2 => q ⟨by omega, q2.2⟩)⟩
  rcases Nat.lt_or_ge (key i) x with h1 | h1
  · exact h1
  · exact absurd q.2 (hq i hi (by omega))
theorem LIn_yes {n x j : Nat} {key : Nat → Nat} {Q : Nat → Prop} {col g : Nat → Int32} {c : Int32} (h : LIn n key Q col c x g) (hj : key j = x) (hQ : Q j) (hq : ∀ i, i < n → key i = x → Q i → i = j) : LIn n key Q col c (x + 1) (upd g j c) := by
  intro i hi
  by_cases he : i = j
  · subst he
    exact ⟨fun _ => pk_us, fun q => absurd ⟨by omega, hQ⟩ q⟩
  · rw [pk_un he]
    refine ⟨fun q => (h i hi).1 ⟨?_, q.2⟩, fun q => (h i hi).2 (fun q2 => q ⟨by omega, q2.2⟩)⟩
    rcases Nat.lt_or_ge (key i) x with h1 | h1
    · exact h1
    · exact absurd (hq i hi (by omega) q.2) he
/-- all done -/
def LFin (n : Nat) (Q : Nat → Prop) (col : Nat → Int32) (c : Int32) (g : Nat → Int32) : Prop := ∀ i, i < n → (Q i → g i = c) ∧ (¬ Q i → g i = col i)
theorem LIn_fin {n x : Nat} {key : Nat → Nat} {Q : Nat → Prop} {col g : Nat → Int32} {c : Int32} (h : LIn n key Q col c x g) (hx : ∀ i, i < n → key i < x) : LFin n Q col c g := fun i hi => ⟨fun q => (h i hi).1 ⟨hx i hi, q⟩, fun q => (h i hi).2 (fun q2 => q q2.2)⟩
def LOK (x0 y0 x1 y1 : Int32) : Prop := (-16384 ≤ x0.toInt ∧ x0.toInt ≤ 16384) ∧ (-16384 ≤ y0.toInt ∧ y0.toInt ≤ 16384) ∧ (-16384 ≤ x1.toInt ∧ x1.toInt ≤ 16384) ∧ (-16384 ≤ y1.toInt ∧ y1.toInt ≤ 16384)
def WIDE (x0 y0 x1 y1 : Int32) : Prop := lnN y0.toInt y1.toInt ≤ lnN x0.toInt x1.toInt
/-- a wide line over linear places, and how many of its pixels lie in the picture, by columns; a tall one, by rows -/
def QW (w : Nat) (x0 y0 x1 y1 : Int32) (i : Nat) : Prop := ONL x0.toInt x1.toInt y0.toInt y1.toInt (i % w : Nat) (i / w : Nat)
def QT (w : Nat) (x0 y0 x1 y1 : Int32) (i : Nat) : Prop := ONL y0.toInt y1.toInt x0.toInt x1.toInt (i / w : Nat) (i % w : Nat)
def HIT (a0 a1 b0 b1 : Int) (h : Nat) (a : Nat) : Prop := ∃ b : Nat, b < h ∧ ONL a0 a1 b0 b1 a b
theorem LW_yes {w h x : Nat} {x0 y0 x1 y1 r : Int32} (hx : x < w) (hp : PBp x0.toInt x1.toInt y0.toInt y1.toInt x r) (hr : 0 ≤ r.toInt ∧ r.toInt < h) : HIT x0.toInt x1.toInt y0.toInt y1.toInt h x ∧ QW w x0 y0 x1 y1 (r.toInt.toNat * w + x) ∧ ∀ i, i % w = x → QW w x0 y0 x1 y1 i → i = r.toInt.toNat * w + x := by
  have h1 := PBp_on hp hr.1
  have e : ((r.toInt.toNat : Nat) : Int) = r.toInt := by omega
  refine ⟨⟨r.toInt.toNat, by omega, by rw [e]; exact h1⟩, ?_, ?_⟩
  · unfold QW
    rw [row_mod _ hx, row_div _ hx, e]
    exact h1
  · intro i hi hq
    unfold QW at hq
    rw [hi] at hq
    have h2 := PBp_hit hp hq
    have h3 := row_of w i
    have h4 : i / w = r.toInt.toNat := by omega
    rw [hi, h4] at h3
    exact h3.symm
theorem LW_no {w h x : Nat} {x0 y0 x1 y1 r : Int32} (hp : PBp x0.toInt x1.toInt y0.toInt y1.toInt x r) (hr : ¬ (0 ≤ r.toInt ∧ r.toInt < h)) : (¬ HIT x0.toInt x1.toInt y0.toInt y1.toInt h x) ∧ ∀ i, i < w * h → i % w = x → ¬ QW w x0 y0 x1 y1 i := by
  constructor
  · rintro ⟨b, hb, h1⟩
    have := PBp_hit hp h1
    omega
  · intro i hi hm hq
    unfold QW at hq
    rw [hm] at hq
    have h2 := PBp_hit hp hq
    have h3 := (row_bd hi).2
    generalize i / w = d at h2 h3
    omega
theorem LT_yes {w y : Nat} {x0 y0 x1 y1 r : Int32} (hp : PBp y0.toInt y1.toInt x0.toInt x1.toInt y r) (hr : 0 ≤ r.toInt ∧ r.toInt < w) : HIT y0.toInt y1.toInt x0.toInt x1.toInt w y ∧ QT w x0 y0 x1 y1 (y * w + r.toInt.toNat) ∧ ∀ i, i / w = y → QT w x0 y0 x1 y1 i → i = y * w + r.toInt.toNat := by
  have h1 := PBp_on hp hr.1
  have hx : r.toInt.toNat < w := by omega
  have e : ((r.toInt.toNat : Nat) : Int) = r.toInt := by omega
  refine ⟨⟨r.toInt.toNat, by omega, by rw [e]; exact h1⟩, ?_, ?_⟩
  · unfold QT
    rw [row_mod _ hx, row_div _ hx, e]
    exact h1
  · intro i hi hq
    unfold QT at hq
    rw [hi] at hq
    have h2 := PBp_hit hp hq
    have h3 := row_of w i
    have h4 : i % w = r.toInt.toNat := by omega
    rw [hi, h4] at h3
    exact h3.symm
theorem LT_no {w h y : Nat} {x0 y0 x1 y1 r : Int32} (hp : PBp y0.toInt y1.toInt x0.toInt x1.toInt y r) (hr : ¬ (0 ≤ r.toInt ∧ r.toInt < w)) : (¬ HIT y0.toInt y1.toInt x0.toInt x1.toInt w y) ∧ ∀ i, i < w * h → i / w = y → ¬ QT w x0 y0 x1 y1 i := by
  constructor
  · rintro ⟨b, hb, h1⟩
    have := PBp_hit hp h1
    omega
  · intro i hi hm hq
    unfold QT at hq
    rw [hm] at hq
    have h2 := PBp_hit hp hq
    have h3 := (row_bd hi).1
    generalize i % w = d at h2 h3
    omega
end
section
set_option maxHeartbeats 4000000 in
set_option maxRecDepth 100000 in
/-- placeBeside -/
theorem c_X1_placeBeside (l : Launch) (dC : Nat → ClassId) (dI : Nat → Nat → Nat) (sz : Nat) (a a0 a1 b0 b1 : Int32) (ha : a.toInt.natAbs ≤ 2000) (ha0 : a0.toInt.natAbs ≤ 16384) (ha1 : a1.toInt.natAbs ≤ 16384) (hb0 : b0.toInt.natAbs ≤ 16384) (hb1 : b1.toInt.natAbs ≤ 16384) : Met l yX1_placeBeside wsX1_placeBeside ({ frames := 1, cells := 0, slots := 0, locals := 24 }) (mP (dC, dI) vwCl [] [] sz [.int a, .int a0, .int a1, .int b0, .int b1]) (va_Qi (fun (r : Int32) (u : Unit) => PBp a0.toInt a1.toInt b0.toInt b1.toInt a.toInt r) (mB (dC, dI) vwCl [] (va_A [] sz) (fun u => [])) (va_A [] sz)) 0 0 (va_A [] sz) := by
  refine Met.ofW (cc := cX1_placeBeside) (maxL := 12) (ret := (some .int)) (by decide) rfl ?_
  intro p e s m args below meth cD s₁ B hml hv
  obtain ⟨rfl, hsz, hP, hK, hD0, hN⟩ := hv
  have hx := B.exec
  have hb := B.bytes
  have hr := B.returns
  have hts := atoms_spec (ws := wsX1_placeBeside) B.pre
  have hown : s.vm.findClass RX1 = some m.cls := findClass_of_methodNamed B.named
  have hlocks := B.notSynchronized
  subst hsz
  have hD := hD0.self (sz := s.heap.size)
  generalize hAe : va_A [] s.heap.size = A at hD ⊢
  have hA : ∀ q : Nat, s.heap.size ≤ q → A q := fun q h => by rw [← hAe]; exact Or.inr h
  have hS : va_S A s.heap s.heap [] := va_S.rf
  have hP : va_P (dC, dI) vwCl [] s.heap := hP
  have hl := lv_entry ([.int a, .int a0, .int a1, .int b0, .int b1]) (n := 12) (Nat.le_of_ble_eq_true rfl)
  rw [lg_entry_eq]
  generalize (lg_sl ([.int a, .int a0, .int a1, .int b0, .int b1]) ++ List.replicate (12 - (lg_sl ([.int a, .int a0, .int a1, .int b0, .int b1])).length) Slot.unset).toArray = ls at hl ⊢
  have hl : lv_has ls 12 [(0, .int a), (1, .int a0), (2, .int a1), (3, .int b0), (4, .int b1)] := hl
  refine lv_iload_n hx hb dX1_placeBeside_0 rfl (lv_at hl 2 rfl) ?_
  refine lv_iload_n hx hb dX1_placeBeside_1 rfl (lv_at hl 1 rfl) ?_
  refine lv_isub hx hb dX1_placeBeside_2 ?_
  refine va_mabs hx hb (by rw [hml]; exact hl.1.symm) hown (hts (.methodLink RX1 72 Lib.Math.abs.name) (by decide +kernel)) (hts (.static Lib.Math.abs.name) (by decide +kernel)) (hts (.initialized "java/lang/Math") (by decide +kernel)) (hts _ (List.mem_of_getElem? (i := 4) rfl)) (Nat.le_of_ble_eq_true rfl) (Nat.le_of_ble_eq_true rfl) (Nat.zero_le _) (Nat.zero_le _) dX1_placeBeside_3 ?_
  refine lv_topi (fun v3 ev3 => ?_)
  have hn : v3.toInt64.toInt = (lnN a0.toInt a1.toInt : Int) := by
    rw [Jvm.Kit.i64_of_i32, ev3, abs32 (by rw [sub32 (by omega) (by omega)]; omega), sub32 (by omega) (by omega)]; rfl
  have hnb : lnN a0.toInt a1.toInt ≤ 32768 := by unfold lnN; omega
  generalize hNe : lnN a0.toInt a1.toInt = N at hn hnb
  refine lv_i2l hx hb dX1_placeBeside_6 rfl ?_
  refine lv_lstore (lv' := [(5, .long v3.toInt64), (0, .int a), (1, .int a0), (2, .int a1), (3, .int b0), (4, .int b1)]) hx hb dX1_placeBeside_7 hl (by decide) rfl (fun ls hl => ?_)
  refine lv_iload_n hx hb dX1_placeBeside_9 rfl (lv_at hl 3 rfl) ?_
  refine lv_iload_n hx hb dX1_placeBeside_10 rfl (lv_at hl 2 rfl) ?_
  refine lv_icmp_ge (tgt := 21) hx hb dX1_placeBeside_11 (by decide) (fun c11 => ?_) (fun c11 => ?_)
  · refine lv_iload_n hx hb dX1_placeBeside_21 rfl (lv_at hl 1 rfl) ?_
    refine lv_iload_n hx hb dX1_placeBeside_22 rfl (lv_at hl 2 rfl) ?_
    refine lv_isub hx hb dX1_placeBeside_23 ?_
    refine lv_i2l hx hb dX1_placeBeside_24 rfl ?_
    refine lv_lstore (lv' := [(7, .long ((a - a0).toInt64)), (5, .long v3.toInt64), (0, .int a), (1, .int a0), (2, .int a1), (3, .int b0), (4, .int b1)]) hx hb dX1_placeBeside_25 hl (by decide) rfl (fun ls hl => ?_)
    have hlt : ¬ a1.toInt < a0.toInt := by rw [Int32.le_iff_toInt_le] at c11; omega
    obtain ⟨K, hK0⟩ : ∃ K : Int, K = a.toInt - a0.toInt := ⟨_, rfl⟩
    have hkv : (a - a0).toInt64.toInt = K := by rw [Jvm.Kit.i64_of_i32, sub32 (by omega) (by omega), hK0]
    have hX : ∀ k : Nat, lnX a0.toInt a1.toInt k = a.toInt ↔ (k : Int) = K := fun k => by unfold lnX; rw [if_neg hlt]; omega
    refine lv_lload hx hb dX1_placeBeside_27 (lv_at hl 0 rfl) ?_
    refine lv_lconst (v := 0) hx hb dX1_placeBeside_29 (by decide) ?_
    refine W.lcmp hx hb dX1_placeBeside_30 ?_
    refine lv_if_lt (tgt := 42) hx hb dX1_placeBeside_31 (by decide) (fun c31 => ?_) (fun c31 => ?_)
    · rw [lg_cmp_lt, Int64.lt_iff_toInt_lt, hkv, Int64.toInt_zero] at c31
      refine lv_iconst (v := (-1)) hx hb dX1_placeBeside_42 (by decide) ?_
      have hP9 := hP.sub (ws' := []) [] rfl
      have hD9 := hD.sub (ws' := []) [] (by decide) rfl
      exact W.iret (v := (-1)) hx hb hr (fun t ht hW => ⟨⟨(-1), (), rfl, Or.inr ⟨fun k hk q => by rw [hX] at q; rw [hNe] at hk; omega, rfl⟩, by rw [ht]; exact hP9, va_K.moved hW.alike hK, hD9⟩, hS.F ht⟩) hS.2.2 dX1_placeBeside_43
    · rw [lg_cmp_lt, Int64.lt_iff_toInt_lt, hkv, Int64.toInt_zero] at c31
      refine lv_lload hx hb dX1_placeBeside_34 (lv_at hl 0 rfl) ?_
      refine lv_lload hx hb dX1_placeBeside_36 (lv_at hl 1 rfl) ?_
      refine W.lcmp hx hb dX1_placeBeside_38 ?_
      refine lv_if_le (tgt := 44) hx hb dX1_placeBeside_39 (by decide) (fun c39 => ?_) (fun c39 => ?_)
      · rw [lg_cmp_le, Int64.le_iff_toInt_le, hkv, hn] at c39
        have hKn : ((K.toNat : Nat) : Int) = K := by omega
        refine lv_lload hx hb dX1_placeBeside_44 (lv_at hl 1 rfl) ?_
        refine lv_lconst (v := 0) hx hb dX1_placeBeside_46 (by decide) ?_
        refine W.lcmp hx hb dX1_placeBeside_47 ?_
        refine lv_if_ne (tgt := 53) hx hb dX1_placeBeside_48 (by decide) (fun c48 => ?_) (fun c48 => ?_)
        · rw [lg_cmp_eq, ← Int64.toInt_inj, hn, Int64.toInt_zero] at c48
          refine lv_iload hx hb dX1_placeBeside_53 (lv_at hl 6 rfl) ?_
          refine lv_iload_n hx hb dX1_placeBeside_55 rfl (lv_at hl 5 rfl) ?_
          refine lv_isub hx hb dX1_placeBeside_56 ?_
          refine va_mabs hx hb (by rw [hml]; exact hl.1.symm) hown (hts (.methodLink RX1 72 Lib.Math.abs.name) (by decide +kernel)) (hts (.static Lib.Math.abs.name) (by decide +kernel)) (hts (.initialized "java/lang/Math") (by decide +kernel)) (hts _ (List.mem_of_getElem? (i := 4) rfl)) (Nat.le_of_ble_eq_true rfl) (Nat.le_of_ble_eq_true rfl) (Nat.zero_le _) (Nat.zero_le _) dX1_placeBeside_57 ?_
          refine lv_topi (fun v57 ev57 => ?_)
          have hm : v57.toInt64.toInt = (lnN b0.toInt b1.toInt : Int) := by
            rw [Jvm.Kit.i64_of_i32, ev57, abs32 (by rw [sub32 (by omega) (by omega)]; omega), sub32 (by omega) (by omega)]; rfl
          have hmb : lnN b0.toInt b1.toInt ≤ 32768 := by unfold lnN; omega
          refine lv_i2l hx hb dX1_placeBeside_60 rfl ?_
          refine lv_lstore (lv' := [(9, .long v57.toInt64), (7, .long ((a - a0).toInt64)), (5, .long v3.toInt64), (0, .int a), (1, .int a0), (2, .int a1), (3, .int b0), (4, .int b1)]) hx hb dX1_placeBeside_61 hl (by decide) rfl (fun ls hl => ?_)
          refine lv_ldc2 (v := 2) hx hb hown (hts (.constantLong RX1 93 2) (by decide +kernel)) dX1_placeBeside_63 ?_
          refine lv_lload hx hb dX1_placeBeside_66 (lv_at hl 1 rfl) ?_
          refine lv_lmul hx hb dX1_placeBeside_68 ?_
          refine lv_lload hx hb dX1_placeBeside_69 (lv_at hl 0 rfl) ?_
          refine lv_lmul hx hb dX1_placeBeside_71 ?_
          refine lv_lload hx hb dX1_placeBeside_72 (lv_at hl 2 rfl) ?_
          refine lv_ladd hx hb dX1_placeBeside_74 ?_
          refine lv_lconst (v := 1) hx hb dX1_placeBeside_75 (by decide) ?_
          refine lv_lsub hx hb dX1_placeBeside_76 ?_
          refine lv_ldc2 (v := 2) hx hb hown (hts (.constantLong RX1 93 2) (by decide +kernel)) dX1_placeBeside_77 ?_
          refine lv_lload hx hb dX1_placeBeside_80 (lv_at hl 2 rfl) ?_
          refine lv_lmul hx hb dX1_placeBeside_82 ?_
          have hnz : ¬ 2 * v3.toInt64 = 0 := by
            rw [← Int64.toInt_inj, Jvm.Kit.i64_mul (by rw [hn, show (2 : Int64).toInt = 2 from by decide]; omega) (by rw [hn, show (2 : Int64).toInt = 2 from by decide]; omega), hn, show (2 : Int64).toInt = 2 from by decide, Int64.toInt_zero]; omega
          refine lv_ldiv hx hb dX1_placeBeside_83 hnz ?_
          refine lv_l2i hx hb dX1_placeBeside_84 rfl ?_
          refine lv_topi (fun v84 ev84 => ?_)
          have hfar : v84.toInt = lnF N (lnN b0.toInt b1.toInt : Nat) K := by rw [ev84]; exact far_val hn hm hkv (by omega) (by omega) (by omega)
          have hfb := lnF_b (n := N) (m := (lnN b0.toInt b1.toInt : Nat)) (k := K) (by omega) (by omega) (by omega)
          refine lv_istore (lv' := [(11, .int v84), (9, .long v57.toInt64), (7, .long ((a - a0).toInt64)), (5, .long v3.toInt64), (0, .int a), (1, .int a0), (2, .int a1), (3, .int b0), (4, .int b1)]) hx hb dX1_placeBeside_85 hl (by decide) rfl (fun ls hl => ?_)
          refine lv_iload hx hb dX1_placeBeside_87 (lv_at hl 8 rfl) ?_
          refine lv_iload_n hx hb dX1_placeBeside_89 rfl (lv_at hl 7 rfl) ?_
          refine lv_icmp_ge (tgt := 100) hx hb dX1_placeBeside_90 (by decide) (fun c90 => ?_) (fun c90 => ?_)
          · refine lv_iload_n hx hb dX1_placeBeside_100 rfl (lv_at hl 7 rfl) ?_
            refine lv_iload hx hb dX1_placeBeside_101 (lv_at hl 0 rfl) ?_
            refine lv_iadd hx hb dX1_placeBeside_103 ?_
            have hP9 := hP.sub (ws' := []) [] rfl
            have hD9 := hD.sub (ws' := []) [] (by decide) rfl
            exact W.iret (v := (b0 + v84)) hx hb hr (fun t ht hW => ⟨⟨b0 + v84, (), rfl, Or.inl ⟨K.toNat, by rw [hNe]; omega, (hX _).mpr hKn, by unfold lnY; rw [hNe, hKn, ← hfar, if_neg (by rw [Int32.le_iff_toInt_le] at c90; omega), Jvm.Kit.i32_add (by omega) (by omega)]⟩, by rw [ht]; exact hP9, va_K.moved hW.alike hK, hD9⟩, hS.F ht⟩) hS.2.2 dX1_placeBeside_104
          · refine lv_iload_n hx hb dX1_placeBeside_93 rfl (lv_at hl 7 rfl) ?_
            refine lv_iload hx hb dX1_placeBeside_94 (lv_at hl 0 rfl) ?_
            refine lv_isub hx hb dX1_placeBeside_96 ?_
            refine lv_goto (tgt := 104) hx hb dX1_placeBeside_97 (by decide) ?_
            have hP9 := hP.sub (ws' := []) [] rfl
            have hD9 := hD.sub (ws' := []) [] (by decide) rfl
            exact W.iret (v := (b0 - v84)) hx hb hr (fun t ht hW => ⟨⟨b0 - v84, (), rfl, Or.inl ⟨K.toNat, by rw [hNe]; omega, (hX _).mpr hKn, by unfold lnY; rw [hNe, hKn, ← hfar, if_pos (by rw [Int32.le_iff_toInt_le] at c90; omega), Jvm.Kit.i32_sub (by omega) (by omega)]⟩, by rw [ht]; exact hP9, va_K.moved hW.alike hK, hD9⟩, hS.F ht⟩) hS.2.2 dX1_placeBeside_104
        · rw [lg_cmp_eq, ← Int64.toInt_inj, hn, Int64.toInt_zero] at c48
          refine lv_iload_n hx hb dX1_placeBeside_51 rfl (lv_at hl 5 rfl) ?_
          have hP9 := hP.sub (ws' := []) [] rfl
          have hD9 := hD.sub (ws' := []) [] (by decide) rfl
          exact W.iret (v := b0) hx hb hr (fun t ht hW => ⟨⟨b0, (), rfl, Or.inl ⟨0, Nat.zero_le _, (hX 0).mpr (by omega), by unfold lnY; rw [hNe, show ((N : Nat) : Int) = 0 from c48]; unfold lnF; simp⟩, by rw [ht]; exact hP9, va_K.moved hW.alike hK, hD9⟩, hS.F ht⟩) hS.2.2 dX1_placeBeside_52
      · rw [lg_cmp_le, Int64.le_iff_toInt_le, hkv, hn] at c39
        refine lv_iconst (v := (-1)) hx hb dX1_placeBeside_42 (by decide) ?_
        have hP9 := hP.sub (ws' := []) [] rfl
        have hD9 := hD.sub (ws' := []) [] (by decide) rfl
        exact W.iret (v := (-1)) hx hb hr (fun t ht hW => ⟨⟨(-1), (), rfl, Or.inr ⟨fun k hk q => by rw [hX] at q; rw [hNe] at hk; omega, rfl⟩, by rw [ht]; exact hP9, va_K.moved hW.alike hK, hD9⟩, hS.F ht⟩) hS.2.2 dX1_placeBeside_43
  · refine lv_iload_n hx hb dX1_placeBeside_14 rfl (lv_at hl 2 rfl) ?_
    refine lv_iload_n hx hb dX1_placeBeside_15 rfl (lv_at hl 1 rfl) ?_
    refine lv_isub hx hb dX1_placeBeside_16 ?_
    refine lv_i2l hx hb dX1_placeBeside_17 rfl ?_
    refine lv_goto (tgt := 25) hx hb dX1_placeBeside_18 (by decide) ?_
    refine lv_lstore (lv' := [(7, .long ((a0 - a).toInt64)), (5, .long v3.toInt64), (0, .int a), (1, .int a0), (2, .int a1), (3, .int b0), (4, .int b1)]) hx hb dX1_placeBeside_25 hl (by decide) rfl (fun ls hl => ?_)
    have hlt : a1.toInt < a0.toInt := by rw [Int32.le_iff_toInt_le] at c11; omega
    obtain ⟨K, hK0⟩ : ∃ K : Int, K = a0.toInt - a.toInt := ⟨_, rfl⟩
    have hkv : (a0 - a).toInt64.toInt = K := by rw [Jvm.Kit.i64_of_i32, sub32 (by omega) (by omega), hK0]
    have hX : ∀ k : Nat, lnX a0.toInt a1.toInt k = a.toInt ↔ (k : Int) = K := fun k => by unfold lnX; rw [if_pos hlt]; omega
    refine lv_lload hx hb dX1_placeBeside_27 (lv_at hl 0 rfl) ?_
    refine lv_lconst (v := 0) hx hb dX1_placeBeside_29 (by decide) ?_
    refine W.lcmp hx hb dX1_placeBeside_30 ?_
    refine lv_if_lt (tgt := 42) hx hb dX1_placeBeside_31 (by decide) (fun c31 => ?_) (fun c31 => ?_)
    · rw [lg_cmp_lt, Int64.lt_iff_toInt_lt, hkv, Int64.toInt_zero] at c31
      refine lv_iconst (v := (-1)) hx hb dX1_placeBeside_42 (by decide) ?_
      have hP9 := hP.sub (ws' := []) [] rfl
      have hD9 := hD.sub (ws' := []) [] (by decide) rfl
      exact W.iret (v := (-1)) hx hb hr (fun t ht hW => ⟨⟨(-1), (), rfl, Or.inr ⟨fun k hk q => by rw [hX] at q; rw [hNe] at hk; omega, rfl⟩, by rw [ht]; exact hP9, va_K.moved hW.alike hK, hD9⟩, hS.F ht⟩) hS.2.2 dX1_placeBeside_43
    · rw [lg_cmp_lt, Int64.lt_iff_toInt_lt, hkv, Int64.toInt_zero] at c31
      refine lv_lload hx hb dX1_placeBeside_34 (lv_at hl 0 rfl) ?_
      refine lv_lload hx hb dX1_placeBeside_36 (lv_at hl 1 rfl) ?_
      refine W.lcmp hx hb dX1_placeBeside_38 ?_
      refine lv_if_le (tgt := 44) hx hb dX1_placeBeside_39 (by decide) (fun c39 => ?_) (fun c39 => ?_)
      · rw [lg_cmp_le, Int64.le_iff_toInt_le, hkv, hn] at c39
        have hKn : ((K.toNat : Nat) : Int) = K := by omega
        refine lv_lload hx hb dX1_placeBeside_44 (lv_at hl 1 rfl) ?_
        refine lv_lconst (v := 0) hx hb dX1_placeBeside_46 (by decide) ?_
        refine W.lcmp hx hb dX1_placeBeside_47 ?_
        refine lv_if_ne (tgt := 53) hx hb dX1_placeBeside_48 (by decide) (fun c48 => ?_) (fun c48 => ?_)
        · rw [lg_cmp_eq, ← Int64.toInt_inj, hn, Int64.toInt_zero] at c48
          refine lv_iload hx hb dX1_placeBeside_53 (lv_at hl 6 rfl) ?_
          refine lv_iload_n hx hb dX1_placeBeside_55 rfl (lv_at hl 5 rfl) ?_
          refine lv_isub hx hb dX1_placeBeside_56 ?_
          refine va_mabs hx hb (by rw [hml]; exact hl.1.symm) hown (hts (.methodLink RX1 72 Lib.Math.abs.name) (by decide +kernel)) (hts (.static Lib.Math.abs.name) (by decide +kernel)) (hts (.initialized "java/lang/Math") (by decide +kernel)) (hts _ (List.mem_of_getElem? (i := 4) rfl)) (Nat.le_of_ble_eq_true rfl) (Nat.le_of_ble_eq_true rfl) (Nat.zero_le _) (Nat.zero_le _) dX1_placeBeside_57 ?_
          refine lv_topi (fun v57 ev57 => ?_)
          have hm : v57.toInt64.toInt = (lnN b0.toInt b1.toInt : Int) := by
            rw [Jvm.Kit.i64_of_i32, ev57, abs32 (by rw [sub32 (by omega) (by omega)]; omega), sub32 (by omega) (by omega)]; rfl
          have hmb : lnN b0.toInt b1.toInt ≤ 32768 := by unfold lnN; omega
          refine lv_i2l hx hb dX1_placeBeside_60 rfl ?_
          refine lv_lstore (lv' := [(9, .long v57.toInt64), (7, .long ((a0 - a).toInt64)), (5, .long v3.toInt64), (0, .int a), (1, .int a0), (2, .int a1), (3, .int b0), (4, .int b1)]) hx hb dX1_placeBeside_61 hl (by decide) rfl (fun ls hl => ?_)
          refine lv_ldc2 (v := 2) hx hb hown (hts (.constantLong RX1 93 2) (by decide +kernel)) dX1_placeBeside_63 ?_
          refine lv_lload hx hb dX1_placeBeside_66 (lv_at hl 1 rfl) ?_
          refine lv_lmul hx hb dX1_placeBeside_68 ?_
          refine lv_lload hx hb dX1_placeBeside_69 (lv_at hl 0 rfl) ?_
          refine lv_lmul hx hb dX1_placeBeside_71 ?_
          refine lv_lload hx hb dX1_placeBeside_72 (lv_at hl 2 rfl) ?_
          refine lv_ladd hx hb dX1_placeBeside_74 ?_
          refine lv_lconst (v := 1) hx hb dX1_placeBeside_75 (by decide) ?_
          refine lv_lsub hx hb dX1_placeBeside_76 ?_
          refine lv_ldc2 (v := 2) hx hb hown (hts (.constantLong RX1 93 2) (by decide +kernel)) dX1_placeBeside_77 ?_
          refine lv_lload hx hb dX1_placeBeside_80 (lv_at hl 2 rfl) ?_
          refine lv_lmul hx hb dX1_placeBeside_82 ?_
          have hnz : ¬ 2 * v3.toInt64 = 0 := by
            rw [← Int64.toInt_inj, Jvm.Kit.i64_mul (by rw [hn, show (2 : Int64).toInt = 2 from by decide]; omega) (by rw [hn, show (2 : Int64).toInt = 2 from by decide]; omega), hn, show (2 : Int64).toInt = 2 from by decide, Int64.toInt_zero]; omega
          refine lv_ldiv hx hb dX1_placeBeside_83 hnz ?_
          refine lv_l2i hx hb dX1_placeBeside_84 rfl ?_
          refine lv_topi (fun v84 ev84 => ?_)
          have hfar : v84.toInt = lnF N (lnN b0.toInt b1.toInt : Nat) K := by rw [ev84]; exact far_val hn hm hkv (by omega) (by omega) (by omega)
          have hfb := lnF_b (n := N) (m := (lnN b0.toInt b1.toInt : Nat)) (k := K) (by omega) (by omega) (by omega)
          refine lv_istore (lv' := [(11, .int v84), (9, .long v57.toInt64), (7, .long ((a0 - a).toInt64)), (5, .long v3.toInt64), (0, .int a), (1, .int a0), (2, .int a1), (3, .int b0), (4, .int b1)]) hx hb dX1_placeBeside_85 hl (by decide) rfl (fun ls hl => ?_)
          refine lv_iload hx hb dX1_placeBeside_87 (lv_at hl 8 rfl) ?_
          refine lv_iload_n hx hb dX1_placeBeside_89 rfl (lv_at hl 7 rfl) ?_
          refine lv_icmp_ge (tgt := 100) hx hb dX1_placeBeside_90 (by decide) (fun c90 => ?_) (fun c90 => ?_)
          · refine lv_iload_n hx hb dX1_placeBeside_100 rfl (lv_at hl 7 rfl) ?_
            refine lv_iload hx hb dX1_placeBeside_101 (lv_at hl 0 rfl) ?_
            refine lv_iadd hx hb dX1_placeBeside_103 ?_
            have hP9 := hP.sub (ws' := []) [] rfl
            have hD9 := hD.sub (ws' := []) [] (by decide) rfl
            exact W.iret (v := (b0 + v84)) hx hb hr (fun t ht hW => ⟨⟨b0 + v84, (), rfl, Or.inl ⟨K.toNat, by rw [hNe]; omega, (hX _).mpr hKn, by unfold lnY; rw [hNe, hKn, ← hfar, if_neg (by rw [Int32.le_iff_toInt_le] at c90; omega), Jvm.Kit.i32_add (by omega) (by omega)]⟩, by rw [ht]; exact hP9, va_K.moved hW.alike hK, hD9⟩, hS.F ht⟩) hS.2.2 dX1_placeBeside_104
          · refine lv_iload_n hx hb dX1_placeBeside_93 rfl (lv_at hl 7 rfl) ?_
            refine lv_iload hx hb dX1_placeBeside_94 (lv_at hl 0 rfl) ?_
            refine lv_isub hx hb dX1_placeBeside_96 ?_
            refine lv_goto (tgt := 104) hx hb dX1_placeBeside_97 (by decide) ?_
            have hP9 := hP.sub (ws' := []) [] rfl
            have hD9 := hD.sub (ws' := []) [] (by decide) rfl
            exact W.iret (v := (b0 - v84)) hx hb hr (fun t ht hW => ⟨⟨b0 - v84, (), rfl, Or.inl ⟨K.toNat, by rw [hNe]; omega, (hX _).mpr hKn, by unfold lnY; rw [hNe, hKn, ← hfar, if_pos (by rw [Int32.le_iff_toInt_le] at c90; omega), Jvm.Kit.i32_sub (by omega) (by omega)]⟩, by rw [ht]; exact hP9, va_K.moved hW.alike hK, hD9⟩, hS.F ht⟩) hS.2.2 dX1_placeBeside_104
        · rw [lg_cmp_eq, ← Int64.toInt_inj, hn, Int64.toInt_zero] at c48
          refine lv_iload_n hx hb dX1_placeBeside_51 rfl (lv_at hl 5 rfl) ?_
          have hP9 := hP.sub (ws' := []) [] rfl
          have hD9 := hD.sub (ws' := []) [] (by decide) rfl
          exact W.iret (v := b0) hx hb hr (fun t ht hW => ⟨⟨b0, (), rfl, Or.inl ⟨0, Nat.zero_le _, (hX 0).mpr (by omega), by unfold lnY; rw [hNe, show ((N : Nat) : Int) = 0 from c48]; unfold lnF; simp⟩, by rw [ht]; exact hP9, va_K.moved hW.alike hK, hD9⟩, hS.F ht⟩) hS.2.2 dX1_placeBeside_52
      · rw [lg_cmp_le, Int64.le_iff_toInt_le, hkv, hn] at c39
        refine lv_iconst (v := (-1)) hx hb dX1_placeBeside_42 (by decide) ?_
        have hP9 := hP.sub (ws' := []) [] rfl
        have hD9 := hD.sub (ws' := []) [] (by decide) rfl
        exact W.iret (v := (-1)) hx hb hr (fun t ht hW => ⟨⟨(-1), (), rfl, Or.inr ⟨fun k hk q => by rw [hX] at q; rw [hNe] at hk; omega, rfl⟩, by rw [ht]; exact hP9, va_K.moved hW.alike hK, hD9⟩, hS.F ht⟩) hS.2.2 dX1_placeBeside_43

set_option maxHeartbeats 4000000 in
set_option maxRecDepth 100000 in
/-- line -/
theorem c_X1_line (l : Launch) (dC : Nat → ClassId) (dI : Nat → Nat → Nat) (sz : Nat) (ad : Nat → Nat) (tc : Nat → ClassId) (w h : Nat) (qd : Int32) (col : Nat → Int32) (hw1 : 1 ≤ w) (hw2 : w ≤ 24) (hh1 : 1 ≤ h) (hh2 : h ≤ 24) (x0 y0 x1 y1 c : Int32) : Met l yX1_line wsX1_line ({ frames := 3, cells := 0, slots := 0, locals := 69 }) (mP (dC, dI) vwCl [(tc 1, .int)] [(ad 0, .inr (1, [.int (nI w), .int (nI h), .ref (ad 1), .ref (ad 2), .ref (ad 3), .ref (ad 4), .ref (ad 5), .int qd])), (ad 1, .inl (tc 1, (w * h), .inl col))] sz [.ref (ad 0), .int x0, .int y0, .int x1, .int y1, .int c]) (va_Qi (fun (r : Int32) (u : Nat → Int32) => (¬ LOK x0 y0 x1 y1 ∧ r = -1 ∧ u = col) ∨ (LOK x0 y0 x1 y1 ∧ WIDE x0 y0 x1 y1 ∧ r = nI (cnt (HIT x0.toInt x1.toInt y0.toInt y1.toInt h) w) ∧ LFin (w * h) (QW w x0 y0 x1 y1) col c u) ∨ (LOK x0 y0 x1 y1 ∧ ¬ WIDE x0 y0 x1 y1 ∧ r = nI (cnt (HIT y0.toInt y1.toInt x0.toInt x1.toInt w) h) ∧ LFin (w * h) (QT w x0 y0 x1 y1) col c u)) (mB (dC, dI) vwCl [(tc 1, .int)] (va_A [(ad 0, .inr (1, [.int (nI w), .int (nI h), .ref (ad 1), .ref (ad 2), .ref (ad 3), .ref (ad 4), .ref (ad 5), .int qd])), (ad 1, .inl (tc 1, (w * h), .inl col))] sz) (fun u => [(ad 0, .inr (1, [.int (nI w), .int (nI h), .ref (ad 1), .ref (ad 2), .ref (ad 3), .ref (ad 4), .ref (ad 5), .int qd])), (ad 1, .inl (tc 1, (w * h), .inl u))])) (va_A [(ad 0, .inr (1, [.int (nI w), .int (nI h), .ref (ad 1), .ref (ad 2), .ref (ad 3), .ref (ad 4), .ref (ad 5), .int qd])), (ad 1, .inl (tc 1, (w * h), .inl col))] sz)) 0 0 (va_A [(ad 0, .inr (1, [.int (nI w), .int (nI h), .ref (ad 1), .ref (ad 2), .ref (ad 3), .ref (ad 4), .ref (ad 5), .int qd])), (ad 1, .inl (tc 1, (w * h), .inl col))] sz) := by
  refine Met.ofW (cc := cX1_line) (maxL := 8) (ret := (some .int)) (by decide) rfl ?_
  intro p e s m args below meth cD s₁ B hml hv
  obtain ⟨rfl, hsz, hP, hK, hD0, hN⟩ := hv
  have hx := B.exec
  have hb := B.bytes
  have hr := B.returns
  have hts := atoms_spec (ws := wsX1_line) B.pre
  have hown : s.vm.findClass RX1 = some m.cls := findClass_of_methodNamed B.named
  have hlocks := B.notSynchronized
  subst hsz
  have hD := hD0.self (sz := s.heap.size)
  generalize hAe : va_A [(ad 0, .inr (1, [.int (nI w), .int (nI h), .ref (ad 1), .ref (ad 2), .ref (ad 3), .ref (ad 4), .ref (ad 5), .int qd])), (ad 1, .inl (tc 1, (w * h), .inl col))] s.heap.size = A at hD ⊢
  have hA : ∀ q : Nat, s.heap.size ≤ q → A q := fun q h => by rw [← hAe]; exact Or.inr h
  have hS : va_S A s.heap s.heap [] := va_S.rf
  have hP : va_P (dC, dI) vwCl [(ad 0, .inr (1, [.int (nI w), .int (nI h), .ref (ad 1), .ref (ad 2), .ref (ad 3), .ref (ad 4), .ref (ad 5), .int qd])), (ad 1, .inl (tc 1, (w * h), .inl col))] s.heap := hP
  have hl := lv_entry ([.ref (ad 0), .int x0, .int y0, .int x1, .int y1, .int c]) (n := 8) (Nat.le_of_ble_eq_true rfl)
  rw [lg_entry_eq]
  generalize (lg_sl ([.ref (ad 0), .int x0, .int y0, .int x1, .int y1, .int c]) ++ List.replicate (8 - (lg_sl ([.ref (ad 0), .int x0, .int y0, .int x1, .int y1, .int c])).length) Slot.unset).toArray = ls at hl ⊢
  have hl : lv_has ls 8 [(0, .ref (ad 0)), (1, .int x0), (2, .int y0), (3, .int x1), (4, .int y1), (5, .int c)] := hl
  have hwh := wh_le hw2 hh2
  refine lv_iload_n hx hb dX1_line_0 rfl (lv_at hl 1 rfl) ?_
  refine m_calli (cs := []) (wr := [(ad 0, .inr (1, [.int (nI w), .int (nI h), .ref (ad 1), .ref (ad 2), .ref (ad 3), .ref (ad 4), .ref (ad 5), .int qd])), (ad 1, .inl (tc 1, (w * h), .inl col))]) hP hD hS hA [] [0, 1] rfl rfl (by decide) (by decide) (va_runS (As := [.int x0]) (rest := []) ⟨hx, hb, hml, hown, hts⟩ (c_X1_isCoordinate l dC dI _ x0) (va_cwS 1 hts gX1_line_X1_isCoordinate rfl rfl rfl (by decide +kernel) ⟨Nat.le_of_ble_eq_true rfl, Nat.le_of_ble_eq_true rfl⟩) (m_preS (hP.sub [] rfl) (hK.sub [] rfl) (hD.sub [] (by decide) rfl) hN) rfl rfl hl.1 rfl (lv_room (Nat.le_of_ble_eq_true rfl)) dX1_line_1 ⟨Nat.le_of_ble_eq_true rfl, Nat.le_of_ble_eq_true rfl⟩) (fun r1 _ H locs q1 _ hP hD hS => ?_)
  have hP : va_P (dC, dI) vwCl [(ad 0, .inr (1, [.int (nI w), .int (nI h), .ref (ad 1), .ref (ad 2), .ref (ad 3), .ref (ad 4), .ref (ad 5), .int qd])), (ad 1, .inl (tc 1, (w * h), .inl col))] H := hP.sub [0, 1] rfl
  have hD : va_D A [(ad 0, .inr (1, [.int (nI w), .int (nI h), .ref (ad 1), .ref (ad 2), .ref (ad 3), .ref (ad 4), .ref (ad 5), .int qd])), (ad 1, .inl (tc 1, (w * h), .inl col))] := hD.sub [0, 1] (by decide) rfl
  refine lv_if_eq (tgt := 29) hx hb dX1_line_4 (by decide) (fun c4 => ?_) (fun c4 => ?_)
  · refine lv_iconst (v := (-1)) hx hb dX1_line_29 (by decide) ?_
    have hP9 := hP.sub (ws' := [(ad 0, .inr (1, [.int (nI w), .int (nI h), .ref (ad 1), .ref (ad 2), .ref (ad 3), .ref (ad 4), .ref (ad 5), .int qd])), (ad 1, .inl (tc 1, (w * h), .inl col))]) [0, 1] rfl
    have hD9 := hD.sub (ws' := [(ad 0, .inr (1, [.int (nI w), .int (nI h), .ref (ad 1), .ref (ad 2), .ref (ad 3), .ref (ad 4), .ref (ad 5), .int qd])), (ad 1, .inl (tc 1, (w * h), .inl col))]) [0, 1] (by decide) rfl
    exact W.iret (v := (-1)) hx hb hr (fun t ht hW => ⟨⟨(-1), col, rfl, Or.inl ⟨fun h => (b01 q1).mp c4 h.1, rfl, rfl⟩, by rw [ht]; exact hP9, va_K.moved hW.alike hK, hD9⟩, hS.F ht⟩) hS.2.2 dX1_line_30
  · refine lv_iload_n hx hb dX1_line_7 rfl (lv_at hl 2 rfl) ?_
    refine m_calli (cs := []) (wr := [(ad 0, .inr (1, [.int (nI w), .int (nI h), .ref (ad 1), .ref (ad 2), .ref (ad 3), .ref (ad 4), .ref (ad 5), .int qd])), (ad 1, .inl (tc 1, (w * h), .inl col))]) hP hD hS hA [] [0, 1] rfl rfl (by decide) (by decide) (va_runS (As := [.int y0]) (rest := []) ⟨hx, hb, hml, hown, hts⟩ (c_X1_isCoordinate l dC dI _ y0) (va_cwS 1 hts gX1_line_X1_isCoordinate rfl rfl rfl (by decide +kernel) ⟨Nat.le_of_ble_eq_true rfl, Nat.le_of_ble_eq_true rfl⟩) (m_preS (hP.sub [] rfl) (hK.sub [] rfl) (hD.sub [] (by decide) rfl) hN) rfl rfl hl.1 rfl (lv_room (Nat.le_of_ble_eq_true rfl)) dX1_line_8 ⟨Nat.le_of_ble_eq_true rfl, Nat.le_of_ble_eq_true rfl⟩) (fun r8 _ H locs q8 _ hP hD hS => ?_)
    have hP : va_P (dC, dI) vwCl [(ad 0, .inr (1, [.int (nI w), .int (nI h), .ref (ad 1), .ref (ad 2), .ref (ad 3), .ref (ad 4), .ref (ad 5), .int qd])), (ad 1, .inl (tc 1, (w * h), .inl col))] H := hP.sub [0, 1] rfl
    have hD : va_D A [(ad 0, .inr (1, [.int (nI w), .int (nI h), .ref (ad 1), .ref (ad 2), .ref (ad 3), .ref (ad 4), .ref (ad 5), .int qd])), (ad 1, .inl (tc 1, (w * h), .inl col))] := hD.sub [0, 1] (by decide) rfl
    refine lv_if_eq (tgt := 29) hx hb dX1_line_11 (by decide) (fun c11 => ?_) (fun c11 => ?_)
    · refine lv_iconst (v := (-1)) hx hb dX1_line_29 (by decide) ?_
      have hP9 := hP.sub (ws' := [(ad 0, .inr (1, [.int (nI w), .int (nI h), .ref (ad 1), .ref (ad 2), .ref (ad 3), .ref (ad 4), .ref (ad 5), .int qd])), (ad 1, .inl (tc 1, (w * h), .inl col))]) [0, 1] rfl
      have hD9 := hD.sub (ws' := [(ad 0, .inr (1, [.int (nI w), .int (nI h), .ref (ad 1), .ref (ad 2), .ref (ad 3), .ref (ad 4), .ref (ad 5), .int qd])), (ad 1, .inl (tc 1, (w * h), .inl col))]) [0, 1] (by decide) rfl
      exact W.iret (v := (-1)) hx hb hr (fun t ht hW => ⟨⟨(-1), col, rfl, Or.inl ⟨fun h => (b01 q8).mp c11 h.2.1, rfl, rfl⟩, by rw [ht]; exact hP9, va_K.moved hW.alike hK, hD9⟩, hS.F ht⟩) hS.2.2 dX1_line_30
    · refine lv_iload_n hx hb dX1_line_14 rfl (lv_at hl 3 rfl) ?_
      refine m_calli (cs := []) (wr := [(ad 0, .inr (1, [.int (nI w), .int (nI h), .ref (ad 1), .ref (ad 2), .ref (ad 3), .ref (ad 4), .ref (ad 5), .int qd])), (ad 1, .inl (tc 1, (w * h), .inl col))]) hP hD hS hA [] [0, 1] rfl rfl (by decide) (by decide) (va_runS (As := [.int x1]) (rest := []) ⟨hx, hb, hml, hown, hts⟩ (c_X1_isCoordinate l dC dI _ x1) (va_cwS 1 hts gX1_line_X1_isCoordinate rfl rfl rfl (by decide +kernel) ⟨Nat.le_of_ble_eq_true rfl, Nat.le_of_ble_eq_true rfl⟩) (m_preS (hP.sub [] rfl) (hK.sub [] rfl) (hD.sub [] (by decide) rfl) hN) rfl rfl hl.1 rfl (lv_room (Nat.le_of_ble_eq_true rfl)) dX1_line_15 ⟨Nat.le_of_ble_eq_true rfl, Nat.le_of_ble_eq_true rfl⟩) (fun r15 _ H locs q15 _ hP hD hS => ?_)
      have hP : va_P (dC, dI) vwCl [(ad 0, .inr (1, [.int (nI w), .int (nI h), .ref (ad 1), .ref (ad 2), .ref (ad 3), .ref (ad 4), .ref (ad 5), .int qd])), (ad 1, .inl (tc 1, (w * h), .inl col))] H := hP.sub [0, 1] rfl
      have hD : va_D A [(ad 0, .inr (1, [.int (nI w), .int (nI h), .ref (ad 1), .ref (ad 2), .ref (ad 3), .ref (ad 4), .ref (ad 5), .int qd])), (ad 1, .inl (tc 1, (w * h), .inl col))] := hD.sub [0, 1] (by decide) rfl
      refine lv_if_eq (tgt := 29) hx hb dX1_line_18 (by decide) (fun c18 => ?_) (fun c18 => ?_)
      · refine lv_iconst (v := (-1)) hx hb dX1_line_29 (by decide) ?_
        have hP9 := hP.sub (ws' := [(ad 0, .inr (1, [.int (nI w), .int (nI h), .ref (ad 1), .ref (ad 2), .ref (ad 3), .ref (ad 4), .ref (ad 5), .int qd])), (ad 1, .inl (tc 1, (w * h), .inl col))]) [0, 1] rfl
        have hD9 := hD.sub (ws' := [(ad 0, .inr (1, [.int (nI w), .int (nI h), .ref (ad 1), .ref (ad 2), .ref (ad 3), .ref (ad 4), .ref (ad 5), .int qd])), (ad 1, .inl (tc 1, (w * h), .inl col))]) [0, 1] (by decide) rfl
        exact W.iret (v := (-1)) hx hb hr (fun t ht hW => ⟨⟨(-1), col, rfl, Or.inl ⟨fun h => (b01 q15).mp c18 h.2.2.1, rfl, rfl⟩, by rw [ht]; exact hP9, va_K.moved hW.alike hK, hD9⟩, hS.F ht⟩) hS.2.2 dX1_line_30
      · refine lv_iload hx hb dX1_line_21 (lv_at hl 4 rfl) ?_
        refine m_calli (cs := []) (wr := [(ad 0, .inr (1, [.int (nI w), .int (nI h), .ref (ad 1), .ref (ad 2), .ref (ad 3), .ref (ad 4), .ref (ad 5), .int qd])), (ad 1, .inl (tc 1, (w * h), .inl col))]) hP hD hS hA [] [0, 1] rfl rfl (by decide) (by decide) (va_runS (As := [.int y1]) (rest := []) ⟨hx, hb, hml, hown, hts⟩ (c_X1_isCoordinate l dC dI _ y1) (va_cwS 1 hts gX1_line_X1_isCoordinate rfl rfl rfl (by decide +kernel) ⟨Nat.le_of_ble_eq_true rfl, Nat.le_of_ble_eq_true rfl⟩) (m_preS (hP.sub [] rfl) (hK.sub [] rfl) (hD.sub [] (by decide) rfl) hN) rfl rfl hl.1 rfl (lv_room (Nat.le_of_ble_eq_true rfl)) dX1_line_23 ⟨Nat.le_of_ble_eq_true rfl, Nat.le_of_ble_eq_true rfl⟩) (fun r23 _ H locs q23 _ hP hD hS => ?_)
        have hP : va_P (dC, dI) vwCl [(ad 0, .inr (1, [.int (nI w), .int (nI h), .ref (ad 1), .ref (ad 2), .ref (ad 3), .ref (ad 4), .ref (ad 5), .int qd])), (ad 1, .inl (tc 1, (w * h), .inl col))] H := hP.sub [0, 1] rfl
        have hD : va_D A [(ad 0, .inr (1, [.int (nI w), .int (nI h), .ref (ad 1), .ref (ad 2), .ref (ad 3), .ref (ad 4), .ref (ad 5), .int qd])), (ad 1, .inl (tc 1, (w * h), .inl col))] := hD.sub [0, 1] (by decide) rfl
        refine lv_if_ne (tgt := 31) hx hb dX1_line_26 (by decide) (fun c26 => ?_) (fun c26 => ?_)
        · have i1 := Classical.byContradiction (fun h => c4 ((b01 q1).mpr h))
          have i8 := Classical.byContradiction (fun h => c11 ((b01 q8).mpr h))
          have i15 := Classical.byContradiction (fun h => c18 ((b01 q15).mpr h))
          have i23 := Classical.byContradiction (fun h => c26 ((b01 q23).mpr h))
          have hOK : LOK x0 y0 x1 y1 := ⟨i1, i8, i15, i23⟩
          have n0 : x0.toInt.natAbs ≤ 16384 := by omega
          have n1 : y0.toInt.natAbs ≤ 16384 := by omega
          have n2 : x1.toInt.natAbs ≤ 16384 := by omega
          have n3 : y1.toInt.natAbs ≤ 16384 := by omega
          refine lv_iconst (v := 0) hx hb dX1_line_31 (by decide) ?_
          refine lv_topi (fun zz ezz => ?_)
          obtain rfl : zz = nI 0 := ezz.trans (nI_0.symm)
          refine lv_istore (lv' := [(6, .int (nI 0)), (0, .ref (ad 0)), (1, .int x0), (2, .int y0), (3, .int x1), (4, .int y1), (5, .int c)]) hx hb dX1_line_32 hl (by decide) rfl (fun ls hl => ?_)
          refine lv_iload_n hx hb dX1_line_34 rfl (lv_at hl 4 rfl) ?_
          refine lv_iload_n hx hb dX1_line_35 rfl (lv_at hl 2 rfl) ?_
          refine lv_isub hx hb dX1_line_36 ?_
          refine va_mabs hx hb (by rw [hml]; exact hl.1.symm) hown (hts (.methodLink RX1 72 Lib.Math.abs.name) (by decide +kernel)) (hts (.static Lib.Math.abs.name) (by decide +kernel)) (hts (.initialized "java/lang/Math") (by decide +kernel)) (hts _ (List.mem_of_getElem? (i := 4) rfl)) (Nat.le_of_ble_eq_true rfl) (Nat.le_of_ble_eq_true rfl) (Nat.zero_le _) (Nat.zero_le _) dX1_line_37 ?_
          refine lv_topi (fun v37 ev37 => ?_)
          have e37 : v37.toInt = (lnN x0.toInt x1.toInt : Int) := by
            rw [ev37, abs32 (by rw [sub32 (by omega) (by omega)]; omega), sub32 (by omega) (by omega)]; rfl
          refine lv_iload hx hb dX1_line_40 (lv_at hl 5 rfl) ?_
          refine lv_iload_n hx hb dX1_line_42 rfl (lv_at hl 3 rfl) ?_
          refine lv_isub hx hb dX1_line_43 ?_
          refine va_mabs hx hb (by rw [hml]; exact hl.1.symm) hown (hts (.methodLink RX1 72 Lib.Math.abs.name) (by decide +kernel)) (hts (.static Lib.Math.abs.name) (by decide +kernel)) (hts (.initialized "java/lang/Math") (by decide +kernel)) (hts _ (List.mem_of_getElem? (i := 4) rfl)) (Nat.le_of_ble_eq_true rfl) (Nat.le_of_ble_eq_true rfl) (Nat.zero_le _) (Nat.zero_le _) dX1_line_44 ?_
          refine lv_topi (fun v44 ev44 => ?_)
          have e44 : v44.toInt = (lnN y0.toInt y1.toInt : Int) := by
            rw [ev44, abs32 (by rw [sub32 (by omega) (by omega)]; omega), sub32 (by omega) (by omega)]; rfl
          refine lv_icmp_lt (tgt := 94) hx hb dX1_line_47 (by decide) (fun c47 => ?_) (fun c47 => ?_)
          · have hWi : ¬ WIDE x0 y0 x1 y1 := by unfold WIDE; rw [Int32.lt_iff_toInt_lt, e37, e44] at c47; omega
            refine lv_iconst (v := 0) hx hb dX1_line_94 (by decide) ?_
            refine lv_topi (fun zz ezz => ?_)
            obtain rfl : zz = nI 0 := ezz.trans (nI_0.symm)
            refine lv_istore (lv' := [(7, .int (nI 0)), (6, .int (nI 0)), (0, .ref (ad 0)), (1, .int x0), (2, .int y0), (3, .int x1), (4, .int y1), (5, .int c)]) hx hb dX1_line_95 hl (by decide) rfl (fun ls hl => ?_)
            have loop97 : ∀ (n : Nat) (y : Nat) (k : Nat) (g : Nat → Int32), y ≤ h → k = cnt (HIT y0.toInt y1.toInt x0.toInt x1.toInt w) y → LIn (w * h) (fun i => i / w) (QT w x0 y0 x1 y1) col c y g → h + 1 ≤ y + n → ∀ (H : Heap) (locs : List Loc), va_P (dC, dI) vwCl [(ad 0, .inr (1, [.int (nI w), .int (nI h), .ref (ad 1), .ref (ad 2), .ref (ad 3), .ref (ad 4), .ref (ad 5), .int qd])), (ad 1, .inl (tc 1, (w * h), .inl g))] H → va_D A [(ad 0, .inr (1, [.int (nI w), .int (nI h), .ref (ad 1), .ref (ad 2), .ref (ad 3), .ref (ad 4), .ref (ad 5), .int qd])), (ad 1, .inl (tc 1, (w * h), .inl g))] → va_S A s.heap H locs → ∀ (ls : Array Slot), lv_has ls 8 [(0, .ref (ad 0)), (1, .int x0), (2, .int y0), (3, .int x1), (4, .int y1), (5, .int c), (6, .int (nI k)), (7, .int (nI y))] → W p l e (headSpec wsX1_line { frames := 3, cells := 0, slots := 0, locals := 69 }).room s m [.ref (ad 0), .int x0, .int y0, .int x1, .int y1, .int c].toArray below meth cD H locs 0 0 (MQ below (va_Qi (fun (r : Int32) (u : Nat → Int32) => (¬ LOK x0 y0 x1 y1 ∧ r = -1 ∧ u = col) ∨ (LOK x0 y0 x1 y1 ∧ WIDE x0 y0 x1 y1 ∧ r = nI (cnt (HIT x0.toInt x1.toInt y0.toInt y1.toInt h) w) ∧ LFin (w * h) (QW w x0 y0 x1 y1) col c u) ∨ (LOK x0 y0 x1 y1 ∧ ¬ WIDE x0 y0 x1 y1 ∧ r = nI (cnt (HIT y0.toInt y1.toInt x0.toInt x1.toInt w) h) ∧ LFin (w * h) (QT w x0 y0 x1 y1) col c u)) (mB (dC, dI) vwCl [(tc 1, .int)] A (fun u => [(ad 0, .inr (1, [.int (nI w), .int (nI h), .ref (ad 1), .ref (ad 2), .ref (ad 3), .ref (ad 4), .ref (ad 5), .int qd])), (ad 1, .inl (tc 1, (w * h), .inl u))])) A) [.ref (ad 0), .int x0, .int y0, .int x1, .int y1, .int c].toArray s 0 0 A) (F0 m 97 ls []) := by
              intro n
              induction n with
              | zero => intro y k g hx9 hk hI hm; exfalso; omega
              | succ n ih =>
                intro y k g hx9 hk hI hm H locs hP hD hS ls hl
                refine lv_iload hx hb dX1_line_97 (lv_at hl 7 rfl) ?_
                refine lv_aload_n hx hb dX1_line_99 rfl (lv_at hl 0 rfl) ?_
                refine va_get (D := (dC, dI)) (ci := 1) (v := .int (nI h)) (C := RX1) (T := TX1) (N := 8) hx hb hts (by decide +kernel) hown hK hP 0 rfl rfl 1 (by decide) (hts (.fieldLink RX1 17 "TriangleRaster" "height" "I") (by decide +kernel)) (fun _ h9 => h9) rfl dX1_line_100 ?_
                refine lv_icmp_ge (tgt := 135) hx hb dX1_line_103 (by decide) (fun c103 => ?_) (fun c103 => ?_)
                · refine lv_iload hx hb dX1_line_135 (lv_at hl 6 rfl) ?_
                  have hP9 := hP.sub (ws' := [(ad 0, .inr (1, [.int (nI w), .int (nI h), .ref (ad 1), .ref (ad 2), .ref (ad 3), .ref (ad 4), .ref (ad 5), .int qd])), (ad 1, .inl (tc 1, (w * h), .inl g))]) [0, 1] rfl
                  have hD9 := hD.sub (ws' := [(ad 0, .inr (1, [.int (nI w), .int (nI h), .ref (ad 1), .ref (ad 2), .ref (ad 3), .ref (ad 4), .ref (ad 5), .int qd])), (ad 1, .inl (tc 1, (w * h), .inl g))]) [0, 1] (by decide) rfl
                  exact W.iret (v := (nI k)) hx hb hr (fun t ht hW => ⟨⟨nI k, g, rfl, by have hyh : y = h := (by rw [nI_leI (by omega) (by omega)] at c103; omega); rw [hyh] at hk hI; exact Or.inr (Or.inr ⟨hOK, hWi, by rw [hk], LIn_fin hI (fun i hi => (row_bd hi).2)⟩), by rw [ht]; exact hP9, va_K.moved hW.alike hK, hD9⟩, hS.F ht⟩) hS.2.2 dX1_line_137
                · have hy0 : y < h := by rw [nI_leI (by omega) (by omega)] at c103; omega
                  refine lv_iload hx hb dX1_line_106 (lv_at hl 6 rfl) ?_
                  refine lv_aload_n hx hb dX1_line_108 rfl (lv_at hl 0 rfl) ?_
                  refine lv_iload hx hb dX1_line_109 (lv_at hl 7 rfl) ?_
                  refine lv_iload_n hx hb dX1_line_111 rfl (lv_at hl 2 rfl) ?_
                  refine lv_iload hx hb dX1_line_112 (lv_at hl 4 rfl) ?_
                  refine lv_iload_n hx hb dX1_line_114 rfl (lv_at hl 1 rfl) ?_
                  refine lv_iload_n hx hb dX1_line_115 rfl (lv_at hl 3 rfl) ?_
                  refine m_calli (cs := []) (wr := [(ad 0, .inr (1, [.int (nI w), .int (nI h), .ref (ad 1), .ref (ad 2), .ref (ad 3), .ref (ad 4), .ref (ad 5), .int qd])), (ad 1, .inl (tc 1, (w * h), .inl g))]) hP hD hS hA [] [0, 1] rfl rfl (by decide) (by decide) (va_runS (As := [.int (nI y), .int y0, .int y1, .int x0, .int x1]) (rest := [.ref (ad 0), .int (nI k)]) ⟨hx, hb, hml, hown, hts⟩ (c_X1_placeBeside l dC dI _ (nI y) y0 y1 x0 x1 (by rw [nI_toInt (by omega)]; omega) n1 n3 n0 n2) (va_cwS 5 hts gX1_line_X1_placeBeside rfl rfl rfl (by decide +kernel) ⟨Nat.le_of_ble_eq_true rfl, Nat.le_of_ble_eq_true rfl⟩) (m_preS (hP.sub [] rfl) (hK.sub [] rfl) (hD.sub [] (by decide) rfl) hN) rfl rfl hl.1 rfl (lv_room (Nat.le_of_ble_eq_true rfl)) dX1_line_116 ⟨Nat.le_of_ble_eq_true rfl, Nat.le_of_ble_eq_true rfl⟩) (fun r116 _ H locs q116 _ hP hD hS => ?_)
                  have hP : va_P (dC, dI) vwCl [(ad 0, .inr (1, [.int (nI w), .int (nI h), .ref (ad 1), .ref (ad 2), .ref (ad 3), .ref (ad 4), .ref (ad 5), .int qd])), (ad 1, .inl (tc 1, (w * h), .inl g))] H := hP.sub [0, 1] rfl
                  have hD : va_D A [(ad 0, .inr (1, [.int (nI w), .int (nI h), .ref (ad 1), .ref (ad 2), .ref (ad 3), .ref (ad 4), .ref (ad 5), .int qd])), (ad 1, .inl (tc 1, (w * h), .inl g))] := hD.sub [0, 1] (by decide) rfl
                  rw [nI_toInt (by omega)] at q116
                  refine lv_iload hx hb dX1_line_119 (lv_at hl 7 rfl) ?_
                  refine lv_iload hx hb dX1_line_121 (lv_at hl 5 rfl) ?_
                  refine m_calli (cs := [(ad 0, .inr (1, [.int (nI w), .int (nI h), .ref (ad 1), .ref (ad 2), .ref (ad 3), .ref (ad 4), .ref (ad 5), .int qd])), (ad 1, .inl (tc 1, (w * h), .inl g))]) (wr := []) hP hD hS hA [0, 1] [] rfl rfl (by decide) (by decide) (va_runV (As := [.int r116, .int (nI y), .int c]) (rest := [.int (nI k)]) ⟨hx, hb, hml, hown, hts⟩ (c_X1_paint l dC dI _ ad tc w h qd g hw1 hw2 hh1 hh2 r116 (nI y) c) (cwV 3 hts gX1_line_X1_paint rfl rfl rfl (by decide +kernel) ⟨Nat.le_of_ble_eq_true rfl, Nat.le_of_ble_eq_true rfl⟩) (m_preV (ci := 1) (q0 := 0) (hP.sub [0, 1] rfl) (hK.sub [0] rfl) (hD.sub [0, 1] (by decide) rfl) hN rfl rfl) rfl rfl hl.1 rfl (lv_room (Nat.le_of_ble_eq_true rfl)) dX1_line_123 ⟨Nat.le_of_ble_eq_true rfl, Nat.le_of_ble_eq_true rfl⟩) (fun r123 f123 H locs q123 _ hP hD hS => ?_)
                  have hP : va_P (dC, dI) vwCl [(ad 0, .inr (1, [.int (nI w), .int (nI h), .ref (ad 1), .ref (ad 2), .ref (ad 3), .ref (ad 4), .ref (ad 5), .int qd])), (ad 1, .inl (tc 1, (w * h), .inl f123))] H := hP.sub [0, 1] rfl
                  have hD : va_D A [(ad 0, .inr (1, [.int (nI w), .int (nI h), .ref (ad 1), .ref (ad 2), .ref (ad 3), .ref (ad 4), .ref (ad 5), .int qd])), (ad 1, .inl (tc 1, (w * h), .inl f123))] := hD.sub [0, 1] (by decide) rfl
                  refine lv_iadd hx hb dX1_line_126 ?_
                  refine lv_istore (lv' := [(6, .int ((nI k) + r123)), (0, .ref (ad 0)), (1, .int x0), (2, .int y0), (3, .int x1), (4, .int y1), (5, .int c), (7, .int (nI y))]) hx hb dX1_line_127 hl (by decide) rfl (fun ls hl => ?_)
                  refine lv_iinc (v := nI (y + 1)) (lv' := [(7, .int (nI (y + 1))), (6, .int ((nI k) + r123)), (0, .ref (ad 0)), (1, .int x0), (2, .int y0), (3, .int x1), (4, .int y1), (5, .int c)]) hx hb dX1_line_129 hl (k := 7) rfl (nI_add _ 1) (by decide) rfl (fun ls hl => ?_)
                  refine lv_goto (tgt := 97) hx hb dX1_line_132 (by decide) ?_
                  rcases q123 with ⟨g1, g2, g3⟩ | ⟨g1, g2, g3⟩
                  · subst g2
                    have hin := g1.1
                    obtain ⟨t1, t2, t3⟩ := LT_yes (w := w) q116 hin
                    have e2 : nI k + 1 = nI (k + 1) := nI_1 k
                    rw [e2] at hl
                    have hL : lin w r116 (nI y) = y * w + r116.toInt.toNat := by unfold lin; rw [nI_toInt (by omega), Int.toNat_natCast]
                    rw [hL] at g3
                    exact ih (y + 1) (k + 1) f123 (by omega) (by rw [hk, cnt_yes t1]) (by rw [g3]; exact LIn_yes hI (row_div _ (by omega)) t2 (fun i _ => t3 i)) (by omega) _ _ (hP.sub [0, 1] rfl) (hD.sub [0, 1] (by decide) rfl) hS ls (lv_sub hl [2, 3, 4, 5, 6, 7, 1, 0] rfl)
                  · subst g2
                    have hout : ¬ (0 ≤ r116.toInt ∧ r116.toInt < w) := fun q => g1 ⟨q, by rw [nI_toInt (by omega)]; omega⟩
                    obtain ⟨t1, t2⟩ := LT_no (w := w) (h := h) q116 hout
                    have e2 : nI k + 0 = nI k := by rw [← nI_0, nI_add]; rfl
                    rw [e2] at hl
                    exact ih (y + 1) k f123 (by omega) (by rw [hk, cnt_no t1]) (by rw [g3]; exact LIn_no hI (fun i hi => t2 i hi)) (by omega) _ _ (hP.sub [0, 1] rfl) (hD.sub [0, 1] (by decide) rfl) hS ls (lv_sub hl [2, 3, 4, 5, 6, 7, 1, 0] rfl)
            exact loop97 (h + 1) 0 0 col (Nat.zero_le _) rfl LIn_0 (by omega) _ _ (hP.sub [0, 1] rfl) (hD.sub [0, 1] (by decide) rfl) hS ls (lv_sub hl [2, 3, 4, 5, 6, 7, 1, 0] rfl)
          · have hWi : WIDE x0 y0 x1 y1 := by unfold WIDE; rw [Int32.lt_iff_toInt_lt, e37, e44] at c47; omega
            refine lv_iconst (v := 0) hx hb dX1_line_50 (by decide) ?_
            refine lv_topi (fun zz ezz => ?_)
            obtain rfl : zz = nI 0 := ezz.trans (nI_0.symm)
            refine lv_istore (lv' := [(7, .int (nI 0)), (6, .int (nI 0)), (0, .ref (ad 0)), (1, .int x0), (2, .int y0), (3, .int x1), (4, .int y1), (5, .int c)]) hx hb dX1_line_51 hl (by decide) rfl (fun ls hl => ?_)
            have loop53 : ∀ (n : Nat) (x : Nat) (k : Nat) (g : Nat → Int32), x ≤ w → k = cnt (HIT x0.toInt x1.toInt y0.toInt y1.toInt h) x → LIn (w * h) (fun i => i % w) (QW w x0 y0 x1 y1) col c x g → w + 1 ≤ x + n → ∀ (H : Heap) (locs : List Loc), va_P (dC, dI) vwCl [(ad 0, .inr (1, [.int (nI w), .int (nI h), .ref (ad 1), .ref (ad 2), .ref (ad 3), .ref (ad 4), .ref (ad 5), .int qd])), (ad 1, .inl (tc 1, (w * h), .inl g))] H → va_D A [(ad 0, .inr (1, [.int (nI w), .int (nI h), .ref (ad 1), .ref (ad 2), .ref (ad 3), .ref (ad 4), .ref (ad 5), .int qd])), (ad 1, .inl (tc 1, (w * h), .inl g))] → va_S A s.heap H locs → ∀ (ls : Array Slot), lv_has ls 8 [(0, .ref (ad 0)), (1, .int x0), (2, .int y0), (3, .int x1), (4, .int y1), (5, .int c), (6, .int (nI k)), (7, .int (nI x))] → W p l e (headSpec wsX1_line { frames := 3, cells := 0, slots := 0, locals := 69 }).room s m [.ref (ad 0), .int x0, .int y0, .int x1, .int y1, .int c].toArray below meth cD H locs 0 0 (MQ below (va_Qi (fun (r : Int32) (u : Nat → Int32) => (¬ LOK x0 y0 x1 y1 ∧ r = -1 ∧ u = col) ∨ (LOK x0 y0 x1 y1 ∧ WIDE x0 y0 x1 y1 ∧ r = nI (cnt (HIT x0.toInt x1.toInt y0.toInt y1.toInt h) w) ∧ LFin (w * h) (QW w x0 y0 x1 y1) col c u) ∨ (LOK x0 y0 x1 y1 ∧ ¬ WIDE x0 y0 x1 y1 ∧ r = nI (cnt (HIT y0.toInt y1.toInt x0.toInt x1.toInt w) h) ∧ LFin (w * h) (QT w x0 y0 x1 y1) col c u)) (mB (dC, dI) vwCl [(tc 1, .int)] A (fun u => [(ad 0, .inr (1, [.int (nI w), .int (nI h), .ref (ad 1), .ref (ad 2), .ref (ad 3), .ref (ad 4), .ref (ad 5), .int qd])), (ad 1, .inl (tc 1, (w * h), .inl u))])) A) [.ref (ad 0), .int x0, .int y0, .int x1, .int y1, .int c].toArray s 0 0 A) (F0 m 53 ls []) := by
              intro n
              induction n with
              | zero => intro x k g hx9 hk hI hm; exfalso; omega
              | succ n ih =>
                intro x k g hx9 hk hI hm H locs hP hD hS ls hl
                refine lv_iload hx hb dX1_line_53 (lv_at hl 7 rfl) ?_
                refine lv_aload_n hx hb dX1_line_55 rfl (lv_at hl 0 rfl) ?_
                refine va_get (D := (dC, dI)) (ci := 1) (v := .int (nI w)) (C := RX1) (T := TX1) (N := 8) hx hb hts (by decide +kernel) hown hK hP 0 rfl rfl 0 (by decide) (hts (.fieldLink RX1 13 "TriangleRaster" "width" "I") (by decide +kernel)) (fun _ h9 => h9) rfl dX1_line_56 ?_
                refine lv_icmp_ge (tgt := 91) hx hb dX1_line_59 (by decide) (fun c59 => ?_) (fun c59 => ?_)
                · refine lv_goto (tgt := 135) hx hb dX1_line_91 (by decide) ?_
                  refine lv_iload hx hb dX1_line_135 (lv_at hl 6 rfl) ?_
                  have hP9 := hP.sub (ws' := [(ad 0, .inr (1, [.int (nI w), .int (nI h), .ref (ad 1), .ref (ad 2), .ref (ad 3), .ref (ad 4), .ref (ad 5), .int qd])), (ad 1, .inl (tc 1, (w * h), .inl g))]) [0, 1] rfl
                  have hD9 := hD.sub (ws' := [(ad 0, .inr (1, [.int (nI w), .int (nI h), .ref (ad 1), .ref (ad 2), .ref (ad 3), .ref (ad 4), .ref (ad 5), .int qd])), (ad 1, .inl (tc 1, (w * h), .inl g))]) [0, 1] (by decide) rfl
                  exact W.iret (v := (nI k)) hx hb hr (fun t ht hW => ⟨⟨nI k, g, rfl, by have hxw : x = w := (by rw [nI_leI (by omega) (by omega)] at c59; omega); rw [hxw] at hk hI; exact Or.inr (Or.inl ⟨hOK, hWi, by rw [hk], LIn_fin hI (fun i hi => (row_bd hi).1)⟩), by rw [ht]; exact hP9, va_K.moved hW.alike hK, hD9⟩, hS.F ht⟩) hS.2.2 dX1_line_137
                · have hx0 : x < w := by rw [nI_leI (by omega) (by omega)] at c59; omega
                  refine lv_iload hx hb dX1_line_62 (lv_at hl 6 rfl) ?_
                  refine lv_aload_n hx hb dX1_line_64 rfl (lv_at hl 0 rfl) ?_
                  refine lv_iload hx hb dX1_line_65 (lv_at hl 7 rfl) ?_
                  refine lv_iload hx hb dX1_line_67 (lv_at hl 7 rfl) ?_
                  refine lv_iload_n hx hb dX1_line_69 rfl (lv_at hl 1 rfl) ?_
                  refine lv_iload_n hx hb dX1_line_70 rfl (lv_at hl 3 rfl) ?_
                  refine lv_iload_n hx hb dX1_line_71 rfl (lv_at hl 2 rfl) ?_
                  refine lv_iload hx hb dX1_line_72 (lv_at hl 4 rfl) ?_
                  refine m_calli (cs := []) (wr := [(ad 0, .inr (1, [.int (nI w), .int (nI h), .ref (ad 1), .ref (ad 2), .ref (ad 3), .ref (ad 4), .ref (ad 5), .int qd])), (ad 1, .inl (tc 1, (w * h), .inl g))]) hP hD hS hA [] [0, 1] rfl rfl (by decide) (by decide) (va_runS (As := [.int (nI x), .int x0, .int x1, .int y0, .int y1]) (rest := [.int (nI x), .ref (ad 0), .int (nI k)]) ⟨hx, hb, hml, hown, hts⟩ (c_X1_placeBeside l dC dI _ (nI x) x0 x1 y0 y1 (by rw [nI_toInt (by omega)]; omega) n0 n2 n1 n3) (va_cwS 5 hts gX1_line_X1_placeBeside rfl rfl rfl (by decide +kernel) ⟨Nat.le_of_ble_eq_true rfl, Nat.le_of_ble_eq_true rfl⟩) (m_preS (hP.sub [] rfl) (hK.sub [] rfl) (hD.sub [] (by decide) rfl) hN) rfl rfl hl.1 rfl (lv_room (Nat.le_of_ble_eq_true rfl)) dX1_line_74 ⟨Nat.le_of_ble_eq_true rfl, Nat.le_of_ble_eq_true rfl⟩) (fun r74 _ H locs q74 _ hP hD hS => ?_)
                  have hP : va_P (dC, dI) vwCl [(ad 0, .inr (1, [.int (nI w), .int (nI h), .ref (ad 1), .ref (ad 2), .ref (ad 3), .ref (ad 4), .ref (ad 5), .int qd])), (ad 1, .inl (tc 1, (w * h), .inl g))] H := hP.sub [0, 1] rfl
                  have hD : va_D A [(ad 0, .inr (1, [.int (nI w), .int (nI h), .ref (ad 1), .ref (ad 2), .ref (ad 3), .ref (ad 4), .ref (ad 5), .int qd])), (ad 1, .inl (tc 1, (w * h), .inl g))] := hD.sub [0, 1] (by decide) rfl
                  rw [nI_toInt (by omega)] at q74
                  refine lv_iload hx hb dX1_line_77 (lv_at hl 5 rfl) ?_
                  refine m_calli (cs := [(ad 0, .inr (1, [.int (nI w), .int (nI h), .ref (ad 1), .ref (ad 2), .ref (ad 3), .ref (ad 4), .ref (ad 5), .int qd])), (ad 1, .inl (tc 1, (w * h), .inl g))]) (wr := []) hP hD hS hA [0, 1] [] rfl rfl (by decide) (by decide) (va_runV (As := [.int (nI x), .int r74, .int c]) (rest := [.int (nI k)]) ⟨hx, hb, hml, hown, hts⟩ (c_X1_paint l dC dI _ ad tc w h qd g hw1 hw2 hh1 hh2 (nI x) r74 c) (cwV 3 hts gX1_line_X1_paint rfl rfl rfl (by decide +kernel) ⟨Nat.le_of_ble_eq_true rfl, Nat.le_of_ble_eq_true rfl⟩) (m_preV (ci := 1) (q0 := 0) (hP.sub [0, 1] rfl) (hK.sub [0] rfl) (hD.sub [0, 1] (by decide) rfl) hN rfl rfl) rfl rfl hl.1 rfl (lv_room (Nat.le_of_ble_eq_true rfl)) dX1_line_79 ⟨Nat.le_of_ble_eq_true rfl, Nat.le_of_ble_eq_true rfl⟩) (fun r79 f79 H locs q79 _ hP hD hS => ?_)
                  have hP : va_P (dC, dI) vwCl [(ad 0, .inr (1, [.int (nI w), .int (nI h), .ref (ad 1), .ref (ad 2), .ref (ad 3), .ref (ad 4), .ref (ad 5), .int qd])), (ad 1, .inl (tc 1, (w * h), .inl f79))] H := hP.sub [0, 1] rfl
                  have hD : va_D A [(ad 0, .inr (1, [.int (nI w), .int (nI h), .ref (ad 1), .ref (ad 2), .ref (ad 3), .ref (ad 4), .ref (ad 5), .int qd])), (ad 1, .inl (tc 1, (w * h), .inl f79))] := hD.sub [0, 1] (by decide) rfl
                  refine lv_iadd hx hb dX1_line_82 ?_
                  refine lv_istore (lv' := [(6, .int ((nI k) + r79)), (0, .ref (ad 0)), (1, .int x0), (2, .int y0), (3, .int x1), (4, .int y1), (5, .int c), (7, .int (nI x))]) hx hb dX1_line_83 hl (by decide) rfl (fun ls hl => ?_)
                  refine lv_iinc (v := nI (x + 1)) (lv' := [(7, .int (nI (x + 1))), (6, .int ((nI k) + r79)), (0, .ref (ad 0)), (1, .int x0), (2, .int y0), (3, .int x1), (4, .int y1), (5, .int c)]) hx hb dX1_line_85 hl (k := 7) rfl (nI_add _ 1) (by decide) rfl (fun ls hl => ?_)
                  refine lv_goto (tgt := 53) hx hb dX1_line_88 (by decide) ?_
                  rcases q79 with ⟨g1, g2, g3⟩ | ⟨g1, g2, g3⟩
                  · subst g2
                    have hin := g1.2
                    obtain ⟨t1, t2, t3⟩ := LW_yes (w := w) (h := h) hx0 q74 hin
                    have e2 : nI k + 1 = nI (k + 1) := nI_1 k
                    rw [e2] at hl
                    have hL : lin w (nI x) r74 = r74.toInt.toNat * w + x := by unfold lin; rw [nI_toInt (by omega), Int.toNat_natCast]
                    rw [hL] at g3
                    exact ih (x + 1) (k + 1) f79 (by omega) (by rw [hk, cnt_yes t1]) (by rw [g3]; exact LIn_yes hI (row_mod _ hx0) t2 (fun i _ => t3 i)) (by omega) _ _ (hP.sub [0, 1] rfl) (hD.sub [0, 1] (by decide) rfl) hS ls (lv_sub hl [2, 3, 4, 5, 6, 7, 1, 0] rfl)
                  · subst g2
                    have hout : ¬ (0 ≤ r74.toInt ∧ r74.toInt < h) := fun q => g1 ⟨by rw [nI_toInt (by omega)]; omega, q⟩
                    obtain ⟨t1, t2⟩ := LW_no (w := w) (h := h) q74 hout
                    have e2 : nI k + 0 = nI k := by rw [← nI_0, nI_add]; rfl
                    rw [e2] at hl
                    exact ih (x + 1) k f79 (by omega) (by rw [hk, cnt_no t1]) (by rw [g3]; exact LIn_no hI (fun i hi => t2 i hi)) (by omega) _ _ (hP.sub [0, 1] rfl) (hD.sub [0, 1] (by decide) rfl) hS ls (lv_sub hl [2, 3, 4, 5, 6, 7, 1, 0] rfl)
            exact loop53 (w + 1) 0 0 col (Nat.zero_le _) rfl LIn_0 (by omega) _ _ (hP.sub [0, 1] rfl) (hD.sub [0, 1] (by decide) rfl) hS ls (lv_sub hl [2, 3, 4, 5, 6, 7, 1, 0] rfl)
        · refine lv_iconst (v := (-1)) hx hb dX1_line_29 (by decide) ?_
          have hP9 := hP.sub (ws' := [(ad 0, .inr (1, [.int (nI w), .int (nI h), .ref (ad 1), .ref (ad 2), .ref (ad 3), .ref (ad 4), .ref (ad 5), .int qd])), (ad 1, .inl (tc 1, (w * h), .inl col))]) [0, 1] rfl
          have hD9 := hD.sub (ws' := [(ad 0, .inr (1, [.int (nI w), .int (nI h), .ref (ad 1), .ref (ad 2), .ref (ad 3), .ref (ad 4), .ref (ad 5), .int qd])), (ad 1, .inl (tc 1, (w * h), .inl col))]) [0, 1] (by decide) rfl
          exact W.iret (v := (-1)) hx hb hr (fun t ht hW => ⟨⟨(-1), col, rfl, Or.inl ⟨fun h => (b01 q23).mp c26 h.2.2.2, rfl, rfl⟩, by rw [ht]; exact hP9, va_K.moved hW.alike hK, hD9⟩, hS.F ht⟩) hS.2.2 dX1_line_30
end
section
/-! what reachPiece brings together -/
/-- the new ones -/
def NEW (n : Nat) (rea0 rea : Nat → Int32) (i : Nat) : Prop := i < n ∧ ¬ rea i = 0 ∧ rea0 i = 0
/-- the rows of the search: the queue's first k places are the new ones, all of them in the piece -/
def BF (w n : Nat) (col rea0 : Nat → Int32) (c : Int32) (i0 : Nat) (rea que : Nat → Int32) (k : Nat) : Prop :=
  (∀ j, j < k → ∃ i, que j = nI i ∧ NEW n rea0 rea i) ∧ (∀ i, NEW n rea0 rea i → ∃ j, j < k ∧ que j = nI i) ∧ k = cnt (NEW n rea0 rea) n ∧ (∀ i, NEW n rea0 rea i → hang w n (fun a => col a = c) i0 i) ∧ (∀ i, ¬ rea0 i = 0 → ¬ rea i = 0)
theorem BF_k {w n : Nat} {col rea0 rea que : Nat → Int32} {c : Int32} {i0 k : Nat} (h : BF w n col rea0 c i0 rea que k) : k ≤ n := by
  rw [h.2.2.1]; exact cnt_le _ _
theorem BF_0 {w n : Nat} {col rea0 que : Nat → Int32} {c : Int32} {i0 : Nat} : BF w n col rea0 c i0 rea0 que 0 :=
  ⟨fun j h => absurd h (Nat.not_lt_zero j), fun i h => absurd h.2.2 h.2.1, (cnt_none (fun i _ h => h.2.1 h.2.2)).symm, fun i h => absurd h.2.2 h.2.1, fun i h => h⟩
/-- what reach does at (x, y) -/
def RCH (w h : Nat) (col : Nat → Int32) (c x y : Int32) (rea que : Nat → Int32) (k : Nat) (u : (Nat → Int32) × (Nat → Int32) × Nat) : Prop :=
  ((inX w h x y ∧ rea (lin w x y) = 0 ∧ col (lin w x y) = c ∧ k < w * h) ∧ u = (upd rea (lin w x y) 1, upd que k (nI (lin w x y)), k + 1)) ∨ (¬ (inX w h x y ∧ rea (lin w x y) = 0 ∧ col (lin w x y) = c ∧ k < w * h) ∧ u = (rea, que, k))
theorem BF_reach {w h : Nat} {col rea0 rea que rea' que' : Nat → Int32} {c x y : Int32} {i0 k k' : Nat} (hB : BF w (w * h) col rea0 c i0 rea que k) (hr : RCH w h col c x y rea que k (rea', que', k')) (hh : inX w h x y → col (lin w x y) = c → hang w (w * h) (fun a => col a = c) i0 (lin w x y)) :
    BF w (w * h) col rea0 c i0 rea' que' k' ∧ (inX w h x y → col (lin w x y) = c → ¬ rea' (lin w x y) = 0) ∧ (∀ i, ¬ rea i = 0 → ¬ rea' i = 0) ∧ k ≤ k' ∧ (∀ j, j < k → que' j = que j) := by
  obtain ⟨h1, h2, h3, h4, h5⟩ := hB
  rcases hr with ⟨⟨g1, g2, g3, g4⟩, g5⟩ | ⟨g1, g5⟩
  · injection g5 with e1 e2
    injection e2 with e2 e3
    subst e1; subst e2; subst e3
    have hlt := lin_lt g1
    have hang1 := hh g1 g3
    generalize lin w x y = b at *
    have hr0 : rea0 b = 0 := Classical.byContradiction (fun q => h5 b q g2)
    have hnew : ∀ i, NEW (w * h) rea0 (upd rea b 1) i ↔ (NEW (w * h) rea0 rea i ∨ i = b) := by
      intro i
      by_cases hi : i = b
      · subst hi
        exact ⟨fun _ => Or.inr rfl, fun _ => ⟨hlt, by rw [pk_us]; decide, hr0⟩⟩
      · unfold NEW
        rw [pk_un hi]
        exact ⟨fun q => Or.inl q, fun q => q.elim id (fun q => absurd q hi)⟩
    have hb0 : ¬ NEW (w * h) rea0 rea b := fun q => q.2.1 g2
    refine ⟨⟨?_, ?_, ?_, ?_, ?_⟩, ?_, ?_, by omega, ?_⟩
    · intro j hj
      by_cases hjk : j = k
      · subst hjk
        exact ⟨b, pk_us, (hnew b).mpr (Or.inr rfl)⟩
      · obtain ⟨i, q1, q2⟩ := h1 j (by omega)
        exact ⟨i, by rw [pk_un hjk]; exact q1, (hnew i).mpr (Or.inl q2)⟩
    · intro i hi
      rcases (hnew i).mp hi with q | q
      · obtain ⟨j, q1, q2⟩ := h2 i q
        exact ⟨j, by omega, by rw [pk_un (by omega)]; exact q2⟩
      · exact ⟨k, by omega, by rw [pk_us, q]⟩
    · rw [cnt_add' hb0 hnew hlt, ← h3]
    · intro i hi
      rcases (hnew i).mp hi with q | q
      · exact h4 i q
      · rw [q]; exact hang1
    · intro i hi
      by_cases hib : i = b
      · rw [hib, pk_us]; decide
      · rw [pk_un hib]; exact h5 i hi
    · intro _ _
      rw [pk_us]; decide
    · intro i hi
      by_cases hib : i = b
      · rw [hib, pk_us]; decide
      · rw [pk_un hib]; exact hi
    · intro j hj
      exact pk_un (by omega)
  · injection g5 with e1 e2
    injection e2 with e2 e3
    subst e1; subst e2; subst e3
    refine ⟨⟨h1, h2, h3, h4, h5⟩, ?_, fun i h => h, Nat.le_refl _, fun _ _ => rfl⟩
    intro q1 q2 q3
    have hk : k' < w * h := by
      rw [h3]
      exact cnt_lt (k := lin w x y) (fun q => q.2.1 q3) _ (lin_lt q1)
    exact g1 ⟨q1, q3, q2, hk⟩
/-- the four neighbours -/
theorem nb_sub {w a : Nat} (ha : a ≤ 24) : (nI a - 1).toInt = (a : Int) - 1 := by
  rw [Jvm.Kit.i32_sub (by rw [nI_toInt (by omega), show (1 : Int32).toInt = 1 from by decide]; omega) (by rw [nI_toInt (by omega), show (1 : Int32).toInt = 1 from by decide]; omega), nI_toInt (by omega)]; rfl
theorem nb_add {a : Nat} (ha : a ≤ 24) : (nI a + 1).toInt = (a : Int) + 1 := by
  rw [nI_1, nI_toInt (by omega)]; omega
theorem nb_l {w h i : Nat} (hw : w ≤ 24) (hh : h ≤ 24) (hi : i < w * h) : (inX w h (nI (i % w) - 1) (nI (i / w)) → adj w i (lin w (nI (i % w) - 1) (nI (i / w)))) ∧ (∀ b, b + 1 = i → i % w ≠ 0 → inX w h (nI (i % w) - 1) (nI (i / w)) ∧ lin w (nI (i % w) - 1) (nI (i / w)) = b) := by
  have hb := row_bd hi
  have hr := row_of w i
  have e1 := nb_sub (w := w) (a := i % w) (by omega)
  have e2 : (nI (i / w)).toInt = ((i / w : Nat) : Int) := nI_toInt (by omega)
  unfold inX lin adj
  rw [e1, e2]
  generalize i % w = a at *
  generalize i / w = d at *
  generalize hdw : d * w = dw at *
  refine ⟨fun q => Or.inl ⟨?_, by omega⟩, fun b hb1 hb2 => ⟨⟨by omega, by omega⟩, ?_⟩⟩
  · rw [show ((d : Int)).toNat = d by omega, hdw]; omega
  · rw [show ((d : Int)).toNat = d by omega, hdw]; omega
theorem nb_r {w h i : Nat} (hw : w ≤ 24) (hh : h ≤ 24) (hi : i < w * h) : (inX w h (nI (i % w) + 1) (nI (i / w)) → adj w i (lin w (nI (i % w) + 1) (nI (i / w)))) ∧ (∀ b, i + 1 = b → b % w ≠ 0 → inX w h (nI (i % w) + 1) (nI (i / w)) ∧ lin w (nI (i % w) + 1) (nI (i / w)) = b) := by
  have hb := row_bd hi
  have hr := row_of w i
  have e1 := nb_add (a := i % w) (by omega)
  have e2 : (nI (i / w)).toInt = ((i / w : Nat) : Int) := nI_toInt (by omega)
  unfold inX lin
  rw [e1, e2]
  generalize i % w = a at *
  generalize i / w = d at *
  rw [show ((d : Int)).toNat = d by omega, show ((a : Int) + 1).toNat = a + 1 by omega]
  refine ⟨fun q => Or.inr (Or.inl ⟨by omega, ?_⟩), fun b hb1 hb2 => ?_⟩
  · rw [row_mod d (by omega)]; omega
  · have ha : a + 1 < w := by
      rcases Nat.lt_or_ge (a + 1) w with q | q
      · exact q
      · exfalso
        apply hb2
        rw [← hb1, ← hr, show d * w + a + 1 = (d + 1) * w by rw [Nat.add_mul]; omega]
        exact Nat.mul_mod_left _ _
    exact ⟨⟨by omega, by omega⟩, by omega⟩
theorem nb_u {w h i : Nat} (hw : w ≤ 24) (hh : h ≤ 24) (hi : i < w * h) : (inX w h (nI (i % w)) (nI (i / w) - 1) → adj w i (lin w (nI (i % w)) (nI (i / w) - 1))) ∧ (∀ b, b + w = i → inX w h (nI (i % w)) (nI (i / w) - 1) ∧ lin w (nI (i % w)) (nI (i / w) - 1) = b) := by
  have hb := row_bd hi
  have hr := row_of w i
  have e1 := nb_sub (w := w) (a := i / w) (by omega)
  have e2 : (nI (i % w)).toInt = ((i % w : Nat) : Int) := nI_toInt (by omega)
  unfold inX lin
  rw [e1, e2]
  generalize i % w = a at *
  generalize i / w = d at *
  rw [show ((a : Int)).toNat = a by omega, show ((d : Int) - 1).toNat = d - 1 by omega]
  have hs : (d - 1) * w = d * w - w := by rw [Nat.sub_mul, Nat.one_mul]
  refine ⟨fun q => Or.inr (Or.inr (Or.inl ?_)), fun b hb1 => ?_⟩
  · have : w ≤ d * w := Nat.le_mul_of_pos_left w (by omega)
    omega
  · have hd : 0 < d := by
      rcases Nat.eq_zero_or_pos d with q | q
      · subst q; rw [Nat.zero_mul] at hr; omega
      · exact q
    have : w ≤ d * w := Nat.le_mul_of_pos_left w hd
    exact ⟨⟨by omega, by omega⟩, by omega⟩
theorem nb_d {w h i : Nat} (hw : w ≤ 24) (hh : h ≤ 24) (hi : i < w * h) : (inX w h (nI (i % w)) (nI (i / w) + 1) → adj w i (lin w (nI (i % w)) (nI (i / w) + 1))) ∧ (∀ b, i + w = b → b < w * h → inX w h (nI (i % w)) (nI (i / w) + 1) ∧ lin w (nI (i % w)) (nI (i / w) + 1) = b) := by
  have hb := row_bd hi
  have hr := row_of w i
  have e1 := nb_add (a := i / w) (by omega)
  have e2 : (nI (i % w)).toInt = ((i % w : Nat) : Int) := nI_toInt (by omega)
  unfold inX lin
  rw [e1, e2]
  generalize i % w = a at *
  generalize i / w = d at *
  rw [show ((a : Int)).toNat = a by omega, show ((d : Int) + 1).toNat = d + 1 by omega, Nat.add_mul, Nat.one_mul]
  refine ⟨fun q => Or.inr (Or.inr (Or.inr (by omega))), fun b hb1 hb2 => ?_⟩
  have hd : d + 1 < h := by
    rcases Nat.lt_or_ge (d + 1) h with q | q
    · exact q
    · exfalso
      have := Nat.mul_le_mul_right w q
      rw [Nat.add_mul, Nat.one_mul, Nat.mul_comm h w] at this
      omega
  exact ⟨⟨by omega, by omega⟩, by omega⟩
/-- the rows of the search at its t-th step -/
def BFT (w n : Nat) (col rea0 : Nat → Int32) (c : Int32) (i0 : Nat) (rea que : Nat → Int32) (k t : Nat) : Prop :=
  BF w n col rea0 c i0 rea que k ∧ ¬ rea i0 = 0 ∧ ∀ j i, j < t → que j = nI i → i < n → ∀ b, adj w i b → b < n → col b = c → ¬ rea b = 0
/-- one step: the four neighbours of the t-th one -/
theorem BFT_step {w h : Nat} {col rea0 rea que r1 q1 r2 q2 r3 q3 r4 q4 : Nat → Int32} {c : Int32} {i0 k t i k1 k2 k3 k4 : Nat} (hw : w ≤ 24) (hh : h ≤ 24) (hT : BFT w (w * h) col rea0 c i0 rea que k t) (htk : t < k) (hq : que t = nI i) (hi : NEW (w * h) rea0 rea i)
    (a1 : RCH w h col c (nI (i % w) - 1) (nI (i / w)) rea que k (r1, q1, k1)) (a2 : RCH w h col c (nI (i % w) + 1) (nI (i / w)) r1 q1 k1 (r2, q2, k2)) (a3 : RCH w h col c (nI (i % w)) (nI (i / w) - 1) r2 q2 k2 (r3, q3, k3)) (a4 : RCH w h col c (nI (i % w)) (nI (i / w) + 1) r3 q3 k3 (r4, q4, k4)) :
    BFT w (w * h) col rea0 c i0 r4 q4 k4 (t + 1) ∧ t + 1 ≤ k4 := by
  obtain ⟨hB, h0, hc⟩ := hT
  have hin := hi.1
  have hg := hB.2.2.2.1 i hi
  have n1 := nb_l hw hh hin
  have n2 := nb_r hw hh hin
  have n3 := nb_u hw hh hin
  have n4 := nb_d hw hh hin
  obtain ⟨b1, c1, d1, e1, f1⟩ := BF_reach hB a1 (fun x y => hang_step hg (n1.1 x) (lin_lt x) y)
  obtain ⟨b2, c2, d2, e2, f2⟩ := BF_reach b1 a2 (fun x y => hang_step hg (n2.1 x) (lin_lt x) y)
  obtain ⟨b3, c3, d3, e3, f3⟩ := BF_reach b2 a3 (fun x y => hang_step hg (n3.1 x) (lin_lt x) y)
  obtain ⟨b4, c4, d4, e4, f4⟩ := BF_reach b3 a4 (fun x y => hang_step hg (n4.1 x) (lin_lt x) y)
  have dd : ∀ x, ¬ rea x = 0 → ¬ r4 x = 0 := fun x q => d4 x (d3 x (d2 x (d1 x q)))
  have ff : ∀ j, j < k → q4 j = que j := fun j q => by rw [f4 j (by omega), f3 j (by omega), f2 j (by omega), f1 j q]
  refine ⟨⟨b4, dd i0 h0, ?_⟩, by omega⟩
  intro j i' hj hq' hi' b hab hbn hcb
  rw [ff j (by omega)] at hq'
  by_cases hjt : j = t
  · subst hjt
    have : i' = i := by
      rw [hq] at hq'
      have hn := wh_le hw hh
      exact ((nI_eq (by omega) (by omega)).mp hq').symm
    subst this
    rcases hab with q | q | q | q
    · obtain ⟨x, y⟩ := n1.2 b q.1 q.2
      rw [← y] at hcb ⊢
      exact d4 _ (d3 _ (d2 _ (c1 x hcb)))
    · obtain ⟨x, y⟩ := n2.2 b q.1 q.2
      rw [← y] at hcb ⊢
      exact d4 _ (d3 _ (c2 x hcb))
    · obtain ⟨x, y⟩ := n3.2 b q
      rw [← y] at hcb ⊢
      exact d4 _ (c3 x hcb)
    · obtain ⟨x, y⟩ := n4.2 b q hbn
      rw [← y] at hcb ⊢
      exact c4 x hcb
  · exact dd b (hc j i' (by omega) hq' hi' b hab hbn hcb)
/-- what was reached before is closed, and has the colour -/
def OLD (w n : Nat) (col rea0 : Nat → Int32) (c : Int32) : Prop := (∀ i, i < n → ¬ rea0 i = 0 → col i = c) ∧ clo w n (fun a => col a = c) (fun i => i < n ∧ ¬ rea0 i = 0)
/-- the piece, when the search has ended -/
def PIECE (w n : Nat) (col rea0 : Nat → Int32) (c : Int32) (i0 : Nat) (rea que : Nat → Int32) (k : Nat) : Prop :=
  k ≤ n ∧ k = cnt (hang w n (fun a => col a = c) i0) n ∧ (∀ i, i < n → (¬ rea i = 0 ↔ (¬ rea0 i = 0 ∨ hang w n (fun a => col a = c) i0 i))) ∧ (∀ j, j < k → ∃ i, i < n ∧ que j = nI i ∧ hang w n (fun a => col a = c) i0 i) ∧ (∀ i, hang w n (fun a => col a = c) i0 i → ∃ j, j < k ∧ que j = nI i)
theorem BFT_end {w n : Nat} {col rea0 rea que : Nat → Int32} {c : Int32} {i0 k : Nat} (h0 : i0 < n ∧ col i0 = c) (hr0 : rea0 i0 = 0) (hO : OLD w n col rea0 c) (hT : BFT w n col rea0 c i0 rea que k k) : PIECE w n col rea0 c i0 rea que k := by
  obtain ⟨hB, h1, hc⟩ := hT
  obtain ⟨b1, b2, b3, b4, b5⟩ := id hB
  have hS : ∀ b, NEW n rea0 rea b ↔ hang w n (fun a => col a = c) i0 b := by
    refine hang_is ⟨h0.1, h1, hr0⟩ ?_ b4
    intro a b ha hab hbn hcb
    obtain ⟨j, hj, hq⟩ := b2 a ha
    refine ⟨hbn, hc j a hj hq ha.1 b hab hbn hcb, Classical.byContradiction (fun q => ?_)⟩
    have hca : col a = c := (hang_in h0 (b4 a ha)).2
    exact (hO.2 b a ⟨hbn, q⟩ (adj_sym hab) ha.1 hca).2 ha.2.2
  refine ⟨BF_k hB, by rw [b3]; exact cnt_congr (fun i _ => hS i), ?_, ?_, ?_⟩
  · intro i hi
    constructor
    · intro q
      by_cases q0 : rea0 i = 0
      · exact Or.inr ((hS i).mp ⟨hi, q, q0⟩)
      · exact Or.inl q0
    · rintro (q | q)
      · exact b5 i q
      · exact ((hS i).mpr q).2.1
  · intro j hj
    obtain ⟨i, q1, q2⟩ := b1 j hj
    exact ⟨i, q2.1, q1, (hS i).mp q2⟩
  · intro i hi
    exact b2 i ((hS i).mpr hi)
theorem OLD_0 {w n : Nat} {col rea0 : Nat → Int32} {c : Int32} (h : ∀ i, i < n → rea0 i = 0) : OLD w n col rea0 c := ⟨fun i hi q => absurd (h i hi) q, fun a b ha _ _ _ => absurd (h a ha.1) ha.2⟩
/-- the least places of the pieces of a colour -/
def PCS (w n : Nat) (col : Nat → Int32) (c : Int32) (i : Nat) : Prop := col i = c ∧ ∀ j, j < i → col j = c → ¬ hang w n (fun a => col a = c) j i
/-- the pieces of the places below i are what was reached -/
def PRE (w n : Nat) (col : Nat → Int32) (c : Int32) (i : Nat) (rea : Nat → Int32) : Prop := ∀ m, m < n → (¬ rea m = 0 ↔ ∃ j, j < i ∧ col j = c ∧ hang w n (fun a => col a = c) j m)
theorem PRE_0 {w n : Nat} {col rea : Nat → Int32} {c : Int32} (h : ∀ i, i < n → rea i = 0) : PRE w n col c 0 rea := fun m hm => ⟨fun q => absurd (h m hm) q, fun ⟨j, hj, _⟩ => absurd hj (Nat.not_lt_zero j)⟩
theorem PRE_old {w n : Nat} {col rea : Nat → Int32} {c : Int32} {i : Nat} (hi : i ≤ n) (h : PRE w n col c i rea) : OLD w n col rea c := by
  constructor
  · intro m hm q
    obtain ⟨j, h1, h2, h3⟩ := (h m hm).mp q
    exact (hang_in ⟨by omega, h2⟩ h3).2
  · intro a b ha hab hb hcb
    obtain ⟨j, h1, h2, h3⟩ := (h a ha.1).mp ha.2
    exact ⟨hb, (h b hb).mpr ⟨j, h1, h2, hang_step h3 hab hb hcb⟩⟩
theorem PRE_other {w n : Nat} {col rea : Nat → Int32} {c : Int32} {i : Nat} (h : PRE w n col c i rea) (hc : ¬ col i = c) : PRE w n col c (i + 1) rea ∧ ¬ PCS w n col c i := by
  refine ⟨fun m hm => ?_, fun q => hc q.1⟩
  rw [h m hm]
  constructor
  · rintro ⟨j, h1, h2, h3⟩; exact ⟨j, by omega, h2, h3⟩
  · rintro ⟨j, h1, h2, h3⟩
    have : j ≠ i := fun q => hc (q ▸ h2)
    exact ⟨j, by omega, h2, h3⟩
theorem PRE_seen {w n : Nat} {col rea : Nat → Int32} {c : Int32} {i : Nat} (hi : i < n) (h : PRE w n col c i rea) (hr : ¬ rea i = 0) : PRE w n col c (i + 1) rea ∧ ¬ PCS w n col c i := by
  obtain ⟨j0, g1, g2, g3⟩ := (h i hi).mp hr
  refine ⟨fun m hm => ?_, fun q => q.2 j0 g1 g2 g3⟩
  rw [h m hm]
  constructor
  · rintro ⟨j, h1, h2, h3⟩; exact ⟨j, by omega, h2, h3⟩
  · rintro ⟨j, h1, h2, h3⟩
    by_cases he : j = i
    · subst he; exact ⟨j0, g1, g2, hang_trans g3 h3⟩
    · exact ⟨j, by omega, h2, h3⟩
theorem PRE_new {w n : Nat} {col rea rea' : Nat → Int32} {c : Int32} {i : Nat} (hi : i < n) (hc : col i = c) (h : PRE w n col c i rea) (hr : rea i = 0) (hp : ∀ m, m < n → (¬ rea' m = 0 ↔ (¬ rea m = 0 ∨ hang w n (fun a => col a = c) i m))) : PRE w n col c (i + 1) rea' ∧ PCS w n col c i := by
  refine ⟨fun m hm => ?_, hc, fun j hj hcj q => (h i hi).mpr ⟨j, hj, hcj, q⟩ hr⟩
  rw [hp m hm, h m hm]
  constructor
  · rintro (⟨j, h1, h2, h3⟩ | q)
    · exact ⟨j, by omega, h2, h3⟩
    · exact ⟨i, by omega, hc, q⟩
  · rintro ⟨j, h1, h2, h3⟩
    by_cases he : j = i
    · subst he; exact Or.inr h3
    · exact Or.inl ⟨j, by omega, h2, h3⟩
end
section
/-- the picture when the first t of the queue have their colour -/
def FILLI (n : Nat) (que col : Nat → Int32) (c : Int32) (t : Nat) (g : Nat → Int32) : Prop := ∀ i, i < n → ((∃ j, j < t ∧ que j = nI i) → g i = c) ∧ (¬ (∃ j, j < t ∧ que j = nI i) → g i = col i)
theorem FILL_0 {n : Nat} {que col : Nat → Int32} {c : Int32} : FILLI n que col c 0 col := fun i _ => ⟨fun ⟨j, hj, _⟩ => absurd hj (Nat.not_lt_zero j), fun _ => rfl⟩
theorem FILL_step {n t a : Nat} {que col g : Nat → Int32} {c : Int32} (h : FILLI n que col c t g) (hq : que t = nI a) (ha : a < 2 ^ 31 ∧ n < 2 ^ 31) : FILLI n que col c (t + 1) (upd g a c) := by
  intro i hi
  by_cases he : i = a
  · subst he
    exact ⟨fun _ => pk_us, fun q => absurd ⟨t, Nat.lt_succ_self t, hq⟩ q⟩
  · rw [pk_un he]
    refine ⟨fun ⟨j, h1, h2⟩ => (h i hi).1 ⟨j, ?_, h2⟩, fun q => (h i hi).2 (fun ⟨j, h1, h2⟩ => q ⟨j, by omega, h2⟩)⟩
    rcases Nat.lt_or_ge j t with h3 | h3
    · exact h3
    · have : j = t := by omega
      subst this
      rw [hq] at h2
      exact absurd ((nI_eq ha.1 (by omega)).mp h2).symm he
theorem FILL_fin {n k : Nat} {que col g : Nat → Int32} {c : Int32} {Q : Nat → Prop} (hn : n < 2 ^ 31) (h : FILLI n que col c k g) (h1 : ∀ j, j < k → ∃ i, i < n ∧ que j = nI i ∧ Q i) (h2 : ∀ i, Q i → ∃ j, j < k ∧ que j = nI i) : LFin n Q col c g := by
  intro i hi
  refine ⟨fun q => (h i hi).1 (h2 i q), fun q => (h i hi).2 (fun ⟨j, h3, h4⟩ => ?_)⟩
  obtain ⟨m, g1, g2, g3⟩ := h1 j h3
  rw [g2] at h4
  have : m = i := (nI_eq (by omega) (by omega)).mp h4
  subst this
  exact q g3
end
section
set_option maxHeartbeats 4000000 in
set_option maxRecDepth 100000 in
/-- reachPiece -/
theorem c_X1_reachPiece (l : Launch) (dC : Nat → ClassId) (dI : Nat → Nat → Nat) (sz : Nat) (ad : Nat → Nat) (tc : Nat → ClassId) (w h : Nat) (qd : Int32) (col rea que : Nat → Int32) (hw1 : 1 ≤ w) (hw2 : w ≤ 24) (hh1 : 1 ≤ h) (hh2 : h ≤ 24) (x y c : Int32) (hin0 : inX w h x y) (hc0 : col (lin w x y) = c) (hr0 : rea (lin w x y) = 0) (hO : OLD w (w * h) col rea c) : Met l yX1_reachPiece wsX1_reachPiece ({ frames := 3, cells := 0, slots := 0, locals := 69 }) (mP (dC, dI) vwCl [(tc 1, .int), (tc 4, .boolean), (tc 5, .int)] [(ad 0, .inr (1, [.int (nI w), .int (nI h), .ref (ad 1), .ref (ad 2), .ref (ad 3), .ref (ad 4), .ref (ad 5), .int qd])), (ad 1, .inl (tc 1, (w * h), .inl col)), (ad 4, .inl (tc 4, (w * h), .inl rea)), (ad 5, .inl (tc 5, (w * h), .inl que))] sz [.ref (ad 0), .int x, .int y]) (va_Qi (fun (r : Int32) (u : (Nat → Int32) × (Nat → Int32) × Nat) => r = nI u.2.2 ∧ PIECE w (w * h) col rea c (lin w x y) u.1 u.2.1 u.2.2) (mB (dC, dI) vwCl [(tc 1, .int), (tc 4, .boolean), (tc 5, .int)] (va_A [(ad 0, .inr (1, [.int (nI w), .int (nI h), .ref (ad 1), .ref (ad 2), .ref (ad 3), .ref (ad 4), .ref (ad 5), .int qd])), (ad 1, .inl (tc 1, (w * h), .inl col)), (ad 4, .inl (tc 4, (w * h), .inl rea)), (ad 5, .inl (tc 5, (w * h), .inl que))] sz) (fun u => [(ad 0, .inr (1, [.int (nI w), .int (nI h), .ref (ad 1), .ref (ad 2), .ref (ad 3), .ref (ad 4), .ref (ad 5), .int (nI u.2.2)])), (ad 1, .inl (tc 1, (w * h), .inl col)), (ad 4, .inl (tc 4, (w * h), .inl u.1)), (ad 5, .inl (tc 5, (w * h), .inl u.2.1))])) (va_A [(ad 0, .inr (1, [.int (nI w), .int (nI h), .ref (ad 1), .ref (ad 2), .ref (ad 3), .ref (ad 4), .ref (ad 5), .int qd])), (ad 1, .inl (tc 1, (w * h), .inl col)), (ad 4, .inl (tc 4, (w * h), .inl rea)), (ad 5, .inl (tc 5, (w * h), .inl que))] sz)) 0 0 (va_A [(ad 0, .inr (1, [.int (nI w), .int (nI h), .ref (ad 1), .ref (ad 2), .ref (ad 3), .ref (ad 4), .ref (ad 5), .int qd])), (ad 1, .inl (tc 1, (w * h), .inl col)), (ad 4, .inl (tc 4, (w * h), .inl rea)), (ad 5, .inl (tc 5, (w * h), .inl que))] sz) := by
  refine Met.ofW (cc := cX1_reachPiece) (maxL := 7) (ret := (some .int)) (by decide) rfl ?_
  intro p e s m args below meth cD s₁ B hml hv
  obtain ⟨rfl, hsz, hP, hK, hD0, hN⟩ := hv
  have hx := B.exec
  have hb := B.bytes
  have hr := B.returns
  have hts := atoms_spec (ws := wsX1_reachPiece) B.pre
  have hown : s.vm.findClass RX1 = some m.cls := findClass_of_methodNamed B.named
  have hlocks := B.notSynchronized
  subst hsz
  have hD := hD0.self (sz := s.heap.size)
  generalize hAe : va_A [(ad 0, .inr (1, [.int (nI w), .int (nI h), .ref (ad 1), .ref (ad 2), .ref (ad 3), .ref (ad 4), .ref (ad 5), .int qd])), (ad 1, .inl (tc 1, (w * h), .inl col)), (ad 4, .inl (tc 4, (w * h), .inl rea)), (ad 5, .inl (tc 5, (w * h), .inl que))] s.heap.size = A at hD ⊢
  have hA : ∀ q : Nat, s.heap.size ≤ q → A q := fun q h => by rw [← hAe]; exact Or.inr h
  have hS : va_S A s.heap s.heap [] := va_S.rf
  have hP : va_P (dC, dI) vwCl [(ad 0, .inr (1, [.int (nI w), .int (nI h), .ref (ad 1), .ref (ad 2), .ref (ad 3), .ref (ad 4), .ref (ad 5), .int qd])), (ad 1, .inl (tc 1, (w * h), .inl col)), (ad 4, .inl (tc 4, (w * h), .inl rea)), (ad 5, .inl (tc 5, (w * h), .inl que))] s.heap := hP
  have hl := lv_entry ([.ref (ad 0), .int x, .int y]) (n := 7) (Nat.le_of_ble_eq_true rfl)
  rw [lg_entry_eq]
  generalize (lg_sl ([.ref (ad 0), .int x, .int y]) ++ List.replicate (7 - (lg_sl ([.ref (ad 0), .int x, .int y])).length) Slot.unset).toArray = ls at hl ⊢
  have hl : lv_has ls 7 [(0, .ref (ad 0)), (1, .int x), (2, .int y)] := hl
  have hwh := wh_le hw2 hh2
  refine lv_aload_n hx hb dX1_reachPiece_0 rfl (lv_at hl 0 rfl) ?_
  refine lv_iload_n hx hb dX1_reachPiece_1 rfl (lv_at hl 1 rfl) ?_
  refine lv_iload_n hx hb dX1_reachPiece_2 rfl (lv_at hl 2 rfl) ?_
  refine m_calli (cs := [(ad 0, .inr (1, [.int (nI w), .int (nI h), .ref (ad 1), .ref (ad 2), .ref (ad 3), .ref (ad 4), .ref (ad 5), .int qd])), (ad 1, .inl (tc 1, (w * h), .inl col))]) (wr := [(ad 4, .inl (tc 4, (w * h), .inl rea)), (ad 5, .inl (tc 5, (w * h), .inl que))]) hP hD hS hA [0, 1] [2, 3] rfl rfl (by decide) (by decide) (va_runV (As := [.int x, .int y]) (rest := []) ⟨hx, hb, hml, hown, hts⟩ (c_X1_pixel l dC dI _ ad tc w h qd col hw1 hw2 hh1 hh2 x y) (cwV 2 hts gX1_reachPiece_X1_pixel rfl rfl rfl (by decide +kernel) ⟨Nat.le_of_ble_eq_true rfl, Nat.le_of_ble_eq_true rfl⟩) (m_preV (ci := 1) (q0 := 0) (hP.sub [0, 1] rfl) (hK.sub [0] rfl) (hD.sub [0, 1] (by decide) rfl) hN rfl rfl) rfl rfl hl.1 rfl (lv_room (Nat.le_of_ble_eq_true rfl)) dX1_reachPiece_3 ⟨Nat.le_of_ble_eq_true rfl, Nat.le_of_ble_eq_true rfl⟩) (fun r3 _ H locs q3 _ hP hD hS => ?_)
  have hP : va_P (dC, dI) vwCl [(ad 0, .inr (1, [.int (nI w), .int (nI h), .ref (ad 1), .ref (ad 2), .ref (ad 3), .ref (ad 4), .ref (ad 5), .int qd])), (ad 1, .inl (tc 1, (w * h), .inl col)), (ad 4, .inl (tc 4, (w * h), .inl rea)), (ad 5, .inl (tc 5, (w * h), .inl que))] H := hP.sub [2, 3, 0, 1] rfl
  have hD : va_D A [(ad 0, .inr (1, [.int (nI w), .int (nI h), .ref (ad 1), .ref (ad 2), .ref (ad 3), .ref (ad 4), .ref (ad 5), .int qd])), (ad 1, .inl (tc 1, (w * h), .inl col)), (ad 4, .inl (tc 4, (w * h), .inl rea)), (ad 5, .inl (tc 5, (w * h), .inl que))] := hD.sub [2, 3, 0, 1] (by decide) rfl
  have e3 : c = r3 := by
    rcases q3 with q | q
    · exact (q.2.trans hc0).symm
    · exact absurd hin0 q.1
  subst e3
  refine lv_istore_n (lv' := [(3, .int c), (0, .ref (ad 0)), (1, .int x), (2, .int y)]) hx hb dX1_reachPiece_6 rfl hl (by decide) rfl (fun ls hl => ?_)
  refine lv_aload_n hx hb dX1_reachPiece_7 rfl (lv_at hl 1 rfl) ?_
  refine lv_iconst (v := 0) hx hb dX1_reachPiece_8 (by decide) ?_
  refine lv_topi (fun zz ezz => ?_)
  obtain rfl : zz = nI 0 := ezz.trans (nI_0.symm)
  refine va_put (D := (dC, dI)) (ci := 1) (v := .int (nI 0)) (ty := .int) (C := RX1) (T := TX1) (N := 8) hx hb hts (by decide +kernel) tyX1 tyX1_ok nmX1 hown hK hP hD hS 0 rfl rfl 7 (by decide) (hts (.fieldLink RX1 41 "TriangleRaster" "queued" "I") (by decide +kernel)) (fun _ h9 => h9) rfl (by decide +kernel) rfl rfl (Nat.le_of_ble_eq_true rfl) dX1_reachPiece_9 (fun H locs hP hD hS => ?_)
  have hP : va_P (dC, dI) vwCl [(ad 0, .inr (1, [.int (nI w), .int (nI h), .ref (ad 1), .ref (ad 2), .ref (ad 3), .ref (ad 4), .ref (ad 5), .int (nI 0)])), (ad 1, .inl (tc 1, (w * h), .inl col)), (ad 4, .inl (tc 4, (w * h), .inl rea)), (ad 5, .inl (tc 5, (w * h), .inl que))] H := hP
  have hD : va_D A [(ad 0, .inr (1, [.int (nI w), .int (nI h), .ref (ad 1), .ref (ad 2), .ref (ad 3), .ref (ad 4), .ref (ad 5), .int (nI 0)])), (ad 1, .inl (tc 1, (w * h), .inl col)), (ad 4, .inl (tc 4, (w * h), .inl rea)), (ad 5, .inl (tc 5, (w * h), .inl que))] := hD
  refine lv_aload_n hx hb dX1_reachPiece_12 rfl (lv_at hl 1 rfl) ?_
  refine lv_iload_n hx hb dX1_reachPiece_13 rfl (lv_at hl 2 rfl) ?_
  refine lv_iload_n hx hb dX1_reachPiece_14 rfl (lv_at hl 3 rfl) ?_
  refine lv_iload_n hx hb dX1_reachPiece_15 rfl (lv_at hl 0 rfl) ?_
  refine m_callv (cs := [(ad 0, .inr (1, [.int (nI w), .int (nI h), .ref (ad 1), .ref (ad 2), .ref (ad 3), .ref (ad 4), .ref (ad 5), .int (nI 0)])), (ad 1, .inl (tc 1, (w * h), .inl col)), (ad 4, .inl (tc 4, (w * h), .inl rea)), (ad 5, .inl (tc 5, (w * h), .inl que))]) (wr := []) hP hD hS hA [0, 1, 2, 3] [] rfl rfl (by decide) (by decide) (va_runV (As := [.int x, .int y, .int c]) (rest := []) ⟨hx, hb, hml, hown, hts⟩ (c_X1_reach l dC dI _ ad tc w h 0 col rea que hw1 hw2 hh1 hh2 (Nat.zero_le _) x y c) (cwV 3 hts gX1_reachPiece_X1_reach rfl rfl rfl (by decide +kernel) ⟨Nat.le_of_ble_eq_true rfl, Nat.le_of_ble_eq_true rfl⟩) (m_preV (ci := 1) (q0 := 0) (hP.sub [0, 1, 2, 3] rfl) (hK.sub [0, 1, 2] rfl) (hD.sub [0, 1, 2, 3] (by decide) rfl) hN rfl rfl) rfl rfl hl.1 rfl (lv_room (Nat.le_of_ble_eq_true rfl)) dX1_reachPiece_16 ⟨Nat.le_of_ble_eq_true rfl, Nat.le_of_ble_eq_true rfl⟩) (fun u16 H locs q16 _ hP hD hS => ?_)
  obtain ⟨re16, qu16, k16⟩ := u16
  have hP : va_P (dC, dI) vwCl [(ad 0, .inr (1, [.int (nI w), .int (nI h), .ref (ad 1), .ref (ad 2), .ref (ad 3), .ref (ad 4), .ref (ad 5), .int (nI k16)])), (ad 1, .inl (tc 1, (w * h), .inl col)), (ad 4, .inl (tc 4, (w * h), .inl re16)), (ad 5, .inl (tc 5, (w * h), .inl qu16))] H := hP.sub [0, 1, 2, 3] rfl
  have hD : va_D A [(ad 0, .inr (1, [.int (nI w), .int (nI h), .ref (ad 1), .ref (ad 2), .ref (ad 3), .ref (ad 4), .ref (ad 5), .int (nI k16)])), (ad 1, .inl (tc 1, (w * h), .inl col)), (ad 4, .inl (tc 4, (w * h), .inl re16)), (ad 5, .inl (tc 5, (w * h), .inl qu16))] := hD.sub [0, 1, 2, 3] (by decide) rfl
  have hR16 : RCH w h col c x y rea que 0 (re16, qu16, k16) := q16
  obtain ⟨t1, t2, t3, t4, t5⟩ := BF_reach (i0 := lin w x y) BF_0 hR16 (fun _ _ => hang_self)
  refine lv_iconst (v := 0) hx hb dX1_reachPiece_19 (by decide) ?_
  refine lv_topi (fun zz ezz => ?_)
  obtain rfl : zz = nI 0 := ezz.trans (nI_0.symm)
  refine lv_istore (lv' := [(4, .int (nI 0)), (3, .int c), (0, .ref (ad 0)), (1, .int x), (2, .int y)]) hx hb dX1_reachPiece_20 hl (by decide) rfl (fun ls hl => ?_)
  have loop : ∀ (n : Nat) (ti : Nat) (re : Nat → Int32) (qu : Nat → Int32) (k : Nat), ti ≤ k → BFT w (w * h) col rea c (lin w x y) re qu k ti → w * h + 1 ≤ ti + n → ∀ (H : Heap) (locs : List Loc), va_P (dC, dI) vwCl [(ad 0, .inr (1, [.int (nI w), .int (nI h), .ref (ad 1), .ref (ad 2), .ref (ad 3), .ref (ad 4), .ref (ad 5), .int (nI k)])), (ad 1, .inl (tc 1, (w * h), .inl col)), (ad 4, .inl (tc 4, (w * h), .inl re)), (ad 5, .inl (tc 5, (w * h), .inl qu))] H → va_D A [(ad 0, .inr (1, [.int (nI w), .int (nI h), .ref (ad 1), .ref (ad 2), .ref (ad 3), .ref (ad 4), .ref (ad 5), .int (nI k)])), (ad 1, .inl (tc 1, (w * h), .inl col)), (ad 4, .inl (tc 4, (w * h), .inl re)), (ad 5, .inl (tc 5, (w * h), .inl qu))] → va_S A s.heap H locs → ∀ (ls : Array Slot), lv_has ls 7 [(0, .ref (ad 0)), (1, .int x), (2, .int y), (3, .int c), (4, .int (nI ti))] → W p l e (headSpec wsX1_reachPiece { frames := 3, cells := 0, slots := 0, locals := 69 }).room s m [.ref (ad 0), .int x, .int y].toArray below meth cD H locs 0 0 (MQ below (va_Qi (fun (r : Int32) (u : (Nat → Int32) × (Nat → Int32) × Nat) => r = nI u.2.2 ∧ PIECE w (w * h) col rea c (lin w x y) u.1 u.2.1 u.2.2) (mB (dC, dI) vwCl [(tc 1, .int), (tc 4, .boolean), (tc 5, .int)] A (fun u => [(ad 0, .inr (1, [.int (nI w), .int (nI h), .ref (ad 1), .ref (ad 2), .ref (ad 3), .ref (ad 4), .ref (ad 5), .int (nI u.2.2)])), (ad 1, .inl (tc 1, (w * h), .inl col)), (ad 4, .inl (tc 4, (w * h), .inl u.1)), (ad 5, .inl (tc 5, (w * h), .inl u.2.1))])) A) [.ref (ad 0), .int x, .int y].toArray s 0 0 A) (F0 m 22 ls []) := by
    intro n
    induction n with
    | zero => intro ti re qu k ht hT hm; exfalso; have := BF_k hT.1; omega
    | succ n ih =>
      intro ti re qu k ht hT hm H locs hP hD hS ls hl
      have hkn : k ≤ w * h := BF_k hT.1
      refine lv_iload hx hb dX1_reachPiece_22 (lv_at hl 4 rfl) ?_
      refine lv_aload_n hx hb dX1_reachPiece_24 rfl (lv_at hl 0 rfl) ?_
      refine va_get (D := (dC, dI)) (ci := 1) (v := .ref (ad 5)) (C := RX1) (T := TX1) (N := 8) hx hb hts (by decide +kernel) hown hK hP 0 rfl rfl 6 (by decide) (hts (.fieldLink RX1 38 "TriangleRaster" "queue" "[I") (by decide +kernel)) (fun _ h9 => h9) rfl dX1_reachPiece_25 ?_
      refine va_alen (v := nI (w * h)) hx hb hK hP 3 2 rfl rfl rfl dX1_reachPiece_28 ?_
      refine lv_icmp_ge (tgt := 119) hx hb dX1_reachPiece_29 (by decide) (fun c29 => ?_) (fun c29 => ?_)
      · refine lv_aload_n hx hb dX1_reachPiece_119 rfl (lv_at hl 0 rfl) ?_
        refine va_get (D := (dC, dI)) (ci := 1) (v := .int (nI k)) (C := RX1) (T := TX1) (N := 8) hx hb hts (by decide +kernel) hown hK hP 0 rfl rfl 7 (by decide) (hts (.fieldLink RX1 41 "TriangleRaster" "queued" "I") (by decide +kernel)) (fun _ h9 => h9) rfl dX1_reachPiece_120 ?_
        have hP9 := hP.sub (ws' := [(ad 0, .inr (1, [.int (nI w), .int (nI h), .ref (ad 1), .ref (ad 2), .ref (ad 3), .ref (ad 4), .ref (ad 5), .int (nI k)])), (ad 1, .inl (tc 1, (w * h), .inl col)), (ad 4, .inl (tc 4, (w * h), .inl re)), (ad 5, .inl (tc 5, (w * h), .inl qu))]) [0, 1, 2, 3] rfl
        have hD9 := hD.sub (ws' := [(ad 0, .inr (1, [.int (nI w), .int (nI h), .ref (ad 1), .ref (ad 2), .ref (ad 3), .ref (ad 4), .ref (ad 5), .int (nI k)])), (ad 1, .inl (tc 1, (w * h), .inl col)), (ad 4, .inl (tc 4, (w * h), .inl re)), (ad 5, .inl (tc 5, (w * h), .inl qu))]) [0, 1, 2, 3] (by decide) rfl
        exact W.iret (v := (nI k)) hx hb hr (fun t ht hW => ⟨⟨nI k, (re, qu, k), rfl, ⟨rfl, BFT_end ⟨lin_lt hin0, hc0⟩ hr0 hO (by have htk : ti = k := (by rw [nI_leI (by omega) (by omega)] at c29; omega); rw [htk] at hT; exact hT)⟩, by rw [ht]; exact hP9, va_K.moved hW.alike hK, hD9⟩, hS.F ht⟩) hS.2.2 dX1_reachPiece_123
      · refine lv_iload hx hb dX1_reachPiece_32 (lv_at hl 4 rfl) ?_
        refine lv_aload_n hx hb dX1_reachPiece_34 rfl (lv_at hl 0 rfl) ?_
        refine va_get (D := (dC, dI)) (ci := 1) (v := .int (nI k)) (C := RX1) (T := TX1) (N := 8) hx hb hts (by decide +kernel) hown hK hP 0 rfl rfl 7 (by decide) (hts (.fieldLink RX1 41 "TriangleRaster" "queued" "I") (by decide +kernel)) (fun _ h9 => h9) rfl dX1_reachPiece_35 ?_
        refine lv_icmp_ge (tgt := 119) hx hb dX1_reachPiece_38 (by decide) (fun c38 => ?_) (fun c38 => ?_)
        · refine lv_aload_n hx hb dX1_reachPiece_119 rfl (lv_at hl 0 rfl) ?_
          refine va_get (D := (dC, dI)) (ci := 1) (v := .int (nI k)) (C := RX1) (T := TX1) (N := 8) hx hb hts (by decide +kernel) hown hK hP 0 rfl rfl 7 (by decide) (hts (.fieldLink RX1 41 "TriangleRaster" "queued" "I") (by decide +kernel)) (fun _ h9 => h9) rfl dX1_reachPiece_120 ?_
          have hP9 := hP.sub (ws' := [(ad 0, .inr (1, [.int (nI w), .int (nI h), .ref (ad 1), .ref (ad 2), .ref (ad 3), .ref (ad 4), .ref (ad 5), .int (nI k)])), (ad 1, .inl (tc 1, (w * h), .inl col)), (ad 4, .inl (tc 4, (w * h), .inl re)), (ad 5, .inl (tc 5, (w * h), .inl qu))]) [0, 1, 2, 3] rfl
          have hD9 := hD.sub (ws' := [(ad 0, .inr (1, [.int (nI w), .int (nI h), .ref (ad 1), .ref (ad 2), .ref (ad 3), .ref (ad 4), .ref (ad 5), .int (nI k)])), (ad 1, .inl (tc 1, (w * h), .inl col)), (ad 4, .inl (tc 4, (w * h), .inl re)), (ad 5, .inl (tc 5, (w * h), .inl qu))]) [0, 1, 2, 3] (by decide) rfl
          exact W.iret (v := (nI k)) hx hb hr (fun t ht hW => ⟨⟨nI k, (re, qu, k), rfl, ⟨rfl, BFT_end ⟨lin_lt hin0, hc0⟩ hr0 hO (by have htk : ti = k := (by rw [nI_leI (by omega) (by omega)] at c38; omega); rw [htk] at hT; exact hT)⟩, by rw [ht]; exact hP9, va_K.moved hW.alike hK, hD9⟩, hS.F ht⟩) hS.2.2 dX1_reachPiece_123
        · have htn : ti < w * h := by rw [nI_leI (by omega) (by omega)] at c29; omega
          have htk : ti < k := by rw [nI_leI (by omega) (by omega)] at c38; omega
          obtain ⟨i, hqi, hni⟩ := hT.1.1 ti htk
          have hin := hni.1
          have hbd := row_bd hin
          refine lv_aload_n hx hb dX1_reachPiece_41 rfl (lv_at hl 0 rfl) ?_
          refine va_get (D := (dC, dI)) (ci := 1) (v := .ref (ad 5)) (C := RX1) (T := TX1) (N := 8) hx hb hts (by decide +kernel) hown hK hP 0 rfl rfl 6 (by decide) (hts (.fieldLink RX1 38 "TriangleRaster" "queue" "[I") (by decide +kernel)) (fun _ h9 => h9) rfl dX1_reachPiece_42 ?_
          refine lv_iload hx hb dX1_reachPiece_45 (lv_at hl 4 rfl) ?_
          refine va_iald hx hb hK hP 3 2 rfl rfl (vp_in_nI htn (by omega)) dX1_reachPiece_47 ?_
          refine lv_topi (fun zz ezz => ?_)
          obtain rfl : zz = nI i := ezz.trans ((show qu (nI ti).toNatClampNeg = nI i from (by rw [nI_clamp (by omega)]; exact hqi)))
          refine lv_aload_n hx hb dX1_reachPiece_48 rfl (lv_at hl 0 rfl) ?_
          refine va_get (D := (dC, dI)) (ci := 1) (v := .int (nI w)) (C := RX1) (T := TX1) (N := 8) hx hb hts (by decide +kernel) hown hK hP 0 rfl rfl 0 (by decide) (hts (.fieldLink RX1 13 "TriangleRaster" "width" "I") (by decide +kernel)) (fun _ h9 => h9) rfl dX1_reachPiece_49 ?_
          refine lv_irem hx hb dX1_reachPiece_52 (nI_ne0 (by omega) (by omega)) ?_
          refine lv_topi (fun zz ezz => ?_)
          obtain rfl : zz = nI (i % w) := ezz.trans (pk_rem (by omega) (by omega) (by omega))
          refine lv_istore (lv' := [(5, .int (nI (i % w))), (0, .ref (ad 0)), (1, .int x), (2, .int y), (3, .int c), (4, .int (nI ti))]) hx hb dX1_reachPiece_53 hl (by decide) rfl (fun ls hl => ?_)
          refine lv_aload_n hx hb dX1_reachPiece_55 rfl (lv_at hl 1 rfl) ?_
          refine va_get (D := (dC, dI)) (ci := 1) (v := .ref (ad 5)) (C := RX1) (T := TX1) (N := 8) hx hb hts (by decide +kernel) hown hK hP 0 rfl rfl 6 (by decide) (hts (.fieldLink RX1 38 "TriangleRaster" "queue" "[I") (by decide +kernel)) (fun _ h9 => h9) rfl dX1_reachPiece_56 ?_
          refine lv_iload hx hb dX1_reachPiece_59 (lv_at hl 5 rfl) ?_
          refine va_iald hx hb hK hP 3 2 rfl rfl (vp_in_nI htn (by omega)) dX1_reachPiece_61 ?_
          refine lv_topi (fun zz ezz => ?_)
          obtain rfl : zz = nI i := ezz.trans ((show qu (nI ti).toNatClampNeg = nI i from (by rw [nI_clamp (by omega)]; exact hqi)))
          refine lv_aload_n hx hb dX1_reachPiece_62 rfl (lv_at hl 1 rfl) ?_
          refine va_get (D := (dC, dI)) (ci := 1) (v := .int (nI w)) (C := RX1) (T := TX1) (N := 8) hx hb hts (by decide +kernel) hown hK hP 0 rfl rfl 0 (by decide) (hts (.fieldLink RX1 13 "TriangleRaster" "width" "I") (by decide +kernel)) (fun _ h9 => h9) rfl dX1_reachPiece_63 ?_
          refine lv_idiv hx hb dX1_reachPiece_66 (nI_ne0 (by omega) (by omega)) ?_
          refine lv_topi (fun zz ezz => ?_)
          obtain rfl : zz = nI (i / w) := ezz.trans (pk_div (by omega) (by omega) (by omega))
          refine lv_istore (lv' := [(6, .int (nI (i / w))), (5, .int (nI (i % w))), (0, .ref (ad 0)), (1, .int x), (2, .int y), (3, .int c), (4, .int (nI ti))]) hx hb dX1_reachPiece_67 hl (by decide) rfl (fun ls hl => ?_)
          refine lv_aload_n hx hb dX1_reachPiece_69 rfl (lv_at hl 2 rfl) ?_
          refine lv_iload hx hb dX1_reachPiece_70 (lv_at hl 1 rfl) ?_
          refine lv_iconst (v := 1) hx hb dX1_reachPiece_72 (by decide) ?_
          refine lv_isub hx hb dX1_reachPiece_73 ?_
          refine lv_iload hx hb dX1_reachPiece_74 (lv_at hl 0 rfl) ?_
          refine lv_iload_n hx hb dX1_reachPiece_76 rfl (lv_at hl 5 rfl) ?_
          refine m_callv (cs := [(ad 0, .inr (1, [.int (nI w), .int (nI h), .ref (ad 1), .ref (ad 2), .ref (ad 3), .ref (ad 4), .ref (ad 5), .int (nI k)])), (ad 1, .inl (tc 1, (w * h), .inl col)), (ad 4, .inl (tc 4, (w * h), .inl re)), (ad 5, .inl (tc 5, (w * h), .inl qu))]) (wr := []) hP hD hS hA [0, 1, 2, 3] [] rfl rfl (by decide) (by decide) (va_runV (As := [.int ((nI (i % w)) - 1), .int (nI (i / w)), .int c]) (rest := []) ⟨hx, hb, hml, hown, hts⟩ (c_X1_reach l dC dI _ ad tc w h k col re qu hw1 hw2 hh1 hh2 hkn ((nI (i % w)) - 1) (nI (i / w)) c) (cwV 3 hts gX1_reachPiece_X1_reach rfl rfl rfl (by decide +kernel) ⟨Nat.le_of_ble_eq_true rfl, Nat.le_of_ble_eq_true rfl⟩) (m_preV (ci := 1) (q0 := 0) (hP.sub [0, 1, 2, 3] rfl) (hK.sub [0, 1, 2] rfl) (hD.sub [0, 1, 2, 3] (by decide) rfl) hN rfl rfl) rfl rfl hl.1 rfl (lv_room (Nat.le_of_ble_eq_true rfl)) dX1_reachPiece_77 ⟨Nat.le_of_ble_eq_true rfl, Nat.le_of_ble_eq_true rfl⟩) (fun u77 H locs q77 _ hP hD hS => ?_)
          obtain ⟨re77, qu77, k77⟩ := u77
          have hP : va_P (dC, dI) vwCl [(ad 0, .inr (1, [.int (nI w), .int (nI h), .ref (ad 1), .ref (ad 2), .ref (ad 3), .ref (ad 4), .ref (ad 5), .int (nI k77)])), (ad 1, .inl (tc 1, (w * h), .inl col)), (ad 4, .inl (tc 4, (w * h), .inl re77)), (ad 5, .inl (tc 5, (w * h), .inl qu77))] H := hP.sub [0, 1, 2, 3] rfl
          have hD : va_D A [(ad 0, .inr (1, [.int (nI w), .int (nI h), .ref (ad 1), .ref (ad 2), .ref (ad 3), .ref (ad 4), .ref (ad 5), .int (nI k77)])), (ad 1, .inl (tc 1, (w * h), .inl col)), (ad 4, .inl (tc 4, (w * h), .inl re77)), (ad 5, .inl (tc 5, (w * h), .inl qu77))] := hD.sub [0, 1, 2, 3] (by decide) rfl
          have hR77 : RCH w h col c (nI (i % w) - 1) (nI (i / w)) re qu k (re77, qu77, k77) := q77
          have hk77 : k77 ≤ w * h := by rcases hR77 with ⟨g, e⟩ | ⟨g, e⟩ <;> (injection e with _ e; injection e with _ e; omega)
          refine lv_aload_n hx hb dX1_reachPiece_80 rfl (lv_at hl 2 rfl) ?_
          refine lv_iload hx hb dX1_reachPiece_81 (lv_at hl 1 rfl) ?_
          refine lv_iconst (v := 1) hx hb dX1_reachPiece_83 (by decide) ?_
          refine lv_iadd hx hb dX1_reachPiece_84 ?_
          refine lv_iload hx hb dX1_reachPiece_85 (lv_at hl 0 rfl) ?_
          refine lv_iload_n hx hb dX1_reachPiece_87 rfl (lv_at hl 5 rfl) ?_
          refine m_callv (cs := [(ad 0, .inr (1, [.int (nI w), .int (nI h), .ref (ad 1), .ref (ad 2), .ref (ad 3), .ref (ad 4), .ref (ad 5), .int (nI k77)])), (ad 1, .inl (tc 1, (w * h), .inl col)), (ad 4, .inl (tc 4, (w * h), .inl re77)), (ad 5, .inl (tc 5, (w * h), .inl qu77))]) (wr := []) hP hD hS hA [0, 1, 2, 3] [] rfl rfl (by decide) (by decide) (va_runV (As := [.int ((nI (i % w)) + 1), .int (nI (i / w)), .int c]) (rest := []) ⟨hx, hb, hml, hown, hts⟩ (c_X1_reach l dC dI _ ad tc w h k77 col re77 qu77 hw1 hw2 hh1 hh2 hk77 ((nI (i % w)) + 1) (nI (i / w)) c) (cwV 3 hts gX1_reachPiece_X1_reach rfl rfl rfl (by decide +kernel) ⟨Nat.le_of_ble_eq_true rfl, Nat.le_of_ble_eq_true rfl⟩) (m_preV (ci := 1) (q0 := 0) (hP.sub [0, 1, 2, 3] rfl) (hK.sub [0, 1, 2] rfl) (hD.sub [0, 1, 2, 3] (by decide) rfl) hN rfl rfl) rfl rfl hl.1 rfl (lv_room (Nat.le_of_ble_eq_true rfl)) dX1_reachPiece_88 ⟨Nat.le_of_ble_eq_true rfl, Nat.le_of_ble_eq_true rfl⟩) (fun u88 H locs q88 _ hP hD hS => ?_)
          obtain ⟨re88, qu88, k88⟩ := u88
          have hP : va_P (dC, dI) vwCl [(ad 0, .inr (1, [.int (nI w), .int (nI h), .ref (ad 1), .ref (ad 2), .ref (ad 3), .ref (ad 4), .ref (ad 5), .int (nI k88)])), (ad 1, .inl (tc 1, (w * h), .inl col)), (ad 4, .inl (tc 4, (w * h), .inl re88)), (ad 5, .inl (tc 5, (w * h), .inl qu88))] H := hP.sub [0, 1, 2, 3] rfl
          have hD : va_D A [(ad 0, .inr (1, [.int (nI w), .int (nI h), .ref (ad 1), .ref (ad 2), .ref (ad 3), .ref (ad 4), .ref (ad 5), .int (nI k88)])), (ad 1, .inl (tc 1, (w * h), .inl col)), (ad 4, .inl (tc 4, (w * h), .inl re88)), (ad 5, .inl (tc 5, (w * h), .inl qu88))] := hD.sub [0, 1, 2, 3] (by decide) rfl
          have hR88 : RCH w h col c (nI (i % w) + 1) (nI (i / w)) re77 qu77 k77 (re88, qu88, k88) := q88
          have hk88 : k88 ≤ w * h := by rcases hR88 with ⟨g, e⟩ | ⟨g, e⟩ <;> (injection e with _ e; injection e with _ e; omega)
          refine lv_aload_n hx hb dX1_reachPiece_91 rfl (lv_at hl 2 rfl) ?_
          refine lv_iload hx hb dX1_reachPiece_92 (lv_at hl 1 rfl) ?_
          refine lv_iload hx hb dX1_reachPiece_94 (lv_at hl 0 rfl) ?_
          refine lv_iconst (v := 1) hx hb dX1_reachPiece_96 (by decide) ?_
          refine lv_isub hx hb dX1_reachPiece_97 ?_
          refine lv_iload_n hx hb dX1_reachPiece_98 rfl (lv_at hl 5 rfl) ?_
          refine m_callv (cs := [(ad 0, .inr (1, [.int (nI w), .int (nI h), .ref (ad 1), .ref (ad 2), .ref (ad 3), .ref (ad 4), .ref (ad 5), .int (nI k88)])), (ad 1, .inl (tc 1, (w * h), .inl col)), (ad 4, .inl (tc 4, (w * h), .inl re88)), (ad 5, .inl (tc 5, (w * h), .inl qu88))]) (wr := []) hP hD hS hA [0, 1, 2, 3] [] rfl rfl (by decide) (by decide) (va_runV (As := [.int (nI (i % w)), .int ((nI (i / w)) - 1), .int c]) (rest := []) ⟨hx, hb, hml, hown, hts⟩ (c_X1_reach l dC dI _ ad tc w h k88 col re88 qu88 hw1 hw2 hh1 hh2 hk88 (nI (i % w)) ((nI (i / w)) - 1) c) (cwV 3 hts gX1_reachPiece_X1_reach rfl rfl rfl (by decide +kernel) ⟨Nat.le_of_ble_eq_true rfl, Nat.le_of_ble_eq_true rfl⟩) (m_preV (ci := 1) (q0 := 0) (hP.sub [0, 1, 2, 3] rfl) (hK.sub [0, 1, 2] rfl) (hD.sub [0, 1, 2, 3] (by decide) rfl) hN rfl rfl) rfl rfl hl.1 rfl (lv_room (Nat.le_of_ble_eq_true rfl)) dX1_reachPiece_99 ⟨Nat.le_of_ble_eq_true rfl, Nat.le_of_ble_eq_true rfl⟩) (fun u99 H locs q99 _ hP hD hS => ?_)
          obtain ⟨re99, qu99, k99⟩ := u99
          have hP : va_P (dC, dI) vwCl [(ad 0, .inr (1, [.int (nI w), .int (nI h), .ref (ad 1), .ref (ad 2), .ref (ad 3), .ref (ad 4), .ref (ad 5), .int (nI k99)])), (ad 1, .inl (tc 1, (w * h), .inl col)), (ad 4, .inl (tc 4, (w * h), .inl re99)), (ad 5, .inl (tc 5, (w * h), .inl qu99))] H := hP.sub [0, 1, 2, 3] rfl
          have hD : va_D A [(ad 0, .inr (1, [.int (nI w), .int (nI h), .ref (ad 1), .ref (ad 2), .ref (ad 3), .ref (ad 4), .ref (ad 5), .int (nI k99)])), (ad 1, .inl (tc 1, (w * h), .inl col)), (ad 4, .inl (tc 4, (w * h), .inl re99)), (ad 5, .inl (tc 5, (w * h), .inl qu99))] := hD.sub [0, 1, 2, 3] (by decide) rfl
          have hR99 : RCH w h col c (nI (i % w)) (nI (i / w) - 1) re88 qu88 k88 (re99, qu99, k99) := q99
          have hk99 : k99 ≤ w * h := by rcases hR99 with ⟨g, e⟩ | ⟨g, e⟩ <;> (injection e with _ e; injection e with _ e; omega)
          refine lv_aload_n hx hb dX1_reachPiece_102 rfl (lv_at hl 2 rfl) ?_
          refine lv_iload hx hb dX1_reachPiece_103 (lv_at hl 1 rfl) ?_
          refine lv_iload hx hb dX1_reachPiece_105 (lv_at hl 0 rfl) ?_
          refine lv_iconst (v := 1) hx hb dX1_reachPiece_107 (by decide) ?_
          refine lv_iadd hx hb dX1_reachPiece_108 ?_
          refine lv_iload_n hx hb dX1_reachPiece_109 rfl (lv_at hl 5 rfl) ?_
          refine m_callv (cs := [(ad 0, .inr (1, [.int (nI w), .int (nI h), .ref (ad 1), .ref (ad 2), .ref (ad 3), .ref (ad 4), .ref (ad 5), .int (nI k99)])), (ad 1, .inl (tc 1, (w * h), .inl col)), (ad 4, .inl (tc 4, (w * h), .inl re99)), (ad 5, .inl (tc 5, (w * h), .inl qu99))]) (wr := []) hP hD hS hA [0, 1, 2, 3] [] rfl rfl (by decide) (by decide) (va_runV (As := [.int (nI (i % w)), .int ((nI (i / w)) + 1), .int c]) (rest := []) ⟨hx, hb, hml, hown, hts⟩ (c_X1_reach l dC dI _ ad tc w h k99 col re99 qu99 hw1 hw2 hh1 hh2 hk99 (nI (i % w)) ((nI (i / w)) + 1) c) (cwV 3 hts gX1_reachPiece_X1_reach rfl rfl rfl (by decide +kernel) ⟨Nat.le_of_ble_eq_true rfl, Nat.le_of_ble_eq_true rfl⟩) (m_preV (ci := 1) (q0 := 0) (hP.sub [0, 1, 2, 3] rfl) (hK.sub [0, 1, 2] rfl) (hD.sub [0, 1, 2, 3] (by decide) rfl) hN rfl rfl) rfl rfl hl.1 rfl (lv_room (Nat.le_of_ble_eq_true rfl)) dX1_reachPiece_110 ⟨Nat.le_of_ble_eq_true rfl, Nat.le_of_ble_eq_true rfl⟩) (fun u110 H locs q110 _ hP hD hS => ?_)
          obtain ⟨re110, qu110, k110⟩ := u110
          have hP : va_P (dC, dI) vwCl [(ad 0, .inr (1, [.int (nI w), .int (nI h), .ref (ad 1), .ref (ad 2), .ref (ad 3), .ref (ad 4), .ref (ad 5), .int (nI k110)])), (ad 1, .inl (tc 1, (w * h), .inl col)), (ad 4, .inl (tc 4, (w * h), .inl re110)), (ad 5, .inl (tc 5, (w * h), .inl qu110))] H := hP.sub [0, 1, 2, 3] rfl
          have hD : va_D A [(ad 0, .inr (1, [.int (nI w), .int (nI h), .ref (ad 1), .ref (ad 2), .ref (ad 3), .ref (ad 4), .ref (ad 5), .int (nI k110)])), (ad 1, .inl (tc 1, (w * h), .inl col)), (ad 4, .inl (tc 4, (w * h), .inl re110)), (ad 5, .inl (tc 5, (w * h), .inl qu110))] := hD.sub [0, 1, 2, 3] (by decide) rfl
          have hR110 : RCH w h col c (nI (i % w)) (nI (i / w) + 1) re99 qu99 k99 (re110, qu110, k110) := q110
          obtain ⟨s1, s2⟩ := BFT_step hw2 hh2 hT htk hqi hni hR77 hR88 hR99 hR110
          refine lv_iinc (v := nI (ti + 1)) (lv' := [(4, .int (nI (ti + 1))), (6, .int (nI (i / w))), (5, .int (nI (i % w))), (0, .ref (ad 0)), (1, .int x), (2, .int y), (3, .int c)]) hx hb dX1_reachPiece_113 hl (k := 6) rfl (nI_add _ 1) (by decide) rfl (fun ls hl => ?_)
          refine lv_goto (tgt := 22) hx hb dX1_reachPiece_116 (by decide) ?_
          exact ih (ti + 1) re110 qu110 k110 s2 s1 (by omega) _ _ (hP.sub [0, 1, 2, 3] rfl) (hD.sub [0, 1, 2, 3] (by decide) rfl) hS ls (lv_sub hl [3, 4, 5, 6, 0] rfl)
  exact loop (w * h + 1) 0 re16 qu16 k16 (Nat.zero_le _) ⟨t1, t2 hin0 hc0, fun j i hj => absurd hj (Nat.not_lt_zero j)⟩ (by omega) _ _ (hP.sub [0, 1, 2, 3] rfl) (hD.sub [0, 1, 2, 3] (by decide) rfl) hS ls (lv_sub hl [2, 3, 4, 1, 0] rfl)

set_option maxHeartbeats 4000000 in
set_option maxRecDepth 100000 in
/-- fill -/
theorem c_X1_fill (l : Launch) (dC : Nat → ClassId) (dI : Nat → Nat → Nat) (sz : Nat) (ad : Nat → Nat) (tc : Nat → ClassId) (w h : Nat) (qd : Int32) (col rea que : Nat → Int32) (hw1 : 1 ≤ w) (hw2 : w ≤ 24) (hh1 : 1 ≤ h) (hh2 : h ≤ 24) (x y c : Int32) : Met l yX1_fill wsX1_fill ({ frames := 4, cells := 0, slots := 0, locals := 95 }) (mP (dC, dI) vwCl [(tc 1, .int), (tc 4, .boolean), (tc 5, .int)] [(ad 0, .inr (1, [.int (nI w), .int (nI h), .ref (ad 1), .ref (ad 2), .ref (ad 3), .ref (ad 4), .ref (ad 5), .int qd])), (ad 1, .inl (tc 1, (w * h), .inl col)), (ad 4, .inl (tc 4, (w * h), .inl rea)), (ad 5, .inl (tc 5, (w * h), .inl que))] sz [.ref (ad 0), .int x, .int y, .int c]) (va_Qi (fun (r : Int32) (u : (Nat → Int32) × (Nat → Int32) × (Nat → Int32) × Int32) => (¬ (inX w h x y ∧ ¬ col (lin w x y) = c) ∧ r = 0 ∧ u.1 = col) ∨ ((inX w h x y ∧ ¬ col (lin w x y) = c) ∧ r = nI (cnt (hang w (w * h) (fun a => col a = col (lin w x y)) (lin w x y)) (w * h)) ∧ LFin (w * h) (hang w (w * h) (fun a => col a = col (lin w x y)) (lin w x y)) col c u.1)) (mB (dC, dI) vwCl [(tc 1, .int), (tc 4, .boolean), (tc 5, .int)] (va_A [(ad 0, .inr (1, [.int (nI w), .int (nI h), .ref (ad 1), .ref (ad 2), .ref (ad 3), .ref (ad 4), .ref (ad 5), .int qd])), (ad 1, .inl (tc 1, (w * h), .inl col)), (ad 4, .inl (tc 4, (w * h), .inl rea)), (ad 5, .inl (tc 5, (w * h), .inl que))] sz) (fun u => [(ad 0, .inr (1, [.int (nI w), .int (nI h), .ref (ad 1), .ref (ad 2), .ref (ad 3), .ref (ad 4), .ref (ad 5), .int u.2.2.2])), (ad 1, .inl (tc 1, (w * h), .inl u.1)), (ad 4, .inl (tc 4, (w * h), .inl u.2.1)), (ad 5, .inl (tc 5, (w * h), .inl u.2.2.1))])) (va_A [(ad 0, .inr (1, [.int (nI w), .int (nI h), .ref (ad 1), .ref (ad 2), .ref (ad 3), .ref (ad 4), .ref (ad 5), .int qd])), (ad 1, .inl (tc 1, (w * h), .inl col)), (ad 4, .inl (tc 4, (w * h), .inl rea)), (ad 5, .inl (tc 5, (w * h), .inl que))] sz)) 0 0 (va_A [(ad 0, .inr (1, [.int (nI w), .int (nI h), .ref (ad 1), .ref (ad 2), .ref (ad 3), .ref (ad 4), .ref (ad 5), .int qd])), (ad 1, .inl (tc 1, (w * h), .inl col)), (ad 4, .inl (tc 4, (w * h), .inl rea)), (ad 5, .inl (tc 5, (w * h), .inl que))] sz) := by
  refine Met.ofW (cc := cX1_fill) (maxL := 7) (ret := (some .int)) (by decide) rfl ?_
  intro p e s m args below meth cD s₁ B hml hv
  obtain ⟨rfl, hsz, hP, hK, hD0, hN⟩ := hv
  have hx := B.exec
  have hb := B.bytes
  have hr := B.returns
  have hts := atoms_spec (ws := wsX1_fill) B.pre
  have hown : s.vm.findClass RX1 = some m.cls := findClass_of_methodNamed B.named
  have hlocks := B.notSynchronized
  subst hsz
  have hD := hD0.self (sz := s.heap.size)
  generalize hAe : va_A [(ad 0, .inr (1, [.int (nI w), .int (nI h), .ref (ad 1), .ref (ad 2), .ref (ad 3), .ref (ad 4), .ref (ad 5), .int qd])), (ad 1, .inl (tc 1, (w * h), .inl col)), (ad 4, .inl (tc 4, (w * h), .inl rea)), (ad 5, .inl (tc 5, (w * h), .inl que))] s.heap.size = A at hD ⊢
  have hA : ∀ q : Nat, s.heap.size ≤ q → A q := fun q h => by rw [← hAe]; exact Or.inr h
  have hS : va_S A s.heap s.heap [] := va_S.rf
  have hP : va_P (dC, dI) vwCl [(ad 0, .inr (1, [.int (nI w), .int (nI h), .ref (ad 1), .ref (ad 2), .ref (ad 3), .ref (ad 4), .ref (ad 5), .int qd])), (ad 1, .inl (tc 1, (w * h), .inl col)), (ad 4, .inl (tc 4, (w * h), .inl rea)), (ad 5, .inl (tc 5, (w * h), .inl que))] s.heap := hP
  have hl := lv_entry ([.ref (ad 0), .int x, .int y, .int c]) (n := 7) (Nat.le_of_ble_eq_true rfl)
  rw [lg_entry_eq]
  generalize (lg_sl ([.ref (ad 0), .int x, .int y, .int c]) ++ List.replicate (7 - (lg_sl ([.ref (ad 0), .int x, .int y, .int c])).length) Slot.unset).toArray = ls at hl ⊢
  have hl : lv_has ls 7 [(0, .ref (ad 0)), (1, .int x), (2, .int y), (3, .int c)] := hl
  have hwh := wh_le hw2 hh2
  refine lv_aload_n hx hb dX1_fill_0 rfl (lv_at hl 0 rfl) ?_
  refine lv_iload_n hx hb dX1_fill_1 rfl (lv_at hl 1 rfl) ?_
  refine lv_iload_n hx hb dX1_fill_2 rfl (lv_at hl 2 rfl) ?_
  refine m_calli (cs := [(ad 0, .inr (1, [.int (nI w), .int (nI h), .ref (ad 1), .ref (ad 2), .ref (ad 3), .ref (ad 4), .ref (ad 5), .int qd]))]) (wr := [(ad 1, .inl (tc 1, (w * h), .inl col)), (ad 4, .inl (tc 4, (w * h), .inl rea)), (ad 5, .inl (tc 5, (w * h), .inl que))]) hP hD hS hA [0] [1, 2, 3] rfl rfl (by decide) (by decide) (va_runV (As := [.int x, .int y]) (rest := []) ⟨hx, hb, hml, hown, hts⟩ (c_X1_indexOf l dC dI _ ad w h qd hw1 hw2 hh1 hh2 x y) (cwV 2 hts gX1_fill_X1_indexOf rfl rfl rfl (by decide +kernel) ⟨Nat.le_of_ble_eq_true rfl, Nat.le_of_ble_eq_true rfl⟩) (m_preV (ci := 1) (q0 := 0) (hP.sub [0] rfl) (hK.sub [] rfl) (hD.sub [0] (by decide) rfl) hN rfl rfl) rfl rfl hl.1 rfl (lv_room (Nat.le_of_ble_eq_true rfl)) dX1_fill_3 ⟨Nat.le_of_ble_eq_true rfl, Nat.le_of_ble_eq_true rfl⟩) (fun r3 _ H locs q3 _ hP hD hS => ?_)
  have hP : va_P (dC, dI) vwCl [(ad 0, .inr (1, [.int (nI w), .int (nI h), .ref (ad 1), .ref (ad 2), .ref (ad 3), .ref (ad 4), .ref (ad 5), .int qd])), (ad 1, .inl (tc 1, (w * h), .inl col)), (ad 4, .inl (tc 4, (w * h), .inl rea)), (ad 5, .inl (tc 5, (w * h), .inl que))] H := hP.sub [3, 0, 1, 2] rfl
  have hD : va_D A [(ad 0, .inr (1, [.int (nI w), .int (nI h), .ref (ad 1), .ref (ad 2), .ref (ad 3), .ref (ad 4), .ref (ad 5), .int qd])), (ad 1, .inl (tc 1, (w * h), .inl col)), (ad 4, .inl (tc 4, (w * h), .inl rea)), (ad 5, .inl (tc 5, (w * h), .inl que))] := hD.sub [3, 0, 1, 2] (by decide) rfl
  refine lv_istore (lv' := [(4, .int r3), (0, .ref (ad 0)), (1, .int x), (2, .int y), (3, .int c)]) hx hb dX1_fill_6 hl (by decide) rfl (fun ls hl => ?_)
  refine lv_iload hx hb dX1_fill_8 (lv_at hl 0 rfl) ?_
  refine lv_iconst (v := (-1)) hx hb dX1_fill_10 (by decide) ?_
  refine lv_icmp_eq (tgt := 25) hx hb dX1_fill_11 (by decide) (fun c11 => ?_) (fun c11 => ?_)
  · refine lv_iconst (v := 0) hx hb dX1_fill_25 (by decide) ?_
    have hP9 := hP.sub (ws' := [(ad 0, .inr (1, [.int (nI w), .int (nI h), .ref (ad 1), .ref (ad 2), .ref (ad 3), .ref (ad 4), .ref (ad 5), .int qd])), (ad 1, .inl (tc 1, (w * h), .inl col)), (ad 4, .inl (tc 4, (w * h), .inl rea)), (ad 5, .inl (tc 5, (w * h), .inl que))]) [0, 1, 2, 3] rfl
    have hD9 := hD.sub (ws' := [(ad 0, .inr (1, [.int (nI w), .int (nI h), .ref (ad 1), .ref (ad 2), .ref (ad 3), .ref (ad 4), .ref (ad 5), .int qd])), (ad 1, .inl (tc 1, (w * h), .inl col)), (ad 4, .inl (tc 4, (w * h), .inl rea)), (ad 5, .inl (tc 5, (w * h), .inl que))]) [0, 1, 2, 3] (by decide) rfl
    exact W.iret (v := 0) hx hb hr (fun t ht hW => ⟨⟨0, (col, rea, que, qd), rfl, Or.inl ⟨fun q => (fun h => (by rcases q3 with h1 | h1; exact nI_m1 (n := lin w x y) (by have := lin_lt h; have := wh_le hw2 hh2; omega) (h1.2.symm.trans c11); exact h1.1 h)) q.1, rfl, rfl⟩, by rw [ht]; exact hP9, va_K.moved hW.alike hK, hD9⟩, hS.F ht⟩) hS.2.2 dX1_fill_26
  · have hc9 : inX w h x y ∧ r3 = nI (lin w x y) := by
      rcases q3 with h | h
      · exact h
      · exact absurd h.2 c11
    have hlt9 := lin_lt hc9.1
    have hwh9 := wh_le hw2 hh2
    have hi9 : vp_in r3 (w * h) := by rw [hc9.2]; exact vp_in_nI hlt9 (by omega)
    have hcl9 : r3.toNatClampNeg = lin w x y := by rw [hc9.2]; exact nI_clamp (by omega)
    refine lv_aload_n hx hb dX1_fill_14 rfl (lv_at hl 1 rfl) ?_
    refine va_get (D := (dC, dI)) (ci := 1) (v := .ref (ad 1)) (C := RX1) (T := TX1) (N := 8) hx hb hts (by decide +kernel) hown hK hP 0 rfl rfl 2 (by decide) (hts (.fieldLink RX1 20 "TriangleRaster" "colours" "[I") (by decide +kernel)) (fun _ h9 => h9) rfl dX1_fill_15 ?_
    refine lv_iload hx hb dX1_fill_18 (lv_at hl 0 rfl) ?_
    refine va_iald hx hb hK hP 1 0 rfl rfl hi9 dX1_fill_20 ?_
    refine lv_topi (fun v20 ev20 => ?_)
    rw [hcl9] at ev20
    refine lv_iload_n hx hb dX1_fill_21 rfl (lv_at hl 4 rfl) ?_
    refine lv_icmp_ne (tgt := 27) hx hb dX1_fill_22 (by decide) (fun c22 => ?_) (fun c22 => ?_)
    · refine lv_aload_n hx hb dX1_fill_27 rfl (lv_at hl 1 rfl) ?_
      refine m_callv (cs := [(ad 0, .inr (1, [.int (nI w), .int (nI h), .ref (ad 1), .ref (ad 2), .ref (ad 3), .ref (ad 4), .ref (ad 5), .int qd])), (ad 4, .inl (tc 4, (w * h), .inl rea))]) (wr := [(ad 1, .inl (tc 1, (w * h), .inl col)), (ad 5, .inl (tc 5, (w * h), .inl que))]) hP hD hS hA [0, 2] [1, 3] rfl rfl (by decide) (by decide) (va_runV (As := []) (rest := []) ⟨hx, hb, hml, hown, hts⟩ (c_X1_forgetReached l dC dI _ ad tc w h qd rea hw1 hw2 hh1 hh2) (cwV 0 hts gX1_fill_X1_forgetReached rfl rfl rfl (by decide +kernel) ⟨Nat.le_of_ble_eq_true rfl, Nat.le_of_ble_eq_true rfl⟩) (m_preV (ci := 1) (q0 := 0) (hP.sub [0, 2] rfl) (hK.sub [1] rfl) (hD.sub [0, 2] (by decide) rfl) hN rfl rfl) rfl rfl hl.1 rfl (lv_room (Nat.le_of_ble_eq_true rfl)) dX1_fill_28 ⟨Nat.le_of_ble_eq_true rfl, Nat.le_of_ble_eq_true rfl⟩) (fun g28 H locs q28 _ hP hD hS => ?_)
      have hP : va_P (dC, dI) vwCl [(ad 0, .inr (1, [.int (nI w), .int (nI h), .ref (ad 1), .ref (ad 2), .ref (ad 3), .ref (ad 4), .ref (ad 5), .int qd])), (ad 1, .inl (tc 1, (w * h), .inl col)), (ad 4, .inl (tc 4, (w * h), .inl g28)), (ad 5, .inl (tc 5, (w * h), .inl que))] H := hP.sub [2, 0, 3, 1] rfl
      have hD : va_D A [(ad 0, .inr (1, [.int (nI w), .int (nI h), .ref (ad 1), .ref (ad 2), .ref (ad 3), .ref (ad 4), .ref (ad 5), .int qd])), (ad 1, .inl (tc 1, (w * h), .inl col)), (ad 4, .inl (tc 4, (w * h), .inl g28)), (ad 5, .inl (tc 5, (w * h), .inl que))] := hD.sub [2, 0, 3, 1] (by decide) rfl
      refine lv_aload_n hx hb dX1_fill_31 rfl (lv_at hl 1 rfl) ?_
      refine lv_iload_n hx hb dX1_fill_32 rfl (lv_at hl 2 rfl) ?_
      refine lv_iload_n hx hb dX1_fill_33 rfl (lv_at hl 3 rfl) ?_
      refine m_calli (cs := [(ad 0, .inr (1, [.int (nI w), .int (nI h), .ref (ad 1), .ref (ad 2), .ref (ad 3), .ref (ad 4), .ref (ad 5), .int qd])), (ad 1, .inl (tc 1, (w * h), .inl col)), (ad 4, .inl (tc 4, (w * h), .inl g28)), (ad 5, .inl (tc 5, (w * h), .inl que))]) (wr := []) hP hD hS hA [0, 1, 2, 3] [] rfl rfl (by decide) (by decide) (va_runV (As := [.int x, .int y]) (rest := []) ⟨hx, hb, hml, hown, hts⟩ (c_X1_reachPiece l dC dI _ ad tc w h qd col g28 que hw1 hw2 hh1 hh2 x y (col (lin w x y)) hc9.1 rfl (q28 _ hlt9) (OLD_0 q28)) (cwV 2 hts gX1_fill_X1_reachPiece rfl rfl rfl (by decide +kernel) ⟨Nat.le_of_ble_eq_true rfl, Nat.le_of_ble_eq_true rfl⟩) (m_preV (ci := 1) (q0 := 0) (hP.sub [0, 1, 2, 3] rfl) (hK.sub [0, 1, 2] rfl) (hD.sub [0, 1, 2, 3] (by decide) rfl) hN rfl rfl) rfl rfl hl.1 rfl (lv_room (Nat.le_of_ble_eq_true rfl)) dX1_fill_34 ⟨Nat.le_of_ble_eq_true rfl, Nat.le_of_ble_eq_true rfl⟩) (fun r34 u34 H locs q34 _ hP hD hS => ?_)
      obtain ⟨re34, qu34, k34⟩ := u34
      have hP : va_P (dC, dI) vwCl [(ad 0, .inr (1, [.int (nI w), .int (nI h), .ref (ad 1), .ref (ad 2), .ref (ad 3), .ref (ad 4), .ref (ad 5), .int (nI k34)])), (ad 1, .inl (tc 1, (w * h), .inl col)), (ad 4, .inl (tc 4, (w * h), .inl re34)), (ad 5, .inl (tc 5, (w * h), .inl qu34))] H := hP.sub [0, 1, 2, 3] rfl
      have hD : va_D A [(ad 0, .inr (1, [.int (nI w), .int (nI h), .ref (ad 1), .ref (ad 2), .ref (ad 3), .ref (ad 4), .ref (ad 5), .int (nI k34)])), (ad 1, .inl (tc 1, (w * h), .inl col)), (ad 4, .inl (tc 4, (w * h), .inl re34)), (ad 5, .inl (tc 5, (w * h), .inl qu34))] := hD.sub [0, 1, 2, 3] (by decide) rfl
      obtain ⟨e34, p1, p2, p3, p4, p5⟩ := q34
      have e34 : r34 = nI k34 := e34
      subst e34
      have p1 : k34 ≤ w * h := p1
      refine lv_istore (lv' := [(5, .int (nI k34)), (4, .int r3), (0, .ref (ad 0)), (1, .int x), (2, .int y), (3, .int c)]) hx hb dX1_fill_37 hl (by decide) rfl (fun ls hl => ?_)
      refine lv_iconst (v := 0) hx hb dX1_fill_39 (by decide) ?_
      refine lv_topi (fun zz ezz => ?_)
      obtain rfl : zz = nI 0 := ezz.trans (nI_0.symm)
      refine lv_istore (lv' := [(6, .int (nI 0)), (5, .int (nI k34)), (4, .int r3), (0, .ref (ad 0)), (1, .int x), (2, .int y), (3, .int c)]) hx hb dX1_fill_40 hl (by decide) rfl (fun ls hl => ?_)
      have loop : ∀ (n : Nat) (ti : Nat) (g : Nat → Int32), ti ≤ k34 → FILLI (w * h) qu34 col c ti g → k34 + 1 ≤ ti + n → ∀ (H : Heap) (locs : List Loc), va_P (dC, dI) vwCl [(ad 0, .inr (1, [.int (nI w), .int (nI h), .ref (ad 1), .ref (ad 2), .ref (ad 3), .ref (ad 4), .ref (ad 5), .int (nI k34)])), (ad 1, .inl (tc 1, (w * h), .inl g)), (ad 4, .inl (tc 4, (w * h), .inl re34)), (ad 5, .inl (tc 5, (w * h), .inl qu34))] H → va_D A [(ad 0, .inr (1, [.int (nI w), .int (nI h), .ref (ad 1), .ref (ad 2), .ref (ad 3), .ref (ad 4), .ref (ad 5), .int (nI k34)])), (ad 1, .inl (tc 1, (w * h), .inl g)), (ad 4, .inl (tc 4, (w * h), .inl re34)), (ad 5, .inl (tc 5, (w * h), .inl qu34))] → va_S A s.heap H locs → ∀ (ls : Array Slot), lv_has ls 7 [(0, .ref (ad 0)), (1, .int x), (2, .int y), (3, .int c), (4, .int r3), (5, .int (nI k34)), (6, .int (nI ti))] → W p l e (headSpec wsX1_fill { frames := 4, cells := 0, slots := 0, locals := 95 }).room s m [.ref (ad 0), .int x, .int y, .int c].toArray below meth cD H locs 0 0 (MQ below (va_Qi (fun (r : Int32) (u : (Nat → Int32) × (Nat → Int32) × (Nat → Int32) × Int32) => (¬ (inX w h x y ∧ ¬ col (lin w x y) = c) ∧ r = 0 ∧ u.1 = col) ∨ ((inX w h x y ∧ ¬ col (lin w x y) = c) ∧ r = nI (cnt (hang w (w * h) (fun a => col a = col (lin w x y)) (lin w x y)) (w * h)) ∧ LFin (w * h) (hang w (w * h) (fun a => col a = col (lin w x y)) (lin w x y)) col c u.1)) (mB (dC, dI) vwCl [(tc 1, .int), (tc 4, .boolean), (tc 5, .int)] A (fun u => [(ad 0, .inr (1, [.int (nI w), .int (nI h), .ref (ad 1), .ref (ad 2), .ref (ad 3), .ref (ad 4), .ref (ad 5), .int u.2.2.2])), (ad 1, .inl (tc 1, (w * h), .inl u.1)), (ad 4, .inl (tc 4, (w * h), .inl u.2.1)), (ad 5, .inl (tc 5, (w * h), .inl u.2.2.1))])) A) [.ref (ad 0), .int x, .int y, .int c].toArray s 0 0 A) (F0 m 42 ls []) := by
        intro n
        induction n with
        | zero => intro ti g ht hI hm; exfalso; omega
        | succ n ih =>
          intro ti g ht hI hm H locs hP hD hS ls hl
          refine lv_iload hx hb dX1_fill_42 (lv_at hl 6 rfl) ?_
          refine lv_iload hx hb dX1_fill_44 (lv_at hl 5 rfl) ?_
          refine lv_icmp_ge (tgt := 68) hx hb dX1_fill_46 (by decide) (fun c46 => ?_) (fun c46 => ?_)
          · refine lv_iload hx hb dX1_fill_68 (lv_at hl 5 rfl) ?_
            have hP9 := hP.sub (ws' := [(ad 0, .inr (1, [.int (nI w), .int (nI h), .ref (ad 1), .ref (ad 2), .ref (ad 3), .ref (ad 4), .ref (ad 5), .int (nI k34)])), (ad 1, .inl (tc 1, (w * h), .inl g)), (ad 4, .inl (tc 4, (w * h), .inl re34)), (ad 5, .inl (tc 5, (w * h), .inl qu34))]) [0, 1, 2, 3] rfl
            have hD9 := hD.sub (ws' := [(ad 0, .inr (1, [.int (nI w), .int (nI h), .ref (ad 1), .ref (ad 2), .ref (ad 3), .ref (ad 4), .ref (ad 5), .int (nI k34)])), (ad 1, .inl (tc 1, (w * h), .inl g)), (ad 4, .inl (tc 4, (w * h), .inl re34)), (ad 5, .inl (tc 5, (w * h), .inl qu34))]) [0, 1, 2, 3] (by decide) rfl
            exact W.iret (v := (nI k34)) hx hb hr (fun t ht hW => ⟨⟨nI k34, (g, re34, qu34, nI k34), rfl, Or.inr ⟨⟨hc9.1, fun q => c22 (ev20.trans q)⟩, by rw [show k34 = _ from p2], by have htk : ti = k34 := (by rw [nI_leI (by omega) (by omega)] at c46; omega); rw [htk] at hI; exact FILL_fin (by omega) hI p4 p5⟩, by rw [ht]; exact hP9, va_K.moved hW.alike hK, hD9⟩, hS.F ht⟩) hS.2.2 dX1_fill_70
          · have htk : ti < k34 := by rw [nI_leI (by omega) (by omega)] at c46; omega
            obtain ⟨i, hin, hqi, hhi⟩ := p4 ti htk
            have hqi : qu34 ti = nI i := hqi
            refine lv_aload_n hx hb dX1_fill_49 rfl (lv_at hl 0 rfl) ?_
            refine va_get (D := (dC, dI)) (ci := 1) (v := .ref (ad 1)) (C := RX1) (T := TX1) (N := 8) hx hb hts (by decide +kernel) hown hK hP 0 rfl rfl 2 (by decide) (hts (.fieldLink RX1 20 "TriangleRaster" "colours" "[I") (by decide +kernel)) (fun _ h9 => h9) rfl dX1_fill_50 ?_
            refine lv_aload_n hx hb dX1_fill_53 rfl (lv_at hl 0 rfl) ?_
            refine va_get (D := (dC, dI)) (ci := 1) (v := .ref (ad 5)) (C := RX1) (T := TX1) (N := 8) hx hb hts (by decide +kernel) hown hK hP 0 rfl rfl 6 (by decide) (hts (.fieldLink RX1 38 "TriangleRaster" "queue" "[I") (by decide +kernel)) (fun _ h9 => h9) rfl dX1_fill_54 ?_
            refine lv_iload hx hb dX1_fill_57 (lv_at hl 6 rfl) ?_
            refine va_iald hx hb hK hP 3 2 rfl rfl (vp_in_nI (n := ti) (by omega) (by omega)) dX1_fill_59 ?_
            refine lv_topi (fun zz ezz => ?_)
            obtain rfl : zz = nI i := ezz.trans ((show qu34 (nI ti).toNatClampNeg = nI i from (by rw [nI_clamp (by omega)]; exact hqi)))
            refine lv_iload_n hx hb dX1_fill_60 rfl (lv_at hl 3 rfl) ?_
            refine va_iast hx hb hK hP hD hS 1 0 rfl rfl (vp_in_nI hin (by omega)) dX1_fill_61 (fun H locs hP hD hS => ?_)
            have hP : va_P (dC, dI) vwCl [(ad 0, .inr (1, [.int (nI w), .int (nI h), .ref (ad 1), .ref (ad 2), .ref (ad 3), .ref (ad 4), .ref (ad 5), .int (nI k34)])), (ad 1, .inl (tc 1, (w * h), .inl (upd g (nI i).toNatClampNeg c))), (ad 4, .inl (tc 4, (w * h), .inl re34)), (ad 5, .inl (tc 5, (w * h), .inl qu34))] H := hP
            have hD : va_D A [(ad 0, .inr (1, [.int (nI w), .int (nI h), .ref (ad 1), .ref (ad 2), .ref (ad 3), .ref (ad 4), .ref (ad 5), .int (nI k34)])), (ad 1, .inl (tc 1, (w * h), .inl (upd g (nI i).toNatClampNeg c))), (ad 4, .inl (tc 4, (w * h), .inl re34)), (ad 5, .inl (tc 5, (w * h), .inl qu34))] := hD
            refine lv_iinc (v := nI (ti + 1)) (lv' := [(6, .int (nI (ti + 1))), (0, .ref (ad 0)), (1, .int x), (2, .int y), (3, .int c), (4, .int r3), (5, .int (nI k34))]) hx hb dX1_fill_62 hl (k := 6) rfl (nI_add _ 1) (by decide) rfl (fun ls hl => ?_)
            refine lv_goto (tgt := 42) hx hb dX1_fill_65 (by decide) ?_
            exact ih (ti + 1) (upd g (nI i).toNatClampNeg c) (by omega) (by rw [nI_clamp (by omega)]; exact FILL_step hI hqi (by omega)) (by omega) _ _ (hP.sub [0, 1, 2, 3] rfl) (hD.sub [0, 1, 2, 3] (by decide) rfl) hS ls (lv_sub hl [1, 2, 3, 4, 5, 6, 0] rfl)
      exact loop (k34 + 1) 0 col (Nat.zero_le _) FILL_0 (by omega) _ _ (hP.sub [0, 1, 2, 3] rfl) (hD.sub [0, 1, 2, 3] (by decide) rfl) hS ls (lv_sub hl [3, 4, 5, 6, 2, 1, 0] rfl)
    · refine lv_iconst (v := 0) hx hb dX1_fill_25 (by decide) ?_
      have hP9 := hP.sub (ws' := [(ad 0, .inr (1, [.int (nI w), .int (nI h), .ref (ad 1), .ref (ad 2), .ref (ad 3), .ref (ad 4), .ref (ad 5), .int qd])), (ad 1, .inl (tc 1, (w * h), .inl col)), (ad 4, .inl (tc 4, (w * h), .inl rea)), (ad 5, .inl (tc 5, (w * h), .inl que))]) [0, 1, 2, 3] rfl
      have hD9 := hD.sub (ws' := [(ad 0, .inr (1, [.int (nI w), .int (nI h), .ref (ad 1), .ref (ad 2), .ref (ad 3), .ref (ad 4), .ref (ad 5), .int qd])), (ad 1, .inl (tc 1, (w * h), .inl col)), (ad 4, .inl (tc 4, (w * h), .inl rea)), (ad 5, .inl (tc 5, (w * h), .inl que))]) [0, 1, 2, 3] (by decide) rfl
      exact W.iret (v := 0) hx hb hr (fun t ht hW => ⟨⟨0, (col, rea, que, qd), rfl, Or.inl ⟨fun q => q.2 (ev20.symm.trans c22), rfl, rfl⟩, by rw [ht]; exact hP9, va_K.moved hW.alike hK, hD9⟩, hS.F ht⟩) hS.2.2 dX1_fill_26

set_option maxHeartbeats 4000000 in
set_option maxRecDepth 100000 in
/-- pieces -/
theorem c_X1_pieces (l : Launch) (dC : Nat → ClassId) (dI : Nat → Nat → Nat) (sz : Nat) (ad : Nat → Nat) (tc : Nat → ClassId) (w h : Nat) (qd : Int32) (col rea que : Nat → Int32) (hw1 : 1 ≤ w) (hw2 : w ≤ 24) (hh1 : 1 ≤ h) (hh2 : h ≤ 24) (c : Int32) : Met l yX1_pieces wsX1_pieces ({ frames := 4, cells := 0, slots := 0, locals := 95 }) (mP (dC, dI) vwCl [(tc 1, .int), (tc 4, .boolean), (tc 5, .int)] [(ad 0, .inr (1, [.int (nI w), .int (nI h), .ref (ad 1), .ref (ad 2), .ref (ad 3), .ref (ad 4), .ref (ad 5), .int qd])), (ad 1, .inl (tc 1, (w * h), .inl col)), (ad 4, .inl (tc 4, (w * h), .inl rea)), (ad 5, .inl (tc 5, (w * h), .inl que))] sz [.ref (ad 0), .int c]) (va_Qi (fun (r : Int32) (u : (Nat → Int32) × (Nat → Int32) × Int32) => r = nI (cnt (PCS w (w * h) col c) (w * h))) (mB (dC, dI) vwCl [(tc 1, .int), (tc 4, .boolean), (tc 5, .int)] (va_A [(ad 0, .inr (1, [.int (nI w), .int (nI h), .ref (ad 1), .ref (ad 2), .ref (ad 3), .ref (ad 4), .ref (ad 5), .int qd])), (ad 1, .inl (tc 1, (w * h), .inl col)), (ad 4, .inl (tc 4, (w * h), .inl rea)), (ad 5, .inl (tc 5, (w * h), .inl que))] sz) (fun u => [(ad 0, .inr (1, [.int (nI w), .int (nI h), .ref (ad 1), .ref (ad 2), .ref (ad 3), .ref (ad 4), .ref (ad 5), .int u.2.2])), (ad 1, .inl (tc 1, (w * h), .inl col)), (ad 4, .inl (tc 4, (w * h), .inl u.1)), (ad 5, .inl (tc 5, (w * h), .inl u.2.1))])) (va_A [(ad 0, .inr (1, [.int (nI w), .int (nI h), .ref (ad 1), .ref (ad 2), .ref (ad 3), .ref (ad 4), .ref (ad 5), .int qd])), (ad 1, .inl (tc 1, (w * h), .inl col)), (ad 4, .inl (tc 4, (w * h), .inl rea)), (ad 5, .inl (tc 5, (w * h), .inl que))] sz)) 0 0 (va_A [(ad 0, .inr (1, [.int (nI w), .int (nI h), .ref (ad 1), .ref (ad 2), .ref (ad 3), .ref (ad 4), .ref (ad 5), .int qd])), (ad 1, .inl (tc 1, (w * h), .inl col)), (ad 4, .inl (tc 4, (w * h), .inl rea)), (ad 5, .inl (tc 5, (w * h), .inl que))] sz) := by
  refine Met.ofW (cc := cX1_pieces) (maxL := 4) (ret := (some .int)) (by decide) rfl ?_
  intro p e s m args below meth cD s₁ B hml hv
  obtain ⟨rfl, hsz, hP, hK, hD0, hN⟩ := hv
  have hx := B.exec
  have hb := B.bytes
  have hr := B.returns
  have hts := atoms_spec (ws := wsX1_pieces) B.pre
  have hown : s.vm.findClass RX1 = some m.cls := findClass_of_methodNamed B.named
  have hlocks := B.notSynchronized
  subst hsz
  have hD := hD0.self (sz := s.heap.size)
  generalize hAe : va_A [(ad 0, .inr (1, [.int (nI w), .int (nI h), .ref (ad 1), .ref (ad 2), .ref (ad 3), .ref (ad 4), .ref (ad 5), .int qd])), (ad 1, .inl (tc 1, (w * h), .inl col)), (ad 4, .inl (tc 4, (w * h), .inl rea)), (ad 5, .inl (tc 5, (w * h), .inl que))] s.heap.size = A at hD ⊢
  have hA : ∀ q : Nat, s.heap.size ≤ q → A q := fun q h => by rw [← hAe]; exact Or.inr h
  have hS : va_S A s.heap s.heap [] := va_S.rf
  have hP : va_P (dC, dI) vwCl [(ad 0, .inr (1, [.int (nI w), .int (nI h), .ref (ad 1), .ref (ad 2), .ref (ad 3), .ref (ad 4), .ref (ad 5), .int qd])), (ad 1, .inl (tc 1, (w * h), .inl col)), (ad 4, .inl (tc 4, (w * h), .inl rea)), (ad 5, .inl (tc 5, (w * h), .inl que))] s.heap := hP
  have hl := lv_entry ([.ref (ad 0), .int c]) (n := 4) (Nat.le_of_ble_eq_true rfl)
  rw [lg_entry_eq]
  generalize (lg_sl ([.ref (ad 0), .int c]) ++ List.replicate (4 - (lg_sl ([.ref (ad 0), .int c])).length) Slot.unset).toArray = ls at hl ⊢
  have hl : lv_has ls 4 [(0, .ref (ad 0)), (1, .int c)] := hl
  have hwh := wh_le hw2 hh2
  refine lv_aload_n hx hb dX1_pieces_0 rfl (lv_at hl 0 rfl) ?_
  refine m_callv (cs := [(ad 0, .inr (1, [.int (nI w), .int (nI h), .ref (ad 1), .ref (ad 2), .ref (ad 3), .ref (ad 4), .ref (ad 5), .int qd])), (ad 4, .inl (tc 4, (w * h), .inl rea))]) (wr := [(ad 1, .inl (tc 1, (w * h), .inl col)), (ad 5, .inl (tc 5, (w * h), .inl que))]) hP hD hS hA [0, 2] [1, 3] rfl rfl (by decide) (by decide) (va_runV (As := []) (rest := []) ⟨hx, hb, hml, hown, hts⟩ (c_X1_forgetReached l dC dI _ ad tc w h qd rea hw1 hw2 hh1 hh2) (cwV 0 hts gX1_pieces_X1_forgetReached rfl rfl rfl (by decide +kernel) ⟨Nat.le_of_ble_eq_true rfl, Nat.le_of_ble_eq_true rfl⟩) (m_preV (ci := 1) (q0 := 0) (hP.sub [0, 2] rfl) (hK.sub [1] rfl) (hD.sub [0, 2] (by decide) rfl) hN rfl rfl) rfl rfl hl.1 rfl (lv_room (Nat.le_of_ble_eq_true rfl)) dX1_pieces_1 ⟨Nat.le_of_ble_eq_true rfl, Nat.le_of_ble_eq_true rfl⟩) (fun g1 H locs q1 _ hP hD hS => ?_)
  have hP : va_P (dC, dI) vwCl [(ad 0, .inr (1, [.int (nI w), .int (nI h), .ref (ad 1), .ref (ad 2), .ref (ad 3), .ref (ad 4), .ref (ad 5), .int qd])), (ad 1, .inl (tc 1, (w * h), .inl col)), (ad 4, .inl (tc 4, (w * h), .inl g1)), (ad 5, .inl (tc 5, (w * h), .inl que))] H := hP.sub [2, 0, 3, 1] rfl
  have hD : va_D A [(ad 0, .inr (1, [.int (nI w), .int (nI h), .ref (ad 1), .ref (ad 2), .ref (ad 3), .ref (ad 4), .ref (ad 5), .int qd])), (ad 1, .inl (tc 1, (w * h), .inl col)), (ad 4, .inl (tc 4, (w * h), .inl g1)), (ad 5, .inl (tc 5, (w * h), .inl que))] := hD.sub [2, 0, 3, 1] (by decide) rfl
  refine lv_iconst (v := 0) hx hb dX1_pieces_4 (by decide) ?_
  refine lv_topi (fun zz ezz => ?_)
  obtain rfl : zz = nI 0 := ezz.trans (nI_0.symm)
  refine lv_istore_n (lv' := [(2, .int (nI 0)), (0, .ref (ad 0)), (1, .int c)]) hx hb dX1_pieces_5 rfl hl (by decide) rfl (fun ls hl => ?_)
  refine lv_iconst (v := 0) hx hb dX1_pieces_6 (by decide) ?_
  refine lv_topi (fun zz ezz => ?_)
  obtain rfl : zz = nI 0 := ezz.trans (nI_0.symm)
  refine lv_istore_n (lv' := [(3, .int (nI 0)), (2, .int (nI 0)), (0, .ref (ad 0)), (1, .int c)]) hx hb dX1_pieces_7 rfl hl (by decide) rfl (fun ls hl => ?_)
  have loop : ∀ (n : Nat) (i : Nat) (k : Nat) (re : Nat → Int32) (qu : Nat → Int32) (qq : Int32), i ≤ w * h → k = cnt (PCS w (w * h) col c) i → PRE w (w * h) col c i re → w * h + 1 ≤ i + n → ∀ (H : Heap) (locs : List Loc), va_P (dC, dI) vwCl [(ad 0, .inr (1, [.int (nI w), .int (nI h), .ref (ad 1), .ref (ad 2), .ref (ad 3), .ref (ad 4), .ref (ad 5), .int qq])), (ad 1, .inl (tc 1, (w * h), .inl col)), (ad 4, .inl (tc 4, (w * h), .inl re)), (ad 5, .inl (tc 5, (w * h), .inl qu))] H → va_D A [(ad 0, .inr (1, [.int (nI w), .int (nI h), .ref (ad 1), .ref (ad 2), .ref (ad 3), .ref (ad 4), .ref (ad 5), .int qq])), (ad 1, .inl (tc 1, (w * h), .inl col)), (ad 4, .inl (tc 4, (w * h), .inl re)), (ad 5, .inl (tc 5, (w * h), .inl qu))] → va_S A s.heap H locs → ∀ (ls : Array Slot), lv_has ls 4 [(0, .ref (ad 0)), (1, .int c), (2, .int (nI k)), (3, .int (nI i))] → W p l e (headSpec wsX1_pieces { frames := 4, cells := 0, slots := 0, locals := 95 }).room s m [.ref (ad 0), .int c].toArray below meth cD H locs 0 0 (MQ below (va_Qi (fun (r : Int32) (u : (Nat → Int32) × (Nat → Int32) × Int32) => r = nI (cnt (PCS w (w * h) col c) (w * h))) (mB (dC, dI) vwCl [(tc 1, .int), (tc 4, .boolean), (tc 5, .int)] A (fun u => [(ad 0, .inr (1, [.int (nI w), .int (nI h), .ref (ad 1), .ref (ad 2), .ref (ad 3), .ref (ad 4), .ref (ad 5), .int u.2.2])), (ad 1, .inl (tc 1, (w * h), .inl col)), (ad 4, .inl (tc 4, (w * h), .inl u.1)), (ad 5, .inl (tc 5, (w * h), .inl u.2.1))])) A) [.ref (ad 0), .int c].toArray s 0 0 A) (F0 m 8 ls []) := by
    intro n
    induction n with
    | zero => intro i k re qu qq hi hk hI hm; exfalso; omega
    | succ n ih =>
      intro i k re qu qq hi hk hI hm H locs hP hD hS ls hl
      refine lv_iload_n hx hb dX1_pieces_8 rfl (lv_at hl 3 rfl) ?_
      refine lv_aload_n hx hb dX1_pieces_9 rfl (lv_at hl 0 rfl) ?_
      refine va_get (D := (dC, dI)) (ci := 1) (v := .ref (ad 1)) (C := RX1) (T := TX1) (N := 8) hx hb hts (by decide +kernel) hown hK hP 0 rfl rfl 2 (by decide) (hts (.fieldLink RX1 20 "TriangleRaster" "colours" "[I") (by decide +kernel)) (fun _ h9 => h9) rfl dX1_pieces_10 ?_
      refine va_alen (v := nI (w * h)) hx hb hK hP 1 0 rfl rfl rfl dX1_pieces_13 ?_
      refine lv_icmp_ge (tgt := 62) hx hb dX1_pieces_14 (by decide) (fun c14 => ?_) (fun c14 => ?_)
      · refine lv_iload_n hx hb dX1_pieces_62 rfl (lv_at hl 2 rfl) ?_
        have hP9 := hP.sub (ws' := [(ad 0, .inr (1, [.int (nI w), .int (nI h), .ref (ad 1), .ref (ad 2), .ref (ad 3), .ref (ad 4), .ref (ad 5), .int qq])), (ad 1, .inl (tc 1, (w * h), .inl col)), (ad 4, .inl (tc 4, (w * h), .inl re)), (ad 5, .inl (tc 5, (w * h), .inl qu))]) [0, 1, 2, 3] rfl
        have hD9 := hD.sub (ws' := [(ad 0, .inr (1, [.int (nI w), .int (nI h), .ref (ad 1), .ref (ad 2), .ref (ad 3), .ref (ad 4), .ref (ad 5), .int qq])), (ad 1, .inl (tc 1, (w * h), .inl col)), (ad 4, .inl (tc 4, (w * h), .inl re)), (ad 5, .inl (tc 5, (w * h), .inl qu))]) [0, 1, 2, 3] (by decide) rfl
        exact W.iret (v := (nI k)) hx hb hr (fun t ht hW => ⟨⟨nI k, (re, qu, qq), rfl, by rw [hk, show i = w * h by rw [nI_leI (by omega) (by omega)] at c14; omega], by rw [ht]; exact hP9, va_K.moved hW.alike hK, hD9⟩, hS.F ht⟩) hS.2.2 dX1_pieces_63
      · have hlt : i < w * h := by rw [nI_leI (by omega) (by omega)] at c14; omega
        have hbd := row_bd hlt
        refine lv_aload_n hx hb dX1_pieces_17 rfl (lv_at hl 0 rfl) ?_
        refine va_get (D := (dC, dI)) (ci := 1) (v := .ref (ad 1)) (C := RX1) (T := TX1) (N := 8) hx hb hts (by decide +kernel) hown hK hP 0 rfl rfl 2 (by decide) (hts (.fieldLink RX1 20 "TriangleRaster" "colours" "[I") (by decide +kernel)) (fun _ h9 => h9) rfl dX1_pieces_18 ?_
        refine lv_iload_n hx hb dX1_pieces_21 rfl (lv_at hl 3 rfl) ?_
        refine va_iald hx hb hK hP 1 0 rfl rfl (vp_in_nI hlt (by omega)) dX1_pieces_22 ?_
        refine lv_topi (fun v22 ev22 => ?_)
        rw [nI_clamp (by omega)] at ev22
        refine lv_iload_n hx hb dX1_pieces_23 rfl (lv_at hl 1 rfl) ?_
        refine lv_icmp_ne (tgt := 56) hx hb dX1_pieces_24 (by decide) (fun c24 => ?_) (fun c24 => ?_)
        · obtain ⟨s1, s2⟩ := PRE_other hI (fun q => c24 (ev22.trans q))
          refine lv_iinc (v := nI (i + 1)) (lv' := [(3, .int (nI (i + 1))), (0, .ref (ad 0)), (1, .int c), (2, .int (nI k))]) hx hb dX1_pieces_56 hl (k := 3) rfl (nI_add _ 1) (by decide) rfl (fun ls hl => ?_)
          refine lv_goto (tgt := 8) hx hb dX1_pieces_59 (by decide) ?_
          exact ih (i + 1) k re qu qq (by omega) (by rw [hk, cnt_no s2]) s1 (by omega) _ _ (hP.sub [0, 1, 2, 3] rfl) (hD.sub [0, 1, 2, 3] (by decide) rfl) hS ls (lv_sub hl [1, 2, 3, 0] rfl)
        · refine lv_aload_n hx hb dX1_pieces_27 rfl (lv_at hl 0 rfl) ?_
          refine va_get (D := (dC, dI)) (ci := 1) (v := .ref (ad 4)) (C := RX1) (T := TX1) (N := 8) hx hb hts (by decide +kernel) hown hK hP 0 rfl rfl 5 (by decide) (hts (.fieldLink RX1 34 "TriangleRaster" "reached" "[Z") (by decide +kernel)) (fun _ h9 => h9) rfl dX1_pieces_28 ?_
          refine lv_iload_n hx hb dX1_pieces_31 rfl (lv_at hl 3 rfl) ?_
          refine va_zald hx hb hK hP 2 1 rfl rfl (vp_in_nI hlt (by omega)) dX1_pieces_32 ?_
          refine lv_topi (fun v32 ev32 => ?_)
          rw [nI_clamp (by omega)] at ev32
          refine lv_if_ne (tgt := 56) hx hb dX1_pieces_33 (by decide) (fun c33 => ?_) (fun c33 => ?_)
          · obtain ⟨s1, s2⟩ := PRE_seen hlt hI (fun q => c33 (ev32.trans q))
            refine lv_iinc (v := nI (i + 1)) (lv' := [(3, .int (nI (i + 1))), (0, .ref (ad 0)), (1, .int c), (2, .int (nI k))]) hx hb dX1_pieces_56 hl (k := 3) rfl (nI_add _ 1) (by decide) rfl (fun ls hl => ?_)
            refine lv_goto (tgt := 8) hx hb dX1_pieces_59 (by decide) ?_
            exact ih (i + 1) k re qu qq (by omega) (by rw [hk, cnt_no s2]) s1 (by omega) _ _ (hP.sub [0, 1, 2, 3] rfl) (hD.sub [0, 1, 2, 3] (by decide) rfl) hS ls (lv_sub hl [1, 2, 3, 0] rfl)
          · refine lv_aload_n hx hb dX1_pieces_36 rfl (lv_at hl 0 rfl) ?_
            refine lv_iload_n hx hb dX1_pieces_37 rfl (lv_at hl 3 rfl) ?_
            refine lv_aload_n hx hb dX1_pieces_38 rfl (lv_at hl 0 rfl) ?_
            refine va_get (D := (dC, dI)) (ci := 1) (v := .int (nI w)) (C := RX1) (T := TX1) (N := 8) hx hb hts (by decide +kernel) hown hK hP 0 rfl rfl 0 (by decide) (hts (.fieldLink RX1 13 "TriangleRaster" "width" "I") (by decide +kernel)) (fun _ h9 => h9) rfl dX1_pieces_39 ?_
            refine lv_irem hx hb dX1_pieces_42 (nI_ne0 (by omega) (by omega)) ?_
            refine lv_topi (fun zz ezz => ?_)
            obtain rfl : zz = nI (i % w) := ezz.trans (pk_rem (by omega) (by omega) (by omega))
            refine lv_iload_n hx hb dX1_pieces_43 rfl (lv_at hl 3 rfl) ?_
            refine lv_aload_n hx hb dX1_pieces_44 rfl (lv_at hl 0 rfl) ?_
            refine va_get (D := (dC, dI)) (ci := 1) (v := .int (nI w)) (C := RX1) (T := TX1) (N := 8) hx hb hts (by decide +kernel) hown hK hP 0 rfl rfl 0 (by decide) (hts (.fieldLink RX1 13 "TriangleRaster" "width" "I") (by decide +kernel)) (fun _ h9 => h9) rfl dX1_pieces_45 ?_
            refine lv_idiv hx hb dX1_pieces_48 (nI_ne0 (by omega) (by omega)) ?_
            refine lv_topi (fun zz ezz => ?_)
            obtain rfl : zz = nI (i / w) := ezz.trans (pk_div (by omega) (by omega) (by omega))
            have hl49 : lin w (nI (i % w)) (nI (i / w)) = i := by rw [lin_nI (by omega) (by omega)]; exact row_of w i
            have hin49 : inX w h (nI (i % w)) (nI (i / w)) := inX_nI hw2 hh2 hbd.1 hbd.2
            refine m_calli (cs := [(ad 0, .inr (1, [.int (nI w), .int (nI h), .ref (ad 1), .ref (ad 2), .ref (ad 3), .ref (ad 4), .ref (ad 5), .int qq])), (ad 1, .inl (tc 1, (w * h), .inl col)), (ad 4, .inl (tc 4, (w * h), .inl re)), (ad 5, .inl (tc 5, (w * h), .inl qu))]) (wr := []) hP hD hS hA [0, 1, 2, 3] [] rfl rfl (by decide) (by decide) (va_runV (As := [.int (nI (i % w)), .int (nI (i / w))]) (rest := []) ⟨hx, hb, hml, hown, hts⟩ (c_X1_reachPiece l dC dI _ ad tc w h qq col re qu hw1 hw2 hh1 hh2 (nI (i % w)) (nI (i / w)) c hin49 (by rw [hl49]; exact ev22.symm.trans c24) (by rw [hl49]; exact ev32.symm.trans c33) (PRE_old hi hI)) (cwV 2 hts gX1_pieces_X1_reachPiece rfl rfl rfl (by decide +kernel) ⟨Nat.le_of_ble_eq_true rfl, Nat.le_of_ble_eq_true rfl⟩) (m_preV (ci := 1) (q0 := 0) (hP.sub [0, 1, 2, 3] rfl) (hK.sub [0, 1, 2] rfl) (hD.sub [0, 1, 2, 3] (by decide) rfl) hN rfl rfl) rfl rfl hl.1 rfl (lv_room (Nat.le_of_ble_eq_true rfl)) dX1_pieces_49 ⟨Nat.le_of_ble_eq_true rfl, Nat.le_of_ble_eq_true rfl⟩) (fun r49 u49 H locs q49 _ hP hD hS => ?_)
            obtain ⟨re49, qu49, k49⟩ := u49
            have hP : va_P (dC, dI) vwCl [(ad 0, .inr (1, [.int (nI w), .int (nI h), .ref (ad 1), .ref (ad 2), .ref (ad 3), .ref (ad 4), .ref (ad 5), .int (nI k49)])), (ad 1, .inl (tc 1, (w * h), .inl col)), (ad 4, .inl (tc 4, (w * h), .inl re49)), (ad 5, .inl (tc 5, (w * h), .inl qu49))] H := hP.sub [0, 1, 2, 3] rfl
            have hD : va_D A [(ad 0, .inr (1, [.int (nI w), .int (nI h), .ref (ad 1), .ref (ad 2), .ref (ad 3), .ref (ad 4), .ref (ad 5), .int (nI k49)])), (ad 1, .inl (tc 1, (w * h), .inl col)), (ad 4, .inl (tc 4, (w * h), .inl re49)), (ad 5, .inl (tc 5, (w * h), .inl qu49))] := hD.sub [0, 1, 2, 3] (by decide) rfl
            obtain ⟨-, -, -, p3, -, -⟩ := q49
            rw [hl49] at p3
            obtain ⟨s1, s2⟩ := PRE_new hlt (ev22.symm.trans c24) hI (ev32.symm.trans c33) p3
            refine lv_pop hx hb dX1_pieces_52 rfl ?_
            refine lv_iinc (v := nI (k + 1)) (lv' := [(2, .int (nI (k + 1))), (0, .ref (ad 0)), (1, .int c), (3, .int (nI i))]) hx hb dX1_pieces_53 hl (k := 2) rfl (nI_add _ 1) (by decide) rfl (fun ls hl => ?_)
            refine lv_iinc (v := nI (i + 1)) (lv' := [(3, .int (nI (i + 1))), (2, .int (nI (k + 1))), (0, .ref (ad 0)), (1, .int c)]) hx hb dX1_pieces_56 hl (k := 3) rfl (nI_add _ 1) (by decide) rfl (fun ls hl => ?_)
            refine lv_goto (tgt := 8) hx hb dX1_pieces_59 (by decide) ?_
            exact ih (i + 1) (k + 1) re49 qu49 (nI k49) (by omega) (by rw [hk, cnt_yes s2]) s1 (by omega) _ _ (hP.sub [0, 1, 2, 3] rfl) (hD.sub [0, 1, 2, 3] (by decide) rfl) hS ls (lv_sub hl [2, 3, 1, 0] rfl)
  exact loop (w * h + 1) 0 0 g1 que qd (Nat.zero_le _) rfl (PRE_0 q1) (by omega) _ _ (hP.sub [0, 1, 2, 3] rfl) (hD.sub [0, 1, 2, 3] (by decide) rfl) hS ls (lv_sub hl [2, 3, 1, 0] rfl)
end
section
/-! constructors: the array classes come with the end -/
abbrev mBt {S : Type} (D : va_G) (cl : List vw_C) (tys : S → List (ClassId × FieldType)) (A : Nat → Prop) (out : S → va_W) : S → State → Prop :=
  fun u t => va_P D cl (out u) t.heap ∧ va_K D cl (tys u) t ∧ va_D A (out u)
section MC
variable {p : Program} {l : Launch} {e : Env} {R : Room} {s : State} {m : MethodId} {args : Array Value} {below : List Frame} {meth : Method} {c : Code} {H : Heap} {locs : List Loc} {cells slots : Nat} {Q : State → Prop}
variable {pc : Nat} {ls : Array Slot} {rest st0 : List Value} {a : Array Value} {A0 : Nat → Prop} {H0 : Heap} {mc ms : Nat} {D : va_G} {cl : List vw_C} {ws cs wr : va_W}
theorem m_callvt {S : Type} {post : S → Prop} {out : S → va_W} {tysC : S → List (ClassId × FieldType)} (hP : va_P D cl ws H) (hD : va_D A0 ws) (hS : va_S A0 H0 H locs) (hA : ∀ q, H0.size ≤ q → A0 q) (isC isR : List Nat) (hC : isC.map (fun i => ws[i]?) = cs.map some) (hR : isR.map (fun i => ws[i]?) = wr.map some) (hn : va_nd isR = true) (hdis : ∀ i ∈ isR, i ∉ isC)
    (hr : va_Run p l e R s m args below meth c H locs cells slots mc ms (F0 m pc ls st0) rest (va_Qv post (mBt D cl tysC (va_A cs H.size) out) (va_A cs H.size) a) (va_A cs H.size))
    (kk : ∀ (u : S) (H1 : Heap) (locs1 : List Loc), post u → va_K D cl (tysC u) s → va_P D cl (wr ++ out u) H1 → va_D A0 (wr ++ out u) → va_S A0 H0 H1 locs1 → W p l e R s m args below meth c H1 locs1 (cells + mc) (slots + ms) Q (F0 m (pc + 3) ls rest)) :
    W p l e R s m args below meth c H locs cells slots Q (F0 m pc ls st0) := by
  have hFc := va_free (wc := cs) hD hS hA isC hC
  refine va_callv hr hS (fun q _ h => hFc q h) hFc (fun u t H1 locs1 ht hvm hw hB hz1 hk1 hS1 => ?_)
  obtain ⟨hP1, hK1, hD1⟩ := hB
  rw [ht] at hP1
  obtain ⟨hP2, hD2⟩ := va_join hP hD isC isR hC hR hn hdis hk1 hFc hP1 hD1
  exact kk u H1 locs1 hw (va_K.moved hvm.symm hK1) hP2 hD2 hS1
end MC
/-- a side of the picture -/
def SIDE (x : Int32) (w : Nat) : Prop := ((1 ≤ x.toInt ∧ x.toInt ≤ 24) ∧ (w : Int) = x.toInt) ∨ (¬ (1 ≤ x.toInt ∧ x.toInt ≤ 24) ∧ w = 1)
theorem SIDE_b {x : Int32} {w : Nat} (h : SIDE x w) : 1 ≤ w ∧ w ≤ 24 := by
  rcases h with h | h <;> omega
theorem SIDE_eq {x : Int32} {w v : Nat} (h : SIDE x w) (g : SIDE x v) : w = v := by
  rcases h with h | h <;> rcases g with g | g
  · omega
  · exact absurd h.1 g.1
  · exact absurd g.1 h.1
  · omega
theorem SIDE_of {x r : Int32} (h : ((1 ≤ x.toInt ∧ x.toInt ≤ 24) ∧ r = x) ∨ (¬ (1 ≤ x.toInt ∧ x.toInt ≤ 24) ∧ r = 1)) : ∃ w : Nat, SIDE x w ∧ r = nI w := by
  rcases h with ⟨h1, h2⟩ | ⟨h1, h2⟩
  · exact ⟨x.toInt.toNat, Or.inl ⟨h1, by omega⟩, by rw [h2]; exact nI_toNat (by omega)⟩
  · exact ⟨1, Or.inr ⟨h1, rfl⟩, by rw [h2]; rfl⟩
end
section
set_option maxHeartbeats 1000000 in
set_option maxRecDepth 100000 in
/-- Facet() -/
theorem c_X0_init (l : Launch) (dC : Nat → ClassId) (dI : Nat → Nat → Nat) (sz : Nat) (h0 : Nat) : Met l yX0_init wsX0_init ({ frames := 1, cells := 3, slots := 9, locals := 12 }) (mP (dC, dI) vwCl [] [(h0, .inr (0, [.null, .null, .null, .int 0, .int 0, .long 0]))] sz [.ref h0]) (va_Qv (fun (u : Nat × Nat × Nat × ClassId × ClassId × ClassId) => True) (mBt (dC, dI) vwCl (fun u => [(u.2.2.2.1, .int), (u.2.2.2.2.1, .int), (u.2.2.2.2.2, .int)]) (va_A [(h0, .inr (0, [.null, .null, .null, .int 0, .int 0, .long 0]))] sz) (fun u => [(h0, .inr (0, [.ref u.1, .ref u.2.1, .ref u.2.2.1, .int 1, .int 2, .long 0])), (u.1, .inl (u.2.2.2.1, 3, .inl (fun _ => 0))), (u.2.1, .inl (u.2.2.2.2.1, 3, .inl (fun _ => 0))), (u.2.2.1, .inl (u.2.2.2.2.2, 3, .inl (fun _ => 0)))])) (va_A [(h0, .inr (0, [.null, .null, .null, .int 0, .int 0, .long 0]))] sz)) 3 9 (va_A [(h0, .inr (0, [.null, .null, .null, .int 0, .int 0, .long 0]))] sz) := by
  refine Met.ofW (cc := cX0_init) (maxL := 1) (ret := none) (by decide) rfl ?_
  intro p e s m args below meth cD s₁ B hml hv
  obtain ⟨rfl, hsz, hP, hK, hD0, hN⟩ := hv
  have hx := B.exec
  have hb := B.bytes
  have hr := B.returns
  have hts := atoms_spec (ws := wsX0_init) B.pre
  have hown : s.vm.findClass RX0 = some m.cls := findClass_of_methodNamed B.named
  have hlocks := B.notSynchronized
  have hin : meth.name = "<init>" := (name_of_methodNamed B.named B.method).1
  subst hsz
  have hD := hD0.self (sz := s.heap.size)
  generalize hAe : va_A [(h0, .inr (0, [.null, .null, .null, .int 0, .int 0, .long 0]))] s.heap.size = A at hD ⊢
  have hA : ∀ q : Nat, s.heap.size ≤ q → A q := fun q h => by rw [← hAe]; exact Or.inr h
  have hS : va_S A s.heap s.heap [] := va_S.rf
  have hP : va_P (dC, dI) vwCl [(h0, .inr (0, [.null, .null, .null, .int 0, .int 0, .long 0]))] s.heap := hP
  have hl := lv_entry ([.ref h0]) (n := 1) (Nat.le_of_ble_eq_true rfl)
  rw [lg_entry_eq]
  generalize (lg_sl ([.ref h0]) ++ List.replicate (1 - (lg_sl ([.ref h0])).length) Slot.unset).toArray = ls at hl ⊢
  have hl : lv_has ls 1 [(0, .ref h0)] := hl
  refine lv_aload_n hx hb dX0_init_0 rfl (lv_at hl 0 rfl) ?_
  refine W.objInit hx hb hown (hts (.methodLink RX0 3 objectInit) (by decide +kernel)) (hts (.instanceMethod objectInit) (by decide +kernel)) (hts _ (List.mem_of_getElem? (i := 3) rfl)) rfl (by rw [hml]; exact hl.1) rfl dX0_init_1 (Nat.le_of_ble_eq_true rfl) (Nat.le_of_ble_eq_true rfl) ?_
  refine W.eq (g2 := F0 m 4 ls []) rfl ?_
  refine lv_aload_n hx hb dX0_init_4 rfl (lv_at hl 0 rfl) ?_
  refine lv_iconst (v := 3) hx hb dX0_init_5 (by decide) ?_
  refine va_newa (atype := .int) (a0 := (3, .inl (fun _ => 0))) (ty := .int) (N' := 3) hx hb (hts (.arrayClass .int) (by decide +kernel)) rfl hK hP hD hS hA (fun _ => rfl) (by decide) rfl (by decide) (Nat.le_of_ble_eq_true rfl) (Nat.le_of_ble_eq_true rfl) dX0_init_6 (fun q6 t6 H hK hP hD hS => ?_)
  refine W.widen (k := 1) (n := 3) (by omega) (by omega) ?_
  have hK : va_K (dC, dI) vwCl [(t6, .int)] s := hK
  have hP : va_P (dC, dI) vwCl [(h0, .inr (0, [.null, .null, .null, .int 0, .int 0, .long 0])), (q6, .inl (t6, 3, .inl (fun _ => 0)))] H := hP
  have hD : va_D A [(h0, .inr (0, [.null, .null, .null, .int 0, .int 0, .long 0])), (q6, .inl (t6, 3, .inl (fun _ => 0)))] := hD
  refine va_putF (D := (dC, dI)) (ci := 0) (v := .ref q6) (ty := .array .int) (C := RX0) (T := TX0) (N := 6) hx hb hts (by decide +kernel) tyX0 tyX0_ok nmX0 hown hK hP hD hS 0 rfl rfl 0 (by decide) (hts (.fieldLink RX0 9 "TriangleRaster$Facet" "xs" "[I") (by decide +kernel)) (fun _ h9 => h9) rfl hin rfl (by decide +kernel) rfl rfl (Nat.le_of_ble_eq_true rfl) dX0_init_8 (fun H locs hP hD hS => ?_)
  have hP : va_P (dC, dI) vwCl [(h0, .inr (0, [.ref q6, .null, .null, .int 0, .int 0, .long 0])), (q6, .inl (t6, 3, .inl (fun _ => 0)))] H := hP
  have hD : va_D A [(h0, .inr (0, [.ref q6, .null, .null, .int 0, .int 0, .long 0])), (q6, .inl (t6, 3, .inl (fun _ => 0)))] := hD
  refine lv_aload_n hx hb dX0_init_11 rfl (lv_at hl 0 rfl) ?_
  refine lv_iconst (v := 3) hx hb dX0_init_12 (by decide) ?_
  refine va_newa (atype := .int) (a0 := (3, .inl (fun _ => 0))) (ty := .int) (N' := 3) hx hb (hts (.arrayClass .int) (by decide +kernel)) rfl hK hP hD hS hA (fun _ => rfl) (by decide) rfl (by decide) (Nat.le_of_ble_eq_true rfl) (Nat.le_of_ble_eq_true rfl) dX0_init_13 (fun q13 t13 H hK hP hD hS => ?_)
  refine W.widen (k := 2) (n := 6) (by omega) (by omega) ?_
  have hK : va_K (dC, dI) vwCl [(t6, .int), (t13, .int)] s := hK
  have hP : va_P (dC, dI) vwCl [(h0, .inr (0, [.ref q6, .null, .null, .int 0, .int 0, .long 0])), (q6, .inl (t6, 3, .inl (fun _ => 0))), (q13, .inl (t13, 3, .inl (fun _ => 0)))] H := hP
  have hD : va_D A [(h0, .inr (0, [.ref q6, .null, .null, .int 0, .int 0, .long 0])), (q6, .inl (t6, 3, .inl (fun _ => 0))), (q13, .inl (t13, 3, .inl (fun _ => 0)))] := hD
  refine va_putF (D := (dC, dI)) (ci := 0) (v := .ref q13) (ty := .array .int) (C := RX0) (T := TX0) (N := 6) hx hb hts (by decide +kernel) tyX0 tyX0_ok nmX0 hown hK hP hD hS 0 rfl rfl 1 (by decide) (hts (.fieldLink RX0 15 "TriangleRaster$Facet" "ys" "[I") (by decide +kernel)) (fun _ h9 => h9) rfl hin rfl (by decide +kernel) rfl rfl (Nat.le_of_ble_eq_true rfl) dX0_init_15 (fun H locs hP hD hS => ?_)
  have hP : va_P (dC, dI) vwCl [(h0, .inr (0, [.ref q6, .ref q13, .null, .int 0, .int 0, .long 0])), (q6, .inl (t6, 3, .inl (fun _ => 0))), (q13, .inl (t13, 3, .inl (fun _ => 0)))] H := hP
  have hD : va_D A [(h0, .inr (0, [.ref q6, .ref q13, .null, .int 0, .int 0, .long 0])), (q6, .inl (t6, 3, .inl (fun _ => 0))), (q13, .inl (t13, 3, .inl (fun _ => 0)))] := hD
  refine lv_aload_n hx hb dX0_init_18 rfl (lv_at hl 0 rfl) ?_
  refine lv_iconst (v := 3) hx hb dX0_init_19 (by decide) ?_
  refine va_newa (atype := .int) (a0 := (3, .inl (fun _ => 0))) (ty := .int) (N' := 3) hx hb (hts (.arrayClass .int) (by decide +kernel)) rfl hK hP hD hS hA (fun _ => rfl) (by decide) rfl (by decide) (Nat.le_of_ble_eq_true rfl) (Nat.le_of_ble_eq_true rfl) dX0_init_20 (fun q20 t20 H hK hP hD hS => ?_)
  refine W.widen (k := 3) (n := 9) (by omega) (by omega) ?_
  have hK : va_K (dC, dI) vwCl [(t6, .int), (t13, .int), (t20, .int)] s := hK
  have hP : va_P (dC, dI) vwCl [(h0, .inr (0, [.ref q6, .ref q13, .null, .int 0, .int 0, .long 0])), (q6, .inl (t6, 3, .inl (fun _ => 0))), (q13, .inl (t13, 3, .inl (fun _ => 0))), (q20, .inl (t20, 3, .inl (fun _ => 0)))] H := hP
  have hD : va_D A [(h0, .inr (0, [.ref q6, .ref q13, .null, .int 0, .int 0, .long 0])), (q6, .inl (t6, 3, .inl (fun _ => 0))), (q13, .inl (t13, 3, .inl (fun _ => 0))), (q20, .inl (t20, 3, .inl (fun _ => 0)))] := hD
  refine va_putF (D := (dC, dI)) (ci := 0) (v := .ref q20) (ty := .array .int) (C := RX0) (T := TX0) (N := 6) hx hb hts (by decide +kernel) tyX0 tyX0_ok nmX0 hown hK hP hD hS 0 rfl rfl 2 (by decide) (hts (.fieldLink RX0 18 "TriangleRaster$Facet" "zs" "[I") (by decide +kernel)) (fun _ h9 => h9) rfl hin rfl (by decide +kernel) rfl rfl (Nat.le_of_ble_eq_true rfl) dX0_init_22 (fun H locs hP hD hS => ?_)
  have hP : va_P (dC, dI) vwCl [(h0, .inr (0, [.ref q6, .ref q13, .ref q20, .int 0, .int 0, .long 0])), (q6, .inl (t6, 3, .inl (fun _ => 0))), (q13, .inl (t13, 3, .inl (fun _ => 0))), (q20, .inl (t20, 3, .inl (fun _ => 0)))] H := hP
  have hD : va_D A [(h0, .inr (0, [.ref q6, .ref q13, .ref q20, .int 0, .int 0, .long 0])), (q6, .inl (t6, 3, .inl (fun _ => 0))), (q13, .inl (t13, 3, .inl (fun _ => 0))), (q20, .inl (t20, 3, .inl (fun _ => 0)))] := hD
  refine lv_aload_n hx hb dX0_init_25 rfl (lv_at hl 0 rfl) ?_
  refine lv_iconst (v := 1) hx hb dX0_init_26 (by decide) ?_
  refine va_put (D := (dC, dI)) (ci := 0) (v := .int 1) (ty := .int) (C := RX0) (T := TX0) (N := 6) hx hb hts (by decide +kernel) tyX0 tyX0_ok nmX0 hown hK hP hD hS 0 rfl rfl 3 (by decide) (hts (.fieldLink RX0 21 "TriangleRaster$Facet" "second" "I") (by decide +kernel)) (fun _ h9 => h9) rfl (by decide +kernel) rfl rfl (Nat.le_of_ble_eq_true rfl) dX0_init_27 (fun H locs hP hD hS => ?_)
  have hP : va_P (dC, dI) vwCl [(h0, .inr (0, [.ref q6, .ref q13, .ref q20, .int 1, .int 0, .long 0])), (q6, .inl (t6, 3, .inl (fun _ => 0))), (q13, .inl (t13, 3, .inl (fun _ => 0))), (q20, .inl (t20, 3, .inl (fun _ => 0)))] H := hP
  have hD : va_D A [(h0, .inr (0, [.ref q6, .ref q13, .ref q20, .int 1, .int 0, .long 0])), (q6, .inl (t6, 3, .inl (fun _ => 0))), (q13, .inl (t13, 3, .inl (fun _ => 0))), (q20, .inl (t20, 3, .inl (fun _ => 0)))] := hD
  refine lv_aload_n hx hb dX0_init_30 rfl (lv_at hl 0 rfl) ?_
  refine lv_iconst (v := 2) hx hb dX0_init_31 (by decide) ?_
  refine va_put (D := (dC, dI)) (ci := 0) (v := .int 2) (ty := .int) (C := RX0) (T := TX0) (N := 6) hx hb hts (by decide +kernel) tyX0 tyX0_ok nmX0 hown hK hP hD hS 0 rfl rfl 4 (by decide) (hts (.fieldLink RX0 25 "TriangleRaster$Facet" "third" "I") (by decide +kernel)) (fun _ h9 => h9) rfl (by decide +kernel) rfl rfl (Nat.le_of_ble_eq_true rfl) dX0_init_32 (fun H locs hP hD hS => ?_)
  have hP : va_P (dC, dI) vwCl [(h0, .inr (0, [.ref q6, .ref q13, .ref q20, .int 1, .int 2, .long 0])), (q6, .inl (t6, 3, .inl (fun _ => 0))), (q13, .inl (t13, 3, .inl (fun _ => 0))), (q20, .inl (t20, 3, .inl (fun _ => 0)))] H := hP
  have hD : va_D A [(h0, .inr (0, [.ref q6, .ref q13, .ref q20, .int 1, .int 2, .long 0])), (q6, .inl (t6, 3, .inl (fun _ => 0))), (q13, .inl (t13, 3, .inl (fun _ => 0))), (q20, .inl (t20, 3, .inl (fun _ => 0)))] := hD
  refine lv_aload_n hx hb dX0_init_35 rfl (lv_at hl 0 rfl) ?_
  refine lv_lconst (v := 0) hx hb dX0_init_36 (by decide) ?_
  refine va_put (D := (dC, dI)) (ci := 0) (v := .long 0) (ty := .long) (C := RX0) (T := TX0) (N := 6) hx hb hts (by decide +kernel) tyX0 tyX0_ok nmX0 hown hK hP hD hS 0 rfl rfl 5 (by decide) (hts (.fieldLink RX0 28 "TriangleRaster$Facet" "area" "J") (by decide +kernel)) (fun _ h9 => h9) rfl (by decide +kernel) rfl rfl (Nat.le_of_ble_eq_true rfl) dX0_init_37 (fun H locs hP hD hS => ?_)
  have hP : va_P (dC, dI) vwCl [(h0, .inr (0, [.ref q6, .ref q13, .ref q20, .int 1, .int 2, .long 0])), (q6, .inl (t6, 3, .inl (fun _ => 0))), (q13, .inl (t13, 3, .inl (fun _ => 0))), (q20, .inl (t20, 3, .inl (fun _ => 0)))] H := hP
  have hD : va_D A [(h0, .inr (0, [.ref q6, .ref q13, .ref q20, .int 1, .int 2, .long 0])), (q6, .inl (t6, 3, .inl (fun _ => 0))), (q13, .inl (t13, 3, .inl (fun _ => 0))), (q20, .inl (t20, 3, .inl (fun _ => 0)))] := hD
  have hP9 := hP.sub (ws' := [(h0, .inr (0, [.ref q6, .ref q13, .ref q20, .int 1, .int 2, .long 0])), (q6, .inl (t6, 3, .inl (fun _ => 0))), (q13, .inl (t13, 3, .inl (fun _ => 0))), (q20, .inl (t20, 3, .inl (fun _ => 0)))]) [0, 1, 2, 3] rfl
  have hD9 := hD.sub (ws' := [(h0, .inr (0, [.ref q6, .ref q13, .ref q20, .int 1, .int 2, .long 0])), (q6, .inl (t6, 3, .inl (fun _ => 0))), (q13, .inl (t13, 3, .inl (fun _ => 0))), (q20, .inl (t20, 3, .inl (fun _ => 0)))]) [0, 1, 2, 3] (by decide) rfl
  exact W.vret hx hb hr (fun t ht hW => ⟨⟨(q6, q13, q20, t6, t13, t20), rfl, trivial, by rw [ht]; exact hP9, va_K.moved hW.alike hK, hD9⟩, hS.F ht⟩) hS.2.2 dX0_init_40

set_option maxHeartbeats 1000000 in
set_option maxRecDepth 100000 in
/-- TriangleRaster(w, h) -/
theorem c_X1_init (l : Launch) (dC : Nat → ClassId) (dI : Nat → Nat → Nat) (sz : Nat) (h0 : Nat) (x y : Int32) : Met l yX1_init wsX1_init ({ frames := 2, cells := 8, slots := 2319, locals := 42 }) (mP (dC, dI) vwCl [] [(h0, .inr (1, [.int 0, .int 0, .null, .null, .null, .null, .null, .int 0]))] sz [.ref h0, .int x, .int y]) (va_Qv (fun (u : (Nat → Nat) × (Nat → ClassId) × Nat × Nat) => u.1 0 = h0 ∧ SIDE x u.2.2.1 ∧ SIDE y u.2.2.2) (mBt (dC, dI) vwCl (fun u => [(u.2.1 1, .int), (u.2.1 2, .int), (u.2.1 4, .boolean), (u.2.1 5, .int), (u.2.1 6, .int), (u.2.1 7, .int), (u.2.1 8, .int)]) (va_A [(h0, .inr (1, [.int 0, .int 0, .null, .null, .null, .null, .null, .int 0]))] sz) (fun u => [(u.1 0, .inr (1, [.int (nI u.2.2.1), .int (nI u.2.2.2), .ref (u.1 1), .ref (u.1 2), .ref (u.1 3), .ref (u.1 4), .ref (u.1 5), .int 0])), (u.1 1, .inl (u.2.1 1, (u.2.2.1 * u.2.2.2), .inl (fun _ => 0))), (u.1 2, .inl (u.2.1 2, (u.2.2.1 * u.2.2.2), .inl (fun _ => 0))), (u.1 3, .inr (0, [.ref (u.1 6), .ref (u.1 7), .ref (u.1 8), .int 1, .int 2, .long 0])), (u.1 4, .inl (u.2.1 4, (u.2.2.1 * u.2.2.2), .inl (fun _ => 0))), (u.1 5, .inl (u.2.1 5, (u.2.2.1 * u.2.2.2), .inl (fun _ => 0))), (u.1 6, .inl (u.2.1 6, 3, .inl (fun _ => 0))), (u.1 7, .inl (u.2.1 7, 3, .inl (fun _ => 0))), (u.1 8, .inl (u.2.1 8, 3, .inl (fun _ => 0)))])) (va_A [(h0, .inr (1, [.int 0, .int 0, .null, .null, .null, .null, .null, .int 0]))] sz)) 8 2319 (va_A [(h0, .inr (1, [.int 0, .int 0, .null, .null, .null, .null, .null, .int 0]))] sz) := by
  refine Met.ofW (cc := cX1_init) (maxL := 4) (ret := none) (by decide) rfl ?_
  intro p e s m args below meth cD s₁ B hml hv
  obtain ⟨rfl, hsz, hP, hK, hD0, hN⟩ := hv
  have hx := B.exec
  have hb := B.bytes
  have hr := B.returns
  have hts := atoms_spec (ws := wsX1_init) B.pre
  have hown : s.vm.findClass RX1 = some m.cls := findClass_of_methodNamed B.named
  have hlocks := B.notSynchronized
  have hin : meth.name = "<init>" := (name_of_methodNamed B.named B.method).1
  subst hsz
  have hD := hD0.self (sz := s.heap.size)
  generalize hAe : va_A [(h0, .inr (1, [.int 0, .int 0, .null, .null, .null, .null, .null, .int 0]))] s.heap.size = A at hD ⊢
  have hA : ∀ q : Nat, s.heap.size ≤ q → A q := fun q h => by rw [← hAe]; exact Or.inr h
  have hS : va_S A s.heap s.heap [] := va_S.rf
  have hP : va_P (dC, dI) vwCl [(h0, .inr (1, [.int 0, .int 0, .null, .null, .null, .null, .null, .int 0]))] s.heap := hP
  have hl := lv_entry ([.ref h0, .int x, .int y]) (n := 4) (Nat.le_of_ble_eq_true rfl)
  rw [lg_entry_eq]
  generalize (lg_sl ([.ref h0, .int x, .int y]) ++ List.replicate (4 - (lg_sl ([.ref h0, .int x, .int y])).length) Slot.unset).toArray = ls at hl ⊢
  have hl : lv_has ls 4 [(0, .ref h0), (1, .int x), (2, .int y)] := hl
  refine lv_aload_n hx hb dX1_init_0 rfl (lv_at hl 0 rfl) ?_
  refine W.objInit hx hb hown (hts (.methodLink RX1 1 objectInit) (by decide +kernel)) (hts (.instanceMethod objectInit) (by decide +kernel)) (hts _ (List.mem_of_getElem? (i := 3) rfl)) rfl (by rw [hml]; exact hl.1) rfl dX1_init_1 (Nat.le_of_ble_eq_true rfl) (Nat.le_of_ble_eq_true rfl) ?_
  refine W.eq (g2 := F0 m 4 ls []) rfl ?_
  refine lv_aload_n hx hb dX1_init_4 rfl (lv_at hl 0 rfl) ?_
  refine lv_iload_n hx hb dX1_init_5 rfl (lv_at hl 1 rfl) ?_
  refine m_calli (cs := []) (wr := [(h0, .inr (1, [.int 0, .int 0, .null, .null, .null, .null, .null, .int 0]))]) hP hD hS hA [] [0] rfl rfl (by decide) (by decide) (va_runS (As := [.int x]) (rest := [.ref h0]) ⟨hx, hb, hml, hown, hts⟩ (c_X1_sideOf l dC dI _ x) (va_cwS 1 hts gX1_init_X1_sideOf rfl rfl rfl (by decide +kernel) ⟨Nat.le_of_ble_eq_true rfl, Nat.le_of_ble_eq_true rfl⟩) (m_preS (hP.sub [] rfl) (hK.sub [] rfl) (hD.sub [] (by decide) rfl) hN) rfl rfl hl.1 rfl (lv_room (Nat.le_of_ble_eq_true rfl)) dX1_init_6 ⟨Nat.le_of_ble_eq_true rfl, Nat.le_of_ble_eq_true rfl⟩) (fun r6 _ H locs q6 hK2 hP hD hS => ?_)
  have hP : va_P (dC, dI) vwCl [(h0, .inr (1, [.int 0, .int 0, .null, .null, .null, .null, .null, .int 0]))] H := hP.sub [0] rfl
  have hD : va_D A [(h0, .inr (1, [.int 0, .int 0, .null, .null, .null, .null, .null, .int 0]))] := hD.sub [0] (by decide) rfl
  obtain ⟨wN, hwN, er6⟩ := SIDE_of q6
  subst er6
  refine va_putF (D := (dC, dI)) (ci := 1) (v := .int (nI wN)) (ty := .int) (C := RX1) (T := TX1) (N := 8) hx hb hts (by decide +kernel) tyX1 tyX1_ok nmX1 hown hK hP hD hS 0 rfl rfl 0 (by decide) (hts (.fieldLink RX1 13 "TriangleRaster" "width" "I") (by decide +kernel)) (fun _ h9 => h9) rfl hin rfl (by decide +kernel) rfl rfl (Nat.le_of_ble_eq_true rfl) dX1_init_9 (fun H locs hP hD hS => ?_)
  have hP : va_P (dC, dI) vwCl [(h0, .inr (1, [.int (nI wN), .int 0, .null, .null, .null, .null, .null, .int 0]))] H := hP
  have hD : va_D A [(h0, .inr (1, [.int (nI wN), .int 0, .null, .null, .null, .null, .null, .int 0]))] := hD
  refine lv_aload_n hx hb dX1_init_12 rfl (lv_at hl 0 rfl) ?_
  refine lv_iload_n hx hb dX1_init_13 rfl (lv_at hl 2 rfl) ?_
  refine m_calli (cs := []) (wr := [(h0, .inr (1, [.int (nI wN), .int 0, .null, .null, .null, .null, .null, .int 0]))]) hP hD hS hA [] [0] rfl rfl (by decide) (by decide) (va_runS (As := [.int y]) (rest := [.ref h0]) ⟨hx, hb, hml, hown, hts⟩ (c_X1_sideOf l dC dI _ y) (va_cwS 1 hts gX1_init_X1_sideOf rfl rfl rfl (by decide +kernel) ⟨Nat.le_of_ble_eq_true rfl, Nat.le_of_ble_eq_true rfl⟩) (m_preS (hP.sub [] rfl) (hK.sub [] rfl) (hD.sub [] (by decide) rfl) hN) rfl rfl hl.1 rfl (lv_room (Nat.le_of_ble_eq_true rfl)) dX1_init_14 ⟨Nat.le_of_ble_eq_true rfl, Nat.le_of_ble_eq_true rfl⟩) (fun r14 _ H locs q14 hK2 hP hD hS => ?_)
  have hP : va_P (dC, dI) vwCl [(h0, .inr (1, [.int (nI wN), .int 0, .null, .null, .null, .null, .null, .int 0]))] H := hP.sub [0] rfl
  have hD : va_D A [(h0, .inr (1, [.int (nI wN), .int 0, .null, .null, .null, .null, .null, .int 0]))] := hD.sub [0] (by decide) rfl
  obtain ⟨hN_, hhN_, er14⟩ := SIDE_of q14
  subst er14
  refine va_putF (D := (dC, dI)) (ci := 1) (v := .int (nI hN_)) (ty := .int) (C := RX1) (T := TX1) (N := 8) hx hb hts (by decide +kernel) tyX1 tyX1_ok nmX1 hown hK hP hD hS 0 rfl rfl 1 (by decide) (hts (.fieldLink RX1 17 "TriangleRaster" "height" "I") (by decide +kernel)) (fun _ h9 => h9) rfl hin rfl (by decide +kernel) rfl rfl (Nat.le_of_ble_eq_true rfl) dX1_init_17 (fun H locs hP hD hS => ?_)
  have hP : va_P (dC, dI) vwCl [(h0, .inr (1, [.int (nI wN), .int (nI hN_), .null, .null, .null, .null, .null, .int 0]))] H := hP
  have hD : va_D A [(h0, .inr (1, [.int (nI wN), .int (nI hN_), .null, .null, .null, .null, .null, .int 0]))] := hD
  refine lv_aload_n hx hb dX1_init_20 rfl (lv_at hl 0 rfl) ?_
  refine va_get (D := (dC, dI)) (ci := 1) (v := .int (nI wN)) (C := RX1) (T := TX1) (N := 8) hx hb hts (by decide +kernel) hown hK hP 0 rfl rfl 0 (by decide) (hts (.fieldLink RX1 13 "TriangleRaster" "width" "I") (by decide +kernel)) (fun _ h9 => h9) rfl dX1_init_21 ?_
  refine lv_aload_n hx hb dX1_init_24 rfl (lv_at hl 0 rfl) ?_
  refine va_get (D := (dC, dI)) (ci := 1) (v := .int (nI hN_)) (C := RX1) (T := TX1) (N := 8) hx hb hts (by decide +kernel) hown hK hP 0 rfl rfl 1 (by decide) (hts (.fieldLink RX1 17 "TriangleRaster" "height" "I") (by decide +kernel)) (fun _ h9 => h9) rfl dX1_init_25 ?_
  refine lv_imul hx hb dX1_init_28 ?_
  refine lv_topi (fun zz ezz => ?_)
  obtain rfl : zz = nI (wN * hN_) := ezz.trans (pk_mul _ _)
  have bw := SIDE_b hwN
  have bh := SIDE_b hhN_
  have hwh := wh_le bw.2 bh.2
  refine lv_istore_n (lv' := [(3, .int (nI (wN * hN_))), (0, .ref h0), (1, .int x), (2, .int y)]) hx hb dX1_init_29 rfl hl (by decide) rfl (fun ls hl => ?_)
  refine lv_aload_n hx hb dX1_init_30 rfl (lv_at hl 1 rfl) ?_
  refine lv_iload_n hx hb dX1_init_31 rfl (lv_at hl 0 rfl) ?_
  refine va_newa (atype := .int) (a0 := ((wN * hN_), .inl (fun _ => 0))) (ty := .int) (N' := (wN * hN_)) hx hb (hts (.arrayClass .int) (by decide +kernel)) rfl hK hP hD hS hA (fun _ => rfl) (nI_pos (by omega)) (nI_clamp (by omega)) (by show (wN * hN_) * 4 ≤ 536870912; omega) (Nat.le_of_ble_eq_true rfl) (by show 0 + wN * hN_ ≤ 2319; omega) dX1_init_32 (fun q32 t32 H hK hP hD hS => ?_)
  refine W.widen (k := 1) (n := 576) (by omega) (by omega) ?_
  have hK : va_K (dC, dI) vwCl [(t32, .int)] s := hK
  have hP : va_P (dC, dI) vwCl [(h0, .inr (1, [.int (nI wN), .int (nI hN_), .null, .null, .null, .null, .null, .int 0])), (q32, .inl (t32, (wN * hN_), .inl (fun _ => 0)))] H := hP
  have hD : va_D A [(h0, .inr (1, [.int (nI wN), .int (nI hN_), .null, .null, .null, .null, .null, .int 0])), (q32, .inl (t32, (wN * hN_), .inl (fun _ => 0)))] := hD
  refine va_putF (D := (dC, dI)) (ci := 1) (v := .ref q32) (ty := .array .int) (C := RX1) (T := TX1) (N := 8) hx hb hts (by decide +kernel) tyX1 tyX1_ok nmX1 hown hK hP hD hS 0 rfl rfl 2 (by decide) (hts (.fieldLink RX1 20 "TriangleRaster" "colours" "[I") (by decide +kernel)) (fun _ h9 => h9) rfl hin rfl (by decide +kernel) rfl rfl (Nat.le_of_ble_eq_true rfl) dX1_init_34 (fun H locs hP hD hS => ?_)
  have hP : va_P (dC, dI) vwCl [(h0, .inr (1, [.int (nI wN), .int (nI hN_), .ref q32, .null, .null, .null, .null, .int 0])), (q32, .inl (t32, (wN * hN_), .inl (fun _ => 0)))] H := hP
  have hD : va_D A [(h0, .inr (1, [.int (nI wN), .int (nI hN_), .ref q32, .null, .null, .null, .null, .int 0])), (q32, .inl (t32, (wN * hN_), .inl (fun _ => 0)))] := hD
  refine lv_aload_n hx hb dX1_init_37 rfl (lv_at hl 1 rfl) ?_
  refine lv_iload_n hx hb dX1_init_38 rfl (lv_at hl 0 rfl) ?_
  refine va_newa (atype := .int) (a0 := ((wN * hN_), .inl (fun _ => 0))) (ty := .int) (N' := (wN * hN_)) hx hb (hts (.arrayClass .int) (by decide +kernel)) rfl hK hP hD hS hA (fun _ => rfl) (nI_pos (by omega)) (nI_clamp (by omega)) (by show (wN * hN_) * 4 ≤ 536870912; omega) (Nat.le_of_ble_eq_true rfl) (by show 576 + wN * hN_ ≤ 2319; omega) dX1_init_39 (fun q39 t39 H hK hP hD hS => ?_)
  refine W.widen (k := 2) (n := 1152) (by omega) (by omega) ?_
  have hK : va_K (dC, dI) vwCl [(t32, .int), (t39, .int)] s := hK
  have hP : va_P (dC, dI) vwCl [(h0, .inr (1, [.int (nI wN), .int (nI hN_), .ref q32, .null, .null, .null, .null, .int 0])), (q32, .inl (t32, (wN * hN_), .inl (fun _ => 0))), (q39, .inl (t39, (wN * hN_), .inl (fun _ => 0)))] H := hP
  have hD : va_D A [(h0, .inr (1, [.int (nI wN), .int (nI hN_), .ref q32, .null, .null, .null, .null, .int 0])), (q32, .inl (t32, (wN * hN_), .inl (fun _ => 0))), (q39, .inl (t39, (wN * hN_), .inl (fun _ => 0)))] := hD
  refine va_putF (D := (dC, dI)) (ci := 1) (v := .ref q39) (ty := .array .int) (C := RX1) (T := TX1) (N := 8) hx hb hts (by decide +kernel) tyX1 tyX1_ok nmX1 hown hK hP hD hS 0 rfl rfl 3 (by decide) (hts (.fieldLink RX1 24 "TriangleRaster" "depths" "[I") (by decide +kernel)) (fun _ h9 => h9) rfl hin rfl (by decide +kernel) rfl rfl (Nat.le_of_ble_eq_true rfl) dX1_init_41 (fun H locs hP hD hS => ?_)
  have hP : va_P (dC, dI) vwCl [(h0, .inr (1, [.int (nI wN), .int (nI hN_), .ref q32, .ref q39, .null, .null, .null, .int 0])), (q32, .inl (t32, (wN * hN_), .inl (fun _ => 0))), (q39, .inl (t39, (wN * hN_), .inl (fun _ => 0)))] H := hP
  have hD : va_D A [(h0, .inr (1, [.int (nI wN), .int (nI hN_), .ref q32, .ref q39, .null, .null, .null, .int 0])), (q32, .inl (t32, (wN * hN_), .inl (fun _ => 0))), (q39, .inl (t39, (wN * hN_), .inl (fun _ => 0)))] := hD
  refine lv_aload_n hx hb dX1_init_44 rfl (lv_at hl 1 rfl) ?_
  refine va_new (ci := 0) (fs := [.null, .null, .null, .int 0, .int 0, .long 0]) (C := RX0) (T := TX0) (N := 6) hx hb hts (by decide +kernel) tyX0 tyX0_ok hown (hts (.classLink RX1 27 RX0) (by decide +kernel)) (hts (.instantiable RX0 6) (by decide +kernel)) (hts (.initialized RX0) (by decide +kernel)) hK hP hD hS hA rfl (fun j hj => by rcases (show j = 0 ∨ j = 1 ∨ j = 2 ∨ j = 3 ∨ j = 4 ∨ j = 5 by omega) with rfl | rfl | rfl | rfl | rfl | rfl <;> rfl) (Nat.le_of_ble_eq_true rfl) (Nat.le_of_ble_eq_true rfl) dX1_init_45 (fun q45 H hP hD hS => ?_)
  refine W.widen (k := 3) (n := 1158) (by omega) (by omega) ?_
  have hP : va_P (dC, dI) vwCl [(h0, .inr (1, [.int (nI wN), .int (nI hN_), .ref q32, .ref q39, .null, .null, .null, .int 0])), (q32, .inl (t32, (wN * hN_), .inl (fun _ => 0))), (q39, .inl (t39, (wN * hN_), .inl (fun _ => 0))), (q45, .inr (0, [.null, .null, .null, .int 0, .int 0, .long 0]))] H := hP
  have hD : va_D A [(h0, .inr (1, [.int (nI wN), .int (nI hN_), .ref q32, .ref q39, .null, .null, .null, .int 0])), (q32, .inl (t32, (wN * hN_), .inl (fun _ => 0))), (q39, .inl (t39, (wN * hN_), .inl (fun _ => 0))), (q45, .inr (0, [.null, .null, .null, .int 0, .int 0, .long 0]))] := hD
  refine lv_dup hx hb dX1_init_48 rfl ?_
  refine m_callvt (cs := [(q45, .inr (0, [.null, .null, .null, .int 0, .int 0, .long 0]))]) (wr := [(h0, .inr (1, [.int (nI wN), .int (nI hN_), .ref q32, .ref q39, .null, .null, .null, .int 0])), (q32, .inl (t32, (wN * hN_), .inl (fun _ => 0))), (q39, .inl (t39, (wN * hN_), .inl (fun _ => 0)))]) hP hD hS hA [3] [0, 1, 2] rfl rfl (by decide) (by decide) (va_runIN (As := []) (rest := [.ref q45, .ref h0]) ⟨hx, hb, hml, hown, hts⟩ (c_X0_init l dC dI _ q45) ⟨va_cnB 0 hts gX1_init_X0_init_n29 rfl rfl rfl hN.1 (hts (.initialized RX0) (by decide +kernel)) (by decide +kernel) ⟨Nat.le_of_ble_eq_true rfl, Nat.le_of_ble_eq_true rfl⟩, rfl, hts (.instanceMethod yX0_init) (by decide +kernel)⟩ (m_preS (hP.sub [3] rfl) (hK.sub [] rfl) (hD.sub [3] (by decide) rfl) hN) rfl rfl hl.1 rfl (lv_room (Nat.le_of_ble_eq_true rfl)) dX1_init_49 ⟨Nat.le_of_ble_eq_true rfl, Nat.le_of_ble_eq_true rfl⟩) (fun u49 H locs _ hK2 hP hD hS => ?_)
  obtain ⟨f6, f7, f8, y6, y7, y8⟩ := u49
  have hK := hK.app hK2
  have hK : va_K (dC, dI) vwCl [(t32, .int), (t39, .int), (y6, .int), (y7, .int), (y8, .int)] s := hK
  have hP : va_P (dC, dI) vwCl [(h0, .inr (1, [.int (nI wN), .int (nI hN_), .ref q32, .ref q39, .null, .null, .null, .int 0])), (q32, .inl (t32, (wN * hN_), .inl (fun _ => 0))), (q39, .inl (t39, (wN * hN_), .inl (fun _ => 0))), (q45, .inr (0, [.ref f6, .ref f7, .ref f8, .int 1, .int 2, .long 0])), (f6, .inl (y6, 3, .inl (fun _ => 0))), (f7, .inl (y7, 3, .inl (fun _ => 0))), (f8, .inl (y8, 3, .inl (fun _ => 0)))] H := hP.sub [0, 1, 2, 3, 4, 5, 6] rfl
  have hD : va_D A [(h0, .inr (1, [.int (nI wN), .int (nI hN_), .ref q32, .ref q39, .null, .null, .null, .int 0])), (q32, .inl (t32, (wN * hN_), .inl (fun _ => 0))), (q39, .inl (t39, (wN * hN_), .inl (fun _ => 0))), (q45, .inr (0, [.ref f6, .ref f7, .ref f8, .int 1, .int 2, .long 0])), (f6, .inl (y6, 3, .inl (fun _ => 0))), (f7, .inl (y7, 3, .inl (fun _ => 0))), (f8, .inl (y8, 3, .inl (fun _ => 0)))] := hD.sub [0, 1, 2, 3, 4, 5, 6] (by decide) rfl
  refine W.widen (k := 6) (n := 1167) (by omega) (by omega) ?_
  refine va_putF (D := (dC, dI)) (ci := 1) (v := .ref q45) (ty := .object "TriangleRaster$Facet") (C := RX1) (T := TX1) (N := 8) hx hb hts (by decide +kernel) tyX1 tyX1_ok nmX1 hown hK hP hD hS 0 rfl rfl 4 (by decide) (hts (.fieldLink RX1 30 "TriangleRaster" "facet" "LTriangleRaster$Facet;") (by decide +kernel)) (fun _ h9 => h9) rfl hin rfl (by decide +kernel) rfl rfl (Nat.le_of_ble_eq_true rfl) dX1_init_52 (fun H locs hP hD hS => ?_)
  have hP : va_P (dC, dI) vwCl [(h0, .inr (1, [.int (nI wN), .int (nI hN_), .ref q32, .ref q39, .ref q45, .null, .null, .int 0])), (q32, .inl (t32, (wN * hN_), .inl (fun _ => 0))), (q39, .inl (t39, (wN * hN_), .inl (fun _ => 0))), (q45, .inr (0, [.ref f6, .ref f7, .ref f8, .int 1, .int 2, .long 0])), (f6, .inl (y6, 3, .inl (fun _ => 0))), (f7, .inl (y7, 3, .inl (fun _ => 0))), (f8, .inl (y8, 3, .inl (fun _ => 0)))] H := hP
  have hD : va_D A [(h0, .inr (1, [.int (nI wN), .int (nI hN_), .ref q32, .ref q39, .ref q45, .null, .null, .int 0])), (q32, .inl (t32, (wN * hN_), .inl (fun _ => 0))), (q39, .inl (t39, (wN * hN_), .inl (fun _ => 0))), (q45, .inr (0, [.ref f6, .ref f7, .ref f8, .int 1, .int 2, .long 0])), (f6, .inl (y6, 3, .inl (fun _ => 0))), (f7, .inl (y7, 3, .inl (fun _ => 0))), (f8, .inl (y8, 3, .inl (fun _ => 0)))] := hD
  refine lv_aload_n hx hb dX1_init_55 rfl (lv_at hl 1 rfl) ?_
  refine lv_iload_n hx hb dX1_init_56 rfl (lv_at hl 0 rfl) ?_
  refine va_newa (atype := .boolean) (a0 := ((wN * hN_), .inl (fun _ => 0))) (ty := .boolean) (N' := (wN * hN_)) hx hb (hts (.arrayClass .boolean) (by decide +kernel)) rfl hK hP hD hS hA (fun _ => rfl) (nI_pos (by omega)) (nI_clamp (by omega)) (by show (wN * hN_) * 1 ≤ 536870912; omega) (Nat.le_of_ble_eq_true rfl) (by show 1167 + wN * hN_ ≤ 2319; omega) dX1_init_57 (fun q57 t57 H hK hP hD hS => ?_)
  refine W.widen (k := 7) (n := 1743) (by omega) (by omega) ?_
  have hK : va_K (dC, dI) vwCl [(t32, .int), (t39, .int), (y6, .int), (y7, .int), (y8, .int), (t57, .boolean)] s := hK
  have hP : va_P (dC, dI) vwCl [(h0, .inr (1, [.int (nI wN), .int (nI hN_), .ref q32, .ref q39, .ref q45, .null, .null, .int 0])), (q32, .inl (t32, (wN * hN_), .inl (fun _ => 0))), (q39, .inl (t39, (wN * hN_), .inl (fun _ => 0))), (q45, .inr (0, [.ref f6, .ref f7, .ref f8, .int 1, .int 2, .long 0])), (f6, .inl (y6, 3, .inl (fun _ => 0))), (f7, .inl (y7, 3, .inl (fun _ => 0))), (f8, .inl (y8, 3, .inl (fun _ => 0))), (q57, .inl (t57, (wN * hN_), .inl (fun _ => 0)))] H := hP
  have hD : va_D A [(h0, .inr (1, [.int (nI wN), .int (nI hN_), .ref q32, .ref q39, .ref q45, .null, .null, .int 0])), (q32, .inl (t32, (wN * hN_), .inl (fun _ => 0))), (q39, .inl (t39, (wN * hN_), .inl (fun _ => 0))), (q45, .inr (0, [.ref f6, .ref f7, .ref f8, .int 1, .int 2, .long 0])), (f6, .inl (y6, 3, .inl (fun _ => 0))), (f7, .inl (y7, 3, .inl (fun _ => 0))), (f8, .inl (y8, 3, .inl (fun _ => 0))), (q57, .inl (t57, (wN * hN_), .inl (fun _ => 0)))] := hD
  refine va_putF (D := (dC, dI)) (ci := 1) (v := .ref q57) (ty := .array .boolean) (C := RX1) (T := TX1) (N := 8) hx hb hts (by decide +kernel) tyX1 tyX1_ok nmX1 hown hK hP hD hS 0 rfl rfl 5 (by decide) (hts (.fieldLink RX1 34 "TriangleRaster" "reached" "[Z") (by decide +kernel)) (fun _ h9 => h9) rfl hin rfl (by decide +kernel) rfl rfl (Nat.le_of_ble_eq_true rfl) dX1_init_59 (fun H locs hP hD hS => ?_)
  have hP : va_P (dC, dI) vwCl [(h0, .inr (1, [.int (nI wN), .int (nI hN_), .ref q32, .ref q39, .ref q45, .ref q57, .null, .int 0])), (q32, .inl (t32, (wN * hN_), .inl (fun _ => 0))), (q39, .inl (t39, (wN * hN_), .inl (fun _ => 0))), (q45, .inr (0, [.ref f6, .ref f7, .ref f8, .int 1, .int 2, .long 0])), (f6, .inl (y6, 3, .inl (fun _ => 0))), (f7, .inl (y7, 3, .inl (fun _ => 0))), (f8, .inl (y8, 3, .inl (fun _ => 0))), (q57, .inl (t57, (wN * hN_), .inl (fun _ => 0)))] H := hP
  have hD : va_D A [(h0, .inr (1, [.int (nI wN), .int (nI hN_), .ref q32, .ref q39, .ref q45, .ref q57, .null, .int 0])), (q32, .inl (t32, (wN * hN_), .inl (fun _ => 0))), (q39, .inl (t39, (wN * hN_), .inl (fun _ => 0))), (q45, .inr (0, [.ref f6, .ref f7, .ref f8, .int 1, .int 2, .long 0])), (f6, .inl (y6, 3, .inl (fun _ => 0))), (f7, .inl (y7, 3, .inl (fun _ => 0))), (f8, .inl (y8, 3, .inl (fun _ => 0))), (q57, .inl (t57, (wN * hN_), .inl (fun _ => 0)))] := hD
  refine lv_aload_n hx hb dX1_init_62 rfl (lv_at hl 1 rfl) ?_
  refine lv_iload_n hx hb dX1_init_63 rfl (lv_at hl 0 rfl) ?_
  refine va_newa (atype := .int) (a0 := ((wN * hN_), .inl (fun _ => 0))) (ty := .int) (N' := (wN * hN_)) hx hb (hts (.arrayClass .int) (by decide +kernel)) rfl hK hP hD hS hA (fun _ => rfl) (nI_pos (by omega)) (nI_clamp (by omega)) (by show (wN * hN_) * 4 ≤ 536870912; omega) (Nat.le_of_ble_eq_true rfl) (by show 1743 + wN * hN_ ≤ 2319; omega) dX1_init_64 (fun q64 t64 H hK hP hD hS => ?_)
  refine W.widen (k := 8) (n := 2319) (by omega) (by omega) ?_
  have hK : va_K (dC, dI) vwCl [(t32, .int), (t39, .int), (y6, .int), (y7, .int), (y8, .int), (t57, .boolean), (t64, .int)] s := hK
  have hP : va_P (dC, dI) vwCl [(h0, .inr (1, [.int (nI wN), .int (nI hN_), .ref q32, .ref q39, .ref q45, .ref q57, .null, .int 0])), (q32, .inl (t32, (wN * hN_), .inl (fun _ => 0))), (q39, .inl (t39, (wN * hN_), .inl (fun _ => 0))), (q45, .inr (0, [.ref f6, .ref f7, .ref f8, .int 1, .int 2, .long 0])), (f6, .inl (y6, 3, .inl (fun _ => 0))), (f7, .inl (y7, 3, .inl (fun _ => 0))), (f8, .inl (y8, 3, .inl (fun _ => 0))), (q57, .inl (t57, (wN * hN_), .inl (fun _ => 0))), (q64, .inl (t64, (wN * hN_), .inl (fun _ => 0)))] H := hP
  have hD : va_D A [(h0, .inr (1, [.int (nI wN), .int (nI hN_), .ref q32, .ref q39, .ref q45, .ref q57, .null, .int 0])), (q32, .inl (t32, (wN * hN_), .inl (fun _ => 0))), (q39, .inl (t39, (wN * hN_), .inl (fun _ => 0))), (q45, .inr (0, [.ref f6, .ref f7, .ref f8, .int 1, .int 2, .long 0])), (f6, .inl (y6, 3, .inl (fun _ => 0))), (f7, .inl (y7, 3, .inl (fun _ => 0))), (f8, .inl (y8, 3, .inl (fun _ => 0))), (q57, .inl (t57, (wN * hN_), .inl (fun _ => 0))), (q64, .inl (t64, (wN * hN_), .inl (fun _ => 0)))] := hD
  refine va_putF (D := (dC, dI)) (ci := 1) (v := .ref q64) (ty := .array .int) (C := RX1) (T := TX1) (N := 8) hx hb hts (by decide +kernel) tyX1 tyX1_ok nmX1 hown hK hP hD hS 0 rfl rfl 6 (by decide) (hts (.fieldLink RX1 38 "TriangleRaster" "queue" "[I") (by decide +kernel)) (fun _ h9 => h9) rfl hin rfl (by decide +kernel) rfl rfl (Nat.le_of_ble_eq_true rfl) dX1_init_66 (fun H locs hP hD hS => ?_)
  have hP : va_P (dC, dI) vwCl [(h0, .inr (1, [.int (nI wN), .int (nI hN_), .ref q32, .ref q39, .ref q45, .ref q57, .ref q64, .int 0])), (q32, .inl (t32, (wN * hN_), .inl (fun _ => 0))), (q39, .inl (t39, (wN * hN_), .inl (fun _ => 0))), (q45, .inr (0, [.ref f6, .ref f7, .ref f8, .int 1, .int 2, .long 0])), (f6, .inl (y6, 3, .inl (fun _ => 0))), (f7, .inl (y7, 3, .inl (fun _ => 0))), (f8, .inl (y8, 3, .inl (fun _ => 0))), (q57, .inl (t57, (wN * hN_), .inl (fun _ => 0))), (q64, .inl (t64, (wN * hN_), .inl (fun _ => 0)))] H := hP
  have hD : va_D A [(h0, .inr (1, [.int (nI wN), .int (nI hN_), .ref q32, .ref q39, .ref q45, .ref q57, .ref q64, .int 0])), (q32, .inl (t32, (wN * hN_), .inl (fun _ => 0))), (q39, .inl (t39, (wN * hN_), .inl (fun _ => 0))), (q45, .inr (0, [.ref f6, .ref f7, .ref f8, .int 1, .int 2, .long 0])), (f6, .inl (y6, 3, .inl (fun _ => 0))), (f7, .inl (y7, 3, .inl (fun _ => 0))), (f8, .inl (y8, 3, .inl (fun _ => 0))), (q57, .inl (t57, (wN * hN_), .inl (fun _ => 0))), (q64, .inl (t64, (wN * hN_), .inl (fun _ => 0)))] := hD
  refine lv_aload_n hx hb dX1_init_69 rfl (lv_at hl 1 rfl) ?_
  refine lv_iconst (v := 0) hx hb dX1_init_70 (by decide) ?_
  refine va_put (D := (dC, dI)) (ci := 1) (v := .int 0) (ty := .int) (C := RX1) (T := TX1) (N := 8) hx hb hts (by decide +kernel) tyX1 tyX1_ok nmX1 hown hK hP hD hS 0 rfl rfl 7 (by decide) (hts (.fieldLink RX1 41 "TriangleRaster" "queued" "I") (by decide +kernel)) (fun _ h9 => h9) rfl (by decide +kernel) rfl rfl (Nat.le_of_ble_eq_true rfl) dX1_init_71 (fun H locs hP hD hS => ?_)
  have hP : va_P (dC, dI) vwCl [(h0, .inr (1, [.int (nI wN), .int (nI hN_), .ref q32, .ref q39, .ref q45, .ref q57, .ref q64, .int 0])), (q32, .inl (t32, (wN * hN_), .inl (fun _ => 0))), (q39, .inl (t39, (wN * hN_), .inl (fun _ => 0))), (q45, .inr (0, [.ref f6, .ref f7, .ref f8, .int 1, .int 2, .long 0])), (f6, .inl (y6, 3, .inl (fun _ => 0))), (f7, .inl (y7, 3, .inl (fun _ => 0))), (f8, .inl (y8, 3, .inl (fun _ => 0))), (q57, .inl (t57, (wN * hN_), .inl (fun _ => 0))), (q64, .inl (t64, (wN * hN_), .inl (fun _ => 0)))] H := hP
  have hD : va_D A [(h0, .inr (1, [.int (nI wN), .int (nI hN_), .ref q32, .ref q39, .ref q45, .ref q57, .ref q64, .int 0])), (q32, .inl (t32, (wN * hN_), .inl (fun _ => 0))), (q39, .inl (t39, (wN * hN_), .inl (fun _ => 0))), (q45, .inr (0, [.ref f6, .ref f7, .ref f8, .int 1, .int 2, .long 0])), (f6, .inl (y6, 3, .inl (fun _ => 0))), (f7, .inl (y7, 3, .inl (fun _ => 0))), (f8, .inl (y8, 3, .inl (fun _ => 0))), (q57, .inl (t57, (wN * hN_), .inl (fun _ => 0))), (q64, .inl (t64, (wN * hN_), .inl (fun _ => 0)))] := hD
  have hP9 := hP.sub (ws' := [(h0, .inr (1, [.int (nI wN), .int (nI hN_), .ref q32, .ref q39, .ref q45, .ref q57, .ref q64, .int 0])), (q32, .inl (t32, (wN * hN_), .inl (fun _ => 0))), (q39, .inl (t39, (wN * hN_), .inl (fun _ => 0))), (q45, .inr (0, [.ref f6, .ref f7, .ref f8, .int 1, .int 2, .long 0])), (q57, .inl (t57, (wN * hN_), .inl (fun _ => 0))), (q64, .inl (t64, (wN * hN_), .inl (fun _ => 0))), (f6, .inl (y6, 3, .inl (fun _ => 0))), (f7, .inl (y7, 3, .inl (fun _ => 0))), (f8, .inl (y8, 3, .inl (fun _ => 0)))]) [0, 1, 2, 3, 7, 8, 4, 5, 6] rfl
  have hD9 := hD.sub (ws' := [(h0, .inr (1, [.int (nI wN), .int (nI hN_), .ref q32, .ref q39, .ref q45, .ref q57, .ref q64, .int 0])), (q32, .inl (t32, (wN * hN_), .inl (fun _ => 0))), (q39, .inl (t39, (wN * hN_), .inl (fun _ => 0))), (q45, .inr (0, [.ref f6, .ref f7, .ref f8, .int 1, .int 2, .long 0])), (q57, .inl (t57, (wN * hN_), .inl (fun _ => 0))), (q64, .inl (t64, (wN * hN_), .inl (fun _ => 0))), (f6, .inl (y6, 3, .inl (fun _ => 0))), (f7, .inl (y7, 3, .inl (fun _ => 0))), (f8, .inl (y8, 3, .inl (fun _ => 0)))]) [0, 1, 2, 3, 7, 8, 4, 5, 6] (by decide) rfl
  have hK9 := hK.sub (tys' := [(t32, .int), (t39, .int), (t57, .boolean), (t64, .int), (y6, .int), (y7, .int), (y8, .int)]) [0, 1, 5, 6, 2, 3, 4] rfl
  refine W.widen (k := 8) (n := 2319) (by omega) (by omega) ?_
  exact W.vret hx hb hr (fun t ht hW => ⟨⟨((fun k => match k with | 0 => h0 | 1 => q32 | 2 => q39 | 3 => q45 | 4 => q57 | 5 => q64 | 6 => f6 | 7 => f7 | _ => f8), (fun k => match k with | 0 => t32 | 1 => t32 | 2 => t39 | 3 => t39 | 4 => t57 | 5 => t64 | 6 => y6 | 7 => y7 | _ => y8), wN, hN_), rfl, ⟨rfl, hwN, hhN_⟩, by rw [ht]; exact hP9, va_K.moved hW.alike hK9, hD9⟩, hS.F ht⟩) hS.2.2 dX1_init_74
end
