/-! ===== BEGIN words of one list among another's, by their places ===== -/
theorem goodIn_r {big : List Cond} (ws : List Cond) (ps : List Nat) (hp : ws = ps.filterMap (fun i => big[i]?)) (h : ws.all goodWord = true) : GoodIn big ws := by
  intro w hw
  have h1 := List.all_eq_true.mp h w hw
  rw [hp] at hw
  obtain ⟨i, -, hi⟩ := List.mem_filterMap.mp hw
  have hm : w ∈ big := by first | exact List.mem_of_getElem? hi | exact List.getElem?_mem hi
  exact ⟨hm, good_of_word h1⟩
theorem goodIn_app {big a b : List Cond} (ha : GoodIn big a) (hb : GoodIn big b) : GoodIn big (a ++ b) := fun w h => (List.mem_append.mp h).elim (ha w) (hb w)
theorem goodIn_ca {big a b : List Cond} {c : Cond} (ha : GoodIn big (c :: a)) (hb : GoodIn big b) : GoodIn big (c :: (a ++ b)) := fun w h => (List.mem_cons.mp h).elim (fun e => ha w (List.mem_cons.mpr (Or.inl e))) (fun h => (List.mem_append.mp h).elim (fun h => ha w (List.mem_cons.mpr (Or.inr h))) (hb w))
theorem goodIn_sub {big ws : List Cond} (hm : ∀ w ∈ ws, w ∈ big) (h : ws.all goodWord = true) : GoodIn big ws := fun w hw => ⟨hm w hw, good_of_word (List.all_eq_true.mp h w hw)⟩
/-! ===== END ===== -/

/-! ===== BEGIN printed: names, fields, word lists, decode rows ===== -/
def RX0 : String := "TriangleRaster$Facet"
def TX0 : u_T := fun k => match k with
  | 0 => ("TriangleRaster$Facet", "xs", "[I", true)
  | 1 => ("TriangleRaster$Facet", "ys", "[I", true)
  | 2 => ("TriangleRaster$Facet", "zs", "[I", true)
  | 3 => ("TriangleRaster$Facet", "second", "I", false)
  | 4 => ("TriangleRaster$Facet", "third", "I", false)
  | _ => ("TriangleRaster$Facet", "area", "J", false)
def tyX0 : Nat → FieldType := fun k => match k with
  | 0 => .array .int
  | 1 => .array .int
  | 2 => .array .int
  | 3 => .int
  | 4 => .int
  | _ => .long
abbrev wsX00 : List Cond := u_ws RX0 TX0 6
theorem nmX0 : ∀ a, a < 6 → ∀ b, b < 6 → a ≠ b → (TX0 a).2.1 ≠ (TX0 b).2.1 := by decide +kernel
theorem tyX0_ok : ∀ k, k < 6 → parseFieldDescriptor (TX0 k).2.2.1 = some (tyX0 k) := by decide +kernel
abbrev cX0_init : ByteArray := prog_2_method_1_code
def yX0_init : MethodName := ⟨RX0, "<init>", "()V"⟩
abbrev cX0_place : ByteArray := prog_2_method_2_code
def yX0_place : MethodName := ⟨RX0, "place", "(IIII)V"⟩
abbrev cX0_takeRound : ByteArray := prog_2_method_3_code
def yX0_takeRound : MethodName := ⟨RX0, "takeRound", "()V"⟩
abbrev cX0_depthOver : ByteArray := prog_2_method_4_code
def yX0_depthOver : MethodName := ⟨RX0, "depthOver", "(II)I"⟩
abbrev cX0_edge : ByteArray := prog_2_method_5_code
def yX0_edge : MethodName := ⟨RX0, "edge", "(IIII)J"⟩
abbrev cX0_isInside : ByteArray := prog_2_method_6_code
def yX0_isInside : MethodName := ⟨RX0, "isInside", "(JII)Z"⟩
abbrev cX0_isTopOrLeft : ByteArray := prog_2_method_7_code
def yX0_isTopOrLeft : MethodName := ⟨RX0, "isTopOrLeft", "(II)Z"⟩
def RX1 : String := "TriangleRaster"
def TX1 : u_T := fun k => match k with
  | 0 => ("TriangleRaster", "width", "I", true)
  | 1 => ("TriangleRaster", "height", "I", true)
  | 2 => ("TriangleRaster", "colours", "[I", true)
  | 3 => ("TriangleRaster", "depths", "[I", true)
  | 4 => ("TriangleRaster", "facet", "LTriangleRaster$Facet;", true)
  | 5 => ("TriangleRaster", "reached", "[Z", true)
  | 6 => ("TriangleRaster", "queue", "[I", true)
  | _ => ("TriangleRaster", "queued", "I", false)
def tyX1 : Nat → FieldType := fun k => match k with
  | 0 => .int
  | 1 => .int
  | 2 => .array .int
  | 3 => .array .int
  | 4 => .object "TriangleRaster$Facet"
  | 5 => .array .boolean
  | 6 => .array .int
  | _ => .int
abbrev wsX10 : List Cond := u_ws RX1 TX1 8
theorem nmX1 : ∀ a, a < 8 → ∀ b, b < 8 → a ≠ b → (TX1 a).2.1 ≠ (TX1 b).2.1 := by decide +kernel
theorem tyX1_ok : ∀ k, k < 8 → parseFieldDescriptor (TX1 k).2.2.1 = some (tyX1 k) := by decide +kernel
abbrev cX1_init : ByteArray := prog_1_method_1_code
def yX1_init : MethodName := ⟨RX1, "<init>", "(II)V"⟩
abbrev cX1_clear : ByteArray := prog_1_method_2_code
def yX1_clear : MethodName := ⟨RX1, "clear", "(II)Z"⟩
abbrev cX1_vertex : ByteArray := prog_1_method_3_code
def yX1_vertex : MethodName := ⟨RX1, "vertex", "(IIII)Z"⟩
abbrev cX1_triangle : ByteArray := prog_1_method_4_code
def yX1_triangle : MethodName := ⟨RX1, "triangle", "(I)I"⟩
abbrev cX1_covers : ByteArray := prog_1_method_5_code
def yX1_covers : MethodName := ⟨RX1, "covers", "(II)Z"⟩
abbrev cX1_line : ByteArray := prog_1_method_6_code
def yX1_line : MethodName := ⟨RX1, "line", "(IIIII)I"⟩
abbrev cX1_fill : ByteArray := prog_1_method_7_code
def yX1_fill : MethodName := ⟨RX1, "fill", "(III)I"⟩
abbrev cX1_pixel : ByteArray := prog_1_method_8_code
def yX1_pixel : MethodName := ⟨RX1, "pixel", "(II)I"⟩
abbrev cX1_depthAt : ByteArray := prog_1_method_9_code
def yX1_depthAt : MethodName := ⟨RX1, "depthAt", "(II)I"⟩
abbrev cX1_count : ByteArray := prog_1_method_10_code
def yX1_count : MethodName := ⟨RX1, "count", "(I)I"⟩
abbrev cX1_pieces : ByteArray := prog_1_method_11_code
def yX1_pieces : MethodName := ⟨RX1, "pieces", "(I)I"⟩
abbrev cX1_sideOf : ByteArray := prog_1_method_12_code
def yX1_sideOf : MethodName := ⟨RX1, "sideOf", "(I)I"⟩
abbrev cX1_isWithin : ByteArray := prog_1_method_13_code
def yX1_isWithin : MethodName := ⟨RX1, "isWithin", "(III)Z"⟩
abbrev cX1_isCoordinate : ByteArray := prog_1_method_14_code
def yX1_isCoordinate : MethodName := ⟨RX1, "isCoordinate", "(I)Z"⟩
abbrev cX1_indexOf : ByteArray := prog_1_method_15_code
def yX1_indexOf : MethodName := ⟨RX1, "indexOf", "(II)I"⟩
abbrev cX1_paint : ByteArray := prog_1_method_16_code
def yX1_paint : MethodName := ⟨RX1, "paint", "(III)I"⟩
abbrev cX1_paintNearer : ByteArray := prog_1_method_17_code
def yX1_paintNearer : MethodName := ⟨RX1, "paintNearer", "(III)I"⟩
abbrev cX1_placeBeside : ByteArray := prog_1_method_18_code
def yX1_placeBeside : MethodName := ⟨RX1, "placeBeside", "(IIIII)I"⟩
abbrev cX1_forgetReached : ByteArray := prog_1_method_19_code
def yX1_forgetReached : MethodName := ⟨RX1, "forgetReached", "()V"⟩
abbrev cX1_reachPiece : ByteArray := prog_1_method_20_code
def yX1_reachPiece : MethodName := ⟨RX1, "reachPiece", "(II)I"⟩
abbrev cX1_reach : ByteArray := prog_1_method_21_code
def yX1_reach : MethodName := ⟨RX1, "reach", "(III)V"⟩
def RX2 : String := "TriangleRasterModel"
def TX2 : u_T := fun k => match k with
  | 0 => ("TriangleRasterModel", "w", "I", true)
  | 1 => ("TriangleRasterModel", "h", "I", true)
  | 2 => ("TriangleRasterModel", "colours", "[I", true)
  | 3 => ("TriangleRasterModel", "depths", "[I", true)
  | 4 => ("TriangleRasterModel", "xs", "[I", true)
  | 5 => ("TriangleRasterModel", "ys", "[I", true)
  | 6 => ("TriangleRasterModel", "zs", "[I", true)
  | _ => ("TriangleRasterModel", "marks", "[Z", true)
def tyX2 : Nat → FieldType := fun k => match k with
  | 0 => .int
  | 1 => .int
  | 2 => .array .int
  | 3 => .array .int
  | 4 => .array .int
  | 5 => .array .int
  | 6 => .array .int
  | _ => .array .boolean
abbrev wsX20 : List Cond := u_ws RX2 TX2 8
theorem nmX2 : ∀ a, a < 8 → ∀ b, b < 8 → a ≠ b → (TX2 a).2.1 ≠ (TX2 b).2.1 := by decide +kernel
theorem tyX2_ok : ∀ k, k < 8 → parseFieldDescriptor (TX2 k).2.2.1 = some (tyX2 k) := by decide +kernel
abbrev cX2_init : ByteArray := prog_4_method_1_code
def yX2_init : MethodName := ⟨RX2, "<init>", "(II)V"⟩
abbrev cX2_isPixel : ByteArray := prog_4_method_3_code
def yX2_isPixel : MethodName := ⟨RX2, "isPixel", "(II)Z"⟩
abbrev cX2_clear : ByteArray := prog_4_method_4_code
def yX2_clear : MethodName := ⟨RX2, "clear", "(II)Z"⟩
abbrev cX2_isFar : ByteArray := prog_4_method_5_code
def yX2_isFar : MethodName := ⟨RX2, "isFar", "(I)Z"⟩
abbrev cX2_vertex : ByteArray := prog_4_method_6_code
def yX2_vertex : MethodName := ⟨RX2, "vertex", "(IIII)Z"⟩
abbrev cX2_edge : ByteArray := prog_4_method_7_code
def yX2_edge : MethodName := ⟨RX2, "edge", "(IIJJ)J"⟩
abbrev cX2_area : ByteArray := prog_4_method_8_code
def yX2_area : MethodName := ⟨RX2, "area", "()J"⟩
abbrev cX2_isTopOrLeft : ByteArray := prog_4_method_9_code
def yX2_isTopOrLeft : MethodName := ⟨RX2, "isTopOrLeft", "(II)Z"⟩
abbrev cX2_isInside : ByteArray := prog_4_method_10_code
def yX2_isInside : MethodName := ⟨RX2, "isInside", "(IIJJ)Z"⟩
abbrev cX2_isCovered : ByteArray := prog_4_method_11_code
def yX2_isCovered : MethodName := ⟨RX2, "isCovered", "(II)Z"⟩
abbrev cX2_depthOf : ByteArray := prog_4_method_12_code
def yX2_depthOf : MethodName := ⟨RX2, "depthOf", "(II)I"⟩
abbrev cX2_triangle : ByteArray := prog_4_method_13_code
def yX2_triangle : MethodName := ⟨RX2, "triangle", "(I)I"⟩
abbrev cX2_covers : ByteArray := prog_4_method_14_code
def yX2_covers : MethodName := ⟨RX2, "covers", "(II)Z"⟩
abbrev cX2_sign : ByteArray := prog_4_method_15_code
def yX2_sign : MethodName := ⟨RX2, "sign", "(I)I"⟩
abbrev cX2_line : ByteArray := prog_4_method_16_code
def yX2_line : MethodName := ⟨RX2, "line", "(IIIII)I"⟩
abbrev cX2_mark : ByteArray := prog_4_method_17_code
def yX2_mark : MethodName := ⟨RX2, "mark", "(II)I"⟩
abbrev cX2_unmark : ByteArray := prog_4_method_18_code
def yX2_unmark : MethodName := ⟨RX2, "unmark", "()V"⟩
abbrev cX2_fill : ByteArray := prog_4_method_19_code
def yX2_fill : MethodName := ⟨RX2, "fill", "(III)I"⟩
abbrev cX2_pieces : ByteArray := prog_4_method_20_code
def yX2_pieces : MethodName := ⟨RX2, "pieces", "(I)I"⟩
abbrev cX2_pixel : ByteArray := prog_4_method_21_code
def yX2_pixel : MethodName := ⟨RX2, "pixel", "(II)I"⟩
abbrev cX2_depthAt : ByteArray := prog_4_method_22_code
def yX2_depthAt : MethodName := ⟨RX2, "depthAt", "(II)I"⟩
abbrev cX2_count : ByteArray := prog_4_method_23_code
def yX2_count : MethodName := ⟨RX2, "count", "(I)I"⟩
def RJ9 : String := "java/lang/Math"
def TJ9 : u_T := fun k => match k with
  | _ => ("", "", "", false)
def tyJ9 : Nat → FieldType := fun k => match k with
  | _ => .int
abbrev wsJ90 : List Cond := u_ws RJ9 TJ9 0
theorem nmJ9 : ∀ a, a < 0 → ∀ b, b < 0 → a ≠ b → (TJ9 a).2.1 ≠ (TJ9 b).2.1 := by decide +kernel
theorem tyJ9_ok : ∀ k, k < 0 → parseFieldDescriptor (TJ9 k).2.2.1 = some (tyJ9 k) := by decide +kernel
abbrev cJ9_abs_0f7a4 : ByteArray := prog_5_method_59_code
def yJ9_abs_0f7a4 : MethodName := ⟨RJ9, "abs", "(I)I"⟩
abbrev cJ9_abs_067f4 : ByteArray := prog_5_method_61_code
def yJ9_abs_067f4 : MethodName := ⟨RJ9, "abs", "(J)J"⟩
def RJ7 : String := "java/util/Arrays"
def TJ7 : u_T := fun k => match k with
  | _ => ("", "", "", false)
def tyJ7 : Nat → FieldType := fun k => match k with
  | _ => .int
abbrev wsJ70 : List Cond := u_ws RJ7 TJ7 0
theorem nmJ7 : ∀ a, a < 0 → ∀ b, b < 0 → a ≠ b → (TJ7 a).2.1 ≠ (TJ7 b).2.1 := by decide +kernel
theorem tyJ7_ok : ∀ k, k < 0 → parseFieldDescriptor (TJ7 k).2.2.1 = some (tyJ7 k) := by decide +kernel
abbrev cJ7_fill_53178 : ByteArray := prog_6_method_103_code
def yJ7_fill_53178 : MethodName := ⟨RJ7, "fill", "([II)V"⟩
def RL : String := "TriangleRasterLaw"
abbrev cL_cell : ByteArray := method_2_code
def yL_cell : MethodName := ⟨RL, "cell", "([II)I"⟩
abbrev cL_law : ByteArray := code
def yL_law : MethodName := ⟨RL, "law", "([I)Z"⟩
def wsX0_init : List Cond := .code yX0_init cX0_init 1 none :: ([.methodLink RX0 3 objectInit, .instanceMethod objectInit, .code objectInit ⟨#[0xb1]⟩ 1 none, .arrayClass .int, .fieldLink RX0 9 "TriangleRaster$Facet" "xs" "[I", .fieldLink RX0 15 "TriangleRaster$Facet" "ys" "[I", .fieldLink RX0 18 "TriangleRaster$Facet" "zs" "[I", .fieldLink RX0 21 "TriangleRaster$Facet" "second" "I", .fieldLink RX0 25 "TriangleRaster$Facet" "third" "I", .fieldLink RX0 28 "TriangleRaster$Facet" "area" "J"] ++ wsX00)
def wsX0_edge : List Cond := .code yX0_edge cX0_edge 9 (some .long) :: ([.fieldLink RX0 9 "TriangleRaster$Facet" "xs" "[I", .fieldLink RX0 15 "TriangleRaster$Facet" "ys" "[I"] ++ wsX00)
def wsX0_takeRound : List Cond := .code yX0_takeRound cX0_takeRound 3 none :: ([.fieldLink RX0 9 "TriangleRaster$Facet" "xs" "[I", .fieldLink RX0 15 "TriangleRaster$Facet" "ys" "[I", .fieldLink RX0 21 "TriangleRaster$Facet" "second" "I", .fieldLink RX0 25 "TriangleRaster$Facet" "third" "I", .methodLink RX0 39 Lib.MathLoose.abs_long.x, .static Lib.MathLoose.abs_long.x, .initialized "java/lang/Math", .code Lib.MathLoose.abs_long.x Lib.MathLoose.abs_long.code 2 (some .long), .fieldLink RX0 28 "TriangleRaster$Facet" "area" "J", .methodLink RX0 35 yX0_edge, .instanceMethod yX0_edge, .selects RX0 yX0_edge yX0_edge, .initialized RX0, .code yX0_edge cX0_edge 9 (some .long)] ++ wsX00)
def wsX0_place : List Cond := .code yX0_place cX0_place 5 none :: ([.fieldLink RX0 9 "TriangleRaster$Facet" "xs" "[I", .fieldLink RX0 15 "TriangleRaster$Facet" "ys" "[I", .fieldLink RX0 18 "TriangleRaster$Facet" "zs" "[I", .methodLink RX0 32 yX0_takeRound, .instanceMethod yX0_takeRound, .selects RX0 yX0_takeRound yX0_takeRound, .initialized RX0, .code yX0_takeRound cX0_takeRound 3 none, .fieldLink RX0 21 "TriangleRaster$Facet" "second" "I", .fieldLink RX0 25 "TriangleRaster$Facet" "third" "I", .methodLink RX0 39 Lib.MathLoose.abs_long.x, .static Lib.MathLoose.abs_long.x, .initialized "java/lang/Math", .code Lib.MathLoose.abs_long.x Lib.MathLoose.abs_long.code 2 (some .long), .fieldLink RX0 28 "TriangleRaster$Facet" "area" "J", .methodLink RX0 35 yX0_edge, .instanceMethod yX0_edge, .selects RX0 yX0_edge yX0_edge, .code yX0_edge cX0_edge 9 (some .long)] ++ wsX00)
def wsX0_isTopOrLeft : List Cond := .code yX0_isTopOrLeft cX0_isTopOrLeft 5 (some .boolean) :: ([.fieldLink RX0 15 "TriangleRaster$Facet" "ys" "[I", .fieldLink RX0 9 "TriangleRaster$Facet" "xs" "[I"] ++ wsX00)
def wsX0_isInside : List Cond := .code yX0_isInside cX0_isInside 5 (some .boolean) :: ([.methodLink RX0 49 yX0_isTopOrLeft, .instanceMethod yX0_isTopOrLeft, .selects RX0 yX0_isTopOrLeft yX0_isTopOrLeft, .initialized RX0, .code yX0_isTopOrLeft cX0_isTopOrLeft 5 (some .boolean), .fieldLink RX0 15 "TriangleRaster$Facet" "ys" "[I", .fieldLink RX0 9 "TriangleRaster$Facet" "xs" "[I"] ++ wsX00)
def wsX0_depthOver : List Cond := .code yX0_depthOver cX0_depthOver 11 (some .int) :: ([.fieldLink RX0 28 "TriangleRaster$Facet" "area" "J", .fieldLink RX0 21 "TriangleRaster$Facet" "second" "I", .fieldLink RX0 25 "TriangleRaster$Facet" "third" "I", .fieldLink RX0 18 "TriangleRaster$Facet" "zs" "[I", .methodLink RX0 35 yX0_edge, .instanceMethod yX0_edge, .selects RX0 yX0_edge yX0_edge, .initialized RX0, .code yX0_edge cX0_edge 9 (some .long), .fieldLink RX0 9 "TriangleRaster$Facet" "xs" "[I", .fieldLink RX0 15 "TriangleRaster$Facet" "ys" "[I", .methodLink RX0 45 yX0_isInside, .instanceMethod yX0_isInside, .selects RX0 yX0_isInside yX0_isInside, .code yX0_isInside cX0_isInside 5 (some .boolean), .methodLink RX0 49 yX0_isTopOrLeft, .instanceMethod yX0_isTopOrLeft, .selects RX0 yX0_isTopOrLeft yX0_isTopOrLeft, .code yX0_isTopOrLeft cX0_isTopOrLeft 5 (some .boolean)] ++ wsX00)
def wsX1_isWithin : List Cond := .code yX1_isWithin cX1_isWithin 3 (some .boolean) :: ([])
def wsX1_sideOf : List Cond := .code yX1_sideOf cX1_sideOf 1 (some .int) :: ([.methodLink RX1 45 yX1_isWithin, .static yX1_isWithin, .initialized RX1, .code yX1_isWithin cX1_isWithin 3 (some .boolean)])
def wsX1_init_r1 : List Cond := [Cond.methodLink RX1 1 objectInit, Cond.instanceMethod objectInit, Cond.code objectInit ⟨#[0xb1]⟩ 1 none, Cond.fieldLink RX1 13 "TriangleRaster" "width" "I", Cond.fieldLink RX1 17 "TriangleRaster" "height" "I", Cond.arrayClass .int, Cond.fieldLink RX1 20 "TriangleRaster" "colours" "[I", Cond.fieldLink RX1 24 "TriangleRaster" "depths" "[I", Cond.classLink RX1 27 RX0, Cond.instantiable RX0 6, Cond.initialized RX0, Cond.fieldLink RX1 30 "TriangleRaster" "facet" "LTriangleRaster$Facet;", Cond.arrayClass .boolean, Cond.fieldLink RX1 34 "TriangleRaster" "reached" "[Z", Cond.fieldLink RX1 38 "TriangleRaster" "queue" "[I", Cond.fieldLink RX1 41 "TriangleRaster" "queued" "I", Cond.methodLink RX1 7 yX1_sideOf, Cond.static yX1_sideOf, Cond.initialized RX1, Cond.code yX1_sideOf cX1_sideOf 1 (some .int), Cond.methodLink RX1 45 yX1_isWithin, Cond.static yX1_isWithin, Cond.code yX1_isWithin cX1_isWithin 3 (some .boolean), Cond.instanceMethod yX0_init]
def wsX1_init_r2 : List Cond := [Cond.code yX0_init cX0_init 1 none, Cond.methodLink RX0 3 objectInit, Cond.fieldLink RX0 9 "TriangleRaster$Facet" "xs" "[I", Cond.fieldLink RX0 15 "TriangleRaster$Facet" "ys" "[I", Cond.fieldLink RX0 18 "TriangleRaster$Facet" "zs" "[I", Cond.fieldLink RX0 21 "TriangleRaster$Facet" "second" "I", Cond.fieldLink RX0 25 "TriangleRaster$Facet" "third" "I", Cond.fieldLink RX0 28 "TriangleRaster$Facet" "area" "J"]
def wsX1_init : List Cond := .code yX1_init cX1_init 4 none :: ((wsX1_init_r1 ++ wsX1_init_r2) ++ wsX10 ++ wsX00)
def wsJ7_fill_53178 : List Cond := .code yJ7_fill_53178 cJ7_fill_53178 4 none :: ([])
def wsX1_clear : List Cond := .code yX1_clear cX1_clear 3 (some .boolean) :: ([.constant RX1 44 (65535), .fieldLink RX1 20 "TriangleRaster" "colours" "[I", .fieldLink RX1 24 "TriangleRaster" "depths" "[I", .methodLink RX1 45 yX1_isWithin, .static yX1_isWithin, .initialized RX1, .code yX1_isWithin cX1_isWithin 3 (some .boolean), .methodLink RX1 49 yJ7_fill_53178, .static yJ7_fill_53178, .initialized RJ7, .code yJ7_fill_53178 cJ7_fill_53178 4 none] ++ wsX10)
def wsX1_isCoordinate : List Cond := .code yX1_isCoordinate cX1_isCoordinate 1 (some .boolean) :: ([.methodLink RX1 45 yX1_isWithin, .static yX1_isWithin, .initialized RX1, .code yX1_isWithin cX1_isWithin 3 (some .boolean)])
def wsX1_vertex_r1 : List Cond := [Cond.constant RX1 59 (32768), Cond.fieldLink RX1 30 "TriangleRaster" "facet" "LTriangleRaster$Facet;", Cond.methodLink RX1 45 yX1_isWithin, Cond.static yX1_isWithin, Cond.initialized RX1, Cond.code yX1_isWithin cX1_isWithin 3 (some .boolean), Cond.methodLink RX1 55 yX1_isCoordinate, Cond.static yX1_isCoordinate, Cond.code yX1_isCoordinate cX1_isCoordinate 1 (some .boolean), Cond.instanceMethod yX0_place, Cond.initialized RX0, Cond.selects RX0 yX0_place yX0_place, Cond.code yX0_place cX0_place 5 none, Cond.fieldLink RX0 9 "TriangleRaster$Facet" "xs" "[I", Cond.fieldLink RX0 15 "TriangleRaster$Facet" "ys" "[I", Cond.fieldLink RX0 18 "TriangleRaster$Facet" "zs" "[I", Cond.methodLink RX0 32 yX0_takeRound, Cond.instanceMethod yX0_takeRound, Cond.selects RX0 yX0_takeRound yX0_takeRound, Cond.code yX0_takeRound cX0_takeRound 3 none, Cond.fieldLink RX0 21 "TriangleRaster$Facet" "second" "I", Cond.fieldLink RX0 25 "TriangleRaster$Facet" "third" "I", Cond.methodLink RX0 39 Lib.MathLoose.abs_long.x, Cond.static Lib.MathLoose.abs_long.x]
def wsX1_vertex_r2 : List Cond := [Cond.initialized "java/lang/Math", Cond.code Lib.MathLoose.abs_long.x Lib.MathLoose.abs_long.code 2 (some .long), Cond.fieldLink RX0 28 "TriangleRaster$Facet" "area" "J", Cond.methodLink RX0 35 yX0_edge, Cond.instanceMethod yX0_edge, Cond.selects RX0 yX0_edge yX0_edge, Cond.code yX0_edge cX0_edge 9 (some .long)]
def wsX1_vertex : List Cond := .code yX1_vertex cX1_vertex 5 (some .boolean) :: ((wsX1_vertex_r1 ++ wsX1_vertex_r2) ++ wsX10 ++ wsX00)
def wsX1_indexOf : List Cond := .code yX1_indexOf cX1_indexOf 4 (some .int) :: ([.fieldLink RX1 13 "TriangleRaster" "width" "I", .fieldLink RX1 17 "TriangleRaster" "height" "I", .methodLink RX1 45 yX1_isWithin, .static yX1_isWithin, .initialized RX1, .code yX1_isWithin cX1_isWithin 3 (some .boolean)] ++ wsX10)
def wsX1_paintNearer_r1 : List Cond := [Cond.fieldLink RX1 30 "TriangleRaster" "facet" "LTriangleRaster$Facet;", Cond.fieldLink RX1 24 "TriangleRaster" "depths" "[I", Cond.fieldLink RX1 20 "TriangleRaster" "colours" "[I", Cond.methodLink RX1 84 yX1_indexOf, Cond.instanceMethod yX1_indexOf, Cond.selects RX1 yX1_indexOf yX1_indexOf, Cond.initialized RX1, Cond.code yX1_indexOf cX1_indexOf 4 (some .int), Cond.fieldLink RX1 13 "TriangleRaster" "width" "I", Cond.fieldLink RX1 17 "TriangleRaster" "height" "I", Cond.methodLink RX1 45 yX1_isWithin, Cond.static yX1_isWithin, Cond.code yX1_isWithin cX1_isWithin 3 (some .boolean), Cond.instanceMethod yX0_depthOver, Cond.initialized RX0, Cond.selects RX0 yX0_depthOver yX0_depthOver, Cond.code yX0_depthOver cX0_depthOver 11 (some .int), Cond.fieldLink RX0 28 "TriangleRaster$Facet" "area" "J", Cond.fieldLink RX0 21 "TriangleRaster$Facet" "second" "I", Cond.fieldLink RX0 25 "TriangleRaster$Facet" "third" "I", Cond.fieldLink RX0 18 "TriangleRaster$Facet" "zs" "[I", Cond.methodLink RX0 35 yX0_edge, Cond.instanceMethod yX0_edge, Cond.selects RX0 yX0_edge yX0_edge]
def wsX1_paintNearer_r2 : List Cond := [Cond.code yX0_edge cX0_edge 9 (some .long), Cond.fieldLink RX0 9 "TriangleRaster$Facet" "xs" "[I", Cond.fieldLink RX0 15 "TriangleRaster$Facet" "ys" "[I", Cond.methodLink RX0 45 yX0_isInside, Cond.instanceMethod yX0_isInside, Cond.selects RX0 yX0_isInside yX0_isInside, Cond.code yX0_isInside cX0_isInside 5 (some .boolean), Cond.methodLink RX0 49 yX0_isTopOrLeft, Cond.instanceMethod yX0_isTopOrLeft, Cond.selects RX0 yX0_isTopOrLeft yX0_isTopOrLeft, Cond.code yX0_isTopOrLeft cX0_isTopOrLeft 5 (some .boolean)]
def wsX1_paintNearer : List Cond := .code yX1_paintNearer cX1_paintNearer 6 (some .int) :: ((wsX1_paintNearer_r1 ++ wsX1_paintNearer_r2) ++ wsX10 ++ wsX00)
def wsX1_triangle_r1 : List Cond := [Cond.fieldLink RX1 17 "TriangleRaster" "height" "I", Cond.fieldLink RX1 13 "TriangleRaster" "width" "I", Cond.methodLink RX1 64 yX1_paintNearer, Cond.instanceMethod yX1_paintNearer, Cond.selects RX1 yX1_paintNearer yX1_paintNearer, Cond.initialized RX1, Cond.code yX1_paintNearer cX1_paintNearer 6 (some .int), Cond.fieldLink RX1 30 "TriangleRaster" "facet" "LTriangleRaster$Facet;", Cond.fieldLink RX1 24 "TriangleRaster" "depths" "[I", Cond.fieldLink RX1 20 "TriangleRaster" "colours" "[I", Cond.methodLink RX1 84 yX1_indexOf, Cond.instanceMethod yX1_indexOf, Cond.selects RX1 yX1_indexOf yX1_indexOf, Cond.code yX1_indexOf cX1_indexOf 4 (some .int), Cond.methodLink RX1 45 yX1_isWithin, Cond.static yX1_isWithin, Cond.code yX1_isWithin cX1_isWithin 3 (some .boolean), Cond.instanceMethod yX0_depthOver, Cond.initialized RX0, Cond.selects RX0 yX0_depthOver yX0_depthOver, Cond.code yX0_depthOver cX0_depthOver 11 (some .int), Cond.fieldLink RX0 28 "TriangleRaster$Facet" "area" "J", Cond.fieldLink RX0 21 "TriangleRaster$Facet" "second" "I", Cond.fieldLink RX0 25 "TriangleRaster$Facet" "third" "I"]
def wsX1_triangle_r2 : List Cond := [Cond.fieldLink RX0 18 "TriangleRaster$Facet" "zs" "[I", Cond.methodLink RX0 35 yX0_edge, Cond.instanceMethod yX0_edge, Cond.selects RX0 yX0_edge yX0_edge, Cond.code yX0_edge cX0_edge 9 (some .long), Cond.fieldLink RX0 9 "TriangleRaster$Facet" "xs" "[I", Cond.fieldLink RX0 15 "TriangleRaster$Facet" "ys" "[I", Cond.methodLink RX0 45 yX0_isInside, Cond.instanceMethod yX0_isInside, Cond.selects RX0 yX0_isInside yX0_isInside, Cond.code yX0_isInside cX0_isInside 5 (some .boolean), Cond.methodLink RX0 49 yX0_isTopOrLeft, Cond.instanceMethod yX0_isTopOrLeft, Cond.selects RX0 yX0_isTopOrLeft yX0_isTopOrLeft, Cond.code yX0_isTopOrLeft cX0_isTopOrLeft 5 (some .boolean)]
def wsX1_triangle : List Cond := .code yX1_triangle cX1_triangle 5 (some .int) :: ((wsX1_triangle_r1 ++ wsX1_triangle_r2) ++ wsX10 ++ wsX00)
def wsX1_covers_r1 : List Cond := [Cond.fieldLink RX1 30 "TriangleRaster" "facet" "LTriangleRaster$Facet;", Cond.methodLink RX1 45 yX1_isWithin, Cond.static yX1_isWithin, Cond.initialized RX1, Cond.code yX1_isWithin cX1_isWithin 3 (some .boolean), Cond.instanceMethod yX0_depthOver, Cond.initialized RX0, Cond.selects RX0 yX0_depthOver yX0_depthOver, Cond.code yX0_depthOver cX0_depthOver 11 (some .int), Cond.fieldLink RX0 28 "TriangleRaster$Facet" "area" "J", Cond.fieldLink RX0 21 "TriangleRaster$Facet" "second" "I", Cond.fieldLink RX0 25 "TriangleRaster$Facet" "third" "I", Cond.fieldLink RX0 18 "TriangleRaster$Facet" "zs" "[I", Cond.methodLink RX0 35 yX0_edge, Cond.instanceMethod yX0_edge, Cond.selects RX0 yX0_edge yX0_edge, Cond.code yX0_edge cX0_edge 9 (some .long), Cond.fieldLink RX0 9 "TriangleRaster$Facet" "xs" "[I", Cond.fieldLink RX0 15 "TriangleRaster$Facet" "ys" "[I", Cond.methodLink RX0 45 yX0_isInside, Cond.instanceMethod yX0_isInside, Cond.selects RX0 yX0_isInside yX0_isInside, Cond.code yX0_isInside cX0_isInside 5 (some .boolean), Cond.methodLink RX0 49 yX0_isTopOrLeft]
def wsX1_covers_r2 : List Cond := [Cond.instanceMethod yX0_isTopOrLeft, Cond.selects RX0 yX0_isTopOrLeft yX0_isTopOrLeft, Cond.code yX0_isTopOrLeft cX0_isTopOrLeft 5 (some .boolean)]
def wsX1_covers : List Cond := .code yX1_covers cX1_covers 3 (some .boolean) :: ((wsX1_covers_r1 ++ wsX1_covers_r2) ++ wsX10 ++ wsX00)
def wsX1_placeBeside : List Cond := .code yX1_placeBeside cX1_placeBeside 12 (some .int) :: ([.methodLink RX1 72 Lib.Math.abs.name, .static Lib.Math.abs.name, .initialized "java/lang/Math", .code Lib.Math.abs.name Lib.Math.abs.code 1 (some .int), .constantLong RX1 93 (2)])
def wsX1_paint : List Cond := .code yX1_paint cX1_paint 5 (some .int) :: ([.fieldLink RX1 20 "TriangleRaster" "colours" "[I", .methodLink RX1 84 yX1_indexOf, .instanceMethod yX1_indexOf, .selects RX1 yX1_indexOf yX1_indexOf, .initialized RX1, .code yX1_indexOf cX1_indexOf 4 (some .int), .fieldLink RX1 13 "TriangleRaster" "width" "I", .fieldLink RX1 17 "TriangleRaster" "height" "I", .methodLink RX1 45 yX1_isWithin, .static yX1_isWithin, .code yX1_isWithin cX1_isWithin 3 (some .boolean)] ++ wsX10)
def wsX1_line_r1 : List Cond := [Cond.methodLink RX1 72 Lib.Math.abs.name, Cond.static Lib.Math.abs.name, Cond.initialized "java/lang/Math", Cond.code Lib.Math.abs.name Lib.Math.abs.code 1 (some .int), Cond.fieldLink RX1 13 "TriangleRaster" "width" "I", Cond.fieldLink RX1 17 "TriangleRaster" "height" "I", Cond.methodLink RX1 55 yX1_isCoordinate, Cond.static yX1_isCoordinate, Cond.initialized RX1, Cond.code yX1_isCoordinate cX1_isCoordinate 1 (some .boolean), Cond.methodLink RX1 45 yX1_isWithin, Cond.static yX1_isWithin, Cond.code yX1_isWithin cX1_isWithin 3 (some .boolean), Cond.methodLink RX1 77 yX1_placeBeside, Cond.static yX1_placeBeside, Cond.code yX1_placeBeside cX1_placeBeside 12 (some .int), Cond.constantLong RX1 93 (2), Cond.methodLink RX1 81 yX1_paint, Cond.instanceMethod yX1_paint, Cond.selects RX1 yX1_paint yX1_paint, Cond.code yX1_paint cX1_paint 5 (some .int), Cond.fieldLink RX1 20 "TriangleRaster" "colours" "[I", Cond.methodLink RX1 84 yX1_indexOf, Cond.instanceMethod yX1_indexOf]
def wsX1_line_r2 : List Cond := [Cond.selects RX1 yX1_indexOf yX1_indexOf, Cond.code yX1_indexOf cX1_indexOf 4 (some .int)]
def wsX1_line : List Cond := .code yX1_line cX1_line 8 (some .int) :: ((wsX1_line_r1 ++ wsX1_line_r2) ++ wsX10)
def wsX1_forgetReached : List Cond := .code yX1_forgetReached cX1_forgetReached 2 none :: ([.fieldLink RX1 34 "TriangleRaster" "reached" "[Z"] ++ wsX10)
def wsX1_pixel : List Cond := .code yX1_pixel cX1_pixel 4 (some .int) :: ([.fieldLink RX1 20 "TriangleRaster" "colours" "[I", .methodLink RX1 84 yX1_indexOf, .instanceMethod yX1_indexOf, .selects RX1 yX1_indexOf yX1_indexOf, .initialized RX1, .code yX1_indexOf cX1_indexOf 4 (some .int), .fieldLink RX1 13 "TriangleRaster" "width" "I", .fieldLink RX1 17 "TriangleRaster" "height" "I", .methodLink RX1 45 yX1_isWithin, .static yX1_isWithin, .code yX1_isWithin cX1_isWithin 3 (some .boolean)] ++ wsX10)
def wsX1_reach : List Cond := .code yX1_reach cX1_reach 5 none :: ([.fieldLink RX1 34 "TriangleRaster" "reached" "[Z", .fieldLink RX1 20 "TriangleRaster" "colours" "[I", .fieldLink RX1 41 "TriangleRaster" "queued" "I", .fieldLink RX1 38 "TriangleRaster" "queue" "[I", .methodLink RX1 84 yX1_indexOf, .instanceMethod yX1_indexOf, .selects RX1 yX1_indexOf yX1_indexOf, .initialized RX1, .code yX1_indexOf cX1_indexOf 4 (some .int), .fieldLink RX1 13 "TriangleRaster" "width" "I", .fieldLink RX1 17 "TriangleRaster" "height" "I", .methodLink RX1 45 yX1_isWithin, .static yX1_isWithin, .code yX1_isWithin cX1_isWithin 3 (some .boolean)] ++ wsX10)
def wsX1_reachPiece : List Cond := .code yX1_reachPiece cX1_reachPiece 7 (some .int) :: ([.fieldLink RX1 41 "TriangleRaster" "queued" "I", .fieldLink RX1 38 "TriangleRaster" "queue" "[I", .fieldLink RX1 13 "TriangleRaster" "width" "I", .methodLink RX1 95 yX1_pixel, .instanceMethod yX1_pixel, .selects RX1 yX1_pixel yX1_pixel, .initialized RX1, .code yX1_pixel cX1_pixel 4 (some .int), .fieldLink RX1 20 "TriangleRaster" "colours" "[I", .methodLink RX1 84 yX1_indexOf, .instanceMethod yX1_indexOf, .selects RX1 yX1_indexOf yX1_indexOf, .code yX1_indexOf cX1_indexOf 4 (some .int), .fieldLink RX1 17 "TriangleRaster" "height" "I", .methodLink RX1 45 yX1_isWithin, .static yX1_isWithin, .code yX1_isWithin cX1_isWithin 3 (some .boolean), .methodLink RX1 98 yX1_reach, .instanceMethod yX1_reach, .selects RX1 yX1_reach yX1_reach, .code yX1_reach cX1_reach 5 none, .fieldLink RX1 34 "TriangleRaster" "reached" "[Z"] ++ wsX10)
def wsX1_fill_r1 : List Cond := [Cond.fieldLink RX1 20 "TriangleRaster" "colours" "[I", Cond.fieldLink RX1 38 "TriangleRaster" "queue" "[I", Cond.methodLink RX1 84 yX1_indexOf, Cond.instanceMethod yX1_indexOf, Cond.selects RX1 yX1_indexOf yX1_indexOf, Cond.initialized RX1, Cond.code yX1_indexOf cX1_indexOf 4 (some .int), Cond.fieldLink RX1 13 "TriangleRaster" "width" "I", Cond.fieldLink RX1 17 "TriangleRaster" "height" "I", Cond.methodLink RX1 45 yX1_isWithin, Cond.static yX1_isWithin, Cond.code yX1_isWithin cX1_isWithin 3 (some .boolean), Cond.methodLink RX1 87 yX1_forgetReached, Cond.instanceMethod yX1_forgetReached, Cond.selects RX1 yX1_forgetReached yX1_forgetReached, Cond.code yX1_forgetReached cX1_forgetReached 2 none, Cond.fieldLink RX1 34 "TriangleRaster" "reached" "[Z", Cond.methodLink RX1 90 yX1_reachPiece, Cond.instanceMethod yX1_reachPiece, Cond.selects RX1 yX1_reachPiece yX1_reachPiece, Cond.code yX1_reachPiece cX1_reachPiece 7 (some .int), Cond.fieldLink RX1 41 "TriangleRaster" "queued" "I", Cond.methodLink RX1 95 yX1_pixel, Cond.instanceMethod yX1_pixel]
def wsX1_fill_r2 : List Cond := [Cond.selects RX1 yX1_pixel yX1_pixel, Cond.code yX1_pixel cX1_pixel 4 (some .int), Cond.methodLink RX1 98 yX1_reach, Cond.instanceMethod yX1_reach, Cond.selects RX1 yX1_reach yX1_reach, Cond.code yX1_reach cX1_reach 5 none]
def wsX1_fill : List Cond := .code yX1_fill cX1_fill 7 (some .int) :: ((wsX1_fill_r1 ++ wsX1_fill_r2) ++ wsX10)
def wsX1_depthAt : List Cond := .code yX1_depthAt cX1_depthAt 4 (some .int) :: ([.fieldLink RX1 24 "TriangleRaster" "depths" "[I", .methodLink RX1 84 yX1_indexOf, .instanceMethod yX1_indexOf, .selects RX1 yX1_indexOf yX1_indexOf, .initialized RX1, .code yX1_indexOf cX1_indexOf 4 (some .int), .fieldLink RX1 13 "TriangleRaster" "width" "I", .fieldLink RX1 17 "TriangleRaster" "height" "I", .methodLink RX1 45 yX1_isWithin, .static yX1_isWithin, .code yX1_isWithin cX1_isWithin 3 (some .boolean)] ++ wsX10)
def wsX1_count : List Cond := .code yX1_count cX1_count 4 (some .int) :: ([.fieldLink RX1 20 "TriangleRaster" "colours" "[I"] ++ wsX10)
def wsX1_pieces_r1 : List Cond := [Cond.fieldLink RX1 20 "TriangleRaster" "colours" "[I", Cond.fieldLink RX1 34 "TriangleRaster" "reached" "[Z", Cond.fieldLink RX1 13 "TriangleRaster" "width" "I", Cond.methodLink RX1 87 yX1_forgetReached, Cond.instanceMethod yX1_forgetReached, Cond.selects RX1 yX1_forgetReached yX1_forgetReached, Cond.initialized RX1, Cond.code yX1_forgetReached cX1_forgetReached 2 none, Cond.methodLink RX1 90 yX1_reachPiece, Cond.instanceMethod yX1_reachPiece, Cond.selects RX1 yX1_reachPiece yX1_reachPiece, Cond.code yX1_reachPiece cX1_reachPiece 7 (some .int), Cond.fieldLink RX1 41 "TriangleRaster" "queued" "I", Cond.fieldLink RX1 38 "TriangleRaster" "queue" "[I", Cond.methodLink RX1 95 yX1_pixel, Cond.instanceMethod yX1_pixel, Cond.selects RX1 yX1_pixel yX1_pixel, Cond.code yX1_pixel cX1_pixel 4 (some .int), Cond.methodLink RX1 84 yX1_indexOf, Cond.instanceMethod yX1_indexOf, Cond.selects RX1 yX1_indexOf yX1_indexOf, Cond.code yX1_indexOf cX1_indexOf 4 (some .int), Cond.fieldLink RX1 17 "TriangleRaster" "height" "I", Cond.methodLink RX1 45 yX1_isWithin]
def wsX1_pieces_r2 : List Cond := [Cond.static yX1_isWithin, Cond.code yX1_isWithin cX1_isWithin 3 (some .boolean), Cond.methodLink RX1 98 yX1_reach, Cond.instanceMethod yX1_reach, Cond.selects RX1 yX1_reach yX1_reach, Cond.code yX1_reach cX1_reach 5 none]
def wsX1_pieces : List Cond := .code yX1_pieces cX1_pieces 4 (some .int) :: ((wsX1_pieces_r1 ++ wsX1_pieces_r2) ++ wsX10)
def wsX2_init : List Cond := .code yX2_init cX2_init 3 none :: ([.methodLink RX2 1 objectInit, .instanceMethod objectInit, .code objectInit ⟨#[0xb1]⟩ 1 none, .arrayClass .int, .fieldLink RX2 7 "TriangleRasterModel" "colours" "[I", .fieldLink RX2 13 "TriangleRasterModel" "depths" "[I", .fieldLink RX2 16 "TriangleRasterModel" "xs" "[I", .fieldLink RX2 19 "TriangleRasterModel" "ys" "[I", .fieldLink RX2 22 "TriangleRasterModel" "zs" "[I", .arrayClass .boolean, .fieldLink RX2 25 "TriangleRasterModel" "marks" "[Z", .fieldLink RX2 29 "TriangleRasterModel" "w" "I", .fieldLink RX2 33 "TriangleRasterModel" "h" "I"] ++ wsX20)
def wsX2_isPixel : List Cond := .code yX2_isPixel cX2_isPixel 3 (some .boolean) :: ([.fieldLink RX2 29 "TriangleRasterModel" "w" "I", .fieldLink RX2 33 "TriangleRasterModel" "h" "I"] ++ wsX20)
def wsX2_clear : List Cond := .code yX2_clear cX2_clear 4 (some .boolean) :: ([.constant RX2 36 (65535), .fieldLink RX2 7 "TriangleRasterModel" "colours" "[I", .fieldLink RX2 13 "TriangleRasterModel" "depths" "[I"] ++ wsX20)
def wsX2_isFar : List Cond := .code yX2_isFar cX2_isFar 1 (some .boolean) :: ([])
def wsX2_vertex : List Cond := .code yX2_vertex cX2_vertex 5 (some .boolean) :: ([.constant RX2 41 (32768), .fieldLink RX2 16 "TriangleRasterModel" "xs" "[I", .fieldLink RX2 19 "TriangleRasterModel" "ys" "[I", .fieldLink RX2 22 "TriangleRasterModel" "zs" "[I", .methodLink RX2 37 yX2_isFar, .static yX2_isFar, .initialized RX2, .code yX2_isFar cX2_isFar 1 (some .boolean)] ++ wsX20)
def wsX2_edge : List Cond := .code yX2_edge cX2_edge 7 (some .long) :: ([.fieldLink RX2 16 "TriangleRasterModel" "xs" "[I", .fieldLink RX2 19 "TriangleRasterModel" "ys" "[I"] ++ wsX20)
def wsX2_area : List Cond := .code yX2_area cX2_area 1 (some .long) :: ([.fieldLink RX2 16 "TriangleRasterModel" "xs" "[I", .fieldLink RX2 19 "TriangleRasterModel" "ys" "[I", .methodLink RX2 42 yX2_edge, .instanceMethod yX2_edge, .selects RX2 yX2_edge yX2_edge, .initialized RX2, .code yX2_edge cX2_edge 7 (some .long)] ++ wsX20)
def wsX2_isTopOrLeft : List Cond := .code yX2_isTopOrLeft cX2_isTopOrLeft 3 (some .boolean) :: ([.fieldLink RX2 19 "TriangleRasterModel" "ys" "[I", .fieldLink RX2 16 "TriangleRasterModel" "xs" "[I"] ++ wsX20)
def wsX2_isInside : List Cond := .code yX2_isInside cX2_isInside 9 (some .boolean) :: ([.methodLink RX2 42 yX2_edge, .instanceMethod yX2_edge, .selects RX2 yX2_edge yX2_edge, .initialized RX2, .code yX2_edge cX2_edge 7 (some .long), .fieldLink RX2 16 "TriangleRasterModel" "xs" "[I", .fieldLink RX2 19 "TriangleRasterModel" "ys" "[I", .methodLink RX2 46 yX2_isTopOrLeft, .instanceMethod yX2_isTopOrLeft, .selects RX2 yX2_isTopOrLeft yX2_isTopOrLeft, .code yX2_isTopOrLeft cX2_isTopOrLeft 3 (some .boolean)] ++ wsX20)
def wsX2_isCovered : List Cond := .code yX2_isCovered cX2_isCovered 9 (some .boolean) :: ([.constantLong RX2 50 (16), .constantLong RX2 52 (8), .methodLink RX2 54 yX2_area, .instanceMethod yX2_area, .selects RX2 yX2_area yX2_area, .initialized RX2, .code yX2_area cX2_area 1 (some .long), .fieldLink RX2 16 "TriangleRasterModel" "xs" "[I", .fieldLink RX2 19 "TriangleRasterModel" "ys" "[I", .methodLink RX2 42 yX2_edge, .instanceMethod yX2_edge, .selects RX2 yX2_edge yX2_edge, .code yX2_edge cX2_edge 7 (some .long), .methodLink RX2 58 yX2_isInside, .instanceMethod yX2_isInside, .selects RX2 yX2_isInside yX2_isInside, .code yX2_isInside cX2_isInside 9 (some .boolean), .methodLink RX2 46 yX2_isTopOrLeft, .instanceMethod yX2_isTopOrLeft, .selects RX2 yX2_isTopOrLeft yX2_isTopOrLeft, .code yX2_isTopOrLeft cX2_isTopOrLeft 3 (some .boolean)] ++ wsX20)
def wsX2_depthOf : List Cond := .code yX2_depthOf cX2_depthOf 9 (some .int) :: ([.constantLong RX2 50 (16), .constantLong RX2 52 (8), .fieldLink RX2 22 "TriangleRasterModel" "zs" "[I", .methodLink RX2 42 yX2_edge, .instanceMethod yX2_edge, .selects RX2 yX2_edge yX2_edge, .initialized RX2, .code yX2_edge cX2_edge 7 (some .long), .fieldLink RX2 16 "TriangleRasterModel" "xs" "[I", .fieldLink RX2 19 "TriangleRasterModel" "ys" "[I", .methodLink RX2 54 yX2_area, .instanceMethod yX2_area, .selects RX2 yX2_area yX2_area, .code yX2_area cX2_area 1 (some .long)] ++ wsX20)
def wsX2_triangle_r1 : List Cond := [Cond.fieldLink RX2 33 "TriangleRasterModel" "h" "I", Cond.fieldLink RX2 29 "TriangleRasterModel" "w" "I", Cond.fieldLink RX2 13 "TriangleRasterModel" "depths" "[I", Cond.fieldLink RX2 7 "TriangleRasterModel" "colours" "[I", Cond.methodLink RX2 62 yX2_isCovered, Cond.instanceMethod yX2_isCovered, Cond.selects RX2 yX2_isCovered yX2_isCovered, Cond.initialized RX2, Cond.code yX2_isCovered cX2_isCovered 9 (some .boolean), Cond.constantLong RX2 50 (16), Cond.constantLong RX2 52 (8), Cond.methodLink RX2 54 yX2_area, Cond.instanceMethod yX2_area, Cond.selects RX2 yX2_area yX2_area, Cond.code yX2_area cX2_area 1 (some .long), Cond.fieldLink RX2 16 "TriangleRasterModel" "xs" "[I", Cond.fieldLink RX2 19 "TriangleRasterModel" "ys" "[I", Cond.methodLink RX2 42 yX2_edge, Cond.instanceMethod yX2_edge, Cond.selects RX2 yX2_edge yX2_edge, Cond.code yX2_edge cX2_edge 7 (some .long), Cond.methodLink RX2 58 yX2_isInside, Cond.instanceMethod yX2_isInside, Cond.selects RX2 yX2_isInside yX2_isInside]
def wsX2_triangle_r2 : List Cond := [Cond.code yX2_isInside cX2_isInside 9 (some .boolean), Cond.methodLink RX2 46 yX2_isTopOrLeft, Cond.instanceMethod yX2_isTopOrLeft, Cond.selects RX2 yX2_isTopOrLeft yX2_isTopOrLeft, Cond.code yX2_isTopOrLeft cX2_isTopOrLeft 3 (some .boolean), Cond.methodLink RX2 65 yX2_depthOf, Cond.instanceMethod yX2_depthOf, Cond.selects RX2 yX2_depthOf yX2_depthOf, Cond.code yX2_depthOf cX2_depthOf 9 (some .int), Cond.fieldLink RX2 22 "TriangleRasterModel" "zs" "[I"]
def wsX2_triangle : List Cond := .code yX2_triangle cX2_triangle 5 (some .int) :: ((wsX2_triangle_r1 ++ wsX2_triangle_r2) ++ wsX20)
def wsX2_covers_r1 : List Cond := [Cond.methodLink RX2 62 yX2_isCovered, Cond.instanceMethod yX2_isCovered, Cond.selects RX2 yX2_isCovered yX2_isCovered, Cond.initialized RX2, Cond.code yX2_isCovered cX2_isCovered 9 (some .boolean), Cond.constantLong RX2 50 (16), Cond.constantLong RX2 52 (8), Cond.methodLink RX2 54 yX2_area, Cond.instanceMethod yX2_area, Cond.selects RX2 yX2_area yX2_area, Cond.code yX2_area cX2_area 1 (some .long), Cond.fieldLink RX2 16 "TriangleRasterModel" "xs" "[I", Cond.fieldLink RX2 19 "TriangleRasterModel" "ys" "[I", Cond.methodLink RX2 42 yX2_edge, Cond.instanceMethod yX2_edge, Cond.selects RX2 yX2_edge yX2_edge, Cond.code yX2_edge cX2_edge 7 (some .long), Cond.methodLink RX2 58 yX2_isInside, Cond.instanceMethod yX2_isInside, Cond.selects RX2 yX2_isInside yX2_isInside, Cond.code yX2_isInside cX2_isInside 9 (some .boolean), Cond.methodLink RX2 46 yX2_isTopOrLeft, Cond.instanceMethod yX2_isTopOrLeft, Cond.selects RX2 yX2_isTopOrLeft yX2_isTopOrLeft]
def wsX2_covers_r2 : List Cond := [Cond.code yX2_isTopOrLeft cX2_isTopOrLeft 3 (some .boolean)]
def wsX2_covers : List Cond := .code yX2_covers cX2_covers 4 (some .boolean) :: ((wsX2_covers_r1 ++ wsX2_covers_r2) ++ wsX20)
def wsX2_sign : List Cond := .code yX2_sign cX2_sign 1 (some .int) :: ([])
def wsX2_line : List Cond := .code yX2_line cX2_line 16 (some .int) :: ([.constantLong RX2 69 (2), .fieldLink RX2 7 "TriangleRasterModel" "colours" "[I", .methodLink RX2 37 yX2_isFar, .static yX2_isFar, .initialized RX2, .code yX2_isFar cX2_isFar 1 (some .boolean), .methodLink RX2 71 yX2_sign, .static yX2_sign, .code yX2_sign cX2_sign 1 (some .int), .methodLink RX2 75 yX2_isPixel, .instanceMethod yX2_isPixel, .selects RX2 yX2_isPixel yX2_isPixel, .code yX2_isPixel cX2_isPixel 3 (some .boolean), .fieldLink RX2 29 "TriangleRasterModel" "w" "I", .fieldLink RX2 33 "TriangleRasterModel" "h" "I"] ++ wsX20)
def wsX2_mark : List Cond := .code yX2_mark cX2_mark 10 (some .int) :: ([.fieldLink RX2 7 "TriangleRasterModel" "colours" "[I", .fieldLink RX2 25 "TriangleRasterModel" "marks" "[Z", .fieldLink RX2 33 "TriangleRasterModel" "h" "I", .fieldLink RX2 29 "TriangleRasterModel" "w" "I"] ++ wsX20)
def wsX2_unmark : List Cond := .code yX2_unmark cX2_unmark 2 none :: ([.fieldLink RX2 25 "TriangleRasterModel" "marks" "[Z"] ++ wsX20)
def wsX2_fill : List Cond := .code yX2_fill cX2_fill 6 (some .int) :: ([.fieldLink RX2 7 "TriangleRasterModel" "colours" "[I", .fieldLink RX2 25 "TriangleRasterModel" "marks" "[Z", .methodLink RX2 75 yX2_isPixel, .instanceMethod yX2_isPixel, .selects RX2 yX2_isPixel yX2_isPixel, .initialized RX2, .code yX2_isPixel cX2_isPixel 3 (some .boolean), .fieldLink RX2 29 "TriangleRasterModel" "w" "I", .fieldLink RX2 33 "TriangleRasterModel" "h" "I", .methodLink RX2 78 yX2_unmark, .instanceMethod yX2_unmark, .selects RX2 yX2_unmark yX2_unmark, .code yX2_unmark cX2_unmark 2 none, .methodLink RX2 81 yX2_mark, .instanceMethod yX2_mark, .selects RX2 yX2_mark yX2_mark, .code yX2_mark cX2_mark 10 (some .int)] ++ wsX20)
def wsX2_pieces : List Cond := .code yX2_pieces cX2_pieces 5 (some .int) :: ([.fieldLink RX2 33 "TriangleRasterModel" "h" "I", .fieldLink RX2 29 "TriangleRasterModel" "w" "I", .fieldLink RX2 7 "TriangleRasterModel" "colours" "[I", .fieldLink RX2 25 "TriangleRasterModel" "marks" "[Z", .methodLink RX2 78 yX2_unmark, .instanceMethod yX2_unmark, .selects RX2 yX2_unmark yX2_unmark, .initialized RX2, .code yX2_unmark cX2_unmark 2 none, .methodLink RX2 81 yX2_mark, .instanceMethod yX2_mark, .selects RX2 yX2_mark yX2_mark, .code yX2_mark cX2_mark 10 (some .int)] ++ wsX20)
def wsX2_pixel : List Cond := .code yX2_pixel cX2_pixel 3 (some .int) :: ([.fieldLink RX2 7 "TriangleRasterModel" "colours" "[I", .methodLink RX2 75 yX2_isPixel, .instanceMethod yX2_isPixel, .selects RX2 yX2_isPixel yX2_isPixel, .initialized RX2, .code yX2_isPixel cX2_isPixel 3 (some .boolean), .fieldLink RX2 29 "TriangleRasterModel" "w" "I", .fieldLink RX2 33 "TriangleRasterModel" "h" "I"] ++ wsX20)
def wsX2_depthAt : List Cond := .code yX2_depthAt cX2_depthAt 3 (some .int) :: ([.fieldLink RX2 13 "TriangleRasterModel" "depths" "[I", .methodLink RX2 75 yX2_isPixel, .instanceMethod yX2_isPixel, .selects RX2 yX2_isPixel yX2_isPixel, .initialized RX2, .code yX2_isPixel cX2_isPixel 3 (some .boolean), .fieldLink RX2 29 "TriangleRasterModel" "w" "I", .fieldLink RX2 33 "TriangleRasterModel" "h" "I"] ++ wsX20)
def wsX2_count : List Cond := .code yX2_count cX2_count 5 (some .int) :: ([.fieldLink RX2 33 "TriangleRasterModel" "h" "I", .fieldLink RX2 29 "TriangleRasterModel" "w" "I", .fieldLink RX2 7 "TriangleRasterModel" "colours" "[I"] ++ wsX20)
def wsJ9_abs_0f7a4 : List Cond := .code yJ9_abs_0f7a4 cJ9_abs_0f7a4 1 (some .int) :: ([])
def wsJ9_abs_067f4 : List Cond := .code yJ9_abs_067f4 cJ9_abs_067f4 2 (some .long) :: ([])
def wsL_cell : List Cond := .code yL_cell cL_cell 2 (some .int) :: ([])
def wsL_law_r1 : List Cond := [Cond.classLink RL 7 RX1, Cond.instantiable RX1 8, Cond.initialized RX1, Cond.classLink RL 18 RX2, Cond.instantiable RX2 8, Cond.initialized RX2, Cond.methodLink RL 9 yL_cell, Cond.static yL_cell, Cond.initialized RL, Cond.code yL_cell cL_cell 2 (some .int), Cond.methodLink RL 15 yX1_init, Cond.instanceMethod yX1_init, Cond.code yX1_init cX1_init 4 none, Cond.methodLink RX1 1 objectInit, Cond.instanceMethod objectInit, Cond.code objectInit ⟨#[0xb1]⟩ 1 none, Cond.fieldLink RX1 13 "TriangleRaster" "width" "I", Cond.fieldLink RX1 17 "TriangleRaster" "height" "I", Cond.arrayClass .int, Cond.fieldLink RX1 20 "TriangleRaster" "colours" "[I", Cond.fieldLink RX1 24 "TriangleRaster" "depths" "[I", Cond.classLink RX1 27 RX0, Cond.instantiable RX0 6, Cond.initialized RX0]
def wsL_law_r2 : List Cond := [Cond.fieldLink RX1 30 "TriangleRaster" "facet" "LTriangleRaster$Facet;", Cond.arrayClass .boolean, Cond.fieldLink RX1 34 "TriangleRaster" "reached" "[Z", Cond.fieldLink RX1 38 "TriangleRaster" "queue" "[I", Cond.fieldLink RX1 41 "TriangleRaster" "queued" "I", Cond.methodLink RX1 7 yX1_sideOf, Cond.static yX1_sideOf, Cond.code yX1_sideOf cX1_sideOf 1 (some .int), Cond.methodLink RX1 45 yX1_isWithin, Cond.static yX1_isWithin, Cond.code yX1_isWithin cX1_isWithin 3 (some .boolean), Cond.instanceMethod yX0_init, Cond.code yX0_init cX0_init 1 none, Cond.methodLink RX0 3 objectInit, Cond.fieldLink RX0 9 "TriangleRaster$Facet" "xs" "[I", Cond.fieldLink RX0 15 "TriangleRaster$Facet" "ys" "[I", Cond.fieldLink RX0 18 "TriangleRaster$Facet" "zs" "[I", Cond.fieldLink RX0 21 "TriangleRaster$Facet" "second" "I", Cond.fieldLink RX0 25 "TriangleRaster$Facet" "third" "I", Cond.fieldLink RX0 28 "TriangleRaster$Facet" "area" "J", Cond.methodLink RL 20 yX2_init, Cond.instanceMethod yX2_init, Cond.code yX2_init cX2_init 3 none, Cond.methodLink RX2 1 objectInit]
def wsL_law_r3 : List Cond := [Cond.fieldLink RX2 7 "TriangleRasterModel" "colours" "[I", Cond.fieldLink RX2 13 "TriangleRasterModel" "depths" "[I", Cond.fieldLink RX2 16 "TriangleRasterModel" "xs" "[I", Cond.fieldLink RX2 19 "TriangleRasterModel" "ys" "[I", Cond.fieldLink RX2 22 "TriangleRasterModel" "zs" "[I", Cond.fieldLink RX2 25 "TriangleRasterModel" "marks" "[Z", Cond.fieldLink RX2 29 "TriangleRasterModel" "w" "I", Cond.fieldLink RX2 33 "TriangleRasterModel" "h" "I", Cond.methodLink RL 21 yX1_clear, Cond.instanceMethod yX1_clear, Cond.selects RX1 yX1_clear yX1_clear, Cond.code yX1_clear cX1_clear 3 (some .boolean), Cond.constant RX1 44 (65535), Cond.methodLink RX1 49 yJ7_fill_53178, Cond.static yJ7_fill_53178, Cond.initialized RJ7, Cond.code yJ7_fill_53178 cJ7_fill_53178 4 none, Cond.methodLink RL 25 yX2_clear, Cond.instanceMethod yX2_clear, Cond.selects RX2 yX2_clear yX2_clear, Cond.code yX2_clear cX2_clear 4 (some .boolean), Cond.constant RX2 36 (65535), Cond.methodLink RL 26 yX1_vertex, Cond.instanceMethod yX1_vertex]
def wsL_law_r4 : List Cond := [Cond.selects RX1 yX1_vertex yX1_vertex, Cond.code yX1_vertex cX1_vertex 5 (some .boolean), Cond.constant RX1 59 (32768), Cond.methodLink RX1 55 yX1_isCoordinate, Cond.static yX1_isCoordinate, Cond.code yX1_isCoordinate cX1_isCoordinate 1 (some .boolean), Cond.instanceMethod yX0_place, Cond.selects RX0 yX0_place yX0_place, Cond.code yX0_place cX0_place 5 none, Cond.methodLink RX0 32 yX0_takeRound, Cond.instanceMethod yX0_takeRound, Cond.selects RX0 yX0_takeRound yX0_takeRound, Cond.code yX0_takeRound cX0_takeRound 3 none, Cond.methodLink RX0 39 Lib.MathLoose.abs_long.x, Cond.static Lib.MathLoose.abs_long.x, Cond.initialized "java/lang/Math", Cond.code Lib.MathLoose.abs_long.x Lib.MathLoose.abs_long.code 2 (some .long), Cond.methodLink RX0 35 yX0_edge, Cond.instanceMethod yX0_edge, Cond.selects RX0 yX0_edge yX0_edge, Cond.code yX0_edge cX0_edge 9 (some .long), Cond.methodLink RL 30 yX2_vertex, Cond.instanceMethod yX2_vertex, Cond.selects RX2 yX2_vertex yX2_vertex]
def wsL_law_r5 : List Cond := [Cond.code yX2_vertex cX2_vertex 5 (some .boolean), Cond.constant RX2 41 (32768), Cond.methodLink RX2 37 yX2_isFar, Cond.static yX2_isFar, Cond.code yX2_isFar cX2_isFar 1 (some .boolean), Cond.methodLink RL 31 yX1_triangle, Cond.instanceMethod yX1_triangle, Cond.selects RX1 yX1_triangle yX1_triangle, Cond.code yX1_triangle cX1_triangle 5 (some .int), Cond.methodLink RX1 64 yX1_paintNearer, Cond.instanceMethod yX1_paintNearer, Cond.selects RX1 yX1_paintNearer yX1_paintNearer, Cond.code yX1_paintNearer cX1_paintNearer 6 (some .int), Cond.methodLink RX1 84 yX1_indexOf, Cond.instanceMethod yX1_indexOf, Cond.selects RX1 yX1_indexOf yX1_indexOf, Cond.code yX1_indexOf cX1_indexOf 4 (some .int), Cond.instanceMethod yX0_depthOver, Cond.selects RX0 yX0_depthOver yX0_depthOver, Cond.code yX0_depthOver cX0_depthOver 11 (some .int), Cond.methodLink RX0 45 yX0_isInside, Cond.instanceMethod yX0_isInside, Cond.selects RX0 yX0_isInside yX0_isInside, Cond.code yX0_isInside cX0_isInside 5 (some .boolean)]
def wsL_law_r6 : List Cond := [Cond.methodLink RX0 49 yX0_isTopOrLeft, Cond.instanceMethod yX0_isTopOrLeft, Cond.selects RX0 yX0_isTopOrLeft yX0_isTopOrLeft, Cond.code yX0_isTopOrLeft cX0_isTopOrLeft 5 (some .boolean), Cond.methodLink RL 35 yX2_triangle, Cond.instanceMethod yX2_triangle, Cond.selects RX2 yX2_triangle yX2_triangle, Cond.code yX2_triangle cX2_triangle 5 (some .int), Cond.methodLink RX2 62 yX2_isCovered, Cond.instanceMethod yX2_isCovered, Cond.selects RX2 yX2_isCovered yX2_isCovered, Cond.code yX2_isCovered cX2_isCovered 9 (some .boolean), Cond.constantLong RX2 50 (16), Cond.constantLong RX2 52 (8), Cond.methodLink RX2 54 yX2_area, Cond.instanceMethod yX2_area, Cond.selects RX2 yX2_area yX2_area, Cond.code yX2_area cX2_area 1 (some .long), Cond.methodLink RX2 42 yX2_edge, Cond.instanceMethod yX2_edge, Cond.selects RX2 yX2_edge yX2_edge, Cond.code yX2_edge cX2_edge 7 (some .long), Cond.methodLink RX2 58 yX2_isInside, Cond.instanceMethod yX2_isInside]
def wsL_law_r7 : List Cond := [Cond.selects RX2 yX2_isInside yX2_isInside, Cond.code yX2_isInside cX2_isInside 9 (some .boolean), Cond.methodLink RX2 46 yX2_isTopOrLeft, Cond.instanceMethod yX2_isTopOrLeft, Cond.selects RX2 yX2_isTopOrLeft yX2_isTopOrLeft, Cond.code yX2_isTopOrLeft cX2_isTopOrLeft 3 (some .boolean), Cond.methodLink RX2 65 yX2_depthOf, Cond.instanceMethod yX2_depthOf, Cond.selects RX2 yX2_depthOf yX2_depthOf, Cond.code yX2_depthOf cX2_depthOf 9 (some .int), Cond.methodLink RL 36 yX1_covers, Cond.instanceMethod yX1_covers, Cond.selects RX1 yX1_covers yX1_covers, Cond.code yX1_covers cX1_covers 3 (some .boolean), Cond.methodLink RL 39 yX2_covers, Cond.instanceMethod yX2_covers, Cond.selects RX2 yX2_covers yX2_covers, Cond.code yX2_covers cX2_covers 4 (some .boolean), Cond.methodLink RL 40 yX1_line, Cond.instanceMethod yX1_line, Cond.selects RX1 yX1_line yX1_line, Cond.code yX1_line cX1_line 8 (some .int), Cond.methodLink RX1 72 Lib.Math.abs.name, Cond.static Lib.Math.abs.name]
def wsL_law_r8 : List Cond := [Cond.code Lib.Math.abs.name Lib.Math.abs.code 1 (some .int), Cond.methodLink RX1 77 yX1_placeBeside, Cond.static yX1_placeBeside, Cond.code yX1_placeBeside cX1_placeBeside 12 (some .int), Cond.constantLong RX1 93 (2), Cond.methodLink RX1 81 yX1_paint, Cond.instanceMethod yX1_paint, Cond.selects RX1 yX1_paint yX1_paint, Cond.code yX1_paint cX1_paint 5 (some .int), Cond.methodLink RL 44 yX2_line, Cond.instanceMethod yX2_line, Cond.selects RX2 yX2_line yX2_line, Cond.code yX2_line cX2_line 16 (some .int), Cond.constantLong RX2 69 (2), Cond.methodLink RX2 71 yX2_sign, Cond.static yX2_sign, Cond.code yX2_sign cX2_sign 1 (some .int), Cond.methodLink RX2 75 yX2_isPixel, Cond.instanceMethod yX2_isPixel, Cond.selects RX2 yX2_isPixel yX2_isPixel, Cond.code yX2_isPixel cX2_isPixel 3 (some .boolean), Cond.methodLink RL 45 yX1_fill, Cond.instanceMethod yX1_fill, Cond.selects RX1 yX1_fill yX1_fill]
def wsL_law_r9 : List Cond := [Cond.code yX1_fill cX1_fill 7 (some .int), Cond.methodLink RX1 87 yX1_forgetReached, Cond.instanceMethod yX1_forgetReached, Cond.selects RX1 yX1_forgetReached yX1_forgetReached, Cond.code yX1_forgetReached cX1_forgetReached 2 none, Cond.methodLink RX1 90 yX1_reachPiece, Cond.instanceMethod yX1_reachPiece, Cond.selects RX1 yX1_reachPiece yX1_reachPiece, Cond.code yX1_reachPiece cX1_reachPiece 7 (some .int), Cond.methodLink RX1 95 yX1_pixel, Cond.instanceMethod yX1_pixel, Cond.selects RX1 yX1_pixel yX1_pixel, Cond.code yX1_pixel cX1_pixel 4 (some .int), Cond.methodLink RX1 98 yX1_reach, Cond.instanceMethod yX1_reach, Cond.selects RX1 yX1_reach yX1_reach, Cond.code yX1_reach cX1_reach 5 none, Cond.methodLink RL 49 yX2_fill, Cond.instanceMethod yX2_fill, Cond.selects RX2 yX2_fill yX2_fill, Cond.code yX2_fill cX2_fill 6 (some .int), Cond.methodLink RX2 78 yX2_unmark, Cond.instanceMethod yX2_unmark, Cond.selects RX2 yX2_unmark yX2_unmark]
def wsL_law_r10 : List Cond := [Cond.code yX2_unmark cX2_unmark 2 none, Cond.methodLink RX2 81 yX2_mark, Cond.instanceMethod yX2_mark, Cond.selects RX2 yX2_mark yX2_mark, Cond.code yX2_mark cX2_mark 10 (some .int), Cond.methodLink RL 50 yX1_pixel, Cond.methodLink RL 54 yX2_pixel, Cond.instanceMethod yX2_pixel, Cond.selects RX2 yX2_pixel yX2_pixel, Cond.code yX2_pixel cX2_pixel 3 (some .int), Cond.methodLink RL 55 yX1_depthAt, Cond.instanceMethod yX1_depthAt, Cond.selects RX1 yX1_depthAt yX1_depthAt, Cond.code yX1_depthAt cX1_depthAt 4 (some .int), Cond.methodLink RL 58 yX2_depthAt, Cond.instanceMethod yX2_depthAt, Cond.selects RX2 yX2_depthAt yX2_depthAt, Cond.code yX2_depthAt cX2_depthAt 3 (some .int), Cond.methodLink RL 59 yX1_count, Cond.instanceMethod yX1_count, Cond.selects RX1 yX1_count yX1_count, Cond.code yX1_count cX1_count 4 (some .int), Cond.methodLink RL 62 yX2_count, Cond.instanceMethod yX2_count]
def wsL_law_r11 : List Cond := [Cond.selects RX2 yX2_count yX2_count, Cond.code yX2_count cX2_count 5 (some .int), Cond.methodLink RL 63 yX1_pieces, Cond.instanceMethod yX1_pieces, Cond.selects RX1 yX1_pieces yX1_pieces, Cond.code yX1_pieces cX1_pieces 4 (some .int), Cond.methodLink RL 66 yX2_pieces, Cond.instanceMethod yX2_pieces, Cond.selects RX2 yX2_pieces yX2_pieces, Cond.code yX2_pieces cX2_pieces 5 (some .int)]
def wsL_law : List Cond := (wsL_law_r1 ++ (wsL_law_r2 ++ (wsL_law_r3 ++ (wsL_law_r4 ++ (wsL_law_r5 ++ (wsL_law_r6 ++ (wsL_law_r7 ++ (wsL_law_r8 ++ (wsL_law_r9 ++ (wsL_law_r10 ++ wsL_law_r11)))))))))) ++ wsX10 ++ wsX20 ++ wsX00 ++ ([] : List Cond)
set_option maxRecDepth 20000 in
theorem wsL_law_in : ∀ w ∈ wsL_law, w ∈ lw_tbl := fun w h => (goodIn_p wsL_law [202, 31, 34, 37, 40, 45, 207, 96, 100, 237, 104, 107, 112, 116, 123, 120, 242, 245, 127, 131, 135, 139, 143, 147, 250, 254, 260, 264, 268, 272, 276, 151, 280, 155, 158, 161, 166, 284, 288, 292, 170, 174, 178, 182, 186, 296, 300, 304, 312, 191, 316, 195, 320, 199, 308] (by decide +kernel) (by decide +kernel) w h).1
theorem inlX0 : ∀ w ∈ wsX00, w ∈ wsL_law := fun _ h => List.mem_append_left _ (List.mem_append_right _ h)
theorem inX0 : ∀ w ∈ wsX00, w ∈ lw_tbl := fun w h => wsL_law_in w (inlX0 w h)
theorem inlX1 : ∀ w ∈ wsX10, w ∈ wsL_law := fun _ h => List.mem_append_left _ (List.mem_append_left _ (List.mem_append_left _ (List.mem_append_right _ h)))
theorem inX1 : ∀ w ∈ wsX10, w ∈ lw_tbl := fun w h => wsL_law_in w (inlX1 w h)
theorem inlX2 : ∀ w ∈ wsX20, w ∈ wsL_law := fun _ h => List.mem_append_left _ (List.mem_append_left _ (List.mem_append_right _ h))
theorem inX2 : ∀ w ∈ wsX20, w ∈ lw_tbl := fun w h => wsL_law_in w (inlX2 w h)
theorem inJ9 : ∀ w ∈ wsJ90, w ∈ lw_tbl := by decide +kernel
theorem inJ7 : ∀ w ∈ wsJ70, w ∈ lw_tbl := by decide +kernel
abbrev vwCl : List vw_C := [(RX0, TX0, 6), (RX1, TX1, 8), (RX2, TX2, 8)]
