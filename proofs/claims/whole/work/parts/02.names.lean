/-! ===== BEGIN words of one list among another's, by their places ===== -/
theorem goodIn_r {big : List Cond} (ws : List Cond) (ps : List Nat) (hp : ws = ps.filterMap (fun i => big[i]?)) (h : ws.all goodWord = true) : GoodIn big ws := by
  intro w hw
  have h1 := List.all_eq_true.mp h w hw
  rw [hp] at hw
  obtain ⟨i, -, hi⟩ := List.mem_filterMap.mp hw
  have hm : w ∈ big := by first | exact List.mem_of_getElem? hi | exact List.getElem?_mem hi
  exact ⟨hm, good_of_word h1⟩
theorem goodIn_app {big a b : List Cond} (ha : GoodIn big a) (hb : GoodIn big b) : GoodIn big (a ++ b) := fun w h => (List.mem_append.mp h).elim (ha w) (hb w)
theorem goodIn_ca {big a b : List Cond} {c : Cond} (ha : GoodIn big (c :: a)) (hb : GoodIn big b) : GoodIn big (c :: (a ++ b)) := fun w h => (List.mem_cons.mp h).elim (fun e => ha w (List.mem_cons.mpr (Or.inl e))) (fun h => (List.mem_append.mp h).elim (fun h => ha w (List.mem_cons.mpr (Or.inr h))) (hb w))
theorem goodIn_sub {big ws : List Cond} (hm : ∀ w ∈ ws, w ∈ big) (h : ws.all goodWord = true) : GoodIn big ws := fun w hw => ⟨hm w hw, good_of_word (List.all_eq_true.mp h w hw)⟩
/-! ===== END ===== -/

/-! ===== BEGIN printed: names, fields, word lists, decode rows ===== -/
def RX0 : String := "GraphTwins$FormFinder"
def TX0 : u_T := fun k => match k with
  | 0 => ("GraphTwins$FormFinder", "rows", "[[J", true)
  | 1 => ("GraphTwins$FormFinder", "written", "[J", true)
  | 2 => ("GraphTwins$FormFinder", "bounds", "[[J", true)
  | _ => ("GraphTwins$FormFinder", "likes", "[I", true)
def tyX0 : Nat → FieldType := fun k => match k with
  | 0 => .array (.array .long)
  | 1 => .array .long
  | 2 => .array (.array .long)
  | _ => .array .int
abbrev wsX00 : List Cond := u_ws RX0 TX0 4
theorem nmX0 : ∀ a, a < 4 → ∀ b, b < 4 → a ≠ b → (TX0 a).2.1 ≠ (TX0 b).2.1 := by decide +kernel
theorem tyX0_ok : ∀ k, k < 4 → parseFieldDescriptor (TX0 k).2.2.1 = some (tyX0 k) := by decide +kernel
abbrev cX0_init : ByteArray := prog_2_method_1_code
def yX0_init : MethodName := ⟨RX0, "<init>", "()V"⟩
abbrev cX0_find : ByteArray := prog_2_method_2_code
def yX0_find : MethodName := ⟨RX0, "find", "(LGraphTwins$Graph;)V"⟩
abbrev cX0_lesserLikes : ByteArray := prog_2_method_3_code
def yX0_lesserLikes : MethodName := ⟨RX0, "lesserLikes", "(LGraphTwins$Graph;I)I"⟩
abbrev cX0_write : ByteArray := prog_2_method_4_code
def yX0_write : MethodName := ⟨RX0, "write", "(LGraphTwins$Graph;II)V"⟩
abbrev cX0_candidates : ByteArray := prog_2_method_5_code
def yX0_candidates : MethodName := ⟨RX0, "candidates", "(LGraphTwins$Graph;II)I"⟩
abbrev cX0_bound : ByteArray := prog_2_method_6_code
def yX0_bound : MethodName := ⟨RX0, "bound", "(LGraphTwins$Graph;III)V"⟩
abbrev cX0_longerRow : ByteArray := prog_2_method_7_code
def yX0_longerRow : MethodName := ⟨RX0, "longerRow", "(LGraphTwins$Graph;III)J"⟩
abbrev cX0_leastBounded : ByteArray := prog_2_method_8_code
def yX0_leastBounded : MethodName := ⟨RX0, "leastBounded", "(III)I"⟩
abbrev cX0_promisesLess : ByteArray := prog_2_method_9_code
def yX0_promisesLess : MethodName := ⟨RX0, "promisesLess", "(LGraphTwins$Graph;II)Z"⟩
abbrev cX0_isBoundLess : ByteArray := prog_2_method_10_code
def yX0_isBoundLess : MethodName := ⟨RX0, "isBoundLess", "(IIII)Z"⟩
abbrev cX0_writeVertex : ByteArray := prog_2_method_11_code
def yX0_writeVertex : MethodName := ⟨RX0, "writeVertex", "(LGraphTwins$Graph;III)V"⟩
def RX1 : String := "GraphTwins$Graph"
def TX1 : u_T := fun k => match k with
  | 0 => ("GraphTwins$Graph", "size", "I", false)
  | 1 => ("GraphTwins$Graph", "tints", "[I", true)
  | 2 => ("GraphTwins$Graph", "labels", "[[I", true)
  | 3 => ("GraphTwins$Graph", "colours", "[I", true)
  | 4 => ("GraphTwins$Graph", "leastOfOrbit", "[I", true)
  | 5 => ("GraphTwins$Graph", "symmetryNumber", "I", false)
  | 6 => ("GraphTwins$Graph", "symmetriesKnown", "Z", false)
  | 7 => ("GraphTwins$Graph", "formRows", "[J", true)
  | _ => ("GraphTwins$Graph", "formKnown", "Z", false)
def tyX1 : Nat → FieldType := fun k => match k with
  | 0 => .int
  | 1 => .array .int
  | 2 => .array (.array .int)
  | 3 => .array .int
  | 4 => .array .int
  | 5 => .int
  | 6 => .boolean
  | 7 => .array .long
  | _ => .boolean
abbrev wsX10 : List Cond := u_ws RX1 TX1 9
theorem nmX1 : ∀ a, a < 9 → ∀ b, b < 9 → a ≠ b → (TX1 a).2.1 ≠ (TX1 b).2.1 := by decide +kernel
theorem tyX1_ok : ∀ k, k < 9 → parseFieldDescriptor (TX1 k).2.2.1 = some (tyX1 k) := by decide +kernel
abbrev cX1_init : ByteArray := prog_3_method_1_code
def yX1_init : MethodName := ⟨RX1, "<init>", "()V"⟩
abbrev cX1_empty : ByteArray := prog_3_method_2_code
def yX1_empty : MethodName := ⟨RX1, "empty", "(I)V"⟩
abbrev cX1_become : ByteArray := prog_3_method_3_code
def yX1_become : MethodName := ⟨RX1, "become", "(LGraphTwins$Graph;)V"⟩
abbrev cX1_swap : ByteArray := prog_3_method_4_code
def yX1_swap : MethodName := ⟨RX1, "swap", "(II)V"⟩
abbrev cX1_edges : ByteArray := prog_3_method_5_code
def yX1_edges : MethodName := ⟨RX1, "edges", "()I"⟩
abbrev cX1_pair : ByteArray := prog_3_method_6_code
def yX1_pair : MethodName := ⟨RX1, "pair", "(II)I"⟩
abbrev cX1_isAlike : ByteArray := prog_3_method_7_code
def yX1_isAlike : MethodName := ⟨RX1, "isAlike", "(II)Z"⟩
abbrev cX1_formNumber : ByteArray := prog_3_method_8_code
def yX1_formNumber : MethodName := ⟨RX1, "formNumber", "(I)I"⟩
def RX2 : String := "GraphTwins$NamingSeeker"
def TX2 : u_T := fun k => match k with
  | _ => ("GraphTwins$NamingSeeker", "naming", "[I", true)
def tyX2 : Nat → FieldType := fun k => match k with
  | _ => .array .int
abbrev wsX20 : List Cond := u_ws RX2 TX2 1
theorem nmX2 : ∀ a, a < 1 → ∀ b, b < 1 → a ≠ b → (TX2 a).2.1 ≠ (TX2 b).2.1 := by decide +kernel
theorem tyX2_ok : ∀ k, k < 1 → parseFieldDescriptor (TX2 k).2.2.1 = some (tyX2 k) := by decide +kernel
abbrev cX2_init : ByteArray := prog_4_method_1_code
def yX2_init : MethodName := ⟨RX2, "<init>", "()V"⟩
abbrev cX2_findFirst : ByteArray := prog_4_method_2_code
def yX2_findFirst : MethodName := ⟨RX2, "findFirst", "(LGraphTwins$Graph;LGraphTwins$Graph;)Z"⟩
abbrev cX2_findNext : ByteArray := prog_4_method_3_code
def yX2_findNext : MethodName := ⟨RX2, "findNext", "(LGraphTwins$Graph;LGraphTwins$Graph;)Z"⟩
abbrev cX2_findSymmetry : ByteArray := prog_4_method_4_code
def yX2_findSymmetry : MethodName := ⟨RX2, "findSymmetry", "(LGraphTwins$Graph;II)Z"⟩
abbrev cX2_place : ByteArray := prog_4_method_5_code
def yX2_place : MethodName := ⟨RX2, "place", "(LGraphTwins$Graph;LGraphTwins$Graph;IIZ)Z"⟩
abbrev cX2_fits : ByteArray := prog_4_method_6_code
def yX2_fits : MethodName := ⟨RX2, "fits", "(LGraphTwins$Graph;LGraphTwins$Graph;II)Z"⟩
def RX3 : String := "GraphTwins$Painter"
def TX3 : u_T := fun k => match k with
  | 0 => ("GraphTwins$Painter", "number", "I", false)
  | 1 => ("GraphTwins$Painter", "colourOf", "[I", true)
  | 2 => ("GraphTwins$Painter", "newColourOf", "[I", true)
  | 3 => ("GraphTwins$Painter", "sorted", "[I", true)
  | 4 => ("GraphTwins$Painter", "tally", "[I", true)
  | _ => ("GraphTwins$Painter", "keys", "[[I", true)
def tyX3 : Nat → FieldType := fun k => match k with
  | 0 => .int
  | 1 => .array .int
  | 2 => .array .int
  | 3 => .array .int
  | 4 => .array .int
  | _ => .array (.array .int)
abbrev wsX30 : List Cond := u_ws RX3 TX3 6
theorem nmX3 : ∀ a, a < 6 → ∀ b, b < 6 → a ≠ b → (TX3 a).2.1 ≠ (TX3 b).2.1 := by decide +kernel
theorem tyX3_ok : ∀ k, k < 6 → parseFieldDescriptor (TX3 k).2.2.1 = some (tyX3 k) := by decide +kernel
abbrev cX3_init : ByteArray := prog_5_method_1_code
def yX3_init : MethodName := ⟨RX3, "<init>", "()V"⟩
abbrev cX3_paint : ByteArray := prog_5_method_2_code
def yX3_paint : MethodName := ⟨RX3, "paint", "([LGraphTwins$Graph;)V"⟩
abbrev cX3_paintsAlike : ByteArray := prog_5_method_3_code
def yX3_paintsAlike : MethodName := ⟨RX3, "paintsAlike", "([LGraphTwins$Graph;)Z"⟩
abbrev cX3_paintTints : ByteArray := prog_5_method_4_code
def yX3_paintTints : MethodName := ⟨RX3, "paintTints", "([LGraphTwins$Graph;I)V"⟩
abbrev cX3_gatherKeys : ByteArray := prog_5_method_5_code
def yX3_gatherKeys : MethodName := ⟨RX3, "gatherKeys", "([LGraphTwins$Graph;I)V"⟩
abbrev cX3_gatherKeysOf : ByteArray := prog_5_method_6_code
def yX3_gatherKeysOf : MethodName := ⟨RX3, "gatherKeysOf", "(LGraphTwins$Graph;II)V"⟩
abbrev cX3_renumber : ByteArray := prog_5_method_7_code
def yX3_renumber : MethodName := ⟨RX3, "renumber", "(II)V"⟩
abbrev cX3_sortSpots : ByteArray := prog_5_method_8_code
def yX3_sortSpots : MethodName := ⟨RX3, "sortSpots", "(II)V"⟩
abbrev cX3_difference : ByteArray := prog_5_method_9_code
def yX3_difference : MethodName := ⟨RX3, "difference", "(III)I"⟩
def RX4 : String := "GraphTwins$SymmetryFinder"
def TX4 : u_T := fun k => match k with
  | _ => ("GraphTwins$SymmetryFinder", "seeker", "LGraphTwins$NamingSeeker;", true)
def tyX4 : Nat → FieldType := fun k => match k with
  | _ => .object "GraphTwins$NamingSeeker"
abbrev wsX40 : List Cond := u_ws RX4 TX4 1
theorem nmX4 : ∀ a, a < 1 → ∀ b, b < 1 → a ≠ b → (TX4 a).2.1 ≠ (TX4 b).2.1 := by decide +kernel
theorem tyX4_ok : ∀ k, k < 1 → parseFieldDescriptor (TX4 k).2.2.1 = some (tyX4 k) := by decide +kernel
abbrev cX4_init : ByteArray := prog_6_method_1_code
def yX4_init : MethodName := ⟨RX4, "<init>", "()V"⟩
abbrev cX4_find : ByteArray := prog_6_method_2_code
def yX4_find : MethodName := ⟨RX4, "find", "(LGraphTwins$Graph;)V"⟩
abbrev cX4_joinOrbits : ByteArray := prog_6_method_3_code
def yX4_joinOrbits : MethodName := ⟨RX4, "joinOrbits", "(LGraphTwins$Graph;)V"⟩
abbrev cX4_replace : ByteArray := prog_6_method_4_code
def yX4_replace : MethodName := ⟨RX4, "replace", "([IIII)V"⟩
def RX5 : String := "GraphTwins"
def TX5 : u_T := fun k => match k with
  | 0 => ("GraphTwins", "graphs", "[LGraphTwins$Graph;", true)
  | 1 => ("GraphTwins", "painter", "LGraphTwins$Painter;", true)
  | 2 => ("GraphTwins", "seeker", "LGraphTwins$NamingSeeker;", true)
  | 3 => ("GraphTwins", "symmetryFinder", "LGraphTwins$SymmetryFinder;", true)
  | 4 => ("GraphTwins", "formFinder", "LGraphTwins$FormFinder;", true)
  | 5 => ("GraphTwins", "painted", "Z", false)
  | _ => ("GraphTwins", "atHand", "Z", false)
def tyX5 : Nat → FieldType := fun k => match k with
  | 0 => .array (.object "GraphTwins$Graph")
  | 1 => .object "GraphTwins$Painter"
  | 2 => .object "GraphTwins$NamingSeeker"
  | 3 => .object "GraphTwins$SymmetryFinder"
  | 4 => .object "GraphTwins$FormFinder"
  | 5 => .boolean
  | _ => .boolean
abbrev wsX50 : List Cond := u_ws RX5 TX5 7
theorem nmX5 : ∀ a, a < 7 → ∀ b, b < 7 → a ≠ b → (TX5 a).2.1 ≠ (TX5 b).2.1 := by decide +kernel
theorem tyX5_ok : ∀ k, k < 7 → parseFieldDescriptor (TX5 k).2.2.1 = some (tyX5 k) := by decide +kernel
abbrev cX5_init : ByteArray := prog_1_method_1_code
def yX5_init : MethodName := ⟨RX5, "<init>", "()V"⟩
abbrev cX5_begin : ByteArray := prog_1_method_2_code
def yX5_begin : MethodName := ⟨RX5, "begin", "(I)I"⟩
abbrev cX5_label : ByteArray := prog_1_method_3_code
def yX5_label : MethodName := ⟨RX5, "label", "(IIII)I"⟩
abbrev cX5_tint : ByteArray := prog_1_method_4_code
def yX5_tint : MethodName := ⟨RX5, "tint", "(III)I"⟩
abbrev cX5_exchange : ByteArray := prog_1_method_5_code
def yX5_exchange : MethodName := ⟨RX5, "exchange", "(III)I"⟩
abbrev cX5_copy : ByteArray := prog_1_method_6_code
def yX5_copy : MethodName := ⟨RX5, "copy", "(I)I"⟩
abbrev cX5_colours : ByteArray := prog_1_method_7_code
def yX5_colours : MethodName := ⟨RX5, "colours", "()I"⟩
abbrev cX5_colour : ByteArray := prog_1_method_8_code
def yX5_colour : MethodName := ⟨RX5, "colour", "(II)I"⟩
abbrev cX5_twins : ByteArray := prog_1_method_9_code
def yX5_twins : MethodName := ⟨RX5, "twins", "()I"⟩
abbrev cX5_image : ByteArray := prog_1_method_10_code
def yX5_image : MethodName := ⟨RX5, "image", "(I)I"⟩
abbrev cX5_next : ByteArray := prog_1_method_11_code
def yX5_next : MethodName := ⟨RX5, "next", "()I"⟩
abbrev cX5_symmetries : ByteArray := prog_1_method_12_code
def yX5_symmetries : MethodName := ⟨RX5, "symmetries", "(I)I"⟩
abbrev cX5_orbit : ByteArray := prog_1_method_13_code
def yX5_orbit : MethodName := ⟨RX5, "orbit", "(II)I"⟩
abbrev cX5_form : ByteArray := prog_1_method_14_code
def yX5_form : MethodName := ⟨RX5, "form", "(II)I"⟩
abbrev cX5_compare : ByteArray := prog_1_method_15_code
def yX5_compare : MethodName := ⟨RX5, "compare", "(I)I"⟩
abbrev cX5_count : ByteArray := prog_1_method_16_code
def yX5_count : MethodName := ⟨RX5, "count", "(I)I"⟩
abbrev cX5_isGraph : ByteArray := prog_1_method_17_code
def yX5_isGraph : MethodName := ⟨RX5, "isGraph", "(I)Z"⟩
abbrev cX5_isVertex : ByteArray := prog_1_method_18_code
def yX5_isVertex : MethodName := ⟨RX5, "isVertex", "(II)Z"⟩
abbrev cX5_isMark : ByteArray := prog_1_method_19_code
def yX5_isMark : MethodName := ⟨RX5, "isMark", "(I)Z"⟩
abbrev cX5_formLength : ByteArray := prog_1_method_20_code
def yX5_formLength : MethodName := ⟨RX5, "formLength", "()I"⟩
abbrev cX5_noteChange : ByteArray := prog_1_method_21_code
def yX5_noteChange : MethodName := ⟨RX5, "noteChange", "(LGraphTwins$Graph;)V"⟩
abbrev cX5_paintGraphs : ByteArray := prog_1_method_22_code
def yX5_paintGraphs : MethodName := ⟨RX5, "paintGraphs", "()V"⟩
abbrev cX5_withSymmetries : ByteArray := prog_1_method_23_code
def yX5_withSymmetries : MethodName := ⟨RX5, "withSymmetries", "(I)LGraphTwins$Graph;"⟩
abbrev cX5_withForm : ByteArray := prog_1_method_24_code
def yX5_withForm : MethodName := ⟨RX5, "withForm", "(I)LGraphTwins$Graph;"⟩
abbrev cX5_compareRows : ByteArray := prog_1_method_25_code
def yX5_compareRows : MethodName := ⟨RX5, "compareRows", "([J[JI)I"⟩
def RX6 : String := "GraphTwinsModel"
def TX6 : u_T := fun k => match k with
  | 0 => ("GraphTwinsModel", "n", "I", false)
  | 1 => ("GraphTwinsModel", "labels", "[I", true)
  | 2 => ("GraphTwinsModel", "tints", "[I", true)
  | 3 => ("GraphTwinsModel", "atHand", "Z", false)
  | 4 => ("GraphTwinsModel", "naming", "[I", true)
  | 5 => ("GraphTwinsModel", "way", "[I", true)
  | 6 => ("GraphTwinsModel", "fixed", "[I", true)
  | 7 => ("GraphTwinsModel", "hasForm", "[Z", true)
  | 8 => ("GraphTwinsModel", "forms", "[I", true)
  | 9 => ("GraphTwinsModel", "row", "[I", true)
  | 10 => ("GraphTwinsModel", "isColoured", "Z", false)
  | 11 => ("GraphTwinsModel", "colours", "[I", true)
  | 12 => ("GraphTwinsModel", "others", "[I", true)
  | _ => ("GraphTwinsModel", "colourCount", "I", false)
def tyX6 : Nat → FieldType := fun k => match k with
  | 0 => .int
  | 1 => .array .int
  | 2 => .array .int
  | 3 => .boolean
  | 4 => .array .int
  | 5 => .array .int
  | 6 => .array .int
  | 7 => .array .boolean
  | 8 => .array .int
  | 9 => .array .int
  | 10 => .boolean
  | 11 => .array .int
  | 12 => .array .int
  | _ => .int
abbrev wsX60 : List Cond := u_ws RX6 TX6 14
theorem nmX6 : ∀ a, a < 14 → ∀ b, b < 14 → a ≠ b → (TX6 a).2.1 ≠ (TX6 b).2.1 := by decide +kernel
theorem tyX6_ok : ∀ k, k < 14 → parseFieldDescriptor (TX6 k).2.2.1 = some (tyX6 k) := by decide +kernel
abbrev cX6_init : ByteArray := prog_8_method_1_code
def yX6_init : MethodName := ⟨RX6, "<init>", "()V"⟩
abbrev cX6_isGraph : ByteArray := prog_8_method_2_code
def yX6_isGraph : MethodName := ⟨RX6, "isGraph", "(I)Z"⟩
abbrev cX6_isVertex : ByteArray := prog_8_method_3_code
def yX6_isVertex : MethodName := ⟨RX6, "isVertex", "(I)Z"⟩
abbrev cX6_labelOf : ByteArray := prog_8_method_4_code
def yX6_labelOf : MethodName := ⟨RX6, "labelOf", "(III)I"⟩
abbrev cX6_changed : ByteArray := prog_8_method_5_code
def yX6_changed : MethodName := ⟨RX6, "changed", "()V"⟩
abbrev cX6_begin : ByteArray := prog_8_method_6_code
def yX6_begin : MethodName := ⟨RX6, "begin", "(I)I"⟩
abbrev cX6_label : ByteArray := prog_8_method_7_code
def yX6_label : MethodName := ⟨RX6, "label", "(IIII)I"⟩
abbrev cX6_tint : ByteArray := prog_8_method_8_code
def yX6_tint : MethodName := ⟨RX6, "tint", "(III)I"⟩
abbrev cX6_other : ByteArray := prog_8_method_9_code
def yX6_other : MethodName := ⟨RX6, "other", "(III)I"⟩
abbrev cX6_exchange : ByteArray := prog_8_method_10_code
def yX6_exchange : MethodName := ⟨RX6, "exchange", "(III)I"⟩
abbrev cX6_copy : ByteArray := prog_8_method_11_code
def yX6_copy : MethodName := ⟨RX6, "copy", "(I)I"⟩
abbrev cX6_many : ByteArray := prog_8_method_12_code
def yX6_many : MethodName := ⟨RX6, "many", "(IIII)I"⟩
abbrev cX6_order : ByteArray := prog_8_method_13_code
def yX6_order : MethodName := ⟨RX6, "order", "(II)I"⟩
abbrev cX6_isThere : ByteArray := prog_8_method_14_code
def yX6_isThere : MethodName := ⟨RX6, "isThere", "(I)Z"⟩
abbrev cX6_paint : ByteArray := prog_8_method_15_code
def yX6_paint : MethodName := ⟨RX6, "paint", "()V"⟩
abbrev cX6_colours : ByteArray := prog_8_method_16_code
def yX6_colours : MethodName := ⟨RX6, "colours", "()I"⟩
abbrev cX6_colour : ByteArray := prog_8_method_17_code
def yX6_colour : MethodName := ⟨RX6, "colour", "(II)I"⟩
abbrev cX6_fits : ByteArray := prog_8_method_18_code
def yX6_fits : MethodName := ⟨RX6, "fits", "(IIII)Z"⟩
abbrev cX6_search : ByteArray := prog_8_method_19_code
def yX6_search : MethodName := ⟨RX6, "search", "(III)Z"⟩
abbrev cX6_free : ByteArray := prog_8_method_20_code
def yX6_free : MethodName := ⟨RX6, "free", "()V"⟩
abbrev cX6_twins : ByteArray := prog_8_method_21_code
def yX6_twins : MethodName := ⟨RX6, "twins", "()I"⟩
abbrev cX6_keep : ByteArray := prog_8_method_22_code
def yX6_keep : MethodName := ⟨RX6, "keep", "()V"⟩
abbrev cX6_image : ByteArray := prog_8_method_23_code
def yX6_image : MethodName := ⟨RX6, "image", "(I)I"⟩
abbrev cX6_next : ByteArray := prog_8_method_24_code
def yX6_next : MethodName := ⟨RX6, "next", "()I"⟩
abbrev cX6_symmetries : ByteArray := prog_8_method_25_code
def yX6_symmetries : MethodName := ⟨RX6, "symmetries", "(I)I"⟩
abbrev cX6_orbit : ByteArray := prog_8_method_26_code
def yX6_orbit : MethodName := ⟨RX6, "orbit", "(II)I"⟩
abbrev cX6_sizeOf : ByteArray := prog_8_method_27_code
def yX6_sizeOf : MethodName := ⟨RX6, "sizeOf", "(I)I"⟩
abbrev cX6_write : ByteArray := prog_8_method_28_code
def yX6_write : MethodName := ⟨RX6, "write", "(I)V"⟩
abbrev cX6_isUnused : ByteArray := prog_8_method_29_code
def yX6_isUnused : MethodName := ⟨RX6, "isUnused", "(I)Z"⟩
abbrev cX6_part : ByteArray := prog_8_method_30_code
def yX6_part : MethodName := ⟨RX6, "part", "(II)V"⟩
abbrev cX6_compareRows : ByteArray := prog_8_method_31_code
def yX6_compareRows : MethodName := ⟨RX6, "compareRows", "(II)I"⟩
abbrev cX6_form : ByteArray := prog_8_method_32_code
def yX6_form : MethodName := ⟨RX6, "form", "(II)I"⟩
abbrev cX6_compare : ByteArray := prog_8_method_33_code
def yX6_compare : MethodName := ⟨RX6, "compare", "(I)I"⟩
abbrev cX6_edges : ByteArray := prog_8_method_34_code
def yX6_edges : MethodName := ⟨RX6, "edges", "(I)I"⟩
abbrev cX6_count : ByteArray := prog_8_method_35_code
def yX6_count : MethodName := ⟨RX6, "count", "(I)I"⟩
def RJ9 : String := "java/lang/Math"
def TJ9 : u_T := fun k => match k with
  | _ => ("", "", "", false)
def tyJ9 : Nat → FieldType := fun k => match k with
  | _ => .int
abbrev wsJ90 : List Cond := u_ws RJ9 TJ9 0
theorem nmJ9 : ∀ a, a < 0 → ∀ b, b < 0 → a ≠ b → (TJ9 a).2.1 ≠ (TJ9 b).2.1 := by decide +kernel
theorem tyJ9_ok : ∀ k, k < 0 → parseFieldDescriptor (TJ9 k).2.2.1 = some (tyJ9 k) := by decide +kernel
abbrev cJ9_max_7cf53 : ByteArray := prog_9_method_65_code
def yJ9_max_7cf53 : MethodName := ⟨RJ9, "max", "(II)I"⟩
abbrev cJ9_min_7cf53 : ByteArray := prog_9_method_69_code
def yJ9_min_7cf53 : MethodName := ⟨RJ9, "min", "(II)I"⟩
def RJ10 : String := "java/lang/System"
def TJ10 : u_T := fun k => match k with
  | _ => ("", "", "", false)
def tyJ10 : Nat → FieldType := fun k => match k with
  | _ => .int
abbrev wsJ100 : List Cond := u_ws RJ10 TJ10 0
theorem nmJ10 : ∀ a, a < 0 → ∀ b, b < 0 → a ≠ b → (TJ10 a).2.1 ≠ (TJ10 b).2.1 := by decide +kernel
theorem tyJ10_ok : ∀ k, k < 0 → parseFieldDescriptor (TJ10 k).2.2.1 = some (tyJ10 k) := by decide +kernel
def RJ7 : String := "java/util/Arrays"
def TJ7 : u_T := fun k => match k with
  | _ => ("", "", "", false)
def tyJ7 : Nat → FieldType := fun k => match k with
  | _ => .int
abbrev wsJ70 : List Cond := u_ws RJ7 TJ7 0
theorem nmJ7 : ∀ a, a < 0 → ∀ b, b < 0 → a ≠ b → (TJ7 a).2.1 ≠ (TJ7 b).2.1 := by decide +kernel
theorem tyJ7_ok : ∀ k, k < 0 → parseFieldDescriptor (TJ7 k).2.2.1 = some (tyJ7 k) := by decide +kernel
abbrev cJ7_fill_d0a16 : ByteArray := prog_11_method_101_code
def yJ7_fill_d0a16 : MethodName := ⟨RJ7, "fill", "([JJ)V"⟩
abbrev cJ7_fill_53178 : ByteArray := prog_11_method_103_code
def yJ7_fill_53178 : MethodName := ⟨RJ7, "fill", "([II)V"⟩
def RL : String := "GraphTwinsLaw"
abbrev cL_law : ByteArray := code
def yL_law : MethodName := ⟨RL, "law", "([I)Z"⟩
abbrev vwCl : List vw_C := [(RX0, TX0, 4), (RX1, TX1, 9), (RX2, TX2, 1), (RX3, TX3, 6), (RX4, TX4, 1), (RX5, TX5, 7), (RX6, TX6, 14)]
