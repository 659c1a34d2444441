/-! ===== BEGIN words of one list among another's, by their places ===== -/
theorem goodIn_r {big : List Cond} (ws : List Cond) (ps : List Nat) (hp : ws = ps.filterMap (fun i => big[i]?)) (h : ws.all goodWord = true) : GoodIn big ws := by
  intro w hw
  have h1 := List.all_eq_true.mp h w hw
  rw [hp] at hw
  obtain ⟨i, -, hi⟩ := List.mem_filterMap.mp hw
  have hm : w ∈ big := by first | exact List.mem_of_getElem? hi | exact List.getElem?_mem hi
  exact ⟨hm, good_of_word h1⟩
theorem goodIn_app {big a b : List Cond} (ha : GoodIn big a) (hb : GoodIn big b) : GoodIn big (a ++ b) := fun w h => (List.mem_append.mp h).elim (ha w) (hb w)
theorem goodIn_ca {big a b : List Cond} {c : Cond} (ha : GoodIn big (c :: a)) (hb : GoodIn big b) : GoodIn big (c :: (a ++ b)) := fun w h => (List.mem_cons.mp h).elim (fun e => ha w (List.mem_cons.mpr (Or.inl e))) (fun h => (List.mem_append.mp h).elim (fun h => ha w (List.mem_cons.mpr (Or.inr h))) (hb w))
theorem goodIn_sub {big ws : List Cond} (hm : ∀ w ∈ ws, w ∈ big) (h : ws.all goodWord = true) : GoodIn big ws := fun w hw => ⟨hm w hw, good_of_word (List.all_eq_true.mp h w hw)⟩
/-! ===== END ===== -/

/-! ===== BEGIN printed: names, fields, word lists, decode rows ===== -/
def RX0 : String := "FourthCorner$Looks"
def TX0 : u_T := fun k => match k with
  | 0 => ("FourthCorner$Looks", "many", "I", false)
  | 1 => ("FourthCorner$Looks", "corners", "[I", true)
  | _ => ("FourthCorner$Looks", "tenths", "[I", true)
def tyX0 : Nat → FieldType := fun k => match k with
  | 0 => .int
  | 1 => .array .int
  | _ => .array .int
abbrev wsX00 : List Cond := u_ws RX0 TX0 3
theorem nmX0 : ∀ a, a < 3 → ∀ b, b < 3 → a ≠ b → (TX0 a).2.1 ≠ (TX0 b).2.1 := by decide +kernel
theorem tyX0_ok : ∀ k, k < 3 → parseFieldDescriptor (TX0 k).2.2.1 = some (tyX0 k) := by decide +kernel
abbrev cX0_init : ByteArray := prog_2_method_1_code
def yX0_init : MethodName := ⟨RX0, "<init>", "()V"⟩
abbrev cX0_hear : ByteArray := prog_2_method_2_code
def yX0_hear : MethodName := ⟨RX0, "hear", "(II)V"⟩
abbrev cX0_weight : ByteArray := prog_2_method_3_code
def yX0_weight : MethodName := ⟨RX0, "weight", "(I)I"⟩
abbrev cX0_weightOfAll : ByteArray := prog_2_method_4_code
def yX0_weightOfAll : MethodName := ⟨RX0, "weightOfAll", "()I"⟩
abbrev cX0_weightOfTries : ByteArray := prog_2_method_5_code
def yX0_weightOfTries : MethodName := ⟨RX0, "weightOfTries", "()I"⟩
def RX1 : String := "FourthCorner$Memory"
def TX1 : u_T := fun k => match k with
  | 0 => ("FourthCorner$Memory", "depths", "[I", true)
  | 1 => ("FourthCorner$Memory", "bends", "[I", true)
  | _ => ("FourthCorner$Memory", "slacks", "[I", true)
def tyX1 : Nat → FieldType := fun k => match k with
  | 0 => .array .int
  | 1 => .array .int
  | _ => .array .int
abbrev wsX10 : List Cond := u_ws RX1 TX1 3
theorem nmX1 : ∀ a, a < 3 → ∀ b, b < 3 → a ≠ b → (TX1 a).2.1 ≠ (TX1 b).2.1 := by decide +kernel
theorem tyX1_ok : ∀ k, k < 3 → parseFieldDescriptor (TX1 k).2.2.1 = some (tyX1 k) := by decide +kernel
abbrev cX1_init : ByteArray := prog_3_method_1_code
def yX1_init : MethodName := ⟨RX1, "<init>", "(I)V"⟩
abbrev cX1_take : ByteArray := prog_3_method_2_code
def yX1_take : MethodName := ⟨RX1, "take", "(ILFourthCorner$Sheet;)V"⟩
abbrev cX1_give : ByteArray := prog_3_method_3_code
def yX1_give : MethodName := ⟨RX1, "give", "(ILFourthCorner$Sheet;)V"⟩
def RX2 : String := "FourthCorner$Screws"
def TX2 : u_T := fun k => match k with
  | _ => ("FourthCorner$Screws", "turns", "[I", true)
def tyX2 : Nat → FieldType := fun k => match k with
  | _ => .array .int
abbrev wsX20 : List Cond := u_ws RX2 TX2 1
theorem nmX2 : ∀ a, a < 1 → ∀ b, b < 1 → a ≠ b → (TX2 a).2.1 ≠ (TX2 b).2.1 := by decide +kernel
theorem tyX2_ok : ∀ k, k < 1 → parseFieldDescriptor (TX2 k).2.2.1 = some (tyX2 k) := by decide +kernel
abbrev cX2_init : ByteArray := prog_4_method_1_code
def yX2_init : MethodName := ⟨RX2, "<init>", "()V"⟩
abbrev cX2_loosen : ByteArray := prog_4_method_2_code
def yX2_loosen : MethodName := ⟨RX2, "loosen", "()V"⟩
abbrev cX2_tighten : ByteArray := prog_4_method_3_code
def yX2_tighten : MethodName := ⟨RX2, "tighten", "(I)V"⟩
abbrev cX2_giveWay : ByteArray := prog_4_method_4_code
def yX2_giveWay : MethodName := ⟨RX2, "giveWay", "(I)V"⟩
abbrev cX2_gapBy : ByteArray := prog_4_method_5_code
def yX2_gapBy : MethodName := ⟨RX2, "gapBy", "(II)I"⟩
def RX3 : String := "FourthCorner$Search"
def TX3 : u_T := fun k => match k with
  | 0 => ("FourthCorner$Search", "sheet", "LFourthCorner$Sheet;", true)
  | 1 => ("FourthCorner$Search", "queue", "[I", true)
  | 2 => ("FourthCorner$Search", "size", "I", false)
  | 3 => ("FourthCorner$Search", "trail", "[I", true)
  | 4 => ("FourthCorner$Search", "spent", "[I", true)
  | _ => ("FourthCorner$Search", "goal", "I", false)
def tyX3 : Nat → FieldType := fun k => match k with
  | 0 => .object "FourthCorner$Sheet"
  | 1 => .array .int
  | 2 => .int
  | 3 => .array .int
  | 4 => .array .int
  | _ => .int
abbrev wsX30 : List Cond := u_ws RX3 TX3 6
theorem nmX3 : ∀ a, a < 6 → ∀ b, b < 6 → a ≠ b → (TX3 a).2.1 ≠ (TX3 b).2.1 := by decide +kernel
theorem tyX3_ok : ∀ k, k < 6 → parseFieldDescriptor (TX3 k).2.2.1 = some (tyX3 k) := by decide +kernel
abbrev cX3_init : ByteArray := prog_5_method_1_code
def yX3_init : MethodName := ⟨RX3, "<init>", "(LFourthCorner$Sheet;)V"⟩
abbrev cX3_find : ByteArray := prog_5_method_2_code
def yX3_find : MethodName := ⟨RX3, "find", "(IZ)Z"⟩
abbrev cX3_spread : ByteArray := prog_5_method_3_code
def yX3_spread : MethodName := ⟨RX3, "spread", "(III)V"⟩
abbrev cX3_steps : ByteArray := prog_5_method_4_code
def yX3_steps : MethodName := ⟨RX3, "steps", "()I"⟩
abbrev cX3_step : ByteArray := prog_5_method_5_code
def yX3_step : MethodName := ⟨RX3, "step", "(I)I"⟩
abbrev cX3_state : ByteArray := prog_5_method_6_code
def yX3_state : MethodName := ⟨RX3, "state", "()I"⟩
abbrev cX3_lay : ByteArray := prog_5_method_7_code
def yX3_lay : MethodName := ⟨RX3, "lay", "(I)V"⟩
abbrev cX3_without : ByteArray := prog_5_method_8_code
def yX3_without : MethodName := ⟨RX3, "without", "(II)I"⟩
abbrev cX3_isDeep : ByteArray := prog_5_method_9_code
def yX3_isDeep : MethodName := ⟨RX3, "isDeep", "(II)Z"⟩
def RX4 : String := "FourthCorner$Sheet"
def TX4 : u_T := fun k => match k with
  | 0 => ("FourthCorner$Sheet", "stiff", "I", false)
  | 1 => ("FourthCorner$Sheet", "grips", "[I", true)
  | 2 => ("FourthCorner$Sheet", "slacks", "[I", true)
  | 3 => ("FourthCorner$Sheet", "depths", "[I", true)
  | _ => ("FourthCorner$Sheet", "bends", "[I", true)
def tyX4 : Nat → FieldType := fun k => match k with
  | 0 => .int
  | 1 => .array .int
  | 2 => .array .int
  | 3 => .array .int
  | _ => .array .int
abbrev wsX40 : List Cond := u_ws RX4 TX4 5
theorem nmX4 : ∀ a, a < 5 → ∀ b, b < 5 → a ≠ b → (TX4 a).2.1 ≠ (TX4 b).2.1 := by decide +kernel
theorem tyX4_ok : ∀ k, k < 5 → parseFieldDescriptor (TX4 k).2.2.1 = some (tyX4 k) := by decide +kernel
abbrev cX4_init : ByteArray := prog_6_method_1_code
def yX4_init : MethodName := ⟨RX4, "<init>", "()V"⟩
abbrev cX4_become : ByteArray := prog_6_method_2_code
def yX4_become : MethodName := ⟨RX4, "become", "(LFourthCorner$Sheet;)V"⟩
abbrev cX4_takeOff : ByteArray := prog_6_method_3_code
def yX4_takeOff : MethodName := ⟨RX4, "takeOff", "()V"⟩
abbrev cX4_shrink : ByteArray := prog_6_method_4_code
def yX4_shrink : MethodName := ⟨RX4, "shrink", "()V"⟩
abbrev cX4_counting : ByteArray := prog_6_method_5_code
def yX4_counting : MethodName := ⟨RX4, "counting", "(I)I"⟩
abbrev cX4_pullOf : ByteArray := prog_6_method_6_code
def yX4_pullOf : MethodName := ⟨RX4, "pullOf", "(I)I"⟩
abbrev cX4_pullAt : ByteArray := prog_6_method_7_code
def yX4_pullAt : MethodName := ⟨RX4, "pullAt", "(I)I"⟩
abbrev cX4_holds : ByteArray := prog_6_method_8_code
def yX4_holds : MethodName := ⟨RX4, "holds", "(I)Z"⟩
abbrev cX4_looseBits : ByteArray := prog_6_method_9_code
def yX4_looseBits : MethodName := ⟨RX4, "looseBits", "()I"⟩
abbrev cX4_firstToSlip : ByteArray := prog_6_method_10_code
def yX4_firstToSlip : MethodName := ⟨RX4, "firstToSlip", "()I"⟩
abbrev cX4_settle : ByteArray := prog_6_method_11_code
def yX4_settle : MethodName := ⟨RX4, "settle", "()I"⟩
abbrev cX4_riseToRow : ByteArray := prog_6_method_12_code
def yX4_riseToRow : MethodName := ⟨RX4, "riseToRow", "(I)Z"⟩
abbrev cX4_rowsFrom : ByteArray := prog_6_method_13_code
def yX4_rowsFrom : MethodName := ⟨RX4, "rowsFrom", "(I)I"⟩
abbrev cX4_onBits : ByteArray := prog_6_method_14_code
def yX4_onBits : MethodName := ⟨RX4, "onBits", "()I"⟩
abbrev cX4_cornersOn : ByteArray := prog_6_method_15_code
def yX4_cornersOn : MethodName := ⟨RX4, "cornersOn", "()I"⟩
def RX5 : String := "FourthCorner"
def TX5 : u_T := fun k => match k with
  | 0 => ("FourthCorner", "text", "[I", true)
  | 1 => ("FourthCorner", "length", "I", false)
  | 2 => ("FourthCorner", "sheet", "LFourthCorner$Sheet;", true)
  | 3 => ("FourthCorner", "trial", "LFourthCorner$Sheet;", true)
  | 4 => ("FourthCorner", "looks", "LFourthCorner$Looks;", true)
  | 5 => ("FourthCorner", "past", "LFourthCorner$Memory;", true)
  | 6 => ("FourthCorner", "firstAct", "I", false)
  | 7 => ("FourthCorner", "acts", "I", false)
  | 8 => ("FourthCorner", "slots", "LFourthCorner$Memory;", true)
  | 9 => ("FourthCorner", "slotFilled", "[Z", true)
  | 10 => ("FourthCorner", "screws", "LFourthCorner$Screws;", true)
  | 11 => ("FourthCorner", "search", "LFourthCorner$Search;", false)
  | _ => ("FourthCorner", "theSeed", "J", false)
def tyX5 : Nat → FieldType := fun k => match k with
  | 0 => .array .int
  | 1 => .int
  | 2 => .object "FourthCorner$Sheet"
  | 3 => .object "FourthCorner$Sheet"
  | 4 => .object "FourthCorner$Looks"
  | 5 => .object "FourthCorner$Memory"
  | 6 => .int
  | 7 => .int
  | 8 => .object "FourthCorner$Memory"
  | 9 => .array .boolean
  | 10 => .object "FourthCorner$Screws"
  | 11 => .object "FourthCorner$Search"
  | _ => .long
abbrev wsX50 : List Cond := u_ws RX5 TX5 13
theorem nmX5 : ∀ a, a < 13 → ∀ b, b < 13 → a ≠ b → (TX5 a).2.1 ≠ (TX5 b).2.1 := by decide +kernel
theorem tyX5_ok : ∀ k, k < 13 → parseFieldDescriptor (TX5 k).2.2.1 = some (tyX5 k) := by decide +kernel
abbrev cX5_init : ByteArray := prog_1_method_1_code
def yX5_init : MethodName := ⟨RX5, "<init>", "()V"⟩
abbrev cX5_write : ByteArray := prog_1_method_2_code
def yX5_write : MethodName := ⟨RX5, "write", "(I)I"⟩
abbrev cX5_wipe : ByteArray := prog_1_method_3_code
def yX5_wipe : MethodName := ⟨RX5, "wipe", "()I"⟩
abbrev cX5_fault : ByteArray := prog_1_method_4_code
def yX5_fault : MethodName := ⟨RX5, "fault", "()I"⟩
abbrev cX5_bed : ByteArray := prog_1_method_5_code
def yX5_bed : MethodName := ⟨RX5, "bed", "()I"⟩
abbrev cX5_corner : ByteArray := prog_1_method_6_code
def yX5_corner : MethodName := ⟨RX5, "corner", "(II)I"⟩
abbrev cX5_edge : ByteArray := prog_1_method_7_code
def yX5_edge : MethodName := ⟨RX5, "edge", "(II)I"⟩
abbrev cX5_would : ByteArray := prog_1_method_8_code
def yX5_would : MethodName := ⟨RX5, "would", "(II)I"⟩
abbrev cX5_set : ByteArray := prog_1_method_9_code
def yX5_set : MethodName := ⟨RX5, "set", "(II)I"⟩
abbrev cX5_bend : ByteArray := prog_1_method_10_code
def yX5_bend : MethodName := ⟨RX5, "bend", "(II)I"⟩
abbrev cX5_wash : ByteArray := prog_1_method_11_code
def yX5_wash : MethodName := ⟨RX5, "wash", "()I"⟩
abbrev cX5_turn : ByteArray := prog_1_method_12_code
def yX5_turn : MethodName := ⟨RX5, "turn", "()I"⟩
abbrev cX5_undo : ByteArray := prog_1_method_13_code
def yX5_undo : MethodName := ⟨RX5, "undo", "()I"⟩
abbrev cX5_judge : ByteArray := prog_1_method_14_code
def yX5_judge : MethodName := ⟨RX5, "judge", "(II)I"⟩
abbrev cX5_rows : ByteArray := prog_1_method_15_code
def yX5_rows : MethodName := ⟨RX5, "rows", "(I)I"⟩
abbrev cX5_rowOf : ByteArray := prog_1_method_16_code
def yX5_rowOf : MethodName := ⟨RX5, "rowOf", "(I)I"⟩
abbrev cX5_deepest : ByteArray := prog_1_method_17_code
def yX5_deepest : MethodName := ⟨RX5, "deepest", "()I"⟩
abbrev cX5_fewest : ByteArray := prog_1_method_18_code
def yX5_fewest : MethodName := ⟨RX5, "fewest", "(I)I"⟩
abbrev cX5_fewestAt : ByteArray := prog_1_method_19_code
def yX5_fewestAt : MethodName := ⟨RX5, "fewestAt", "(II)I"⟩
abbrev cX5_byTwo : ByteArray := prog_1_method_20_code
def yX5_byTwo : MethodName := ⟨RX5, "byTwo", "(I)I"⟩
abbrev cX5_orders : ByteArray := prog_1_method_21_code
def yX5_orders : MethodName := ⟨RX5, "orders", "(II)I"⟩
abbrev cX5_creases : ByteArray := prog_1_method_22_code
def yX5_creases : MethodName := ⟨RX5, "creases", "(I)I"⟩
abbrev cX5_bending : ByteArray := prog_1_method_23_code
def yX5_bending : MethodName := ⟨RX5, "bending", "(I)I"⟩
abbrev cX5_washes : ByteArray := prog_1_method_24_code
def yX5_washes : MethodName := ⟨RX5, "washes", "(I)I"⟩
abbrev cX5_likely : ByteArray := prog_1_method_25_code
def yX5_likely : MethodName := ⟨RX5, "likely", "(IZ)I"⟩
abbrev cX5_tries : ByteArray := prog_1_method_26_code
def yX5_tries : MethodName := ⟨RX5, "tries", "(Z)I"⟩
abbrev cX5_drum : ByteArray := prog_1_method_27_code
def yX5_drum : MethodName := ⟨RX5, "drum", "(III)I"⟩
abbrev cX5_cross : ByteArray := prog_1_method_28_code
def yX5_cross : MethodName := ⟨RX5, "cross", "(II)I"⟩
abbrev cX5_drawer : ByteArray := prog_1_method_29_code
def yX5_drawer : MethodName := ⟨RX5, "drawer", "(IIZ)I"⟩
abbrev cX5_seed : ByteArray := prog_1_method_30_code
def yX5_seed : MethodName := ⟨RX5, "seed", "(J)J"⟩
abbrev cX5_ward : ByteArray := prog_1_method_31_code
def yX5_ward : MethodName := ⟨RX5, "ward", "(I)I"⟩
abbrev cX5_keep : ByteArray := prog_1_method_32_code
def yX5_keep : MethodName := ⟨RX5, "keep", "(I)I"⟩
abbrev cX5_again : ByteArray := prog_1_method_33_code
def yX5_again : MethodName := ⟨RX5, "again", "(I)I"⟩
abbrev cX5_count : ByteArray := prog_1_method_34_code
def yX5_count : MethodName := ⟨RX5, "count", "(I)I"⟩
abbrev cX5_isCorner : ByteArray := prog_1_method_35_code
def yX5_isCorner : MethodName := ⟨RX5, "isCorner", "(I)Z"⟩
abbrev cX5_isAim : ByteArray := prog_1_method_36_code
def yX5_isAim : MethodName := ⟨RX5, "isAim", "(I)Z"⟩
abbrev cX5_isRow : ByteArray := prog_1_method_37_code
def yX5_isRow : MethodName := ⟨RX5, "isRow", "(II)Z"⟩
abbrev cX5_areScrews : ByteArray := prog_1_method_38_code
def yX5_areScrews : MethodName := ⟨RX5, "areScrews", "(II)Z"⟩
abbrev cX5_fits : ByteArray := prog_1_method_39_code
def yX5_fits : MethodName := ⟨RX5, "fits", "(II)Z"⟩
abbrev cX5_figureAt : ByteArray := prog_1_method_40_code
def yX5_figureAt : MethodName := ⟨RX5, "figureAt", "(I)I"⟩
abbrev cX5_figureOf : ByteArray := prog_1_method_41_code
def yX5_figureOf : MethodName := ⟨RX5, "figureOf", "(III)I"⟩
abbrev cX5_layFigures : ByteArray := prog_1_method_42_code
def yX5_layFigures : MethodName := ⟨RX5, "layFigures", "(I[I)V"⟩
abbrev cX5_asFigures : ByteArray := prog_1_method_43_code
def yX5_asFigures : MethodName := ⟨RX5, "asFigures", "([I)I"⟩
abbrev cX5_fraction : ByteArray := prog_1_method_44_code
def yX5_fraction : MethodName := ⟨RX5, "fraction", "(IIZ)I"⟩
abbrev cX5_remember : ByteArray := prog_1_method_45_code
def yX5_remember : MethodName := ⟨RX5, "remember", "()V"⟩
abbrev cX5_searchFromNow : ByteArray := prog_1_method_46_code
def yX5_searchFromNow : MethodName := ⟨RX5, "searchFromNow", "()LFourthCorner$Search;"⟩
abbrev cX5_ordersTo : ByteArray := prog_1_method_47_code
def yX5_ordersTo : MethodName := ⟨RX5, "ordersTo", "(II)I"⟩
abbrev cX5_firstOrder : ByteArray := prog_1_method_48_code
def yX5_firstOrder : MethodName := ⟨RX5, "firstOrder", "(I)I"⟩
abbrev cX5_endOf : ByteArray := prog_1_method_49_code
def yX5_endOf : MethodName := ⟨RX5, "endOf", "(II)I"⟩
def RX6 : String := "FourthCornerModel"
def TX6 : u_T := fun k => match k with
  | 0 => ("FourthCornerModel", "stiff", "I", false)
  | 1 => ("FourthCornerModel", "grip", "[I", true)
  | 2 => ("FourthCornerModel", "now", "[I", true)
  | 3 => ("FourthCornerModel", "looks", "I", false)
  | 4 => ("FourthCornerModel", "lookAt", "[I", true)
  | 5 => ("FourthCornerModel", "lookBy", "[I", true)
  | 6 => ("FourthCornerModel", "text", "[I", true)
  | 7 => ("FourthCornerModel", "length", "I", false)
  | 8 => ("FourthCornerModel", "d", "[I", true)
  | 9 => ("FourthCornerModel", "b", "[I", true)
  | 10 => ("FourthCornerModel", "s", "[I", true)
  | 11 => ("FourthCornerModel", "acts", "I", false)
  | 12 => ("FourthCornerModel", "next", "I", false)
  | 13 => ("FourthCornerModel", "row", "[I", true)
  | 14 => ("FourthCornerModel", "rowsFound", "I", false)
  | 15 => ("FourthCornerModel", "leastRow", "I", false)
  | 16 => ("FourthCornerModel", "far", "[I", true)
  | 17 => ("FourthCornerModel", "byWhat", "[I", true)
  | 18 => ("FourthCornerModel", "from", "[I", true)
  | 19 => ("FourthCornerModel", "line", "[I", true)
  | 20 => ("FourthCornerModel", "end", "I", false)
  | 21 => ("FourthCornerModel", "lineMany", "I", false)
  | 22 => ("FourthCornerModel", "screws", "[I", true)
  | 23 => ("FourthCornerModel", "seed", "J", false)
  | 24 => ("FourthCornerModel", "isKept", "[Z", true)
  | _ => ("FourthCornerModel", "kept", "[I", true)
def tyX6 : Nat → FieldType := fun k => match k with
  | 0 => .int
  | 1 => .array .int
  | 2 => .array .int
  | 3 => .int
  | 4 => .array .int
  | 5 => .array .int
  | 6 => .array .int
  | 7 => .int
  | 8 => .array .int
  | 9 => .array .int
  | 10 => .array .int
  | 11 => .int
  | 12 => .int
  | 13 => .array .int
  | 14 => .int
  | 15 => .int
  | 16 => .array .int
  | 17 => .array .int
  | 18 => .array .int
  | 19 => .array .int
  | 20 => .int
  | 21 => .int
  | 22 => .array .int
  | 23 => .long
  | 24 => .array .boolean
  | _ => .array .int
abbrev wsX60 : List Cond := u_ws RX6 TX6 26
theorem nmX6 : ∀ a, a < 26 → ∀ b, b < 26 → a ≠ b → (TX6 a).2.1 ≠ (TX6 b).2.1 := by decide +kernel
theorem tyX6_ok : ∀ k, k < 26 → parseFieldDescriptor (TX6 k).2.2.1 = some (tyX6 k) := by decide +kernel
abbrev cX6_init : ByteArray := prog_8_method_1_code
def yX6_init : MethodName := ⟨RX6, "<init>", "()V"⟩
abbrev cX6_in : ByteArray := prog_8_method_3_code
def yX6_in : MethodName := ⟨RX6, "in", "(JJJ)Z"⟩
abbrev cX6_write : ByteArray := prog_8_method_4_code
def yX6_write : MethodName := ⟨RX6, "write", "(I)I"⟩
abbrev cX6_wipe : ByteArray := prog_8_method_5_code
def yX6_wipe : MethodName := ⟨RX6, "wipe", "()I"⟩
abbrev cX6_fits : ByteArray := prog_8_method_6_code
def yX6_fits : MethodName := ⟨RX6, "fits", "(I)Z"⟩
abbrev cX6_fault : ByteArray := prog_8_method_7_code
def yX6_fault : MethodName := ⟨RX6, "fault", "()I"⟩
abbrev cX6_bed : ByteArray := prog_8_method_8_code
def yX6_bed : MethodName := ⟨RX6, "bed", "()I"⟩
abbrev cX6_isCorner : ByteArray := prog_8_method_9_code
def yX6_isCorner : MethodName := ⟨RX6, "isCorner", "(I)Z"⟩
abbrev cX6_layNow : ByteArray := prog_8_method_10_code
def yX6_layNow : MethodName := ⟨RX6, "layNow", "()V"⟩
abbrev cX6_counts : ByteArray := prog_8_method_11_code
def yX6_counts : MethodName := ⟨RX6, "counts", "(I)I"⟩
abbrev cX6_edgePull : ByteArray := prog_8_method_12_code
def yX6_edgePull : MethodName := ⟨RX6, "edgePull", "(I)I"⟩
abbrev cX6_pullAt : ByteArray := prog_8_method_13_code
def yX6_pullAt : MethodName := ⟨RX6, "pullAt", "(I)I"⟩
abbrev cX6_excess : ByteArray := prog_8_method_14_code
def yX6_excess : MethodName := ⟨RX6, "excess", "(I)I"⟩
abbrev cX6_firstSlip : ByteArray := prog_8_method_15_code
def yX6_firstSlip : MethodName := ⟨RX6, "firstSlip", "()I"⟩
abbrev cX6_slips : ByteArray := prog_8_method_16_code
def yX6_slips : MethodName := ⟨RX6, "slips", "()I"⟩
abbrev cX6_corner : ByteArray := prog_8_method_17_code
def yX6_corner : MethodName := ⟨RX6, "corner", "(II)I"⟩
abbrev cX6_edge : ByteArray := prog_8_method_18_code
def yX6_edge : MethodName := ⟨RX6, "edge", "(II)I"⟩
abbrev cX6_tenTo : ByteArray := prog_8_method_19_code
def yX6_tenTo : MethodName := ⟨RX6, "tenTo", "(I)I"⟩
abbrev cX6_isRow : ByteArray := prog_8_method_20_code
def yX6_isRow : MethodName := ⟨RX6, "isRow", "(II)Z"⟩
abbrev cX6_layRow : ByteArray := prog_8_method_21_code
def yX6_layRow : MethodName := ⟨RX6, "layRow", "(I)V"⟩
abbrev cX6_told : ByteArray := prog_8_method_22_code
def yX6_told : MethodName := ⟨RX6, "told", "()I"⟩
abbrev cX6_would : ByteArray := prog_8_method_23_code
def yX6_would : MethodName := ⟨RX6, "would", "(II)I"⟩
abbrev cX6_keepAct : ByteArray := prog_8_method_24_code
def yX6_keepAct : MethodName := ⟨RX6, "keepAct", "()V"⟩
abbrev cX6_slipNow : ByteArray := prog_8_method_25_code
def yX6_slipNow : MethodName := ⟨RX6, "slipNow", "()I"⟩
abbrev cX6_set : ByteArray := prog_8_method_26_code
def yX6_set : MethodName := ⟨RX6, "set", "(II)I"⟩
abbrev cX6_bend : ByteArray := prog_8_method_27_code
def yX6_bend : MethodName := ⟨RX6, "bend", "(II)I"⟩
abbrev cX6_wash : ByteArray := prog_8_method_28_code
def yX6_wash : MethodName := ⟨RX6, "wash", "()I"⟩
abbrev cX6_on : ByteArray := prog_8_method_29_code
def yX6_on : MethodName := ⟨RX6, "on", "()I"⟩
abbrev cX6_turn : ByteArray := prog_8_method_30_code
def yX6_turn : MethodName := ⟨RX6, "turn", "()I"⟩
abbrev cX6_undo : ByteArray := prog_8_method_31_code
def yX6_undo : MethodName := ⟨RX6, "undo", "()I"⟩
abbrev cX6_judge : ByteArray := prog_8_method_32_code
def yX6_judge : MethodName := ⟨RX6, "judge", "(II)I"⟩
abbrev cX6_allHold : ByteArray := prog_8_method_33_code
def yX6_allHold : MethodName := ⟨RX6, "allHold", "()Z"⟩
abbrev cX6_layState : ByteArray := prog_8_method_34_code
def yX6_layState : MethodName := ⟨RX6, "layState", "(I)V"⟩
abbrev cX6_stateOf : ByteArray := prog_8_method_35_code
def yX6_stateOf : MethodName := ⟨RX6, "stateOf", "()I"⟩
abbrev cX6_isDeep : ByteArray := prog_8_method_36_code
def yX6_isDeep : MethodName := ⟨RX6, "isDeep", "(I)Z"⟩
abbrev cX6_findRows : ByteArray := prog_8_method_37_code
def yX6_findRows : MethodName := ⟨RX6, "findRows", "(I)V"⟩
abbrev cX6_rows : ByteArray := prog_8_method_38_code
def yX6_rows : MethodName := ⟨RX6, "rows", "(I)I"⟩
abbrev cX6_rowOf : ByteArray := prog_8_method_39_code
def yX6_rowOf : MethodName := ⟨RX6, "rowOf", "(I)I"⟩
abbrev cX6_deepest : ByteArray := prog_8_method_40_code
def yX6_deepest : MethodName := ⟨RX6, "deepest", "()I"⟩
abbrev cX6_come : ByteArray := prog_8_method_41_code
def yX6_come : MethodName := ⟨RX6, "come", "(II)V"⟩
abbrev cX6_find : ByteArray := prog_8_method_42_code
def yX6_find : MethodName := ⟨RX6, "find", "(IZ)V"⟩
abbrev cX6_goOne : ByteArray := prog_8_method_43_code
def yX6_goOne : MethodName := ⟨RX6, "goOne", "(I)V"⟩
abbrev cX6_goTwo : ByteArray := prog_8_method_44_code
def yX6_goTwo : MethodName := ⟨RX6, "goTwo", "(I)V"⟩
abbrev cX6_fewest : ByteArray := prog_8_method_45_code
def yX6_fewest : MethodName := ⟨RX6, "fewest", "(I)I"⟩
abbrev cX6_fewestAt : ByteArray := prog_8_method_46_code
def yX6_fewestAt : MethodName := ⟨RX6, "fewestAt", "(II)I"⟩
abbrev cX6_byTwo : ByteArray := prog_8_method_47_code
def yX6_byTwo : MethodName := ⟨RX6, "byTwo", "(I)I"⟩
abbrev cX6_ordered : ByteArray := prog_8_method_48_code
def yX6_ordered : MethodName := ⟨RX6, "ordered", "(II)I"⟩
abbrev cX6_toldOrder : ByteArray := prog_8_method_49_code
def yX6_toldOrder : MethodName := ⟨RX6, "toldOrder", "(I)I"⟩
abbrev cX6_putOn : ByteArray := prog_8_method_50_code
def yX6_putOn : MethodName := ⟨RX6, "putOn", "(II)I"⟩
abbrev cX6_ordersTo : ByteArray := prog_8_method_51_code
def yX6_ordersTo : MethodName := ⟨RX6, "ordersTo", "(IIZ)I"⟩
abbrev cX6_orders : ByteArray := prog_8_method_52_code
def yX6_orders : MethodName := ⟨RX6, "orders", "(II)I"⟩
abbrev cX6_toldNow : ByteArray := prog_8_method_53_code
def yX6_toldNow : MethodName := ⟨RX6, "toldNow", "()I"⟩
abbrev cX6_creases : ByteArray := prog_8_method_54_code
def yX6_creases : MethodName := ⟨RX6, "creases", "(I)I"⟩
abbrev cX6_bending : ByteArray := prog_8_method_55_code
def yX6_bending : MethodName := ⟨RX6, "bending", "(I)I"⟩
abbrev cX6_washes : ByteArray := prog_8_method_56_code
def yX6_washes : MethodName := ⟨RX6, "washes", "(I)I"⟩
abbrev cX6_common : ByteArray := prog_8_method_57_code
def yX6_common : MethodName := ⟨RX6, "common", "(II)I"⟩
abbrev cX6_weight : ByteArray := prog_8_method_58_code
def yX6_weight : MethodName := ⟨RX6, "weight", "(I)I"⟩
abbrev cX6_weights : ByteArray := prog_8_method_59_code
def yX6_weights : MethodName := ⟨RX6, "weights", "()I"⟩
abbrev cX6_likely : ByteArray := prog_8_method_60_code
def yX6_likely : MethodName := ⟨RX6, "likely", "(IZ)I"⟩
abbrev cX6_tries : ByteArray := prog_8_method_61_code
def yX6_tries : MethodName := ⟨RX6, "tries", "(Z)I"⟩
abbrev cX6_tighten : ByteArray := prog_8_method_62_code
def yX6_tighten : MethodName := ⟨RX6, "tighten", "(I)V"⟩
abbrev cX6_loosen : ByteArray := prog_8_method_63_code
def yX6_loosen : MethodName := ⟨RX6, "loosen", "()V"⟩
abbrev cX6_drum : ByteArray := prog_8_method_64_code
def yX6_drum : MethodName := ⟨RX6, "drum", "(III)I"⟩
abbrev cX6_apart : ByteArray := prog_8_method_65_code
def yX6_apart : MethodName := ⟨RX6, "apart", "(II)I"⟩
abbrev cX6_cross : ByteArray := prog_8_method_66_code
def yX6_cross : MethodName := ⟨RX6, "cross", "(II)I"⟩
abbrev cX6_drawer : ByteArray := prog_8_method_67_code
def yX6_drawer : MethodName := ⟨RX6, "drawer", "(IIZ)I"⟩
abbrev cX6_seed : ByteArray := prog_8_method_68_code
def yX6_seed : MethodName := ⟨RX6, "seed", "(J)J"⟩
abbrev cX6_ward : ByteArray := prog_8_method_69_code
def yX6_ward : MethodName := ⟨RX6, "ward", "(I)I"⟩
abbrev cX6_many : ByteArray := prog_8_method_70_code
def yX6_many : MethodName := ⟨RX6, "many", "()I"⟩
abbrev cX6_keep : ByteArray := prog_8_method_71_code
def yX6_keep : MethodName := ⟨RX6, "keep", "(I)I"⟩
abbrev cX6_again : ByteArray := prog_8_method_72_code
def yX6_again : MethodName := ⟨RX6, "again", "(I)I"⟩
abbrev cX6_figures : ByteArray := prog_8_method_73_code
def yX6_figures : MethodName := ⟨RX6, "figures", "(I)I"⟩
abbrev cX6_count : ByteArray := prog_8_method_74_code
def yX6_count : MethodName := ⟨RX6, "count", "(I)I"⟩
def RJx145de : String := "java/io/Serializable"
def TJx145de : u_T := fun k => match k with
  | _ => ("", "", "", false)
def tyJx145de : Nat → FieldType := fun k => match k with
  | _ => .int
abbrev wsJx145de0 : List Cond := u_ws RJx145de TJx145de 0
theorem nmJx145de : ∀ a, a < 0 → ∀ b, b < 0 → a ≠ b → (TJx145de a).2.1 ≠ (TJx145de b).2.1 := by decide +kernel
theorem tyJx145de_ok : ∀ k, k < 0 → parseFieldDescriptor (TJx145de k).2.2.1 = some (tyJx145de k) := by decide +kernel
def RJx9f9b0 : String := "java/lang/CharSequence"
def TJx9f9b0 : u_T := fun k => match k with
  | _ => ("", "", "", false)
def tyJx9f9b0 : Nat → FieldType := fun k => match k with
  | _ => .int
abbrev wsJx9f9b00 : List Cond := u_ws RJx9f9b0 TJx9f9b0 0
theorem nmJx9f9b0 : ∀ a, a < 0 → ∀ b, b < 0 → a ≠ b → (TJx9f9b0 a).2.1 ≠ (TJx9f9b0 b).2.1 := by decide +kernel
theorem tyJx9f9b0_ok : ∀ k, k < 0 → parseFieldDescriptor (TJx9f9b0 k).2.2.1 = some (tyJx9f9b0 k) := by decide +kernel
def RJxb160c : String := "java/lang/Comparable"
def TJxb160c : u_T := fun k => match k with
  | _ => ("", "", "", false)
def tyJxb160c : Nat → FieldType := fun k => match k with
  | _ => .int
abbrev wsJxb160c0 : List Cond := u_ws RJxb160c TJxb160c 0
theorem nmJxb160c : ∀ a, a < 0 → ∀ b, b < 0 → a ≠ b → (TJxb160c a).2.1 ≠ (TJxb160c b).2.1 := by decide +kernel
theorem tyJxb160c_ok : ∀ k, k < 0 → parseFieldDescriptor (TJxb160c k).2.2.1 = some (tyJxb160c k) := by decide +kernel
def RJ6 : String := "java/lang/Integer"
def TJ6 : u_T := fun k => match k with
  | _ => ("", "", "", false)
def tyJ6 : Nat → FieldType := fun k => match k with
  | _ => .int
abbrev wsJ60 : List Cond := u_ws RJ6 TJ6 0
theorem nmJ6 : ∀ a, a < 0 → ∀ b, b < 0 → a ≠ b → (TJ6 a).2.1 ≠ (TJ6 b).2.1 := by decide +kernel
theorem tyJ6_ok : ∀ k, k < 0 → parseFieldDescriptor (TJ6 k).2.2.1 = some (tyJ6 k) := by decide +kernel
abbrev cJ6_bitCount_0f7a4 : ByteArray := prog_9_method_49_code
def yJ6_bitCount_0f7a4 : MethodName := ⟨RJ6, "bitCount", "(I)I"⟩
def RJ9 : String := "java/lang/Math"
def TJ9 : u_T := fun k => match k with
  | _ => ("", "", "", false)
def tyJ9 : Nat → FieldType := fun k => match k with
  | _ => .int
abbrev wsJ90 : List Cond := u_ws RJ9 TJ9 0
theorem nmJ9 : ∀ a, a < 0 → ∀ b, b < 0 → a ≠ b → (TJ9 a).2.1 ≠ (TJ9 b).2.1 := by decide +kernel
theorem tyJ9_ok : ∀ k, k < 0 → parseFieldDescriptor (TJ9 k).2.2.1 = some (tyJ9 k) := by decide +kernel
abbrev cJ9_max_7cf53 : ByteArray := prog_10_method_65_code
def yJ9_max_7cf53 : MethodName := ⟨RJ9, "max", "(II)I"⟩
abbrev cJ9_min_7cf53 : ByteArray := prog_10_method_69_code
def yJ9_min_7cf53 : MethodName := ⟨RJ9, "min", "(II)I"⟩
def RJ0 : String := "java/lang/String"
def TJ0 : u_T := fun k => match k with
  | _ => ("", "", "", false)
def tyJ0 : Nat → FieldType := fun k => match k with
  | _ => .int
abbrev wsJ00 : List Cond := u_ws RJ0 TJ0 0
theorem nmJ0 : ∀ a, a < 0 → ∀ b, b < 0 → a ≠ b → (TJ0 a).2.1 ≠ (TJ0 b).2.1 := by decide +kernel
theorem tyJ0_ok : ∀ k, k < 0 → parseFieldDescriptor (TJ0 k).2.2.1 = some (tyJ0 k) := by decide +kernel
abbrev cJ0_length_8abf5 : ByteArray := prog_11_method_54_code
def yJ0_length_8abf5 : MethodName := ⟨RJ0, "length", "()I"⟩
abbrev cJ0_charAt_5068e : ByteArray := prog_11_method_56_code
def yJ0_charAt_5068e : MethodName := ⟨RJ0, "charAt", "(I)C"⟩
abbrev cJ0_coder_7d493 : ByteArray := prog_11_method_152_code
def yJ0_coder_7d493 : MethodName := ⟨RJ0, "coder", "()B"⟩
abbrev cJ0_isLatin1_aae02 : ByteArray := prog_11_method_154_code
def yJ0_isLatin1_aae02 : MethodName := ⟨RJ0, "isLatin1", "()Z"⟩
abbrev cJ0_checkIndex_df160 : ByteArray := prog_11_method_155_code
def yJ0_checkIndex_df160 : MethodName := ⟨RJ0, "checkIndex", "(II)V"⟩
def RJ1 : String := "java/lang/StringLatin1"
def TJ1 : u_T := fun k => match k with
  | _ => ("", "", "", false)
def tyJ1 : Nat → FieldType := fun k => match k with
  | _ => .int
abbrev wsJ10 : List Cond := u_ws RJ1 TJ1 0
theorem nmJ1 : ∀ a, a < 0 → ∀ b, b < 0 → a ≠ b → (TJ1 a).2.1 ≠ (TJ1 b).2.1 := by decide +kernel
theorem tyJ1_ok : ∀ k, k < 0 → parseFieldDescriptor (TJ1 k).2.2.1 = some (tyJ1 k) := by decide +kernel
abbrev cJ1_charAt_3b067 : ByteArray := prog_12_method_2_code
def yJ1_charAt_3b067 : MethodName := ⟨RJ1, "charAt", "([BI)C"⟩
def RJ2 : String := "java/lang/StringUTF16"
def TJ2 : u_T := fun k => match k with
  | _ => ("", "", "", false)
def tyJ2 : Nat → FieldType := fun k => match k with
  | _ => .int
abbrev wsJ20 : List Cond := u_ws RJ2 TJ2 0
theorem nmJ2 : ∀ a, a < 0 → ∀ b, b < 0 → a ≠ b → (TJ2 a).2.1 ≠ (TJ2 b).2.1 := by decide +kernel
theorem tyJ2_ok : ∀ k, k < 0 → parseFieldDescriptor (TJ2 k).2.2.1 = some (tyJ2 k) := by decide +kernel
abbrev cJ2_getChar_3b067 : ByteArray := prog_13_method_5_code
def yJ2_getChar_3b067 : MethodName := ⟨RJ2, "getChar", "([BI)C"⟩
abbrev cJ2_length_9d52b : ByteArray := prog_13_method_6_code
def yJ2_length_9d52b : MethodName := ⟨RJ2, "length", "([B)I"⟩
abbrev cJ2_charAt_3b067 : ByteArray := prog_13_method_83_code
def yJ2_charAt_3b067 : MethodName := ⟨RJ2, "charAt", "([BI)C"⟩
abbrev cJ2_checkIndex_2214a : ByteArray := prog_13_method_91_code
def yJ2_checkIndex_2214a : MethodName := ⟨RJ2, "checkIndex", "(I[B)V"⟩
def RJxfd54e : String := "java/lang/constant/Constable"
def TJxfd54e : u_T := fun k => match k with
  | _ => ("", "", "", false)
def tyJxfd54e : Nat → FieldType := fun k => match k with
  | _ => .int
abbrev wsJxfd54e0 : List Cond := u_ws RJxfd54e TJxfd54e 0
theorem nmJxfd54e : ∀ a, a < 0 → ∀ b, b < 0 → a ≠ b → (TJxfd54e a).2.1 ≠ (TJxfd54e b).2.1 := by decide +kernel
theorem tyJxfd54e_ok : ∀ k, k < 0 → parseFieldDescriptor (TJxfd54e k).2.2.1 = some (tyJxfd54e k) := by decide +kernel
def RJx3cf43 : String := "java/lang/constant/ConstantDesc"
def TJx3cf43 : u_T := fun k => match k with
  | _ => ("", "", "", false)
def tyJx3cf43 : Nat → FieldType := fun k => match k with
  | _ => .int
abbrev wsJx3cf430 : List Cond := u_ws RJx3cf43 TJx3cf43 0
theorem nmJx3cf43 : ∀ a, a < 0 → ∀ b, b < 0 → a ≠ b → (TJx3cf43 a).2.1 ≠ (TJx3cf43 b).2.1 := by decide +kernel
theorem tyJx3cf43_ok : ∀ k, k < 0 → parseFieldDescriptor (TJx3cf43 k).2.2.1 = some (tyJx3cf43 k) := by decide +kernel
def RJ7 : String := "java/util/Arrays"
def TJ7 : u_T := fun k => match k with
  | _ => ("", "", "", false)
def tyJ7 : Nat → FieldType := fun k => match k with
  | _ => .int
abbrev wsJ70 : List Cond := u_ws RJ7 TJ7 0
theorem nmJ7 : ∀ a, a < 0 → ∀ b, b < 0 → a ≠ b → (TJ7 a).2.1 ≠ (TJ7 b).2.1 := by decide +kernel
theorem tyJ7_ok : ∀ k, k < 0 → parseFieldDescriptor (TJ7 k).2.2.1 = some (tyJ7 k) := by decide +kernel
abbrev cJ7_fill_53178 : ByteArray := prog_14_method_103_code
def yJ7_fill_53178 : MethodName := ⟨RJ7, "fill", "([II)V"⟩
def RJ3 : String := "jdk/internal/util/Preconditions"
def TJ3 : u_T := fun k => match k with
  | _ => ("", "", "", false)
def tyJ3 : Nat → FieldType := fun k => match k with
  | _ => .int
abbrev wsJ30 : List Cond := u_ws RJ3 TJ3 0
theorem nmJ3 : ∀ a, a < 0 → ∀ b, b < 0 → a ≠ b → (TJ3 a).2.1 ≠ (TJ3 b).2.1 := by decide +kernel
theorem tyJ3_ok : ∀ k, k < 0 → parseFieldDescriptor (TJ3 k).2.2.1 = some (tyJ3 k) := by decide +kernel
abbrev cJ3_checkIndex_8e157 : ByteArray := prog_15_method_11_code
def yJ3_checkIndex_8e157 : MethodName := ⟨RJ3, "checkIndex", "(IILjava/util/function/BiFunction;)I"⟩
def RL : String := "FourthCornerLaw"
abbrev cL_law : ByteArray := code
def yL_law : MethodName := ⟨RL, "law", "([I)Z"⟩
abbrev vwCl : List vw_C := [(RX0, TX0, 3), (RX1, TX1, 3), (RX2, TX2, 1), (RX3, TX3, 6), (RX4, TX4, 5), (RX5, TX5, 13), (RX6, TX6, 26)]
