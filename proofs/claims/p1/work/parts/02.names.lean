/-! ===== BEGIN printed: names, fields, word lists, decode rows ===== -/
def RX0 : String := "DrawStreams$Block"
def TX0 : u_T := fun k => match k with
  | 0 => ("DrawStreams$Block", "x0", "J", false)
  | 1 => ("DrawStreams$Block", "x1", "J", false)
  | 2 => ("DrawStreams$Block", "x2", "J", false)
  | 3 => ("DrawStreams$Block", "x3", "J", false)
  | 4 => ("DrawStreams$Block", "madeKey", "J", false)
  | 5 => ("DrawStreams$Block", "madeNumber", "J", false)
  | 6 => ("DrawStreams$Block", "madeStream", "I", false)
  | _ => ("DrawStreams$Block", "madeSort", "I", false)
def tyX0 : Nat → FieldType := fun k => match k with
  | 0 => .long
  | 1 => .long
  | 2 => .long
  | 3 => .long
  | 4 => .long
  | 5 => .long
  | 6 => .int
  | _ => .int
abbrev wsX00 : List Cond := u_ws RX0 TX0 8
theorem nmX0 : ∀ a, a < 8 → ∀ b, b < 8 → a ≠ b → (TX0 a).2.1 ≠ (TX0 b).2.1 := by decide +kernel
theorem tyX0_ok : ∀ k, k < 8 → parseFieldDescriptor (TX0 k).2.2.1 = some (tyX0 k) := by decide +kernel
abbrev cX0_init : ByteArray := prog_2_method_1_code
def yX0_init : MethodName := ⟨RX0, "<init>", "()V"⟩
abbrev cX0_make : ByteArray := prog_2_method_2_code
def yX0_make : MethodName := ⟨RX0, "make", "(JIIJ)V"⟩
abbrev cX0_part : ByteArray := prog_2_method_3_code
def yX0_part : MethodName := ⟨RX0, "part", "(I)J"⟩
def RX1 : String := "DrawStreams$Deviate"
def TX1 : u_T := fun k => match k with
  | 0 => ("DrawStreams$Deviate", "digits", "[J", true)
  | _ => ("DrawStreams$Deviate", "known", "I", false)
def tyX1 : Nat → FieldType := fun k => match k with
  | 0 => .array .long
  | _ => .int
abbrev wsX10 : List Cond := u_ws RX1 TX1 2
theorem nmX1 : ∀ a, a < 2 → ∀ b, b < 2 → a ≠ b → (TX1 a).2.1 ≠ (TX1 b).2.1 := by decide +kernel
theorem tyX1_ok : ∀ k, k < 2 → parseFieldDescriptor (TX1 k).2.2.1 = some (tyX1 k) := by decide +kernel
abbrev cX1_init : ByteArray := prog_3_method_1_code
def yX1_init : MethodName := ⟨RX1, "<init>", "()V"⟩
abbrev cX1_renewed : ByteArray := prog_3_method_2_code
def yX1_renewed : MethodName := ⟨RX1, "renewed", "()LDrawStreams$Deviate;"⟩
abbrev cX1_firstDigit : ByteArray := prog_3_method_3_code
def yX1_firstDigit : MethodName := ⟨RX1, "firstDigit", "(LDrawStreams$Drawer;)J"⟩
abbrev cX1_less : ByteArray := prog_3_method_4_code
def yX1_less : MethodName := ⟨RX1, "less", "(LDrawStreams$Deviate;LDrawStreams$Drawer;)Z"⟩
abbrev cX1_digit : ByteArray := prog_3_method_5_code
def yX1_digit : MethodName := ⟨RX1, "digit", "(ILDrawStreams$Drawer;)J"⟩
def RX2 : String := "DrawStreams$Drawer"
def TX2 : u_T := fun k => match k with
  | 0 => ("DrawStreams$Drawer", "keyNumber", "I", true)
  | 1 => ("DrawStreams$Drawer", "keyBits", "J", true)
  | 2 => ("DrawStreams$Drawer", "stream", "I", true)
  | 3 => ("DrawStreams$Drawer", "place", "J", false)
  | 4 => ("DrawStreams$Drawer", "rejected", "J", false)
  | _ => ("DrawStreams$Drawer", "block", "LDrawStreams$Block;", true)
def tyX2 : Nat → FieldType := fun k => match k with
  | 0 => .int
  | 1 => .long
  | 2 => .int
  | 3 => .long
  | 4 => .long
  | _ => .object "DrawStreams$Block"
abbrev wsX20 : List Cond := u_ws RX2 TX2 6
abbrev cX2_init : ByteArray := prog_4_method_1_code
def yX2_init : MethodName := ⟨RX2, "<init>", "(LDrawStreams$Block;IJI)V"⟩
abbrev cX2_takeWord : ByteArray := prog_4_method_2_code
def yX2_takeWord : MethodName := ⟨RX2, "takeWord", "()J"⟩
abbrev cX2_takeBits : ByteArray := prog_4_method_3_code
def yX2_takeBits : MethodName := ⟨RX2, "takeBits", "(I)J"⟩
abbrev cX2_takeBelow : ByteArray := prog_4_method_4_code
def yX2_takeBelow : MethodName := ⟨RX2, "takeBelow", "(J)J"⟩
abbrev cX2_flip : ByteArray := prog_4_method_5_code
def yX2_flip : MethodName := ⟨RX2, "flip", "(II)Z"⟩
def RX3 : String := "DrawStreams$Normals"
def TX3 : u_T := fun k => match k with
  | 0 => ("DrawStreams$Normals", "x", "LDrawStreams$Deviate;", true)
  | 1 => ("DrawStreams$Normals", "\x72", "LDrawStreams$Deviate;", true)
  | 2 => ("DrawStreams$Normals", "evenLink", "LDrawStreams$Deviate;", true)
  | 3 => ("DrawStreams$Normals", "oddLink", "LDrawStreams$Deviate;", true)
  | 4 => ("DrawStreams$Normals", "a", "LDrawStreams$Deviate;", true)
  | _ => ("DrawStreams$Normals", "b", "LDrawStreams$Deviate;", true)
def tyX3 : Nat → FieldType := fun k => match k with
  | 0 => .object "DrawStreams$Deviate"
  | 1 => .object "DrawStreams$Deviate"
  | 2 => .object "DrawStreams$Deviate"
  | 3 => .object "DrawStreams$Deviate"
  | 4 => .object "DrawStreams$Deviate"
  | _ => .object "DrawStreams$Deviate"
abbrev wsX30 : List Cond := u_ws RX3 TX3 6
theorem nmX3 : ∀ a, a < 6 → ∀ b, b < 6 → a ≠ b → (TX3 a).2.1 ≠ (TX3 b).2.1 := by decide +kernel
theorem tyX3_ok : ∀ k, k < 6 → parseFieldDescriptor (TX3 k).2.2.1 = some (tyX3 k) := by decide +kernel
abbrev cX3_init : ByteArray := prog_5_method_1_code
def yX3_init : MethodName := ⟨RX3, "<init>", "()V"⟩
abbrev cX3_countHalves : ByteArray := prog_5_method_2_code
def yX3_countHalves : MethodName := ⟨RX3, "countHalves", "(LDrawStreams$Drawer;)I"⟩
abbrev cX3_allHalves : ByteArray := prog_5_method_3_code
def yX3_allHalves : MethodName := ⟨RX3, "allHalves", "(LDrawStreams$Drawer;I)Z"⟩
abbrev cX3_fractionFits : ByteArray := prog_5_method_4_code
def yX3_fractionFits : MethodName := ⟨RX3, "fractionFits", "(LDrawStreams$Drawer;I)Z"⟩
abbrev cX3_signed : ByteArray := prog_5_method_5_code
def yX3_signed : MethodName := ⟨RX3, "signed", "(LDrawStreams$Drawer;I)J"⟩
abbrev cX3_half : ByteArray := prog_5_method_6_code
def yX3_half : MethodName := ⟨RX3, "half", "(LDrawStreams$Drawer;)Z"⟩
abbrev cX3_chainLength : ByteArray := prog_5_method_7_code
def yX3_chainLength : MethodName := ⟨RX3, "chainLength", "(LDrawStreams$Drawer;I)I"⟩
def RX4 : String := "DrawStreams"
def TX4 : u_T := fun k => match k with
  | 0 => ("DrawStreams", "block", "LDrawStreams$Block;", true)
  | 1 => ("DrawStreams", "normals", "LDrawStreams$Normals;", true)
  | 2 => ("DrawStreams", "keys", "[J", true)
  | 3 => ("DrawStreams", "keyCount", "I", false)
  | 4 => ("DrawStreams", "drawers", "[LDrawStreams$Drawer;", true)
  | 5 => ("DrawStreams", "drawerCount", "I", false)
  | 6 => ("DrawStreams", "row", "[I", true)
  | 7 => ("DrawStreams", "rowSize", "I", false)
  | _ => ("DrawStreams", "weights", "[J", true)
def tyX4 : Nat → FieldType := fun k => match k with
  | 0 => .object "DrawStreams$Block"
  | 1 => .object "DrawStreams$Normals"
  | 2 => .array .long
  | 3 => .int
  | 4 => .array (.object "DrawStreams$Drawer")
  | 5 => .int
  | 6 => .array .int
  | 7 => .int
  | _ => .array .long
abbrev wsX40 : List Cond := u_ws RX4 TX4 9
theorem nmX4 : ∀ a, a < 9 → ∀ b, b < 9 → a ≠ b → (TX4 a).2.1 ≠ (TX4 b).2.1 := by decide +kernel
theorem tyX4_ok : ∀ k, k < 9 → parseFieldDescriptor (TX4 k).2.2.1 = some (tyX4 k) := by decide +kernel
abbrev cX4_init : ByteArray := prog_1_method_1_code
def yX4_init : MethodName := ⟨RX4, "<init>", "()V"⟩
abbrev cX4_key : ByteArray := prog_1_method_2_code
def yX4_key : MethodName := ⟨RX4, "key", "(J)I"⟩
abbrev cX4_split : ByteArray := prog_1_method_3_code
def yX4_split : MethodName := ⟨RX4, "split", "(II)I"⟩
abbrev cX4_bitsOf : ByteArray := prog_1_method_4_code
def yX4_bitsOf : MethodName := ⟨RX4, "bitsOf", "(I)J"⟩
abbrev cX4_word : ByteArray := prog_1_method_5_code
def yX4_word : MethodName := ⟨RX4, "word", "(IIJ)J"⟩
abbrev cX4_drawer : ByteArray := prog_1_method_6_code
def yX4_drawer : MethodName := ⟨RX4, "drawer", "(II)I"⟩
abbrev cX4_place : ByteArray := prog_1_method_7_code
def yX4_place : MethodName := ⟨RX4, "place", "(IJ)I"⟩
abbrev cX4_told : ByteArray := prog_1_method_8_code
def yX4_told : MethodName := ⟨RX4, "told", "(II)J"⟩
abbrev cX4_same : ByteArray := prog_1_method_9_code
def yX4_same : MethodName := ⟨RX4, "same", "(II)Z"⟩
abbrev cX4_bits : ByteArray := prog_1_method_10_code
def yX4_bits : MethodName := ⟨RX4, "bits", "(II)J"⟩
abbrev cX4_below : ByteArray := prog_1_method_11_code
def yX4_below : MethodName := ⟨RX4, "below", "(IJ)J"⟩
abbrev cX4_real : ByteArray := prog_1_method_12_code
def yX4_real : MethodName := ⟨RX4, "real", "(I)D"⟩
abbrev cX4_single : ByteArray := prog_1_method_13_code
def yX4_single : MethodName := ⟨RX4, "single", "(I)F"⟩
abbrev cX4_coin : ByteArray := prog_1_method_14_code
def yX4_coin : MethodName := ⟨RX4, "coin", "(III)I"⟩
abbrev cX4_misses : ByteArray := prog_1_method_15_code
def yX4_misses : MethodName := ⟨RX4, "misses", "(IIII)I"⟩
abbrev cX4_hits : ByteArray := prog_1_method_16_code
def yX4_hits : MethodName := ⟨RX4, "hits", "(IIII)I"⟩
abbrev cX4_mask : ByteArray := prog_1_method_17_code
def yX4_mask : MethodName := ⟨RX4, "mask", "(IIII)J"⟩
abbrev cX4_normal : ByteArray := prog_1_method_18_code
def yX4_normal : MethodName := ⟨RX4, "normal", "(I)J"⟩
abbrev cX4_permutation : ByteArray := prog_1_method_19_code
def yX4_permutation : MethodName := ⟨RX4, "permutation", "(II)I"⟩
abbrev cX4_subset : ByteArray := prog_1_method_20_code
def yX4_subset : MethodName := ⟨RX4, "subset", "(III)I"⟩
abbrev cX4_at : ByteArray := prog_1_method_21_code
def yX4_at : MethodName := ⟨RX4, "at", "(I)I"⟩
abbrev cX4_weight : ByteArray := prog_1_method_22_code
def yX4_weight : MethodName := ⟨RX4, "weight", "(IJ)J"⟩
abbrev cX4_choose : ByteArray := prog_1_method_23_code
def yX4_choose : MethodName := ⟨RX4, "choose", "(I)I"⟩
abbrev cX4_secret : ByteArray := prog_1_method_24_code
def yX4_secret : MethodName := ⟨RX4, "secret", "(IIII)I"⟩
abbrev cX4_back : ByteArray := prog_1_method_25_code
def yX4_back : MethodName := ⟨RX4, "back", "(IIII)I"⟩
abbrev cX4_count : ByteArray := prog_1_method_26_code
def yX4_count : MethodName := ⟨RX4, "count", "(I)I"⟩
abbrev cX4_isKey : ByteArray := prog_1_method_27_code
def yX4_isKey : MethodName := ⟨RX4, "isKey", "(I)Z"⟩
abbrev cX4_drawerOf : ByteArray := prog_1_method_28_code
def yX4_drawerOf : MethodName := ⟨RX4, "drawerOf", "(I)LDrawStreams$Drawer;"⟩
abbrev cX4_isChance : ByteArray := prog_1_method_29_code
def yX4_isChance : MethodName := ⟨RX4, "isChance", "(II)Z"⟩
abbrev cX4_isInOrder : ByteArray := prog_1_method_30_code
def yX4_isInOrder : MethodName := ⟨RX4, "isInOrder", "(IIII)Z"⟩
abbrev cX4_changePlaces : ByteArray := prog_1_method_31_code
def yX4_changePlaces : MethodName := ⟨RX4, "changePlaces", "(II)V"⟩
abbrev cX4_putRising : ByteArray := prog_1_method_32_code
def yX4_putRising : MethodName := ⟨RX4, "putRising", "(II)Z"⟩
abbrev cX4_halfWidth : ByteArray := prog_1_method_33_code
def yX4_halfWidth : MethodName := ⟨RX4, "halfWidth", "(I)I"⟩
abbrev cX4_walked : ByteArray := prog_1_method_34_code
def yX4_walked : MethodName := ⟨RX4, "walked", "(JIII)I"⟩
abbrev cX4_walkedBack : ByteArray := prog_1_method_35_code
def yX4_walkedBack : MethodName := ⟨RX4, "walkedBack", "(JIII)I"⟩
abbrev cX4_scatter : ByteArray := prog_1_method_36_code
def yX4_scatter : MethodName := ⟨RX4, "scatter", "(JIIII)I"⟩
def RX5 : String := "DrawStreamsModel"
def TX5 : u_T := fun k => match k with
  | 0 => ("DrawStreamsModel", "thrown", "I", false)
  | 1 => ("DrawStreamsModel", "keys", "I", false)
  | 2 => ("DrawStreamsModel", "keyBits", "[J", true)
  | 3 => ("DrawStreamsModel", "drawers", "I", false)
  | 4 => ("DrawStreamsModel", "keyOf", "[I", true)
  | 5 => ("DrawStreamsModel", "streamOf", "[I", true)
  | 6 => ("DrawStreamsModel", "placeOf", "[J", true)
  | 7 => ("DrawStreamsModel", "rejected", "[J", true)
  | 8 => ("DrawStreamsModel", "rows", "I", false)
  | 9 => ("DrawStreamsModel", "row", "[I", true)
  | 10 => ("DrawStreamsModel", "weights", "[J", true)
  | 11 => ("DrawStreamsModel", "x", "[J", true)
  | 12 => ("DrawStreamsModel", "digits", "[J", true)
  | _ => ("DrawStreamsModel", "known", "[I", true)
def tyX5 : Nat → FieldType := fun k => match k with
  | 0 => .int
  | 1 => .int
  | 2 => .array .long
  | 3 => .int
  | 4 => .array .int
  | 5 => .array .int
  | 6 => .array .long
  | 7 => .array .long
  | 8 => .int
  | 9 => .array .int
  | 10 => .array .long
  | 11 => .array .long
  | 12 => .array .long
  | _ => .array .int
abbrev wsX50 : List Cond := u_ws RX5 TX5 14
theorem nmX5 : ∀ a, a < 14 → ∀ b, b < 14 → a ≠ b → (TX5 a).2.1 ≠ (TX5 b).2.1 := by decide +kernel
theorem tyX5_ok : ∀ k, k < 14 → parseFieldDescriptor (TX5 k).2.2.1 = some (tyX5 k) := by decide +kernel
abbrev cX5_init : ByteArray := prog_7_method_1_code
def yX5_init : MethodName := ⟨RX5, "<init>", "()V"⟩
abbrev cX5_thrown : ByteArray := prog_7_method_2_code
def yX5_thrown : MethodName := ⟨RX5, "thrown", "()I"⟩
abbrev cX5_in : ByteArray := prog_7_method_3_code
def yX5_in : MethodName := ⟨RX5, "in", "(JJJ)Z"⟩
abbrev cX5_block : ByteArray := prog_7_method_4_code
def yX5_block : MethodName := ⟨RX5, "block", "(JIIJ)V"⟩
abbrev cX5_isKey : ByteArray := prog_7_method_5_code
def yX5_isKey : MethodName := ⟨RX5, "isKey", "(I)Z"⟩
abbrev cX5_isDrawer : ByteArray := prog_7_method_6_code
def yX5_isDrawer : MethodName := ⟨RX5, "isDrawer", "(I)Z"⟩
abbrev cX5_key : ByteArray := prog_7_method_7_code
def yX5_key : MethodName := ⟨RX5, "key", "(J)I"⟩
abbrev cX5_split : ByteArray := prog_7_method_8_code
def yX5_split : MethodName := ⟨RX5, "split", "(II)I"⟩
abbrev cX5_bitsOf : ByteArray := prog_7_method_9_code
def yX5_bitsOf : MethodName := ⟨RX5, "bitsOf", "(I)J"⟩
abbrev cX5_word : ByteArray := prog_7_method_10_code
def yX5_word : MethodName := ⟨RX5, "word", "(IIJ)J"⟩
abbrev cX5_drawer : ByteArray := prog_7_method_11_code
def yX5_drawer : MethodName := ⟨RX5, "drawer", "(II)I"⟩
abbrev cX5_place : ByteArray := prog_7_method_12_code
def yX5_place : MethodName := ⟨RX5, "place", "(IJ)I"⟩
abbrev cX5_told : ByteArray := prog_7_method_13_code
def yX5_told : MethodName := ⟨RX5, "told", "(II)J"⟩
abbrev cX5_same : ByteArray := prog_7_method_14_code
def yX5_same : MethodName := ⟨RX5, "same", "(II)Z"⟩
abbrev cX5_take : ByteArray := prog_7_method_15_code
def yX5_take : MethodName := ⟨RX5, "take", "(I)J"⟩
abbrev cX5_draw : ByteArray := prog_7_method_16_code
def yX5_draw : MethodName := ⟨RX5, "draw", "(II)J"⟩
abbrev cX5_less : ByteArray := prog_7_method_17_code
def yX5_less : MethodName := ⟨RX5, "less", "(IJ)J"⟩
abbrev cX5_bits : ByteArray := prog_7_method_18_code
def yX5_bits : MethodName := ⟨RX5, "bits", "(II)J"⟩
abbrev cX5_below : ByteArray := prog_7_method_19_code
def yX5_below : MethodName := ⟨RX5, "below", "(IJ)J"⟩
abbrev cX5_real : ByteArray := prog_7_method_20_code
def yX5_real : MethodName := ⟨RX5, "real", "(I)D"⟩
abbrev cX5_single : ByteArray := prog_7_method_21_code
def yX5_single : MethodName := ⟨RX5, "single", "(I)F"⟩
abbrev cX5_tossed : ByteArray := prog_7_method_22_code
def yX5_tossed : MethodName := ⟨RX5, "tossed", "(III)Z"⟩
abbrev cX5_isCoin : ByteArray := prog_7_method_23_code
def yX5_isCoin : MethodName := ⟨RX5, "isCoin", "(III)Z"⟩
abbrev cX5_coin : ByteArray := prog_7_method_24_code
def yX5_coin : MethodName := ⟨RX5, "coin", "(III)I"⟩
abbrev cX5_misses : ByteArray := prog_7_method_25_code
def yX5_misses : MethodName := ⟨RX5, "misses", "(IIII)I"⟩
abbrev cX5_hits : ByteArray := prog_7_method_26_code
def yX5_hits : MethodName := ⟨RX5, "hits", "(IIII)I"⟩
abbrev cX5_mask : ByteArray := prog_7_method_27_code
def yX5_mask : MethodName := ⟨RX5, "mask", "(IIII)J"⟩
abbrev cX5_digit : ByteArray := prog_7_method_28_code
def yX5_digit : MethodName := ⟨RX5, "digit", "(III)J"⟩
abbrev cX5_isLess : ByteArray := prog_7_method_29_code
def yX5_isLess : MethodName := ⟨RX5, "isLess", "(III)Z"⟩
abbrev cX5_half : ByteArray := prog_7_method_30_code
def yX5_half : MethodName := ⟨RX5, "half", "(I)Z"⟩
abbrev cX5_stays : ByteArray := prog_7_method_31_code
def yX5_stays : MethodName := ⟨RX5, "stays", "(II)Z"⟩
abbrev cX5_normal : ByteArray := prog_7_method_32_code
def yX5_normal : MethodName := ⟨RX5, "normal", "(I)J"⟩
abbrev cX5_permutation : ByteArray := prog_7_method_33_code
def yX5_permutation : MethodName := ⟨RX5, "permutation", "(II)I"⟩
abbrev cX5_isThere : ByteArray := prog_7_method_34_code
def yX5_isThere : MethodName := ⟨RX5, "isThere", "(II)Z"⟩
abbrev cX5_subset : ByteArray := prog_7_method_35_code
def yX5_subset : MethodName := ⟨RX5, "subset", "(III)I"⟩
abbrev cX5_at : ByteArray := prog_7_method_36_code
def yX5_at : MethodName := ⟨RX5, "at", "(I)I"⟩
abbrev cX5_weight : ByteArray := prog_7_method_37_code
def yX5_weight : MethodName := ⟨RX5, "weight", "(IJ)J"⟩
abbrev cX5_choose : ByteArray := prog_7_method_38_code
def yX5_choose : MethodName := ⟨RX5, "choose", "(I)I"⟩
abbrev cX5_halfOf : ByteArray := prog_7_method_39_code
def yX5_halfOf : MethodName := ⟨RX5, "halfOf", "(I)I"⟩
abbrev cX5_mixed : ByteArray := prog_7_method_40_code
def yX5_mixed : MethodName := ⟨RX5, "mixed", "(IIIJI)J"⟩
abbrev cX5_isOrder : ByteArray := prog_7_method_41_code
def yX5_isOrder : MethodName := ⟨RX5, "isOrder", "(IIII)Z"⟩
abbrev cX5_secret : ByteArray := prog_7_method_42_code
def yX5_secret : MethodName := ⟨RX5, "secret", "(IIII)I"⟩
abbrev cX5_back : ByteArray := prog_7_method_43_code
def yX5_back : MethodName := ⟨RX5, "back", "(IIII)I"⟩
abbrev cX5_count : ByteArray := prog_7_method_44_code
def yX5_count : MethodName := ⟨RX5, "count", "(I)I"⟩
def RJx00060 : String := "java/lang/ArrayIndexOutOfBoundsException"
def TJx00060 : u_T := fun k => match k with
  | 0 => ("java/lang/Throwable", "backtrace", "Ljava/lang/Object;", false)
  | 1 => ("java/lang/Throwable", "detailMessage", "Ljava/lang/String;", false)
  | 2 => ("java/lang/Throwable", "cause", "Ljava/lang/Throwable;", false)
  | 3 => ("java/lang/Throwable", "stackTrace", "[Ljava/lang/StackTraceElement;", false)
  | 4 => ("java/lang/Throwable", "depth", "I", false)
  | _ => ("java/lang/Throwable", "suppressedExceptions", "Ljava/util/List;", false)
def tyJx00060 : Nat → FieldType := fun k => match k with
  | 0 => .object "java/lang/Object"
  | 1 => .object "java/lang/String"
  | 2 => .object "java/lang/Throwable"
  | 3 => .array (.object "java/lang/StackTraceElement")
  | 4 => .int
  | _ => .object "java/util/List"
abbrev wsJx000600 : List Cond := u_ws RJx00060 TJx00060 6
abbrev cJx00060_init_a7421 : ByteArray := prog_9_method_2_code
def yJx00060_init_a7421 : MethodName := ⟨RJx00060, "<init>", "(Ljava/lang/String;)V"⟩
def RJ0 : String := "java/lang/String"
def TJ0 : u_T := fun k => match k with
  | 0 => ("java/lang/String", "value", "[B", true)
  | _ => ("java/lang/String", "coder", "B", true)
def tyJ0 : Nat → FieldType := fun k => match k with
  | 0 => .array .byte
  | _ => .byte
abbrev wsJ00 : List Cond := u_ws RJ0 TJ0 2
def RL : String := "DrawStreamsLaw"
abbrev cL_below : ByteArray := method_3_code
def yL_below : MethodName := ⟨RL, "below", "(LDrawStreams;IJ[J)I"⟩
abbrev cL_at : ByteArray := method_4_code
def yL_at : MethodName := ⟨RL, "at", "(LDrawStreams;I[J)I"⟩
abbrev cL_law : ByteArray := code
def yL_law : MethodName := ⟨RL, "law", "([I)Z"⟩
def wsX0_init : List Cond := .code yX0_init cX0_init 1 none :: ([.methodLink RX0 3 objectInit, .instanceMethod objectInit, .code objectInit ⟨#[0xb1]⟩ 1 none, .fieldLink RX0 9 "DrawStreams$Block" "madeSort" "I"] ++ wsX00)
def wsX0_make : List Cond := .code yX0_make cX0_make 16 none :: ([.fieldLink RX0 9 "DrawStreams$Block" "madeSort" "I", .fieldLink RX0 15 "DrawStreams$Block" "madeNumber" "J", .fieldLink RX0 19 "DrawStreams$Block" "madeStream" "I", .fieldLink RX0 22 "DrawStreams$Block" "madeKey" "J", .constantLong RX0 25 (4294967295), .fieldLink RX0 27 "DrawStreams$Block" "x0" "J", .fieldLink RX0 30 "DrawStreams$Block" "x1" "J", .fieldLink RX0 33 "DrawStreams$Block" "x2" "J", .fieldLink RX0 36 "DrawStreams$Block" "x3" "J", .constantLong RX0 39 (3528531795), .constantLong RX0 41 (3449720151), .constantLong RX0 43 (2654435769), .constantLong RX0 45 (3144134277)] ++ wsX00)
def wsX0_part : List Cond := .code yX0_part cX0_part 2 (some .long) :: ([.fieldLink RX0 27 "DrawStreams$Block" "x0" "J", .fieldLink RX0 30 "DrawStreams$Block" "x1" "J", .fieldLink RX0 33 "DrawStreams$Block" "x2" "J", .fieldLink RX0 36 "DrawStreams$Block" "x3" "J"] ++ wsX00)
def wsX1_init : List Cond := .code yX1_init cX1_init 1 none :: ([.methodLink RX1 1 objectInit, .instanceMethod objectInit, .code objectInit ⟨#[0xb1]⟩ 1 none, .arrayClass .long, .fieldLink RX1 9 "DrawStreams$Deviate" "digits" "[J"] ++ wsX10)
def wsX1_renewed : List Cond := .code yX1_renewed cX1_renewed 1 (some (.object "DrawStreams$Deviate")) :: ([.fieldLink RX1 13 "DrawStreams$Deviate" "known" "I"] ++ wsX10)
def wsX2_takeWord_r1 : List Cond := [Cond.fieldLink RX2 9 "DrawStreams$Drawer" "block" "LDrawStreams$Block;", Cond.fieldLink RX2 19 "DrawStreams$Drawer" "keyBits" "J", Cond.fieldLink RX2 23 "DrawStreams$Drawer" "stream" "I", Cond.fieldLink RX2 26 "DrawStreams$Drawer" "place" "J", Cond.constantLong RX2 35 (3), Cond.methodLink RX2 29 yX0_make, Cond.instanceMethod yX0_make, Cond.selects RX0 yX0_make yX0_make, Cond.initialized RX0, Cond.code yX0_make cX0_make 16 none, Cond.fieldLink RX0 9 "DrawStreams$Block" "madeSort" "I", Cond.fieldLink RX0 15 "DrawStreams$Block" "madeNumber" "J", Cond.fieldLink RX0 19 "DrawStreams$Block" "madeStream" "I", Cond.fieldLink RX0 22 "DrawStreams$Block" "madeKey" "J", Cond.constantLong RX0 25 (4294967295), Cond.fieldLink RX0 27 "DrawStreams$Block" "x0" "J", Cond.fieldLink RX0 30 "DrawStreams$Block" "x1" "J", Cond.fieldLink RX0 33 "DrawStreams$Block" "x2" "J", Cond.fieldLink RX0 36 "DrawStreams$Block" "x3" "J", Cond.constantLong RX0 39 (3528531795), Cond.constantLong RX0 41 (3449720151), Cond.constantLong RX0 43 (2654435769), Cond.constantLong RX0 45 (3144134277), Cond.methodLink RX2 37 yX0_part]
def wsX2_takeWord_r2 : List Cond := [Cond.instanceMethod yX0_part, Cond.selects RX0 yX0_part yX0_part, Cond.code yX0_part cX0_part 2 (some .long)]
def wsX2_takeWord : List Cond := .code yX2_takeWord cX2_takeWord 3 (some .long) :: ((wsX2_takeWord_r1 ++ wsX2_takeWord_r2) ++ wsX20 ++ wsX00)
def wsX1_digit_r1 : List Cond := [Cond.fieldLink RX1 13 "DrawStreams$Deviate" "known" "I", Cond.fieldLink RX1 9 "DrawStreams$Deviate" "digits" "[J", Cond.methodLink RX1 21 yX2_takeWord, Cond.instanceMethod yX2_takeWord, Cond.selects RX2 yX2_takeWord yX2_takeWord, Cond.initialized RX2, Cond.code yX2_takeWord cX2_takeWord 3 (some .long), Cond.fieldLink RX2 9 "DrawStreams$Drawer" "block" "LDrawStreams$Block;", Cond.fieldLink RX2 19 "DrawStreams$Drawer" "keyBits" "J", Cond.fieldLink RX2 23 "DrawStreams$Drawer" "stream" "I", Cond.fieldLink RX2 26 "DrawStreams$Drawer" "place" "J", Cond.constantLong RX2 35 (3), Cond.methodLink RX2 29 yX0_make, Cond.instanceMethod yX0_make, Cond.selects RX0 yX0_make yX0_make, Cond.initialized RX0, Cond.code yX0_make cX0_make 16 none, Cond.fieldLink RX0 9 "DrawStreams$Block" "madeSort" "I", Cond.fieldLink RX0 15 "DrawStreams$Block" "madeNumber" "J", Cond.fieldLink RX0 19 "DrawStreams$Block" "madeStream" "I", Cond.fieldLink RX0 22 "DrawStreams$Block" "madeKey" "J", Cond.constantLong RX0 25 (4294967295), Cond.fieldLink RX0 27 "DrawStreams$Block" "x0" "J", Cond.fieldLink RX0 30 "DrawStreams$Block" "x1" "J"]
def wsX1_digit_r2 : List Cond := [Cond.fieldLink RX0 33 "DrawStreams$Block" "x2" "J", Cond.fieldLink RX0 36 "DrawStreams$Block" "x3" "J", Cond.constantLong RX0 39 (3528531795), Cond.constantLong RX0 41 (3449720151), Cond.constantLong RX0 43 (2654435769), Cond.constantLong RX0 45 (3144134277), Cond.methodLink RX2 37 yX0_part, Cond.instanceMethod yX0_part, Cond.selects RX0 yX0_part yX0_part, Cond.code yX0_part cX0_part 2 (some .long)]
def wsX1_digit : List Cond := .code yX1_digit cX1_digit 3 (some .long) :: ((wsX1_digit_r1 ++ wsX1_digit_r2) ++ wsX10 ++ wsX20 ++ wsX00 ++ (vx_atM "java/lang/ArrayIndexOutOfBoundsException" ["java/lang/IndexOutOfBoundsException", "java/lang/RuntimeException", "java/lang/Exception"]).filter goodWord)
def wsX1_firstDigit_r1 : List Cond := [Cond.methodLink RX1 17 yX1_digit, Cond.instanceMethod yX1_digit, Cond.selects RX1 yX1_digit yX1_digit, Cond.initialized RX1, Cond.code yX1_digit cX1_digit 3 (some .long), Cond.fieldLink RX1 13 "DrawStreams$Deviate" "known" "I", Cond.fieldLink RX1 9 "DrawStreams$Deviate" "digits" "[J", Cond.methodLink RX1 21 yX2_takeWord, Cond.instanceMethod yX2_takeWord, Cond.selects RX2 yX2_takeWord yX2_takeWord, Cond.initialized RX2, Cond.code yX2_takeWord cX2_takeWord 3 (some .long), Cond.fieldLink RX2 9 "DrawStreams$Drawer" "block" "LDrawStreams$Block;", Cond.fieldLink RX2 19 "DrawStreams$Drawer" "keyBits" "J", Cond.fieldLink RX2 23 "DrawStreams$Drawer" "stream" "I", Cond.fieldLink RX2 26 "DrawStreams$Drawer" "place" "J", Cond.constantLong RX2 35 (3), Cond.methodLink RX2 29 yX0_make, Cond.instanceMethod yX0_make, Cond.selects RX0 yX0_make yX0_make, Cond.initialized RX0, Cond.code yX0_make cX0_make 16 none, Cond.fieldLink RX0 9 "DrawStreams$Block" "madeSort" "I", Cond.fieldLink RX0 15 "DrawStreams$Block" "madeNumber" "J"]
def wsX1_firstDigit_r2 : List Cond := [Cond.fieldLink RX0 19 "DrawStreams$Block" "madeStream" "I", Cond.fieldLink RX0 22 "DrawStreams$Block" "madeKey" "J", Cond.constantLong RX0 25 (4294967295), Cond.fieldLink RX0 27 "DrawStreams$Block" "x0" "J", Cond.fieldLink RX0 30 "DrawStreams$Block" "x1" "J", Cond.fieldLink RX0 33 "DrawStreams$Block" "x2" "J", Cond.fieldLink RX0 36 "DrawStreams$Block" "x3" "J", Cond.constantLong RX0 39 (3528531795), Cond.constantLong RX0 41 (3449720151), Cond.constantLong RX0 43 (2654435769), Cond.constantLong RX0 45 (3144134277), Cond.methodLink RX2 37 yX0_part, Cond.instanceMethod yX0_part, Cond.selects RX0 yX0_part yX0_part, Cond.code yX0_part cX0_part 2 (some .long)]
def wsX1_firstDigit : List Cond := .code yX1_firstDigit cX1_firstDigit 2 (some .long) :: ((wsX1_firstDigit_r1 ++ wsX1_firstDigit_r2) ++ wsX10 ++ wsX20 ++ wsX00 ++ (vx_atM "java/lang/ArrayIndexOutOfBoundsException" ["java/lang/IndexOutOfBoundsException", "java/lang/RuntimeException", "java/lang/Exception"]).filter goodWord)
def wsX1_less_r1 : List Cond := [Cond.methodLink RX1 17 yX1_digit, Cond.instanceMethod yX1_digit, Cond.selects RX1 yX1_digit yX1_digit, Cond.initialized RX1, Cond.code yX1_digit cX1_digit 3 (some .long), Cond.fieldLink RX1 13 "DrawStreams$Deviate" "known" "I", Cond.fieldLink RX1 9 "DrawStreams$Deviate" "digits" "[J", Cond.methodLink RX1 21 yX2_takeWord, Cond.instanceMethod yX2_takeWord, Cond.selects RX2 yX2_takeWord yX2_takeWord, Cond.initialized RX2, Cond.code yX2_takeWord cX2_takeWord 3 (some .long), Cond.fieldLink RX2 9 "DrawStreams$Drawer" "block" "LDrawStreams$Block;", Cond.fieldLink RX2 19 "DrawStreams$Drawer" "keyBits" "J", Cond.fieldLink RX2 23 "DrawStreams$Drawer" "stream" "I", Cond.fieldLink RX2 26 "DrawStreams$Drawer" "place" "J", Cond.constantLong RX2 35 (3), Cond.methodLink RX2 29 yX0_make, Cond.instanceMethod yX0_make, Cond.selects RX0 yX0_make yX0_make, Cond.initialized RX0, Cond.code yX0_make cX0_make 16 none, Cond.fieldLink RX0 9 "DrawStreams$Block" "madeSort" "I", Cond.fieldLink RX0 15 "DrawStreams$Block" "madeNumber" "J"]
def wsX1_less_r2 : List Cond := [Cond.fieldLink RX0 19 "DrawStreams$Block" "madeStream" "I", Cond.fieldLink RX0 22 "DrawStreams$Block" "madeKey" "J", Cond.constantLong RX0 25 (4294967295), Cond.fieldLink RX0 27 "DrawStreams$Block" "x0" "J", Cond.fieldLink RX0 30 "DrawStreams$Block" "x1" "J", Cond.fieldLink RX0 33 "DrawStreams$Block" "x2" "J", Cond.fieldLink RX0 36 "DrawStreams$Block" "x3" "J", Cond.constantLong RX0 39 (3528531795), Cond.constantLong RX0 41 (3449720151), Cond.constantLong RX0 43 (2654435769), Cond.constantLong RX0 45 (3144134277), Cond.methodLink RX2 37 yX0_part, Cond.instanceMethod yX0_part, Cond.selects RX0 yX0_part yX0_part, Cond.code yX0_part cX0_part 2 (some .long)]
def wsX1_less : List Cond := .code yX1_less cX1_less 8 (some .boolean) :: ((wsX1_less_r1 ++ wsX1_less_r2) ++ wsX10 ++ wsX20 ++ wsX00 ++ (vx_atM "java/lang/ArrayIndexOutOfBoundsException" ["java/lang/IndexOutOfBoundsException", "java/lang/RuntimeException", "java/lang/Exception"]).filter goodWord)
def wsX2_init : List Cond := .code yX2_init cX2_init 6 none :: ([.methodLink RX2 3 objectInit, .instanceMethod objectInit, .code objectInit ⟨#[0xb1]⟩ 1 none, .fieldLink RX2 9 "DrawStreams$Drawer" "block" "LDrawStreams$Block;", .fieldLink RX2 15 "DrawStreams$Drawer" "keyNumber" "I", .fieldLink RX2 19 "DrawStreams$Drawer" "keyBits" "J", .fieldLink RX2 23 "DrawStreams$Drawer" "stream" "I"] ++ wsX20)
def wsX2_takeBits_r1 : List Cond := [Cond.methodLink RX2 41 yX2_takeWord, Cond.instanceMethod yX2_takeWord, Cond.selects RX2 yX2_takeWord yX2_takeWord, Cond.initialized RX2, Cond.code yX2_takeWord cX2_takeWord 3 (some .long), Cond.fieldLink RX2 9 "DrawStreams$Drawer" "block" "LDrawStreams$Block;", Cond.fieldLink RX2 19 "DrawStreams$Drawer" "keyBits" "J", Cond.fieldLink RX2 23 "DrawStreams$Drawer" "stream" "I", Cond.fieldLink RX2 26 "DrawStreams$Drawer" "place" "J", Cond.constantLong RX2 35 (3), Cond.methodLink RX2 29 yX0_make, Cond.instanceMethod yX0_make, Cond.selects RX0 yX0_make yX0_make, Cond.initialized RX0, Cond.code yX0_make cX0_make 16 none, Cond.fieldLink RX0 9 "DrawStreams$Block" "madeSort" "I", Cond.fieldLink RX0 15 "DrawStreams$Block" "madeNumber" "J", Cond.fieldLink RX0 19 "DrawStreams$Block" "madeStream" "I", Cond.fieldLink RX0 22 "DrawStreams$Block" "madeKey" "J", Cond.constantLong RX0 25 (4294967295), Cond.fieldLink RX0 27 "DrawStreams$Block" "x0" "J", Cond.fieldLink RX0 30 "DrawStreams$Block" "x1" "J", Cond.fieldLink RX0 33 "DrawStreams$Block" "x2" "J", Cond.fieldLink RX0 36 "DrawStreams$Block" "x3" "J"]
def wsX2_takeBits_r2 : List Cond := [Cond.constantLong RX0 39 (3528531795), Cond.constantLong RX0 41 (3449720151), Cond.constantLong RX0 43 (2654435769), Cond.constantLong RX0 45 (3144134277), Cond.methodLink RX2 37 yX0_part, Cond.instanceMethod yX0_part, Cond.selects RX0 yX0_part yX0_part, Cond.code yX0_part cX0_part 2 (some .long)]
def wsX2_takeBits : List Cond := .code yX2_takeBits cX2_takeBits 6 (some .long) :: ((wsX2_takeBits_r1 ++ wsX2_takeBits_r2) ++ wsX20 ++ wsX00)
def wsX2_takeBelow_r1 : List Cond := [Cond.constant RX2 45 (1000000), Cond.fieldLink RX2 49 "DrawStreams$Drawer" "rejected" "J", Cond.methodLink RX2 46 yX2_takeBits, Cond.instanceMethod yX2_takeBits, Cond.selects RX2 yX2_takeBits yX2_takeBits, Cond.initialized RX2, Cond.code yX2_takeBits cX2_takeBits 6 (some .long), Cond.methodLink RX2 41 yX2_takeWord, Cond.instanceMethod yX2_takeWord, Cond.selects RX2 yX2_takeWord yX2_takeWord, Cond.code yX2_takeWord cX2_takeWord 3 (some .long), Cond.fieldLink RX2 9 "DrawStreams$Drawer" "block" "LDrawStreams$Block;", Cond.fieldLink RX2 19 "DrawStreams$Drawer" "keyBits" "J", Cond.fieldLink RX2 23 "DrawStreams$Drawer" "stream" "I", Cond.fieldLink RX2 26 "DrawStreams$Drawer" "place" "J", Cond.constantLong RX2 35 (3), Cond.methodLink RX2 29 yX0_make, Cond.instanceMethod yX0_make, Cond.selects RX0 yX0_make yX0_make, Cond.initialized RX0, Cond.code yX0_make cX0_make 16 none, Cond.fieldLink RX0 9 "DrawStreams$Block" "madeSort" "I", Cond.fieldLink RX0 15 "DrawStreams$Block" "madeNumber" "J", Cond.fieldLink RX0 19 "DrawStreams$Block" "madeStream" "I"]
def wsX2_takeBelow_r2 : List Cond := [Cond.fieldLink RX0 22 "DrawStreams$Block" "madeKey" "J", Cond.constantLong RX0 25 (4294967295), Cond.fieldLink RX0 27 "DrawStreams$Block" "x0" "J", Cond.fieldLink RX0 30 "DrawStreams$Block" "x1" "J", Cond.fieldLink RX0 33 "DrawStreams$Block" "x2" "J", Cond.fieldLink RX0 36 "DrawStreams$Block" "x3" "J", Cond.constantLong RX0 39 (3528531795), Cond.constantLong RX0 41 (3449720151), Cond.constantLong RX0 43 (2654435769), Cond.constantLong RX0 45 (3144134277), Cond.methodLink RX2 37 yX0_part, Cond.instanceMethod yX0_part, Cond.selects RX0 yX0_part yX0_part, Cond.code yX0_part cX0_part 2 (some .long)]
def wsX2_takeBelow : List Cond := .code yX2_takeBelow cX2_takeBelow 7 (some .long) :: ((wsX2_takeBelow_r1 ++ wsX2_takeBelow_r2) ++ wsX20 ++ wsX00)
def wsX2_flip_r1 : List Cond := [Cond.constant RX2 45 (1000000), Cond.methodLink RX2 41 yX2_takeWord, Cond.instanceMethod yX2_takeWord, Cond.selects RX2 yX2_takeWord yX2_takeWord, Cond.initialized RX2, Cond.code yX2_takeWord cX2_takeWord 3 (some .long), Cond.fieldLink RX2 9 "DrawStreams$Drawer" "block" "LDrawStreams$Block;", Cond.fieldLink RX2 19 "DrawStreams$Drawer" "keyBits" "J", Cond.fieldLink RX2 23 "DrawStreams$Drawer" "stream" "I", Cond.fieldLink RX2 26 "DrawStreams$Drawer" "place" "J", Cond.constantLong RX2 35 (3), Cond.methodLink RX2 29 yX0_make, Cond.instanceMethod yX0_make, Cond.selects RX0 yX0_make yX0_make, Cond.initialized RX0, Cond.code yX0_make cX0_make 16 none, Cond.fieldLink RX0 9 "DrawStreams$Block" "madeSort" "I", Cond.fieldLink RX0 15 "DrawStreams$Block" "madeNumber" "J", Cond.fieldLink RX0 19 "DrawStreams$Block" "madeStream" "I", Cond.fieldLink RX0 22 "DrawStreams$Block" "madeKey" "J", Cond.constantLong RX0 25 (4294967295), Cond.fieldLink RX0 27 "DrawStreams$Block" "x0" "J", Cond.fieldLink RX0 30 "DrawStreams$Block" "x1" "J", Cond.fieldLink RX0 33 "DrawStreams$Block" "x2" "J"]
def wsX2_flip_r2 : List Cond := [Cond.fieldLink RX0 36 "DrawStreams$Block" "x3" "J", Cond.constantLong RX0 39 (3528531795), Cond.constantLong RX0 41 (3449720151), Cond.constantLong RX0 43 (2654435769), Cond.constantLong RX0 45 (3144134277), Cond.methodLink RX2 37 yX0_part, Cond.instanceMethod yX0_part, Cond.selects RX0 yX0_part yX0_part, Cond.code yX0_part cX0_part 2 (some .long)]
def wsX2_flip : List Cond := .code yX2_flip cX2_flip 12 (some .boolean) :: ((wsX2_flip_r1 ++ wsX2_flip_r2) ++ wsX20 ++ wsX00 ++ (vx_atM "java/lang/ArithmeticException" ["java/lang/RuntimeException", "java/lang/Exception"]).filter goodWord)
def wsX3_init : List Cond := .code yX3_init cX3_init 1 none :: ([.methodLink RX3 3 objectInit, .instanceMethod objectInit, .code objectInit ⟨#[0xb1]⟩ 1 none, .classLink RX3 9 RX1, .instantiable RX1 2, .initialized RX1, .fieldLink RX3 12 "DrawStreams$Normals" "x" "LDrawStreams$Deviate;", .fieldLink RX3 18 "DrawStreams$Normals" "\x72" "LDrawStreams$Deviate;", .fieldLink RX3 21 "DrawStreams$Normals" "evenLink" "LDrawStreams$Deviate;", .fieldLink RX3 24 "DrawStreams$Normals" "oddLink" "LDrawStreams$Deviate;", .fieldLink RX3 27 "DrawStreams$Normals" "a" "LDrawStreams$Deviate;", .fieldLink RX3 30 "DrawStreams$Normals" "b" "LDrawStreams$Deviate;", .instanceMethod yX1_init, .code yX1_init cX1_init 1 none, .methodLink RX1 1 objectInit, .arrayClass .long, .fieldLink RX1 9 "DrawStreams$Deviate" "digits" "[J"] ++ wsX10 ++ wsX30)
def wsX3_half_r1 : List Cond := [Cond.fieldLink RX3 27 "DrawStreams$Normals" "a" "LDrawStreams$Deviate;", Cond.constantLong RX3 55 (2147483648), Cond.constant RX3 57 (1000000), Cond.fieldLink RX3 30 "DrawStreams$Normals" "b" "LDrawStreams$Deviate;", Cond.methodLink RX3 37 yX1_renewed, Cond.instanceMethod yX1_renewed, Cond.selects RX1 yX1_renewed yX1_renewed, Cond.initialized RX1, Cond.code yX1_renewed cX1_renewed 1 (some (.object "DrawStreams$Deviate")), Cond.fieldLink RX1 13 "DrawStreams$Deviate" "known" "I", Cond.methodLink RX3 45 yX1_firstDigit, Cond.instanceMethod yX1_firstDigit, Cond.selects RX1 yX1_firstDigit yX1_firstDigit, Cond.code yX1_firstDigit cX1_firstDigit 2 (some .long), Cond.methodLink RX1 17 yX1_digit, Cond.instanceMethod yX1_digit, Cond.selects RX1 yX1_digit yX1_digit, Cond.code yX1_digit cX1_digit 3 (some .long), Cond.fieldLink RX1 9 "DrawStreams$Deviate" "digits" "[J", Cond.methodLink RX1 21 yX2_takeWord, Cond.instanceMethod yX2_takeWord, Cond.selects RX2 yX2_takeWord yX2_takeWord, Cond.initialized RX2, Cond.code yX2_takeWord cX2_takeWord 3 (some .long)]
def wsX3_half_r2 : List Cond := [Cond.fieldLink RX2 9 "DrawStreams$Drawer" "block" "LDrawStreams$Block;", Cond.fieldLink RX2 19 "DrawStreams$Drawer" "keyBits" "J", Cond.fieldLink RX2 23 "DrawStreams$Drawer" "stream" "I", Cond.fieldLink RX2 26 "DrawStreams$Drawer" "place" "J", Cond.constantLong RX2 35 (3), Cond.methodLink RX2 29 yX0_make, Cond.instanceMethod yX0_make, Cond.selects RX0 yX0_make yX0_make, Cond.initialized RX0, Cond.code yX0_make cX0_make 16 none, Cond.fieldLink RX0 9 "DrawStreams$Block" "madeSort" "I", Cond.fieldLink RX0 15 "DrawStreams$Block" "madeNumber" "J", Cond.fieldLink RX0 19 "DrawStreams$Block" "madeStream" "I", Cond.fieldLink RX0 22 "DrawStreams$Block" "madeKey" "J", Cond.constantLong RX0 25 (4294967295), Cond.fieldLink RX0 27 "DrawStreams$Block" "x0" "J", Cond.fieldLink RX0 30 "DrawStreams$Block" "x1" "J", Cond.fieldLink RX0 33 "DrawStreams$Block" "x2" "J", Cond.fieldLink RX0 36 "DrawStreams$Block" "x3" "J", Cond.constantLong RX0 39 (3528531795), Cond.constantLong RX0 41 (3449720151), Cond.constantLong RX0 43 (2654435769), Cond.constantLong RX0 45 (3144134277), Cond.methodLink RX2 37 yX0_part]
def wsX3_half_r3 : List Cond := [Cond.instanceMethod yX0_part, Cond.selects RX0 yX0_part yX0_part, Cond.code yX0_part cX0_part 2 (some .long), Cond.methodLink RX3 58 yX1_less, Cond.instanceMethod yX1_less, Cond.selects RX1 yX1_less yX1_less, Cond.code yX1_less cX1_less 8 (some .boolean)]
def wsX3_half : List Cond := .code yX3_half cX3_half 3 (some .boolean) :: ((wsX3_half_r1 ++ (wsX3_half_r2 ++ wsX3_half_r3)) ++ wsX30 ++ wsX10 ++ wsX20 ++ wsX00 ++ (vx_atM "java/lang/ArrayIndexOutOfBoundsException" ["java/lang/IndexOutOfBoundsException", "java/lang/RuntimeException", "java/lang/Exception"]).filter goodWord)
def wsX3_countHalves_r1 : List Cond := [Cond.methodLink RX3 33 yX3_half, Cond.instanceMethod yX3_half, Cond.selects RX3 yX3_half yX3_half, Cond.initialized RX3, Cond.code yX3_half cX3_half 3 (some .boolean), Cond.fieldLink RX3 27 "DrawStreams$Normals" "a" "LDrawStreams$Deviate;", Cond.constantLong RX3 55 (2147483648), Cond.constant RX3 57 (1000000), Cond.fieldLink RX3 30 "DrawStreams$Normals" "b" "LDrawStreams$Deviate;", Cond.methodLink RX3 37 yX1_renewed, Cond.instanceMethod yX1_renewed, Cond.selects RX1 yX1_renewed yX1_renewed, Cond.initialized RX1, Cond.code yX1_renewed cX1_renewed 1 (some (.object "DrawStreams$Deviate")), Cond.fieldLink RX1 13 "DrawStreams$Deviate" "known" "I", Cond.methodLink RX3 45 yX1_firstDigit, Cond.instanceMethod yX1_firstDigit, Cond.selects RX1 yX1_firstDigit yX1_firstDigit, Cond.code yX1_firstDigit cX1_firstDigit 2 (some .long), Cond.methodLink RX1 17 yX1_digit, Cond.instanceMethod yX1_digit, Cond.selects RX1 yX1_digit yX1_digit, Cond.code yX1_digit cX1_digit 3 (some .long), Cond.fieldLink RX1 9 "DrawStreams$Deviate" "digits" "[J"]
def wsX3_countHalves_r2 : List Cond := [Cond.methodLink RX1 21 yX2_takeWord, Cond.instanceMethod yX2_takeWord, Cond.selects RX2 yX2_takeWord yX2_takeWord, Cond.initialized RX2, Cond.code yX2_takeWord cX2_takeWord 3 (some .long), Cond.fieldLink RX2 9 "DrawStreams$Drawer" "block" "LDrawStreams$Block;", Cond.fieldLink RX2 19 "DrawStreams$Drawer" "keyBits" "J", Cond.fieldLink RX2 23 "DrawStreams$Drawer" "stream" "I", Cond.fieldLink RX2 26 "DrawStreams$Drawer" "place" "J", Cond.constantLong RX2 35 (3), Cond.methodLink RX2 29 yX0_make, Cond.instanceMethod yX0_make, Cond.selects RX0 yX0_make yX0_make, Cond.initialized RX0, Cond.code yX0_make cX0_make 16 none, Cond.fieldLink RX0 9 "DrawStreams$Block" "madeSort" "I", Cond.fieldLink RX0 15 "DrawStreams$Block" "madeNumber" "J", Cond.fieldLink RX0 19 "DrawStreams$Block" "madeStream" "I", Cond.fieldLink RX0 22 "DrawStreams$Block" "madeKey" "J", Cond.constantLong RX0 25 (4294967295), Cond.fieldLink RX0 27 "DrawStreams$Block" "x0" "J", Cond.fieldLink RX0 30 "DrawStreams$Block" "x1" "J", Cond.fieldLink RX0 33 "DrawStreams$Block" "x2" "J", Cond.fieldLink RX0 36 "DrawStreams$Block" "x3" "J"]
def wsX3_countHalves_r3 : List Cond := [Cond.constantLong RX0 39 (3528531795), Cond.constantLong RX0 41 (3449720151), Cond.constantLong RX0 43 (2654435769), Cond.constantLong RX0 45 (3144134277), Cond.methodLink RX2 37 yX0_part, Cond.instanceMethod yX0_part, Cond.selects RX0 yX0_part yX0_part, Cond.code yX0_part cX0_part 2 (some .long), Cond.methodLink RX3 58 yX1_less, Cond.instanceMethod yX1_less, Cond.selects RX1 yX1_less yX1_less, Cond.code yX1_less cX1_less 8 (some .boolean)]
def wsX3_countHalves : List Cond := .code yX3_countHalves cX3_countHalves 3 (some .int) :: ((wsX3_countHalves_r1 ++ (wsX3_countHalves_r2 ++ wsX3_countHalves_r3)) ++ wsX30 ++ wsX10 ++ wsX20 ++ wsX00 ++ (vx_atM "java/lang/ArrayIndexOutOfBoundsException" ["java/lang/IndexOutOfBoundsException", "java/lang/RuntimeException", "java/lang/Exception"]).filter goodWord)
def wsX3_allHalves_r1 : List Cond := [Cond.methodLink RX3 33 yX3_half, Cond.instanceMethod yX3_half, Cond.selects RX3 yX3_half yX3_half, Cond.initialized RX3, Cond.code yX3_half cX3_half 3 (some .boolean), Cond.fieldLink RX3 27 "DrawStreams$Normals" "a" "LDrawStreams$Deviate;", Cond.constantLong RX3 55 (2147483648), Cond.constant RX3 57 (1000000), Cond.fieldLink RX3 30 "DrawStreams$Normals" "b" "LDrawStreams$Deviate;", Cond.methodLink RX3 37 yX1_renewed, Cond.instanceMethod yX1_renewed, Cond.selects RX1 yX1_renewed yX1_renewed, Cond.initialized RX1, Cond.code yX1_renewed cX1_renewed 1 (some (.object "DrawStreams$Deviate")), Cond.fieldLink RX1 13 "DrawStreams$Deviate" "known" "I", Cond.methodLink RX3 45 yX1_firstDigit, Cond.instanceMethod yX1_firstDigit, Cond.selects RX1 yX1_firstDigit yX1_firstDigit, Cond.code yX1_firstDigit cX1_firstDigit 2 (some .long), Cond.methodLink RX1 17 yX1_digit, Cond.instanceMethod yX1_digit, Cond.selects RX1 yX1_digit yX1_digit, Cond.code yX1_digit cX1_digit 3 (some .long), Cond.fieldLink RX1 9 "DrawStreams$Deviate" "digits" "[J"]
def wsX3_allHalves_r2 : List Cond := [Cond.methodLink RX1 21 yX2_takeWord, Cond.instanceMethod yX2_takeWord, Cond.selects RX2 yX2_takeWord yX2_takeWord, Cond.initialized RX2, Cond.code yX2_takeWord cX2_takeWord 3 (some .long), Cond.fieldLink RX2 9 "DrawStreams$Drawer" "block" "LDrawStreams$Block;", Cond.fieldLink RX2 19 "DrawStreams$Drawer" "keyBits" "J", Cond.fieldLink RX2 23 "DrawStreams$Drawer" "stream" "I", Cond.fieldLink RX2 26 "DrawStreams$Drawer" "place" "J", Cond.constantLong RX2 35 (3), Cond.methodLink RX2 29 yX0_make, Cond.instanceMethod yX0_make, Cond.selects RX0 yX0_make yX0_make, Cond.initialized RX0, Cond.code yX0_make cX0_make 16 none, Cond.fieldLink RX0 9 "DrawStreams$Block" "madeSort" "I", Cond.fieldLink RX0 15 "DrawStreams$Block" "madeNumber" "J", Cond.fieldLink RX0 19 "DrawStreams$Block" "madeStream" "I", Cond.fieldLink RX0 22 "DrawStreams$Block" "madeKey" "J", Cond.constantLong RX0 25 (4294967295), Cond.fieldLink RX0 27 "DrawStreams$Block" "x0" "J", Cond.fieldLink RX0 30 "DrawStreams$Block" "x1" "J", Cond.fieldLink RX0 33 "DrawStreams$Block" "x2" "J", Cond.fieldLink RX0 36 "DrawStreams$Block" "x3" "J"]
def wsX3_allHalves_r3 : List Cond := [Cond.constantLong RX0 39 (3528531795), Cond.constantLong RX0 41 (3449720151), Cond.constantLong RX0 43 (2654435769), Cond.constantLong RX0 45 (3144134277), Cond.methodLink RX2 37 yX0_part, Cond.instanceMethod yX0_part, Cond.selects RX0 yX0_part yX0_part, Cond.code yX0_part cX0_part 2 (some .long), Cond.methodLink RX3 58 yX1_less, Cond.instanceMethod yX1_less, Cond.selects RX1 yX1_less yX1_less, Cond.code yX1_less cX1_less 8 (some .boolean)]
def wsX3_allHalves : List Cond := .code yX3_allHalves cX3_allHalves 4 (some .boolean) :: ((wsX3_allHalves_r1 ++ (wsX3_allHalves_r2 ++ wsX3_allHalves_r3)) ++ wsX30 ++ wsX10 ++ wsX20 ++ wsX00 ++ (vx_atM "java/lang/ArrayIndexOutOfBoundsException" ["java/lang/IndexOutOfBoundsException", "java/lang/RuntimeException", "java/lang/Exception"]).filter goodWord)
def wsX3_chainLength_r1 : List Cond := [Cond.fieldLink RX3 12 "DrawStreams$Normals" "x" "LDrawStreams$Deviate;", Cond.constant RX3 57 (1000000), Cond.fieldLink RX3 21 "DrawStreams$Normals" "evenLink" "LDrawStreams$Deviate;", Cond.fieldLink RX3 24 "DrawStreams$Normals" "oddLink" "LDrawStreams$Deviate;", Cond.fieldLink RX3 18 "DrawStreams$Normals" "\x72" "LDrawStreams$Deviate;", Cond.methodLink RX3 37 yX1_renewed, Cond.instanceMethod yX1_renewed, Cond.selects RX1 yX1_renewed yX1_renewed, Cond.initialized RX1, Cond.code yX1_renewed cX1_renewed 1 (some (.object "DrawStreams$Deviate")), Cond.fieldLink RX1 13 "DrawStreams$Deviate" "known" "I", Cond.methodLink RX3 58 yX1_less, Cond.instanceMethod yX1_less, Cond.selects RX1 yX1_less yX1_less, Cond.code yX1_less cX1_less 8 (some .boolean), Cond.methodLink RX1 17 yX1_digit, Cond.instanceMethod yX1_digit, Cond.selects RX1 yX1_digit yX1_digit, Cond.code yX1_digit cX1_digit 3 (some .long), Cond.fieldLink RX1 9 "DrawStreams$Deviate" "digits" "[J", Cond.methodLink RX1 21 yX2_takeWord, Cond.instanceMethod yX2_takeWord, Cond.selects RX2 yX2_takeWord yX2_takeWord, Cond.initialized RX2]
def wsX3_chainLength_r2 : List Cond := [Cond.code yX2_takeWord cX2_takeWord 3 (some .long), Cond.fieldLink RX2 9 "DrawStreams$Drawer" "block" "LDrawStreams$Block;", Cond.fieldLink RX2 19 "DrawStreams$Drawer" "keyBits" "J", Cond.fieldLink RX2 23 "DrawStreams$Drawer" "stream" "I", Cond.fieldLink RX2 26 "DrawStreams$Drawer" "place" "J", Cond.constantLong RX2 35 (3), Cond.methodLink RX2 29 yX0_make, Cond.instanceMethod yX0_make, Cond.selects RX0 yX0_make yX0_make, Cond.initialized RX0, Cond.code yX0_make cX0_make 16 none, Cond.fieldLink RX0 9 "DrawStreams$Block" "madeSort" "I", Cond.fieldLink RX0 15 "DrawStreams$Block" "madeNumber" "J", Cond.fieldLink RX0 19 "DrawStreams$Block" "madeStream" "I", Cond.fieldLink RX0 22 "DrawStreams$Block" "madeKey" "J", Cond.constantLong RX0 25 (4294967295), Cond.fieldLink RX0 27 "DrawStreams$Block" "x0" "J", Cond.fieldLink RX0 30 "DrawStreams$Block" "x1" "J", Cond.fieldLink RX0 33 "DrawStreams$Block" "x2" "J", Cond.fieldLink RX0 36 "DrawStreams$Block" "x3" "J", Cond.constantLong RX0 39 (3528531795), Cond.constantLong RX0 41 (3449720151), Cond.constantLong RX0 43 (2654435769), Cond.constantLong RX0 45 (3144134277)]
def wsX3_chainLength_r3 : List Cond := [Cond.methodLink RX2 37 yX0_part, Cond.instanceMethod yX0_part, Cond.selects RX0 yX0_part yX0_part, Cond.code yX0_part cX0_part 2 (some .long), Cond.methodLink RX3 62 yX2_takeBelow, Cond.instanceMethod yX2_takeBelow, Cond.selects RX2 yX2_takeBelow yX2_takeBelow, Cond.code yX2_takeBelow cX2_takeBelow 7 (some .long), Cond.constant RX2 45 (1000000), Cond.fieldLink RX2 49 "DrawStreams$Drawer" "rejected" "J", Cond.methodLink RX2 46 yX2_takeBits, Cond.instanceMethod yX2_takeBits, Cond.selects RX2 yX2_takeBits yX2_takeBits, Cond.code yX2_takeBits cX2_takeBits 6 (some .long), Cond.methodLink RX2 41 yX2_takeWord]
def wsX3_chainLength : List Cond := .code yX3_chainLength cX3_chainLength 8 (some .int) :: ((wsX3_chainLength_r1 ++ (wsX3_chainLength_r2 ++ wsX3_chainLength_r3)) ++ wsX30 ++ wsX10 ++ wsX20 ++ wsX00 ++ (vx_atM "java/lang/ArrayIndexOutOfBoundsException" ["java/lang/IndexOutOfBoundsException", "java/lang/RuntimeException", "java/lang/Exception"]).filter goodWord)
def wsX3_fractionFits_r1 : List Cond := [Cond.fieldLink RX3 12 "DrawStreams$Normals" "x" "LDrawStreams$Deviate;", Cond.methodLink RX3 37 yX1_renewed, Cond.instanceMethod yX1_renewed, Cond.selects RX1 yX1_renewed yX1_renewed, Cond.initialized RX1, Cond.code yX1_renewed cX1_renewed 1 (some (.object "DrawStreams$Deviate")), Cond.fieldLink RX1 13 "DrawStreams$Deviate" "known" "I", Cond.methodLink RX3 41 yX3_chainLength, Cond.instanceMethod yX3_chainLength, Cond.selects RX3 yX3_chainLength yX3_chainLength, Cond.initialized RX3, Cond.code yX3_chainLength cX3_chainLength 8 (some .int), Cond.constant RX3 57 (1000000), Cond.fieldLink RX3 21 "DrawStreams$Normals" "evenLink" "LDrawStreams$Deviate;", Cond.fieldLink RX3 24 "DrawStreams$Normals" "oddLink" "LDrawStreams$Deviate;", Cond.fieldLink RX3 18 "DrawStreams$Normals" "\x72" "LDrawStreams$Deviate;", Cond.methodLink RX3 58 yX1_less, Cond.instanceMethod yX1_less, Cond.selects RX1 yX1_less yX1_less, Cond.code yX1_less cX1_less 8 (some .boolean), Cond.methodLink RX1 17 yX1_digit, Cond.instanceMethod yX1_digit, Cond.selects RX1 yX1_digit yX1_digit, Cond.code yX1_digit cX1_digit 3 (some .long)]
def wsX3_fractionFits_r2 : List Cond := [Cond.fieldLink RX1 9 "DrawStreams$Deviate" "digits" "[J", Cond.methodLink RX1 21 yX2_takeWord, Cond.instanceMethod yX2_takeWord, Cond.selects RX2 yX2_takeWord yX2_takeWord, Cond.initialized RX2, Cond.code yX2_takeWord cX2_takeWord 3 (some .long), Cond.fieldLink RX2 9 "DrawStreams$Drawer" "block" "LDrawStreams$Block;", Cond.fieldLink RX2 19 "DrawStreams$Drawer" "keyBits" "J", Cond.fieldLink RX2 23 "DrawStreams$Drawer" "stream" "I", Cond.fieldLink RX2 26 "DrawStreams$Drawer" "place" "J", Cond.constantLong RX2 35 (3), Cond.methodLink RX2 29 yX0_make, Cond.instanceMethod yX0_make, Cond.selects RX0 yX0_make yX0_make, Cond.initialized RX0, Cond.code yX0_make cX0_make 16 none, Cond.fieldLink RX0 9 "DrawStreams$Block" "madeSort" "I", Cond.fieldLink RX0 15 "DrawStreams$Block" "madeNumber" "J", Cond.fieldLink RX0 19 "DrawStreams$Block" "madeStream" "I", Cond.fieldLink RX0 22 "DrawStreams$Block" "madeKey" "J", Cond.constantLong RX0 25 (4294967295), Cond.fieldLink RX0 27 "DrawStreams$Block" "x0" "J", Cond.fieldLink RX0 30 "DrawStreams$Block" "x1" "J", Cond.fieldLink RX0 33 "DrawStreams$Block" "x2" "J"]
def wsX3_fractionFits_r3 : List Cond := [Cond.fieldLink RX0 36 "DrawStreams$Block" "x3" "J", Cond.constantLong RX0 39 (3528531795), Cond.constantLong RX0 41 (3449720151), Cond.constantLong RX0 43 (2654435769), Cond.constantLong RX0 45 (3144134277), Cond.methodLink RX2 37 yX0_part, Cond.instanceMethod yX0_part, Cond.selects RX0 yX0_part yX0_part, Cond.code yX0_part cX0_part 2 (some .long), Cond.methodLink RX3 62 yX2_takeBelow, Cond.instanceMethod yX2_takeBelow, Cond.selects RX2 yX2_takeBelow yX2_takeBelow, Cond.code yX2_takeBelow cX2_takeBelow 7 (some .long), Cond.constant RX2 45 (1000000), Cond.fieldLink RX2 49 "DrawStreams$Drawer" "rejected" "J", Cond.methodLink RX2 46 yX2_takeBits, Cond.instanceMethod yX2_takeBits, Cond.selects RX2 yX2_takeBits yX2_takeBits, Cond.code yX2_takeBits cX2_takeBits 6 (some .long), Cond.methodLink RX2 41 yX2_takeWord]
def wsX3_fractionFits : List Cond := .code yX3_fractionFits cX3_fractionFits 4 (some .boolean) :: ((wsX3_fractionFits_r1 ++ (wsX3_fractionFits_r2 ++ wsX3_fractionFits_r3)) ++ wsX30 ++ wsX10 ++ wsX20 ++ wsX00 ++ (vx_atM "java/lang/ArrayIndexOutOfBoundsException" ["java/lang/IndexOutOfBoundsException", "java/lang/RuntimeException", "java/lang/Exception"]).filter goodWord)
def wsX3_signed_r1 : List Cond := [Cond.fieldLink RX3 12 "DrawStreams$Normals" "x" "LDrawStreams$Deviate;", Cond.methodLink RX3 45 yX1_firstDigit, Cond.instanceMethod yX1_firstDigit, Cond.selects RX1 yX1_firstDigit yX1_firstDigit, Cond.initialized RX1, Cond.code yX1_firstDigit cX1_firstDigit 2 (some .long), Cond.methodLink RX1 17 yX1_digit, Cond.instanceMethod yX1_digit, Cond.selects RX1 yX1_digit yX1_digit, Cond.code yX1_digit cX1_digit 3 (some .long), Cond.fieldLink RX1 13 "DrawStreams$Deviate" "known" "I", Cond.fieldLink RX1 9 "DrawStreams$Deviate" "digits" "[J", Cond.methodLink RX1 21 yX2_takeWord, Cond.instanceMethod yX2_takeWord, Cond.selects RX2 yX2_takeWord yX2_takeWord, Cond.initialized RX2, Cond.code yX2_takeWord cX2_takeWord 3 (some .long), Cond.fieldLink RX2 9 "DrawStreams$Drawer" "block" "LDrawStreams$Block;", Cond.fieldLink RX2 19 "DrawStreams$Drawer" "keyBits" "J", Cond.fieldLink RX2 23 "DrawStreams$Drawer" "stream" "I", Cond.fieldLink RX2 26 "DrawStreams$Drawer" "place" "J", Cond.constantLong RX2 35 (3), Cond.methodLink RX2 29 yX0_make, Cond.instanceMethod yX0_make]
def wsX3_signed_r2 : List Cond := [Cond.selects RX0 yX0_make yX0_make, Cond.initialized RX0, Cond.code yX0_make cX0_make 16 none, Cond.fieldLink RX0 9 "DrawStreams$Block" "madeSort" "I", Cond.fieldLink RX0 15 "DrawStreams$Block" "madeNumber" "J", Cond.fieldLink RX0 19 "DrawStreams$Block" "madeStream" "I", Cond.fieldLink RX0 22 "DrawStreams$Block" "madeKey" "J", Cond.constantLong RX0 25 (4294967295), Cond.fieldLink RX0 27 "DrawStreams$Block" "x0" "J", Cond.fieldLink RX0 30 "DrawStreams$Block" "x1" "J", Cond.fieldLink RX0 33 "DrawStreams$Block" "x2" "J", Cond.fieldLink RX0 36 "DrawStreams$Block" "x3" "J", Cond.constantLong RX0 39 (3528531795), Cond.constantLong RX0 41 (3449720151), Cond.constantLong RX0 43 (2654435769), Cond.constantLong RX0 45 (3144134277), Cond.methodLink RX2 37 yX0_part, Cond.instanceMethod yX0_part, Cond.selects RX0 yX0_part yX0_part, Cond.code yX0_part cX0_part 2 (some .long), Cond.methodLink RX3 49 yX2_takeBits, Cond.instanceMethod yX2_takeBits, Cond.selects RX2 yX2_takeBits yX2_takeBits, Cond.code yX2_takeBits cX2_takeBits 6 (some .long)]
def wsX3_signed_r3 : List Cond := [Cond.methodLink RX2 41 yX2_takeWord]
def wsX3_signed : List Cond := .code yX3_signed cX3_signed 5 (some .long) :: ((wsX3_signed_r1 ++ (wsX3_signed_r2 ++ wsX3_signed_r3)) ++ wsX30 ++ wsX10 ++ wsX20 ++ wsX00 ++ (vx_atM "java/lang/ArrayIndexOutOfBoundsException" ["java/lang/IndexOutOfBoundsException", "java/lang/RuntimeException", "java/lang/Exception"]).filter goodWord)
def wsX4_init_r1 : List Cond := [Cond.methodLink RX4 1 objectInit, Cond.instanceMethod objectInit, Cond.code objectInit ⟨#[0xb1]⟩ 1 none, Cond.classLink RX4 7 RX0, Cond.instantiable RX0 8, Cond.initialized RX0, Cond.fieldLink RX4 10 "DrawStreams" "block" "LDrawStreams$Block;", Cond.classLink RX4 16 RX3, Cond.instantiable RX3 6, Cond.initialized RX3, Cond.fieldLink RX4 19 "DrawStreams" "normals" "LDrawStreams$Normals;", Cond.arrayClass .long, Cond.fieldLink RX4 23 "DrawStreams" "keys" "[J", Cond.classLink RX4 27 RX2, Cond.fieldLink RX4 29 "DrawStreams" "drawers" "[LDrawStreams$Drawer;", Cond.arrayClass .int, Cond.fieldLink RX4 33 "DrawStreams" "row" "[I", Cond.fieldLink RX4 37 "DrawStreams" "weights" "[J", Cond.instanceMethod yX0_init, Cond.code yX0_init cX0_init 1 none, Cond.methodLink RX0 3 objectInit, Cond.fieldLink RX0 9 "DrawStreams$Block" "madeSort" "I", Cond.instanceMethod yX3_init, Cond.code yX3_init cX3_init 1 none]
def wsX4_init_r2 : List Cond := [Cond.methodLink RX3 3 objectInit, Cond.classLink RX3 9 RX1, Cond.instantiable RX1 2, Cond.initialized RX1, Cond.fieldLink RX3 12 "DrawStreams$Normals" "x" "LDrawStreams$Deviate;", Cond.fieldLink RX3 18 "DrawStreams$Normals" "\x72" "LDrawStreams$Deviate;", Cond.fieldLink RX3 21 "DrawStreams$Normals" "evenLink" "LDrawStreams$Deviate;", Cond.fieldLink RX3 24 "DrawStreams$Normals" "oddLink" "LDrawStreams$Deviate;", Cond.fieldLink RX3 27 "DrawStreams$Normals" "a" "LDrawStreams$Deviate;", Cond.fieldLink RX3 30 "DrawStreams$Normals" "b" "LDrawStreams$Deviate;", Cond.instanceMethod yX1_init, Cond.code yX1_init cX1_init 1 none, Cond.methodLink RX1 1 objectInit, Cond.fieldLink RX1 9 "DrawStreams$Deviate" "digits" "[J"]
def wsX4_init : List Cond := .code yX4_init cX4_init 1 none :: ((wsX4_init_r1 ++ wsX4_init_r2) ++ wsX00 ++ wsX40 ++ wsX30 ++ wsX10)
def wsX4_key : List Cond := .code yX4_key cX4_key 3 (some .int) :: ([.fieldLink RX4 40 "DrawStreams" "keyCount" "I", .fieldLink RX4 23 "DrawStreams" "keys" "[J"] ++ wsX40 ++ (vx_atM "java/lang/ArrayIndexOutOfBoundsException" ["java/lang/IndexOutOfBoundsException", "java/lang/RuntimeException", "java/lang/Exception"]).filter goodWord)
def wsX4_isKey : List Cond := .code yX4_isKey cX4_isKey 2 (some .boolean) :: ([.fieldLink RX4 40 "DrawStreams" "keyCount" "I"] ++ wsX40)
def wsX4_split_r1 : List Cond := [Cond.fieldLink RX4 40 "DrawStreams" "keyCount" "I", Cond.fieldLink RX4 10 "DrawStreams" "block" "LDrawStreams$Block;", Cond.fieldLink RX4 23 "DrawStreams" "keys" "[J", Cond.methodLink RX4 44 yX4_isKey, Cond.instanceMethod yX4_isKey, Cond.selects RX4 yX4_isKey yX4_isKey, Cond.initialized RX4, Cond.code yX4_isKey cX4_isKey 2 (some .boolean), Cond.methodLink RX4 48 yX0_make, Cond.instanceMethod yX0_make, Cond.selects RX0 yX0_make yX0_make, Cond.initialized RX0, Cond.code yX0_make cX0_make 16 none, Cond.fieldLink RX0 9 "DrawStreams$Block" "madeSort" "I", Cond.fieldLink RX0 15 "DrawStreams$Block" "madeNumber" "J", Cond.fieldLink RX0 19 "DrawStreams$Block" "madeStream" "I", Cond.fieldLink RX0 22 "DrawStreams$Block" "madeKey" "J", Cond.constantLong RX0 25 (4294967295), Cond.fieldLink RX0 27 "DrawStreams$Block" "x0" "J", Cond.fieldLink RX0 30 "DrawStreams$Block" "x1" "J", Cond.fieldLink RX0 33 "DrawStreams$Block" "x2" "J", Cond.fieldLink RX0 36 "DrawStreams$Block" "x3" "J", Cond.constantLong RX0 39 (3528531795), Cond.constantLong RX0 41 (3449720151)]
def wsX4_split_r2 : List Cond := [Cond.constantLong RX0 43 (2654435769), Cond.constantLong RX0 45 (3144134277), Cond.methodLink RX4 52 yX0_part, Cond.instanceMethod yX0_part, Cond.selects RX0 yX0_part yX0_part, Cond.code yX0_part cX0_part 2 (some .long)]
def wsX4_split : List Cond := .code yX4_split cX4_split 3 (some .int) :: ((wsX4_split_r1 ++ wsX4_split_r2) ++ wsX40 ++ wsX00 ++ (vx_atM "java/lang/ArrayIndexOutOfBoundsException" ["java/lang/IndexOutOfBoundsException", "java/lang/RuntimeException", "java/lang/Exception"]).filter goodWord)
def wsX4_bitsOf : List Cond := .code yX4_bitsOf cX4_bitsOf 2 (some .long) :: ([.fieldLink RX4 23 "DrawStreams" "keys" "[J", .constantLong RX4 56 (-1), .methodLink RX4 44 yX4_isKey, .instanceMethod yX4_isKey, .selects RX4 yX4_isKey yX4_isKey, .initialized RX4, .code yX4_isKey cX4_isKey 2 (some .boolean), .fieldLink RX4 40 "DrawStreams" "keyCount" "I"] ++ wsX40 ++ (vx_atM "java/lang/ArrayIndexOutOfBoundsException" ["java/lang/IndexOutOfBoundsException", "java/lang/RuntimeException", "java/lang/Exception"]).filter goodWord)
def wsX4_word_r1 : List Cond := [Cond.constantLong RX4 56 (-1), Cond.fieldLink RX4 10 "DrawStreams" "block" "LDrawStreams$Block;", Cond.fieldLink RX4 23 "DrawStreams" "keys" "[J", Cond.constantLong RX4 58 (3), Cond.methodLink RX4 44 yX4_isKey, Cond.instanceMethod yX4_isKey, Cond.selects RX4 yX4_isKey yX4_isKey, Cond.initialized RX4, Cond.code yX4_isKey cX4_isKey 2 (some .boolean), Cond.fieldLink RX4 40 "DrawStreams" "keyCount" "I", Cond.methodLink RX4 48 yX0_make, Cond.instanceMethod yX0_make, Cond.selects RX0 yX0_make yX0_make, Cond.initialized RX0, Cond.code yX0_make cX0_make 16 none, Cond.fieldLink RX0 9 "DrawStreams$Block" "madeSort" "I", Cond.fieldLink RX0 15 "DrawStreams$Block" "madeNumber" "J", Cond.fieldLink RX0 19 "DrawStreams$Block" "madeStream" "I", Cond.fieldLink RX0 22 "DrawStreams$Block" "madeKey" "J", Cond.constantLong RX0 25 (4294967295), Cond.fieldLink RX0 27 "DrawStreams$Block" "x0" "J", Cond.fieldLink RX0 30 "DrawStreams$Block" "x1" "J", Cond.fieldLink RX0 33 "DrawStreams$Block" "x2" "J", Cond.fieldLink RX0 36 "DrawStreams$Block" "x3" "J"]
def wsX4_word_r2 : List Cond := [Cond.constantLong RX0 39 (3528531795), Cond.constantLong RX0 41 (3449720151), Cond.constantLong RX0 43 (2654435769), Cond.constantLong RX0 45 (3144134277), Cond.methodLink RX4 52 yX0_part, Cond.instanceMethod yX0_part, Cond.selects RX0 yX0_part yX0_part, Cond.code yX0_part cX0_part 2 (some .long)]
def wsX4_word : List Cond := .code yX4_word cX4_word 5 (some .long) :: ((wsX4_word_r1 ++ wsX4_word_r2) ++ wsX40 ++ wsX00 ++ (vx_atM "java/lang/ArrayIndexOutOfBoundsException" ["java/lang/IndexOutOfBoundsException", "java/lang/RuntimeException", "java/lang/Exception"]).filter goodWord)
def wsX4_drawer : List Cond := .code yX4_drawer cX4_drawer 3 (some .int) :: ([.fieldLink RX4 60 "DrawStreams" "drawerCount" "I", .fieldLink RX4 29 "DrawStreams" "drawers" "[LDrawStreams$Drawer;", .classLink RX4 27 RX2, .instantiable RX2 6, .initialized RX2, .fieldLink RX4 10 "DrawStreams" "block" "LDrawStreams$Block;", .fieldLink RX4 23 "DrawStreams" "keys" "[J", .methodLink RX4 44 yX4_isKey, .instanceMethod yX4_isKey, .selects RX4 yX4_isKey yX4_isKey, .initialized RX4, .code yX4_isKey cX4_isKey 2 (some .boolean), .fieldLink RX4 40 "DrawStreams" "keyCount" "I", .methodLink RX4 63 yX2_init, .instanceMethod yX2_init, .code yX2_init cX2_init 6 none, .methodLink RX2 3 objectInit, .instanceMethod objectInit, .code objectInit ⟨#[0xb1]⟩ 1 none, .fieldLink RX2 9 "DrawStreams$Drawer" "block" "LDrawStreams$Block;", .fieldLink RX2 15 "DrawStreams$Drawer" "keyNumber" "I", .fieldLink RX2 19 "DrawStreams$Drawer" "keyBits" "J", .fieldLink RX2 23 "DrawStreams$Drawer" "stream" "I"] ++ wsX40 ++ wsX20 ++ (vx_atM "java/lang/ArrayIndexOutOfBoundsException" ["java/lang/IndexOutOfBoundsException", "java/lang/RuntimeException", "java/lang/Exception"]).filter goodWord)
def wsX4_drawerOf : List Cond := .code yX4_drawerOf cX4_drawerOf 2 (some (.object "DrawStreams$Drawer")) :: ([.fieldLink RX4 60 "DrawStreams" "drawerCount" "I", .fieldLink RX4 29 "DrawStreams" "drawers" "[LDrawStreams$Drawer;"] ++ wsX40)
def wsX4_place : List Cond := .code yX4_place cX4_place 5 (some .int) :: ([.constantLong RX4 70 (2305843009213693952), .fieldLink RX4 72 "DrawStreams$Drawer" "place" "J", .methodLink RX4 66 yX4_drawerOf, .instanceMethod yX4_drawerOf, .selects RX4 yX4_drawerOf yX4_drawerOf, .initialized RX4, .code yX4_drawerOf cX4_drawerOf 2 (some (.object "DrawStreams$Drawer")), .fieldLink RX4 60 "DrawStreams" "drawerCount" "I", .fieldLink RX4 29 "DrawStreams" "drawers" "[LDrawStreams$Drawer;"] ++ wsX20 ++ wsX40)
def wsX4_told : List Cond := .code yX4_told cX4_told 4 (some .long) :: ([.constantLong RX4 56 (-1), .fieldLink RX4 72 "DrawStreams$Drawer" "place" "J", .fieldLink RX4 76 "DrawStreams$Drawer" "rejected" "J", .fieldLink RX4 79 "DrawStreams$Drawer" "keyNumber" "I", .fieldLink RX4 82 "DrawStreams$Drawer" "stream" "I", .methodLink RX4 66 yX4_drawerOf, .instanceMethod yX4_drawerOf, .selects RX4 yX4_drawerOf yX4_drawerOf, .initialized RX4, .code yX4_drawerOf cX4_drawerOf 2 (some (.object "DrawStreams$Drawer")), .fieldLink RX4 60 "DrawStreams" "drawerCount" "I", .fieldLink RX4 29 "DrawStreams" "drawers" "[LDrawStreams$Drawer;"] ++ wsX20 ++ wsX40)
def wsX4_same : List Cond := .code yX4_same cX4_same 5 (some .boolean) :: ([.fieldLink RX4 85 "DrawStreams$Drawer" "keyBits" "J", .fieldLink RX4 82 "DrawStreams$Drawer" "stream" "I", .fieldLink RX4 72 "DrawStreams$Drawer" "place" "J", .methodLink RX4 66 yX4_drawerOf, .instanceMethod yX4_drawerOf, .selects RX4 yX4_drawerOf yX4_drawerOf, .initialized RX4, .code yX4_drawerOf cX4_drawerOf 2 (some (.object "DrawStreams$Drawer")), .fieldLink RX4 60 "DrawStreams" "drawerCount" "I", .fieldLink RX4 29 "DrawStreams" "drawers" "[LDrawStreams$Drawer;"] ++ wsX20 ++ wsX40)
def wsX4_bits_r1 : List Cond := [Cond.constantLong RX4 56 (-1), Cond.methodLink RX4 66 yX4_drawerOf, Cond.instanceMethod yX4_drawerOf, Cond.selects RX4 yX4_drawerOf yX4_drawerOf, Cond.initialized RX4, Cond.code yX4_drawerOf cX4_drawerOf 2 (some (.object "DrawStreams$Drawer")), Cond.fieldLink RX4 60 "DrawStreams" "drawerCount" "I", Cond.fieldLink RX4 29 "DrawStreams" "drawers" "[LDrawStreams$Drawer;", Cond.methodLink RX4 88 yX2_takeBits, Cond.instanceMethod yX2_takeBits, Cond.selects RX2 yX2_takeBits yX2_takeBits, Cond.initialized RX2, Cond.code yX2_takeBits cX2_takeBits 6 (some .long), Cond.methodLink RX2 41 yX2_takeWord, Cond.instanceMethod yX2_takeWord, Cond.selects RX2 yX2_takeWord yX2_takeWord, Cond.code yX2_takeWord cX2_takeWord 3 (some .long), Cond.fieldLink RX2 9 "DrawStreams$Drawer" "block" "LDrawStreams$Block;", Cond.fieldLink RX2 19 "DrawStreams$Drawer" "keyBits" "J", Cond.fieldLink RX2 23 "DrawStreams$Drawer" "stream" "I", Cond.fieldLink RX2 26 "DrawStreams$Drawer" "place" "J", Cond.constantLong RX2 35 (3), Cond.methodLink RX2 29 yX0_make, Cond.instanceMethod yX0_make]
def wsX4_bits_r2 : List Cond := [Cond.selects RX0 yX0_make yX0_make, Cond.initialized RX0, Cond.code yX0_make cX0_make 16 none, Cond.fieldLink RX0 9 "DrawStreams$Block" "madeSort" "I", Cond.fieldLink RX0 15 "DrawStreams$Block" "madeNumber" "J", Cond.fieldLink RX0 19 "DrawStreams$Block" "madeStream" "I", Cond.fieldLink RX0 22 "DrawStreams$Block" "madeKey" "J", Cond.constantLong RX0 25 (4294967295), Cond.fieldLink RX0 27 "DrawStreams$Block" "x0" "J", Cond.fieldLink RX0 30 "DrawStreams$Block" "x1" "J", Cond.fieldLink RX0 33 "DrawStreams$Block" "x2" "J", Cond.fieldLink RX0 36 "DrawStreams$Block" "x3" "J", Cond.constantLong RX0 39 (3528531795), Cond.constantLong RX0 41 (3449720151), Cond.constantLong RX0 43 (2654435769), Cond.constantLong RX0 45 (3144134277), Cond.methodLink RX2 37 yX0_part, Cond.instanceMethod yX0_part, Cond.selects RX0 yX0_part yX0_part, Cond.code yX0_part cX0_part 2 (some .long)]
def wsX4_bits : List Cond := .code yX4_bits cX4_bits 4 (some .long) :: ((wsX4_bits_r1 ++ wsX4_bits_r2) ++ wsX40 ++ wsX20 ++ wsX00)
def wsX4_below_r1 : List Cond := [Cond.classLink RX4 91 "java/lang/ArithmeticException", Cond.initialized "java/lang/ArithmeticException", Cond.constantLong RX4 56 (-1), Cond.methodLink RX4 66 yX4_drawerOf, Cond.instanceMethod yX4_drawerOf, Cond.selects RX4 yX4_drawerOf yX4_drawerOf, Cond.initialized RX4, Cond.code yX4_drawerOf cX4_drawerOf 2 (some (.object "DrawStreams$Drawer")), Cond.fieldLink RX4 60 "DrawStreams" "drawerCount" "I", Cond.fieldLink RX4 29 "DrawStreams" "drawers" "[LDrawStreams$Drawer;", Cond.methodLink RX4 98 yX2_takeBelow, Cond.instanceMethod yX2_takeBelow, Cond.selects RX2 yX2_takeBelow yX2_takeBelow, Cond.initialized RX2, Cond.code yX2_takeBelow cX2_takeBelow 7 (some .long), Cond.constant RX2 45 (1000000), Cond.fieldLink RX2 49 "DrawStreams$Drawer" "rejected" "J", Cond.methodLink RX2 46 yX2_takeBits, Cond.instanceMethod yX2_takeBits, Cond.selects RX2 yX2_takeBits yX2_takeBits, Cond.code yX2_takeBits cX2_takeBits 6 (some .long), Cond.methodLink RX2 41 yX2_takeWord, Cond.instanceMethod yX2_takeWord, Cond.selects RX2 yX2_takeWord yX2_takeWord]
def wsX4_below_r2 : List Cond := [Cond.code yX2_takeWord cX2_takeWord 3 (some .long), Cond.fieldLink RX2 9 "DrawStreams$Drawer" "block" "LDrawStreams$Block;", Cond.fieldLink RX2 19 "DrawStreams$Drawer" "keyBits" "J", Cond.fieldLink RX2 23 "DrawStreams$Drawer" "stream" "I", Cond.fieldLink RX2 26 "DrawStreams$Drawer" "place" "J", Cond.constantLong RX2 35 (3), Cond.methodLink RX2 29 yX0_make, Cond.instanceMethod yX0_make, Cond.selects RX0 yX0_make yX0_make, Cond.initialized RX0, Cond.code yX0_make cX0_make 16 none, Cond.fieldLink RX0 9 "DrawStreams$Block" "madeSort" "I", Cond.fieldLink RX0 15 "DrawStreams$Block" "madeNumber" "J", Cond.fieldLink RX0 19 "DrawStreams$Block" "madeStream" "I", Cond.fieldLink RX0 22 "DrawStreams$Block" "madeKey" "J", Cond.constantLong RX0 25 (4294967295), Cond.fieldLink RX0 27 "DrawStreams$Block" "x0" "J", Cond.fieldLink RX0 30 "DrawStreams$Block" "x1" "J", Cond.fieldLink RX0 33 "DrawStreams$Block" "x2" "J", Cond.fieldLink RX0 36 "DrawStreams$Block" "x3" "J", Cond.constantLong RX0 39 (3528531795), Cond.constantLong RX0 41 (3449720151), Cond.constantLong RX0 43 (2654435769), Cond.constantLong RX0 45 (3144134277)]
def wsX4_below_r3 : List Cond := [Cond.methodLink RX2 37 yX0_part, Cond.instanceMethod yX0_part, Cond.selects RX0 yX0_part yX0_part, Cond.code yX0_part cX0_part 2 (some .long)]
def wsX4_below : List Cond := .code yX4_below cX4_below 5 (some .long) :: ((wsX4_below_r1 ++ (wsX4_below_r2 ++ wsX4_below_r3)) ++ wsX40 ++ wsX20 ++ wsX00 ++ (vx_atS RX4 95 "java/lang/ArithmeticException" ["java/lang/RuntimeException", "java/lang/Exception"]).filter goodWord)
def wsX4_real_r1 : List Cond := [Cond.constantDouble RX4 102 (13830554455654793216), Cond.constantDouble RX4 104 (4845873199050653696), Cond.methodLink RX4 66 yX4_drawerOf, Cond.instanceMethod yX4_drawerOf, Cond.selects RX4 yX4_drawerOf yX4_drawerOf, Cond.initialized RX4, Cond.code yX4_drawerOf cX4_drawerOf 2 (some (.object "DrawStreams$Drawer")), Cond.fieldLink RX4 60 "DrawStreams" "drawerCount" "I", Cond.fieldLink RX4 29 "DrawStreams" "drawers" "[LDrawStreams$Drawer;", Cond.methodLink RX4 88 yX2_takeBits, Cond.instanceMethod yX2_takeBits, Cond.selects RX2 yX2_takeBits yX2_takeBits, Cond.initialized RX2, Cond.code yX2_takeBits cX2_takeBits 6 (some .long), Cond.methodLink RX2 41 yX2_takeWord, Cond.instanceMethod yX2_takeWord, Cond.selects RX2 yX2_takeWord yX2_takeWord, Cond.code yX2_takeWord cX2_takeWord 3 (some .long), Cond.fieldLink RX2 9 "DrawStreams$Drawer" "block" "LDrawStreams$Block;", Cond.fieldLink RX2 19 "DrawStreams$Drawer" "keyBits" "J", Cond.fieldLink RX2 23 "DrawStreams$Drawer" "stream" "I", Cond.fieldLink RX2 26 "DrawStreams$Drawer" "place" "J", Cond.constantLong RX2 35 (3), Cond.methodLink RX2 29 yX0_make]
def wsX4_real_r2 : List Cond := [Cond.instanceMethod yX0_make, Cond.selects RX0 yX0_make yX0_make, Cond.initialized RX0, Cond.code yX0_make cX0_make 16 none, Cond.fieldLink RX0 9 "DrawStreams$Block" "madeSort" "I", Cond.fieldLink RX0 15 "DrawStreams$Block" "madeNumber" "J", Cond.fieldLink RX0 19 "DrawStreams$Block" "madeStream" "I", Cond.fieldLink RX0 22 "DrawStreams$Block" "madeKey" "J", Cond.constantLong RX0 25 (4294967295), Cond.fieldLink RX0 27 "DrawStreams$Block" "x0" "J", Cond.fieldLink RX0 30 "DrawStreams$Block" "x1" "J", Cond.fieldLink RX0 33 "DrawStreams$Block" "x2" "J", Cond.fieldLink RX0 36 "DrawStreams$Block" "x3" "J", Cond.constantLong RX0 39 (3528531795), Cond.constantLong RX0 41 (3449720151), Cond.constantLong RX0 43 (2654435769), Cond.constantLong RX0 45 (3144134277), Cond.methodLink RX2 37 yX0_part, Cond.instanceMethod yX0_part, Cond.selects RX0 yX0_part yX0_part, Cond.code yX0_part cX0_part 2 (some .long)]
def wsX4_real : List Cond := .code yX4_real cX4_real 3 (some .double) :: ((wsX4_real_r1 ++ wsX4_real_r2) ++ wsX40 ++ wsX20 ++ wsX00)
def wsX4_single_r1 : List Cond := [Cond.constantFloat RX4 106 (3212836864), Cond.constantFloat RX4 107 (1266679808), Cond.methodLink RX4 66 yX4_drawerOf, Cond.instanceMethod yX4_drawerOf, Cond.selects RX4 yX4_drawerOf yX4_drawerOf, Cond.initialized RX4, Cond.code yX4_drawerOf cX4_drawerOf 2 (some (.object "DrawStreams$Drawer")), Cond.fieldLink RX4 60 "DrawStreams" "drawerCount" "I", Cond.fieldLink RX4 29 "DrawStreams" "drawers" "[LDrawStreams$Drawer;", Cond.methodLink RX4 88 yX2_takeBits, Cond.instanceMethod yX2_takeBits, Cond.selects RX2 yX2_takeBits yX2_takeBits, Cond.initialized RX2, Cond.code yX2_takeBits cX2_takeBits 6 (some .long), Cond.methodLink RX2 41 yX2_takeWord, Cond.instanceMethod yX2_takeWord, Cond.selects RX2 yX2_takeWord yX2_takeWord, Cond.code yX2_takeWord cX2_takeWord 3 (some .long), Cond.fieldLink RX2 9 "DrawStreams$Drawer" "block" "LDrawStreams$Block;", Cond.fieldLink RX2 19 "DrawStreams$Drawer" "keyBits" "J", Cond.fieldLink RX2 23 "DrawStreams$Drawer" "stream" "I", Cond.fieldLink RX2 26 "DrawStreams$Drawer" "place" "J", Cond.constantLong RX2 35 (3), Cond.methodLink RX2 29 yX0_make]
def wsX4_single_r2 : List Cond := [Cond.instanceMethod yX0_make, Cond.selects RX0 yX0_make yX0_make, Cond.initialized RX0, Cond.code yX0_make cX0_make 16 none, Cond.fieldLink RX0 9 "DrawStreams$Block" "madeSort" "I", Cond.fieldLink RX0 15 "DrawStreams$Block" "madeNumber" "J", Cond.fieldLink RX0 19 "DrawStreams$Block" "madeStream" "I", Cond.fieldLink RX0 22 "DrawStreams$Block" "madeKey" "J", Cond.constantLong RX0 25 (4294967295), Cond.fieldLink RX0 27 "DrawStreams$Block" "x0" "J", Cond.fieldLink RX0 30 "DrawStreams$Block" "x1" "J", Cond.fieldLink RX0 33 "DrawStreams$Block" "x2" "J", Cond.fieldLink RX0 36 "DrawStreams$Block" "x3" "J", Cond.constantLong RX0 39 (3528531795), Cond.constantLong RX0 41 (3449720151), Cond.constantLong RX0 43 (2654435769), Cond.constantLong RX0 45 (3144134277), Cond.methodLink RX2 37 yX0_part, Cond.instanceMethod yX0_part, Cond.selects RX0 yX0_part yX0_part, Cond.code yX0_part cX0_part 2 (some .long)]
def wsX4_single : List Cond := .code yX4_single cX4_single 3 (some .float) :: ((wsX4_single_r1 ++ wsX4_single_r2) ++ wsX40 ++ wsX20 ++ wsX00)
def wsX4_isChance : List Cond := .code yX4_isChance cX4_isChance 2 (some .boolean) :: ([])
def wsX4_coin_r1 : List Cond := [Cond.methodLink RX4 66 yX4_drawerOf, Cond.instanceMethod yX4_drawerOf, Cond.selects RX4 yX4_drawerOf yX4_drawerOf, Cond.initialized RX4, Cond.code yX4_drawerOf cX4_drawerOf 2 (some (.object "DrawStreams$Drawer")), Cond.fieldLink RX4 60 "DrawStreams" "drawerCount" "I", Cond.fieldLink RX4 29 "DrawStreams" "drawers" "[LDrawStreams$Drawer;", Cond.methodLink RX4 108 yX4_isChance, Cond.static yX4_isChance, Cond.code yX4_isChance cX4_isChance 2 (some .boolean), Cond.methodLink RX4 112 yX2_flip, Cond.instanceMethod yX2_flip, Cond.selects RX2 yX2_flip yX2_flip, Cond.initialized RX2, Cond.code yX2_flip cX2_flip 12 (some .boolean), Cond.constant RX2 45 (1000000), Cond.methodLink RX2 41 yX2_takeWord, Cond.instanceMethod yX2_takeWord, Cond.selects RX2 yX2_takeWord yX2_takeWord, Cond.code yX2_takeWord cX2_takeWord 3 (some .long), Cond.fieldLink RX2 9 "DrawStreams$Drawer" "block" "LDrawStreams$Block;", Cond.fieldLink RX2 19 "DrawStreams$Drawer" "keyBits" "J", Cond.fieldLink RX2 23 "DrawStreams$Drawer" "stream" "I", Cond.fieldLink RX2 26 "DrawStreams$Drawer" "place" "J"]
def wsX4_coin_r2 : List Cond := [Cond.constantLong RX2 35 (3), Cond.methodLink RX2 29 yX0_make, Cond.instanceMethod yX0_make, Cond.selects RX0 yX0_make yX0_make, Cond.initialized RX0, Cond.code yX0_make cX0_make 16 none, Cond.fieldLink RX0 9 "DrawStreams$Block" "madeSort" "I", Cond.fieldLink RX0 15 "DrawStreams$Block" "madeNumber" "J", Cond.fieldLink RX0 19 "DrawStreams$Block" "madeStream" "I", Cond.fieldLink RX0 22 "DrawStreams$Block" "madeKey" "J", Cond.constantLong RX0 25 (4294967295), Cond.fieldLink RX0 27 "DrawStreams$Block" "x0" "J", Cond.fieldLink RX0 30 "DrawStreams$Block" "x1" "J", Cond.fieldLink RX0 33 "DrawStreams$Block" "x2" "J", Cond.fieldLink RX0 36 "DrawStreams$Block" "x3" "J", Cond.constantLong RX0 39 (3528531795), Cond.constantLong RX0 41 (3449720151), Cond.constantLong RX0 43 (2654435769), Cond.constantLong RX0 45 (3144134277), Cond.methodLink RX2 37 yX0_part, Cond.instanceMethod yX0_part, Cond.selects RX0 yX0_part yX0_part, Cond.code yX0_part cX0_part 2 (some .long)]
def wsX4_coin : List Cond := .code yX4_coin cX4_coin 5 (some .int) :: ((wsX4_coin_r1 ++ wsX4_coin_r2) ++ wsX40 ++ wsX20 ++ wsX00 ++ (vx_atM "java/lang/ArithmeticException" ["java/lang/RuntimeException", "java/lang/Exception"]).filter goodWord)
def wsX4_misses_r1 : List Cond := [Cond.methodLink RX4 66 yX4_drawerOf, Cond.instanceMethod yX4_drawerOf, Cond.selects RX4 yX4_drawerOf yX4_drawerOf, Cond.initialized RX4, Cond.code yX4_drawerOf cX4_drawerOf 2 (some (.object "DrawStreams$Drawer")), Cond.fieldLink RX4 60 "DrawStreams" "drawerCount" "I", Cond.fieldLink RX4 29 "DrawStreams" "drawers" "[LDrawStreams$Drawer;", Cond.methodLink RX4 108 yX4_isChance, Cond.static yX4_isChance, Cond.code yX4_isChance cX4_isChance 2 (some .boolean), Cond.methodLink RX4 112 yX2_flip, Cond.instanceMethod yX2_flip, Cond.selects RX2 yX2_flip yX2_flip, Cond.initialized RX2, Cond.code yX2_flip cX2_flip 12 (some .boolean), Cond.constant RX2 45 (1000000), Cond.methodLink RX2 41 yX2_takeWord, Cond.instanceMethod yX2_takeWord, Cond.selects RX2 yX2_takeWord yX2_takeWord, Cond.code yX2_takeWord cX2_takeWord 3 (some .long), Cond.fieldLink RX2 9 "DrawStreams$Drawer" "block" "LDrawStreams$Block;", Cond.fieldLink RX2 19 "DrawStreams$Drawer" "keyBits" "J", Cond.fieldLink RX2 23 "DrawStreams$Drawer" "stream" "I", Cond.fieldLink RX2 26 "DrawStreams$Drawer" "place" "J"]
def wsX4_misses_r2 : List Cond := [Cond.constantLong RX2 35 (3), Cond.methodLink RX2 29 yX0_make, Cond.instanceMethod yX0_make, Cond.selects RX0 yX0_make yX0_make, Cond.initialized RX0, Cond.code yX0_make cX0_make 16 none, Cond.fieldLink RX0 9 "DrawStreams$Block" "madeSort" "I", Cond.fieldLink RX0 15 "DrawStreams$Block" "madeNumber" "J", Cond.fieldLink RX0 19 "DrawStreams$Block" "madeStream" "I", Cond.fieldLink RX0 22 "DrawStreams$Block" "madeKey" "J", Cond.constantLong RX0 25 (4294967295), Cond.fieldLink RX0 27 "DrawStreams$Block" "x0" "J", Cond.fieldLink RX0 30 "DrawStreams$Block" "x1" "J", Cond.fieldLink RX0 33 "DrawStreams$Block" "x2" "J", Cond.fieldLink RX0 36 "DrawStreams$Block" "x3" "J", Cond.constantLong RX0 39 (3528531795), Cond.constantLong RX0 41 (3449720151), Cond.constantLong RX0 43 (2654435769), Cond.constantLong RX0 45 (3144134277), Cond.methodLink RX2 37 yX0_part, Cond.instanceMethod yX0_part, Cond.selects RX0 yX0_part yX0_part, Cond.code yX0_part cX0_part 2 (some .long)]
def wsX4_misses : List Cond := .code yX4_misses cX4_misses 7 (some .int) :: ((wsX4_misses_r1 ++ wsX4_misses_r2) ++ wsX40 ++ wsX20 ++ wsX00 ++ (vx_atM "java/lang/ArithmeticException" ["java/lang/RuntimeException", "java/lang/Exception"]).filter goodWord)
def wsX4_hits_r1 : List Cond := [Cond.methodLink RX4 66 yX4_drawerOf, Cond.instanceMethod yX4_drawerOf, Cond.selects RX4 yX4_drawerOf yX4_drawerOf, Cond.initialized RX4, Cond.code yX4_drawerOf cX4_drawerOf 2 (some (.object "DrawStreams$Drawer")), Cond.fieldLink RX4 60 "DrawStreams" "drawerCount" "I", Cond.fieldLink RX4 29 "DrawStreams" "drawers" "[LDrawStreams$Drawer;", Cond.methodLink RX4 108 yX4_isChance, Cond.static yX4_isChance, Cond.code yX4_isChance cX4_isChance 2 (some .boolean), Cond.methodLink RX4 112 yX2_flip, Cond.instanceMethod yX2_flip, Cond.selects RX2 yX2_flip yX2_flip, Cond.initialized RX2, Cond.code yX2_flip cX2_flip 12 (some .boolean), Cond.constant RX2 45 (1000000), Cond.methodLink RX2 41 yX2_takeWord, Cond.instanceMethod yX2_takeWord, Cond.selects RX2 yX2_takeWord yX2_takeWord, Cond.code yX2_takeWord cX2_takeWord 3 (some .long), Cond.fieldLink RX2 9 "DrawStreams$Drawer" "block" "LDrawStreams$Block;", Cond.fieldLink RX2 19 "DrawStreams$Drawer" "keyBits" "J", Cond.fieldLink RX2 23 "DrawStreams$Drawer" "stream" "I", Cond.fieldLink RX2 26 "DrawStreams$Drawer" "place" "J"]
def wsX4_hits_r2 : List Cond := [Cond.constantLong RX2 35 (3), Cond.methodLink RX2 29 yX0_make, Cond.instanceMethod yX0_make, Cond.selects RX0 yX0_make yX0_make, Cond.initialized RX0, Cond.code yX0_make cX0_make 16 none, Cond.fieldLink RX0 9 "DrawStreams$Block" "madeSort" "I", Cond.fieldLink RX0 15 "DrawStreams$Block" "madeNumber" "J", Cond.fieldLink RX0 19 "DrawStreams$Block" "madeStream" "I", Cond.fieldLink RX0 22 "DrawStreams$Block" "madeKey" "J", Cond.constantLong RX0 25 (4294967295), Cond.fieldLink RX0 27 "DrawStreams$Block" "x0" "J", Cond.fieldLink RX0 30 "DrawStreams$Block" "x1" "J", Cond.fieldLink RX0 33 "DrawStreams$Block" "x2" "J", Cond.fieldLink RX0 36 "DrawStreams$Block" "x3" "J", Cond.constantLong RX0 39 (3528531795), Cond.constantLong RX0 41 (3449720151), Cond.constantLong RX0 43 (2654435769), Cond.constantLong RX0 45 (3144134277), Cond.methodLink RX2 37 yX0_part, Cond.instanceMethod yX0_part, Cond.selects RX0 yX0_part yX0_part, Cond.code yX0_part cX0_part 2 (some .long)]
def wsX4_hits : List Cond := .code yX4_hits cX4_hits 8 (some .int) :: ((wsX4_hits_r1 ++ wsX4_hits_r2) ++ wsX40 ++ wsX20 ++ wsX00 ++ (vx_atM "java/lang/ArithmeticException" ["java/lang/RuntimeException", "java/lang/Exception"]).filter goodWord)
def wsX4_mask_r1 : List Cond := [Cond.methodLink RX4 66 yX4_drawerOf, Cond.instanceMethod yX4_drawerOf, Cond.selects RX4 yX4_drawerOf yX4_drawerOf, Cond.initialized RX4, Cond.code yX4_drawerOf cX4_drawerOf 2 (some (.object "DrawStreams$Drawer")), Cond.fieldLink RX4 60 "DrawStreams" "drawerCount" "I", Cond.fieldLink RX4 29 "DrawStreams" "drawers" "[LDrawStreams$Drawer;", Cond.methodLink RX4 108 yX4_isChance, Cond.static yX4_isChance, Cond.code yX4_isChance cX4_isChance 2 (some .boolean), Cond.methodLink RX4 112 yX2_flip, Cond.instanceMethod yX2_flip, Cond.selects RX2 yX2_flip yX2_flip, Cond.initialized RX2, Cond.code yX2_flip cX2_flip 12 (some .boolean), Cond.constant RX2 45 (1000000), Cond.methodLink RX2 41 yX2_takeWord, Cond.instanceMethod yX2_takeWord, Cond.selects RX2 yX2_takeWord yX2_takeWord, Cond.code yX2_takeWord cX2_takeWord 3 (some .long), Cond.fieldLink RX2 9 "DrawStreams$Drawer" "block" "LDrawStreams$Block;", Cond.fieldLink RX2 19 "DrawStreams$Drawer" "keyBits" "J", Cond.fieldLink RX2 23 "DrawStreams$Drawer" "stream" "I", Cond.fieldLink RX2 26 "DrawStreams$Drawer" "place" "J"]
def wsX4_mask_r2 : List Cond := [Cond.constantLong RX2 35 (3), Cond.methodLink RX2 29 yX0_make, Cond.instanceMethod yX0_make, Cond.selects RX0 yX0_make yX0_make, Cond.initialized RX0, Cond.code yX0_make cX0_make 16 none, Cond.fieldLink RX0 9 "DrawStreams$Block" "madeSort" "I", Cond.fieldLink RX0 15 "DrawStreams$Block" "madeNumber" "J", Cond.fieldLink RX0 19 "DrawStreams$Block" "madeStream" "I", Cond.fieldLink RX0 22 "DrawStreams$Block" "madeKey" "J", Cond.constantLong RX0 25 (4294967295), Cond.fieldLink RX0 27 "DrawStreams$Block" "x0" "J", Cond.fieldLink RX0 30 "DrawStreams$Block" "x1" "J", Cond.fieldLink RX0 33 "DrawStreams$Block" "x2" "J", Cond.fieldLink RX0 36 "DrawStreams$Block" "x3" "J", Cond.constantLong RX0 39 (3528531795), Cond.constantLong RX0 41 (3449720151), Cond.constantLong RX0 43 (2654435769), Cond.constantLong RX0 45 (3144134277), Cond.methodLink RX2 37 yX0_part, Cond.instanceMethod yX0_part, Cond.selects RX0 yX0_part yX0_part, Cond.code yX0_part cX0_part 2 (some .long)]
def wsX4_mask : List Cond := .code yX4_mask cX4_mask 9 (some .long) :: ((wsX4_mask_r1 ++ wsX4_mask_r2) ++ wsX40 ++ wsX20 ++ wsX00 ++ (vx_atM "java/lang/ArithmeticException" ["java/lang/RuntimeException", "java/lang/Exception"]).filter goodWord)
def wsX4_normal_r1 : List Cond := [Cond.constant RX4 115 (1000000), Cond.fieldLink RX4 19 "DrawStreams" "normals" "LDrawStreams$Normals;", Cond.methodLink RX4 66 yX4_drawerOf, Cond.instanceMethod yX4_drawerOf, Cond.selects RX4 yX4_drawerOf yX4_drawerOf, Cond.initialized RX4, Cond.code yX4_drawerOf cX4_drawerOf 2 (some (.object "DrawStreams$Drawer")), Cond.fieldLink RX4 60 "DrawStreams" "drawerCount" "I", Cond.fieldLink RX4 29 "DrawStreams" "drawers" "[LDrawStreams$Drawer;", Cond.methodLink RX4 116 yX3_countHalves, Cond.instanceMethod yX3_countHalves, Cond.selects RX3 yX3_countHalves yX3_countHalves, Cond.initialized RX3, Cond.code yX3_countHalves cX3_countHalves 3 (some .int), Cond.methodLink RX3 33 yX3_half, Cond.instanceMethod yX3_half, Cond.selects RX3 yX3_half yX3_half, Cond.code yX3_half cX3_half 3 (some .boolean), Cond.fieldLink RX3 27 "DrawStreams$Normals" "a" "LDrawStreams$Deviate;", Cond.constantLong RX3 55 (2147483648), Cond.constant RX3 57 (1000000), Cond.fieldLink RX3 30 "DrawStreams$Normals" "b" "LDrawStreams$Deviate;", Cond.methodLink RX3 37 yX1_renewed, Cond.instanceMethod yX1_renewed]
def wsX4_normal_r2 : List Cond := [Cond.selects RX1 yX1_renewed yX1_renewed, Cond.initialized RX1, Cond.code yX1_renewed cX1_renewed 1 (some (.object "DrawStreams$Deviate")), Cond.fieldLink RX1 13 "DrawStreams$Deviate" "known" "I", Cond.methodLink RX3 45 yX1_firstDigit, Cond.instanceMethod yX1_firstDigit, Cond.selects RX1 yX1_firstDigit yX1_firstDigit, Cond.code yX1_firstDigit cX1_firstDigit 2 (some .long), Cond.methodLink RX1 17 yX1_digit, Cond.instanceMethod yX1_digit, Cond.selects RX1 yX1_digit yX1_digit, Cond.code yX1_digit cX1_digit 3 (some .long), Cond.fieldLink RX1 9 "DrawStreams$Deviate" "digits" "[J", Cond.methodLink RX1 21 yX2_takeWord, Cond.instanceMethod yX2_takeWord, Cond.selects RX2 yX2_takeWord yX2_takeWord, Cond.initialized RX2, Cond.code yX2_takeWord cX2_takeWord 3 (some .long), Cond.fieldLink RX2 9 "DrawStreams$Drawer" "block" "LDrawStreams$Block;", Cond.fieldLink RX2 19 "DrawStreams$Drawer" "keyBits" "J", Cond.fieldLink RX2 23 "DrawStreams$Drawer" "stream" "I", Cond.fieldLink RX2 26 "DrawStreams$Drawer" "place" "J", Cond.constantLong RX2 35 (3), Cond.methodLink RX2 29 yX0_make]
def wsX4_normal_r3 : List Cond := [Cond.instanceMethod yX0_make, Cond.selects RX0 yX0_make yX0_make, Cond.initialized RX0, Cond.code yX0_make cX0_make 16 none, Cond.fieldLink RX0 9 "DrawStreams$Block" "madeSort" "I", Cond.fieldLink RX0 15 "DrawStreams$Block" "madeNumber" "J", Cond.fieldLink RX0 19 "DrawStreams$Block" "madeStream" "I", Cond.fieldLink RX0 22 "DrawStreams$Block" "madeKey" "J", Cond.constantLong RX0 25 (4294967295), Cond.fieldLink RX0 27 "DrawStreams$Block" "x0" "J", Cond.fieldLink RX0 30 "DrawStreams$Block" "x1" "J", Cond.fieldLink RX0 33 "DrawStreams$Block" "x2" "J", Cond.fieldLink RX0 36 "DrawStreams$Block" "x3" "J", Cond.constantLong RX0 39 (3528531795), Cond.constantLong RX0 41 (3449720151), Cond.constantLong RX0 43 (2654435769), Cond.constantLong RX0 45 (3144134277), Cond.methodLink RX2 37 yX0_part, Cond.instanceMethod yX0_part, Cond.selects RX0 yX0_part yX0_part, Cond.code yX0_part cX0_part 2 (some .long), Cond.methodLink RX3 58 yX1_less, Cond.instanceMethod yX1_less, Cond.selects RX1 yX1_less yX1_less]
def wsX4_normal_r4 : List Cond := [Cond.code yX1_less cX1_less 8 (some .boolean), Cond.methodLink RX4 120 yX3_allHalves, Cond.instanceMethod yX3_allHalves, Cond.selects RX3 yX3_allHalves yX3_allHalves, Cond.code yX3_allHalves cX3_allHalves 4 (some .boolean), Cond.methodLink RX4 124 yX3_fractionFits, Cond.instanceMethod yX3_fractionFits, Cond.selects RX3 yX3_fractionFits yX3_fractionFits, Cond.code yX3_fractionFits cX3_fractionFits 4 (some .boolean), Cond.fieldLink RX3 12 "DrawStreams$Normals" "x" "LDrawStreams$Deviate;", Cond.methodLink RX3 41 yX3_chainLength, Cond.instanceMethod yX3_chainLength, Cond.selects RX3 yX3_chainLength yX3_chainLength, Cond.code yX3_chainLength cX3_chainLength 8 (some .int), Cond.fieldLink RX3 21 "DrawStreams$Normals" "evenLink" "LDrawStreams$Deviate;", Cond.fieldLink RX3 24 "DrawStreams$Normals" "oddLink" "LDrawStreams$Deviate;", Cond.fieldLink RX3 18 "DrawStreams$Normals" "\x72" "LDrawStreams$Deviate;", Cond.methodLink RX3 62 yX2_takeBelow, Cond.instanceMethod yX2_takeBelow, Cond.selects RX2 yX2_takeBelow yX2_takeBelow, Cond.code yX2_takeBelow cX2_takeBelow 7 (some .long), Cond.constant RX2 45 (1000000), Cond.fieldLink RX2 49 "DrawStreams$Drawer" "rejected" "J", Cond.methodLink RX2 46 yX2_takeBits]
def wsX4_normal_r5 : List Cond := [Cond.instanceMethod yX2_takeBits, Cond.selects RX2 yX2_takeBits yX2_takeBits, Cond.code yX2_takeBits cX2_takeBits 6 (some .long), Cond.methodLink RX2 41 yX2_takeWord, Cond.methodLink RX4 127 yX3_signed, Cond.instanceMethod yX3_signed, Cond.selects RX3 yX3_signed yX3_signed, Cond.code yX3_signed cX3_signed 5 (some .long), Cond.methodLink RX3 49 yX2_takeBits]
def wsX4_normal : List Cond := .code yX4_normal cX4_normal 5 (some .long) :: ((wsX4_normal_r1 ++ (wsX4_normal_r2 ++ (wsX4_normal_r3 ++ (wsX4_normal_r4 ++ wsX4_normal_r5)))) ++ wsX40 ++ wsX30 ++ wsX10 ++ wsX20 ++ wsX00 ++ (vx_atM "java/lang/ArrayIndexOutOfBoundsException" ["java/lang/IndexOutOfBoundsException", "java/lang/RuntimeException", "java/lang/Exception"]).filter goodWord)
def wsX4_changePlaces : List Cond := .code yX4_changePlaces cX4_changePlaces 4 none :: ([.fieldLink RX4 33 "DrawStreams" "row" "[I"] ++ wsX40 ++ (vx_atM "java/lang/ArrayIndexOutOfBoundsException" ["java/lang/IndexOutOfBoundsException", "java/lang/RuntimeException", "java/lang/Exception"]).filter goodWord)
def wsX4_permutation_r1 : List Cond := [Cond.fieldLink RX4 33 "DrawStreams" "row" "[I", Cond.fieldLink RX4 135 "DrawStreams" "rowSize" "I", Cond.methodLink RX4 66 yX4_drawerOf, Cond.instanceMethod yX4_drawerOf, Cond.selects RX4 yX4_drawerOf yX4_drawerOf, Cond.initialized RX4, Cond.code yX4_drawerOf cX4_drawerOf 2 (some (.object "DrawStreams$Drawer")), Cond.fieldLink RX4 60 "DrawStreams" "drawerCount" "I", Cond.fieldLink RX4 29 "DrawStreams" "drawers" "[LDrawStreams$Drawer;", Cond.methodLink RX4 98 yX2_takeBelow, Cond.instanceMethod yX2_takeBelow, Cond.selects RX2 yX2_takeBelow yX2_takeBelow, Cond.initialized RX2, Cond.code yX2_takeBelow cX2_takeBelow 7 (some .long), Cond.constant RX2 45 (1000000), Cond.fieldLink RX2 49 "DrawStreams$Drawer" "rejected" "J", Cond.methodLink RX2 46 yX2_takeBits, Cond.instanceMethod yX2_takeBits, Cond.selects RX2 yX2_takeBits yX2_takeBits, Cond.code yX2_takeBits cX2_takeBits 6 (some .long), Cond.methodLink RX2 41 yX2_takeWord, Cond.instanceMethod yX2_takeWord, Cond.selects RX2 yX2_takeWord yX2_takeWord, Cond.code yX2_takeWord cX2_takeWord 3 (some .long)]
def wsX4_permutation_r2 : List Cond := [Cond.fieldLink RX2 9 "DrawStreams$Drawer" "block" "LDrawStreams$Block;", Cond.fieldLink RX2 19 "DrawStreams$Drawer" "keyBits" "J", Cond.fieldLink RX2 23 "DrawStreams$Drawer" "stream" "I", Cond.fieldLink RX2 26 "DrawStreams$Drawer" "place" "J", Cond.constantLong RX2 35 (3), Cond.methodLink RX2 29 yX0_make, Cond.instanceMethod yX0_make, Cond.selects RX0 yX0_make yX0_make, Cond.initialized RX0, Cond.code yX0_make cX0_make 16 none, Cond.fieldLink RX0 9 "DrawStreams$Block" "madeSort" "I", Cond.fieldLink RX0 15 "DrawStreams$Block" "madeNumber" "J", Cond.fieldLink RX0 19 "DrawStreams$Block" "madeStream" "I", Cond.fieldLink RX0 22 "DrawStreams$Block" "madeKey" "J", Cond.constantLong RX0 25 (4294967295), Cond.fieldLink RX0 27 "DrawStreams$Block" "x0" "J", Cond.fieldLink RX0 30 "DrawStreams$Block" "x1" "J", Cond.fieldLink RX0 33 "DrawStreams$Block" "x2" "J", Cond.fieldLink RX0 36 "DrawStreams$Block" "x3" "J", Cond.constantLong RX0 39 (3528531795), Cond.constantLong RX0 41 (3449720151), Cond.constantLong RX0 43 (2654435769), Cond.constantLong RX0 45 (3144134277), Cond.methodLink RX2 37 yX0_part]
def wsX4_permutation_r3 : List Cond := [Cond.instanceMethod yX0_part, Cond.selects RX0 yX0_part yX0_part, Cond.code yX0_part cX0_part 2 (some .long), Cond.methodLink RX4 131 yX4_changePlaces, Cond.instanceMethod yX4_changePlaces, Cond.selects RX4 yX4_changePlaces yX4_changePlaces, Cond.code yX4_changePlaces cX4_changePlaces 4 none]
def wsX4_permutation : List Cond := .code yX4_permutation cX4_permutation 5 (some .int) :: ((wsX4_permutation_r1 ++ (wsX4_permutation_r2 ++ wsX4_permutation_r3)) ++ wsX40 ++ wsX20 ++ wsX00 ++ (vx_atM "java/lang/ArrayIndexOutOfBoundsException" ["java/lang/IndexOutOfBoundsException", "java/lang/RuntimeException", "java/lang/Exception"]).filter goodWord)
def wsX4_putRising : List Cond := .code yX4_putRising cX4_putRising 5 (some .boolean) :: ([.fieldLink RX4 33 "DrawStreams" "row" "[I"] ++ wsX40 ++ (vx_atM "java/lang/ArrayIndexOutOfBoundsException" ["java/lang/IndexOutOfBoundsException", "java/lang/RuntimeException", "java/lang/Exception"]).filter goodWord)
def wsX4_subset_r1 : List Cond := [Cond.constant RX4 115 (1000000), Cond.fieldLink RX4 33 "DrawStreams" "row" "[I", Cond.fieldLink RX4 135 "DrawStreams" "rowSize" "I", Cond.methodLink RX4 66 yX4_drawerOf, Cond.instanceMethod yX4_drawerOf, Cond.selects RX4 yX4_drawerOf yX4_drawerOf, Cond.initialized RX4, Cond.code yX4_drawerOf cX4_drawerOf 2 (some (.object "DrawStreams$Drawer")), Cond.fieldLink RX4 60 "DrawStreams" "drawerCount" "I", Cond.fieldLink RX4 29 "DrawStreams" "drawers" "[LDrawStreams$Drawer;", Cond.methodLink RX4 98 yX2_takeBelow, Cond.instanceMethod yX2_takeBelow, Cond.selects RX2 yX2_takeBelow yX2_takeBelow, Cond.initialized RX2, Cond.code yX2_takeBelow cX2_takeBelow 7 (some .long), Cond.constant RX2 45 (1000000), Cond.fieldLink RX2 49 "DrawStreams$Drawer" "rejected" "J", Cond.methodLink RX2 46 yX2_takeBits, Cond.instanceMethod yX2_takeBits, Cond.selects RX2 yX2_takeBits yX2_takeBits, Cond.code yX2_takeBits cX2_takeBits 6 (some .long), Cond.methodLink RX2 41 yX2_takeWord, Cond.instanceMethod yX2_takeWord, Cond.selects RX2 yX2_takeWord yX2_takeWord]
def wsX4_subset_r2 : List Cond := [Cond.code yX2_takeWord cX2_takeWord 3 (some .long), Cond.fieldLink RX2 9 "DrawStreams$Drawer" "block" "LDrawStreams$Block;", Cond.fieldLink RX2 19 "DrawStreams$Drawer" "keyBits" "J", Cond.fieldLink RX2 23 "DrawStreams$Drawer" "stream" "I", Cond.fieldLink RX2 26 "DrawStreams$Drawer" "place" "J", Cond.constantLong RX2 35 (3), Cond.methodLink RX2 29 yX0_make, Cond.instanceMethod yX0_make, Cond.selects RX0 yX0_make yX0_make, Cond.initialized RX0, Cond.code yX0_make cX0_make 16 none, Cond.fieldLink RX0 9 "DrawStreams$Block" "madeSort" "I", Cond.fieldLink RX0 15 "DrawStreams$Block" "madeNumber" "J", Cond.fieldLink RX0 19 "DrawStreams$Block" "madeStream" "I", Cond.fieldLink RX0 22 "DrawStreams$Block" "madeKey" "J", Cond.constantLong RX0 25 (4294967295), Cond.fieldLink RX0 27 "DrawStreams$Block" "x0" "J", Cond.fieldLink RX0 30 "DrawStreams$Block" "x1" "J", Cond.fieldLink RX0 33 "DrawStreams$Block" "x2" "J", Cond.fieldLink RX0 36 "DrawStreams$Block" "x3" "J", Cond.constantLong RX0 39 (3528531795), Cond.constantLong RX0 41 (3449720151), Cond.constantLong RX0 43 (2654435769), Cond.constantLong RX0 45 (3144134277)]
def wsX4_subset_r3 : List Cond := [Cond.methodLink RX2 37 yX0_part, Cond.instanceMethod yX0_part, Cond.selects RX0 yX0_part yX0_part, Cond.code yX0_part cX0_part 2 (some .long), Cond.methodLink RX4 138 yX4_putRising, Cond.instanceMethod yX4_putRising, Cond.selects RX4 yX4_putRising yX4_putRising, Cond.code yX4_putRising cX4_putRising 5 (some .boolean)]
def wsX4_subset : List Cond := .code yX4_subset cX4_subset 8 (some .int) :: ((wsX4_subset_r1 ++ (wsX4_subset_r2 ++ wsX4_subset_r3)) ++ wsX40 ++ wsX20 ++ wsX00 ++ (vx_atM "java/lang/ArrayIndexOutOfBoundsException" ["java/lang/IndexOutOfBoundsException", "java/lang/RuntimeException", "java/lang/Exception"]).filter goodWord)
def wsX4_at : List Cond := .code yX4_at cX4_at 2 (some .int) :: ([.fieldLink RX4 135 "DrawStreams" "rowSize" "I", .classLink RX4 141 RJx00060, .instantiable RJx00060 6, .initialized RJx00060, .fieldLink RX4 33 "DrawStreams" "row" "[I"] ++ wsX40 ++ wsJx000600 ++ (vx_atM "java/lang/ArrayIndexOutOfBoundsException" ["java/lang/IndexOutOfBoundsException", "java/lang/RuntimeException", "java/lang/Exception"]).filter goodWord)
def wsX4_weight : List Cond := .code yX4_weight cX4_weight 6 (some .long) :: ([.constantLong RX4 146 (1000000000000), .constantLong RX4 56 (-1), .fieldLink RX4 37 "DrawStreams" "weights" "[J"] ++ wsX40 ++ (vx_atM "java/lang/ArrayIndexOutOfBoundsException" ["java/lang/IndexOutOfBoundsException", "java/lang/RuntimeException", "java/lang/Exception"]).filter goodWord)
def wsX4_choose_r1 : List Cond := [Cond.fieldLink RX4 37 "DrawStreams" "weights" "[J", Cond.methodLink RX4 66 yX4_drawerOf, Cond.instanceMethod yX4_drawerOf, Cond.selects RX4 yX4_drawerOf yX4_drawerOf, Cond.initialized RX4, Cond.code yX4_drawerOf cX4_drawerOf 2 (some (.object "DrawStreams$Drawer")), Cond.fieldLink RX4 60 "DrawStreams" "drawerCount" "I", Cond.fieldLink RX4 29 "DrawStreams" "drawers" "[LDrawStreams$Drawer;", Cond.methodLink RX4 98 yX2_takeBelow, Cond.instanceMethod yX2_takeBelow, Cond.selects RX2 yX2_takeBelow yX2_takeBelow, Cond.initialized RX2, Cond.code yX2_takeBelow cX2_takeBelow 7 (some .long), Cond.constant RX2 45 (1000000), Cond.fieldLink RX2 49 "DrawStreams$Drawer" "rejected" "J", Cond.methodLink RX2 46 yX2_takeBits, Cond.instanceMethod yX2_takeBits, Cond.selects RX2 yX2_takeBits yX2_takeBits, Cond.code yX2_takeBits cX2_takeBits 6 (some .long), Cond.methodLink RX2 41 yX2_takeWord, Cond.instanceMethod yX2_takeWord, Cond.selects RX2 yX2_takeWord yX2_takeWord, Cond.code yX2_takeWord cX2_takeWord 3 (some .long), Cond.fieldLink RX2 9 "DrawStreams$Drawer" "block" "LDrawStreams$Block;"]
def wsX4_choose_r2 : List Cond := [Cond.fieldLink RX2 19 "DrawStreams$Drawer" "keyBits" "J", Cond.fieldLink RX2 23 "DrawStreams$Drawer" "stream" "I", Cond.fieldLink RX2 26 "DrawStreams$Drawer" "place" "J", Cond.constantLong RX2 35 (3), Cond.methodLink RX2 29 yX0_make, Cond.instanceMethod yX0_make, Cond.selects RX0 yX0_make yX0_make, Cond.initialized RX0, Cond.code yX0_make cX0_make 16 none, Cond.fieldLink RX0 9 "DrawStreams$Block" "madeSort" "I", Cond.fieldLink RX0 15 "DrawStreams$Block" "madeNumber" "J", Cond.fieldLink RX0 19 "DrawStreams$Block" "madeStream" "I", Cond.fieldLink RX0 22 "DrawStreams$Block" "madeKey" "J", Cond.constantLong RX0 25 (4294967295), Cond.fieldLink RX0 27 "DrawStreams$Block" "x0" "J", Cond.fieldLink RX0 30 "DrawStreams$Block" "x1" "J", Cond.fieldLink RX0 33 "DrawStreams$Block" "x2" "J", Cond.fieldLink RX0 36 "DrawStreams$Block" "x3" "J", Cond.constantLong RX0 39 (3528531795), Cond.constantLong RX0 41 (3449720151), Cond.constantLong RX0 43 (2654435769), Cond.constantLong RX0 45 (3144134277), Cond.methodLink RX2 37 yX0_part, Cond.instanceMethod yX0_part]
def wsX4_choose_r3 : List Cond := [Cond.selects RX0 yX0_part yX0_part, Cond.code yX0_part cX0_part 2 (some .long)]
def wsX4_choose : List Cond := .code yX4_choose cX4_choose 8 (some .int) :: ((wsX4_choose_r1 ++ (wsX4_choose_r2 ++ wsX4_choose_r3)) ++ wsX40 ++ wsX20 ++ wsX00 ++ (vx_atM "java/lang/ArrayIndexOutOfBoundsException" ["java/lang/IndexOutOfBoundsException", "java/lang/RuntimeException", "java/lang/Exception"]).filter goodWord)
def wsX4_isInOrder : List Cond := .code yX4_isInOrder cX4_isInOrder 5 (some .boolean) :: ([.constant RX4 163 (1073741824), .methodLink RX4 44 yX4_isKey, .instanceMethod yX4_isKey, .selects RX4 yX4_isKey yX4_isKey, .initialized RX4, .code yX4_isKey cX4_isKey 2 (some .boolean), .fieldLink RX4 40 "DrawStreams" "keyCount" "I"] ++ wsX40)
def wsX4_halfWidth : List Cond := .code yX4_halfWidth cX4_halfWidth 2 (some .int) :: ([])
def wsX4_scatter : List Cond := .code yX4_scatter cX4_scatter 7 (some .int) :: ([.fieldLink RX4 10 "DrawStreams" "block" "LDrawStreams$Block;", .methodLink RX4 48 yX0_make, .instanceMethod yX0_make, .selects RX0 yX0_make yX0_make, .initialized RX0, .code yX0_make cX0_make 16 none, .fieldLink RX0 9 "DrawStreams$Block" "madeSort" "I", .fieldLink RX0 15 "DrawStreams$Block" "madeNumber" "J", .fieldLink RX0 19 "DrawStreams$Block" "madeStream" "I", .fieldLink RX0 22 "DrawStreams$Block" "madeKey" "J", .constantLong RX0 25 (4294967295), .fieldLink RX0 27 "DrawStreams$Block" "x0" "J", .fieldLink RX0 30 "DrawStreams$Block" "x1" "J", .fieldLink RX0 33 "DrawStreams$Block" "x2" "J", .fieldLink RX0 36 "DrawStreams$Block" "x3" "J", .constantLong RX0 39 (3528531795), .constantLong RX0 41 (3449720151), .constantLong RX0 43 (2654435769), .constantLong RX0 45 (3144134277), .methodLink RX4 52 yX0_part, .instanceMethod yX0_part, .selects RX0 yX0_part yX0_part, .code yX0_part cX0_part 2 (some .long)] ++ wsX40 ++ wsX00)
def wsX4_walked_r1 : List Cond := [Cond.methodLink RX4 164 yX4_scatter, Cond.instanceMethod yX4_scatter, Cond.selects RX4 yX4_scatter yX4_scatter, Cond.initialized RX4, Cond.code yX4_scatter cX4_scatter 7 (some .int), Cond.fieldLink RX4 10 "DrawStreams" "block" "LDrawStreams$Block;", Cond.methodLink RX4 48 yX0_make, Cond.instanceMethod yX0_make, Cond.selects RX0 yX0_make yX0_make, Cond.initialized RX0, Cond.code yX0_make cX0_make 16 none, Cond.fieldLink RX0 9 "DrawStreams$Block" "madeSort" "I", Cond.fieldLink RX0 15 "DrawStreams$Block" "madeNumber" "J", Cond.fieldLink RX0 19 "DrawStreams$Block" "madeStream" "I", Cond.fieldLink RX0 22 "DrawStreams$Block" "madeKey" "J", Cond.constantLong RX0 25 (4294967295), Cond.fieldLink RX0 27 "DrawStreams$Block" "x0" "J", Cond.fieldLink RX0 30 "DrawStreams$Block" "x1" "J", Cond.fieldLink RX0 33 "DrawStreams$Block" "x2" "J", Cond.fieldLink RX0 36 "DrawStreams$Block" "x3" "J", Cond.constantLong RX0 39 (3528531795), Cond.constantLong RX0 41 (3449720151), Cond.constantLong RX0 43 (2654435769), Cond.constantLong RX0 45 (3144134277)]
def wsX4_walked_r2 : List Cond := [Cond.methodLink RX4 52 yX0_part, Cond.instanceMethod yX0_part, Cond.selects RX0 yX0_part yX0_part, Cond.code yX0_part cX0_part 2 (some .long)]
def wsX4_walked : List Cond := .code yX4_walked cX4_walked 10 (some .int) :: ((wsX4_walked_r1 ++ wsX4_walked_r2) ++ wsX40 ++ wsX00)
def wsX4_secret_r1 : List Cond := [Cond.fieldLink RX4 23 "DrawStreams" "keys" "[J", Cond.methodLink RX4 148 yX4_isInOrder, Cond.instanceMethod yX4_isInOrder, Cond.selects RX4 yX4_isInOrder yX4_isInOrder, Cond.initialized RX4, Cond.code yX4_isInOrder cX4_isInOrder 5 (some .boolean), Cond.constant RX4 163 (1073741824), Cond.methodLink RX4 44 yX4_isKey, Cond.instanceMethod yX4_isKey, Cond.selects RX4 yX4_isKey yX4_isKey, Cond.code yX4_isKey cX4_isKey 2 (some .boolean), Cond.fieldLink RX4 40 "DrawStreams" "keyCount" "I", Cond.methodLink RX4 152 yX4_halfWidth, Cond.static yX4_halfWidth, Cond.code yX4_halfWidth cX4_halfWidth 2 (some .int), Cond.methodLink RX4 156 yX4_walked, Cond.instanceMethod yX4_walked, Cond.selects RX4 yX4_walked yX4_walked, Cond.code yX4_walked cX4_walked 10 (some .int), Cond.methodLink RX4 164 yX4_scatter, Cond.instanceMethod yX4_scatter, Cond.selects RX4 yX4_scatter yX4_scatter, Cond.code yX4_scatter cX4_scatter 7 (some .int), Cond.fieldLink RX4 10 "DrawStreams" "block" "LDrawStreams$Block;"]
def wsX4_secret_r2 : List Cond := [Cond.methodLink RX4 48 yX0_make, Cond.instanceMethod yX0_make, Cond.selects RX0 yX0_make yX0_make, Cond.initialized RX0, Cond.code yX0_make cX0_make 16 none, Cond.fieldLink RX0 9 "DrawStreams$Block" "madeSort" "I", Cond.fieldLink RX0 15 "DrawStreams$Block" "madeNumber" "J", Cond.fieldLink RX0 19 "DrawStreams$Block" "madeStream" "I", Cond.fieldLink RX0 22 "DrawStreams$Block" "madeKey" "J", Cond.constantLong RX0 25 (4294967295), Cond.fieldLink RX0 27 "DrawStreams$Block" "x0" "J", Cond.fieldLink RX0 30 "DrawStreams$Block" "x1" "J", Cond.fieldLink RX0 33 "DrawStreams$Block" "x2" "J", Cond.fieldLink RX0 36 "DrawStreams$Block" "x3" "J", Cond.constantLong RX0 39 (3528531795), Cond.constantLong RX0 41 (3449720151), Cond.constantLong RX0 43 (2654435769), Cond.constantLong RX0 45 (3144134277), Cond.methodLink RX4 52 yX0_part, Cond.instanceMethod yX0_part, Cond.selects RX0 yX0_part yX0_part, Cond.code yX0_part cX0_part 2 (some .long)]
def wsX4_secret : List Cond := .code yX4_secret cX4_secret 8 (some .int) :: ((wsX4_secret_r1 ++ wsX4_secret_r2) ++ wsX40 ++ wsX00 ++ (vx_atM "java/lang/ArrayIndexOutOfBoundsException" ["java/lang/IndexOutOfBoundsException", "java/lang/RuntimeException", "java/lang/Exception"]).filter goodWord)
def wsX4_walkedBack_r1 : List Cond := [Cond.methodLink RX4 164 yX4_scatter, Cond.instanceMethod yX4_scatter, Cond.selects RX4 yX4_scatter yX4_scatter, Cond.initialized RX4, Cond.code yX4_scatter cX4_scatter 7 (some .int), Cond.fieldLink RX4 10 "DrawStreams" "block" "LDrawStreams$Block;", Cond.methodLink RX4 48 yX0_make, Cond.instanceMethod yX0_make, Cond.selects RX0 yX0_make yX0_make, Cond.initialized RX0, Cond.code yX0_make cX0_make 16 none, Cond.fieldLink RX0 9 "DrawStreams$Block" "madeSort" "I", Cond.fieldLink RX0 15 "DrawStreams$Block" "madeNumber" "J", Cond.fieldLink RX0 19 "DrawStreams$Block" "madeStream" "I", Cond.fieldLink RX0 22 "DrawStreams$Block" "madeKey" "J", Cond.constantLong RX0 25 (4294967295), Cond.fieldLink RX0 27 "DrawStreams$Block" "x0" "J", Cond.fieldLink RX0 30 "DrawStreams$Block" "x1" "J", Cond.fieldLink RX0 33 "DrawStreams$Block" "x2" "J", Cond.fieldLink RX0 36 "DrawStreams$Block" "x3" "J", Cond.constantLong RX0 39 (3528531795), Cond.constantLong RX0 41 (3449720151), Cond.constantLong RX0 43 (2654435769), Cond.constantLong RX0 45 (3144134277)]
def wsX4_walkedBack_r2 : List Cond := [Cond.methodLink RX4 52 yX0_part, Cond.instanceMethod yX0_part, Cond.selects RX0 yX0_part yX0_part, Cond.code yX0_part cX0_part 2 (some .long)]
def wsX4_walkedBack : List Cond := .code yX4_walkedBack cX4_walkedBack 10 (some .int) :: ((wsX4_walkedBack_r1 ++ wsX4_walkedBack_r2) ++ wsX40 ++ wsX00)
def wsX4_back_r1 : List Cond := [Cond.fieldLink RX4 23 "DrawStreams" "keys" "[J", Cond.methodLink RX4 148 yX4_isInOrder, Cond.instanceMethod yX4_isInOrder, Cond.selects RX4 yX4_isInOrder yX4_isInOrder, Cond.initialized RX4, Cond.code yX4_isInOrder cX4_isInOrder 5 (some .boolean), Cond.constant RX4 163 (1073741824), Cond.methodLink RX4 44 yX4_isKey, Cond.instanceMethod yX4_isKey, Cond.selects RX4 yX4_isKey yX4_isKey, Cond.code yX4_isKey cX4_isKey 2 (some .boolean), Cond.fieldLink RX4 40 "DrawStreams" "keyCount" "I", Cond.methodLink RX4 152 yX4_halfWidth, Cond.static yX4_halfWidth, Cond.code yX4_halfWidth cX4_halfWidth 2 (some .int), Cond.methodLink RX4 160 yX4_walkedBack, Cond.instanceMethod yX4_walkedBack, Cond.selects RX4 yX4_walkedBack yX4_walkedBack, Cond.code yX4_walkedBack cX4_walkedBack 10 (some .int), Cond.methodLink RX4 164 yX4_scatter, Cond.instanceMethod yX4_scatter, Cond.selects RX4 yX4_scatter yX4_scatter, Cond.code yX4_scatter cX4_scatter 7 (some .int), Cond.fieldLink RX4 10 "DrawStreams" "block" "LDrawStreams$Block;"]
def wsX4_back_r2 : List Cond := [Cond.methodLink RX4 48 yX0_make, Cond.instanceMethod yX0_make, Cond.selects RX0 yX0_make yX0_make, Cond.initialized RX0, Cond.code yX0_make cX0_make 16 none, Cond.fieldLink RX0 9 "DrawStreams$Block" "madeSort" "I", Cond.fieldLink RX0 15 "DrawStreams$Block" "madeNumber" "J", Cond.fieldLink RX0 19 "DrawStreams$Block" "madeStream" "I", Cond.fieldLink RX0 22 "DrawStreams$Block" "madeKey" "J", Cond.constantLong RX0 25 (4294967295), Cond.fieldLink RX0 27 "DrawStreams$Block" "x0" "J", Cond.fieldLink RX0 30 "DrawStreams$Block" "x1" "J", Cond.fieldLink RX0 33 "DrawStreams$Block" "x2" "J", Cond.fieldLink RX0 36 "DrawStreams$Block" "x3" "J", Cond.constantLong RX0 39 (3528531795), Cond.constantLong RX0 41 (3449720151), Cond.constantLong RX0 43 (2654435769), Cond.constantLong RX0 45 (3144134277), Cond.methodLink RX4 52 yX0_part, Cond.instanceMethod yX0_part, Cond.selects RX0 yX0_part yX0_part, Cond.code yX0_part cX0_part 2 (some .long)]
def wsX4_back : List Cond := .code yX4_back cX4_back 8 (some .int) :: ((wsX4_back_r1 ++ wsX4_back_r2) ++ wsX40 ++ wsX00 ++ (vx_atM "java/lang/ArrayIndexOutOfBoundsException" ["java/lang/IndexOutOfBoundsException", "java/lang/RuntimeException", "java/lang/Exception"]).filter goodWord)
def wsX4_count : List Cond := .code yX4_count cX4_count 2 (some .int) :: ([.fieldLink RX4 40 "DrawStreams" "keyCount" "I", .fieldLink RX4 60 "DrawStreams" "drawerCount" "I", .fieldLink RX4 135 "DrawStreams" "rowSize" "I"] ++ wsX40)
def wsX5_init : List Cond := .code yX5_init cX5_init 1 none :: ([.methodLink RX5 1 objectInit, .instanceMethod objectInit, .code objectInit ⟨#[0xb1]⟩ 1 none, .arrayClass .long, .fieldLink RX5 7 "DrawStreamsModel" "keyBits" "[J", .arrayClass .int, .fieldLink RX5 13 "DrawStreamsModel" "keyOf" "[I", .fieldLink RX5 17 "DrawStreamsModel" "streamOf" "[I", .fieldLink RX5 20 "DrawStreamsModel" "placeOf" "[J", .fieldLink RX5 23 "DrawStreamsModel" "rejected" "[J", .fieldLink RX5 26 "DrawStreamsModel" "row" "[I", .fieldLink RX5 29 "DrawStreamsModel" "weights" "[J", .fieldLink RX5 32 "DrawStreamsModel" "x" "[J", .fieldLink RX5 35 "DrawStreamsModel" "digits" "[J", .fieldLink RX5 38 "DrawStreamsModel" "known" "[I"] ++ wsX50)
def wsX5_thrown : List Cond := .code yX5_thrown cX5_thrown 1 (some .int) :: ([.fieldLink RX5 41 "DrawStreamsModel" "thrown" "I"] ++ wsX50)
def wsX5_in : List Cond := .code yX5_in cX5_in 6 (some .boolean) :: ([])
def wsX5_block : List Cond := .code yX5_block cX5_block 20 none :: ([.fieldLink RX5 32 "DrawStreamsModel" "x" "[J", .constantLong RX5 45 (4294967295), .constantLong RX5 47 (3528531795), .constantLong RX5 49 (3449720151), .constantLong RX5 51 (2654435769), .constantLong RX5 53 (3144134277)] ++ wsX50 ++ (vx_atM "java/lang/ArrayIndexOutOfBoundsException" ["java/lang/IndexOutOfBoundsException", "java/lang/RuntimeException", "java/lang/Exception"]).filter goodWord)
def wsX5_isKey : List Cond := .code yX5_isKey cX5_isKey 2 (some .boolean) :: ([.fieldLink RX5 55 "DrawStreamsModel" "keys" "I", .methodLink RX5 58 yX5_in, .static yX5_in, .initialized RX5, .code yX5_in cX5_in 6 (some .boolean)] ++ wsX50)
def wsX5_isDrawer : List Cond := .code yX5_isDrawer cX5_isDrawer 2 (some .boolean) :: ([.fieldLink RX5 62 "DrawStreamsModel" "drawers" "I", .methodLink RX5 58 yX5_in, .static yX5_in, .initialized RX5, .code yX5_in cX5_in 6 (some .boolean)] ++ wsX50)
def wsX5_key : List Cond := .code yX5_key cX5_key 3 (some .int) :: ([.fieldLink RX5 41 "DrawStreamsModel" "thrown" "I", .fieldLink RX5 55 "DrawStreamsModel" "keys" "I", .fieldLink RX5 7 "DrawStreamsModel" "keyBits" "[J"] ++ wsX50 ++ (vx_atM "java/lang/ArrayIndexOutOfBoundsException" ["java/lang/IndexOutOfBoundsException", "java/lang/RuntimeException", "java/lang/Exception"]).filter goodWord)
def wsX5_split : List Cond := .code yX5_split cX5_split 3 (some .int) :: ([.fieldLink RX5 41 "DrawStreamsModel" "thrown" "I", .fieldLink RX5 55 "DrawStreamsModel" "keys" "I", .fieldLink RX5 7 "DrawStreamsModel" "keyBits" "[J", .fieldLink RX5 32 "DrawStreamsModel" "x" "[J", .methodLink RX5 65 yX5_isKey, .instanceMethod yX5_isKey, .selects RX5 yX5_isKey yX5_isKey, .initialized RX5, .code yX5_isKey cX5_isKey 2 (some .boolean), .methodLink RX5 58 yX5_in, .static yX5_in, .code yX5_in cX5_in 6 (some .boolean), .methodLink RX5 69 yX5_block, .instanceMethod yX5_block, .selects RX5 yX5_block yX5_block, .code yX5_block cX5_block 20 none, .constantLong RX5 45 (4294967295), .constantLong RX5 47 (3528531795), .constantLong RX5 49 (3449720151), .constantLong RX5 51 (2654435769), .constantLong RX5 53 (3144134277)] ++ wsX50 ++ (vx_atM "java/lang/ArrayIndexOutOfBoundsException" ["java/lang/IndexOutOfBoundsException", "java/lang/RuntimeException", "java/lang/Exception"]).filter goodWord)
def wsX5_bitsOf : List Cond := .code yX5_bitsOf cX5_bitsOf 2 (some .long) :: ([.fieldLink RX5 41 "DrawStreamsModel" "thrown" "I", .fieldLink RX5 7 "DrawStreamsModel" "keyBits" "[J", .constantLong RX5 73 (-1), .methodLink RX5 65 yX5_isKey, .instanceMethod yX5_isKey, .selects RX5 yX5_isKey yX5_isKey, .initialized RX5, .code yX5_isKey cX5_isKey 2 (some .boolean), .fieldLink RX5 55 "DrawStreamsModel" "keys" "I", .methodLink RX5 58 yX5_in, .static yX5_in, .code yX5_in cX5_in 6 (some .boolean)] ++ wsX50 ++ (vx_atM "java/lang/ArrayIndexOutOfBoundsException" ["java/lang/IndexOutOfBoundsException", "java/lang/RuntimeException", "java/lang/Exception"]).filter goodWord)
def wsX5_word : List Cond := .code yX5_word cX5_word 5 (some .long) :: ([.fieldLink RX5 41 "DrawStreamsModel" "thrown" "I", .constantLong RX5 73 (-1), .fieldLink RX5 7 "DrawStreamsModel" "keyBits" "[J", .constantLong RX5 75 (4), .fieldLink RX5 32 "DrawStreamsModel" "x" "[J", .methodLink RX5 65 yX5_isKey, .instanceMethod yX5_isKey, .selects RX5 yX5_isKey yX5_isKey, .initialized RX5, .code yX5_isKey cX5_isKey 2 (some .boolean), .fieldLink RX5 55 "DrawStreamsModel" "keys" "I", .methodLink RX5 58 yX5_in, .static yX5_in, .code yX5_in cX5_in 6 (some .boolean), .methodLink RX5 69 yX5_block, .instanceMethod yX5_block, .selects RX5 yX5_block yX5_block, .code yX5_block cX5_block 20 none, .constantLong RX5 45 (4294967295), .constantLong RX5 47 (3528531795), .constantLong RX5 49 (3449720151), .constantLong RX5 51 (2654435769), .constantLong RX5 53 (3144134277)] ++ wsX50 ++ (vx_atM "java/lang/ArrayIndexOutOfBoundsException" ["java/lang/IndexOutOfBoundsException", "java/lang/RuntimeException", "java/lang/Exception"]).filter goodWord)
def wsX5_drawer : List Cond := .code yX5_drawer cX5_drawer 3 (some .int) :: ([.fieldLink RX5 41 "DrawStreamsModel" "thrown" "I", .fieldLink RX5 62 "DrawStreamsModel" "drawers" "I", .fieldLink RX5 13 "DrawStreamsModel" "keyOf" "[I", .fieldLink RX5 17 "DrawStreamsModel" "streamOf" "[I", .methodLink RX5 65 yX5_isKey, .instanceMethod yX5_isKey, .selects RX5 yX5_isKey yX5_isKey, .initialized RX5, .code yX5_isKey cX5_isKey 2 (some .boolean), .fieldLink RX5 55 "DrawStreamsModel" "keys" "I", .methodLink RX5 58 yX5_in, .static yX5_in, .code yX5_in cX5_in 6 (some .boolean)] ++ wsX50 ++ (vx_atM "java/lang/ArrayIndexOutOfBoundsException" ["java/lang/IndexOutOfBoundsException", "java/lang/RuntimeException", "java/lang/Exception"]).filter goodWord)
def wsX5_place : List Cond := .code yX5_place cX5_place 4 (some .int) :: ([.fieldLink RX5 41 "DrawStreamsModel" "thrown" "I", .constantLong RX5 80 (2305843009213693952), .fieldLink RX5 20 "DrawStreamsModel" "placeOf" "[J", .methodLink RX5 77 yX5_isDrawer, .instanceMethod yX5_isDrawer, .selects RX5 yX5_isDrawer yX5_isDrawer, .initialized RX5, .code yX5_isDrawer cX5_isDrawer 2 (some .boolean), .fieldLink RX5 62 "DrawStreamsModel" "drawers" "I", .methodLink RX5 58 yX5_in, .static yX5_in, .code yX5_in cX5_in 6 (some .boolean)] ++ wsX50 ++ (vx_atM "java/lang/ArrayIndexOutOfBoundsException" ["java/lang/IndexOutOfBoundsException", "java/lang/RuntimeException", "java/lang/Exception"]).filter goodWord)
def wsX5_told : List Cond := .code yX5_told cX5_told 3 (some .long) :: ([.fieldLink RX5 41 "DrawStreamsModel" "thrown" "I", .constantLong RX5 82 (3), .constantLong RX5 73 (-1), .fieldLink RX5 20 "DrawStreamsModel" "placeOf" "[J", .fieldLink RX5 23 "DrawStreamsModel" "rejected" "[J", .fieldLink RX5 13 "DrawStreamsModel" "keyOf" "[I", .fieldLink RX5 17 "DrawStreamsModel" "streamOf" "[I", .methodLink RX5 77 yX5_isDrawer, .instanceMethod yX5_isDrawer, .selects RX5 yX5_isDrawer yX5_isDrawer, .initialized RX5, .code yX5_isDrawer cX5_isDrawer 2 (some .boolean), .fieldLink RX5 62 "DrawStreamsModel" "drawers" "I", .methodLink RX5 58 yX5_in, .static yX5_in, .code yX5_in cX5_in 6 (some .boolean)] ++ wsX50 ++ (vx_atM "java/lang/ArrayIndexOutOfBoundsException" ["java/lang/IndexOutOfBoundsException", "java/lang/RuntimeException", "java/lang/Exception"]).filter goodWord)
def wsX5_same : List Cond := .code yX5_same cX5_same 3 (some .boolean) :: ([.fieldLink RX5 41 "DrawStreamsModel" "thrown" "I", .fieldLink RX5 7 "DrawStreamsModel" "keyBits" "[J", .fieldLink RX5 13 "DrawStreamsModel" "keyOf" "[I", .fieldLink RX5 17 "DrawStreamsModel" "streamOf" "[I", .fieldLink RX5 20 "DrawStreamsModel" "placeOf" "[J", .methodLink RX5 77 yX5_isDrawer, .instanceMethod yX5_isDrawer, .selects RX5 yX5_isDrawer yX5_isDrawer, .initialized RX5, .code yX5_isDrawer cX5_isDrawer 2 (some .boolean), .fieldLink RX5 62 "DrawStreamsModel" "drawers" "I", .methodLink RX5 58 yX5_in, .static yX5_in, .code yX5_in cX5_in 6 (some .boolean)] ++ wsX50 ++ (vx_atM "java/lang/ArrayIndexOutOfBoundsException" ["java/lang/IndexOutOfBoundsException", "java/lang/RuntimeException", "java/lang/Exception"]).filter goodWord)
def wsX5_take : List Cond := .code yX5_take cX5_take 4 (some .long) :: ([.fieldLink RX5 7 "DrawStreamsModel" "keyBits" "[J", .fieldLink RX5 13 "DrawStreamsModel" "keyOf" "[I", .fieldLink RX5 17 "DrawStreamsModel" "streamOf" "[I", .fieldLink RX5 20 "DrawStreamsModel" "placeOf" "[J", .constantLong RX5 75 (4), .fieldLink RX5 32 "DrawStreamsModel" "x" "[J", .methodLink RX5 69 yX5_block, .instanceMethod yX5_block, .selects RX5 yX5_block yX5_block, .initialized RX5, .code yX5_block cX5_block 20 none, .constantLong RX5 45 (4294967295), .constantLong RX5 47 (3528531795), .constantLong RX5 49 (3449720151), .constantLong RX5 51 (2654435769), .constantLong RX5 53 (3144134277)] ++ wsX50 ++ (vx_atM "java/lang/ArrayIndexOutOfBoundsException" ["java/lang/IndexOutOfBoundsException", "java/lang/RuntimeException", "java/lang/Exception"]).filter goodWord)
def wsX5_draw : List Cond := .code yX5_draw cX5_draw 5 (some .long) :: ([.methodLink RX5 84 yX5_take, .instanceMethod yX5_take, .selects RX5 yX5_take yX5_take, .initialized RX5, .code yX5_take cX5_take 4 (some .long), .fieldLink RX5 7 "DrawStreamsModel" "keyBits" "[J", .fieldLink RX5 13 "DrawStreamsModel" "keyOf" "[I", .fieldLink RX5 17 "DrawStreamsModel" "streamOf" "[I", .fieldLink RX5 20 "DrawStreamsModel" "placeOf" "[J", .constantLong RX5 75 (4), .fieldLink RX5 32 "DrawStreamsModel" "x" "[J", .methodLink RX5 69 yX5_block, .instanceMethod yX5_block, .selects RX5 yX5_block yX5_block, .code yX5_block cX5_block 20 none, .constantLong RX5 45 (4294967295), .constantLong RX5 47 (3528531795), .constantLong RX5 49 (3449720151), .constantLong RX5 51 (2654435769), .constantLong RX5 53 (3144134277)] ++ wsX50 ++ (vx_atM "java/lang/ArrayIndexOutOfBoundsException" ["java/lang/IndexOutOfBoundsException", "java/lang/RuntimeException", "java/lang/Exception"]).filter goodWord)
def wsX5_less_r1 : List Cond := [Cond.fieldLink RX5 23 "DrawStreamsModel" "rejected" "[J", Cond.methodLink RX5 88 yX5_draw, Cond.instanceMethod yX5_draw, Cond.selects RX5 yX5_draw yX5_draw, Cond.initialized RX5, Cond.code yX5_draw cX5_draw 5 (some .long), Cond.methodLink RX5 84 yX5_take, Cond.instanceMethod yX5_take, Cond.selects RX5 yX5_take yX5_take, Cond.code yX5_take cX5_take 4 (some .long), Cond.fieldLink RX5 7 "DrawStreamsModel" "keyBits" "[J", Cond.fieldLink RX5 13 "DrawStreamsModel" "keyOf" "[I", Cond.fieldLink RX5 17 "DrawStreamsModel" "streamOf" "[I", Cond.fieldLink RX5 20 "DrawStreamsModel" "placeOf" "[J", Cond.constantLong RX5 75 (4), Cond.fieldLink RX5 32 "DrawStreamsModel" "x" "[J", Cond.methodLink RX5 69 yX5_block, Cond.instanceMethod yX5_block, Cond.selects RX5 yX5_block yX5_block, Cond.code yX5_block cX5_block 20 none, Cond.constantLong RX5 45 (4294967295), Cond.constantLong RX5 47 (3528531795), Cond.constantLong RX5 49 (3449720151), Cond.constantLong RX5 51 (2654435769)]
def wsX5_less_r2 : List Cond := [Cond.constantLong RX5 53 (3144134277)]
def wsX5_less : List Cond := .code yX5_less cX5_less 7 (some .long) :: ((wsX5_less_r1 ++ wsX5_less_r2) ++ wsX50 ++ (vx_atM "java/lang/ArrayIndexOutOfBoundsException" ["java/lang/IndexOutOfBoundsException", "java/lang/RuntimeException", "java/lang/Exception"]).filter goodWord)
def wsX5_bits_r1 : List Cond := [Cond.fieldLink RX5 41 "DrawStreamsModel" "thrown" "I", Cond.constantLong RX5 92 (64), Cond.constantLong RX5 73 (-1), Cond.methodLink RX5 77 yX5_isDrawer, Cond.instanceMethod yX5_isDrawer, Cond.selects RX5 yX5_isDrawer yX5_isDrawer, Cond.initialized RX5, Cond.code yX5_isDrawer cX5_isDrawer 2 (some .boolean), Cond.fieldLink RX5 62 "DrawStreamsModel" "drawers" "I", Cond.methodLink RX5 58 yX5_in, Cond.static yX5_in, Cond.code yX5_in cX5_in 6 (some .boolean), Cond.methodLink RX5 88 yX5_draw, Cond.instanceMethod yX5_draw, Cond.selects RX5 yX5_draw yX5_draw, Cond.code yX5_draw cX5_draw 5 (some .long), Cond.methodLink RX5 84 yX5_take, Cond.instanceMethod yX5_take, Cond.selects RX5 yX5_take yX5_take, Cond.code yX5_take cX5_take 4 (some .long), Cond.fieldLink RX5 7 "DrawStreamsModel" "keyBits" "[J", Cond.fieldLink RX5 13 "DrawStreamsModel" "keyOf" "[I", Cond.fieldLink RX5 17 "DrawStreamsModel" "streamOf" "[I", Cond.fieldLink RX5 20 "DrawStreamsModel" "placeOf" "[J"]
def wsX5_bits_r2 : List Cond := [Cond.constantLong RX5 75 (4), Cond.fieldLink RX5 32 "DrawStreamsModel" "x" "[J", Cond.methodLink RX5 69 yX5_block, Cond.instanceMethod yX5_block, Cond.selects RX5 yX5_block yX5_block, Cond.code yX5_block cX5_block 20 none, Cond.constantLong RX5 45 (4294967295), Cond.constantLong RX5 47 (3528531795), Cond.constantLong RX5 49 (3449720151), Cond.constantLong RX5 51 (2654435769), Cond.constantLong RX5 53 (3144134277)]
def wsX5_bits : List Cond := .code yX5_bits cX5_bits 3 (some .long) :: ((wsX5_bits_r1 ++ wsX5_bits_r2) ++ wsX50 ++ (vx_atM "java/lang/ArrayIndexOutOfBoundsException" ["java/lang/IndexOutOfBoundsException", "java/lang/RuntimeException", "java/lang/Exception"]).filter goodWord)
def wsX5_below_r1 : List Cond := [Cond.fieldLink RX5 41 "DrawStreamsModel" "thrown" "I", Cond.constantLong RX5 73 (-1), Cond.methodLink RX5 77 yX5_isDrawer, Cond.instanceMethod yX5_isDrawer, Cond.selects RX5 yX5_isDrawer yX5_isDrawer, Cond.initialized RX5, Cond.code yX5_isDrawer cX5_isDrawer 2 (some .boolean), Cond.fieldLink RX5 62 "DrawStreamsModel" "drawers" "I", Cond.methodLink RX5 58 yX5_in, Cond.static yX5_in, Cond.code yX5_in cX5_in 6 (some .boolean), Cond.methodLink RX5 94 yX5_less, Cond.instanceMethod yX5_less, Cond.selects RX5 yX5_less yX5_less, Cond.code yX5_less cX5_less 7 (some .long), Cond.fieldLink RX5 23 "DrawStreamsModel" "rejected" "[J", Cond.methodLink RX5 88 yX5_draw, Cond.instanceMethod yX5_draw, Cond.selects RX5 yX5_draw yX5_draw, Cond.code yX5_draw cX5_draw 5 (some .long), Cond.methodLink RX5 84 yX5_take, Cond.instanceMethod yX5_take, Cond.selects RX5 yX5_take yX5_take, Cond.code yX5_take cX5_take 4 (some .long)]
def wsX5_below_r2 : List Cond := [Cond.fieldLink RX5 7 "DrawStreamsModel" "keyBits" "[J", Cond.fieldLink RX5 13 "DrawStreamsModel" "keyOf" "[I", Cond.fieldLink RX5 17 "DrawStreamsModel" "streamOf" "[I", Cond.fieldLink RX5 20 "DrawStreamsModel" "placeOf" "[J", Cond.constantLong RX5 75 (4), Cond.fieldLink RX5 32 "DrawStreamsModel" "x" "[J", Cond.methodLink RX5 69 yX5_block, Cond.instanceMethod yX5_block, Cond.selects RX5 yX5_block yX5_block, Cond.code yX5_block cX5_block 20 none, Cond.constantLong RX5 45 (4294967295), Cond.constantLong RX5 47 (3528531795), Cond.constantLong RX5 49 (3449720151), Cond.constantLong RX5 51 (2654435769), Cond.constantLong RX5 53 (3144134277)]
def wsX5_below : List Cond := .code yX5_below cX5_below 4 (some .long) :: ((wsX5_below_r1 ++ wsX5_below_r2) ++ wsX50 ++ (vx_atM "java/lang/ArrayIndexOutOfBoundsException" ["java/lang/IndexOutOfBoundsException", "java/lang/RuntimeException", "java/lang/Exception"]).filter goodWord)
def wsX5_real_r1 : List Cond := [Cond.fieldLink RX5 41 "DrawStreamsModel" "thrown" "I", Cond.constantDouble RX5 98 (4845873199050653696), Cond.constantDouble RX5 100 (13830554455654793216), Cond.methodLink RX5 77 yX5_isDrawer, Cond.instanceMethod yX5_isDrawer, Cond.selects RX5 yX5_isDrawer yX5_isDrawer, Cond.initialized RX5, Cond.code yX5_isDrawer cX5_isDrawer 2 (some .boolean), Cond.fieldLink RX5 62 "DrawStreamsModel" "drawers" "I", Cond.methodLink RX5 58 yX5_in, Cond.static yX5_in, Cond.code yX5_in cX5_in 6 (some .boolean), Cond.methodLink RX5 88 yX5_draw, Cond.instanceMethod yX5_draw, Cond.selects RX5 yX5_draw yX5_draw, Cond.code yX5_draw cX5_draw 5 (some .long), Cond.methodLink RX5 84 yX5_take, Cond.instanceMethod yX5_take, Cond.selects RX5 yX5_take yX5_take, Cond.code yX5_take cX5_take 4 (some .long), Cond.fieldLink RX5 7 "DrawStreamsModel" "keyBits" "[J", Cond.fieldLink RX5 13 "DrawStreamsModel" "keyOf" "[I", Cond.fieldLink RX5 17 "DrawStreamsModel" "streamOf" "[I", Cond.fieldLink RX5 20 "DrawStreamsModel" "placeOf" "[J"]
def wsX5_real_r2 : List Cond := [Cond.constantLong RX5 75 (4), Cond.fieldLink RX5 32 "DrawStreamsModel" "x" "[J", Cond.methodLink RX5 69 yX5_block, Cond.instanceMethod yX5_block, Cond.selects RX5 yX5_block yX5_block, Cond.code yX5_block cX5_block 20 none, Cond.constantLong RX5 45 (4294967295), Cond.constantLong RX5 47 (3528531795), Cond.constantLong RX5 49 (3449720151), Cond.constantLong RX5 51 (2654435769), Cond.constantLong RX5 53 (3144134277)]
def wsX5_real : List Cond := .code yX5_real cX5_real 2 (some .double) :: ((wsX5_real_r1 ++ wsX5_real_r2) ++ wsX50 ++ (vx_atM "java/lang/ArrayIndexOutOfBoundsException" ["java/lang/IndexOutOfBoundsException", "java/lang/RuntimeException", "java/lang/Exception"]).filter goodWord)
def wsX5_single_r1 : List Cond := [Cond.fieldLink RX5 41 "DrawStreamsModel" "thrown" "I", Cond.constantFloat RX5 102 (1266679808), Cond.constantFloat RX5 103 (3212836864), Cond.methodLink RX5 77 yX5_isDrawer, Cond.instanceMethod yX5_isDrawer, Cond.selects RX5 yX5_isDrawer yX5_isDrawer, Cond.initialized RX5, Cond.code yX5_isDrawer cX5_isDrawer 2 (some .boolean), Cond.fieldLink RX5 62 "DrawStreamsModel" "drawers" "I", Cond.methodLink RX5 58 yX5_in, Cond.static yX5_in, Cond.code yX5_in cX5_in 6 (some .boolean), Cond.methodLink RX5 88 yX5_draw, Cond.instanceMethod yX5_draw, Cond.selects RX5 yX5_draw yX5_draw, Cond.code yX5_draw cX5_draw 5 (some .long), Cond.methodLink RX5 84 yX5_take, Cond.instanceMethod yX5_take, Cond.selects RX5 yX5_take yX5_take, Cond.code yX5_take cX5_take 4 (some .long), Cond.fieldLink RX5 7 "DrawStreamsModel" "keyBits" "[J", Cond.fieldLink RX5 13 "DrawStreamsModel" "keyOf" "[I", Cond.fieldLink RX5 17 "DrawStreamsModel" "streamOf" "[I", Cond.fieldLink RX5 20 "DrawStreamsModel" "placeOf" "[J"]
def wsX5_single_r2 : List Cond := [Cond.constantLong RX5 75 (4), Cond.fieldLink RX5 32 "DrawStreamsModel" "x" "[J", Cond.methodLink RX5 69 yX5_block, Cond.instanceMethod yX5_block, Cond.selects RX5 yX5_block yX5_block, Cond.code yX5_block cX5_block 20 none, Cond.constantLong RX5 45 (4294967295), Cond.constantLong RX5 47 (3528531795), Cond.constantLong RX5 49 (3449720151), Cond.constantLong RX5 51 (2654435769), Cond.constantLong RX5 53 (3144134277)]
def wsX5_single : List Cond := .code yX5_single cX5_single 2 (some .float) :: ((wsX5_single_r1 ++ wsX5_single_r2) ++ wsX50 ++ (vx_atM "java/lang/ArrayIndexOutOfBoundsException" ["java/lang/IndexOutOfBoundsException", "java/lang/RuntimeException", "java/lang/Exception"]).filter goodWord)
def wsX5_tossed : List Cond := .code yX5_tossed cX5_tossed 13 (some .boolean) :: ([.methodLink RX5 84 yX5_take, .instanceMethod yX5_take, .selects RX5 yX5_take yX5_take, .initialized RX5, .code yX5_take cX5_take 4 (some .long), .fieldLink RX5 7 "DrawStreamsModel" "keyBits" "[J", .fieldLink RX5 13 "DrawStreamsModel" "keyOf" "[I", .fieldLink RX5 17 "DrawStreamsModel" "streamOf" "[I", .fieldLink RX5 20 "DrawStreamsModel" "placeOf" "[J", .constantLong RX5 75 (4), .fieldLink RX5 32 "DrawStreamsModel" "x" "[J", .methodLink RX5 69 yX5_block, .instanceMethod yX5_block, .selects RX5 yX5_block yX5_block, .code yX5_block cX5_block 20 none, .constantLong RX5 45 (4294967295), .constantLong RX5 47 (3528531795), .constantLong RX5 49 (3449720151), .constantLong RX5 51 (2654435769), .constantLong RX5 53 (3144134277)] ++ wsX50 ++ (vx_atM "java/lang/ArithmeticException" ["java/lang/RuntimeException", "java/lang/Exception"]).filter goodWord ++ (vx_atM "java/lang/ArrayIndexOutOfBoundsException" ["java/lang/IndexOutOfBoundsException", "java/lang/RuntimeException", "java/lang/Exception"]).filter goodWord)
def wsX5_isCoin : List Cond := .code yX5_isCoin cX5_isCoin 4 (some .boolean) :: ([.methodLink RX5 77 yX5_isDrawer, .instanceMethod yX5_isDrawer, .selects RX5 yX5_isDrawer yX5_isDrawer, .initialized RX5, .code yX5_isDrawer cX5_isDrawer 2 (some .boolean), .fieldLink RX5 62 "DrawStreamsModel" "drawers" "I", .methodLink RX5 58 yX5_in, .static yX5_in, .code yX5_in cX5_in 6 (some .boolean)] ++ wsX50)
def wsX5_coin_r1 : List Cond := [Cond.fieldLink RX5 41 "DrawStreamsModel" "thrown" "I", Cond.methodLink RX5 104 yX5_isCoin, Cond.instanceMethod yX5_isCoin, Cond.selects RX5 yX5_isCoin yX5_isCoin, Cond.initialized RX5, Cond.code yX5_isCoin cX5_isCoin 4 (some .boolean), Cond.methodLink RX5 77 yX5_isDrawer, Cond.instanceMethod yX5_isDrawer, Cond.selects RX5 yX5_isDrawer yX5_isDrawer, Cond.code yX5_isDrawer cX5_isDrawer 2 (some .boolean), Cond.fieldLink RX5 62 "DrawStreamsModel" "drawers" "I", Cond.methodLink RX5 58 yX5_in, Cond.static yX5_in, Cond.code yX5_in cX5_in 6 (some .boolean), Cond.methodLink RX5 108 yX5_tossed, Cond.instanceMethod yX5_tossed, Cond.selects RX5 yX5_tossed yX5_tossed, Cond.code yX5_tossed cX5_tossed 13 (some .boolean), Cond.methodLink RX5 84 yX5_take, Cond.instanceMethod yX5_take, Cond.selects RX5 yX5_take yX5_take, Cond.code yX5_take cX5_take 4 (some .long), Cond.fieldLink RX5 7 "DrawStreamsModel" "keyBits" "[J", Cond.fieldLink RX5 13 "DrawStreamsModel" "keyOf" "[I"]
def wsX5_coin_r2 : List Cond := [Cond.fieldLink RX5 17 "DrawStreamsModel" "streamOf" "[I", Cond.fieldLink RX5 20 "DrawStreamsModel" "placeOf" "[J", Cond.constantLong RX5 75 (4), Cond.fieldLink RX5 32 "DrawStreamsModel" "x" "[J", Cond.methodLink RX5 69 yX5_block, Cond.instanceMethod yX5_block, Cond.selects RX5 yX5_block yX5_block, Cond.code yX5_block cX5_block 20 none, Cond.constantLong RX5 45 (4294967295), Cond.constantLong RX5 47 (3528531795), Cond.constantLong RX5 49 (3449720151), Cond.constantLong RX5 51 (2654435769), Cond.constantLong RX5 53 (3144134277)]
def wsX5_coin : List Cond := .code yX5_coin cX5_coin 4 (some .int) :: ((wsX5_coin_r1 ++ wsX5_coin_r2) ++ wsX50 ++ (vx_atM "java/lang/ArithmeticException" ["java/lang/RuntimeException", "java/lang/Exception"]).filter goodWord ++ (vx_atM "java/lang/ArrayIndexOutOfBoundsException" ["java/lang/IndexOutOfBoundsException", "java/lang/RuntimeException", "java/lang/Exception"]).filter goodWord)
def wsX5_misses_r1 : List Cond := [Cond.fieldLink RX5 41 "DrawStreamsModel" "thrown" "I", Cond.constantLong RX5 111 (1000), Cond.methodLink RX5 104 yX5_isCoin, Cond.instanceMethod yX5_isCoin, Cond.selects RX5 yX5_isCoin yX5_isCoin, Cond.initialized RX5, Cond.code yX5_isCoin cX5_isCoin 4 (some .boolean), Cond.methodLink RX5 77 yX5_isDrawer, Cond.instanceMethod yX5_isDrawer, Cond.selects RX5 yX5_isDrawer yX5_isDrawer, Cond.code yX5_isDrawer cX5_isDrawer 2 (some .boolean), Cond.fieldLink RX5 62 "DrawStreamsModel" "drawers" "I", Cond.methodLink RX5 58 yX5_in, Cond.static yX5_in, Cond.code yX5_in cX5_in 6 (some .boolean), Cond.methodLink RX5 108 yX5_tossed, Cond.instanceMethod yX5_tossed, Cond.selects RX5 yX5_tossed yX5_tossed, Cond.code yX5_tossed cX5_tossed 13 (some .boolean), Cond.methodLink RX5 84 yX5_take, Cond.instanceMethod yX5_take, Cond.selects RX5 yX5_take yX5_take, Cond.code yX5_take cX5_take 4 (some .long), Cond.fieldLink RX5 7 "DrawStreamsModel" "keyBits" "[J"]
def wsX5_misses_r2 : List Cond := [Cond.fieldLink RX5 13 "DrawStreamsModel" "keyOf" "[I", Cond.fieldLink RX5 17 "DrawStreamsModel" "streamOf" "[I", Cond.fieldLink RX5 20 "DrawStreamsModel" "placeOf" "[J", Cond.constantLong RX5 75 (4), Cond.fieldLink RX5 32 "DrawStreamsModel" "x" "[J", Cond.methodLink RX5 69 yX5_block, Cond.instanceMethod yX5_block, Cond.selects RX5 yX5_block yX5_block, Cond.code yX5_block cX5_block 20 none, Cond.constantLong RX5 45 (4294967295), Cond.constantLong RX5 47 (3528531795), Cond.constantLong RX5 49 (3449720151), Cond.constantLong RX5 51 (2654435769), Cond.constantLong RX5 53 (3144134277)]
def wsX5_misses : List Cond := .code yX5_misses cX5_misses 7 (some .int) :: ((wsX5_misses_r1 ++ wsX5_misses_r2) ++ wsX50 ++ (vx_atM "java/lang/ArithmeticException" ["java/lang/RuntimeException", "java/lang/Exception"]).filter goodWord ++ (vx_atM "java/lang/ArrayIndexOutOfBoundsException" ["java/lang/IndexOutOfBoundsException", "java/lang/RuntimeException", "java/lang/Exception"]).filter goodWord)
def wsX5_hits_r1 : List Cond := [Cond.fieldLink RX5 41 "DrawStreamsModel" "thrown" "I", Cond.constantLong RX5 111 (1000), Cond.methodLink RX5 104 yX5_isCoin, Cond.instanceMethod yX5_isCoin, Cond.selects RX5 yX5_isCoin yX5_isCoin, Cond.initialized RX5, Cond.code yX5_isCoin cX5_isCoin 4 (some .boolean), Cond.methodLink RX5 77 yX5_isDrawer, Cond.instanceMethod yX5_isDrawer, Cond.selects RX5 yX5_isDrawer yX5_isDrawer, Cond.code yX5_isDrawer cX5_isDrawer 2 (some .boolean), Cond.fieldLink RX5 62 "DrawStreamsModel" "drawers" "I", Cond.methodLink RX5 58 yX5_in, Cond.static yX5_in, Cond.code yX5_in cX5_in 6 (some .boolean), Cond.methodLink RX5 108 yX5_tossed, Cond.instanceMethod yX5_tossed, Cond.selects RX5 yX5_tossed yX5_tossed, Cond.code yX5_tossed cX5_tossed 13 (some .boolean), Cond.methodLink RX5 84 yX5_take, Cond.instanceMethod yX5_take, Cond.selects RX5 yX5_take yX5_take, Cond.code yX5_take cX5_take 4 (some .long), Cond.fieldLink RX5 7 "DrawStreamsModel" "keyBits" "[J"]
def wsX5_hits_r2 : List Cond := [Cond.fieldLink RX5 13 "DrawStreamsModel" "keyOf" "[I", Cond.fieldLink RX5 17 "DrawStreamsModel" "streamOf" "[I", Cond.fieldLink RX5 20 "DrawStreamsModel" "placeOf" "[J", Cond.constantLong RX5 75 (4), Cond.fieldLink RX5 32 "DrawStreamsModel" "x" "[J", Cond.methodLink RX5 69 yX5_block, Cond.instanceMethod yX5_block, Cond.selects RX5 yX5_block yX5_block, Cond.code yX5_block cX5_block 20 none, Cond.constantLong RX5 45 (4294967295), Cond.constantLong RX5 47 (3528531795), Cond.constantLong RX5 49 (3449720151), Cond.constantLong RX5 51 (2654435769), Cond.constantLong RX5 53 (3144134277)]
def wsX5_hits : List Cond := .code yX5_hits cX5_hits 7 (some .int) :: ((wsX5_hits_r1 ++ wsX5_hits_r2) ++ wsX50 ++ (vx_atM "java/lang/ArithmeticException" ["java/lang/RuntimeException", "java/lang/Exception"]).filter goodWord ++ (vx_atM "java/lang/ArrayIndexOutOfBoundsException" ["java/lang/IndexOutOfBoundsException", "java/lang/RuntimeException", "java/lang/Exception"]).filter goodWord)
def wsX5_mask_r1 : List Cond := [Cond.fieldLink RX5 41 "DrawStreamsModel" "thrown" "I", Cond.constantLong RX5 92 (64), Cond.methodLink RX5 104 yX5_isCoin, Cond.instanceMethod yX5_isCoin, Cond.selects RX5 yX5_isCoin yX5_isCoin, Cond.initialized RX5, Cond.code yX5_isCoin cX5_isCoin 4 (some .boolean), Cond.methodLink RX5 77 yX5_isDrawer, Cond.instanceMethod yX5_isDrawer, Cond.selects RX5 yX5_isDrawer yX5_isDrawer, Cond.code yX5_isDrawer cX5_isDrawer 2 (some .boolean), Cond.fieldLink RX5 62 "DrawStreamsModel" "drawers" "I", Cond.methodLink RX5 58 yX5_in, Cond.static yX5_in, Cond.code yX5_in cX5_in 6 (some .boolean), Cond.methodLink RX5 108 yX5_tossed, Cond.instanceMethod yX5_tossed, Cond.selects RX5 yX5_tossed yX5_tossed, Cond.code yX5_tossed cX5_tossed 13 (some .boolean), Cond.methodLink RX5 84 yX5_take, Cond.instanceMethod yX5_take, Cond.selects RX5 yX5_take yX5_take, Cond.code yX5_take cX5_take 4 (some .long), Cond.fieldLink RX5 7 "DrawStreamsModel" "keyBits" "[J"]
def wsX5_mask_r2 : List Cond := [Cond.fieldLink RX5 13 "DrawStreamsModel" "keyOf" "[I", Cond.fieldLink RX5 17 "DrawStreamsModel" "streamOf" "[I", Cond.fieldLink RX5 20 "DrawStreamsModel" "placeOf" "[J", Cond.constantLong RX5 75 (4), Cond.fieldLink RX5 32 "DrawStreamsModel" "x" "[J", Cond.methodLink RX5 69 yX5_block, Cond.instanceMethod yX5_block, Cond.selects RX5 yX5_block yX5_block, Cond.code yX5_block cX5_block 20 none, Cond.constantLong RX5 45 (4294967295), Cond.constantLong RX5 47 (3528531795), Cond.constantLong RX5 49 (3449720151), Cond.constantLong RX5 51 (2654435769), Cond.constantLong RX5 53 (3144134277)]
def wsX5_mask : List Cond := .code yX5_mask cX5_mask 8 (some .long) :: ((wsX5_mask_r1 ++ wsX5_mask_r2) ++ wsX50 ++ (vx_atM "java/lang/ArithmeticException" ["java/lang/RuntimeException", "java/lang/Exception"]).filter goodWord ++ (vx_atM "java/lang/ArrayIndexOutOfBoundsException" ["java/lang/IndexOutOfBoundsException", "java/lang/RuntimeException", "java/lang/Exception"]).filter goodWord)
def wsX5_digit : List Cond := .code yX5_digit cX5_digit 4 (some .long) :: ([.fieldLink RX5 38 "DrawStreamsModel" "known" "[I", .fieldLink RX5 35 "DrawStreamsModel" "digits" "[J", .methodLink RX5 84 yX5_take, .instanceMethod yX5_take, .selects RX5 yX5_take yX5_take, .initialized RX5, .code yX5_take cX5_take 4 (some .long), .fieldLink RX5 7 "DrawStreamsModel" "keyBits" "[J", .fieldLink RX5 13 "DrawStreamsModel" "keyOf" "[I", .fieldLink RX5 17 "DrawStreamsModel" "streamOf" "[I", .fieldLink RX5 20 "DrawStreamsModel" "placeOf" "[J", .constantLong RX5 75 (4), .fieldLink RX5 32 "DrawStreamsModel" "x" "[J", .methodLink RX5 69 yX5_block, .instanceMethod yX5_block, .selects RX5 yX5_block yX5_block, .code yX5_block cX5_block 20 none, .constantLong RX5 45 (4294967295), .constantLong RX5 47 (3528531795), .constantLong RX5 49 (3449720151), .constantLong RX5 51 (2654435769), .constantLong RX5 53 (3144134277)] ++ wsX50 ++ (vx_atM "java/lang/ArrayIndexOutOfBoundsException" ["java/lang/IndexOutOfBoundsException", "java/lang/RuntimeException", "java/lang/Exception"]).filter goodWord)
def wsX5_isLess_r1 : List Cond := [Cond.methodLink RX5 113 yX5_digit, Cond.instanceMethod yX5_digit, Cond.selects RX5 yX5_digit yX5_digit, Cond.initialized RX5, Cond.code yX5_digit cX5_digit 4 (some .long), Cond.fieldLink RX5 38 "DrawStreamsModel" "known" "[I", Cond.fieldLink RX5 35 "DrawStreamsModel" "digits" "[J", Cond.methodLink RX5 84 yX5_take, Cond.instanceMethod yX5_take, Cond.selects RX5 yX5_take yX5_take, Cond.code yX5_take cX5_take 4 (some .long), Cond.fieldLink RX5 7 "DrawStreamsModel" "keyBits" "[J", Cond.fieldLink RX5 13 "DrawStreamsModel" "keyOf" "[I", Cond.fieldLink RX5 17 "DrawStreamsModel" "streamOf" "[I", Cond.fieldLink RX5 20 "DrawStreamsModel" "placeOf" "[J", Cond.constantLong RX5 75 (4), Cond.fieldLink RX5 32 "DrawStreamsModel" "x" "[J", Cond.methodLink RX5 69 yX5_block, Cond.instanceMethod yX5_block, Cond.selects RX5 yX5_block yX5_block, Cond.code yX5_block cX5_block 20 none, Cond.constantLong RX5 45 (4294967295), Cond.constantLong RX5 47 (3528531795), Cond.constantLong RX5 49 (3449720151)]
def wsX5_isLess_r2 : List Cond := [Cond.constantLong RX5 51 (2654435769), Cond.constantLong RX5 53 (3144134277)]
def wsX5_isLess : List Cond := .code yX5_isLess cX5_isLess 9 (some .boolean) :: ((wsX5_isLess_r1 ++ wsX5_isLess_r2) ++ wsX50 ++ (vx_atM "java/lang/ArrayIndexOutOfBoundsException" ["java/lang/IndexOutOfBoundsException", "java/lang/RuntimeException", "java/lang/Exception"]).filter goodWord)
def wsX5_half_r1 : List Cond := [Cond.fieldLink RX5 38 "DrawStreamsModel" "known" "[I", Cond.constantLong RX5 117 (2147483648), Cond.methodLink RX5 113 yX5_digit, Cond.instanceMethod yX5_digit, Cond.selects RX5 yX5_digit yX5_digit, Cond.initialized RX5, Cond.code yX5_digit cX5_digit 4 (some .long), Cond.fieldLink RX5 35 "DrawStreamsModel" "digits" "[J", Cond.methodLink RX5 84 yX5_take, Cond.instanceMethod yX5_take, Cond.selects RX5 yX5_take yX5_take, Cond.code yX5_take cX5_take 4 (some .long), Cond.fieldLink RX5 7 "DrawStreamsModel" "keyBits" "[J", Cond.fieldLink RX5 13 "DrawStreamsModel" "keyOf" "[I", Cond.fieldLink RX5 17 "DrawStreamsModel" "streamOf" "[I", Cond.fieldLink RX5 20 "DrawStreamsModel" "placeOf" "[J", Cond.constantLong RX5 75 (4), Cond.fieldLink RX5 32 "DrawStreamsModel" "x" "[J", Cond.methodLink RX5 69 yX5_block, Cond.instanceMethod yX5_block, Cond.selects RX5 yX5_block yX5_block, Cond.code yX5_block cX5_block 20 none, Cond.constantLong RX5 45 (4294967295), Cond.constantLong RX5 47 (3528531795)]
def wsX5_half_r2 : List Cond := [Cond.constantLong RX5 49 (3449720151), Cond.constantLong RX5 51 (2654435769), Cond.constantLong RX5 53 (3144134277), Cond.methodLink RX5 119 yX5_isLess, Cond.instanceMethod yX5_isLess, Cond.selects RX5 yX5_isLess yX5_isLess, Cond.code yX5_isLess cX5_isLess 9 (some .boolean)]
def wsX5_half : List Cond := .code yX5_half cX5_half 3 (some .boolean) :: ((wsX5_half_r1 ++ wsX5_half_r2) ++ wsX50 ++ (vx_atM "java/lang/ArrayIndexOutOfBoundsException" ["java/lang/IndexOutOfBoundsException", "java/lang/RuntimeException", "java/lang/Exception"]).filter goodWord)
def wsX5_stays_r1 : List Cond := [Cond.fieldLink RX5 38 "DrawStreamsModel" "known" "[I", Cond.constantLong RX5 122 (2), Cond.methodLink RX5 119 yX5_isLess, Cond.instanceMethod yX5_isLess, Cond.selects RX5 yX5_isLess yX5_isLess, Cond.initialized RX5, Cond.code yX5_isLess cX5_isLess 9 (some .boolean), Cond.methodLink RX5 113 yX5_digit, Cond.instanceMethod yX5_digit, Cond.selects RX5 yX5_digit yX5_digit, Cond.code yX5_digit cX5_digit 4 (some .long), Cond.fieldLink RX5 35 "DrawStreamsModel" "digits" "[J", Cond.methodLink RX5 84 yX5_take, Cond.instanceMethod yX5_take, Cond.selects RX5 yX5_take yX5_take, Cond.code yX5_take cX5_take 4 (some .long), Cond.fieldLink RX5 7 "DrawStreamsModel" "keyBits" "[J", Cond.fieldLink RX5 13 "DrawStreamsModel" "keyOf" "[I", Cond.fieldLink RX5 17 "DrawStreamsModel" "streamOf" "[I", Cond.fieldLink RX5 20 "DrawStreamsModel" "placeOf" "[J", Cond.constantLong RX5 75 (4), Cond.fieldLink RX5 32 "DrawStreamsModel" "x" "[J", Cond.methodLink RX5 69 yX5_block, Cond.instanceMethod yX5_block]
def wsX5_stays_r2 : List Cond := [Cond.selects RX5 yX5_block yX5_block, Cond.code yX5_block cX5_block 20 none, Cond.constantLong RX5 45 (4294967295), Cond.constantLong RX5 47 (3528531795), Cond.constantLong RX5 49 (3449720151), Cond.constantLong RX5 51 (2654435769), Cond.constantLong RX5 53 (3144134277), Cond.methodLink RX5 94 yX5_less, Cond.instanceMethod yX5_less, Cond.selects RX5 yX5_less yX5_less, Cond.code yX5_less cX5_less 7 (some .long), Cond.fieldLink RX5 23 "DrawStreamsModel" "rejected" "[J", Cond.methodLink RX5 88 yX5_draw, Cond.instanceMethod yX5_draw, Cond.selects RX5 yX5_draw yX5_draw, Cond.code yX5_draw cX5_draw 5 (some .long)]
def wsX5_stays : List Cond := .code yX5_stays cX5_stays 9 (some .boolean) :: ((wsX5_stays_r1 ++ wsX5_stays_r2) ++ wsX50 ++ (vx_atM "java/lang/ArrayIndexOutOfBoundsException" ["java/lang/IndexOutOfBoundsException", "java/lang/RuntimeException", "java/lang/Exception"]).filter goodWord)
def wsX5_normal_r1 : List Cond := [Cond.fieldLink RX5 41 "DrawStreamsModel" "thrown" "I", Cond.fieldLink RX5 38 "DrawStreamsModel" "known" "[I", Cond.methodLink RX5 77 yX5_isDrawer, Cond.instanceMethod yX5_isDrawer, Cond.selects RX5 yX5_isDrawer yX5_isDrawer, Cond.initialized RX5, Cond.code yX5_isDrawer cX5_isDrawer 2 (some .boolean), Cond.fieldLink RX5 62 "DrawStreamsModel" "drawers" "I", Cond.methodLink RX5 58 yX5_in, Cond.static yX5_in, Cond.code yX5_in cX5_in 6 (some .boolean), Cond.methodLink RX5 124 yX5_half, Cond.instanceMethod yX5_half, Cond.selects RX5 yX5_half yX5_half, Cond.code yX5_half cX5_half 3 (some .boolean), Cond.constantLong RX5 117 (2147483648), Cond.methodLink RX5 113 yX5_digit, Cond.instanceMethod yX5_digit, Cond.selects RX5 yX5_digit yX5_digit, Cond.code yX5_digit cX5_digit 4 (some .long), Cond.fieldLink RX5 35 "DrawStreamsModel" "digits" "[J", Cond.methodLink RX5 84 yX5_take, Cond.instanceMethod yX5_take, Cond.selects RX5 yX5_take yX5_take]
def wsX5_normal_r2 : List Cond := [Cond.code yX5_take cX5_take 4 (some .long), Cond.fieldLink RX5 7 "DrawStreamsModel" "keyBits" "[J", Cond.fieldLink RX5 13 "DrawStreamsModel" "keyOf" "[I", Cond.fieldLink RX5 17 "DrawStreamsModel" "streamOf" "[I", Cond.fieldLink RX5 20 "DrawStreamsModel" "placeOf" "[J", Cond.constantLong RX5 75 (4), Cond.fieldLink RX5 32 "DrawStreamsModel" "x" "[J", Cond.methodLink RX5 69 yX5_block, Cond.instanceMethod yX5_block, Cond.selects RX5 yX5_block yX5_block, Cond.code yX5_block cX5_block 20 none, Cond.constantLong RX5 45 (4294967295), Cond.constantLong RX5 47 (3528531795), Cond.constantLong RX5 49 (3449720151), Cond.constantLong RX5 51 (2654435769), Cond.constantLong RX5 53 (3144134277), Cond.methodLink RX5 119 yX5_isLess, Cond.instanceMethod yX5_isLess, Cond.selects RX5 yX5_isLess yX5_isLess, Cond.code yX5_isLess cX5_isLess 9 (some .boolean), Cond.methodLink RX5 127 yX5_stays, Cond.instanceMethod yX5_stays, Cond.selects RX5 yX5_stays yX5_stays, Cond.code yX5_stays cX5_stays 9 (some .boolean)]
def wsX5_normal_r3 : List Cond := [Cond.constantLong RX5 122 (2), Cond.methodLink RX5 94 yX5_less, Cond.instanceMethod yX5_less, Cond.selects RX5 yX5_less yX5_less, Cond.code yX5_less cX5_less 7 (some .long), Cond.fieldLink RX5 23 "DrawStreamsModel" "rejected" "[J", Cond.methodLink RX5 88 yX5_draw, Cond.instanceMethod yX5_draw, Cond.selects RX5 yX5_draw yX5_draw, Cond.code yX5_draw cX5_draw 5 (some .long)]
def wsX5_normal : List Cond := .code yX5_normal cX5_normal 6 (some .long) :: ((wsX5_normal_r1 ++ (wsX5_normal_r2 ++ wsX5_normal_r3)) ++ wsX50 ++ (vx_atM "java/lang/ArrayIndexOutOfBoundsException" ["java/lang/IndexOutOfBoundsException", "java/lang/RuntimeException", "java/lang/Exception"]).filter goodWord)
def wsX5_permutation_r1 : List Cond := [Cond.fieldLink RX5 41 "DrawStreamsModel" "thrown" "I", Cond.constantLong RX5 131 (200), Cond.fieldLink RX5 26 "DrawStreamsModel" "row" "[I", Cond.fieldLink RX5 133 "DrawStreamsModel" "rows" "I", Cond.methodLink RX5 77 yX5_isDrawer, Cond.instanceMethod yX5_isDrawer, Cond.selects RX5 yX5_isDrawer yX5_isDrawer, Cond.initialized RX5, Cond.code yX5_isDrawer cX5_isDrawer 2 (some .boolean), Cond.fieldLink RX5 62 "DrawStreamsModel" "drawers" "I", Cond.methodLink RX5 58 yX5_in, Cond.static yX5_in, Cond.code yX5_in cX5_in 6 (some .boolean), Cond.methodLink RX5 94 yX5_less, Cond.instanceMethod yX5_less, Cond.selects RX5 yX5_less yX5_less, Cond.code yX5_less cX5_less 7 (some .long), Cond.fieldLink RX5 23 "DrawStreamsModel" "rejected" "[J", Cond.methodLink RX5 88 yX5_draw, Cond.instanceMethod yX5_draw, Cond.selects RX5 yX5_draw yX5_draw, Cond.code yX5_draw cX5_draw 5 (some .long), Cond.methodLink RX5 84 yX5_take, Cond.instanceMethod yX5_take]
def wsX5_permutation_r2 : List Cond := [Cond.selects RX5 yX5_take yX5_take, Cond.code yX5_take cX5_take 4 (some .long), Cond.fieldLink RX5 7 "DrawStreamsModel" "keyBits" "[J", Cond.fieldLink RX5 13 "DrawStreamsModel" "keyOf" "[I", Cond.fieldLink RX5 17 "DrawStreamsModel" "streamOf" "[I", Cond.fieldLink RX5 20 "DrawStreamsModel" "placeOf" "[J", Cond.constantLong RX5 75 (4), Cond.fieldLink RX5 32 "DrawStreamsModel" "x" "[J", Cond.methodLink RX5 69 yX5_block, Cond.instanceMethod yX5_block, Cond.selects RX5 yX5_block yX5_block, Cond.code yX5_block cX5_block 20 none, Cond.constantLong RX5 45 (4294967295), Cond.constantLong RX5 47 (3528531795), Cond.constantLong RX5 49 (3449720151), Cond.constantLong RX5 51 (2654435769), Cond.constantLong RX5 53 (3144134277)]
def wsX5_permutation : List Cond := .code yX5_permutation cX5_permutation 6 (some .int) :: ((wsX5_permutation_r1 ++ wsX5_permutation_r2) ++ wsX50 ++ (vx_atM "java/lang/ArrayIndexOutOfBoundsException" ["java/lang/IndexOutOfBoundsException", "java/lang/RuntimeException", "java/lang/Exception"]).filter goodWord)
def wsX5_isThere : List Cond := .code yX5_isThere cX5_isThere 5 (some .boolean) :: ([.fieldLink RX5 26 "DrawStreamsModel" "row" "[I"] ++ wsX50 ++ (vx_atM "java/lang/ArrayIndexOutOfBoundsException" ["java/lang/IndexOutOfBoundsException", "java/lang/RuntimeException", "java/lang/Exception"]).filter goodWord)
def wsX5_subset_r1 : List Cond := [Cond.fieldLink RX5 41 "DrawStreamsModel" "thrown" "I", Cond.constantLong RX5 136 (1000000), Cond.constantLong RX5 131 (200), Cond.fieldLink RX5 26 "DrawStreamsModel" "row" "[I", Cond.fieldLink RX5 133 "DrawStreamsModel" "rows" "I", Cond.methodLink RX5 77 yX5_isDrawer, Cond.instanceMethod yX5_isDrawer, Cond.selects RX5 yX5_isDrawer yX5_isDrawer, Cond.initialized RX5, Cond.code yX5_isDrawer cX5_isDrawer 2 (some .boolean), Cond.fieldLink RX5 62 "DrawStreamsModel" "drawers" "I", Cond.methodLink RX5 58 yX5_in, Cond.static yX5_in, Cond.code yX5_in cX5_in 6 (some .boolean), Cond.methodLink RX5 94 yX5_less, Cond.instanceMethod yX5_less, Cond.selects RX5 yX5_less yX5_less, Cond.code yX5_less cX5_less 7 (some .long), Cond.fieldLink RX5 23 "DrawStreamsModel" "rejected" "[J", Cond.methodLink RX5 88 yX5_draw, Cond.instanceMethod yX5_draw, Cond.selects RX5 yX5_draw yX5_draw, Cond.code yX5_draw cX5_draw 5 (some .long), Cond.methodLink RX5 84 yX5_take]
def wsX5_subset_r2 : List Cond := [Cond.instanceMethod yX5_take, Cond.selects RX5 yX5_take yX5_take, Cond.code yX5_take cX5_take 4 (some .long), Cond.fieldLink RX5 7 "DrawStreamsModel" "keyBits" "[J", Cond.fieldLink RX5 13 "DrawStreamsModel" "keyOf" "[I", Cond.fieldLink RX5 17 "DrawStreamsModel" "streamOf" "[I", Cond.fieldLink RX5 20 "DrawStreamsModel" "placeOf" "[J", Cond.constantLong RX5 75 (4), Cond.fieldLink RX5 32 "DrawStreamsModel" "x" "[J", Cond.methodLink RX5 69 yX5_block, Cond.instanceMethod yX5_block, Cond.selects RX5 yX5_block yX5_block, Cond.code yX5_block cX5_block 20 none, Cond.constantLong RX5 45 (4294967295), Cond.constantLong RX5 47 (3528531795), Cond.constantLong RX5 49 (3449720151), Cond.constantLong RX5 51 (2654435769), Cond.constantLong RX5 53 (3144134277), Cond.methodLink RX5 138 yX5_isThere, Cond.instanceMethod yX5_isThere, Cond.selects RX5 yX5_isThere yX5_isThere, Cond.code yX5_isThere cX5_isThere 5 (some .boolean)]
def wsX5_subset : List Cond := .code yX5_subset cX5_subset 9 (some .int) :: ((wsX5_subset_r1 ++ wsX5_subset_r2) ++ wsX50 ++ (vx_atM "java/lang/ArrayIndexOutOfBoundsException" ["java/lang/IndexOutOfBoundsException", "java/lang/RuntimeException", "java/lang/Exception"]).filter goodWord)
def wsX5_at : List Cond := .code yX5_at cX5_at 2 (some .int) :: ([.fieldLink RX5 41 "DrawStreamsModel" "thrown" "I", .fieldLink RX5 133 "DrawStreamsModel" "rows" "I", .fieldLink RX5 26 "DrawStreamsModel" "row" "[I", .methodLink RX5 58 yX5_in, .static yX5_in, .initialized RX5, .code yX5_in cX5_in 6 (some .boolean)] ++ wsX50 ++ (vx_atM "java/lang/ArrayIndexOutOfBoundsException" ["java/lang/IndexOutOfBoundsException", "java/lang/RuntimeException", "java/lang/Exception"]).filter goodWord)
def wsX5_weight : List Cond := .code yX5_weight cX5_weight 6 (some .long) :: ([.fieldLink RX5 41 "DrawStreamsModel" "thrown" "I", .constantLong RX5 141 (31), .constantLong RX5 143 (1000000000000), .constantLong RX5 73 (-1), .fieldLink RX5 29 "DrawStreamsModel" "weights" "[J", .methodLink RX5 58 yX5_in, .static yX5_in, .initialized RX5, .code yX5_in cX5_in 6 (some .boolean)] ++ wsX50 ++ (vx_atM "java/lang/ArrayIndexOutOfBoundsException" ["java/lang/IndexOutOfBoundsException", "java/lang/RuntimeException", "java/lang/Exception"]).filter goodWord)
def wsX5_choose_r1 : List Cond := [Cond.fieldLink RX5 41 "DrawStreamsModel" "thrown" "I", Cond.fieldLink RX5 29 "DrawStreamsModel" "weights" "[J", Cond.methodLink RX5 77 yX5_isDrawer, Cond.instanceMethod yX5_isDrawer, Cond.selects RX5 yX5_isDrawer yX5_isDrawer, Cond.initialized RX5, Cond.code yX5_isDrawer cX5_isDrawer 2 (some .boolean), Cond.fieldLink RX5 62 "DrawStreamsModel" "drawers" "I", Cond.methodLink RX5 58 yX5_in, Cond.static yX5_in, Cond.code yX5_in cX5_in 6 (some .boolean), Cond.methodLink RX5 94 yX5_less, Cond.instanceMethod yX5_less, Cond.selects RX5 yX5_less yX5_less, Cond.code yX5_less cX5_less 7 (some .long), Cond.fieldLink RX5 23 "DrawStreamsModel" "rejected" "[J", Cond.methodLink RX5 88 yX5_draw, Cond.instanceMethod yX5_draw, Cond.selects RX5 yX5_draw yX5_draw, Cond.code yX5_draw cX5_draw 5 (some .long), Cond.methodLink RX5 84 yX5_take, Cond.instanceMethod yX5_take, Cond.selects RX5 yX5_take yX5_take, Cond.code yX5_take cX5_take 4 (some .long)]
def wsX5_choose_r2 : List Cond := [Cond.fieldLink RX5 7 "DrawStreamsModel" "keyBits" "[J", Cond.fieldLink RX5 13 "DrawStreamsModel" "keyOf" "[I", Cond.fieldLink RX5 17 "DrawStreamsModel" "streamOf" "[I", Cond.fieldLink RX5 20 "DrawStreamsModel" "placeOf" "[J", Cond.constantLong RX5 75 (4), Cond.fieldLink RX5 32 "DrawStreamsModel" "x" "[J", Cond.methodLink RX5 69 yX5_block, Cond.instanceMethod yX5_block, Cond.selects RX5 yX5_block yX5_block, Cond.code yX5_block cX5_block 20 none, Cond.constantLong RX5 45 (4294967295), Cond.constantLong RX5 47 (3528531795), Cond.constantLong RX5 49 (3449720151), Cond.constantLong RX5 51 (2654435769), Cond.constantLong RX5 53 (3144134277)]
def wsX5_choose : List Cond := .code yX5_choose cX5_choose 7 (some .int) :: ((wsX5_choose_r1 ++ wsX5_choose_r2) ++ wsX50 ++ (vx_atM "java/lang/ArrayIndexOutOfBoundsException" ["java/lang/IndexOutOfBoundsException", "java/lang/RuntimeException", "java/lang/Exception"]).filter goodWord)
def wsX5_halfOf : List Cond := .code yX5_halfOf cX5_halfOf 2 (some .int) :: ([])
def wsX5_mixed : List Cond := .code yX5_mixed cX5_mixed 7 (some .long) :: ([.fieldLink RX5 7 "DrawStreamsModel" "keyBits" "[J", .fieldLink RX5 32 "DrawStreamsModel" "x" "[J", .methodLink RX5 69 yX5_block, .instanceMethod yX5_block, .selects RX5 yX5_block yX5_block, .initialized RX5, .code yX5_block cX5_block 20 none, .constantLong RX5 45 (4294967295), .constantLong RX5 47 (3528531795), .constantLong RX5 49 (3449720151), .constantLong RX5 51 (2654435769), .constantLong RX5 53 (3144134277)] ++ wsX50 ++ (vx_atM "java/lang/ArrayIndexOutOfBoundsException" ["java/lang/IndexOutOfBoundsException", "java/lang/RuntimeException", "java/lang/Exception"]).filter goodWord)
def wsX5_isOrder : List Cond := .code yX5_isOrder cX5_isOrder 5 (some .boolean) :: ([.constantLong RX5 145 (1073741824), .methodLink RX5 65 yX5_isKey, .instanceMethod yX5_isKey, .selects RX5 yX5_isKey yX5_isKey, .initialized RX5, .code yX5_isKey cX5_isKey 2 (some .boolean), .fieldLink RX5 55 "DrawStreamsModel" "keys" "I", .methodLink RX5 58 yX5_in, .static yX5_in, .code yX5_in cX5_in 6 (some .boolean)] ++ wsX50)
def wsX5_secret_r1 : List Cond := [Cond.fieldLink RX5 41 "DrawStreamsModel" "thrown" "I", Cond.methodLink RX5 147 yX5_isOrder, Cond.instanceMethod yX5_isOrder, Cond.selects RX5 yX5_isOrder yX5_isOrder, Cond.initialized RX5, Cond.code yX5_isOrder cX5_isOrder 5 (some .boolean), Cond.constantLong RX5 145 (1073741824), Cond.methodLink RX5 65 yX5_isKey, Cond.instanceMethod yX5_isKey, Cond.selects RX5 yX5_isKey yX5_isKey, Cond.code yX5_isKey cX5_isKey 2 (some .boolean), Cond.fieldLink RX5 55 "DrawStreamsModel" "keys" "I", Cond.methodLink RX5 58 yX5_in, Cond.static yX5_in, Cond.code yX5_in cX5_in 6 (some .boolean), Cond.methodLink RX5 151 yX5_halfOf, Cond.static yX5_halfOf, Cond.code yX5_halfOf cX5_halfOf 2 (some .int), Cond.methodLink RX5 155 yX5_mixed, Cond.instanceMethod yX5_mixed, Cond.selects RX5 yX5_mixed yX5_mixed, Cond.code yX5_mixed cX5_mixed 7 (some .long), Cond.fieldLink RX5 7 "DrawStreamsModel" "keyBits" "[J", Cond.fieldLink RX5 32 "DrawStreamsModel" "x" "[J"]
def wsX5_secret_r2 : List Cond := [Cond.methodLink RX5 69 yX5_block, Cond.instanceMethod yX5_block, Cond.selects RX5 yX5_block yX5_block, Cond.code yX5_block cX5_block 20 none, Cond.constantLong RX5 45 (4294967295), Cond.constantLong RX5 47 (3528531795), Cond.constantLong RX5 49 (3449720151), Cond.constantLong RX5 51 (2654435769), Cond.constantLong RX5 53 (3144134277)]
def wsX5_secret : List Cond := .code yX5_secret cX5_secret 16 (some .int) :: ((wsX5_secret_r1 ++ wsX5_secret_r2) ++ wsX50 ++ (vx_atM "java/lang/ArrayIndexOutOfBoundsException" ["java/lang/IndexOutOfBoundsException", "java/lang/RuntimeException", "java/lang/Exception"]).filter goodWord)
def wsX5_back_r1 : List Cond := [Cond.fieldLink RX5 41 "DrawStreamsModel" "thrown" "I", Cond.methodLink RX5 147 yX5_isOrder, Cond.instanceMethod yX5_isOrder, Cond.selects RX5 yX5_isOrder yX5_isOrder, Cond.initialized RX5, Cond.code yX5_isOrder cX5_isOrder 5 (some .boolean), Cond.constantLong RX5 145 (1073741824), Cond.methodLink RX5 65 yX5_isKey, Cond.instanceMethod yX5_isKey, Cond.selects RX5 yX5_isKey yX5_isKey, Cond.code yX5_isKey cX5_isKey 2 (some .boolean), Cond.fieldLink RX5 55 "DrawStreamsModel" "keys" "I", Cond.methodLink RX5 58 yX5_in, Cond.static yX5_in, Cond.code yX5_in cX5_in 6 (some .boolean), Cond.methodLink RX5 151 yX5_halfOf, Cond.static yX5_halfOf, Cond.code yX5_halfOf cX5_halfOf 2 (some .int), Cond.methodLink RX5 155 yX5_mixed, Cond.instanceMethod yX5_mixed, Cond.selects RX5 yX5_mixed yX5_mixed, Cond.code yX5_mixed cX5_mixed 7 (some .long), Cond.fieldLink RX5 7 "DrawStreamsModel" "keyBits" "[J", Cond.fieldLink RX5 32 "DrawStreamsModel" "x" "[J"]
def wsX5_back_r2 : List Cond := [Cond.methodLink RX5 69 yX5_block, Cond.instanceMethod yX5_block, Cond.selects RX5 yX5_block yX5_block, Cond.code yX5_block cX5_block 20 none, Cond.constantLong RX5 45 (4294967295), Cond.constantLong RX5 47 (3528531795), Cond.constantLong RX5 49 (3449720151), Cond.constantLong RX5 51 (2654435769), Cond.constantLong RX5 53 (3144134277)]
def wsX5_back : List Cond := .code yX5_back cX5_back 16 (some .int) :: ((wsX5_back_r1 ++ wsX5_back_r2) ++ wsX50 ++ (vx_atM "java/lang/ArrayIndexOutOfBoundsException" ["java/lang/IndexOutOfBoundsException", "java/lang/RuntimeException", "java/lang/Exception"]).filter goodWord)
def wsX5_count : List Cond := .code yX5_count cX5_count 2 (some .int) :: ([.fieldLink RX5 41 "DrawStreamsModel" "thrown" "I", .fieldLink RX5 55 "DrawStreamsModel" "keys" "I", .fieldLink RX5 62 "DrawStreamsModel" "drawers" "I", .fieldLink RX5 133 "DrawStreamsModel" "rows" "I"] ++ wsX50)
def wsJx00060_init_a7421 : List Cond := .code yJx00060_init_a7421 cJx00060_init_a7421 2 none :: ([])
def wsL_below_r1 : List Cond := [Cond.classLink RL 13 "java/lang/ArithmeticException", Cond.methodLink RL 7 yX4_below, Cond.instanceMethod yX4_below, Cond.selects RX4 yX4_below yX4_below, Cond.initialized RX4, Cond.code yX4_below cX4_below 5 (some .long), Cond.classLink RX4 91 "java/lang/ArithmeticException", Cond.initialized "java/lang/ArithmeticException", Cond.constantLong RX4 56 (-1), Cond.methodLink RX4 66 yX4_drawerOf, Cond.instanceMethod yX4_drawerOf, Cond.selects RX4 yX4_drawerOf yX4_drawerOf, Cond.code yX4_drawerOf cX4_drawerOf 2 (some (.object "DrawStreams$Drawer")), Cond.fieldLink RX4 60 "DrawStreams" "drawerCount" "I", Cond.fieldLink RX4 29 "DrawStreams" "drawers" "[LDrawStreams$Drawer;", Cond.methodLink RX4 98 yX2_takeBelow, Cond.instanceMethod yX2_takeBelow, Cond.selects RX2 yX2_takeBelow yX2_takeBelow, Cond.initialized RX2, Cond.code yX2_takeBelow cX2_takeBelow 7 (some .long), Cond.constant RX2 45 (1000000), Cond.fieldLink RX2 49 "DrawStreams$Drawer" "rejected" "J", Cond.methodLink RX2 46 yX2_takeBits, Cond.instanceMethod yX2_takeBits]
def wsL_below_r2 : List Cond := [Cond.selects RX2 yX2_takeBits yX2_takeBits, Cond.code yX2_takeBits cX2_takeBits 6 (some .long), Cond.methodLink RX2 41 yX2_takeWord, Cond.instanceMethod yX2_takeWord, Cond.selects RX2 yX2_takeWord yX2_takeWord, Cond.code yX2_takeWord cX2_takeWord 3 (some .long), Cond.fieldLink RX2 9 "DrawStreams$Drawer" "block" "LDrawStreams$Block;", Cond.fieldLink RX2 19 "DrawStreams$Drawer" "keyBits" "J", Cond.fieldLink RX2 23 "DrawStreams$Drawer" "stream" "I", Cond.fieldLink RX2 26 "DrawStreams$Drawer" "place" "J", Cond.constantLong RX2 35 (3), Cond.methodLink RX2 29 yX0_make, Cond.instanceMethod yX0_make, Cond.selects RX0 yX0_make yX0_make, Cond.initialized RX0, Cond.code yX0_make cX0_make 16 none, Cond.fieldLink RX0 9 "DrawStreams$Block" "madeSort" "I", Cond.fieldLink RX0 15 "DrawStreams$Block" "madeNumber" "J", Cond.fieldLink RX0 19 "DrawStreams$Block" "madeStream" "I", Cond.fieldLink RX0 22 "DrawStreams$Block" "madeKey" "J", Cond.constantLong RX0 25 (4294967295), Cond.fieldLink RX0 27 "DrawStreams$Block" "x0" "J", Cond.fieldLink RX0 30 "DrawStreams$Block" "x1" "J", Cond.fieldLink RX0 33 "DrawStreams$Block" "x2" "J"]
def wsL_below_r3 : List Cond := [Cond.fieldLink RX0 36 "DrawStreams$Block" "x3" "J", Cond.constantLong RX0 39 (3528531795), Cond.constantLong RX0 41 (3449720151), Cond.constantLong RX0 43 (2654435769), Cond.constantLong RX0 45 (3144134277), Cond.methodLink RX2 37 yX0_part, Cond.instanceMethod yX0_part, Cond.selects RX0 yX0_part yX0_part, Cond.code yX0_part cX0_part 2 (some .long)]
def wsL_below : List Cond := .codeWith yL_below cL_below 6 (some .int) [(0, 10, 13, 13)] :: ((wsL_below_r1 ++ (wsL_below_r2 ++ wsL_below_r3)) ++ wsX40 ++ wsX20 ++ wsX00 ++ (vx_atM "java/lang/ArrayIndexOutOfBoundsException" ["java/lang/IndexOutOfBoundsException", "java/lang/RuntimeException", "java/lang/Exception"]).filter goodWord ++ (vx_atS RX4 95 "java/lang/ArithmeticException" ["java/lang/RuntimeException", "java/lang/Exception"]).filter goodWord)
def wsL_at : List Cond := .codeWith yL_at cL_at 4 (some .int) [(0, 9, 12, 19)] :: ([.classLink RL 19 "java/lang/ArrayIndexOutOfBoundsException", .methodLink RL 15 yX4_at, .instanceMethod yX4_at, .selects RX4 yX4_at yX4_at, .initialized RX4, .code yX4_at cX4_at 2 (some .int), .fieldLink RX4 135 "DrawStreams" "rowSize" "I", .classLink RX4 141 RJx00060, .instantiable RJx00060 6, .initialized RJx00060, .fieldLink RX4 33 "DrawStreams" "row" "[I"] ++ wsX40 ++ wsJx000600 ++ (vx_atM "java/lang/ArrayIndexOutOfBoundsException" ["java/lang/IndexOutOfBoundsException", "java/lang/RuntimeException", "java/lang/Exception"]).filter goodWord)
def wsL_law0_r1 : List Cond := [Cond.classLink RL 8 RX4, Cond.instantiable RX4 9, Cond.initialized RX4, Cond.classLink RL 22 RX5, Cond.instantiable RX5 14, Cond.initialized RX5, Cond.arrayClass .long, Cond.constantLong RL 25 (4294967295), Cond.methodLink RL 21 yX4_init, Cond.instanceMethod yX4_init, Cond.code yX4_init cX4_init 1 none, Cond.methodLink RX4 1 objectInit, Cond.instanceMethod objectInit, Cond.code objectInit ⟨#[0xb1]⟩ 1 none, Cond.classLink RX4 7 RX0, Cond.instantiable RX0 8, Cond.initialized RX0, Cond.fieldLink RX4 10 "DrawStreams" "block" "LDrawStreams$Block;", Cond.classLink RX4 16 RX3, Cond.instantiable RX3 6, Cond.initialized RX3, Cond.fieldLink RX4 19 "DrawStreams" "normals" "LDrawStreams$Normals;", Cond.fieldLink RX4 23 "DrawStreams" "keys" "[J", Cond.classLink RX4 27 RX2]
def wsL_law0_r2 : List Cond := [Cond.fieldLink RX4 29 "DrawStreams" "drawers" "[LDrawStreams$Drawer;", Cond.arrayClass .int, Cond.fieldLink RX4 33 "DrawStreams" "row" "[I", Cond.fieldLink RX4 37 "DrawStreams" "weights" "[J", Cond.instanceMethod yX0_init, Cond.code yX0_init cX0_init 1 none, Cond.methodLink RX0 3 objectInit, Cond.fieldLink RX0 9 "DrawStreams$Block" "madeSort" "I", Cond.instanceMethod yX3_init, Cond.code yX3_init cX3_init 1 none, Cond.methodLink RX3 3 objectInit, Cond.classLink RX3 9 RX1, Cond.instantiable RX1 2, Cond.initialized RX1, Cond.fieldLink RX3 12 "DrawStreams$Normals" "x" "LDrawStreams$Deviate;", Cond.fieldLink RX3 18 "DrawStreams$Normals" "\x72" "LDrawStreams$Deviate;", Cond.fieldLink RX3 21 "DrawStreams$Normals" "evenLink" "LDrawStreams$Deviate;", Cond.fieldLink RX3 24 "DrawStreams$Normals" "oddLink" "LDrawStreams$Deviate;", Cond.fieldLink RX3 27 "DrawStreams$Normals" "a" "LDrawStreams$Deviate;", Cond.fieldLink RX3 30 "DrawStreams$Normals" "b" "LDrawStreams$Deviate;", Cond.instanceMethod yX1_init, Cond.code yX1_init cX1_init 1 none, Cond.methodLink RX1 1 objectInit, Cond.fieldLink RX1 9 "DrawStreams$Deviate" "digits" "[J"]
def wsL_law0_r3 : List Cond := [Cond.methodLink RL 24 yX5_init, Cond.instanceMethod yX5_init, Cond.code yX5_init cX5_init 1 none, Cond.methodLink RX5 1 objectInit, Cond.fieldLink RX5 7 "DrawStreamsModel" "keyBits" "[J", Cond.fieldLink RX5 13 "DrawStreamsModel" "keyOf" "[I", Cond.fieldLink RX5 17 "DrawStreamsModel" "streamOf" "[I", Cond.fieldLink RX5 20 "DrawStreamsModel" "placeOf" "[J", Cond.fieldLink RX5 23 "DrawStreamsModel" "rejected" "[J", Cond.fieldLink RX5 26 "DrawStreamsModel" "row" "[I", Cond.fieldLink RX5 29 "DrawStreamsModel" "weights" "[J", Cond.fieldLink RX5 32 "DrawStreamsModel" "x" "[J", Cond.fieldLink RX5 35 "DrawStreamsModel" "digits" "[J", Cond.fieldLink RX5 38 "DrawStreamsModel" "known" "[I", Cond.methodLink RL 27 yX4_key, Cond.instanceMethod yX4_key, Cond.selects RX4 yX4_key yX4_key, Cond.code yX4_key cX4_key 3 (some .int), Cond.fieldLink RX4 40 "DrawStreams" "keyCount" "I", Cond.methodLink RL 31 yX5_key, Cond.instanceMethod yX5_key, Cond.selects RX5 yX5_key yX5_key, Cond.code yX5_key cX5_key 3 (some .int), Cond.fieldLink RX5 41 "DrawStreamsModel" "thrown" "I"]
def wsL_law0_r4 : List Cond := [Cond.fieldLink RX5 55 "DrawStreamsModel" "keys" "I", Cond.methodLink RL 32 yX4_split, Cond.instanceMethod yX4_split, Cond.selects RX4 yX4_split yX4_split, Cond.code yX4_split cX4_split 3 (some .int), Cond.methodLink RX4 44 yX4_isKey, Cond.instanceMethod yX4_isKey, Cond.selects RX4 yX4_isKey yX4_isKey, Cond.code yX4_isKey cX4_isKey 2 (some .boolean), Cond.methodLink RX4 48 yX0_make, Cond.instanceMethod yX0_make, Cond.selects RX0 yX0_make yX0_make, Cond.code yX0_make cX0_make 16 none, Cond.fieldLink RX0 15 "DrawStreams$Block" "madeNumber" "J", Cond.fieldLink RX0 19 "DrawStreams$Block" "madeStream" "I", Cond.fieldLink RX0 22 "DrawStreams$Block" "madeKey" "J", Cond.constantLong RX0 25 (4294967295), Cond.fieldLink RX0 27 "DrawStreams$Block" "x0" "J", Cond.fieldLink RX0 30 "DrawStreams$Block" "x1" "J", Cond.fieldLink RX0 33 "DrawStreams$Block" "x2" "J", Cond.fieldLink RX0 36 "DrawStreams$Block" "x3" "J", Cond.constantLong RX0 39 (3528531795), Cond.constantLong RX0 41 (3449720151), Cond.constantLong RX0 43 (2654435769)]
def wsL_law0_r5 : List Cond := [Cond.constantLong RX0 45 (3144134277), Cond.methodLink RX4 52 yX0_part, Cond.instanceMethod yX0_part, Cond.selects RX0 yX0_part yX0_part, Cond.code yX0_part cX0_part 2 (some .long), Cond.methodLink RL 36 yX5_split, Cond.instanceMethod yX5_split, Cond.selects RX5 yX5_split yX5_split, Cond.code yX5_split cX5_split 3 (some .int), Cond.methodLink RX5 65 yX5_isKey, Cond.instanceMethod yX5_isKey, Cond.selects RX5 yX5_isKey yX5_isKey, Cond.code yX5_isKey cX5_isKey 2 (some .boolean), Cond.methodLink RX5 58 yX5_in, Cond.static yX5_in, Cond.code yX5_in cX5_in 6 (some .boolean), Cond.methodLink RX5 69 yX5_block, Cond.instanceMethod yX5_block, Cond.selects RX5 yX5_block yX5_block, Cond.code yX5_block cX5_block 20 none, Cond.constantLong RX5 45 (4294967295), Cond.constantLong RX5 47 (3528531795), Cond.constantLong RX5 49 (3449720151), Cond.constantLong RX5 51 (2654435769)]
def wsL_law0_r6 : List Cond := [Cond.constantLong RX5 53 (3144134277), Cond.methodLink RL 37 yX4_bitsOf, Cond.instanceMethod yX4_bitsOf, Cond.selects RX4 yX4_bitsOf yX4_bitsOf, Cond.code yX4_bitsOf cX4_bitsOf 2 (some .long), Cond.constantLong RX4 56 (-1), Cond.methodLink RL 41 yX5_bitsOf, Cond.instanceMethod yX5_bitsOf, Cond.selects RX5 yX5_bitsOf yX5_bitsOf, Cond.code yX5_bitsOf cX5_bitsOf 2 (some .long), Cond.constantLong RX5 73 (-1), Cond.methodLink RL 42 yX4_word, Cond.instanceMethod yX4_word, Cond.selects RX4 yX4_word yX4_word, Cond.code yX4_word cX4_word 5 (some .long), Cond.constantLong RX4 58 (3), Cond.methodLink RL 46 yX5_word, Cond.instanceMethod yX5_word, Cond.selects RX5 yX5_word yX5_word, Cond.code yX5_word cX5_word 5 (some .long), Cond.constantLong RX5 75 (4), Cond.methodLink RL 47 yX4_drawer, Cond.instanceMethod yX4_drawer, Cond.selects RX4 yX4_drawer yX4_drawer]
def wsL_law0_r7 : List Cond := [Cond.code yX4_drawer cX4_drawer 3 (some .int), Cond.fieldLink RX4 60 "DrawStreams" "drawerCount" "I", Cond.instantiable RX2 6, Cond.initialized RX2, Cond.methodLink RX4 63 yX2_init, Cond.instanceMethod yX2_init, Cond.code yX2_init cX2_init 6 none, Cond.methodLink RX2 3 objectInit, Cond.fieldLink RX2 9 "DrawStreams$Drawer" "block" "LDrawStreams$Block;", Cond.fieldLink RX2 15 "DrawStreams$Drawer" "keyNumber" "I", Cond.fieldLink RX2 19 "DrawStreams$Drawer" "keyBits" "J", Cond.fieldLink RX2 23 "DrawStreams$Drawer" "stream" "I", Cond.methodLink RL 50 yX5_drawer, Cond.instanceMethod yX5_drawer, Cond.selects RX5 yX5_drawer yX5_drawer, Cond.code yX5_drawer cX5_drawer 3 (some .int), Cond.fieldLink RX5 62 "DrawStreamsModel" "drawers" "I", Cond.methodLink RL 51 yX4_place, Cond.instanceMethod yX4_place, Cond.selects RX4 yX4_place yX4_place, Cond.code yX4_place cX4_place 5 (some .int), Cond.constantLong RX4 70 (2305843009213693952), Cond.fieldLink RX4 72 "DrawStreams$Drawer" "place" "J", Cond.methodLink RX4 66 yX4_drawerOf]
def wsL_law0_r8 : List Cond := [Cond.instanceMethod yX4_drawerOf, Cond.selects RX4 yX4_drawerOf yX4_drawerOf, Cond.code yX4_drawerOf cX4_drawerOf 2 (some (.object "DrawStreams$Drawer")), Cond.methodLink RL 55 yX5_place, Cond.instanceMethod yX5_place, Cond.selects RX5 yX5_place yX5_place, Cond.code yX5_place cX5_place 4 (some .int), Cond.constantLong RX5 80 (2305843009213693952), Cond.methodLink RX5 77 yX5_isDrawer, Cond.instanceMethod yX5_isDrawer, Cond.selects RX5 yX5_isDrawer yX5_isDrawer, Cond.code yX5_isDrawer cX5_isDrawer 2 (some .boolean), Cond.methodLink RL 56 yX4_told, Cond.instanceMethod yX4_told, Cond.selects RX4 yX4_told yX4_told, Cond.code yX4_told cX4_told 4 (some .long), Cond.fieldLink RX4 76 "DrawStreams$Drawer" "rejected" "J", Cond.fieldLink RX4 79 "DrawStreams$Drawer" "keyNumber" "I", Cond.fieldLink RX4 82 "DrawStreams$Drawer" "stream" "I", Cond.methodLink RL 60 yX5_told, Cond.instanceMethod yX5_told, Cond.selects RX5 yX5_told yX5_told, Cond.code yX5_told cX5_told 3 (some .long), Cond.constantLong RX5 82 (3)]
def wsL_law0_r9 : List Cond := [Cond.methodLink RL 61 yX4_same, Cond.instanceMethod yX4_same, Cond.selects RX4 yX4_same yX4_same, Cond.code yX4_same cX4_same 5 (some .boolean), Cond.fieldLink RX4 85 "DrawStreams$Drawer" "keyBits" "J", Cond.methodLink RL 65 yX5_same, Cond.instanceMethod yX5_same, Cond.selects RX5 yX5_same yX5_same, Cond.code yX5_same cX5_same 3 (some .boolean), Cond.methodLink RL 66 yX4_bits, Cond.instanceMethod yX4_bits, Cond.selects RX4 yX4_bits yX4_bits, Cond.code yX4_bits cX4_bits 4 (some .long), Cond.methodLink RX4 88 yX2_takeBits, Cond.instanceMethod yX2_takeBits, Cond.selects RX2 yX2_takeBits yX2_takeBits, Cond.code yX2_takeBits cX2_takeBits 6 (some .long), Cond.methodLink RX2 41 yX2_takeWord, Cond.instanceMethod yX2_takeWord, Cond.selects RX2 yX2_takeWord yX2_takeWord, Cond.code yX2_takeWord cX2_takeWord 3 (some .long), Cond.fieldLink RX2 26 "DrawStreams$Drawer" "place" "J", Cond.constantLong RX2 35 (3), Cond.methodLink RX2 29 yX0_make]
def wsL_law0_r10 : List Cond := [Cond.methodLink RX2 37 yX0_part, Cond.methodLink RL 69 yX5_bits, Cond.instanceMethod yX5_bits, Cond.selects RX5 yX5_bits yX5_bits, Cond.code yX5_bits cX5_bits 3 (some .long), Cond.constantLong RX5 92 (64), Cond.methodLink RX5 88 yX5_draw, Cond.instanceMethod yX5_draw, Cond.selects RX5 yX5_draw yX5_draw, Cond.code yX5_draw cX5_draw 5 (some .long), Cond.methodLink RX5 84 yX5_take, Cond.instanceMethod yX5_take, Cond.selects RX5 yX5_take yX5_take, Cond.code yX5_take cX5_take 4 (some .long), Cond.methodLink RL 70 yL_below, Cond.static yL_below, Cond.initialized RL, Cond.codeWith yL_below cL_below 6 (some .int) [(0, 10, 13, 13)], Cond.classLink RL 13 "java/lang/ArithmeticException", Cond.methodLink RL 7 yX4_below, Cond.instanceMethod yX4_below, Cond.selects RX4 yX4_below yX4_below, Cond.code yX4_below cX4_below 5 (some .long), Cond.classLink RX4 91 "java/lang/ArithmeticException"]
def wsL_law0_r11 : List Cond := [Cond.initialized "java/lang/ArithmeticException", Cond.methodLink RX4 98 yX2_takeBelow, Cond.instanceMethod yX2_takeBelow, Cond.selects RX2 yX2_takeBelow yX2_takeBelow, Cond.code yX2_takeBelow cX2_takeBelow 7 (some .long), Cond.constant RX2 45 (1000000), Cond.fieldLink RX2 49 "DrawStreams$Drawer" "rejected" "J", Cond.methodLink RX2 46 yX2_takeBits, Cond.methodLink RL 75 yX5_below, Cond.instanceMethod yX5_below, Cond.selects RX5 yX5_below yX5_below, Cond.code yX5_below cX5_below 4 (some .long), Cond.methodLink RX5 94 yX5_less, Cond.instanceMethod yX5_less, Cond.selects RX5 yX5_less yX5_less, Cond.code yX5_less cX5_less 7 (some .long), Cond.methodLink RL 76 yX5_thrown, Cond.instanceMethod yX5_thrown, Cond.selects RX5 yX5_thrown yX5_thrown, Cond.code yX5_thrown cX5_thrown 1 (some .int), Cond.methodLink RL 80 yX4_real, Cond.instanceMethod yX4_real, Cond.selects RX4 yX4_real yX4_real, Cond.code yX4_real cX4_real 3 (some .double)]
def wsL_law0_r12 : List Cond := [Cond.constantDouble RX4 102 (13830554455654793216), Cond.constantDouble RX4 104 (4845873199050653696), Cond.methodLink RL 84 yX5_real, Cond.instanceMethod yX5_real, Cond.selects RX5 yX5_real yX5_real, Cond.code yX5_real cX5_real 2 (some .double), Cond.constantDouble RX5 98 (4845873199050653696), Cond.constantDouble RX5 100 (13830554455654793216), Cond.methodLink RL 85 yX4_single, Cond.instanceMethod yX4_single, Cond.selects RX4 yX4_single yX4_single, Cond.code yX4_single cX4_single 3 (some .float), Cond.constantFloat RX4 106 (3212836864), Cond.constantFloat RX4 107 (1266679808), Cond.methodLink RL 89 yX5_single, Cond.instanceMethod yX5_single, Cond.selects RX5 yX5_single yX5_single, Cond.code yX5_single cX5_single 2 (some .float), Cond.constantFloat RX5 102 (1266679808), Cond.constantFloat RX5 103 (3212836864), Cond.methodLink RL 90 yX4_coin, Cond.instanceMethod yX4_coin, Cond.selects RX4 yX4_coin yX4_coin, Cond.code yX4_coin cX4_coin 5 (some .int)]
def wsL_law0_r13 : List Cond := [Cond.methodLink RX4 108 yX4_isChance, Cond.static yX4_isChance, Cond.code yX4_isChance cX4_isChance 2 (some .boolean), Cond.methodLink RX4 112 yX2_flip, Cond.instanceMethod yX2_flip, Cond.selects RX2 yX2_flip yX2_flip, Cond.code yX2_flip cX2_flip 12 (some .boolean), Cond.methodLink RL 94 yX5_coin, Cond.instanceMethod yX5_coin, Cond.selects RX5 yX5_coin yX5_coin, Cond.code yX5_coin cX5_coin 4 (some .int), Cond.methodLink RX5 104 yX5_isCoin, Cond.instanceMethod yX5_isCoin, Cond.selects RX5 yX5_isCoin yX5_isCoin, Cond.code yX5_isCoin cX5_isCoin 4 (some .boolean), Cond.methodLink RX5 108 yX5_tossed, Cond.instanceMethod yX5_tossed, Cond.selects RX5 yX5_tossed yX5_tossed, Cond.code yX5_tossed cX5_tossed 13 (some .boolean), Cond.methodLink RL 95 yX4_misses, Cond.instanceMethod yX4_misses, Cond.selects RX4 yX4_misses yX4_misses, Cond.code yX4_misses cX4_misses 7 (some .int), Cond.methodLink RL 99 yX5_misses]
def wsL_law0_r14 : List Cond := [Cond.instanceMethod yX5_misses, Cond.selects RX5 yX5_misses yX5_misses, Cond.code yX5_misses cX5_misses 7 (some .int), Cond.constantLong RX5 111 (1000), Cond.methodLink RL 100 yX4_hits, Cond.instanceMethod yX4_hits, Cond.selects RX4 yX4_hits yX4_hits, Cond.code yX4_hits cX4_hits 8 (some .int), Cond.methodLink RL 103 yX5_hits, Cond.instanceMethod yX5_hits, Cond.selects RX5 yX5_hits yX5_hits, Cond.code yX5_hits cX5_hits 7 (some .int), Cond.methodLink RL 104 yX4_mask, Cond.instanceMethod yX4_mask, Cond.selects RX4 yX4_mask yX4_mask, Cond.code yX4_mask cX4_mask 9 (some .long), Cond.methodLink RL 108 yX5_mask, Cond.instanceMethod yX5_mask, Cond.selects RX5 yX5_mask yX5_mask, Cond.code yX5_mask cX5_mask 8 (some .long), Cond.methodLink RL 109 yX4_normal, Cond.instanceMethod yX4_normal, Cond.selects RX4 yX4_normal yX4_normal, Cond.code yX4_normal cX4_normal 5 (some .long)]
def wsL_law0_r15 : List Cond := [Cond.constant RX4 115 (1000000), Cond.methodLink RX4 116 yX3_countHalves, Cond.instanceMethod yX3_countHalves, Cond.selects RX3 yX3_countHalves yX3_countHalves, Cond.code yX3_countHalves cX3_countHalves 3 (some .int), Cond.methodLink RX3 33 yX3_half, Cond.instanceMethod yX3_half, Cond.selects RX3 yX3_half yX3_half, Cond.code yX3_half cX3_half 3 (some .boolean), Cond.constantLong RX3 55 (2147483648), Cond.constant RX3 57 (1000000), Cond.methodLink RX3 37 yX1_renewed, Cond.instanceMethod yX1_renewed, Cond.selects RX1 yX1_renewed yX1_renewed, Cond.code yX1_renewed cX1_renewed 1 (some (.object "DrawStreams$Deviate")), Cond.fieldLink RX1 13 "DrawStreams$Deviate" "known" "I", Cond.methodLink RX3 45 yX1_firstDigit, Cond.instanceMethod yX1_firstDigit, Cond.selects RX1 yX1_firstDigit yX1_firstDigit, Cond.code yX1_firstDigit cX1_firstDigit 2 (some .long), Cond.methodLink RX1 17 yX1_digit, Cond.instanceMethod yX1_digit, Cond.selects RX1 yX1_digit yX1_digit, Cond.code yX1_digit cX1_digit 3 (some .long)]
def wsL_law0_r16 : List Cond := [Cond.methodLink RX1 21 yX2_takeWord, Cond.methodLink RX3 58 yX1_less, Cond.instanceMethod yX1_less, Cond.selects RX1 yX1_less yX1_less, Cond.code yX1_less cX1_less 8 (some .boolean), Cond.methodLink RX4 120 yX3_allHalves, Cond.instanceMethod yX3_allHalves, Cond.selects RX3 yX3_allHalves yX3_allHalves, Cond.code yX3_allHalves cX3_allHalves 4 (some .boolean), Cond.methodLink RX4 124 yX3_fractionFits, Cond.instanceMethod yX3_fractionFits, Cond.selects RX3 yX3_fractionFits yX3_fractionFits, Cond.code yX3_fractionFits cX3_fractionFits 4 (some .boolean), Cond.methodLink RX3 41 yX3_chainLength, Cond.instanceMethod yX3_chainLength, Cond.selects RX3 yX3_chainLength yX3_chainLength, Cond.code yX3_chainLength cX3_chainLength 8 (some .int), Cond.methodLink RX3 62 yX2_takeBelow, Cond.methodLink RX4 127 yX3_signed, Cond.instanceMethod yX3_signed, Cond.selects RX3 yX3_signed yX3_signed, Cond.code yX3_signed cX3_signed 5 (some .long), Cond.methodLink RX3 49 yX2_takeBits, Cond.methodLink RL 112 yX5_normal]
def wsL_law0_r17 : List Cond := [Cond.instanceMethod yX5_normal, Cond.selects RX5 yX5_normal yX5_normal, Cond.code yX5_normal cX5_normal 6 (some .long), Cond.methodLink RX5 124 yX5_half, Cond.instanceMethod yX5_half, Cond.selects RX5 yX5_half yX5_half, Cond.code yX5_half cX5_half 3 (some .boolean), Cond.constantLong RX5 117 (2147483648), Cond.methodLink RX5 113 yX5_digit, Cond.instanceMethod yX5_digit, Cond.selects RX5 yX5_digit yX5_digit, Cond.code yX5_digit cX5_digit 4 (some .long), Cond.methodLink RX5 119 yX5_isLess, Cond.instanceMethod yX5_isLess, Cond.selects RX5 yX5_isLess yX5_isLess, Cond.code yX5_isLess cX5_isLess 9 (some .boolean), Cond.methodLink RX5 127 yX5_stays, Cond.instanceMethod yX5_stays, Cond.selects RX5 yX5_stays yX5_stays, Cond.code yX5_stays cX5_stays 9 (some .boolean), Cond.constantLong RX5 122 (2), Cond.methodLink RL 113 yX4_permutation, Cond.instanceMethod yX4_permutation, Cond.selects RX4 yX4_permutation yX4_permutation]
def wsL_law0_r18 : List Cond := [Cond.code yX4_permutation cX4_permutation 5 (some .int), Cond.fieldLink RX4 135 "DrawStreams" "rowSize" "I", Cond.methodLink RX4 131 yX4_changePlaces, Cond.instanceMethod yX4_changePlaces, Cond.selects RX4 yX4_changePlaces yX4_changePlaces, Cond.code yX4_changePlaces cX4_changePlaces 4 none, Cond.methodLink RL 116 yX5_permutation, Cond.instanceMethod yX5_permutation, Cond.selects RX5 yX5_permutation yX5_permutation, Cond.code yX5_permutation cX5_permutation 6 (some .int), Cond.constantLong RX5 131 (200), Cond.fieldLink RX5 133 "DrawStreamsModel" "rows" "I", Cond.methodLink RL 117 yX4_subset, Cond.instanceMethod yX4_subset, Cond.selects RX4 yX4_subset yX4_subset, Cond.code yX4_subset cX4_subset 8 (some .int), Cond.methodLink RX4 138 yX4_putRising, Cond.instanceMethod yX4_putRising, Cond.selects RX4 yX4_putRising yX4_putRising, Cond.code yX4_putRising cX4_putRising 5 (some .boolean), Cond.methodLink RL 120 yX5_subset, Cond.instanceMethod yX5_subset, Cond.selects RX5 yX5_subset yX5_subset, Cond.code yX5_subset cX5_subset 9 (some .int)]
def wsL_law0_r19 : List Cond := [Cond.constantLong RX5 136 (1000000), Cond.methodLink RX5 138 yX5_isThere, Cond.instanceMethod yX5_isThere, Cond.selects RX5 yX5_isThere yX5_isThere, Cond.code yX5_isThere cX5_isThere 5 (some .boolean), Cond.methodLink RL 121 yL_at, Cond.static yL_at, Cond.codeWith yL_at cL_at 4 (some .int) [(0, 9, 12, 19)], Cond.classLink RL 19 "java/lang/ArrayIndexOutOfBoundsException", Cond.methodLink RL 15 yX4_at, Cond.instanceMethod yX4_at, Cond.selects RX4 yX4_at yX4_at, Cond.code yX4_at cX4_at 2 (some .int), Cond.classLink RX4 141 RJx00060, Cond.instantiable RJx00060 6, Cond.initialized RJx00060, Cond.methodLink RL 124 yX5_at, Cond.instanceMethod yX5_at, Cond.selects RX5 yX5_at yX5_at, Cond.code yX5_at cX5_at 2 (some .int), Cond.methodLink RL 125 yX4_weight, Cond.instanceMethod yX4_weight, Cond.selects RX4 yX4_weight yX4_weight, Cond.code yX4_weight cX4_weight 6 (some .long)]
def wsL_law0_r20 : List Cond := [Cond.constantLong RX4 146 (1000000000000), Cond.methodLink RL 128 yX5_weight, Cond.instanceMethod yX5_weight, Cond.selects RX5 yX5_weight yX5_weight, Cond.code yX5_weight cX5_weight 6 (some .long), Cond.constantLong RX5 141 (31), Cond.constantLong RX5 143 (1000000000000), Cond.methodLink RL 129 yX4_choose, Cond.instanceMethod yX4_choose, Cond.selects RX4 yX4_choose yX4_choose, Cond.code yX4_choose cX4_choose 8 (some .int), Cond.methodLink RL 132 yX5_choose, Cond.instanceMethod yX5_choose, Cond.selects RX5 yX5_choose yX5_choose, Cond.code yX5_choose cX5_choose 7 (some .int), Cond.methodLink RL 133 yX4_secret, Cond.instanceMethod yX4_secret, Cond.selects RX4 yX4_secret yX4_secret, Cond.code yX4_secret cX4_secret 8 (some .int), Cond.methodLink RX4 148 yX4_isInOrder, Cond.instanceMethod yX4_isInOrder, Cond.selects RX4 yX4_isInOrder yX4_isInOrder, Cond.code yX4_isInOrder cX4_isInOrder 5 (some .boolean), Cond.constant RX4 163 (1073741824)]
def wsL_law0_r21 : List Cond := [Cond.methodLink RX4 152 yX4_halfWidth, Cond.static yX4_halfWidth, Cond.code yX4_halfWidth cX4_halfWidth 2 (some .int), Cond.methodLink RX4 156 yX4_walked, Cond.instanceMethod yX4_walked, Cond.selects RX4 yX4_walked yX4_walked, Cond.code yX4_walked cX4_walked 10 (some .int), Cond.methodLink RX4 164 yX4_scatter, Cond.instanceMethod yX4_scatter, Cond.selects RX4 yX4_scatter yX4_scatter, Cond.code yX4_scatter cX4_scatter 7 (some .int), Cond.methodLink RL 136 yX5_secret, Cond.instanceMethod yX5_secret, Cond.selects RX5 yX5_secret yX5_secret, Cond.code yX5_secret cX5_secret 16 (some .int), Cond.methodLink RX5 147 yX5_isOrder, Cond.instanceMethod yX5_isOrder, Cond.selects RX5 yX5_isOrder yX5_isOrder, Cond.code yX5_isOrder cX5_isOrder 5 (some .boolean), Cond.constantLong RX5 145 (1073741824), Cond.methodLink RX5 151 yX5_halfOf, Cond.static yX5_halfOf, Cond.code yX5_halfOf cX5_halfOf 2 (some .int), Cond.methodLink RX5 155 yX5_mixed]
def wsL_law0_r22 : List Cond := [Cond.instanceMethod yX5_mixed, Cond.selects RX5 yX5_mixed yX5_mixed, Cond.code yX5_mixed cX5_mixed 7 (some .long), Cond.methodLink RL 137 yX4_back, Cond.instanceMethod yX4_back, Cond.selects RX4 yX4_back yX4_back, Cond.code yX4_back cX4_back 8 (some .int), Cond.methodLink RX4 160 yX4_walkedBack, Cond.instanceMethod yX4_walkedBack, Cond.selects RX4 yX4_walkedBack yX4_walkedBack, Cond.code yX4_walkedBack cX4_walkedBack 10 (some .int), Cond.methodLink RL 140 yX5_back, Cond.instanceMethod yX5_back, Cond.selects RX5 yX5_back yX5_back, Cond.code yX5_back cX5_back 16 (some .int), Cond.methodLink RL 141 yX4_count, Cond.instanceMethod yX4_count, Cond.selects RX4 yX4_count yX4_count, Cond.code yX4_count cX4_count 2 (some .int), Cond.methodLink RL 144 yX5_count, Cond.instanceMethod yX5_count, Cond.selects RX5 yX5_count yX5_count, Cond.code yX5_count cX5_count 2 (some .int)]
def wsL_law0 : List Cond := (wsL_law0_r1 ++ (wsL_law0_r2 ++ (wsL_law0_r3 ++ (wsL_law0_r4 ++ (wsL_law0_r5 ++ (wsL_law0_r6 ++ (wsL_law0_r7 ++ (wsL_law0_r8 ++ (wsL_law0_r9 ++ (wsL_law0_r10 ++ (wsL_law0_r11 ++ (wsL_law0_r12 ++ (wsL_law0_r13 ++ (wsL_law0_r14 ++ (wsL_law0_r15 ++ (wsL_law0_r16 ++ (wsL_law0_r17 ++ (wsL_law0_r18 ++ (wsL_law0_r19 ++ (wsL_law0_r20 ++ (wsL_law0_r21 ++ wsL_law0_r22))))))))))))))))))))) ++ wsX40 ++ wsX50 ++ wsX00 ++ wsX30 ++ wsX10 ++ wsX20 ++ wsJx000600 ++ ([] : List Cond)
def wsL_law : List Cond := wsL_law0 ++ (vx_atM "java/lang/ArrayIndexOutOfBoundsException" ["java/lang/IndexOutOfBoundsException", "java/lang/RuntimeException", "java/lang/Exception"]).filter goodWord ++ (vx_atS RX4 95 "java/lang/ArithmeticException" ["java/lang/RuntimeException", "java/lang/Exception"]).filter goodWord ++ (vx_atM "java/lang/ArithmeticException" ["java/lang/RuntimeException", "java/lang/Exception"]).filter goodWord
theorem dX0_init_0 : decode cX0_init 0 = .ok (.aload_n 0, 1) := by decide +kernel
theorem dX0_init_1 : decode cX0_init 1 = .ok (.invokespecial 3, 3) := by decide +kernel
theorem dX0_init_4 : decode cX0_init 4 = .ok (.aload_n 0, 1) := by decide +kernel
theorem dX0_init_5 : decode cX0_init 5 = .ok (.iconst (-1), 1) := by decide +kernel
theorem dX0_init_6 : decode cX0_init 6 = .ok (.putfield 9, 3) := by decide +kernel
theorem dX0_init_9 : decode cX0_init 9 = .ok (.return_, 1) := by decide +kernel
theorem dX1_init_0 : decode cX1_init 0 = .ok (.aload_n 0, 1) := by decide +kernel
theorem dX1_init_1 : decode cX1_init 1 = .ok (.invokespecial 1, 3) := by decide +kernel
theorem dX1_init_4 : decode cX1_init 4 = .ok (.aload_n 0, 1) := by decide +kernel
theorem dX1_init_5 : decode cX1_init 5 = .ok (.iconst 4, 1) := by decide +kernel
theorem dX1_init_6 : decode cX1_init 6 = .ok (.newarray .long, 2) := by decide +kernel
theorem dX1_init_8 : decode cX1_init 8 = .ok (.putfield 9, 3) := by decide +kernel
theorem dX1_init_11 : decode cX1_init 11 = .ok (.return_, 1) := by decide +kernel
theorem dX3_init_0 : decode cX3_init 0 = .ok (.aload_n 0, 1) := by decide +kernel
theorem dX3_init_1 : decode cX3_init 1 = .ok (.invokespecial 3, 3) := by decide +kernel
theorem dX3_init_4 : decode cX3_init 4 = .ok (.aload_n 0, 1) := by decide +kernel
theorem dX3_init_5 : decode cX3_init 5 = .ok (.new 9, 3) := by decide +kernel
theorem dX3_init_8 : decode cX3_init 8 = .ok (.dup, 1) := by decide +kernel
theorem dX3_init_9 : decode cX3_init 9 = .ok (.invokespecial 11, 3) := by decide +kernel
theorem dX3_init_12 : decode cX3_init 12 = .ok (.putfield 12, 3) := by decide +kernel
theorem dX3_init_15 : decode cX3_init 15 = .ok (.aload_n 0, 1) := by decide +kernel
theorem dX3_init_16 : decode cX3_init 16 = .ok (.new 9, 3) := by decide +kernel
theorem dX3_init_19 : decode cX3_init 19 = .ok (.dup, 1) := by decide +kernel
theorem dX3_init_20 : decode cX3_init 20 = .ok (.invokespecial 11, 3) := by decide +kernel
theorem dX3_init_23 : decode cX3_init 23 = .ok (.putfield 18, 3) := by decide +kernel
theorem dX3_init_26 : decode cX3_init 26 = .ok (.aload_n 0, 1) := by decide +kernel
theorem dX3_init_27 : decode cX3_init 27 = .ok (.new 9, 3) := by decide +kernel
theorem dX3_init_30 : decode cX3_init 30 = .ok (.dup, 1) := by decide +kernel
theorem dX3_init_31 : decode cX3_init 31 = .ok (.invokespecial 11, 3) := by decide +kernel
theorem dX3_init_34 : decode cX3_init 34 = .ok (.putfield 21, 3) := by decide +kernel
theorem dX3_init_37 : decode cX3_init 37 = .ok (.aload_n 0, 1) := by decide +kernel
theorem dX3_init_38 : decode cX3_init 38 = .ok (.new 9, 3) := by decide +kernel
theorem dX3_init_41 : decode cX3_init 41 = .ok (.dup, 1) := by decide +kernel
theorem dX3_init_42 : decode cX3_init 42 = .ok (.invokespecial 11, 3) := by decide +kernel
theorem dX3_init_45 : decode cX3_init 45 = .ok (.putfield 24, 3) := by decide +kernel
theorem dX3_init_48 : decode cX3_init 48 = .ok (.aload_n 0, 1) := by decide +kernel
theorem dX3_init_49 : decode cX3_init 49 = .ok (.new 9, 3) := by decide +kernel
theorem dX3_init_52 : decode cX3_init 52 = .ok (.dup, 1) := by decide +kernel
theorem dX3_init_53 : decode cX3_init 53 = .ok (.invokespecial 11, 3) := by decide +kernel
theorem dX3_init_56 : decode cX3_init 56 = .ok (.putfield 27, 3) := by decide +kernel
theorem dX3_init_59 : decode cX3_init 59 = .ok (.aload_n 0, 1) := by decide +kernel
theorem dX3_init_60 : decode cX3_init 60 = .ok (.new 9, 3) := by decide +kernel
theorem dX3_init_63 : decode cX3_init 63 = .ok (.dup, 1) := by decide +kernel
theorem dX3_init_64 : decode cX3_init 64 = .ok (.invokespecial 11, 3) := by decide +kernel
theorem dX3_init_67 : decode cX3_init 67 = .ok (.putfield 30, 3) := by decide +kernel
theorem dX3_init_70 : decode cX3_init 70 = .ok (.return_, 1) := by decide +kernel
theorem dX4_init_0 : decode cX4_init 0 = .ok (.aload_n 0, 1) := by decide +kernel
theorem dX4_init_1 : decode cX4_init 1 = .ok (.invokespecial 1, 3) := by decide +kernel
theorem dX4_init_4 : decode cX4_init 4 = .ok (.aload_n 0, 1) := by decide +kernel
theorem dX4_init_5 : decode cX4_init 5 = .ok (.new 7, 3) := by decide +kernel
theorem dX4_init_8 : decode cX4_init 8 = .ok (.dup, 1) := by decide +kernel
theorem dX4_init_9 : decode cX4_init 9 = .ok (.invokespecial 9, 3) := by decide +kernel
theorem dX4_init_12 : decode cX4_init 12 = .ok (.putfield 10, 3) := by decide +kernel
theorem dX4_init_15 : decode cX4_init 15 = .ok (.aload_n 0, 1) := by decide +kernel
theorem dX4_init_16 : decode cX4_init 16 = .ok (.new 16, 3) := by decide +kernel
theorem dX4_init_19 : decode cX4_init 19 = .ok (.dup, 1) := by decide +kernel
theorem dX4_init_20 : decode cX4_init 20 = .ok (.invokespecial 18, 3) := by decide +kernel
theorem dX4_init_23 : decode cX4_init 23 = .ok (.putfield 19, 3) := by decide +kernel
theorem dX4_init_26 : decode cX4_init 26 = .ok (.aload_n 0, 1) := by decide +kernel
theorem dX4_init_27 : decode cX4_init 27 = .ok (.bipush 16, 2) := by decide +kernel
theorem dX4_init_29 : decode cX4_init 29 = .ok (.newarray .long, 2) := by decide +kernel
theorem dX4_init_31 : decode cX4_init 31 = .ok (.putfield 23, 3) := by decide +kernel
theorem dX4_init_34 : decode cX4_init 34 = .ok (.aload_n 0, 1) := by decide +kernel
theorem dX4_init_35 : decode cX4_init 35 = .ok (.bipush 12, 2) := by decide +kernel
theorem dX4_init_37 : decode cX4_init 37 = .ok (.anewarray 27, 3) := by decide +kernel
theorem dX4_init_40 : decode cX4_init 40 = .ok (.putfield 29, 3) := by decide +kernel
theorem dX4_init_43 : decode cX4_init 43 = .ok (.aload_n 0, 1) := by decide +kernel
theorem dX4_init_44 : decode cX4_init 44 = .ok (.sipush 200, 3) := by decide +kernel
theorem dX4_init_47 : decode cX4_init 47 = .ok (.newarray .int, 2) := by decide +kernel
theorem dX4_init_49 : decode cX4_init 49 = .ok (.putfield 33, 3) := by decide +kernel
theorem dX4_init_52 : decode cX4_init 52 = .ok (.aload_n 0, 1) := by decide +kernel
theorem dX4_init_53 : decode cX4_init 53 = .ok (.bipush 32, 2) := by decide +kernel
theorem dX4_init_55 : decode cX4_init 55 = .ok (.newarray .long, 2) := by decide +kernel
theorem dX4_init_57 : decode cX4_init 57 = .ok (.putfield 37, 3) := by decide +kernel
theorem dX4_init_60 : decode cX4_init 60 = .ok (.return_, 1) := by decide +kernel
theorem dX4_key_0 : decode cX4_key 0 = .ok (.aload_n 0, 1) := by decide +kernel
theorem dX4_key_1 : decode cX4_key 1 = .ok (.getfield 40, 3) := by decide +kernel
theorem dX4_key_4 : decode cX4_key 4 = .ok (.bipush 16, 2) := by decide +kernel
theorem dX4_key_6 : decode cX4_key 6 = .ok (.if_icmp .lt 6, 3) := by decide +kernel
theorem dX4_key_12 : decode cX4_key 12 = .ok (.aload_n 0, 1) := by decide +kernel
theorem dX4_key_13 : decode cX4_key 13 = .ok (.getfield 23, 3) := by decide +kernel
theorem dX4_key_16 : decode cX4_key 16 = .ok (.aload_n 0, 1) := by decide +kernel
theorem dX4_key_17 : decode cX4_key 17 = .ok (.getfield 40, 3) := by decide +kernel
theorem dX4_key_20 : decode cX4_key 20 = .ok (.lload_n 1, 1) := by decide +kernel
theorem dX4_key_21 : decode cX4_key 21 = .ok (.lastore, 1) := by decide +kernel
theorem dX4_key_22 : decode cX4_key 22 = .ok (.aload_n 0, 1) := by decide +kernel
theorem dX4_key_23 : decode cX4_key 23 = .ok (.dup, 1) := by decide +kernel
theorem dX4_key_24 : decode cX4_key 24 = .ok (.getfield 40, 3) := by decide +kernel
theorem dX4_key_27 : decode cX4_key 27 = .ok (.iconst 1, 1) := by decide +kernel
theorem dX4_key_28 : decode cX4_key 28 = .ok (.iadd, 1) := by decide +kernel
theorem dX4_key_29 : decode cX4_key 29 = .ok (.putfield 40, 3) := by decide +kernel
theorem dX4_key_32 : decode cX4_key 32 = .ok (.aload_n 0, 1) := by decide +kernel
theorem dX4_key_33 : decode cX4_key 33 = .ok (.getfield 40, 3) := by decide +kernel
theorem dX4_key_36 : decode cX4_key 36 = .ok (.iconst 1, 1) := by decide +kernel
theorem dX4_key_37 : decode cX4_key 37 = .ok (.isub, 1) := by decide +kernel
theorem dX4_key_38 : decode cX4_key 38 = .ok (.ireturn, 1) := by decide +kernel
theorem dX4_split_0 : decode cX4_split 0 = .ok (.aload_n 0, 1) := by decide +kernel
theorem dX4_split_1 : decode cX4_split 1 = .ok (.iload_n 1, 1) := by decide +kernel
theorem dX4_split_2 : decode cX4_split 2 = .ok (.invokevirtual 44, 3) := by decide +kernel
theorem dX4_split_5 : decode cX4_split 5 = .ok (.ifCond .ne 5, 3) := by decide +kernel
theorem dX4_split_8 : decode cX4_split 8 = .ok (.iconst (-1), 1) := by decide +kernel
theorem dX4_split_9 : decode cX4_split 9 = .ok (.ireturn, 1) := by decide +kernel
theorem dX4_bitsOf_0 : decode cX4_bitsOf 0 = .ok (.aload_n 0, 1) := by decide +kernel
theorem dX4_bitsOf_1 : decode cX4_bitsOf 1 = .ok (.iload_n 1, 1) := by decide +kernel
theorem dX4_bitsOf_2 : decode cX4_bitsOf 2 = .ok (.invokevirtual 44, 3) := by decide +kernel
theorem dX4_bitsOf_5 : decode cX4_bitsOf 5 = .ok (.ifCond .eq 12, 3) := by decide +kernel
theorem dX4_bitsOf_17 : decode cX4_bitsOf 17 = .ok (.ldc2_w 56, 3) := by decide +kernel
theorem dX4_bitsOf_20 : decode cX4_bitsOf 20 = .ok (.lreturn, 1) := by decide +kernel
theorem dX4_word_0 : decode cX4_word 0 = .ok (.aload_n 0, 1) := by decide +kernel
theorem dX4_word_1 : decode cX4_word 1 = .ok (.iload_n 1, 1) := by decide +kernel
theorem dX4_word_2 : decode cX4_word 2 = .ok (.invokevirtual 44, 3) := by decide +kernel
theorem dX4_word_5 : decode cX4_word 5 = .ok (.ifCond .eq 13, 3) := by decide +kernel
theorem dX4_word_18 : decode cX4_word 18 = .ok (.ldc2_w 56, 3) := by decide +kernel
theorem dX4_word_21 : decode cX4_word 21 = .ok (.lreturn, 1) := by decide +kernel
theorem dX4_drawer_0 : decode cX4_drawer 0 = .ok (.aload_n 0, 1) := by decide +kernel
theorem dX4_drawer_1 : decode cX4_drawer 1 = .ok (.iload_n 1, 1) := by decide +kernel
theorem dX4_drawer_2 : decode cX4_drawer 2 = .ok (.invokevirtual 44, 3) := by decide +kernel
theorem dX4_drawer_5 : decode cX4_drawer 5 = .ok (.ifCond .eq 7, 3) := by decide +kernel
theorem dX4_drawer_12 : decode cX4_drawer 12 = .ok (.iconst (-1), 1) := by decide +kernel
theorem dX4_drawer_13 : decode cX4_drawer 13 = .ok (.ireturn, 1) := by decide +kernel
theorem dX4_place_0 : decode cX4_place 0 = .ok (.aload_n 0, 1) := by decide +kernel
theorem dX4_place_1 : decode cX4_place 1 = .ok (.iload_n 1, 1) := by decide +kernel
theorem dX4_place_2 : decode cX4_place 2 = .ok (.invokevirtual 66, 3) := by decide +kernel
theorem dX4_place_5 : decode cX4_place 5 = .ok (.astore 4, 2) := by decide +kernel
theorem dX4_place_7 : decode cX4_place 7 = .ok (.aload 4, 2) := by decide +kernel
theorem dX4_place_9 : decode cX4_place 9 = .ok (.ifnull 17, 3) := by decide +kernel
theorem dX4_place_26 : decode cX4_place 26 = .ok (.iconst (-1), 1) := by decide +kernel
theorem dX4_place_27 : decode cX4_place 27 = .ok (.ireturn, 1) := by decide +kernel
theorem dX4_told_0 : decode cX4_told 0 = .ok (.aload_n 0, 1) := by decide +kernel
theorem dX4_told_1 : decode cX4_told 1 = .ok (.iload_n 1, 1) := by decide +kernel
theorem dX4_told_2 : decode cX4_told 2 = .ok (.invokevirtual 66, 3) := by decide +kernel
theorem dX4_told_5 : decode cX4_told 5 = .ok (.astore_n 3, 1) := by decide +kernel
theorem dX4_told_6 : decode cX4_told 6 = .ok (.aload_n 3, 1) := by decide +kernel
theorem dX4_told_7 : decode cX4_told 7 = .ok (.ifnonnull 7, 3) := by decide +kernel
theorem dX4_told_10 : decode cX4_told 10 = .ok (.ldc2_w 56, 3) := by decide +kernel
theorem dX4_told_13 : decode cX4_told 13 = .ok (.lreturn, 1) := by decide +kernel
theorem dX4_same_0 : decode cX4_same 0 = .ok (.aload_n 0, 1) := by decide +kernel
theorem dX4_same_1 : decode cX4_same 1 = .ok (.iload_n 1, 1) := by decide +kernel
theorem dX4_same_2 : decode cX4_same 2 = .ok (.invokevirtual 66, 3) := by decide +kernel
theorem dX4_same_5 : decode cX4_same 5 = .ok (.astore_n 3, 1) := by decide +kernel
theorem dX4_same_6 : decode cX4_same 6 = .ok (.aload_n 0, 1) := by decide +kernel
theorem dX4_same_7 : decode cX4_same 7 = .ok (.iload_n 2, 1) := by decide +kernel
theorem dX4_same_8 : decode cX4_same 8 = .ok (.invokevirtual 66, 3) := by decide +kernel
theorem dX4_same_11 : decode cX4_same 11 = .ok (.astore 4, 2) := by decide +kernel
theorem dX4_same_13 : decode cX4_same 13 = .ok (.aload_n 3, 1) := by decide +kernel
theorem dX4_same_14 : decode cX4_same 14 = .ok (.ifnull 8, 3) := by decide +kernel
theorem dX4_same_22 : decode cX4_same 22 = .ok (.iconst 0, 1) := by decide +kernel
theorem dX4_same_23 : decode cX4_same 23 = .ok (.ireturn, 1) := by decide +kernel
theorem dX4_bits_0 : decode cX4_bits 0 = .ok (.aload_n 0, 1) := by decide +kernel
theorem dX4_bits_1 : decode cX4_bits 1 = .ok (.iload_n 1, 1) := by decide +kernel
theorem dX4_bits_2 : decode cX4_bits 2 = .ok (.invokevirtual 66, 3) := by decide +kernel
theorem dX4_bits_5 : decode cX4_bits 5 = .ok (.astore_n 3, 1) := by decide +kernel
theorem dX4_bits_6 : decode cX4_bits 6 = .ok (.aload_n 3, 1) := by decide +kernel
theorem dX4_bits_7 : decode cX4_bits 7 = .ok (.ifnull 13, 3) := by decide +kernel
theorem dX4_bits_20 : decode cX4_bits 20 = .ok (.ldc2_w 56, 3) := by decide +kernel
theorem dX4_bits_23 : decode cX4_bits 23 = .ok (.lreturn, 1) := by decide +kernel
theorem dX4_below_0 : decode cX4_below 0 = .ok (.aload_n 0, 1) := by decide +kernel
theorem dX4_below_1 : decode cX4_below 1 = .ok (.iload_n 1, 1) := by decide +kernel
theorem dX4_below_2 : decode cX4_below 2 = .ok (.invokevirtual 66, 3) := by decide +kernel
theorem dX4_below_5 : decode cX4_below 5 = .ok (.astore 4, 2) := by decide +kernel
theorem dX4_below_7 : decode cX4_below 7 = .ok (.aload 4, 2) := by decide +kernel
theorem dX4_below_9 : decode cX4_below 9 = .ok (.ifnull 9, 3) := by decide +kernel
theorem dX4_below_18 : decode cX4_below 18 = .ok (.ldc2_w 56, 3) := by decide +kernel
theorem dX4_below_21 : decode cX4_below 21 = .ok (.lreturn, 1) := by decide +kernel
theorem dX4_real_0 : decode cX4_real 0 = .ok (.aload_n 0, 1) := by decide +kernel
theorem dX4_real_1 : decode cX4_real 1 = .ok (.iload_n 1, 1) := by decide +kernel
theorem dX4_real_2 : decode cX4_real 2 = .ok (.invokevirtual 66, 3) := by decide +kernel
theorem dX4_real_5 : decode cX4_real 5 = .ok (.astore_n 2, 1) := by decide +kernel
theorem dX4_real_6 : decode cX4_real 6 = .ok (.aload_n 2, 1) := by decide +kernel
theorem dX4_real_7 : decode cX4_real 7 = .ok (.ifnonnull 7, 3) := by decide +kernel
theorem dX4_real_10 : decode cX4_real 10 = .ok (.ldc2_w 102, 3) := by decide +kernel
theorem dX4_real_13 : decode cX4_real 13 = .ok (.dreturn, 1) := by decide +kernel
theorem dX4_single_0 : decode cX4_single 0 = .ok (.aload_n 0, 1) := by decide +kernel
theorem dX4_single_1 : decode cX4_single 1 = .ok (.iload_n 1, 1) := by decide +kernel
theorem dX4_single_2 : decode cX4_single 2 = .ok (.invokevirtual 66, 3) := by decide +kernel
theorem dX4_single_5 : decode cX4_single 5 = .ok (.astore_n 2, 1) := by decide +kernel
theorem dX4_single_6 : decode cX4_single 6 = .ok (.aload_n 2, 1) := by decide +kernel
theorem dX4_single_7 : decode cX4_single 7 = .ok (.ifnonnull 6, 3) := by decide +kernel
theorem dX4_single_10 : decode cX4_single 10 = .ok (.ldc 106, 2) := by decide +kernel
theorem dX4_single_12 : decode cX4_single 12 = .ok (.freturn, 1) := by decide +kernel
theorem dX4_coin_0 : decode cX4_coin 0 = .ok (.aload_n 0, 1) := by decide +kernel
theorem dX4_coin_1 : decode cX4_coin 1 = .ok (.iload_n 1, 1) := by decide +kernel
theorem dX4_coin_2 : decode cX4_coin 2 = .ok (.invokevirtual 66, 3) := by decide +kernel
theorem dX4_coin_5 : decode cX4_coin 5 = .ok (.astore 4, 2) := by decide +kernel
theorem dX4_coin_7 : decode cX4_coin 7 = .ok (.aload 4, 2) := by decide +kernel
theorem dX4_coin_9 : decode cX4_coin 9 = .ok (.ifnull 11, 3) := by decide +kernel
theorem dX4_coin_20 : decode cX4_coin 20 = .ok (.iconst (-1), 1) := by decide +kernel
theorem dX4_coin_21 : decode cX4_coin 21 = .ok (.ireturn, 1) := by decide +kernel
theorem dX4_misses_0 : decode cX4_misses 0 = .ok (.aload_n 0, 1) := by decide +kernel
theorem dX4_misses_1 : decode cX4_misses 1 = .ok (.iload_n 1, 1) := by decide +kernel
theorem dX4_misses_2 : decode cX4_misses 2 = .ok (.invokevirtual 66, 3) := by decide +kernel
theorem dX4_misses_5 : decode cX4_misses 5 = .ok (.astore 5, 2) := by decide +kernel
theorem dX4_misses_7 : decode cX4_misses 7 = .ok (.aload 5, 2) := by decide +kernel
theorem dX4_misses_9 : decode cX4_misses 9 = .ok (.ifnull 24, 3) := by decide +kernel
theorem dX4_misses_33 : decode cX4_misses 33 = .ok (.iconst (-1), 1) := by decide +kernel
theorem dX4_misses_34 : decode cX4_misses 34 = .ok (.ireturn, 1) := by decide +kernel
theorem dX4_hits_0 : decode cX4_hits 0 = .ok (.aload_n 0, 1) := by decide +kernel
theorem dX4_hits_1 : decode cX4_hits 1 = .ok (.iload_n 1, 1) := by decide +kernel
theorem dX4_hits_2 : decode cX4_hits 2 = .ok (.invokevirtual 66, 3) := by decide +kernel
theorem dX4_hits_5 : decode cX4_hits 5 = .ok (.astore 5, 2) := by decide +kernel
theorem dX4_hits_7 : decode cX4_hits 7 = .ok (.aload 5, 2) := by decide +kernel
theorem dX4_hits_9 : decode cX4_hits 9 = .ok (.ifnull 24, 3) := by decide +kernel
theorem dX4_hits_33 : decode cX4_hits 33 = .ok (.iconst (-1), 1) := by decide +kernel
theorem dX4_hits_34 : decode cX4_hits 34 = .ok (.ireturn, 1) := by decide +kernel
theorem dX4_mask_0 : decode cX4_mask 0 = .ok (.aload_n 0, 1) := by decide +kernel
theorem dX4_mask_1 : decode cX4_mask 1 = .ok (.iload_n 1, 1) := by decide +kernel
theorem dX4_mask_2 : decode cX4_mask 2 = .ok (.invokevirtual 66, 3) := by decide +kernel
theorem dX4_mask_5 : decode cX4_mask 5 = .ok (.astore 5, 2) := by decide +kernel
theorem dX4_mask_7 : decode cX4_mask 7 = .ok (.aload 5, 2) := by decide +kernel
theorem dX4_mask_9 : decode cX4_mask 9 = .ok (.ifnull 24, 3) := by decide +kernel
theorem dX4_mask_33 : decode cX4_mask 33 = .ok (.lconst 0, 1) := by decide +kernel
theorem dX4_mask_34 : decode cX4_mask 34 = .ok (.lreturn, 1) := by decide +kernel
theorem dX4_normal_0 : decode cX4_normal 0 = .ok (.aload_n 0, 1) := by decide +kernel
theorem dX4_normal_1 : decode cX4_normal 1 = .ok (.iload_n 1, 1) := by decide +kernel
theorem dX4_normal_2 : decode cX4_normal 2 = .ok (.invokevirtual 66, 3) := by decide +kernel
theorem dX4_normal_5 : decode cX4_normal 5 = .ok (.astore_n 2, 1) := by decide +kernel
theorem dX4_normal_6 : decode cX4_normal 6 = .ok (.aload_n 2, 1) := by decide +kernel
theorem dX4_normal_7 : decode cX4_normal 7 = .ok (.ifnonnull 5, 3) := by decide +kernel
theorem dX4_normal_10 : decode cX4_normal 10 = .ok (.lconst 0, 1) := by decide +kernel
theorem dX4_normal_11 : decode cX4_normal 11 = .ok (.lreturn, 1) := by decide +kernel
theorem dX4_permutation_0 : decode cX4_permutation 0 = .ok (.aload_n 0, 1) := by decide +kernel
theorem dX4_permutation_1 : decode cX4_permutation 1 = .ok (.iload_n 1, 1) := by decide +kernel
theorem dX4_permutation_2 : decode cX4_permutation 2 = .ok (.invokevirtual 66, 3) := by decide +kernel
theorem dX4_permutation_5 : decode cX4_permutation 5 = .ok (.astore_n 3, 1) := by decide +kernel
theorem dX4_permutation_6 : decode cX4_permutation 6 = .ok (.aload_n 3, 1) := by decide +kernel
theorem dX4_permutation_7 : decode cX4_permutation 7 = .ok (.ifnull 14, 3) := by decide +kernel
theorem dX4_permutation_21 : decode cX4_permutation 21 = .ok (.iconst (-1), 1) := by decide +kernel
theorem dX4_permutation_22 : decode cX4_permutation 22 = .ok (.ireturn, 1) := by decide +kernel
theorem dX4_subset_0 : decode cX4_subset 0 = .ok (.aload_n 0, 1) := by decide +kernel
theorem dX4_subset_1 : decode cX4_subset 1 = .ok (.iload_n 1, 1) := by decide +kernel
theorem dX4_subset_2 : decode cX4_subset 2 = .ok (.invokevirtual 66, 3) := by decide +kernel
theorem dX4_subset_5 : decode cX4_subset 5 = .ok (.astore 4, 2) := by decide +kernel
theorem dX4_subset_7 : decode cX4_subset 7 = .ok (.aload 4, 2) := by decide +kernel
theorem dX4_subset_9 : decode cX4_subset 9 = .ok (.ifnull 29, 3) := by decide +kernel
theorem dX4_subset_38 : decode cX4_subset 38 = .ok (.iconst (-1), 1) := by decide +kernel
theorem dX4_subset_39 : decode cX4_subset 39 = .ok (.ireturn, 1) := by decide +kernel
theorem dX4_at_0 : decode cX4_at 0 = .ok (.iload_n 1, 1) := by decide +kernel
theorem dX4_at_1 : decode cX4_at 1 = .ok (.ifCond .lt 11, 3) := by decide +kernel
theorem dX4_at_4 : decode cX4_at 4 = .ok (.iload_n 1, 1) := by decide +kernel
theorem dX4_at_5 : decode cX4_at 5 = .ok (.aload_n 0, 1) := by decide +kernel
theorem dX4_at_6 : decode cX4_at 6 = .ok (.getfield 135, 3) := by decide +kernel
theorem dX4_at_9 : decode cX4_at 9 = .ok (.if_icmp .lt 13, 3) := by decide +kernel
theorem dX4_at_12 : decode cX4_at 12 = .ok (.new 141, 3) := by decide +kernel
theorem dX4_at_15 : decode cX4_at 15 = .ok (.dup, 1) := by decide +kernel
theorem dX4_at_16 : decode cX4_at 16 = .ok (.ldc 143, 2) := by decide +kernel
theorem dX4_at_18 : decode cX4_at 18 = .ok (.invokespecial 145, 3) := by decide +kernel
theorem dX4_at_21 : decode cX4_at 21 = .ok (.athrow, 1) := by decide +kernel
theorem dX4_weight_0 : decode cX4_weight 0 = .ok (.iload_n 1, 1) := by decide +kernel
theorem dX4_weight_1 : decode cX4_weight 1 = .ok (.ifCond .lt 23, 3) := by decide +kernel
theorem dX4_weight_4 : decode cX4_weight 4 = .ok (.iload_n 1, 1) := by decide +kernel
theorem dX4_weight_5 : decode cX4_weight 5 = .ok (.bipush 32, 2) := by decide +kernel
theorem dX4_weight_7 : decode cX4_weight 7 = .ok (.if_icmp .ge 17, 3) := by decide +kernel
theorem dX4_weight_10 : decode cX4_weight 10 = .ok (.lload_n 2, 1) := by decide +kernel
theorem dX4_weight_11 : decode cX4_weight 11 = .ok (.lconst 0, 1) := by decide +kernel
theorem dX4_weight_12 : decode cX4_weight 12 = .ok (.lcmp, 1) := by decide +kernel
theorem dX4_weight_13 : decode cX4_weight 13 = .ok (.ifCond .lt 11, 3) := by decide +kernel
theorem dX4_weight_16 : decode cX4_weight 16 = .ok (.lload_n 2, 1) := by decide +kernel
theorem dX4_weight_17 : decode cX4_weight 17 = .ok (.ldc2_w 146, 3) := by decide +kernel
theorem dX4_weight_20 : decode cX4_weight 20 = .ok (.lcmp, 1) := by decide +kernel
theorem dX4_weight_21 : decode cX4_weight 21 = .ok (.ifCond .le 7, 3) := by decide +kernel
theorem dX4_weight_24 : decode cX4_weight 24 = .ok (.ldc2_w 56, 3) := by decide +kernel
theorem dX4_weight_27 : decode cX4_weight 27 = .ok (.lreturn, 1) := by decide +kernel
theorem dX4_weight_28 : decode cX4_weight 28 = .ok (.aload_n 0, 1) := by decide +kernel
theorem dX4_weight_29 : decode cX4_weight 29 = .ok (.getfield 37, 3) := by decide +kernel
theorem dX4_weight_32 : decode cX4_weight 32 = .ok (.iload_n 1, 1) := by decide +kernel
theorem dX4_weight_33 : decode cX4_weight 33 = .ok (.laload, 1) := by decide +kernel
theorem dX4_weight_34 : decode cX4_weight 34 = .ok (.lstore 4, 2) := by decide +kernel
theorem dX4_weight_36 : decode cX4_weight 36 = .ok (.aload_n 0, 1) := by decide +kernel
theorem dX4_weight_37 : decode cX4_weight 37 = .ok (.getfield 37, 3) := by decide +kernel
theorem dX4_weight_40 : decode cX4_weight 40 = .ok (.iload_n 1, 1) := by decide +kernel
theorem dX4_weight_41 : decode cX4_weight 41 = .ok (.lload_n 2, 1) := by decide +kernel
theorem dX4_weight_42 : decode cX4_weight 42 = .ok (.lastore, 1) := by decide +kernel
theorem dX4_weight_43 : decode cX4_weight 43 = .ok (.lload 4, 2) := by decide +kernel
theorem dX4_weight_45 : decode cX4_weight 45 = .ok (.lreturn, 1) := by decide +kernel
theorem dX4_choose_0 : decode cX4_choose 0 = .ok (.aload_n 0, 1) := by decide +kernel
theorem dX4_choose_1 : decode cX4_choose 1 = .ok (.iload_n 1, 1) := by decide +kernel
theorem dX4_choose_2 : decode cX4_choose 2 = .ok (.invokevirtual 66, 3) := by decide +kernel
theorem dX4_choose_5 : decode cX4_choose 5 = .ok (.astore_n 2, 1) := by decide +kernel
theorem dX4_choose_6 : decode cX4_choose 6 = .ok (.aload_n 2, 1) := by decide +kernel
theorem dX4_choose_7 : decode cX4_choose 7 = .ok (.ifnonnull 5, 3) := by decide +kernel
theorem dX4_choose_10 : decode cX4_choose 10 = .ok (.iconst (-1), 1) := by decide +kernel
theorem dX4_choose_11 : decode cX4_choose 11 = .ok (.ireturn, 1) := by decide +kernel
theorem dX4_secret_0 : decode cX4_secret 0 = .ok (.aload_n 0, 1) := by decide +kernel
theorem dX4_secret_1 : decode cX4_secret 1 = .ok (.iload_n 1, 1) := by decide +kernel
theorem dX4_secret_2 : decode cX4_secret 2 = .ok (.iload_n 2, 1) := by decide +kernel
theorem dX4_secret_3 : decode cX4_secret 3 = .ok (.iload_n 3, 1) := by decide +kernel
theorem dX4_secret_4 : decode cX4_secret 4 = .ok (.iload 4, 2) := by decide +kernel
theorem dX4_secret_6 : decode cX4_secret 6 = .ok (.invokevirtual 148, 3) := by decide +kernel
theorem dX4_secret_9 : decode cX4_secret 9 = .ok (.ifCond .ne 5, 3) := by decide +kernel
theorem dX4_secret_12 : decode cX4_secret 12 = .ok (.iconst (-1), 1) := by decide +kernel
theorem dX4_secret_13 : decode cX4_secret 13 = .ok (.ireturn, 1) := by decide +kernel
theorem dX4_back_0 : decode cX4_back 0 = .ok (.aload_n 0, 1) := by decide +kernel
theorem dX4_back_1 : decode cX4_back 1 = .ok (.iload_n 1, 1) := by decide +kernel
theorem dX4_back_2 : decode cX4_back 2 = .ok (.iload_n 2, 1) := by decide +kernel
theorem dX4_back_3 : decode cX4_back 3 = .ok (.iload_n 3, 1) := by decide +kernel
theorem dX4_back_4 : decode cX4_back 4 = .ok (.iload 4, 2) := by decide +kernel
theorem dX4_back_6 : decode cX4_back 6 = .ok (.invokevirtual 148, 3) := by decide +kernel
theorem dX4_back_9 : decode cX4_back 9 = .ok (.ifCond .ne 5, 3) := by decide +kernel
theorem dX4_back_12 : decode cX4_back 12 = .ok (.iconst (-1), 1) := by decide +kernel
theorem dX4_back_13 : decode cX4_back 13 = .ok (.ireturn, 1) := by decide +kernel
theorem dX4_count_0 : decode cX4_count 0 = .ok (.iload_n 1, 1) := by decide +kernel
theorem dX4_count_1 : decode cX4_count 1 = .ok (.tableswitch 42 0 2 #[27, 32, 37], 27) := by decide +kernel
theorem dX4_count_28 : decode cX4_count 28 = .ok (.aload_n 0, 1) := by decide +kernel
theorem dX4_count_29 : decode cX4_count 29 = .ok (.getfield 40, 3) := by decide +kernel
theorem dX4_count_32 : decode cX4_count 32 = .ok (.ireturn, 1) := by decide +kernel
theorem dX4_count_33 : decode cX4_count 33 = .ok (.aload_n 0, 1) := by decide +kernel
theorem dX4_count_34 : decode cX4_count 34 = .ok (.getfield 60, 3) := by decide +kernel
theorem dX4_count_37 : decode cX4_count 37 = .ok (.ireturn, 1) := by decide +kernel
theorem dX4_count_38 : decode cX4_count 38 = .ok (.aload_n 0, 1) := by decide +kernel
theorem dX4_count_39 : decode cX4_count 39 = .ok (.getfield 135, 3) := by decide +kernel
theorem dX4_count_42 : decode cX4_count 42 = .ok (.ireturn, 1) := by decide +kernel
theorem dX4_count_43 : decode cX4_count 43 = .ok (.iconst (-1), 1) := by decide +kernel
theorem dX4_count_44 : decode cX4_count 44 = .ok (.ireturn, 1) := by decide +kernel
theorem dX4_isKey_0 : decode cX4_isKey 0 = .ok (.iload_n 1, 1) := by decide +kernel
theorem dX4_isKey_1 : decode cX4_isKey 1 = .ok (.ifCond .lt 15, 3) := by decide +kernel
theorem dX4_isKey_4 : decode cX4_isKey 4 = .ok (.iload_n 1, 1) := by decide +kernel
theorem dX4_isKey_5 : decode cX4_isKey 5 = .ok (.aload_n 0, 1) := by decide +kernel
theorem dX4_isKey_6 : decode cX4_isKey 6 = .ok (.getfield 40, 3) := by decide +kernel
theorem dX4_isKey_9 : decode cX4_isKey 9 = .ok (.if_icmp .ge 7, 3) := by decide +kernel
theorem dX4_isKey_16 : decode cX4_isKey 16 = .ok (.iconst 0, 1) := by decide +kernel
theorem dX4_isKey_17 : decode cX4_isKey 17 = .ok (.ireturn, 1) := by decide +kernel
theorem dX4_drawerOf_0 : decode cX4_drawerOf 0 = .ok (.iload_n 1, 1) := by decide +kernel
theorem dX4_drawerOf_1 : decode cX4_drawerOf 1 = .ok (.ifCond .lt 20, 3) := by decide +kernel
theorem dX4_drawerOf_4 : decode cX4_drawerOf 4 = .ok (.iload_n 1, 1) := by decide +kernel
theorem dX4_drawerOf_5 : decode cX4_drawerOf 5 = .ok (.aload_n 0, 1) := by decide +kernel
theorem dX4_drawerOf_6 : decode cX4_drawerOf 6 = .ok (.getfield 60, 3) := by decide +kernel
theorem dX4_drawerOf_9 : decode cX4_drawerOf 9 = .ok (.if_icmp .ge 12, 3) := by decide +kernel
theorem dX4_drawerOf_21 : decode cX4_drawerOf 21 = .ok (.aconst_null, 1) := by decide +kernel
theorem dX4_drawerOf_22 : decode cX4_drawerOf 22 = .ok (.areturn, 1) := by decide +kernel
theorem dX4_isInOrder_0 : decode cX4_isInOrder 0 = .ok (.aload_n 0, 1) := by decide +kernel
theorem dX4_isInOrder_1 : decode cX4_isInOrder 1 = .ok (.iload_n 1, 1) := by decide +kernel
theorem dX4_isInOrder_2 : decode cX4_isInOrder 2 = .ok (.invokevirtual 44, 3) := by decide +kernel
theorem dX4_isInOrder_5 : decode cX4_isInOrder 5 = .ok (.ifCond .eq 33, 3) := by decide +kernel
theorem dX4_isInOrder_38 : decode cX4_isInOrder 38 = .ok (.iconst 0, 1) := by decide +kernel
theorem dX4_isInOrder_39 : decode cX4_isInOrder 39 = .ok (.ireturn, 1) := by decide +kernel
theorem dX5_init_0 : decode cX5_init 0 = .ok (.aload_n 0, 1) := by decide +kernel
theorem dX5_init_1 : decode cX5_init 1 = .ok (.invokespecial 1, 3) := by decide +kernel
theorem dX5_init_4 : decode cX5_init 4 = .ok (.aload_n 0, 1) := by decide +kernel
theorem dX5_init_5 : decode cX5_init 5 = .ok (.bipush 16, 2) := by decide +kernel
theorem dX5_init_7 : decode cX5_init 7 = .ok (.newarray .long, 2) := by decide +kernel
theorem dX5_init_9 : decode cX5_init 9 = .ok (.putfield 7, 3) := by decide +kernel
theorem dX5_init_12 : decode cX5_init 12 = .ok (.aload_n 0, 1) := by decide +kernel
theorem dX5_init_13 : decode cX5_init 13 = .ok (.bipush 12, 2) := by decide +kernel
theorem dX5_init_15 : decode cX5_init 15 = .ok (.newarray .int, 2) := by decide +kernel
theorem dX5_init_17 : decode cX5_init 17 = .ok (.putfield 13, 3) := by decide +kernel
theorem dX5_init_20 : decode cX5_init 20 = .ok (.aload_n 0, 1) := by decide +kernel
theorem dX5_init_21 : decode cX5_init 21 = .ok (.bipush 12, 2) := by decide +kernel
theorem dX5_init_23 : decode cX5_init 23 = .ok (.newarray .int, 2) := by decide +kernel
theorem dX5_init_25 : decode cX5_init 25 = .ok (.putfield 17, 3) := by decide +kernel
theorem dX5_init_28 : decode cX5_init 28 = .ok (.aload_n 0, 1) := by decide +kernel
theorem dX5_init_29 : decode cX5_init 29 = .ok (.bipush 12, 2) := by decide +kernel
theorem dX5_init_31 : decode cX5_init 31 = .ok (.newarray .long, 2) := by decide +kernel
theorem dX5_init_33 : decode cX5_init 33 = .ok (.putfield 20, 3) := by decide +kernel
theorem dX5_init_36 : decode cX5_init 36 = .ok (.aload_n 0, 1) := by decide +kernel
theorem dX5_init_37 : decode cX5_init 37 = .ok (.bipush 12, 2) := by decide +kernel
theorem dX5_init_39 : decode cX5_init 39 = .ok (.newarray .long, 2) := by decide +kernel
theorem dX5_init_41 : decode cX5_init 41 = .ok (.putfield 23, 3) := by decide +kernel
theorem dX5_init_44 : decode cX5_init 44 = .ok (.aload_n 0, 1) := by decide +kernel
theorem dX5_init_45 : decode cX5_init 45 = .ok (.sipush 200, 3) := by decide +kernel
theorem dX5_init_48 : decode cX5_init 48 = .ok (.newarray .int, 2) := by decide +kernel
theorem dX5_init_50 : decode cX5_init 50 = .ok (.putfield 26, 3) := by decide +kernel
theorem dX5_init_53 : decode cX5_init 53 = .ok (.aload_n 0, 1) := by decide +kernel
theorem dX5_init_54 : decode cX5_init 54 = .ok (.bipush 32, 2) := by decide +kernel
theorem dX5_init_56 : decode cX5_init 56 = .ok (.newarray .long, 2) := by decide +kernel
theorem dX5_init_58 : decode cX5_init 58 = .ok (.putfield 29, 3) := by decide +kernel
theorem dX5_init_61 : decode cX5_init 61 = .ok (.aload_n 0, 1) := by decide +kernel
theorem dX5_init_62 : decode cX5_init 62 = .ok (.iconst 4, 1) := by decide +kernel
theorem dX5_init_63 : decode cX5_init 63 = .ok (.newarray .long, 2) := by decide +kernel
theorem dX5_init_65 : decode cX5_init 65 = .ok (.putfield 32, 3) := by decide +kernel
theorem dX5_init_68 : decode cX5_init 68 = .ok (.aload_n 0, 1) := by decide +kernel
theorem dX5_init_69 : decode cX5_init 69 = .ok (.bipush 16, 2) := by decide +kernel
theorem dX5_init_71 : decode cX5_init 71 = .ok (.newarray .long, 2) := by decide +kernel
theorem dX5_init_73 : decode cX5_init 73 = .ok (.putfield 35, 3) := by decide +kernel
theorem dX5_init_76 : decode cX5_init 76 = .ok (.aload_n 0, 1) := by decide +kernel
theorem dX5_init_77 : decode cX5_init 77 = .ok (.iconst 4, 1) := by decide +kernel
theorem dX5_init_78 : decode cX5_init 78 = .ok (.newarray .int, 2) := by decide +kernel
theorem dX5_init_80 : decode cX5_init 80 = .ok (.putfield 38, 3) := by decide +kernel
theorem dX5_init_83 : decode cX5_init 83 = .ok (.return_, 1) := by decide +kernel
theorem dX5_thrown_0 : decode cX5_thrown 0 = .ok (.aload_n 0, 1) := by decide +kernel
theorem dX5_thrown_1 : decode cX5_thrown 1 = .ok (.getfield 41, 3) := by decide +kernel
theorem dX5_thrown_4 : decode cX5_thrown 4 = .ok (.ireturn, 1) := by decide +kernel
theorem dX5_in_0 : decode cX5_in 0 = .ok (.lload_n 0, 1) := by decide +kernel
theorem dX5_in_1 : decode cX5_in 1 = .ok (.lload_n 2, 1) := by decide +kernel
theorem dX5_in_2 : decode cX5_in 2 = .ok (.lcmp, 1) := by decide +kernel
theorem dX5_in_3 : decode cX5_in 3 = .ok (.ifCond .lt 14, 3) := by decide +kernel
theorem dX5_in_6 : decode cX5_in 6 = .ok (.lload_n 0, 1) := by decide +kernel
theorem dX5_in_7 : decode cX5_in 7 = .ok (.lload 4, 2) := by decide +kernel
theorem dX5_in_9 : decode cX5_in 9 = .ok (.lcmp, 1) := by decide +kernel
theorem dX5_in_10 : decode cX5_in 10 = .ok (.ifCond .gt 7, 3) := by decide +kernel
theorem dX5_in_13 : decode cX5_in 13 = .ok (.iconst 1, 1) := by decide +kernel
theorem dX5_in_14 : decode cX5_in 14 = .ok (.goto 4, 3) := by decide +kernel
theorem dX5_in_17 : decode cX5_in 17 = .ok (.iconst 0, 1) := by decide +kernel
theorem dX5_in_18 : decode cX5_in 18 = .ok (.ireturn, 1) := by decide +kernel
theorem dX5_isKey_0 : decode cX5_isKey 0 = .ok (.iload_n 1, 1) := by decide +kernel
theorem dX5_isKey_1 : decode cX5_isKey 1 = .ok (.i2l, 1) := by decide +kernel
theorem dX5_isKey_2 : decode cX5_isKey 2 = .ok (.lconst 0, 1) := by decide +kernel
theorem dX5_isKey_3 : decode cX5_isKey 3 = .ok (.aload_n 0, 1) := by decide +kernel
theorem dX5_isKey_4 : decode cX5_isKey 4 = .ok (.getfield 55, 3) := by decide +kernel
theorem dX5_isKey_7 : decode cX5_isKey 7 = .ok (.iconst 1, 1) := by decide +kernel
theorem dX5_isKey_8 : decode cX5_isKey 8 = .ok (.isub, 1) := by decide +kernel
theorem dX5_isKey_9 : decode cX5_isKey 9 = .ok (.i2l, 1) := by decide +kernel
theorem dX5_isKey_10 : decode cX5_isKey 10 = .ok (.invokestatic 58, 3) := by decide +kernel
theorem dX5_isKey_13 : decode cX5_isKey 13 = .ok (.ireturn, 1) := by decide +kernel
theorem dX5_isDrawer_0 : decode cX5_isDrawer 0 = .ok (.iload_n 1, 1) := by decide +kernel
theorem dX5_isDrawer_1 : decode cX5_isDrawer 1 = .ok (.i2l, 1) := by decide +kernel
theorem dX5_isDrawer_2 : decode cX5_isDrawer 2 = .ok (.lconst 0, 1) := by decide +kernel
theorem dX5_isDrawer_3 : decode cX5_isDrawer 3 = .ok (.aload_n 0, 1) := by decide +kernel
theorem dX5_isDrawer_4 : decode cX5_isDrawer 4 = .ok (.getfield 62, 3) := by decide +kernel
theorem dX5_isDrawer_7 : decode cX5_isDrawer 7 = .ok (.iconst 1, 1) := by decide +kernel
theorem dX5_isDrawer_8 : decode cX5_isDrawer 8 = .ok (.isub, 1) := by decide +kernel
theorem dX5_isDrawer_9 : decode cX5_isDrawer 9 = .ok (.i2l, 1) := by decide +kernel
theorem dX5_isDrawer_10 : decode cX5_isDrawer 10 = .ok (.invokestatic 58, 3) := by decide +kernel
theorem dX5_isDrawer_13 : decode cX5_isDrawer 13 = .ok (.ireturn, 1) := by decide +kernel
theorem dX5_key_0 : decode cX5_key 0 = .ok (.aload_n 0, 1) := by decide +kernel
theorem dX5_key_1 : decode cX5_key 1 = .ok (.iconst 0, 1) := by decide +kernel
theorem dX5_key_2 : decode cX5_key 2 = .ok (.putfield 41, 3) := by decide +kernel
theorem dX5_key_5 : decode cX5_key 5 = .ok (.aload_n 0, 1) := by decide +kernel
theorem dX5_key_6 : decode cX5_key 6 = .ok (.getfield 55, 3) := by decide +kernel
theorem dX5_key_9 : decode cX5_key 9 = .ok (.bipush 16, 2) := by decide +kernel
theorem dX5_key_11 : decode cX5_key 11 = .ok (.if_icmp .ne 6, 3) := by decide +kernel
theorem dX5_key_17 : decode cX5_key 17 = .ok (.aload_n 0, 1) := by decide +kernel
theorem dX5_key_18 : decode cX5_key 18 = .ok (.getfield 7, 3) := by decide +kernel
theorem dX5_key_21 : decode cX5_key 21 = .ok (.aload_n 0, 1) := by decide +kernel
theorem dX5_key_22 : decode cX5_key 22 = .ok (.getfield 55, 3) := by decide +kernel
theorem dX5_key_25 : decode cX5_key 25 = .ok (.lload_n 1, 1) := by decide +kernel
theorem dX5_key_26 : decode cX5_key 26 = .ok (.lastore, 1) := by decide +kernel
theorem dX5_key_27 : decode cX5_key 27 = .ok (.aload_n 0, 1) := by decide +kernel
theorem dX5_key_28 : decode cX5_key 28 = .ok (.dup, 1) := by decide +kernel
theorem dX5_key_29 : decode cX5_key 29 = .ok (.getfield 55, 3) := by decide +kernel
theorem dX5_key_32 : decode cX5_key 32 = .ok (.iconst 1, 1) := by decide +kernel
theorem dX5_key_33 : decode cX5_key 33 = .ok (.iadd, 1) := by decide +kernel
theorem dX5_key_34 : decode cX5_key 34 = .ok (.putfield 55, 3) := by decide +kernel
theorem dX5_key_37 : decode cX5_key 37 = .ok (.aload_n 0, 1) := by decide +kernel
theorem dX5_key_38 : decode cX5_key 38 = .ok (.getfield 55, 3) := by decide +kernel
theorem dX5_key_41 : decode cX5_key 41 = .ok (.iconst 1, 1) := by decide +kernel
theorem dX5_key_42 : decode cX5_key 42 = .ok (.isub, 1) := by decide +kernel
theorem dX5_key_43 : decode cX5_key 43 = .ok (.ireturn, 1) := by decide +kernel
theorem dX5_split_0 : decode cX5_split 0 = .ok (.aload_n 0, 1) := by decide +kernel
theorem dX5_split_1 : decode cX5_split 1 = .ok (.iconst 0, 1) := by decide +kernel
theorem dX5_split_2 : decode cX5_split 2 = .ok (.putfield 41, 3) := by decide +kernel
theorem dX5_split_5 : decode cX5_split 5 = .ok (.aload_n 0, 1) := by decide +kernel
theorem dX5_split_6 : decode cX5_split 6 = .ok (.iload_n 1, 1) := by decide +kernel
theorem dX5_split_7 : decode cX5_split 7 = .ok (.invokevirtual 65, 3) := by decide +kernel
theorem dX5_split_10 : decode cX5_split 10 = .ok (.ifCond .ne 5, 3) := by decide +kernel
theorem dX5_split_13 : decode cX5_split 13 = .ok (.iconst (-1), 1) := by decide +kernel
theorem dX5_split_14 : decode cX5_split 14 = .ok (.ireturn, 1) := by decide +kernel
theorem dX5_bitsOf_0 : decode cX5_bitsOf 0 = .ok (.aload_n 0, 1) := by decide +kernel
theorem dX5_bitsOf_1 : decode cX5_bitsOf 1 = .ok (.iconst 0, 1) := by decide +kernel
theorem dX5_bitsOf_2 : decode cX5_bitsOf 2 = .ok (.putfield 41, 3) := by decide +kernel
theorem dX5_bitsOf_5 : decode cX5_bitsOf 5 = .ok (.aload_n 0, 1) := by decide +kernel
theorem dX5_bitsOf_6 : decode cX5_bitsOf 6 = .ok (.iload_n 1, 1) := by decide +kernel
theorem dX5_bitsOf_7 : decode cX5_bitsOf 7 = .ok (.invokevirtual 65, 3) := by decide +kernel
theorem dX5_bitsOf_10 : decode cX5_bitsOf 10 = .ok (.ifCond .eq 12, 3) := by decide +kernel
theorem dX5_bitsOf_22 : decode cX5_bitsOf 22 = .ok (.ldc2_w 73, 3) := by decide +kernel
theorem dX5_bitsOf_25 : decode cX5_bitsOf 25 = .ok (.lreturn, 1) := by decide +kernel
theorem dX5_word_0 : decode cX5_word 0 = .ok (.aload_n 0, 1) := by decide +kernel
theorem dX5_word_1 : decode cX5_word 1 = .ok (.iconst 0, 1) := by decide +kernel
theorem dX5_word_2 : decode cX5_word 2 = .ok (.putfield 41, 3) := by decide +kernel
theorem dX5_word_5 : decode cX5_word 5 = .ok (.aload_n 0, 1) := by decide +kernel
theorem dX5_word_6 : decode cX5_word 6 = .ok (.iload_n 1, 1) := by decide +kernel
theorem dX5_word_7 : decode cX5_word 7 = .ok (.invokevirtual 65, 3) := by decide +kernel
theorem dX5_word_10 : decode cX5_word 10 = .ok (.ifCond .eq 13, 3) := by decide +kernel
theorem dX5_word_23 : decode cX5_word 23 = .ok (.ldc2_w 73, 3) := by decide +kernel
theorem dX5_word_26 : decode cX5_word 26 = .ok (.lreturn, 1) := by decide +kernel
theorem dX5_drawer_0 : decode cX5_drawer 0 = .ok (.aload_n 0, 1) := by decide +kernel
theorem dX5_drawer_1 : decode cX5_drawer 1 = .ok (.iconst 0, 1) := by decide +kernel
theorem dX5_drawer_2 : decode cX5_drawer 2 = .ok (.putfield 41, 3) := by decide +kernel
theorem dX5_drawer_5 : decode cX5_drawer 5 = .ok (.aload_n 0, 1) := by decide +kernel
theorem dX5_drawer_6 : decode cX5_drawer 6 = .ok (.iload_n 1, 1) := by decide +kernel
theorem dX5_drawer_7 : decode cX5_drawer 7 = .ok (.invokevirtual 65, 3) := by decide +kernel
theorem dX5_drawer_10 : decode cX5_drawer 10 = .ok (.ifCond .eq 7, 3) := by decide +kernel
theorem dX5_drawer_17 : decode cX5_drawer 17 = .ok (.iconst (-1), 1) := by decide +kernel
theorem dX5_drawer_18 : decode cX5_drawer 18 = .ok (.ireturn, 1) := by decide +kernel
theorem dX5_place_0 : decode cX5_place 0 = .ok (.aload_n 0, 1) := by decide +kernel
theorem dX5_place_1 : decode cX5_place 1 = .ok (.iconst 0, 1) := by decide +kernel
theorem dX5_place_2 : decode cX5_place 2 = .ok (.putfield 41, 3) := by decide +kernel
theorem dX5_place_5 : decode cX5_place 5 = .ok (.aload_n 0, 1) := by decide +kernel
theorem dX5_place_6 : decode cX5_place 6 = .ok (.iload_n 1, 1) := by decide +kernel
theorem dX5_place_7 : decode cX5_place 7 = .ok (.invokevirtual 77, 3) := by decide +kernel
theorem dX5_place_10 : decode cX5_place 10 = .ok (.ifCond .eq 14, 3) := by decide +kernel
theorem dX5_place_24 : decode cX5_place 24 = .ok (.iconst (-1), 1) := by decide +kernel
theorem dX5_place_25 : decode cX5_place 25 = .ok (.ireturn, 1) := by decide +kernel
theorem dX5_told_0 : decode cX5_told 0 = .ok (.aload_n 0, 1) := by decide +kernel
theorem dX5_told_1 : decode cX5_told 1 = .ok (.iconst 0, 1) := by decide +kernel
theorem dX5_told_2 : decode cX5_told 2 = .ok (.putfield 41, 3) := by decide +kernel
theorem dX5_told_5 : decode cX5_told 5 = .ok (.aload_n 0, 1) := by decide +kernel
theorem dX5_told_6 : decode cX5_told 6 = .ok (.iload_n 1, 1) := by decide +kernel
theorem dX5_told_7 : decode cX5_told 7 = .ok (.invokevirtual 77, 3) := by decide +kernel
theorem dX5_told_10 : decode cX5_told 10 = .ok (.ifCond .eq 15, 3) := by decide +kernel
theorem dX5_told_25 : decode cX5_told 25 = .ok (.ldc2_w 73, 3) := by decide +kernel
theorem dX5_told_28 : decode cX5_told 28 = .ok (.lreturn, 1) := by decide +kernel
theorem dX5_same_0 : decode cX5_same 0 = .ok (.aload_n 0, 1) := by decide +kernel
theorem dX5_same_1 : decode cX5_same 1 = .ok (.iconst 0, 1) := by decide +kernel
theorem dX5_same_2 : decode cX5_same 2 = .ok (.putfield 41, 3) := by decide +kernel
theorem dX5_same_5 : decode cX5_same 5 = .ok (.aload_n 0, 1) := by decide +kernel
theorem dX5_same_6 : decode cX5_same 6 = .ok (.iload_n 1, 1) := by decide +kernel
theorem dX5_same_7 : decode cX5_same 7 = .ok (.invokevirtual 77, 3) := by decide +kernel
theorem dX5_same_10 : decode cX5_same 10 = .ok (.ifCond .eq 72, 3) := by decide +kernel
theorem dX5_same_82 : decode cX5_same 82 = .ok (.iconst 0, 1) := by decide +kernel
theorem dX5_same_83 : decode cX5_same 83 = .ok (.ireturn, 1) := by decide +kernel
theorem dX5_bits_0 : decode cX5_bits 0 = .ok (.aload_n 0, 1) := by decide +kernel
theorem dX5_bits_1 : decode cX5_bits 1 = .ok (.iconst 0, 1) := by decide +kernel
theorem dX5_bits_2 : decode cX5_bits 2 = .ok (.putfield 41, 3) := by decide +kernel
theorem dX5_bits_5 : decode cX5_bits 5 = .ok (.aload_n 0, 1) := by decide +kernel
theorem dX5_bits_6 : decode cX5_bits 6 = .ok (.iload_n 1, 1) := by decide +kernel
theorem dX5_bits_7 : decode cX5_bits 7 = .ok (.invokevirtual 77, 3) := by decide +kernel
theorem dX5_bits_10 : decode cX5_bits 10 = .ok (.ifCond .eq 24, 3) := by decide +kernel
theorem dX5_bits_34 : decode cX5_bits 34 = .ok (.ldc2_w 73, 3) := by decide +kernel
theorem dX5_bits_37 : decode cX5_bits 37 = .ok (.lreturn, 1) := by decide +kernel
theorem dX5_below_0 : decode cX5_below 0 = .ok (.aload_n 0, 1) := by decide +kernel
theorem dX5_below_1 : decode cX5_below 1 = .ok (.iconst 0, 1) := by decide +kernel
theorem dX5_below_2 : decode cX5_below 2 = .ok (.putfield 41, 3) := by decide +kernel
theorem dX5_below_5 : decode cX5_below 5 = .ok (.aload_n 0, 1) := by decide +kernel
theorem dX5_below_6 : decode cX5_below 6 = .ok (.iload_n 1, 1) := by decide +kernel
theorem dX5_below_7 : decode cX5_below 7 = .ok (.invokevirtual 77, 3) := by decide +kernel
theorem dX5_below_10 : decode cX5_below 10 = .ok (.ifCond .eq 9, 3) := by decide +kernel
theorem dX5_below_19 : decode cX5_below 19 = .ok (.ldc2_w 73, 3) := by decide +kernel
theorem dX5_below_22 : decode cX5_below 22 = .ok (.lreturn, 1) := by decide +kernel
theorem dX5_real_0 : decode cX5_real 0 = .ok (.aload_n 0, 1) := by decide +kernel
theorem dX5_real_1 : decode cX5_real 1 = .ok (.iconst 0, 1) := by decide +kernel
theorem dX5_real_2 : decode cX5_real 2 = .ok (.putfield 41, 3) := by decide +kernel
theorem dX5_real_5 : decode cX5_real 5 = .ok (.aload_n 0, 1) := by decide +kernel
theorem dX5_real_6 : decode cX5_real 6 = .ok (.iload_n 1, 1) := by decide +kernel
theorem dX5_real_7 : decode cX5_real 7 = .ok (.invokevirtual 77, 3) := by decide +kernel
theorem dX5_real_10 : decode cX5_real 10 = .ok (.ifCond .eq 18, 3) := by decide +kernel
theorem dX5_real_28 : decode cX5_real 28 = .ok (.ldc2_w 100, 3) := by decide +kernel
theorem dX5_real_31 : decode cX5_real 31 = .ok (.dreturn, 1) := by decide +kernel
theorem dX5_single_0 : decode cX5_single 0 = .ok (.aload_n 0, 1) := by decide +kernel
theorem dX5_single_1 : decode cX5_single 1 = .ok (.iconst 0, 1) := by decide +kernel
theorem dX5_single_2 : decode cX5_single 2 = .ok (.putfield 41, 3) := by decide +kernel
theorem dX5_single_5 : decode cX5_single 5 = .ok (.aload_n 0, 1) := by decide +kernel
theorem dX5_single_6 : decode cX5_single 6 = .ok (.iload_n 1, 1) := by decide +kernel
theorem dX5_single_7 : decode cX5_single 7 = .ok (.invokevirtual 77, 3) := by decide +kernel
theorem dX5_single_10 : decode cX5_single 10 = .ok (.ifCond .eq 17, 3) := by decide +kernel
theorem dX5_single_27 : decode cX5_single 27 = .ok (.ldc 103, 2) := by decide +kernel
theorem dX5_single_29 : decode cX5_single 29 = .ok (.freturn, 1) := by decide +kernel
theorem dX5_isCoin_0 : decode cX5_isCoin 0 = .ok (.aload_n 0, 1) := by decide +kernel
theorem dX5_isCoin_1 : decode cX5_isCoin 1 = .ok (.iload_n 1, 1) := by decide +kernel
theorem dX5_isCoin_2 : decode cX5_isCoin 2 = .ok (.invokevirtual 77, 3) := by decide +kernel
theorem dX5_isCoin_5 : decode cX5_isCoin 5 = .ok (.ifCond .eq 23, 3) := by decide +kernel
theorem dX5_isCoin_28 : decode cX5_isCoin 28 = .ok (.iconst 0, 1) := by decide +kernel
theorem dX5_isCoin_29 : decode cX5_isCoin 29 = .ok (.ireturn, 1) := by decide +kernel
theorem dX5_coin_0 : decode cX5_coin 0 = .ok (.aload_n 0, 1) := by decide +kernel
theorem dX5_coin_1 : decode cX5_coin 1 = .ok (.iconst 0, 1) := by decide +kernel
theorem dX5_coin_2 : decode cX5_coin 2 = .ok (.putfield 41, 3) := by decide +kernel
theorem dX5_coin_5 : decode cX5_coin 5 = .ok (.aload_n 0, 1) := by decide +kernel
theorem dX5_coin_6 : decode cX5_coin 6 = .ok (.iload_n 1, 1) := by decide +kernel
theorem dX5_coin_7 : decode cX5_coin 7 = .ok (.iload_n 2, 1) := by decide +kernel
theorem dX5_coin_8 : decode cX5_coin 8 = .ok (.iload_n 3, 1) := by decide +kernel
theorem dX5_coin_9 : decode cX5_coin 9 = .ok (.invokevirtual 104, 3) := by decide +kernel
theorem dX5_coin_12 : decode cX5_coin 12 = .ok (.ifCond .ne 5, 3) := by decide +kernel
theorem dX5_coin_15 : decode cX5_coin 15 = .ok (.iconst (-1), 1) := by decide +kernel
theorem dX5_coin_16 : decode cX5_coin 16 = .ok (.ireturn, 1) := by decide +kernel
theorem dX5_misses_0 : decode cX5_misses 0 = .ok (.aload_n 0, 1) := by decide +kernel
theorem dX5_misses_1 : decode cX5_misses 1 = .ok (.iconst 0, 1) := by decide +kernel
theorem dX5_misses_2 : decode cX5_misses 2 = .ok (.putfield 41, 3) := by decide +kernel
theorem dX5_misses_5 : decode cX5_misses 5 = .ok (.aload_n 0, 1) := by decide +kernel
theorem dX5_misses_6 : decode cX5_misses 6 = .ok (.iload_n 1, 1) := by decide +kernel
theorem dX5_misses_7 : decode cX5_misses 7 = .ok (.iload_n 2, 1) := by decide +kernel
theorem dX5_misses_8 : decode cX5_misses 8 = .ok (.iload_n 3, 1) := by decide +kernel
theorem dX5_misses_9 : decode cX5_misses 9 = .ok (.invokevirtual 104, 3) := by decide +kernel
theorem dX5_misses_12 : decode cX5_misses 12 = .ok (.ifCond .eq 16, 3) := by decide +kernel
theorem dX5_misses_28 : decode cX5_misses 28 = .ok (.iconst (-1), 1) := by decide +kernel
theorem dX5_misses_29 : decode cX5_misses 29 = .ok (.ireturn, 1) := by decide +kernel
theorem dX5_hits_0 : decode cX5_hits 0 = .ok (.aload_n 0, 1) := by decide +kernel
theorem dX5_hits_1 : decode cX5_hits 1 = .ok (.iconst 0, 1) := by decide +kernel
theorem dX5_hits_2 : decode cX5_hits 2 = .ok (.putfield 41, 3) := by decide +kernel
theorem dX5_hits_5 : decode cX5_hits 5 = .ok (.aload_n 0, 1) := by decide +kernel
theorem dX5_hits_6 : decode cX5_hits 6 = .ok (.iload_n 1, 1) := by decide +kernel
theorem dX5_hits_7 : decode cX5_hits 7 = .ok (.iload_n 2, 1) := by decide +kernel
theorem dX5_hits_8 : decode cX5_hits 8 = .ok (.iload_n 3, 1) := by decide +kernel
theorem dX5_hits_9 : decode cX5_hits 9 = .ok (.invokevirtual 104, 3) := by decide +kernel
theorem dX5_hits_12 : decode cX5_hits 12 = .ok (.ifCond .eq 16, 3) := by decide +kernel
theorem dX5_hits_28 : decode cX5_hits 28 = .ok (.iconst (-1), 1) := by decide +kernel
theorem dX5_hits_29 : decode cX5_hits 29 = .ok (.ireturn, 1) := by decide +kernel
theorem dX5_mask_0 : decode cX5_mask 0 = .ok (.aload_n 0, 1) := by decide +kernel
theorem dX5_mask_1 : decode cX5_mask 1 = .ok (.iconst 0, 1) := by decide +kernel
theorem dX5_mask_2 : decode cX5_mask 2 = .ok (.putfield 41, 3) := by decide +kernel
theorem dX5_mask_5 : decode cX5_mask 5 = .ok (.aload_n 0, 1) := by decide +kernel
theorem dX5_mask_6 : decode cX5_mask 6 = .ok (.iload_n 1, 1) := by decide +kernel
theorem dX5_mask_7 : decode cX5_mask 7 = .ok (.iload_n 2, 1) := by decide +kernel
theorem dX5_mask_8 : decode cX5_mask 8 = .ok (.iload_n 3, 1) := by decide +kernel
theorem dX5_mask_9 : decode cX5_mask 9 = .ok (.invokevirtual 104, 3) := by decide +kernel
theorem dX5_mask_12 : decode cX5_mask 12 = .ok (.ifCond .eq 16, 3) := by decide +kernel
theorem dX5_mask_28 : decode cX5_mask 28 = .ok (.lconst 0, 1) := by decide +kernel
theorem dX5_mask_29 : decode cX5_mask 29 = .ok (.lreturn, 1) := by decide +kernel
theorem dX5_normal_0 : decode cX5_normal 0 = .ok (.aload_n 0, 1) := by decide +kernel
theorem dX5_normal_1 : decode cX5_normal 1 = .ok (.iconst 0, 1) := by decide +kernel
theorem dX5_normal_2 : decode cX5_normal 2 = .ok (.putfield 41, 3) := by decide +kernel
theorem dX5_normal_5 : decode cX5_normal 5 = .ok (.aload_n 0, 1) := by decide +kernel
theorem dX5_normal_6 : decode cX5_normal 6 = .ok (.iload_n 1, 1) := by decide +kernel
theorem dX5_normal_7 : decode cX5_normal 7 = .ok (.invokevirtual 77, 3) := by decide +kernel
theorem dX5_normal_10 : decode cX5_normal 10 = .ok (.ifCond .ne 5, 3) := by decide +kernel
theorem dX5_normal_13 : decode cX5_normal 13 = .ok (.lconst 0, 1) := by decide +kernel
theorem dX5_normal_14 : decode cX5_normal 14 = .ok (.lreturn, 1) := by decide +kernel
theorem dX5_permutation_0 : decode cX5_permutation 0 = .ok (.aload_n 0, 1) := by decide +kernel
theorem dX5_permutation_1 : decode cX5_permutation 1 = .ok (.iconst 0, 1) := by decide +kernel
theorem dX5_permutation_2 : decode cX5_permutation 2 = .ok (.putfield 41, 3) := by decide +kernel
theorem dX5_permutation_5 : decode cX5_permutation 5 = .ok (.aload_n 0, 1) := by decide +kernel
theorem dX5_permutation_6 : decode cX5_permutation 6 = .ok (.iload_n 1, 1) := by decide +kernel
theorem dX5_permutation_7 : decode cX5_permutation 7 = .ok (.invokevirtual 77, 3) := by decide +kernel
theorem dX5_permutation_10 : decode cX5_permutation 10 = .ok (.ifCond .eq 15, 3) := by decide +kernel
theorem dX5_permutation_25 : decode cX5_permutation 25 = .ok (.iconst (-1), 1) := by decide +kernel
theorem dX5_permutation_26 : decode cX5_permutation 26 = .ok (.ireturn, 1) := by decide +kernel
theorem dX5_subset_0 : decode cX5_subset 0 = .ok (.aload_n 0, 1) := by decide +kernel
theorem dX5_subset_1 : decode cX5_subset 1 = .ok (.iconst 0, 1) := by decide +kernel
theorem dX5_subset_2 : decode cX5_subset 2 = .ok (.putfield 41, 3) := by decide +kernel
theorem dX5_subset_5 : decode cX5_subset 5 = .ok (.aload_n 0, 1) := by decide +kernel
theorem dX5_subset_6 : decode cX5_subset 6 = .ok (.iload_n 1, 1) := by decide +kernel
theorem dX5_subset_7 : decode cX5_subset 7 = .ok (.invokevirtual 77, 3) := by decide +kernel
theorem dX5_subset_10 : decode cX5_subset 10 = .ok (.ifCond .eq 32, 3) := by decide +kernel
theorem dX5_subset_42 : decode cX5_subset 42 = .ok (.iconst (-1), 1) := by decide +kernel
theorem dX5_subset_43 : decode cX5_subset 43 = .ok (.ireturn, 1) := by decide +kernel
theorem dX5_at_0 : decode cX5_at 0 = .ok (.aload_n 0, 1) := by decide +kernel
theorem dX5_at_1 : decode cX5_at 1 = .ok (.iconst 0, 1) := by decide +kernel
theorem dX5_at_2 : decode cX5_at 2 = .ok (.putfield 41, 3) := by decide +kernel
theorem dX5_at_5 : decode cX5_at 5 = .ok (.iload_n 1, 1) := by decide +kernel
theorem dX5_at_6 : decode cX5_at 6 = .ok (.i2l, 1) := by decide +kernel
theorem dX5_at_7 : decode cX5_at 7 = .ok (.lconst 0, 1) := by decide +kernel
theorem dX5_at_8 : decode cX5_at 8 = .ok (.aload_n 0, 1) := by decide +kernel
theorem dX5_at_9 : decode cX5_at 9 = .ok (.getfield 133, 3) := by decide +kernel
theorem dX5_at_12 : decode cX5_at 12 = .ok (.iconst 1, 1) := by decide +kernel
theorem dX5_at_13 : decode cX5_at 13 = .ok (.isub, 1) := by decide +kernel
theorem dX5_at_14 : decode cX5_at 14 = .ok (.i2l, 1) := by decide +kernel
theorem dX5_at_15 : decode cX5_at 15 = .ok (.invokestatic 58, 3) := by decide +kernel
theorem dX5_at_18 : decode cX5_at 18 = .ok (.ifCond .ne 10, 3) := by decide +kernel
theorem dX5_at_21 : decode cX5_at 21 = .ok (.aload_n 0, 1) := by decide +kernel
theorem dX5_at_22 : decode cX5_at 22 = .ok (.iconst 1, 1) := by decide +kernel
theorem dX5_at_23 : decode cX5_at 23 = .ok (.putfield 41, 3) := by decide +kernel
theorem dX5_at_26 : decode cX5_at 26 = .ok (.iconst 0, 1) := by decide +kernel
theorem dX5_at_27 : decode cX5_at 27 = .ok (.ireturn, 1) := by decide +kernel
theorem dX5_weight_0 : decode cX5_weight 0 = .ok (.aload_n 0, 1) := by decide +kernel
theorem dX5_weight_1 : decode cX5_weight 1 = .ok (.iconst 0, 1) := by decide +kernel
theorem dX5_weight_2 : decode cX5_weight 2 = .ok (.putfield 41, 3) := by decide +kernel
theorem dX5_weight_5 : decode cX5_weight 5 = .ok (.iload_n 1, 1) := by decide +kernel
theorem dX5_weight_6 : decode cX5_weight 6 = .ok (.i2l, 1) := by decide +kernel
theorem dX5_weight_7 : decode cX5_weight 7 = .ok (.lconst 0, 1) := by decide +kernel
theorem dX5_weight_8 : decode cX5_weight 8 = .ok (.ldc2_w 141, 3) := by decide +kernel
theorem dX5_weight_11 : decode cX5_weight 11 = .ok (.invokestatic 58, 3) := by decide +kernel
theorem dX5_weight_14 : decode cX5_weight 14 = .ok (.ifCond .eq 14, 3) := by decide +kernel
theorem dX5_weight_17 : decode cX5_weight 17 = .ok (.lload_n 2, 1) := by decide +kernel
theorem dX5_weight_18 : decode cX5_weight 18 = .ok (.lconst 0, 1) := by decide +kernel
theorem dX5_weight_19 : decode cX5_weight 19 = .ok (.ldc2_w 143, 3) := by decide +kernel
theorem dX5_weight_22 : decode cX5_weight 22 = .ok (.invokestatic 58, 3) := by decide +kernel
theorem dX5_weight_25 : decode cX5_weight 25 = .ok (.ifCond .ne 7, 3) := by decide +kernel
theorem dX5_weight_28 : decode cX5_weight 28 = .ok (.ldc2_w 73, 3) := by decide +kernel
theorem dX5_weight_31 : decode cX5_weight 31 = .ok (.lreturn, 1) := by decide +kernel
theorem dX5_weight_32 : decode cX5_weight 32 = .ok (.aload_n 0, 1) := by decide +kernel
theorem dX5_weight_33 : decode cX5_weight 33 = .ok (.getfield 29, 3) := by decide +kernel
theorem dX5_weight_36 : decode cX5_weight 36 = .ok (.iload_n 1, 1) := by decide +kernel
theorem dX5_weight_37 : decode cX5_weight 37 = .ok (.laload, 1) := by decide +kernel
theorem dX5_weight_38 : decode cX5_weight 38 = .ok (.lstore 4, 2) := by decide +kernel
theorem dX5_weight_40 : decode cX5_weight 40 = .ok (.aload_n 0, 1) := by decide +kernel
theorem dX5_weight_41 : decode cX5_weight 41 = .ok (.getfield 29, 3) := by decide +kernel
theorem dX5_weight_44 : decode cX5_weight 44 = .ok (.iload_n 1, 1) := by decide +kernel
theorem dX5_weight_45 : decode cX5_weight 45 = .ok (.lload_n 2, 1) := by decide +kernel
theorem dX5_weight_46 : decode cX5_weight 46 = .ok (.lastore, 1) := by decide +kernel
theorem dX5_weight_47 : decode cX5_weight 47 = .ok (.lload 4, 2) := by decide +kernel
theorem dX5_weight_49 : decode cX5_weight 49 = .ok (.lreturn, 1) := by decide +kernel
theorem dX5_choose_0 : decode cX5_choose 0 = .ok (.aload_n 0, 1) := by decide +kernel
theorem dX5_choose_1 : decode cX5_choose 1 = .ok (.iconst 0, 1) := by decide +kernel
theorem dX5_choose_2 : decode cX5_choose 2 = .ok (.putfield 41, 3) := by decide +kernel
theorem dX5_choose_5 : decode cX5_choose 5 = .ok (.aload_n 0, 1) := by decide +kernel
theorem dX5_choose_6 : decode cX5_choose 6 = .ok (.iload_n 1, 1) := by decide +kernel
theorem dX5_choose_7 : decode cX5_choose 7 = .ok (.invokevirtual 77, 3) := by decide +kernel
theorem dX5_choose_10 : decode cX5_choose 10 = .ok (.ifCond .ne 5, 3) := by decide +kernel
theorem dX5_choose_13 : decode cX5_choose 13 = .ok (.iconst (-1), 1) := by decide +kernel
theorem dX5_choose_14 : decode cX5_choose 14 = .ok (.ireturn, 1) := by decide +kernel
theorem dX5_isOrder_0 : decode cX5_isOrder 0 = .ok (.aload_n 0, 1) := by decide +kernel
theorem dX5_isOrder_1 : decode cX5_isOrder 1 = .ok (.iload_n 1, 1) := by decide +kernel
theorem dX5_isOrder_2 : decode cX5_isOrder 2 = .ok (.invokevirtual 65, 3) := by decide +kernel
theorem dX5_isOrder_5 : decode cX5_isOrder 5 = .ok (.ifCond .eq 37, 3) := by decide +kernel
theorem dX5_isOrder_42 : decode cX5_isOrder 42 = .ok (.iconst 0, 1) := by decide +kernel
theorem dX5_isOrder_43 : decode cX5_isOrder 43 = .ok (.ireturn, 1) := by decide +kernel
theorem dX5_secret_0 : decode cX5_secret 0 = .ok (.aload_n 0, 1) := by decide +kernel
theorem dX5_secret_1 : decode cX5_secret 1 = .ok (.iconst 0, 1) := by decide +kernel
theorem dX5_secret_2 : decode cX5_secret 2 = .ok (.putfield 41, 3) := by decide +kernel
theorem dX5_secret_5 : decode cX5_secret 5 = .ok (.aload_n 0, 1) := by decide +kernel
theorem dX5_secret_6 : decode cX5_secret 6 = .ok (.iload_n 1, 1) := by decide +kernel
theorem dX5_secret_7 : decode cX5_secret 7 = .ok (.iload_n 2, 1) := by decide +kernel
theorem dX5_secret_8 : decode cX5_secret 8 = .ok (.iload_n 3, 1) := by decide +kernel
theorem dX5_secret_9 : decode cX5_secret 9 = .ok (.iload 4, 2) := by decide +kernel
theorem dX5_secret_11 : decode cX5_secret 11 = .ok (.invokevirtual 147, 3) := by decide +kernel
theorem dX5_secret_14 : decode cX5_secret 14 = .ok (.ifCond .ne 5, 3) := by decide +kernel
theorem dX5_secret_17 : decode cX5_secret 17 = .ok (.iconst (-1), 1) := by decide +kernel
theorem dX5_secret_18 : decode cX5_secret 18 = .ok (.ireturn, 1) := by decide +kernel
theorem dX5_back_0 : decode cX5_back 0 = .ok (.aload_n 0, 1) := by decide +kernel
theorem dX5_back_1 : decode cX5_back 1 = .ok (.iconst 0, 1) := by decide +kernel
theorem dX5_back_2 : decode cX5_back 2 = .ok (.putfield 41, 3) := by decide +kernel
theorem dX5_back_5 : decode cX5_back 5 = .ok (.aload_n 0, 1) := by decide +kernel
theorem dX5_back_6 : decode cX5_back 6 = .ok (.iload_n 1, 1) := by decide +kernel
theorem dX5_back_7 : decode cX5_back 7 = .ok (.iload_n 2, 1) := by decide +kernel
theorem dX5_back_8 : decode cX5_back 8 = .ok (.iload_n 3, 1) := by decide +kernel
theorem dX5_back_9 : decode cX5_back 9 = .ok (.iload 4, 2) := by decide +kernel
theorem dX5_back_11 : decode cX5_back 11 = .ok (.invokevirtual 147, 3) := by decide +kernel
theorem dX5_back_14 : decode cX5_back 14 = .ok (.ifCond .ne 5, 3) := by decide +kernel
theorem dX5_back_17 : decode cX5_back 17 = .ok (.iconst (-1), 1) := by decide +kernel
theorem dX5_back_18 : decode cX5_back 18 = .ok (.ireturn, 1) := by decide +kernel
theorem dX5_count_0 : decode cX5_count 0 = .ok (.aload_n 0, 1) := by decide +kernel
theorem dX5_count_1 : decode cX5_count 1 = .ok (.iconst 0, 1) := by decide +kernel
theorem dX5_count_2 : decode cX5_count 2 = .ok (.putfield 41, 3) := by decide +kernel
theorem dX5_count_5 : decode cX5_count 5 = .ok (.iload_n 1, 1) := by decide +kernel
theorem dX5_count_6 : decode cX5_count 6 = .ok (.ifCond .ne 10, 3) := by decide +kernel
theorem dX5_count_9 : decode cX5_count 9 = .ok (.aload_n 0, 1) := by decide +kernel
theorem dX5_count_10 : decode cX5_count 10 = .ok (.getfield 55, 3) := by decide +kernel
theorem dX5_count_13 : decode cX5_count 13 = .ok (.goto 28, 3) := by decide +kernel
theorem dX5_count_16 : decode cX5_count 16 = .ok (.iload_n 1, 1) := by decide +kernel
theorem dX5_count_17 : decode cX5_count 17 = .ok (.iconst 1, 1) := by decide +kernel
theorem dX5_count_18 : decode cX5_count 18 = .ok (.if_icmp .ne 10, 3) := by decide +kernel
theorem dX5_count_21 : decode cX5_count 21 = .ok (.aload_n 0, 1) := by decide +kernel
theorem dX5_count_22 : decode cX5_count 22 = .ok (.getfield 62, 3) := by decide +kernel
theorem dX5_count_25 : decode cX5_count 25 = .ok (.goto 16, 3) := by decide +kernel
theorem dX5_count_28 : decode cX5_count 28 = .ok (.iload_n 1, 1) := by decide +kernel
theorem dX5_count_29 : decode cX5_count 29 = .ok (.iconst 2, 1) := by decide +kernel
theorem dX5_count_30 : decode cX5_count 30 = .ok (.if_icmp .ne 10, 3) := by decide +kernel
theorem dX5_count_33 : decode cX5_count 33 = .ok (.aload_n 0, 1) := by decide +kernel
theorem dX5_count_34 : decode cX5_count 34 = .ok (.getfield 133, 3) := by decide +kernel
theorem dX5_count_37 : decode cX5_count 37 = .ok (.goto 4, 3) := by decide +kernel
theorem dX5_count_40 : decode cX5_count 40 = .ok (.iconst (-1), 1) := by decide +kernel
theorem dX5_count_41 : decode cX5_count 41 = .ok (.ireturn, 1) := by decide +kernel
theorem dL_below_0 : decode cL_below 0 = .ok (.aload 4, 2) := by decide +kernel
theorem dL_below_2 : decode cL_below 2 = .ok (.iconst 0, 1) := by decide +kernel
theorem dL_below_3 : decode cL_below 3 = .ok (.aload_n 0, 1) := by decide +kernel
theorem dL_below_4 : decode cL_below 4 = .ok (.iload_n 1, 1) := by decide +kernel
theorem dL_below_5 : decode cL_below 5 = .ok (.lload_n 2, 1) := by decide +kernel
theorem dL_below_6 : decode cL_below 6 = .ok (.invokevirtual 7, 3) := by decide +kernel
theorem dL_below_9 : decode cL_below 9 = .ok (.lastore, 1) := by decide +kernel
theorem dL_below_10 : decode cL_below 10 = .ok (.goto 7, 3) := by decide +kernel
theorem dL_below_17 : decode cL_below 17 = .ok (.iconst 0, 1) := by decide +kernel
theorem dL_below_18 : decode cL_below 18 = .ok (.ireturn, 1) := by decide +kernel
theorem dL_at_0 : decode cL_at 0 = .ok (.aload_n 2, 1) := by decide +kernel
theorem dL_at_1 : decode cL_at 1 = .ok (.iconst 0, 1) := by decide +kernel
theorem dL_at_2 : decode cL_at 2 = .ok (.aload_n 0, 1) := by decide +kernel
theorem dL_at_3 : decode cL_at 3 = .ok (.iload_n 1, 1) := by decide +kernel
theorem dL_at_4 : decode cL_at 4 = .ok (.invokevirtual 15, 3) := by decide +kernel
theorem dL_at_12 : decode cL_at 12 = .ok (.astore_n 3, 1) := by decide +kernel
theorem dL_at_13 : decode cL_at 13 = .ok (.iconst 1, 1) := by decide +kernel
theorem dL_at_14 : decode cL_at 14 = .ok (.ireturn, 1) := by decide +kernel
abbrev vwCl : List vw_C := [(RJ0, TJ0, 2), (RJx00060, TJx00060, 6), (RX0, TX0, 8), (RX1, TX1, 2), (RX2, TX2, 6), (RX3, TX3, 6), (RX4, TX4, 9), (RX5, TX5, 14)]

