
/-! ===== BEGIN printed: names, fields, word lists, decode rows ===== -/
def RX0 : String := "Delaylens$Album"
def TX0 : u_T := fun k => match k with
  | 0 => ("Delaylens$Album", "kept", "Ljava/util/ArrayList;", true)
  | 1 => ("Delaylens$Album", "sums", "[J", true)
  | _ => ("Delaylens$Album", "pairs", "[I", true)
def tyX0 : Nat → FieldType := fun k => match k with
  | 0 => .object "java/util/ArrayList"
  | 1 => .array .long
  | _ => .array .int
abbrev wsX00 : List Cond := u_ws RX0 TX0 3
theorem nmX0 : ∀ a, a < 3 → ∀ b, b < 3 → a ≠ b → (TX0 a).2.1 ≠ (TX0 b).2.1 := by decide +kernel
theorem tyX0_ok : ∀ k, k < 3 → parseFieldDescriptor (TX0 k).2.2.1 = some (tyX0 k) := by decide +kernel
abbrev cX0_init : ByteArray := prog_2_method_1_code
def yX0_init : MethodName := ⟨RX0, "<init>", "()V"⟩
abbrev cX0_count : ByteArray := prog_2_method_2_code
def yX0_count : MethodName := ⟨RX0, "count", "()I"⟩
abbrev cX0_isFull : ByteArray := prog_2_method_3_code
def yX0_isFull : MethodName := ⟨RX0, "isFull", "()Z"⟩
abbrev cX0_frameAt : ByteArray := prog_2_method_4_code
def yX0_frameAt : MethodName := ⟨RX0, "frameAt", "(I)LDelaylens$Frame;"⟩
abbrev cX0_hasFrameOf : ByteArray := prog_2_method_5_code
def yX0_hasFrameOf : MethodName := ⟨RX0, "hasFrameOf", "(I)Z"⟩
abbrev cX0_add : ByteArray := prog_2_method_6_code
def yX0_add : MethodName := ⟨RX0, "add", "(LDelaylens$Frame;)I"⟩
abbrev cX0_clear : ByteArray := prog_2_method_7_code
def yX0_clear : MethodName := ⟨RX0, "clear", "()V"⟩
abbrev cX0_measure : ByteArray := prog_2_method_8_code
def yX0_measure : MethodName := ⟨RX0, "measure", "(IIIII)I"⟩
abbrev cX0_addPair : ByteArray := prog_2_method_9_code
def yX0_addPair : MethodName := ⟨RX0, "addPair", "(II)V"⟩
abbrev cX0_bestDelay : ByteArray := prog_2_method_10_code
def yX0_bestDelay : MethodName := ⟨RX0, "bestDelay", "()I"⟩
def RX1 : String := "Delaylens$Books"
def TX1 : u_T := fun k => match k with
  | 0 => ("Delaylens$Books", "growths", "[I", true)
  | 1 => ("Delaylens$Books", "masses", "[I", true)
  | 2 => ("Delaylens$Books", "bookings", "I", false)
  | 3 => ("Delaylens$Books", "minds", "[Z", true)
  | _ => ("Delaylens$Books", "isOpen", "Z", false)
def tyX1 : Nat → FieldType := fun k => match k with
  | 0 => .array .int
  | 1 => .array .int
  | 2 => .int
  | 3 => .array .boolean
  | _ => .boolean
abbrev wsX10 : List Cond := u_ws RX1 TX1 5
theorem nmX1 : ∀ a, a < 5 → ∀ b, b < 5 → a ≠ b → (TX1 a).2.1 ≠ (TX1 b).2.1 := by decide +kernel
theorem tyX1_ok : ∀ k, k < 5 → parseFieldDescriptor (TX1 k).2.2.1 = some (tyX1 k) := by decide +kernel
abbrev cX1_init : ByteArray := prog_3_method_1_code
def yX1_init : MethodName := ⟨RX1, "<init>", "()V"⟩
abbrev cX1_hasHouse : ByteArray := prog_3_method_2_code
def yX1_hasHouse : MethodName := ⟨RX1, "hasHouse", "(I)Z"⟩
abbrev cX1_hasMind : ByteArray := prog_3_method_3_code
def yX1_hasMind : MethodName := ⟨RX1, "hasMind", "(I)Z"⟩
abbrev cX1_areOpen : ByteArray := prog_3_method_4_code
def yX1_areOpen : MethodName := ⟨RX1, "areOpen", "()Z"⟩
abbrev cX1_add : ByteArray := prog_3_method_5_code
def yX1_add : MethodName := ⟨RX1, "add", "(III)I"⟩
abbrev cX1_growthBy : ByteArray := prog_3_method_6_code
def yX1_growthBy : MethodName := ⟨RX1, "growthBy", "(I)I"⟩
abbrev cX1_hasBooking : ByteArray := prog_3_method_7_code
def yX1_hasBooking : MethodName := ⟨RX1, "hasBooking", "(I)Z"⟩
abbrev cX1_massesThen : ByteArray := prog_3_method_8_code
def yX1_massesThen : MethodName := ⟨RX1, "massesThen", "(I)I"⟩
abbrev cX1_setMind : ByteArray := prog_3_method_9_code
def yX1_setMind : MethodName := ⟨RX1, "setMind", "(IZ)V"⟩
def RX2 : String := "Delaylens$Flare"
def TX2 : u_T := fun k => match k with
  | 0 => ("Delaylens$Flare", "day", "I", true)
  | _ => ("Delaylens$Flare", "more", "I", true)
def tyX2 : Nat → FieldType := fun k => match k with
  | 0 => .int
  | _ => .int
abbrev wsX20 : List Cond := u_ws RX2 TX2 2
theorem nmX2 : ∀ a, a < 2 → ∀ b, b < 2 → a ≠ b → (TX2 a).2.1 ≠ (TX2 b).2.1 := by decide +kernel
theorem tyX2_ok : ∀ k, k < 2 → parseFieldDescriptor (TX2 k).2.2.1 = some (tyX2 k) := by decide +kernel
abbrev cX2_init : ByteArray := prog_4_method_1_code
def yX2_init : MethodName := ⟨RX2, "<init>", "(II)V"⟩
def RX3 : String := "Delaylens$Frame"
def TX3 : u_T := fun k => match k with
  | 0 => ("Delaylens$Frame", "day", "I", true)
  | _ => ("Delaylens$Frame", "lights", "[I", true)
def tyX3 : Nat → FieldType := fun k => match k with
  | 0 => .int
  | _ => .array .int
abbrev wsX30 : List Cond := u_ws RX3 TX3 2
theorem nmX3 : ∀ a, a < 2 → ∀ b, b < 2 → a ≠ b → (TX3 a).2.1 ≠ (TX3 b).2.1 := by decide +kernel
theorem tyX3_ok : ∀ k, k < 2 → parseFieldDescriptor (TX3 k).2.2.1 = some (tyX3 k) := by decide +kernel
abbrev cX3_init : ByteArray := prog_5_method_1_code
def yX3_init : MethodName := ⟨RX3, "<init>", "(I)V"⟩
abbrev cX3_lightAt : ByteArray := prog_5_method_2_code
def yX3_lightAt : MethodName := ⟨RX3, "lightAt", "(II)I"⟩
abbrev cX3_setLight : ByteArray := prog_5_method_3_code
def yX3_setLight : MethodName := ⟨RX3, "setLight", "(III)V"⟩
abbrev cX3_isHeld : ByteArray := prog_5_method_4_code
def yX3_isHeld : MethodName := ⟨RX3, "isHeld", "(II)Z"⟩
def RX4 : String := "Delaylens$Mass"
def TX4 : u_T := fun k => match k with
  | 0 => ("Delaylens$Mass", "shape", "I", true)
  | 1 => ("Delaylens$Mass", "column", "I", true)
  | 2 => ("Delaylens$Mass", "row", "I", true)
  | _ => ("Delaylens$Mass", "strength", "I", false)
def tyX4 : Nat → FieldType := fun k => match k with
  | 0 => .int
  | 1 => .int
  | 2 => .int
  | _ => .int
abbrev wsX40 : List Cond := u_ws RX4 TX4 4
theorem nmX4 : ∀ a, a < 4 → ∀ b, b < 4 → a ≠ b → (TX4 a).2.1 ≠ (TX4 b).2.1 := by decide +kernel
theorem tyX4_ok : ∀ k, k < 4 → parseFieldDescriptor (TX4 k).2.2.1 = some (tyX4 k) := by decide +kernel
abbrev cX4_init : ByteArray := prog_6_method_1_code
def yX4_init : MethodName := ⟨RX4, "<init>", "(IIII)V"⟩
abbrev cX4_isWhole : ByteArray := prog_6_method_2_code
def yX4_isWhole : MethodName := ⟨RX4, "isWhole", "()Z"⟩
abbrev cX4_split : ByteArray := prog_6_method_3_code
def yX4_split : MethodName := ⟨RX4, "split", "(II)LDelaylens$Mass;"⟩
abbrev cX4_aside : ByteArray := prog_6_method_4_code
def yX4_aside : MethodName := ⟨RX4, "aside", "(II)I"⟩
abbrev cX4_bendInColumns : ByteArray := prog_6_method_5_code
def yX4_bendInColumns : MethodName := ⟨RX4, "bendInColumns", "(II)I"⟩
abbrev cX4_bendInRows : ByteArray := prog_6_method_6_code
def yX4_bendInRows : MethodName := ⟨RX4, "bendInRows", "(II)I"⟩
abbrev cX4_bend : ByteArray := prog_6_method_7_code
def yX4_bend : MethodName := ⟨RX4, "bend", "(II)I"⟩
abbrev cX4_shortens : ByteArray := prog_6_method_8_code
def yX4_shortens : MethodName := ⟨RX4, "shortens", "(II)I"⟩
def RX5 : String := "Delaylens$Rays"
def TX5 : u_T := fun k => match k with
  | 0 => ("Delaylens$Rays", "masses", "Ljava/util/ArrayList;", true)
  | 1 => ("Delaylens$Rays", "columns", "[I", true)
  | 2 => ("Delaylens$Rays", "rows", "[I", true)
  | _ => ("Delaylens$Rays", "ways", "[I", true)
def tyX5 : Nat → FieldType := fun k => match k with
  | 0 => .object "java/util/ArrayList"
  | 1 => .array .int
  | 2 => .array .int
  | _ => .array .int
abbrev wsX50 : List Cond := u_ws RX5 TX5 4
theorem nmX5 : ∀ a, a < 4 → ∀ b, b < 4 → a ≠ b → (TX5 a).2.1 ≠ (TX5 b).2.1 := by decide +kernel
theorem tyX5_ok : ∀ k, k < 4 → parseFieldDescriptor (TX5 k).2.2.1 = some (tyX5 k) := by decide +kernel
abbrev cX5_init : ByteArray := prog_7_method_1_code
def yX5_init : MethodName := ⟨RX5, "<init>", "()V"⟩
abbrev cX5_placeOf : ByteArray := prog_7_method_2_code
def yX5_placeOf : MethodName := ⟨RX5, "placeOf", "(II)I"⟩
abbrev cX5_columnOf : ByteArray := prog_7_method_3_code
def yX5_columnOf : MethodName := ⟨RX5, "columnOf", "(I)I"⟩
abbrev cX5_rowOf : ByteArray := prog_7_method_4_code
def yX5_rowOf : MethodName := ⟨RX5, "rowOf", "(I)I"⟩
abbrev cX5_count : ByteArray := prog_7_method_5_code
def yX5_count : MethodName := ⟨RX5, "count", "()I"⟩
abbrev cX5_isFull : ByteArray := prog_7_method_6_code
def yX5_isFull : MethodName := ⟨RX5, "isFull", "()Z"⟩
abbrev cX5_massAt : ByteArray := prog_7_method_7_code
def yX5_massAt : MethodName := ⟨RX5, "massAt", "(I)LDelaylens$Mass;"⟩
abbrev cX5_add : ByteArray := prog_7_method_8_code
def yX5_add : MethodName := ⟨RX5, "add", "(LDelaylens$Mass;)I"⟩
abbrev cX5_comesFromColumn : ByteArray := prog_7_method_9_code
def yX5_comesFromColumn : MethodName := ⟨RX5, "comesFromColumn", "(I)I"⟩
abbrev cX5_comesFromRow : ByteArray := prog_7_method_10_code
def yX5_comesFromRow : MethodName := ⟨RX5, "comesFromRow", "(I)I"⟩
abbrev cX5_wayAt : ByteArray := prog_7_method_11_code
def yX5_wayAt : MethodName := ⟨RX5, "wayAt", "(I)I"⟩
abbrev cX5_comesFrom : ByteArray := prog_7_method_12_code
def yX5_comesFrom : MethodName := ⟨RX5, "comesFrom", "(III)Z"⟩
abbrev cX5_brightnessAt : ByteArray := prog_7_method_13_code
def yX5_brightnessAt : MethodName := ⟨RX5, "brightnessAt", "(I)I"⟩
abbrev cX5_countFrom : ByteArray := prog_7_method_14_code
def yX5_countFrom : MethodName := ⟨RX5, "countFrom", "(II)I"⟩
abbrev cX5_countFromBeyond : ByteArray := prog_7_method_15_code
def yX5_countFromBeyond : MethodName := ⟨RX5, "countFromBeyond", "()I"⟩
abbrev cX5_shotFrom : ByteArray := prog_7_method_16_code
def yX5_shotFrom : MethodName := ⟨RX5, "shotFrom", "(II)I"⟩
abbrev cX5_isPlace : ByteArray := prog_7_method_17_code
def yX5_isPlace : MethodName := ⟨RX5, "isPlace", "(I)Z"⟩
abbrev cX5_turnAt : ByteArray := prog_7_method_18_code
def yX5_turnAt : MethodName := ⟨RX5, "turnAt", "(I)I"⟩
abbrev cX5_shootAll : ByteArray := prog_7_method_19_code
def yX5_shootAll : MethodName := ⟨RX5, "shootAll", "()V"⟩
abbrev cX5_bentInColumns : ByteArray := prog_7_method_20_code
def yX5_bentInColumns : MethodName := ⟨RX5, "bentInColumns", "(II)I"⟩
abbrev cX5_bentInRows : ByteArray := prog_7_method_21_code
def yX5_bentInRows : MethodName := ⟨RX5, "bentInRows", "(II)I"⟩
abbrev cX5_shortened : ByteArray := prog_7_method_22_code
def yX5_shortened : MethodName := ⟨RX5, "shortened", "(II)I"⟩
def RX6 : String := "Delaylens$Source"
def TX6 : u_T := fun k => match k with
  | 0 => ("Delaylens$Source", "column", "I", true)
  | 1 => ("Delaylens$Source", "row", "I", true)
  | 2 => ("Delaylens$Source", "firstLight", "I", true)
  | 3 => ("Delaylens$Source", "places", "[I", true)
  | 4 => ("Delaylens$Source", "placeCount", "I", false)
  | 5 => ("Delaylens$Source", "flares", "Ljava/util/ArrayList;", true)
  | _ => ("Delaylens$Source", "stars", "Ljava/util/ArrayList;", true)
def tyX6 : Nat → FieldType := fun k => match k with
  | 0 => .int
  | 1 => .int
  | 2 => .int
  | 3 => .array .int
  | 4 => .int
  | 5 => .object "java/util/ArrayList"
  | _ => .object "java/util/ArrayList"
abbrev wsX60 : List Cond := u_ws RX6 TX6 7
theorem nmX6 : ∀ a, a < 7 → ∀ b, b < 7 → a ≠ b → (TX6 a).2.1 ≠ (TX6 b).2.1 := by decide +kernel
theorem tyX6_ok : ∀ k, k < 7 → parseFieldDescriptor (TX6 k).2.2.1 = some (tyX6 k) := by decide +kernel
abbrev cX6_init : ByteArray := prog_8_method_1_code
def yX6_init : MethodName := ⟨RX6, "<init>", "(III)V"⟩
abbrev cX6_imageCount : ByteArray := prog_8_method_2_code
def yX6_imageCount : MethodName := ⟨RX6, "imageCount", "()I"⟩
abbrev cX6_hasImage : ByteArray := prog_8_method_3_code
def yX6_hasImage : MethodName := ⟨RX6, "hasImage", "(I)Z"⟩
abbrev cX6_placeAt : ByteArray := prog_8_method_4_code
def yX6_placeAt : MethodName := ⟨RX6, "placeAt", "(I)I"⟩
abbrev cX6_findImages : ByteArray := prog_8_method_5_code
def yX6_findImages : MethodName := ⟨RX6, "findImages", "(LDelaylens$Rays;)V"⟩
abbrev cX6_insert : ByteArray := prog_8_method_6_code
def yX6_insert : MethodName := ⟨RX6, "insert", "(ILDelaylens$Rays;)V"⟩
abbrev cX6_addFlare : ByteArray := prog_8_method_7_code
def yX6_addFlare : MethodName := ⟨RX6, "addFlare", "(LDelaylens$Flare;)V"⟩
abbrev cX6_lightOn : ByteArray := prog_8_method_8_code
def yX6_lightOn : MethodName := ⟨RX6, "lightOn", "(I)I"⟩
abbrev cX6_addStar : ByteArray := prog_8_method_9_code
def yX6_addStar : MethodName := ⟨RX6, "addStar", "(LDelaylens$Star;)V"⟩
abbrev cX6_clearStars : ByteArray := prog_8_method_10_code
def yX6_clearStars : MethodName := ⟨RX6, "clearStars", "()V"⟩
abbrev cX6_starsOn : ByteArray := prog_8_method_11_code
def yX6_starsOn : MethodName := ⟨RX6, "starsOn", "(II)I"⟩
def RX7 : String := "Delaylens$Star"
def TX7 : u_T := fun k => match k with
  | 0 => ("Delaylens$Star", "rank", "I", true)
  | 1 => ("Delaylens$Star", "start", "I", true)
  | 2 => ("Delaylens$Star", "width", "I", true)
  | _ => ("Delaylens$Star", "height", "I", true)
def tyX7 : Nat → FieldType := fun k => match k with
  | 0 => .int
  | 1 => .int
  | 2 => .int
  | _ => .int
abbrev wsX70 : List Cond := u_ws RX7 TX7 4
theorem nmX7 : ∀ a, a < 4 → ∀ b, b < 4 → a ≠ b → (TX7 a).2.1 ≠ (TX7 b).2.1 := by decide +kernel
theorem tyX7_ok : ∀ k, k < 4 → parseFieldDescriptor (TX7 k).2.2.1 = some (tyX7 k) := by decide +kernel
abbrev cX7_init : ByteArray := prog_9_method_1_code
def yX7_init : MethodName := ⟨RX7, "<init>", "(IIII)V"⟩
abbrev cX7_moreOn : ByteArray := prog_9_method_2_code
def yX7_moreOn : MethodName := ⟨RX7, "moreOn", "(I)I"⟩
def RX8 : String := "Delaylens"
def TX8 : u_T := fun k => match k with
  | 0 => ("Delaylens", "rays", "LDelaylens$Rays;", true)
  | 1 => ("Delaylens", "sources", "Ljava/util/ArrayList;", true)
  | 2 => ("Delaylens", "flareCount", "I", false)
  | 3 => ("Delaylens", "starCount", "I", false)
  | 4 => ("Delaylens", "album", "LDelaylens$Album;", true)
  | 5 => ("Delaylens", "books", "LDelaylens$Books;", true)
  | 6 => ("Delaylens", "today", "I", false)
  | 7 => ("Delaylens", "seasonStart", "I", false)
  | 8 => ("Delaylens", "seasonEnd", "I", false)
  | 9 => ("Delaylens", "firstClearDay", "I", false)
  | _ => ("Delaylens", "growthOfWorld", "I", false)
def tyX8 : Nat → FieldType := fun k => match k with
  | 0 => .object "Delaylens$Rays"
  | 1 => .object "java/util/ArrayList"
  | 2 => .int
  | 3 => .int
  | 4 => .object "Delaylens$Album"
  | 5 => .object "Delaylens$Books"
  | 6 => .int
  | 7 => .int
  | 8 => .int
  | 9 => .int
  | _ => .int
abbrev wsX80 : List Cond := u_ws RX8 TX8 11
theorem nmX8 : ∀ a, a < 11 → ∀ b, b < 11 → a ≠ b → (TX8 a).2.1 ≠ (TX8 b).2.1 := by decide +kernel
theorem tyX8_ok : ∀ k, k < 11 → parseFieldDescriptor (TX8 k).2.2.1 = some (tyX8 k) := by decide +kernel
abbrev cX8_init : ByteArray := prog_1_method_1_code
def yX8_init : MethodName := ⟨RX8, "<init>", "()V"⟩
abbrev cX8_mass : ByteArray := prog_1_method_2_code
def yX8_mass : MethodName := ⟨RX8, "mass", "(IIII)I"⟩
abbrev cX8_two : ByteArray := prog_1_method_3_code
def yX8_two : MethodName := ⟨RX8, "two", "(III)I"⟩
abbrev cX8_source : ByteArray := prog_1_method_4_code
def yX8_source : MethodName := ⟨RX8, "source", "(III)I"⟩
abbrev cX8_flare : ByteArray := prog_1_method_5_code
def yX8_flare : MethodName := ⟨RX8, "flare", "(II)I"⟩
abbrev cX8_cross : ByteArray := prog_1_method_6_code
def yX8_cross : MethodName := ⟨RX8, "cross", "(IIII)V"⟩
abbrev cX8_season : ByteArray := prog_1_method_7_code
def yX8_season : MethodName := ⟨RX8, "season", "(II)V"⟩
abbrev cX8_cloud : ByteArray := prog_1_method_8_code
def yX8_cloud : MethodName := ⟨RX8, "cloud", "(I)I"⟩
abbrev cX8_world : ByteArray := prog_1_method_9_code
def yX8_world : MethodName := ⟨RX8, "world", "(I)I"⟩
abbrev cX8_frame : ByteArray := prog_1_method_10_code
def yX8_frame : MethodName := ⟨RX8, "frame", "()I"⟩
abbrev cX8_pass : ByteArray := prog_1_method_11_code
def yX8_pass : MethodName := ⟨RX8, "pass", "(I)I"⟩
abbrev cX8_book : ByteArray := prog_1_method_12_code
def yX8_book : MethodName := ⟨RX8, "book", "(IIII)I"⟩
abbrev cX8_vote : ByteArray := prog_1_method_13_code
def yX8_vote : MethodName := ⟨RX8, "vote", "(IZ)Z"⟩
abbrev cX8_day : ByteArray := prog_1_method_14_code
def yX8_day : MethodName := ⟨RX8, "day", "()I"⟩
abbrev cX8_from : ByteArray := prog_1_method_15_code
def yX8_from : MethodName := ⟨RX8, "from", "(IIZ)I"⟩
abbrev cX8_images : ByteArray := prog_1_method_16_code
def yX8_images : MethodName := ⟨RX8, "images", "(I)I"⟩
abbrev cX8_imagesAnew : ByteArray := prog_1_method_17_code
def yX8_imagesAnew : MethodName := ⟨RX8, "imagesAnew", "(I)I"⟩
abbrev cX8_imageOf : ByteArray := prog_1_method_18_code
def yX8_imageOf : MethodName := ⟨RX8, "imageOf", "(III)I"⟩
abbrev cX8_hits : ByteArray := prog_1_method_19_code
def yX8_hits : MethodName := ⟨RX8, "hits", "(II)I"⟩
abbrev cX8_lost : ByteArray := prog_1_method_20_code
def yX8_lost : MethodName := ⟨RX8, "lost", "()I"⟩
abbrev cX8_delay : ByteArray := prog_1_method_21_code
def yX8_delay : MethodName := ⟨RX8, "delay", "(III)I"⟩
abbrev cX8_light : ByteArray := prog_1_method_22_code
def yX8_light : MethodName := ⟨RX8, "light", "(II)I"⟩
abbrev cX8_frames : ByteArray := prog_1_method_23_code
def yX8_frames : MethodName := ⟨RX8, "frames", "()I"⟩
abbrev cX8_seen : ByteArray := prog_1_method_24_code
def yX8_seen : MethodName := ⟨RX8, "seen", "(III)I"⟩
abbrev cX8_measured : ByteArray := prog_1_method_25_code
def yX8_measured : MethodName := ⟨RX8, "measured", "(III)I"⟩
abbrev cX8_booked : ByteArray := prog_1_method_26_code
def yX8_booked : MethodName := ⟨RX8, "booked", "(I)I"⟩
abbrev cX8_isFresh : ByteArray := prog_1_method_27_code
def yX8_isFresh : MethodName := ⟨RX8, "isFresh", "(I)Z"⟩
abbrev cX8_dispute : ByteArray := prog_1_method_28_code
def yX8_dispute : MethodName := ⟨RX8, "dispute", "()I"⟩
abbrev cX8_isWithin : ByteArray := prog_1_method_29_code
def yX8_isWithin : MethodName := ⟨RX8, "isWithin", "(III)Z"⟩
abbrev cX8_isInField : ByteArray := prog_1_method_30_code
def yX8_isInField : MethodName := ⟨RX8, "isInField", "(II)Z"⟩
abbrev cX8_sourceAt : ByteArray := prog_1_method_31_code
def yX8_sourceAt : MethodName := ⟨RX8, "sourceAt", "(I)LDelaylens$Source;"⟩
abbrev cX8_isTaken : ByteArray := prog_1_method_32_code
def yX8_isTaken : MethodName := ⟨RX8, "isTaken", "(II)Z"⟩
abbrev cX8_areImages : ByteArray := prog_1_method_33_code
def yX8_areImages : MethodName := ⟨RX8, "areImages", "(LDelaylens$Source;II)Z"⟩
abbrev cX8_beginAnew : ByteArray := prog_1_method_34_code
def yX8_beginAnew : MethodName := ⟨RX8, "beginAnew", "()V"⟩
abbrev cX8_isSeason : ByteArray := prog_1_method_35_code
def yX8_isSeason : MethodName := ⟨RX8, "isSeason", "()Z"⟩
abbrev cX8_wayOf : ByteArray := prog_1_method_36_code
def yX8_wayOf : MethodName := ⟨RX8, "wayOf", "(LDelaylens$Source;I)I"⟩
abbrev cX8_brightnessOf : ByteArray := prog_1_method_37_code
def yX8_brightnessOf : MethodName := ⟨RX8, "brightnessOf", "(LDelaylens$Source;I)I"⟩
abbrev cX8_lateness : ByteArray := prog_1_method_38_code
def yX8_lateness : MethodName := ⟨RX8, "lateness", "(LDelaylens$Source;I)I"⟩
abbrev cX8_lightToday : ByteArray := prog_1_method_39_code
def yX8_lightToday : MethodName := ⟨RX8, "lightToday", "(LDelaylens$Source;I)I"⟩
abbrev cX8_framedSky : ByteArray := prog_1_method_40_code
def yX8_framedSky : MethodName := ⟨RX8, "framedSky", "()LDelaylens$Frame;"⟩
abbrev cX8_measuredDays : ByteArray := prog_1_method_41_code
def yX8_measuredDays : MethodName := ⟨RX8, "measuredDays", "(III)I"⟩
def RX9 : String := "DelaylensModel"
def TX9 : u_T := fun k => match k with
  | _ => ("", "", "", false)
def tyX9 : Nat → FieldType := fun k => match k with
  | _ => .int
abbrev wsX90 : List Cond := u_ws RX9 TX9 0
theorem nmX9 : ∀ a, a < 0 → ∀ b, b < 0 → a ≠ b → (TX9 a).2.1 ≠ (TX9 b).2.1 := by decide +kernel
theorem tyX9_ok : ∀ k, k < 0 → parseFieldDescriptor (TX9 k).2.2.1 = some (tyX9 k) := by decide +kernel
def RJx145de : String := "java/io/Serializable"
def TJx145de : u_T := fun k => match k with
  | _ => ("", "", "", false)
def tyJx145de : Nat → FieldType := fun k => match k with
  | _ => .int
abbrev wsJx145de0 : List Cond := u_ws RJx145de TJx145de 0
theorem nmJx145de : ∀ a, a < 0 → ∀ b, b < 0 → a ≠ b → (TJx145de a).2.1 ≠ (TJx145de b).2.1 := by decide +kernel
theorem tyJx145de_ok : ∀ k, k < 0 → parseFieldDescriptor (TJx145de k).2.2.1 = some (tyJx145de k) := by decide +kernel
def RJx8e188 : String := "java/lang/Cloneable"
def TJx8e188 : u_T := fun k => match k with
  | _ => ("", "", "", false)
def tyJx8e188 : Nat → FieldType := fun k => match k with
  | _ => .int
abbrev wsJx8e1880 : List Cond := u_ws RJx8e188 TJx8e188 0
theorem nmJx8e188 : ∀ a, a < 0 → ∀ b, b < 0 → a ≠ b → (TJx8e188 a).2.1 ≠ (TJx8e188 b).2.1 := by decide +kernel
theorem tyJx8e188_ok : ∀ k, k < 0 → parseFieldDescriptor (TJx8e188 k).2.2.1 = some (tyJx8e188 k) := by decide +kernel
def RJxab1ab : String := "java/lang/Iterable"
def TJxab1ab : u_T := fun k => match k with
  | _ => ("", "", "", false)
def tyJxab1ab : Nat → FieldType := fun k => match k with
  | _ => .int
abbrev wsJxab1ab0 : List Cond := u_ws RJxab1ab TJxab1ab 0
theorem nmJxab1ab : ∀ a, a < 0 → ∀ b, b < 0 → a ≠ b → (TJxab1ab a).2.1 ≠ (TJxab1ab b).2.1 := by decide +kernel
theorem tyJxab1ab_ok : ∀ k, k < 0 → parseFieldDescriptor (TJxab1ab k).2.2.1 = some (tyJxab1ab k) := by decide +kernel
def RJ9 : String := "java/lang/Math"
def TJ9 : u_T := fun k => match k with
  | _ => ("", "", "", false)
def tyJ9 : Nat → FieldType := fun k => match k with
  | _ => .int
abbrev wsJ90 : List Cond := u_ws RJ9 TJ9 0
theorem nmJ9 : ∀ a, a < 0 → ∀ b, b < 0 → a ≠ b → (TJ9 a).2.1 ≠ (TJ9 b).2.1 := by decide +kernel
theorem tyJ9_ok : ∀ k, k < 0 → parseFieldDescriptor (TJ9 k).2.2.1 = some (tyJ9 k) := by decide +kernel
abbrev cJ9_abs_0f7a4 : ByteArray := prog_19_method_59_code
def yJ9_abs_0f7a4 : MethodName := ⟨RJ9, "abs", "(I)I"⟩
abbrev cJ9_max_7cf53 : ByteArray := prog_19_method_65_code
def yJ9_max_7cf53 : MethodName := ⟨RJ9, "max", "(II)I"⟩
abbrev cJ9_min_7cf53 : ByteArray := prog_19_method_69_code
def yJ9_min_7cf53 : MethodName := ⟨RJ9, "min", "(II)I"⟩
def RJ0 : String := "java/lang/String"
def TJ0 : u_T := fun k => match k with
  | _ => ("", "", "", false)
def tyJ0 : Nat → FieldType := fun k => match k with
  | _ => .int
abbrev wsJ00 : List Cond := u_ws RJ0 TJ0 0
theorem nmJ0 : ∀ a, a < 0 → ∀ b, b < 0 → a ≠ b → (TJ0 a).2.1 ≠ (TJ0 b).2.1 := by decide +kernel
theorem tyJ0_ok : ∀ k, k < 0 → parseFieldDescriptor (TJ0 k).2.2.1 = some (tyJ0 k) := by decide +kernel
def RJ10 : String := "java/lang/System"
def TJ10 : u_T := fun k => match k with
  | _ => ("", "", "", false)
def tyJ10 : Nat → FieldType := fun k => match k with
  | _ => .int
abbrev wsJ100 : List Cond := u_ws RJ10 TJ10 0
theorem nmJ10 : ∀ a, a < 0 → ∀ b, b < 0 → a ≠ b → (TJ10 a).2.1 ≠ (TJ10 b).2.1 := by decide +kernel
theorem tyJ10_ok : ∀ k, k < 0 → parseFieldDescriptor (TJ10 k).2.2.1 = some (tyJ10 k) := by decide +kernel
def RJxa1e45 : String := "java/util/AbstractCollection"
def TJxa1e45 : u_T := fun k => match k with
  | _ => ("", "", "", false)
def tyJxa1e45 : Nat → FieldType := fun k => match k with
  | _ => .int
abbrev wsJxa1e450 : List Cond := u_ws RJxa1e45 TJxa1e45 0
theorem nmJxa1e45 : ∀ a, a < 0 → ∀ b, b < 0 → a ≠ b → (TJxa1e45 a).2.1 ≠ (TJxa1e45 b).2.1 := by decide +kernel
theorem tyJxa1e45_ok : ∀ k, k < 0 → parseFieldDescriptor (TJxa1e45 k).2.2.1 = some (tyJxa1e45 k) := by decide +kernel
abbrev cJxa1e45_init_da8c8 : ByteArray := prog_24_method_1_code
def yJxa1e45_init_da8c8 : MethodName := ⟨RJxa1e45, "<init>", "()V"⟩
def RJxc12de : String := "java/util/AbstractList"
def TJxc12de : u_T := fun k => match k with
  | _ => ("", "", "", false)
def tyJxc12de : Nat → FieldType := fun k => match k with
  | _ => .int
abbrev wsJxc12de0 : List Cond := u_ws RJxc12de TJxc12de 0
theorem nmJxc12de : ∀ a, a < 0 → ∀ b, b < 0 → a ≠ b → (TJxc12de a).2.1 ≠ (TJxc12de b).2.1 := by decide +kernel
theorem tyJxc12de_ok : ∀ k, k < 0 → parseFieldDescriptor (TJxc12de k).2.2.1 = some (tyJxc12de k) := by decide +kernel
abbrev cJxc12de_init_da8c8 : ByteArray := prog_25_method_1_code
def yJxc12de_init_da8c8 : MethodName := ⟨RJxc12de, "<init>", "()V"⟩
def RJx4a65c : String := "java/util/ArrayList"
def TJx4a65c : u_T := fun k => match k with
  | 0 => ("java/util/AbstractList", "modCount", "I", false)
  | 1 => ("java/util/ArrayList", "elementData", "[Ljava/lang/Object;", false)
  | _ => ("java/util/ArrayList", "size", "I", false)
def tyJx4a65c : Nat → FieldType := fun k => match k with
  | 0 => .int
  | 1 => .array (.object "java/lang/Object")
  | _ => .int
abbrev wsJx4a65c0 : List Cond := u_ws RJx4a65c TJx4a65c 3
theorem nmJx4a65c : ∀ a, a < 3 → ∀ b, b < 3 → a ≠ b → (TJx4a65c a).2.1 ≠ (TJx4a65c b).2.1 := by decide +kernel
theorem tyJx4a65c_ok : ∀ k, k < 3 → parseFieldDescriptor (TJx4a65c k).2.2.1 = some (tyJx4a65c k) := by decide +kernel
abbrev cJx4a65c_init_da8c8 : ByteArray := prog_26_method_2_code
def yJx4a65c_init_da8c8 : MethodName := ⟨RJx4a65c, "<init>", "()V"⟩
abbrev cJx4a65c_grow_92f84 : ByteArray := prog_26_method_6_code
def yJx4a65c_grow_92f84 : MethodName := ⟨RJx4a65c, "grow", "(I)[Ljava/lang/Object;"⟩
abbrev cJx4a65c_grow_d5877 : ByteArray := prog_26_method_7_code
def yJx4a65c_grow_d5877 : MethodName := ⟨RJx4a65c, "grow", "()[Ljava/lang/Object;"⟩
abbrev cJx4a65c_size_8abf5 : ByteArray := prog_26_method_8_code
def yJx4a65c_size_8abf5 : MethodName := ⟨RJx4a65c, "size", "()I"⟩
abbrev cJx4a65c_elementData_915e3 : ByteArray := prog_26_method_18_code
def yJx4a65c_elementData_915e3 : MethodName := ⟨RJx4a65c, "elementData", "(I)Ljava/lang/Object;"⟩
abbrev cJx4a65c_get_915e3 : ByteArray := prog_26_method_20_code
def yJx4a65c_get_915e3 : MethodName := ⟨RJx4a65c, "get", "(I)Ljava/lang/Object;"⟩
abbrev cJx4a65c_add_72be8 : ByteArray := prog_26_method_24_code
def yJx4a65c_add_72be8 : MethodName := ⟨RJx4a65c, "add", "(Ljava/lang/Object;[Ljava/lang/Object;I)V"⟩
abbrev cJx4a65c_add_9ea2d : ByteArray := prog_26_method_25_code
def yJx4a65c_add_9ea2d : MethodName := ⟨RJx4a65c, "add", "(Ljava/lang/Object;)Z"⟩
abbrev cJx4a65c_clear_da8c8 : ByteArray := prog_26_method_40_code
def yJx4a65c_clear_da8c8 : MethodName := ⟨RJx4a65c, "clear", "()V"⟩
def RJ7 : String := "java/util/Arrays"
def TJ7 : u_T := fun k => match k with
  | _ => ("", "", "", false)
def tyJ7 : Nat → FieldType := fun k => match k with
  | _ => .int
abbrev wsJ70 : List Cond := u_ws RJ7 TJ7 0
theorem nmJ7 : ∀ a, a < 0 → ∀ b, b < 0 → a ≠ b → (TJ7 a).2.1 ≠ (TJ7 b).2.1 := by decide +kernel
theorem tyJ7_ok : ∀ k, k < 0 → parseFieldDescriptor (TJ7 k).2.2.1 = some (tyJ7 k) := by decide +kernel
abbrev cJ7_fill_d0a16 : ByteArray := prog_27_method_101_code
def yJ7_fill_d0a16 : MethodName := ⟨RJ7, "fill", "([JJ)V"⟩
abbrev cJ7_fill_53178 : ByteArray := prog_27_method_103_code
def yJ7_fill_53178 : MethodName := ⟨RJ7, "fill", "([II)V"⟩
abbrev cJ7_copyOf_1904c : ByteArray := prog_27_method_119_code
def yJ7_copyOf_1904c : MethodName := ⟨RJ7, "copyOf", "([Ljava/lang/Object;I)[Ljava/lang/Object;"⟩
abbrev cJ7_copyOf_6403c : ByteArray := prog_27_method_120_code
def yJ7_copyOf_6403c : MethodName := ⟨RJ7, "copyOf", "([Ljava/lang/Object;ILjava/lang/Class;)[Ljava/lang/Object;"⟩
def RJx5ef63 : String := "java/util/Collection"
def TJx5ef63 : u_T := fun k => match k with
  | _ => ("", "", "", false)
def tyJx5ef63 : Nat → FieldType := fun k => match k with
  | _ => .int
abbrev wsJx5ef630 : List Cond := u_ws RJx5ef63 TJx5ef63 0
theorem nmJx5ef63 : ∀ a, a < 0 → ∀ b, b < 0 → a ≠ b → (TJx5ef63 a).2.1 ≠ (TJx5ef63 b).2.1 := by decide +kernel
theorem tyJx5ef63_ok : ∀ k, k < 0 → parseFieldDescriptor (TJx5ef63 k).2.2.1 = some (tyJx5ef63 k) := by decide +kernel
def RJxbd725 : String := "java/util/List"
def TJxbd725 : u_T := fun k => match k with
  | _ => ("", "", "", false)
def tyJxbd725 : Nat → FieldType := fun k => match k with
  | _ => .int
abbrev wsJxbd7250 : List Cond := u_ws RJxbd725 TJxbd725 0
theorem nmJxbd725 : ∀ a, a < 0 → ∀ b, b < 0 → a ≠ b → (TJxbd725 a).2.1 ≠ (TJxbd725 b).2.1 := by decide +kernel
theorem tyJxbd725_ok : ∀ k, k < 0 → parseFieldDescriptor (TJxbd725 k).2.2.1 = some (tyJxbd725 k) := by decide +kernel
def RJ15 : String := "java/util/Objects"
def TJ15 : u_T := fun k => match k with
  | _ => ("", "", "", false)
def tyJ15 : Nat → FieldType := fun k => match k with
  | _ => .int
abbrev wsJ150 : List Cond := u_ws RJ15 TJ15 0
theorem nmJ15 : ∀ a, a < 0 → ∀ b, b < 0 → a ≠ b → (TJ15 a).2.1 ≠ (TJ15 b).2.1 := by decide +kernel
theorem tyJ15_ok : ∀ k, k < 0 → parseFieldDescriptor (TJ15 k).2.2.1 = some (tyJ15 k) := by decide +kernel
abbrev cJ15_checkIndex_7cf53 : ByteArray := prog_30_method_17_code
def yJ15_checkIndex_7cf53 : MethodName := ⟨RJ15, "checkIndex", "(II)I"⟩
def RJxf0a74 : String := "java/util/RandomAccess"
def TJxf0a74 : u_T := fun k => match k with
  | _ => ("", "", "", false)
def tyJxf0a74 : Nat → FieldType := fun k => match k with
  | _ => .int
abbrev wsJxf0a740 : List Cond := u_ws RJxf0a74 TJxf0a74 0
theorem nmJxf0a74 : ∀ a, a < 0 → ∀ b, b < 0 → a ≠ b → (TJxf0a74 a).2.1 ≠ (TJxf0a74 b).2.1 := by decide +kernel
theorem tyJxf0a74_ok : ∀ k, k < 0 → parseFieldDescriptor (TJxf0a74 k).2.2.1 = some (tyJxf0a74 k) := by decide +kernel
def RJxa66e6 : String := "java/util/SequencedCollection"
def TJxa66e6 : u_T := fun k => match k with
  | _ => ("", "", "", false)
def tyJxa66e6 : Nat → FieldType := fun k => match k with
  | _ => .int
abbrev wsJxa66e60 : List Cond := u_ws RJxa66e6 TJxa66e6 0
theorem nmJxa66e6 : ∀ a, a < 0 → ∀ b, b < 0 → a ≠ b → (TJxa66e6 a).2.1 ≠ (TJxa66e6 b).2.1 := by decide +kernel
theorem tyJxa66e6_ok : ∀ k, k < 0 → parseFieldDescriptor (TJxa66e6 k).2.2.1 = some (tyJxa66e6 k) := by decide +kernel
def RJ8 : String := "jdk/internal/util/ArraysSupport"
def TJ8 : u_T := fun k => match k with
  | _ => ("", "", "", false)
def tyJ8 : Nat → FieldType := fun k => match k with
  | _ => .int
abbrev wsJ80 : List Cond := u_ws RJ8 TJ8 0
theorem nmJ8 : ∀ a, a < 0 → ∀ b, b < 0 → a ≠ b → (TJ8 a).2.1 ≠ (TJ8 b).2.1 := by decide +kernel
theorem tyJ8_ok : ∀ k, k < 0 → parseFieldDescriptor (TJ8 k).2.2.1 = some (tyJ8 k) := by decide +kernel
abbrev cJ8_newLength_cabcc : ByteArray := prog_33_method_27_code
def yJ8_newLength_cabcc : MethodName := ⟨RJ8, "newLength", "(III)I"⟩
abbrev cJ8_hugeLength_7cf53 : ByteArray := prog_33_method_28_code
def yJ8_hugeLength_7cf53 : MethodName := ⟨RJ8, "hugeLength", "(II)I"⟩
def RJ3 : String := "jdk/internal/util/Preconditions"
def TJ3 : u_T := fun k => match k with
  | _ => ("", "", "", false)
def tyJ3 : Nat → FieldType := fun k => match k with
  | _ => .int
abbrev wsJ30 : List Cond := u_ws RJ3 TJ3 0
theorem nmJ3 : ∀ a, a < 0 → ∀ b, b < 0 → a ≠ b → (TJ3 a).2.1 ≠ (TJ3 b).2.1 := by decide +kernel
theorem tyJ3_ok : ∀ k, k < 0 → parseFieldDescriptor (TJ3 k).2.2.1 = some (tyJ3 k) := by decide +kernel
abbrev cJ3_checkIndex_8e157 : ByteArray := prog_34_method_11_code
def yJ3_checkIndex_8e157 : MethodName := ⟨RJ3, "checkIndex", "(IILjava/util/function/BiFunction;)I"⟩
def RL : String := "DelaylensLaw"
abbrev cL_mass : ByteArray := method_2_code
def yL_mass : MethodName := ⟨RL, "mass", "(LDelaylens;IIII)I"⟩
abbrev cL_two : ByteArray := method_3_code
def yL_two : MethodName := ⟨RL, "two", "(LDelaylens;III)I"⟩
abbrev cL_source : ByteArray := method_4_code
def yL_source : MethodName := ⟨RL, "source", "(LDelaylens;III)I"⟩
abbrev cL_flare : ByteArray := method_5_code
def yL_flare : MethodName := ⟨RL, "flare", "(LDelaylens;II)I"⟩
abbrev cL_cross : ByteArray := method_6_code
def yL_cross : MethodName := ⟨RL, "cross", "(LDelaylens;IIII)I"⟩
abbrev cL_season : ByteArray := method_7_code
def yL_season : MethodName := ⟨RL, "season", "(LDelaylens;II)I"⟩
abbrev cL_cloud : ByteArray := method_8_code
def yL_cloud : MethodName := ⟨RL, "cloud", "(LDelaylens;I)I"⟩
abbrev cL_world : ByteArray := method_9_code
def yL_world : MethodName := ⟨RL, "world", "(LDelaylens;I)I"⟩
abbrev cL_frame : ByteArray := method_10_code
def yL_frame : MethodName := ⟨RL, "frame", "(LDelaylens;)I"⟩
abbrev cL_pass : ByteArray := method_11_code
def yL_pass : MethodName := ⟨RL, "pass", "(LDelaylens;I)I"⟩
abbrev cL_book : ByteArray := method_12_code
def yL_book : MethodName := ⟨RL, "book", "(LDelaylens;IIII)I"⟩
abbrev cL_vote : ByteArray := method_13_code
def yL_vote : MethodName := ⟨RL, "vote", "(LDelaylens;IZ)I"⟩
abbrev cL_from : ByteArray := method_14_code
def yL_from : MethodName := ⟨RL, "from", "(LDelaylens;IIZ)I"⟩
abbrev cL_images : ByteArray := method_15_code
def yL_images : MethodName := ⟨RL, "images", "(LDelaylens;I)I"⟩
abbrev cL_anew : ByteArray := method_16_code
def yL_anew : MethodName := ⟨RL, "anew", "(LDelaylens;I)I"⟩
abbrev cL_imageOf : ByteArray := method_17_code
def yL_imageOf : MethodName := ⟨RL, "imageOf", "(LDelaylens;III)I"⟩
abbrev cL_hits : ByteArray := method_18_code
def yL_hits : MethodName := ⟨RL, "hits", "(LDelaylens;II)I"⟩
abbrev cL_delay : ByteArray := method_19_code
def yL_delay : MethodName := ⟨RL, "delay", "(LDelaylens;III)I"⟩
abbrev cL_light : ByteArray := method_20_code
def yL_light : MethodName := ⟨RL, "light", "(LDelaylens;II)I"⟩
abbrev cL_seen : ByteArray := method_21_code
def yL_seen : MethodName := ⟨RL, "seen", "(LDelaylens;III)I"⟩
abbrev cL_measured : ByteArray := method_22_code
def yL_measured : MethodName := ⟨RL, "measured", "(LDelaylens;III)I"⟩
abbrev cL_booked : ByteArray := method_23_code
def yL_booked : MethodName := ⟨RL, "booked", "(LDelaylens;I)I"⟩
abbrev cL_isFresh : ByteArray := method_24_code
def yL_isFresh : MethodName := ⟨RL, "isFresh", "(LDelaylens;I)I"⟩
abbrev cL_dispute : ByteArray := method_25_code
def yL_dispute : MethodName := ⟨RL, "dispute", "(LDelaylens;)I"⟩
abbrev cL_drawn : ByteArray := method_26_code
def yL_drawn : MethodName := ⟨RL, "drawn", "([II)I"⟩
abbrev cL_isRefused : ByteArray := method_27_code
def yL_isRefused : MethodName := ⟨RL, "isRefused", "(I)Z"⟩
abbrev cL_sum : ByteArray := method_28_code
def yL_sum : MethodName := ⟨RL, "sum", "(LDelaylens;I)I"⟩
abbrev cL_isRight : ByteArray := method_29_code
def yL_isRight : MethodName := ⟨RL, "isRight", "(LDelaylens;III)Z"⟩
abbrev cL_areAll : ByteArray := method_30_code
def yL_areAll : MethodName := ⟨RL, "areAll", "(LDelaylens;)Z"⟩
abbrev cL_does : ByteArray := method_31_code
def yL_does : MethodName := ⟨RL, "does", "(LDelaylens;[II)I"⟩
abbrev cL_books : ByteArray := method_32_code
def yL_books : MethodName := ⟨RL, "books", "(LDelaylens;I)I"⟩
abbrev cL_takes : ByteArray := method_33_code
def yL_takes : MethodName := ⟨RL, "takes", "(LDelaylens;[II)I"⟩
abbrev cL_isKept : ByteArray := method_34_code
def yL_isKept : MethodName := ⟨RL, "isKept", "(LDelaylens;[I)Z"⟩
abbrev cL_goes : ByteArray := method_35_code
def yL_goes : MethodName := ⟨RL, "goes", "([II)Z"⟩
abbrev cL_law : ByteArray := code
def yL_law : MethodName := ⟨RL, "law", "([I)Z"⟩
def wsJxa1e45_init_da8c8 : List Cond := .code yJxa1e45_init_da8c8 cJxa1e45_init_da8c8 1 none :: ([.methodLink RJxa1e45 1 objectInit, .instanceMethod objectInit, .code objectInit ⟨#[0xb1]⟩ 1 none])
def wsJxc12de_init_da8c8 : List Cond := .code yJxc12de_init_da8c8 cJxc12de_init_da8c8 1 none :: ([.fieldLink RJxc12de 7 "java/util/AbstractList" "modCount" "I", .methodLink RJxc12de 1 yJxa1e45_init_da8c8, .instanceMethod yJxa1e45_init_da8c8, .initialized RJxa1e45, .code yJxa1e45_init_da8c8 cJxa1e45_init_da8c8 1 none, .methodLink RJxa1e45 1 objectInit, .instanceMethod objectInit, .code objectInit ⟨#[0xb1]⟩ 1 none] ++ wsJx4a65c0)
def wsJx4a65c_init_da8c8 : List Cond := .code yJx4a65c_init_da8c8 cJx4a65c_init_da8c8 1 none :: ([.fieldLink RJx4a65c 39 "java/util/ArrayList" "DEFAULTCAPACITY_EMPTY_ELEMENTDATA" "[Ljava/lang/Object;", .fieldLink RJx4a65c 9 "java/util/ArrayList" "elementData" "[Ljava/lang/Object;", .methodLink RJx4a65c 1 yJxc12de_init_da8c8, .instanceMethod yJxc12de_init_da8c8, .initialized RJxc12de, .code yJxc12de_init_da8c8 cJxc12de_init_da8c8 1 none, .fieldLink RJxc12de 7 "java/util/AbstractList" "modCount" "I", .methodLink RJxc12de 1 yJxa1e45_init_da8c8, .instanceMethod yJxa1e45_init_da8c8, .initialized RJxa1e45, .code yJxa1e45_init_da8c8 cJxa1e45_init_da8c8 1 none, .methodLink RJxa1e45 1 objectInit, .instanceMethod objectInit, .code objectInit ⟨#[0xb1]⟩ 1 none] ++ wsJx4a65c0)
def wsX0_init_r1 : List Cond := [Cond.methodLink RX0 3 objectInit, Cond.instanceMethod objectInit, Cond.code objectInit ⟨#[0xb1]⟩ 1 none, Cond.classLink RX0 9 RJx4a65c, Cond.instantiable RJx4a65c 3, Cond.initialized RJx4a65c, Cond.fieldLink RX0 12 "Delaylens$Album" "kept" "Ljava/util/ArrayList;", Cond.arrayClass .long, Cond.fieldLink RX0 18 "Delaylens$Album" "sums" "[J", Cond.arrayClass .int, Cond.fieldLink RX0 22 "Delaylens$Album" "pairs" "[I", Cond.methodLink RX0 11 yJx4a65c_init_da8c8, Cond.instanceMethod yJx4a65c_init_da8c8, Cond.code yJx4a65c_init_da8c8 cJx4a65c_init_da8c8 1 none, Cond.fieldLink RJx4a65c 39 "java/util/ArrayList" "DEFAULTCAPACITY_EMPTY_ELEMENTDATA" "[Ljava/lang/Object;", Cond.fieldLink RJx4a65c 9 "java/util/ArrayList" "elementData" "[Ljava/lang/Object;", Cond.methodLink RJx4a65c 1 yJxc12de_init_da8c8, Cond.instanceMethod yJxc12de_init_da8c8, Cond.initialized RJxc12de, Cond.code yJxc12de_init_da8c8 cJxc12de_init_da8c8 1 none, Cond.fieldLink RJxc12de 7 "java/util/AbstractList" "modCount" "I", Cond.methodLink RJxc12de 1 yJxa1e45_init_da8c8, Cond.instanceMethod yJxa1e45_init_da8c8, Cond.initialized RJxa1e45]
def wsX0_init_r2 : List Cond := [Cond.code yJxa1e45_init_da8c8 cJxa1e45_init_da8c8 1 none, Cond.methodLink RJxa1e45 1 objectInit]
def wsX0_init : List Cond := .code yX0_init cX0_init 1 none :: ((wsX0_init_r1 ++ wsX0_init_r2) ++ wsJx4a65c0 ++ wsX00)
def wsJx4a65c_size_8abf5 : List Cond := .code yJx4a65c_size_8abf5 cJx4a65c_size_8abf5 1 (some .int) :: ([.fieldLink RJx4a65c 48 "java/util/ArrayList" "size" "I"] ++ wsJx4a65c0)
def wsX0_count : List Cond := .code yX0_count cX0_count 1 (some .int) :: ([.fieldLink RX0 12 "Delaylens$Album" "kept" "Ljava/util/ArrayList;", .methodLink RX0 26 yJx4a65c_size_8abf5, .instanceMethod yJx4a65c_size_8abf5, .selects RJx4a65c yJx4a65c_size_8abf5 yJx4a65c_size_8abf5, .initialized RJx4a65c, .code yJx4a65c_size_8abf5 cJx4a65c_size_8abf5 1 (some .int), .fieldLink RJx4a65c 48 "java/util/ArrayList" "size" "I"] ++ wsX00 ++ wsJx4a65c0)
def wsX0_isFull : List Cond := .code yX0_isFull cX0_isFull 1 (some .boolean) :: ([.fieldLink RX0 12 "Delaylens$Album" "kept" "Ljava/util/ArrayList;", .methodLink RX0 26 yJx4a65c_size_8abf5, .instanceMethod yJx4a65c_size_8abf5, .selects RJx4a65c yJx4a65c_size_8abf5 yJx4a65c_size_8abf5, .initialized RJx4a65c, .code yJx4a65c_size_8abf5 cJx4a65c_size_8abf5 1 (some .int), .fieldLink RJx4a65c 48 "java/util/ArrayList" "size" "I"] ++ wsX00 ++ wsJx4a65c0)
def wsJ3_checkIndex_8e157 : List Cond := .code yJ3_checkIndex_8e157 cJ3_checkIndex_8e157 3 (some .int) :: ([])
def wsJ15_checkIndex_7cf53 : List Cond := .code yJ15_checkIndex_7cf53 cJ15_checkIndex_7cf53 2 (some .int) :: ([.methodLink RJ15 105 yJ3_checkIndex_8e157, .static yJ3_checkIndex_8e157, .initialized RJ3, .code yJ3_checkIndex_8e157 cJ3_checkIndex_8e157 3 (some .int)])
def wsJx4a65c_elementData_915e3 : List Cond := .code yJx4a65c_elementData_915e3 cJx4a65c_elementData_915e3 2 (some (.object "java/lang/Object")) :: ([.fieldLink RJx4a65c 9 "java/util/ArrayList" "elementData" "[Ljava/lang/Object;"] ++ wsJx4a65c0)
def wsJx4a65c_get_915e3 : List Cond := .code yJx4a65c_get_915e3 cJx4a65c_get_915e3 2 (some (.object "java/lang/Object")) :: ([.fieldLink RJx4a65c 48 "java/util/ArrayList" "size" "I", .methodLink RJx4a65c 118 yJ15_checkIndex_7cf53, .static yJ15_checkIndex_7cf53, .initialized RJ15, .code yJ15_checkIndex_7cf53 cJ15_checkIndex_7cf53 2 (some .int), .methodLink RJ15 105 yJ3_checkIndex_8e157, .static yJ3_checkIndex_8e157, .initialized RJ3, .code yJ3_checkIndex_8e157 cJ3_checkIndex_8e157 3 (some .int), .methodLink RJx4a65c 123 yJx4a65c_elementData_915e3, .instanceMethod yJx4a65c_elementData_915e3, .selects RJx4a65c yJx4a65c_elementData_915e3 yJx4a65c_elementData_915e3, .initialized RJx4a65c, .code yJx4a65c_elementData_915e3 cJx4a65c_elementData_915e3 2 (some (.object "java/lang/Object")), .fieldLink RJx4a65c 9 "java/util/ArrayList" "elementData" "[Ljava/lang/Object;"] ++ wsJx4a65c0)
def wsX0_frameAt_r1 : List Cond := [Cond.fieldLink RX0 12 "Delaylens$Album" "kept" "Ljava/util/ArrayList;", Cond.classLink RX0 34 "Delaylens$Frame", Cond.methodLink RX0 26 yJx4a65c_size_8abf5, Cond.instanceMethod yJx4a65c_size_8abf5, Cond.selects RJx4a65c yJx4a65c_size_8abf5 yJx4a65c_size_8abf5, Cond.initialized RJx4a65c, Cond.code yJx4a65c_size_8abf5 cJx4a65c_size_8abf5 1 (some .int), Cond.fieldLink RJx4a65c 48 "java/util/ArrayList" "size" "I", Cond.methodLink RX0 30 yJx4a65c_get_915e3, Cond.instanceMethod yJx4a65c_get_915e3, Cond.selects RJx4a65c yJx4a65c_get_915e3 yJx4a65c_get_915e3, Cond.code yJx4a65c_get_915e3 cJx4a65c_get_915e3 2 (some (.object "java/lang/Object")), Cond.methodLink RJx4a65c 118 yJ15_checkIndex_7cf53, Cond.static yJ15_checkIndex_7cf53, Cond.initialized RJ15, Cond.code yJ15_checkIndex_7cf53 cJ15_checkIndex_7cf53 2 (some .int), Cond.methodLink RJ15 105 yJ3_checkIndex_8e157, Cond.static yJ3_checkIndex_8e157, Cond.initialized RJ3, Cond.code yJ3_checkIndex_8e157 cJ3_checkIndex_8e157 3 (some .int), Cond.methodLink RJx4a65c 123 yJx4a65c_elementData_915e3, Cond.instanceMethod yJx4a65c_elementData_915e3, Cond.selects RJx4a65c yJx4a65c_elementData_915e3 yJx4a65c_elementData_915e3, Cond.code yJx4a65c_elementData_915e3 cJx4a65c_elementData_915e3 2 (some (.object "java/lang/Object"))]
def wsX0_frameAt_r2 : List Cond := [Cond.fieldLink RJx4a65c 9 "java/util/ArrayList" "elementData" "[Ljava/lang/Object;"]
def wsX0_frameAt : List Cond := .code yX0_frameAt cX0_frameAt 2 (some (.object "Delaylens$Frame")) :: ((wsX0_frameAt_r1 ++ wsX0_frameAt_r2) ++ wsX00 ++ wsJx4a65c0)
def wsX0_hasFrameOf_r1 : List Cond := [Cond.fieldLink RX0 12 "Delaylens$Album" "kept" "Ljava/util/ArrayList;", Cond.methodLink RX0 26 yJx4a65c_size_8abf5, Cond.instanceMethod yJx4a65c_size_8abf5, Cond.selects RJx4a65c yJx4a65c_size_8abf5 yJx4a65c_size_8abf5, Cond.initialized RJx4a65c, Cond.code yJx4a65c_size_8abf5 cJx4a65c_size_8abf5 1 (some .int), Cond.fieldLink RJx4a65c 48 "java/util/ArrayList" "size" "I", Cond.methodLink RX0 36 yX0_frameAt, Cond.instanceMethod yX0_frameAt, Cond.selects RX0 yX0_frameAt yX0_frameAt, Cond.initialized RX0, Cond.code yX0_frameAt cX0_frameAt 2 (some (.object "Delaylens$Frame")), Cond.classLink RX0 34 "Delaylens$Frame", Cond.methodLink RX0 30 yJx4a65c_get_915e3, Cond.instanceMethod yJx4a65c_get_915e3, Cond.selects RJx4a65c yJx4a65c_get_915e3 yJx4a65c_get_915e3, Cond.code yJx4a65c_get_915e3 cJx4a65c_get_915e3 2 (some (.object "java/lang/Object")), Cond.methodLink RJx4a65c 118 yJ15_checkIndex_7cf53, Cond.static yJ15_checkIndex_7cf53, Cond.initialized RJ15, Cond.code yJ15_checkIndex_7cf53 cJ15_checkIndex_7cf53 2 (some .int), Cond.methodLink RJ15 105 yJ3_checkIndex_8e157, Cond.static yJ3_checkIndex_8e157, Cond.initialized RJ3]
def wsX0_hasFrameOf_r2 : List Cond := [Cond.code yJ3_checkIndex_8e157 cJ3_checkIndex_8e157 3 (some .int), Cond.methodLink RJx4a65c 123 yJx4a65c_elementData_915e3, Cond.instanceMethod yJx4a65c_elementData_915e3, Cond.selects RJx4a65c yJx4a65c_elementData_915e3 yJx4a65c_elementData_915e3, Cond.code yJx4a65c_elementData_915e3 cJx4a65c_elementData_915e3 2 (some (.object "java/lang/Object")), Cond.fieldLink RJx4a65c 9 "java/util/ArrayList" "elementData" "[Ljava/lang/Object;"]
def wsX0_hasFrameOf : List Cond := .code yX0_hasFrameOf cX0_hasFrameOf 3 (some .boolean) :: ((wsX0_hasFrameOf_r1 ++ wsX0_hasFrameOf_r2) ++ wsX00 ++ wsX30 ++ wsJx4a65c0)
def wsJ8_hugeLength_7cf53 : List Cond := .code yJ8_hugeLength_7cf53 cJ8_hugeLength_7cf53 3 (some .int) :: ([.constant RJ8 200 (2147483639)])
def wsJ8_newLength_cabcc : List Cond := .code yJ8_newLength_cabcc cJ8_newLength_cabcc 4 (some .int) :: ([.methodLink RJ8 194 Lib.Math.max.name, .static Lib.Math.max.name, .initialized "java/lang/Math", .code Lib.Math.max.name Lib.Math.max.code 2 (some .int), .constant RJ8 200 (2147483639), .methodLink RJ8 201 yJ8_hugeLength_7cf53, .static yJ8_hugeLength_7cf53, .initialized RJ8, .code yJ8_hugeLength_7cf53 cJ8_hugeLength_7cf53 3 (some .int)])
def wsJ7_copyOf_6403c : List Cond := .code yJ7_copyOf_6403c cJ7_copyOf_6403c 4 (some (.array (.object "java/lang/Object"))) :: ([.classLink RJ7 110 "[Ljava/lang/Object;", .classLink RJ7 2 "java/lang/Object", .methodLink RJ7 304 Lib.Math.min.name, .static Lib.Math.min.name, .initialized "java/lang/Math", .code Lib.Math.min.name Lib.Math.min.code 2 (some .int), .methodLink RJ7 150 arraycopyName, .native arraycopyName, .static arraycopyName, .initialized "java/lang/System"])
