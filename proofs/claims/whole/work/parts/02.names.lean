/-! ===== BEGIN words of one list among another's, by their places ===== -/
theorem goodIn_r {big : List Cond} (ws : List Cond) (ps : List Nat) (hp : ws = ps.filterMap (fun i => big[i]?)) (h : ws.all goodWord = true) : GoodIn big ws := by
  intro w hw
  have h1 := List.all_eq_true.mp h w hw
  rw [hp] at hw
  obtain ⟨i, -, hi⟩ := List.mem_filterMap.mp hw
  have hm : w ∈ big := by first | exact List.mem_of_getElem? hi | exact List.getElem?_mem hi
  exact ⟨hm, good_of_word h1⟩
theorem goodIn_app {big a b : List Cond} (ha : GoodIn big a) (hb : GoodIn big b) : GoodIn big (a ++ b) := fun w h => (List.mem_append.mp h).elim (ha w) (hb w)
theorem goodIn_ca {big a b : List Cond} {c : Cond} (ha : GoodIn big (c :: a)) (hb : GoodIn big b) : GoodIn big (c :: (a ++ b)) := fun w h => (List.mem_cons.mp h).elim (fun e => ha w (List.mem_cons.mpr (Or.inl e))) (fun h => (List.mem_append.mp h).elim (fun h => ha w (List.mem_cons.mpr (Or.inr h))) (hb w))
theorem goodIn_sub {big ws : List Cond} (hm : ∀ w ∈ ws, w ∈ big) (h : ws.all goodWord = true) : GoodIn big ws := fun w hw => ⟨hm w hw, good_of_word (List.all_eq_true.mp h w hw)⟩
/-! ===== END ===== -/

/-! ===== BEGIN printed: names, fields, word lists, decode rows ===== -/
def RX0 : String := "SunCourt$Beam"
def TX0 : u_T := fun k => match k with
  | 0 => ("SunCourt$Beam", "way", "[I", true)
  | 1 => ("SunCourt$Beam", "startLeast", "[I", true)
  | 2 => ("SunCourt$Beam", "startMost", "[I", true)
  | 3 => ("SunCourt$Beam", "enterOver", "I", false)
  | _ => ("SunCourt$Beam", "enterUnder", "I", false)
def tyX0 : Nat → FieldType := fun k => match k with
  | 0 => .array .int
  | 1 => .array .int
  | 2 => .array .int
  | 3 => .int
  | _ => .int
abbrev wsX00 : List Cond := u_ws RX0 TX0 5
theorem nmX0 : ∀ a, a < 5 → ∀ b, b < 5 → a ≠ b → (TX0 a).2.1 ≠ (TX0 b).2.1 := by decide +kernel
theorem tyX0_ok : ∀ k, k < 5 → parseFieldDescriptor (TX0 k).2.2.1 = some (tyX0 k) := by decide +kernel
abbrev cX0_init : ByteArray := prog_2_method_1_code
def yX0_init : MethodName := ⟨RX0, "<init>", "()V"⟩
abbrev cX0_startAt : ByteArray := prog_2_method_2_code
def yX0_startAt : MethodName := ⟨RX0, "startAt", "(III)V"⟩
abbrev cX0_meets : ByteArray := prog_2_method_3_code
def yX0_meets : MethodName := ⟨RX0, "meets", "(LSunCourt$Blocks;II)Z"⟩
def RX1 : String := "SunCourt$Blocks"
def TX1 : u_T := fun k => match k with
  | 0 => ("SunCourt$Blocks", "size", "I", false)
  | 1 => ("SunCourt$Blocks", "kind", "[I", true)
  | 2 => ("SunCourt$Blocks", "lesser", "[I", true)
  | 3 => ("SunCourt$Blocks", "greater", "[I", true)
  | 4 => ("SunCourt$Blocks", "greatestTop", "[I", true)
  | 5 => ("SunCourt$Blocks", "through", "[I", true)
  | 6 => ("SunCourt$Blocks", "there", "[Z", true)
  | _ => ("SunCourt$Blocks", "gone", "[Z", true)
def tyX1 : Nat → FieldType := fun k => match k with
  | 0 => .int
  | 1 => .array .int
  | 2 => .array .int
  | 3 => .array .int
  | 4 => .array .int
  | 5 => .array .int
  | 6 => .array .boolean
  | _ => .array .boolean
abbrev wsX10 : List Cond := u_ws RX1 TX1 8
theorem nmX1 : ∀ a, a < 8 → ∀ b, b < 8 → a ≠ b → (TX1 a).2.1 ≠ (TX1 b).2.1 := by decide +kernel
theorem tyX1_ok : ∀ k, k < 8 → parseFieldDescriptor (TX1 k).2.2.1 = some (tyX1 k) := by decide +kernel
abbrev cX1_init : ByteArray := prog_3_method_1_code
def yX1_init : MethodName := ⟨RX1, "<init>", "()V"⟩
abbrev cX1_has : ByteArray := prog_3_method_2_code
def yX1_has : MethodName := ⟨RX1, "has", "(I)Z"⟩
abbrev cX1_isFull : ByteArray := prog_3_method_3_code
def yX1_isFull : MethodName := ⟨RX1, "isFull", "()Z"⟩
abbrev cX1_add : ByteArray := prog_3_method_4_code
def yX1_add : MethodName := ⟨RX1, "add", "(IIIIIII)I"⟩
abbrev cX1_footOf : ByteArray := prog_3_method_5_code
def yX1_footOf : MethodName := ⟨RX1, "footOf", "(I)I"⟩
abbrev cX1_topOf : ByteArray := prog_3_method_6_code
def yX1_topOf : MethodName := ⟨RX1, "topOf", "(I)I"⟩
abbrev cX1_setTop : ByteArray := prog_3_method_7_code
def yX1_setTop : MethodName := ⟨RX1, "setTop", "(II)V"⟩
abbrev cX1_treeFault : ByteArray := prog_3_method_8_code
def yX1_treeFault : MethodName := ⟨RX1, "treeFault", "(I)I"⟩
abbrev cX1_planFault : ByteArray := prog_3_method_9_code
def yX1_planFault : MethodName := ⟨RX1, "planFault", "(I)I"⟩
abbrev cX1_growTrees : ByteArray := prog_3_method_10_code
def yX1_growTrees : MethodName := ⟨RX1, "growTrees", "()Z"⟩
def RX2 : String := "SunCourt$Shade"
def TX2 : u_T := fun k => match k with
  | 0 => ("SunCourt$Shade", "size", "I", false)
  | 1 => ("SunCourt$Shade", "number", "[I", true)
  | 2 => ("SunCourt$Shade", "top", "[I", true)
  | _ => ("SunCourt$Shade", "passes", "[I", true)
def tyX2 : Nat → FieldType := fun k => match k with
  | 0 => .int
  | 1 => .array .int
  | 2 => .array .int
  | _ => .array .int
abbrev wsX20 : List Cond := u_ws RX2 TX2 4
theorem nmX2 : ∀ a, a < 4 → ∀ b, b < 4 → a ≠ b → (TX2 a).2.1 ≠ (TX2 b).2.1 := by decide +kernel
theorem tyX2_ok : ∀ k, k < 4 → parseFieldDescriptor (TX2 k).2.2.1 = some (tyX2 k) := by decide +kernel
abbrev cX2_init : ByteArray := prog_4_method_1_code
def yX2_init : MethodName := ⟨RX2, "<init>", "()V"⟩
abbrev cX2_gather : ByteArray := prog_4_method_2_code
def yX2_gather : MethodName := ⟨RX2, "gather", "(LSunCourt$Blocks;LSunCourt$Beam;III)V"⟩
abbrev cX2_lightAlong : ByteArray := prog_4_method_3_code
def yX2_lightAlong : MethodName := ⟨RX2, "lightAlong", "(LSunCourt$Blocks;LSunCourt$Beam;)I"⟩
abbrev cX2_nearestAlong : ByteArray := prog_4_method_4_code
def yX2_nearestAlong : MethodName := ⟨RX2, "nearestAlong", "(LSunCourt$Blocks;LSunCourt$Beam;)I"⟩
def RX3 : String := "SunCourt$Sky"
def TX3 : u_T := fun k => match k with
  | 0 => ("SunCourt$Sky", "minutes", "[I", true)
  | _ => ("SunCourt$Sky", "ways", "[I", true)
def tyX3 : Nat → FieldType := fun k => match k with
  | 0 => .array .int
  | _ => .array .int
abbrev wsX30 : List Cond := u_ws RX3 TX3 2
theorem nmX3 : ∀ a, a < 2 → ∀ b, b < 2 → a ≠ b → (TX3 a).2.1 ≠ (TX3 b).2.1 := by decide +kernel
theorem tyX3_ok : ∀ k, k < 2 → parseFieldDescriptor (TX3 k).2.2.1 = some (tyX3 k) := by decide +kernel
abbrev cX3_init : ByteArray := prog_5_method_1_code
def yX3_init : MethodName := ⟨RX3, "<init>", "()V"⟩
abbrev cX3_has : ByteArray := prog_5_method_2_code
def yX3_has : MethodName := ⟨RX3, "has", "(II)Z"⟩
abbrev cX3_isFull : ByteArray := prog_5_method_3_code
def yX3_isFull : MethodName := ⟨RX3, "isFull", "(I)Z"⟩
abbrev cX3_add : ByteArray := prog_5_method_4_code
def yX3_add : MethodName := ⟨RX3, "add", "(IIII)I"⟩
abbrev cX3_minutesInAll : ByteArray := prog_5_method_5_code
def yX3_minutesInAll : MethodName := ⟨RX3, "minutesInAll", "()I"⟩
abbrev cX3_turn : ByteArray := prog_5_method_6_code
def yX3_turn : MethodName := ⟨RX3, "turn", "(IILSunCourt$Beam;)V"⟩
def RX4 : String := "SunCourt$Windows"
def TX4 : u_T := fun k => match k with
  | 0 => ("SunCourt$Windows", "size", "I", false)
  | 1 => ("SunCourt$Windows", "side", "[I", true)
  | 2 => ("SunCourt$Windows", "wallAxis", "[I", true)
  | 3 => ("SunCourt$Windows", "wall", "[I", true)
  | 4 => ("SunCourt$Windows", "leastU", "[I", true)
  | 5 => ("SunCourt$Windows", "leastZ", "[I", true)
  | 6 => ("SunCourt$Windows", "width", "[I", true)
  | 7 => ("SunCourt$Windows", "height", "[I", true)
  | 8 => ("SunCourt$Windows", "right", "[I", true)
  | _ => ("SunCourt$Windows", "released", "[Z", true)
def tyX4 : Nat → FieldType := fun k => match k with
  | 0 => .int
  | 1 => .array .int
  | 2 => .array .int
  | 3 => .array .int
  | 4 => .array .int
  | 5 => .array .int
  | 6 => .array .int
  | 7 => .array .int
  | 8 => .array .int
  | _ => .array .boolean
abbrev wsX40 : List Cond := u_ws RX4 TX4 10
theorem nmX4 : ∀ a, a < 10 → ∀ b, b < 10 → a ≠ b → (TX4 a).2.1 ≠ (TX4 b).2.1 := by decide +kernel
theorem tyX4_ok : ∀ k, k < 10 → parseFieldDescriptor (TX4 k).2.2.1 = some (tyX4 k) := by decide +kernel
abbrev cX4_init : ByteArray := prog_6_method_1_code
def yX4_init : MethodName := ⟨RX4, "<init>", "()V"⟩
abbrev cX4_has : ByteArray := prog_6_method_2_code
def yX4_has : MethodName := ⟨RX4, "has", "(I)Z"⟩
abbrev cX4_hasCell : ByteArray := prog_6_method_3_code
def yX4_hasCell : MethodName := ⟨RX4, "hasCell", "(II)Z"⟩
abbrev cX4_isFull : ByteArray := prog_6_method_4_code
def yX4_isFull : MethodName := ⟨RX4, "isFull", "()Z"⟩
abbrev cX4_add : ByteArray := prog_6_method_5_code
def yX4_add : MethodName := ⟨RX4, "add", "(IIIIII)I"⟩
abbrev cX4_cellsOf : ByteArray := prog_6_method_6_code
def yX4_cellsOf : MethodName := ⟨RX4, "cellsOf", "(I)I"⟩
abbrev cX4_isKept : ByteArray := prog_6_method_7_code
def yX4_isKept : MethodName := ⟨RX4, "isKept", "(I)Z"⟩
abbrev cX4_keptOnes : ByteArray := prog_6_method_8_code
def yX4_keptOnes : MethodName := ⟨RX4, "keptOnes", "()I"⟩
abbrev cX4_faces : ByteArray := prog_6_method_9_code
def yX4_faces : MethodName := ⟨RX4, "faces", "(ILSunCourt$Beam;)Z"⟩
abbrev cX4_standOn : ByteArray := prog_6_method_10_code
def yX4_standOn : MethodName := ⟨RX4, "standOn", "(IILSunCourt$Beam;)V"⟩
abbrev cX4_standOnAll : ByteArray := prog_6_method_11_code
def yX4_standOnAll : MethodName := ⟨RX4, "standOnAll", "(ILSunCourt$Beam;)V"⟩
abbrev cX4_middle : ByteArray := prog_6_method_12_code
def yX4_middle : MethodName := ⟨RX4, "middle", "(I)I"⟩
def RX5 : String := "SunCourt"
def TX5 : u_T := fun k => match k with
  | 0 => ("SunCourt", "sky", "LSunCourt$Sky;", true)
  | 1 => ("SunCourt", "blocks", "LSunCourt$Blocks;", true)
  | 2 => ("SunCourt", "windows", "LSunCourt$Windows;", true)
  | 3 => ("SunCourt", "beam", "LSunCourt$Beam;", true)
  | 4 => ("SunCourt", "shade", "LSunCourt$Shade;", true)
  | 5 => ("SunCourt", "leastHours", "[I", true)
  | 6 => ("SunCourt", "refusals", "[I", true)
  | 7 => ("SunCourt", "litBits", "[I", true)
  | 8 => ("SunCourt", "litPart", "I", false)
  | _ => ("SunCourt", "year", "I", false)
def tyX5 : Nat → FieldType := fun k => match k with
  | 0 => .object "SunCourt$Sky"
  | 1 => .object "SunCourt$Blocks"
  | 2 => .object "SunCourt$Windows"
  | 3 => .object "SunCourt$Beam"
  | 4 => .object "SunCourt$Shade"
  | 5 => .array .int
  | 6 => .array .int
  | 7 => .array .int
  | 8 => .int
  | _ => .int
abbrev wsX50 : List Cond := u_ws RX5 TX5 10
theorem nmX5 : ∀ a, a < 10 → ∀ b, b < 10 → a ≠ b → (TX5 a).2.1 ≠ (TX5 b).2.1 := by decide +kernel
theorem tyX5_ok : ∀ k, k < 10 → parseFieldDescriptor (TX5 k).2.2.1 = some (tyX5 k) := by decide +kernel
abbrev cX5_init : ByteArray := prog_1_method_1_code
def yX5_init : MethodName := ⟨RX5, "<init>", "()V"⟩
abbrev cX5_minute : ByteArray := prog_1_method_2_code
def yX5_minute : MethodName := ⟨RX5, "minute", "(IIII)I"⟩
abbrev cX5_block : ByteArray := prog_1_method_3_code
def yX5_block : MethodName := ⟨RX5, "block", "(IIIIIII)I"⟩
abbrev cX5_share : ByteArray := prog_1_method_4_code
def yX5_share : MethodName := ⟨RX5, "share", "(III)I"⟩
abbrev cX5_most : ByteArray := prog_1_method_5_code
def yX5_most : MethodName := ⟨RX5, "most", "(II)I"⟩
abbrev cX5_cut : ByteArray := prog_1_method_6_code
def yX5_cut : MethodName := ⟨RX5, "cut", "(II)I"⟩
abbrev cX5_build : ByteArray := prog_1_method_7_code
def yX5_build : MethodName := ⟨RX5, "build", "(I)I"⟩
abbrev cX5_go : ByteArray := prog_1_method_8_code
def yX5_go : MethodName := ⟨RX5, "go", "(I)I"⟩
abbrev cX5_window : ByteArray := prog_1_method_9_code
def yX5_window : MethodName := ⟨RX5, "window", "(IIIIII)I"⟩
abbrev cX5_part : ByteArray := prog_1_method_10_code
def yX5_part : MethodName := ⟨RX5, "part", "(I)I"⟩
abbrev cX5_law : ByteArray := prog_1_method_11_code
def yX5_law : MethodName := ⟨RX5, "law", "(II)I"⟩
abbrev cX5_sun : ByteArray := prog_1_method_12_code
def yX5_sun : MethodName := ⟨RX5, "sun", "(III)I"⟩
abbrev cX5_light : ByteArray := prog_1_method_13_code
def yX5_light : MethodName := ⟨RX5, "light", "(IIII)I"⟩
abbrev cX5_taker : ByteArray := prog_1_method_14_code
def yX5_taker : MethodName := ⟨RX5, "taker", "(IIII)I"⟩
abbrev cX5_takes : ByteArray := prog_1_method_15_code
def yX5_takes : MethodName := ⟨RX5, "takes", "(III)I"⟩
abbrev cX5_hours : ByteArray := prog_1_method_16_code
def yX5_hours : MethodName := ⟨RX5, "hours", "(II)I"⟩
abbrev cX5_loss : ByteArray := prog_1_method_17_code
def yX5_loss : MethodName := ⟨RX5, "loss", "(III)I"⟩
abbrev cX5_high : ByteArray := prog_1_method_18_code
def yX5_high : MethodName := ⟨RX5, "high", "(I)I"⟩
abbrev cX5_breach : ByteArray := prog_1_method_19_code
def yX5_breach : MethodName := ⟨RX5, "breach", "(II)I"⟩
abbrev cX5_years : ByteArray := prog_1_method_20_code
def yX5_years : MethodName := ⟨RX5, "years", "(I)I"⟩
abbrev cX5_release : ByteArray := prog_1_method_21_code
def yX5_release : MethodName := ⟨RX5, "release", "(I)Z"⟩
abbrev cX5_blockOf : ByteArray := prog_1_method_22_code
def yX5_blockOf : MethodName := ⟨RX5, "blockOf", "(II)I"⟩
abbrev cX5_windowOf : ByteArray := prog_1_method_23_code
def yX5_windowOf : MethodName := ⟨RX5, "windowOf", "(II)I"⟩
abbrev cX5_count : ByteArray := prog_1_method_24_code
def yX5_count : MethodName := ⟨RX5, "count", "(I)I"⟩
abbrev cX5_isDay : ByteArray := prog_1_method_25_code
def yX5_isDay : MethodName := ⟨RX5, "isDay", "(I)Z"⟩
abbrev cX5_refuse : ByteArray := prog_1_method_26_code
def yX5_refuse : MethodName := ⟨RX5, "refuse", "(I)I"⟩
abbrev cX5_refuseAsTold : ByteArray := prog_1_method_27_code
def yX5_refuseAsTold : MethodName := ⟨RX5, "refuseAsTold", "(I)I"⟩
abbrev cX5_forgetLight : ByteArray := prog_1_method_28_code
def yX5_forgetLight : MethodName := ⟨RX5, "forgetLight", "()V"⟩
abbrev cX5_aim : ByteArray := prog_1_method_29_code
def yX5_aim : MethodName := ⟨RX5, "aim", "(III)Z"⟩
abbrev cX5_sunAt : ByteArray := prog_1_method_30_code
def yX5_sunAt : MethodName := ⟨RX5, "sunAt", "(IIIII)I"⟩
abbrev cX5_cellsTaken : ByteArray := prog_1_method_31_code
def yX5_cellsTaken : MethodName := ⟨RX5, "cellsTaken", "(IIII)I"⟩
abbrev cX5_isLitBy : ByteArray := prog_1_method_32_code
def yX5_isLitBy : MethodName := ⟨RX5, "isLitBy", "(II)Z"⟩
abbrev cX5_litMinutes : ByteArray := prog_1_method_33_code
def yX5_litMinutes : MethodName := ⟨RX5, "litMinutes", "(II)I"⟩
abbrev cX5_hoursWith : ByteArray := prog_1_method_34_code
def yX5_hoursWith : MethodName := ⟨RX5, "hoursWith", "(IIIII)I"⟩
abbrev cX5_firstFall : ByteArray := prog_1_method_35_code
def yX5_firstFall : MethodName := ⟨RX5, "firstFall", "(I)I"⟩
abbrev cX5_firstFallWith : ByteArray := prog_1_method_36_code
def yX5_firstFallWith : MethodName := ⟨RX5, "firstFallWith", "(III)I"⟩
abbrev cX5_firstBreach : ByteArray := prog_1_method_37_code
def yX5_firstBreach : MethodName := ⟨RX5, "firstBreach", "(II)I"⟩
abbrev cX5_lawfulWindows : ByteArray := prog_1_method_38_code
def yX5_lawfulWindows : MethodName := ⟨RX5, "lawfulWindows", "()I"⟩
abbrev cX5_passYear : ByteArray := prog_1_method_39_code
def yX5_passYear : MethodName := ⟨RX5, "passYear", "()V"⟩
def RX6 : String := "SunCourtModel"
def TX6 : u_T := fun k => match k with
  | 0 => ("SunCourtModel", "minutes", "[I", true)
  | 1 => ("SunCourtModel", "wayX", "[I", true)
  | 2 => ("SunCourtModel", "wayY", "[I", true)
  | 3 => ("SunCourtModel", "wayZ", "[I", true)
  | 4 => ("SunCourtModel", "law", "[I", true)
  | 5 => ("SunCourtModel", "part", "I", false)
  | 6 => ("SunCourtModel", "year", "I", false)
  | 7 => ("SunCourtModel", "blocks", "I", false)
  | 8 => ("SunCourtModel", "kind", "[I", true)
  | 9 => ("SunCourtModel", "x0", "[I", true)
  | 10 => ("SunCourtModel", "x1", "[I", true)
  | 11 => ("SunCourtModel", "y0", "[I", true)
  | 12 => ("SunCourtModel", "y1", "[I", true)
  | 13 => ("SunCourtModel", "foot", "[I", true)
  | 14 => ("SunCourtModel", "top", "[I", true)
  | 15 => ("SunCourtModel", "most", "[I", true)
  | 16 => ("SunCourtModel", "share", "[I", true)
  | 17 => ("SunCourtModel", "built", "[Z", true)
  | 18 => ("SunCourtModel", "gone", "[Z", true)
  | 19 => ("SunCourtModel", "windows", "I", false)
  | 20 => ("SunCourtModel", "side", "[I", true)
  | 21 => ("SunCourtModel", "at", "[I", true)
  | 22 => ("SunCourtModel", "u0", "[I", true)
  | 23 => ("SunCourtModel", "u1", "[I", true)
  | 24 => ("SunCourtModel", "z0", "[I", true)
  | 25 => ("SunCourtModel", "z1", "[I", true)
  | 26 => ("SunCourtModel", "right", "[I", true)
  | 27 => ("SunCourtModel", "released", "[Z", true)
  | 28 => ("SunCourtModel", "refused", "[I", true)
  | 29 => ("SunCourtModel", "thought", "I", false)
  | 30 => ("SunCourtModel", "thoughtTop", "I", false)
  | 31 => ("SunCourtModel", "lowTop", "I", false)
  | 32 => ("SunCourtModel", "lowUnder", "I", false)
  | 33 => ("SunCourtModel", "highTop", "I", false)
  | 34 => ("SunCourtModel", "highUnder", "I", false)
  | 35 => ("SunCourtModel", "isOut", "Z", false)
  | 36 => ("SunCourtModel", "pointX", "I", false)
  | 37 => ("SunCourtModel", "pointY", "I", false)
  | 38 => ("SunCourtModel", "pointZ", "I", false)
  | 39 => ("SunCourtModel", "toX", "I", false)
  | 40 => ("SunCourtModel", "toY", "I", false)
  | 41 => ("SunCourtModel", "toZ", "I", false)
  | _ => ("SunCourtModel", "asked", "[Z", true)
def tyX6 : Nat → FieldType := fun k => match k with
  | 0 => .array .int
  | 1 => .array .int
  | 2 => .array .int
  | 3 => .array .int
  | 4 => .array .int
  | 5 => .int
  | 6 => .int
  | 7 => .int
  | 8 => .array .int
  | 9 => .array .int
  | 10 => .array .int
  | 11 => .array .int
  | 12 => .array .int
  | 13 => .array .int
  | 14 => .array .int
  | 15 => .array .int
  | 16 => .array .int
  | 17 => .array .boolean
  | 18 => .array .boolean
  | 19 => .int
  | 20 => .array .int
  | 21 => .array .int
  | 22 => .array .int
  | 23 => .array .int
  | 24 => .array .int
  | 25 => .array .int
  | 26 => .array .int
  | 27 => .array .boolean
  | 28 => .array .int
  | 29 => .int
  | 30 => .int
  | 31 => .int
  | 32 => .int
  | 33 => .int
  | 34 => .int
  | 35 => .boolean
  | 36 => .int
  | 37 => .int
  | 38 => .int
  | 39 => .int
  | 40 => .int
  | 41 => .int
  | _ => .array .boolean
abbrev wsX60 : List Cond := u_ws RX6 TX6 43
theorem nmX6 : ∀ a, a < 43 → ∀ b, b < 43 → a ≠ b → (TX6 a).2.1 ≠ (TX6 b).2.1 := by decide +kernel
theorem tyX6_ok : ∀ k, k < 43 → parseFieldDescriptor (TX6 k).2.2.1 = some (tyX6 k) := by decide +kernel
abbrev cX6_init : ByteArray := prog_8_method_1_code
def yX6_init : MethodName := ⟨RX6, "<init>", "()V"⟩
abbrev cX6_in : ByteArray := prog_8_method_3_code
def yX6_in : MethodName := ⟨RX6, "in", "(III)Z"⟩
abbrev cX6_refuse : ByteArray := prog_8_method_4_code
def yX6_refuse : MethodName := ⟨RX6, "refuse", "(I)I"⟩
abbrev cX6_refuseBig : ByteArray := prog_8_method_5_code
def yX6_refuseBig : MethodName := ⟨RX6, "refuseBig", "(I)I"⟩
abbrev cX6_isBlock : ByteArray := prog_8_method_6_code
def yX6_isBlock : MethodName := ⟨RX6, "isBlock", "(I)Z"⟩
abbrev cX6_isWindow : ByteArray := prog_8_method_7_code
def yX6_isWindow : MethodName := ⟨RX6, "isWindow", "(I)Z"⟩
abbrev cX6_isDay : ByteArray := prog_8_method_8_code
def yX6_isDay : MethodName := ⟨RX6, "isDay", "(I)Z"⟩
abbrev cX6_isMinute : ByteArray := prog_8_method_9_code
def yX6_isMinute : MethodName := ⟨RX6, "isMinute", "(II)Z"⟩
abbrev cX6_cellsOf : ByteArray := prog_8_method_10_code
def yX6_cellsOf : MethodName := ⟨RX6, "cellsOf", "(I)I"⟩
abbrev cX6_minute : ByteArray := prog_8_method_11_code
def yX6_minute : MethodName := ⟨RX6, "minute", "(IIII)I"⟩
abbrev cX6_block : ByteArray := prog_8_method_12_code
def yX6_block : MethodName := ⟨RX6, "block", "(IIIIIII)I"⟩
abbrev cX6_share : ByteArray := prog_8_method_13_code
def yX6_share : MethodName := ⟨RX6, "share", "(III)I"⟩
abbrev cX6_most : ByteArray := prog_8_method_14_code
def yX6_most : MethodName := ⟨RX6, "most", "(II)I"⟩
abbrev cX6_cut : ByteArray := prog_8_method_15_code
def yX6_cut : MethodName := ⟨RX6, "cut", "(II)I"⟩
abbrev cX6_lackOfPlan : ByteArray := prog_8_method_16_code
def yX6_lackOfPlan : MethodName := ⟨RX6, "lackOfPlan", "(I)I"⟩
abbrev cX6_build : ByteArray := prog_8_method_17_code
def yX6_build : MethodName := ⟨RX6, "build", "(I)I"⟩
abbrev cX6_go : ByteArray := prog_8_method_18_code
def yX6_go : MethodName := ⟨RX6, "go", "(I)I"⟩
abbrev cX6_window : ByteArray := prog_8_method_19_code
def yX6_window : MethodName := ⟨RX6, "window", "(IIIIII)I"⟩
abbrev cX6_part : ByteArray := prog_8_method_20_code
def yX6_part : MethodName := ⟨RX6, "part", "(I)I"⟩
abbrev cX6_law : ByteArray := prog_8_method_21_code
def yX6_law : MethodName := ⟨RX6, "law", "(II)I"⟩
abbrev cX6_isThere : ByteArray := prog_8_method_22_code
def yX6_isThere : MethodName := ⟨RX6, "isThere", "(I)Z"⟩
abbrev cX6_topOf : ByteArray := prog_8_method_23_code
def yX6_topOf : MethodName := ⟨RX6, "topOf", "(I)I"⟩
abbrev cX6_show : ByteArray := prog_8_method_24_code
def yX6_show : MethodName := ⟨RX6, "show", "(III)V"⟩
abbrev cX6_isInFront : ByteArray := prog_8_method_25_code
def yX6_isInFront : MethodName := ⟨RX6, "isInFront", "(II)Z"⟩
abbrev cX6_bound : ByteArray := prog_8_method_26_code
def yX6_bound : MethodName := ⟨RX6, "bound", "(IIII)V"⟩
abbrev cX6_stands : ByteArray := prog_8_method_27_code
def yX6_stands : MethodName := ⟨RX6, "stands", "(I)Z"⟩
abbrev cX6_lightOf : ByteArray := prog_8_method_28_code
def yX6_lightOf : MethodName := ⟨RX6, "lightOf", "(IIII)I"⟩
abbrev cX6_sunOf : ByteArray := prog_8_method_29_code
def yX6_sunOf : MethodName := ⟨RX6, "sunOf", "(III)I"⟩
abbrev cX6_hoursOf : ByteArray := prog_8_method_30_code
def yX6_hoursOf : MethodName := ⟨RX6, "hoursOf", "(II)I"⟩
abbrev cX6_fallsOn : ByteArray := prog_8_method_31_code
def yX6_fallsOn : MethodName := ⟨RX6, "fallsOn", "(I)I"⟩
abbrev cX6_sun : ByteArray := prog_8_method_32_code
def yX6_sun : MethodName := ⟨RX6, "sun", "(III)I"⟩
abbrev cX6_light : ByteArray := prog_8_method_33_code
def yX6_light : MethodName := ⟨RX6, "light", "(IIII)I"⟩
abbrev cX6_takerOf : ByteArray := prog_8_method_34_code
def yX6_takerOf : MethodName := ⟨RX6, "takerOf", "(IIII)I"⟩
abbrev cX6_taker : ByteArray := prog_8_method_35_code
def yX6_taker : MethodName := ⟨RX6, "taker", "(IIII)I"⟩
abbrev cX6_takes : ByteArray := prog_8_method_36_code
def yX6_takes : MethodName := ⟨RX6, "takes", "(III)I"⟩
abbrev cX6_hours : ByteArray := prog_8_method_37_code
def yX6_hours : MethodName := ⟨RX6, "hours", "(II)I"⟩
abbrev cX6_think : ByteArray := prog_8_method_38_code
def yX6_think : MethodName := ⟨RX6, "think", "(II)V"⟩
abbrev cX6_loss : ByteArray := prog_8_method_39_code
def yX6_loss : MethodName := ⟨RX6, "loss", "(III)I"⟩
abbrev cX6_isKept : ByteArray := prog_8_method_40_code
def yX6_isKept : MethodName := ⟨RX6, "isKept", "(I)Z"⟩
abbrev cX6_ask : ByteArray := prog_8_method_41_code
def yX6_ask : MethodName := ⟨RX6, "ask", "()V"⟩
abbrev cX6_firstBreach : ByteArray := prog_8_method_42_code
def yX6_firstBreach : MethodName := ⟨RX6, "firstBreach", "(II)I"⟩
abbrev cX6_high : ByteArray := prog_8_method_43_code
def yX6_high : MethodName := ⟨RX6, "high", "(I)I"⟩
abbrev cX6_breach : ByteArray := prog_8_method_44_code
def yX6_breach : MethodName := ⟨RX6, "breach", "(II)I"⟩
abbrev cX6_years : ByteArray := prog_8_method_45_code
def yX6_years : MethodName := ⟨RX6, "years", "(I)I"⟩
abbrev cX6_release : ByteArray := prog_8_method_46_code
def yX6_release : MethodName := ⟨RX6, "release", "(I)Z"⟩
abbrev cX6_blockOf : ByteArray := prog_8_method_47_code
def yX6_blockOf : MethodName := ⟨RX6, "blockOf", "(II)I"⟩
abbrev cX6_windowOf : ByteArray := prog_8_method_48_code
def yX6_windowOf : MethodName := ⟨RX6, "windowOf", "(II)I"⟩
abbrev cX6_count : ByteArray := prog_8_method_49_code
def yX6_count : MethodName := ⟨RX6, "count", "(I)I"⟩
def RJ6 : String := "java/lang/Integer"
def TJ6 : u_T := fun k => match k with
  | _ => ("", "", "", false)
def tyJ6 : Nat → FieldType := fun k => match k with
  | _ => .int
abbrev wsJ60 : List Cond := u_ws RJ6 TJ6 0
theorem nmJ6 : ∀ a, a < 0 → ∀ b, b < 0 → a ≠ b → (TJ6 a).2.1 ≠ (TJ6 b).2.1 := by decide +kernel
theorem tyJ6_ok : ∀ k, k < 0 → parseFieldDescriptor (TJ6 k).2.2.1 = some (tyJ6 k) := by decide +kernel
abbrev cJ6_bitCount_0f7a4 : ByteArray := prog_9_method_49_code
def yJ6_bitCount_0f7a4 : MethodName := ⟨RJ6, "bitCount", "(I)I"⟩
def RJ9 : String := "java/lang/Math"
def TJ9 : u_T := fun k => match k with
  | _ => ("", "", "", false)
def tyJ9 : Nat → FieldType := fun k => match k with
  | _ => .int
abbrev wsJ90 : List Cond := u_ws RJ9 TJ9 0
theorem nmJ9 : ∀ a, a < 0 → ∀ b, b < 0 → a ≠ b → (TJ9 a).2.1 ≠ (TJ9 b).2.1 := by decide +kernel
theorem tyJ9_ok : ∀ k, k < 0 → parseFieldDescriptor (TJ9 k).2.2.1 = some (tyJ9 k) := by decide +kernel
abbrev cJ9_max_7cf53 : ByteArray := prog_10_method_65_code
def yJ9_max_7cf53 : MethodName := ⟨RJ9, "max", "(II)I"⟩
def RJ7 : String := "java/util/Arrays"
def TJ7 : u_T := fun k => match k with
  | _ => ("", "", "", false)
def tyJ7 : Nat → FieldType := fun k => match k with
  | _ => .int
abbrev wsJ70 : List Cond := u_ws RJ7 TJ7 0
theorem nmJ7 : ∀ a, a < 0 → ∀ b, b < 0 → a ≠ b → (TJ7 a).2.1 ≠ (TJ7 b).2.1 := by decide +kernel
theorem tyJ7_ok : ∀ k, k < 0 → parseFieldDescriptor (TJ7 k).2.2.1 = some (tyJ7 k) := by decide +kernel
abbrev cJ7_fill_53178 : ByteArray := prog_11_method_103_code
def yJ7_fill_53178 : MethodName := ⟨RJ7, "fill", "([II)V"⟩
def RL : String := "SunCourtLaw"
abbrev cL_law : ByteArray := code
def yL_law : MethodName := ⟨RL, "law", "([I)Z"⟩
abbrev vwCl : List vw_C := [(RX0, TX0, 5), (RX1, TX1, 8), (RX2, TX2, 4), (RX3, TX3, 2), (RX4, TX4, 10), (RX5, TX5, 10), (RX6, TX6, 43)]
/-- the words that every method's contract takes -/
def lw_big : List Cond := lw_tbl.filter goodWord
theorem big_of {w : Cond} (h : w ∈ lw_tbl) (g : goodWord w = true) : w ∈ lw_big := List.mem_filter.mpr ⟨h, g⟩
theorem big_s {w : Cond} {i : Nat} (h : (k2_sels lw_privs)[i]? = some w) (g : goodWord w = true) : w ∈ lw_big := big_of (List.mem_append_left _ (List.mem_of_getElem? h)) g
theorem big_t {w : Cond} (h : w ∈ tables_1) (g : goodWord w = true) : w ∈ lw_big := big_of (List.mem_append_right _ h) g
theorem big_1 {w : Cond} {i : Nat} (h : tables_1_1[i]? = some w) (g : goodWord w = true) : w ∈ lw_big := big_t (List.mem_append_left _ (List.mem_of_getElem? h)) g
theorem big_2 {w : Cond} {i : Nat} (h : tables_1_2[i]? = some w) (g : goodWord w = true) : w ∈ lw_big := big_t (List.mem_append_right _ (List.mem_append_left _ (List.mem_of_getElem? h))) g
theorem big_3 {w : Cond} {i : Nat} (h : tables_1_3[i]? = some w) (g : goodWord w = true) : w ∈ lw_big := big_t (List.mem_append_right _ (List.mem_append_right _ (List.mem_append_left _ (List.mem_of_getElem? h)))) g
theorem big_4 {w : Cond} {i : Nat} (h : tables_1_4[i]? = some w) (g : goodWord w = true) : w ∈ lw_big := big_t (List.mem_append_right _ (List.mem_append_right _ (List.mem_append_right _ (List.mem_of_getElem? h)))) g
theorem big_in : ∀ w ∈ lw_big, w ∈ lw_tbl := fun _ h => (List.mem_filter.mp h).1
theorem big_good {w : Cond} (h : w ∈ lw_big) : goodWord w = true := (List.mem_filter.mp h).2
theorem layX0_k : ∀ k, k < 5 → u_lay RX0 TX0 k ∈ lw_big := fun k hk => match k, hk with
  | 0, _ => big_1 (i := 133) rfl rfl
  | 1, _ => big_1 (i := 135) rfl rfl
  | 2, _ => big_1 (i := 137) rfl rfl
  | 3, _ => big_1 (i := 139) rfl rfl
  | 4, _ => big_1 (i := 141) rfl rfl
  | _ + 5, h => absurd h (by omega)
theorem inlX0 : ∀ w ∈ u_ws RX0 TX0 5, w ∈ lw_big := fun w h => by
  obtain ⟨k, hk, rfl⟩ := List.mem_map.mp h
  exact layX0_k k (List.mem_range.mp hk)
theorem layX1_k : ∀ k, k < 8 → u_lay RX1 TX1 k ∈ lw_big := fun k hk => match k, hk with
  | 0, _ => big_1 (i := 59) rfl rfl
  | 1, _ => big_1 (i := 61) rfl rfl
  | 2, _ => big_1 (i := 63) rfl rfl
  | 3, _ => big_1 (i := 65) rfl rfl
  | 4, _ => big_1 (i := 67) rfl rfl
  | 5, _ => big_1 (i := 69) rfl rfl
  | 6, _ => big_1 (i := 71) rfl rfl
  | 7, _ => big_1 (i := 73) rfl rfl
  | _ + 8, h => absurd h (by omega)
theorem inlX1 : ∀ w ∈ u_ws RX1 TX1 8, w ∈ lw_big := fun w h => by
  obtain ⟨k, hk, rfl⟩ := List.mem_map.mp h
  exact layX1_k k (List.mem_range.mp hk)
theorem layX2_k : ∀ k, k < 4 → u_lay RX2 TX2 k ∈ lw_big := fun k hk => match k, hk with
  | 0, _ => big_1 (i := 155) rfl rfl
  | 1, _ => big_1 (i := 157) rfl rfl
  | 2, _ => big_1 (i := 159) rfl rfl
  | 3, _ => big_1 (i := 161) rfl rfl
  | _ + 4, h => absurd h (by omega)
theorem inlX2 : ∀ w ∈ u_ws RX2 TX2 4, w ∈ lw_big := fun w h => by
  obtain ⟨k, hk, rfl⟩ := List.mem_map.mp h
  exact layX2_k k (List.mem_range.mp hk)
theorem layX3_k : ∀ k, k < 2 → u_lay RX3 TX3 k ∈ lw_big := fun k hk => match k, hk with
  | 0, _ => big_1 (i := 28) rfl rfl
  | 1, _ => big_1 (i := 30) rfl rfl
  | _ + 2, h => absurd h (by omega)
theorem inlX3 : ∀ w ∈ u_ws RX3 TX3 2, w ∈ lw_big := fun w h => by
  obtain ⟨k, hk, rfl⟩ := List.mem_map.mp h
  exact layX3_k k (List.mem_range.mp hk)
theorem layX4_k : ∀ k, k < 10 → u_lay RX4 TX4 k ∈ lw_big := fun k hk => match k, hk with
  | 0, _ => big_1 (i := 97) rfl rfl
  | 1, _ => big_1 (i := 99) rfl rfl
  | 2, _ => big_1 (i := 101) rfl rfl
  | 3, _ => big_1 (i := 103) rfl rfl
  | 4, _ => big_1 (i := 105) rfl rfl
  | 5, _ => big_1 (i := 107) rfl rfl
  | 6, _ => big_1 (i := 109) rfl rfl
  | 7, _ => big_1 (i := 111) rfl rfl
  | 8, _ => big_1 (i := 113) rfl rfl
  | 9, _ => big_1 (i := 115) rfl rfl
  | _ + 10, h => absurd h (by omega)
theorem inlX4 : ∀ w ∈ u_ws RX4 TX4 10, w ∈ lw_big := fun w h => by
  obtain ⟨k, hk, rfl⟩ := List.mem_map.mp h
  exact layX4_k k (List.mem_range.mp hk)
theorem layX5_k : ∀ k, k < 10 → u_lay RX5 TX5 k ∈ lw_big := fun k hk => match k, hk with
  | 0, _ => big_1 (i := 177) rfl rfl
  | 1, _ => big_1 (i := 179) rfl rfl
  | 2, _ => big_1 (i := 181) rfl rfl
  | 3, _ => big_1 (i := 183) rfl rfl
  | 4, _ => big_1 (i := 185) rfl rfl
  | 5, _ => big_1 (i := 187) rfl rfl
  | 6, _ => big_1 (i := 189) rfl rfl
  | 7, _ => big_1 (i := 191) rfl rfl
  | 8, _ => big_1 (i := 193) rfl rfl
  | 9, _ => big_1 (i := 195) rfl rfl
  | _ + 10, h => absurd h (by omega)
theorem inlX5 : ∀ w ∈ u_ws RX5 TX5 10, w ∈ lw_big := fun w h => by
  obtain ⟨k, hk, rfl⟩ := List.mem_map.mp h
  exact layX5_k k (List.mem_range.mp hk)
theorem layX6_k : ∀ k, k < 43 → u_lay RX6 TX6 k ∈ lw_big := fun k hk => match k, hk with
  | 0, _ => big_3 (i := 55) rfl rfl
  | 1, _ => big_3 (i := 57) rfl rfl
  | 2, _ => big_3 (i := 59) rfl rfl
  | 3, _ => big_3 (i := 61) rfl rfl
  | 4, _ => big_3 (i := 63) rfl rfl
  | 5, _ => big_3 (i := 65) rfl rfl
  | 6, _ => big_3 (i := 67) rfl rfl
  | 7, _ => big_3 (i := 69) rfl rfl
  | 8, _ => big_3 (i := 71) rfl rfl
  | 9, _ => big_3 (i := 73) rfl rfl
  | 10, _ => big_3 (i := 75) rfl rfl
  | 11, _ => big_3 (i := 77) rfl rfl
  | 12, _ => big_3 (i := 79) rfl rfl
  | 13, _ => big_3 (i := 81) rfl rfl
  | 14, _ => big_3 (i := 83) rfl rfl
  | 15, _ => big_3 (i := 85) rfl rfl
  | 16, _ => big_3 (i := 87) rfl rfl
  | 17, _ => big_3 (i := 89) rfl rfl
  | 18, _ => big_3 (i := 91) rfl rfl
  | 19, _ => big_3 (i := 93) rfl rfl
  | 20, _ => big_3 (i := 95) rfl rfl
  | 21, _ => big_3 (i := 97) rfl rfl
  | 22, _ => big_3 (i := 99) rfl rfl
  | 23, _ => big_3 (i := 101) rfl rfl
  | 24, _ => big_3 (i := 103) rfl rfl
  | 25, _ => big_3 (i := 105) rfl rfl
  | 26, _ => big_3 (i := 107) rfl rfl
  | 27, _ => big_3 (i := 109) rfl rfl
  | 28, _ => big_3 (i := 111) rfl rfl
  | 29, _ => big_3 (i := 113) rfl rfl
  | 30, _ => big_3 (i := 115) rfl rfl
  | 31, _ => big_3 (i := 117) rfl rfl
  | 32, _ => big_3 (i := 119) rfl rfl
  | 33, _ => big_3 (i := 121) rfl rfl
  | 34, _ => big_3 (i := 123) rfl rfl
  | 35, _ => big_3 (i := 125) rfl rfl
  | 36, _ => big_3 (i := 127) rfl rfl
  | 37, _ => big_3 (i := 129) rfl rfl
  | 38, _ => big_3 (i := 131) rfl rfl
  | 39, _ => big_3 (i := 133) rfl rfl
  | 40, _ => big_3 (i := 135) rfl rfl
  | 41, _ => big_3 (i := 137) rfl rfl
  | 42, _ => big_3 (i := 139) rfl rfl
  | _ + 43, h => absurd h (by omega)
theorem inlX6 : ∀ w ∈ u_ws RX6 TX6 43, w ∈ lw_big := fun w h => by
  obtain ⟨k, hk, rfl⟩ := List.mem_map.mp h
  exact layX6_k k (List.mem_range.mp hk)
