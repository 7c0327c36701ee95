/-! ===== BEGIN words of one list among another's, by their places ===== -/
theorem goodIn_r {big : List Cond} (ws : List Cond) (ps : List Nat) (hp : ws = ps.filterMap (fun i => big[i]?)) (h : ws.all goodWord = true) : GoodIn big ws := by
  intro w hw
  have h1 := List.all_eq_true.mp h w hw
  rw [hp] at hw
  obtain ⟨i, -, hi⟩ := List.mem_filterMap.mp hw
  have hm : w ∈ big := by first | exact List.mem_of_getElem? hi | exact List.getElem?_mem hi
  exact ⟨hm, good_of_word h1⟩
theorem goodIn_app {big a b : List Cond} (ha : GoodIn big a) (hb : GoodIn big b) : GoodIn big (a ++ b) := fun w h => (List.mem_append.mp h).elim (ha w) (hb w)
theorem goodIn_ca {big a b : List Cond} {c : Cond} (ha : GoodIn big (c :: a)) (hb : GoodIn big b) : GoodIn big (c :: (a ++ b)) := fun w h => (List.mem_cons.mp h).elim (fun e => ha w (List.mem_cons.mpr (Or.inl e))) (fun h => (List.mem_append.mp h).elim (fun h => ha w (List.mem_cons.mpr (Or.inr h))) (hb w))
theorem goodIn_sub {big ws : List Cond} (hm : ∀ w ∈ ws, w ∈ big) (h : ws.all goodWord = true) : GoodIn big ws := fun w hw => ⟨hm w hw, good_of_word (List.all_eq_true.mp h w hw)⟩
/-! ===== END ===== -/

/-! ===== BEGIN printed: names, fields, word lists, decode rows ===== -/
def RX0 : String := "RainTarget$Batting"
def TX0 : u_T := fun k => match k with
  | 0 => ("RainTarget$Batting", "moods", "LRainTarget$Moods;", true)
  | 1 => ("RainTarget$Batting", "means", "[J", true)
  | _ => ("RainTarget$Batting", "chances", "[J", true)
def tyX0 : Nat → FieldType := fun k => match k with
  | 0 => .object "RainTarget$Moods"
  | 1 => .array .long
  | _ => .array .long
abbrev wsX00 : List Cond := u_ws RX0 TX0 3
theorem nmX0 : ∀ a, a < 3 → ∀ b, b < 3 → a ≠ b → (TX0 a).2.1 ≠ (TX0 b).2.1 := by decide +kernel
theorem tyX0_ok : ∀ k, k < 3 → parseFieldDescriptor (TX0 k).2.2.1 = some (tyX0 k) := by decide +kernel
abbrev cX0_init : ByteArray := prog_2_method_1_code
def yX0_init : MethodName := ⟨RX0, "<init>", "(LRainTarget$Moods;)V"⟩
abbrev cX0_learn : ByteArray := prog_2_method_2_code
def yX0_learn : MethodName := ⟨RX0, "learn", "()V"⟩
abbrev cX0_mean : ByteArray := prog_2_method_3_code
def yX0_mean : MethodName := ⟨RX0, "mean", "(II)J"⟩
abbrev cX0_meanIn : ByteArray := prog_2_method_4_code
def yX0_meanIn : MethodName := ⟨RX0, "meanIn", "(III)J"⟩
abbrev cX0_chance : ByteArray := prog_2_method_5_code
def yX0_chance : MethodName := ⟨RX0, "chance", "(III)J"⟩
abbrev cX0_chanceIn : ByteArray := prog_2_method_6_code
def yX0_chanceIn : MethodName := ⟨RX0, "chanceIn", "(IIII)J"⟩
abbrev cX0_moodForMean : ByteArray := prog_2_method_7_code
def yX0_moodForMean : MethodName := ⟨RX0, "moodForMean", "(II)I"⟩
abbrev cX0_moodForChance : ByteArray := prog_2_method_8_code
def yX0_moodForChance : MethodName := ⟨RX0, "moodForChance", "(III)I"⟩
abbrev cX0_share : ByteArray := prog_2_method_9_code
def yX0_share : MethodName := ⟨RX0, "share", "(IILRainTarget$Settings;)I"⟩
abbrev cX0_millionths : ByteArray := prog_2_method_10_code
def yX0_millionths : MethodName := ⟨RX0, "millionths", "(III)I"⟩
def RX1 : String := "RainTarget$FirstSide"
def TX1 : u_T := fun k => match k with
  | 0 => ("RainTarget$FirstSide", "overs", "[I", true)
  | 1 => ("RainTarget$FirstSide", "told", "I", false)
  | _ => ("RainTarget$FirstSide", "total", "I", false)
def tyX1 : Nat → FieldType := fun k => match k with
  | 0 => .array .int
  | 1 => .int
  | _ => .int
abbrev wsX10 : List Cond := u_ws RX1 TX1 3
theorem nmX1 : ∀ a, a < 3 → ∀ b, b < 3 → a ≠ b → (TX1 a).2.1 ≠ (TX1 b).2.1 := by decide +kernel
theorem tyX1_ok : ∀ k, k < 3 → parseFieldDescriptor (TX1 k).2.2.1 = some (tyX1 k) := by decide +kernel
abbrev cX1_init : ByteArray := prog_3_method_1_code
def yX1_init : MethodName := ⟨RX1, "<init>", "()V"⟩
abbrev cX1_begin : ByteArray := prog_3_method_2_code
def yX1_begin : MethodName := ⟨RX1, "begin", "()V"⟩
abbrev cX1_add : ByteArray := prog_3_method_3_code
def yX1_add : MethodName := ⟨RX1, "add", "(I)V"⟩
abbrev cX1_withoutLeast : ByteArray := prog_3_method_4_code
def yX1_withoutLeast : MethodName := ⟨RX1, "withoutLeast", "(II)I"⟩
abbrev cX1_rank : ByteArray := prog_3_method_5_code
def yX1_rank : MethodName := ⟨RX1, "rank", "(II)I"⟩
def RX2 : String := "RainTarget$Matches"
def TX2 : u_T := fun k => match k with
  | 0 => ("RainTarget$Matches", "parts", "[I", true)
  | _ => ("RainTarget$Matches", "size", "I", false)
def tyX2 : Nat → FieldType := fun k => match k with
  | 0 => .array .int
  | _ => .int
abbrev wsX20 : List Cond := u_ws RX2 TX2 2
theorem nmX2 : ∀ a, a < 2 → ∀ b, b < 2 → a ≠ b → (TX2 a).2.1 ≠ (TX2 b).2.1 := by decide +kernel
theorem tyX2_ok : ∀ k, k < 2 → parseFieldDescriptor (TX2 k).2.2.1 = some (tyX2 k) := by decide +kernel
abbrev cX2_init : ByteArray := prog_4_method_1_code
def yX2_init : MethodName := ⟨RX2, "<init>", "()V"⟩
abbrev cX2_add : ByteArray := prog_4_method_2_code
def yX2_add : MethodName := ⟨RX2, "add", "(III)V"⟩
abbrev cX2_differenceOf : ByteArray := prog_4_method_3_code
def yX2_differenceOf : MethodName := ⟨RX2, "differenceOf", "(LRainTarget$Batting;LRainTarget$Settings;)I"⟩
def RX3 : String := "RainTarget$Moods"
def TX3 : u_T := fun k => match k with
  | 0 => ("RainTarget$Moods", "sizes", "[I", true)
  | _ => ("RainTarget$Moods", "parts", "[I", true)
def tyX3 : Nat → FieldType := fun k => match k with
  | 0 => .array .int
  | _ => .array .int
abbrev wsX30 : List Cond := u_ws RX3 TX3 2
theorem nmX3 : ∀ a, a < 2 → ∀ b, b < 2 → a ≠ b → (TX3 a).2.1 ≠ (TX3 b).2.1 := by decide +kernel
theorem tyX3_ok : ∀ k, k < 2 → parseFieldDescriptor (TX3 k).2.2.1 = some (tyX3 k) := by decide +kernel
abbrev cX3_init : ByteArray := prog_5_method_1_code
def yX3_init : MethodName := ⟨RX3, "<init>", "()V"⟩
abbrev cX3_forget : ByteArray := prog_5_method_2_code
def yX3_forget : MethodName := ⟨RX3, "forget", "(I)V"⟩
abbrev cX3_add : ByteArray := prog_5_method_3_code
def yX3_add : MethodName := ⟨RX3, "add", "(IIII)V"⟩
abbrev cX3_size : ByteArray := prog_5_method_4_code
def yX3_size : MethodName := ⟨RX3, "size", "(I)I"⟩
abbrev cX3_part : ByteArray := prog_5_method_5_code
def yX3_part : MethodName := ⟨RX3, "part", "(III)I"⟩
def RX4 : String := "RainTarget$Reader"
def TX4 : u_T := fun k => match k with
  | 0 => ("RainTarget$Reader", "text", "LRainTarget$Text;", true)
  | 1 => ("RainTarget$Reader", "words", "[I", true)
  | 2 => ("RainTarget$Reader", "numbers", "[I", true)
  | 3 => ("RainTarget$Reader", "lines", "I", false)
  | 4 => ("RainTarget$Reader", "kind", "I", false)
  | 5 => ("RainTarget$Reader", "start", "I", false)
  | _ => ("RainTarget$Reader", "end", "I", false)
def tyX4 : Nat → FieldType := fun k => match k with
  | 0 => .object "RainTarget$Text"
  | 1 => .array .int
  | 2 => .array .int
  | 3 => .int
  | 4 => .int
  | 5 => .int
  | _ => .int
abbrev wsX40 : List Cond := u_ws RX4 TX4 7
theorem nmX4 : ∀ a, a < 7 → ∀ b, b < 7 → a ≠ b → (TX4 a).2.1 ≠ (TX4 b).2.1 := by decide +kernel
theorem tyX4_ok : ∀ k, k < 7 → parseFieldDescriptor (TX4 k).2.2.1 = some (tyX4 k) := by decide +kernel
abbrev cX4_init : ByteArray := prog_6_method_1_code
def yX4_init : MethodName := ⟨RX4, "<init>", "(LRainTarget$Text;)V"⟩
abbrev cX4_read : ByteArray := prog_6_method_2_code
def yX4_read : MethodName := ⟨RX4, "read", "()I"⟩
abbrev cX4_has : ByteArray := prog_6_method_3_code
def yX4_has : MethodName := ⟨RX4, "has", "(I)Z"⟩
abbrev cX4_word : ByteArray := prog_6_method_4_code
def yX4_word : MethodName := ⟨RX4, "word", "(I)I"⟩
abbrev cX4_number : ByteArray := prog_6_method_5_code
def yX4_number : MethodName := ⟨RX4, "number", "(II)I"⟩
abbrev cX4_readLine : ByteArray := prog_6_method_6_code
def yX4_readLine : MethodName := ⟨RX4, "readLine", "(I)Z"⟩
abbrev cX4_readMood : ByteArray := prog_6_method_7_code
def yX4_readMood : MethodName := ⟨RX4, "readMood", "(I)Z"⟩
abbrev cX4_readNumber : ByteArray := prog_6_method_8_code
def yX4_readNumber : MethodName := ⟨RX4, "readNumber", "(IIII)Z"⟩
abbrev cX4_step : ByteArray := prog_6_method_9_code
def yX4_step : MethodName := ⟨RX4, "step", "()V"⟩
abbrev cX4_kindOf : ByteArray := prog_6_method_10_code
def yX4_kindOf : MethodName := ⟨RX4, "kindOf", "(I)I"⟩
abbrev cX4_spelled : ByteArray := prog_6_method_11_code
def yX4_spelled : MethodName := ⟨RX4, "spelled", "()I"⟩
abbrev cX4_spells : ByteArray := prog_6_method_12_code
def yX4_spells : MethodName := ⟨RX4, "spells", "(Ljava/lang/String;)Z"⟩
def RX5 : String := "RainTarget$SecondSide"
def TX5 : u_T := fun k => match k with
  | 0 => ("RainTarget$SecondSide", "events", "[I", true)
  | 1 => ("RainTarget$SecondSide", "size", "I", false)
  | 2 => ("RainTarget$SecondSide", "overs", "I", false)
  | 3 => ("RainTarget$SecondSide", "men", "I", false)
  | _ => ("RainTarget$SecondSide", "runs", "I", false)
def tyX5 : Nat → FieldType := fun k => match k with
  | 0 => .array .int
  | 1 => .int
  | 2 => .int
  | 3 => .int
  | _ => .int
abbrev wsX50 : List Cond := u_ws RX5 TX5 5
theorem nmX5 : ∀ a, a < 5 → ∀ b, b < 5 → a ≠ b → (TX5 a).2.1 ≠ (TX5 b).2.1 := by decide +kernel
theorem tyX5_ok : ∀ k, k < 5 → parseFieldDescriptor (TX5 k).2.2.1 = some (tyX5 k) := by decide +kernel
abbrev cX5_init : ByteArray := prog_7_method_1_code
def yX5_init : MethodName := ⟨RX5, "<init>", "()V"⟩
abbrev cX5_begin : ByteArray := prog_7_method_2_code
def yX5_begin : MethodName := ⟨RX5, "begin", "(LRainTarget$Settings;)V"⟩
abbrev cX5_isAtEnd : ByteArray := prog_7_method_3_code
def yX5_isAtEnd : MethodName := ⟨RX5, "isAtEnd", "()Z"⟩
abbrev cX5_addOver : ByteArray := prog_7_method_4_code
def yX5_addOver : MethodName := ⟨RX5, "addOver", "(II)V"⟩
abbrev cX5_addRain : ByteArray := prog_7_method_5_code
def yX5_addRain : MethodName := ⟨RX5, "addRain", "(I)V"⟩
abbrev cX5_addEvent : ByteArray := prog_7_method_6_code
def yX5_addEvent : MethodName := ⟨RX5, "addEvent", "(III)V"⟩
abbrev cX5_part : ByteArray := prog_7_method_7_code
def yX5_part : MethodName := ⟨RX5, "part", "(II)I"⟩
abbrev cX5_lastRain : ByteArray := prog_7_method_8_code
def yX5_lastRain : MethodName := ⟨RX5, "lastRain", "()I"⟩
def RX6 : String := "RainTarget$Settings"
def TX6 : u_T := fun k => match k with
  | 0 => ("RainTarget$Settings", "overs", "I", false)
  | 1 => ("RainTarget$Settings", "men", "I", false)
  | 2 => ("RainTarget$Settings", "par", "I", false)
  | 3 => ("RainTarget$Settings", "bend", "I", false)
  | 4 => ("RainTarget$Settings", "cloudTenths", "I", false)
  | 5 => ("RainTarget$Settings", "cloudOvers", "I", false)
  | _ => ("RainTarget$Settings", "line", "I", false)
def tyX6 : Nat → FieldType := fun k => match k with
  | 0 => .int
  | 1 => .int
  | 2 => .int
  | 3 => .int
  | 4 => .int
  | 5 => .int
  | _ => .int
abbrev wsX60 : List Cond := u_ws RX6 TX6 7
theorem nmX6 : ∀ a, a < 7 → ∀ b, b < 7 → a ≠ b → (TX6 a).2.1 ≠ (TX6 b).2.1 := by decide +kernel
theorem tyX6_ok : ∀ k, k < 7 → parseFieldDescriptor (TX6 k).2.2.1 = some (tyX6 k) := by decide +kernel
abbrev cX6_init : ByteArray := prog_8_method_1_code
def yX6_init : MethodName := ⟨RX6, "<init>", "()V"⟩
def RX7 : String := "RainTarget$Text"
def TX7 : u_T := fun k => match k with
  | 0 => ("RainTarget$Text", "bytes", "[I", true)
  | _ => ("RainTarget$Text", "length", "I", false)
def tyX7 : Nat → FieldType := fun k => match k with
  | 0 => .array .int
  | _ => .int
abbrev wsX70 : List Cond := u_ws RX7 TX7 2
theorem nmX7 : ∀ a, a < 2 → ∀ b, b < 2 → a ≠ b → (TX7 a).2.1 ≠ (TX7 b).2.1 := by decide +kernel
theorem tyX7_ok : ∀ k, k < 2 → parseFieldDescriptor (TX7 k).2.2.1 = some (tyX7 k) := by decide +kernel
abbrev cX7_init : ByteArray := prog_9_method_1_code
def yX7_init : MethodName := ⟨RX7, "<init>", "()V"⟩
abbrev cX7_append : ByteArray := prog_9_method_2_code
def yX7_append : MethodName := ⟨RX7, "append", "(JI)V"⟩
abbrev cX7_at : ByteArray := prog_9_method_3_code
def yX7_at : MethodName := ⟨RX7, "at", "(I)I"⟩
def RX8 : String := "RainTarget$Umpire"
def TX8 : u_T := fun k => match k with
  | 0 => ("RainTarget$Umpire", "settings", "LRainTarget$Settings;", true)
  | 1 => ("RainTarget$Umpire", "batting", "LRainTarget$Batting;", true)
  | 2 => ("RainTarget$Umpire", "first", "LRainTarget$FirstSide;", true)
  | 3 => ("RainTarget$Umpire", "keptOdds", "[I", true)
  | 4 => ("RainTarget$Umpire", "rule", "I", false)
  | 5 => ("RainTarget$Umpire", "taken", "I", false)
  | 6 => ("RainTarget$Umpire", "lost", "I", false)
  | _ => ("RainTarget$Umpire", "kept", "I", false)
def tyX8 : Nat → FieldType := fun k => match k with
  | 0 => .object "RainTarget$Settings"
  | 1 => .object "RainTarget$Batting"
  | 2 => .object "RainTarget$FirstSide"
  | 3 => .array .int
  | 4 => .int
  | 5 => .int
  | 6 => .int
  | _ => .int
abbrev wsX80 : List Cond := u_ws RX8 TX8 8
theorem nmX8 : ∀ a, a < 8 → ∀ b, b < 8 → a ≠ b → (TX8 a).2.1 ≠ (TX8 b).2.1 := by decide +kernel
theorem tyX8_ok : ∀ k, k < 8 → parseFieldDescriptor (TX8 k).2.2.1 = some (tyX8 k) := by decide +kernel
abbrev cX8_init : ByteArray := prog_10_method_1_code
def yX8_init : MethodName := ⟨RX8, "<init>", "(LRainTarget$Settings;LRainTarget$Batting;LRainTarget$FirstSide;)V"⟩
abbrev cX8_behind : ByteArray := prog_10_method_2_code
def yX8_behind : MethodName := ⟨RX8, "behind", "(ILRainTarget$SecondSide;I)I"⟩
abbrev cX8_afterOneRain : ByteArray := prog_10_method_3_code
def yX8_afterOneRain : MethodName := ⟨RX8, "afterOneRain", "(III)I"⟩
abbrev cX8_keepOddsOnSheet : ByteArray := prog_10_method_4_code
def yX8_keepOddsOnSheet : MethodName := ⟨RX8, "keepOddsOnSheet", "()V"⟩
abbrev cX8_differenceOf : ByteArray := prog_10_method_5_code
def yX8_differenceOf : MethodName := ⟨RX8, "differenceOf", "(I)I"⟩
abbrev cX8_begin : ByteArray := prog_10_method_6_code
def yX8_begin : MethodName := ⟨RX8, "begin", "(I)V"⟩
abbrev cX8_hear : ByteArray := prog_10_method_7_code
def yX8_hear : MethodName := ⟨RX8, "hear", "(IIII)V"⟩
abbrev cX8_ruled : ByteArray := prog_10_method_8_code
def yX8_ruled : MethodName := ⟨RX8, "ruled", "()I"⟩
abbrev cX8_said : ByteArray := prog_10_method_9_code
def yX8_said : MethodName := ⟨RX8, "said", "(II)I"⟩
abbrev cX8_atLeastOne : ByteArray := prog_10_method_10_code
def yX8_atLeastOne : MethodName := ⟨RX8, "atLeastOne", "(J)I"⟩
abbrev cX8_bentShare : ByteArray := prog_10_method_11_code
def yX8_bentShare : MethodName := ⟨RX8, "bentShare", "(II)I"⟩
abbrev cX8_keepingOdds : ByteArray := prog_10_method_12_code
def yX8_keepingOdds : MethodName := ⟨RX8, "keepingOdds", "(IIII)I"⟩
def RX9 : String := "RainTarget"
def TX9 : u_T := fun k => match k with
  | 0 => ("RainTarget", "text", "LRainTarget$Text;", true)
  | 1 => ("RainTarget", "reader", "LRainTarget$Reader;", true)
  | 2 => ("RainTarget", "settings", "LRainTarget$Settings;", true)
  | 3 => ("RainTarget", "moods", "LRainTarget$Moods;", true)
  | 4 => ("RainTarget", "batting", "LRainTarget$Batting;", true)
  | 5 => ("RainTarget", "first", "LRainTarget$FirstSide;", true)
  | 6 => ("RainTarget", "second", "LRainTarget$SecondSide;", true)
  | 7 => ("RainTarget", "umpire", "LRainTarget$Umpire;", true)
  | _ => ("RainTarget", "matches", "LRainTarget$Matches;", true)
def tyX9 : Nat → FieldType := fun k => match k with
  | 0 => .object "RainTarget$Text"
  | 1 => .object "RainTarget$Reader"
  | 2 => .object "RainTarget$Settings"
  | 3 => .object "RainTarget$Moods"
  | 4 => .object "RainTarget$Batting"
  | 5 => .object "RainTarget$FirstSide"
  | 6 => .object "RainTarget$SecondSide"
  | 7 => .object "RainTarget$Umpire"
  | _ => .object "RainTarget$Matches"
abbrev wsX90 : List Cond := u_ws RX9 TX9 9
theorem nmX9 : ∀ a, a < 9 → ∀ b, b < 9 → a ≠ b → (TX9 a).2.1 ≠ (TX9 b).2.1 := by decide +kernel
theorem tyX9_ok : ∀ k, k < 9 → parseFieldDescriptor (TX9 k).2.2.1 = some (tyX9 k) := by decide +kernel
abbrev cX9_init : ByteArray := prog_1_method_1_code
def yX9_init : MethodName := ⟨RX9, "<init>", "()V"⟩
abbrev cX9_write : ByteArray := prog_1_method_2_code
def yX9_write : MethodName := ⟨RX9, "write", "(JI)I"⟩
abbrev cX9_erase : ByteArray := prog_1_method_3_code
def yX9_erase : MethodName := ⟨RX9, "erase", "()I"⟩
abbrev cX9_fault : ByteArray := prog_1_method_4_code
def yX9_fault : MethodName := ⟨RX9, "fault", "()I"⟩
abbrev cX9_game : ByteArray := prog_1_method_5_code
def yX9_game : MethodName := ⟨RX9, "game", "()I"⟩
abbrev cX9_mood : ByteArray := prog_1_method_6_code
def yX9_mood : MethodName := ⟨RX9, "mood", "(III)I"⟩
abbrev cX9_makes : ByteArray := prog_1_method_7_code
def yX9_makes : MethodName := ⟨RX9, "makes", "(III)J"⟩
abbrev cX9_wins : ByteArray := prog_1_method_8_code
def yX9_wins : MethodName := ⟨RX9, "wins", "(IIII)J"⟩
abbrev cX9_best : ByteArray := prog_1_method_9_code
def yX9_best : MethodName := ⟨RX9, "best", "(III)I"⟩
abbrev cX9_spend : ByteArray := prog_1_method_10_code
def yX9_spend : MethodName := ⟨RX9, "spend", "(II)I"⟩
abbrev cX9_bat : ByteArray := prog_1_method_11_code
def yX9_bat : MethodName := ⟨RX9, "bat", "(I)I"⟩
abbrev cX9_anew : ByteArray := prog_1_method_12_code
def yX9_anew : MethodName := ⟨RX9, "anew", "()I"⟩
abbrev cX9_play : ByteArray := prog_1_method_13_code
def yX9_play : MethodName := ⟨RX9, "play", "(II)I"⟩
abbrev cX9_rain : ByteArray := prog_1_method_14_code
def yX9_rain : MethodName := ⟨RX9, "rain", "(I)I"⟩
abbrev cX9_event : ByteArray := prog_1_method_15_code
def yX9_event : MethodName := ⟨RX9, "event", "(II)I"⟩
abbrev cX9_target : ByteArray := prog_1_method_16_code
def yX9_target : MethodName := ⟨RX9, "target", "(I)I"⟩
abbrev cX9_odds : ByteArray := prog_1_method_17_code
def yX9_odds : MethodName := ⟨RX9, "odds", "(I)I"⟩
abbrev cX9_gain : ByteArray := prog_1_method_18_code
def yX9_gain : MethodName := ⟨RX9, "gain", "(I)I"⟩
abbrev cX9_won : ByteArray := prog_1_method_19_code
def yX9_won : MethodName := ⟨RX9, "won", "(I)I"⟩
abbrev cX9_odd : ByteArray := prog_1_method_20_code
def yX9_odd : MethodName := ⟨RX9, "odd", "(I)I"⟩
abbrev cX9_sheet : ByteArray := prog_1_method_21_code
def yX9_sheet : MethodName := ⟨RX9, "sheet", "(II)I"⟩
abbrev cX9_clouded : ByteArray := prog_1_method_22_code
def yX9_clouded : MethodName := ⟨RX9, "clouded", "(I)I"⟩
abbrev cX9_simple : ByteArray := prog_1_method_23_code
def yX9_simple : MethodName := ⟨RX9, "simple", "(I)I"⟩
abbrev cX9_match : ByteArray := prog_1_method_24_code
def yX9_match : MethodName := ⟨RX9, "match", "(III)I"⟩
abbrev cX9_tried : ByteArray := prog_1_method_25_code
def yX9_tried : MethodName := ⟨RX9, "tried", "()I"⟩
abbrev cX9_count : ByteArray := prog_1_method_26_code
def yX9_count : MethodName := ⟨RX9, "count", "(I)I"⟩
abbrev cX9_tell : ByteArray := prog_1_method_27_code
def yX9_tell : MethodName := ⟨RX9, "tell", "(I)V"⟩
abbrev cX9_tellMood : ByteArray := prog_1_method_28_code
def yX9_tellMood : MethodName := ⟨RX9, "tellMood", "(II)V"⟩
abbrev cX9_isLeft : ByteArray := prog_1_method_29_code
def yX9_isLeft : MethodName := ⟨RX9, "isLeft", "(II)Z"⟩
abbrev cX9_isRule : ByteArray := prog_1_method_30_code
def yX9_isRule : MethodName := ⟨RX9, "isRule", "(I)Z"⟩
abbrev cX9_within : ByteArray := prog_1_method_31_code
def yX9_within : MethodName := ⟨RX9, "within", "(III)Z"⟩
abbrev cX9_power : ByteArray := prog_1_method_32_code
def yX9_power : MethodName := ⟨RX9, "power", "(I)J"⟩
abbrev cX9_cut : ByteArray := prog_1_method_33_code
def yX9_cut : MethodName := ⟨RX9, "cut", "(JJ)J"⟩
abbrev cX9_inMillionths : ByteArray := prog_1_method_34_code
def yX9_inMillionths : MethodName := ⟨RX9, "inMillionths", "(JI)I"⟩
abbrev cX9_lowest : ByteArray := prog_1_method_35_code
def yX9_lowest : MethodName := ⟨RX9, "lowest", "(JJI)J"⟩
abbrev cX9_commonDivisor : ByteArray := prog_1_method_36_code
def yX9_commonDivisor : MethodName := ⟨RX9, "commonDivisor", "(JJ)J"⟩
def RX10 : String := "RainTargetModel"
def TX10 : u_T := fun k => match k with
  | 0 => ("RainTargetModel", "overs", "I", false)
  | 1 => ("RainTargetModel", "men", "I", false)
  | 2 => ("RainTargetModel", "cases", "[I", true)
  | 3 => ("RainTargetModel", "mood", "[I", true)
  | 4 => ("RainTargetModel", "par", "I", false)
  | 5 => ("RainTargetModel", "bend", "I", false)
  | 6 => ("RainTargetModel", "cloudTenths", "I", false)
  | 7 => ("RainTargetModel", "cloudOvers", "I", false)
  | 8 => ("RainTargetModel", "line", "I", false)
  | 9 => ("RainTargetModel", "bytes", "I", false)
  | 10 => ("RainTargetModel", "text", "[I", true)
  | 11 => ("RainTargetModel", "position", "I", false)
  | 12 => ("RainTargetModel", "tokenAt", "I", false)
  | 13 => ("RainTargetModel", "token", "J", false)
  | 14 => ("RainTargetModel", "digits", "I", false)
  | 15 => ("RainTargetModel", "number", "I", false)
  | 16 => ("RainTargetModel", "faultAt", "I", false)
  | 17 => ("RainTargetModel", "readMany", "I", false)
  | 18 => ("RainTargetModel", "read", "[I", true)
  | 19 => ("RainTargetModel", "firstMany", "I", false)
  | 20 => ("RainTargetModel", "first", "[I", true)
  | 21 => ("RainTargetModel", "sorted", "[I", true)
  | 22 => ("RainTargetModel", "events", "I", false)
  | 23 => ("RainTargetModel", "kind", "[I", true)
  | 24 => ("RainTargetModel", "runsOf", "[I", true)
  | 25 => ("RainTargetModel", "outsOf", "[I", true)
  | 26 => ("RainTargetModel", "matches", "I", false)
  | 27 => ("RainTargetModel", "matchOvers", "[I", true)
  | 28 => ("RainTargetModel", "matchMen", "[I", true)
  | 29 => ("RainTargetModel", "matchRuns", "[I", true)
  | 30 => ("RainTargetModel", "isLaid", "Z", false)
  | 31 => ("RainTargetModel", "makes", "[J", true)
  | 32 => ("RainTargetModel", "wins", "[J", true)
  | 33 => ("RainTargetModel", "left", "I", false)
  | 34 => ("RainTargetModel", "stand", "I", false)
  | 35 => ("RainTargetModel", "runs", "I", false)
  | 36 => ("RainTargetModel", "taken", "I", false)
  | 37 => ("RainTargetModel", "lost", "I", false)
  | 38 => ("RainTargetModel", "bentLost", "I", false)
  | _ => ("RainTargetModel", "chance", "I", false)
def tyX10 : Nat → FieldType := fun k => match k with
  | 0 => .int
  | 1 => .int
  | 2 => .array .int
  | 3 => .array .int
  | 4 => .int
  | 5 => .int
  | 6 => .int
  | 7 => .int
  | 8 => .int
  | 9 => .int
  | 10 => .array .int
  | 11 => .int
  | 12 => .int
  | 13 => .long
  | 14 => .int
  | 15 => .int
  | 16 => .int
  | 17 => .int
  | 18 => .array .int
  | 19 => .int
  | 20 => .array .int
  | 21 => .array .int
  | 22 => .int
  | 23 => .array .int
  | 24 => .array .int
  | 25 => .array .int
  | 26 => .int
  | 27 => .array .int
  | 28 => .array .int
  | 29 => .array .int
  | 30 => .boolean
  | 31 => .array .long
  | 32 => .array .long
  | 33 => .int
  | 34 => .int
  | 35 => .int
  | 36 => .int
  | 37 => .int
  | 38 => .int
  | _ => .int
abbrev wsX100 : List Cond := u_ws RX10 TX10 40
theorem nmX10 : ∀ a, a < 40 → ∀ b, b < 40 → a ≠ b → (TX10 a).2.1 ≠ (TX10 b).2.1 := by decide +kernel
theorem tyX10_ok : ∀ k, k < 40 → parseFieldDescriptor (TX10 k).2.2.1 = some (tyX10 k) := by decide +kernel
abbrev cX10_init : ByteArray := prog_12_method_1_code
def yX10_init : MethodName := ⟨RX10, "<init>", "()V"⟩
abbrev cX10_in : ByteArray := prog_12_method_2_code
def yX10_in : MethodName := ⟨RX10, "in", "(III)Z"⟩
abbrev cX10_ten : ByteArray := prog_12_method_3_code
def yX10_ten : MethodName := ⟨RX10, "ten", "(I)J"⟩
abbrev cX10_write : ByteArray := prog_12_method_4_code
def yX10_write : MethodName := ⟨RX10, "write", "(JI)I"⟩
abbrev cX10_erase : ByteArray := prog_12_method_5_code
def yX10_erase : MethodName := ⟨RX10, "erase", "()I"⟩
abbrev cX10_nextToken : ByteArray := prog_12_method_6_code
def yX10_nextToken : MethodName := ⟨RX10, "nextToken", "()V"⟩
abbrev cX10_fails : ByteArray := prog_12_method_7_code
def yX10_fails : MethodName := ⟨RX10, "fails", "()Z"⟩
abbrev cX10_isNumber : ByteArray := prog_12_method_8_code
def yX10_isNumber : MethodName := ⟨RX10, "isNumber", "(III)Z"⟩
abbrev cX10_isMood : ByteArray := prog_12_method_9_code
def yX10_isMood : MethodName := ⟨RX10, "isMood", "(I)Z"⟩
abbrev cX10_isLine : ByteArray := prog_12_method_10_code
def yX10_isLine : MethodName := ⟨RX10, "isLine", "(I)Z"⟩
abbrev cX10_isRead : ByteArray := prog_12_method_11_code
def yX10_isRead : MethodName := ⟨RX10, "isRead", "()Z"⟩
abbrev cX10_fault : ByteArray := prog_12_method_12_code
def yX10_fault : MethodName := ⟨RX10, "fault", "()I"⟩
abbrev cX10_doLine : ByteArray := prog_12_method_13_code
def yX10_doLine : MethodName := ⟨RX10, "doLine", "(I)V"⟩
abbrev cX10_game : ByteArray := prog_12_method_14_code
def yX10_game : MethodName := ⟨RX10, "game", "()I"⟩
abbrev cX10_mood : ByteArray := prog_12_method_15_code
def yX10_mood : MethodName := ⟨RX10, "mood", "(III)I"⟩
abbrev cX10_makesOf : ByteArray := prog_12_method_16_code
def yX10_makesOf : MethodName := ⟨RX10, "makesOf", "(II)J"⟩
abbrev cX10_winsOf : ByteArray := prog_12_method_17_code
def yX10_winsOf : MethodName := ⟨RX10, "winsOf", "(III)J"⟩
abbrev cX10_rest : ByteArray := prog_12_method_18_code
def yX10_rest : MethodName := ⟨RX10, "rest", "(II)I"⟩
abbrev cX10_makesBy : ByteArray := prog_12_method_19_code
def yX10_makesBy : MethodName := ⟨RX10, "makesBy", "(III)J"⟩
abbrev cX10_winsBy : ByteArray := prog_12_method_20_code
def yX10_winsBy : MethodName := ⟨RX10, "winsBy", "(IIII)J"⟩
abbrev cX10_layOut : ByteArray := prog_12_method_21_code
def yX10_layOut : MethodName := ⟨RX10, "layOut", "()V"⟩
abbrev cX10_layWins : ByteArray := prog_12_method_22_code
def yX10_layWins : MethodName := ⟨RX10, "layWins", "(III)V"⟩
abbrev cX10_greater : ByteArray := prog_12_method_23_code
def yX10_greater : MethodName := ⟨RX10, "greater", "(JJ)J"⟩
abbrev cX10_partOf : ByteArray := prog_12_method_24_code
def yX10_partOf : MethodName := ⟨RX10, "partOf", "(JJI)J"⟩
abbrev cX10_areIn : ByteArray := prog_12_method_25_code
def yX10_areIn : MethodName := ⟨RX10, "areIn", "(II)Z"⟩
abbrev cX10_makes : ByteArray := prog_12_method_26_code
def yX10_makes : MethodName := ⟨RX10, "makes", "(III)J"⟩
abbrev cX10_wins : ByteArray := prog_12_method_27_code
def yX10_wins : MethodName := ⟨RX10, "wins", "(IIII)J"⟩
abbrev cX10_best : ByteArray := prog_12_method_28_code
def yX10_best : MethodName := ⟨RX10, "best", "(III)I"⟩
abbrev cX10_spendOf : ByteArray := prog_12_method_29_code
def yX10_spendOf : MethodName := ⟨RX10, "spendOf", "(II)I"⟩
abbrev cX10_spend : ByteArray := prog_12_method_30_code
def yX10_spend : MethodName := ⟨RX10, "spend", "(II)I"⟩
abbrev cX10_bat : ByteArray := prog_12_method_31_code
def yX10_bat : MethodName := ⟨RX10, "bat", "(I)I"⟩
abbrev cX10_firstAll : ByteArray := prog_12_method_32_code
def yX10_firstAll : MethodName := ⟨RX10, "firstAll", "()I"⟩
abbrev cX10_anew : ByteArray := prog_12_method_33_code
def yX10_anew : MethodName := ⟨RX10, "anew", "()I"⟩
abbrev cX10_goTo : ByteArray := prog_12_method_34_code
def yX10_goTo : MethodName := ⟨RX10, "goTo", "(I)V"⟩
abbrev cX10_begin : ByteArray := prog_12_method_35_code
def yX10_begin : MethodName := ⟨RX10, "begin", "()V"⟩
abbrev cX10_bentOf : ByteArray := prog_12_method_36_code
def yX10_bentOf : MethodName := ⟨RX10, "bentOf", "(II)I"⟩
abbrev cX10_rained : ByteArray := prog_12_method_37_code
def yX10_rained : MethodName := ⟨RX10, "rained", "(I)V"⟩
abbrev cX10_worst : ByteArray := prog_12_method_38_code
def yX10_worst : MethodName := ⟨RX10, "worst", "()I"⟩
abbrev cX10_targetNow : ByteArray := prog_12_method_39_code
def yX10_targetNow : MethodName := ⟨RX10, "targetNow", "(I)I"⟩
abbrev cX10_isRule : ByteArray := prog_12_method_40_code
def yX10_isRule : MethodName := ⟨RX10, "isRule", "(I)Z"⟩
abbrev cX10_millionths : ByteArray := prog_12_method_41_code
def yX10_millionths : MethodName := ⟨RX10, "millionths", "(JI)I"⟩
abbrev cX10_oddsNow : ByteArray := prog_12_method_42_code
def yX10_oddsNow : MethodName := ⟨RX10, "oddsNow", "(I)I"⟩
abbrev cX10_play : ByteArray := prog_12_method_43_code
def yX10_play : MethodName := ⟨RX10, "play", "(II)I"⟩
abbrev cX10_rain : ByteArray := prog_12_method_44_code
def yX10_rain : MethodName := ⟨RX10, "rain", "(I)I"⟩
abbrev cX10_event : ByteArray := prog_12_method_45_code
def yX10_event : MethodName := ⟨RX10, "event", "(II)I"⟩
abbrev cX10_target : ByteArray := prog_12_method_46_code
def yX10_target : MethodName := ⟨RX10, "target", "(I)I"⟩
abbrev cX10_odds : ByteArray := prog_12_method_47_code
def yX10_odds : MethodName := ⟨RX10, "odds", "(I)I"⟩
abbrev cX10_gain : ByteArray := prog_12_method_48_code
def yX10_gain : MethodName := ⟨RX10, "gain", "(I)I"⟩
abbrev cX10_won : ByteArray := prog_12_method_49_code
def yX10_won : MethodName := ⟨RX10, "won", "(I)I"⟩
abbrev cX10_odd : ByteArray := prog_12_method_50_code
def yX10_odd : MethodName := ⟨RX10, "odd", "(I)I"⟩
abbrev cX10_sheetOf : ByteArray := prog_12_method_51_code
def yX10_sheetOf : MethodName := ⟨RX10, "sheetOf", "(II)I"⟩
abbrev cX10_sheet : ByteArray := prog_12_method_52_code
def yX10_sheet : MethodName := ⟨RX10, "sheet", "(II)I"⟩
abbrev cX10_clouded : ByteArray := prog_12_method_53_code
def yX10_clouded : MethodName := ⟨RX10, "clouded", "(I)I"⟩
abbrev cX10_simple : ByteArray := prog_12_method_54_code
def yX10_simple : MethodName := ⟨RX10, "simple", "(I)I"⟩
abbrev cX10_match : ByteArray := prog_12_method_55_code
def yX10_match : MethodName := ⟨RX10, "match", "(III)I"⟩
abbrev cX10_tried : ByteArray := prog_12_method_56_code
def yX10_tried : MethodName := ⟨RX10, "tried", "()I"⟩
abbrev cX10_count : ByteArray := prog_12_method_57_code
def yX10_count : MethodName := ⟨RX10, "count", "(I)I"⟩
def RJx145de : String := "java/io/Serializable"
def TJx145de : u_T := fun k => match k with
  | _ => ("", "", "", false)
def tyJx145de : Nat → FieldType := fun k => match k with
  | _ => .int
abbrev wsJx145de0 : List Cond := u_ws RJx145de TJx145de 0
theorem nmJx145de : ∀ a, a < 0 → ∀ b, b < 0 → a ≠ b → (TJx145de a).2.1 ≠ (TJx145de b).2.1 := by decide +kernel
theorem tyJx145de_ok : ∀ k, k < 0 → parseFieldDescriptor (TJx145de k).2.2.1 = some (tyJx145de k) := by decide +kernel
def RJx9f9b0 : String := "java/lang/CharSequence"
def TJx9f9b0 : u_T := fun k => match k with
  | _ => ("", "", "", false)
def tyJx9f9b0 : Nat → FieldType := fun k => match k with
  | _ => .int
abbrev wsJx9f9b00 : List Cond := u_ws RJx9f9b0 TJx9f9b0 0
theorem nmJx9f9b0 : ∀ a, a < 0 → ∀ b, b < 0 → a ≠ b → (TJx9f9b0 a).2.1 ≠ (TJx9f9b0 b).2.1 := by decide +kernel
theorem tyJx9f9b0_ok : ∀ k, k < 0 → parseFieldDescriptor (TJx9f9b0 k).2.2.1 = some (tyJx9f9b0 k) := by decide +kernel
def RJxb160c : String := "java/lang/Comparable"
def TJxb160c : u_T := fun k => match k with
  | _ => ("", "", "", false)
def tyJxb160c : Nat → FieldType := fun k => match k with
  | _ => .int
abbrev wsJxb160c0 : List Cond := u_ws RJxb160c TJxb160c 0
theorem nmJxb160c : ∀ a, a < 0 → ∀ b, b < 0 → a ≠ b → (TJxb160c a).2.1 ≠ (TJxb160c b).2.1 := by decide +kernel
theorem tyJxb160c_ok : ∀ k, k < 0 → parseFieldDescriptor (TJxb160c k).2.2.1 = some (tyJxb160c k) := by decide +kernel
def RJ9 : String := "java/lang/Math"
def TJ9 : u_T := fun k => match k with
  | _ => ("", "", "", false)
def tyJ9 : Nat → FieldType := fun k => match k with
  | _ => .int
abbrev wsJ90 : List Cond := u_ws RJ9 TJ9 0
theorem nmJ9 : ∀ a, a < 0 → ∀ b, b < 0 → a ≠ b → (TJ9 a).2.1 ≠ (TJ9 b).2.1 := by decide +kernel
theorem tyJ9_ok : ∀ k, k < 0 → parseFieldDescriptor (TJ9 k).2.2.1 = some (tyJ9 k) := by decide +kernel
abbrev cJ9_abs_0f7a4 : ByteArray := prog_13_method_59_code
def yJ9_abs_0f7a4 : MethodName := ⟨RJ9, "abs", "(I)I"⟩
abbrev cJ9_max_7cf53 : ByteArray := prog_13_method_65_code
def yJ9_max_7cf53 : MethodName := ⟨RJ9, "max", "(II)I"⟩
abbrev cJ9_max_f86c9 : ByteArray := prog_13_method_66_code
def yJ9_max_f86c9 : MethodName := ⟨RJ9, "max", "(JJ)J"⟩
abbrev cJ9_min_7cf53 : ByteArray := prog_13_method_69_code
def yJ9_min_7cf53 : MethodName := ⟨RJ9, "min", "(II)I"⟩
def RJ0 : String := "java/lang/String"
def TJ0 : u_T := fun k => match k with
  | _ => ("", "", "", false)
def tyJ0 : Nat → FieldType := fun k => match k with
  | _ => .int
abbrev wsJ00 : List Cond := u_ws RJ0 TJ0 0
theorem nmJ0 : ∀ a, a < 0 → ∀ b, b < 0 → a ≠ b → (TJ0 a).2.1 ≠ (TJ0 b).2.1 := by decide +kernel
theorem tyJ0_ok : ∀ k, k < 0 → parseFieldDescriptor (TJ0 k).2.2.1 = some (tyJ0 k) := by decide +kernel
abbrev cJ0_length_8abf5 : ByteArray := prog_14_method_54_code
def yJ0_length_8abf5 : MethodName := ⟨RJ0, "length", "()I"⟩
abbrev cJ0_charAt_5068e : ByteArray := prog_14_method_56_code
def yJ0_charAt_5068e : MethodName := ⟨RJ0, "charAt", "(I)C"⟩
abbrev cJ0_coder_7d493 : ByteArray := prog_14_method_152_code
def yJ0_coder_7d493 : MethodName := ⟨RJ0, "coder", "()B"⟩
abbrev cJ0_isLatin1_aae02 : ByteArray := prog_14_method_154_code
def yJ0_isLatin1_aae02 : MethodName := ⟨RJ0, "isLatin1", "()Z"⟩
abbrev cJ0_checkIndex_df160 : ByteArray := prog_14_method_155_code
def yJ0_checkIndex_df160 : MethodName := ⟨RJ0, "checkIndex", "(II)V"⟩
def RJ1 : String := "java/lang/StringLatin1"
def TJ1 : u_T := fun k => match k with
  | _ => ("", "", "", false)
def tyJ1 : Nat → FieldType := fun k => match k with
  | _ => .int
abbrev wsJ10 : List Cond := u_ws RJ1 TJ1 0
theorem nmJ1 : ∀ a, a < 0 → ∀ b, b < 0 → a ≠ b → (TJ1 a).2.1 ≠ (TJ1 b).2.1 := by decide +kernel
theorem tyJ1_ok : ∀ k, k < 0 → parseFieldDescriptor (TJ1 k).2.2.1 = some (tyJ1 k) := by decide +kernel
abbrev cJ1_charAt_3b067 : ByteArray := prog_15_method_2_code
def yJ1_charAt_3b067 : MethodName := ⟨RJ1, "charAt", "([BI)C"⟩
def RJ2 : String := "java/lang/StringUTF16"
def TJ2 : u_T := fun k => match k with
  | _ => ("", "", "", false)
def tyJ2 : Nat → FieldType := fun k => match k with
  | _ => .int
abbrev wsJ20 : List Cond := u_ws RJ2 TJ2 0
theorem nmJ2 : ∀ a, a < 0 → ∀ b, b < 0 → a ≠ b → (TJ2 a).2.1 ≠ (TJ2 b).2.1 := by decide +kernel
theorem tyJ2_ok : ∀ k, k < 0 → parseFieldDescriptor (TJ2 k).2.2.1 = some (tyJ2 k) := by decide +kernel
abbrev cJ2_getChar_3b067 : ByteArray := prog_16_method_5_code
def yJ2_getChar_3b067 : MethodName := ⟨RJ2, "getChar", "([BI)C"⟩
abbrev cJ2_length_9d52b : ByteArray := prog_16_method_6_code
def yJ2_length_9d52b : MethodName := ⟨RJ2, "length", "([B)I"⟩
abbrev cJ2_charAt_3b067 : ByteArray := prog_16_method_83_code
def yJ2_charAt_3b067 : MethodName := ⟨RJ2, "charAt", "([BI)C"⟩
abbrev cJ2_checkIndex_2214a : ByteArray := prog_16_method_91_code
def yJ2_checkIndex_2214a : MethodName := ⟨RJ2, "checkIndex", "(I[B)V"⟩
def RJxfd54e : String := "java/lang/constant/Constable"
def TJxfd54e : u_T := fun k => match k with
  | _ => ("", "", "", false)
def tyJxfd54e : Nat → FieldType := fun k => match k with
  | _ => .int
abbrev wsJxfd54e0 : List Cond := u_ws RJxfd54e TJxfd54e 0
theorem nmJxfd54e : ∀ a, a < 0 → ∀ b, b < 0 → a ≠ b → (TJxfd54e a).2.1 ≠ (TJxfd54e b).2.1 := by decide +kernel
theorem tyJxfd54e_ok : ∀ k, k < 0 → parseFieldDescriptor (TJxfd54e k).2.2.1 = some (tyJxfd54e k) := by decide +kernel
def RJx3cf43 : String := "java/lang/constant/ConstantDesc"
def TJx3cf43 : u_T := fun k => match k with
  | _ => ("", "", "", false)
def tyJx3cf43 : Nat → FieldType := fun k => match k with
  | _ => .int
abbrev wsJx3cf430 : List Cond := u_ws RJx3cf43 TJx3cf43 0
theorem nmJx3cf43 : ∀ a, a < 0 → ∀ b, b < 0 → a ≠ b → (TJx3cf43 a).2.1 ≠ (TJx3cf43 b).2.1 := by decide +kernel
theorem tyJx3cf43_ok : ∀ k, k < 0 → parseFieldDescriptor (TJx3cf43 k).2.2.1 = some (tyJx3cf43 k) := by decide +kernel
def RJ7 : String := "java/util/Arrays"
def TJ7 : u_T := fun k => match k with
  | _ => ("", "", "", false)
def tyJ7 : Nat → FieldType := fun k => match k with
  | _ => .int
abbrev wsJ70 : List Cond := u_ws RJ7 TJ7 0
theorem nmJ7 : ∀ a, a < 0 → ∀ b, b < 0 → a ≠ b → (TJ7 a).2.1 ≠ (TJ7 b).2.1 := by decide +kernel
theorem tyJ7_ok : ∀ k, k < 0 → parseFieldDescriptor (TJ7 k).2.2.1 = some (tyJ7 k) := by decide +kernel
abbrev cJ7_fill_d0a16 : ByteArray := prog_17_method_101_code
def yJ7_fill_d0a16 : MethodName := ⟨RJ7, "fill", "([JJ)V"⟩
abbrev cJ7_fill_53178 : ByteArray := prog_17_method_103_code
def yJ7_fill_53178 : MethodName := ⟨RJ7, "fill", "([II)V"⟩
def RJ3 : String := "jdk/internal/util/Preconditions"
def TJ3 : u_T := fun k => match k with
  | _ => ("", "", "", false)
def tyJ3 : Nat → FieldType := fun k => match k with
  | _ => .int
abbrev wsJ30 : List Cond := u_ws RJ3 TJ3 0
theorem nmJ3 : ∀ a, a < 0 → ∀ b, b < 0 → a ≠ b → (TJ3 a).2.1 ≠ (TJ3 b).2.1 := by decide +kernel
theorem tyJ3_ok : ∀ k, k < 0 → parseFieldDescriptor (TJ3 k).2.2.1 = some (tyJ3 k) := by decide +kernel
abbrev cJ3_checkIndex_8e157 : ByteArray := prog_18_method_11_code
def yJ3_checkIndex_8e157 : MethodName := ⟨RJ3, "checkIndex", "(IILjava/util/function/BiFunction;)I"⟩
def RL : String := "RainTargetLaw"
abbrev cL_law : ByteArray := code
def yL_law : MethodName := ⟨RL, "law", "([I)Z"⟩
def wsX0_init : List Cond := .code yX0_init cX0_init 2 none :: ([.methodLink RX0 3 objectInit, .instanceMethod objectInit, .code objectInit ⟨#[0xb1]⟩ 1 none, .arrayClass .long, .fieldLink RX0 9 "RainTarget$Batting" "means" "[J", .fieldLink RX0 15 "RainTarget$Batting" "chances" "[J", .fieldLink RX0 18 "RainTarget$Batting" "moods" "LRainTarget$Moods;"] ++ wsX00)
def wsJ7_fill_d0a16 : List Cond := .code yJ7_fill_d0a16 cJ7_fill_d0a16 5 none :: ([])
def wsX3_size : List Cond := .code yX3_size cX3_size 2 (some .int) :: ([.fieldLink RX3 9 "RainTarget$Moods" "sizes" "[I"] ++ wsX30)
def wsX3_part : List Cond := .code yX3_part cX3_part 5 (some .int) :: ([.fieldLink RX3 15 "RainTarget$Moods" "parts" "[I"] ++ wsX30)
def wsX9_within : List Cond := .code yX9_within cX9_within 3 (some .boolean) :: ([])
def wsX9_power : List Cond := .code yX9_power cX9_power 1 (some .long) :: ([.fieldLink RX9 259 "RainTarget" "TEN" "[J", .methodLink RX9 85 yX9_within, .static yX9_within, .initialized RX9, .code yX9_within cX9_within 3 (some .boolean)])
def wsX0_mean : List Cond := .code yX0_mean cX0_mean 3 (some .long) :: ([.fieldLink RX0 9 "RainTarget$Batting" "means" "[J", .static yX9_within, .initialized RX9, .code yX9_within cX9_within 3 (some .boolean)] ++ wsX00)
def wsX0_meanIn : List Cond := .code yX0_meanIn cX0_meanIn 11 (some .long) :: ([.fieldLink RX0 18 "RainTarget$Batting" "moods" "LRainTarget$Moods;", .instanceMethod yX3_size, .initialized RX3, .selects RX3 yX3_size yX3_size, .code yX3_size cX3_size 2 (some .int), .fieldLink RX3 9 "RainTarget$Moods" "sizes" "[I", .instanceMethod yX3_part, .selects RX3 yX3_part yX3_part, .code yX3_part cX3_part 5 (some .int), .fieldLink RX3 15 "RainTarget$Moods" "parts" "[I", .static yX9_power, .initialized RX9, .code yX9_power cX9_power 1 (some .long), .fieldLink RX9 259 "RainTarget" "TEN" "[J", .methodLink RX9 85 yX9_within, .static yX9_within, .code yX9_within cX9_within 3 (some .boolean), .methodLink RX0 56 yX0_mean, .instanceMethod yX0_mean, .selects RX0 yX0_mean yX0_mean, .initialized RX0, .code yX0_mean cX0_mean 3 (some .long), .fieldLink RX0 9 "RainTarget$Batting" "means" "[J"] ++ wsX00 ++ wsX30)
def wsX0_learn_r1 : List Cond := [Cond.fieldLink RX0 15 "RainTarget$Batting" "chances" "[J", Cond.methodLink RX0 32 Lib.MathLoose.max_long.x, Cond.static Lib.MathLoose.max_long.x, Cond.initialized "java/lang/Math", Cond.code Lib.MathLoose.max_long.x Lib.MathLoose.max_long.code 4 (some .long), Cond.fieldLink RX0 9 "RainTarget$Batting" "means" "[J", Cond.methodLink RX0 22 yJ7_fill_d0a16, Cond.static yJ7_fill_d0a16, Cond.initialized RJ7, Cond.code yJ7_fill_d0a16 cJ7_fill_d0a16 5 none, Cond.methodLink RX0 28 yX0_meanIn, Cond.instanceMethod yX0_meanIn, Cond.selects RX0 yX0_meanIn yX0_meanIn, Cond.initialized RX0, Cond.code yX0_meanIn cX0_meanIn 11 (some .long), Cond.fieldLink RX0 18 "RainTarget$Batting" "moods" "LRainTarget$Moods;", Cond.instanceMethod yX3_size, Cond.initialized RX3, Cond.selects RX3 yX3_size yX3_size, Cond.code yX3_size cX3_size 2 (some .int), Cond.fieldLink RX3 9 "RainTarget$Moods" "sizes" "[I", Cond.instanceMethod yX3_part, Cond.selects RX3 yX3_part yX3_part, Cond.code yX3_part cX3_part 5 (some .int)]
def wsX0_learn_r2 : List Cond := [Cond.fieldLink RX3 15 "RainTarget$Moods" "parts" "[I", Cond.static yX9_power, Cond.initialized RX9, Cond.code yX9_power cX9_power 1 (some .long), Cond.fieldLink RX9 259 "RainTarget" "TEN" "[J", Cond.methodLink RX9 85 yX9_within, Cond.static yX9_within, Cond.code yX9_within cX9_within 3 (some .boolean), Cond.methodLink RX0 56 yX0_mean, Cond.instanceMethod yX0_mean, Cond.selects RX0 yX0_mean yX0_mean, Cond.code yX0_mean cX0_mean 3 (some .long)]
def wsX0_learn : List Cond := .code yX0_learn cX0_learn 6 none :: ((wsX0_learn_r1 ++ wsX0_learn_r2) ++ wsX00 ++ wsX30)
def wsX0_chance_r1 : List Cond := [Cond.fieldLink RX0 15 "RainTarget$Batting" "chances" "[J", Cond.methodLink RX0 32 Lib.MathLoose.max_long.x, Cond.static Lib.MathLoose.max_long.x, Cond.initialized "java/lang/Math", Cond.code Lib.MathLoose.max_long.x Lib.MathLoose.max_long.code 4 (some .long), Cond.static yX9_power, Cond.initialized RX9, Cond.code yX9_power cX9_power 1 (some .long), Cond.fieldLink RX9 259 "RainTarget" "TEN" "[J", Cond.methodLink RX9 85 yX9_within, Cond.static yX9_within, Cond.code yX9_within cX9_within 3 (some .boolean), Cond.methodLink RX0 60 yX0_chanceIn, Cond.instanceMethod yX0_chanceIn, Cond.selects RX0 yX0_chanceIn yX0_chanceIn, Cond.initialized RX0, Cond.code yX0_chanceIn cX0_chanceIn 9 (some .long), Cond.fieldLink RX0 18 "RainTarget$Batting" "moods" "LRainTarget$Moods;", Cond.instanceMethod yX3_size, Cond.initialized RX3, Cond.selects RX3 yX3_size yX3_size, Cond.code yX3_size cX3_size 2 (some .int), Cond.fieldLink RX3 9 "RainTarget$Moods" "sizes" "[I", Cond.instanceMethod yX3_part]
def wsX0_chance_r2 : List Cond := [Cond.selects RX3 yX3_part yX3_part, Cond.code yX3_part cX3_part 5 (some .int), Cond.fieldLink RX3 15 "RainTarget$Moods" "parts" "[I", Cond.methodLink RX0 64 yX0_chance, Cond.instanceMethod yX0_chance, Cond.selects RX0 yX0_chance yX0_chance]
def wsX0_chance : List Cond := .code yX0_chance cX0_chance 8 (some .long) :: ((wsX0_chance_r1 ++ wsX0_chance_r2) ++ wsX00 ++ wsX30)
def wsX0_chanceIn_r1 : List Cond := [Cond.fieldLink RX0 18 "RainTarget$Batting" "moods" "LRainTarget$Moods;", Cond.instanceMethod yX3_size, Cond.initialized RX3, Cond.selects RX3 yX3_size yX3_size, Cond.code yX3_size cX3_size 2 (some .int), Cond.fieldLink RX3 9 "RainTarget$Moods" "sizes" "[I", Cond.instanceMethod yX3_part, Cond.selects RX3 yX3_part yX3_part, Cond.code yX3_part cX3_part 5 (some .int), Cond.fieldLink RX3 15 "RainTarget$Moods" "parts" "[I", Cond.methodLink RX0 64 yX0_chance, Cond.instanceMethod yX0_chance, Cond.selects RX0 yX0_chance yX0_chance, Cond.initialized RX0, Cond.code yX0_chance cX0_chance 8 (some .long), Cond.fieldLink RX0 15 "RainTarget$Batting" "chances" "[J", Cond.methodLink RX0 32 Lib.MathLoose.max_long.x, Cond.static Lib.MathLoose.max_long.x, Cond.initialized "java/lang/Math", Cond.code Lib.MathLoose.max_long.x Lib.MathLoose.max_long.code 4 (some .long), Cond.static yX9_power, Cond.initialized RX9, Cond.code yX9_power cX9_power 1 (some .long), Cond.fieldLink RX9 259 "RainTarget" "TEN" "[J"]
def wsX0_chanceIn_r2 : List Cond := [Cond.methodLink RX9 85 yX9_within, Cond.static yX9_within, Cond.code yX9_within cX9_within 3 (some .boolean), Cond.methodLink RX0 60 yX0_chanceIn, Cond.instanceMethod yX0_chanceIn, Cond.selects RX0 yX0_chanceIn yX0_chanceIn]
def wsX0_chanceIn : List Cond := .code yX0_chanceIn cX0_chanceIn 9 (some .long) :: ((wsX0_chanceIn_r1 ++ wsX0_chanceIn_r2) ++ wsX00 ++ wsX30)
def wsX0_moodForMean_r1 : List Cond := [Cond.fieldLink RX0 18 "RainTarget$Batting" "moods" "LRainTarget$Moods;", Cond.instanceMethod yX3_size, Cond.initialized RX3, Cond.selects RX3 yX3_size yX3_size, Cond.code yX3_size cX3_size 2 (some .int), Cond.fieldLink RX3 9 "RainTarget$Moods" "sizes" "[I", Cond.methodLink RX0 28 yX0_meanIn, Cond.instanceMethod yX0_meanIn, Cond.selects RX0 yX0_meanIn yX0_meanIn, Cond.initialized RX0, Cond.code yX0_meanIn cX0_meanIn 11 (some .long), Cond.instanceMethod yX3_part, Cond.selects RX3 yX3_part yX3_part, Cond.code yX3_part cX3_part 5 (some .int), Cond.fieldLink RX3 15 "RainTarget$Moods" "parts" "[I", Cond.static yX9_power, Cond.initialized RX9, Cond.code yX9_power cX9_power 1 (some .long), Cond.fieldLink RX9 259 "RainTarget" "TEN" "[J", Cond.methodLink RX9 85 yX9_within, Cond.static yX9_within, Cond.code yX9_within cX9_within 3 (some .boolean), Cond.methodLink RX0 56 yX0_mean, Cond.instanceMethod yX0_mean]
def wsX0_moodForMean_r2 : List Cond := [Cond.selects RX0 yX0_mean yX0_mean, Cond.code yX0_mean cX0_mean 3 (some .long), Cond.fieldLink RX0 9 "RainTarget$Batting" "means" "[J"]
def wsX0_moodForMean : List Cond := .code yX0_moodForMean cX0_moodForMean 4 (some .int) :: ((wsX0_moodForMean_r1 ++ wsX0_moodForMean_r2) ++ wsX00 ++ wsX30)
def wsX0_moodForChance_r1 : List Cond := [Cond.fieldLink RX0 18 "RainTarget$Batting" "moods" "LRainTarget$Moods;", Cond.instanceMethod yX3_size, Cond.initialized RX3, Cond.selects RX3 yX3_size yX3_size, Cond.code yX3_size cX3_size 2 (some .int), Cond.fieldLink RX3 9 "RainTarget$Moods" "sizes" "[I", Cond.methodLink RX0 60 yX0_chanceIn, Cond.instanceMethod yX0_chanceIn, Cond.selects RX0 yX0_chanceIn yX0_chanceIn, Cond.initialized RX0, Cond.code yX0_chanceIn cX0_chanceIn 9 (some .long), Cond.instanceMethod yX3_part, Cond.selects RX3 yX3_part yX3_part, Cond.code yX3_part cX3_part 5 (some .int), Cond.fieldLink RX3 15 "RainTarget$Moods" "parts" "[I", Cond.methodLink RX0 64 yX0_chance, Cond.instanceMethod yX0_chance, Cond.selects RX0 yX0_chance yX0_chance, Cond.code yX0_chance cX0_chance 8 (some .long), Cond.fieldLink RX0 15 "RainTarget$Batting" "chances" "[J", Cond.methodLink RX0 32 Lib.MathLoose.max_long.x, Cond.static Lib.MathLoose.max_long.x, Cond.initialized "java/lang/Math", Cond.code Lib.MathLoose.max_long.x Lib.MathLoose.max_long.code 4 (some .long)]
def wsX0_moodForChance_r2 : List Cond := [Cond.static yX9_power, Cond.initialized RX9, Cond.code yX9_power cX9_power 1 (some .long), Cond.fieldLink RX9 259 "RainTarget" "TEN" "[J", Cond.methodLink RX9 85 yX9_within, Cond.static yX9_within, Cond.code yX9_within cX9_within 3 (some .boolean)]
def wsX0_moodForChance : List Cond := .code yX0_moodForChance cX0_moodForChance 5 (some .int) :: ((wsX0_moodForChance_r1 ++ wsX0_moodForChance_r2) ++ wsX00 ++ wsX30)
def wsX9_cut : List Cond := .code yX9_cut cX9_cut 4 (some .long) :: ([])
def wsX0_share : List Cond := .code yX0_share cX0_share 6 (some .int) :: ([.constantLong RX0 73 (1000), .methodLink RX0 56 yX0_mean, .instanceMethod yX0_mean, .selects RX0 yX0_mean yX0_mean, .initialized RX0, .code yX0_mean cX0_mean 3 (some .long), .fieldLink RX0 9 "RainTarget$Batting" "means" "[J", .static yX9_within, .initialized RX9, .code yX9_within cX9_within 3 (some .boolean), .static yX9_power, .code yX9_power cX9_power 1 (some .long), .fieldLink RX9 259 "RainTarget" "TEN" "[J", .methodLink RX9 85 yX9_within, .static yX9_cut, .code yX9_cut cX9_cut 4 (some .long)] ++ wsX60 ++ wsX00)
def wsX9_inMillionths : List Cond := .code yX9_inMillionths cX9_inMillionths 3 (some .int) :: ([.methodLink RX9 132 yX9_power, .static yX9_power, .initialized RX9, .code yX9_power cX9_power 1 (some .long), .fieldLink RX9 259 "RainTarget" "TEN" "[J", .methodLink RX9 85 yX9_within, .static yX9_within, .code yX9_within cX9_within 3 (some .boolean), .methodLink RX9 263 yX9_cut, .static yX9_cut, .code yX9_cut cX9_cut 4 (some .long)])
def wsX0_millionths_r1 : List Cond := [Cond.methodLink RX0 64 yX0_chance, Cond.instanceMethod yX0_chance, Cond.selects RX0 yX0_chance yX0_chance, Cond.initialized RX0, Cond.code yX0_chance cX0_chance 8 (some .long), Cond.fieldLink RX0 15 "RainTarget$Batting" "chances" "[J", Cond.methodLink RX0 32 Lib.MathLoose.max_long.x, Cond.static Lib.MathLoose.max_long.x, Cond.initialized "java/lang/Math", Cond.code Lib.MathLoose.max_long.x Lib.MathLoose.max_long.code 4 (some .long), Cond.static yX9_power, Cond.initialized RX9, Cond.code yX9_power cX9_power 1 (some .long), Cond.fieldLink RX9 259 "RainTarget" "TEN" "[J", Cond.methodLink RX9 85 yX9_within, Cond.static yX9_within, Cond.code yX9_within cX9_within 3 (some .boolean), Cond.methodLink RX0 60 yX0_chanceIn, Cond.instanceMethod yX0_chanceIn, Cond.selects RX0 yX0_chanceIn yX0_chanceIn, Cond.code yX0_chanceIn cX0_chanceIn 9 (some .long), Cond.fieldLink RX0 18 "RainTarget$Batting" "moods" "LRainTarget$Moods;", Cond.instanceMethod yX3_size, Cond.initialized RX3]
def wsX0_millionths_r2 : List Cond := [Cond.selects RX3 yX3_size yX3_size, Cond.code yX3_size cX3_size 2 (some .int), Cond.fieldLink RX3 9 "RainTarget$Moods" "sizes" "[I", Cond.instanceMethod yX3_part, Cond.selects RX3 yX3_part yX3_part, Cond.code yX3_part cX3_part 5 (some .int), Cond.fieldLink RX3 15 "RainTarget$Moods" "parts" "[I", Cond.static yX9_inMillionths, Cond.code yX9_inMillionths cX9_inMillionths 3 (some .int), Cond.methodLink RX9 132 yX9_power, Cond.methodLink RX9 263 yX9_cut, Cond.static yX9_cut, Cond.code yX9_cut cX9_cut 4 (some .long)]
def wsX0_millionths : List Cond := .code yX0_millionths cX0_millionths 4 (some .int) :: ((wsX0_millionths_r1 ++ wsX0_millionths_r2) ++ wsX00 ++ wsX30)
def wsX1_init : List Cond := .code yX1_init cX1_init 1 none :: ([.methodLink RX1 3 objectInit, .instanceMethod objectInit, .code objectInit ⟨#[0xb1]⟩ 1 none, .arrayClass .int, .fieldLink RX1 9 "RainTarget$FirstSide" "overs" "[I"] ++ wsX10)
def wsJ7_fill_53178 : List Cond := .code yJ7_fill_53178 cJ7_fill_53178 4 none :: ([])
def wsX1_begin : List Cond := .code yX1_begin cX1_begin 1 none :: ([.fieldLink RX1 9 "RainTarget$FirstSide" "overs" "[I", .fieldLink RX1 21 "RainTarget$FirstSide" "told" "I", .fieldLink RX1 25 "RainTarget$FirstSide" "total" "I", .methodLink RX1 15 yJ7_fill_53178, .static yJ7_fill_53178, .initialized RJ7, .code yJ7_fill_53178 cJ7_fill_53178 4 none] ++ wsX10)
def wsX1_add : List Cond := .code yX1_add cX1_add 2 none :: ([.fieldLink RX1 21 "RainTarget$FirstSide" "told" "I", .fieldLink RX1 9 "RainTarget$FirstSide" "overs" "[I", .fieldLink RX1 25 "RainTarget$FirstSide" "total" "I", .static yX9_within, .initialized RX9, .code yX9_within cX9_within 3 (some .boolean)] ++ wsX10)
def wsX1_rank : List Cond := .code yX1_rank cX1_rank 5 (some .int) :: ([.fieldLink RX1 9 "RainTarget$FirstSide" "overs" "[I", .static yX9_within, .initialized RX9, .code yX9_within cX9_within 3 (some .boolean)] ++ wsX10)
def wsX1_withoutLeast : List Cond := .code yX1_withoutLeast cX1_withoutLeast 5 (some .int) :: ([.fieldLink RX1 9 "RainTarget$FirstSide" "overs" "[I", .methodLink RX1 32 yX1_rank, .instanceMethod yX1_rank, .selects RX1 yX1_rank yX1_rank, .initialized RX1, .code yX1_rank cX1_rank 5 (some .int), .static yX9_within, .initialized RX9, .code yX9_within cX9_within 3 (some .boolean)] ++ wsX10)
def wsX2_init : List Cond := .code yX2_init cX2_init 1 none :: ([.methodLink RX2 3 objectInit, .instanceMethod objectInit, .code objectInit ⟨#[0xb1]⟩ 1 none, .arrayClass .int, .fieldLink RX2 11 "RainTarget$Matches" "parts" "[I"] ++ wsX20)
def wsX2_add : List Cond := .code yX2_add cX2_add 5 none :: ([.fieldLink RX2 15 "RainTarget$Matches" "size" "I", .fieldLink RX2 11 "RainTarget$Matches" "parts" "[I", .static yX9_within, .initialized RX9, .code yX9_within cX9_within 3 (some .boolean)] ++ wsX20)
def wsX2_differenceOf : List Cond := .code yX2_differenceOf cX2_differenceOf 8 (some .int) :: ([.fieldLink RX2 15 "RainTarget$Matches" "size" "I", .fieldLink RX2 11 "RainTarget$Matches" "parts" "[I", .methodLink RX2 45 Lib.Math.abs.name, .static Lib.Math.abs.name, .initialized "java/lang/Math", .code Lib.Math.abs.name Lib.Math.abs.code 1 (some .int), .instanceMethod yX0_mean, .initialized RX0, .selects RX0 yX0_mean yX0_mean, .code yX0_mean cX0_mean 3 (some .long), .fieldLink RX0 9 "RainTarget$Batting" "means" "[J", .static yX9_within, .initialized RX9, .code yX9_within cX9_within 3 (some .boolean), .static yX9_power, .code yX9_power cX9_power 1 (some .long), .fieldLink RX9 259 "RainTarget" "TEN" "[J", .methodLink RX9 85 yX9_within, .static yX9_cut, .code yX9_cut cX9_cut 4 (some .long)] ++ wsX20 ++ wsX60 ++ wsX00)
def wsX3_add : List Cond := .code yX3_add cX3_add 6 none :: ([.fieldLink RX3 9 "RainTarget$Moods" "sizes" "[I", .fieldLink RX3 15 "RainTarget$Moods" "parts" "[I", .static yX9_within, .initialized RX9, .code yX9_within cX9_within 3 (some .boolean)] ++ wsX30)
def wsX3_init : List Cond := .code yX3_init cX3_init 1 none :: ([.methodLink RX3 3 objectInit, .instanceMethod objectInit, .code objectInit ⟨#[0xb1]⟩ 1 none, .arrayClass .int, .fieldLink RX3 9 "RainTarget$Moods" "sizes" "[I", .fieldLink RX3 15 "RainTarget$Moods" "parts" "[I", .methodLink RX3 18 yX3_add, .instanceMethod yX3_add, .selects RX3 yX3_add yX3_add, .initialized RX3, .code yX3_add cX3_add 6 none, .static yX9_within, .initialized RX9, .code yX9_within cX9_within 3 (some .boolean)] ++ wsX30)
def wsX3_forget : List Cond := .code yX3_forget cX3_forget 2 none :: ([.fieldLink RX3 9 "RainTarget$Moods" "sizes" "[I", .static yX9_within, .initialized RX9, .code yX9_within cX9_within 3 (some .boolean)] ++ wsX30)
def wsX4_init : List Cond := .code yX4_init cX4_init 2 none :: ([.methodLink RX4 3 objectInit, .instanceMethod objectInit, .code objectInit ⟨#[0xb1]⟩ 1 none, .arrayClass .int, .fieldLink RX4 9 "RainTarget$Reader" "words" "[I", .fieldLink RX4 15 "RainTarget$Reader" "numbers" "[I", .fieldLink RX4 18 "RainTarget$Reader" "text" "LRainTarget$Text;"] ++ wsX40)
def wsX7_at : List Cond := .code yX7_at cX7_at 2 (some .int) :: ([.fieldLink RX7 15 "RainTarget$Text" "length" "I", .fieldLink RX7 9 "RainTarget$Text" "bytes" "[I", .static yX9_within, .initialized RX9, .code yX9_within cX9_within 3 (some .boolean)] ++ wsX70)
def wsX4_kindOf : List Cond := .code yX4_kindOf cX4_kindOf 1 (some .int) :: ([.static yX9_within, .initialized RX9, .code yX9_within cX9_within 3 (some .boolean)])
def wsX4_step : List Cond := .code yX4_step cX4_step 2 none :: ([.fieldLink RX4 26 "RainTarget$Reader" "end" "I", .fieldLink RX4 18 "RainTarget$Reader" "text" "LRainTarget$Text;", .fieldLink RX4 33 "RainTarget$Reader" "start" "I", .fieldLink RX4 39 "RainTarget$Reader" "kind" "I", .instanceMethod yX7_at, .initialized RX7, .selects RX7 yX7_at yX7_at, .code yX7_at cX7_at 2 (some .int), .fieldLink RX7 15 "RainTarget$Text" "length" "I", .fieldLink RX7 9 "RainTarget$Text" "bytes" "[I", .static yX9_within, .initialized RX9, .code yX9_within cX9_within 3 (some .boolean), .methodLink RX4 73 yX4_kindOf, .static yX4_kindOf, .initialized RX4, .code yX4_kindOf cX4_kindOf 1 (some .int)] ++ wsX40 ++ wsX70)
def wsJ0_coder_7d493 : List Cond := .code yJ0_coder_7d493 cJ0_coder_7d493 1 (some .byte) :: ([.fieldLink RJ0 38 "java/lang/String" "COMPACT_STRINGS" "Z", .fieldLink RJ0 15 "java/lang/String" "coder" "B"])
def wsJ0_length_8abf5 : List Cond := .code yJ0_length_8abf5 cJ0_length_8abf5 1 (some .int) :: ([.fieldLink RJ0 9 "java/lang/String" "value" "[B", .methodLink RJ0 335 yJ0_coder_7d493, .instanceMethod yJ0_coder_7d493, .selects RJ0 yJ0_coder_7d493 yJ0_coder_7d493, .initialized RJ0, .code yJ0_coder_7d493 cJ0_coder_7d493 1 (some .byte), .fieldLink RJ0 38 "java/lang/String" "COMPACT_STRINGS" "Z", .fieldLink RJ0 15 "java/lang/String" "coder" "B"])
def wsJ0_isLatin1_aae02 : List Cond := .code yJ0_isLatin1_aae02 cJ0_isLatin1_aae02 1 (some .boolean) :: ([.fieldLink RJ0 38 "java/lang/String" "COMPACT_STRINGS" "Z", .fieldLink RJ0 15 "java/lang/String" "coder" "B"])
def wsJ3_checkIndex_8e157 : List Cond := .code yJ3_checkIndex_8e157 cJ3_checkIndex_8e157 3 (some .int) :: ([])
def wsJ0_checkIndex_df160 : List Cond := .code yJ0_checkIndex_df160 cJ0_checkIndex_df160 2 none :: ([.fieldLink RJ0 1053 "jdk/internal/util/Preconditions" "SIOOBE_FORMATTER" "Ljava/util/function/BiFunction;", .methodLink RJ0 1059 yJ3_checkIndex_8e157, .static yJ3_checkIndex_8e157, .initialized RJ3, .code yJ3_checkIndex_8e157 cJ3_checkIndex_8e157 3 (some .int)])
def wsJ1_charAt_3b067 : List Cond := .code yJ1_charAt_3b067 cJ1_charAt_3b067 2 (some .char) :: ([.methodLink RJ1 9 yJ0_checkIndex_df160, .static yJ0_checkIndex_df160, .initialized RJ0, .code yJ0_checkIndex_df160 cJ0_checkIndex_df160 2 none, .fieldLink RJ0 1053 "jdk/internal/util/Preconditions" "SIOOBE_FORMATTER" "Ljava/util/function/BiFunction;", .methodLink RJ0 1059 yJ3_checkIndex_8e157, .static yJ3_checkIndex_8e157, .initialized RJ3, .code yJ3_checkIndex_8e157 cJ3_checkIndex_8e157 3 (some .int)])
def wsJ2_length_9d52b : List Cond := .code yJ2_length_9d52b cJ2_length_9d52b 1 (some .int) :: ([])
def wsJ2_checkIndex_2214a : List Cond := .code yJ2_checkIndex_2214a cJ2_checkIndex_2214a 2 none :: ([.methodLink RJ2 48 yJ2_length_9d52b, .static yJ2_length_9d52b, .initialized RJ2, .code yJ2_length_9d52b cJ2_length_9d52b 1 (some .int), .methodLink RJ2 414 yJ0_checkIndex_df160, .static yJ0_checkIndex_df160, .initialized RJ0, .code yJ0_checkIndex_df160 cJ0_checkIndex_df160 2 none, .fieldLink RJ0 1053 "jdk/internal/util/Preconditions" "SIOOBE_FORMATTER" "Ljava/util/function/BiFunction;", .methodLink RJ0 1059 yJ3_checkIndex_8e157, .static yJ3_checkIndex_8e157, .initialized RJ3, .code yJ3_checkIndex_8e157 cJ3_checkIndex_8e157 3 (some .int)])
def wsJ2_getChar_3b067 : List Cond := .code yJ2_getChar_3b067 cJ2_getChar_3b067 2 (some .char) :: ([.fieldLink RJ2 44 "java/lang/StringUTF16" "$assertionsDisabled" "Z", .fieldLink RJ2 59 "java/lang/StringUTF16" "HI_BYTE_SHIFT" "I", .fieldLink RJ2 63 "java/lang/StringUTF16" "LO_BYTE_SHIFT" "I", .methodLink RJ2 48 yJ2_length_9d52b, .static yJ2_length_9d52b, .initialized RJ2, .code yJ2_length_9d52b cJ2_length_9d52b 1 (some .int)])
def wsJ2_charAt_3b067 : List Cond := .code yJ2_charAt_3b067 cJ2_charAt_3b067 2 (some .char) :: ([.methodLink RJ2 67 yJ2_checkIndex_2214a, .static yJ2_checkIndex_2214a, .initialized RJ2, .code yJ2_checkIndex_2214a cJ2_checkIndex_2214a 2 none, .methodLink RJ2 48 yJ2_length_9d52b, .static yJ2_length_9d52b, .code yJ2_length_9d52b cJ2_length_9d52b 1 (some .int), .methodLink RJ2 414 yJ0_checkIndex_df160, .static yJ0_checkIndex_df160, .initialized RJ0, .code yJ0_checkIndex_df160 cJ0_checkIndex_df160 2 none, .fieldLink RJ0 1053 "jdk/internal/util/Preconditions" "SIOOBE_FORMATTER" "Ljava/util/function/BiFunction;", .methodLink RJ0 1059 yJ3_checkIndex_8e157, .static yJ3_checkIndex_8e157, .initialized RJ3, .code yJ3_checkIndex_8e157 cJ3_checkIndex_8e157 3 (some .int), .methodLink RJ2 71 yJ2_getChar_3b067, .static yJ2_getChar_3b067, .code yJ2_getChar_3b067 cJ2_getChar_3b067 2 (some .char), .fieldLink RJ2 44 "java/lang/StringUTF16" "$assertionsDisabled" "Z", .fieldLink RJ2 59 "java/lang/StringUTF16" "HI_BYTE_SHIFT" "I", .fieldLink RJ2 63 "java/lang/StringUTF16" "LO_BYTE_SHIFT" "I"])
def wsJ0_charAt_5068e_r1 : List Cond := [Cond.fieldLink RJ0 9 "java/lang/String" "value" "[B", Cond.methodLink RJ0 492 yJ0_isLatin1_aae02, Cond.instanceMethod yJ0_isLatin1_aae02, Cond.selects RJ0 yJ0_isLatin1_aae02 yJ0_isLatin1_aae02, Cond.initialized RJ0, Cond.code yJ0_isLatin1_aae02 cJ0_isLatin1_aae02 1 (some .boolean), Cond.fieldLink RJ0 38 "java/lang/String" "COMPACT_STRINGS" "Z", Cond.fieldLink RJ0 15 "java/lang/String" "coder" "B", Cond.methodLink RJ0 495 yJ1_charAt_3b067, Cond.static yJ1_charAt_3b067, Cond.initialized RJ1, Cond.code yJ1_charAt_3b067 cJ1_charAt_3b067 2 (some .char), Cond.methodLink RJ1 9 yJ0_checkIndex_df160, Cond.static yJ0_checkIndex_df160, Cond.code yJ0_checkIndex_df160 cJ0_checkIndex_df160 2 none, Cond.fieldLink RJ0 1053 "jdk/internal/util/Preconditions" "SIOOBE_FORMATTER" "Ljava/util/function/BiFunction;", Cond.methodLink RJ0 1059 yJ3_checkIndex_8e157, Cond.static yJ3_checkIndex_8e157, Cond.initialized RJ3, Cond.code yJ3_checkIndex_8e157 cJ3_checkIndex_8e157 3 (some .int), Cond.methodLink RJ0 498 yJ2_charAt_3b067, Cond.static yJ2_charAt_3b067, Cond.initialized RJ2, Cond.code yJ2_charAt_3b067 cJ2_charAt_3b067 2 (some .char)]
def wsJ0_charAt_5068e_r2 : List Cond := [Cond.methodLink RJ2 67 yJ2_checkIndex_2214a, Cond.static yJ2_checkIndex_2214a, Cond.code yJ2_checkIndex_2214a cJ2_checkIndex_2214a 2 none, Cond.methodLink RJ2 48 yJ2_length_9d52b, Cond.static yJ2_length_9d52b, Cond.code yJ2_length_9d52b cJ2_length_9d52b 1 (some .int), Cond.methodLink RJ2 414 yJ0_checkIndex_df160, Cond.methodLink RJ2 71 yJ2_getChar_3b067, Cond.static yJ2_getChar_3b067, Cond.code yJ2_getChar_3b067 cJ2_getChar_3b067 2 (some .char), Cond.fieldLink RJ2 44 "java/lang/StringUTF16" "$assertionsDisabled" "Z", Cond.fieldLink RJ2 59 "java/lang/StringUTF16" "HI_BYTE_SHIFT" "I", Cond.fieldLink RJ2 63 "java/lang/StringUTF16" "LO_BYTE_SHIFT" "I"]
def wsJ0_charAt_5068e : List Cond := .code yJ0_charAt_5068e cJ0_charAt_5068e 2 (some .char) :: ((wsJ0_charAt_5068e_r1 ++ wsJ0_charAt_5068e_r2))
def wsX4_spells_r1 : List Cond := [Cond.fieldLink RX4 26 "RainTarget$Reader" "end" "I", Cond.fieldLink RX4 33 "RainTarget$Reader" "start" "I", Cond.fieldLink RX4 18 "RainTarget$Reader" "text" "LRainTarget$Text;", Cond.methodLink RX4 92 yJ0_length_8abf5, Cond.instanceMethod yJ0_length_8abf5, Cond.selects RJ0 yJ0_length_8abf5 yJ0_length_8abf5, Cond.initialized RJ0, Cond.code yJ0_length_8abf5 cJ0_length_8abf5 1 (some .int), Cond.fieldLink RJ0 9 "java/lang/String" "value" "[B", Cond.methodLink RJ0 335 yJ0_coder_7d493, Cond.instanceMethod yJ0_coder_7d493, Cond.selects RJ0 yJ0_coder_7d493 yJ0_coder_7d493, Cond.code yJ0_coder_7d493 cJ0_coder_7d493 1 (some .byte), Cond.fieldLink RJ0 38 "java/lang/String" "COMPACT_STRINGS" "Z", Cond.fieldLink RJ0 15 "java/lang/String" "coder" "B", Cond.instanceMethod yX7_at, Cond.initialized RX7, Cond.selects RX7 yX7_at yX7_at, Cond.code yX7_at cX7_at 2 (some .int), Cond.fieldLink RX7 15 "RainTarget$Text" "length" "I", Cond.fieldLink RX7 9 "RainTarget$Text" "bytes" "[I", Cond.static yX9_within, Cond.initialized RX9, Cond.code yX9_within cX9_within 3 (some .boolean)]
def wsX4_spells_r2 : List Cond := [Cond.methodLink RX4 96 yJ0_charAt_5068e, Cond.instanceMethod yJ0_charAt_5068e, Cond.selects RJ0 yJ0_charAt_5068e yJ0_charAt_5068e, Cond.code yJ0_charAt_5068e cJ0_charAt_5068e 2 (some .char), Cond.methodLink RJ0 492 yJ0_isLatin1_aae02, Cond.instanceMethod yJ0_isLatin1_aae02, Cond.selects RJ0 yJ0_isLatin1_aae02 yJ0_isLatin1_aae02, Cond.code yJ0_isLatin1_aae02 cJ0_isLatin1_aae02 1 (some .boolean), Cond.methodLink RJ0 495 yJ1_charAt_3b067, Cond.static yJ1_charAt_3b067, Cond.initialized RJ1, Cond.code yJ1_charAt_3b067 cJ1_charAt_3b067 2 (some .char), Cond.methodLink RJ1 9 yJ0_checkIndex_df160, Cond.static yJ0_checkIndex_df160, Cond.code yJ0_checkIndex_df160 cJ0_checkIndex_df160 2 none, Cond.fieldLink RJ0 1053 "jdk/internal/util/Preconditions" "SIOOBE_FORMATTER" "Ljava/util/function/BiFunction;", Cond.methodLink RJ0 1059 yJ3_checkIndex_8e157, Cond.static yJ3_checkIndex_8e157, Cond.initialized RJ3, Cond.code yJ3_checkIndex_8e157 cJ3_checkIndex_8e157 3 (some .int), Cond.methodLink RJ0 498 yJ2_charAt_3b067, Cond.static yJ2_charAt_3b067, Cond.initialized RJ2, Cond.code yJ2_charAt_3b067 cJ2_charAt_3b067 2 (some .char)]
def wsX4_spells_r3 : List Cond := [Cond.methodLink RJ2 67 yJ2_checkIndex_2214a, Cond.static yJ2_checkIndex_2214a, Cond.code yJ2_checkIndex_2214a cJ2_checkIndex_2214a 2 none, Cond.methodLink RJ2 48 yJ2_length_9d52b, Cond.static yJ2_length_9d52b, Cond.code yJ2_length_9d52b cJ2_length_9d52b 1 (some .int), Cond.methodLink RJ2 414 yJ0_checkIndex_df160, Cond.methodLink RJ2 71 yJ2_getChar_3b067, Cond.static yJ2_getChar_3b067, Cond.code yJ2_getChar_3b067 cJ2_getChar_3b067 2 (some .char), Cond.fieldLink RJ2 44 "java/lang/StringUTF16" "$assertionsDisabled" "Z", Cond.fieldLink RJ2 59 "java/lang/StringUTF16" "HI_BYTE_SHIFT" "I", Cond.fieldLink RJ2 63 "java/lang/StringUTF16" "LO_BYTE_SHIFT" "I"]
def wsX4_spells : List Cond := .code yX4_spells cX4_spells 3 (some .boolean) :: ((wsX4_spells_r1 ++ (wsX4_spells_r2 ++ wsX4_spells_r3)) ++ wsX40 ++ wsX70)
def wsX4_spelled_r1 : List Cond := [Cond.methodLink RX4 78 yX4_spells, Cond.instanceMethod yX4_spells, Cond.selects RX4 yX4_spells yX4_spells, Cond.initialized RX4, Cond.code yX4_spells cX4_spells 3 (some .boolean), Cond.fieldLink RX4 26 "RainTarget$Reader" "end" "I", Cond.fieldLink RX4 33 "RainTarget$Reader" "start" "I", Cond.fieldLink RX4 18 "RainTarget$Reader" "text" "LRainTarget$Text;", Cond.methodLink RX4 92 yJ0_length_8abf5, Cond.instanceMethod yJ0_length_8abf5, Cond.selects RJ0 yJ0_length_8abf5 yJ0_length_8abf5, Cond.initialized RJ0, Cond.code yJ0_length_8abf5 cJ0_length_8abf5 1 (some .int), Cond.fieldLink RJ0 9 "java/lang/String" "value" "[B", Cond.methodLink RJ0 335 yJ0_coder_7d493, Cond.instanceMethod yJ0_coder_7d493, Cond.selects RJ0 yJ0_coder_7d493 yJ0_coder_7d493, Cond.code yJ0_coder_7d493 cJ0_coder_7d493 1 (some .byte), Cond.fieldLink RJ0 38 "java/lang/String" "COMPACT_STRINGS" "Z", Cond.fieldLink RJ0 15 "java/lang/String" "coder" "B", Cond.instanceMethod yX7_at, Cond.initialized RX7, Cond.selects RX7 yX7_at yX7_at, Cond.code yX7_at cX7_at 2 (some .int)]
def wsX4_spelled_r2 : List Cond := [Cond.fieldLink RX7 15 "RainTarget$Text" "length" "I", Cond.fieldLink RX7 9 "RainTarget$Text" "bytes" "[I", Cond.static yX9_within, Cond.initialized RX9, Cond.code yX9_within cX9_within 3 (some .boolean), Cond.methodLink RX4 96 yJ0_charAt_5068e, Cond.instanceMethod yJ0_charAt_5068e, Cond.selects RJ0 yJ0_charAt_5068e yJ0_charAt_5068e, Cond.code yJ0_charAt_5068e cJ0_charAt_5068e 2 (some .char), Cond.methodLink RJ0 492 yJ0_isLatin1_aae02, Cond.instanceMethod yJ0_isLatin1_aae02, Cond.selects RJ0 yJ0_isLatin1_aae02 yJ0_isLatin1_aae02, Cond.code yJ0_isLatin1_aae02 cJ0_isLatin1_aae02 1 (some .boolean), Cond.methodLink RJ0 495 yJ1_charAt_3b067, Cond.static yJ1_charAt_3b067, Cond.initialized RJ1, Cond.code yJ1_charAt_3b067 cJ1_charAt_3b067 2 (some .char), Cond.methodLink RJ1 9 yJ0_checkIndex_df160, Cond.static yJ0_checkIndex_df160, Cond.code yJ0_checkIndex_df160 cJ0_checkIndex_df160 2 none, Cond.fieldLink RJ0 1053 "jdk/internal/util/Preconditions" "SIOOBE_FORMATTER" "Ljava/util/function/BiFunction;", Cond.methodLink RJ0 1059 yJ3_checkIndex_8e157, Cond.static yJ3_checkIndex_8e157, Cond.initialized RJ3]
def wsX4_spelled_r3 : List Cond := [Cond.code yJ3_checkIndex_8e157 cJ3_checkIndex_8e157 3 (some .int), Cond.methodLink RJ0 498 yJ2_charAt_3b067, Cond.static yJ2_charAt_3b067, Cond.initialized RJ2, Cond.code yJ2_charAt_3b067 cJ2_charAt_3b067 2 (some .char), Cond.methodLink RJ2 67 yJ2_checkIndex_2214a, Cond.static yJ2_checkIndex_2214a, Cond.code yJ2_checkIndex_2214a cJ2_checkIndex_2214a 2 none, Cond.methodLink RJ2 48 yJ2_length_9d52b, Cond.static yJ2_length_9d52b, Cond.code yJ2_length_9d52b cJ2_length_9d52b 1 (some .int), Cond.methodLink RJ2 414 yJ0_checkIndex_df160, Cond.methodLink RJ2 71 yJ2_getChar_3b067, Cond.static yJ2_getChar_3b067, Cond.code yJ2_getChar_3b067 cJ2_getChar_3b067 2 (some .char), Cond.fieldLink RJ2 44 "java/lang/StringUTF16" "$assertionsDisabled" "Z", Cond.fieldLink RJ2 59 "java/lang/StringUTF16" "HI_BYTE_SHIFT" "I", Cond.fieldLink RJ2 63 "java/lang/StringUTF16" "LO_BYTE_SHIFT" "I"]
def wsX4_spelled : List Cond := .code yX4_spelled cX4_spelled 1 (some .int) :: ((wsX4_spelled_r1 ++ (wsX4_spelled_r2 ++ wsX4_spelled_r3)) ++ wsX40 ++ wsX70)
def wsX4_readNumber : List Cond := .code yX4_readNumber cX4_readNumber 7 (some .boolean) :: ([.fieldLink RX4 39 "RainTarget$Reader" "kind" "I", .fieldLink RX4 26 "RainTarget$Reader" "end" "I", .fieldLink RX4 33 "RainTarget$Reader" "start" "I", .fieldLink RX4 18 "RainTarget$Reader" "text" "LRainTarget$Text;", .fieldLink RX4 15 "RainTarget$Reader" "numbers" "[I", .methodLink RX4 36 yX4_step, .instanceMethod yX4_step, .selects RX4 yX4_step yX4_step, .initialized RX4, .code yX4_step cX4_step 2 none, .instanceMethod yX7_at, .initialized RX7, .selects RX7 yX7_at yX7_at, .code yX7_at cX7_at 2 (some .int), .fieldLink RX7 15 "RainTarget$Text" "length" "I", .fieldLink RX7 9 "RainTarget$Text" "bytes" "[I", .static yX9_within, .initialized RX9, .code yX9_within cX9_within 3 (some .boolean), .methodLink RX4 73 yX4_kindOf, .static yX4_kindOf, .code yX4_kindOf cX4_kindOf 1 (some .int)] ++ wsX40 ++ wsX70)
def wsX4_number : List Cond := .code yX4_number cX4_number 3 (some .int) :: ([.fieldLink RX4 15 "RainTarget$Reader" "numbers" "[I", .static yX9_within, .initialized RX9, .code yX9_within cX9_within 3 (some .boolean)] ++ wsX40)
def wsX4_readMood_r1 : List Cond := [Cond.methodLink RX4 54 yX4_readNumber, Cond.instanceMethod yX4_readNumber, Cond.selects RX4 yX4_readNumber yX4_readNumber, Cond.initialized RX4, Cond.code yX4_readNumber cX4_readNumber 7 (some .boolean), Cond.fieldLink RX4 39 "RainTarget$Reader" "kind" "I", Cond.fieldLink RX4 26 "RainTarget$Reader" "end" "I", Cond.fieldLink RX4 33 "RainTarget$Reader" "start" "I", Cond.fieldLink RX4 18 "RainTarget$Reader" "text" "LRainTarget$Text;", Cond.fieldLink RX4 15 "RainTarget$Reader" "numbers" "[I", Cond.methodLink RX4 36 yX4_step, Cond.instanceMethod yX4_step, Cond.selects RX4 yX4_step yX4_step, Cond.code yX4_step cX4_step 2 none, Cond.instanceMethod yX7_at, Cond.initialized RX7, Cond.selects RX7 yX7_at yX7_at, Cond.code yX7_at cX7_at 2 (some .int), Cond.fieldLink RX7 15 "RainTarget$Text" "length" "I", Cond.fieldLink RX7 9 "RainTarget$Text" "bytes" "[I", Cond.static yX9_within, Cond.initialized RX9, Cond.code yX9_within cX9_within 3 (some .boolean), Cond.methodLink RX4 73 yX4_kindOf]
def wsX4_readMood_r2 : List Cond := [Cond.static yX4_kindOf, Cond.code yX4_kindOf cX4_kindOf 1 (some .int), Cond.methodLink RX4 61 yX4_number, Cond.instanceMethod yX4_number, Cond.selects RX4 yX4_number yX4_number, Cond.code yX4_number cX4_number 3 (some .int)]
def wsX4_readMood : List Cond := .code yX4_readMood cX4_readMood 6 (some .boolean) :: ((wsX4_readMood_r1 ++ wsX4_readMood_r2) ++ wsX40 ++ wsX70)
def wsX4_readLine_r1 : List Cond := [Cond.fieldLink RX4 9 "RainTarget$Reader" "words" "[I", Cond.methodLink RX4 36 yX4_step, Cond.instanceMethod yX4_step, Cond.selects RX4 yX4_step yX4_step, Cond.initialized RX4, Cond.code yX4_step cX4_step 2 none, Cond.fieldLink RX4 26 "RainTarget$Reader" "end" "I", Cond.fieldLink RX4 18 "RainTarget$Reader" "text" "LRainTarget$Text;", Cond.fieldLink RX4 33 "RainTarget$Reader" "start" "I", Cond.fieldLink RX4 39 "RainTarget$Reader" "kind" "I", Cond.instanceMethod yX7_at, Cond.initialized RX7, Cond.selects RX7 yX7_at yX7_at, Cond.code yX7_at cX7_at 2 (some .int), Cond.fieldLink RX7 15 "RainTarget$Text" "length" "I", Cond.fieldLink RX7 9 "RainTarget$Text" "bytes" "[I", Cond.static yX9_within, Cond.initialized RX9, Cond.code yX9_within cX9_within 3 (some .boolean), Cond.methodLink RX4 73 yX4_kindOf, Cond.static yX4_kindOf, Cond.code yX4_kindOf cX4_kindOf 1 (some .int), Cond.methodLink RX4 50 yX4_spelled, Cond.instanceMethod yX4_spelled]
def wsX4_readLine_r2 : List Cond := [Cond.selects RX4 yX4_spelled yX4_spelled, Cond.code yX4_spelled cX4_spelled 1 (some .int), Cond.methodLink RX4 78 yX4_spells, Cond.instanceMethod yX4_spells, Cond.selects RX4 yX4_spells yX4_spells, Cond.code yX4_spells cX4_spells 3 (some .boolean), Cond.methodLink RX4 92 yJ0_length_8abf5, Cond.instanceMethod yJ0_length_8abf5, Cond.selects RJ0 yJ0_length_8abf5 yJ0_length_8abf5, Cond.initialized RJ0, Cond.code yJ0_length_8abf5 cJ0_length_8abf5 1 (some .int), Cond.fieldLink RJ0 9 "java/lang/String" "value" "[B", Cond.methodLink RJ0 335 yJ0_coder_7d493, Cond.instanceMethod yJ0_coder_7d493, Cond.selects RJ0 yJ0_coder_7d493 yJ0_coder_7d493, Cond.code yJ0_coder_7d493 cJ0_coder_7d493 1 (some .byte), Cond.fieldLink RJ0 38 "java/lang/String" "COMPACT_STRINGS" "Z", Cond.fieldLink RJ0 15 "java/lang/String" "coder" "B", Cond.methodLink RX4 96 yJ0_charAt_5068e, Cond.instanceMethod yJ0_charAt_5068e, Cond.selects RJ0 yJ0_charAt_5068e yJ0_charAt_5068e, Cond.code yJ0_charAt_5068e cJ0_charAt_5068e 2 (some .char), Cond.methodLink RJ0 492 yJ0_isLatin1_aae02, Cond.instanceMethod yJ0_isLatin1_aae02]
def wsX4_readLine_r3 : List Cond := [Cond.selects RJ0 yJ0_isLatin1_aae02 yJ0_isLatin1_aae02, Cond.code yJ0_isLatin1_aae02 cJ0_isLatin1_aae02 1 (some .boolean), Cond.methodLink RJ0 495 yJ1_charAt_3b067, Cond.static yJ1_charAt_3b067, Cond.initialized RJ1, Cond.code yJ1_charAt_3b067 cJ1_charAt_3b067 2 (some .char), Cond.methodLink RJ1 9 yJ0_checkIndex_df160, Cond.static yJ0_checkIndex_df160, Cond.code yJ0_checkIndex_df160 cJ0_checkIndex_df160 2 none, Cond.fieldLink RJ0 1053 "jdk/internal/util/Preconditions" "SIOOBE_FORMATTER" "Ljava/util/function/BiFunction;", Cond.methodLink RJ0 1059 yJ3_checkIndex_8e157, Cond.static yJ3_checkIndex_8e157, Cond.initialized RJ3, Cond.code yJ3_checkIndex_8e157 cJ3_checkIndex_8e157 3 (some .int), Cond.methodLink RJ0 498 yJ2_charAt_3b067, Cond.static yJ2_charAt_3b067, Cond.initialized RJ2, Cond.code yJ2_charAt_3b067 cJ2_charAt_3b067 2 (some .char), Cond.methodLink RJ2 67 yJ2_checkIndex_2214a, Cond.static yJ2_checkIndex_2214a, Cond.code yJ2_checkIndex_2214a cJ2_checkIndex_2214a 2 none, Cond.methodLink RJ2 48 yJ2_length_9d52b, Cond.static yJ2_length_9d52b, Cond.code yJ2_length_9d52b cJ2_length_9d52b 1 (some .int)]
def wsX4_readLine_r4 : List Cond := [Cond.methodLink RJ2 414 yJ0_checkIndex_df160, Cond.methodLink RJ2 71 yJ2_getChar_3b067, Cond.static yJ2_getChar_3b067, Cond.code yJ2_getChar_3b067 cJ2_getChar_3b067 2 (some .char), Cond.fieldLink RJ2 44 "java/lang/StringUTF16" "$assertionsDisabled" "Z", Cond.fieldLink RJ2 59 "java/lang/StringUTF16" "HI_BYTE_SHIFT" "I", Cond.fieldLink RJ2 63 "java/lang/StringUTF16" "LO_BYTE_SHIFT" "I", Cond.methodLink RX4 54 yX4_readNumber, Cond.instanceMethod yX4_readNumber, Cond.selects RX4 yX4_readNumber yX4_readNumber, Cond.code yX4_readNumber cX4_readNumber 7 (some .boolean), Cond.fieldLink RX4 15 "RainTarget$Reader" "numbers" "[I", Cond.methodLink RX4 58 yX4_readMood, Cond.instanceMethod yX4_readMood, Cond.selects RX4 yX4_readMood yX4_readMood, Cond.code yX4_readMood cX4_readMood 6 (some .boolean), Cond.methodLink RX4 61 yX4_number, Cond.instanceMethod yX4_number, Cond.selects RX4 yX4_number yX4_number, Cond.code yX4_number cX4_number 3 (some .int)]
def wsX4_readLine : List Cond := .code yX4_readLine cX4_readLine 3 (some .boolean) :: ((wsX4_readLine_r1 ++ (wsX4_readLine_r2 ++ (wsX4_readLine_r3 ++ wsX4_readLine_r4))) ++ wsX40 ++ wsX70)
def wsX4_read_r1 : List Cond := [Cond.fieldLink RX4 22 "RainTarget$Reader" "lines" "I", Cond.fieldLink RX4 26 "RainTarget$Reader" "end" "I", Cond.fieldLink RX4 33 "RainTarget$Reader" "start" "I", Cond.fieldLink RX4 39 "RainTarget$Reader" "kind" "I", Cond.methodLink RX4 29 yX4_readLine, Cond.instanceMethod yX4_readLine, Cond.selects RX4 yX4_readLine yX4_readLine, Cond.initialized RX4, Cond.code yX4_readLine cX4_readLine 3 (some .boolean), Cond.fieldLink RX4 9 "RainTarget$Reader" "words" "[I", Cond.methodLink RX4 36 yX4_step, Cond.instanceMethod yX4_step, Cond.selects RX4 yX4_step yX4_step, Cond.code yX4_step cX4_step 2 none, Cond.fieldLink RX4 18 "RainTarget$Reader" "text" "LRainTarget$Text;", Cond.instanceMethod yX7_at, Cond.initialized RX7, Cond.selects RX7 yX7_at yX7_at, Cond.code yX7_at cX7_at 2 (some .int), Cond.fieldLink RX7 15 "RainTarget$Text" "length" "I", Cond.fieldLink RX7 9 "RainTarget$Text" "bytes" "[I", Cond.static yX9_within, Cond.initialized RX9, Cond.code yX9_within cX9_within 3 (some .boolean)]
def wsX4_read_r2 : List Cond := [Cond.methodLink RX4 73 yX4_kindOf, Cond.static yX4_kindOf, Cond.code yX4_kindOf cX4_kindOf 1 (some .int), Cond.methodLink RX4 50 yX4_spelled, Cond.instanceMethod yX4_spelled, Cond.selects RX4 yX4_spelled yX4_spelled, Cond.code yX4_spelled cX4_spelled 1 (some .int), Cond.methodLink RX4 78 yX4_spells, Cond.instanceMethod yX4_spells, Cond.selects RX4 yX4_spells yX4_spells, Cond.code yX4_spells cX4_spells 3 (some .boolean), Cond.methodLink RX4 92 yJ0_length_8abf5, Cond.instanceMethod yJ0_length_8abf5, Cond.selects RJ0 yJ0_length_8abf5 yJ0_length_8abf5, Cond.initialized RJ0, Cond.code yJ0_length_8abf5 cJ0_length_8abf5 1 (some .int), Cond.fieldLink RJ0 9 "java/lang/String" "value" "[B", Cond.methodLink RJ0 335 yJ0_coder_7d493, Cond.instanceMethod yJ0_coder_7d493, Cond.selects RJ0 yJ0_coder_7d493 yJ0_coder_7d493, Cond.code yJ0_coder_7d493 cJ0_coder_7d493 1 (some .byte), Cond.fieldLink RJ0 38 "java/lang/String" "COMPACT_STRINGS" "Z", Cond.fieldLink RJ0 15 "java/lang/String" "coder" "B", Cond.methodLink RX4 96 yJ0_charAt_5068e]
def wsX4_read_r3 : List Cond := [Cond.instanceMethod yJ0_charAt_5068e, Cond.selects RJ0 yJ0_charAt_5068e yJ0_charAt_5068e, Cond.code yJ0_charAt_5068e cJ0_charAt_5068e 2 (some .char), Cond.methodLink RJ0 492 yJ0_isLatin1_aae02, Cond.instanceMethod yJ0_isLatin1_aae02, Cond.selects RJ0 yJ0_isLatin1_aae02 yJ0_isLatin1_aae02, Cond.code yJ0_isLatin1_aae02 cJ0_isLatin1_aae02 1 (some .boolean), Cond.methodLink RJ0 495 yJ1_charAt_3b067, Cond.static yJ1_charAt_3b067, Cond.initialized RJ1, Cond.code yJ1_charAt_3b067 cJ1_charAt_3b067 2 (some .char), Cond.methodLink RJ1 9 yJ0_checkIndex_df160, Cond.static yJ0_checkIndex_df160, Cond.code yJ0_checkIndex_df160 cJ0_checkIndex_df160 2 none, Cond.fieldLink RJ0 1053 "jdk/internal/util/Preconditions" "SIOOBE_FORMATTER" "Ljava/util/function/BiFunction;", Cond.methodLink RJ0 1059 yJ3_checkIndex_8e157, Cond.static yJ3_checkIndex_8e157, Cond.initialized RJ3, Cond.code yJ3_checkIndex_8e157 cJ3_checkIndex_8e157 3 (some .int), Cond.methodLink RJ0 498 yJ2_charAt_3b067, Cond.static yJ2_charAt_3b067, Cond.initialized RJ2, Cond.code yJ2_charAt_3b067 cJ2_charAt_3b067 2 (some .char), Cond.methodLink RJ2 67 yJ2_checkIndex_2214a]
def wsX4_read_r4 : List Cond := [Cond.static yJ2_checkIndex_2214a, Cond.code yJ2_checkIndex_2214a cJ2_checkIndex_2214a 2 none, Cond.methodLink RJ2 48 yJ2_length_9d52b, Cond.static yJ2_length_9d52b, Cond.code yJ2_length_9d52b cJ2_length_9d52b 1 (some .int), Cond.methodLink RJ2 414 yJ0_checkIndex_df160, Cond.methodLink RJ2 71 yJ2_getChar_3b067, Cond.static yJ2_getChar_3b067, Cond.code yJ2_getChar_3b067 cJ2_getChar_3b067 2 (some .char), Cond.fieldLink RJ2 44 "java/lang/StringUTF16" "$assertionsDisabled" "Z", Cond.fieldLink RJ2 59 "java/lang/StringUTF16" "HI_BYTE_SHIFT" "I", Cond.fieldLink RJ2 63 "java/lang/StringUTF16" "LO_BYTE_SHIFT" "I", Cond.methodLink RX4 54 yX4_readNumber, Cond.instanceMethod yX4_readNumber, Cond.selects RX4 yX4_readNumber yX4_readNumber, Cond.code yX4_readNumber cX4_readNumber 7 (some .boolean), Cond.fieldLink RX4 15 "RainTarget$Reader" "numbers" "[I", Cond.methodLink RX4 58 yX4_readMood, Cond.instanceMethod yX4_readMood, Cond.selects RX4 yX4_readMood yX4_readMood, Cond.code yX4_readMood cX4_readMood 6 (some .boolean), Cond.methodLink RX4 61 yX4_number, Cond.instanceMethod yX4_number, Cond.selects RX4 yX4_number yX4_number]
def wsX4_read_r5 : List Cond := [Cond.code yX4_number cX4_number 3 (some .int)]
def wsX4_read : List Cond := .code yX4_read cX4_read 2 (some .int) :: ((wsX4_read_r1 ++ (wsX4_read_r2 ++ (wsX4_read_r3 ++ (wsX4_read_r4 ++ wsX4_read_r5)))) ++ wsX40 ++ wsX70)
def wsX4_word : List Cond := .code yX4_word cX4_word 2 (some .int) :: ([.fieldLink RX4 9 "RainTarget$Reader" "words" "[I", .static yX9_within, .initialized RX9, .code yX9_within cX9_within 3 (some .boolean)] ++ wsX40)
def wsX4_has : List Cond := .code yX4_has cX4_has 3 (some .boolean) :: ([.fieldLink RX4 22 "RainTarget$Reader" "lines" "I", .methodLink RX4 42 yX4_word, .instanceMethod yX4_word, .selects RX4 yX4_word yX4_word, .initialized RX4, .code yX4_word cX4_word 2 (some .int), .fieldLink RX4 9 "RainTarget$Reader" "words" "[I", .static yX9_within, .initialized RX9, .code yX9_within cX9_within 3 (some .boolean)] ++ wsX40)
def wsX5_init : List Cond := .code yX5_init cX5_init 1 none :: ([.methodLink RX5 3 objectInit, .instanceMethod objectInit, .code objectInit ⟨#[0xb1]⟩ 1 none, .arrayClass .int, .fieldLink RX5 11 "RainTarget$SecondSide" "events" "[I"] ++ wsX50)
def wsX5_begin : List Cond := .code yX5_begin cX5_begin 2 none :: ([.fieldLink RX5 15 "RainTarget$SecondSide" "size" "I", .fieldLink RX5 24 "RainTarget$SecondSide" "overs" "I", .fieldLink RX5 28 "RainTarget$SecondSide" "men" "I", .fieldLink RX5 29 "RainTarget$SecondSide" "runs" "I"] ++ wsX50 ++ wsX60)
def wsX5_isAtEnd : List Cond := .code yX5_isAtEnd cX5_isAtEnd 1 (some .boolean) :: ([.fieldLink RX5 24 "RainTarget$SecondSide" "overs" "I", .fieldLink RX5 28 "RainTarget$SecondSide" "men" "I"] ++ wsX50)
def wsX5_addEvent : List Cond := .code yX5_addEvent cX5_addEvent 5 none :: ([.fieldLink RX5 15 "RainTarget$SecondSide" "size" "I", .fieldLink RX5 11 "RainTarget$SecondSide" "events" "[I", .fieldLink RX5 24 "RainTarget$SecondSide" "overs" "I", .fieldLink RX5 28 "RainTarget$SecondSide" "men" "I", .fieldLink RX5 29 "RainTarget$SecondSide" "runs" "I", .static yX9_within, .initialized RX9, .code yX9_within cX9_within 3 (some .boolean)] ++ wsX50)
def wsX5_addOver : List Cond := .code yX5_addOver cX5_addOver 3 none :: ([.fieldLink RX5 24 "RainTarget$SecondSide" "overs" "I", .fieldLink RX5 28 "RainTarget$SecondSide" "men" "I", .methodLink RX5 36 Lib.Math.max.name, .static Lib.Math.max.name, .initialized "java/lang/Math", .code Lib.Math.max.name Lib.Math.max.code 2 (some .int), .fieldLink RX5 29 "RainTarget$SecondSide" "runs" "I", .methodLink RX5 32 yX5_addEvent, .instanceMethod yX5_addEvent, .selects RX5 yX5_addEvent yX5_addEvent, .initialized RX5, .code yX5_addEvent cX5_addEvent 5 none, .fieldLink RX5 15 "RainTarget$SecondSide" "size" "I", .fieldLink RX5 11 "RainTarget$SecondSide" "events" "[I", .static yX9_within, .initialized RX9, .code yX9_within cX9_within 3 (some .boolean)] ++ wsX50)
def wsX5_addRain : List Cond := .code yX5_addRain cX5_addRain 2 none :: ([.fieldLink RX5 24 "RainTarget$SecondSide" "overs" "I", .methodLink RX5 32 yX5_addEvent, .instanceMethod yX5_addEvent, .selects RX5 yX5_addEvent yX5_addEvent, .initialized RX5, .code yX5_addEvent cX5_addEvent 5 none, .fieldLink RX5 15 "RainTarget$SecondSide" "size" "I", .fieldLink RX5 11 "RainTarget$SecondSide" "events" "[I", .fieldLink RX5 28 "RainTarget$SecondSide" "men" "I", .fieldLink RX5 29 "RainTarget$SecondSide" "runs" "I", .static yX9_within, .initialized RX9, .code yX9_within cX9_within 3 (some .boolean)] ++ wsX50)
def wsX5_part : List Cond := .code yX5_part cX5_part 3 (some .int) :: ([.fieldLink RX5 11 "RainTarget$SecondSide" "events" "[I", .static yX9_within, .initialized RX9, .code yX9_within cX9_within 3 (some .boolean)] ++ wsX50)
def wsX5_lastRain : List Cond := .code yX5_lastRain cX5_lastRain 2 (some .int) :: ([.fieldLink RX5 15 "RainTarget$SecondSide" "size" "I", .methodLink RX5 46 yX5_part, .instanceMethod yX5_part, .selects RX5 yX5_part yX5_part, .initialized RX5, .code yX5_part cX5_part 3 (some .int), .fieldLink RX5 11 "RainTarget$SecondSide" "events" "[I", .static yX9_within, .initialized RX9, .code yX9_within cX9_within 3 (some .boolean)] ++ wsX50)
def wsX6_init : List Cond := .code yX6_init cX6_init 1 none :: ([.methodLink RX6 1 objectInit, .instanceMethod objectInit, .code objectInit ⟨#[0xb1]⟩ 1 none, .fieldLink RX6 7 "RainTarget$Settings" "overs" "I", .fieldLink RX6 13 "RainTarget$Settings" "men" "I", .fieldLink RX6 16 "RainTarget$Settings" "par" "I", .fieldLink RX6 19 "RainTarget$Settings" "bend" "I", .fieldLink RX6 22 "RainTarget$Settings" "cloudTenths" "I", .fieldLink RX6 25 "RainTarget$Settings" "cloudOvers" "I", .fieldLink RX6 28 "RainTarget$Settings" "line" "I"] ++ wsX60)
def wsX7_init : List Cond := .code yX7_init cX7_init 1 none :: ([.methodLink RX7 3 objectInit, .instanceMethod objectInit, .code objectInit ⟨#[0xb1]⟩ 1 none, .arrayClass .int, .fieldLink RX7 9 "RainTarget$Text" "bytes" "[I"] ++ wsX70)
def wsX7_append : List Cond := .code yX7_append cX7_append 5 none :: ([.fieldLink RX7 15 "RainTarget$Text" "length" "I", .fieldLink RX7 9 "RainTarget$Text" "bytes" "[I", .constantLong RX7 23 (255), .static yX9_within, .initialized RX9, .code yX9_within cX9_within 3 (some .boolean)] ++ wsX70)
def wsX8_init : List Cond := .code yX8_init cX8_init 4 none :: ([.methodLink RX8 3 objectInit, .instanceMethod objectInit, .code objectInit ⟨#[0xb1]⟩ 1 none, .arrayClass .int, .fieldLink RX8 9 "RainTarget$Umpire" "keptOdds" "[I", .fieldLink RX8 15 "RainTarget$Umpire" "settings" "LRainTarget$Settings;", .fieldLink RX8 19 "RainTarget$Umpire" "batting" "LRainTarget$Batting;", .fieldLink RX8 23 "RainTarget$Umpire" "first" "LRainTarget$FirstSide;"] ++ wsX80)
def wsX8_begin : List Cond := .code yX8_begin cX8_begin 2 none :: ([.fieldLink RX8 67 "RainTarget$Umpire" "rule" "I", .fieldLink RX8 70 "RainTarget$Umpire" "taken" "I", .fieldLink RX8 73 "RainTarget$Umpire" "lost" "I", .fieldLink RX8 23 "RainTarget$Umpire" "first" "LRainTarget$FirstSide;", .fieldLink RX8 81 "RainTarget$Umpire" "kept" "I"] ++ wsX80 ++ wsX10)
def wsX8_bentShare_r1 : List Cond := [Cond.fieldLink RX8 15 "RainTarget$Umpire" "settings" "LRainTarget$Settings;", Cond.fieldLink RX8 23 "RainTarget$Umpire" "first" "LRainTarget$FirstSide;", Cond.methodLink RX8 118 Lib.Math.min.name, Cond.static Lib.Math.min.name, Cond.initialized "java/lang/Math", Cond.code Lib.Math.min.name Lib.Math.min.code 2 (some .int), Cond.methodLink RX8 121 Lib.Math.max.name, Cond.static Lib.Math.max.name, Cond.code Lib.Math.max.name Lib.Math.max.code 2 (some .int), Cond.fieldLink RX8 19 "RainTarget$Umpire" "batting" "LRainTarget$Batting;", Cond.instanceMethod yX0_share, Cond.initialized RX0, Cond.selects RX0 yX0_share yX0_share, Cond.code yX0_share cX0_share 6 (some .int), Cond.constantLong RX0 73 (1000), Cond.methodLink RX0 56 yX0_mean, Cond.instanceMethod yX0_mean, Cond.selects RX0 yX0_mean yX0_mean, Cond.code yX0_mean cX0_mean 3 (some .long), Cond.fieldLink RX0 9 "RainTarget$Batting" "means" "[J", Cond.static yX9_within, Cond.initialized RX9, Cond.code yX9_within cX9_within 3 (some .boolean), Cond.static yX9_power]
def wsX8_bentShare_r2 : List Cond := [Cond.code yX9_power cX9_power 1 (some .long), Cond.fieldLink RX9 259 "RainTarget" "TEN" "[J", Cond.methodLink RX9 85 yX9_within, Cond.static yX9_cut, Cond.code yX9_cut cX9_cut 4 (some .long)]
def wsX8_bentShare : List Cond := .code yX8_bentShare cX8_bentShare 8 (some .int) :: ((wsX8_bentShare_r1 ++ wsX8_bentShare_r2) ++ wsX80 ++ wsX60 ++ wsX10 ++ wsX00)
def wsX8_keepingOdds_r1 : List Cond := [Cond.fieldLink RX8 19 "RainTarget$Umpire" "batting" "LRainTarget$Batting;", Cond.fieldLink RX8 81 "RainTarget$Umpire" "kept" "I", Cond.instanceMethod yX0_chance, Cond.initialized RX0, Cond.selects RX0 yX0_chance yX0_chance, Cond.code yX0_chance cX0_chance 8 (some .long), Cond.fieldLink RX0 15 "RainTarget$Batting" "chances" "[J", Cond.methodLink RX0 32 Lib.MathLoose.max_long.x, Cond.static Lib.MathLoose.max_long.x, Cond.initialized "java/lang/Math", Cond.code Lib.MathLoose.max_long.x Lib.MathLoose.max_long.code 4 (some .long), Cond.static yX9_power, Cond.initialized RX9, Cond.code yX9_power cX9_power 1 (some .long), Cond.fieldLink RX9 259 "RainTarget" "TEN" "[J", Cond.methodLink RX9 85 yX9_within, Cond.static yX9_within, Cond.code yX9_within cX9_within 3 (some .boolean), Cond.methodLink RX0 60 yX0_chanceIn, Cond.instanceMethod yX0_chanceIn, Cond.selects RX0 yX0_chanceIn yX0_chanceIn, Cond.code yX0_chanceIn cX0_chanceIn 9 (some .long), Cond.fieldLink RX0 18 "RainTarget$Batting" "moods" "LRainTarget$Moods;", Cond.instanceMethod yX3_size]
def wsX8_keepingOdds_r2 : List Cond := [Cond.initialized RX3, Cond.selects RX3 yX3_size yX3_size, Cond.code yX3_size cX3_size 2 (some .int), Cond.fieldLink RX3 9 "RainTarget$Moods" "sizes" "[I", Cond.instanceMethod yX3_part, Cond.selects RX3 yX3_part yX3_part, Cond.code yX3_part cX3_part 5 (some .int), Cond.fieldLink RX3 15 "RainTarget$Moods" "parts" "[I", Cond.methodLink RX0 64 yX0_chance]
def wsX8_keepingOdds : List Cond := .code yX8_keepingOdds cX8_keepingOdds 10 (some .int) :: ((wsX8_keepingOdds_r1 ++ wsX8_keepingOdds_r2) ++ wsX80 ++ wsX00 ++ wsX30)
def wsX8_hear_r1 : List Cond := [Cond.fieldLink RX8 70 "RainTarget$Umpire" "taken" "I", Cond.fieldLink RX8 67 "RainTarget$Umpire" "rule" "I", Cond.fieldLink RX8 73 "RainTarget$Umpire" "lost" "I", Cond.fieldLink RX8 19 "RainTarget$Umpire" "batting" "LRainTarget$Batting;", Cond.fieldLink RX8 15 "RainTarget$Umpire" "settings" "LRainTarget$Settings;", Cond.fieldLink RX8 81 "RainTarget$Umpire" "kept" "I", Cond.instanceMethod yX0_share, Cond.initialized RX0, Cond.selects RX0 yX0_share yX0_share, Cond.code yX0_share cX0_share 6 (some .int), Cond.constantLong RX0 73 (1000), Cond.methodLink RX0 56 yX0_mean, Cond.instanceMethod yX0_mean, Cond.selects RX0 yX0_mean yX0_mean, Cond.code yX0_mean cX0_mean 3 (some .long), Cond.fieldLink RX0 9 "RainTarget$Batting" "means" "[J", Cond.static yX9_within, Cond.initialized RX9, Cond.code yX9_within cX9_within 3 (some .boolean), Cond.static yX9_power, Cond.code yX9_power cX9_power 1 (some .long), Cond.fieldLink RX9 259 "RainTarget" "TEN" "[J", Cond.methodLink RX9 85 yX9_within, Cond.static yX9_cut]
def wsX8_hear_r2 : List Cond := [Cond.code yX9_cut cX9_cut 4 (some .long), Cond.methodLink RX8 90 yX8_bentShare, Cond.instanceMethod yX8_bentShare, Cond.selects RX8 yX8_bentShare yX8_bentShare, Cond.initialized RX8, Cond.code yX8_bentShare cX8_bentShare 8 (some .int), Cond.fieldLink RX8 23 "RainTarget$Umpire" "first" "LRainTarget$FirstSide;", Cond.methodLink RX8 118 Lib.Math.min.name, Cond.static Lib.Math.min.name, Cond.initialized "java/lang/Math", Cond.code Lib.Math.min.name Lib.Math.min.code 2 (some .int), Cond.methodLink RX8 121 Lib.Math.max.name, Cond.static Lib.Math.max.name, Cond.code Lib.Math.max.name Lib.Math.max.code 2 (some .int), Cond.methodLink RX8 54 yX8_keepingOdds, Cond.instanceMethod yX8_keepingOdds, Cond.selects RX8 yX8_keepingOdds yX8_keepingOdds, Cond.code yX8_keepingOdds cX8_keepingOdds 10 (some .int), Cond.instanceMethod yX0_chance, Cond.selects RX0 yX0_chance yX0_chance, Cond.code yX0_chance cX0_chance 8 (some .long), Cond.fieldLink RX0 15 "RainTarget$Batting" "chances" "[J", Cond.methodLink RX0 32 Lib.MathLoose.max_long.x, Cond.static Lib.MathLoose.max_long.x]
def wsX8_hear_r3 : List Cond := [Cond.code Lib.MathLoose.max_long.x Lib.MathLoose.max_long.code 4 (some .long), Cond.methodLink RX0 60 yX0_chanceIn, Cond.instanceMethod yX0_chanceIn, Cond.selects RX0 yX0_chanceIn yX0_chanceIn, Cond.code yX0_chanceIn cX0_chanceIn 9 (some .long), Cond.fieldLink RX0 18 "RainTarget$Batting" "moods" "LRainTarget$Moods;", Cond.instanceMethod yX3_size, Cond.initialized RX3, Cond.selects RX3 yX3_size yX3_size, Cond.code yX3_size cX3_size 2 (some .int), Cond.fieldLink RX3 9 "RainTarget$Moods" "sizes" "[I", Cond.instanceMethod yX3_part, Cond.selects RX3 yX3_part yX3_part, Cond.code yX3_part cX3_part 5 (some .int), Cond.fieldLink RX3 15 "RainTarget$Moods" "parts" "[I", Cond.methodLink RX0 64 yX0_chance]
def wsX8_hear : List Cond := .code yX8_hear cX8_hear 5 none :: ((wsX8_hear_r1 ++ (wsX8_hear_r2 ++ wsX8_hear_r3)) ++ wsX80 ++ wsX60 ++ wsX00 ++ wsX10 ++ wsX30)
def wsX8_atLeastOne : List Cond := .code yX8_atLeastOne cX8_atLeastOne 2 (some .int) :: ([.methodLink RX8 109 Lib.MathLoose.max_long.x, .static Lib.MathLoose.max_long.x, .initialized "java/lang/Math", .code Lib.MathLoose.max_long.x Lib.MathLoose.max_long.code 4 (some .long)])
def wsX8_said : List Cond := .code yX8_said cX8_said 3 (some .int) :: ([.fieldLink RX8 23 "RainTarget$Umpire" "first" "LRainTarget$FirstSide;", .methodLink RX8 97 yX8_atLeastOne, .static yX8_atLeastOne, .initialized RX8, .code yX8_atLeastOne cX8_atLeastOne 2 (some .int), .methodLink RX8 109 Lib.MathLoose.max_long.x, .static Lib.MathLoose.max_long.x, .initialized "java/lang/Math", .code Lib.MathLoose.max_long.x Lib.MathLoose.max_long.code 4 (some .long)] ++ wsX80 ++ wsX10)
def wsX8_ruled_r1 : List Cond := [Cond.fieldLink RX8 67 "RainTarget$Umpire" "rule" "I", Cond.fieldLink RX8 23 "RainTarget$Umpire" "first" "LRainTarget$FirstSide;", Cond.fieldLink RX8 15 "RainTarget$Umpire" "settings" "LRainTarget$Settings;", Cond.fieldLink RX8 70 "RainTarget$Umpire" "taken" "I", Cond.fieldLink RX8 73 "RainTarget$Umpire" "lost" "I", Cond.constantLong RX8 104 (1000), Cond.fieldLink RX8 81 "RainTarget$Umpire" "kept" "I", Cond.static yX9_cut, Cond.initialized RX9, Cond.code yX9_cut cX9_cut 4 (some .long), Cond.methodLink RX8 97 yX8_atLeastOne, Cond.static yX8_atLeastOne, Cond.initialized RX8, Cond.code yX8_atLeastOne cX8_atLeastOne 2 (some .int), Cond.methodLink RX8 109 Lib.MathLoose.max_long.x, Cond.static Lib.MathLoose.max_long.x, Cond.initialized "java/lang/Math", Cond.code Lib.MathLoose.max_long.x Lib.MathLoose.max_long.code 4 (some .long), Cond.instanceMethod yX1_withoutLeast, Cond.initialized RX1, Cond.selects RX1 yX1_withoutLeast yX1_withoutLeast, Cond.code yX1_withoutLeast cX1_withoutLeast 5 (some .int), Cond.fieldLink RX1 9 "RainTarget$FirstSide" "overs" "[I", Cond.methodLink RX1 32 yX1_rank]
def wsX8_ruled_r2 : List Cond := [Cond.instanceMethod yX1_rank, Cond.selects RX1 yX1_rank yX1_rank, Cond.code yX1_rank cX1_rank 5 (some .int), Cond.static yX9_within, Cond.code yX9_within cX9_within 3 (some .boolean), Cond.methodLink RX8 58 yX8_said, Cond.instanceMethod yX8_said, Cond.selects RX8 yX8_said yX8_said, Cond.code yX8_said cX8_said 3 (some .int)]
def wsX8_ruled : List Cond := .code yX8_ruled cX8_ruled 1 (some .int) :: ((wsX8_ruled_r1 ++ wsX8_ruled_r2) ++ wsX80 ++ wsX10 ++ wsX60)
def wsX8_behind_r1 : List Cond := [Cond.methodLink RX8 27 yX8_begin, Cond.instanceMethod yX8_begin, Cond.selects RX8 yX8_begin yX8_begin, Cond.initialized RX8, Cond.code yX8_begin cX8_begin 2 none, Cond.fieldLink RX8 67 "RainTarget$Umpire" "rule" "I", Cond.fieldLink RX8 70 "RainTarget$Umpire" "taken" "I", Cond.fieldLink RX8 73 "RainTarget$Umpire" "lost" "I", Cond.fieldLink RX8 23 "RainTarget$Umpire" "first" "LRainTarget$FirstSide;", Cond.fieldLink RX8 81 "RainTarget$Umpire" "kept" "I", Cond.instanceMethod yX5_part, Cond.initialized RX5, Cond.selects RX5 yX5_part yX5_part, Cond.code yX5_part cX5_part 3 (some .int), Cond.fieldLink RX5 11 "RainTarget$SecondSide" "events" "[I", Cond.static yX9_within, Cond.initialized RX9, Cond.code yX9_within cX9_within 3 (some .boolean), Cond.methodLink RX8 37 yX8_hear, Cond.instanceMethod yX8_hear, Cond.selects RX8 yX8_hear yX8_hear, Cond.code yX8_hear cX8_hear 5 none, Cond.fieldLink RX8 19 "RainTarget$Umpire" "batting" "LRainTarget$Batting;", Cond.fieldLink RX8 15 "RainTarget$Umpire" "settings" "LRainTarget$Settings;"]
def wsX8_behind_r2 : List Cond := [Cond.instanceMethod yX0_share, Cond.initialized RX0, Cond.selects RX0 yX0_share yX0_share, Cond.code yX0_share cX0_share 6 (some .int), Cond.constantLong RX0 73 (1000), Cond.methodLink RX0 56 yX0_mean, Cond.instanceMethod yX0_mean, Cond.selects RX0 yX0_mean yX0_mean, Cond.code yX0_mean cX0_mean 3 (some .long), Cond.fieldLink RX0 9 "RainTarget$Batting" "means" "[J", Cond.static yX9_power, Cond.code yX9_power cX9_power 1 (some .long), Cond.fieldLink RX9 259 "RainTarget" "TEN" "[J", Cond.methodLink RX9 85 yX9_within, Cond.static yX9_cut, Cond.code yX9_cut cX9_cut 4 (some .long), Cond.methodLink RX8 90 yX8_bentShare, Cond.instanceMethod yX8_bentShare, Cond.selects RX8 yX8_bentShare yX8_bentShare, Cond.code yX8_bentShare cX8_bentShare 8 (some .int), Cond.methodLink RX8 118 Lib.Math.min.name, Cond.static Lib.Math.min.name, Cond.initialized "java/lang/Math", Cond.code Lib.Math.min.name Lib.Math.min.code 2 (some .int)]
def wsX8_behind_r3 : List Cond := [Cond.methodLink RX8 121 Lib.Math.max.name, Cond.static Lib.Math.max.name, Cond.code Lib.Math.max.name Lib.Math.max.code 2 (some .int), Cond.methodLink RX8 54 yX8_keepingOdds, Cond.instanceMethod yX8_keepingOdds, Cond.selects RX8 yX8_keepingOdds yX8_keepingOdds, Cond.code yX8_keepingOdds cX8_keepingOdds 10 (some .int), Cond.instanceMethod yX0_chance, Cond.selects RX0 yX0_chance yX0_chance, Cond.code yX0_chance cX0_chance 8 (some .long), Cond.fieldLink RX0 15 "RainTarget$Batting" "chances" "[J", Cond.methodLink RX0 32 Lib.MathLoose.max_long.x, Cond.static Lib.MathLoose.max_long.x, Cond.code Lib.MathLoose.max_long.x Lib.MathLoose.max_long.code 4 (some .long), Cond.methodLink RX0 60 yX0_chanceIn, Cond.instanceMethod yX0_chanceIn, Cond.selects RX0 yX0_chanceIn yX0_chanceIn, Cond.code yX0_chanceIn cX0_chanceIn 9 (some .long), Cond.fieldLink RX0 18 "RainTarget$Batting" "moods" "LRainTarget$Moods;", Cond.instanceMethod yX3_size, Cond.initialized RX3, Cond.selects RX3 yX3_size yX3_size, Cond.code yX3_size cX3_size 2 (some .int), Cond.fieldLink RX3 9 "RainTarget$Moods" "sizes" "[I"]
def wsX8_behind_r4 : List Cond := [Cond.instanceMethod yX3_part, Cond.selects RX3 yX3_part yX3_part, Cond.code yX3_part cX3_part 5 (some .int), Cond.fieldLink RX3 15 "RainTarget$Moods" "parts" "[I", Cond.methodLink RX0 64 yX0_chance, Cond.methodLink RX8 41 yX8_ruled, Cond.instanceMethod yX8_ruled, Cond.selects RX8 yX8_ruled yX8_ruled, Cond.code yX8_ruled cX8_ruled 1 (some .int), Cond.constantLong RX8 104 (1000), Cond.methodLink RX8 97 yX8_atLeastOne, Cond.static yX8_atLeastOne, Cond.code yX8_atLeastOne cX8_atLeastOne 2 (some .int), Cond.methodLink RX8 109 Lib.MathLoose.max_long.x, Cond.instanceMethod yX1_withoutLeast, Cond.initialized RX1, Cond.selects RX1 yX1_withoutLeast yX1_withoutLeast, Cond.code yX1_withoutLeast cX1_withoutLeast 5 (some .int), Cond.fieldLink RX1 9 "RainTarget$FirstSide" "overs" "[I", Cond.methodLink RX1 32 yX1_rank, Cond.instanceMethod yX1_rank, Cond.selects RX1 yX1_rank yX1_rank, Cond.code yX1_rank cX1_rank 5 (some .int), Cond.methodLink RX8 58 yX8_said]
def wsX8_behind_r5 : List Cond := [Cond.instanceMethod yX8_said, Cond.selects RX8 yX8_said yX8_said, Cond.code yX8_said cX8_said 3 (some .int)]
def wsX8_behind : List Cond := .code yX8_behind cX8_behind 5 (some .int) :: ((wsX8_behind_r1 ++ (wsX8_behind_r2 ++ (wsX8_behind_r3 ++ (wsX8_behind_r4 ++ wsX8_behind_r5)))) ++ wsX80 ++ wsX10 ++ wsX50 ++ wsX60 ++ wsX00 ++ wsX30)
def wsX8_afterOneRain_r1 : List Cond := [Cond.fieldLink RX8 15 "RainTarget$Umpire" "settings" "LRainTarget$Settings;", Cond.methodLink RX8 27 yX8_begin, Cond.instanceMethod yX8_begin, Cond.selects RX8 yX8_begin yX8_begin, Cond.initialized RX8, Cond.code yX8_begin cX8_begin 2 none, Cond.fieldLink RX8 67 "RainTarget$Umpire" "rule" "I", Cond.fieldLink RX8 70 "RainTarget$Umpire" "taken" "I", Cond.fieldLink RX8 73 "RainTarget$Umpire" "lost" "I", Cond.fieldLink RX8 23 "RainTarget$Umpire" "first" "LRainTarget$FirstSide;", Cond.fieldLink RX8 81 "RainTarget$Umpire" "kept" "I", Cond.methodLink RX8 37 yX8_hear, Cond.instanceMethod yX8_hear, Cond.selects RX8 yX8_hear yX8_hear, Cond.code yX8_hear cX8_hear 5 none, Cond.fieldLink RX8 19 "RainTarget$Umpire" "batting" "LRainTarget$Batting;", Cond.instanceMethod yX0_share, Cond.initialized RX0, Cond.selects RX0 yX0_share yX0_share, Cond.code yX0_share cX0_share 6 (some .int), Cond.constantLong RX0 73 (1000), Cond.methodLink RX0 56 yX0_mean, Cond.instanceMethod yX0_mean, Cond.selects RX0 yX0_mean yX0_mean]
def wsX8_afterOneRain_r2 : List Cond := [Cond.code yX0_mean cX0_mean 3 (some .long), Cond.fieldLink RX0 9 "RainTarget$Batting" "means" "[J", Cond.static yX9_within, Cond.initialized RX9, Cond.code yX9_within cX9_within 3 (some .boolean), Cond.static yX9_power, Cond.code yX9_power cX9_power 1 (some .long), Cond.fieldLink RX9 259 "RainTarget" "TEN" "[J", Cond.methodLink RX9 85 yX9_within, Cond.static yX9_cut, Cond.code yX9_cut cX9_cut 4 (some .long), Cond.methodLink RX8 90 yX8_bentShare, Cond.instanceMethod yX8_bentShare, Cond.selects RX8 yX8_bentShare yX8_bentShare, Cond.code yX8_bentShare cX8_bentShare 8 (some .int), Cond.methodLink RX8 118 Lib.Math.min.name, Cond.static Lib.Math.min.name, Cond.initialized "java/lang/Math", Cond.code Lib.Math.min.name Lib.Math.min.code 2 (some .int), Cond.methodLink RX8 121 Lib.Math.max.name, Cond.static Lib.Math.max.name, Cond.code Lib.Math.max.name Lib.Math.max.code 2 (some .int), Cond.methodLink RX8 54 yX8_keepingOdds, Cond.instanceMethod yX8_keepingOdds]
def wsX8_afterOneRain_r3 : List Cond := [Cond.selects RX8 yX8_keepingOdds yX8_keepingOdds, Cond.code yX8_keepingOdds cX8_keepingOdds 10 (some .int), Cond.instanceMethod yX0_chance, Cond.selects RX0 yX0_chance yX0_chance, Cond.code yX0_chance cX0_chance 8 (some .long), Cond.fieldLink RX0 15 "RainTarget$Batting" "chances" "[J", Cond.methodLink RX0 32 Lib.MathLoose.max_long.x, Cond.static Lib.MathLoose.max_long.x, Cond.code Lib.MathLoose.max_long.x Lib.MathLoose.max_long.code 4 (some .long), Cond.methodLink RX0 60 yX0_chanceIn, Cond.instanceMethod yX0_chanceIn, Cond.selects RX0 yX0_chanceIn yX0_chanceIn, Cond.code yX0_chanceIn cX0_chanceIn 9 (some .long), Cond.fieldLink RX0 18 "RainTarget$Batting" "moods" "LRainTarget$Moods;", Cond.instanceMethod yX3_size, Cond.initialized RX3, Cond.selects RX3 yX3_size yX3_size, Cond.code yX3_size cX3_size 2 (some .int), Cond.fieldLink RX3 9 "RainTarget$Moods" "sizes" "[I", Cond.instanceMethod yX3_part, Cond.selects RX3 yX3_part yX3_part, Cond.code yX3_part cX3_part 5 (some .int), Cond.fieldLink RX3 15 "RainTarget$Moods" "parts" "[I", Cond.methodLink RX0 64 yX0_chance]
def wsX8_afterOneRain_r4 : List Cond := [Cond.methodLink RX8 41 yX8_ruled, Cond.instanceMethod yX8_ruled, Cond.selects RX8 yX8_ruled yX8_ruled, Cond.code yX8_ruled cX8_ruled 1 (some .int), Cond.constantLong RX8 104 (1000), Cond.methodLink RX8 97 yX8_atLeastOne, Cond.static yX8_atLeastOne, Cond.code yX8_atLeastOne cX8_atLeastOne 2 (some .int), Cond.methodLink RX8 109 Lib.MathLoose.max_long.x, Cond.instanceMethod yX1_withoutLeast, Cond.initialized RX1, Cond.selects RX1 yX1_withoutLeast yX1_withoutLeast, Cond.code yX1_withoutLeast cX1_withoutLeast 5 (some .int), Cond.fieldLink RX1 9 "RainTarget$FirstSide" "overs" "[I", Cond.methodLink RX1 32 yX1_rank, Cond.instanceMethod yX1_rank, Cond.selects RX1 yX1_rank yX1_rank, Cond.code yX1_rank cX1_rank 5 (some .int), Cond.methodLink RX8 58 yX8_said, Cond.instanceMethod yX8_said, Cond.selects RX8 yX8_said yX8_said, Cond.code yX8_said cX8_said 3 (some .int)]
def wsX8_afterOneRain : List Cond := .code yX8_afterOneRain cX8_afterOneRain 4 (some .int) :: ((wsX8_afterOneRain_r1 ++ (wsX8_afterOneRain_r2 ++ (wsX8_afterOneRain_r3 ++ wsX8_afterOneRain_r4))) ++ wsX80 ++ wsX60 ++ wsX10 ++ wsX00 ++ wsX30)
def wsX8_keepOddsOnSheet_r1 : List Cond := [Cond.fieldLink RX8 15 "RainTarget$Umpire" "settings" "LRainTarget$Settings;", Cond.fieldLink RX8 9 "RainTarget$Umpire" "keptOdds" "[I", Cond.methodLink RX8 27 yX8_begin, Cond.instanceMethod yX8_begin, Cond.selects RX8 yX8_begin yX8_begin, Cond.initialized RX8, Cond.code yX8_begin cX8_begin 2 none, Cond.fieldLink RX8 67 "RainTarget$Umpire" "rule" "I", Cond.fieldLink RX8 70 "RainTarget$Umpire" "taken" "I", Cond.fieldLink RX8 73 "RainTarget$Umpire" "lost" "I", Cond.fieldLink RX8 23 "RainTarget$Umpire" "first" "LRainTarget$FirstSide;", Cond.fieldLink RX8 81 "RainTarget$Umpire" "kept" "I", Cond.methodLink RX8 54 yX8_keepingOdds, Cond.instanceMethod yX8_keepingOdds, Cond.selects RX8 yX8_keepingOdds yX8_keepingOdds, Cond.code yX8_keepingOdds cX8_keepingOdds 10 (some .int), Cond.fieldLink RX8 19 "RainTarget$Umpire" "batting" "LRainTarget$Batting;", Cond.instanceMethod yX0_chance, Cond.initialized RX0, Cond.selects RX0 yX0_chance yX0_chance, Cond.code yX0_chance cX0_chance 8 (some .long), Cond.fieldLink RX0 15 "RainTarget$Batting" "chances" "[J", Cond.methodLink RX0 32 Lib.MathLoose.max_long.x, Cond.static Lib.MathLoose.max_long.x]
def wsX8_keepOddsOnSheet_r2 : List Cond := [Cond.initialized "java/lang/Math", Cond.code Lib.MathLoose.max_long.x Lib.MathLoose.max_long.code 4 (some .long), Cond.static yX9_power, Cond.initialized RX9, Cond.code yX9_power cX9_power 1 (some .long), Cond.fieldLink RX9 259 "RainTarget" "TEN" "[J", Cond.methodLink RX9 85 yX9_within, Cond.static yX9_within, Cond.code yX9_within cX9_within 3 (some .boolean), Cond.methodLink RX0 60 yX0_chanceIn, Cond.instanceMethod yX0_chanceIn, Cond.selects RX0 yX0_chanceIn yX0_chanceIn, Cond.code yX0_chanceIn cX0_chanceIn 9 (some .long), Cond.fieldLink RX0 18 "RainTarget$Batting" "moods" "LRainTarget$Moods;", Cond.instanceMethod yX3_size, Cond.initialized RX3, Cond.selects RX3 yX3_size yX3_size, Cond.code yX3_size cX3_size 2 (some .int), Cond.fieldLink RX3 9 "RainTarget$Moods" "sizes" "[I", Cond.instanceMethod yX3_part, Cond.selects RX3 yX3_part yX3_part, Cond.code yX3_part cX3_part 5 (some .int), Cond.fieldLink RX3 15 "RainTarget$Moods" "parts" "[I", Cond.methodLink RX0 64 yX0_chance]
def wsX8_keepOddsOnSheet : List Cond := .code yX8_keepOddsOnSheet cX8_keepOddsOnSheet 2 none :: ((wsX8_keepOddsOnSheet_r1 ++ wsX8_keepOddsOnSheet_r2) ++ wsX80 ++ wsX60 ++ wsX10 ++ wsX00 ++ wsX30)
def wsX8_differenceOf : List Cond := .code yX8_differenceOf cX8_differenceOf 4 (some .int) :: ([.fieldLink RX8 15 "RainTarget$Umpire" "settings" "LRainTarget$Settings;", .fieldLink RX8 9 "RainTarget$Umpire" "keptOdds" "[I", .methodLink RX8 61 Lib.Math.abs.name, .static Lib.Math.abs.name, .initialized "java/lang/Math", .code Lib.Math.abs.name Lib.Math.abs.code 1 (some .int), .methodLink RX8 58 yX8_said, .instanceMethod yX8_said, .selects RX8 yX8_said yX8_said, .initialized RX8, .code yX8_said cX8_said 3 (some .int), .fieldLink RX8 23 "RainTarget$Umpire" "first" "LRainTarget$FirstSide;", .methodLink RX8 97 yX8_atLeastOne, .static yX8_atLeastOne, .code yX8_atLeastOne cX8_atLeastOne 2 (some .int), .methodLink RX8 109 Lib.MathLoose.max_long.x, .static Lib.MathLoose.max_long.x, .code Lib.MathLoose.max_long.x Lib.MathLoose.max_long.code 4 (some .long)] ++ wsX80 ++ wsX60 ++ wsX10)
def wsX9_init_r1 : List Cond := [Cond.methodLink RX9 3 objectInit, Cond.instanceMethod objectInit, Cond.code objectInit ⟨#[0xb1]⟩ 1 none, Cond.classLink RX9 9 RX7, Cond.instantiable RX7 2, Cond.initialized RX7, Cond.fieldLink RX9 12 "RainTarget" "text" "LRainTarget$Text;", Cond.classLink RX9 16 RX4, Cond.instantiable RX4 7, Cond.initialized RX4, Cond.fieldLink RX9 21 "RainTarget" "reader" "LRainTarget$Reader;", Cond.classLink RX9 25 RX6, Cond.instantiable RX6 7, Cond.initialized RX6, Cond.fieldLink RX9 28 "RainTarget" "settings" "LRainTarget$Settings;", Cond.classLink RX9 32 RX3, Cond.instantiable RX3 2, Cond.initialized RX3, Cond.fieldLink RX9 35 "RainTarget" "moods" "LRainTarget$Moods;", Cond.classLink RX9 39 RX0, Cond.instantiable RX0 3, Cond.initialized RX0, Cond.fieldLink RX9 44 "RainTarget" "batting" "LRainTarget$Batting;", Cond.classLink RX9 48 RX1]
def wsX9_init_r2 : List Cond := [Cond.instantiable RX1 3, Cond.initialized RX1, Cond.fieldLink RX9 51 "RainTarget" "first" "LRainTarget$FirstSide;", Cond.classLink RX9 55 RX5, Cond.instantiable RX5 5, Cond.initialized RX5, Cond.fieldLink RX9 58 "RainTarget" "second" "LRainTarget$SecondSide;", Cond.classLink RX9 62 RX8, Cond.instantiable RX8 8, Cond.initialized RX8, Cond.fieldLink RX9 67 "RainTarget" "umpire" "LRainTarget$Umpire;", Cond.classLink RX9 71 RX2, Cond.instantiable RX2 2, Cond.initialized RX2, Cond.fieldLink RX9 74 "RainTarget" "matches" "LRainTarget$Matches;", Cond.instanceMethod yX7_init, Cond.code yX7_init cX7_init 1 none, Cond.methodLink RX7 3 objectInit, Cond.arrayClass .int, Cond.fieldLink RX7 9 "RainTarget$Text" "bytes" "[I", Cond.instanceMethod yX4_init, Cond.code yX4_init cX4_init 2 none, Cond.methodLink RX4 3 objectInit, Cond.fieldLink RX4 9 "RainTarget$Reader" "words" "[I"]
def wsX9_init_r3 : List Cond := [Cond.fieldLink RX4 15 "RainTarget$Reader" "numbers" "[I", Cond.fieldLink RX4 18 "RainTarget$Reader" "text" "LRainTarget$Text;", Cond.instanceMethod yX6_init, Cond.code yX6_init cX6_init 1 none, Cond.methodLink RX6 1 objectInit, Cond.fieldLink RX6 7 "RainTarget$Settings" "overs" "I", Cond.fieldLink RX6 13 "RainTarget$Settings" "men" "I", Cond.fieldLink RX6 16 "RainTarget$Settings" "par" "I", Cond.fieldLink RX6 19 "RainTarget$Settings" "bend" "I", Cond.fieldLink RX6 22 "RainTarget$Settings" "cloudTenths" "I", Cond.fieldLink RX6 25 "RainTarget$Settings" "cloudOvers" "I", Cond.fieldLink RX6 28 "RainTarget$Settings" "line" "I", Cond.instanceMethod yX3_init, Cond.code yX3_init cX3_init 1 none, Cond.methodLink RX3 3 objectInit, Cond.fieldLink RX3 9 "RainTarget$Moods" "sizes" "[I", Cond.fieldLink RX3 15 "RainTarget$Moods" "parts" "[I", Cond.methodLink RX3 18 yX3_add, Cond.instanceMethod yX3_add, Cond.selects RX3 yX3_add yX3_add, Cond.code yX3_add cX3_add 6 none, Cond.static yX9_within, Cond.initialized RX9, Cond.code yX9_within cX9_within 3 (some .boolean)]
def wsX9_init_r4 : List Cond := [Cond.instanceMethod yX0_init, Cond.code yX0_init cX0_init 2 none, Cond.methodLink RX0 3 objectInit, Cond.arrayClass .long, Cond.fieldLink RX0 9 "RainTarget$Batting" "means" "[J", Cond.fieldLink RX0 15 "RainTarget$Batting" "chances" "[J", Cond.fieldLink RX0 18 "RainTarget$Batting" "moods" "LRainTarget$Moods;", Cond.instanceMethod yX1_init, Cond.code yX1_init cX1_init 1 none, Cond.methodLink RX1 3 objectInit, Cond.fieldLink RX1 9 "RainTarget$FirstSide" "overs" "[I", Cond.instanceMethod yX5_init, Cond.code yX5_init cX5_init 1 none, Cond.methodLink RX5 3 objectInit, Cond.fieldLink RX5 11 "RainTarget$SecondSide" "events" "[I", Cond.instanceMethod yX8_init, Cond.code yX8_init cX8_init 4 none, Cond.methodLink RX8 3 objectInit, Cond.fieldLink RX8 9 "RainTarget$Umpire" "keptOdds" "[I", Cond.fieldLink RX8 15 "RainTarget$Umpire" "settings" "LRainTarget$Settings;", Cond.fieldLink RX8 19 "RainTarget$Umpire" "batting" "LRainTarget$Batting;", Cond.fieldLink RX8 23 "RainTarget$Umpire" "first" "LRainTarget$FirstSide;", Cond.instanceMethod yX2_init, Cond.code yX2_init cX2_init 1 none]
def wsX9_init_r5 : List Cond := [Cond.methodLink RX2 3 objectInit, Cond.fieldLink RX2 11 "RainTarget$Matches" "parts" "[I", Cond.instanceMethod yX0_learn, Cond.selects RX0 yX0_learn yX0_learn, Cond.code yX0_learn cX0_learn 6 none, Cond.methodLink RX0 32 Lib.MathLoose.max_long.x, Cond.static Lib.MathLoose.max_long.x, Cond.initialized "java/lang/Math", Cond.code Lib.MathLoose.max_long.x Lib.MathLoose.max_long.code 4 (some .long), Cond.methodLink RX0 22 yJ7_fill_d0a16, Cond.static yJ7_fill_d0a16, Cond.initialized RJ7, Cond.code yJ7_fill_d0a16 cJ7_fill_d0a16 5 none, Cond.methodLink RX0 28 yX0_meanIn, Cond.instanceMethod yX0_meanIn, Cond.selects RX0 yX0_meanIn yX0_meanIn, Cond.code yX0_meanIn cX0_meanIn 11 (some .long), Cond.instanceMethod yX3_size, Cond.selects RX3 yX3_size yX3_size, Cond.code yX3_size cX3_size 2 (some .int), Cond.instanceMethod yX3_part, Cond.selects RX3 yX3_part yX3_part, Cond.code yX3_part cX3_part 5 (some .int), Cond.static yX9_power]
def wsX9_init_r6 : List Cond := [Cond.code yX9_power cX9_power 1 (some .long), Cond.fieldLink RX9 259 "RainTarget" "TEN" "[J", Cond.methodLink RX9 85 yX9_within, Cond.methodLink RX0 56 yX0_mean, Cond.instanceMethod yX0_mean, Cond.selects RX0 yX0_mean yX0_mean, Cond.code yX0_mean cX0_mean 3 (some .long), Cond.instanceMethod yX5_begin, Cond.selects RX5 yX5_begin yX5_begin, Cond.code yX5_begin cX5_begin 2 none, Cond.fieldLink RX5 15 "RainTarget$SecondSide" "size" "I", Cond.fieldLink RX5 24 "RainTarget$SecondSide" "overs" "I", Cond.fieldLink RX5 28 "RainTarget$SecondSide" "men" "I", Cond.fieldLink RX5 29 "RainTarget$SecondSide" "runs" "I"]
def wsX9_init : List Cond := .code yX9_init cX9_init 1 none :: ((wsX9_init_r1 ++ (wsX9_init_r2 ++ (wsX9_init_r3 ++ (wsX9_init_r4 ++ (wsX9_init_r5 ++ wsX9_init_r6))))) ++ wsX70 ++ wsX90 ++ wsX40 ++ wsX60 ++ wsX30 ++ wsX00 ++ wsX10 ++ wsX50 ++ wsX80 ++ wsX20)
def wsX9_write : List Cond := .code yX9_write cX9_write 4 (some .int) :: ([.fieldLink RX9 12 "RainTarget" "text" "LRainTarget$Text;", .methodLink RX9 85 yX9_within, .static yX9_within, .initialized RX9, .code yX9_within cX9_within 3 (some .boolean), .instanceMethod yX7_append, .initialized RX7, .selects RX7 yX7_append yX7_append, .code yX7_append cX7_append 5 none, .fieldLink RX7 15 "RainTarget$Text" "length" "I", .fieldLink RX7 9 "RainTarget$Text" "bytes" "[I", .constantLong RX7 23 (255)] ++ wsX90 ++ wsX70)
def wsX9_erase : List Cond := .code yX9_erase cX9_erase 2 (some .int) :: ([.fieldLink RX9 12 "RainTarget" "text" "LRainTarget$Text;"] ++ wsX90 ++ wsX70)
def wsX9_fault_r1 : List Cond := [Cond.fieldLink RX9 21 "RainTarget" "reader" "LRainTarget$Reader;", Cond.instanceMethod yX4_read, Cond.initialized RX4, Cond.selects RX4 yX4_read yX4_read, Cond.code yX4_read cX4_read 2 (some .int), Cond.fieldLink RX4 22 "RainTarget$Reader" "lines" "I", Cond.fieldLink RX4 26 "RainTarget$Reader" "end" "I", Cond.fieldLink RX4 33 "RainTarget$Reader" "start" "I", Cond.fieldLink RX4 39 "RainTarget$Reader" "kind" "I", Cond.methodLink RX4 29 yX4_readLine, Cond.instanceMethod yX4_readLine, Cond.selects RX4 yX4_readLine yX4_readLine, Cond.code yX4_readLine cX4_readLine 3 (some .boolean), Cond.fieldLink RX4 9 "RainTarget$Reader" "words" "[I", Cond.methodLink RX4 36 yX4_step, Cond.instanceMethod yX4_step, Cond.selects RX4 yX4_step yX4_step, Cond.code yX4_step cX4_step 2 none, Cond.fieldLink RX4 18 "RainTarget$Reader" "text" "LRainTarget$Text;", Cond.instanceMethod yX7_at, Cond.initialized RX7, Cond.selects RX7 yX7_at yX7_at, Cond.code yX7_at cX7_at 2 (some .int), Cond.fieldLink RX7 15 "RainTarget$Text" "length" "I"]
def wsX9_fault_r2 : List Cond := [Cond.fieldLink RX7 9 "RainTarget$Text" "bytes" "[I", Cond.static yX9_within, Cond.initialized RX9, Cond.code yX9_within cX9_within 3 (some .boolean), Cond.methodLink RX4 73 yX4_kindOf, Cond.static yX4_kindOf, Cond.code yX4_kindOf cX4_kindOf 1 (some .int), Cond.methodLink RX4 50 yX4_spelled, Cond.instanceMethod yX4_spelled, Cond.selects RX4 yX4_spelled yX4_spelled, Cond.code yX4_spelled cX4_spelled 1 (some .int), Cond.methodLink RX4 78 yX4_spells, Cond.instanceMethod yX4_spells, Cond.selects RX4 yX4_spells yX4_spells, Cond.code yX4_spells cX4_spells 3 (some .boolean), Cond.methodLink RX4 92 yJ0_length_8abf5, Cond.instanceMethod yJ0_length_8abf5, Cond.selects RJ0 yJ0_length_8abf5 yJ0_length_8abf5, Cond.initialized RJ0, Cond.code yJ0_length_8abf5 cJ0_length_8abf5 1 (some .int), Cond.fieldLink RJ0 9 "java/lang/String" "value" "[B", Cond.methodLink RJ0 335 yJ0_coder_7d493, Cond.instanceMethod yJ0_coder_7d493, Cond.selects RJ0 yJ0_coder_7d493 yJ0_coder_7d493]
def wsX9_fault_r3 : List Cond := [Cond.code yJ0_coder_7d493 cJ0_coder_7d493 1 (some .byte), Cond.fieldLink RJ0 38 "java/lang/String" "COMPACT_STRINGS" "Z", Cond.fieldLink RJ0 15 "java/lang/String" "coder" "B", Cond.methodLink RX4 96 yJ0_charAt_5068e, Cond.instanceMethod yJ0_charAt_5068e, Cond.selects RJ0 yJ0_charAt_5068e yJ0_charAt_5068e, Cond.code yJ0_charAt_5068e cJ0_charAt_5068e 2 (some .char), Cond.methodLink RJ0 492 yJ0_isLatin1_aae02, Cond.instanceMethod yJ0_isLatin1_aae02, Cond.selects RJ0 yJ0_isLatin1_aae02 yJ0_isLatin1_aae02, Cond.code yJ0_isLatin1_aae02 cJ0_isLatin1_aae02 1 (some .boolean), Cond.methodLink RJ0 495 yJ1_charAt_3b067, Cond.static yJ1_charAt_3b067, Cond.initialized RJ1, Cond.code yJ1_charAt_3b067 cJ1_charAt_3b067 2 (some .char), Cond.methodLink RJ1 9 yJ0_checkIndex_df160, Cond.static yJ0_checkIndex_df160, Cond.code yJ0_checkIndex_df160 cJ0_checkIndex_df160 2 none, Cond.fieldLink RJ0 1053 "jdk/internal/util/Preconditions" "SIOOBE_FORMATTER" "Ljava/util/function/BiFunction;", Cond.methodLink RJ0 1059 yJ3_checkIndex_8e157, Cond.static yJ3_checkIndex_8e157, Cond.initialized RJ3, Cond.code yJ3_checkIndex_8e157 cJ3_checkIndex_8e157 3 (some .int), Cond.methodLink RJ0 498 yJ2_charAt_3b067]
def wsX9_fault_r4 : List Cond := [Cond.static yJ2_charAt_3b067, Cond.initialized RJ2, Cond.code yJ2_charAt_3b067 cJ2_charAt_3b067 2 (some .char), Cond.methodLink RJ2 67 yJ2_checkIndex_2214a, Cond.static yJ2_checkIndex_2214a, Cond.code yJ2_checkIndex_2214a cJ2_checkIndex_2214a 2 none, Cond.methodLink RJ2 48 yJ2_length_9d52b, Cond.static yJ2_length_9d52b, Cond.code yJ2_length_9d52b cJ2_length_9d52b 1 (some .int), Cond.methodLink RJ2 414 yJ0_checkIndex_df160, Cond.methodLink RJ2 71 yJ2_getChar_3b067, Cond.static yJ2_getChar_3b067, Cond.code yJ2_getChar_3b067 cJ2_getChar_3b067 2 (some .char), Cond.fieldLink RJ2 44 "java/lang/StringUTF16" "$assertionsDisabled" "Z", Cond.fieldLink RJ2 59 "java/lang/StringUTF16" "HI_BYTE_SHIFT" "I", Cond.fieldLink RJ2 63 "java/lang/StringUTF16" "LO_BYTE_SHIFT" "I", Cond.methodLink RX4 54 yX4_readNumber, Cond.instanceMethod yX4_readNumber, Cond.selects RX4 yX4_readNumber yX4_readNumber, Cond.code yX4_readNumber cX4_readNumber 7 (some .boolean), Cond.fieldLink RX4 15 "RainTarget$Reader" "numbers" "[I", Cond.methodLink RX4 58 yX4_readMood, Cond.instanceMethod yX4_readMood, Cond.selects RX4 yX4_readMood yX4_readMood]
def wsX9_fault_r5 : List Cond := [Cond.code yX4_readMood cX4_readMood 6 (some .boolean), Cond.methodLink RX4 61 yX4_number, Cond.instanceMethod yX4_number, Cond.selects RX4 yX4_number yX4_number, Cond.code yX4_number cX4_number 3 (some .int)]
def wsX9_fault : List Cond := .code yX9_fault cX9_fault 1 (some .int) :: ((wsX9_fault_r1 ++ (wsX9_fault_r2 ++ (wsX9_fault_r3 ++ (wsX9_fault_r4 ++ wsX9_fault_r5)))) ++ wsX90 ++ wsX40 ++ wsX70)
def wsX9_tellMood : List Cond := .code yX9_tellMood cX9_tellMood 7 none :: ([.fieldLink RX9 35 "RainTarget" "moods" "LRainTarget$Moods;", .fieldLink RX9 21 "RainTarget" "reader" "LRainTarget$Reader;", .instanceMethod yX3_forget, .initialized RX3, .selects RX3 yX3_forget yX3_forget, .code yX3_forget cX3_forget 2 none, .fieldLink RX3 9 "RainTarget$Moods" "sizes" "[I", .static yX9_within, .initialized RX9, .code yX9_within cX9_within 3 (some .boolean), .instanceMethod yX4_number, .initialized RX4, .selects RX4 yX4_number yX4_number, .code yX4_number cX4_number 3 (some .int), .fieldLink RX4 15 "RainTarget$Reader" "numbers" "[I", .instanceMethod yX3_add, .selects RX3 yX3_add yX3_add, .code yX3_add cX3_add 6 none, .fieldLink RX3 15 "RainTarget$Moods" "parts" "[I"] ++ wsX90 ++ wsX30 ++ wsX40)
def wsX9_tell_r1 : List Cond := [Cond.fieldLink RX9 21 "RainTarget" "reader" "LRainTarget$Reader;", Cond.fieldLink RX9 28 "RainTarget" "settings" "LRainTarget$Settings;", Cond.instanceMethod yX4_number, Cond.initialized RX4, Cond.selects RX4 yX4_number yX4_number, Cond.code yX4_number cX4_number 3 (some .int), Cond.fieldLink RX4 15 "RainTarget$Reader" "numbers" "[I", Cond.static yX9_within, Cond.initialized RX9, Cond.code yX9_within cX9_within 3 (some .boolean), Cond.instanceMethod yX4_word, Cond.selects RX4 yX4_word yX4_word, Cond.code yX4_word cX4_word 2 (some .int), Cond.fieldLink RX4 9 "RainTarget$Reader" "words" "[I", Cond.methodLink RX9 244 yX9_tellMood, Cond.instanceMethod yX9_tellMood, Cond.selects RX9 yX9_tellMood yX9_tellMood, Cond.code yX9_tellMood cX9_tellMood 7 none, Cond.fieldLink RX9 35 "RainTarget" "moods" "LRainTarget$Moods;", Cond.instanceMethod yX3_forget, Cond.initialized RX3, Cond.selects RX3 yX3_forget yX3_forget, Cond.code yX3_forget cX3_forget 2 none, Cond.fieldLink RX3 9 "RainTarget$Moods" "sizes" "[I"]
def wsX9_tell_r2 : List Cond := [Cond.instanceMethod yX3_add, Cond.selects RX3 yX3_add yX3_add, Cond.code yX3_add cX3_add 6 none, Cond.fieldLink RX3 15 "RainTarget$Moods" "parts" "[I"]
def wsX9_tell : List Cond := .code yX9_tell cX9_tell 3 none :: ((wsX9_tell_r1 ++ wsX9_tell_r2) ++ wsX90 ++ wsX60 ++ wsX40 ++ wsX30)
def wsX9_game_r1 : List Cond := [Cond.fieldLink RX9 21 "RainTarget" "reader" "LRainTarget$Reader;", Cond.fieldLink RX9 44 "RainTarget" "batting" "LRainTarget$Batting;", Cond.fieldLink RX9 51 "RainTarget" "first" "LRainTarget$FirstSide;", Cond.fieldLink RX9 58 "RainTarget" "second" "LRainTarget$SecondSide;", Cond.fieldLink RX9 28 "RainTarget" "settings" "LRainTarget$Settings;", Cond.fieldLink RX9 12 "RainTarget" "text" "LRainTarget$Text;", Cond.instanceMethod yX4_read, Cond.initialized RX4, Cond.selects RX4 yX4_read yX4_read, Cond.code yX4_read cX4_read 2 (some .int), Cond.fieldLink RX4 22 "RainTarget$Reader" "lines" "I", Cond.fieldLink RX4 26 "RainTarget$Reader" "end" "I", Cond.fieldLink RX4 33 "RainTarget$Reader" "start" "I", Cond.fieldLink RX4 39 "RainTarget$Reader" "kind" "I", Cond.methodLink RX4 29 yX4_readLine, Cond.instanceMethod yX4_readLine, Cond.selects RX4 yX4_readLine yX4_readLine, Cond.code yX4_readLine cX4_readLine 3 (some .boolean), Cond.fieldLink RX4 9 "RainTarget$Reader" "words" "[I", Cond.methodLink RX4 36 yX4_step, Cond.instanceMethod yX4_step, Cond.selects RX4 yX4_step yX4_step, Cond.code yX4_step cX4_step 2 none, Cond.fieldLink RX4 18 "RainTarget$Reader" "text" "LRainTarget$Text;"]
def wsX9_game_r2 : List Cond := [Cond.instanceMethod yX7_at, Cond.initialized RX7, Cond.selects RX7 yX7_at yX7_at, Cond.code yX7_at cX7_at 2 (some .int), Cond.fieldLink RX7 15 "RainTarget$Text" "length" "I", Cond.fieldLink RX7 9 "RainTarget$Text" "bytes" "[I", Cond.static yX9_within, Cond.initialized RX9, Cond.code yX9_within cX9_within 3 (some .boolean), Cond.methodLink RX4 73 yX4_kindOf, Cond.static yX4_kindOf, Cond.code yX4_kindOf cX4_kindOf 1 (some .int), Cond.methodLink RX4 50 yX4_spelled, Cond.instanceMethod yX4_spelled, Cond.selects RX4 yX4_spelled yX4_spelled, Cond.code yX4_spelled cX4_spelled 1 (some .int), Cond.methodLink RX4 78 yX4_spells, Cond.instanceMethod yX4_spells, Cond.selects RX4 yX4_spells yX4_spells, Cond.code yX4_spells cX4_spells 3 (some .boolean), Cond.methodLink RX4 92 yJ0_length_8abf5, Cond.instanceMethod yJ0_length_8abf5, Cond.selects RJ0 yJ0_length_8abf5 yJ0_length_8abf5, Cond.initialized RJ0]
def wsX9_game_r3 : List Cond := [Cond.code yJ0_length_8abf5 cJ0_length_8abf5 1 (some .int), Cond.fieldLink RJ0 9 "java/lang/String" "value" "[B", Cond.methodLink RJ0 335 yJ0_coder_7d493, Cond.instanceMethod yJ0_coder_7d493, Cond.selects RJ0 yJ0_coder_7d493 yJ0_coder_7d493, Cond.code yJ0_coder_7d493 cJ0_coder_7d493 1 (some .byte), Cond.fieldLink RJ0 38 "java/lang/String" "COMPACT_STRINGS" "Z", Cond.fieldLink RJ0 15 "java/lang/String" "coder" "B", Cond.methodLink RX4 96 yJ0_charAt_5068e, Cond.instanceMethod yJ0_charAt_5068e, Cond.selects RJ0 yJ0_charAt_5068e yJ0_charAt_5068e, Cond.code yJ0_charAt_5068e cJ0_charAt_5068e 2 (some .char), Cond.methodLink RJ0 492 yJ0_isLatin1_aae02, Cond.instanceMethod yJ0_isLatin1_aae02, Cond.selects RJ0 yJ0_isLatin1_aae02 yJ0_isLatin1_aae02, Cond.code yJ0_isLatin1_aae02 cJ0_isLatin1_aae02 1 (some .boolean), Cond.methodLink RJ0 495 yJ1_charAt_3b067, Cond.static yJ1_charAt_3b067, Cond.initialized RJ1, Cond.code yJ1_charAt_3b067 cJ1_charAt_3b067 2 (some .char), Cond.methodLink RJ1 9 yJ0_checkIndex_df160, Cond.static yJ0_checkIndex_df160, Cond.code yJ0_checkIndex_df160 cJ0_checkIndex_df160 2 none, Cond.fieldLink RJ0 1053 "jdk/internal/util/Preconditions" "SIOOBE_FORMATTER" "Ljava/util/function/BiFunction;"]
def wsX9_game_r4 : List Cond := [Cond.methodLink RJ0 1059 yJ3_checkIndex_8e157, Cond.static yJ3_checkIndex_8e157, Cond.initialized RJ3, Cond.code yJ3_checkIndex_8e157 cJ3_checkIndex_8e157 3 (some .int), Cond.methodLink RJ0 498 yJ2_charAt_3b067, Cond.static yJ2_charAt_3b067, Cond.initialized RJ2, Cond.code yJ2_charAt_3b067 cJ2_charAt_3b067 2 (some .char), Cond.methodLink RJ2 67 yJ2_checkIndex_2214a, Cond.static yJ2_checkIndex_2214a, Cond.code yJ2_checkIndex_2214a cJ2_checkIndex_2214a 2 none, Cond.methodLink RJ2 48 yJ2_length_9d52b, Cond.static yJ2_length_9d52b, Cond.code yJ2_length_9d52b cJ2_length_9d52b 1 (some .int), Cond.methodLink RJ2 414 yJ0_checkIndex_df160, Cond.methodLink RJ2 71 yJ2_getChar_3b067, Cond.static yJ2_getChar_3b067, Cond.code yJ2_getChar_3b067 cJ2_getChar_3b067 2 (some .char), Cond.fieldLink RJ2 44 "java/lang/StringUTF16" "$assertionsDisabled" "Z", Cond.fieldLink RJ2 59 "java/lang/StringUTF16" "HI_BYTE_SHIFT" "I", Cond.fieldLink RJ2 63 "java/lang/StringUTF16" "LO_BYTE_SHIFT" "I", Cond.methodLink RX4 54 yX4_readNumber, Cond.instanceMethod yX4_readNumber, Cond.selects RX4 yX4_readNumber yX4_readNumber]
def wsX9_game_r5 : List Cond := [Cond.code yX4_readNumber cX4_readNumber 7 (some .boolean), Cond.fieldLink RX4 15 "RainTarget$Reader" "numbers" "[I", Cond.methodLink RX4 58 yX4_readMood, Cond.instanceMethod yX4_readMood, Cond.selects RX4 yX4_readMood yX4_readMood, Cond.code yX4_readMood cX4_readMood 6 (some .boolean), Cond.methodLink RX4 61 yX4_number, Cond.instanceMethod yX4_number, Cond.selects RX4 yX4_number yX4_number, Cond.code yX4_number cX4_number 3 (some .int), Cond.methodLink RX9 104 yX9_tell, Cond.instanceMethod yX9_tell, Cond.selects RX9 yX9_tell yX9_tell, Cond.code yX9_tell cX9_tell 3 none, Cond.instanceMethod yX4_word, Cond.selects RX4 yX4_word yX4_word, Cond.code yX4_word cX4_word 2 (some .int), Cond.methodLink RX9 244 yX9_tellMood, Cond.instanceMethod yX9_tellMood, Cond.selects RX9 yX9_tellMood yX9_tellMood, Cond.code yX9_tellMood cX9_tellMood 7 none, Cond.fieldLink RX9 35 "RainTarget" "moods" "LRainTarget$Moods;", Cond.instanceMethod yX3_forget, Cond.initialized RX3]
def wsX9_game_r6 : List Cond := [Cond.selects RX3 yX3_forget yX3_forget, Cond.code yX3_forget cX3_forget 2 none, Cond.fieldLink RX3 9 "RainTarget$Moods" "sizes" "[I", Cond.instanceMethod yX3_add, Cond.selects RX3 yX3_add yX3_add, Cond.code yX3_add cX3_add 6 none, Cond.fieldLink RX3 15 "RainTarget$Moods" "parts" "[I", Cond.instanceMethod yX4_has, Cond.selects RX4 yX4_has yX4_has, Cond.code yX4_has cX4_has 3 (some .boolean), Cond.methodLink RX4 42 yX4_word, Cond.instanceMethod yX0_learn, Cond.initialized RX0, Cond.selects RX0 yX0_learn yX0_learn, Cond.code yX0_learn cX0_learn 6 none, Cond.fieldLink RX0 15 "RainTarget$Batting" "chances" "[J", Cond.methodLink RX0 32 Lib.MathLoose.max_long.x, Cond.static Lib.MathLoose.max_long.x, Cond.initialized "java/lang/Math", Cond.code Lib.MathLoose.max_long.x Lib.MathLoose.max_long.code 4 (some .long), Cond.fieldLink RX0 9 "RainTarget$Batting" "means" "[J", Cond.methodLink RX0 22 yJ7_fill_d0a16, Cond.static yJ7_fill_d0a16, Cond.initialized RJ7]
def wsX9_game_r7 : List Cond := [Cond.code yJ7_fill_d0a16 cJ7_fill_d0a16 5 none, Cond.methodLink RX0 28 yX0_meanIn, Cond.instanceMethod yX0_meanIn, Cond.selects RX0 yX0_meanIn yX0_meanIn, Cond.code yX0_meanIn cX0_meanIn 11 (some .long), Cond.fieldLink RX0 18 "RainTarget$Batting" "moods" "LRainTarget$Moods;", Cond.instanceMethod yX3_size, Cond.selects RX3 yX3_size yX3_size, Cond.code yX3_size cX3_size 2 (some .int), Cond.instanceMethod yX3_part, Cond.selects RX3 yX3_part yX3_part, Cond.code yX3_part cX3_part 5 (some .int), Cond.static yX9_power, Cond.code yX9_power cX9_power 1 (some .long), Cond.fieldLink RX9 259 "RainTarget" "TEN" "[J", Cond.methodLink RX9 85 yX9_within, Cond.methodLink RX0 56 yX0_mean, Cond.instanceMethod yX0_mean, Cond.selects RX0 yX0_mean yX0_mean, Cond.code yX0_mean cX0_mean 3 (some .long), Cond.instanceMethod yX1_begin, Cond.initialized RX1, Cond.selects RX1 yX1_begin yX1_begin, Cond.code yX1_begin cX1_begin 1 none]
def wsX9_game_r8 : List Cond := [Cond.fieldLink RX1 9 "RainTarget$FirstSide" "overs" "[I", Cond.fieldLink RX1 21 "RainTarget$FirstSide" "told" "I", Cond.fieldLink RX1 25 "RainTarget$FirstSide" "total" "I", Cond.methodLink RX1 15 yJ7_fill_53178, Cond.static yJ7_fill_53178, Cond.code yJ7_fill_53178 cJ7_fill_53178 4 none, Cond.instanceMethod yX5_begin, Cond.initialized RX5, Cond.selects RX5 yX5_begin yX5_begin, Cond.code yX5_begin cX5_begin 2 none, Cond.fieldLink RX5 15 "RainTarget$SecondSide" "size" "I", Cond.fieldLink RX5 24 "RainTarget$SecondSide" "overs" "I", Cond.fieldLink RX5 28 "RainTarget$SecondSide" "men" "I", Cond.fieldLink RX5 29 "RainTarget$SecondSide" "runs" "I"]
def wsX9_game : List Cond := .code yX9_game cX9_game 2 (some .int) :: ((wsX9_game_r1 ++ (wsX9_game_r2 ++ (wsX9_game_r3 ++ (wsX9_game_r4 ++ (wsX9_game_r5 ++ (wsX9_game_r6 ++ (wsX9_game_r7 ++ wsX9_game_r8))))))) ++ wsX90 ++ wsX40 ++ wsX70 ++ wsX60 ++ wsX30 ++ wsX00 ++ wsX10 ++ wsX50)
def wsX9_mood : List Cond := .code yX9_mood cX9_mood 4 (some .int) :: ([.fieldLink RX9 35 "RainTarget" "moods" "LRainTarget$Moods;", .methodLink RX9 85 yX9_within, .static yX9_within, .initialized RX9, .code yX9_within cX9_within 3 (some .boolean), .instanceMethod yX3_size, .initialized RX3, .selects RX3 yX3_size yX3_size, .code yX3_size cX3_size 2 (some .int), .fieldLink RX3 9 "RainTarget$Moods" "sizes" "[I", .instanceMethod yX3_part, .selects RX3 yX3_part yX3_part, .code yX3_part cX3_part 5 (some .int), .fieldLink RX3 15 "RainTarget$Moods" "parts" "[I"] ++ wsX90 ++ wsX30)
def wsX9_isLeft : List Cond := .code yX9_isLeft cX9_isLeft 3 (some .boolean) :: ([.fieldLink RX9 28 "RainTarget" "settings" "LRainTarget$Settings;", .methodLink RX9 85 yX9_within, .static yX9_within, .initialized RX9, .code yX9_within cX9_within 3 (some .boolean)] ++ wsX90 ++ wsX60)
def wsX9_commonDivisor : List Cond := .code yX9_commonDivisor cX9_commonDivisor 11 (some .long) :: ([])
def wsX9_lowest : List Cond := .code yX9_lowest cX9_lowest 7 (some .long) :: ([.methodLink RX9 267 yX9_commonDivisor, .static yX9_commonDivisor, .initialized RX9, .code yX9_commonDivisor cX9_commonDivisor 11 (some .long), .methodLink RX9 263 yX9_cut, .static yX9_cut, .code yX9_cut cX9_cut 4 (some .long)])
def wsX9_makes_r1 : List Cond := [Cond.constantLong RX9 126 (-3), Cond.fieldLink RX9 44 "RainTarget" "batting" "LRainTarget$Batting;", Cond.methodLink RX9 122 yX9_isLeft, Cond.instanceMethod yX9_isLeft, Cond.selects RX9 yX9_isLeft yX9_isLeft, Cond.initialized RX9, Cond.code yX9_isLeft cX9_isLeft 3 (some .boolean), Cond.fieldLink RX9 28 "RainTarget" "settings" "LRainTarget$Settings;", Cond.methodLink RX9 85 yX9_within, Cond.static yX9_within, Cond.code yX9_within cX9_within 3 (some .boolean), Cond.instanceMethod yX0_mean, Cond.initialized RX0, Cond.selects RX0 yX0_mean yX0_mean, Cond.code yX0_mean cX0_mean 3 (some .long), Cond.fieldLink RX0 9 "RainTarget$Batting" "means" "[J", Cond.methodLink RX9 132 yX9_power, Cond.static yX9_power, Cond.code yX9_power cX9_power 1 (some .long), Cond.fieldLink RX9 259 "RainTarget" "TEN" "[J", Cond.methodLink RX9 136 yX9_lowest, Cond.static yX9_lowest, Cond.code yX9_lowest cX9_lowest 7 (some .long), Cond.methodLink RX9 267 yX9_commonDivisor]
def wsX9_makes_r2 : List Cond := [Cond.static yX9_commonDivisor, Cond.code yX9_commonDivisor cX9_commonDivisor 11 (some .long), Cond.methodLink RX9 263 yX9_cut, Cond.static yX9_cut, Cond.code yX9_cut cX9_cut 4 (some .long)]
def wsX9_makes : List Cond := .code yX9_makes cX9_makes 4 (some .long) :: ((wsX9_makes_r1 ++ wsX9_makes_r2) ++ wsX90 ++ wsX60 ++ wsX00)
def wsX9_wins_r1 : List Cond := [Cond.constantLong RX9 126 (-3), Cond.fieldLink RX9 44 "RainTarget" "batting" "LRainTarget$Batting;", Cond.methodLink RX9 122 yX9_isLeft, Cond.instanceMethod yX9_isLeft, Cond.selects RX9 yX9_isLeft yX9_isLeft, Cond.initialized RX9, Cond.code yX9_isLeft cX9_isLeft 3 (some .boolean), Cond.fieldLink RX9 28 "RainTarget" "settings" "LRainTarget$Settings;", Cond.methodLink RX9 85 yX9_within, Cond.static yX9_within, Cond.code yX9_within cX9_within 3 (some .boolean), Cond.instanceMethod yX0_chance, Cond.initialized RX0, Cond.selects RX0 yX0_chance yX0_chance, Cond.code yX0_chance cX0_chance 8 (some .long), Cond.fieldLink RX0 15 "RainTarget$Batting" "chances" "[J", Cond.methodLink RX0 32 Lib.MathLoose.max_long.x, Cond.static Lib.MathLoose.max_long.x, Cond.initialized "java/lang/Math", Cond.code Lib.MathLoose.max_long.x Lib.MathLoose.max_long.code 4 (some .long), Cond.static yX9_power, Cond.code yX9_power cX9_power 1 (some .long), Cond.fieldLink RX9 259 "RainTarget" "TEN" "[J", Cond.methodLink RX0 60 yX0_chanceIn]
def wsX9_wins_r2 : List Cond := [Cond.instanceMethod yX0_chanceIn, Cond.selects RX0 yX0_chanceIn yX0_chanceIn, Cond.code yX0_chanceIn cX0_chanceIn 9 (some .long), Cond.fieldLink RX0 18 "RainTarget$Batting" "moods" "LRainTarget$Moods;", Cond.instanceMethod yX3_size, Cond.initialized RX3, Cond.selects RX3 yX3_size yX3_size, Cond.code yX3_size cX3_size 2 (some .int), Cond.fieldLink RX3 9 "RainTarget$Moods" "sizes" "[I", Cond.instanceMethod yX3_part, Cond.selects RX3 yX3_part yX3_part, Cond.code yX3_part cX3_part 5 (some .int), Cond.fieldLink RX3 15 "RainTarget$Moods" "parts" "[I", Cond.methodLink RX0 64 yX0_chance, Cond.methodLink RX9 132 yX9_power, Cond.methodLink RX9 136 yX9_lowest, Cond.static yX9_lowest, Cond.code yX9_lowest cX9_lowest 7 (some .long), Cond.methodLink RX9 267 yX9_commonDivisor, Cond.static yX9_commonDivisor, Cond.code yX9_commonDivisor cX9_commonDivisor 11 (some .long), Cond.methodLink RX9 263 yX9_cut, Cond.static yX9_cut, Cond.code yX9_cut cX9_cut 4 (some .long)]
def wsX9_wins : List Cond := .code yX9_wins cX9_wins 5 (some .long) :: ((wsX9_wins_r1 ++ wsX9_wins_r2) ++ wsX90 ++ wsX60 ++ wsX00 ++ wsX30)
def wsX9_best_r1 : List Cond := [Cond.fieldLink RX9 44 "RainTarget" "batting" "LRainTarget$Batting;", Cond.methodLink RX9 122 yX9_isLeft, Cond.instanceMethod yX9_isLeft, Cond.selects RX9 yX9_isLeft yX9_isLeft, Cond.initialized RX9, Cond.code yX9_isLeft cX9_isLeft 3 (some .boolean), Cond.fieldLink RX9 28 "RainTarget" "settings" "LRainTarget$Settings;", Cond.methodLink RX9 85 yX9_within, Cond.static yX9_within, Cond.code yX9_within cX9_within 3 (some .boolean), Cond.instanceMethod yX0_moodForMean, Cond.initialized RX0, Cond.selects RX0 yX0_moodForMean yX0_moodForMean, Cond.code yX0_moodForMean cX0_moodForMean 4 (some .int), Cond.fieldLink RX0 18 "RainTarget$Batting" "moods" "LRainTarget$Moods;", Cond.instanceMethod yX3_size, Cond.initialized RX3, Cond.selects RX3 yX3_size yX3_size, Cond.code yX3_size cX3_size 2 (some .int), Cond.fieldLink RX3 9 "RainTarget$Moods" "sizes" "[I", Cond.methodLink RX0 28 yX0_meanIn, Cond.instanceMethod yX0_meanIn, Cond.selects RX0 yX0_meanIn yX0_meanIn, Cond.code yX0_meanIn cX0_meanIn 11 (some .long)]
def wsX9_best_r2 : List Cond := [Cond.instanceMethod yX3_part, Cond.selects RX3 yX3_part yX3_part, Cond.code yX3_part cX3_part 5 (some .int), Cond.fieldLink RX3 15 "RainTarget$Moods" "parts" "[I", Cond.static yX9_power, Cond.code yX9_power cX9_power 1 (some .long), Cond.fieldLink RX9 259 "RainTarget" "TEN" "[J", Cond.methodLink RX0 56 yX0_mean, Cond.instanceMethod yX0_mean, Cond.selects RX0 yX0_mean yX0_mean, Cond.code yX0_mean cX0_mean 3 (some .long), Cond.fieldLink RX0 9 "RainTarget$Batting" "means" "[J", Cond.instanceMethod yX0_moodForChance, Cond.selects RX0 yX0_moodForChance yX0_moodForChance, Cond.code yX0_moodForChance cX0_moodForChance 5 (some .int), Cond.methodLink RX0 60 yX0_chanceIn, Cond.instanceMethod yX0_chanceIn, Cond.selects RX0 yX0_chanceIn yX0_chanceIn, Cond.code yX0_chanceIn cX0_chanceIn 9 (some .long), Cond.methodLink RX0 64 yX0_chance, Cond.instanceMethod yX0_chance, Cond.selects RX0 yX0_chance yX0_chance, Cond.code yX0_chance cX0_chance 8 (some .long), Cond.fieldLink RX0 15 "RainTarget$Batting" "chances" "[J"]
def wsX9_best_r3 : List Cond := [Cond.methodLink RX0 32 Lib.MathLoose.max_long.x, Cond.static Lib.MathLoose.max_long.x, Cond.initialized "java/lang/Math", Cond.code Lib.MathLoose.max_long.x Lib.MathLoose.max_long.code 4 (some .long)]
def wsX9_best : List Cond := .code yX9_best cX9_best 4 (some .int) :: ((wsX9_best_r1 ++ (wsX9_best_r2 ++ wsX9_best_r3)) ++ wsX90 ++ wsX60 ++ wsX00 ++ wsX30)
def wsX9_spend_r1 : List Cond := [Cond.fieldLink RX9 44 "RainTarget" "batting" "LRainTarget$Batting;", Cond.fieldLink RX9 28 "RainTarget" "settings" "LRainTarget$Settings;", Cond.methodLink RX9 122 yX9_isLeft, Cond.instanceMethod yX9_isLeft, Cond.selects RX9 yX9_isLeft yX9_isLeft, Cond.initialized RX9, Cond.code yX9_isLeft cX9_isLeft 3 (some .boolean), Cond.methodLink RX9 85 yX9_within, Cond.static yX9_within, Cond.code yX9_within cX9_within 3 (some .boolean), Cond.instanceMethod yX0_share, Cond.initialized RX0, Cond.selects RX0 yX0_share yX0_share, Cond.code yX0_share cX0_share 6 (some .int), Cond.constantLong RX0 73 (1000), Cond.methodLink RX0 56 yX0_mean, Cond.instanceMethod yX0_mean, Cond.selects RX0 yX0_mean yX0_mean, Cond.code yX0_mean cX0_mean 3 (some .long), Cond.fieldLink RX0 9 "RainTarget$Batting" "means" "[J", Cond.static yX9_power, Cond.code yX9_power cX9_power 1 (some .long), Cond.fieldLink RX9 259 "RainTarget" "TEN" "[J", Cond.static yX9_cut]
def wsX9_spend_r2 : List Cond := [Cond.code yX9_cut cX9_cut 4 (some .long)]
def wsX9_spend : List Cond := .code yX9_spend cX9_spend 3 (some .int) :: ((wsX9_spend_r1 ++ wsX9_spend_r2) ++ wsX90 ++ wsX60 ++ wsX00)
def wsX9_bat : List Cond := .code yX9_bat cX9_bat 2 (some .int) :: ([.fieldLink RX9 51 "RainTarget" "first" "LRainTarget$FirstSide;", .fieldLink RX9 28 "RainTarget" "settings" "LRainTarget$Settings;", .methodLink RX9 85 yX9_within, .static yX9_within, .initialized RX9, .code yX9_within cX9_within 3 (some .boolean), .instanceMethod yX1_add, .initialized RX1, .selects RX1 yX1_add yX1_add, .code yX1_add cX1_add 2 none, .fieldLink RX1 21 "RainTarget$FirstSide" "told" "I", .fieldLink RX1 9 "RainTarget$FirstSide" "overs" "[I", .fieldLink RX1 25 "RainTarget$FirstSide" "total" "I"] ++ wsX90 ++ wsX10 ++ wsX60)
def wsX9_anew : List Cond := .code yX9_anew cX9_anew 2 (some .int) :: ([.fieldLink RX9 51 "RainTarget" "first" "LRainTarget$FirstSide;", .fieldLink RX9 58 "RainTarget" "second" "LRainTarget$SecondSide;", .fieldLink RX9 28 "RainTarget" "settings" "LRainTarget$Settings;", .instanceMethod yX1_begin, .initialized RX1, .selects RX1 yX1_begin yX1_begin, .code yX1_begin cX1_begin 1 none, .fieldLink RX1 9 "RainTarget$FirstSide" "overs" "[I", .fieldLink RX1 21 "RainTarget$FirstSide" "told" "I", .fieldLink RX1 25 "RainTarget$FirstSide" "total" "I", .methodLink RX1 15 yJ7_fill_53178, .static yJ7_fill_53178, .initialized RJ7, .code yJ7_fill_53178 cJ7_fill_53178 4 none, .instanceMethod yX5_begin, .initialized RX5, .selects RX5 yX5_begin yX5_begin, .code yX5_begin cX5_begin 2 none, .fieldLink RX5 15 "RainTarget$SecondSide" "size" "I", .fieldLink RX5 24 "RainTarget$SecondSide" "overs" "I", .fieldLink RX5 28 "RainTarget$SecondSide" "men" "I", .fieldLink RX5 29 "RainTarget$SecondSide" "runs" "I"] ++ wsX90 ++ wsX10 ++ wsX50 ++ wsX60)
def wsX9_play_r1 : List Cond := [Cond.fieldLink RX9 58 "RainTarget" "second" "LRainTarget$SecondSide;", Cond.methodLink RX9 85 yX9_within, Cond.static yX9_within, Cond.initialized RX9, Cond.code yX9_within cX9_within 3 (some .boolean), Cond.instanceMethod yX5_isAtEnd, Cond.initialized RX5, Cond.selects RX5 yX5_isAtEnd yX5_isAtEnd, Cond.code yX5_isAtEnd cX5_isAtEnd 1 (some .boolean), Cond.fieldLink RX5 24 "RainTarget$SecondSide" "overs" "I", Cond.fieldLink RX5 28 "RainTarget$SecondSide" "men" "I", Cond.instanceMethod yX5_addOver, Cond.selects RX5 yX5_addOver yX5_addOver, Cond.code yX5_addOver cX5_addOver 3 none, Cond.methodLink RX5 36 Lib.Math.max.name, Cond.static Lib.Math.max.name, Cond.initialized "java/lang/Math", Cond.code Lib.Math.max.name Lib.Math.max.code 2 (some .int), Cond.fieldLink RX5 29 "RainTarget$SecondSide" "runs" "I", Cond.methodLink RX5 32 yX5_addEvent, Cond.instanceMethod yX5_addEvent, Cond.selects RX5 yX5_addEvent yX5_addEvent, Cond.code yX5_addEvent cX5_addEvent 5 none, Cond.fieldLink RX5 15 "RainTarget$SecondSide" "size" "I"]
def wsX9_play_r2 : List Cond := [Cond.fieldLink RX5 11 "RainTarget$SecondSide" "events" "[I"]
def wsX9_play : List Cond := .code yX9_play cX9_play 3 (some .int) :: ((wsX9_play_r1 ++ wsX9_play_r2) ++ wsX90 ++ wsX50)
def wsX9_rain : List Cond := .code yX9_rain cX9_rain 2 (some .int) :: ([.fieldLink RX9 58 "RainTarget" "second" "LRainTarget$SecondSide;", .methodLink RX9 85 yX9_within, .static yX9_within, .initialized RX9, .code yX9_within cX9_within 3 (some .boolean), .instanceMethod yX5_addRain, .initialized RX5, .selects RX5 yX5_addRain yX5_addRain, .code yX5_addRain cX5_addRain 2 none, .fieldLink RX5 24 "RainTarget$SecondSide" "overs" "I", .methodLink RX5 32 yX5_addEvent, .instanceMethod yX5_addEvent, .selects RX5 yX5_addEvent yX5_addEvent, .code yX5_addEvent cX5_addEvent 5 none, .fieldLink RX5 15 "RainTarget$SecondSide" "size" "I", .fieldLink RX5 11 "RainTarget$SecondSide" "events" "[I", .fieldLink RX5 28 "RainTarget$SecondSide" "men" "I", .fieldLink RX5 29 "RainTarget$SecondSide" "runs" "I"] ++ wsX90 ++ wsX50)
def wsX9_event : List Cond := .code yX9_event cX9_event 3 (some .int) :: ([.fieldLink RX9 58 "RainTarget" "second" "LRainTarget$SecondSide;", .methodLink RX9 85 yX9_within, .static yX9_within, .initialized RX9, .code yX9_within cX9_within 3 (some .boolean), .instanceMethod yX5_part, .initialized RX5, .selects RX5 yX5_part yX5_part, .code yX5_part cX5_part 3 (some .int), .fieldLink RX5 11 "RainTarget$SecondSide" "events" "[I"] ++ wsX90 ++ wsX50)
def wsX9_isRule : List Cond := .code yX9_isRule cX9_isRule 1 (some .boolean) :: ([.methodLink RX9 85 yX9_within, .static yX9_within, .initialized RX9, .code yX9_within cX9_within 3 (some .boolean)])
def wsX9_target_r1 : List Cond := [Cond.fieldLink RX9 67 "RainTarget" "umpire" "LRainTarget$Umpire;", Cond.fieldLink RX9 58 "RainTarget" "second" "LRainTarget$SecondSide;", Cond.methodLink RX9 186 yX9_isRule, Cond.static yX9_isRule, Cond.initialized RX9, Cond.code yX9_isRule cX9_isRule 1 (some .boolean), Cond.methodLink RX9 85 yX9_within, Cond.static yX9_within, Cond.code yX9_within cX9_within 3 (some .boolean), Cond.instanceMethod yX8_behind, Cond.initialized RX8, Cond.selects RX8 yX8_behind yX8_behind, Cond.code yX8_behind cX8_behind 5 (some .int), Cond.methodLink RX8 27 yX8_begin, Cond.instanceMethod yX8_begin, Cond.selects RX8 yX8_begin yX8_begin, Cond.code yX8_begin cX8_begin 2 none, Cond.fieldLink RX8 67 "RainTarget$Umpire" "rule" "I", Cond.fieldLink RX8 70 "RainTarget$Umpire" "taken" "I", Cond.fieldLink RX8 73 "RainTarget$Umpire" "lost" "I", Cond.fieldLink RX8 23 "RainTarget$Umpire" "first" "LRainTarget$FirstSide;", Cond.fieldLink RX8 81 "RainTarget$Umpire" "kept" "I", Cond.instanceMethod yX5_part, Cond.initialized RX5]
def wsX9_target_r2 : List Cond := [Cond.selects RX5 yX5_part yX5_part, Cond.code yX5_part cX5_part 3 (some .int), Cond.fieldLink RX5 11 "RainTarget$SecondSide" "events" "[I", Cond.methodLink RX8 37 yX8_hear, Cond.instanceMethod yX8_hear, Cond.selects RX8 yX8_hear yX8_hear, Cond.code yX8_hear cX8_hear 5 none, Cond.fieldLink RX8 19 "RainTarget$Umpire" "batting" "LRainTarget$Batting;", Cond.fieldLink RX8 15 "RainTarget$Umpire" "settings" "LRainTarget$Settings;", Cond.instanceMethod yX0_share, Cond.initialized RX0, Cond.selects RX0 yX0_share yX0_share, Cond.code yX0_share cX0_share 6 (some .int), Cond.constantLong RX0 73 (1000), Cond.methodLink RX0 56 yX0_mean, Cond.instanceMethod yX0_mean, Cond.selects RX0 yX0_mean yX0_mean, Cond.code yX0_mean cX0_mean 3 (some .long), Cond.fieldLink RX0 9 "RainTarget$Batting" "means" "[J", Cond.static yX9_power, Cond.code yX9_power cX9_power 1 (some .long), Cond.fieldLink RX9 259 "RainTarget" "TEN" "[J", Cond.static yX9_cut, Cond.code yX9_cut cX9_cut 4 (some .long)]
def wsX9_target_r3 : List Cond := [Cond.methodLink RX8 90 yX8_bentShare, Cond.instanceMethod yX8_bentShare, Cond.selects RX8 yX8_bentShare yX8_bentShare, Cond.code yX8_bentShare cX8_bentShare 8 (some .int), Cond.methodLink RX8 118 Lib.Math.min.name, Cond.static Lib.Math.min.name, Cond.initialized "java/lang/Math", Cond.code Lib.Math.min.name Lib.Math.min.code 2 (some .int), Cond.methodLink RX8 121 Lib.Math.max.name, Cond.static Lib.Math.max.name, Cond.code Lib.Math.max.name Lib.Math.max.code 2 (some .int), Cond.methodLink RX8 54 yX8_keepingOdds, Cond.instanceMethod yX8_keepingOdds, Cond.selects RX8 yX8_keepingOdds yX8_keepingOdds, Cond.code yX8_keepingOdds cX8_keepingOdds 10 (some .int), Cond.instanceMethod yX0_chance, Cond.selects RX0 yX0_chance yX0_chance, Cond.code yX0_chance cX0_chance 8 (some .long), Cond.fieldLink RX0 15 "RainTarget$Batting" "chances" "[J", Cond.methodLink RX0 32 Lib.MathLoose.max_long.x, Cond.static Lib.MathLoose.max_long.x, Cond.code Lib.MathLoose.max_long.x Lib.MathLoose.max_long.code 4 (some .long), Cond.methodLink RX0 60 yX0_chanceIn, Cond.instanceMethod yX0_chanceIn]
def wsX9_target_r4 : List Cond := [Cond.selects RX0 yX0_chanceIn yX0_chanceIn, Cond.code yX0_chanceIn cX0_chanceIn 9 (some .long), Cond.fieldLink RX0 18 "RainTarget$Batting" "moods" "LRainTarget$Moods;", Cond.instanceMethod yX3_size, Cond.initialized RX3, Cond.selects RX3 yX3_size yX3_size, Cond.code yX3_size cX3_size 2 (some .int), Cond.fieldLink RX3 9 "RainTarget$Moods" "sizes" "[I", Cond.instanceMethod yX3_part, Cond.selects RX3 yX3_part yX3_part, Cond.code yX3_part cX3_part 5 (some .int), Cond.fieldLink RX3 15 "RainTarget$Moods" "parts" "[I", Cond.methodLink RX0 64 yX0_chance, Cond.methodLink RX8 41 yX8_ruled, Cond.instanceMethod yX8_ruled, Cond.selects RX8 yX8_ruled yX8_ruled, Cond.code yX8_ruled cX8_ruled 1 (some .int), Cond.constantLong RX8 104 (1000), Cond.methodLink RX8 97 yX8_atLeastOne, Cond.static yX8_atLeastOne, Cond.code yX8_atLeastOne cX8_atLeastOne 2 (some .int), Cond.methodLink RX8 109 Lib.MathLoose.max_long.x, Cond.instanceMethod yX1_withoutLeast, Cond.initialized RX1]
def wsX9_target_r5 : List Cond := [Cond.selects RX1 yX1_withoutLeast yX1_withoutLeast, Cond.code yX1_withoutLeast cX1_withoutLeast 5 (some .int), Cond.fieldLink RX1 9 "RainTarget$FirstSide" "overs" "[I", Cond.methodLink RX1 32 yX1_rank, Cond.instanceMethod yX1_rank, Cond.selects RX1 yX1_rank yX1_rank, Cond.code yX1_rank cX1_rank 5 (some .int), Cond.methodLink RX8 58 yX8_said, Cond.instanceMethod yX8_said, Cond.selects RX8 yX8_said yX8_said, Cond.code yX8_said cX8_said 3 (some .int)]
def wsX9_target : List Cond := .code yX9_target cX9_target 2 (some .int) :: ((wsX9_target_r1 ++ (wsX9_target_r2 ++ (wsX9_target_r3 ++ (wsX9_target_r4 ++ wsX9_target_r5)))) ++ wsX90 ++ wsX50 ++ wsX80 ++ wsX10 ++ wsX60 ++ wsX00 ++ wsX30)
def wsX9_odds_r1 : List Cond := [Cond.fieldLink RX9 67 "RainTarget" "umpire" "LRainTarget$Umpire;", Cond.fieldLink RX9 58 "RainTarget" "second" "LRainTarget$SecondSide;", Cond.fieldLink RX9 44 "RainTarget" "batting" "LRainTarget$Batting;", Cond.methodLink RX9 186 yX9_isRule, Cond.static yX9_isRule, Cond.initialized RX9, Cond.code yX9_isRule cX9_isRule 1 (some .boolean), Cond.methodLink RX9 85 yX9_within, Cond.static yX9_within, Cond.code yX9_within cX9_within 3 (some .boolean), Cond.instanceMethod yX8_behind, Cond.initialized RX8, Cond.selects RX8 yX8_behind yX8_behind, Cond.code yX8_behind cX8_behind 5 (some .int), Cond.methodLink RX8 27 yX8_begin, Cond.instanceMethod yX8_begin, Cond.selects RX8 yX8_begin yX8_begin, Cond.code yX8_begin cX8_begin 2 none, Cond.fieldLink RX8 67 "RainTarget$Umpire" "rule" "I", Cond.fieldLink RX8 70 "RainTarget$Umpire" "taken" "I", Cond.fieldLink RX8 73 "RainTarget$Umpire" "lost" "I", Cond.fieldLink RX8 23 "RainTarget$Umpire" "first" "LRainTarget$FirstSide;", Cond.fieldLink RX8 81 "RainTarget$Umpire" "kept" "I", Cond.instanceMethod yX5_part]
def wsX9_odds_r2 : List Cond := [Cond.initialized RX5, Cond.selects RX5 yX5_part yX5_part, Cond.code yX5_part cX5_part 3 (some .int), Cond.fieldLink RX5 11 "RainTarget$SecondSide" "events" "[I", Cond.methodLink RX8 37 yX8_hear, Cond.instanceMethod yX8_hear, Cond.selects RX8 yX8_hear yX8_hear, Cond.code yX8_hear cX8_hear 5 none, Cond.fieldLink RX8 19 "RainTarget$Umpire" "batting" "LRainTarget$Batting;", Cond.fieldLink RX8 15 "RainTarget$Umpire" "settings" "LRainTarget$Settings;", Cond.instanceMethod yX0_share, Cond.initialized RX0, Cond.selects RX0 yX0_share yX0_share, Cond.code yX0_share cX0_share 6 (some .int), Cond.constantLong RX0 73 (1000), Cond.methodLink RX0 56 yX0_mean, Cond.instanceMethod yX0_mean, Cond.selects RX0 yX0_mean yX0_mean, Cond.code yX0_mean cX0_mean 3 (some .long), Cond.fieldLink RX0 9 "RainTarget$Batting" "means" "[J", Cond.static yX9_power, Cond.code yX9_power cX9_power 1 (some .long), Cond.fieldLink RX9 259 "RainTarget" "TEN" "[J", Cond.static yX9_cut]
def wsX9_odds_r3 : List Cond := [Cond.code yX9_cut cX9_cut 4 (some .long), Cond.methodLink RX8 90 yX8_bentShare, Cond.instanceMethod yX8_bentShare, Cond.selects RX8 yX8_bentShare yX8_bentShare, Cond.code yX8_bentShare cX8_bentShare 8 (some .int), Cond.methodLink RX8 118 Lib.Math.min.name, Cond.static Lib.Math.min.name, Cond.initialized "java/lang/Math", Cond.code Lib.Math.min.name Lib.Math.min.code 2 (some .int), Cond.methodLink RX8 121 Lib.Math.max.name, Cond.static Lib.Math.max.name, Cond.code Lib.Math.max.name Lib.Math.max.code 2 (some .int), Cond.methodLink RX8 54 yX8_keepingOdds, Cond.instanceMethod yX8_keepingOdds, Cond.selects RX8 yX8_keepingOdds yX8_keepingOdds, Cond.code yX8_keepingOdds cX8_keepingOdds 10 (some .int), Cond.instanceMethod yX0_chance, Cond.selects RX0 yX0_chance yX0_chance, Cond.code yX0_chance cX0_chance 8 (some .long), Cond.fieldLink RX0 15 "RainTarget$Batting" "chances" "[J", Cond.methodLink RX0 32 Lib.MathLoose.max_long.x, Cond.static Lib.MathLoose.max_long.x, Cond.code Lib.MathLoose.max_long.x Lib.MathLoose.max_long.code 4 (some .long), Cond.methodLink RX0 60 yX0_chanceIn]
def wsX9_odds_r4 : List Cond := [Cond.instanceMethod yX0_chanceIn, Cond.selects RX0 yX0_chanceIn yX0_chanceIn, Cond.code yX0_chanceIn cX0_chanceIn 9 (some .long), Cond.fieldLink RX0 18 "RainTarget$Batting" "moods" "LRainTarget$Moods;", Cond.instanceMethod yX3_size, Cond.initialized RX3, Cond.selects RX3 yX3_size yX3_size, Cond.code yX3_size cX3_size 2 (some .int), Cond.fieldLink RX3 9 "RainTarget$Moods" "sizes" "[I", Cond.instanceMethod yX3_part, Cond.selects RX3 yX3_part yX3_part, Cond.code yX3_part cX3_part 5 (some .int), Cond.fieldLink RX3 15 "RainTarget$Moods" "parts" "[I", Cond.methodLink RX0 64 yX0_chance, Cond.methodLink RX8 41 yX8_ruled, Cond.instanceMethod yX8_ruled, Cond.selects RX8 yX8_ruled yX8_ruled, Cond.code yX8_ruled cX8_ruled 1 (some .int), Cond.constantLong RX8 104 (1000), Cond.methodLink RX8 97 yX8_atLeastOne, Cond.static yX8_atLeastOne, Cond.code yX8_atLeastOne cX8_atLeastOne 2 (some .int), Cond.methodLink RX8 109 Lib.MathLoose.max_long.x, Cond.instanceMethod yX1_withoutLeast]
def wsX9_odds_r5 : List Cond := [Cond.initialized RX1, Cond.selects RX1 yX1_withoutLeast yX1_withoutLeast, Cond.code yX1_withoutLeast cX1_withoutLeast 5 (some .int), Cond.fieldLink RX1 9 "RainTarget$FirstSide" "overs" "[I", Cond.methodLink RX1 32 yX1_rank, Cond.instanceMethod yX1_rank, Cond.selects RX1 yX1_rank yX1_rank, Cond.code yX1_rank cX1_rank 5 (some .int), Cond.methodLink RX8 58 yX8_said, Cond.instanceMethod yX8_said, Cond.selects RX8 yX8_said yX8_said, Cond.code yX8_said cX8_said 3 (some .int), Cond.instanceMethod yX0_millionths, Cond.selects RX0 yX0_millionths yX0_millionths, Cond.code yX0_millionths cX0_millionths 4 (some .int), Cond.static yX9_inMillionths, Cond.code yX9_inMillionths cX9_inMillionths 3 (some .int), Cond.methodLink RX9 132 yX9_power, Cond.methodLink RX9 263 yX9_cut]
def wsX9_odds : List Cond := .code yX9_odds cX9_odds 3 (some .int) :: ((wsX9_odds_r1 ++ (wsX9_odds_r2 ++ (wsX9_odds_r3 ++ (wsX9_odds_r4 ++ wsX9_odds_r5)))) ++ wsX90 ++ wsX50 ++ wsX80 ++ wsX10 ++ wsX60 ++ wsX00 ++ wsX30)
def wsX9_gain_r1 : List Cond := [Cond.fieldLink RX9 58 "RainTarget" "second" "LRainTarget$SecondSide;", Cond.fieldLink RX9 44 "RainTarget" "batting" "LRainTarget$Batting;", Cond.fieldLink RX9 67 "RainTarget" "umpire" "LRainTarget$Umpire;", Cond.constant RX9 202 (1000000), Cond.methodLink RX9 186 yX9_isRule, Cond.static yX9_isRule, Cond.initialized RX9, Cond.code yX9_isRule cX9_isRule 1 (some .boolean), Cond.methodLink RX9 85 yX9_within, Cond.static yX9_within, Cond.code yX9_within cX9_within 3 (some .boolean), Cond.instanceMethod yX5_lastRain, Cond.initialized RX5, Cond.selects RX5 yX5_lastRain yX5_lastRain, Cond.code yX5_lastRain cX5_lastRain 2 (some .int), Cond.fieldLink RX5 15 "RainTarget$SecondSide" "size" "I", Cond.methodLink RX5 46 yX5_part, Cond.instanceMethod yX5_part, Cond.selects RX5 yX5_part yX5_part, Cond.code yX5_part cX5_part 3 (some .int), Cond.fieldLink RX5 11 "RainTarget$SecondSide" "events" "[I", Cond.instanceMethod yX8_behind, Cond.initialized RX8, Cond.selects RX8 yX8_behind yX8_behind]
def wsX9_gain_r2 : List Cond := [Cond.code yX8_behind cX8_behind 5 (some .int), Cond.methodLink RX8 27 yX8_begin, Cond.instanceMethod yX8_begin, Cond.selects RX8 yX8_begin yX8_begin, Cond.code yX8_begin cX8_begin 2 none, Cond.fieldLink RX8 67 "RainTarget$Umpire" "rule" "I", Cond.fieldLink RX8 70 "RainTarget$Umpire" "taken" "I", Cond.fieldLink RX8 73 "RainTarget$Umpire" "lost" "I", Cond.fieldLink RX8 23 "RainTarget$Umpire" "first" "LRainTarget$FirstSide;", Cond.fieldLink RX8 81 "RainTarget$Umpire" "kept" "I", Cond.methodLink RX8 37 yX8_hear, Cond.instanceMethod yX8_hear, Cond.selects RX8 yX8_hear yX8_hear, Cond.code yX8_hear cX8_hear 5 none, Cond.fieldLink RX8 19 "RainTarget$Umpire" "batting" "LRainTarget$Batting;", Cond.fieldLink RX8 15 "RainTarget$Umpire" "settings" "LRainTarget$Settings;", Cond.instanceMethod yX0_share, Cond.initialized RX0, Cond.selects RX0 yX0_share yX0_share, Cond.code yX0_share cX0_share 6 (some .int), Cond.constantLong RX0 73 (1000), Cond.methodLink RX0 56 yX0_mean, Cond.instanceMethod yX0_mean, Cond.selects RX0 yX0_mean yX0_mean]
def wsX9_gain_r3 : List Cond := [Cond.code yX0_mean cX0_mean 3 (some .long), Cond.fieldLink RX0 9 "RainTarget$Batting" "means" "[J", Cond.static yX9_power, Cond.code yX9_power cX9_power 1 (some .long), Cond.fieldLink RX9 259 "RainTarget" "TEN" "[J", Cond.static yX9_cut, Cond.code yX9_cut cX9_cut 4 (some .long), Cond.methodLink RX8 90 yX8_bentShare, Cond.instanceMethod yX8_bentShare, Cond.selects RX8 yX8_bentShare yX8_bentShare, Cond.code yX8_bentShare cX8_bentShare 8 (some .int), Cond.methodLink RX8 118 Lib.Math.min.name, Cond.static Lib.Math.min.name, Cond.initialized "java/lang/Math", Cond.code Lib.Math.min.name Lib.Math.min.code 2 (some .int), Cond.methodLink RX8 121 Lib.Math.max.name, Cond.static Lib.Math.max.name, Cond.code Lib.Math.max.name Lib.Math.max.code 2 (some .int), Cond.methodLink RX8 54 yX8_keepingOdds, Cond.instanceMethod yX8_keepingOdds, Cond.selects RX8 yX8_keepingOdds yX8_keepingOdds, Cond.code yX8_keepingOdds cX8_keepingOdds 10 (some .int), Cond.instanceMethod yX0_chance, Cond.selects RX0 yX0_chance yX0_chance]
def wsX9_gain_r4 : List Cond := [Cond.code yX0_chance cX0_chance 8 (some .long), Cond.fieldLink RX0 15 "RainTarget$Batting" "chances" "[J", Cond.methodLink RX0 32 Lib.MathLoose.max_long.x, Cond.static Lib.MathLoose.max_long.x, Cond.code Lib.MathLoose.max_long.x Lib.MathLoose.max_long.code 4 (some .long), Cond.methodLink RX0 60 yX0_chanceIn, Cond.instanceMethod yX0_chanceIn, Cond.selects RX0 yX0_chanceIn yX0_chanceIn, Cond.code yX0_chanceIn cX0_chanceIn 9 (some .long), Cond.fieldLink RX0 18 "RainTarget$Batting" "moods" "LRainTarget$Moods;", Cond.instanceMethod yX3_size, Cond.initialized RX3, Cond.selects RX3 yX3_size yX3_size, Cond.code yX3_size cX3_size 2 (some .int), Cond.fieldLink RX3 9 "RainTarget$Moods" "sizes" "[I", Cond.instanceMethod yX3_part, Cond.selects RX3 yX3_part yX3_part, Cond.code yX3_part cX3_part 5 (some .int), Cond.fieldLink RX3 15 "RainTarget$Moods" "parts" "[I", Cond.methodLink RX0 64 yX0_chance, Cond.methodLink RX8 41 yX8_ruled, Cond.instanceMethod yX8_ruled, Cond.selects RX8 yX8_ruled yX8_ruled, Cond.code yX8_ruled cX8_ruled 1 (some .int)]
def wsX9_gain_r5 : List Cond := [Cond.constantLong RX8 104 (1000), Cond.methodLink RX8 97 yX8_atLeastOne, Cond.static yX8_atLeastOne, Cond.code yX8_atLeastOne cX8_atLeastOne 2 (some .int), Cond.methodLink RX8 109 Lib.MathLoose.max_long.x, Cond.instanceMethod yX1_withoutLeast, Cond.initialized RX1, Cond.selects RX1 yX1_withoutLeast yX1_withoutLeast, Cond.code yX1_withoutLeast cX1_withoutLeast 5 (some .int), Cond.fieldLink RX1 9 "RainTarget$FirstSide" "overs" "[I", Cond.methodLink RX1 32 yX1_rank, Cond.instanceMethod yX1_rank, Cond.selects RX1 yX1_rank yX1_rank, Cond.code yX1_rank cX1_rank 5 (some .int), Cond.methodLink RX8 58 yX8_said, Cond.instanceMethod yX8_said, Cond.selects RX8 yX8_said yX8_said, Cond.code yX8_said cX8_said 3 (some .int), Cond.instanceMethod yX0_millionths, Cond.selects RX0 yX0_millionths yX0_millionths, Cond.code yX0_millionths cX0_millionths 4 (some .int), Cond.static yX9_inMillionths, Cond.code yX9_inMillionths cX9_inMillionths 3 (some .int), Cond.methodLink RX9 132 yX9_power]
def wsX9_gain_r6 : List Cond := [Cond.methodLink RX9 263 yX9_cut]
def wsX9_gain : List Cond := .code yX9_gain cX9_gain 9 (some .int) :: ((wsX9_gain_r1 ++ (wsX9_gain_r2 ++ (wsX9_gain_r3 ++ (wsX9_gain_r4 ++ (wsX9_gain_r5 ++ wsX9_gain_r6))))) ++ wsX90 ++ wsX50 ++ wsX80 ++ wsX10 ++ wsX60 ++ wsX00 ++ wsX30)
def wsX9_won_r1 : List Cond := [Cond.fieldLink RX9 58 "RainTarget" "second" "LRainTarget$SecondSide;", Cond.fieldLink RX9 67 "RainTarget" "umpire" "LRainTarget$Umpire;", Cond.methodLink RX9 186 yX9_isRule, Cond.static yX9_isRule, Cond.initialized RX9, Cond.code yX9_isRule cX9_isRule 1 (some .boolean), Cond.methodLink RX9 85 yX9_within, Cond.static yX9_within, Cond.code yX9_within cX9_within 3 (some .boolean), Cond.instanceMethod yX8_behind, Cond.initialized RX8, Cond.selects RX8 yX8_behind yX8_behind, Cond.code yX8_behind cX8_behind 5 (some .int), Cond.methodLink RX8 27 yX8_begin, Cond.instanceMethod yX8_begin, Cond.selects RX8 yX8_begin yX8_begin, Cond.code yX8_begin cX8_begin 2 none, Cond.fieldLink RX8 67 "RainTarget$Umpire" "rule" "I", Cond.fieldLink RX8 70 "RainTarget$Umpire" "taken" "I", Cond.fieldLink RX8 73 "RainTarget$Umpire" "lost" "I", Cond.fieldLink RX8 23 "RainTarget$Umpire" "first" "LRainTarget$FirstSide;", Cond.fieldLink RX8 81 "RainTarget$Umpire" "kept" "I", Cond.instanceMethod yX5_part, Cond.initialized RX5]
def wsX9_won_r2 : List Cond := [Cond.selects RX5 yX5_part yX5_part, Cond.code yX5_part cX5_part 3 (some .int), Cond.fieldLink RX5 11 "RainTarget$SecondSide" "events" "[I", Cond.methodLink RX8 37 yX8_hear, Cond.instanceMethod yX8_hear, Cond.selects RX8 yX8_hear yX8_hear, Cond.code yX8_hear cX8_hear 5 none, Cond.fieldLink RX8 19 "RainTarget$Umpire" "batting" "LRainTarget$Batting;", Cond.fieldLink RX8 15 "RainTarget$Umpire" "settings" "LRainTarget$Settings;", Cond.instanceMethod yX0_share, Cond.initialized RX0, Cond.selects RX0 yX0_share yX0_share, Cond.code yX0_share cX0_share 6 (some .int), Cond.constantLong RX0 73 (1000), Cond.methodLink RX0 56 yX0_mean, Cond.instanceMethod yX0_mean, Cond.selects RX0 yX0_mean yX0_mean, Cond.code yX0_mean cX0_mean 3 (some .long), Cond.fieldLink RX0 9 "RainTarget$Batting" "means" "[J", Cond.static yX9_power, Cond.code yX9_power cX9_power 1 (some .long), Cond.fieldLink RX9 259 "RainTarget" "TEN" "[J", Cond.static yX9_cut, Cond.code yX9_cut cX9_cut 4 (some .long)]
def wsX9_won_r3 : List Cond := [Cond.methodLink RX8 90 yX8_bentShare, Cond.instanceMethod yX8_bentShare, Cond.selects RX8 yX8_bentShare yX8_bentShare, Cond.code yX8_bentShare cX8_bentShare 8 (some .int), Cond.methodLink RX8 118 Lib.Math.min.name, Cond.static Lib.Math.min.name, Cond.initialized "java/lang/Math", Cond.code Lib.Math.min.name Lib.Math.min.code 2 (some .int), Cond.methodLink RX8 121 Lib.Math.max.name, Cond.static Lib.Math.max.name, Cond.code Lib.Math.max.name Lib.Math.max.code 2 (some .int), Cond.methodLink RX8 54 yX8_keepingOdds, Cond.instanceMethod yX8_keepingOdds, Cond.selects RX8 yX8_keepingOdds yX8_keepingOdds, Cond.code yX8_keepingOdds cX8_keepingOdds 10 (some .int), Cond.instanceMethod yX0_chance, Cond.selects RX0 yX0_chance yX0_chance, Cond.code yX0_chance cX0_chance 8 (some .long), Cond.fieldLink RX0 15 "RainTarget$Batting" "chances" "[J", Cond.methodLink RX0 32 Lib.MathLoose.max_long.x, Cond.static Lib.MathLoose.max_long.x, Cond.code Lib.MathLoose.max_long.x Lib.MathLoose.max_long.code 4 (some .long), Cond.methodLink RX0 60 yX0_chanceIn, Cond.instanceMethod yX0_chanceIn]
def wsX9_won_r4 : List Cond := [Cond.selects RX0 yX0_chanceIn yX0_chanceIn, Cond.code yX0_chanceIn cX0_chanceIn 9 (some .long), Cond.fieldLink RX0 18 "RainTarget$Batting" "moods" "LRainTarget$Moods;", Cond.instanceMethod yX3_size, Cond.initialized RX3, Cond.selects RX3 yX3_size yX3_size, Cond.code yX3_size cX3_size 2 (some .int), Cond.fieldLink RX3 9 "RainTarget$Moods" "sizes" "[I", Cond.instanceMethod yX3_part, Cond.selects RX3 yX3_part yX3_part, Cond.code yX3_part cX3_part 5 (some .int), Cond.fieldLink RX3 15 "RainTarget$Moods" "parts" "[I", Cond.methodLink RX0 64 yX0_chance, Cond.methodLink RX8 41 yX8_ruled, Cond.instanceMethod yX8_ruled, Cond.selects RX8 yX8_ruled yX8_ruled, Cond.code yX8_ruled cX8_ruled 1 (some .int), Cond.constantLong RX8 104 (1000), Cond.methodLink RX8 97 yX8_atLeastOne, Cond.static yX8_atLeastOne, Cond.code yX8_atLeastOne cX8_atLeastOne 2 (some .int), Cond.methodLink RX8 109 Lib.MathLoose.max_long.x, Cond.instanceMethod yX1_withoutLeast, Cond.initialized RX1]
def wsX9_won_r5 : List Cond := [Cond.selects RX1 yX1_withoutLeast yX1_withoutLeast, Cond.code yX1_withoutLeast cX1_withoutLeast 5 (some .int), Cond.fieldLink RX1 9 "RainTarget$FirstSide" "overs" "[I", Cond.methodLink RX1 32 yX1_rank, Cond.instanceMethod yX1_rank, Cond.selects RX1 yX1_rank yX1_rank, Cond.code yX1_rank cX1_rank 5 (some .int), Cond.methodLink RX8 58 yX8_said, Cond.instanceMethod yX8_said, Cond.selects RX8 yX8_said yX8_said, Cond.code yX8_said cX8_said 3 (some .int), Cond.instanceMethod yX5_isAtEnd, Cond.selects RX5 yX5_isAtEnd yX5_isAtEnd, Cond.code yX5_isAtEnd cX5_isAtEnd 1 (some .boolean), Cond.fieldLink RX5 24 "RainTarget$SecondSide" "overs" "I", Cond.fieldLink RX5 28 "RainTarget$SecondSide" "men" "I"]
def wsX9_won : List Cond := .code yX9_won cX9_won 2 (some .int) :: ((wsX9_won_r1 ++ (wsX9_won_r2 ++ (wsX9_won_r3 ++ (wsX9_won_r4 ++ wsX9_won_r5)))) ++ wsX90 ++ wsX50 ++ wsX80 ++ wsX10 ++ wsX60 ++ wsX00 ++ wsX30)
def wsX9_odd_r1 : List Cond := [Cond.fieldLink RX9 28 "RainTarget" "settings" "LRainTarget$Settings;", Cond.fieldLink RX9 51 "RainTarget" "first" "LRainTarget$FirstSide;", Cond.fieldLink RX9 67 "RainTarget" "umpire" "LRainTarget$Umpire;", Cond.methodLink RX9 186 yX9_isRule, Cond.static yX9_isRule, Cond.initialized RX9, Cond.code yX9_isRule cX9_isRule 1 (some .boolean), Cond.methodLink RX9 85 yX9_within, Cond.static yX9_within, Cond.code yX9_within cX9_within 3 (some .boolean), Cond.instanceMethod yX8_afterOneRain, Cond.initialized RX8, Cond.selects RX8 yX8_afterOneRain yX8_afterOneRain, Cond.code yX8_afterOneRain cX8_afterOneRain 4 (some .int), Cond.fieldLink RX8 15 "RainTarget$Umpire" "settings" "LRainTarget$Settings;", Cond.methodLink RX8 27 yX8_begin, Cond.instanceMethod yX8_begin, Cond.selects RX8 yX8_begin yX8_begin, Cond.code yX8_begin cX8_begin 2 none, Cond.fieldLink RX8 67 "RainTarget$Umpire" "rule" "I", Cond.fieldLink RX8 70 "RainTarget$Umpire" "taken" "I", Cond.fieldLink RX8 73 "RainTarget$Umpire" "lost" "I", Cond.fieldLink RX8 23 "RainTarget$Umpire" "first" "LRainTarget$FirstSide;", Cond.fieldLink RX8 81 "RainTarget$Umpire" "kept" "I"]
def wsX9_odd_r2 : List Cond := [Cond.methodLink RX8 37 yX8_hear, Cond.instanceMethod yX8_hear, Cond.selects RX8 yX8_hear yX8_hear, Cond.code yX8_hear cX8_hear 5 none, Cond.fieldLink RX8 19 "RainTarget$Umpire" "batting" "LRainTarget$Batting;", Cond.instanceMethod yX0_share, Cond.initialized RX0, Cond.selects RX0 yX0_share yX0_share, Cond.code yX0_share cX0_share 6 (some .int), Cond.constantLong RX0 73 (1000), Cond.methodLink RX0 56 yX0_mean, Cond.instanceMethod yX0_mean, Cond.selects RX0 yX0_mean yX0_mean, Cond.code yX0_mean cX0_mean 3 (some .long), Cond.fieldLink RX0 9 "RainTarget$Batting" "means" "[J", Cond.static yX9_power, Cond.code yX9_power cX9_power 1 (some .long), Cond.fieldLink RX9 259 "RainTarget" "TEN" "[J", Cond.static yX9_cut, Cond.code yX9_cut cX9_cut 4 (some .long), Cond.methodLink RX8 90 yX8_bentShare, Cond.instanceMethod yX8_bentShare, Cond.selects RX8 yX8_bentShare yX8_bentShare, Cond.code yX8_bentShare cX8_bentShare 8 (some .int)]
def wsX9_odd_r3 : List Cond := [Cond.methodLink RX8 118 Lib.Math.min.name, Cond.static Lib.Math.min.name, Cond.initialized "java/lang/Math", Cond.code Lib.Math.min.name Lib.Math.min.code 2 (some .int), Cond.methodLink RX8 121 Lib.Math.max.name, Cond.static Lib.Math.max.name, Cond.code Lib.Math.max.name Lib.Math.max.code 2 (some .int), Cond.methodLink RX8 54 yX8_keepingOdds, Cond.instanceMethod yX8_keepingOdds, Cond.selects RX8 yX8_keepingOdds yX8_keepingOdds, Cond.code yX8_keepingOdds cX8_keepingOdds 10 (some .int), Cond.instanceMethod yX0_chance, Cond.selects RX0 yX0_chance yX0_chance, Cond.code yX0_chance cX0_chance 8 (some .long), Cond.fieldLink RX0 15 "RainTarget$Batting" "chances" "[J", Cond.methodLink RX0 32 Lib.MathLoose.max_long.x, Cond.static Lib.MathLoose.max_long.x, Cond.code Lib.MathLoose.max_long.x Lib.MathLoose.max_long.code 4 (some .long), Cond.methodLink RX0 60 yX0_chanceIn, Cond.instanceMethod yX0_chanceIn, Cond.selects RX0 yX0_chanceIn yX0_chanceIn, Cond.code yX0_chanceIn cX0_chanceIn 9 (some .long), Cond.fieldLink RX0 18 "RainTarget$Batting" "moods" "LRainTarget$Moods;", Cond.instanceMethod yX3_size]
def wsX9_odd_r4 : List Cond := [Cond.initialized RX3, Cond.selects RX3 yX3_size yX3_size, Cond.code yX3_size cX3_size 2 (some .int), Cond.fieldLink RX3 9 "RainTarget$Moods" "sizes" "[I", Cond.instanceMethod yX3_part, Cond.selects RX3 yX3_part yX3_part, Cond.code yX3_part cX3_part 5 (some .int), Cond.fieldLink RX3 15 "RainTarget$Moods" "parts" "[I", Cond.methodLink RX0 64 yX0_chance, Cond.methodLink RX8 41 yX8_ruled, Cond.instanceMethod yX8_ruled, Cond.selects RX8 yX8_ruled yX8_ruled, Cond.code yX8_ruled cX8_ruled 1 (some .int), Cond.constantLong RX8 104 (1000), Cond.methodLink RX8 97 yX8_atLeastOne, Cond.static yX8_atLeastOne, Cond.code yX8_atLeastOne cX8_atLeastOne 2 (some .int), Cond.methodLink RX8 109 Lib.MathLoose.max_long.x, Cond.instanceMethod yX1_withoutLeast, Cond.initialized RX1, Cond.selects RX1 yX1_withoutLeast yX1_withoutLeast, Cond.code yX1_withoutLeast cX1_withoutLeast 5 (some .int), Cond.fieldLink RX1 9 "RainTarget$FirstSide" "overs" "[I", Cond.methodLink RX1 32 yX1_rank]
def wsX9_odd_r5 : List Cond := [Cond.instanceMethod yX1_rank, Cond.selects RX1 yX1_rank yX1_rank, Cond.code yX1_rank cX1_rank 5 (some .int), Cond.methodLink RX8 58 yX8_said, Cond.instanceMethod yX8_said, Cond.selects RX8 yX8_said yX8_said, Cond.code yX8_said cX8_said 3 (some .int)]
def wsX9_odd : List Cond := .code yX9_odd cX9_odd 4 (some .int) :: ((wsX9_odd_r1 ++ (wsX9_odd_r2 ++ (wsX9_odd_r3 ++ (wsX9_odd_r4 ++ wsX9_odd_r5)))) ++ wsX90 ++ wsX60 ++ wsX10 ++ wsX80 ++ wsX00 ++ wsX30)
def wsX9_sheet_r1 : List Cond := [Cond.fieldLink RX9 28 "RainTarget" "settings" "LRainTarget$Settings;", Cond.fieldLink RX9 67 "RainTarget" "umpire" "LRainTarget$Umpire;", Cond.methodLink RX9 186 yX9_isRule, Cond.static yX9_isRule, Cond.initialized RX9, Cond.code yX9_isRule cX9_isRule 1 (some .boolean), Cond.methodLink RX9 85 yX9_within, Cond.static yX9_within, Cond.code yX9_within cX9_within 3 (some .boolean), Cond.instanceMethod yX8_afterOneRain, Cond.initialized RX8, Cond.selects RX8 yX8_afterOneRain yX8_afterOneRain, Cond.code yX8_afterOneRain cX8_afterOneRain 4 (some .int), Cond.fieldLink RX8 15 "RainTarget$Umpire" "settings" "LRainTarget$Settings;", Cond.methodLink RX8 27 yX8_begin, Cond.instanceMethod yX8_begin, Cond.selects RX8 yX8_begin yX8_begin, Cond.code yX8_begin cX8_begin 2 none, Cond.fieldLink RX8 67 "RainTarget$Umpire" "rule" "I", Cond.fieldLink RX8 70 "RainTarget$Umpire" "taken" "I", Cond.fieldLink RX8 73 "RainTarget$Umpire" "lost" "I", Cond.fieldLink RX8 23 "RainTarget$Umpire" "first" "LRainTarget$FirstSide;", Cond.fieldLink RX8 81 "RainTarget$Umpire" "kept" "I", Cond.methodLink RX8 37 yX8_hear]
def wsX9_sheet_r2 : List Cond := [Cond.instanceMethod yX8_hear, Cond.selects RX8 yX8_hear yX8_hear, Cond.code yX8_hear cX8_hear 5 none, Cond.fieldLink RX8 19 "RainTarget$Umpire" "batting" "LRainTarget$Batting;", Cond.instanceMethod yX0_share, Cond.initialized RX0, Cond.selects RX0 yX0_share yX0_share, Cond.code yX0_share cX0_share 6 (some .int), Cond.constantLong RX0 73 (1000), Cond.methodLink RX0 56 yX0_mean, Cond.instanceMethod yX0_mean, Cond.selects RX0 yX0_mean yX0_mean, Cond.code yX0_mean cX0_mean 3 (some .long), Cond.fieldLink RX0 9 "RainTarget$Batting" "means" "[J", Cond.static yX9_power, Cond.code yX9_power cX9_power 1 (some .long), Cond.fieldLink RX9 259 "RainTarget" "TEN" "[J", Cond.static yX9_cut, Cond.code yX9_cut cX9_cut 4 (some .long), Cond.methodLink RX8 90 yX8_bentShare, Cond.instanceMethod yX8_bentShare, Cond.selects RX8 yX8_bentShare yX8_bentShare, Cond.code yX8_bentShare cX8_bentShare 8 (some .int), Cond.methodLink RX8 118 Lib.Math.min.name]
def wsX9_sheet_r3 : List Cond := [Cond.static Lib.Math.min.name, Cond.initialized "java/lang/Math", Cond.code Lib.Math.min.name Lib.Math.min.code 2 (some .int), Cond.methodLink RX8 121 Lib.Math.max.name, Cond.static Lib.Math.max.name, Cond.code Lib.Math.max.name Lib.Math.max.code 2 (some .int), Cond.methodLink RX8 54 yX8_keepingOdds, Cond.instanceMethod yX8_keepingOdds, Cond.selects RX8 yX8_keepingOdds yX8_keepingOdds, Cond.code yX8_keepingOdds cX8_keepingOdds 10 (some .int), Cond.instanceMethod yX0_chance, Cond.selects RX0 yX0_chance yX0_chance, Cond.code yX0_chance cX0_chance 8 (some .long), Cond.fieldLink RX0 15 "RainTarget$Batting" "chances" "[J", Cond.methodLink RX0 32 Lib.MathLoose.max_long.x, Cond.static Lib.MathLoose.max_long.x, Cond.code Lib.MathLoose.max_long.x Lib.MathLoose.max_long.code 4 (some .long), Cond.methodLink RX0 60 yX0_chanceIn, Cond.instanceMethod yX0_chanceIn, Cond.selects RX0 yX0_chanceIn yX0_chanceIn, Cond.code yX0_chanceIn cX0_chanceIn 9 (some .long), Cond.fieldLink RX0 18 "RainTarget$Batting" "moods" "LRainTarget$Moods;", Cond.instanceMethod yX3_size, Cond.initialized RX3]
def wsX9_sheet_r4 : List Cond := [Cond.selects RX3 yX3_size yX3_size, Cond.code yX3_size cX3_size 2 (some .int), Cond.fieldLink RX3 9 "RainTarget$Moods" "sizes" "[I", Cond.instanceMethod yX3_part, Cond.selects RX3 yX3_part yX3_part, Cond.code yX3_part cX3_part 5 (some .int), Cond.fieldLink RX3 15 "RainTarget$Moods" "parts" "[I", Cond.methodLink RX0 64 yX0_chance, Cond.methodLink RX8 41 yX8_ruled, Cond.instanceMethod yX8_ruled, Cond.selects RX8 yX8_ruled yX8_ruled, Cond.code yX8_ruled cX8_ruled 1 (some .int), Cond.constantLong RX8 104 (1000), Cond.methodLink RX8 97 yX8_atLeastOne, Cond.static yX8_atLeastOne, Cond.code yX8_atLeastOne cX8_atLeastOne 2 (some .int), Cond.methodLink RX8 109 Lib.MathLoose.max_long.x, Cond.instanceMethod yX1_withoutLeast, Cond.initialized RX1, Cond.selects RX1 yX1_withoutLeast yX1_withoutLeast, Cond.code yX1_withoutLeast cX1_withoutLeast 5 (some .int), Cond.fieldLink RX1 9 "RainTarget$FirstSide" "overs" "[I", Cond.methodLink RX1 32 yX1_rank, Cond.instanceMethod yX1_rank]
def wsX9_sheet_r5 : List Cond := [Cond.selects RX1 yX1_rank yX1_rank, Cond.code yX1_rank cX1_rank 5 (some .int), Cond.methodLink RX8 58 yX8_said, Cond.instanceMethod yX8_said, Cond.selects RX8 yX8_said yX8_said, Cond.code yX8_said cX8_said 3 (some .int)]
def wsX9_sheet : List Cond := .code yX9_sheet cX9_sheet 3 (some .int) :: ((wsX9_sheet_r1 ++ (wsX9_sheet_r2 ++ (wsX9_sheet_r3 ++ (wsX9_sheet_r4 ++ wsX9_sheet_r5)))) ++ wsX90 ++ wsX60 ++ wsX80 ++ wsX10 ++ wsX00 ++ wsX30)
def wsX9_clouded_r1 : List Cond := [Cond.fieldLink RX9 28 "RainTarget" "settings" "LRainTarget$Settings;", Cond.methodLink RX9 209 Lib.Math.min.name, Cond.static Lib.Math.min.name, Cond.initialized "java/lang/Math", Cond.code Lib.Math.min.name Lib.Math.min.code 2 (some .int), Cond.fieldLink RX9 67 "RainTarget" "umpire" "LRainTarget$Umpire;", Cond.fieldLink RX9 44 "RainTarget" "batting" "LRainTarget$Batting;", Cond.fieldLink RX9 51 "RainTarget" "first" "LRainTarget$FirstSide;", Cond.methodLink RX9 186 yX9_isRule, Cond.static yX9_isRule, Cond.initialized RX9, Cond.code yX9_isRule cX9_isRule 1 (some .boolean), Cond.methodLink RX9 85 yX9_within, Cond.static yX9_within, Cond.code yX9_within cX9_within 3 (some .boolean), Cond.instanceMethod yX8_afterOneRain, Cond.initialized RX8, Cond.selects RX8 yX8_afterOneRain yX8_afterOneRain, Cond.code yX8_afterOneRain cX8_afterOneRain 4 (some .int), Cond.fieldLink RX8 15 "RainTarget$Umpire" "settings" "LRainTarget$Settings;", Cond.methodLink RX8 27 yX8_begin, Cond.instanceMethod yX8_begin, Cond.selects RX8 yX8_begin yX8_begin, Cond.code yX8_begin cX8_begin 2 none]
def wsX9_clouded_r2 : List Cond := [Cond.fieldLink RX8 67 "RainTarget$Umpire" "rule" "I", Cond.fieldLink RX8 70 "RainTarget$Umpire" "taken" "I", Cond.fieldLink RX8 73 "RainTarget$Umpire" "lost" "I", Cond.fieldLink RX8 23 "RainTarget$Umpire" "first" "LRainTarget$FirstSide;", Cond.fieldLink RX8 81 "RainTarget$Umpire" "kept" "I", Cond.methodLink RX8 37 yX8_hear, Cond.instanceMethod yX8_hear, Cond.selects RX8 yX8_hear yX8_hear, Cond.code yX8_hear cX8_hear 5 none, Cond.fieldLink RX8 19 "RainTarget$Umpire" "batting" "LRainTarget$Batting;", Cond.instanceMethod yX0_share, Cond.initialized RX0, Cond.selects RX0 yX0_share yX0_share, Cond.code yX0_share cX0_share 6 (some .int), Cond.constantLong RX0 73 (1000), Cond.methodLink RX0 56 yX0_mean, Cond.instanceMethod yX0_mean, Cond.selects RX0 yX0_mean yX0_mean, Cond.code yX0_mean cX0_mean 3 (some .long), Cond.fieldLink RX0 9 "RainTarget$Batting" "means" "[J", Cond.static yX9_power, Cond.code yX9_power cX9_power 1 (some .long), Cond.fieldLink RX9 259 "RainTarget" "TEN" "[J", Cond.static yX9_cut]
def wsX9_clouded_r3 : List Cond := [Cond.code yX9_cut cX9_cut 4 (some .long), Cond.methodLink RX8 90 yX8_bentShare, Cond.instanceMethod yX8_bentShare, Cond.selects RX8 yX8_bentShare yX8_bentShare, Cond.code yX8_bentShare cX8_bentShare 8 (some .int), Cond.methodLink RX8 118 Lib.Math.min.name, Cond.methodLink RX8 121 Lib.Math.max.name, Cond.static Lib.Math.max.name, Cond.code Lib.Math.max.name Lib.Math.max.code 2 (some .int), Cond.methodLink RX8 54 yX8_keepingOdds, Cond.instanceMethod yX8_keepingOdds, Cond.selects RX8 yX8_keepingOdds yX8_keepingOdds, Cond.code yX8_keepingOdds cX8_keepingOdds 10 (some .int), Cond.instanceMethod yX0_chance, Cond.selects RX0 yX0_chance yX0_chance, Cond.code yX0_chance cX0_chance 8 (some .long), Cond.fieldLink RX0 15 "RainTarget$Batting" "chances" "[J", Cond.methodLink RX0 32 Lib.MathLoose.max_long.x, Cond.static Lib.MathLoose.max_long.x, Cond.code Lib.MathLoose.max_long.x Lib.MathLoose.max_long.code 4 (some .long), Cond.methodLink RX0 60 yX0_chanceIn, Cond.instanceMethod yX0_chanceIn, Cond.selects RX0 yX0_chanceIn yX0_chanceIn, Cond.code yX0_chanceIn cX0_chanceIn 9 (some .long)]
def wsX9_clouded_r4 : List Cond := [Cond.fieldLink RX0 18 "RainTarget$Batting" "moods" "LRainTarget$Moods;", Cond.instanceMethod yX3_size, Cond.initialized RX3, Cond.selects RX3 yX3_size yX3_size, Cond.code yX3_size cX3_size 2 (some .int), Cond.fieldLink RX3 9 "RainTarget$Moods" "sizes" "[I", Cond.instanceMethod yX3_part, Cond.selects RX3 yX3_part yX3_part, Cond.code yX3_part cX3_part 5 (some .int), Cond.fieldLink RX3 15 "RainTarget$Moods" "parts" "[I", Cond.methodLink RX0 64 yX0_chance, Cond.methodLink RX8 41 yX8_ruled, Cond.instanceMethod yX8_ruled, Cond.selects RX8 yX8_ruled yX8_ruled, Cond.code yX8_ruled cX8_ruled 1 (some .int), Cond.constantLong RX8 104 (1000), Cond.methodLink RX8 97 yX8_atLeastOne, Cond.static yX8_atLeastOne, Cond.code yX8_atLeastOne cX8_atLeastOne 2 (some .int), Cond.methodLink RX8 109 Lib.MathLoose.max_long.x, Cond.instanceMethod yX1_withoutLeast, Cond.initialized RX1, Cond.selects RX1 yX1_withoutLeast yX1_withoutLeast, Cond.code yX1_withoutLeast cX1_withoutLeast 5 (some .int)]
def wsX9_clouded_r5 : List Cond := [Cond.fieldLink RX1 9 "RainTarget$FirstSide" "overs" "[I", Cond.methodLink RX1 32 yX1_rank, Cond.instanceMethod yX1_rank, Cond.selects RX1 yX1_rank yX1_rank, Cond.code yX1_rank cX1_rank 5 (some .int), Cond.methodLink RX8 58 yX8_said, Cond.instanceMethod yX8_said, Cond.selects RX8 yX8_said yX8_said, Cond.code yX8_said cX8_said 3 (some .int), Cond.methodLink RX9 132 yX9_power, Cond.methodLink RX9 218 yX9_inMillionths, Cond.static yX9_inMillionths, Cond.code yX9_inMillionths cX9_inMillionths 3 (some .int), Cond.methodLink RX9 263 yX9_cut]
def wsX9_clouded : List Cond := .code yX9_clouded cX9_clouded 11 (some .int) :: ((wsX9_clouded_r1 ++ (wsX9_clouded_r2 ++ (wsX9_clouded_r3 ++ (wsX9_clouded_r4 ++ wsX9_clouded_r5)))) ++ wsX90 ++ wsX60 ++ wsX10 ++ wsX80 ++ wsX00 ++ wsX30)
def wsX9_simple_r1 : List Cond := [Cond.fieldLink RX9 67 "RainTarget" "umpire" "LRainTarget$Umpire;", Cond.methodLink RX9 85 yX9_within, Cond.static yX9_within, Cond.initialized RX9, Cond.code yX9_within cX9_within 3 (some .boolean), Cond.instanceMethod yX8_keepOddsOnSheet, Cond.initialized RX8, Cond.selects RX8 yX8_keepOddsOnSheet yX8_keepOddsOnSheet, Cond.code yX8_keepOddsOnSheet cX8_keepOddsOnSheet 2 none, Cond.fieldLink RX8 15 "RainTarget$Umpire" "settings" "LRainTarget$Settings;", Cond.fieldLink RX8 9 "RainTarget$Umpire" "keptOdds" "[I", Cond.methodLink RX8 27 yX8_begin, Cond.instanceMethod yX8_begin, Cond.selects RX8 yX8_begin yX8_begin, Cond.code yX8_begin cX8_begin 2 none, Cond.fieldLink RX8 67 "RainTarget$Umpire" "rule" "I", Cond.fieldLink RX8 70 "RainTarget$Umpire" "taken" "I", Cond.fieldLink RX8 73 "RainTarget$Umpire" "lost" "I", Cond.fieldLink RX8 23 "RainTarget$Umpire" "first" "LRainTarget$FirstSide;", Cond.fieldLink RX8 81 "RainTarget$Umpire" "kept" "I", Cond.methodLink RX8 54 yX8_keepingOdds, Cond.instanceMethod yX8_keepingOdds, Cond.selects RX8 yX8_keepingOdds yX8_keepingOdds, Cond.code yX8_keepingOdds cX8_keepingOdds 10 (some .int)]
def wsX9_simple_r2 : List Cond := [Cond.fieldLink RX8 19 "RainTarget$Umpire" "batting" "LRainTarget$Batting;", Cond.instanceMethod yX0_chance, Cond.initialized RX0, Cond.selects RX0 yX0_chance yX0_chance, Cond.code yX0_chance cX0_chance 8 (some .long), Cond.fieldLink RX0 15 "RainTarget$Batting" "chances" "[J", Cond.methodLink RX0 32 Lib.MathLoose.max_long.x, Cond.static Lib.MathLoose.max_long.x, Cond.initialized "java/lang/Math", Cond.code Lib.MathLoose.max_long.x Lib.MathLoose.max_long.code 4 (some .long), Cond.static yX9_power, Cond.code yX9_power cX9_power 1 (some .long), Cond.fieldLink RX9 259 "RainTarget" "TEN" "[J", Cond.methodLink RX0 60 yX0_chanceIn, Cond.instanceMethod yX0_chanceIn, Cond.selects RX0 yX0_chanceIn yX0_chanceIn, Cond.code yX0_chanceIn cX0_chanceIn 9 (some .long), Cond.fieldLink RX0 18 "RainTarget$Batting" "moods" "LRainTarget$Moods;", Cond.instanceMethod yX3_size, Cond.initialized RX3, Cond.selects RX3 yX3_size yX3_size, Cond.code yX3_size cX3_size 2 (some .int), Cond.fieldLink RX3 9 "RainTarget$Moods" "sizes" "[I", Cond.instanceMethod yX3_part]
def wsX9_simple_r3 : List Cond := [Cond.selects RX3 yX3_part yX3_part, Cond.code yX3_part cX3_part 5 (some .int), Cond.fieldLink RX3 15 "RainTarget$Moods" "parts" "[I", Cond.methodLink RX0 64 yX0_chance, Cond.instanceMethod yX8_differenceOf, Cond.selects RX8 yX8_differenceOf yX8_differenceOf, Cond.code yX8_differenceOf cX8_differenceOf 4 (some .int), Cond.methodLink RX8 61 Lib.Math.abs.name, Cond.static Lib.Math.abs.name, Cond.code Lib.Math.abs.name Lib.Math.abs.code 1 (some .int), Cond.methodLink RX8 58 yX8_said, Cond.instanceMethod yX8_said, Cond.selects RX8 yX8_said yX8_said, Cond.code yX8_said cX8_said 3 (some .int), Cond.methodLink RX8 97 yX8_atLeastOne, Cond.static yX8_atLeastOne, Cond.code yX8_atLeastOne cX8_atLeastOne 2 (some .int), Cond.methodLink RX8 109 Lib.MathLoose.max_long.x]
def wsX9_simple : List Cond := .code yX9_simple cX9_simple 6 (some .int) :: ((wsX9_simple_r1 ++ (wsX9_simple_r2 ++ wsX9_simple_r3)) ++ wsX90 ++ wsX80 ++ wsX60 ++ wsX10 ++ wsX00 ++ wsX30)
def wsX9_match : List Cond := .code yX9_match cX9_match 4 (some .int) :: ([.fieldLink RX9 74 "RainTarget" "matches" "LRainTarget$Matches;", .methodLink RX9 85 yX9_within, .static yX9_within, .initialized RX9, .code yX9_within cX9_within 3 (some .boolean), .instanceMethod yX2_add, .initialized RX2, .selects RX2 yX2_add yX2_add, .code yX2_add cX2_add 5 none, .fieldLink RX2 15 "RainTarget$Matches" "size" "I", .fieldLink RX2 11 "RainTarget$Matches" "parts" "[I"] ++ wsX90 ++ wsX20)
def wsX9_tried_r1 : List Cond := [Cond.fieldLink RX9 74 "RainTarget" "matches" "LRainTarget$Matches;", Cond.fieldLink RX9 44 "RainTarget" "batting" "LRainTarget$Batting;", Cond.fieldLink RX9 28 "RainTarget" "settings" "LRainTarget$Settings;", Cond.instanceMethod yX2_differenceOf, Cond.initialized RX2, Cond.selects RX2 yX2_differenceOf yX2_differenceOf, Cond.code yX2_differenceOf cX2_differenceOf 8 (some .int), Cond.fieldLink RX2 15 "RainTarget$Matches" "size" "I", Cond.fieldLink RX2 11 "RainTarget$Matches" "parts" "[I", Cond.methodLink RX2 45 Lib.Math.abs.name, Cond.static Lib.Math.abs.name, Cond.initialized "java/lang/Math", Cond.code Lib.Math.abs.name Lib.Math.abs.code 1 (some .int), Cond.instanceMethod yX0_mean, Cond.initialized RX0, Cond.selects RX0 yX0_mean yX0_mean, Cond.code yX0_mean cX0_mean 3 (some .long), Cond.fieldLink RX0 9 "RainTarget$Batting" "means" "[J", Cond.static yX9_within, Cond.initialized RX9, Cond.code yX9_within cX9_within 3 (some .boolean), Cond.static yX9_power, Cond.code yX9_power cX9_power 1 (some .long), Cond.fieldLink RX9 259 "RainTarget" "TEN" "[J"]
def wsX9_tried_r2 : List Cond := [Cond.methodLink RX9 85 yX9_within, Cond.static yX9_cut, Cond.code yX9_cut cX9_cut 4 (some .long)]
def wsX9_tried : List Cond := .code yX9_tried cX9_tried 1 (some .int) :: ((wsX9_tried_r1 ++ wsX9_tried_r2) ++ wsX90 ++ wsX20 ++ wsX60 ++ wsX00)
def wsX9_count : List Cond := .code yX9_count cX9_count 2 (some .int) :: ([.fieldLink RX9 28 "RainTarget" "settings" "LRainTarget$Settings;", .fieldLink RX9 12 "RainTarget" "text" "LRainTarget$Text;", .fieldLink RX9 51 "RainTarget" "first" "LRainTarget$FirstSide;", .fieldLink RX9 58 "RainTarget" "second" "LRainTarget$SecondSide;", .fieldLink RX9 74 "RainTarget" "matches" "LRainTarget$Matches;"] ++ wsX90 ++ wsX60 ++ wsX70 ++ wsX10 ++ wsX50 ++ wsX20)
def wsX10_init_r1 : List Cond := [Cond.methodLink RX10 1 objectInit, Cond.instanceMethod objectInit, Cond.code objectInit ⟨#[0xb1]⟩ 1 none, Cond.fieldLink RX10 7 "RainTargetModel" "overs" "I", Cond.fieldLink RX10 13 "RainTargetModel" "men" "I", Cond.arrayClass .int, Cond.fieldLink RX10 16 "RainTargetModel" "cases" "[I", Cond.fieldLink RX10 20 "RainTargetModel" "mood" "[I", Cond.fieldLink RX10 23 "RainTargetModel" "par" "I", Cond.fieldLink RX10 26 "RainTargetModel" "bend" "I", Cond.fieldLink RX10 29 "RainTargetModel" "line" "I", Cond.fieldLink RX10 32 "RainTargetModel" "text" "[I", Cond.fieldLink RX10 35 "RainTargetModel" "read" "[I", Cond.fieldLink RX10 38 "RainTargetModel" "first" "[I", Cond.fieldLink RX10 41 "RainTargetModel" "sorted" "[I", Cond.fieldLink RX10 44 "RainTargetModel" "kind" "[I", Cond.fieldLink RX10 47 "RainTargetModel" "runsOf" "[I", Cond.fieldLink RX10 50 "RainTargetModel" "outsOf" "[I", Cond.fieldLink RX10 53 "RainTargetModel" "matchOvers" "[I", Cond.fieldLink RX10 56 "RainTargetModel" "matchMen" "[I", Cond.fieldLink RX10 59 "RainTargetModel" "matchRuns" "[I", Cond.arrayClass .long, Cond.fieldLink RX10 62 "RainTargetModel" "makes" "[J", Cond.constant RX10 66 (143000)]
def wsX10_init_r2 : List Cond := [Cond.fieldLink RX10 67 "RainTargetModel" "wins" "[J"]
def wsX10_init : List Cond := .code yX10_init cX10_init 1 none :: ((wsX10_init_r1 ++ wsX10_init_r2) ++ wsX100)
def wsX10_in : List Cond := .code yX10_in cX10_in 3 (some .boolean) :: ([])
def wsX10_ten : List Cond := .code yX10_ten cX10_ten 4 (some .long) :: ([.constantLong RX10 70 (10)])
def wsX10_write : List Cond := .code yX10_write cX10_write 5 (some .int) :: ([.fieldLink RX10 76 "RainTargetModel" "bytes" "I", .fieldLink RX10 32 "RainTargetModel" "text" "[I", .constantLong RX10 79 (255), .methodLink RX10 72 yX10_in, .static yX10_in, .initialized RX10, .code yX10_in cX10_in 3 (some .boolean)] ++ wsX100)
def wsX10_erase : List Cond := .code yX10_erase cX10_erase 2 (some .int) :: ([.fieldLink RX10 76 "RainTargetModel" "bytes" "I"] ++ wsX100)
def wsX10_nextToken : List Cond := .code yX10_nextToken cX10_nextToken 1 none :: ([.fieldLink RX10 81 "RainTargetModel" "position" "I", .fieldLink RX10 76 "RainTargetModel" "bytes" "I", .fieldLink RX10 32 "RainTargetModel" "text" "[I", .fieldLink RX10 84 "RainTargetModel" "tokenAt" "I", .fieldLink RX10 87 "RainTargetModel" "digits" "I", .fieldLink RX10 90 "RainTargetModel" "number" "I", .constantLong RX10 93 (-2), .fieldLink RX10 95 "RainTargetModel" "token" "J", .constantLong RX10 99 (27), .constantLong RX10 101 (96), .constantLong RX10 103 (-4), .constantLong RX10 105 (-1), .constantLong RX10 107 (-3), .methodLink RX10 72 yX10_in, .static yX10_in, .initialized RX10, .code yX10_in cX10_in 3 (some .boolean)] ++ wsX100)
def wsX10_fails : List Cond := .code yX10_fails cX10_fails 1 (some .boolean) :: ([.fieldLink RX10 84 "RainTargetModel" "tokenAt" "I", .fieldLink RX10 109 "RainTargetModel" "faultAt" "I"] ++ wsX100)
def wsX10_isNumber_r1 : List Cond := [Cond.fieldLink RX10 95 "RainTargetModel" "token" "J", Cond.constantLong RX10 105 (-1), Cond.fieldLink RX10 90 "RainTargetModel" "number" "I", Cond.fieldLink RX10 35 "RainTargetModel" "read" "[I", Cond.methodLink RX10 112 yX10_nextToken, Cond.instanceMethod yX10_nextToken, Cond.selects RX10 yX10_nextToken yX10_nextToken, Cond.initialized RX10, Cond.code yX10_nextToken cX10_nextToken 1 none, Cond.fieldLink RX10 81 "RainTargetModel" "position" "I", Cond.fieldLink RX10 76 "RainTargetModel" "bytes" "I", Cond.fieldLink RX10 32 "RainTargetModel" "text" "[I", Cond.fieldLink RX10 84 "RainTargetModel" "tokenAt" "I", Cond.fieldLink RX10 87 "RainTargetModel" "digits" "I", Cond.constantLong RX10 93 (-2), Cond.constantLong RX10 99 (27), Cond.constantLong RX10 101 (96), Cond.constantLong RX10 103 (-4), Cond.constantLong RX10 107 (-3), Cond.methodLink RX10 72 yX10_in, Cond.static yX10_in, Cond.code yX10_in cX10_in 3 (some .boolean), Cond.methodLink RX10 115 yX10_fails, Cond.instanceMethod yX10_fails]
def wsX10_isNumber_r2 : List Cond := [Cond.selects RX10 yX10_fails yX10_fails, Cond.code yX10_fails cX10_fails 1 (some .boolean), Cond.fieldLink RX10 109 "RainTargetModel" "faultAt" "I"]
def wsX10_isNumber : List Cond := .code yX10_isNumber cX10_isNumber 4 (some .boolean) :: ((wsX10_isNumber_r1 ++ wsX10_isNumber_r2) ++ wsX100)
def wsX10_isMood_r1 : List Cond := [Cond.fieldLink RX10 35 "RainTargetModel" "read" "[I", Cond.methodLink RX10 119 yX10_isNumber, Cond.instanceMethod yX10_isNumber, Cond.selects RX10 yX10_isNumber yX10_isNumber, Cond.initialized RX10, Cond.code yX10_isNumber cX10_isNumber 4 (some .boolean), Cond.fieldLink RX10 95 "RainTargetModel" "token" "J", Cond.constantLong RX10 105 (-1), Cond.fieldLink RX10 90 "RainTargetModel" "number" "I", Cond.methodLink RX10 112 yX10_nextToken, Cond.instanceMethod yX10_nextToken, Cond.selects RX10 yX10_nextToken yX10_nextToken, Cond.code yX10_nextToken cX10_nextToken 1 none, Cond.fieldLink RX10 81 "RainTargetModel" "position" "I", Cond.fieldLink RX10 76 "RainTargetModel" "bytes" "I", Cond.fieldLink RX10 32 "RainTargetModel" "text" "[I", Cond.fieldLink RX10 84 "RainTargetModel" "tokenAt" "I", Cond.fieldLink RX10 87 "RainTargetModel" "digits" "I", Cond.constantLong RX10 93 (-2), Cond.constantLong RX10 99 (27), Cond.constantLong RX10 101 (96), Cond.constantLong RX10 103 (-4), Cond.constantLong RX10 107 (-3), Cond.methodLink RX10 72 yX10_in]
def wsX10_isMood_r2 : List Cond := [Cond.static yX10_in, Cond.code yX10_in cX10_in 3 (some .boolean), Cond.methodLink RX10 115 yX10_fails, Cond.instanceMethod yX10_fails, Cond.selects RX10 yX10_fails yX10_fails, Cond.code yX10_fails cX10_fails 1 (some .boolean), Cond.fieldLink RX10 109 "RainTargetModel" "faultAt" "I"]
def wsX10_isMood : List Cond := .code yX10_isMood cX10_isMood 5 (some .boolean) :: ((wsX10_isMood_r1 ++ wsX10_isMood_r2) ++ wsX100)
def wsX10_isLine_r1 : List Cond := [Cond.fieldLink RX10 35 "RainTargetModel" "read" "[I", Cond.fieldLink RX10 95 "RainTargetModel" "token" "J", Cond.constantLong RX10 122 (8408791), Cond.constantLong RX10 124 (9626), Cond.constantLong RX10 126 (267223), Cond.constantLong RX10 128 (11709), Cond.constantLong RX10 130 (1842025), Cond.constantLong RX10 132 (243140), Cond.methodLink RX10 112 yX10_nextToken, Cond.instanceMethod yX10_nextToken, Cond.selects RX10 yX10_nextToken yX10_nextToken, Cond.initialized RX10, Cond.code yX10_nextToken cX10_nextToken 1 none, Cond.fieldLink RX10 81 "RainTargetModel" "position" "I", Cond.fieldLink RX10 76 "RainTargetModel" "bytes" "I", Cond.fieldLink RX10 32 "RainTargetModel" "text" "[I", Cond.fieldLink RX10 84 "RainTargetModel" "tokenAt" "I", Cond.fieldLink RX10 87 "RainTargetModel" "digits" "I", Cond.fieldLink RX10 90 "RainTargetModel" "number" "I", Cond.constantLong RX10 93 (-2), Cond.constantLong RX10 99 (27), Cond.constantLong RX10 101 (96), Cond.constantLong RX10 103 (-4), Cond.constantLong RX10 105 (-1)]
def wsX10_isLine_r2 : List Cond := [Cond.constantLong RX10 107 (-3), Cond.methodLink RX10 72 yX10_in, Cond.static yX10_in, Cond.code yX10_in cX10_in 3 (some .boolean), Cond.methodLink RX10 119 yX10_isNumber, Cond.instanceMethod yX10_isNumber, Cond.selects RX10 yX10_isNumber yX10_isNumber, Cond.code yX10_isNumber cX10_isNumber 4 (some .boolean), Cond.methodLink RX10 115 yX10_fails, Cond.instanceMethod yX10_fails, Cond.selects RX10 yX10_fails yX10_fails, Cond.code yX10_fails cX10_fails 1 (some .boolean), Cond.fieldLink RX10 109 "RainTargetModel" "faultAt" "I", Cond.methodLink RX10 134 yX10_isMood, Cond.instanceMethod yX10_isMood, Cond.selects RX10 yX10_isMood yX10_isMood, Cond.code yX10_isMood cX10_isMood 5 (some .boolean)]
def wsX10_isLine : List Cond := .code yX10_isLine cX10_isLine 2 (some .boolean) :: ((wsX10_isLine_r1 ++ wsX10_isLine_r2) ++ wsX100)
def wsX10_isRead_r1 : List Cond := [Cond.fieldLink RX10 81 "RainTargetModel" "position" "I", Cond.fieldLink RX10 138 "RainTargetModel" "readMany" "I", Cond.fieldLink RX10 95 "RainTargetModel" "token" "J", Cond.constantLong RX10 107 (-3), Cond.constantLong RX10 93 (-2), Cond.methodLink RX10 141 yX10_isLine, Cond.instanceMethod yX10_isLine, Cond.selects RX10 yX10_isLine yX10_isLine, Cond.initialized RX10, Cond.code yX10_isLine cX10_isLine 2 (some .boolean), Cond.fieldLink RX10 35 "RainTargetModel" "read" "[I", Cond.constantLong RX10 122 (8408791), Cond.constantLong RX10 124 (9626), Cond.constantLong RX10 126 (267223), Cond.constantLong RX10 128 (11709), Cond.constantLong RX10 130 (1842025), Cond.constantLong RX10 132 (243140), Cond.methodLink RX10 112 yX10_nextToken, Cond.instanceMethod yX10_nextToken, Cond.selects RX10 yX10_nextToken yX10_nextToken, Cond.code yX10_nextToken cX10_nextToken 1 none, Cond.fieldLink RX10 76 "RainTargetModel" "bytes" "I", Cond.fieldLink RX10 32 "RainTargetModel" "text" "[I", Cond.fieldLink RX10 84 "RainTargetModel" "tokenAt" "I"]
def wsX10_isRead_r2 : List Cond := [Cond.fieldLink RX10 87 "RainTargetModel" "digits" "I", Cond.fieldLink RX10 90 "RainTargetModel" "number" "I", Cond.constantLong RX10 99 (27), Cond.constantLong RX10 101 (96), Cond.constantLong RX10 103 (-4), Cond.constantLong RX10 105 (-1), Cond.methodLink RX10 72 yX10_in, Cond.static yX10_in, Cond.code yX10_in cX10_in 3 (some .boolean), Cond.methodLink RX10 119 yX10_isNumber, Cond.instanceMethod yX10_isNumber, Cond.selects RX10 yX10_isNumber yX10_isNumber, Cond.code yX10_isNumber cX10_isNumber 4 (some .boolean), Cond.methodLink RX10 115 yX10_fails, Cond.instanceMethod yX10_fails, Cond.selects RX10 yX10_fails yX10_fails, Cond.code yX10_fails cX10_fails 1 (some .boolean), Cond.fieldLink RX10 109 "RainTargetModel" "faultAt" "I", Cond.methodLink RX10 134 yX10_isMood, Cond.instanceMethod yX10_isMood, Cond.selects RX10 yX10_isMood yX10_isMood, Cond.code yX10_isMood cX10_isMood 5 (some .boolean)]
def wsX10_isRead : List Cond := .code yX10_isRead cX10_isRead 2 (some .boolean) :: ((wsX10_isRead_r1 ++ wsX10_isRead_r2) ++ wsX100)
def wsX10_fault_r1 : List Cond := [Cond.fieldLink RX10 109 "RainTargetModel" "faultAt" "I", Cond.methodLink RX10 144 yX10_isRead, Cond.instanceMethod yX10_isRead, Cond.selects RX10 yX10_isRead yX10_isRead, Cond.initialized RX10, Cond.code yX10_isRead cX10_isRead 2 (some .boolean), Cond.fieldLink RX10 81 "RainTargetModel" "position" "I", Cond.fieldLink RX10 138 "RainTargetModel" "readMany" "I", Cond.fieldLink RX10 95 "RainTargetModel" "token" "J", Cond.constantLong RX10 107 (-3), Cond.constantLong RX10 93 (-2), Cond.methodLink RX10 141 yX10_isLine, Cond.instanceMethod yX10_isLine, Cond.selects RX10 yX10_isLine yX10_isLine, Cond.code yX10_isLine cX10_isLine 2 (some .boolean), Cond.fieldLink RX10 35 "RainTargetModel" "read" "[I", Cond.constantLong RX10 122 (8408791), Cond.constantLong RX10 124 (9626), Cond.constantLong RX10 126 (267223), Cond.constantLong RX10 128 (11709), Cond.constantLong RX10 130 (1842025), Cond.constantLong RX10 132 (243140), Cond.methodLink RX10 112 yX10_nextToken, Cond.instanceMethod yX10_nextToken]
def wsX10_fault_r2 : List Cond := [Cond.selects RX10 yX10_nextToken yX10_nextToken, Cond.code yX10_nextToken cX10_nextToken 1 none, Cond.fieldLink RX10 76 "RainTargetModel" "bytes" "I", Cond.fieldLink RX10 32 "RainTargetModel" "text" "[I", Cond.fieldLink RX10 84 "RainTargetModel" "tokenAt" "I", Cond.fieldLink RX10 87 "RainTargetModel" "digits" "I", Cond.fieldLink RX10 90 "RainTargetModel" "number" "I", Cond.constantLong RX10 99 (27), Cond.constantLong RX10 101 (96), Cond.constantLong RX10 103 (-4), Cond.constantLong RX10 105 (-1), Cond.methodLink RX10 72 yX10_in, Cond.static yX10_in, Cond.code yX10_in cX10_in 3 (some .boolean), Cond.methodLink RX10 119 yX10_isNumber, Cond.instanceMethod yX10_isNumber, Cond.selects RX10 yX10_isNumber yX10_isNumber, Cond.code yX10_isNumber cX10_isNumber 4 (some .boolean), Cond.methodLink RX10 115 yX10_fails, Cond.instanceMethod yX10_fails, Cond.selects RX10 yX10_fails yX10_fails, Cond.code yX10_fails cX10_fails 1 (some .boolean), Cond.methodLink RX10 134 yX10_isMood, Cond.instanceMethod yX10_isMood]
def wsX10_fault_r3 : List Cond := [Cond.selects RX10 yX10_isMood yX10_isMood, Cond.code yX10_isMood cX10_isMood 5 (some .boolean)]
def wsX10_fault : List Cond := .code yX10_fault cX10_fault 1 (some .int) :: ((wsX10_fault_r1 ++ (wsX10_fault_r2 ++ wsX10_fault_r3)) ++ wsX100)
def wsX10_doLine : List Cond := .code yX10_doLine cX10_doLine 5 none :: ([.fieldLink RX10 35 "RainTargetModel" "read" "[I", .fieldLink RX10 7 "RainTargetModel" "overs" "I", .fieldLink RX10 147 "RainTargetModel" "firstMany" "I", .fieldLink RX10 13 "RainTargetModel" "men" "I", .fieldLink RX10 16 "RainTargetModel" "cases" "[I", .fieldLink RX10 20 "RainTargetModel" "mood" "[I", .fieldLink RX10 23 "RainTargetModel" "par" "I", .fieldLink RX10 26 "RainTargetModel" "bend" "I", .fieldLink RX10 150 "RainTargetModel" "cloudTenths" "I", .fieldLink RX10 153 "RainTargetModel" "cloudOvers" "I", .fieldLink RX10 29 "RainTargetModel" "line" "I", .fieldLink RX10 156 "RainTargetModel" "events" "I", .fieldLink RX10 159 "RainTargetModel" "isLaid" "Z"] ++ wsX100)
def wsX10_game_r1 : List Cond := [Cond.fieldLink RX10 138 "RainTargetModel" "readMany" "I", Cond.fieldLink RX10 76 "RainTargetModel" "bytes" "I", Cond.methodLink RX10 144 yX10_isRead, Cond.instanceMethod yX10_isRead, Cond.selects RX10 yX10_isRead yX10_isRead, Cond.initialized RX10, Cond.code yX10_isRead cX10_isRead 2 (some .boolean), Cond.fieldLink RX10 81 "RainTargetModel" "position" "I", Cond.fieldLink RX10 95 "RainTargetModel" "token" "J", Cond.constantLong RX10 107 (-3), Cond.constantLong RX10 93 (-2), Cond.methodLink RX10 141 yX10_isLine, Cond.instanceMethod yX10_isLine, Cond.selects RX10 yX10_isLine yX10_isLine, Cond.code yX10_isLine cX10_isLine 2 (some .boolean), Cond.fieldLink RX10 35 "RainTargetModel" "read" "[I", Cond.constantLong RX10 122 (8408791), Cond.constantLong RX10 124 (9626), Cond.constantLong RX10 126 (267223), Cond.constantLong RX10 128 (11709), Cond.constantLong RX10 130 (1842025), Cond.constantLong RX10 132 (243140), Cond.methodLink RX10 112 yX10_nextToken, Cond.instanceMethod yX10_nextToken]
def wsX10_game_r2 : List Cond := [Cond.selects RX10 yX10_nextToken yX10_nextToken, Cond.code yX10_nextToken cX10_nextToken 1 none, Cond.fieldLink RX10 32 "RainTargetModel" "text" "[I", Cond.fieldLink RX10 84 "RainTargetModel" "tokenAt" "I", Cond.fieldLink RX10 87 "RainTargetModel" "digits" "I", Cond.fieldLink RX10 90 "RainTargetModel" "number" "I", Cond.constantLong RX10 99 (27), Cond.constantLong RX10 101 (96), Cond.constantLong RX10 103 (-4), Cond.constantLong RX10 105 (-1), Cond.methodLink RX10 72 yX10_in, Cond.static yX10_in, Cond.code yX10_in cX10_in 3 (some .boolean), Cond.methodLink RX10 119 yX10_isNumber, Cond.instanceMethod yX10_isNumber, Cond.selects RX10 yX10_isNumber yX10_isNumber, Cond.code yX10_isNumber cX10_isNumber 4 (some .boolean), Cond.methodLink RX10 115 yX10_fails, Cond.instanceMethod yX10_fails, Cond.selects RX10 yX10_fails yX10_fails, Cond.code yX10_fails cX10_fails 1 (some .boolean), Cond.fieldLink RX10 109 "RainTargetModel" "faultAt" "I", Cond.methodLink RX10 134 yX10_isMood, Cond.instanceMethod yX10_isMood]
def wsX10_game_r3 : List Cond := [Cond.selects RX10 yX10_isMood yX10_isMood, Cond.code yX10_isMood cX10_isMood 5 (some .boolean), Cond.methodLink RX10 163 yX10_doLine, Cond.instanceMethod yX10_doLine, Cond.selects RX10 yX10_doLine yX10_doLine, Cond.code yX10_doLine cX10_doLine 5 none, Cond.fieldLink RX10 7 "RainTargetModel" "overs" "I", Cond.fieldLink RX10 147 "RainTargetModel" "firstMany" "I", Cond.fieldLink RX10 13 "RainTargetModel" "men" "I", Cond.fieldLink RX10 16 "RainTargetModel" "cases" "[I", Cond.fieldLink RX10 20 "RainTargetModel" "mood" "[I", Cond.fieldLink RX10 23 "RainTargetModel" "par" "I", Cond.fieldLink RX10 26 "RainTargetModel" "bend" "I", Cond.fieldLink RX10 150 "RainTargetModel" "cloudTenths" "I", Cond.fieldLink RX10 153 "RainTargetModel" "cloudOvers" "I", Cond.fieldLink RX10 29 "RainTargetModel" "line" "I", Cond.fieldLink RX10 156 "RainTargetModel" "events" "I", Cond.fieldLink RX10 159 "RainTargetModel" "isLaid" "Z"]
def wsX10_game : List Cond := .code yX10_game cX10_game 2 (some .int) :: ((wsX10_game_r1 ++ (wsX10_game_r2 ++ wsX10_game_r3)) ++ wsX100)
def wsX10_mood : List Cond := .code yX10_mood cX10_mood 4 (some .int) :: ([.fieldLink RX10 16 "RainTargetModel" "cases" "[I", .fieldLink RX10 20 "RainTargetModel" "mood" "[I", .methodLink RX10 72 yX10_in, .static yX10_in, .initialized RX10, .code yX10_in cX10_in 3 (some .boolean)] ++ wsX100)
def wsX10_makesOf : List Cond := .code yX10_makesOf cX10_makesOf 3 (some .long) :: ([.fieldLink RX10 62 "RainTargetModel" "makes" "[J"] ++ wsX100)
def wsX10_winsOf : List Cond := .code yX10_winsOf cX10_winsOf 4 (some .long) :: ([.fieldLink RX10 67 "RainTargetModel" "wins" "[J", .methodLink RX10 167 yX10_ten, .static yX10_ten, .initialized RX10, .code yX10_ten cX10_ten 4 (some .long), .constantLong RX10 70 (10)] ++ wsX100)
def wsX10_rest : List Cond := .code yX10_rest cX10_rest 2 (some .int) :: ([])
def wsX10_makesBy : List Cond := .code yX10_makesBy cX10_makesBy 8 (some .long) :: ([.fieldLink RX10 16 "RainTargetModel" "cases" "[I", .fieldLink RX10 20 "RainTargetModel" "mood" "[I", .methodLink RX10 167 yX10_ten, .static yX10_ten, .initialized RX10, .code yX10_ten cX10_ten 4 (some .long), .constantLong RX10 70 (10), .methodLink RX10 171 yX10_rest, .static yX10_rest, .code yX10_rest cX10_rest 2 (some .int), .methodLink RX10 175 yX10_makesOf, .instanceMethod yX10_makesOf, .selects RX10 yX10_makesOf yX10_makesOf, .code yX10_makesOf cX10_makesOf 3 (some .long), .fieldLink RX10 62 "RainTargetModel" "makes" "[J"] ++ wsX100)
def wsX10_winsBy : List Cond := .code yX10_winsBy cX10_winsBy 9 (some .long) :: ([.fieldLink RX10 16 "RainTargetModel" "cases" "[I", .fieldLink RX10 20 "RainTargetModel" "mood" "[I", .methodLink RX10 171 yX10_rest, .static yX10_rest, .initialized RX10, .code yX10_rest cX10_rest 2 (some .int), .methodLink RX10 179 yX10_winsOf, .instanceMethod yX10_winsOf, .selects RX10 yX10_winsOf yX10_winsOf, .code yX10_winsOf cX10_winsOf 4 (some .long), .fieldLink RX10 67 "RainTargetModel" "wins" "[J", .methodLink RX10 167 yX10_ten, .static yX10_ten, .code yX10_ten cX10_ten 4 (some .long), .constantLong RX10 70 (10)] ++ wsX100)
def wsX10_greater : List Cond := .code yX10_greater cX10_greater 4 (some .long) :: ([])
def wsX10_layWins : List Cond := .code yX10_layWins cX10_layWins 6 none :: ([.fieldLink RX10 67 "RainTargetModel" "wins" "[J", .methodLink RX10 194 yX10_winsBy, .instanceMethod yX10_winsBy, .selects RX10 yX10_winsBy yX10_winsBy, .initialized RX10, .code yX10_winsBy cX10_winsBy 9 (some .long), .fieldLink RX10 16 "RainTargetModel" "cases" "[I", .fieldLink RX10 20 "RainTargetModel" "mood" "[I", .methodLink RX10 171 yX10_rest, .static yX10_rest, .code yX10_rest cX10_rest 2 (some .int), .methodLink RX10 179 yX10_winsOf, .instanceMethod yX10_winsOf, .selects RX10 yX10_winsOf yX10_winsOf, .code yX10_winsOf cX10_winsOf 4 (some .long), .methodLink RX10 167 yX10_ten, .static yX10_ten, .code yX10_ten cX10_ten 4 (some .long), .constantLong RX10 70 (10), .methodLink RX10 186 yX10_greater, .static yX10_greater, .code yX10_greater cX10_greater 4 (some .long)] ++ wsX100)
def wsX10_layOut_r1 : List Cond := [Cond.fieldLink RX10 159 "RainTargetModel" "isLaid" "Z", Cond.fieldLink RX10 7 "RainTargetModel" "overs" "I", Cond.fieldLink RX10 13 "RainTargetModel" "men" "I", Cond.fieldLink RX10 62 "RainTargetModel" "makes" "[J", Cond.fieldLink RX10 67 "RainTargetModel" "wins" "[J", Cond.fieldLink RX10 16 "RainTargetModel" "cases" "[I", Cond.methodLink RX10 183 yX10_makesBy, Cond.instanceMethod yX10_makesBy, Cond.selects RX10 yX10_makesBy yX10_makesBy, Cond.initialized RX10, Cond.code yX10_makesBy cX10_makesBy 8 (some .long), Cond.fieldLink RX10 20 "RainTargetModel" "mood" "[I", Cond.methodLink RX10 167 yX10_ten, Cond.static yX10_ten, Cond.code yX10_ten cX10_ten 4 (some .long), Cond.constantLong RX10 70 (10), Cond.methodLink RX10 171 yX10_rest, Cond.static yX10_rest, Cond.code yX10_rest cX10_rest 2 (some .int), Cond.methodLink RX10 175 yX10_makesOf, Cond.instanceMethod yX10_makesOf, Cond.selects RX10 yX10_makesOf yX10_makesOf, Cond.code yX10_makesOf cX10_makesOf 3 (some .long), Cond.methodLink RX10 186 yX10_greater]
def wsX10_layOut_r2 : List Cond := [Cond.static yX10_greater, Cond.code yX10_greater cX10_greater 4 (some .long), Cond.methodLink RX10 190 yX10_layWins, Cond.instanceMethod yX10_layWins, Cond.selects RX10 yX10_layWins yX10_layWins, Cond.code yX10_layWins cX10_layWins 6 none, Cond.methodLink RX10 194 yX10_winsBy, Cond.instanceMethod yX10_winsBy, Cond.selects RX10 yX10_winsBy yX10_winsBy, Cond.code yX10_winsBy cX10_winsBy 9 (some .long), Cond.methodLink RX10 179 yX10_winsOf, Cond.instanceMethod yX10_winsOf, Cond.selects RX10 yX10_winsOf yX10_winsOf, Cond.code yX10_winsOf cX10_winsOf 4 (some .long)]
def wsX10_layOut : List Cond := .code yX10_layOut cX10_layOut 4 none :: ((wsX10_layOut_r1 ++ wsX10_layOut_r2) ++ wsX100)
def wsX10_partOf : List Cond := .code yX10_partOf cX10_partOf 11 (some .long) :: ([])
def wsX10_areIn : List Cond := .code yX10_areIn cX10_areIn 3 (some .boolean) :: ([.fieldLink RX10 7 "RainTargetModel" "overs" "I", .fieldLink RX10 13 "RainTargetModel" "men" "I", .methodLink RX10 72 yX10_in, .static yX10_in, .initialized RX10, .code yX10_in cX10_in 3 (some .boolean)] ++ wsX100)
def wsX10_makes_r1 : List Cond := [Cond.constantLong RX10 107 (-3), Cond.methodLink RX10 198 yX10_areIn, Cond.instanceMethod yX10_areIn, Cond.selects RX10 yX10_areIn yX10_areIn, Cond.initialized RX10, Cond.code yX10_areIn cX10_areIn 3 (some .boolean), Cond.fieldLink RX10 7 "RainTargetModel" "overs" "I", Cond.fieldLink RX10 13 "RainTargetModel" "men" "I", Cond.methodLink RX10 72 yX10_in, Cond.static yX10_in, Cond.code yX10_in cX10_in 3 (some .boolean), Cond.methodLink RX10 202 yX10_layOut, Cond.instanceMethod yX10_layOut, Cond.selects RX10 yX10_layOut yX10_layOut, Cond.code yX10_layOut cX10_layOut 4 none, Cond.fieldLink RX10 159 "RainTargetModel" "isLaid" "Z", Cond.fieldLink RX10 62 "RainTargetModel" "makes" "[J", Cond.fieldLink RX10 67 "RainTargetModel" "wins" "[J", Cond.fieldLink RX10 16 "RainTargetModel" "cases" "[I", Cond.methodLink RX10 183 yX10_makesBy, Cond.instanceMethod yX10_makesBy, Cond.selects RX10 yX10_makesBy yX10_makesBy, Cond.code yX10_makesBy cX10_makesBy 8 (some .long), Cond.fieldLink RX10 20 "RainTargetModel" "mood" "[I"]
def wsX10_makes_r2 : List Cond := [Cond.methodLink RX10 167 yX10_ten, Cond.static yX10_ten, Cond.code yX10_ten cX10_ten 4 (some .long), Cond.constantLong RX10 70 (10), Cond.methodLink RX10 171 yX10_rest, Cond.static yX10_rest, Cond.code yX10_rest cX10_rest 2 (some .int), Cond.methodLink RX10 175 yX10_makesOf, Cond.instanceMethod yX10_makesOf, Cond.selects RX10 yX10_makesOf yX10_makesOf, Cond.code yX10_makesOf cX10_makesOf 3 (some .long), Cond.methodLink RX10 186 yX10_greater, Cond.static yX10_greater, Cond.code yX10_greater cX10_greater 4 (some .long), Cond.methodLink RX10 190 yX10_layWins, Cond.instanceMethod yX10_layWins, Cond.selects RX10 yX10_layWins yX10_layWins, Cond.code yX10_layWins cX10_layWins 6 none, Cond.methodLink RX10 194 yX10_winsBy, Cond.instanceMethod yX10_winsBy, Cond.selects RX10 yX10_winsBy yX10_winsBy, Cond.code yX10_winsBy cX10_winsBy 9 (some .long), Cond.methodLink RX10 179 yX10_winsOf, Cond.instanceMethod yX10_winsOf]
def wsX10_makes_r3 : List Cond := [Cond.selects RX10 yX10_winsOf yX10_winsOf, Cond.code yX10_winsOf cX10_winsOf 4 (some .long), Cond.methodLink RX10 205 yX10_partOf, Cond.static yX10_partOf, Cond.code yX10_partOf cX10_partOf 11 (some .long)]
def wsX10_makes : List Cond := .code yX10_makes cX10_makes 4 (some .long) :: ((wsX10_makes_r1 ++ (wsX10_makes_r2 ++ wsX10_makes_r3)) ++ wsX100)
def wsX10_wins_r1 : List Cond := [Cond.constantLong RX10 107 (-3), Cond.methodLink RX10 198 yX10_areIn, Cond.instanceMethod yX10_areIn, Cond.selects RX10 yX10_areIn yX10_areIn, Cond.initialized RX10, Cond.code yX10_areIn cX10_areIn 3 (some .boolean), Cond.fieldLink RX10 7 "RainTargetModel" "overs" "I", Cond.fieldLink RX10 13 "RainTargetModel" "men" "I", Cond.methodLink RX10 72 yX10_in, Cond.static yX10_in, Cond.code yX10_in cX10_in 3 (some .boolean), Cond.methodLink RX10 202 yX10_layOut, Cond.instanceMethod yX10_layOut, Cond.selects RX10 yX10_layOut yX10_layOut, Cond.code yX10_layOut cX10_layOut 4 none, Cond.fieldLink RX10 159 "RainTargetModel" "isLaid" "Z", Cond.fieldLink RX10 62 "RainTargetModel" "makes" "[J", Cond.fieldLink RX10 67 "RainTargetModel" "wins" "[J", Cond.fieldLink RX10 16 "RainTargetModel" "cases" "[I", Cond.methodLink RX10 183 yX10_makesBy, Cond.instanceMethod yX10_makesBy, Cond.selects RX10 yX10_makesBy yX10_makesBy, Cond.code yX10_makesBy cX10_makesBy 8 (some .long), Cond.fieldLink RX10 20 "RainTargetModel" "mood" "[I"]
def wsX10_wins_r2 : List Cond := [Cond.methodLink RX10 167 yX10_ten, Cond.static yX10_ten, Cond.code yX10_ten cX10_ten 4 (some .long), Cond.constantLong RX10 70 (10), Cond.methodLink RX10 171 yX10_rest, Cond.static yX10_rest, Cond.code yX10_rest cX10_rest 2 (some .int), Cond.methodLink RX10 175 yX10_makesOf, Cond.instanceMethod yX10_makesOf, Cond.selects RX10 yX10_makesOf yX10_makesOf, Cond.code yX10_makesOf cX10_makesOf 3 (some .long), Cond.methodLink RX10 186 yX10_greater, Cond.static yX10_greater, Cond.code yX10_greater cX10_greater 4 (some .long), Cond.methodLink RX10 190 yX10_layWins, Cond.instanceMethod yX10_layWins, Cond.selects RX10 yX10_layWins yX10_layWins, Cond.code yX10_layWins cX10_layWins 6 none, Cond.methodLink RX10 194 yX10_winsBy, Cond.instanceMethod yX10_winsBy, Cond.selects RX10 yX10_winsBy yX10_winsBy, Cond.code yX10_winsBy cX10_winsBy 9 (some .long), Cond.methodLink RX10 179 yX10_winsOf, Cond.instanceMethod yX10_winsOf]
def wsX10_wins_r3 : List Cond := [Cond.selects RX10 yX10_winsOf yX10_winsOf, Cond.code yX10_winsOf cX10_winsOf 4 (some .long), Cond.methodLink RX10 205 yX10_partOf, Cond.static yX10_partOf, Cond.code yX10_partOf cX10_partOf 11 (some .long)]
def wsX10_wins : List Cond := .code yX10_wins cX10_wins 5 (some .long) :: ((wsX10_wins_r1 ++ (wsX10_wins_r2 ++ wsX10_wins_r3)) ++ wsX100)
def wsX10_best_r1 : List Cond := [Cond.fieldLink RX10 16 "RainTargetModel" "cases" "[I", Cond.methodLink RX10 198 yX10_areIn, Cond.instanceMethod yX10_areIn, Cond.selects RX10 yX10_areIn yX10_areIn, Cond.initialized RX10, Cond.code yX10_areIn cX10_areIn 3 (some .boolean), Cond.fieldLink RX10 7 "RainTargetModel" "overs" "I", Cond.fieldLink RX10 13 "RainTargetModel" "men" "I", Cond.methodLink RX10 72 yX10_in, Cond.static yX10_in, Cond.code yX10_in cX10_in 3 (some .boolean), Cond.methodLink RX10 202 yX10_layOut, Cond.instanceMethod yX10_layOut, Cond.selects RX10 yX10_layOut yX10_layOut, Cond.code yX10_layOut cX10_layOut 4 none, Cond.fieldLink RX10 159 "RainTargetModel" "isLaid" "Z", Cond.fieldLink RX10 62 "RainTargetModel" "makes" "[J", Cond.fieldLink RX10 67 "RainTargetModel" "wins" "[J", Cond.methodLink RX10 183 yX10_makesBy, Cond.instanceMethod yX10_makesBy, Cond.selects RX10 yX10_makesBy yX10_makesBy, Cond.code yX10_makesBy cX10_makesBy 8 (some .long), Cond.fieldLink RX10 20 "RainTargetModel" "mood" "[I", Cond.methodLink RX10 167 yX10_ten]
def wsX10_best_r2 : List Cond := [Cond.static yX10_ten, Cond.code yX10_ten cX10_ten 4 (some .long), Cond.constantLong RX10 70 (10), Cond.methodLink RX10 171 yX10_rest, Cond.static yX10_rest, Cond.code yX10_rest cX10_rest 2 (some .int), Cond.methodLink RX10 175 yX10_makesOf, Cond.instanceMethod yX10_makesOf, Cond.selects RX10 yX10_makesOf yX10_makesOf, Cond.code yX10_makesOf cX10_makesOf 3 (some .long), Cond.methodLink RX10 186 yX10_greater, Cond.static yX10_greater, Cond.code yX10_greater cX10_greater 4 (some .long), Cond.methodLink RX10 190 yX10_layWins, Cond.instanceMethod yX10_layWins, Cond.selects RX10 yX10_layWins yX10_layWins, Cond.code yX10_layWins cX10_layWins 6 none, Cond.methodLink RX10 194 yX10_winsBy, Cond.instanceMethod yX10_winsBy, Cond.selects RX10 yX10_winsBy yX10_winsBy, Cond.code yX10_winsBy cX10_winsBy 9 (some .long), Cond.methodLink RX10 179 yX10_winsOf, Cond.instanceMethod yX10_winsOf, Cond.selects RX10 yX10_winsOf yX10_winsOf]
def wsX10_best_r3 : List Cond := [Cond.code yX10_winsOf cX10_winsOf 4 (some .long)]
def wsX10_best : List Cond := .code yX10_best cX10_best 5 (some .int) :: ((wsX10_best_r1 ++ (wsX10_best_r2 ++ wsX10_best_r3)) ++ wsX100)
def wsX10_spendOf_r1 : List Cond := [Cond.fieldLink RX10 7 "RainTargetModel" "overs" "I", Cond.fieldLink RX10 13 "RainTargetModel" "men" "I", Cond.constantLong RX10 209 (1000), Cond.methodLink RX10 202 yX10_layOut, Cond.instanceMethod yX10_layOut, Cond.selects RX10 yX10_layOut yX10_layOut, Cond.initialized RX10, Cond.code yX10_layOut cX10_layOut 4 none, Cond.fieldLink RX10 159 "RainTargetModel" "isLaid" "Z", Cond.fieldLink RX10 62 "RainTargetModel" "makes" "[J", Cond.fieldLink RX10 67 "RainTargetModel" "wins" "[J", Cond.fieldLink RX10 16 "RainTargetModel" "cases" "[I", Cond.methodLink RX10 183 yX10_makesBy, Cond.instanceMethod yX10_makesBy, Cond.selects RX10 yX10_makesBy yX10_makesBy, Cond.code yX10_makesBy cX10_makesBy 8 (some .long), Cond.fieldLink RX10 20 "RainTargetModel" "mood" "[I", Cond.methodLink RX10 167 yX10_ten, Cond.static yX10_ten, Cond.code yX10_ten cX10_ten 4 (some .long), Cond.constantLong RX10 70 (10), Cond.methodLink RX10 171 yX10_rest, Cond.static yX10_rest, Cond.code yX10_rest cX10_rest 2 (some .int)]
def wsX10_spendOf_r2 : List Cond := [Cond.methodLink RX10 175 yX10_makesOf, Cond.instanceMethod yX10_makesOf, Cond.selects RX10 yX10_makesOf yX10_makesOf, Cond.code yX10_makesOf cX10_makesOf 3 (some .long), Cond.methodLink RX10 186 yX10_greater, Cond.static yX10_greater, Cond.code yX10_greater cX10_greater 4 (some .long), Cond.methodLink RX10 190 yX10_layWins, Cond.instanceMethod yX10_layWins, Cond.selects RX10 yX10_layWins yX10_layWins, Cond.code yX10_layWins cX10_layWins 6 none, Cond.methodLink RX10 194 yX10_winsBy, Cond.instanceMethod yX10_winsBy, Cond.selects RX10 yX10_winsBy yX10_winsBy, Cond.code yX10_winsBy cX10_winsBy 9 (some .long), Cond.methodLink RX10 179 yX10_winsOf, Cond.instanceMethod yX10_winsOf, Cond.selects RX10 yX10_winsOf yX10_winsOf, Cond.code yX10_winsOf cX10_winsOf 4 (some .long)]
def wsX10_spendOf : List Cond := .code yX10_spendOf cX10_spendOf 5 (some .int) :: ((wsX10_spendOf_r1 ++ wsX10_spendOf_r2) ++ wsX100)
def wsX10_spend_r1 : List Cond := [Cond.methodLink RX10 198 yX10_areIn, Cond.instanceMethod yX10_areIn, Cond.selects RX10 yX10_areIn yX10_areIn, Cond.initialized RX10, Cond.code yX10_areIn cX10_areIn 3 (some .boolean), Cond.fieldLink RX10 7 "RainTargetModel" "overs" "I", Cond.fieldLink RX10 13 "RainTargetModel" "men" "I", Cond.methodLink RX10 72 yX10_in, Cond.static yX10_in, Cond.code yX10_in cX10_in 3 (some .boolean), Cond.methodLink RX10 211 yX10_spendOf, Cond.instanceMethod yX10_spendOf, Cond.selects RX10 yX10_spendOf yX10_spendOf, Cond.code yX10_spendOf cX10_spendOf 5 (some .int), Cond.constantLong RX10 209 (1000), Cond.methodLink RX10 202 yX10_layOut, Cond.instanceMethod yX10_layOut, Cond.selects RX10 yX10_layOut yX10_layOut, Cond.code yX10_layOut cX10_layOut 4 none, Cond.fieldLink RX10 159 "RainTargetModel" "isLaid" "Z", Cond.fieldLink RX10 62 "RainTargetModel" "makes" "[J", Cond.fieldLink RX10 67 "RainTargetModel" "wins" "[J", Cond.fieldLink RX10 16 "RainTargetModel" "cases" "[I", Cond.methodLink RX10 183 yX10_makesBy]
def wsX10_spend_r2 : List Cond := [Cond.instanceMethod yX10_makesBy, Cond.selects RX10 yX10_makesBy yX10_makesBy, Cond.code yX10_makesBy cX10_makesBy 8 (some .long), Cond.fieldLink RX10 20 "RainTargetModel" "mood" "[I", Cond.methodLink RX10 167 yX10_ten, Cond.static yX10_ten, Cond.code yX10_ten cX10_ten 4 (some .long), Cond.constantLong RX10 70 (10), Cond.methodLink RX10 171 yX10_rest, Cond.static yX10_rest, Cond.code yX10_rest cX10_rest 2 (some .int), Cond.methodLink RX10 175 yX10_makesOf, Cond.instanceMethod yX10_makesOf, Cond.selects RX10 yX10_makesOf yX10_makesOf, Cond.code yX10_makesOf cX10_makesOf 3 (some .long), Cond.methodLink RX10 186 yX10_greater, Cond.static yX10_greater, Cond.code yX10_greater cX10_greater 4 (some .long), Cond.methodLink RX10 190 yX10_layWins, Cond.instanceMethod yX10_layWins, Cond.selects RX10 yX10_layWins yX10_layWins, Cond.code yX10_layWins cX10_layWins 6 none, Cond.methodLink RX10 194 yX10_winsBy, Cond.instanceMethod yX10_winsBy]
def wsX10_spend_r3 : List Cond := [Cond.selects RX10 yX10_winsBy yX10_winsBy, Cond.code yX10_winsBy cX10_winsBy 9 (some .long), Cond.methodLink RX10 179 yX10_winsOf, Cond.instanceMethod yX10_winsOf, Cond.selects RX10 yX10_winsOf yX10_winsOf, Cond.code yX10_winsOf cX10_winsOf 4 (some .long)]
def wsX10_spend : List Cond := .code yX10_spend cX10_spend 3 (some .int) :: ((wsX10_spend_r1 ++ (wsX10_spend_r2 ++ wsX10_spend_r3)) ++ wsX100)
def wsX10_bat : List Cond := .code yX10_bat cX10_bat 2 (some .int) :: ([.fieldLink RX10 147 "RainTargetModel" "firstMany" "I", .fieldLink RX10 7 "RainTargetModel" "overs" "I", .fieldLink RX10 38 "RainTargetModel" "first" "[I", .methodLink RX10 72 yX10_in, .static yX10_in, .initialized RX10, .code yX10_in cX10_in 3 (some .boolean)] ++ wsX100)
def wsX10_firstAll : List Cond := .code yX10_firstAll cX10_firstAll 3 (some .int) :: ([.fieldLink RX10 147 "RainTargetModel" "firstMany" "I", .fieldLink RX10 38 "RainTargetModel" "first" "[I"] ++ wsX100)
def wsX10_anew : List Cond := .code yX10_anew cX10_anew 2 (some .int) :: ([.fieldLink RX10 147 "RainTargetModel" "firstMany" "I", .fieldLink RX10 156 "RainTargetModel" "events" "I", .methodLink RX10 214 yX10_firstAll, .instanceMethod yX10_firstAll, .selects RX10 yX10_firstAll yX10_firstAll, .initialized RX10, .code yX10_firstAll cX10_firstAll 3 (some .int), .fieldLink RX10 38 "RainTargetModel" "first" "[I"] ++ wsX100)
def wsX10_begin_r1 : List Cond := [Cond.fieldLink RX10 7 "RainTargetModel" "overs" "I", Cond.fieldLink RX10 221 "RainTargetModel" "left" "I", Cond.fieldLink RX10 13 "RainTargetModel" "men" "I", Cond.fieldLink RX10 224 "RainTargetModel" "stand" "I", Cond.fieldLink RX10 227 "RainTargetModel" "runs" "I", Cond.fieldLink RX10 233 "RainTargetModel" "taken" "I", Cond.fieldLink RX10 236 "RainTargetModel" "lost" "I", Cond.fieldLink RX10 239 "RainTargetModel" "bentLost" "I", Cond.fieldLink RX10 242 "RainTargetModel" "chance" "I", Cond.methodLink RX10 202 yX10_layOut, Cond.instanceMethod yX10_layOut, Cond.selects RX10 yX10_layOut yX10_layOut, Cond.initialized RX10, Cond.code yX10_layOut cX10_layOut 4 none, Cond.fieldLink RX10 159 "RainTargetModel" "isLaid" "Z", Cond.fieldLink RX10 62 "RainTargetModel" "makes" "[J", Cond.fieldLink RX10 67 "RainTargetModel" "wins" "[J", Cond.fieldLink RX10 16 "RainTargetModel" "cases" "[I", Cond.methodLink RX10 183 yX10_makesBy, Cond.instanceMethod yX10_makesBy, Cond.selects RX10 yX10_makesBy yX10_makesBy, Cond.code yX10_makesBy cX10_makesBy 8 (some .long), Cond.fieldLink RX10 20 "RainTargetModel" "mood" "[I", Cond.methodLink RX10 167 yX10_ten]
def wsX10_begin_r2 : List Cond := [Cond.static yX10_ten, Cond.code yX10_ten cX10_ten 4 (some .long), Cond.constantLong RX10 70 (10), Cond.methodLink RX10 171 yX10_rest, Cond.static yX10_rest, Cond.code yX10_rest cX10_rest 2 (some .int), Cond.methodLink RX10 175 yX10_makesOf, Cond.instanceMethod yX10_makesOf, Cond.selects RX10 yX10_makesOf yX10_makesOf, Cond.code yX10_makesOf cX10_makesOf 3 (some .long), Cond.methodLink RX10 186 yX10_greater, Cond.static yX10_greater, Cond.code yX10_greater cX10_greater 4 (some .long), Cond.methodLink RX10 190 yX10_layWins, Cond.instanceMethod yX10_layWins, Cond.selects RX10 yX10_layWins yX10_layWins, Cond.code yX10_layWins cX10_layWins 6 none, Cond.methodLink RX10 194 yX10_winsBy, Cond.instanceMethod yX10_winsBy, Cond.selects RX10 yX10_winsBy yX10_winsBy, Cond.code yX10_winsBy cX10_winsBy 9 (some .long), Cond.methodLink RX10 179 yX10_winsOf, Cond.instanceMethod yX10_winsOf, Cond.selects RX10 yX10_winsOf yX10_winsOf]
def wsX10_begin_r3 : List Cond := [Cond.code yX10_winsOf cX10_winsOf 4 (some .long), Cond.methodLink RX10 214 yX10_firstAll, Cond.instanceMethod yX10_firstAll, Cond.selects RX10 yX10_firstAll yX10_firstAll, Cond.code yX10_firstAll cX10_firstAll 3 (some .int), Cond.fieldLink RX10 147 "RainTargetModel" "firstMany" "I", Cond.fieldLink RX10 38 "RainTargetModel" "first" "[I"]
def wsX10_begin : List Cond := .code yX10_begin cX10_begin 1 none :: ((wsX10_begin_r1 ++ (wsX10_begin_r2 ++ wsX10_begin_r3)) ++ wsX100)
def wsX10_bentOf_r1 : List Cond := [Cond.fieldLink RX10 23 "RainTargetModel" "par" "I", Cond.fieldLink RX10 26 "RainTargetModel" "bend" "I", Cond.fieldLink RX10 7 "RainTargetModel" "overs" "I", Cond.methodLink RX10 214 yX10_firstAll, Cond.instanceMethod yX10_firstAll, Cond.selects RX10 yX10_firstAll yX10_firstAll, Cond.initialized RX10, Cond.code yX10_firstAll cX10_firstAll 3 (some .int), Cond.fieldLink RX10 147 "RainTargetModel" "firstMany" "I", Cond.fieldLink RX10 38 "RainTargetModel" "first" "[I", Cond.methodLink RX10 211 yX10_spendOf, Cond.instanceMethod yX10_spendOf, Cond.selects RX10 yX10_spendOf yX10_spendOf, Cond.code yX10_spendOf cX10_spendOf 5 (some .int), Cond.fieldLink RX10 13 "RainTargetModel" "men" "I", Cond.constantLong RX10 209 (1000), Cond.methodLink RX10 202 yX10_layOut, Cond.instanceMethod yX10_layOut, Cond.selects RX10 yX10_layOut yX10_layOut, Cond.code yX10_layOut cX10_layOut 4 none, Cond.fieldLink RX10 159 "RainTargetModel" "isLaid" "Z", Cond.fieldLink RX10 62 "RainTargetModel" "makes" "[J", Cond.fieldLink RX10 67 "RainTargetModel" "wins" "[J", Cond.fieldLink RX10 16 "RainTargetModel" "cases" "[I"]
def wsX10_bentOf_r2 : List Cond := [Cond.methodLink RX10 183 yX10_makesBy, Cond.instanceMethod yX10_makesBy, Cond.selects RX10 yX10_makesBy yX10_makesBy, Cond.code yX10_makesBy cX10_makesBy 8 (some .long), Cond.fieldLink RX10 20 "RainTargetModel" "mood" "[I", Cond.methodLink RX10 167 yX10_ten, Cond.static yX10_ten, Cond.code yX10_ten cX10_ten 4 (some .long), Cond.constantLong RX10 70 (10), Cond.methodLink RX10 171 yX10_rest, Cond.static yX10_rest, Cond.code yX10_rest cX10_rest 2 (some .int), Cond.methodLink RX10 175 yX10_makesOf, Cond.instanceMethod yX10_makesOf, Cond.selects RX10 yX10_makesOf yX10_makesOf, Cond.code yX10_makesOf cX10_makesOf 3 (some .long), Cond.methodLink RX10 186 yX10_greater, Cond.static yX10_greater, Cond.code yX10_greater cX10_greater 4 (some .long), Cond.methodLink RX10 190 yX10_layWins, Cond.instanceMethod yX10_layWins, Cond.selects RX10 yX10_layWins yX10_layWins, Cond.code yX10_layWins cX10_layWins 6 none, Cond.methodLink RX10 194 yX10_winsBy]
def wsX10_bentOf_r3 : List Cond := [Cond.instanceMethod yX10_winsBy, Cond.selects RX10 yX10_winsBy yX10_winsBy, Cond.code yX10_winsBy cX10_winsBy 9 (some .long), Cond.methodLink RX10 179 yX10_winsOf, Cond.instanceMethod yX10_winsOf, Cond.selects RX10 yX10_winsOf yX10_winsOf, Cond.code yX10_winsOf cX10_winsOf 4 (some .long)]
def wsX10_bentOf : List Cond := .code yX10_bentOf cX10_bentOf 4 (some .int) :: ((wsX10_bentOf_r1 ++ (wsX10_bentOf_r2 ++ wsX10_bentOf_r3)) ++ wsX100)
def wsX10_rained_r1 : List Cond := [Cond.fieldLink RX10 221 "RainTargetModel" "left" "I", Cond.fieldLink RX10 236 "RainTargetModel" "lost" "I", Cond.fieldLink RX10 224 "RainTargetModel" "stand" "I", Cond.fieldLink RX10 239 "RainTargetModel" "bentLost" "I", Cond.fieldLink RX10 242 "RainTargetModel" "chance" "I", Cond.fieldLink RX10 227 "RainTargetModel" "runs" "I", Cond.fieldLink RX10 233 "RainTargetModel" "taken" "I", Cond.methodLink RX10 211 yX10_spendOf, Cond.instanceMethod yX10_spendOf, Cond.selects RX10 yX10_spendOf yX10_spendOf, Cond.initialized RX10, Cond.code yX10_spendOf cX10_spendOf 5 (some .int), Cond.fieldLink RX10 7 "RainTargetModel" "overs" "I", Cond.fieldLink RX10 13 "RainTargetModel" "men" "I", Cond.constantLong RX10 209 (1000), Cond.methodLink RX10 202 yX10_layOut, Cond.instanceMethod yX10_layOut, Cond.selects RX10 yX10_layOut yX10_layOut, Cond.code yX10_layOut cX10_layOut 4 none, Cond.fieldLink RX10 159 "RainTargetModel" "isLaid" "Z", Cond.fieldLink RX10 62 "RainTargetModel" "makes" "[J", Cond.fieldLink RX10 67 "RainTargetModel" "wins" "[J", Cond.fieldLink RX10 16 "RainTargetModel" "cases" "[I", Cond.methodLink RX10 183 yX10_makesBy]
def wsX10_rained_r2 : List Cond := [Cond.instanceMethod yX10_makesBy, Cond.selects RX10 yX10_makesBy yX10_makesBy, Cond.code yX10_makesBy cX10_makesBy 8 (some .long), Cond.fieldLink RX10 20 "RainTargetModel" "mood" "[I", Cond.methodLink RX10 167 yX10_ten, Cond.static yX10_ten, Cond.code yX10_ten cX10_ten 4 (some .long), Cond.constantLong RX10 70 (10), Cond.methodLink RX10 171 yX10_rest, Cond.static yX10_rest, Cond.code yX10_rest cX10_rest 2 (some .int), Cond.methodLink RX10 175 yX10_makesOf, Cond.instanceMethod yX10_makesOf, Cond.selects RX10 yX10_makesOf yX10_makesOf, Cond.code yX10_makesOf cX10_makesOf 3 (some .long), Cond.methodLink RX10 186 yX10_greater, Cond.static yX10_greater, Cond.code yX10_greater cX10_greater 4 (some .long), Cond.methodLink RX10 190 yX10_layWins, Cond.instanceMethod yX10_layWins, Cond.selects RX10 yX10_layWins yX10_layWins, Cond.code yX10_layWins cX10_layWins 6 none, Cond.methodLink RX10 194 yX10_winsBy, Cond.instanceMethod yX10_winsBy]
def wsX10_rained_r3 : List Cond := [Cond.selects RX10 yX10_winsBy yX10_winsBy, Cond.code yX10_winsBy cX10_winsBy 9 (some .long), Cond.methodLink RX10 179 yX10_winsOf, Cond.instanceMethod yX10_winsOf, Cond.selects RX10 yX10_winsOf yX10_winsOf, Cond.code yX10_winsOf cX10_winsOf 4 (some .long), Cond.methodLink RX10 245 yX10_bentOf, Cond.instanceMethod yX10_bentOf, Cond.selects RX10 yX10_bentOf yX10_bentOf, Cond.code yX10_bentOf cX10_bentOf 4 (some .int), Cond.fieldLink RX10 23 "RainTargetModel" "par" "I", Cond.fieldLink RX10 26 "RainTargetModel" "bend" "I", Cond.methodLink RX10 214 yX10_firstAll, Cond.instanceMethod yX10_firstAll, Cond.selects RX10 yX10_firstAll yX10_firstAll, Cond.code yX10_firstAll cX10_firstAll 3 (some .int), Cond.fieldLink RX10 147 "RainTargetModel" "firstMany" "I", Cond.fieldLink RX10 38 "RainTargetModel" "first" "[I"]
def wsX10_rained : List Cond := .code yX10_rained cX10_rained 6 none :: ((wsX10_rained_r1 ++ (wsX10_rained_r2 ++ wsX10_rained_r3)) ++ wsX100)
def wsX10_goTo_r1 : List Cond := [Cond.fieldLink RX10 44 "RainTargetModel" "kind" "[I", Cond.fieldLink RX10 221 "RainTargetModel" "left" "I", Cond.fieldLink RX10 224 "RainTargetModel" "stand" "I", Cond.fieldLink RX10 50 "RainTargetModel" "outsOf" "[I", Cond.fieldLink RX10 227 "RainTargetModel" "runs" "I", Cond.fieldLink RX10 47 "RainTargetModel" "runsOf" "[I", Cond.methodLink RX10 218 yX10_begin, Cond.instanceMethod yX10_begin, Cond.selects RX10 yX10_begin yX10_begin, Cond.initialized RX10, Cond.code yX10_begin cX10_begin 1 none, Cond.fieldLink RX10 7 "RainTargetModel" "overs" "I", Cond.fieldLink RX10 13 "RainTargetModel" "men" "I", Cond.fieldLink RX10 233 "RainTargetModel" "taken" "I", Cond.fieldLink RX10 236 "RainTargetModel" "lost" "I", Cond.fieldLink RX10 239 "RainTargetModel" "bentLost" "I", Cond.fieldLink RX10 242 "RainTargetModel" "chance" "I", Cond.methodLink RX10 202 yX10_layOut, Cond.instanceMethod yX10_layOut, Cond.selects RX10 yX10_layOut yX10_layOut, Cond.code yX10_layOut cX10_layOut 4 none, Cond.fieldLink RX10 159 "RainTargetModel" "isLaid" "Z", Cond.fieldLink RX10 62 "RainTargetModel" "makes" "[J", Cond.fieldLink RX10 67 "RainTargetModel" "wins" "[J"]
def wsX10_goTo_r2 : List Cond := [Cond.fieldLink RX10 16 "RainTargetModel" "cases" "[I", Cond.methodLink RX10 183 yX10_makesBy, Cond.instanceMethod yX10_makesBy, Cond.selects RX10 yX10_makesBy yX10_makesBy, Cond.code yX10_makesBy cX10_makesBy 8 (some .long), Cond.fieldLink RX10 20 "RainTargetModel" "mood" "[I", Cond.methodLink RX10 167 yX10_ten, Cond.static yX10_ten, Cond.code yX10_ten cX10_ten 4 (some .long), Cond.constantLong RX10 70 (10), Cond.methodLink RX10 171 yX10_rest, Cond.static yX10_rest, Cond.code yX10_rest cX10_rest 2 (some .int), Cond.methodLink RX10 175 yX10_makesOf, Cond.instanceMethod yX10_makesOf, Cond.selects RX10 yX10_makesOf yX10_makesOf, Cond.code yX10_makesOf cX10_makesOf 3 (some .long), Cond.methodLink RX10 186 yX10_greater, Cond.static yX10_greater, Cond.code yX10_greater cX10_greater 4 (some .long), Cond.methodLink RX10 190 yX10_layWins, Cond.instanceMethod yX10_layWins, Cond.selects RX10 yX10_layWins yX10_layWins, Cond.code yX10_layWins cX10_layWins 6 none]
def wsX10_goTo_r3 : List Cond := [Cond.methodLink RX10 194 yX10_winsBy, Cond.instanceMethod yX10_winsBy, Cond.selects RX10 yX10_winsBy yX10_winsBy, Cond.code yX10_winsBy cX10_winsBy 9 (some .long), Cond.methodLink RX10 179 yX10_winsOf, Cond.instanceMethod yX10_winsOf, Cond.selects RX10 yX10_winsOf yX10_winsOf, Cond.code yX10_winsOf cX10_winsOf 4 (some .long), Cond.methodLink RX10 214 yX10_firstAll, Cond.instanceMethod yX10_firstAll, Cond.selects RX10 yX10_firstAll yX10_firstAll, Cond.code yX10_firstAll cX10_firstAll 3 (some .int), Cond.fieldLink RX10 147 "RainTargetModel" "firstMany" "I", Cond.fieldLink RX10 38 "RainTargetModel" "first" "[I", Cond.methodLink RX10 230 yX10_rained, Cond.instanceMethod yX10_rained, Cond.selects RX10 yX10_rained yX10_rained, Cond.code yX10_rained cX10_rained 6 none, Cond.methodLink RX10 211 yX10_spendOf, Cond.instanceMethod yX10_spendOf, Cond.selects RX10 yX10_spendOf yX10_spendOf, Cond.code yX10_spendOf cX10_spendOf 5 (some .int), Cond.constantLong RX10 209 (1000), Cond.methodLink RX10 245 yX10_bentOf]
def wsX10_goTo_r4 : List Cond := [Cond.instanceMethod yX10_bentOf, Cond.selects RX10 yX10_bentOf yX10_bentOf, Cond.code yX10_bentOf cX10_bentOf 4 (some .int), Cond.fieldLink RX10 23 "RainTargetModel" "par" "I", Cond.fieldLink RX10 26 "RainTargetModel" "bend" "I"]
def wsX10_goTo : List Cond := .code yX10_goTo cX10_goTo 3 none :: ((wsX10_goTo_r1 ++ (wsX10_goTo_r2 ++ (wsX10_goTo_r3 ++ wsX10_goTo_r4))) ++ wsX100)
def wsX10_worst : List Cond := .code yX10_worst cX10_worst 4 (some .int) :: ([.fieldLink RX10 7 "RainTargetModel" "overs" "I", .fieldLink RX10 147 "RainTargetModel" "firstMany" "I", .fieldLink RX10 38 "RainTargetModel" "first" "[I", .fieldLink RX10 41 "RainTargetModel" "sorted" "[I", .fieldLink RX10 233 "RainTargetModel" "taken" "I", .methodLink RX10 214 yX10_firstAll, .instanceMethod yX10_firstAll, .selects RX10 yX10_firstAll yX10_firstAll, .initialized RX10, .code yX10_firstAll cX10_firstAll 3 (some .int)] ++ wsX100)
def wsX10_targetNow : List Cond := .code yX10_targetNow cX10_targetNow 4 (some .int) :: ([.fieldLink RX10 7 "RainTargetModel" "overs" "I", .fieldLink RX10 233 "RainTargetModel" "taken" "I", .fieldLink RX10 236 "RainTargetModel" "lost" "I", .fieldLink RX10 239 "RainTargetModel" "bentLost" "I", .fieldLink RX10 242 "RainTargetModel" "chance" "I", .fieldLink RX10 29 "RainTargetModel" "line" "I", .methodLink RX10 214 yX10_firstAll, .instanceMethod yX10_firstAll, .selects RX10 yX10_firstAll yX10_firstAll, .initialized RX10, .code yX10_firstAll cX10_firstAll 3 (some .int), .fieldLink RX10 147 "RainTargetModel" "firstMany" "I", .fieldLink RX10 38 "RainTargetModel" "first" "[I", .methodLink RX10 248 yX10_worst, .instanceMethod yX10_worst, .selects RX10 yX10_worst yX10_worst, .code yX10_worst cX10_worst 4 (some .int), .fieldLink RX10 41 "RainTargetModel" "sorted" "[I"] ++ wsX100)
def wsX10_isRule : List Cond := .code yX10_isRule cX10_isRule 1 (some .boolean) :: ([.methodLink RX10 72 yX10_in, .static yX10_in, .initialized RX10, .code yX10_in cX10_in 3 (some .boolean)])
def wsX10_millionths : List Cond := .code yX10_millionths cX10_millionths 3 (some .int) :: ([.methodLink RX10 167 yX10_ten, .static yX10_ten, .initialized RX10, .code yX10_ten cX10_ten 4 (some .long), .constantLong RX10 70 (10)])
def wsX10_oddsNow_r1 : List Cond := [Cond.fieldLink RX10 221 "RainTargetModel" "left" "I", Cond.fieldLink RX10 224 "RainTargetModel" "stand" "I", Cond.fieldLink RX10 227 "RainTargetModel" "runs" "I", Cond.methodLink RX10 251 yX10_targetNow, Cond.instanceMethod yX10_targetNow, Cond.selects RX10 yX10_targetNow yX10_targetNow, Cond.initialized RX10, Cond.code yX10_targetNow cX10_targetNow 4 (some .int), Cond.fieldLink RX10 7 "RainTargetModel" "overs" "I", Cond.fieldLink RX10 233 "RainTargetModel" "taken" "I", Cond.fieldLink RX10 236 "RainTargetModel" "lost" "I", Cond.fieldLink RX10 239 "RainTargetModel" "bentLost" "I", Cond.fieldLink RX10 242 "RainTargetModel" "chance" "I", Cond.fieldLink RX10 29 "RainTargetModel" "line" "I", Cond.methodLink RX10 214 yX10_firstAll, Cond.instanceMethod yX10_firstAll, Cond.selects RX10 yX10_firstAll yX10_firstAll, Cond.code yX10_firstAll cX10_firstAll 3 (some .int), Cond.fieldLink RX10 147 "RainTargetModel" "firstMany" "I", Cond.fieldLink RX10 38 "RainTargetModel" "first" "[I", Cond.methodLink RX10 248 yX10_worst, Cond.instanceMethod yX10_worst, Cond.selects RX10 yX10_worst yX10_worst, Cond.code yX10_worst cX10_worst 4 (some .int)]
def wsX10_oddsNow_r2 : List Cond := [Cond.fieldLink RX10 41 "RainTargetModel" "sorted" "[I", Cond.methodLink RX10 179 yX10_winsOf, Cond.instanceMethod yX10_winsOf, Cond.selects RX10 yX10_winsOf yX10_winsOf, Cond.code yX10_winsOf cX10_winsOf 4 (some .long), Cond.fieldLink RX10 67 "RainTargetModel" "wins" "[J", Cond.methodLink RX10 167 yX10_ten, Cond.static yX10_ten, Cond.code yX10_ten cX10_ten 4 (some .long), Cond.constantLong RX10 70 (10), Cond.methodLink RX10 255 yX10_millionths, Cond.static yX10_millionths, Cond.code yX10_millionths cX10_millionths 3 (some .int)]
def wsX10_oddsNow : List Cond := .code yX10_oddsNow cX10_oddsNow 2 (some .int) :: ((wsX10_oddsNow_r1 ++ wsX10_oddsNow_r2) ++ wsX100)
def wsX10_play_r1 : List Cond := [Cond.fieldLink RX10 156 "RainTargetModel" "events" "I", Cond.fieldLink RX10 221 "RainTargetModel" "left" "I", Cond.fieldLink RX10 224 "RainTargetModel" "stand" "I", Cond.fieldLink RX10 44 "RainTargetModel" "kind" "[I", Cond.fieldLink RX10 47 "RainTargetModel" "runsOf" "[I", Cond.fieldLink RX10 50 "RainTargetModel" "outsOf" "[I", Cond.fieldLink RX10 227 "RainTargetModel" "runs" "I", Cond.methodLink RX10 72 yX10_in, Cond.static yX10_in, Cond.initialized RX10, Cond.code yX10_in cX10_in 3 (some .boolean), Cond.methodLink RX10 259 yX10_goTo, Cond.instanceMethod yX10_goTo, Cond.selects RX10 yX10_goTo yX10_goTo, Cond.code yX10_goTo cX10_goTo 3 none, Cond.methodLink RX10 218 yX10_begin, Cond.instanceMethod yX10_begin, Cond.selects RX10 yX10_begin yX10_begin, Cond.code yX10_begin cX10_begin 1 none, Cond.fieldLink RX10 7 "RainTargetModel" "overs" "I", Cond.fieldLink RX10 13 "RainTargetModel" "men" "I", Cond.fieldLink RX10 233 "RainTargetModel" "taken" "I", Cond.fieldLink RX10 236 "RainTargetModel" "lost" "I", Cond.fieldLink RX10 239 "RainTargetModel" "bentLost" "I"]
def wsX10_play_r2 : List Cond := [Cond.fieldLink RX10 242 "RainTargetModel" "chance" "I", Cond.methodLink RX10 202 yX10_layOut, Cond.instanceMethod yX10_layOut, Cond.selects RX10 yX10_layOut yX10_layOut, Cond.code yX10_layOut cX10_layOut 4 none, Cond.fieldLink RX10 159 "RainTargetModel" "isLaid" "Z", Cond.fieldLink RX10 62 "RainTargetModel" "makes" "[J", Cond.fieldLink RX10 67 "RainTargetModel" "wins" "[J", Cond.fieldLink RX10 16 "RainTargetModel" "cases" "[I", Cond.methodLink RX10 183 yX10_makesBy, Cond.instanceMethod yX10_makesBy, Cond.selects RX10 yX10_makesBy yX10_makesBy, Cond.code yX10_makesBy cX10_makesBy 8 (some .long), Cond.fieldLink RX10 20 "RainTargetModel" "mood" "[I", Cond.methodLink RX10 167 yX10_ten, Cond.static yX10_ten, Cond.code yX10_ten cX10_ten 4 (some .long), Cond.constantLong RX10 70 (10), Cond.methodLink RX10 171 yX10_rest, Cond.static yX10_rest, Cond.code yX10_rest cX10_rest 2 (some .int), Cond.methodLink RX10 175 yX10_makesOf, Cond.instanceMethod yX10_makesOf, Cond.selects RX10 yX10_makesOf yX10_makesOf]
def wsX10_play_r3 : List Cond := [Cond.code yX10_makesOf cX10_makesOf 3 (some .long), Cond.methodLink RX10 186 yX10_greater, Cond.static yX10_greater, Cond.code yX10_greater cX10_greater 4 (some .long), Cond.methodLink RX10 190 yX10_layWins, Cond.instanceMethod yX10_layWins, Cond.selects RX10 yX10_layWins yX10_layWins, Cond.code yX10_layWins cX10_layWins 6 none, Cond.methodLink RX10 194 yX10_winsBy, Cond.instanceMethod yX10_winsBy, Cond.selects RX10 yX10_winsBy yX10_winsBy, Cond.code yX10_winsBy cX10_winsBy 9 (some .long), Cond.methodLink RX10 179 yX10_winsOf, Cond.instanceMethod yX10_winsOf, Cond.selects RX10 yX10_winsOf yX10_winsOf, Cond.code yX10_winsOf cX10_winsOf 4 (some .long), Cond.methodLink RX10 214 yX10_firstAll, Cond.instanceMethod yX10_firstAll, Cond.selects RX10 yX10_firstAll yX10_firstAll, Cond.code yX10_firstAll cX10_firstAll 3 (some .int), Cond.fieldLink RX10 147 "RainTargetModel" "firstMany" "I", Cond.fieldLink RX10 38 "RainTargetModel" "first" "[I", Cond.methodLink RX10 230 yX10_rained, Cond.instanceMethod yX10_rained]
def wsX10_play_r4 : List Cond := [Cond.selects RX10 yX10_rained yX10_rained, Cond.code yX10_rained cX10_rained 6 none, Cond.methodLink RX10 211 yX10_spendOf, Cond.instanceMethod yX10_spendOf, Cond.selects RX10 yX10_spendOf yX10_spendOf, Cond.code yX10_spendOf cX10_spendOf 5 (some .int), Cond.constantLong RX10 209 (1000), Cond.methodLink RX10 245 yX10_bentOf, Cond.instanceMethod yX10_bentOf, Cond.selects RX10 yX10_bentOf yX10_bentOf, Cond.code yX10_bentOf cX10_bentOf 4 (some .int), Cond.fieldLink RX10 23 "RainTargetModel" "par" "I", Cond.fieldLink RX10 26 "RainTargetModel" "bend" "I"]
def wsX10_play : List Cond := .code yX10_play cX10_play 3 (some .int) :: ((wsX10_play_r1 ++ (wsX10_play_r2 ++ (wsX10_play_r3 ++ wsX10_play_r4))) ++ wsX100)
def wsX10_rain_r1 : List Cond := [Cond.fieldLink RX10 156 "RainTargetModel" "events" "I", Cond.fieldLink RX10 221 "RainTargetModel" "left" "I", Cond.fieldLink RX10 44 "RainTargetModel" "kind" "[I", Cond.fieldLink RX10 47 "RainTargetModel" "runsOf" "[I", Cond.fieldLink RX10 50 "RainTargetModel" "outsOf" "[I", Cond.methodLink RX10 72 yX10_in, Cond.static yX10_in, Cond.initialized RX10, Cond.code yX10_in cX10_in 3 (some .boolean), Cond.methodLink RX10 259 yX10_goTo, Cond.instanceMethod yX10_goTo, Cond.selects RX10 yX10_goTo yX10_goTo, Cond.code yX10_goTo cX10_goTo 3 none, Cond.fieldLink RX10 224 "RainTargetModel" "stand" "I", Cond.fieldLink RX10 227 "RainTargetModel" "runs" "I", Cond.methodLink RX10 218 yX10_begin, Cond.instanceMethod yX10_begin, Cond.selects RX10 yX10_begin yX10_begin, Cond.code yX10_begin cX10_begin 1 none, Cond.fieldLink RX10 7 "RainTargetModel" "overs" "I", Cond.fieldLink RX10 13 "RainTargetModel" "men" "I", Cond.fieldLink RX10 233 "RainTargetModel" "taken" "I", Cond.fieldLink RX10 236 "RainTargetModel" "lost" "I", Cond.fieldLink RX10 239 "RainTargetModel" "bentLost" "I"]
def wsX10_rain_r2 : List Cond := [Cond.fieldLink RX10 242 "RainTargetModel" "chance" "I", Cond.methodLink RX10 202 yX10_layOut, Cond.instanceMethod yX10_layOut, Cond.selects RX10 yX10_layOut yX10_layOut, Cond.code yX10_layOut cX10_layOut 4 none, Cond.fieldLink RX10 159 "RainTargetModel" "isLaid" "Z", Cond.fieldLink RX10 62 "RainTargetModel" "makes" "[J", Cond.fieldLink RX10 67 "RainTargetModel" "wins" "[J", Cond.fieldLink RX10 16 "RainTargetModel" "cases" "[I", Cond.methodLink RX10 183 yX10_makesBy, Cond.instanceMethod yX10_makesBy, Cond.selects RX10 yX10_makesBy yX10_makesBy, Cond.code yX10_makesBy cX10_makesBy 8 (some .long), Cond.fieldLink RX10 20 "RainTargetModel" "mood" "[I", Cond.methodLink RX10 167 yX10_ten, Cond.static yX10_ten, Cond.code yX10_ten cX10_ten 4 (some .long), Cond.constantLong RX10 70 (10), Cond.methodLink RX10 171 yX10_rest, Cond.static yX10_rest, Cond.code yX10_rest cX10_rest 2 (some .int), Cond.methodLink RX10 175 yX10_makesOf, Cond.instanceMethod yX10_makesOf, Cond.selects RX10 yX10_makesOf yX10_makesOf]
def wsX10_rain_r3 : List Cond := [Cond.code yX10_makesOf cX10_makesOf 3 (some .long), Cond.methodLink RX10 186 yX10_greater, Cond.static yX10_greater, Cond.code yX10_greater cX10_greater 4 (some .long), Cond.methodLink RX10 190 yX10_layWins, Cond.instanceMethod yX10_layWins, Cond.selects RX10 yX10_layWins yX10_layWins, Cond.code yX10_layWins cX10_layWins 6 none, Cond.methodLink RX10 194 yX10_winsBy, Cond.instanceMethod yX10_winsBy, Cond.selects RX10 yX10_winsBy yX10_winsBy, Cond.code yX10_winsBy cX10_winsBy 9 (some .long), Cond.methodLink RX10 179 yX10_winsOf, Cond.instanceMethod yX10_winsOf, Cond.selects RX10 yX10_winsOf yX10_winsOf, Cond.code yX10_winsOf cX10_winsOf 4 (some .long), Cond.methodLink RX10 214 yX10_firstAll, Cond.instanceMethod yX10_firstAll, Cond.selects RX10 yX10_firstAll yX10_firstAll, Cond.code yX10_firstAll cX10_firstAll 3 (some .int), Cond.fieldLink RX10 147 "RainTargetModel" "firstMany" "I", Cond.fieldLink RX10 38 "RainTargetModel" "first" "[I", Cond.methodLink RX10 230 yX10_rained, Cond.instanceMethod yX10_rained]
def wsX10_rain_r4 : List Cond := [Cond.selects RX10 yX10_rained yX10_rained, Cond.code yX10_rained cX10_rained 6 none, Cond.methodLink RX10 211 yX10_spendOf, Cond.instanceMethod yX10_spendOf, Cond.selects RX10 yX10_spendOf yX10_spendOf, Cond.code yX10_spendOf cX10_spendOf 5 (some .int), Cond.constantLong RX10 209 (1000), Cond.methodLink RX10 245 yX10_bentOf, Cond.instanceMethod yX10_bentOf, Cond.selects RX10 yX10_bentOf yX10_bentOf, Cond.code yX10_bentOf cX10_bentOf 4 (some .int), Cond.fieldLink RX10 23 "RainTargetModel" "par" "I", Cond.fieldLink RX10 26 "RainTargetModel" "bend" "I"]
def wsX10_rain : List Cond := .code yX10_rain cX10_rain 2 (some .int) :: ((wsX10_rain_r1 ++ (wsX10_rain_r2 ++ (wsX10_rain_r3 ++ wsX10_rain_r4))) ++ wsX100)
def wsX10_event : List Cond := .code yX10_event cX10_event 3 (some .int) :: ([.fieldLink RX10 156 "RainTargetModel" "events" "I", .fieldLink RX10 44 "RainTargetModel" "kind" "[I", .fieldLink RX10 47 "RainTargetModel" "runsOf" "[I", .fieldLink RX10 50 "RainTargetModel" "outsOf" "[I", .methodLink RX10 72 yX10_in, .static yX10_in, .initialized RX10, .code yX10_in cX10_in 3 (some .boolean)] ++ wsX100)
def wsX10_target_r1 : List Cond := [Cond.fieldLink RX10 156 "RainTargetModel" "events" "I", Cond.methodLink RX10 262 yX10_isRule, Cond.static yX10_isRule, Cond.initialized RX10, Cond.code yX10_isRule cX10_isRule 1 (some .boolean), Cond.methodLink RX10 72 yX10_in, Cond.static yX10_in, Cond.code yX10_in cX10_in 3 (some .boolean), Cond.methodLink RX10 259 yX10_goTo, Cond.instanceMethod yX10_goTo, Cond.selects RX10 yX10_goTo yX10_goTo, Cond.code yX10_goTo cX10_goTo 3 none, Cond.fieldLink RX10 44 "RainTargetModel" "kind" "[I", Cond.fieldLink RX10 221 "RainTargetModel" "left" "I", Cond.fieldLink RX10 224 "RainTargetModel" "stand" "I", Cond.fieldLink RX10 50 "RainTargetModel" "outsOf" "[I", Cond.fieldLink RX10 227 "RainTargetModel" "runs" "I", Cond.fieldLink RX10 47 "RainTargetModel" "runsOf" "[I", Cond.methodLink RX10 218 yX10_begin, Cond.instanceMethod yX10_begin, Cond.selects RX10 yX10_begin yX10_begin, Cond.code yX10_begin cX10_begin 1 none, Cond.fieldLink RX10 7 "RainTargetModel" "overs" "I", Cond.fieldLink RX10 13 "RainTargetModel" "men" "I"]
def wsX10_target_r2 : List Cond := [Cond.fieldLink RX10 233 "RainTargetModel" "taken" "I", Cond.fieldLink RX10 236 "RainTargetModel" "lost" "I", Cond.fieldLink RX10 239 "RainTargetModel" "bentLost" "I", Cond.fieldLink RX10 242 "RainTargetModel" "chance" "I", Cond.methodLink RX10 202 yX10_layOut, Cond.instanceMethod yX10_layOut, Cond.selects RX10 yX10_layOut yX10_layOut, Cond.code yX10_layOut cX10_layOut 4 none, Cond.fieldLink RX10 159 "RainTargetModel" "isLaid" "Z", Cond.fieldLink RX10 62 "RainTargetModel" "makes" "[J", Cond.fieldLink RX10 67 "RainTargetModel" "wins" "[J", Cond.fieldLink RX10 16 "RainTargetModel" "cases" "[I", Cond.methodLink RX10 183 yX10_makesBy, Cond.instanceMethod yX10_makesBy, Cond.selects RX10 yX10_makesBy yX10_makesBy, Cond.code yX10_makesBy cX10_makesBy 8 (some .long), Cond.fieldLink RX10 20 "RainTargetModel" "mood" "[I", Cond.methodLink RX10 167 yX10_ten, Cond.static yX10_ten, Cond.code yX10_ten cX10_ten 4 (some .long), Cond.constantLong RX10 70 (10), Cond.methodLink RX10 171 yX10_rest, Cond.static yX10_rest, Cond.code yX10_rest cX10_rest 2 (some .int)]
def wsX10_target_r3 : List Cond := [Cond.methodLink RX10 175 yX10_makesOf, Cond.instanceMethod yX10_makesOf, Cond.selects RX10 yX10_makesOf yX10_makesOf, Cond.code yX10_makesOf cX10_makesOf 3 (some .long), Cond.methodLink RX10 186 yX10_greater, Cond.static yX10_greater, Cond.code yX10_greater cX10_greater 4 (some .long), Cond.methodLink RX10 190 yX10_layWins, Cond.instanceMethod yX10_layWins, Cond.selects RX10 yX10_layWins yX10_layWins, Cond.code yX10_layWins cX10_layWins 6 none, Cond.methodLink RX10 194 yX10_winsBy, Cond.instanceMethod yX10_winsBy, Cond.selects RX10 yX10_winsBy yX10_winsBy, Cond.code yX10_winsBy cX10_winsBy 9 (some .long), Cond.methodLink RX10 179 yX10_winsOf, Cond.instanceMethod yX10_winsOf, Cond.selects RX10 yX10_winsOf yX10_winsOf, Cond.code yX10_winsOf cX10_winsOf 4 (some .long), Cond.methodLink RX10 214 yX10_firstAll, Cond.instanceMethod yX10_firstAll, Cond.selects RX10 yX10_firstAll yX10_firstAll, Cond.code yX10_firstAll cX10_firstAll 3 (some .int), Cond.fieldLink RX10 147 "RainTargetModel" "firstMany" "I"]
def wsX10_target_r4 : List Cond := [Cond.fieldLink RX10 38 "RainTargetModel" "first" "[I", Cond.methodLink RX10 230 yX10_rained, Cond.instanceMethod yX10_rained, Cond.selects RX10 yX10_rained yX10_rained, Cond.code yX10_rained cX10_rained 6 none, Cond.methodLink RX10 211 yX10_spendOf, Cond.instanceMethod yX10_spendOf, Cond.selects RX10 yX10_spendOf yX10_spendOf, Cond.code yX10_spendOf cX10_spendOf 5 (some .int), Cond.constantLong RX10 209 (1000), Cond.methodLink RX10 245 yX10_bentOf, Cond.instanceMethod yX10_bentOf, Cond.selects RX10 yX10_bentOf yX10_bentOf, Cond.code yX10_bentOf cX10_bentOf 4 (some .int), Cond.fieldLink RX10 23 "RainTargetModel" "par" "I", Cond.fieldLink RX10 26 "RainTargetModel" "bend" "I", Cond.methodLink RX10 251 yX10_targetNow, Cond.instanceMethod yX10_targetNow, Cond.selects RX10 yX10_targetNow yX10_targetNow, Cond.code yX10_targetNow cX10_targetNow 4 (some .int), Cond.fieldLink RX10 29 "RainTargetModel" "line" "I", Cond.methodLink RX10 248 yX10_worst, Cond.instanceMethod yX10_worst, Cond.selects RX10 yX10_worst yX10_worst]
def wsX10_target_r5 : List Cond := [Cond.code yX10_worst cX10_worst 4 (some .int), Cond.fieldLink RX10 41 "RainTargetModel" "sorted" "[I"]
def wsX10_target : List Cond := .code yX10_target cX10_target 2 (some .int) :: ((wsX10_target_r1 ++ (wsX10_target_r2 ++ (wsX10_target_r3 ++ (wsX10_target_r4 ++ wsX10_target_r5)))) ++ wsX100)
def wsX10_odds_r1 : List Cond := [Cond.fieldLink RX10 156 "RainTargetModel" "events" "I", Cond.methodLink RX10 262 yX10_isRule, Cond.static yX10_isRule, Cond.initialized RX10, Cond.code yX10_isRule cX10_isRule 1 (some .boolean), Cond.methodLink RX10 72 yX10_in, Cond.static yX10_in, Cond.code yX10_in cX10_in 3 (some .boolean), Cond.methodLink RX10 259 yX10_goTo, Cond.instanceMethod yX10_goTo, Cond.selects RX10 yX10_goTo yX10_goTo, Cond.code yX10_goTo cX10_goTo 3 none, Cond.fieldLink RX10 44 "RainTargetModel" "kind" "[I", Cond.fieldLink RX10 221 "RainTargetModel" "left" "I", Cond.fieldLink RX10 224 "RainTargetModel" "stand" "I", Cond.fieldLink RX10 50 "RainTargetModel" "outsOf" "[I", Cond.fieldLink RX10 227 "RainTargetModel" "runs" "I", Cond.fieldLink RX10 47 "RainTargetModel" "runsOf" "[I", Cond.methodLink RX10 218 yX10_begin, Cond.instanceMethod yX10_begin, Cond.selects RX10 yX10_begin yX10_begin, Cond.code yX10_begin cX10_begin 1 none, Cond.fieldLink RX10 7 "RainTargetModel" "overs" "I", Cond.fieldLink RX10 13 "RainTargetModel" "men" "I"]
def wsX10_odds_r2 : List Cond := [Cond.fieldLink RX10 233 "RainTargetModel" "taken" "I", Cond.fieldLink RX10 236 "RainTargetModel" "lost" "I", Cond.fieldLink RX10 239 "RainTargetModel" "bentLost" "I", Cond.fieldLink RX10 242 "RainTargetModel" "chance" "I", Cond.methodLink RX10 202 yX10_layOut, Cond.instanceMethod yX10_layOut, Cond.selects RX10 yX10_layOut yX10_layOut, Cond.code yX10_layOut cX10_layOut 4 none, Cond.fieldLink RX10 159 "RainTargetModel" "isLaid" "Z", Cond.fieldLink RX10 62 "RainTargetModel" "makes" "[J", Cond.fieldLink RX10 67 "RainTargetModel" "wins" "[J", Cond.fieldLink RX10 16 "RainTargetModel" "cases" "[I", Cond.methodLink RX10 183 yX10_makesBy, Cond.instanceMethod yX10_makesBy, Cond.selects RX10 yX10_makesBy yX10_makesBy, Cond.code yX10_makesBy cX10_makesBy 8 (some .long), Cond.fieldLink RX10 20 "RainTargetModel" "mood" "[I", Cond.methodLink RX10 167 yX10_ten, Cond.static yX10_ten, Cond.code yX10_ten cX10_ten 4 (some .long), Cond.constantLong RX10 70 (10), Cond.methodLink RX10 171 yX10_rest, Cond.static yX10_rest, Cond.code yX10_rest cX10_rest 2 (some .int)]
def wsX10_odds_r3 : List Cond := [Cond.methodLink RX10 175 yX10_makesOf, Cond.instanceMethod yX10_makesOf, Cond.selects RX10 yX10_makesOf yX10_makesOf, Cond.code yX10_makesOf cX10_makesOf 3 (some .long), Cond.methodLink RX10 186 yX10_greater, Cond.static yX10_greater, Cond.code yX10_greater cX10_greater 4 (some .long), Cond.methodLink RX10 190 yX10_layWins, Cond.instanceMethod yX10_layWins, Cond.selects RX10 yX10_layWins yX10_layWins, Cond.code yX10_layWins cX10_layWins 6 none, Cond.methodLink RX10 194 yX10_winsBy, Cond.instanceMethod yX10_winsBy, Cond.selects RX10 yX10_winsBy yX10_winsBy, Cond.code yX10_winsBy cX10_winsBy 9 (some .long), Cond.methodLink RX10 179 yX10_winsOf, Cond.instanceMethod yX10_winsOf, Cond.selects RX10 yX10_winsOf yX10_winsOf, Cond.code yX10_winsOf cX10_winsOf 4 (some .long), Cond.methodLink RX10 214 yX10_firstAll, Cond.instanceMethod yX10_firstAll, Cond.selects RX10 yX10_firstAll yX10_firstAll, Cond.code yX10_firstAll cX10_firstAll 3 (some .int), Cond.fieldLink RX10 147 "RainTargetModel" "firstMany" "I"]
def wsX10_odds_r4 : List Cond := [Cond.fieldLink RX10 38 "RainTargetModel" "first" "[I", Cond.methodLink RX10 230 yX10_rained, Cond.instanceMethod yX10_rained, Cond.selects RX10 yX10_rained yX10_rained, Cond.code yX10_rained cX10_rained 6 none, Cond.methodLink RX10 211 yX10_spendOf, Cond.instanceMethod yX10_spendOf, Cond.selects RX10 yX10_spendOf yX10_spendOf, Cond.code yX10_spendOf cX10_spendOf 5 (some .int), Cond.constantLong RX10 209 (1000), Cond.methodLink RX10 245 yX10_bentOf, Cond.instanceMethod yX10_bentOf, Cond.selects RX10 yX10_bentOf yX10_bentOf, Cond.code yX10_bentOf cX10_bentOf 4 (some .int), Cond.fieldLink RX10 23 "RainTargetModel" "par" "I", Cond.fieldLink RX10 26 "RainTargetModel" "bend" "I", Cond.methodLink RX10 265 yX10_oddsNow, Cond.instanceMethod yX10_oddsNow, Cond.selects RX10 yX10_oddsNow yX10_oddsNow, Cond.code yX10_oddsNow cX10_oddsNow 2 (some .int), Cond.methodLink RX10 251 yX10_targetNow, Cond.instanceMethod yX10_targetNow, Cond.selects RX10 yX10_targetNow yX10_targetNow, Cond.code yX10_targetNow cX10_targetNow 4 (some .int)]
def wsX10_odds_r5 : List Cond := [Cond.fieldLink RX10 29 "RainTargetModel" "line" "I", Cond.methodLink RX10 248 yX10_worst, Cond.instanceMethod yX10_worst, Cond.selects RX10 yX10_worst yX10_worst, Cond.code yX10_worst cX10_worst 4 (some .int), Cond.fieldLink RX10 41 "RainTargetModel" "sorted" "[I", Cond.methodLink RX10 255 yX10_millionths, Cond.static yX10_millionths, Cond.code yX10_millionths cX10_millionths 3 (some .int)]
def wsX10_odds : List Cond := .code yX10_odds cX10_odds 2 (some .int) :: ((wsX10_odds_r1 ++ (wsX10_odds_r2 ++ (wsX10_odds_r3 ++ (wsX10_odds_r4 ++ wsX10_odds_r5)))) ++ wsX100)
def wsX10_gain_r1 : List Cond := [Cond.fieldLink RX10 156 "RainTargetModel" "events" "I", Cond.fieldLink RX10 44 "RainTargetModel" "kind" "[I", Cond.constant RX10 268 (1000000), Cond.methodLink RX10 262 yX10_isRule, Cond.static yX10_isRule, Cond.initialized RX10, Cond.code yX10_isRule cX10_isRule 1 (some .boolean), Cond.methodLink RX10 72 yX10_in, Cond.static yX10_in, Cond.code yX10_in cX10_in 3 (some .boolean), Cond.methodLink RX10 259 yX10_goTo, Cond.instanceMethod yX10_goTo, Cond.selects RX10 yX10_goTo yX10_goTo, Cond.code yX10_goTo cX10_goTo 3 none, Cond.fieldLink RX10 221 "RainTargetModel" "left" "I", Cond.fieldLink RX10 224 "RainTargetModel" "stand" "I", Cond.fieldLink RX10 50 "RainTargetModel" "outsOf" "[I", Cond.fieldLink RX10 227 "RainTargetModel" "runs" "I", Cond.fieldLink RX10 47 "RainTargetModel" "runsOf" "[I", Cond.methodLink RX10 218 yX10_begin, Cond.instanceMethod yX10_begin, Cond.selects RX10 yX10_begin yX10_begin, Cond.code yX10_begin cX10_begin 1 none, Cond.fieldLink RX10 7 "RainTargetModel" "overs" "I"]
def wsX10_gain_r2 : List Cond := [Cond.fieldLink RX10 13 "RainTargetModel" "men" "I", Cond.fieldLink RX10 233 "RainTargetModel" "taken" "I", Cond.fieldLink RX10 236 "RainTargetModel" "lost" "I", Cond.fieldLink RX10 239 "RainTargetModel" "bentLost" "I", Cond.fieldLink RX10 242 "RainTargetModel" "chance" "I", Cond.methodLink RX10 202 yX10_layOut, Cond.instanceMethod yX10_layOut, Cond.selects RX10 yX10_layOut yX10_layOut, Cond.code yX10_layOut cX10_layOut 4 none, Cond.fieldLink RX10 159 "RainTargetModel" "isLaid" "Z", Cond.fieldLink RX10 62 "RainTargetModel" "makes" "[J", Cond.fieldLink RX10 67 "RainTargetModel" "wins" "[J", Cond.fieldLink RX10 16 "RainTargetModel" "cases" "[I", Cond.methodLink RX10 183 yX10_makesBy, Cond.instanceMethod yX10_makesBy, Cond.selects RX10 yX10_makesBy yX10_makesBy, Cond.code yX10_makesBy cX10_makesBy 8 (some .long), Cond.fieldLink RX10 20 "RainTargetModel" "mood" "[I", Cond.methodLink RX10 167 yX10_ten, Cond.static yX10_ten, Cond.code yX10_ten cX10_ten 4 (some .long), Cond.constantLong RX10 70 (10), Cond.methodLink RX10 171 yX10_rest, Cond.static yX10_rest]
def wsX10_gain_r3 : List Cond := [Cond.code yX10_rest cX10_rest 2 (some .int), Cond.methodLink RX10 175 yX10_makesOf, Cond.instanceMethod yX10_makesOf, Cond.selects RX10 yX10_makesOf yX10_makesOf, Cond.code yX10_makesOf cX10_makesOf 3 (some .long), Cond.methodLink RX10 186 yX10_greater, Cond.static yX10_greater, Cond.code yX10_greater cX10_greater 4 (some .long), Cond.methodLink RX10 190 yX10_layWins, Cond.instanceMethod yX10_layWins, Cond.selects RX10 yX10_layWins yX10_layWins, Cond.code yX10_layWins cX10_layWins 6 none, Cond.methodLink RX10 194 yX10_winsBy, Cond.instanceMethod yX10_winsBy, Cond.selects RX10 yX10_winsBy yX10_winsBy, Cond.code yX10_winsBy cX10_winsBy 9 (some .long), Cond.methodLink RX10 179 yX10_winsOf, Cond.instanceMethod yX10_winsOf, Cond.selects RX10 yX10_winsOf yX10_winsOf, Cond.code yX10_winsOf cX10_winsOf 4 (some .long), Cond.methodLink RX10 214 yX10_firstAll, Cond.instanceMethod yX10_firstAll, Cond.selects RX10 yX10_firstAll yX10_firstAll, Cond.code yX10_firstAll cX10_firstAll 3 (some .int)]
def wsX10_gain_r4 : List Cond := [Cond.fieldLink RX10 147 "RainTargetModel" "firstMany" "I", Cond.fieldLink RX10 38 "RainTargetModel" "first" "[I", Cond.methodLink RX10 230 yX10_rained, Cond.instanceMethod yX10_rained, Cond.selects RX10 yX10_rained yX10_rained, Cond.code yX10_rained cX10_rained 6 none, Cond.methodLink RX10 211 yX10_spendOf, Cond.instanceMethod yX10_spendOf, Cond.selects RX10 yX10_spendOf yX10_spendOf, Cond.code yX10_spendOf cX10_spendOf 5 (some .int), Cond.constantLong RX10 209 (1000), Cond.methodLink RX10 245 yX10_bentOf, Cond.instanceMethod yX10_bentOf, Cond.selects RX10 yX10_bentOf yX10_bentOf, Cond.code yX10_bentOf cX10_bentOf 4 (some .int), Cond.fieldLink RX10 23 "RainTargetModel" "par" "I", Cond.fieldLink RX10 26 "RainTargetModel" "bend" "I", Cond.methodLink RX10 265 yX10_oddsNow, Cond.instanceMethod yX10_oddsNow, Cond.selects RX10 yX10_oddsNow yX10_oddsNow, Cond.code yX10_oddsNow cX10_oddsNow 2 (some .int), Cond.methodLink RX10 251 yX10_targetNow, Cond.instanceMethod yX10_targetNow, Cond.selects RX10 yX10_targetNow yX10_targetNow]
def wsX10_gain_r5 : List Cond := [Cond.code yX10_targetNow cX10_targetNow 4 (some .int), Cond.fieldLink RX10 29 "RainTargetModel" "line" "I", Cond.methodLink RX10 248 yX10_worst, Cond.instanceMethod yX10_worst, Cond.selects RX10 yX10_worst yX10_worst, Cond.code yX10_worst cX10_worst 4 (some .int), Cond.fieldLink RX10 41 "RainTargetModel" "sorted" "[I", Cond.methodLink RX10 255 yX10_millionths, Cond.static yX10_millionths, Cond.code yX10_millionths cX10_millionths 3 (some .int)]
def wsX10_gain : List Cond := .code yX10_gain cX10_gain 4 (some .int) :: ((wsX10_gain_r1 ++ (wsX10_gain_r2 ++ (wsX10_gain_r3 ++ (wsX10_gain_r4 ++ wsX10_gain_r5)))) ++ wsX100)
def wsX10_won_r1 : List Cond := [Cond.fieldLink RX10 156 "RainTargetModel" "events" "I", Cond.fieldLink RX10 227 "RainTargetModel" "runs" "I", Cond.fieldLink RX10 221 "RainTargetModel" "left" "I", Cond.fieldLink RX10 224 "RainTargetModel" "stand" "I", Cond.methodLink RX10 262 yX10_isRule, Cond.static yX10_isRule, Cond.initialized RX10, Cond.code yX10_isRule cX10_isRule 1 (some .boolean), Cond.methodLink RX10 72 yX10_in, Cond.static yX10_in, Cond.code yX10_in cX10_in 3 (some .boolean), Cond.methodLink RX10 259 yX10_goTo, Cond.instanceMethod yX10_goTo, Cond.selects RX10 yX10_goTo yX10_goTo, Cond.code yX10_goTo cX10_goTo 3 none, Cond.fieldLink RX10 44 "RainTargetModel" "kind" "[I", Cond.fieldLink RX10 50 "RainTargetModel" "outsOf" "[I", Cond.fieldLink RX10 47 "RainTargetModel" "runsOf" "[I", Cond.methodLink RX10 218 yX10_begin, Cond.instanceMethod yX10_begin, Cond.selects RX10 yX10_begin yX10_begin, Cond.code yX10_begin cX10_begin 1 none, Cond.fieldLink RX10 7 "RainTargetModel" "overs" "I", Cond.fieldLink RX10 13 "RainTargetModel" "men" "I"]
def wsX10_won_r2 : List Cond := [Cond.fieldLink RX10 233 "RainTargetModel" "taken" "I", Cond.fieldLink RX10 236 "RainTargetModel" "lost" "I", Cond.fieldLink RX10 239 "RainTargetModel" "bentLost" "I", Cond.fieldLink RX10 242 "RainTargetModel" "chance" "I", Cond.methodLink RX10 202 yX10_layOut, Cond.instanceMethod yX10_layOut, Cond.selects RX10 yX10_layOut yX10_layOut, Cond.code yX10_layOut cX10_layOut 4 none, Cond.fieldLink RX10 159 "RainTargetModel" "isLaid" "Z", Cond.fieldLink RX10 62 "RainTargetModel" "makes" "[J", Cond.fieldLink RX10 67 "RainTargetModel" "wins" "[J", Cond.fieldLink RX10 16 "RainTargetModel" "cases" "[I", Cond.methodLink RX10 183 yX10_makesBy, Cond.instanceMethod yX10_makesBy, Cond.selects RX10 yX10_makesBy yX10_makesBy, Cond.code yX10_makesBy cX10_makesBy 8 (some .long), Cond.fieldLink RX10 20 "RainTargetModel" "mood" "[I", Cond.methodLink RX10 167 yX10_ten, Cond.static yX10_ten, Cond.code yX10_ten cX10_ten 4 (some .long), Cond.constantLong RX10 70 (10), Cond.methodLink RX10 171 yX10_rest, Cond.static yX10_rest, Cond.code yX10_rest cX10_rest 2 (some .int)]
def wsX10_won_r3 : List Cond := [Cond.methodLink RX10 175 yX10_makesOf, Cond.instanceMethod yX10_makesOf, Cond.selects RX10 yX10_makesOf yX10_makesOf, Cond.code yX10_makesOf cX10_makesOf 3 (some .long), Cond.methodLink RX10 186 yX10_greater, Cond.static yX10_greater, Cond.code yX10_greater cX10_greater 4 (some .long), Cond.methodLink RX10 190 yX10_layWins, Cond.instanceMethod yX10_layWins, Cond.selects RX10 yX10_layWins yX10_layWins, Cond.code yX10_layWins cX10_layWins 6 none, Cond.methodLink RX10 194 yX10_winsBy, Cond.instanceMethod yX10_winsBy, Cond.selects RX10 yX10_winsBy yX10_winsBy, Cond.code yX10_winsBy cX10_winsBy 9 (some .long), Cond.methodLink RX10 179 yX10_winsOf, Cond.instanceMethod yX10_winsOf, Cond.selects RX10 yX10_winsOf yX10_winsOf, Cond.code yX10_winsOf cX10_winsOf 4 (some .long), Cond.methodLink RX10 214 yX10_firstAll, Cond.instanceMethod yX10_firstAll, Cond.selects RX10 yX10_firstAll yX10_firstAll, Cond.code yX10_firstAll cX10_firstAll 3 (some .int), Cond.fieldLink RX10 147 "RainTargetModel" "firstMany" "I"]
def wsX10_won_r4 : List Cond := [Cond.fieldLink RX10 38 "RainTargetModel" "first" "[I", Cond.methodLink RX10 230 yX10_rained, Cond.instanceMethod yX10_rained, Cond.selects RX10 yX10_rained yX10_rained, Cond.code yX10_rained cX10_rained 6 none, Cond.methodLink RX10 211 yX10_spendOf, Cond.instanceMethod yX10_spendOf, Cond.selects RX10 yX10_spendOf yX10_spendOf, Cond.code yX10_spendOf cX10_spendOf 5 (some .int), Cond.constantLong RX10 209 (1000), Cond.methodLink RX10 245 yX10_bentOf, Cond.instanceMethod yX10_bentOf, Cond.selects RX10 yX10_bentOf yX10_bentOf, Cond.code yX10_bentOf cX10_bentOf 4 (some .int), Cond.fieldLink RX10 23 "RainTargetModel" "par" "I", Cond.fieldLink RX10 26 "RainTargetModel" "bend" "I", Cond.methodLink RX10 251 yX10_targetNow, Cond.instanceMethod yX10_targetNow, Cond.selects RX10 yX10_targetNow yX10_targetNow, Cond.code yX10_targetNow cX10_targetNow 4 (some .int), Cond.fieldLink RX10 29 "RainTargetModel" "line" "I", Cond.methodLink RX10 248 yX10_worst, Cond.instanceMethod yX10_worst, Cond.selects RX10 yX10_worst yX10_worst]
def wsX10_won_r5 : List Cond := [Cond.code yX10_worst cX10_worst 4 (some .int), Cond.fieldLink RX10 41 "RainTargetModel" "sorted" "[I"]
def wsX10_won : List Cond := .code yX10_won cX10_won 2 (some .int) :: ((wsX10_won_r1 ++ (wsX10_won_r2 ++ (wsX10_won_r3 ++ (wsX10_won_r4 ++ wsX10_won_r5)))) ++ wsX100)
def wsX10_odd_r1 : List Cond := [Cond.fieldLink RX10 7 "RainTargetModel" "overs" "I", Cond.fieldLink RX10 221 "RainTargetModel" "left" "I", Cond.methodLink RX10 262 yX10_isRule, Cond.static yX10_isRule, Cond.initialized RX10, Cond.code yX10_isRule cX10_isRule 1 (some .boolean), Cond.methodLink RX10 72 yX10_in, Cond.static yX10_in, Cond.code yX10_in cX10_in 3 (some .boolean), Cond.methodLink RX10 218 yX10_begin, Cond.instanceMethod yX10_begin, Cond.selects RX10 yX10_begin yX10_begin, Cond.code yX10_begin cX10_begin 1 none, Cond.fieldLink RX10 13 "RainTargetModel" "men" "I", Cond.fieldLink RX10 224 "RainTargetModel" "stand" "I", Cond.fieldLink RX10 227 "RainTargetModel" "runs" "I", Cond.fieldLink RX10 233 "RainTargetModel" "taken" "I", Cond.fieldLink RX10 236 "RainTargetModel" "lost" "I", Cond.fieldLink RX10 239 "RainTargetModel" "bentLost" "I", Cond.fieldLink RX10 242 "RainTargetModel" "chance" "I", Cond.methodLink RX10 202 yX10_layOut, Cond.instanceMethod yX10_layOut, Cond.selects RX10 yX10_layOut yX10_layOut, Cond.code yX10_layOut cX10_layOut 4 none]
def wsX10_odd_r2 : List Cond := [Cond.fieldLink RX10 159 "RainTargetModel" "isLaid" "Z", Cond.fieldLink RX10 62 "RainTargetModel" "makes" "[J", Cond.fieldLink RX10 67 "RainTargetModel" "wins" "[J", Cond.fieldLink RX10 16 "RainTargetModel" "cases" "[I", Cond.methodLink RX10 183 yX10_makesBy, Cond.instanceMethod yX10_makesBy, Cond.selects RX10 yX10_makesBy yX10_makesBy, Cond.code yX10_makesBy cX10_makesBy 8 (some .long), Cond.fieldLink RX10 20 "RainTargetModel" "mood" "[I", Cond.methodLink RX10 167 yX10_ten, Cond.static yX10_ten, Cond.code yX10_ten cX10_ten 4 (some .long), Cond.constantLong RX10 70 (10), Cond.methodLink RX10 171 yX10_rest, Cond.static yX10_rest, Cond.code yX10_rest cX10_rest 2 (some .int), Cond.methodLink RX10 175 yX10_makesOf, Cond.instanceMethod yX10_makesOf, Cond.selects RX10 yX10_makesOf yX10_makesOf, Cond.code yX10_makesOf cX10_makesOf 3 (some .long), Cond.methodLink RX10 186 yX10_greater, Cond.static yX10_greater, Cond.code yX10_greater cX10_greater 4 (some .long), Cond.methodLink RX10 190 yX10_layWins]
def wsX10_odd_r3 : List Cond := [Cond.instanceMethod yX10_layWins, Cond.selects RX10 yX10_layWins yX10_layWins, Cond.code yX10_layWins cX10_layWins 6 none, Cond.methodLink RX10 194 yX10_winsBy, Cond.instanceMethod yX10_winsBy, Cond.selects RX10 yX10_winsBy yX10_winsBy, Cond.code yX10_winsBy cX10_winsBy 9 (some .long), Cond.methodLink RX10 179 yX10_winsOf, Cond.instanceMethod yX10_winsOf, Cond.selects RX10 yX10_winsOf yX10_winsOf, Cond.code yX10_winsOf cX10_winsOf 4 (some .long), Cond.methodLink RX10 214 yX10_firstAll, Cond.instanceMethod yX10_firstAll, Cond.selects RX10 yX10_firstAll yX10_firstAll, Cond.code yX10_firstAll cX10_firstAll 3 (some .int), Cond.fieldLink RX10 147 "RainTargetModel" "firstMany" "I", Cond.fieldLink RX10 38 "RainTargetModel" "first" "[I", Cond.methodLink RX10 230 yX10_rained, Cond.instanceMethod yX10_rained, Cond.selects RX10 yX10_rained yX10_rained, Cond.code yX10_rained cX10_rained 6 none, Cond.methodLink RX10 211 yX10_spendOf, Cond.instanceMethod yX10_spendOf, Cond.selects RX10 yX10_spendOf yX10_spendOf]
def wsX10_odd_r4 : List Cond := [Cond.code yX10_spendOf cX10_spendOf 5 (some .int), Cond.constantLong RX10 209 (1000), Cond.methodLink RX10 245 yX10_bentOf, Cond.instanceMethod yX10_bentOf, Cond.selects RX10 yX10_bentOf yX10_bentOf, Cond.code yX10_bentOf cX10_bentOf 4 (some .int), Cond.fieldLink RX10 23 "RainTargetModel" "par" "I", Cond.fieldLink RX10 26 "RainTargetModel" "bend" "I", Cond.methodLink RX10 251 yX10_targetNow, Cond.instanceMethod yX10_targetNow, Cond.selects RX10 yX10_targetNow yX10_targetNow, Cond.code yX10_targetNow cX10_targetNow 4 (some .int), Cond.fieldLink RX10 29 "RainTargetModel" "line" "I", Cond.methodLink RX10 248 yX10_worst, Cond.instanceMethod yX10_worst, Cond.selects RX10 yX10_worst yX10_worst, Cond.code yX10_worst cX10_worst 4 (some .int), Cond.fieldLink RX10 41 "RainTargetModel" "sorted" "[I"]
def wsX10_odd : List Cond := .code yX10_odd cX10_odd 5 (some .int) :: ((wsX10_odd_r1 ++ (wsX10_odd_r2 ++ (wsX10_odd_r3 ++ wsX10_odd_r4))) ++ wsX100)
def wsX10_sheetOf_r1 : List Cond := [Cond.methodLink RX10 218 yX10_begin, Cond.instanceMethod yX10_begin, Cond.selects RX10 yX10_begin yX10_begin, Cond.initialized RX10, Cond.code yX10_begin cX10_begin 1 none, Cond.fieldLink RX10 7 "RainTargetModel" "overs" "I", Cond.fieldLink RX10 221 "RainTargetModel" "left" "I", Cond.fieldLink RX10 13 "RainTargetModel" "men" "I", Cond.fieldLink RX10 224 "RainTargetModel" "stand" "I", Cond.fieldLink RX10 227 "RainTargetModel" "runs" "I", Cond.fieldLink RX10 233 "RainTargetModel" "taken" "I", Cond.fieldLink RX10 236 "RainTargetModel" "lost" "I", Cond.fieldLink RX10 239 "RainTargetModel" "bentLost" "I", Cond.fieldLink RX10 242 "RainTargetModel" "chance" "I", Cond.methodLink RX10 202 yX10_layOut, Cond.instanceMethod yX10_layOut, Cond.selects RX10 yX10_layOut yX10_layOut, Cond.code yX10_layOut cX10_layOut 4 none, Cond.fieldLink RX10 159 "RainTargetModel" "isLaid" "Z", Cond.fieldLink RX10 62 "RainTargetModel" "makes" "[J", Cond.fieldLink RX10 67 "RainTargetModel" "wins" "[J", Cond.fieldLink RX10 16 "RainTargetModel" "cases" "[I", Cond.methodLink RX10 183 yX10_makesBy, Cond.instanceMethod yX10_makesBy]
def wsX10_sheetOf_r2 : List Cond := [Cond.selects RX10 yX10_makesBy yX10_makesBy, Cond.code yX10_makesBy cX10_makesBy 8 (some .long), Cond.fieldLink RX10 20 "RainTargetModel" "mood" "[I", Cond.methodLink RX10 167 yX10_ten, Cond.static yX10_ten, Cond.code yX10_ten cX10_ten 4 (some .long), Cond.constantLong RX10 70 (10), Cond.methodLink RX10 171 yX10_rest, Cond.static yX10_rest, Cond.code yX10_rest cX10_rest 2 (some .int), Cond.methodLink RX10 175 yX10_makesOf, Cond.instanceMethod yX10_makesOf, Cond.selects RX10 yX10_makesOf yX10_makesOf, Cond.code yX10_makesOf cX10_makesOf 3 (some .long), Cond.methodLink RX10 186 yX10_greater, Cond.static yX10_greater, Cond.code yX10_greater cX10_greater 4 (some .long), Cond.methodLink RX10 190 yX10_layWins, Cond.instanceMethod yX10_layWins, Cond.selects RX10 yX10_layWins yX10_layWins, Cond.code yX10_layWins cX10_layWins 6 none, Cond.methodLink RX10 194 yX10_winsBy, Cond.instanceMethod yX10_winsBy, Cond.selects RX10 yX10_winsBy yX10_winsBy]
def wsX10_sheetOf_r3 : List Cond := [Cond.code yX10_winsBy cX10_winsBy 9 (some .long), Cond.methodLink RX10 179 yX10_winsOf, Cond.instanceMethod yX10_winsOf, Cond.selects RX10 yX10_winsOf yX10_winsOf, Cond.code yX10_winsOf cX10_winsOf 4 (some .long), Cond.methodLink RX10 214 yX10_firstAll, Cond.instanceMethod yX10_firstAll, Cond.selects RX10 yX10_firstAll yX10_firstAll, Cond.code yX10_firstAll cX10_firstAll 3 (some .int), Cond.fieldLink RX10 147 "RainTargetModel" "firstMany" "I", Cond.fieldLink RX10 38 "RainTargetModel" "first" "[I", Cond.methodLink RX10 230 yX10_rained, Cond.instanceMethod yX10_rained, Cond.selects RX10 yX10_rained yX10_rained, Cond.code yX10_rained cX10_rained 6 none, Cond.methodLink RX10 211 yX10_spendOf, Cond.instanceMethod yX10_spendOf, Cond.selects RX10 yX10_spendOf yX10_spendOf, Cond.code yX10_spendOf cX10_spendOf 5 (some .int), Cond.constantLong RX10 209 (1000), Cond.methodLink RX10 245 yX10_bentOf, Cond.instanceMethod yX10_bentOf, Cond.selects RX10 yX10_bentOf yX10_bentOf, Cond.code yX10_bentOf cX10_bentOf 4 (some .int)]
def wsX10_sheetOf_r4 : List Cond := [Cond.fieldLink RX10 23 "RainTargetModel" "par" "I", Cond.fieldLink RX10 26 "RainTargetModel" "bend" "I", Cond.methodLink RX10 251 yX10_targetNow, Cond.instanceMethod yX10_targetNow, Cond.selects RX10 yX10_targetNow yX10_targetNow, Cond.code yX10_targetNow cX10_targetNow 4 (some .int), Cond.fieldLink RX10 29 "RainTargetModel" "line" "I", Cond.methodLink RX10 248 yX10_worst, Cond.instanceMethod yX10_worst, Cond.selects RX10 yX10_worst yX10_worst, Cond.code yX10_worst cX10_worst 4 (some .int), Cond.fieldLink RX10 41 "RainTargetModel" "sorted" "[I"]
def wsX10_sheetOf : List Cond := .code yX10_sheetOf cX10_sheetOf 3 (some .int) :: ((wsX10_sheetOf_r1 ++ (wsX10_sheetOf_r2 ++ (wsX10_sheetOf_r3 ++ wsX10_sheetOf_r4))) ++ wsX100)
def wsX10_sheet_r1 : List Cond := [Cond.fieldLink RX10 7 "RainTargetModel" "overs" "I", Cond.methodLink RX10 262 yX10_isRule, Cond.static yX10_isRule, Cond.initialized RX10, Cond.code yX10_isRule cX10_isRule 1 (some .boolean), Cond.methodLink RX10 72 yX10_in, Cond.static yX10_in, Cond.code yX10_in cX10_in 3 (some .boolean), Cond.methodLink RX10 269 yX10_sheetOf, Cond.instanceMethod yX10_sheetOf, Cond.selects RX10 yX10_sheetOf yX10_sheetOf, Cond.code yX10_sheetOf cX10_sheetOf 3 (some .int), Cond.methodLink RX10 218 yX10_begin, Cond.instanceMethod yX10_begin, Cond.selects RX10 yX10_begin yX10_begin, Cond.code yX10_begin cX10_begin 1 none, Cond.fieldLink RX10 221 "RainTargetModel" "left" "I", Cond.fieldLink RX10 13 "RainTargetModel" "men" "I", Cond.fieldLink RX10 224 "RainTargetModel" "stand" "I", Cond.fieldLink RX10 227 "RainTargetModel" "runs" "I", Cond.fieldLink RX10 233 "RainTargetModel" "taken" "I", Cond.fieldLink RX10 236 "RainTargetModel" "lost" "I", Cond.fieldLink RX10 239 "RainTargetModel" "bentLost" "I", Cond.fieldLink RX10 242 "RainTargetModel" "chance" "I"]
def wsX10_sheet_r2 : List Cond := [Cond.methodLink RX10 202 yX10_layOut, Cond.instanceMethod yX10_layOut, Cond.selects RX10 yX10_layOut yX10_layOut, Cond.code yX10_layOut cX10_layOut 4 none, Cond.fieldLink RX10 159 "RainTargetModel" "isLaid" "Z", Cond.fieldLink RX10 62 "RainTargetModel" "makes" "[J", Cond.fieldLink RX10 67 "RainTargetModel" "wins" "[J", Cond.fieldLink RX10 16 "RainTargetModel" "cases" "[I", Cond.methodLink RX10 183 yX10_makesBy, Cond.instanceMethod yX10_makesBy, Cond.selects RX10 yX10_makesBy yX10_makesBy, Cond.code yX10_makesBy cX10_makesBy 8 (some .long), Cond.fieldLink RX10 20 "RainTargetModel" "mood" "[I", Cond.methodLink RX10 167 yX10_ten, Cond.static yX10_ten, Cond.code yX10_ten cX10_ten 4 (some .long), Cond.constantLong RX10 70 (10), Cond.methodLink RX10 171 yX10_rest, Cond.static yX10_rest, Cond.code yX10_rest cX10_rest 2 (some .int), Cond.methodLink RX10 175 yX10_makesOf, Cond.instanceMethod yX10_makesOf, Cond.selects RX10 yX10_makesOf yX10_makesOf, Cond.code yX10_makesOf cX10_makesOf 3 (some .long)]
def wsX10_sheet_r3 : List Cond := [Cond.methodLink RX10 186 yX10_greater, Cond.static yX10_greater, Cond.code yX10_greater cX10_greater 4 (some .long), Cond.methodLink RX10 190 yX10_layWins, Cond.instanceMethod yX10_layWins, Cond.selects RX10 yX10_layWins yX10_layWins, Cond.code yX10_layWins cX10_layWins 6 none, Cond.methodLink RX10 194 yX10_winsBy, Cond.instanceMethod yX10_winsBy, Cond.selects RX10 yX10_winsBy yX10_winsBy, Cond.code yX10_winsBy cX10_winsBy 9 (some .long), Cond.methodLink RX10 179 yX10_winsOf, Cond.instanceMethod yX10_winsOf, Cond.selects RX10 yX10_winsOf yX10_winsOf, Cond.code yX10_winsOf cX10_winsOf 4 (some .long), Cond.methodLink RX10 214 yX10_firstAll, Cond.instanceMethod yX10_firstAll, Cond.selects RX10 yX10_firstAll yX10_firstAll, Cond.code yX10_firstAll cX10_firstAll 3 (some .int), Cond.fieldLink RX10 147 "RainTargetModel" "firstMany" "I", Cond.fieldLink RX10 38 "RainTargetModel" "first" "[I", Cond.methodLink RX10 230 yX10_rained, Cond.instanceMethod yX10_rained, Cond.selects RX10 yX10_rained yX10_rained]
def wsX10_sheet_r4 : List Cond := [Cond.code yX10_rained cX10_rained 6 none, Cond.methodLink RX10 211 yX10_spendOf, Cond.instanceMethod yX10_spendOf, Cond.selects RX10 yX10_spendOf yX10_spendOf, Cond.code yX10_spendOf cX10_spendOf 5 (some .int), Cond.constantLong RX10 209 (1000), Cond.methodLink RX10 245 yX10_bentOf, Cond.instanceMethod yX10_bentOf, Cond.selects RX10 yX10_bentOf yX10_bentOf, Cond.code yX10_bentOf cX10_bentOf 4 (some .int), Cond.fieldLink RX10 23 "RainTargetModel" "par" "I", Cond.fieldLink RX10 26 "RainTargetModel" "bend" "I", Cond.methodLink RX10 251 yX10_targetNow, Cond.instanceMethod yX10_targetNow, Cond.selects RX10 yX10_targetNow yX10_targetNow, Cond.code yX10_targetNow cX10_targetNow 4 (some .int), Cond.fieldLink RX10 29 "RainTargetModel" "line" "I", Cond.methodLink RX10 248 yX10_worst, Cond.instanceMethod yX10_worst, Cond.selects RX10 yX10_worst yX10_worst, Cond.code yX10_worst cX10_worst 4 (some .int), Cond.fieldLink RX10 41 "RainTargetModel" "sorted" "[I"]
def wsX10_sheet : List Cond := .code yX10_sheet cX10_sheet 3 (some .int) :: ((wsX10_sheet_r1 ++ (wsX10_sheet_r2 ++ (wsX10_sheet_r3 ++ wsX10_sheet_r4))) ++ wsX100)
def wsX10_clouded_r1 : List Cond := [Cond.fieldLink RX10 153 "RainTargetModel" "cloudOvers" "I", Cond.fieldLink RX10 7 "RainTargetModel" "overs" "I", Cond.fieldLink RX10 13 "RainTargetModel" "men" "I", Cond.fieldLink RX10 150 "RainTargetModel" "cloudTenths" "I", Cond.methodLink RX10 262 yX10_isRule, Cond.static yX10_isRule, Cond.initialized RX10, Cond.code yX10_isRule cX10_isRule 1 (some .boolean), Cond.methodLink RX10 72 yX10_in, Cond.static yX10_in, Cond.code yX10_in cX10_in 3 (some .boolean), Cond.methodLink RX10 269 yX10_sheetOf, Cond.instanceMethod yX10_sheetOf, Cond.selects RX10 yX10_sheetOf yX10_sheetOf, Cond.code yX10_sheetOf cX10_sheetOf 3 (some .int), Cond.methodLink RX10 218 yX10_begin, Cond.instanceMethod yX10_begin, Cond.selects RX10 yX10_begin yX10_begin, Cond.code yX10_begin cX10_begin 1 none, Cond.fieldLink RX10 221 "RainTargetModel" "left" "I", Cond.fieldLink RX10 224 "RainTargetModel" "stand" "I", Cond.fieldLink RX10 227 "RainTargetModel" "runs" "I", Cond.fieldLink RX10 233 "RainTargetModel" "taken" "I", Cond.fieldLink RX10 236 "RainTargetModel" "lost" "I"]
def wsX10_clouded_r2 : List Cond := [Cond.fieldLink RX10 239 "RainTargetModel" "bentLost" "I", Cond.fieldLink RX10 242 "RainTargetModel" "chance" "I", Cond.methodLink RX10 202 yX10_layOut, Cond.instanceMethod yX10_layOut, Cond.selects RX10 yX10_layOut yX10_layOut, Cond.code yX10_layOut cX10_layOut 4 none, Cond.fieldLink RX10 159 "RainTargetModel" "isLaid" "Z", Cond.fieldLink RX10 62 "RainTargetModel" "makes" "[J", Cond.fieldLink RX10 67 "RainTargetModel" "wins" "[J", Cond.fieldLink RX10 16 "RainTargetModel" "cases" "[I", Cond.methodLink RX10 183 yX10_makesBy, Cond.instanceMethod yX10_makesBy, Cond.selects RX10 yX10_makesBy yX10_makesBy, Cond.code yX10_makesBy cX10_makesBy 8 (some .long), Cond.fieldLink RX10 20 "RainTargetModel" "mood" "[I", Cond.methodLink RX10 167 yX10_ten, Cond.static yX10_ten, Cond.code yX10_ten cX10_ten 4 (some .long), Cond.constantLong RX10 70 (10), Cond.methodLink RX10 171 yX10_rest, Cond.static yX10_rest, Cond.code yX10_rest cX10_rest 2 (some .int), Cond.methodLink RX10 175 yX10_makesOf, Cond.instanceMethod yX10_makesOf]
def wsX10_clouded_r3 : List Cond := [Cond.selects RX10 yX10_makesOf yX10_makesOf, Cond.code yX10_makesOf cX10_makesOf 3 (some .long), Cond.methodLink RX10 186 yX10_greater, Cond.static yX10_greater, Cond.code yX10_greater cX10_greater 4 (some .long), Cond.methodLink RX10 190 yX10_layWins, Cond.instanceMethod yX10_layWins, Cond.selects RX10 yX10_layWins yX10_layWins, Cond.code yX10_layWins cX10_layWins 6 none, Cond.methodLink RX10 194 yX10_winsBy, Cond.instanceMethod yX10_winsBy, Cond.selects RX10 yX10_winsBy yX10_winsBy, Cond.code yX10_winsBy cX10_winsBy 9 (some .long), Cond.methodLink RX10 179 yX10_winsOf, Cond.instanceMethod yX10_winsOf, Cond.selects RX10 yX10_winsOf yX10_winsOf, Cond.code yX10_winsOf cX10_winsOf 4 (some .long), Cond.methodLink RX10 214 yX10_firstAll, Cond.instanceMethod yX10_firstAll, Cond.selects RX10 yX10_firstAll yX10_firstAll, Cond.code yX10_firstAll cX10_firstAll 3 (some .int), Cond.fieldLink RX10 147 "RainTargetModel" "firstMany" "I", Cond.fieldLink RX10 38 "RainTargetModel" "first" "[I", Cond.methodLink RX10 230 yX10_rained]
def wsX10_clouded_r4 : List Cond := [Cond.instanceMethod yX10_rained, Cond.selects RX10 yX10_rained yX10_rained, Cond.code yX10_rained cX10_rained 6 none, Cond.methodLink RX10 211 yX10_spendOf, Cond.instanceMethod yX10_spendOf, Cond.selects RX10 yX10_spendOf yX10_spendOf, Cond.code yX10_spendOf cX10_spendOf 5 (some .int), Cond.constantLong RX10 209 (1000), Cond.methodLink RX10 245 yX10_bentOf, Cond.instanceMethod yX10_bentOf, Cond.selects RX10 yX10_bentOf yX10_bentOf, Cond.code yX10_bentOf cX10_bentOf 4 (some .int), Cond.fieldLink RX10 23 "RainTargetModel" "par" "I", Cond.fieldLink RX10 26 "RainTargetModel" "bend" "I", Cond.methodLink RX10 251 yX10_targetNow, Cond.instanceMethod yX10_targetNow, Cond.selects RX10 yX10_targetNow yX10_targetNow, Cond.code yX10_targetNow cX10_targetNow 4 (some .int), Cond.fieldLink RX10 29 "RainTargetModel" "line" "I", Cond.methodLink RX10 248 yX10_worst, Cond.instanceMethod yX10_worst, Cond.selects RX10 yX10_worst yX10_worst, Cond.code yX10_worst cX10_worst 4 (some .int), Cond.fieldLink RX10 41 "RainTargetModel" "sorted" "[I"]
def wsX10_clouded_r5 : List Cond := [Cond.methodLink RX10 255 yX10_millionths, Cond.static yX10_millionths, Cond.code yX10_millionths cX10_millionths 3 (some .int)]
def wsX10_clouded : List Cond := .code yX10_clouded cX10_clouded 7 (some .int) :: ((wsX10_clouded_r1 ++ (wsX10_clouded_r2 ++ (wsX10_clouded_r3 ++ (wsX10_clouded_r4 ++ wsX10_clouded_r5)))) ++ wsX100)
def wsX10_simple_r1 : List Cond := [Cond.fieldLink RX10 29 "RainTargetModel" "line" "I", Cond.fieldLink RX10 7 "RainTargetModel" "overs" "I", Cond.fieldLink RX10 242 "RainTargetModel" "chance" "I", Cond.methodLink RX10 72 yX10_in, Cond.static yX10_in, Cond.initialized RX10, Cond.code yX10_in cX10_in 3 (some .boolean), Cond.methodLink RX10 269 yX10_sheetOf, Cond.instanceMethod yX10_sheetOf, Cond.selects RX10 yX10_sheetOf yX10_sheetOf, Cond.code yX10_sheetOf cX10_sheetOf 3 (some .int), Cond.methodLink RX10 218 yX10_begin, Cond.instanceMethod yX10_begin, Cond.selects RX10 yX10_begin yX10_begin, Cond.code yX10_begin cX10_begin 1 none, Cond.fieldLink RX10 221 "RainTargetModel" "left" "I", Cond.fieldLink RX10 13 "RainTargetModel" "men" "I", Cond.fieldLink RX10 224 "RainTargetModel" "stand" "I", Cond.fieldLink RX10 227 "RainTargetModel" "runs" "I", Cond.fieldLink RX10 233 "RainTargetModel" "taken" "I", Cond.fieldLink RX10 236 "RainTargetModel" "lost" "I", Cond.fieldLink RX10 239 "RainTargetModel" "bentLost" "I", Cond.methodLink RX10 202 yX10_layOut, Cond.instanceMethod yX10_layOut]
def wsX10_simple_r2 : List Cond := [Cond.selects RX10 yX10_layOut yX10_layOut, Cond.code yX10_layOut cX10_layOut 4 none, Cond.fieldLink RX10 159 "RainTargetModel" "isLaid" "Z", Cond.fieldLink RX10 62 "RainTargetModel" "makes" "[J", Cond.fieldLink RX10 67 "RainTargetModel" "wins" "[J", Cond.fieldLink RX10 16 "RainTargetModel" "cases" "[I", Cond.methodLink RX10 183 yX10_makesBy, Cond.instanceMethod yX10_makesBy, Cond.selects RX10 yX10_makesBy yX10_makesBy, Cond.code yX10_makesBy cX10_makesBy 8 (some .long), Cond.fieldLink RX10 20 "RainTargetModel" "mood" "[I", Cond.methodLink RX10 167 yX10_ten, Cond.static yX10_ten, Cond.code yX10_ten cX10_ten 4 (some .long), Cond.constantLong RX10 70 (10), Cond.methodLink RX10 171 yX10_rest, Cond.static yX10_rest, Cond.code yX10_rest cX10_rest 2 (some .int), Cond.methodLink RX10 175 yX10_makesOf, Cond.instanceMethod yX10_makesOf, Cond.selects RX10 yX10_makesOf yX10_makesOf, Cond.code yX10_makesOf cX10_makesOf 3 (some .long), Cond.methodLink RX10 186 yX10_greater, Cond.static yX10_greater]
def wsX10_simple_r3 : List Cond := [Cond.code yX10_greater cX10_greater 4 (some .long), Cond.methodLink RX10 190 yX10_layWins, Cond.instanceMethod yX10_layWins, Cond.selects RX10 yX10_layWins yX10_layWins, Cond.code yX10_layWins cX10_layWins 6 none, Cond.methodLink RX10 194 yX10_winsBy, Cond.instanceMethod yX10_winsBy, Cond.selects RX10 yX10_winsBy yX10_winsBy, Cond.code yX10_winsBy cX10_winsBy 9 (some .long), Cond.methodLink RX10 179 yX10_winsOf, Cond.instanceMethod yX10_winsOf, Cond.selects RX10 yX10_winsOf yX10_winsOf, Cond.code yX10_winsOf cX10_winsOf 4 (some .long), Cond.methodLink RX10 214 yX10_firstAll, Cond.instanceMethod yX10_firstAll, Cond.selects RX10 yX10_firstAll yX10_firstAll, Cond.code yX10_firstAll cX10_firstAll 3 (some .int), Cond.fieldLink RX10 147 "RainTargetModel" "firstMany" "I", Cond.fieldLink RX10 38 "RainTargetModel" "first" "[I", Cond.methodLink RX10 230 yX10_rained, Cond.instanceMethod yX10_rained, Cond.selects RX10 yX10_rained yX10_rained, Cond.code yX10_rained cX10_rained 6 none, Cond.methodLink RX10 211 yX10_spendOf]
def wsX10_simple_r4 : List Cond := [Cond.instanceMethod yX10_spendOf, Cond.selects RX10 yX10_spendOf yX10_spendOf, Cond.code yX10_spendOf cX10_spendOf 5 (some .int), Cond.constantLong RX10 209 (1000), Cond.methodLink RX10 245 yX10_bentOf, Cond.instanceMethod yX10_bentOf, Cond.selects RX10 yX10_bentOf yX10_bentOf, Cond.code yX10_bentOf cX10_bentOf 4 (some .int), Cond.fieldLink RX10 23 "RainTargetModel" "par" "I", Cond.fieldLink RX10 26 "RainTargetModel" "bend" "I", Cond.methodLink RX10 251 yX10_targetNow, Cond.instanceMethod yX10_targetNow, Cond.selects RX10 yX10_targetNow yX10_targetNow, Cond.code yX10_targetNow cX10_targetNow 4 (some .int), Cond.methodLink RX10 248 yX10_worst, Cond.instanceMethod yX10_worst, Cond.selects RX10 yX10_worst yX10_worst, Cond.code yX10_worst cX10_worst 4 (some .int), Cond.fieldLink RX10 41 "RainTargetModel" "sorted" "[I"]
def wsX10_simple : List Cond := .code yX10_simple cX10_simple 9 (some .int) :: ((wsX10_simple_r1 ++ (wsX10_simple_r2 ++ (wsX10_simple_r3 ++ wsX10_simple_r4))) ++ wsX100)
def wsX10_match : List Cond := .code yX10_match cX10_match 4 (some .int) :: ([.fieldLink RX10 272 "RainTargetModel" "matches" "I", .fieldLink RX10 53 "RainTargetModel" "matchOvers" "[I", .fieldLink RX10 56 "RainTargetModel" "matchMen" "[I", .fieldLink RX10 59 "RainTargetModel" "matchRuns" "[I", .methodLink RX10 72 yX10_in, .static yX10_in, .initialized RX10, .code yX10_in cX10_in 3 (some .boolean)] ++ wsX100)
def wsX10_tried_r1 : List Cond := [Cond.fieldLink RX10 272 "RainTargetModel" "matches" "I", Cond.fieldLink RX10 53 "RainTargetModel" "matchOvers" "[I", Cond.fieldLink RX10 56 "RainTargetModel" "matchMen" "[I", Cond.fieldLink RX10 59 "RainTargetModel" "matchRuns" "[I", Cond.methodLink RX10 202 yX10_layOut, Cond.instanceMethod yX10_layOut, Cond.selects RX10 yX10_layOut yX10_layOut, Cond.initialized RX10, Cond.code yX10_layOut cX10_layOut 4 none, Cond.fieldLink RX10 159 "RainTargetModel" "isLaid" "Z", Cond.fieldLink RX10 7 "RainTargetModel" "overs" "I", Cond.fieldLink RX10 13 "RainTargetModel" "men" "I", Cond.fieldLink RX10 62 "RainTargetModel" "makes" "[J", Cond.fieldLink RX10 67 "RainTargetModel" "wins" "[J", Cond.fieldLink RX10 16 "RainTargetModel" "cases" "[I", Cond.methodLink RX10 183 yX10_makesBy, Cond.instanceMethod yX10_makesBy, Cond.selects RX10 yX10_makesBy yX10_makesBy, Cond.code yX10_makesBy cX10_makesBy 8 (some .long), Cond.fieldLink RX10 20 "RainTargetModel" "mood" "[I", Cond.methodLink RX10 167 yX10_ten, Cond.static yX10_ten, Cond.code yX10_ten cX10_ten 4 (some .long), Cond.constantLong RX10 70 (10)]
def wsX10_tried_r2 : List Cond := [Cond.methodLink RX10 171 yX10_rest, Cond.static yX10_rest, Cond.code yX10_rest cX10_rest 2 (some .int), Cond.methodLink RX10 175 yX10_makesOf, Cond.instanceMethod yX10_makesOf, Cond.selects RX10 yX10_makesOf yX10_makesOf, Cond.code yX10_makesOf cX10_makesOf 3 (some .long), Cond.methodLink RX10 186 yX10_greater, Cond.static yX10_greater, Cond.code yX10_greater cX10_greater 4 (some .long), Cond.methodLink RX10 190 yX10_layWins, Cond.instanceMethod yX10_layWins, Cond.selects RX10 yX10_layWins yX10_layWins, Cond.code yX10_layWins cX10_layWins 6 none, Cond.methodLink RX10 194 yX10_winsBy, Cond.instanceMethod yX10_winsBy, Cond.selects RX10 yX10_winsBy yX10_winsBy, Cond.code yX10_winsBy cX10_winsBy 9 (some .long), Cond.methodLink RX10 179 yX10_winsOf, Cond.instanceMethod yX10_winsOf, Cond.selects RX10 yX10_winsOf yX10_winsOf, Cond.code yX10_winsOf cX10_winsOf 4 (some .long), Cond.methodLink RX10 198 yX10_areIn, Cond.instanceMethod yX10_areIn]
def wsX10_tried_r3 : List Cond := [Cond.selects RX10 yX10_areIn yX10_areIn, Cond.code yX10_areIn cX10_areIn 3 (some .boolean), Cond.methodLink RX10 72 yX10_in, Cond.static yX10_in, Cond.code yX10_in cX10_in 3 (some .boolean)]
def wsX10_tried : List Cond := .code yX10_tried cX10_tried 4 (some .int) :: ((wsX10_tried_r1 ++ (wsX10_tried_r2 ++ wsX10_tried_r3)) ++ wsX100)
def wsX10_count_r1 : List Cond := [Cond.fieldLink RX10 156 "RainTargetModel" "events" "I", Cond.fieldLink RX10 7 "RainTargetModel" "overs" "I", Cond.fieldLink RX10 13 "RainTargetModel" "men" "I", Cond.fieldLink RX10 76 "RainTargetModel" "bytes" "I", Cond.fieldLink RX10 221 "RainTargetModel" "left" "I", Cond.fieldLink RX10 224 "RainTargetModel" "stand" "I", Cond.fieldLink RX10 227 "RainTargetModel" "runs" "I", Cond.fieldLink RX10 272 "RainTargetModel" "matches" "I", Cond.fieldLink RX10 29 "RainTargetModel" "line" "I", Cond.methodLink RX10 259 yX10_goTo, Cond.instanceMethod yX10_goTo, Cond.selects RX10 yX10_goTo yX10_goTo, Cond.initialized RX10, Cond.code yX10_goTo cX10_goTo 3 none, Cond.fieldLink RX10 44 "RainTargetModel" "kind" "[I", Cond.fieldLink RX10 50 "RainTargetModel" "outsOf" "[I", Cond.fieldLink RX10 47 "RainTargetModel" "runsOf" "[I", Cond.methodLink RX10 218 yX10_begin, Cond.instanceMethod yX10_begin, Cond.selects RX10 yX10_begin yX10_begin, Cond.code yX10_begin cX10_begin 1 none, Cond.fieldLink RX10 233 "RainTargetModel" "taken" "I", Cond.fieldLink RX10 236 "RainTargetModel" "lost" "I", Cond.fieldLink RX10 239 "RainTargetModel" "bentLost" "I"]
def wsX10_count_r2 : List Cond := [Cond.fieldLink RX10 242 "RainTargetModel" "chance" "I", Cond.methodLink RX10 202 yX10_layOut, Cond.instanceMethod yX10_layOut, Cond.selects RX10 yX10_layOut yX10_layOut, Cond.code yX10_layOut cX10_layOut 4 none, Cond.fieldLink RX10 159 "RainTargetModel" "isLaid" "Z", Cond.fieldLink RX10 62 "RainTargetModel" "makes" "[J", Cond.fieldLink RX10 67 "RainTargetModel" "wins" "[J", Cond.fieldLink RX10 16 "RainTargetModel" "cases" "[I", Cond.methodLink RX10 183 yX10_makesBy, Cond.instanceMethod yX10_makesBy, Cond.selects RX10 yX10_makesBy yX10_makesBy, Cond.code yX10_makesBy cX10_makesBy 8 (some .long), Cond.fieldLink RX10 20 "RainTargetModel" "mood" "[I", Cond.methodLink RX10 167 yX10_ten, Cond.static yX10_ten, Cond.code yX10_ten cX10_ten 4 (some .long), Cond.constantLong RX10 70 (10), Cond.methodLink RX10 171 yX10_rest, Cond.static yX10_rest, Cond.code yX10_rest cX10_rest 2 (some .int), Cond.methodLink RX10 175 yX10_makesOf, Cond.instanceMethod yX10_makesOf, Cond.selects RX10 yX10_makesOf yX10_makesOf]
def wsX10_count_r3 : List Cond := [Cond.code yX10_makesOf cX10_makesOf 3 (some .long), Cond.methodLink RX10 186 yX10_greater, Cond.static yX10_greater, Cond.code yX10_greater cX10_greater 4 (some .long), Cond.methodLink RX10 190 yX10_layWins, Cond.instanceMethod yX10_layWins, Cond.selects RX10 yX10_layWins yX10_layWins, Cond.code yX10_layWins cX10_layWins 6 none, Cond.methodLink RX10 194 yX10_winsBy, Cond.instanceMethod yX10_winsBy, Cond.selects RX10 yX10_winsBy yX10_winsBy, Cond.code yX10_winsBy cX10_winsBy 9 (some .long), Cond.methodLink RX10 179 yX10_winsOf, Cond.instanceMethod yX10_winsOf, Cond.selects RX10 yX10_winsOf yX10_winsOf, Cond.code yX10_winsOf cX10_winsOf 4 (some .long), Cond.methodLink RX10 214 yX10_firstAll, Cond.instanceMethod yX10_firstAll, Cond.selects RX10 yX10_firstAll yX10_firstAll, Cond.code yX10_firstAll cX10_firstAll 3 (some .int), Cond.fieldLink RX10 147 "RainTargetModel" "firstMany" "I", Cond.fieldLink RX10 38 "RainTargetModel" "first" "[I", Cond.methodLink RX10 230 yX10_rained, Cond.instanceMethod yX10_rained]
def wsX10_count_r4 : List Cond := [Cond.selects RX10 yX10_rained yX10_rained, Cond.code yX10_rained cX10_rained 6 none, Cond.methodLink RX10 211 yX10_spendOf, Cond.instanceMethod yX10_spendOf, Cond.selects RX10 yX10_spendOf yX10_spendOf, Cond.code yX10_spendOf cX10_spendOf 5 (some .int), Cond.constantLong RX10 209 (1000), Cond.methodLink RX10 245 yX10_bentOf, Cond.instanceMethod yX10_bentOf, Cond.selects RX10 yX10_bentOf yX10_bentOf, Cond.code yX10_bentOf cX10_bentOf 4 (some .int), Cond.fieldLink RX10 23 "RainTargetModel" "par" "I", Cond.fieldLink RX10 26 "RainTargetModel" "bend" "I"]
def wsX10_count : List Cond := .code yX10_count cX10_count 2 (some .int) :: ((wsX10_count_r1 ++ (wsX10_count_r2 ++ (wsX10_count_r3 ++ wsX10_count_r4))) ++ wsX100)
def wsJ9_abs_0f7a4 : List Cond := .code yJ9_abs_0f7a4 cJ9_abs_0f7a4 1 (some .int) :: ([])
def wsJ9_max_7cf53 : List Cond := .code yJ9_max_7cf53 cJ9_max_7cf53 2 (some .int) :: ([])
def wsJ9_max_f86c9 : List Cond := .code yJ9_max_f86c9 cJ9_max_f86c9 4 (some .long) :: ([])
def wsJ9_min_7cf53 : List Cond := .code yJ9_min_7cf53 cJ9_min_7cf53 2 (some .int) :: ([])
def wsL_law_r1 : List Cond := [Cond.classLink RL 7 RX9, Cond.instantiable RX9 9, Cond.initialized RX9, Cond.classLink RL 10 RX10, Cond.instantiable RX10 40, Cond.initialized RX10, Cond.constantLong RL 13 (4294967295), Cond.methodLink RL 9 yX9_init, Cond.instanceMethod yX9_init, Cond.code yX9_init cX9_init 1 none, Cond.methodLink RX9 3 objectInit, Cond.instanceMethod objectInit, Cond.code objectInit ⟨#[0xb1]⟩ 1 none, Cond.classLink RX9 9 RX7, Cond.instantiable RX7 2, Cond.initialized RX7, Cond.fieldLink RX9 12 "RainTarget" "text" "LRainTarget$Text;", Cond.classLink RX9 16 RX4, Cond.instantiable RX4 7, Cond.initialized RX4, Cond.fieldLink RX9 21 "RainTarget" "reader" "LRainTarget$Reader;", Cond.classLink RX9 25 RX6, Cond.instantiable RX6 7, Cond.initialized RX6]
def wsL_law_r2 : List Cond := [Cond.fieldLink RX9 28 "RainTarget" "settings" "LRainTarget$Settings;", Cond.classLink RX9 32 RX3, Cond.instantiable RX3 2, Cond.initialized RX3, Cond.fieldLink RX9 35 "RainTarget" "moods" "LRainTarget$Moods;", Cond.classLink RX9 39 RX0, Cond.instantiable RX0 3, Cond.initialized RX0, Cond.fieldLink RX9 44 "RainTarget" "batting" "LRainTarget$Batting;", Cond.classLink RX9 48 RX1, Cond.instantiable RX1 3, Cond.initialized RX1, Cond.fieldLink RX9 51 "RainTarget" "first" "LRainTarget$FirstSide;", Cond.classLink RX9 55 RX5, Cond.instantiable RX5 5, Cond.initialized RX5, Cond.fieldLink RX9 58 "RainTarget" "second" "LRainTarget$SecondSide;", Cond.classLink RX9 62 RX8, Cond.instantiable RX8 8, Cond.initialized RX8, Cond.fieldLink RX9 67 "RainTarget" "umpire" "LRainTarget$Umpire;", Cond.classLink RX9 71 RX2, Cond.instantiable RX2 2, Cond.initialized RX2]
def wsL_law_r3 : List Cond := [Cond.fieldLink RX9 74 "RainTarget" "matches" "LRainTarget$Matches;", Cond.instanceMethod yX7_init, Cond.code yX7_init cX7_init 1 none, Cond.methodLink RX7 3 objectInit, Cond.arrayClass .int, Cond.fieldLink RX7 9 "RainTarget$Text" "bytes" "[I", Cond.instanceMethod yX4_init, Cond.code yX4_init cX4_init 2 none, Cond.methodLink RX4 3 objectInit, Cond.fieldLink RX4 9 "RainTarget$Reader" "words" "[I", Cond.fieldLink RX4 15 "RainTarget$Reader" "numbers" "[I", Cond.fieldLink RX4 18 "RainTarget$Reader" "text" "LRainTarget$Text;", Cond.instanceMethod yX6_init, Cond.code yX6_init cX6_init 1 none, Cond.methodLink RX6 1 objectInit, Cond.fieldLink RX6 7 "RainTarget$Settings" "overs" "I", Cond.fieldLink RX6 13 "RainTarget$Settings" "men" "I", Cond.fieldLink RX6 16 "RainTarget$Settings" "par" "I", Cond.fieldLink RX6 19 "RainTarget$Settings" "bend" "I", Cond.fieldLink RX6 22 "RainTarget$Settings" "cloudTenths" "I", Cond.fieldLink RX6 25 "RainTarget$Settings" "cloudOvers" "I", Cond.fieldLink RX6 28 "RainTarget$Settings" "line" "I", Cond.instanceMethod yX3_init, Cond.code yX3_init cX3_init 1 none]
def wsL_law_r4 : List Cond := [Cond.methodLink RX3 3 objectInit, Cond.fieldLink RX3 9 "RainTarget$Moods" "sizes" "[I", Cond.fieldLink RX3 15 "RainTarget$Moods" "parts" "[I", Cond.methodLink RX3 18 yX3_add, Cond.instanceMethod yX3_add, Cond.selects RX3 yX3_add yX3_add, Cond.code yX3_add cX3_add 6 none, Cond.static yX9_within, Cond.code yX9_within cX9_within 3 (some .boolean), Cond.instanceMethod yX0_init, Cond.code yX0_init cX0_init 2 none, Cond.methodLink RX0 3 objectInit, Cond.arrayClass .long, Cond.fieldLink RX0 9 "RainTarget$Batting" "means" "[J", Cond.fieldLink RX0 15 "RainTarget$Batting" "chances" "[J", Cond.fieldLink RX0 18 "RainTarget$Batting" "moods" "LRainTarget$Moods;", Cond.instanceMethod yX1_init, Cond.code yX1_init cX1_init 1 none, Cond.methodLink RX1 3 objectInit, Cond.fieldLink RX1 9 "RainTarget$FirstSide" "overs" "[I", Cond.instanceMethod yX5_init, Cond.code yX5_init cX5_init 1 none, Cond.methodLink RX5 3 objectInit, Cond.fieldLink RX5 11 "RainTarget$SecondSide" "events" "[I"]
def wsL_law_r5 : List Cond := [Cond.instanceMethod yX8_init, Cond.code yX8_init cX8_init 4 none, Cond.methodLink RX8 3 objectInit, Cond.fieldLink RX8 9 "RainTarget$Umpire" "keptOdds" "[I", Cond.fieldLink RX8 15 "RainTarget$Umpire" "settings" "LRainTarget$Settings;", Cond.fieldLink RX8 19 "RainTarget$Umpire" "batting" "LRainTarget$Batting;", Cond.fieldLink RX8 23 "RainTarget$Umpire" "first" "LRainTarget$FirstSide;", Cond.instanceMethod yX2_init, Cond.code yX2_init cX2_init 1 none, Cond.methodLink RX2 3 objectInit, Cond.fieldLink RX2 11 "RainTarget$Matches" "parts" "[I", Cond.instanceMethod yX0_learn, Cond.selects RX0 yX0_learn yX0_learn, Cond.code yX0_learn cX0_learn 6 none, Cond.methodLink RX0 32 Lib.MathLoose.max_long.x, Cond.static Lib.MathLoose.max_long.x, Cond.initialized "java/lang/Math", Cond.code Lib.MathLoose.max_long.x Lib.MathLoose.max_long.code 4 (some .long), Cond.methodLink RX0 22 yJ7_fill_d0a16, Cond.static yJ7_fill_d0a16, Cond.initialized RJ7, Cond.code yJ7_fill_d0a16 cJ7_fill_d0a16 5 none, Cond.methodLink RX0 28 yX0_meanIn, Cond.instanceMethod yX0_meanIn]
def wsL_law_r6 : List Cond := [Cond.selects RX0 yX0_meanIn yX0_meanIn, Cond.code yX0_meanIn cX0_meanIn 11 (some .long), Cond.instanceMethod yX3_size, Cond.selects RX3 yX3_size yX3_size, Cond.code yX3_size cX3_size 2 (some .int), Cond.instanceMethod yX3_part, Cond.selects RX3 yX3_part yX3_part, Cond.code yX3_part cX3_part 5 (some .int), Cond.static yX9_power, Cond.code yX9_power cX9_power 1 (some .long), Cond.fieldLink RX9 259 "RainTarget" "TEN" "[J", Cond.methodLink RX9 85 yX9_within, Cond.methodLink RX0 56 yX0_mean, Cond.instanceMethod yX0_mean, Cond.selects RX0 yX0_mean yX0_mean, Cond.code yX0_mean cX0_mean 3 (some .long), Cond.instanceMethod yX5_begin, Cond.selects RX5 yX5_begin yX5_begin, Cond.code yX5_begin cX5_begin 2 none, Cond.fieldLink RX5 15 "RainTarget$SecondSide" "size" "I", Cond.fieldLink RX5 24 "RainTarget$SecondSide" "overs" "I", Cond.fieldLink RX5 28 "RainTarget$SecondSide" "men" "I", Cond.fieldLink RX5 29 "RainTarget$SecondSide" "runs" "I", Cond.methodLink RL 12 yX10_init]
def wsL_law_r7 : List Cond := [Cond.instanceMethod yX10_init, Cond.code yX10_init cX10_init 1 none, Cond.methodLink RX10 1 objectInit, Cond.fieldLink RX10 7 "RainTargetModel" "overs" "I", Cond.fieldLink RX10 13 "RainTargetModel" "men" "I", Cond.fieldLink RX10 16 "RainTargetModel" "cases" "[I", Cond.fieldLink RX10 20 "RainTargetModel" "mood" "[I", Cond.fieldLink RX10 23 "RainTargetModel" "par" "I", Cond.fieldLink RX10 26 "RainTargetModel" "bend" "I", Cond.fieldLink RX10 29 "RainTargetModel" "line" "I", Cond.fieldLink RX10 32 "RainTargetModel" "text" "[I", Cond.fieldLink RX10 35 "RainTargetModel" "read" "[I", Cond.fieldLink RX10 38 "RainTargetModel" "first" "[I", Cond.fieldLink RX10 41 "RainTargetModel" "sorted" "[I", Cond.fieldLink RX10 44 "RainTargetModel" "kind" "[I", Cond.fieldLink RX10 47 "RainTargetModel" "runsOf" "[I", Cond.fieldLink RX10 50 "RainTargetModel" "outsOf" "[I", Cond.fieldLink RX10 53 "RainTargetModel" "matchOvers" "[I", Cond.fieldLink RX10 56 "RainTargetModel" "matchMen" "[I", Cond.fieldLink RX10 59 "RainTargetModel" "matchRuns" "[I", Cond.fieldLink RX10 62 "RainTargetModel" "makes" "[J", Cond.constant RX10 66 (143000), Cond.fieldLink RX10 67 "RainTargetModel" "wins" "[J", Cond.methodLink RL 15 yX9_write]
def wsL_law_r8 : List Cond := [Cond.instanceMethod yX9_write, Cond.selects RX9 yX9_write yX9_write, Cond.code yX9_write cX9_write 4 (some .int), Cond.instanceMethod yX7_append, Cond.selects RX7 yX7_append yX7_append, Cond.code yX7_append cX7_append 5 none, Cond.fieldLink RX7 15 "RainTarget$Text" "length" "I", Cond.constantLong RX7 23 (255), Cond.methodLink RL 19 yX10_write, Cond.instanceMethod yX10_write, Cond.selects RX10 yX10_write yX10_write, Cond.code yX10_write cX10_write 5 (some .int), Cond.fieldLink RX10 76 "RainTargetModel" "bytes" "I", Cond.constantLong RX10 79 (255), Cond.methodLink RX10 72 yX10_in, Cond.static yX10_in, Cond.code yX10_in cX10_in 3 (some .boolean), Cond.methodLink RL 20 yX9_erase, Cond.instanceMethod yX9_erase, Cond.selects RX9 yX9_erase yX9_erase, Cond.code yX9_erase cX9_erase 2 (some .int), Cond.methodLink RL 24 yX10_erase, Cond.instanceMethod yX10_erase, Cond.selects RX10 yX10_erase yX10_erase]
def wsL_law_r9 : List Cond := [Cond.code yX10_erase cX10_erase 2 (some .int), Cond.methodLink RL 25 yX9_fault, Cond.instanceMethod yX9_fault, Cond.selects RX9 yX9_fault yX9_fault, Cond.code yX9_fault cX9_fault 1 (some .int), Cond.instanceMethod yX4_read, Cond.selects RX4 yX4_read yX4_read, Cond.code yX4_read cX4_read 2 (some .int), Cond.fieldLink RX4 22 "RainTarget$Reader" "lines" "I", Cond.fieldLink RX4 26 "RainTarget$Reader" "end" "I", Cond.fieldLink RX4 33 "RainTarget$Reader" "start" "I", Cond.fieldLink RX4 39 "RainTarget$Reader" "kind" "I", Cond.methodLink RX4 29 yX4_readLine, Cond.instanceMethod yX4_readLine, Cond.selects RX4 yX4_readLine yX4_readLine, Cond.code yX4_readLine cX4_readLine 3 (some .boolean), Cond.methodLink RX4 36 yX4_step, Cond.instanceMethod yX4_step, Cond.selects RX4 yX4_step yX4_step, Cond.code yX4_step cX4_step 2 none, Cond.instanceMethod yX7_at, Cond.selects RX7 yX7_at yX7_at, Cond.code yX7_at cX7_at 2 (some .int), Cond.methodLink RX4 73 yX4_kindOf]
def wsL_law_r10 : List Cond := [Cond.static yX4_kindOf, Cond.code yX4_kindOf cX4_kindOf 1 (some .int), Cond.methodLink RX4 50 yX4_spelled, Cond.instanceMethod yX4_spelled, Cond.selects RX4 yX4_spelled yX4_spelled, Cond.code yX4_spelled cX4_spelled 1 (some .int), Cond.methodLink RX4 78 yX4_spells, Cond.instanceMethod yX4_spells, Cond.selects RX4 yX4_spells yX4_spells, Cond.code yX4_spells cX4_spells 3 (some .boolean), Cond.methodLink RX4 92 yJ0_length_8abf5, Cond.instanceMethod yJ0_length_8abf5, Cond.selects RJ0 yJ0_length_8abf5 yJ0_length_8abf5, Cond.initialized RJ0, Cond.code yJ0_length_8abf5 cJ0_length_8abf5 1 (some .int), Cond.fieldLink RJ0 9 "java/lang/String" "value" "[B", Cond.methodLink RJ0 335 yJ0_coder_7d493, Cond.instanceMethod yJ0_coder_7d493, Cond.selects RJ0 yJ0_coder_7d493 yJ0_coder_7d493, Cond.code yJ0_coder_7d493 cJ0_coder_7d493 1 (some .byte), Cond.fieldLink RJ0 38 "java/lang/String" "COMPACT_STRINGS" "Z", Cond.fieldLink RJ0 15 "java/lang/String" "coder" "B", Cond.methodLink RX4 96 yJ0_charAt_5068e, Cond.instanceMethod yJ0_charAt_5068e]
def wsL_law_r11 : List Cond := [Cond.selects RJ0 yJ0_charAt_5068e yJ0_charAt_5068e, Cond.code yJ0_charAt_5068e cJ0_charAt_5068e 2 (some .char), Cond.methodLink RJ0 492 yJ0_isLatin1_aae02, Cond.instanceMethod yJ0_isLatin1_aae02, Cond.selects RJ0 yJ0_isLatin1_aae02 yJ0_isLatin1_aae02, Cond.code yJ0_isLatin1_aae02 cJ0_isLatin1_aae02 1 (some .boolean), Cond.methodLink RJ0 495 yJ1_charAt_3b067, Cond.static yJ1_charAt_3b067, Cond.initialized RJ1, Cond.code yJ1_charAt_3b067 cJ1_charAt_3b067 2 (some .char), Cond.methodLink RJ1 9 yJ0_checkIndex_df160, Cond.static yJ0_checkIndex_df160, Cond.code yJ0_checkIndex_df160 cJ0_checkIndex_df160 2 none, Cond.fieldLink RJ0 1053 "jdk/internal/util/Preconditions" "SIOOBE_FORMATTER" "Ljava/util/function/BiFunction;", Cond.methodLink RJ0 1059 yJ3_checkIndex_8e157, Cond.static yJ3_checkIndex_8e157, Cond.initialized RJ3, Cond.code yJ3_checkIndex_8e157 cJ3_checkIndex_8e157 3 (some .int), Cond.methodLink RJ0 498 yJ2_charAt_3b067, Cond.static yJ2_charAt_3b067, Cond.initialized RJ2, Cond.code yJ2_charAt_3b067 cJ2_charAt_3b067 2 (some .char), Cond.methodLink RJ2 67 yJ2_checkIndex_2214a, Cond.static yJ2_checkIndex_2214a]
def wsL_law_r12 : List Cond := [Cond.code yJ2_checkIndex_2214a cJ2_checkIndex_2214a 2 none, Cond.methodLink RJ2 48 yJ2_length_9d52b, Cond.static yJ2_length_9d52b, Cond.code yJ2_length_9d52b cJ2_length_9d52b 1 (some .int), Cond.methodLink RJ2 414 yJ0_checkIndex_df160, Cond.methodLink RJ2 71 yJ2_getChar_3b067, Cond.static yJ2_getChar_3b067, Cond.code yJ2_getChar_3b067 cJ2_getChar_3b067 2 (some .char), Cond.fieldLink RJ2 44 "java/lang/StringUTF16" "$assertionsDisabled" "Z", Cond.fieldLink RJ2 59 "java/lang/StringUTF16" "HI_BYTE_SHIFT" "I", Cond.fieldLink RJ2 63 "java/lang/StringUTF16" "LO_BYTE_SHIFT" "I", Cond.methodLink RX4 54 yX4_readNumber, Cond.instanceMethod yX4_readNumber, Cond.selects RX4 yX4_readNumber yX4_readNumber, Cond.code yX4_readNumber cX4_readNumber 7 (some .boolean), Cond.methodLink RX4 58 yX4_readMood, Cond.instanceMethod yX4_readMood, Cond.selects RX4 yX4_readMood yX4_readMood, Cond.code yX4_readMood cX4_readMood 6 (some .boolean), Cond.methodLink RX4 61 yX4_number, Cond.instanceMethod yX4_number, Cond.selects RX4 yX4_number yX4_number, Cond.code yX4_number cX4_number 3 (some .int), Cond.methodLink RL 28 yX10_fault]
def wsL_law_r13 : List Cond := [Cond.instanceMethod yX10_fault, Cond.selects RX10 yX10_fault yX10_fault, Cond.code yX10_fault cX10_fault 1 (some .int), Cond.fieldLink RX10 109 "RainTargetModel" "faultAt" "I", Cond.methodLink RX10 144 yX10_isRead, Cond.instanceMethod yX10_isRead, Cond.selects RX10 yX10_isRead yX10_isRead, Cond.code yX10_isRead cX10_isRead 2 (some .boolean), Cond.fieldLink RX10 81 "RainTargetModel" "position" "I", Cond.fieldLink RX10 138 "RainTargetModel" "readMany" "I", Cond.fieldLink RX10 95 "RainTargetModel" "token" "J", Cond.constantLong RX10 107 (-3), Cond.constantLong RX10 93 (-2), Cond.methodLink RX10 141 yX10_isLine, Cond.instanceMethod yX10_isLine, Cond.selects RX10 yX10_isLine yX10_isLine, Cond.code yX10_isLine cX10_isLine 2 (some .boolean), Cond.constantLong RX10 122 (8408791), Cond.constantLong RX10 124 (9626), Cond.constantLong RX10 126 (267223), Cond.constantLong RX10 128 (11709), Cond.constantLong RX10 130 (1842025), Cond.constantLong RX10 132 (243140), Cond.methodLink RX10 112 yX10_nextToken]
def wsL_law_r14 : List Cond := [Cond.instanceMethod yX10_nextToken, Cond.selects RX10 yX10_nextToken yX10_nextToken, Cond.code yX10_nextToken cX10_nextToken 1 none, Cond.fieldLink RX10 84 "RainTargetModel" "tokenAt" "I", Cond.fieldLink RX10 87 "RainTargetModel" "digits" "I", Cond.fieldLink RX10 90 "RainTargetModel" "number" "I", Cond.constantLong RX10 99 (27), Cond.constantLong RX10 101 (96), Cond.constantLong RX10 103 (-4), Cond.constantLong RX10 105 (-1), Cond.methodLink RX10 119 yX10_isNumber, Cond.instanceMethod yX10_isNumber, Cond.selects RX10 yX10_isNumber yX10_isNumber, Cond.code yX10_isNumber cX10_isNumber 4 (some .boolean), Cond.methodLink RX10 115 yX10_fails, Cond.instanceMethod yX10_fails, Cond.selects RX10 yX10_fails yX10_fails, Cond.code yX10_fails cX10_fails 1 (some .boolean), Cond.methodLink RX10 134 yX10_isMood, Cond.instanceMethod yX10_isMood, Cond.selects RX10 yX10_isMood yX10_isMood, Cond.code yX10_isMood cX10_isMood 5 (some .boolean), Cond.methodLink RL 29 yX9_game, Cond.instanceMethod yX9_game]
def wsL_law_r15 : List Cond := [Cond.selects RX9 yX9_game yX9_game, Cond.code yX9_game cX9_game 2 (some .int), Cond.methodLink RX9 104 yX9_tell, Cond.instanceMethod yX9_tell, Cond.selects RX9 yX9_tell yX9_tell, Cond.code yX9_tell cX9_tell 3 none, Cond.instanceMethod yX4_word, Cond.selects RX4 yX4_word yX4_word, Cond.code yX4_word cX4_word 2 (some .int), Cond.methodLink RX9 244 yX9_tellMood, Cond.instanceMethod yX9_tellMood, Cond.selects RX9 yX9_tellMood yX9_tellMood, Cond.code yX9_tellMood cX9_tellMood 7 none, Cond.instanceMethod yX3_forget, Cond.selects RX3 yX3_forget yX3_forget, Cond.code yX3_forget cX3_forget 2 none, Cond.instanceMethod yX4_has, Cond.selects RX4 yX4_has yX4_has, Cond.code yX4_has cX4_has 3 (some .boolean), Cond.methodLink RX4 42 yX4_word, Cond.instanceMethod yX1_begin, Cond.selects RX1 yX1_begin yX1_begin, Cond.code yX1_begin cX1_begin 1 none, Cond.fieldLink RX1 21 "RainTarget$FirstSide" "told" "I"]
def wsL_law_r16 : List Cond := [Cond.fieldLink RX1 25 "RainTarget$FirstSide" "total" "I", Cond.methodLink RX1 15 yJ7_fill_53178, Cond.static yJ7_fill_53178, Cond.code yJ7_fill_53178 cJ7_fill_53178 4 none, Cond.methodLink RL 32 yX10_game, Cond.instanceMethod yX10_game, Cond.selects RX10 yX10_game yX10_game, Cond.code yX10_game cX10_game 2 (some .int), Cond.methodLink RX10 163 yX10_doLine, Cond.instanceMethod yX10_doLine, Cond.selects RX10 yX10_doLine yX10_doLine, Cond.code yX10_doLine cX10_doLine 5 none, Cond.fieldLink RX10 147 "RainTargetModel" "firstMany" "I", Cond.fieldLink RX10 150 "RainTargetModel" "cloudTenths" "I", Cond.fieldLink RX10 153 "RainTargetModel" "cloudOvers" "I", Cond.fieldLink RX10 156 "RainTargetModel" "events" "I", Cond.fieldLink RX10 159 "RainTargetModel" "isLaid" "Z", Cond.methodLink RL 33 yX9_mood, Cond.instanceMethod yX9_mood, Cond.selects RX9 yX9_mood yX9_mood, Cond.code yX9_mood cX9_mood 4 (some .int), Cond.methodLink RL 37 yX10_mood, Cond.instanceMethod yX10_mood, Cond.selects RX10 yX10_mood yX10_mood]
def wsL_law_r17 : List Cond := [Cond.code yX10_mood cX10_mood 4 (some .int), Cond.methodLink RL 38 yX9_makes, Cond.instanceMethod yX9_makes, Cond.selects RX9 yX9_makes yX9_makes, Cond.code yX9_makes cX9_makes 4 (some .long), Cond.constantLong RX9 126 (-3), Cond.methodLink RX9 122 yX9_isLeft, Cond.instanceMethod yX9_isLeft, Cond.selects RX9 yX9_isLeft yX9_isLeft, Cond.code yX9_isLeft cX9_isLeft 3 (some .boolean), Cond.methodLink RX9 132 yX9_power, Cond.methodLink RX9 136 yX9_lowest, Cond.static yX9_lowest, Cond.code yX9_lowest cX9_lowest 7 (some .long), Cond.methodLink RX9 267 yX9_commonDivisor, Cond.static yX9_commonDivisor, Cond.code yX9_commonDivisor cX9_commonDivisor 11 (some .long), Cond.methodLink RX9 263 yX9_cut, Cond.static yX9_cut, Cond.code yX9_cut cX9_cut 4 (some .long), Cond.methodLink RL 42 yX10_makes, Cond.instanceMethod yX10_makes, Cond.selects RX10 yX10_makes yX10_makes, Cond.code yX10_makes cX10_makes 4 (some .long)]
def wsL_law_r18 : List Cond := [Cond.methodLink RX10 198 yX10_areIn, Cond.instanceMethod yX10_areIn, Cond.selects RX10 yX10_areIn yX10_areIn, Cond.code yX10_areIn cX10_areIn 3 (some .boolean), Cond.methodLink RX10 202 yX10_layOut, Cond.instanceMethod yX10_layOut, Cond.selects RX10 yX10_layOut yX10_layOut, Cond.code yX10_layOut cX10_layOut 4 none, Cond.methodLink RX10 183 yX10_makesBy, Cond.instanceMethod yX10_makesBy, Cond.selects RX10 yX10_makesBy yX10_makesBy, Cond.code yX10_makesBy cX10_makesBy 8 (some .long), Cond.methodLink RX10 167 yX10_ten, Cond.static yX10_ten, Cond.code yX10_ten cX10_ten 4 (some .long), Cond.constantLong RX10 70 (10), Cond.methodLink RX10 171 yX10_rest, Cond.static yX10_rest, Cond.code yX10_rest cX10_rest 2 (some .int), Cond.methodLink RX10 175 yX10_makesOf, Cond.instanceMethod yX10_makesOf, Cond.selects RX10 yX10_makesOf yX10_makesOf, Cond.code yX10_makesOf cX10_makesOf 3 (some .long), Cond.methodLink RX10 186 yX10_greater]
def wsL_law_r19 : List Cond := [Cond.static yX10_greater, Cond.code yX10_greater cX10_greater 4 (some .long), Cond.methodLink RX10 190 yX10_layWins, Cond.instanceMethod yX10_layWins, Cond.selects RX10 yX10_layWins yX10_layWins, Cond.code yX10_layWins cX10_layWins 6 none, Cond.methodLink RX10 194 yX10_winsBy, Cond.instanceMethod yX10_winsBy, Cond.selects RX10 yX10_winsBy yX10_winsBy, Cond.code yX10_winsBy cX10_winsBy 9 (some .long), Cond.methodLink RX10 179 yX10_winsOf, Cond.instanceMethod yX10_winsOf, Cond.selects RX10 yX10_winsOf yX10_winsOf, Cond.code yX10_winsOf cX10_winsOf 4 (some .long), Cond.methodLink RX10 205 yX10_partOf, Cond.static yX10_partOf, Cond.code yX10_partOf cX10_partOf 11 (some .long), Cond.methodLink RL 43 yX9_wins, Cond.instanceMethod yX9_wins, Cond.selects RX9 yX9_wins yX9_wins, Cond.code yX9_wins cX9_wins 5 (some .long), Cond.instanceMethod yX0_chance, Cond.selects RX0 yX0_chance yX0_chance, Cond.code yX0_chance cX0_chance 8 (some .long)]
def wsL_law_r20 : List Cond := [Cond.methodLink RX0 60 yX0_chanceIn, Cond.instanceMethod yX0_chanceIn, Cond.selects RX0 yX0_chanceIn yX0_chanceIn, Cond.code yX0_chanceIn cX0_chanceIn 9 (some .long), Cond.methodLink RX0 64 yX0_chance, Cond.methodLink RL 47 yX10_wins, Cond.instanceMethod yX10_wins, Cond.selects RX10 yX10_wins yX10_wins, Cond.code yX10_wins cX10_wins 5 (some .long), Cond.methodLink RL 48 yX9_best, Cond.instanceMethod yX9_best, Cond.selects RX9 yX9_best yX9_best, Cond.code yX9_best cX9_best 4 (some .int), Cond.instanceMethod yX0_moodForMean, Cond.selects RX0 yX0_moodForMean yX0_moodForMean, Cond.code yX0_moodForMean cX0_moodForMean 4 (some .int), Cond.instanceMethod yX0_moodForChance, Cond.selects RX0 yX0_moodForChance yX0_moodForChance, Cond.code yX0_moodForChance cX0_moodForChance 5 (some .int), Cond.methodLink RL 51 yX10_best, Cond.instanceMethod yX10_best, Cond.selects RX10 yX10_best yX10_best, Cond.code yX10_best cX10_best 5 (some .int), Cond.methodLink RL 52 yX9_spend]
def wsL_law_r21 : List Cond := [Cond.instanceMethod yX9_spend, Cond.selects RX9 yX9_spend yX9_spend, Cond.code yX9_spend cX9_spend 3 (some .int), Cond.instanceMethod yX0_share, Cond.selects RX0 yX0_share yX0_share, Cond.code yX0_share cX0_share 6 (some .int), Cond.constantLong RX0 73 (1000), Cond.methodLink RL 56 yX10_spend, Cond.instanceMethod yX10_spend, Cond.selects RX10 yX10_spend yX10_spend, Cond.code yX10_spend cX10_spend 3 (some .int), Cond.methodLink RX10 211 yX10_spendOf, Cond.instanceMethod yX10_spendOf, Cond.selects RX10 yX10_spendOf yX10_spendOf, Cond.code yX10_spendOf cX10_spendOf 5 (some .int), Cond.constantLong RX10 209 (1000), Cond.methodLink RL 57 yX9_bat, Cond.instanceMethod yX9_bat, Cond.selects RX9 yX9_bat yX9_bat, Cond.code yX9_bat cX9_bat 2 (some .int), Cond.instanceMethod yX1_add, Cond.selects RX1 yX1_add yX1_add, Cond.code yX1_add cX1_add 2 none, Cond.methodLink RL 61 yX10_bat]
def wsL_law_r22 : List Cond := [Cond.instanceMethod yX10_bat, Cond.selects RX10 yX10_bat yX10_bat, Cond.code yX10_bat cX10_bat 2 (some .int), Cond.methodLink RL 62 yX9_anew, Cond.instanceMethod yX9_anew, Cond.selects RX9 yX9_anew yX9_anew, Cond.code yX9_anew cX9_anew 2 (some .int), Cond.methodLink RL 65 yX10_anew, Cond.instanceMethod yX10_anew, Cond.selects RX10 yX10_anew yX10_anew, Cond.code yX10_anew cX10_anew 2 (some .int), Cond.methodLink RX10 214 yX10_firstAll, Cond.instanceMethod yX10_firstAll, Cond.selects RX10 yX10_firstAll yX10_firstAll, Cond.code yX10_firstAll cX10_firstAll 3 (some .int), Cond.methodLink RL 66 yX9_play, Cond.instanceMethod yX9_play, Cond.selects RX9 yX9_play yX9_play, Cond.code yX9_play cX9_play 3 (some .int), Cond.instanceMethod yX5_isAtEnd, Cond.selects RX5 yX5_isAtEnd yX5_isAtEnd, Cond.code yX5_isAtEnd cX5_isAtEnd 1 (some .boolean), Cond.instanceMethod yX5_addOver, Cond.selects RX5 yX5_addOver yX5_addOver]
def wsL_law_r23 : List Cond := [Cond.code yX5_addOver cX5_addOver 3 none, Cond.methodLink RX5 36 Lib.Math.max.name, Cond.static Lib.Math.max.name, Cond.code Lib.Math.max.name Lib.Math.max.code 2 (some .int), Cond.methodLink RX5 32 yX5_addEvent, Cond.instanceMethod yX5_addEvent, Cond.selects RX5 yX5_addEvent yX5_addEvent, Cond.code yX5_addEvent cX5_addEvent 5 none, Cond.methodLink RL 69 yX10_play, Cond.instanceMethod yX10_play, Cond.selects RX10 yX10_play yX10_play, Cond.code yX10_play cX10_play 3 (some .int), Cond.fieldLink RX10 221 "RainTargetModel" "left" "I", Cond.fieldLink RX10 224 "RainTargetModel" "stand" "I", Cond.fieldLink RX10 227 "RainTargetModel" "runs" "I", Cond.methodLink RX10 259 yX10_goTo, Cond.instanceMethod yX10_goTo, Cond.selects RX10 yX10_goTo yX10_goTo, Cond.code yX10_goTo cX10_goTo 3 none, Cond.methodLink RX10 218 yX10_begin, Cond.instanceMethod yX10_begin, Cond.selects RX10 yX10_begin yX10_begin, Cond.code yX10_begin cX10_begin 1 none, Cond.fieldLink RX10 233 "RainTargetModel" "taken" "I"]
def wsL_law_r24 : List Cond := [Cond.fieldLink RX10 236 "RainTargetModel" "lost" "I", Cond.fieldLink RX10 239 "RainTargetModel" "bentLost" "I", Cond.fieldLink RX10 242 "RainTargetModel" "chance" "I", Cond.methodLink RX10 230 yX10_rained, Cond.instanceMethod yX10_rained, Cond.selects RX10 yX10_rained yX10_rained, Cond.code yX10_rained cX10_rained 6 none, Cond.methodLink RX10 245 yX10_bentOf, Cond.instanceMethod yX10_bentOf, Cond.selects RX10 yX10_bentOf yX10_bentOf, Cond.code yX10_bentOf cX10_bentOf 4 (some .int), Cond.methodLink RL 70 yX9_rain, Cond.instanceMethod yX9_rain, Cond.selects RX9 yX9_rain yX9_rain, Cond.code yX9_rain cX9_rain 2 (some .int), Cond.instanceMethod yX5_addRain, Cond.selects RX5 yX5_addRain yX5_addRain, Cond.code yX5_addRain cX5_addRain 2 none, Cond.methodLink RL 73 yX10_rain, Cond.instanceMethod yX10_rain, Cond.selects RX10 yX10_rain yX10_rain, Cond.code yX10_rain cX10_rain 2 (some .int), Cond.methodLink RL 74 yX9_event, Cond.instanceMethod yX9_event]
def wsL_law_r25 : List Cond := [Cond.selects RX9 yX9_event yX9_event, Cond.code yX9_event cX9_event 3 (some .int), Cond.instanceMethod yX5_part, Cond.selects RX5 yX5_part yX5_part, Cond.code yX5_part cX5_part 3 (some .int), Cond.methodLink RL 77 yX10_event, Cond.instanceMethod yX10_event, Cond.selects RX10 yX10_event yX10_event, Cond.code yX10_event cX10_event 3 (some .int), Cond.methodLink RL 78 yX9_target, Cond.instanceMethod yX9_target, Cond.selects RX9 yX9_target yX9_target, Cond.code yX9_target cX9_target 2 (some .int), Cond.methodLink RX9 186 yX9_isRule, Cond.static yX9_isRule, Cond.code yX9_isRule cX9_isRule 1 (some .boolean), Cond.instanceMethod yX8_behind, Cond.selects RX8 yX8_behind yX8_behind, Cond.code yX8_behind cX8_behind 5 (some .int), Cond.methodLink RX8 27 yX8_begin, Cond.instanceMethod yX8_begin, Cond.selects RX8 yX8_begin yX8_begin, Cond.code yX8_begin cX8_begin 2 none, Cond.fieldLink RX8 67 "RainTarget$Umpire" "rule" "I"]
def wsL_law_r26 : List Cond := [Cond.fieldLink RX8 70 "RainTarget$Umpire" "taken" "I", Cond.fieldLink RX8 73 "RainTarget$Umpire" "lost" "I", Cond.fieldLink RX8 81 "RainTarget$Umpire" "kept" "I", Cond.methodLink RX8 37 yX8_hear, Cond.instanceMethod yX8_hear, Cond.selects RX8 yX8_hear yX8_hear, Cond.code yX8_hear cX8_hear 5 none, Cond.methodLink RX8 90 yX8_bentShare, Cond.instanceMethod yX8_bentShare, Cond.selects RX8 yX8_bentShare yX8_bentShare, Cond.code yX8_bentShare cX8_bentShare 8 (some .int), Cond.methodLink RX8 118 Lib.Math.min.name, Cond.static Lib.Math.min.name, Cond.code Lib.Math.min.name Lib.Math.min.code 2 (some .int), Cond.methodLink RX8 121 Lib.Math.max.name, Cond.methodLink RX8 54 yX8_keepingOdds, Cond.instanceMethod yX8_keepingOdds, Cond.selects RX8 yX8_keepingOdds yX8_keepingOdds, Cond.code yX8_keepingOdds cX8_keepingOdds 10 (some .int), Cond.methodLink RX8 41 yX8_ruled, Cond.instanceMethod yX8_ruled, Cond.selects RX8 yX8_ruled yX8_ruled, Cond.code yX8_ruled cX8_ruled 1 (some .int), Cond.constantLong RX8 104 (1000)]
def wsL_law_r27 : List Cond := [Cond.methodLink RX8 97 yX8_atLeastOne, Cond.static yX8_atLeastOne, Cond.code yX8_atLeastOne cX8_atLeastOne 2 (some .int), Cond.methodLink RX8 109 Lib.MathLoose.max_long.x, Cond.instanceMethod yX1_withoutLeast, Cond.selects RX1 yX1_withoutLeast yX1_withoutLeast, Cond.code yX1_withoutLeast cX1_withoutLeast 5 (some .int), Cond.methodLink RX1 32 yX1_rank, Cond.instanceMethod yX1_rank, Cond.selects RX1 yX1_rank yX1_rank, Cond.code yX1_rank cX1_rank 5 (some .int), Cond.methodLink RX8 58 yX8_said, Cond.instanceMethod yX8_said, Cond.selects RX8 yX8_said yX8_said, Cond.code yX8_said cX8_said 3 (some .int), Cond.methodLink RL 81 yX10_target, Cond.instanceMethod yX10_target, Cond.selects RX10 yX10_target yX10_target, Cond.code yX10_target cX10_target 2 (some .int), Cond.methodLink RX10 262 yX10_isRule, Cond.static yX10_isRule, Cond.code yX10_isRule cX10_isRule 1 (some .boolean), Cond.methodLink RX10 251 yX10_targetNow, Cond.instanceMethod yX10_targetNow]
def wsL_law_r28 : List Cond := [Cond.selects RX10 yX10_targetNow yX10_targetNow, Cond.code yX10_targetNow cX10_targetNow 4 (some .int), Cond.methodLink RX10 248 yX10_worst, Cond.instanceMethod yX10_worst, Cond.selects RX10 yX10_worst yX10_worst, Cond.code yX10_worst cX10_worst 4 (some .int), Cond.methodLink RL 82 yX9_odds, Cond.instanceMethod yX9_odds, Cond.selects RX9 yX9_odds yX9_odds, Cond.code yX9_odds cX9_odds 3 (some .int), Cond.instanceMethod yX0_millionths, Cond.selects RX0 yX0_millionths yX0_millionths, Cond.code yX0_millionths cX0_millionths 4 (some .int), Cond.static yX9_inMillionths, Cond.code yX9_inMillionths cX9_inMillionths 3 (some .int), Cond.methodLink RL 85 yX10_odds, Cond.instanceMethod yX10_odds, Cond.selects RX10 yX10_odds yX10_odds, Cond.code yX10_odds cX10_odds 2 (some .int), Cond.methodLink RX10 265 yX10_oddsNow, Cond.instanceMethod yX10_oddsNow, Cond.selects RX10 yX10_oddsNow yX10_oddsNow, Cond.code yX10_oddsNow cX10_oddsNow 2 (some .int), Cond.methodLink RX10 255 yX10_millionths]
def wsL_law_r29 : List Cond := [Cond.static yX10_millionths, Cond.code yX10_millionths cX10_millionths 3 (some .int), Cond.methodLink RL 86 yX9_gain, Cond.instanceMethod yX9_gain, Cond.selects RX9 yX9_gain yX9_gain, Cond.code yX9_gain cX9_gain 9 (some .int), Cond.constant RX9 202 (1000000), Cond.instanceMethod yX5_lastRain, Cond.selects RX5 yX5_lastRain yX5_lastRain, Cond.code yX5_lastRain cX5_lastRain 2 (some .int), Cond.methodLink RX5 46 yX5_part, Cond.methodLink RL 89 yX10_gain, Cond.instanceMethod yX10_gain, Cond.selects RX10 yX10_gain yX10_gain, Cond.code yX10_gain cX10_gain 4 (some .int), Cond.constant RX10 268 (1000000), Cond.methodLink RL 90 yX9_won, Cond.instanceMethod yX9_won, Cond.selects RX9 yX9_won yX9_won, Cond.code yX9_won cX9_won 2 (some .int), Cond.methodLink RL 93 yX10_won, Cond.instanceMethod yX10_won, Cond.selects RX10 yX10_won yX10_won, Cond.code yX10_won cX10_won 2 (some .int)]
def wsL_law_r30 : List Cond := [Cond.methodLink RL 94 yX9_odd, Cond.instanceMethod yX9_odd, Cond.selects RX9 yX9_odd yX9_odd, Cond.code yX9_odd cX9_odd 4 (some .int), Cond.instanceMethod yX8_afterOneRain, Cond.selects RX8 yX8_afterOneRain yX8_afterOneRain, Cond.code yX8_afterOneRain cX8_afterOneRain 4 (some .int), Cond.methodLink RL 97 yX10_odd, Cond.instanceMethod yX10_odd, Cond.selects RX10 yX10_odd yX10_odd, Cond.code yX10_odd cX10_odd 5 (some .int), Cond.methodLink RL 98 yX9_sheet, Cond.instanceMethod yX9_sheet, Cond.selects RX9 yX9_sheet yX9_sheet, Cond.code yX9_sheet cX9_sheet 3 (some .int), Cond.methodLink RL 101 yX10_sheet, Cond.instanceMethod yX10_sheet, Cond.selects RX10 yX10_sheet yX10_sheet, Cond.code yX10_sheet cX10_sheet 3 (some .int), Cond.methodLink RX10 269 yX10_sheetOf, Cond.instanceMethod yX10_sheetOf, Cond.selects RX10 yX10_sheetOf yX10_sheetOf, Cond.code yX10_sheetOf cX10_sheetOf 3 (some .int), Cond.methodLink RL 102 yX9_clouded]
def wsL_law_r31 : List Cond := [Cond.instanceMethod yX9_clouded, Cond.selects RX9 yX9_clouded yX9_clouded, Cond.code yX9_clouded cX9_clouded 11 (some .int), Cond.methodLink RX9 209 Lib.Math.min.name, Cond.methodLink RX9 218 yX9_inMillionths, Cond.methodLink RL 105 yX10_clouded, Cond.instanceMethod yX10_clouded, Cond.selects RX10 yX10_clouded yX10_clouded, Cond.code yX10_clouded cX10_clouded 7 (some .int), Cond.methodLink RL 106 yX9_simple, Cond.instanceMethod yX9_simple, Cond.selects RX9 yX9_simple yX9_simple, Cond.code yX9_simple cX9_simple 6 (some .int), Cond.instanceMethod yX8_keepOddsOnSheet, Cond.selects RX8 yX8_keepOddsOnSheet yX8_keepOddsOnSheet, Cond.code yX8_keepOddsOnSheet cX8_keepOddsOnSheet 2 none, Cond.instanceMethod yX8_differenceOf, Cond.selects RX8 yX8_differenceOf yX8_differenceOf, Cond.code yX8_differenceOf cX8_differenceOf 4 (some .int), Cond.methodLink RX8 61 Lib.Math.abs.name, Cond.static Lib.Math.abs.name, Cond.code Lib.Math.abs.name Lib.Math.abs.code 1 (some .int), Cond.methodLink RL 109 yX10_simple, Cond.instanceMethod yX10_simple]
def wsL_law_r32 : List Cond := [Cond.selects RX10 yX10_simple yX10_simple, Cond.code yX10_simple cX10_simple 9 (some .int), Cond.methodLink RL 110 yX9_match, Cond.instanceMethod yX9_match, Cond.selects RX9 yX9_match yX9_match, Cond.code yX9_match cX9_match 4 (some .int), Cond.instanceMethod yX2_add, Cond.selects RX2 yX2_add yX2_add, Cond.code yX2_add cX2_add 5 none, Cond.fieldLink RX2 15 "RainTarget$Matches" "size" "I", Cond.methodLink RL 113 yX10_match, Cond.instanceMethod yX10_match, Cond.selects RX10 yX10_match yX10_match, Cond.code yX10_match cX10_match 4 (some .int), Cond.fieldLink RX10 272 "RainTargetModel" "matches" "I", Cond.methodLink RL 114 yX9_tried, Cond.instanceMethod yX9_tried, Cond.selects RX9 yX9_tried yX9_tried, Cond.code yX9_tried cX9_tried 1 (some .int), Cond.instanceMethod yX2_differenceOf, Cond.selects RX2 yX2_differenceOf yX2_differenceOf, Cond.code yX2_differenceOf cX2_differenceOf 8 (some .int), Cond.methodLink RX2 45 Lib.Math.abs.name, Cond.methodLink RL 117 yX10_tried]
def wsL_law_r33 : List Cond := [Cond.instanceMethod yX10_tried, Cond.selects RX10 yX10_tried yX10_tried, Cond.code yX10_tried cX10_tried 4 (some .int), Cond.methodLink RL 118 yX9_count, Cond.instanceMethod yX9_count, Cond.selects RX9 yX9_count yX9_count, Cond.code yX9_count cX9_count 2 (some .int), Cond.methodLink RL 121 yX10_count, Cond.instanceMethod yX10_count, Cond.selects RX10 yX10_count yX10_count, Cond.code yX10_count cX10_count 2 (some .int)]
def wsL_law : List Cond := (wsL_law_r1 ++ (wsL_law_r2 ++ (wsL_law_r3 ++ (wsL_law_r4 ++ (wsL_law_r5 ++ (wsL_law_r6 ++ (wsL_law_r7 ++ (wsL_law_r8 ++ (wsL_law_r9 ++ (wsL_law_r10 ++ (wsL_law_r11 ++ (wsL_law_r12 ++ (wsL_law_r13 ++ (wsL_law_r14 ++ (wsL_law_r15 ++ (wsL_law_r16 ++ (wsL_law_r17 ++ (wsL_law_r18 ++ (wsL_law_r19 ++ (wsL_law_r20 ++ (wsL_law_r21 ++ (wsL_law_r22 ++ (wsL_law_r23 ++ (wsL_law_r24 ++ (wsL_law_r25 ++ (wsL_law_r26 ++ (wsL_law_r27 ++ (wsL_law_r28 ++ (wsL_law_r29 ++ (wsL_law_r30 ++ (wsL_law_r31 ++ (wsL_law_r32 ++ wsL_law_r33)))))))))))))))))))))))))))))))) ++ wsX90 ++ wsX100 ++ wsX70 ++ wsX40 ++ wsX60 ++ wsX30 ++ wsX00 ++ wsX10 ++ wsX50 ++ wsX80 ++ wsX20 ++ ([] : List Cond)
set_option maxRecDepth 20000 in
theorem wsL_law_in : ∀ w ∈ wsL_law, w ∈ lw_tbl := fun w h => (goodIn_p wsL_law [97, 100, 105, 121, 150, 196, 201, 204, 216, 233, 252, 278, 309, 322, 351, 325, 329, 333, 337, 340, 347, 355, 785, 387, 391, 912, 915, 397, 920, 401, 405, 409, 413, 417, 420, 425, 430, 434, 438, 444, 448, 451, 454, 459, 462, 465, 468, 472, 487, 491, 495, 924, 928, 932, 936, 952, 956, 960, 500, 504, 509, 513, 517, 522, 527, 530, 964, 968, 534, 972, 540, 544, 550, 553, 556, 976, 980, 984, 988, 991, 995, 999, 1002, 1006, 1010, 1014, 1017, 560, 564, 568, 1021, 573, 577, 581, 1025, 585, 589, 1029, 1033, 595, 599, 1038, 604, 1042, 1046, 608, 612, 616, 624, 620, 1050, 1054, 1058, 1062, 1066, 628, 632, 1070, 636, 640, 1074, 644, 647, 651, 655, 660, 665, 668, 674, 680, 683, 688, 692, 697, 1078, 1081, 1085, 1089, 701, 705, 708, 1093, 1097, 1100, 712, 716, 1104, 722, 1109, 726, 730, 1113, 734, 1117, 1121, 738, 1125, 744, 748, 752, 755, 1129, 759, 763, 1133, 768, 772, 1137, 780, 1141] (by decide +kernel) (by decide +kernel) w h).1
theorem inlX0 : ∀ w ∈ wsX00, w ∈ wsL_law := fun _ h => List.mem_append_left _ (List.mem_append_left _ (List.mem_append_left _ (List.mem_append_left _ (List.mem_append_left _ (List.mem_append_right _ h)))))
theorem inX0 : ∀ w ∈ wsX00, w ∈ lw_tbl := fun w h => wsL_law_in w (inlX0 w h)
theorem inlX1 : ∀ w ∈ wsX10, w ∈ wsL_law := fun _ h => List.mem_append_left _ (List.mem_append_left _ (List.mem_append_left _ (List.mem_append_left _ (List.mem_append_right _ h))))
theorem inX1 : ∀ w ∈ wsX10, w ∈ lw_tbl := fun w h => wsL_law_in w (inlX1 w h)
theorem inlX2 : ∀ w ∈ wsX20, w ∈ wsL_law := fun _ h => List.mem_append_left _ (List.mem_append_right _ h)
theorem inX2 : ∀ w ∈ wsX20, w ∈ lw_tbl := fun w h => wsL_law_in w (inlX2 w h)
theorem inlX3 : ∀ w ∈ wsX30, w ∈ wsL_law := fun _ h => List.mem_append_left _ (List.mem_append_left _ (List.mem_append_left _ (List.mem_append_left _ (List.mem_append_left _ (List.mem_append_left _ (List.mem_append_right _ h))))))
theorem inX3 : ∀ w ∈ wsX30, w ∈ lw_tbl := fun w h => wsL_law_in w (inlX3 w h)
theorem inlX4 : ∀ w ∈ wsX40, w ∈ wsL_law := fun _ h => List.mem_append_left _ (List.mem_append_left _ (List.mem_append_left _ (List.mem_append_left _ (List.mem_append_left _ (List.mem_append_left _ (List.mem_append_left _ (List.mem_append_left _ (List.mem_append_right _ h))))))))
theorem inX4 : ∀ w ∈ wsX40, w ∈ lw_tbl := fun w h => wsL_law_in w (inlX4 w h)
theorem inlX5 : ∀ w ∈ wsX50, w ∈ wsL_law := fun _ h => List.mem_append_left _ (List.mem_append_left _ (List.mem_append_left _ (List.mem_append_right _ h)))
theorem inX5 : ∀ w ∈ wsX50, w ∈ lw_tbl := fun w h => wsL_law_in w (inlX5 w h)
theorem inlX6 : ∀ w ∈ wsX60, w ∈ wsL_law := fun _ h => List.mem_append_left _ (List.mem_append_left _ (List.mem_append_left _ (List.mem_append_left _ (List.mem_append_left _ (List.mem_append_left _ (List.mem_append_left _ (List.mem_append_right _ h)))))))
theorem inX6 : ∀ w ∈ wsX60, w ∈ lw_tbl := fun w h => wsL_law_in w (inlX6 w h)
theorem inlX7 : ∀ w ∈ wsX70, w ∈ wsL_law := fun _ h => List.mem_append_left _ (List.mem_append_left _ (List.mem_append_left _ (List.mem_append_left _ (List.mem_append_left _ (List.mem_append_left _ (List.mem_append_left _ (List.mem_append_left _ (List.mem_append_left _ (List.mem_append_right _ h)))))))))
theorem inX7 : ∀ w ∈ wsX70, w ∈ lw_tbl := fun w h => wsL_law_in w (inlX7 w h)
theorem inlX8 : ∀ w ∈ wsX80, w ∈ wsL_law := fun _ h => List.mem_append_left _ (List.mem_append_left _ (List.mem_append_right _ h))
theorem inX8 : ∀ w ∈ wsX80, w ∈ lw_tbl := fun w h => wsL_law_in w (inlX8 w h)
theorem inlX9 : ∀ w ∈ wsX90, w ∈ wsL_law := fun _ h => List.mem_append_left _ (List.mem_append_left _ (List.mem_append_left _ (List.mem_append_left _ (List.mem_append_left _ (List.mem_append_left _ (List.mem_append_left _ (List.mem_append_left _ (List.mem_append_left _ (List.mem_append_left _ (List.mem_append_left _ (List.mem_append_right _ h)))))))))))
theorem inX9 : ∀ w ∈ wsX90, w ∈ lw_tbl := fun w h => wsL_law_in w (inlX9 w h)
theorem inlX10 : ∀ w ∈ wsX100, w ∈ wsL_law := fun _ h => List.mem_append_left _ (List.mem_append_left _ (List.mem_append_left _ (List.mem_append_left _ (List.mem_append_left _ (List.mem_append_left _ (List.mem_append_left _ (List.mem_append_left _ (List.mem_append_left _ (List.mem_append_left _ (List.mem_append_right _ h))))))))))
theorem inX10 : ∀ w ∈ wsX100, w ∈ lw_tbl := fun w h => wsL_law_in w (inlX10 w h)
theorem inJx145de : ∀ w ∈ wsJx145de0, w ∈ lw_tbl := by decide +kernel
theorem inJx9f9b0 : ∀ w ∈ wsJx9f9b00, w ∈ lw_tbl := by decide +kernel
theorem inJxb160c : ∀ w ∈ wsJxb160c0, w ∈ lw_tbl := by decide +kernel
theorem inJ9 : ∀ w ∈ wsJ90, w ∈ lw_tbl := by decide +kernel
theorem inJ0 : ∀ w ∈ wsJ00, w ∈ lw_tbl := by decide +kernel
theorem inJ1 : ∀ w ∈ wsJ10, w ∈ lw_tbl := by decide +kernel
theorem inJ2 : ∀ w ∈ wsJ20, w ∈ lw_tbl := by decide +kernel
theorem inJxfd54e : ∀ w ∈ wsJxfd54e0, w ∈ lw_tbl := by decide +kernel
theorem inJx3cf43 : ∀ w ∈ wsJx3cf430, w ∈ lw_tbl := by decide +kernel
theorem inJ7 : ∀ w ∈ wsJ70, w ∈ lw_tbl := by decide +kernel
theorem inJ3 : ∀ w ∈ wsJ30, w ∈ lw_tbl := by decide +kernel
set_option maxRecDepth 20000 in
theorem ggX0_learn_J7_fill_d0a16 : GoodIn wsX0_learn wsJ7_fill_d0a16 := goodIn_r _ [10] (by decide +kernel) (by decide +kernel)
set_option maxRecDepth 20000 in
theorem gX0_learn_J7_fill_d0a16 : GoodIn wsX0_learn (va_wsS RX0 22 yJ7_fill_d0a16 wsJ7_fill_d0a16) := goodIn_app (goodIn_of _ (by decide +kernel)) ggX0_learn_J7_fill_d0a16
set_option maxRecDepth 20000 in
theorem ggX0_learn_X0_meanIn : GoodIn wsX0_learn wsX0_meanIn := goodIn_r _ [15, 16, 17, 18, 19, 20, 21, 22, 23, 24, 25, 26, 27, 28, 29, 30, 31, 32, 33, 34, 35, 14, 36, 6, 37, 38, 39, 40, 41] (by decide +kernel) (by decide +kernel)
set_option maxRecDepth 20000 in
theorem gX0_learn_X0_meanIn : GoodIn wsX0_learn (wsV RX0 28 RX0 yX0_meanIn wsX0_meanIn) := goodIn_app (goodIn_of _ (by decide +kernel)) ggX0_learn_X0_meanIn
set_option maxRecDepth 20000 in
theorem ggX0_mean_X9_within : GoodIn wsX0_mean wsX9_within := goodIn_r _ [4] (by decide +kernel) (by decide +kernel)
set_option maxRecDepth 20000 in
theorem gX0_mean_X9_within_n38 : GoodIn wsX0_mean (wsX9_within) := ggX0_mean_X9_within
set_option maxRecDepth 20000 in
theorem ggX0_meanIn_X3_size : GoodIn wsX0_meanIn wsX3_size := goodIn_r _ [5, 6, 27, 28] (by decide +kernel) (by decide +kernel)
set_option maxRecDepth 20000 in
theorem gX0_meanIn_X3_size_n42 : GoodIn wsX0_meanIn (wsX3_size) := ggX0_meanIn_X3_size
set_option maxRecDepth 20000 in
theorem ggX0_meanIn_X3_part : GoodIn wsX0_meanIn wsX3_part := goodIn_r _ [9, 10, 27, 28] (by decide +kernel) (by decide +kernel)
set_option maxRecDepth 20000 in
theorem gX0_meanIn_X3_part_n48 : GoodIn wsX0_meanIn (wsX3_part) := ggX0_meanIn_X3_part
set_option maxRecDepth 20000 in
theorem ggX0_meanIn_X9_power : GoodIn wsX0_meanIn wsX9_power := goodIn_r _ [13, 14, 15, 16, 12, 17] (by decide +kernel) (by decide +kernel)
set_option maxRecDepth 20000 in
theorem gX0_meanIn_X9_power_n52 : GoodIn wsX0_meanIn (wsX9_power) := ggX0_meanIn_X9_power
set_option maxRecDepth 20000 in
theorem ggX0_meanIn_X0_mean : GoodIn wsX0_meanIn wsX0_mean := goodIn_r _ [22, 23, 16, 12, 17, 24, 25, 26] (by decide +kernel) (by decide +kernel)
set_option maxRecDepth 20000 in
theorem gX0_meanIn_X0_mean : GoodIn wsX0_meanIn (wsV RX0 56 RX0 yX0_mean wsX0_mean) := goodIn_app (goodIn_of _ (by decide +kernel)) ggX0_meanIn_X0_mean
set_option maxRecDepth 20000 in
theorem ggX0_chance_X9_power : GoodIn wsX0_chance wsX9_power := goodIn_r _ [8, 9, 10, 11, 7, 12] (by decide +kernel) (by decide +kernel)
set_option maxRecDepth 20000 in
theorem gX0_chance_X9_power_n52 : GoodIn wsX0_chance (wsX9_power) := ggX0_chance_X9_power
set_option maxRecDepth 20000 in
theorem ggX0_chance_X9_within : GoodIn wsX0_chance wsX9_within := goodIn_r _ [12] (by decide +kernel) (by decide +kernel)
set_option maxRecDepth 20000 in
theorem gX0_chance_X9_within_n38 : GoodIn wsX0_chance (wsX9_within) := ggX0_chance_X9_within
set_option maxRecDepth 20000 in
theorem ggX0_chance_X0_chanceIn : GoodIn wsX0_chance wsX0_chanceIn := goodIn_r _ [17, 18, 19, 20, 21, 22, 23, 24, 25, 26, 27, 28, 29, 30, 16, 0, 1, 2, 3, 4, 5, 6, 7, 8, 9, 10, 11, 12, 13, 14, 15, 31, 32, 33, 34, 35] (by decide +kernel) (by decide +kernel)
set_option maxRecDepth 20000 in
theorem gX0_chance_X0_chanceIn : GoodIn wsX0_chance (wsV RX0 60 RX0 yX0_chanceIn wsX0_chanceIn) := goodIn_app (goodIn_of _ (by decide +kernel)) ggX0_chance_X0_chanceIn
set_option maxRecDepth 20000 in
theorem ggX0_chanceIn_X3_size : GoodIn wsX0_chanceIn wsX3_size := goodIn_r _ [5, 6, 34, 35] (by decide +kernel) (by decide +kernel)
set_option maxRecDepth 20000 in
theorem gX0_chanceIn_X3_size_n42 : GoodIn wsX0_chanceIn (wsX3_size) := ggX0_chanceIn_X3_size
set_option maxRecDepth 20000 in
theorem ggX0_chanceIn_X3_part : GoodIn wsX0_chanceIn wsX3_part := goodIn_r _ [9, 10, 34, 35] (by decide +kernel) (by decide +kernel)
set_option maxRecDepth 20000 in
theorem gX0_chanceIn_X3_part_n48 : GoodIn wsX0_chanceIn (wsX3_part) := ggX0_chanceIn_X3_part
set_option maxRecDepth 20000 in
theorem ggX0_chanceIn_X0_chance : GoodIn wsX0_chanceIn wsX0_chance := goodIn_r _ [15, 16, 17, 18, 19, 20, 21, 22, 23, 24, 25, 26, 27, 28, 29, 30, 14, 0, 1, 2, 3, 4, 5, 6, 7, 8, 9, 10, 11, 12, 13, 31, 32, 33, 34, 35] (by decide +kernel) (by decide +kernel)
set_option maxRecDepth 20000 in
theorem gX0_chanceIn_X0_chance : GoodIn wsX0_chanceIn (wsV RX0 64 RX0 yX0_chance wsX0_chance) := goodIn_app (goodIn_of _ (by decide +kernel)) ggX0_chanceIn_X0_chance
set_option maxRecDepth 20000 in
theorem ggX0_moodForMean_X3_size : GoodIn wsX0_moodForMean wsX3_size := goodIn_r _ [5, 6, 31, 32] (by decide +kernel) (by decide +kernel)
set_option maxRecDepth 20000 in
theorem gX0_moodForMean_X3_size_n42 : GoodIn wsX0_moodForMean (wsX3_size) := ggX0_moodForMean_X3_size
set_option maxRecDepth 20000 in
theorem ggX0_moodForMean_X0_meanIn : GoodIn wsX0_moodForMean wsX0_meanIn := goodIn_r _ [11, 1, 2, 3, 4, 5, 6, 12, 13, 14, 15, 16, 17, 18, 19, 20, 21, 22, 23, 24, 25, 10, 26, 27, 28, 29, 30, 31, 32] (by decide +kernel) (by decide +kernel)
set_option maxRecDepth 20000 in
theorem gX0_moodForMean_X0_meanIn : GoodIn wsX0_moodForMean (wsV RX0 28 RX0 yX0_meanIn wsX0_meanIn) := goodIn_app (goodIn_of _ (by decide +kernel)) ggX0_moodForMean_X0_meanIn
set_option maxRecDepth 20000 in
theorem ggX0_moodForMean_X0_mean : GoodIn wsX0_moodForMean wsX0_mean := goodIn_r _ [26, 27, 21, 17, 22, 28, 29, 30] (by decide +kernel) (by decide +kernel)
set_option maxRecDepth 20000 in
theorem gX0_moodForMean_X0_mean : GoodIn wsX0_moodForMean (wsV RX0 56 RX0 yX0_mean wsX0_mean) := goodIn_app (goodIn_of _ (by decide +kernel)) ggX0_moodForMean_X0_mean
set_option maxRecDepth 20000 in
theorem ggX0_moodForChance_X3_size : GoodIn wsX0_moodForChance wsX3_size := goodIn_r _ [5, 6, 35, 36] (by decide +kernel) (by decide +kernel)
set_option maxRecDepth 20000 in
theorem gX0_moodForChance_X3_size_n42 : GoodIn wsX0_moodForChance (wsX3_size) := ggX0_moodForChance_X3_size
set_option maxRecDepth 20000 in
theorem ggX0_moodForChance_X0_chanceIn : GoodIn wsX0_moodForChance wsX0_chanceIn := goodIn_r _ [11, 1, 2, 3, 4, 5, 6, 12, 13, 14, 15, 16, 17, 18, 10, 19, 20, 21, 22, 23, 24, 25, 26, 27, 28, 29, 30, 31, 7, 8, 9, 32, 33, 34, 35, 36] (by decide +kernel) (by decide +kernel)
set_option maxRecDepth 20000 in
theorem gX0_moodForChance_X0_chanceIn : GoodIn wsX0_moodForChance (wsV RX0 60 RX0 yX0_chanceIn wsX0_chanceIn) := goodIn_app (goodIn_of _ (by decide +kernel)) ggX0_moodForChance_X0_chanceIn
set_option maxRecDepth 20000 in
theorem ggX0_moodForChance_X0_chance : GoodIn wsX0_moodForChance wsX0_chance := goodIn_r _ [19, 20, 21, 22, 23, 24, 25, 26, 27, 28, 29, 30, 31, 7, 8, 9, 10, 11, 1, 2, 3, 4, 5, 6, 12, 13, 14, 15, 16, 17, 18, 32, 33, 34, 35, 36] (by decide +kernel) (by decide +kernel)
set_option maxRecDepth 20000 in
theorem gX0_moodForChance_X0_chance : GoodIn wsX0_moodForChance (wsV RX0 64 RX0 yX0_chance wsX0_chance) := goodIn_app (goodIn_of _ (by decide +kernel)) ggX0_moodForChance_X0_chance
set_option maxRecDepth 20000 in
theorem ggX0_share_X0_mean : GoodIn wsX0_share wsX0_mean := goodIn_r _ [6, 7, 8, 9, 10, 24, 25, 26] (by decide +kernel) (by decide +kernel)
set_option maxRecDepth 20000 in
theorem gX0_share_X0_mean : GoodIn wsX0_share (wsV RX0 56 RX0 yX0_mean wsX0_mean) := goodIn_app (goodIn_of _ (by decide +kernel)) ggX0_share_X0_mean
set_option maxRecDepth 20000 in
theorem ggX0_share_X9_power : GoodIn wsX0_share wsX9_power := goodIn_r _ [12, 13, 14, 8, 9, 10] (by decide +kernel) (by decide +kernel)
set_option maxRecDepth 20000 in
theorem gX0_share_X9_power_n52 : GoodIn wsX0_share (wsX9_power) := ggX0_share_X9_power
set_option maxRecDepth 20000 in
theorem ggX0_share_X9_cut : GoodIn wsX0_share wsX9_cut := goodIn_r _ [16] (by decide +kernel) (by decide +kernel)
set_option maxRecDepth 20000 in
theorem gX0_share_X9_cut_n78 : GoodIn wsX0_share (wsX9_cut) := ggX0_share_X9_cut
set_option maxRecDepth 20000 in
theorem ggX0_millionths_X0_chance : GoodIn wsX0_millionths wsX0_chance := goodIn_r _ [5, 6, 7, 8, 9, 10, 11, 12, 13, 14, 15, 16, 17, 18, 19, 20, 4, 21, 22, 23, 24, 25, 26, 27, 28, 29, 30, 31, 1, 2, 3, 38, 39, 40, 41, 42] (by decide +kernel) (by decide +kernel)
set_option maxRecDepth 20000 in
theorem gX0_millionths_X0_chance : GoodIn wsX0_millionths (wsV RX0 64 RX0 yX0_chance wsX0_chance) := goodIn_app (goodIn_of _ (by decide +kernel)) ggX0_millionths_X0_chance
set_option maxRecDepth 20000 in
theorem ggX0_millionths_X9_inMillionths : GoodIn wsX0_millionths wsX9_inMillionths := goodIn_r _ [33, 34, 11, 12, 13, 14, 15, 16, 17, 35, 36, 37] (by decide +kernel) (by decide +kernel)
set_option maxRecDepth 20000 in
theorem gX0_millionths_X9_inMillionths_n81 : GoodIn wsX0_millionths (wsX9_inMillionths) := ggX0_millionths_X9_inMillionths
set_option maxRecDepth 20000 in
theorem ggX1_begin_J7_fill_53178 : GoodIn wsX1_begin wsJ7_fill_53178 := goodIn_r _ [7] (by decide +kernel) (by decide +kernel)
set_option maxRecDepth 20000 in
theorem gX1_begin_J7_fill_53178 : GoodIn wsX1_begin (va_wsS RX1 15 yJ7_fill_53178 wsJ7_fill_53178) := goodIn_app (goodIn_of _ (by decide +kernel)) ggX1_begin_J7_fill_53178
set_option maxRecDepth 20000 in
theorem ggX1_add_X9_within : GoodIn wsX1_add wsX9_within := goodIn_r _ [6] (by decide +kernel) (by decide +kernel)
set_option maxRecDepth 20000 in
theorem gX1_add_X9_within_n28 : GoodIn wsX1_add (wsX9_within) := ggX1_add_X9_within
set_option maxRecDepth 20000 in
theorem ggX1_withoutLeast_X1_rank : GoodIn wsX1_withoutLeast wsX1_rank := goodIn_r _ [6, 1, 7, 8, 9, 10, 11, 12] (by decide +kernel) (by decide +kernel)
set_option maxRecDepth 20000 in
theorem gX1_withoutLeast_X1_rank : GoodIn wsX1_withoutLeast (wsV RX1 32 RX1 yX1_rank wsX1_rank) := goodIn_app (goodIn_of _ (by decide +kernel)) ggX1_withoutLeast_X1_rank
set_option maxRecDepth 20000 in
theorem ggX1_rank_X9_within : GoodIn wsX1_rank wsX9_within := goodIn_r _ [4] (by decide +kernel) (by decide +kernel)
set_option maxRecDepth 20000 in
theorem gX1_rank_X9_within_n28 : GoodIn wsX1_rank (wsX9_within) := ggX1_rank_X9_within
set_option maxRecDepth 20000 in
theorem ggX2_add_X9_within : GoodIn wsX2_add wsX9_within := goodIn_r _ [5] (by decide +kernel) (by decide +kernel)
set_option maxRecDepth 20000 in
theorem gX2_add_X9_within_n19 : GoodIn wsX2_add (wsX9_within) := ggX2_add_X9_within
set_option maxRecDepth 20000 in
theorem ggX2_differenceOf_X0_mean : GoodIn wsX2_differenceOf wsX0_mean := goodIn_r _ [10, 11, 12, 13, 14, 30, 31, 32] (by decide +kernel) (by decide +kernel)
set_option maxRecDepth 20000 in
theorem gX2_differenceOf_X0_mean_n31 : GoodIn wsX2_differenceOf (wsX0_mean) := ggX2_differenceOf_X0_mean
set_option maxRecDepth 20000 in
theorem ggX2_differenceOf_X9_power : GoodIn wsX2_differenceOf wsX9_power := goodIn_r _ [16, 17, 18, 12, 13, 14] (by decide +kernel) (by decide +kernel)
set_option maxRecDepth 20000 in
theorem gX2_differenceOf_X9_power_n37 : GoodIn wsX2_differenceOf (wsX9_power) := ggX2_differenceOf_X9_power
set_option maxRecDepth 20000 in
theorem ggX2_differenceOf_X9_cut : GoodIn wsX2_differenceOf wsX9_cut := goodIn_r _ [20] (by decide +kernel) (by decide +kernel)
set_option maxRecDepth 20000 in
theorem gX2_differenceOf_X9_cut_n41 : GoodIn wsX2_differenceOf (wsX9_cut) := ggX2_differenceOf_X9_cut
set_option maxRecDepth 20000 in
theorem ggX3_init_X3_add : GoodIn wsX3_init wsX3_add := goodIn_r _ [11, 5, 6, 12, 13, 14, 15, 16] (by decide +kernel) (by decide +kernel)
set_option maxRecDepth 20000 in
theorem gX3_init_X3_add : GoodIn wsX3_init (wsV RX3 18 RX3 yX3_add wsX3_add) := goodIn_app (goodIn_of _ (by decide +kernel)) ggX3_init_X3_add
set_option maxRecDepth 20000 in
theorem ggX3_forget_X9_within : GoodIn wsX3_forget wsX9_within := goodIn_r _ [4] (by decide +kernel) (by decide +kernel)
set_option maxRecDepth 20000 in
theorem gX3_forget_X9_within_n22 : GoodIn wsX3_forget (wsX9_within) := ggX3_forget_X9_within
set_option maxRecDepth 20000 in
theorem ggX3_add_X9_within : GoodIn wsX3_add wsX9_within := goodIn_r _ [5] (by decide +kernel) (by decide +kernel)
set_option maxRecDepth 20000 in
theorem gX3_add_X9_within_n22 : GoodIn wsX3_add (wsX9_within) := ggX3_add_X9_within
set_option maxRecDepth 20000 in
theorem ggX4_read_X4_readLine : GoodIn wsX4_read wsX4_readLine := goodIn_r _ [9, 10, 11, 12, 13, 8, 14, 2, 15, 3, 4, 16, 17, 18, 19, 20, 21, 22, 23, 24, 25, 26, 27, 28, 29, 30, 31, 32, 33, 34, 35, 36, 37, 38, 39, 40, 41, 42, 43, 44, 45, 46, 47, 48, 49, 50, 51, 52, 53, 54, 55, 56, 57, 58, 59, 60, 61, 62, 63, 64, 65, 66, 67, 68, 69, 70, 71, 72, 73, 74, 75, 76, 77, 78, 79, 80, 81, 82, 83, 84, 85, 86, 87, 88, 89, 90, 91, 92, 93, 94, 95, 96, 97, 98, 99, 100, 101, 102, 103, 104, 105, 106] (by decide +kernel) (by decide +kernel)
set_option maxRecDepth 20000 in
theorem gX4_read_X4_readLine : GoodIn wsX4_read (wsV RX4 29 RX4 yX4_readLine wsX4_readLine) := goodIn_app (goodIn_of _ (by decide +kernel)) ggX4_read_X4_readLine
set_option maxRecDepth 20000 in
theorem ggX4_read_X4_step : GoodIn wsX4_read wsX4_step := goodIn_r _ [14, 2, 15, 3, 4, 16, 17, 18, 19, 20, 21, 22, 23, 24, 25, 26, 8, 27, 98, 99, 100, 101, 102, 103, 104, 105, 106] (by decide +kernel) (by decide +kernel)
set_option maxRecDepth 20000 in
theorem gX4_read_X4_step : GoodIn wsX4_read (wsV RX4 36 RX4 yX4_step wsX4_step) := goodIn_app (goodIn_of _ (by decide +kernel)) ggX4_read_X4_step
set_option maxRecDepth 20000 in
theorem ggX4_has_X4_word : GoodIn wsX4_has wsX4_word := goodIn_r _ [6, 7, 8, 9, 10, 11, 12, 13, 14, 15, 16, 17] (by decide +kernel) (by decide +kernel)
set_option maxRecDepth 20000 in
theorem gX4_has_X4_word : GoodIn wsX4_has (wsV RX4 42 RX4 yX4_word wsX4_word) := goodIn_app (goodIn_of _ (by decide +kernel)) ggX4_has_X4_word
set_option maxRecDepth 20000 in
theorem ggX4_word_X9_within : GoodIn wsX4_word wsX9_within := goodIn_r _ [4] (by decide +kernel) (by decide +kernel)
set_option maxRecDepth 20000 in
theorem gX4_word_X9_within_n46 : GoodIn wsX4_word (wsX9_within) := ggX4_word_X9_within
set_option maxRecDepth 20000 in
theorem ggX4_number_X9_within : GoodIn wsX4_number wsX9_within := goodIn_r _ [4] (by decide +kernel) (by decide +kernel)
set_option maxRecDepth 20000 in
theorem gX4_number_X9_within_n46 : GoodIn wsX4_number (wsX9_within) := ggX4_number_X9_within
set_option maxRecDepth 20000 in
theorem ggX4_readLine_X4_step : GoodIn wsX4_readLine wsX4_step := goodIn_r _ [6, 7, 8, 9, 10, 11, 12, 13, 14, 15, 16, 17, 18, 19, 20, 21, 5, 22, 93, 94, 95, 96, 97, 98, 99, 100, 101] (by decide +kernel) (by decide +kernel)
set_option maxRecDepth 20000 in
theorem gX4_readLine_X4_step : GoodIn wsX4_readLine (wsV RX4 36 RX4 yX4_step wsX4_step) := goodIn_app (goodIn_of _ (by decide +kernel)) ggX4_readLine_X4_step
set_option maxRecDepth 20000 in
theorem ggX4_readLine_X4_spelled : GoodIn wsX4_readLine wsX4_spelled := goodIn_r _ [26, 27, 28, 29, 5, 30, 7, 9, 8, 31, 32, 33, 34, 35, 36, 37, 38, 39, 40, 41, 42, 11, 12, 13, 14, 15, 16, 17, 18, 19, 43, 44, 45, 46, 47, 48, 49, 50, 51, 52, 53, 54, 55, 56, 57, 58, 59, 60, 61, 62, 63, 64, 65, 66, 67, 68, 69, 70, 71, 72, 73, 74, 75, 76, 77, 78, 79, 93, 94, 95, 96, 97, 98, 99, 100, 101] (by decide +kernel) (by decide +kernel)
set_option maxRecDepth 20000 in
theorem gX4_readLine_X4_spelled : GoodIn wsX4_readLine (wsV RX4 50 RX4 yX4_spelled wsX4_spelled) := goodIn_app (goodIn_of _ (by decide +kernel)) ggX4_readLine_X4_spelled
set_option maxRecDepth 20000 in
theorem ggX4_readLine_X9_within : GoodIn wsX4_readLine wsX9_within := goodIn_r _ [19] (by decide +kernel) (by decide +kernel)
set_option maxRecDepth 20000 in
theorem gX4_readLine_X9_within_n46 : GoodIn wsX4_readLine (wsX9_within) := ggX4_readLine_X9_within
set_option maxRecDepth 20000 in
theorem ggX4_readLine_X4_readNumber : GoodIn wsX4_readLine wsX4_readNumber := goodIn_r _ [83, 10, 7, 9, 8, 84, 2, 3, 4, 5, 6, 11, 12, 13, 14, 15, 16, 17, 18, 19, 20, 21, 22, 93, 94, 95, 96, 97, 98, 99, 100, 101] (by decide +kernel) (by decide +kernel)
set_option maxRecDepth 20000 in
theorem gX4_readLine_X4_readNumber : GoodIn wsX4_readLine (wsV RX4 54 RX4 yX4_readNumber wsX4_readNumber) := goodIn_app (goodIn_of _ (by decide +kernel)) ggX4_readLine_X4_readNumber
set_option maxRecDepth 20000 in
theorem ggX4_readLine_X4_readMood : GoodIn wsX4_readLine wsX4_readMood := goodIn_r _ [88, 80, 81, 82, 5, 83, 10, 7, 9, 8, 84, 2, 3, 4, 6, 11, 12, 13, 14, 15, 16, 17, 18, 19, 20, 21, 22, 89, 90, 91, 92, 93, 94, 95, 96, 97, 98, 99, 100, 101] (by decide +kernel) (by decide +kernel)
set_option maxRecDepth 20000 in
theorem gX4_readLine_X4_readMood : GoodIn wsX4_readLine (wsV RX4 58 RX4 yX4_readMood wsX4_readMood) := goodIn_app (goodIn_of _ (by decide +kernel)) ggX4_readLine_X4_readMood
set_option maxRecDepth 20000 in
theorem ggX4_readMood_X4_readNumber : GoodIn wsX4_readMood wsX4_readNumber := goodIn_r _ [5, 6, 7, 8, 9, 10, 11, 12, 13, 4, 14, 15, 16, 17, 18, 19, 20, 21, 22, 23, 24, 25, 26, 31, 32, 33, 34, 35, 36, 37, 38, 39] (by decide +kernel) (by decide +kernel)
set_option maxRecDepth 20000 in
theorem gX4_readMood_X4_readNumber : GoodIn wsX4_readMood (wsV RX4 54 RX4 yX4_readNumber wsX4_readNumber) := goodIn_app (goodIn_of _ (by decide +kernel)) ggX4_readMood_X4_readNumber
set_option maxRecDepth 20000 in
theorem ggX4_readMood_X4_number : GoodIn wsX4_readMood wsX4_number := goodIn_r _ [30, 10, 21, 22, 23, 31, 32, 33, 34, 35, 36, 37] (by decide +kernel) (by decide +kernel)
set_option maxRecDepth 20000 in
theorem gX4_readMood_X4_number : GoodIn wsX4_readMood (wsV RX4 61 RX4 yX4_number wsX4_number) := goodIn_app (goodIn_of _ (by decide +kernel)) ggX4_readMood_X4_number
set_option maxRecDepth 20000 in
theorem ggX4_readNumber_X4_step : GoodIn wsX4_readNumber wsX4_step := goodIn_r _ [10, 2, 4, 3, 1, 11, 12, 13, 14, 15, 16, 17, 18, 19, 20, 21, 9, 22, 23, 24, 25, 26, 27, 28, 29, 30, 31] (by decide +kernel) (by decide +kernel)
set_option maxRecDepth 20000 in
theorem gX4_readNumber_X4_step : GoodIn wsX4_readNumber (wsV RX4 36 RX4 yX4_step wsX4_step) := goodIn_app (goodIn_of _ (by decide +kernel)) ggX4_readNumber_X4_step
set_option maxRecDepth 20000 in
theorem ggX4_readNumber_X7_at : GoodIn wsX4_readNumber wsX7_at := goodIn_r _ [14, 15, 16, 17, 18, 19, 30, 31] (by decide +kernel) (by decide +kernel)
set_option maxRecDepth 20000 in
theorem gX4_readNumber_X7_at_n65 : GoodIn wsX4_readNumber (wsX7_at) := ggX4_readNumber_X7_at
set_option maxRecDepth 20000 in
theorem ggX4_readNumber_X9_within : GoodIn wsX4_readNumber wsX9_within := goodIn_r _ [19] (by decide +kernel) (by decide +kernel)
set_option maxRecDepth 20000 in
theorem gX4_readNumber_X9_within_n46 : GoodIn wsX4_readNumber (wsX9_within) := ggX4_readNumber_X9_within
set_option maxRecDepth 20000 in
theorem ggX4_step_X7_at : GoodIn wsX4_step wsX7_at := goodIn_r _ [8, 9, 10, 11, 12, 13, 25, 26] (by decide +kernel) (by decide +kernel)
set_option maxRecDepth 20000 in
theorem gX4_step_X7_at_n65 : GoodIn wsX4_step (wsX7_at) := ggX4_step_X7_at
set_option maxRecDepth 20000 in
theorem ggX4_step_X4_kindOf : GoodIn wsX4_step wsX4_kindOf := goodIn_r _ [17, 11, 12, 13] (by decide +kernel) (by decide +kernel)
set_option maxRecDepth 20000 in
theorem gX4_step_X4_kindOf : GoodIn wsX4_step (va_wsS RX4 73 yX4_kindOf wsX4_kindOf) := goodIn_app (goodIn_of _ (by decide +kernel)) ggX4_step_X4_kindOf
set_option maxRecDepth 20000 in
theorem ggX4_kindOf_X9_within : GoodIn wsX4_kindOf wsX9_within := goodIn_r _ [3] (by decide +kernel) (by decide +kernel)
set_option maxRecDepth 20000 in
theorem gX4_kindOf_X9_within_n46 : GoodIn wsX4_kindOf (wsX9_within) := ggX4_kindOf_X9_within
set_option maxRecDepth 20000 in
theorem ggX4_spelled_X4_spells : GoodIn wsX4_spelled wsX4_spells := goodIn_r _ [5, 6, 7, 8, 9, 10, 11, 12, 13, 14, 15, 16, 17, 18, 19, 20, 21, 22, 23, 24, 25, 26, 27, 28, 29, 30, 31, 32, 33, 34, 35, 36, 37, 38, 39, 40, 41, 42, 43, 44, 45, 46, 47, 48, 49, 50, 51, 52, 53, 54, 55, 56, 57, 58, 59, 60, 61, 62, 63, 64, 65, 66, 67, 68, 69, 70, 71, 72, 73, 74, 75] (by decide +kernel) (by decide +kernel)
set_option maxRecDepth 20000 in
theorem gX4_spelled_X4_spells : GoodIn wsX4_spelled (wsV RX4 78 RX4 yX4_spells wsX4_spells) := goodIn_app (goodIn_of _ (by decide +kernel)) ggX4_spelled_X4_spells
set_option maxRecDepth 20000 in
theorem ggX4_spells_J0_length_8abf5 : GoodIn wsX4_spells wsJ0_length_8abf5 := goodIn_r _ [8, 9, 10, 11, 12, 7, 13, 14, 15] (by decide +kernel) (by decide +kernel)
set_option maxRecDepth 20000 in
theorem gX4_spells_J0_length_8abf5 : GoodIn wsX4_spells (wsV RX4 92 RJ0 yJ0_length_8abf5 wsJ0_length_8abf5) := goodIn_app (goodIn_of _ (by decide +kernel)) ggX4_spells_J0_length_8abf5
set_option maxRecDepth 20000 in
theorem ggX4_spells_X7_at : GoodIn wsX4_spells wsX7_at := goodIn_r _ [19, 20, 21, 22, 23, 24, 69, 70] (by decide +kernel) (by decide +kernel)
set_option maxRecDepth 20000 in
theorem gX4_spells_X7_at_n65 : GoodIn wsX4_spells (wsX7_at) := ggX4_spells_X7_at
set_option maxRecDepth 20000 in
theorem ggX4_spells_J0_charAt_5068e : GoodIn wsX4_spells wsJ0_charAt_5068e := goodIn_r _ [28, 9, 29, 30, 31, 7, 32, 14, 15, 33, 34, 35, 36, 37, 38, 39, 40, 41, 42, 43, 44, 45, 46, 47, 48, 49, 50, 51, 52, 53, 54, 55, 56, 57, 58, 59, 60, 61] (by decide +kernel) (by decide +kernel)
set_option maxRecDepth 20000 in
theorem gX4_spells_J0_charAt_5068e : GoodIn wsX4_spells (wsV RX4 96 RJ0 yJ0_charAt_5068e wsJ0_charAt_5068e) := goodIn_app (goodIn_of _ (by decide +kernel)) ggX4_spells_J0_charAt_5068e
set_option maxRecDepth 20000 in
theorem ggX5_addOver_X5_addEvent : GoodIn wsX5_addOver wsX5_addEvent := goodIn_r _ [12, 13, 14, 1, 2, 7, 15, 16, 17, 18, 19, 20, 21, 22] (by decide +kernel) (by decide +kernel)
set_option maxRecDepth 20000 in
theorem gX5_addOver_X5_addEvent : GoodIn wsX5_addOver (wsV RX5 32 RX5 yX5_addEvent wsX5_addEvent) := goodIn_app (goodIn_of _ (by decide +kernel)) ggX5_addOver_X5_addEvent
set_option maxRecDepth 20000 in
theorem ggX5_addRain_X5_addEvent : GoodIn wsX5_addRain wsX5_addEvent := goodIn_r _ [6, 7, 8, 1, 9, 10, 11, 12, 13, 14, 15, 16, 17, 18] (by decide +kernel) (by decide +kernel)
set_option maxRecDepth 20000 in
theorem gX5_addRain_X5_addEvent : GoodIn wsX5_addRain (wsV RX5 32 RX5 yX5_addEvent wsX5_addEvent) := goodIn_app (goodIn_of _ (by decide +kernel)) ggX5_addRain_X5_addEvent
set_option maxRecDepth 20000 in
theorem ggX5_addEvent_X9_within : GoodIn wsX5_addEvent wsX9_within := goodIn_r _ [8] (by decide +kernel) (by decide +kernel)
set_option maxRecDepth 20000 in
theorem gX5_addEvent_X9_within_n42 : GoodIn wsX5_addEvent (wsX9_within) := ggX5_addEvent_X9_within
set_option maxRecDepth 20000 in
theorem ggX5_part_X9_within : GoodIn wsX5_part wsX9_within := goodIn_r _ [4] (by decide +kernel) (by decide +kernel)
set_option maxRecDepth 20000 in
theorem gX5_part_X9_within_n42 : GoodIn wsX5_part (wsX9_within) := ggX5_part_X9_within
set_option maxRecDepth 20000 in
theorem ggX5_lastRain_X5_part : GoodIn wsX5_lastRain wsX5_part := goodIn_r _ [6, 7, 8, 9, 10, 11, 12, 13, 14, 15] (by decide +kernel) (by decide +kernel)
set_option maxRecDepth 20000 in
theorem gX5_lastRain_X5_part : GoodIn wsX5_lastRain (wsV RX5 46 RX5 yX5_part wsX5_part) := goodIn_app (goodIn_of _ (by decide +kernel)) ggX5_lastRain_X5_part
set_option maxRecDepth 20000 in
theorem ggX7_append_X9_within : GoodIn wsX7_append wsX9_within := goodIn_r _ [6] (by decide +kernel) (by decide +kernel)
set_option maxRecDepth 20000 in
theorem gX7_append_X9_within_n19 : GoodIn wsX7_append (wsX9_within) := ggX7_append_X9_within
set_option maxRecDepth 20000 in
theorem ggX7_at_X9_within : GoodIn wsX7_at wsX9_within := goodIn_r _ [5] (by decide +kernel) (by decide +kernel)
set_option maxRecDepth 20000 in
theorem gX7_at_X9_within_n19 : GoodIn wsX7_at (wsX9_within) := ggX7_at_X9_within
set_option maxRecDepth 20000 in
theorem ggX8_behind_X8_begin : GoodIn wsX8_behind wsX8_begin := goodIn_r _ [5, 6, 7, 8, 9, 10, 100, 101, 102, 103, 104, 105, 106, 107, 108, 109, 110] (by decide +kernel) (by decide +kernel)
set_option maxRecDepth 20000 in
theorem gX8_behind_X8_begin : GoodIn wsX8_behind (wsV RX8 27 RX8 yX8_begin wsX8_begin) := goodIn_app (goodIn_of _ (by decide +kernel)) ggX8_behind_X8_begin
set_option maxRecDepth 20000 in
theorem ggX8_behind_X5_part : GoodIn wsX8_behind wsX5_part := goodIn_r _ [14, 15, 16, 17, 18, 111, 112, 113, 114, 115] (by decide +kernel) (by decide +kernel)
set_option maxRecDepth 20000 in
theorem gX8_behind_X5_part_n33 : GoodIn wsX8_behind (wsX5_part) := ggX8_behind_X5_part
set_option maxRecDepth 20000 in
theorem ggX8_behind_X8_hear : GoodIn wsX8_behind wsX8_hear := goodIn_r _ [22, 7, 6, 8, 23, 24, 10, 25, 26, 27, 28, 29, 30, 31, 32, 33, 34, 16, 17, 18, 35, 36, 37, 38, 39, 40, 41, 42, 43, 4, 44, 9, 45, 46, 47, 48, 49, 50, 51, 52, 53, 54, 55, 56, 57, 58, 59, 60, 61, 62, 63, 64, 65, 66, 67, 68, 69, 70, 71, 72, 73, 74, 75, 76, 77, 100, 101, 102, 103, 104, 105, 106, 107, 116, 117, 118, 119, 120, 121, 122, 123, 124, 125, 108, 109, 110, 126, 127] (by decide +kernel) (by decide +kernel)
set_option maxRecDepth 20000 in
theorem gX8_behind_X8_hear : GoodIn wsX8_behind (wsV RX8 37 RX8 yX8_hear wsX8_hear) := goodIn_app (goodIn_of _ (by decide +kernel)) ggX8_behind_X8_hear
set_option maxRecDepth 20000 in
theorem ggX8_behind_X8_ruled : GoodIn wsX8_behind wsX8_ruled := goodIn_r _ [81, 6, 9, 24, 7, 8, 82, 10, 39, 17, 40, 83, 84, 4, 85, 86, 61, 47, 62, 87, 88, 89, 90, 91, 92, 93, 94, 95, 16, 18, 96, 97, 98, 99, 100, 101, 102, 103, 104, 105, 106, 107, 108, 109, 110, 116, 117, 118, 119, 120, 121, 122] (by decide +kernel) (by decide +kernel)
set_option maxRecDepth 20000 in
theorem gX8_behind_X8_ruled : GoodIn wsX8_behind (wsV RX8 41 RX8 yX8_ruled wsX8_ruled) := goodIn_app (goodIn_of _ (by decide +kernel)) ggX8_behind_X8_ruled
set_option maxRecDepth 20000 in
theorem ggX8_afterOneRain_X8_begin : GoodIn wsX8_afterOneRain wsX8_begin := goodIn_r _ [6, 7, 8, 9, 10, 11, 95, 96, 97, 98, 99, 100, 101, 102, 110, 111, 112] (by decide +kernel) (by decide +kernel)
set_option maxRecDepth 20000 in
theorem gX8_afterOneRain_X8_begin : GoodIn wsX8_afterOneRain (wsV RX8 27 RX8 yX8_begin wsX8_begin) := goodIn_app (goodIn_of _ (by decide +kernel)) ggX8_afterOneRain_X8_begin
set_option maxRecDepth 20000 in
theorem ggX8_afterOneRain_X8_hear : GoodIn wsX8_afterOneRain wsX8_hear := goodIn_r _ [15, 8, 7, 9, 16, 1, 11, 17, 18, 19, 20, 21, 22, 23, 24, 25, 26, 27, 28, 29, 30, 31, 32, 33, 34, 35, 36, 37, 38, 5, 39, 10, 40, 41, 42, 43, 44, 45, 46, 47, 48, 49, 50, 51, 52, 53, 54, 55, 56, 57, 58, 59, 60, 61, 62, 63, 64, 65, 66, 67, 68, 69, 70, 71, 72, 95, 96, 97, 98, 99, 100, 101, 102, 103, 104, 105, 106, 107, 108, 109, 113, 114, 115, 110, 111, 112, 116, 117] (by decide +kernel) (by decide +kernel)
set_option maxRecDepth 20000 in
theorem gX8_afterOneRain_X8_hear : GoodIn wsX8_afterOneRain (wsV RX8 37 RX8 yX8_hear wsX8_hear) := goodIn_app (goodIn_of _ (by decide +kernel)) ggX8_afterOneRain_X8_hear
set_option maxRecDepth 20000 in
theorem ggX8_afterOneRain_X8_ruled : GoodIn wsX8_afterOneRain wsX8_ruled := goodIn_r _ [76, 7, 10, 1, 8, 9, 77, 11, 34, 28, 35, 78, 79, 5, 80, 81, 56, 42, 57, 82, 83, 84, 85, 86, 87, 88, 89, 90, 27, 29, 91, 92, 93, 94, 95, 96, 97, 98, 99, 100, 101, 102, 110, 111, 112, 103, 104, 105, 106, 107, 108, 109] (by decide +kernel) (by decide +kernel)
set_option maxRecDepth 20000 in
theorem gX8_afterOneRain_X8_ruled : GoodIn wsX8_afterOneRain (wsV RX8 41 RX8 yX8_ruled wsX8_ruled) := goodIn_app (goodIn_of _ (by decide +kernel)) ggX8_afterOneRain_X8_ruled
set_option maxRecDepth 20000 in
theorem ggX8_keepOddsOnSheet_X8_begin : GoodIn wsX8_keepOddsOnSheet wsX8_begin := goodIn_r _ [7, 8, 9, 10, 11, 12, 49, 50, 51, 52, 53, 54, 55, 56, 64, 65, 66] (by decide +kernel) (by decide +kernel)
set_option maxRecDepth 20000 in
theorem gX8_keepOddsOnSheet_X8_begin : GoodIn wsX8_keepOddsOnSheet (wsV RX8 27 RX8 yX8_begin wsX8_begin) := goodIn_app (goodIn_of _ (by decide +kernel)) ggX8_keepOddsOnSheet_X8_begin
set_option maxRecDepth 20000 in
theorem ggX8_keepOddsOnSheet_X8_keepingOdds : GoodIn wsX8_keepOddsOnSheet wsX8_keepingOdds := goodIn_r _ [16, 17, 12, 18, 19, 20, 21, 22, 23, 24, 25, 26, 27, 28, 29, 30, 31, 32, 33, 34, 35, 36, 37, 38, 39, 40, 41, 42, 43, 44, 45, 46, 47, 48, 49, 50, 51, 52, 53, 54, 55, 56, 67, 68, 69, 70, 71] (by decide +kernel) (by decide +kernel)
set_option maxRecDepth 20000 in
theorem gX8_keepOddsOnSheet_X8_keepingOdds : GoodIn wsX8_keepOddsOnSheet (wsV RX8 54 RX8 yX8_keepingOdds wsX8_keepingOdds) := goodIn_app (goodIn_of _ (by decide +kernel)) ggX8_keepOddsOnSheet_X8_keepingOdds
set_option maxRecDepth 20000 in
theorem ggX8_differenceOf_X8_said : GoodIn wsX8_differenceOf wsX8_said := goodIn_r _ [11, 12, 13, 14, 10, 15, 16, 17, 5, 18, 19, 20, 21, 22, 23, 24, 25, 26, 34, 35, 36] (by decide +kernel) (by decide +kernel)
set_option maxRecDepth 20000 in
theorem gX8_differenceOf_X8_said : GoodIn wsX8_differenceOf (wsV RX8 58 RX8 yX8_said wsX8_said) := goodIn_app (goodIn_of _ (by decide +kernel)) ggX8_differenceOf_X8_said
set_option maxRecDepth 20000 in
theorem ggX8_hear_X0_share : GoodIn wsX8_hear wsX0_share := goodIn_r _ [10, 11, 12, 13, 14, 8, 15, 16, 17, 18, 19, 20, 21, 22, 23, 24, 25, 73, 74, 75, 76, 77, 78, 79, 80, 81, 82] (by decide +kernel) (by decide +kernel)
set_option maxRecDepth 20000 in
theorem gX8_hear_X0_share_n84 : GoodIn wsX8_hear (wsX0_share) := ggX8_hear_X0_share
set_option maxRecDepth 20000 in
theorem ggX8_hear_X8_bentShare : GoodIn wsX8_hear wsX8_bentShare := goodIn_r _ [30, 5, 31, 32, 33, 34, 35, 36, 37, 38, 4, 7, 8, 9, 10, 11, 12, 13, 14, 15, 16, 17, 18, 19, 20, 21, 22, 23, 24, 25, 65, 66, 67, 68, 69, 70, 71, 72, 73, 74, 75, 76, 77, 78, 79, 83, 84, 85, 80, 81, 82] (by decide +kernel) (by decide +kernel)
set_option maxRecDepth 20000 in
theorem gX8_hear_X8_bentShare : GoodIn wsX8_hear (wsV RX8 90 RX8 yX8_bentShare wsX8_bentShare) := goodIn_app (goodIn_of _ (by decide +kernel)) ggX8_hear_X8_bentShare
set_option maxRecDepth 20000 in
theorem ggX8_hear_X8_keepingOdds : GoodIn wsX8_hear wsX8_keepingOdds := goodIn_r _ [42, 4, 6, 43, 8, 44, 45, 46, 47, 48, 34, 49, 20, 18, 21, 22, 23, 17, 19, 50, 51, 52, 53, 54, 55, 56, 57, 58, 59, 60, 61, 62, 63, 64, 65, 66, 67, 68, 69, 70, 71, 72, 80, 81, 82, 86, 87] (by decide +kernel) (by decide +kernel)
set_option maxRecDepth 20000 in
theorem gX8_hear_X8_keepingOdds : GoodIn wsX8_hear (wsV RX8 54 RX8 yX8_keepingOdds wsX8_keepingOdds) := goodIn_app (goodIn_of _ (by decide +kernel)) ggX8_hear_X8_keepingOdds
set_option maxRecDepth 20000 in
theorem ggX8_ruled_X9_cut : GoodIn wsX8_ruled wsX9_cut := goodIn_r _ [10] (by decide +kernel) (by decide +kernel)
set_option maxRecDepth 20000 in
theorem gX8_ruled_X9_cut_n93 : GoodIn wsX8_ruled (wsX9_cut) := ggX8_ruled_X9_cut
set_option maxRecDepth 20000 in
theorem ggX8_ruled_X8_atLeastOne : GoodIn wsX8_ruled wsX8_atLeastOne := goodIn_r _ [14, 15, 16, 17, 18] (by decide +kernel) (by decide +kernel)
set_option maxRecDepth 20000 in
theorem gX8_ruled_X8_atLeastOne : GoodIn wsX8_ruled (va_wsS RX8 97 yX8_atLeastOne wsX8_atLeastOne) := goodIn_app (goodIn_of _ (by decide +kernel)) ggX8_ruled_X8_atLeastOne
set_option maxRecDepth 20000 in
theorem ggX8_ruled_X1_withoutLeast : GoodIn wsX8_ruled wsX1_withoutLeast := goodIn_r _ [22, 23, 24, 25, 26, 20, 27, 28, 9, 29, 42, 43, 44] (by decide +kernel) (by decide +kernel)
set_option maxRecDepth 20000 in
theorem gX8_ruled_X1_withoutLeast_n101 : GoodIn wsX8_ruled (wsX1_withoutLeast) := ggX8_ruled_X1_withoutLeast
set_option maxRecDepth 20000 in
theorem ggX8_ruled_X8_said : GoodIn wsX8_ruled wsX8_said := goodIn_r _ [33, 2, 11, 12, 13, 14, 15, 16, 17, 18, 34, 35, 36, 37, 38, 39, 40, 41, 42, 43, 44] (by decide +kernel) (by decide +kernel)
set_option maxRecDepth 20000 in
theorem gX8_ruled_X8_said : GoodIn wsX8_ruled (wsV RX8 58 RX8 yX8_said wsX8_said) := goodIn_app (goodIn_of _ (by decide +kernel)) ggX8_ruled_X8_said
set_option maxRecDepth 20000 in
theorem ggX8_said_X8_atLeastOne : GoodIn wsX8_said wsX8_atLeastOne := goodIn_r _ [5, 6, 7, 8, 9] (by decide +kernel) (by decide +kernel)
set_option maxRecDepth 20000 in
theorem gX8_said_X8_atLeastOne : GoodIn wsX8_said (va_wsS RX8 97 yX8_atLeastOne wsX8_atLeastOne) := goodIn_app (goodIn_of _ (by decide +kernel)) ggX8_said_X8_atLeastOne
set_option maxRecDepth 20000 in
theorem ggX8_bentShare_X0_share : GoodIn wsX8_bentShare wsX0_share := goodIn_r _ [14, 15, 16, 17, 18, 12, 19, 20, 21, 22, 23, 24, 25, 26, 27, 28, 29, 38, 39, 40, 41, 42, 43, 44, 48, 49, 50] (by decide +kernel) (by decide +kernel)
set_option maxRecDepth 20000 in
theorem gX8_bentShare_X0_share_n84 : GoodIn wsX8_bentShare (wsX0_share) := ggX8_bentShare_X0_share
set_option maxRecDepth 20000 in
theorem ggX8_bentShare_X9_cut : GoodIn wsX8_bentShare wsX9_cut := goodIn_r _ [29] (by decide +kernel) (by decide +kernel)
set_option maxRecDepth 20000 in
theorem gX8_bentShare_X9_cut_n93 : GoodIn wsX8_bentShare (wsX9_cut) := ggX8_bentShare_X9_cut
set_option maxRecDepth 20000 in
theorem ggX8_keepingOdds_X0_chance : GoodIn wsX8_keepingOdds wsX0_chance := goodIn_r _ [6, 7, 8, 9, 10, 11, 12, 13, 14, 15, 16, 17, 18, 19, 20, 21, 4, 22, 23, 24, 25, 26, 27, 28, 29, 30, 31, 32, 33, 3, 5, 42, 43, 44, 45, 46] (by decide +kernel) (by decide +kernel)
set_option maxRecDepth 20000 in
theorem gX8_keepingOdds_X0_chance_n123 : GoodIn wsX8_keepingOdds (wsX0_chance) := ggX8_keepingOdds_X0_chance
set_option maxRecDepth 20000 in
theorem ggX8_keepingOdds_X9_power : GoodIn wsX8_keepingOdds wsX9_power := goodIn_r _ [14, 15, 16, 17, 13, 18] (by decide +kernel) (by decide +kernel)
set_option maxRecDepth 20000 in
theorem gX8_keepingOdds_X9_power_n127 : GoodIn wsX8_keepingOdds (wsX9_power) := ggX8_keepingOdds_X9_power
set_option maxRecDepth 20000 in
theorem ggX9_init_X7_init : GoodIn wsX9_init wsX7_init := goodIn_r _ [41, 42, 2, 3, 43, 44, 135, 136] (by decide +kernel) (by decide +kernel)
set_option maxRecDepth 20000 in
theorem gX9_init_X7_init_n11 : GoodIn wsX9_init (wsX7_init) := ggX9_init_X7_init
set_option maxRecDepth 20000 in
theorem ggX9_init_X4_init : GoodIn wsX9_init wsX4_init := goodIn_r _ [46, 47, 2, 3, 43, 48, 49, 50, 146, 147, 148, 149, 150, 151, 152] (by decide +kernel) (by decide +kernel)
set_option maxRecDepth 20000 in
theorem gX9_init_X4_init_n18 : GoodIn wsX9_init (wsX4_init) := ggX9_init_X4_init
set_option maxRecDepth 20000 in
theorem ggX9_init_X6_init : GoodIn wsX9_init wsX6_init := goodIn_r _ [52, 53, 2, 3, 54, 55, 56, 57, 58, 59, 60, 153, 154, 155, 156, 157, 158, 159] (by decide +kernel) (by decide +kernel)
set_option maxRecDepth 20000 in
theorem gX9_init_X6_init_n27 : GoodIn wsX9_init (wsX6_init) := ggX9_init_X6_init
set_option maxRecDepth 20000 in
theorem ggX9_init_X3_init : GoodIn wsX9_init wsX3_init := goodIn_r _ [62, 63, 2, 3, 43, 64, 65, 66, 67, 68, 18, 69, 70, 71, 72, 160, 161] (by decide +kernel) (by decide +kernel)
set_option maxRecDepth 20000 in
theorem gX9_init_X3_init_n34 : GoodIn wsX9_init (wsX3_init) := ggX9_init_X3_init
set_option maxRecDepth 20000 in
theorem ggX9_init_X0_init : GoodIn wsX9_init wsX0_init := goodIn_r _ [74, 75, 2, 3, 76, 77, 78, 79, 162, 163, 164] (by decide +kernel) (by decide +kernel)
set_option maxRecDepth 20000 in
theorem gX9_init_X0_init_n41 : GoodIn wsX9_init (wsX0_init) := ggX9_init_X0_init
set_option maxRecDepth 20000 in
theorem ggX9_init_X1_init : GoodIn wsX9_init wsX1_init := goodIn_r _ [81, 82, 2, 3, 43, 83, 165, 166, 167] (by decide +kernel) (by decide +kernel)
set_option maxRecDepth 20000 in
theorem gX9_init_X1_init_n50 : GoodIn wsX9_init (wsX1_init) := ggX9_init_X1_init
set_option maxRecDepth 20000 in
theorem ggX9_init_X5_init : GoodIn wsX9_init wsX5_init := goodIn_r _ [85, 86, 2, 3, 43, 87, 168, 169, 170, 171, 172] (by decide +kernel) (by decide +kernel)
set_option maxRecDepth 20000 in
theorem gX9_init_X5_init_n57 : GoodIn wsX9_init (wsX5_init) := ggX9_init_X5_init
set_option maxRecDepth 20000 in
theorem ggX9_init_X8_init : GoodIn wsX9_init wsX8_init := goodIn_r _ [89, 90, 2, 3, 43, 91, 92, 93, 94, 173, 174, 175, 176, 177, 178, 179, 180] (by decide +kernel) (by decide +kernel)
set_option maxRecDepth 20000 in
theorem gX9_init_X8_init_n64 : GoodIn wsX9_init (wsX8_init) := ggX9_init_X8_init
set_option maxRecDepth 20000 in
theorem ggX9_init_X2_init : GoodIn wsX9_init wsX2_init := goodIn_r _ [96, 97, 2, 3, 43, 98, 181, 182] (by decide +kernel) (by decide +kernel)
set_option maxRecDepth 20000 in
theorem gX9_init_X2_init_n73 : GoodIn wsX9_init (wsX2_init) := ggX9_init_X2_init
set_option maxRecDepth 20000 in
theorem ggX9_init_X0_learn : GoodIn wsX9_init wsX0_learn := goodIn_r _ [101, 78, 102, 103, 104, 105, 77, 106, 107, 108, 109, 110, 111, 112, 22, 113, 79, 114, 18, 115, 116, 64, 117, 118, 119, 65, 120, 71, 121, 122, 123, 70, 72, 124, 125, 126, 127, 162, 163, 164, 160, 161] (by decide +kernel) (by decide +kernel)
set_option maxRecDepth 20000 in
theorem gX9_init_X0_learn_n78 : GoodIn wsX9_init (wsX0_learn) := ggX9_init_X0_learn
set_option maxRecDepth 20000 in
theorem ggX9_init_X5_begin : GoodIn wsX9_init wsX5_begin := goodIn_r _ [130, 131, 132, 133, 134, 168, 169, 170, 171, 172, 153, 154, 155, 156, 157, 158, 159] (by decide +kernel) (by decide +kernel)
set_option maxRecDepth 20000 in
theorem gX9_init_X5_begin_n81 : GoodIn wsX9_init (wsX5_begin) := ggX9_init_X5_begin
set_option maxRecDepth 20000 in
theorem ggX9_write_X9_within : GoodIn wsX9_write wsX9_within := goodIn_r _ [5] (by decide +kernel) (by decide +kernel)
set_option maxRecDepth 20000 in
theorem gX9_write_X9_within : GoodIn wsX9_write (va_wsS RX9 85 yX9_within wsX9_within) := goodIn_app (goodIn_of _ (by decide +kernel)) ggX9_write_X9_within
set_option maxRecDepth 20000 in
theorem ggX9_write_X7_append : GoodIn wsX9_write wsX7_append := goodIn_r _ [9, 10, 11, 12, 3, 4, 5, 22, 23] (by decide +kernel) (by decide +kernel)
set_option maxRecDepth 20000 in
theorem gX9_write_X7_append_n93 : GoodIn wsX9_write (wsX7_append) := ggX9_write_X7_append
set_option maxRecDepth 20000 in
theorem ggX9_fault_X4_read : GoodIn wsX9_fault wsX4_read := goodIn_r _ [5, 6, 7, 8, 9, 10, 11, 12, 3, 13, 14, 15, 16, 17, 18, 19, 20, 21, 22, 23, 24, 25, 26, 27, 28, 29, 30, 31, 32, 33, 34, 35, 36, 37, 38, 39, 40, 41, 42, 43, 44, 45, 46, 47, 48, 49, 50, 51, 52, 53, 54, 55, 56, 57, 58, 59, 60, 61, 62, 63, 64, 65, 66, 67, 68, 69, 70, 71, 72, 73, 74, 75, 76, 77, 78, 79, 80, 81, 82, 83, 84, 85, 86, 87, 88, 89, 90, 91, 92, 93, 94, 95, 96, 97, 98, 99, 100, 101, 111, 112, 113, 114, 115, 116, 117, 118, 119] (by decide +kernel) (by decide +kernel)
set_option maxRecDepth 20000 in
theorem gX9_fault_X4_read_n97 : GoodIn wsX9_fault (wsX4_read) := ggX9_fault_X4_read
set_option maxRecDepth 20000 in
theorem ggX9_game_X4_read : GoodIn wsX9_game wsX4_read := goodIn_r _ [10, 11, 12, 13, 14, 15, 16, 17, 8, 18, 19, 20, 21, 22, 23, 24, 25, 26, 27, 28, 29, 30, 31, 32, 33, 34, 35, 36, 37, 38, 39, 40, 41, 42, 43, 44, 45, 46, 47, 48, 49, 50, 51, 52, 53, 54, 55, 56, 57, 58, 59, 60, 61, 62, 63, 64, 65, 66, 67, 68, 69, 70, 71, 72, 73, 74, 75, 76, 77, 78, 79, 80, 81, 82, 83, 84, 85, 86, 87, 88, 89, 90, 91, 92, 93, 94, 95, 96, 97, 98, 99, 100, 101, 102, 103, 104, 105, 106, 192, 193, 194, 195, 196, 197, 198, 199, 200] (by decide +kernel) (by decide +kernel)
set_option maxRecDepth 20000 in
theorem gX9_game_X4_read_n97 : GoodIn wsX9_game (wsX4_read) := ggX9_game_X4_read
set_option maxRecDepth 20000 in
theorem ggX9_game_X9_tell : GoodIn wsX9_game wsX9_tell := goodIn_r _ [110, 1, 5, 104, 8, 105, 106, 98, 31, 32, 33, 111, 112, 113, 19, 114, 115, 116, 117, 118, 119, 120, 121, 122, 123, 124, 125, 126, 127, 183, 184, 185, 186, 187, 188, 189, 190, 191, 201, 202, 203, 204, 205, 206, 207, 192, 193, 194, 195, 196, 197, 198, 208, 209] (by decide +kernel) (by decide +kernel)
set_option maxRecDepth 20000 in
theorem gX9_game_X9_tell : GoodIn wsX9_game (wsV RX9 104 RX9 yX9_tell wsX9_tell) := goodIn_app (goodIn_of _ (by decide +kernel)) ggX9_game_X9_tell
set_option maxRecDepth 20000 in
theorem ggX9_game_X4_has : GoodIn wsX9_game wsX4_has := goodIn_r _ [130, 11, 131, 111, 112, 8, 113, 19, 31, 32, 33, 192, 193, 194, 195, 196, 197, 198] (by decide +kernel) (by decide +kernel)
set_option maxRecDepth 20000 in
theorem gX9_game_X4_has_n108 : GoodIn wsX9_game (wsX4_has) := ggX9_game_X4_has
set_option maxRecDepth 20000 in
theorem ggX9_game_X0_learn : GoodIn wsX9_game wsX0_learn := goodIn_r _ [135, 136, 137, 138, 139, 140, 141, 142, 143, 144, 145, 146, 147, 148, 133, 149, 150, 151, 120, 152, 153, 123, 154, 155, 156, 127, 157, 32, 158, 159, 160, 31, 33, 161, 162, 163, 164, 210, 211, 212, 208, 209] (by decide +kernel) (by decide +kernel)
set_option maxRecDepth 20000 in
theorem gX9_game_X0_learn_n78 : GoodIn wsX9_game (wsX0_learn) := ggX9_game_X0_learn
set_option maxRecDepth 20000 in
theorem ggX9_game_X1_begin : GoodIn wsX9_game wsX1_begin := goodIn_r _ [168, 169, 170, 171, 172, 173, 144, 174, 213, 214, 215] (by decide +kernel) (by decide +kernel)
set_option maxRecDepth 20000 in
theorem gX9_game_X1_begin_n112 : GoodIn wsX9_game (wsX1_begin) := ggX9_game_X1_begin
set_option maxRecDepth 20000 in
theorem ggX9_game_X5_begin : GoodIn wsX9_game wsX5_begin := goodIn_r _ [178, 179, 180, 181, 182, 216, 217, 218, 219, 220, 201, 202, 203, 204, 205, 206, 207] (by decide +kernel) (by decide +kernel)
set_option maxRecDepth 20000 in
theorem gX9_game_X5_begin_n81 : GoodIn wsX9_game (wsX5_begin) := ggX9_game_X5_begin
set_option maxRecDepth 20000 in
theorem ggX9_mood_X9_within : GoodIn wsX9_mood wsX9_within := goodIn_r _ [5] (by decide +kernel) (by decide +kernel)
set_option maxRecDepth 20000 in
theorem gX9_mood_X9_within : GoodIn wsX9_mood (va_wsS RX9 85 yX9_within wsX9_within) := goodIn_app (goodIn_of _ (by decide +kernel)) ggX9_mood_X9_within
set_option maxRecDepth 20000 in
theorem ggX9_mood_X3_size : GoodIn wsX9_mood wsX3_size := goodIn_r _ [9, 10, 24, 25] (by decide +kernel) (by decide +kernel)
set_option maxRecDepth 20000 in
theorem gX9_mood_X3_size_n114 : GoodIn wsX9_mood (wsX3_size) := ggX9_mood_X3_size
set_option maxRecDepth 20000 in
theorem ggX9_mood_X3_part : GoodIn wsX9_mood wsX3_part := goodIn_r _ [13, 14, 24, 25] (by decide +kernel) (by decide +kernel)
set_option maxRecDepth 20000 in
theorem gX9_mood_X3_part_n118 : GoodIn wsX9_mood (wsX3_part) := ggX9_mood_X3_part
set_option maxRecDepth 20000 in
theorem ggX9_makes_X9_isLeft : GoodIn wsX9_makes wsX9_isLeft := goodIn_r _ [7, 8, 9, 10, 6, 11, 30, 31, 32, 33, 34, 35, 36, 37, 38, 39, 40, 41, 42, 43, 44, 45] (by decide +kernel) (by decide +kernel)
set_option maxRecDepth 20000 in
theorem gX9_makes_X9_isLeft : GoodIn wsX9_makes (wsV RX9 122 RX9 yX9_isLeft wsX9_isLeft) := goodIn_app (goodIn_of _ (by decide +kernel)) ggX9_makes_X9_isLeft
set_option maxRecDepth 20000 in
theorem ggX9_makes_X9_within : GoodIn wsX9_makes wsX9_within := goodIn_r _ [11] (by decide +kernel) (by decide +kernel)
set_option maxRecDepth 20000 in
theorem gX9_makes_X9_within : GoodIn wsX9_makes (va_wsS RX9 85 yX9_within wsX9_within) := goodIn_app (goodIn_of _ (by decide +kernel)) ggX9_makes_X9_within
set_option maxRecDepth 20000 in
theorem ggX9_makes_X0_mean : GoodIn wsX9_makes wsX0_mean := goodIn_r _ [15, 16, 10, 6, 11, 46, 47, 48] (by decide +kernel) (by decide +kernel)
set_option maxRecDepth 20000 in
theorem gX9_makes_X0_mean_n128 : GoodIn wsX9_makes (wsX0_mean) := ggX9_makes_X0_mean
set_option maxRecDepth 20000 in
theorem ggX9_makes_X9_power : GoodIn wsX9_makes wsX9_power := goodIn_r _ [19, 20, 9, 10, 6, 11] (by decide +kernel) (by decide +kernel)
set_option maxRecDepth 20000 in
theorem gX9_makes_X9_power : GoodIn wsX9_makes (va_wsS RX9 132 yX9_power wsX9_power) := goodIn_app (goodIn_of _ (by decide +kernel)) ggX9_makes_X9_power
set_option maxRecDepth 20000 in
theorem ggX9_makes_X9_lowest : GoodIn wsX9_makes wsX9_lowest := goodIn_r _ [23, 24, 25, 6, 26, 27, 28, 29] (by decide +kernel) (by decide +kernel)
set_option maxRecDepth 20000 in
theorem gX9_makes_X9_lowest : GoodIn wsX9_makes (va_wsS RX9 136 yX9_lowest wsX9_lowest) := goodIn_app (goodIn_of _ (by decide +kernel)) ggX9_makes_X9_lowest
set_option maxRecDepth 20000 in
theorem ggX9_wins_X9_isLeft : GoodIn wsX9_wins wsX9_isLeft := goodIn_r _ [7, 8, 9, 10, 6, 11, 49, 50, 51, 52, 53, 54, 55, 56, 57, 58, 59, 60, 61, 62, 63, 64] (by decide +kernel) (by decide +kernel)
set_option maxRecDepth 20000 in
theorem gX9_wins_X9_isLeft : GoodIn wsX9_wins (wsV RX9 122 RX9 yX9_isLeft wsX9_isLeft) := goodIn_app (goodIn_of _ (by decide +kernel)) ggX9_wins_X9_isLeft
set_option maxRecDepth 20000 in
theorem ggX9_wins_X9_within : GoodIn wsX9_wins wsX9_within := goodIn_r _ [11] (by decide +kernel) (by decide +kernel)
set_option maxRecDepth 20000 in
theorem gX9_wins_X9_within : GoodIn wsX9_wins (va_wsS RX9 85 yX9_within wsX9_within) := goodIn_app (goodIn_of _ (by decide +kernel)) ggX9_wins_X9_within
set_option maxRecDepth 20000 in
theorem ggX9_wins_X0_chance : GoodIn wsX9_wins wsX0_chance := goodIn_r _ [15, 16, 17, 18, 19, 20, 21, 6, 22, 23, 9, 10, 11, 24, 25, 26, 13, 27, 28, 29, 30, 31, 32, 33, 34, 35, 36, 37, 38, 12, 14, 65, 66, 67, 68, 69] (by decide +kernel) (by decide +kernel)
set_option maxRecDepth 20000 in
theorem gX9_wins_X0_chance_n140 : GoodIn wsX9_wins (wsX0_chance) := ggX9_wins_X0_chance
set_option maxRecDepth 20000 in
theorem ggX9_wins_X9_power : GoodIn wsX9_wins wsX9_power := goodIn_r _ [22, 23, 9, 10, 6, 11] (by decide +kernel) (by decide +kernel)
set_option maxRecDepth 20000 in
theorem gX9_wins_X9_power : GoodIn wsX9_wins (va_wsS RX9 132 yX9_power wsX9_power) := goodIn_app (goodIn_of _ (by decide +kernel)) ggX9_wins_X9_power
set_option maxRecDepth 20000 in
theorem ggX9_wins_X9_lowest : GoodIn wsX9_wins wsX9_lowest := goodIn_r _ [42, 43, 44, 6, 45, 46, 47, 48] (by decide +kernel) (by decide +kernel)
set_option maxRecDepth 20000 in
theorem gX9_wins_X9_lowest : GoodIn wsX9_wins (va_wsS RX9 136 yX9_lowest wsX9_lowest) := goodIn_app (goodIn_of _ (by decide +kernel)) ggX9_wins_X9_lowest
set_option maxRecDepth 20000 in
theorem ggX9_best_X9_isLeft : GoodIn wsX9_best wsX9_isLeft := goodIn_r _ [6, 7, 8, 9, 5, 10, 53, 54, 55, 56, 57, 58, 59, 60, 61, 62, 63, 64, 65, 66, 67, 68] (by decide +kernel) (by decide +kernel)
set_option maxRecDepth 20000 in
theorem gX9_best_X9_isLeft : GoodIn wsX9_best (wsV RX9 122 RX9 yX9_isLeft wsX9_isLeft) := goodIn_app (goodIn_of _ (by decide +kernel)) ggX9_best_X9_isLeft
set_option maxRecDepth 20000 in
theorem ggX9_best_X9_within : GoodIn wsX9_best wsX9_within := goodIn_r _ [10] (by decide +kernel) (by decide +kernel)
set_option maxRecDepth 20000 in
theorem gX9_best_X9_within : GoodIn wsX9_best (va_wsS RX9 85 yX9_within wsX9_within) := goodIn_app (goodIn_of _ (by decide +kernel)) ggX9_best_X9_within
set_option maxRecDepth 20000 in
theorem ggX9_best_X0_moodForMean : GoodIn wsX9_best wsX0_moodForMean := goodIn_r _ [14, 15, 16, 17, 18, 19, 20, 21, 22, 23, 12, 24, 25, 26, 27, 28, 29, 5, 30, 31, 8, 9, 10, 32, 33, 34, 35, 36, 69, 70, 71, 72, 73] (by decide +kernel) (by decide +kernel)
set_option maxRecDepth 20000 in
theorem gX9_best_X0_moodForMean_n144 : GoodIn wsX9_best (wsX0_moodForMean) := ggX9_best_X0_moodForMean
set_option maxRecDepth 20000 in
theorem ggX9_best_X0_moodForChance : GoodIn wsX9_best wsX0_moodForChance := goodIn_r _ [39, 15, 16, 17, 18, 19, 20, 40, 41, 42, 12, 43, 25, 26, 27, 28, 44, 45, 46, 47, 48, 49, 50, 51, 52, 29, 5, 30, 31, 8, 9, 10, 69, 70, 71, 72, 73] (by decide +kernel) (by decide +kernel)
set_option maxRecDepth 20000 in
theorem gX9_best_X0_moodForChance_n148 : GoodIn wsX9_best (wsX0_moodForChance) := ggX9_best_X0_moodForChance
set_option maxRecDepth 20000 in
theorem ggX9_spend_X9_isLeft : GoodIn wsX9_spend wsX9_isLeft := goodIn_r _ [7, 2, 8, 9, 6, 10, 26, 27, 28, 29, 30, 31, 32, 33, 34, 35, 36, 37, 38, 39, 40, 41] (by decide +kernel) (by decide +kernel)
set_option maxRecDepth 20000 in
theorem gX9_spend_X9_isLeft : GoodIn wsX9_spend (wsV RX9 122 RX9 yX9_isLeft wsX9_isLeft) := goodIn_app (goodIn_of _ (by decide +kernel)) ggX9_spend_X9_isLeft
set_option maxRecDepth 20000 in
theorem ggX9_spend_X0_share : GoodIn wsX9_spend wsX0_share := goodIn_r _ [14, 15, 16, 17, 18, 12, 19, 20, 9, 6, 10, 21, 22, 23, 8, 24, 25, 35, 36, 37, 38, 39, 40, 41, 42, 43, 44] (by decide +kernel) (by decide +kernel)
set_option maxRecDepth 20000 in
theorem gX9_spend_X0_share_n151 : GoodIn wsX9_spend (wsX0_share) := ggX9_spend_X0_share
set_option maxRecDepth 20000 in
theorem ggX9_bat_X9_within : GoodIn wsX9_bat wsX9_within := goodIn_r _ [6] (by decide +kernel) (by decide +kernel)
set_option maxRecDepth 20000 in
theorem gX9_bat_X9_within : GoodIn wsX9_bat (va_wsS RX9 85 yX9_within wsX9_within) := goodIn_app (goodIn_of _ (by decide +kernel)) ggX9_bat_X9_within
set_option maxRecDepth 20000 in
theorem ggX9_bat_X1_add : GoodIn wsX9_bat wsX1_add := goodIn_r _ [10, 11, 12, 13, 4, 5, 6, 23, 24, 25] (by decide +kernel) (by decide +kernel)
set_option maxRecDepth 20000 in
theorem gX9_bat_X1_add_n161 : GoodIn wsX9_bat (wsX1_add) := ggX9_bat_X1_add
set_option maxRecDepth 20000 in
theorem ggX9_anew_X1_begin : GoodIn wsX9_anew wsX1_begin := goodIn_r _ [7, 8, 9, 10, 11, 12, 13, 14, 32, 33, 34] (by decide +kernel) (by decide +kernel)
set_option maxRecDepth 20000 in
theorem gX9_anew_X1_begin_n112 : GoodIn wsX9_anew (wsX1_begin) := ggX9_anew_X1_begin
set_option maxRecDepth 20000 in
theorem ggX9_anew_X5_begin : GoodIn wsX9_anew wsX5_begin := goodIn_r _ [18, 19, 20, 21, 22, 35, 36, 37, 38, 39, 40, 41, 42, 43, 44, 45, 46] (by decide +kernel) (by decide +kernel)
set_option maxRecDepth 20000 in
theorem gX9_anew_X5_begin_n81 : GoodIn wsX9_anew (wsX5_begin) := ggX9_anew_X5_begin
set_option maxRecDepth 20000 in
theorem ggX9_play_X9_within : GoodIn wsX9_play wsX9_within := goodIn_r _ [5] (by decide +kernel) (by decide +kernel)
set_option maxRecDepth 20000 in
theorem gX9_play_X9_within : GoodIn wsX9_play (va_wsS RX9 85 yX9_within wsX9_within) := goodIn_app (goodIn_of _ (by decide +kernel)) ggX9_play_X9_within
set_option maxRecDepth 20000 in
theorem ggX9_play_X5_isAtEnd : GoodIn wsX9_play wsX5_isAtEnd := goodIn_r _ [9, 10, 11, 35, 36, 37, 38, 39] (by decide +kernel) (by decide +kernel)
set_option maxRecDepth 20000 in
theorem gX9_play_X5_isAtEnd_n167 : GoodIn wsX9_play (wsX5_isAtEnd) := ggX9_play_X5_isAtEnd
set_option maxRecDepth 20000 in
theorem ggX9_play_X5_addOver : GoodIn wsX9_play wsX5_addOver := goodIn_r _ [14, 10, 11, 15, 16, 17, 18, 19, 20, 21, 22, 7, 23, 24, 25, 3, 4, 5, 35, 36, 37, 38, 39] (by decide +kernel) (by decide +kernel)
set_option maxRecDepth 20000 in
theorem gX9_play_X5_addOver_n173 : GoodIn wsX9_play (wsX5_addOver) := ggX9_play_X5_addOver
set_option maxRecDepth 20000 in
theorem ggX9_rain_X9_within : GoodIn wsX9_rain wsX9_within := goodIn_r _ [5] (by decide +kernel) (by decide +kernel)
set_option maxRecDepth 20000 in
theorem gX9_rain_X9_within : GoodIn wsX9_rain (va_wsS RX9 85 yX9_within wsX9_within) := goodIn_app (goodIn_of _ (by decide +kernel)) ggX9_rain_X9_within
set_option maxRecDepth 20000 in
theorem ggX9_rain_X5_addRain : GoodIn wsX9_rain wsX5_addRain := goodIn_r _ [9, 10, 11, 12, 13, 7, 14, 15, 16, 17, 18, 3, 4, 5, 28, 29, 30, 31, 32] (by decide +kernel) (by decide +kernel)
set_option maxRecDepth 20000 in
theorem gX9_rain_X5_addRain_n181 : GoodIn wsX9_rain (wsX5_addRain) := ggX9_rain_X5_addRain
set_option maxRecDepth 20000 in
theorem ggX9_event_X9_within : GoodIn wsX9_event wsX9_within := goodIn_r _ [5] (by decide +kernel) (by decide +kernel)
set_option maxRecDepth 20000 in
theorem gX9_event_X9_within : GoodIn wsX9_event (va_wsS RX9 85 yX9_within wsX9_within) := goodIn_app (goodIn_of _ (by decide +kernel)) ggX9_event_X9_within
set_option maxRecDepth 20000 in
theorem ggX9_event_X5_part : GoodIn wsX9_event wsX5_part := goodIn_r _ [9, 10, 3, 4, 5, 20, 21, 22, 23, 24] (by decide +kernel) (by decide +kernel)
set_option maxRecDepth 20000 in
theorem gX9_event_X5_part_n184 : GoodIn wsX9_event (wsX5_part) := ggX9_event_X5_part
set_option maxRecDepth 20000 in
theorem ggX9_target_X9_isRule : GoodIn wsX9_target wsX9_isRule := goodIn_r _ [6, 7, 8, 5, 9] (by decide +kernel) (by decide +kernel)
set_option maxRecDepth 20000 in
theorem gX9_target_X9_isRule : GoodIn wsX9_target (va_wsS RX9 186 yX9_isRule wsX9_isRule) := goodIn_app (goodIn_of _ (by decide +kernel)) ggX9_target_X9_isRule
set_option maxRecDepth 20000 in
theorem ggX9_target_X8_behind : GoodIn wsX9_target wsX8_behind := goodIn_r _ [13, 14, 15, 16, 11, 17, 18, 19, 20, 21, 22, 23, 24, 25, 26, 27, 8, 5, 9, 28, 29, 30, 31, 32, 33, 34, 35, 36, 37, 38, 39, 40, 41, 42, 43, 44, 45, 46, 7, 47, 48, 49, 50, 51, 52, 53, 54, 55, 56, 57, 58, 59, 60, 61, 62, 63, 64, 65, 66, 67, 68, 69, 70, 71, 72, 73, 74, 75, 76, 77, 78, 79, 80, 81, 82, 83, 84, 85, 86, 87, 88, 89, 90, 91, 92, 93, 94, 95, 96, 97, 98, 99, 100, 101, 102, 103, 104, 105, 106, 107, 122, 123, 124, 125, 126, 127, 128, 129, 130, 131, 132, 117, 118, 119, 120, 121, 133, 134, 135, 136, 137, 138, 139, 140, 141, 142, 143, 144] (by decide +kernel) (by decide +kernel)
set_option maxRecDepth 20000 in
theorem gX9_target_X8_behind_n189 : GoodIn wsX9_target (wsX8_behind) := ggX9_target_X8_behind
set_option maxRecDepth 20000 in
theorem ggX9_odds_X9_isRule : GoodIn wsX9_odds wsX9_isRule := goodIn_r _ [7, 8, 9, 6, 10] (by decide +kernel) (by decide +kernel)
set_option maxRecDepth 20000 in
theorem gX9_odds_X9_isRule : GoodIn wsX9_odds (va_wsS RX9 186 yX9_isRule wsX9_isRule) := goodIn_app (goodIn_of _ (by decide +kernel)) ggX9_odds_X9_isRule
set_option maxRecDepth 20000 in
theorem ggX9_odds_X8_behind : GoodIn wsX9_odds wsX8_behind := goodIn_r _ [14, 15, 16, 17, 12, 18, 19, 20, 21, 22, 23, 24, 25, 26, 27, 28, 9, 6, 10, 29, 30, 31, 32, 33, 34, 35, 36, 37, 38, 39, 40, 41, 42, 43, 44, 45, 46, 47, 8, 48, 49, 50, 51, 52, 53, 54, 55, 56, 57, 58, 59, 60, 61, 62, 63, 64, 65, 66, 67, 68, 69, 70, 71, 72, 73, 74, 75, 76, 77, 78, 79, 80, 81, 82, 83, 84, 85, 86, 87, 88, 89, 90, 91, 92, 93, 94, 95, 96, 97, 98, 99, 100, 101, 102, 103, 104, 105, 106, 107, 108, 130, 131, 132, 133, 134, 135, 136, 137, 138, 139, 140, 125, 126, 127, 128, 129, 141, 142, 143, 144, 145, 146, 147, 148, 149, 150, 151, 152] (by decide +kernel) (by decide +kernel)
set_option maxRecDepth 20000 in
theorem gX9_odds_X8_behind_n189 : GoodIn wsX9_odds (wsX8_behind) := ggX9_odds_X8_behind
set_option maxRecDepth 20000 in
theorem ggX9_odds_X0_millionths : GoodIn wsX9_odds wsX0_millionths := goodIn_r _ [111, 86, 65, 66, 36, 67, 68, 69, 70, 56, 71, 45, 6, 46, 47, 8, 9, 10, 72, 73, 74, 75, 76, 77, 78, 79, 80, 81, 82, 83, 84, 85, 112, 113, 114, 115, 48, 49, 148, 149, 150, 151, 152] (by decide +kernel) (by decide +kernel)
set_option maxRecDepth 20000 in
theorem gX9_odds_X0_millionths_n196 : GoodIn wsX9_odds (wsX0_millionths) := ggX9_odds_X0_millionths
set_option maxRecDepth 20000 in
theorem ggX9_gain_X9_isRule : GoodIn wsX9_gain wsX9_isRule := goodIn_r _ [8, 9, 10, 7, 11] (by decide +kernel) (by decide +kernel)
set_option maxRecDepth 20000 in
theorem gX9_gain_X9_isRule : GoodIn wsX9_gain (va_wsS RX9 186 yX9_isRule wsX9_isRule) := goodIn_app (goodIn_of _ (by decide +kernel)) ggX9_gain_X9_isRule
set_option maxRecDepth 20000 in
theorem ggX9_gain_X5_lastRain : GoodIn wsX9_gain wsX5_lastRain := goodIn_r _ [15, 16, 17, 18, 19, 13, 20, 21, 10, 7, 11, 131, 132, 133, 134, 135] (by decide +kernel) (by decide +kernel)
set_option maxRecDepth 20000 in
theorem gX9_gain_X5_lastRain_n199 : GoodIn wsX9_gain (wsX5_lastRain) := ggX9_gain_X5_lastRain
set_option maxRecDepth 20000 in
theorem ggX9_gain_X5_part : GoodIn wsX9_gain wsX5_part := goodIn_r _ [20, 21, 10, 7, 11, 131, 132, 133, 134, 135] (by decide +kernel) (by decide +kernel)
set_option maxRecDepth 20000 in
theorem gX9_gain_X5_part_n184 : GoodIn wsX9_gain (wsX5_part) := ggX9_gain_X5_part
set_option maxRecDepth 20000 in
theorem ggX9_gain_X8_behind : GoodIn wsX9_gain wsX8_behind := goodIn_r _ [25, 26, 27, 28, 23, 29, 30, 31, 32, 33, 34, 18, 13, 19, 20, 21, 10, 7, 11, 35, 36, 37, 38, 39, 40, 41, 42, 43, 44, 45, 46, 47, 48, 49, 50, 51, 52, 53, 9, 54, 55, 56, 57, 58, 59, 60, 61, 62, 63, 64, 65, 66, 67, 68, 69, 70, 71, 72, 73, 74, 75, 76, 77, 78, 79, 80, 81, 82, 83, 84, 85, 86, 87, 88, 89, 90, 91, 92, 93, 94, 95, 96, 97, 98, 99, 100, 101, 102, 103, 104, 105, 106, 107, 108, 109, 110, 111, 112, 113, 114, 136, 137, 138, 139, 140, 141, 142, 143, 144, 145, 146, 131, 132, 133, 134, 135, 147, 148, 149, 150, 151, 152, 153, 154, 155, 156, 157, 158] (by decide +kernel) (by decide +kernel)
set_option maxRecDepth 20000 in
theorem gX9_gain_X8_behind_n189 : GoodIn wsX9_gain (wsX8_behind) := ggX9_gain_X8_behind
set_option maxRecDepth 20000 in
theorem ggX9_gain_X0_millionths : GoodIn wsX9_gain wsX0_millionths := goodIn_r _ [117, 92, 71, 72, 42, 73, 74, 75, 76, 62, 77, 51, 7, 52, 53, 9, 10, 11, 78, 79, 80, 81, 82, 83, 84, 85, 86, 87, 88, 89, 90, 91, 118, 119, 120, 121, 54, 55, 154, 155, 156, 157, 158] (by decide +kernel) (by decide +kernel)
set_option maxRecDepth 20000 in
theorem gX9_gain_X0_millionths_n196 : GoodIn wsX9_gain (wsX0_millionths) := ggX9_gain_X0_millionths
set_option maxRecDepth 20000 in
theorem ggX9_won_X9_isRule : GoodIn wsX9_won wsX9_isRule := goodIn_r _ [6, 7, 8, 5, 9] (by decide +kernel) (by decide +kernel)
set_option maxRecDepth 20000 in
theorem gX9_won_X9_isRule : GoodIn wsX9_won (va_wsS RX9 186 yX9_isRule wsX9_isRule) := goodIn_app (goodIn_of _ (by decide +kernel)) ggX9_won_X9_isRule
set_option maxRecDepth 20000 in
theorem ggX9_won_X8_behind : GoodIn wsX9_won wsX8_behind := goodIn_r _ [13, 14, 15, 16, 11, 17, 18, 19, 20, 21, 22, 23, 24, 25, 26, 27, 8, 5, 9, 28, 29, 30, 31, 32, 33, 34, 35, 36, 37, 38, 39, 40, 41, 42, 43, 44, 45, 46, 7, 47, 48, 49, 50, 51, 52, 53, 54, 55, 56, 57, 58, 59, 60, 61, 62, 63, 64, 65, 66, 67, 68, 69, 70, 71, 72, 73, 74, 75, 76, 77, 78, 79, 80, 81, 82, 83, 84, 85, 86, 87, 88, 89, 90, 91, 92, 93, 94, 95, 96, 97, 98, 99, 100, 101, 102, 103, 104, 105, 106, 107, 127, 128, 129, 130, 131, 132, 133, 134, 135, 136, 137, 122, 123, 124, 125, 126, 138, 139, 140, 141, 142, 143, 144, 145, 146, 147, 148, 149] (by decide +kernel) (by decide +kernel)
set_option maxRecDepth 20000 in
theorem gX9_won_X8_behind_n189 : GoodIn wsX9_won (wsX8_behind) := ggX9_won_X8_behind
set_option maxRecDepth 20000 in
theorem ggX9_won_X5_isAtEnd : GoodIn wsX9_won wsX5_isAtEnd := goodIn_r _ [110, 111, 112, 122, 123, 124, 125, 126] (by decide +kernel) (by decide +kernel)
set_option maxRecDepth 20000 in
theorem gX9_won_X5_isAtEnd_n167 : GoodIn wsX9_won (wsX5_isAtEnd) := ggX9_won_X5_isAtEnd
set_option maxRecDepth 20000 in
theorem ggX9_odd_X9_isRule : GoodIn wsX9_odd wsX9_isRule := goodIn_r _ [7, 8, 9, 6, 10] (by decide +kernel) (by decide +kernel)
set_option maxRecDepth 20000 in
theorem gX9_odd_X9_isRule : GoodIn wsX9_odd (va_wsS RX9 186 yX9_isRule wsX9_isRule) := goodIn_app (goodIn_of _ (by decide +kernel)) ggX9_odd_X9_isRule
set_option maxRecDepth 20000 in
theorem ggX9_odd_X8_afterOneRain : GoodIn wsX9_odd wsX8_afterOneRain := goodIn_r _ [14, 15, 16, 17, 18, 12, 19, 20, 21, 22, 23, 24, 25, 26, 27, 28, 29, 30, 31, 32, 33, 34, 35, 36, 37, 38, 39, 9, 6, 10, 40, 41, 42, 8, 43, 44, 45, 46, 47, 48, 49, 50, 51, 52, 53, 54, 55, 56, 57, 58, 59, 60, 61, 62, 63, 64, 65, 66, 67, 68, 69, 70, 71, 72, 73, 74, 75, 76, 77, 78, 79, 80, 81, 82, 83, 84, 85, 86, 87, 88, 89, 90, 91, 92, 93, 94, 95, 96, 97, 98, 99, 100, 101, 102, 103, 123, 124, 125, 126, 127, 128, 129, 130, 113, 114, 115, 116, 117, 118, 119, 120, 121, 122, 131, 132, 133, 134, 135] (by decide +kernel) (by decide +kernel)
set_option maxRecDepth 20000 in
theorem gX9_odd_X8_afterOneRain_n203 : GoodIn wsX9_odd (wsX8_afterOneRain) := ggX9_odd_X8_afterOneRain
set_option maxRecDepth 20000 in
theorem ggX9_sheet_X9_isRule : GoodIn wsX9_sheet wsX9_isRule := goodIn_r _ [6, 7, 8, 5, 9] (by decide +kernel) (by decide +kernel)
set_option maxRecDepth 20000 in
theorem gX9_sheet_X9_isRule : GoodIn wsX9_sheet (va_wsS RX9 186 yX9_isRule wsX9_isRule) := goodIn_app (goodIn_of _ (by decide +kernel)) ggX9_sheet_X9_isRule
set_option maxRecDepth 20000 in
theorem ggX9_sheet_X9_within : GoodIn wsX9_sheet wsX9_within := goodIn_r _ [9] (by decide +kernel) (by decide +kernel)
set_option maxRecDepth 20000 in
theorem gX9_sheet_X9_within : GoodIn wsX9_sheet (va_wsS RX9 85 yX9_within wsX9_within) := goodIn_app (goodIn_of _ (by decide +kernel)) ggX9_sheet_X9_within
set_option maxRecDepth 20000 in
theorem ggX9_sheet_X8_afterOneRain : GoodIn wsX9_sheet wsX8_afterOneRain := goodIn_r _ [13, 14, 15, 16, 17, 11, 18, 19, 20, 21, 22, 23, 24, 25, 26, 27, 28, 29, 30, 31, 32, 33, 34, 35, 36, 37, 38, 8, 5, 9, 39, 40, 41, 7, 42, 43, 44, 45, 46, 47, 48, 49, 50, 51, 52, 53, 54, 55, 56, 57, 58, 59, 60, 61, 62, 63, 64, 65, 66, 67, 68, 69, 70, 71, 72, 73, 74, 75, 76, 77, 78, 79, 80, 81, 82, 83, 84, 85, 86, 87, 88, 89, 90, 91, 92, 93, 94, 95, 96, 97, 98, 99, 100, 101, 102, 119, 120, 121, 122, 123, 124, 125, 126, 112, 113, 114, 115, 116, 117, 118, 127, 128, 129, 130, 131, 132, 133, 134] (by decide +kernel) (by decide +kernel)
set_option maxRecDepth 20000 in
theorem gX9_sheet_X8_afterOneRain_n203 : GoodIn wsX9_sheet (wsX8_afterOneRain) := ggX9_sheet_X8_afterOneRain
set_option maxRecDepth 20000 in
theorem ggX9_clouded_X9_isRule : GoodIn wsX9_clouded wsX9_isRule := goodIn_r _ [12, 13, 14, 11, 15] (by decide +kernel) (by decide +kernel)
set_option maxRecDepth 20000 in
theorem gX9_clouded_X9_isRule : GoodIn wsX9_clouded (va_wsS RX9 186 yX9_isRule wsX9_isRule) := goodIn_app (goodIn_of _ (by decide +kernel)) ggX9_clouded_X9_isRule
set_option maxRecDepth 20000 in
theorem ggX9_clouded_X8_afterOneRain : GoodIn wsX9_clouded wsX8_afterOneRain := goodIn_r _ [19, 20, 21, 22, 23, 17, 24, 25, 26, 27, 28, 29, 30, 31, 32, 33, 34, 35, 36, 37, 38, 39, 40, 41, 42, 43, 44, 14, 11, 15, 45, 46, 47, 13, 48, 49, 50, 51, 52, 53, 54, 3, 4, 5, 55, 56, 57, 58, 59, 60, 61, 62, 63, 64, 65, 66, 67, 68, 69, 70, 71, 72, 73, 74, 75, 76, 77, 78, 79, 80, 81, 82, 83, 84, 85, 86, 87, 88, 89, 90, 91, 92, 93, 94, 95, 96, 97, 98, 99, 100, 101, 102, 103, 104, 105, 130, 131, 132, 133, 134, 135, 136, 137, 120, 121, 122, 123, 124, 125, 126, 127, 128, 129, 138, 139, 140, 141, 142] (by decide +kernel) (by decide +kernel)
set_option maxRecDepth 20000 in
theorem gX9_clouded_X8_afterOneRain_n203 : GoodIn wsX9_clouded (wsX8_afterOneRain) := ggX9_clouded_X8_afterOneRain
set_option maxRecDepth 20000 in
theorem ggX9_clouded_X0_chance : GoodIn wsX9_clouded wsX0_chance := goodIn_r _ [64, 65, 66, 67, 4, 68, 45, 11, 46, 47, 13, 14, 15, 69, 70, 71, 36, 72, 73, 74, 75, 76, 77, 78, 79, 80, 81, 82, 83, 62, 63, 138, 139, 140, 141, 142] (by decide +kernel) (by decide +kernel)
set_option maxRecDepth 20000 in
theorem gX9_clouded_X0_chance_n140 : GoodIn wsX9_clouded (wsX0_chance) := ggX9_clouded_X0_chance
set_option maxRecDepth 20000 in
theorem ggX9_clouded_X9_power : GoodIn wsX9_clouded wsX9_power := goodIn_r _ [46, 47, 13, 14, 11, 15] (by decide +kernel) (by decide +kernel)
set_option maxRecDepth 20000 in
theorem gX9_clouded_X9_power : GoodIn wsX9_clouded (va_wsS RX9 132 yX9_power wsX9_power) := goodIn_app (goodIn_of _ (by decide +kernel)) ggX9_clouded_X9_power
set_option maxRecDepth 20000 in
theorem ggX9_clouded_X9_inMillionths : GoodIn wsX9_clouded wsX9_inMillionths := goodIn_r _ [109, 106, 45, 11, 46, 47, 13, 14, 15, 110, 48, 49] (by decide +kernel) (by decide +kernel)
set_option maxRecDepth 20000 in
theorem gX9_clouded_X9_inMillionths : GoodIn wsX9_clouded (va_wsS RX9 218 yX9_inMillionths wsX9_inMillionths) := goodIn_app (goodIn_of _ (by decide +kernel)) ggX9_clouded_X9_inMillionths
set_option maxRecDepth 20000 in
theorem ggX9_simple_X9_within : GoodIn wsX9_simple wsX9_within := goodIn_r _ [5] (by decide +kernel) (by decide +kernel)
set_option maxRecDepth 20000 in
theorem gX9_simple_X9_within : GoodIn wsX9_simple (va_wsS RX9 85 yX9_within wsX9_within) := goodIn_app (goodIn_of _ (by decide +kernel)) ggX9_simple_X9_within
set_option maxRecDepth 20000 in
theorem ggX9_simple_X8_keepOddsOnSheet : GoodIn wsX9_simple wsX8_keepOddsOnSheet := goodIn_r _ [9, 10, 11, 12, 13, 14, 7, 15, 16, 17, 18, 19, 20, 21, 22, 23, 24, 25, 26, 27, 28, 29, 30, 31, 32, 33, 34, 35, 4, 36, 37, 2, 3, 5, 38, 39, 40, 41, 42, 43, 44, 45, 46, 47, 48, 49, 50, 51, 52, 76, 77, 78, 79, 80, 81, 82, 83, 84, 85, 86, 87, 88, 89, 90, 91, 92, 93, 94, 95, 96, 97, 98] (by decide +kernel) (by decide +kernel)
set_option maxRecDepth 20000 in
theorem gX9_simple_X8_keepOddsOnSheet_n222 : GoodIn wsX9_simple (wsX8_keepOddsOnSheet) := ggX9_simple_X8_keepOddsOnSheet
set_option maxRecDepth 20000 in
theorem ggX9_simple_X8_differenceOf : GoodIn wsX9_simple wsX8_differenceOf := goodIn_r _ [55, 10, 11, 56, 57, 33, 58, 59, 60, 61, 7, 62, 19, 63, 64, 65, 66, 32, 34, 76, 77, 78, 79, 80, 81, 82, 83, 84, 85, 86, 87, 88, 89, 90, 91, 92, 93] (by decide +kernel) (by decide +kernel)
set_option maxRecDepth 20000 in
theorem gX9_simple_X8_differenceOf_n225 : GoodIn wsX9_simple (wsX8_differenceOf) := ggX9_simple_X8_differenceOf
set_option maxRecDepth 20000 in
theorem ggX9_match_X9_within : GoodIn wsX9_match wsX9_within := goodIn_r _ [5] (by decide +kernel) (by decide +kernel)
set_option maxRecDepth 20000 in
theorem gX9_match_X9_within : GoodIn wsX9_match (va_wsS RX9 85 yX9_within wsX9_within) := goodIn_app (goodIn_of _ (by decide +kernel)) ggX9_match_X9_within
set_option maxRecDepth 20000 in
theorem ggX9_match_X2_add : GoodIn wsX9_match wsX2_add := goodIn_r _ [9, 10, 11, 3, 4, 5, 21, 22] (by decide +kernel) (by decide +kernel)
set_option maxRecDepth 20000 in
theorem gX9_match_X2_add_n229 : GoodIn wsX9_match (wsX2_add) := ggX9_match_X2_add
set_option maxRecDepth 20000 in
theorem ggX9_tried_X2_differenceOf : GoodIn wsX9_tried wsX2_differenceOf := goodIn_r _ [7, 8, 9, 10, 11, 12, 13, 14, 15, 16, 17, 18, 19, 20, 21, 22, 23, 24, 25, 26, 27, 37, 38, 39, 40, 41, 42, 43, 44, 45, 46, 47, 48] (by decide +kernel) (by decide +kernel)
set_option maxRecDepth 20000 in
theorem gX9_tried_X2_differenceOf_n232 : GoodIn wsX9_tried (wsX2_differenceOf) := ggX9_tried_X2_differenceOf
set_option maxRecDepth 20000 in
theorem ggX9_tell_X4_number : GoodIn wsX9_tell wsX4_number := goodIn_r _ [6, 7, 8, 9, 10, 45, 46, 47, 48, 49, 50, 51] (by decide +kernel) (by decide +kernel)
set_option maxRecDepth 20000 in
theorem gX9_tell_X4_number_n238 : GoodIn wsX9_tell (wsX4_number) := ggX9_tell_X4_number
set_option maxRecDepth 20000 in
theorem ggX9_tell_X4_word : GoodIn wsX9_tell wsX4_word := goodIn_r _ [13, 14, 8, 9, 10, 45, 46, 47, 48, 49, 50, 51] (by decide +kernel) (by decide +kernel)
set_option maxRecDepth 20000 in
theorem gX9_tell_X4_word_n241 : GoodIn wsX9_tell (wsX4_word) := ggX9_tell_X4_word
set_option maxRecDepth 20000 in
theorem ggX9_tell_X9_tellMood : GoodIn wsX9_tell wsX9_tellMood := goodIn_r _ [18, 19, 1, 20, 21, 22, 23, 24, 8, 9, 10, 3, 4, 5, 6, 7, 25, 26, 27, 28, 29, 30, 31, 32, 33, 34, 35, 36, 37, 52, 53, 45, 46, 47, 48, 49, 50, 51] (by decide +kernel) (by decide +kernel)
set_option maxRecDepth 20000 in
theorem gX9_tell_X9_tellMood : GoodIn wsX9_tell (wsV RX9 244 RX9 yX9_tellMood wsX9_tellMood) := goodIn_app (goodIn_of _ (by decide +kernel)) ggX9_tell_X9_tellMood
set_option maxRecDepth 20000 in
theorem ggX9_tellMood_X3_forget : GoodIn wsX9_tellMood wsX3_forget := goodIn_r _ [6, 7, 8, 9, 10, 29, 30] (by decide +kernel) (by decide +kernel)
set_option maxRecDepth 20000 in
theorem gX9_tellMood_X3_forget_n253 : GoodIn wsX9_tellMood (wsX3_forget) := ggX9_tellMood_X3_forget
set_option maxRecDepth 20000 in
theorem ggX9_tellMood_X4_number : GoodIn wsX9_tellMood wsX4_number := goodIn_r _ [14, 15, 8, 9, 10, 31, 32, 33, 34, 35, 36, 37] (by decide +kernel) (by decide +kernel)
set_option maxRecDepth 20000 in
theorem gX9_tellMood_X4_number_n238 : GoodIn wsX9_tellMood (wsX4_number) := ggX9_tellMood_X4_number
set_option maxRecDepth 20000 in
theorem ggX9_tellMood_X3_add : GoodIn wsX9_tellMood wsX3_add := goodIn_r _ [18, 7, 19, 8, 9, 10, 29, 30] (by decide +kernel) (by decide +kernel)
set_option maxRecDepth 20000 in
theorem gX9_tellMood_X3_add_n256 : GoodIn wsX9_tellMood (wsX3_add) := ggX9_tellMood_X3_add
set_option maxRecDepth 20000 in
theorem ggX9_isLeft_X9_within : GoodIn wsX9_isLeft wsX9_within := goodIn_r _ [5] (by decide +kernel) (by decide +kernel)
set_option maxRecDepth 20000 in
theorem gX9_isLeft_X9_within : GoodIn wsX9_isLeft (va_wsS RX9 85 yX9_within wsX9_within) := goodIn_app (goodIn_of _ (by decide +kernel)) ggX9_isLeft_X9_within
set_option maxRecDepth 20000 in
theorem ggX9_isRule_X9_within : GoodIn wsX9_isRule wsX9_within := goodIn_r _ [4] (by decide +kernel) (by decide +kernel)
set_option maxRecDepth 20000 in
theorem gX9_isRule_X9_within : GoodIn wsX9_isRule (va_wsS RX9 85 yX9_within wsX9_within) := goodIn_app (goodIn_of _ (by decide +kernel)) ggX9_isRule_X9_within
set_option maxRecDepth 20000 in
theorem ggX9_power_X9_within : GoodIn wsX9_power wsX9_within := goodIn_r _ [5] (by decide +kernel) (by decide +kernel)
set_option maxRecDepth 20000 in
theorem gX9_power_X9_within : GoodIn wsX9_power (va_wsS RX9 85 yX9_within wsX9_within) := goodIn_app (goodIn_of _ (by decide +kernel)) ggX9_power_X9_within
set_option maxRecDepth 20000 in
theorem ggX9_inMillionths_X9_power : GoodIn wsX9_inMillionths wsX9_power := goodIn_r _ [4, 5, 6, 7, 3, 8] (by decide +kernel) (by decide +kernel)
set_option maxRecDepth 20000 in
theorem gX9_inMillionths_X9_power : GoodIn wsX9_inMillionths (va_wsS RX9 132 yX9_power wsX9_power) := goodIn_app (goodIn_of _ (by decide +kernel)) ggX9_inMillionths_X9_power
set_option maxRecDepth 20000 in
theorem ggX9_inMillionths_X9_cut : GoodIn wsX9_inMillionths wsX9_cut := goodIn_r _ [11] (by decide +kernel) (by decide +kernel)
set_option maxRecDepth 20000 in
theorem gX9_inMillionths_X9_cut : GoodIn wsX9_inMillionths (va_wsS RX9 263 yX9_cut wsX9_cut) := goodIn_app (goodIn_of _ (by decide +kernel)) ggX9_inMillionths_X9_cut
set_option maxRecDepth 20000 in
theorem ggX9_lowest_X9_commonDivisor : GoodIn wsX9_lowest wsX9_commonDivisor := goodIn_r _ [4] (by decide +kernel) (by decide +kernel)
set_option maxRecDepth 20000 in
theorem gX9_lowest_X9_commonDivisor : GoodIn wsX9_lowest (va_wsS RX9 267 yX9_commonDivisor wsX9_commonDivisor) := goodIn_app (goodIn_of _ (by decide +kernel)) ggX9_lowest_X9_commonDivisor
set_option maxRecDepth 20000 in
theorem ggX9_lowest_X9_cut : GoodIn wsX9_lowest wsX9_cut := goodIn_r _ [7] (by decide +kernel) (by decide +kernel)
set_option maxRecDepth 20000 in
theorem gX9_lowest_X9_cut : GoodIn wsX9_lowest (va_wsS RX9 263 yX9_cut wsX9_cut) := goodIn_app (goodIn_of _ (by decide +kernel)) ggX9_lowest_X9_cut
set_option maxRecDepth 20000 in
theorem ggX10_write_X10_in : GoodIn wsX10_write wsX10_in := goodIn_r _ [7] (by decide +kernel) (by decide +kernel)
set_option maxRecDepth 20000 in
theorem gX10_write_X10_in : GoodIn wsX10_write (va_wsS RX10 72 yX10_in wsX10_in) := goodIn_app (goodIn_of _ (by decide +kernel)) ggX10_write_X10_in
set_option maxRecDepth 20000 in
theorem ggX10_nextToken_X10_in : GoodIn wsX10_nextToken wsX10_in := goodIn_r _ [17] (by decide +kernel) (by decide +kernel)
set_option maxRecDepth 20000 in
theorem gX10_nextToken_X10_in : GoodIn wsX10_nextToken (va_wsS RX10 72 yX10_in wsX10_in) := goodIn_app (goodIn_of _ (by decide +kernel)) ggX10_nextToken_X10_in
set_option maxRecDepth 20000 in
theorem ggX10_isNumber_X10_nextToken : GoodIn wsX10_isNumber wsX10_nextToken := goodIn_r _ [9, 10, 11, 12, 13, 14, 3, 15, 1, 16, 17, 18, 2, 19, 20, 21, 8, 22, 28, 29, 30, 31, 32, 33, 34, 35, 36, 37, 38, 39, 40, 41, 42, 43, 44, 45, 46, 47, 48, 49, 50, 51, 52, 53, 54, 55, 56, 57, 58, 59, 60, 61, 62, 63, 64, 65, 66, 67] (by decide +kernel) (by decide +kernel)
set_option maxRecDepth 20000 in
theorem gX10_isNumber_X10_nextToken : GoodIn wsX10_isNumber (wsV RX10 112 RX10 yX10_nextToken wsX10_nextToken) := goodIn_app (goodIn_of _ (by decide +kernel)) ggX10_isNumber_X10_nextToken
set_option maxRecDepth 20000 in
theorem ggX10_isNumber_X10_in : GoodIn wsX10_isNumber wsX10_in := goodIn_r _ [22] (by decide +kernel) (by decide +kernel)
set_option maxRecDepth 20000 in
theorem gX10_isNumber_X10_in : GoodIn wsX10_isNumber (va_wsS RX10 72 yX10_in wsX10_in) := goodIn_app (goodIn_of _ (by decide +kernel)) ggX10_isNumber_X10_in
set_option maxRecDepth 20000 in
theorem ggX10_isNumber_X10_fails : GoodIn wsX10_isNumber wsX10_fails := goodIn_r _ [26, 13, 27, 28, 29, 30, 31, 32, 33, 34, 35, 36, 37, 38, 39, 40, 41, 42, 43, 44, 45, 46, 47, 48, 49, 50, 51, 52, 53, 54, 55, 56, 57, 58, 59, 60, 61, 62, 63, 64, 65, 66, 67] (by decide +kernel) (by decide +kernel)
set_option maxRecDepth 20000 in
theorem gX10_isNumber_X10_fails : GoodIn wsX10_isNumber (wsV RX10 115 RX10 yX10_fails wsX10_fails) := goodIn_app (goodIn_of _ (by decide +kernel)) ggX10_isNumber_X10_fails
set_option maxRecDepth 20000 in
theorem ggX10_isMood_X10_isNumber : GoodIn wsX10_isMood wsX10_isNumber := goodIn_r _ [6, 7, 8, 9, 1, 10, 11, 12, 5, 13, 14, 15, 16, 17, 18, 19, 20, 21, 22, 23, 24, 25, 26, 27, 28, 29, 30, 31, 32, 33, 34, 35, 36, 37, 38, 39, 40, 41, 42, 43, 44, 45, 46, 47, 48, 49, 50, 51, 52, 53, 54, 55, 56, 57, 58, 59, 60, 61, 62, 63, 64, 65, 66, 67, 68, 69, 70, 71] (by decide +kernel) (by decide +kernel)
set_option maxRecDepth 20000 in
theorem gX10_isMood_X10_isNumber : GoodIn wsX10_isMood (wsV RX10 119 RX10 yX10_isNumber wsX10_isNumber) := goodIn_app (goodIn_of _ (by decide +kernel)) ggX10_isMood_X10_isNumber
set_option maxRecDepth 20000 in
theorem ggX10_isLine_X10_nextToken : GoodIn wsX10_isLine wsX10_nextToken := goodIn_r _ [13, 14, 15, 16, 17, 18, 19, 20, 2, 21, 22, 23, 24, 25, 26, 27, 12, 28, 42, 43, 44, 45, 46, 47, 48, 49, 50, 51, 52, 53, 54, 55, 56, 57, 58, 59, 60, 61, 62, 63, 64, 65, 66, 67, 68, 69, 70, 71, 72, 73, 74, 75, 76, 77, 78, 79, 80, 81] (by decide +kernel) (by decide +kernel)
set_option maxRecDepth 20000 in
theorem gX10_isLine_X10_nextToken : GoodIn wsX10_isLine (wsV RX10 112 RX10 yX10_nextToken wsX10_nextToken) := goodIn_app (goodIn_of _ (by decide +kernel)) ggX10_isLine_X10_nextToken
set_option maxRecDepth 20000 in
theorem ggX10_isLine_X10_isNumber : GoodIn wsX10_isLine wsX10_isNumber := goodIn_r _ [32, 2, 24, 19, 1, 9, 10, 11, 12, 13, 14, 15, 16, 17, 18, 20, 21, 22, 23, 25, 26, 27, 28, 33, 34, 35, 36, 37, 42, 43, 44, 45, 46, 47, 48, 49, 50, 51, 52, 53, 54, 55, 56, 57, 58, 59, 60, 61, 62, 63, 64, 65, 66, 67, 68, 69, 70, 71, 72, 73, 74, 75, 76, 77, 78, 79, 80, 81] (by decide +kernel) (by decide +kernel)
set_option maxRecDepth 20000 in
theorem gX10_isLine_X10_isNumber : GoodIn wsX10_isLine (wsV RX10 119 RX10 yX10_isNumber wsX10_isNumber) := goodIn_app (goodIn_of _ (by decide +kernel)) ggX10_isLine_X10_isNumber
set_option maxRecDepth 20000 in
theorem ggX10_isLine_X10_isMood : GoodIn wsX10_isLine wsX10_isMood := goodIn_r _ [41, 1, 29, 30, 31, 12, 32, 2, 24, 19, 9, 10, 11, 13, 14, 15, 16, 17, 18, 20, 21, 22, 23, 25, 26, 27, 28, 33, 34, 35, 36, 37, 42, 43, 44, 45, 46, 47, 48, 49, 50, 51, 52, 53, 54, 55, 56, 57, 58, 59, 60, 61, 62, 63, 64, 65, 66, 67, 68, 69, 70, 71, 72, 73, 74, 75, 76, 77, 78, 79, 80, 81] (by decide +kernel) (by decide +kernel)
set_option maxRecDepth 20000 in
theorem gX10_isLine_X10_isMood : GoodIn wsX10_isLine (wsV RX10 134 RX10 yX10_isMood wsX10_isMood) := goodIn_app (goodIn_of _ (by decide +kernel)) ggX10_isLine_X10_isMood
set_option maxRecDepth 20000 in
theorem ggX10_isLine_X10_fails : GoodIn wsX10_isLine wsX10_fails := goodIn_r _ [36, 17, 37, 42, 43, 44, 45, 46, 47, 48, 49, 50, 51, 52, 53, 54, 55, 56, 57, 58, 59, 60, 61, 62, 63, 64, 65, 66, 67, 68, 69, 70, 71, 72, 73, 74, 75, 76, 77, 78, 79, 80, 81] (by decide +kernel) (by decide +kernel)
set_option maxRecDepth 20000 in
theorem gX10_isLine_X10_fails : GoodIn wsX10_isLine (wsV RX10 115 RX10 yX10_fails wsX10_fails) := goodIn_app (goodIn_of _ (by decide +kernel)) ggX10_isLine_X10_fails
set_option maxRecDepth 20000 in
theorem ggX10_isRead_X10_isLine : GoodIn wsX10_isRead wsX10_isLine := goodIn_r _ [10, 11, 3, 12, 13, 14, 15, 16, 17, 18, 19, 20, 9, 21, 1, 22, 23, 24, 25, 26, 5, 27, 28, 29, 30, 4, 31, 32, 33, 34, 35, 36, 37, 38, 39, 40, 41, 42, 43, 44, 45, 46, 47, 48, 49, 50, 51, 52, 53, 54, 55, 56, 57, 58, 59, 60, 61, 62, 63, 64, 65, 66, 67, 68, 69, 70, 71, 72, 73, 74, 75, 76, 77, 78, 79, 80, 81, 82, 83, 84, 85, 86] (by decide +kernel) (by decide +kernel)
set_option maxRecDepth 20000 in
theorem gX10_isRead_X10_isLine : GoodIn wsX10_isRead (wsV RX10 141 RX10 yX10_isLine wsX10_isLine) := goodIn_app (goodIn_of _ (by decide +kernel)) ggX10_isRead_X10_isLine
set_option maxRecDepth 20000 in
theorem ggX10_isRead_X10_nextToken : GoodIn wsX10_isRead wsX10_nextToken := goodIn_r _ [21, 1, 22, 23, 24, 25, 26, 5, 3, 27, 28, 29, 30, 4, 31, 32, 9, 33, 47, 48, 49, 50, 51, 52, 53, 54, 55, 56, 57, 58, 59, 60, 61, 62, 63, 64, 65, 66, 67, 68, 69, 70, 71, 72, 73, 74, 75, 76, 77, 78, 79, 80, 81, 82, 83, 84, 85, 86] (by decide +kernel) (by decide +kernel)
set_option maxRecDepth 20000 in
theorem gX10_isRead_X10_nextToken : GoodIn wsX10_isRead (wsV RX10 112 RX10 yX10_nextToken wsX10_nextToken) := goodIn_app (goodIn_of _ (by decide +kernel)) ggX10_isRead_X10_nextToken
set_option maxRecDepth 20000 in
theorem ggX10_isRead_X10_fails : GoodIn wsX10_isRead wsX10_fails := goodIn_r _ [41, 24, 42, 47, 48, 49, 50, 51, 52, 53, 54, 55, 56, 57, 58, 59, 60, 61, 62, 63, 64, 65, 66, 67, 68, 69, 70, 71, 72, 73, 74, 75, 76, 77, 78, 79, 80, 81, 82, 83, 84, 85, 86] (by decide +kernel) (by decide +kernel)
set_option maxRecDepth 20000 in
theorem gX10_isRead_X10_fails : GoodIn wsX10_isRead (wsV RX10 115 RX10 yX10_fails wsX10_fails) := goodIn_app (goodIn_of _ (by decide +kernel)) ggX10_isRead_X10_fails
set_option maxRecDepth 20000 in
theorem ggX10_fault_X10_isRead : GoodIn wsX10_fault wsX10_isRead := goodIn_r _ [6, 7, 8, 9, 10, 11, 12, 13, 14, 5, 15, 16, 17, 18, 19, 20, 21, 22, 23, 24, 25, 26, 27, 28, 29, 30, 31, 32, 33, 34, 35, 36, 37, 38, 39, 40, 41, 42, 43, 44, 45, 46, 1, 47, 48, 49, 50, 51, 52, 53, 54, 55, 56, 57, 58, 59, 60, 61, 62, 63, 64, 65, 66, 67, 68, 69, 70, 71, 72, 73, 74, 75, 76, 77, 78, 79, 80, 81, 82, 83, 84, 85, 86, 87, 88, 89, 90] (by decide +kernel) (by decide +kernel)
set_option maxRecDepth 20000 in
theorem gX10_fault_X10_isRead : GoodIn wsX10_fault (wsV RX10 144 RX10 yX10_isRead wsX10_isRead) := goodIn_app (goodIn_of _ (by decide +kernel)) ggX10_fault_X10_isRead
set_option maxRecDepth 20000 in
theorem ggX10_game_X10_isRead : GoodIn wsX10_game wsX10_isRead := goodIn_r _ [7, 8, 1, 9, 10, 11, 12, 13, 14, 6, 15, 16, 17, 18, 19, 20, 21, 22, 23, 24, 25, 26, 2, 27, 28, 29, 30, 31, 32, 33, 34, 35, 36, 37, 38, 39, 40, 41, 42, 43, 44, 45, 46, 47, 48, 49, 50, 67, 68, 69, 70, 71, 72, 73, 74, 75, 76, 77, 78, 79, 80, 81, 82, 83, 84, 85, 86, 87, 88, 89, 90, 91, 92, 93, 94, 95, 96, 97, 98, 99, 100, 101, 102, 103, 104, 105, 106] (by decide +kernel) (by decide +kernel)
set_option maxRecDepth 20000 in
theorem gX10_game_X10_isRead : GoodIn wsX10_game (wsV RX10 144 RX10 yX10_isRead wsX10_isRead) := goodIn_app (goodIn_of _ (by decide +kernel)) ggX10_game_X10_isRead
set_option maxRecDepth 20000 in
theorem ggX10_game_X10_doLine : GoodIn wsX10_game wsX10_doLine := goodIn_r _ [54, 16, 55, 56, 57, 58, 59, 60, 61, 62, 63, 64, 65, 66, 67, 68, 69, 70, 71, 72, 73, 74, 75, 76, 77, 78, 79, 80, 81, 82, 83, 84, 85, 86, 87, 88, 89, 90, 91, 92, 93, 94, 95, 96, 97, 98, 99, 100, 101, 102, 103, 104, 105, 106] (by decide +kernel) (by decide +kernel)
set_option maxRecDepth 20000 in
theorem gX10_game_X10_doLine : GoodIn wsX10_game (wsV RX10 163 RX10 yX10_doLine wsX10_doLine) := goodIn_app (goodIn_of _ (by decide +kernel)) ggX10_game_X10_doLine
set_option maxRecDepth 20000 in
theorem ggX10_mood_X10_in : GoodIn wsX10_mood wsX10_in := goodIn_r _ [6] (by decide +kernel) (by decide +kernel)
set_option maxRecDepth 20000 in
theorem gX10_mood_X10_in : GoodIn wsX10_mood (va_wsS RX10 72 yX10_in wsX10_in) := goodIn_app (goodIn_of _ (by decide +kernel)) ggX10_mood_X10_in
set_option maxRecDepth 20000 in
theorem ggX10_winsOf_X10_ten : GoodIn wsX10_winsOf wsX10_ten := goodIn_r _ [5, 6] (by decide +kernel) (by decide +kernel)
set_option maxRecDepth 20000 in
theorem gX10_winsOf_X10_ten : GoodIn wsX10_winsOf (va_wsS RX10 167 yX10_ten wsX10_ten) := goodIn_app (goodIn_of _ (by decide +kernel)) ggX10_winsOf_X10_ten
set_option maxRecDepth 20000 in
theorem ggX10_makesBy_X10_ten : GoodIn wsX10_makesBy wsX10_ten := goodIn_r _ [6, 7] (by decide +kernel) (by decide +kernel)
set_option maxRecDepth 20000 in
theorem gX10_makesBy_X10_ten : GoodIn wsX10_makesBy (va_wsS RX10 167 yX10_ten wsX10_ten) := goodIn_app (goodIn_of _ (by decide +kernel)) ggX10_makesBy_X10_ten
set_option maxRecDepth 20000 in
theorem ggX10_makesBy_X10_rest : GoodIn wsX10_makesBy wsX10_rest := goodIn_r _ [10] (by decide +kernel) (by decide +kernel)
set_option maxRecDepth 20000 in
theorem gX10_makesBy_X10_rest : GoodIn wsX10_makesBy (va_wsS RX10 171 yX10_rest wsX10_rest) := goodIn_app (goodIn_of _ (by decide +kernel)) ggX10_makesBy_X10_rest
set_option maxRecDepth 20000 in
theorem ggX10_makesBy_X10_makesOf : GoodIn wsX10_makesBy wsX10_makesOf := goodIn_r _ [14, 15, 16, 17, 18, 19, 20, 21, 22, 23, 24, 25, 26, 27, 28, 29, 30, 31, 32, 33, 34, 35, 36, 37, 38, 39, 40, 41, 42, 43, 44, 45, 46, 47, 48, 49, 50, 51, 52, 53, 54, 55] (by decide +kernel) (by decide +kernel)
set_option maxRecDepth 20000 in
theorem gX10_makesBy_X10_makesOf : GoodIn wsX10_makesBy (wsV RX10 175 RX10 yX10_makesOf wsX10_makesOf) := goodIn_app (goodIn_of _ (by decide +kernel)) ggX10_makesBy_X10_makesOf
set_option maxRecDepth 20000 in
theorem ggX10_winsBy_X10_rest : GoodIn wsX10_winsBy wsX10_rest := goodIn_r _ [6] (by decide +kernel) (by decide +kernel)
set_option maxRecDepth 20000 in
theorem gX10_winsBy_X10_rest : GoodIn wsX10_winsBy (va_wsS RX10 171 yX10_rest wsX10_rest) := goodIn_app (goodIn_of _ (by decide +kernel)) ggX10_winsBy_X10_rest
set_option maxRecDepth 20000 in
theorem ggX10_winsBy_X10_winsOf : GoodIn wsX10_winsBy wsX10_winsOf := goodIn_r _ [10, 11, 12, 13, 5, 14, 15, 16, 17, 18, 19, 20, 21, 22, 23, 24, 25, 26, 27, 28, 29, 30, 31, 32, 33, 34, 35, 36, 37, 38, 39, 40, 41, 42, 43, 44, 45, 46, 47, 48, 49, 50, 51, 52, 53, 54, 55] (by decide +kernel) (by decide +kernel)
set_option maxRecDepth 20000 in
theorem gX10_winsBy_X10_winsOf : GoodIn wsX10_winsBy (wsV RX10 179 RX10 yX10_winsOf wsX10_winsOf) := goodIn_app (goodIn_of _ (by decide +kernel)) ggX10_winsBy_X10_winsOf
set_option maxRecDepth 20000 in
theorem ggX10_layOut_X10_makesBy : GoodIn wsX10_layOut wsX10_makesBy := goodIn_r _ [11, 6, 12, 13, 14, 10, 15, 16, 17, 18, 19, 20, 21, 22, 23, 4, 39, 40, 41, 42, 43, 44, 45, 46, 47, 48, 49, 50, 51, 52, 53, 54, 55, 56, 57, 58, 59, 60, 61, 62, 63, 64, 65, 66, 67, 68, 69, 70, 71, 72, 73, 74, 75, 76, 77, 78] (by decide +kernel) (by decide +kernel)
set_option maxRecDepth 20000 in
theorem gX10_layOut_X10_makesBy : GoodIn wsX10_layOut (wsV RX10 183 RX10 yX10_makesBy wsX10_makesBy) := goodIn_app (goodIn_of _ (by decide +kernel)) ggX10_layOut_X10_makesBy
set_option maxRecDepth 20000 in
theorem ggX10_layOut_X10_greater : GoodIn wsX10_layOut wsX10_greater := goodIn_r _ [26] (by decide +kernel) (by decide +kernel)
set_option maxRecDepth 20000 in
theorem gX10_layOut_X10_greater : GoodIn wsX10_layOut (va_wsS RX10 186 yX10_greater wsX10_greater) := goodIn_app (goodIn_of _ (by decide +kernel)) ggX10_layOut_X10_greater
set_option maxRecDepth 20000 in
theorem ggX10_layOut_X10_layWins : GoodIn wsX10_layOut wsX10_layWins := goodIn_r _ [30, 5, 31, 32, 33, 10, 34, 6, 12, 17, 18, 19, 35, 36, 37, 38, 13, 14, 15, 16, 24, 25, 26, 39, 40, 41, 42, 43, 44, 45, 46, 47, 48, 49, 50, 51, 52, 53, 54, 55, 56, 57, 58, 59, 60, 61, 62, 63, 64, 65, 66, 67, 68, 69, 70, 71, 72, 73, 74, 75, 76, 77, 78] (by decide +kernel) (by decide +kernel)
set_option maxRecDepth 20000 in
theorem gX10_layOut_X10_layWins : GoodIn wsX10_layOut (wsV RX10 190 RX10 yX10_layWins wsX10_layWins) := goodIn_app (goodIn_of _ (by decide +kernel)) ggX10_layOut_X10_layWins
set_option maxRecDepth 20000 in
theorem ggX10_layWins_X10_winsBy : GoodIn wsX10_layWins wsX10_winsBy := goodIn_r _ [6, 7, 8, 9, 10, 5, 11, 12, 13, 14, 15, 1, 16, 17, 18, 19, 23, 24, 25, 26, 27, 28, 29, 30, 31, 32, 33, 34, 35, 36, 37, 38, 39, 40, 41, 42, 43, 44, 45, 46, 47, 48, 49, 50, 51, 52, 53, 54, 55, 56, 57, 58, 59, 60, 61, 62] (by decide +kernel) (by decide +kernel)
set_option maxRecDepth 20000 in
theorem gX10_layWins_X10_winsBy : GoodIn wsX10_layWins (wsV RX10 194 RX10 yX10_winsBy wsX10_winsBy) := goodIn_app (goodIn_of _ (by decide +kernel)) ggX10_layWins_X10_winsBy
set_option maxRecDepth 20000 in
theorem ggX10_layWins_X10_greater : GoodIn wsX10_layWins wsX10_greater := goodIn_r _ [22] (by decide +kernel) (by decide +kernel)
set_option maxRecDepth 20000 in
theorem gX10_layWins_X10_greater : GoodIn wsX10_layWins (va_wsS RX10 186 yX10_greater wsX10_greater) := goodIn_app (goodIn_of _ (by decide +kernel)) ggX10_layWins_X10_greater
set_option maxRecDepth 20000 in
theorem ggX10_areIn_X10_in : GoodIn wsX10_areIn wsX10_in := goodIn_r _ [6] (by decide +kernel) (by decide +kernel)
set_option maxRecDepth 20000 in
theorem gX10_areIn_X10_in : GoodIn wsX10_areIn (va_wsS RX10 72 yX10_in wsX10_in) := goodIn_app (goodIn_of _ (by decide +kernel)) ggX10_areIn_X10_in
set_option maxRecDepth 20000 in
theorem ggX10_makes_X10_areIn : GoodIn wsX10_makes wsX10_areIn := goodIn_r _ [6, 7, 8, 9, 10, 5, 11, 54, 55, 56, 57, 58, 59, 60, 61, 62, 63, 64, 65, 66, 67, 68, 69, 70, 71, 72, 73, 74, 75, 76, 77, 78, 79, 80, 81, 82, 83, 84, 85, 86, 87, 88, 89, 90, 91, 92, 93] (by decide +kernel) (by decide +kernel)
set_option maxRecDepth 20000 in
theorem gX10_makes_X10_areIn : GoodIn wsX10_makes (wsV RX10 198 RX10 yX10_areIn wsX10_areIn) := goodIn_app (goodIn_of _ (by decide +kernel)) ggX10_makes_X10_areIn
set_option maxRecDepth 20000 in
theorem ggX10_makes_X10_in : GoodIn wsX10_makes wsX10_in := goodIn_r _ [11] (by decide +kernel) (by decide +kernel)
set_option maxRecDepth 20000 in
theorem gX10_makes_X10_in : GoodIn wsX10_makes (va_wsS RX10 72 yX10_in wsX10_in) := goodIn_app (goodIn_of _ (by decide +kernel)) ggX10_makes_X10_in
set_option maxRecDepth 20000 in
theorem ggX10_makes_X10_layOut : GoodIn wsX10_makes wsX10_layOut := goodIn_r _ [15, 16, 7, 8, 17, 18, 19, 20, 21, 22, 5, 23, 24, 25, 26, 27, 28, 29, 30, 31, 32, 33, 34, 35, 36, 37, 38, 39, 40, 41, 42, 43, 44, 45, 46, 47, 48, 49, 50, 54, 55, 56, 57, 58, 59, 60, 61, 62, 63, 64, 65, 66, 67, 68, 69, 70, 71, 72, 73, 74, 75, 76, 77, 78, 79, 80, 81, 82, 83, 84, 85, 86, 87, 88, 89, 90, 91, 92, 93] (by decide +kernel) (by decide +kernel)
set_option maxRecDepth 20000 in
theorem gX10_makes_X10_layOut : GoodIn wsX10_makes (wsV RX10 202 RX10 yX10_layOut wsX10_layOut) := goodIn_app (goodIn_of _ (by decide +kernel)) ggX10_makes_X10_layOut
set_option maxRecDepth 20000 in
theorem ggX10_makes_X10_makesOf : GoodIn wsX10_makes wsX10_makesOf := goodIn_r _ [35, 17, 54, 55, 56, 57, 58, 59, 60, 61, 62, 63, 64, 65, 66, 67, 68, 69, 70, 71, 72, 73, 74, 75, 76, 77, 78, 79, 80, 81, 82, 83, 84, 85, 86, 87, 88, 89, 90, 91, 92, 93] (by decide +kernel) (by decide +kernel)
set_option maxRecDepth 20000 in
theorem gX10_makes_X10_makesOf : GoodIn wsX10_makes (wsV RX10 175 RX10 yX10_makesOf wsX10_makesOf) := goodIn_app (goodIn_of _ (by decide +kernel)) ggX10_makes_X10_makesOf
set_option maxRecDepth 20000 in
theorem ggX10_makes_X10_ten : GoodIn wsX10_makes wsX10_ten := goodIn_r _ [27, 28] (by decide +kernel) (by decide +kernel)
set_option maxRecDepth 20000 in
theorem gX10_makes_X10_ten : GoodIn wsX10_makes (va_wsS RX10 167 yX10_ten wsX10_ten) := goodIn_app (goodIn_of _ (by decide +kernel)) ggX10_makes_X10_ten
set_option maxRecDepth 20000 in
theorem ggX10_makes_X10_partOf : GoodIn wsX10_makes wsX10_partOf := goodIn_r _ [53] (by decide +kernel) (by decide +kernel)
set_option maxRecDepth 20000 in
theorem gX10_makes_X10_partOf : GoodIn wsX10_makes (va_wsS RX10 205 yX10_partOf wsX10_partOf) := goodIn_app (goodIn_of _ (by decide +kernel)) ggX10_makes_X10_partOf
set_option maxRecDepth 20000 in
theorem ggX10_wins_X10_areIn : GoodIn wsX10_wins wsX10_areIn := goodIn_r _ [6, 7, 8, 9, 10, 5, 11, 54, 55, 56, 57, 58, 59, 60, 61, 62, 63, 64, 65, 66, 67, 68, 69, 70, 71, 72, 73, 74, 75, 76, 77, 78, 79, 80, 81, 82, 83, 84, 85, 86, 87, 88, 89, 90, 91, 92, 93] (by decide +kernel) (by decide +kernel)
set_option maxRecDepth 20000 in
theorem gX10_wins_X10_areIn : GoodIn wsX10_wins (wsV RX10 198 RX10 yX10_areIn wsX10_areIn) := goodIn_app (goodIn_of _ (by decide +kernel)) ggX10_wins_X10_areIn
set_option maxRecDepth 20000 in
theorem ggX10_wins_X10_in : GoodIn wsX10_wins wsX10_in := goodIn_r _ [11] (by decide +kernel) (by decide +kernel)
set_option maxRecDepth 20000 in
theorem gX10_wins_X10_in : GoodIn wsX10_wins (va_wsS RX10 72 yX10_in wsX10_in) := goodIn_app (goodIn_of _ (by decide +kernel)) ggX10_wins_X10_in
set_option maxRecDepth 20000 in
theorem ggX10_wins_X10_layOut : GoodIn wsX10_wins wsX10_layOut := goodIn_r _ [15, 16, 7, 8, 17, 18, 19, 20, 21, 22, 5, 23, 24, 25, 26, 27, 28, 29, 30, 31, 32, 33, 34, 35, 36, 37, 38, 39, 40, 41, 42, 43, 44, 45, 46, 47, 48, 49, 50, 54, 55, 56, 57, 58, 59, 60, 61, 62, 63, 64, 65, 66, 67, 68, 69, 70, 71, 72, 73, 74, 75, 76, 77, 78, 79, 80, 81, 82, 83, 84, 85, 86, 87, 88, 89, 90, 91, 92, 93] (by decide +kernel) (by decide +kernel)
set_option maxRecDepth 20000 in
theorem gX10_wins_X10_layOut : GoodIn wsX10_wins (wsV RX10 202 RX10 yX10_layOut wsX10_layOut) := goodIn_app (goodIn_of _ (by decide +kernel)) ggX10_wins_X10_layOut
set_option maxRecDepth 20000 in
theorem ggX10_wins_X10_winsOf : GoodIn wsX10_wins wsX10_winsOf := goodIn_r _ [50, 18, 25, 26, 5, 27, 28, 54, 55, 56, 57, 58, 59, 60, 61, 62, 63, 64, 65, 66, 67, 68, 69, 70, 71, 72, 73, 74, 75, 76, 77, 78, 79, 80, 81, 82, 83, 84, 85, 86, 87, 88, 89, 90, 91, 92, 93] (by decide +kernel) (by decide +kernel)
set_option maxRecDepth 20000 in
theorem gX10_wins_X10_winsOf : GoodIn wsX10_wins (wsV RX10 179 RX10 yX10_winsOf wsX10_winsOf) := goodIn_app (goodIn_of _ (by decide +kernel)) ggX10_wins_X10_winsOf
set_option maxRecDepth 20000 in
theorem ggX10_wins_X10_ten : GoodIn wsX10_wins wsX10_ten := goodIn_r _ [27, 28] (by decide +kernel) (by decide +kernel)
set_option maxRecDepth 20000 in
theorem gX10_wins_X10_ten : GoodIn wsX10_wins (va_wsS RX10 167 yX10_ten wsX10_ten) := goodIn_app (goodIn_of _ (by decide +kernel)) ggX10_wins_X10_ten
set_option maxRecDepth 20000 in
theorem ggX10_wins_X10_partOf : GoodIn wsX10_wins wsX10_partOf := goodIn_r _ [53] (by decide +kernel) (by decide +kernel)
set_option maxRecDepth 20000 in
theorem gX10_wins_X10_partOf : GoodIn wsX10_wins (va_wsS RX10 205 yX10_partOf wsX10_partOf) := goodIn_app (goodIn_of _ (by decide +kernel)) ggX10_wins_X10_partOf
set_option maxRecDepth 20000 in
theorem ggX10_best_X10_areIn : GoodIn wsX10_best wsX10_areIn := goodIn_r _ [6, 7, 8, 9, 10, 5, 11, 50, 51, 52, 53, 54, 55, 56, 57, 58, 59, 60, 61, 62, 63, 64, 65, 66, 67, 68, 69, 70, 71, 72, 73, 74, 75, 76, 77, 78, 79, 80, 81, 82, 83, 84, 85, 86, 87, 88, 89] (by decide +kernel) (by decide +kernel)
set_option maxRecDepth 20000 in
theorem gX10_best_X10_areIn : GoodIn wsX10_best (wsV RX10 198 RX10 yX10_areIn wsX10_areIn) := goodIn_app (goodIn_of _ (by decide +kernel)) ggX10_best_X10_areIn
set_option maxRecDepth 20000 in
theorem ggX10_best_X10_in : GoodIn wsX10_best wsX10_in := goodIn_r _ [11] (by decide +kernel) (by decide +kernel)
set_option maxRecDepth 20000 in
theorem gX10_best_X10_in : GoodIn wsX10_best (va_wsS RX10 72 yX10_in wsX10_in) := goodIn_app (goodIn_of _ (by decide +kernel)) ggX10_best_X10_in
set_option maxRecDepth 20000 in
theorem ggX10_best_X10_layOut : GoodIn wsX10_best wsX10_layOut := goodIn_r _ [15, 16, 7, 8, 17, 18, 1, 19, 20, 21, 5, 22, 23, 24, 25, 26, 27, 28, 29, 30, 31, 32, 33, 34, 35, 36, 37, 38, 39, 40, 41, 42, 43, 44, 45, 46, 47, 48, 49, 50, 51, 52, 53, 54, 55, 56, 57, 58, 59, 60, 61, 62, 63, 64, 65, 66, 67, 68, 69, 70, 71, 72, 73, 74, 75, 76, 77, 78, 79, 80, 81, 82, 83, 84, 85, 86, 87, 88, 89] (by decide +kernel) (by decide +kernel)
set_option maxRecDepth 20000 in
theorem gX10_best_X10_layOut : GoodIn wsX10_best (wsV RX10 202 RX10 yX10_layOut wsX10_layOut) := goodIn_app (goodIn_of _ (by decide +kernel)) ggX10_best_X10_layOut
set_option maxRecDepth 20000 in
theorem ggX10_best_X10_makesBy : GoodIn wsX10_best wsX10_makesBy := goodIn_r _ [22, 1, 23, 24, 25, 5, 26, 27, 28, 29, 30, 31, 32, 33, 34, 17, 50, 51, 52, 53, 54, 55, 56, 57, 58, 59, 60, 61, 62, 63, 64, 65, 66, 67, 68, 69, 70, 71, 72, 73, 74, 75, 76, 77, 78, 79, 80, 81, 82, 83, 84, 85, 86, 87, 88, 89] (by decide +kernel) (by decide +kernel)
set_option maxRecDepth 20000 in
theorem gX10_best_X10_makesBy : GoodIn wsX10_best (wsV RX10 183 RX10 yX10_makesBy wsX10_makesBy) := goodIn_app (goodIn_of _ (by decide +kernel)) ggX10_best_X10_makesBy
set_option maxRecDepth 20000 in
theorem ggX10_best_X10_makesOf : GoodIn wsX10_best wsX10_makesOf := goodIn_r _ [34, 17, 50, 51, 52, 53, 54, 55, 56, 57, 58, 59, 60, 61, 62, 63, 64, 65, 66, 67, 68, 69, 70, 71, 72, 73, 74, 75, 76, 77, 78, 79, 80, 81, 82, 83, 84, 85, 86, 87, 88, 89] (by decide +kernel) (by decide +kernel)
set_option maxRecDepth 20000 in
theorem gX10_best_X10_makesOf : GoodIn wsX10_best (wsV RX10 175 RX10 yX10_makesOf wsX10_makesOf) := goodIn_app (goodIn_of _ (by decide +kernel)) ggX10_best_X10_makesOf
set_option maxRecDepth 20000 in
theorem ggX10_best_X10_winsBy : GoodIn wsX10_best wsX10_winsBy := goodIn_r _ [45, 1, 23, 28, 29, 5, 30, 46, 47, 48, 49, 18, 24, 25, 26, 27, 50, 51, 52, 53, 54, 55, 56, 57, 58, 59, 60, 61, 62, 63, 64, 65, 66, 67, 68, 69, 70, 71, 72, 73, 74, 75, 76, 77, 78, 79, 80, 81, 82, 83, 84, 85, 86, 87, 88, 89] (by decide +kernel) (by decide +kernel)
set_option maxRecDepth 20000 in
theorem gX10_best_X10_winsBy : GoodIn wsX10_best (wsV RX10 194 RX10 yX10_winsBy wsX10_winsBy) := goodIn_app (goodIn_of _ (by decide +kernel)) ggX10_best_X10_winsBy
set_option maxRecDepth 20000 in
theorem ggX10_best_X10_winsOf : GoodIn wsX10_best wsX10_winsOf := goodIn_r _ [49, 18, 24, 25, 5, 26, 27, 50, 51, 52, 53, 54, 55, 56, 57, 58, 59, 60, 61, 62, 63, 64, 65, 66, 67, 68, 69, 70, 71, 72, 73, 74, 75, 76, 77, 78, 79, 80, 81, 82, 83, 84, 85, 86, 87, 88, 89] (by decide +kernel) (by decide +kernel)
set_option maxRecDepth 20000 in
theorem gX10_best_X10_winsOf : GoodIn wsX10_best (wsV RX10 179 RX10 yX10_winsOf wsX10_winsOf) := goodIn_app (goodIn_of _ (by decide +kernel)) ggX10_best_X10_winsOf
set_option maxRecDepth 20000 in
theorem ggX10_spendOf_X10_layOut : GoodIn wsX10_spendOf wsX10_layOut := goodIn_r _ [8, 9, 1, 2, 10, 11, 12, 13, 14, 15, 7, 16, 17, 18, 19, 20, 21, 22, 23, 24, 25, 26, 27, 28, 29, 30, 31, 32, 33, 34, 35, 36, 37, 38, 39, 40, 41, 42, 43, 44, 45, 46, 47, 48, 49, 50, 51, 52, 53, 54, 55, 56, 57, 58, 59, 60, 61, 62, 63, 64, 65, 66, 67, 68, 69, 70, 71, 72, 73, 74, 75, 76, 77, 78, 79, 80, 81, 82, 83] (by decide +kernel) (by decide +kernel)
set_option maxRecDepth 20000 in
theorem gX10_spendOf_X10_layOut : GoodIn wsX10_spendOf (wsV RX10 202 RX10 yX10_layOut wsX10_layOut) := goodIn_app (goodIn_of _ (by decide +kernel)) ggX10_spendOf_X10_layOut
set_option maxRecDepth 20000 in
theorem ggX10_spendOf_X10_makesOf : GoodIn wsX10_spendOf wsX10_makesOf := goodIn_r _ [28, 10, 44, 45, 46, 47, 48, 49, 50, 51, 52, 53, 54, 55, 56, 57, 58, 59, 60, 61, 62, 63, 64, 65, 66, 67, 68, 69, 70, 71, 72, 73, 74, 75, 76, 77, 78, 79, 80, 81, 82, 83] (by decide +kernel) (by decide +kernel)
set_option maxRecDepth 20000 in
theorem gX10_spendOf_X10_makesOf : GoodIn wsX10_spendOf (wsV RX10 175 RX10 yX10_makesOf wsX10_makesOf) := goodIn_app (goodIn_of _ (by decide +kernel)) ggX10_spendOf_X10_makesOf
set_option maxRecDepth 20000 in
theorem ggX10_spendOf_X10_ten : GoodIn wsX10_spendOf wsX10_ten := goodIn_r _ [20, 21] (by decide +kernel) (by decide +kernel)
set_option maxRecDepth 20000 in
theorem gX10_spendOf_X10_ten : GoodIn wsX10_spendOf (va_wsS RX10 167 yX10_ten wsX10_ten) := goodIn_app (goodIn_of _ (by decide +kernel)) ggX10_spendOf_X10_ten
set_option maxRecDepth 20000 in
theorem ggX10_spend_X10_areIn : GoodIn wsX10_spend wsX10_areIn := goodIn_r _ [5, 6, 7, 8, 9, 4, 10, 55, 56, 57, 58, 59, 60, 61, 62, 63, 64, 65, 66, 67, 68, 69, 70, 71, 72, 73, 74, 75, 76, 77, 78, 79, 80, 81, 82, 83, 84, 85, 86, 87, 88, 89, 90, 91, 92, 93, 94] (by decide +kernel) (by decide +kernel)
set_option maxRecDepth 20000 in
theorem gX10_spend_X10_areIn : GoodIn wsX10_spend (wsV RX10 198 RX10 yX10_areIn wsX10_areIn) := goodIn_app (goodIn_of _ (by decide +kernel)) ggX10_spend_X10_areIn
set_option maxRecDepth 20000 in
theorem ggX10_spend_X10_spendOf : GoodIn wsX10_spend wsX10_spendOf := goodIn_r _ [14, 6, 7, 15, 16, 17, 18, 4, 19, 20, 21, 22, 23, 24, 25, 26, 27, 28, 29, 30, 31, 32, 33, 34, 35, 36, 37, 38, 39, 40, 41, 42, 43, 44, 45, 46, 47, 48, 49, 50, 51, 52, 53, 54, 55, 56, 57, 58, 59, 60, 61, 62, 63, 64, 65, 66, 67, 68, 69, 70, 71, 72, 73, 74, 75, 76, 77, 78, 79, 80, 81, 82, 83, 84, 85, 86, 87, 88, 89, 90, 91, 92, 93, 94] (by decide +kernel) (by decide +kernel)
set_option maxRecDepth 20000 in
theorem gX10_spend_X10_spendOf : GoodIn wsX10_spend (wsV RX10 211 RX10 yX10_spendOf wsX10_spendOf) := goodIn_app (goodIn_of _ (by decide +kernel)) ggX10_spend_X10_spendOf
set_option maxRecDepth 20000 in
theorem ggX10_bat_X10_in : GoodIn wsX10_bat wsX10_in := goodIn_r _ [7] (by decide +kernel) (by decide +kernel)
set_option maxRecDepth 20000 in
theorem gX10_bat_X10_in : GoodIn wsX10_bat (va_wsS RX10 72 yX10_in wsX10_in) := goodIn_app (goodIn_of _ (by decide +kernel)) ggX10_bat_X10_in
set_option maxRecDepth 20000 in
theorem ggX10_anew_X10_firstAll : GoodIn wsX10_anew wsX10_firstAll := goodIn_r _ [7, 1, 8, 9, 10, 11, 12, 13, 14, 15, 16, 17, 18, 19, 20, 21, 22, 23, 24, 25, 26, 27, 28, 29, 30, 31, 32, 33, 34, 35, 36, 37, 38, 39, 40, 41, 42, 43, 44, 45, 46, 47, 48] (by decide +kernel) (by decide +kernel)
set_option maxRecDepth 20000 in
theorem gX10_anew_X10_firstAll : GoodIn wsX10_anew (wsV RX10 214 RX10 yX10_firstAll wsX10_firstAll) := goodIn_app (goodIn_of _ (by decide +kernel)) ggX10_anew_X10_firstAll
set_option maxRecDepth 20000 in
theorem ggX10_goTo_X10_begin : GoodIn wsX10_goTo wsX10_begin := goodIn_r _ [11, 12, 2, 13, 3, 5, 14, 15, 16, 17, 18, 19, 20, 10, 21, 22, 23, 24, 25, 26, 27, 28, 29, 30, 31, 32, 33, 34, 35, 36, 37, 38, 39, 40, 41, 42, 43, 44, 45, 46, 47, 48, 49, 50, 51, 52, 53, 54, 55, 56, 57, 58, 59, 60, 61, 62, 78, 79, 80, 81, 82, 83, 84, 85, 86, 87, 88, 89, 90, 91, 92, 93, 94, 95, 96, 97, 98, 99, 100, 101, 102, 103, 104, 105, 106, 107, 108, 109, 110, 111, 112, 113, 114, 115, 116, 117] (by decide +kernel) (by decide +kernel)
set_option maxRecDepth 20000 in
theorem gX10_goTo_X10_begin : GoodIn wsX10_goTo (wsV RX10 218 RX10 yX10_begin wsX10_begin) := goodIn_app (goodIn_of _ (by decide +kernel)) ggX10_goTo_X10_begin
set_option maxRecDepth 20000 in
theorem ggX10_goTo_X10_rest : GoodIn wsX10_goTo wsX10_rest := goodIn_r _ [37] (by decide +kernel) (by decide +kernel)
set_option maxRecDepth 20000 in
theorem gX10_goTo_X10_rest : GoodIn wsX10_goTo (va_wsS RX10 171 yX10_rest wsX10_rest) := goodIn_app (goodIn_of _ (by decide +kernel)) ggX10_goTo_X10_rest
set_option maxRecDepth 20000 in
theorem ggX10_goTo_X10_rained : GoodIn wsX10_goTo wsX10_rained := goodIn_r _ [66, 2, 15, 3, 16, 17, 5, 14, 67, 68, 69, 10, 70, 12, 13, 71, 18, 19, 20, 21, 22, 23, 24, 25, 26, 27, 28, 29, 30, 31, 32, 33, 34, 35, 36, 37, 38, 39, 40, 41, 42, 43, 44, 45, 46, 47, 48, 49, 50, 51, 52, 53, 54, 55, 56, 72, 73, 74, 75, 76, 77, 57, 58, 59, 60, 61, 62, 78, 79, 80, 81, 82, 83, 84, 85, 86, 87, 88, 89, 90, 91, 92, 93, 94, 95, 96, 97, 98, 99, 100, 101, 102, 103, 104, 105, 106, 107, 108, 109, 110, 111, 112, 113, 114, 115, 116, 117] (by decide +kernel) (by decide +kernel)
set_option maxRecDepth 20000 in
theorem gX10_goTo_X10_rained : GoodIn wsX10_goTo (wsV RX10 230 RX10 yX10_rained wsX10_rained) := goodIn_app (goodIn_of _ (by decide +kernel)) ggX10_goTo_X10_rained
set_option maxRecDepth 20000 in
theorem ggX10_begin_X10_layOut : GoodIn wsX10_begin wsX10_layOut := goodIn_r _ [14, 15, 1, 3, 16, 17, 18, 19, 20, 21, 13, 22, 23, 24, 25, 26, 27, 28, 29, 30, 31, 32, 33, 34, 35, 36, 37, 38, 39, 40, 41, 42, 43, 44, 45, 46, 47, 48, 49, 56, 57, 58, 59, 60, 61, 62, 63, 64, 65, 66, 67, 68, 69, 70, 71, 72, 73, 74, 75, 76, 77, 78, 79, 80, 81, 82, 83, 84, 85, 86, 87, 88, 89, 90, 91, 92, 93, 94, 95] (by decide +kernel) (by decide +kernel)
set_option maxRecDepth 20000 in
theorem gX10_begin_X10_layOut : GoodIn wsX10_begin (wsV RX10 202 RX10 yX10_layOut wsX10_layOut) := goodIn_app (goodIn_of _ (by decide +kernel)) ggX10_begin_X10_layOut
set_option maxRecDepth 20000 in
theorem ggX10_begin_X10_firstAll : GoodIn wsX10_begin wsX10_firstAll := goodIn_r _ [53, 54, 55, 56, 57, 58, 59, 60, 61, 62, 63, 64, 65, 66, 67, 68, 69, 70, 71, 72, 73, 74, 75, 76, 77, 78, 79, 80, 81, 82, 83, 84, 85, 86, 87, 88, 89, 90, 91, 92, 93, 94, 95] (by decide +kernel) (by decide +kernel)
set_option maxRecDepth 20000 in
theorem gX10_begin_X10_firstAll : GoodIn wsX10_begin (wsV RX10 214 RX10 yX10_firstAll wsX10_firstAll) := goodIn_app (goodIn_of _ (by decide +kernel)) ggX10_begin_X10_firstAll
set_option maxRecDepth 20000 in
theorem ggX10_bentOf_X10_firstAll : GoodIn wsX10_bentOf wsX10_firstAll := goodIn_r _ [8, 9, 10, 56, 57, 58, 59, 60, 61, 62, 63, 64, 65, 66, 67, 68, 69, 70, 71, 72, 73, 74, 75, 76, 77, 78, 79, 80, 81, 82, 83, 84, 85, 86, 87, 88, 89, 90, 91, 92, 93, 94, 95] (by decide +kernel) (by decide +kernel)
set_option maxRecDepth 20000 in
theorem gX10_bentOf_X10_firstAll : GoodIn wsX10_bentOf (wsV RX10 214 RX10 yX10_firstAll wsX10_firstAll) := goodIn_app (goodIn_of _ (by decide +kernel)) ggX10_bentOf_X10_firstAll
set_option maxRecDepth 20000 in
theorem ggX10_bentOf_X10_spendOf : GoodIn wsX10_bentOf wsX10_spendOf := goodIn_r _ [14, 3, 15, 16, 17, 18, 19, 7, 20, 21, 22, 23, 24, 25, 26, 27, 28, 29, 30, 31, 32, 33, 34, 35, 36, 37, 38, 39, 40, 41, 42, 43, 44, 45, 46, 47, 48, 49, 50, 51, 52, 53, 54, 55, 56, 57, 58, 59, 60, 61, 62, 63, 64, 65, 66, 67, 68, 69, 70, 71, 72, 73, 74, 75, 76, 77, 78, 79, 80, 81, 82, 83, 84, 85, 86, 87, 88, 89, 90, 91, 92, 93, 94, 95] (by decide +kernel) (by decide +kernel)
set_option maxRecDepth 20000 in
theorem gX10_bentOf_X10_spendOf : GoodIn wsX10_bentOf (wsV RX10 211 RX10 yX10_spendOf wsX10_spendOf) := goodIn_app (goodIn_of _ (by decide +kernel)) ggX10_bentOf_X10_spendOf
set_option maxRecDepth 20000 in
theorem ggX10_rained_X10_spendOf : GoodIn wsX10_rained wsX10_spendOf := goodIn_r _ [12, 13, 14, 15, 16, 17, 18, 11, 19, 20, 21, 22, 23, 24, 25, 26, 27, 28, 29, 30, 31, 32, 33, 34, 35, 36, 37, 38, 39, 40, 41, 42, 43, 44, 45, 46, 47, 48, 49, 50, 51, 52, 53, 54, 67, 68, 69, 70, 71, 72, 73, 74, 75, 76, 77, 78, 79, 80, 81, 82, 83, 84, 85, 86, 87, 88, 89, 90, 91, 92, 93, 94, 95, 96, 97, 98, 99, 100, 101, 102, 103, 104, 105, 106] (by decide +kernel) (by decide +kernel)
set_option maxRecDepth 20000 in
theorem gX10_rained_X10_spendOf : GoodIn wsX10_rained (wsV RX10 211 RX10 yX10_spendOf wsX10_spendOf) := goodIn_app (goodIn_of _ (by decide +kernel)) ggX10_rained_X10_spendOf
set_option maxRecDepth 20000 in
theorem ggX10_rained_X10_bentOf : GoodIn wsX10_rained wsX10_bentOf := goodIn_r _ [58, 59, 60, 13, 61, 62, 63, 11, 64, 65, 66, 8, 9, 10, 12, 14, 15, 16, 17, 18, 19, 20, 21, 22, 23, 24, 25, 26, 27, 28, 29, 30, 31, 32, 33, 34, 35, 36, 37, 38, 39, 40, 41, 42, 43, 44, 45, 46, 47, 48, 49, 50, 51, 52, 53, 54, 67, 68, 69, 70, 71, 72, 73, 74, 75, 76, 77, 78, 79, 80, 81, 82, 83, 84, 85, 86, 87, 88, 89, 90, 91, 92, 93, 94, 95, 96, 97, 98, 99, 100, 101, 102, 103, 104, 105, 106] (by decide +kernel) (by decide +kernel)
set_option maxRecDepth 20000 in
theorem gX10_rained_X10_bentOf : GoodIn wsX10_rained (wsV RX10 245 RX10 yX10_bentOf wsX10_bentOf) := goodIn_app (goodIn_of _ (by decide +kernel)) ggX10_rained_X10_bentOf
set_option maxRecDepth 20000 in
theorem ggX10_rained_X10_winsOf : GoodIn wsX10_rained wsX10_winsOf := goodIn_r _ [54, 22, 29, 30, 11, 31, 32, 67, 68, 69, 70, 71, 72, 73, 74, 75, 76, 77, 78, 79, 80, 81, 82, 83, 84, 85, 86, 87, 88, 89, 90, 91, 92, 93, 94, 95, 96, 97, 98, 99, 100, 101, 102, 103, 104, 105, 106] (by decide +kernel) (by decide +kernel)
set_option maxRecDepth 20000 in
theorem gX10_rained_X10_winsOf : GoodIn wsX10_rained (wsV RX10 179 RX10 yX10_winsOf wsX10_winsOf) := goodIn_app (goodIn_of _ (by decide +kernel)) ggX10_rained_X10_winsOf
set_option maxRecDepth 20000 in
theorem ggX10_rained_X10_ten : GoodIn wsX10_rained wsX10_ten := goodIn_r _ [31, 32] (by decide +kernel) (by decide +kernel)
set_option maxRecDepth 20000 in
theorem gX10_rained_X10_ten : GoodIn wsX10_rained (va_wsS RX10 167 yX10_ten wsX10_ten) := goodIn_app (goodIn_of _ (by decide +kernel)) ggX10_rained_X10_ten
set_option maxRecDepth 20000 in
theorem ggX10_worst_X10_firstAll : GoodIn wsX10_worst wsX10_firstAll := goodIn_r _ [10, 2, 3, 11, 12, 13, 14, 15, 16, 17, 18, 19, 20, 21, 22, 23, 24, 25, 26, 27, 28, 29, 30, 31, 32, 33, 34, 35, 36, 37, 38, 39, 40, 41, 42, 43, 44, 45, 46, 47, 48, 49, 50] (by decide +kernel) (by decide +kernel)
set_option maxRecDepth 20000 in
theorem gX10_worst_X10_firstAll : GoodIn wsX10_worst (wsV RX10 214 RX10 yX10_firstAll wsX10_firstAll) := goodIn_app (goodIn_of _ (by decide +kernel)) ggX10_worst_X10_firstAll
set_option maxRecDepth 20000 in
theorem ggX10_targetNow_X10_firstAll : GoodIn wsX10_targetNow wsX10_firstAll := goodIn_r _ [11, 12, 13, 19, 20, 21, 22, 23, 24, 25, 26, 27, 28, 29, 30, 31, 32, 33, 34, 35, 36, 37, 38, 39, 40, 41, 42, 43, 44, 45, 46, 47, 48, 49, 50, 51, 52, 53, 54, 55, 56, 57, 58] (by decide +kernel) (by decide +kernel)
set_option maxRecDepth 20000 in
theorem gX10_targetNow_X10_firstAll : GoodIn wsX10_targetNow (wsV RX10 214 RX10 yX10_firstAll wsX10_firstAll) := goodIn_app (goodIn_of _ (by decide +kernel)) ggX10_targetNow_X10_firstAll
set_option maxRecDepth 20000 in
theorem ggX10_targetNow_X10_worst : GoodIn wsX10_targetNow wsX10_worst := goodIn_r _ [17, 1, 12, 13, 18, 2, 7, 8, 9, 10, 11, 19, 20, 21, 22, 23, 24, 25, 26, 27, 28, 29, 30, 31, 32, 33, 34, 35, 36, 37, 38, 39, 40, 41, 42, 43, 44, 45, 46, 47, 48, 49, 50, 51, 52, 53, 54, 55, 56, 57, 58] (by decide +kernel) (by decide +kernel)
set_option maxRecDepth 20000 in
theorem gX10_targetNow_X10_worst : GoodIn wsX10_targetNow (wsV RX10 248 RX10 yX10_worst wsX10_worst) := goodIn_app (goodIn_of _ (by decide +kernel)) ggX10_targetNow_X10_worst
set_option maxRecDepth 20000 in
theorem ggX10_isRule_X10_in : GoodIn wsX10_isRule wsX10_in := goodIn_r _ [4] (by decide +kernel) (by decide +kernel)
set_option maxRecDepth 20000 in
theorem gX10_isRule_X10_in : GoodIn wsX10_isRule (va_wsS RX10 72 yX10_in wsX10_in) := goodIn_app (goodIn_of _ (by decide +kernel)) ggX10_isRule_X10_in
set_option maxRecDepth 20000 in
theorem ggX10_millionths_X10_ten : GoodIn wsX10_millionths wsX10_ten := goodIn_r _ [4, 5] (by decide +kernel) (by decide +kernel)
set_option maxRecDepth 20000 in
theorem gX10_millionths_X10_ten : GoodIn wsX10_millionths (va_wsS RX10 167 yX10_ten wsX10_ten) := goodIn_app (goodIn_of _ (by decide +kernel)) ggX10_millionths_X10_ten
set_option maxRecDepth 20000 in
theorem ggX10_oddsNow_X10_targetNow : GoodIn wsX10_oddsNow wsX10_targetNow := goodIn_r _ [8, 9, 10, 11, 12, 13, 14, 15, 16, 17, 7, 18, 19, 20, 21, 22, 23, 24, 25, 38, 39, 40, 41, 42, 43, 44, 45, 46, 47, 48, 49, 50, 51, 52, 53, 54, 55, 56, 57, 58, 59, 60, 61, 62, 63, 64, 65, 66, 67, 68, 69, 70, 71, 72, 73, 74, 75, 76, 77] (by decide +kernel) (by decide +kernel)
set_option maxRecDepth 20000 in
theorem gX10_oddsNow_X10_targetNow : GoodIn wsX10_oddsNow (wsV RX10 251 RX10 yX10_targetNow wsX10_targetNow) := goodIn_app (goodIn_of _ (by decide +kernel)) ggX10_oddsNow_X10_targetNow
set_option maxRecDepth 20000 in
theorem ggX10_oddsNow_X10_winsOf : GoodIn wsX10_oddsNow wsX10_winsOf := goodIn_r _ [29, 30, 31, 32, 7, 33, 34, 38, 39, 40, 41, 42, 43, 44, 45, 46, 47, 48, 49, 50, 51, 52, 53, 54, 55, 56, 57, 58, 59, 60, 61, 62, 63, 64, 65, 66, 67, 68, 69, 70, 71, 72, 73, 74, 75, 76, 77] (by decide +kernel) (by decide +kernel)
set_option maxRecDepth 20000 in
theorem gX10_oddsNow_X10_winsOf : GoodIn wsX10_oddsNow (wsV RX10 179 RX10 yX10_winsOf wsX10_winsOf) := goodIn_app (goodIn_of _ (by decide +kernel)) ggX10_oddsNow_X10_winsOf
set_option maxRecDepth 20000 in
theorem ggX10_oddsNow_X10_millionths : GoodIn wsX10_oddsNow wsX10_millionths := goodIn_r _ [37, 31, 32, 7, 33, 34] (by decide +kernel) (by decide +kernel)
set_option maxRecDepth 20000 in
theorem gX10_oddsNow_X10_millionths : GoodIn wsX10_oddsNow (va_wsS RX10 255 yX10_millionths wsX10_millionths) := goodIn_app (goodIn_of _ (by decide +kernel)) ggX10_oddsNow_X10_millionths
set_option maxRecDepth 20000 in
theorem ggX10_play_X10_in : GoodIn wsX10_play wsX10_in := goodIn_r _ [11] (by decide +kernel) (by decide +kernel)
set_option maxRecDepth 20000 in
theorem gX10_play_X10_in : GoodIn wsX10_play (va_wsS RX10 72 yX10_in wsX10_in) := goodIn_app (goodIn_of _ (by decide +kernel)) ggX10_play_X10_in
set_option maxRecDepth 20000 in
theorem ggX10_play_X10_goTo : GoodIn wsX10_play wsX10_goTo := goodIn_r _ [15, 4, 2, 3, 6, 7, 5, 16, 17, 18, 10, 19, 20, 21, 22, 23, 24, 25, 26, 27, 28, 29, 30, 31, 32, 33, 34, 35, 36, 37, 38, 39, 40, 41, 42, 43, 44, 45, 46, 47, 48, 49, 50, 51, 52, 53, 54, 55, 56, 57, 58, 59, 60, 61, 62, 63, 64, 65, 66, 67, 68, 69, 70, 71, 72, 73, 74, 75, 76, 77, 78, 79, 80, 81, 82, 83, 84, 85, 86, 87, 88, 89, 90, 91, 92, 93, 94, 95, 96, 97, 98, 99, 100, 101, 102, 103, 104, 105, 106, 107, 108, 109, 110, 111, 112, 113, 114, 115, 116, 117, 118, 119, 120, 121, 122, 123, 124, 125] (by decide +kernel) (by decide +kernel)
set_option maxRecDepth 20000 in
theorem gX10_play_X10_goTo : GoodIn wsX10_play (wsV RX10 259 RX10 yX10_goTo wsX10_goTo) := goodIn_app (goodIn_of _ (by decide +kernel)) ggX10_play_X10_goTo
set_option maxRecDepth 20000 in
theorem ggX10_rain_X10_in : GoodIn wsX10_rain wsX10_in := goodIn_r _ [9] (by decide +kernel) (by decide +kernel)
set_option maxRecDepth 20000 in
theorem gX10_rain_X10_in : GoodIn wsX10_rain (va_wsS RX10 72 yX10_in wsX10_in) := goodIn_app (goodIn_of _ (by decide +kernel)) ggX10_rain_X10_in
set_option maxRecDepth 20000 in
theorem ggX10_rain_X10_goTo : GoodIn wsX10_rain wsX10_goTo := goodIn_r _ [13, 3, 2, 14, 5, 15, 4, 16, 17, 18, 8, 19, 20, 21, 22, 23, 24, 25, 26, 27, 28, 29, 30, 31, 32, 33, 34, 35, 36, 37, 38, 39, 40, 41, 42, 43, 44, 45, 46, 47, 48, 49, 50, 51, 52, 53, 54, 55, 56, 57, 58, 59, 60, 61, 62, 63, 64, 65, 66, 67, 68, 69, 70, 71, 72, 73, 74, 75, 76, 77, 78, 79, 80, 81, 82, 83, 84, 85, 86, 87, 88, 89, 90, 91, 92, 93, 94, 95, 96, 97, 98, 99, 100, 101, 102, 103, 104, 105, 106, 107, 108, 109, 110, 111, 112, 113, 114, 115, 116, 117, 118, 119, 120, 121, 122, 123, 124, 125] (by decide +kernel) (by decide +kernel)
set_option maxRecDepth 20000 in
theorem gX10_rain_X10_goTo : GoodIn wsX10_rain (wsV RX10 259 RX10 yX10_goTo wsX10_goTo) := goodIn_app (goodIn_of _ (by decide +kernel)) ggX10_rain_X10_goTo
set_option maxRecDepth 20000 in
theorem ggX10_event_X10_in : GoodIn wsX10_event wsX10_in := goodIn_r _ [8] (by decide +kernel) (by decide +kernel)
set_option maxRecDepth 20000 in
theorem gX10_event_X10_in : GoodIn wsX10_event (va_wsS RX10 72 yX10_in wsX10_in) := goodIn_app (goodIn_of _ (by decide +kernel)) ggX10_event_X10_in
set_option maxRecDepth 20000 in
theorem ggX10_target_X10_isRule : GoodIn wsX10_target wsX10_isRule := goodIn_r _ [5, 6, 7, 4, 8] (by decide +kernel) (by decide +kernel)
set_option maxRecDepth 20000 in
theorem gX10_target_X10_isRule : GoodIn wsX10_target (va_wsS RX10 262 yX10_isRule wsX10_isRule) := goodIn_app (goodIn_of _ (by decide +kernel)) ggX10_target_X10_isRule
set_option maxRecDepth 20000 in
theorem ggX10_target_X10_goTo : GoodIn wsX10_target wsX10_goTo := goodIn_r _ [12, 13, 14, 15, 16, 17, 18, 19, 20, 21, 4, 22, 23, 24, 25, 26, 27, 28, 29, 30, 31, 32, 33, 34, 35, 36, 37, 38, 39, 40, 41, 42, 43, 44, 45, 46, 47, 48, 49, 50, 51, 52, 53, 54, 55, 56, 57, 58, 59, 60, 61, 62, 63, 64, 65, 66, 67, 68, 69, 70, 71, 72, 73, 74, 75, 76, 77, 78, 79, 80, 81, 82, 83, 84, 85, 86, 87, 88, 99, 100, 101, 102, 103, 104, 105, 106, 107, 108, 109, 110, 111, 112, 113, 114, 115, 116, 117, 118, 119, 120, 121, 122, 123, 124, 125, 126, 127, 128, 129, 130, 131, 132, 133, 134, 135, 136, 137, 138] (by decide +kernel) (by decide +kernel)
set_option maxRecDepth 20000 in
theorem gX10_target_X10_goTo : GoodIn wsX10_target (wsV RX10 259 RX10 yX10_goTo wsX10_goTo) := goodIn_app (goodIn_of _ (by decide +kernel)) ggX10_target_X10_goTo
set_option maxRecDepth 20000 in
theorem ggX10_target_X10_targetNow : GoodIn wsX10_target wsX10_targetNow := goodIn_r _ [92, 23, 25, 26, 27, 28, 93, 68, 69, 70, 4, 71, 72, 73, 94, 95, 96, 97, 98, 99, 100, 101, 102, 103, 104, 105, 106, 107, 108, 109, 110, 111, 112, 113, 114, 115, 116, 117, 118, 119, 120, 121, 122, 123, 124, 125, 126, 127, 128, 129, 130, 131, 132, 133, 134, 135, 136, 137, 138] (by decide +kernel) (by decide +kernel)
set_option maxRecDepth 20000 in
theorem gX10_target_X10_targetNow : GoodIn wsX10_target (wsV RX10 251 RX10 yX10_targetNow wsX10_targetNow) := goodIn_app (goodIn_of _ (by decide +kernel)) ggX10_target_X10_targetNow
set_option maxRecDepth 20000 in
theorem ggX10_odds_X10_isRule : GoodIn wsX10_odds wsX10_isRule := goodIn_r _ [5, 6, 7, 4, 8] (by decide +kernel) (by decide +kernel)
set_option maxRecDepth 20000 in
theorem gX10_odds_X10_isRule : GoodIn wsX10_odds (va_wsS RX10 262 yX10_isRule wsX10_isRule) := goodIn_app (goodIn_of _ (by decide +kernel)) ggX10_odds_X10_isRule
set_option maxRecDepth 20000 in
theorem ggX10_odds_X10_goTo : GoodIn wsX10_odds wsX10_goTo := goodIn_r _ [12, 13, 14, 15, 16, 17, 18, 19, 20, 21, 4, 22, 23, 24, 25, 26, 27, 28, 29, 30, 31, 32, 33, 34, 35, 36, 37, 38, 39, 40, 41, 42, 43, 44, 45, 46, 47, 48, 49, 50, 51, 52, 53, 54, 55, 56, 57, 58, 59, 60, 61, 62, 63, 64, 65, 66, 67, 68, 69, 70, 71, 72, 73, 74, 75, 76, 77, 78, 79, 80, 81, 82, 83, 84, 85, 86, 87, 88, 106, 107, 108, 109, 110, 111, 112, 113, 114, 115, 116, 117, 118, 119, 120, 121, 122, 123, 124, 125, 126, 127, 128, 129, 130, 131, 132, 133, 134, 135, 136, 137, 138, 139, 140, 141, 142, 143, 144, 145] (by decide +kernel) (by decide +kernel)
set_option maxRecDepth 20000 in
theorem gX10_odds_X10_goTo : GoodIn wsX10_odds (wsV RX10 259 RX10 yX10_goTo wsX10_goTo) := goodIn_app (goodIn_of _ (by decide +kernel)) ggX10_odds_X10_goTo
set_option maxRecDepth 20000 in
theorem ggX10_odds_X10_oddsNow : GoodIn wsX10_odds wsX10_oddsNow := goodIn_r _ [92, 14, 15, 17, 93, 94, 95, 4, 96, 23, 25, 26, 27, 28, 97, 68, 69, 70, 71, 72, 73, 98, 99, 100, 101, 102, 64, 65, 66, 67, 35, 42, 43, 44, 45, 103, 104, 105, 106, 107, 108, 109, 110, 111, 112, 113, 114, 115, 116, 117, 118, 119, 120, 121, 122, 123, 124, 125, 126, 127, 128, 129, 130, 131, 132, 133, 134, 135, 136, 137, 138, 139, 140, 141, 142, 143, 144, 145] (by decide +kernel) (by decide +kernel)
set_option maxRecDepth 20000 in
theorem gX10_odds_X10_oddsNow : GoodIn wsX10_odds (wsV RX10 265 RX10 yX10_oddsNow wsX10_oddsNow) := goodIn_app (goodIn_of _ (by decide +kernel)) ggX10_odds_X10_oddsNow
set_option maxRecDepth 20000 in
theorem ggX10_gain_X10_isRule : GoodIn wsX10_gain wsX10_isRule := goodIn_r _ [7, 8, 9, 6, 10] (by decide +kernel) (by decide +kernel)
set_option maxRecDepth 20000 in
theorem gX10_gain_X10_isRule : GoodIn wsX10_gain (va_wsS RX10 262 yX10_isRule wsX10_isRule) := goodIn_app (goodIn_of _ (by decide +kernel)) ggX10_gain_X10_isRule
set_option maxRecDepth 20000 in
theorem ggX10_gain_X10_goTo : GoodIn wsX10_gain wsX10_goTo := goodIn_r _ [14, 2, 15, 16, 17, 18, 19, 20, 21, 22, 6, 23, 24, 25, 26, 27, 28, 29, 30, 31, 32, 33, 34, 35, 36, 37, 38, 39, 40, 41, 42, 43, 44, 45, 46, 47, 48, 49, 50, 51, 52, 53, 54, 55, 56, 57, 58, 59, 60, 61, 62, 63, 64, 65, 66, 67, 68, 69, 70, 71, 72, 73, 74, 75, 76, 77, 78, 79, 80, 81, 82, 83, 84, 85, 86, 87, 88, 89, 107, 108, 109, 110, 111, 112, 113, 114, 115, 116, 117, 118, 119, 120, 121, 122, 123, 124, 125, 126, 127, 128, 129, 130, 131, 132, 133, 134, 135, 136, 137, 138, 139, 140, 141, 142, 143, 144, 145, 146] (by decide +kernel) (by decide +kernel)
set_option maxRecDepth 20000 in
theorem gX10_gain_X10_goTo : GoodIn wsX10_gain (wsV RX10 259 RX10 yX10_goTo wsX10_goTo) := goodIn_app (goodIn_of _ (by decide +kernel)) ggX10_gain_X10_goTo
set_option maxRecDepth 20000 in
theorem ggX10_gain_X10_oddsNow : GoodIn wsX10_gain wsX10_oddsNow := goodIn_r _ [93, 15, 16, 18, 94, 95, 96, 6, 97, 24, 26, 27, 28, 29, 98, 69, 70, 71, 72, 73, 74, 99, 100, 101, 102, 103, 65, 66, 67, 68, 36, 43, 44, 45, 46, 104, 105, 106, 107, 108, 109, 110, 111, 112, 113, 114, 115, 116, 117, 118, 119, 120, 121, 122, 123, 124, 125, 126, 127, 128, 129, 130, 131, 132, 133, 134, 135, 136, 137, 138, 139, 140, 141, 142, 143, 144, 145, 146] (by decide +kernel) (by decide +kernel)
set_option maxRecDepth 20000 in
theorem gX10_gain_X10_oddsNow : GoodIn wsX10_gain (wsV RX10 265 RX10 yX10_oddsNow wsX10_oddsNow) := goodIn_app (goodIn_of _ (by decide +kernel)) ggX10_gain_X10_oddsNow
set_option maxRecDepth 20000 in
theorem ggX10_won_X10_isRule : GoodIn wsX10_won wsX10_isRule := goodIn_r _ [8, 9, 10, 7, 11] (by decide +kernel) (by decide +kernel)
set_option maxRecDepth 20000 in
theorem gX10_won_X10_isRule : GoodIn wsX10_won (va_wsS RX10 262 yX10_isRule wsX10_isRule) := goodIn_app (goodIn_of _ (by decide +kernel)) ggX10_won_X10_isRule
set_option maxRecDepth 20000 in
theorem ggX10_won_X10_goTo : GoodIn wsX10_won wsX10_goTo := goodIn_r _ [15, 16, 3, 4, 17, 2, 18, 19, 20, 21, 7, 22, 23, 24, 25, 26, 27, 28, 29, 30, 31, 32, 33, 34, 35, 36, 37, 38, 39, 40, 41, 42, 43, 44, 45, 46, 47, 48, 49, 50, 51, 52, 53, 54, 55, 56, 57, 58, 59, 60, 61, 62, 63, 64, 65, 66, 67, 68, 69, 70, 71, 72, 73, 74, 75, 76, 77, 78, 79, 80, 81, 82, 83, 84, 85, 86, 87, 88, 99, 100, 101, 102, 103, 104, 105, 106, 107, 108, 109, 110, 111, 112, 113, 114, 115, 116, 117, 118, 119, 120, 121, 122, 123, 124, 125, 126, 127, 128, 129, 130, 131, 132, 133, 134, 135, 136, 137, 138] (by decide +kernel) (by decide +kernel)
set_option maxRecDepth 20000 in
theorem gX10_won_X10_goTo : GoodIn wsX10_won (wsV RX10 259 RX10 yX10_goTo wsX10_goTo) := goodIn_app (goodIn_of _ (by decide +kernel)) ggX10_won_X10_goTo
set_option maxRecDepth 20000 in
theorem ggX10_won_X10_targetNow : GoodIn wsX10_won wsX10_targetNow := goodIn_r _ [92, 23, 25, 26, 27, 28, 93, 68, 69, 70, 7, 71, 72, 73, 94, 95, 96, 97, 98, 99, 100, 101, 102, 103, 104, 105, 106, 107, 108, 109, 110, 111, 112, 113, 114, 115, 116, 117, 118, 119, 120, 121, 122, 123, 124, 125, 126, 127, 128, 129, 130, 131, 132, 133, 134, 135, 136, 137, 138] (by decide +kernel) (by decide +kernel)
set_option maxRecDepth 20000 in
theorem gX10_won_X10_targetNow : GoodIn wsX10_won (wsV RX10 251 RX10 yX10_targetNow wsX10_targetNow) := goodIn_app (goodIn_of _ (by decide +kernel)) ggX10_won_X10_targetNow
set_option maxRecDepth 20000 in
theorem ggX10_odd_X10_isRule : GoodIn wsX10_odd wsX10_isRule := goodIn_r _ [6, 7, 8, 5, 9] (by decide +kernel) (by decide +kernel)
set_option maxRecDepth 20000 in
theorem gX10_odd_X10_isRule : GoodIn wsX10_odd (va_wsS RX10 262 yX10_isRule wsX10_isRule) := goodIn_app (goodIn_of _ (by decide +kernel)) ggX10_odd_X10_isRule
set_option maxRecDepth 20000 in
theorem ggX10_odd_X10_begin : GoodIn wsX10_odd wsX10_begin := goodIn_r _ [13, 1, 2, 14, 15, 16, 17, 18, 19, 20, 21, 22, 23, 5, 24, 25, 26, 27, 28, 29, 30, 31, 32, 33, 34, 35, 36, 37, 38, 39, 40, 41, 42, 43, 44, 45, 46, 47, 48, 49, 50, 51, 52, 53, 54, 55, 56, 57, 58, 59, 60, 61, 62, 63, 64, 65, 91, 92, 93, 94, 95, 96, 97, 98, 99, 100, 101, 102, 103, 104, 105, 106, 107, 108, 109, 110, 111, 112, 113, 114, 115, 116, 117, 118, 119, 120, 121, 122, 123, 124, 125, 126, 127, 128, 129, 130] (by decide +kernel) (by decide +kernel)
set_option maxRecDepth 20000 in
theorem gX10_odd_X10_begin : GoodIn wsX10_odd (wsV RX10 218 RX10 yX10_begin wsX10_begin) := goodIn_app (goodIn_of _ (by decide +kernel)) ggX10_odd_X10_begin
set_option maxRecDepth 20000 in
theorem ggX10_odd_X10_firstAll : GoodIn wsX10_odd wsX10_firstAll := goodIn_r _ [63, 64, 65, 91, 92, 93, 94, 95, 96, 97, 98, 99, 100, 101, 102, 103, 104, 105, 106, 107, 108, 109, 110, 111, 112, 113, 114, 115, 116, 117, 118, 119, 120, 121, 122, 123, 124, 125, 126, 127, 128, 129, 130] (by decide +kernel) (by decide +kernel)
set_option maxRecDepth 20000 in
theorem gX10_odd_X10_firstAll : GoodIn wsX10_odd (wsV RX10 214 RX10 yX10_firstAll wsX10_firstAll) := goodIn_app (goodIn_of _ (by decide +kernel)) ggX10_odd_X10_firstAll
set_option maxRecDepth 20000 in
theorem ggX10_odd_X10_rained : GoodIn wsX10_odd wsX10_rained := goodIn_r _ [69, 2, 18, 15, 19, 20, 16, 17, 70, 71, 72, 5, 73, 1, 14, 74, 21, 22, 23, 24, 25, 26, 27, 28, 29, 30, 31, 32, 33, 34, 35, 36, 37, 38, 39, 40, 41, 42, 43, 44, 45, 46, 47, 48, 49, 50, 51, 52, 53, 54, 55, 56, 57, 58, 59, 75, 76, 77, 78, 79, 80, 60, 61, 62, 63, 64, 65, 91, 92, 93, 94, 95, 96, 97, 98, 99, 100, 101, 102, 103, 104, 105, 106, 107, 108, 109, 110, 111, 112, 113, 114, 115, 116, 117, 118, 119, 120, 121, 122, 123, 124, 125, 126, 127, 128, 129, 130] (by decide +kernel) (by decide +kernel)
set_option maxRecDepth 20000 in
theorem gX10_odd_X10_rained : GoodIn wsX10_odd (wsV RX10 230 RX10 yX10_rained wsX10_rained) := goodIn_app (goodIn_of _ (by decide +kernel)) ggX10_odd_X10_rained
set_option maxRecDepth 20000 in
theorem ggX10_odd_X10_targetNow : GoodIn wsX10_odd wsX10_targetNow := goodIn_r _ [84, 1, 17, 18, 19, 20, 85, 60, 61, 62, 5, 63, 64, 65, 86, 87, 88, 89, 90, 91, 92, 93, 94, 95, 96, 97, 98, 99, 100, 101, 102, 103, 104, 105, 106, 107, 108, 109, 110, 111, 112, 113, 114, 115, 116, 117, 118, 119, 120, 121, 122, 123, 124, 125, 126, 127, 128, 129, 130] (by decide +kernel) (by decide +kernel)
set_option maxRecDepth 20000 in
theorem gX10_odd_X10_targetNow : GoodIn wsX10_odd (wsV RX10 251 RX10 yX10_targetNow wsX10_targetNow) := goodIn_app (goodIn_of _ (by decide +kernel)) ggX10_odd_X10_targetNow
set_option maxRecDepth 20000 in
theorem ggX10_sheetOf_X10_begin : GoodIn wsX10_sheetOf wsX10_begin := goodIn_r _ [5, 6, 7, 8, 9, 10, 11, 12, 13, 14, 15, 16, 17, 4, 18, 19, 20, 21, 22, 23, 24, 25, 26, 27, 28, 29, 30, 31, 32, 33, 34, 35, 36, 37, 38, 39, 40, 41, 42, 43, 44, 45, 46, 47, 48, 49, 50, 51, 52, 53, 54, 55, 56, 57, 58, 59, 85, 86, 87, 88, 89, 90, 91, 92, 93, 94, 95, 96, 97, 98, 99, 100, 101, 102, 103, 104, 105, 106, 107, 108, 109, 110, 111, 112, 113, 114, 115, 116, 117, 118, 119, 120, 121, 122, 123, 124] (by decide +kernel) (by decide +kernel)
set_option maxRecDepth 20000 in
theorem gX10_sheetOf_X10_begin : GoodIn wsX10_sheetOf (wsV RX10 218 RX10 yX10_begin wsX10_begin) := goodIn_app (goodIn_of _ (by decide +kernel)) ggX10_sheetOf_X10_begin
set_option maxRecDepth 20000 in
theorem ggX10_sheetOf_X10_rained : GoodIn wsX10_sheetOf wsX10_rained := goodIn_r _ [63, 7, 12, 9, 13, 14, 10, 11, 64, 65, 66, 4, 67, 6, 8, 68, 15, 16, 17, 18, 19, 20, 21, 22, 23, 24, 25, 26, 27, 28, 29, 30, 31, 32, 33, 34, 35, 36, 37, 38, 39, 40, 41, 42, 43, 44, 45, 46, 47, 48, 49, 50, 51, 52, 53, 69, 70, 71, 72, 73, 74, 54, 55, 56, 57, 58, 59, 85, 86, 87, 88, 89, 90, 91, 92, 93, 94, 95, 96, 97, 98, 99, 100, 101, 102, 103, 104, 105, 106, 107, 108, 109, 110, 111, 112, 113, 114, 115, 116, 117, 118, 119, 120, 121, 122, 123, 124] (by decide +kernel) (by decide +kernel)
set_option maxRecDepth 20000 in
theorem gX10_sheetOf_X10_rained : GoodIn wsX10_sheetOf (wsV RX10 230 RX10 yX10_rained wsX10_rained) := goodIn_app (goodIn_of _ (by decide +kernel)) ggX10_sheetOf_X10_rained
set_option maxRecDepth 20000 in
theorem ggX10_sheetOf_X10_targetNow : GoodIn wsX10_sheetOf wsX10_targetNow := goodIn_r _ [78, 6, 11, 12, 13, 14, 79, 54, 55, 56, 4, 57, 58, 59, 80, 81, 82, 83, 84, 85, 86, 87, 88, 89, 90, 91, 92, 93, 94, 95, 96, 97, 98, 99, 100, 101, 102, 103, 104, 105, 106, 107, 108, 109, 110, 111, 112, 113, 114, 115, 116, 117, 118, 119, 120, 121, 122, 123, 124] (by decide +kernel) (by decide +kernel)
set_option maxRecDepth 20000 in
theorem gX10_sheetOf_X10_targetNow : GoodIn wsX10_sheetOf (wsV RX10 251 RX10 yX10_targetNow wsX10_targetNow) := goodIn_app (goodIn_of _ (by decide +kernel)) ggX10_sheetOf_X10_targetNow
set_option maxRecDepth 20000 in
theorem ggX10_sheet_X10_isRule : GoodIn wsX10_sheet wsX10_isRule := goodIn_r _ [5, 6, 7, 4, 8] (by decide +kernel) (by decide +kernel)
set_option maxRecDepth 20000 in
theorem gX10_sheet_X10_isRule : GoodIn wsX10_sheet (va_wsS RX10 262 yX10_isRule wsX10_isRule) := goodIn_app (goodIn_of _ (by decide +kernel)) ggX10_sheet_X10_isRule
set_option maxRecDepth 20000 in
theorem ggX10_sheet_X10_in : GoodIn wsX10_sheet wsX10_in := goodIn_r _ [8] (by decide +kernel) (by decide +kernel)
set_option maxRecDepth 20000 in
theorem gX10_sheet_X10_in : GoodIn wsX10_sheet (va_wsS RX10 72 yX10_in wsX10_in) := goodIn_app (goodIn_of _ (by decide +kernel)) ggX10_sheet_X10_in
set_option maxRecDepth 20000 in
theorem ggX10_sheet_X10_sheetOf : GoodIn wsX10_sheet wsX10_sheetOf := goodIn_r _ [12, 13, 14, 15, 4, 16, 1, 17, 18, 19, 20, 21, 22, 23, 24, 25, 26, 27, 28, 29, 30, 31, 32, 33, 34, 35, 36, 37, 38, 39, 40, 41, 42, 43, 44, 45, 46, 47, 48, 49, 50, 51, 52, 53, 54, 55, 56, 57, 58, 59, 60, 61, 62, 63, 64, 65, 66, 67, 68, 69, 70, 71, 72, 73, 74, 75, 76, 77, 78, 79, 80, 81, 82, 83, 84, 85, 86, 87, 88, 89, 90, 91, 92, 93, 94, 95, 96, 97, 98, 99, 100, 101, 102, 103, 104, 105, 106, 107, 108, 109, 110, 111, 112, 113, 114, 115, 116, 117, 118, 119, 120, 121, 122, 123, 124, 125, 126, 127, 128, 129, 130, 131, 132, 133, 134] (by decide +kernel) (by decide +kernel)
set_option maxRecDepth 20000 in
theorem gX10_sheet_X10_sheetOf : GoodIn wsX10_sheet (wsV RX10 269 RX10 yX10_sheetOf wsX10_sheetOf) := goodIn_app (goodIn_of _ (by decide +kernel)) ggX10_sheet_X10_sheetOf
set_option maxRecDepth 20000 in
theorem ggX10_clouded_X10_isRule : GoodIn wsX10_clouded wsX10_isRule := goodIn_r _ [8, 9, 10, 7, 11] (by decide +kernel) (by decide +kernel)
set_option maxRecDepth 20000 in
theorem gX10_clouded_X10_isRule : GoodIn wsX10_clouded (va_wsS RX10 262 yX10_isRule wsX10_isRule) := goodIn_app (goodIn_of _ (by decide +kernel)) ggX10_clouded_X10_isRule
set_option maxRecDepth 20000 in
theorem ggX10_clouded_X10_sheetOf : GoodIn wsX10_clouded wsX10_sheetOf := goodIn_r _ [15, 16, 17, 18, 7, 19, 2, 20, 3, 21, 22, 23, 24, 25, 26, 27, 28, 29, 30, 31, 32, 33, 34, 35, 36, 37, 38, 39, 40, 41, 42, 43, 44, 45, 46, 47, 48, 49, 50, 51, 52, 53, 54, 55, 56, 57, 58, 59, 60, 61, 62, 63, 64, 65, 66, 67, 68, 69, 70, 71, 72, 73, 74, 75, 76, 77, 78, 79, 80, 81, 82, 83, 84, 85, 86, 87, 88, 89, 90, 91, 92, 93, 94, 95, 96, 100, 101, 102, 103, 104, 105, 106, 107, 108, 109, 110, 111, 112, 113, 114, 115, 116, 117, 118, 119, 120, 121, 122, 123, 124, 125, 126, 127, 128, 129, 130, 131, 132, 133, 134, 135, 136, 137, 138, 139] (by decide +kernel) (by decide +kernel)
set_option maxRecDepth 20000 in
theorem gX10_clouded_X10_sheetOf : GoodIn wsX10_clouded (wsV RX10 269 RX10 yX10_sheetOf wsX10_sheetOf) := goodIn_app (goodIn_of _ (by decide +kernel)) ggX10_clouded_X10_sheetOf
set_option maxRecDepth 20000 in
theorem ggX10_clouded_X10_winsOf : GoodIn wsX10_clouded wsX10_winsOf := goodIn_r _ [65, 33, 40, 41, 7, 42, 43, 100, 101, 102, 103, 104, 105, 106, 107, 108, 109, 110, 111, 112, 113, 114, 115, 116, 117, 118, 119, 120, 121, 122, 123, 124, 125, 126, 127, 128, 129, 130, 131, 132, 133, 134, 135, 136, 137, 138, 139] (by decide +kernel) (by decide +kernel)
set_option maxRecDepth 20000 in
theorem gX10_clouded_X10_winsOf : GoodIn wsX10_clouded (wsV RX10 179 RX10 yX10_winsOf wsX10_winsOf) := goodIn_app (goodIn_of _ (by decide +kernel)) ggX10_clouded_X10_winsOf
set_option maxRecDepth 20000 in
theorem ggX10_clouded_X10_ten : GoodIn wsX10_clouded wsX10_ten := goodIn_r _ [42, 43] (by decide +kernel) (by decide +kernel)
set_option maxRecDepth 20000 in
theorem gX10_clouded_X10_ten : GoodIn wsX10_clouded (va_wsS RX10 167 yX10_ten wsX10_ten) := goodIn_app (goodIn_of _ (by decide +kernel)) ggX10_clouded_X10_ten
set_option maxRecDepth 20000 in
theorem ggX10_clouded_X10_firstAll : GoodIn wsX10_clouded wsX10_firstAll := goodIn_r _ [69, 70, 71, 100, 101, 102, 103, 104, 105, 106, 107, 108, 109, 110, 111, 112, 113, 114, 115, 116, 117, 118, 119, 120, 121, 122, 123, 124, 125, 126, 127, 128, 129, 130, 131, 132, 133, 134, 135, 136, 137, 138, 139] (by decide +kernel) (by decide +kernel)
set_option maxRecDepth 20000 in
theorem gX10_clouded_X10_firstAll : GoodIn wsX10_clouded (wsV RX10 214 RX10 yX10_firstAll wsX10_firstAll) := goodIn_app (goodIn_of _ (by decide +kernel)) ggX10_clouded_X10_firstAll
set_option maxRecDepth 20000 in
theorem ggX10_clouded_X10_millionths : GoodIn wsX10_clouded wsX10_millionths := goodIn_r _ [99, 40, 41, 7, 42, 43] (by decide +kernel) (by decide +kernel)
set_option maxRecDepth 20000 in
theorem gX10_clouded_X10_millionths : GoodIn wsX10_clouded (va_wsS RX10 255 yX10_millionths wsX10_millionths) := goodIn_app (goodIn_of _ (by decide +kernel)) ggX10_clouded_X10_millionths
set_option maxRecDepth 20000 in
theorem ggX10_simple_X10_in : GoodIn wsX10_simple wsX10_in := goodIn_r _ [7] (by decide +kernel) (by decide +kernel)
set_option maxRecDepth 20000 in
theorem gX10_simple_X10_in : GoodIn wsX10_simple (va_wsS RX10 72 yX10_in wsX10_in) := goodIn_app (goodIn_of _ (by decide +kernel)) ggX10_simple_X10_in
set_option maxRecDepth 20000 in
theorem ggX10_simple_X10_sheetOf : GoodIn wsX10_simple wsX10_sheetOf := goodIn_r _ [11, 12, 13, 14, 6, 15, 2, 16, 17, 18, 19, 20, 21, 22, 3, 23, 24, 25, 26, 27, 28, 29, 30, 31, 32, 33, 34, 35, 36, 37, 38, 39, 40, 41, 42, 43, 44, 45, 46, 47, 48, 49, 50, 51, 52, 53, 54, 55, 56, 57, 58, 59, 60, 61, 62, 63, 64, 65, 66, 67, 68, 69, 70, 71, 72, 73, 74, 75, 76, 77, 78, 79, 80, 81, 82, 83, 84, 85, 86, 1, 87, 88, 89, 90, 91, 92, 93, 94, 95, 96, 97, 98, 99, 100, 101, 102, 103, 104, 105, 106, 107, 108, 109, 110, 111, 112, 113, 114, 115, 116, 117, 118, 119, 120, 121, 122, 123, 124, 125, 126, 127, 128, 129, 130, 131] (by decide +kernel) (by decide +kernel)
set_option maxRecDepth 20000 in
theorem gX10_simple_X10_sheetOf : GoodIn wsX10_simple (wsV RX10 269 RX10 yX10_sheetOf wsX10_sheetOf) := goodIn_app (goodIn_of _ (by decide +kernel)) ggX10_simple_X10_sheetOf
set_option maxRecDepth 20000 in
theorem ggX10_match_X10_in : GoodIn wsX10_match wsX10_in := goodIn_r _ [8] (by decide +kernel) (by decide +kernel)
set_option maxRecDepth 20000 in
theorem gX10_match_X10_in : GoodIn wsX10_match (va_wsS RX10 72 yX10_in wsX10_in) := goodIn_app (goodIn_of _ (by decide +kernel)) ggX10_match_X10_in
set_option maxRecDepth 20000 in
theorem ggX10_tried_X10_layOut : GoodIn wsX10_tried wsX10_layOut := goodIn_r _ [9, 10, 11, 12, 13, 14, 15, 16, 17, 18, 8, 19, 20, 21, 22, 23, 24, 25, 26, 27, 28, 29, 30, 31, 32, 33, 34, 35, 36, 37, 38, 39, 40, 41, 42, 43, 44, 45, 46, 54, 55, 56, 57, 58, 59, 60, 61, 62, 63, 64, 65, 66, 67, 68, 69, 70, 71, 72, 73, 74, 75, 76, 77, 78, 79, 80, 81, 82, 83, 84, 85, 86, 87, 88, 89, 90, 91, 92, 93] (by decide +kernel) (by decide +kernel)
set_option maxRecDepth 20000 in
theorem gX10_tried_X10_layOut : GoodIn wsX10_tried (wsV RX10 202 RX10 yX10_layOut wsX10_layOut) := goodIn_app (goodIn_of _ (by decide +kernel)) ggX10_tried_X10_layOut
set_option maxRecDepth 20000 in
theorem ggX10_tried_X10_areIn : GoodIn wsX10_tried wsX10_areIn := goodIn_r _ [50, 11, 12, 51, 52, 8, 53, 54, 55, 56, 57, 58, 59, 60, 61, 62, 63, 64, 65, 66, 67, 68, 69, 70, 71, 72, 73, 74, 75, 76, 77, 78, 79, 80, 81, 82, 83, 84, 85, 86, 87, 88, 89, 90, 91, 92, 93] (by decide +kernel) (by decide +kernel)
set_option maxRecDepth 20000 in
theorem gX10_tried_X10_areIn : GoodIn wsX10_tried (wsV RX10 198 RX10 yX10_areIn wsX10_areIn) := goodIn_app (goodIn_of _ (by decide +kernel)) ggX10_tried_X10_areIn
set_option maxRecDepth 20000 in
theorem ggX10_tried_X10_makesOf : GoodIn wsX10_tried wsX10_makesOf := goodIn_r _ [31, 13, 54, 55, 56, 57, 58, 59, 60, 61, 62, 63, 64, 65, 66, 67, 68, 69, 70, 71, 72, 73, 74, 75, 76, 77, 78, 79, 80, 81, 82, 83, 84, 85, 86, 87, 88, 89, 90, 91, 92, 93] (by decide +kernel) (by decide +kernel)
set_option maxRecDepth 20000 in
theorem gX10_tried_X10_makesOf : GoodIn wsX10_tried (wsV RX10 175 RX10 yX10_makesOf wsX10_makesOf) := goodIn_app (goodIn_of _ (by decide +kernel)) ggX10_tried_X10_makesOf
set_option maxRecDepth 20000 in
theorem ggX10_tried_X10_ten : GoodIn wsX10_tried wsX10_ten := goodIn_r _ [23, 24] (by decide +kernel) (by decide +kernel)
set_option maxRecDepth 20000 in
theorem gX10_tried_X10_ten : GoodIn wsX10_tried (va_wsS RX10 167 yX10_ten wsX10_ten) := goodIn_app (goodIn_of _ (by decide +kernel)) ggX10_tried_X10_ten
set_option maxRecDepth 20000 in
theorem ggX10_count_X10_goTo : GoodIn wsX10_count wsX10_goTo := goodIn_r _ [14, 15, 5, 6, 16, 7, 17, 18, 19, 20, 13, 21, 2, 3, 22, 23, 24, 25, 26, 27, 28, 29, 30, 31, 32, 33, 34, 35, 36, 37, 38, 39, 40, 41, 42, 43, 44, 45, 46, 47, 48, 49, 50, 51, 52, 53, 54, 55, 56, 57, 58, 59, 60, 61, 62, 63, 64, 65, 66, 67, 68, 69, 70, 71, 72, 73, 74, 75, 76, 77, 78, 79, 80, 81, 82, 83, 84, 85, 86, 87, 88, 89, 90, 91, 92, 93, 94, 95, 96, 97, 98, 99, 100, 101, 102, 103, 104, 105, 106, 107, 108, 109, 110, 111, 112, 113, 114, 115, 116, 117, 118, 119, 120, 121, 122, 123, 124, 125] (by decide +kernel) (by decide +kernel)
set_option maxRecDepth 20000 in
theorem gX10_count_X10_goTo : GoodIn wsX10_count (wsV RX10 259 RX10 yX10_goTo wsX10_goTo) := goodIn_app (goodIn_of _ (by decide +kernel)) ggX10_count_X10_goTo
set_option maxRecDepth 20000 in
theorem ggX10_count_X10_firstAll : GoodIn wsX10_count wsX10_firstAll := goodIn_r _ [68, 69, 70, 86, 87, 88, 89, 90, 91, 92, 93, 94, 95, 96, 97, 98, 99, 100, 101, 102, 103, 104, 105, 106, 107, 108, 109, 110, 111, 112, 113, 114, 115, 116, 117, 118, 119, 120, 121, 122, 123, 124, 125] (by decide +kernel) (by decide +kernel)
set_option maxRecDepth 20000 in
theorem gX10_count_X10_firstAll : GoodIn wsX10_count (wsV RX10 214 RX10 yX10_firstAll wsX10_firstAll) := goodIn_app (goodIn_of _ (by decide +kernel)) ggX10_count_X10_firstAll
set_option maxRecDepth 20000 in
theorem ggJ0_length_8abf5_J0_coder_7d493 : GoodIn wsJ0_length_8abf5 wsJ0_coder_7d493 := goodIn_r _ [6, 7, 8] (by decide +kernel) (by decide +kernel)
set_option maxRecDepth 20000 in
theorem gJ0_length_8abf5_J0_coder_7d493 : GoodIn wsJ0_length_8abf5 (wsV RJ0 335 RJ0 yJ0_coder_7d493 wsJ0_coder_7d493) := goodIn_app (goodIn_of _ (by decide +kernel)) ggJ0_length_8abf5_J0_coder_7d493
set_option maxRecDepth 20000 in
theorem ggJ0_charAt_5068e_J0_isLatin1_aae02 : GoodIn wsJ0_charAt_5068e wsJ0_isLatin1_aae02 := goodIn_r _ [6, 7, 8] (by decide +kernel) (by decide +kernel)
set_option maxRecDepth 20000 in
theorem gJ0_charAt_5068e_J0_isLatin1_aae02 : GoodIn wsJ0_charAt_5068e (wsV RJ0 492 RJ0 yJ0_isLatin1_aae02 wsJ0_isLatin1_aae02) := goodIn_app (goodIn_of _ (by decide +kernel)) ggJ0_charAt_5068e_J0_isLatin1_aae02
set_option maxRecDepth 20000 in
theorem ggJ0_charAt_5068e_J1_charAt_3b067 : GoodIn wsJ0_charAt_5068e wsJ1_charAt_3b067 := goodIn_r _ [12, 13, 14, 5, 15, 16, 17, 18, 19, 20] (by decide +kernel) (by decide +kernel)
set_option maxRecDepth 20000 in
theorem gJ0_charAt_5068e_J1_charAt_3b067 : GoodIn wsJ0_charAt_5068e (va_wsS RJ0 495 yJ1_charAt_3b067 wsJ1_charAt_3b067) := goodIn_app (goodIn_of _ (by decide +kernel)) ggJ0_charAt_5068e_J1_charAt_3b067
set_option maxRecDepth 20000 in
theorem ggJ0_charAt_5068e_J2_charAt_3b067 : GoodIn wsJ0_charAt_5068e wsJ2_charAt_3b067 := goodIn_r _ [24, 25, 26, 23, 27, 28, 29, 30, 31, 14, 5, 15, 16, 17, 18, 19, 20, 32, 33, 34, 35, 36, 37] (by decide +kernel) (by decide +kernel)
set_option maxRecDepth 20000 in
theorem gJ0_charAt_5068e_J2_charAt_3b067 : GoodIn wsJ0_charAt_5068e (va_wsS RJ0 498 yJ2_charAt_3b067 wsJ2_charAt_3b067) := goodIn_app (goodIn_of _ (by decide +kernel)) ggJ0_charAt_5068e_J2_charAt_3b067
set_option maxRecDepth 20000 in
theorem ggJ0_checkIndex_df160_J3_checkIndex_8e157 : GoodIn wsJ0_checkIndex_df160 wsJ3_checkIndex_8e157 := goodIn_r _ [5] (by decide +kernel) (by decide +kernel)
set_option maxRecDepth 20000 in
theorem gJ0_checkIndex_df160_J3_checkIndex_8e157 : GoodIn wsJ0_checkIndex_df160 (va_wsS RJ0 1059 yJ3_checkIndex_8e157 wsJ3_checkIndex_8e157) := goodIn_app (goodIn_of _ (by decide +kernel)) ggJ0_checkIndex_df160_J3_checkIndex_8e157
set_option maxRecDepth 20000 in
theorem ggJ1_charAt_3b067_J0_checkIndex_df160 : GoodIn wsJ1_charAt_3b067 wsJ0_checkIndex_df160 := goodIn_r _ [4, 5, 6, 7, 8, 9] (by decide +kernel) (by decide +kernel)
set_option maxRecDepth 20000 in
theorem gJ1_charAt_3b067_J0_checkIndex_df160 : GoodIn wsJ1_charAt_3b067 (va_wsS RJ1 9 yJ0_checkIndex_df160 wsJ0_checkIndex_df160) := goodIn_app (goodIn_of _ (by decide +kernel)) ggJ1_charAt_3b067_J0_checkIndex_df160
set_option maxRecDepth 20000 in
theorem ggJ2_getChar_3b067_J2_length_9d52b : GoodIn wsJ2_getChar_3b067 wsJ2_length_9d52b := goodIn_r _ [7] (by decide +kernel) (by decide +kernel)
set_option maxRecDepth 20000 in
theorem gJ2_getChar_3b067_J2_length_9d52b : GoodIn wsJ2_getChar_3b067 (va_wsS RJ2 48 yJ2_length_9d52b wsJ2_length_9d52b) := goodIn_app (goodIn_of _ (by decide +kernel)) ggJ2_getChar_3b067_J2_length_9d52b
set_option maxRecDepth 20000 in
theorem ggJ2_charAt_3b067_J2_checkIndex_2214a : GoodIn wsJ2_charAt_3b067 wsJ2_checkIndex_2214a := goodIn_r _ [4, 5, 6, 3, 7, 8, 9, 10, 11, 12, 13, 14, 15, 16] (by decide +kernel) (by decide +kernel)
set_option maxRecDepth 20000 in
theorem gJ2_charAt_3b067_J2_checkIndex_2214a : GoodIn wsJ2_charAt_3b067 (va_wsS RJ2 67 yJ2_checkIndex_2214a wsJ2_checkIndex_2214a) := goodIn_app (goodIn_of _ (by decide +kernel)) ggJ2_charAt_3b067_J2_checkIndex_2214a
set_option maxRecDepth 20000 in
theorem ggJ2_charAt_3b067_J2_getChar_3b067 : GoodIn wsJ2_charAt_3b067 wsJ2_getChar_3b067 := goodIn_r _ [19, 20, 21, 22, 5, 6, 3, 7] (by decide +kernel) (by decide +kernel)
set_option maxRecDepth 20000 in
theorem gJ2_charAt_3b067_J2_getChar_3b067 : GoodIn wsJ2_charAt_3b067 (va_wsS RJ2 71 yJ2_getChar_3b067 wsJ2_getChar_3b067) := goodIn_app (goodIn_of _ (by decide +kernel)) ggJ2_charAt_3b067_J2_getChar_3b067
set_option maxRecDepth 20000 in
theorem ggJ2_checkIndex_2214a_J2_length_9d52b : GoodIn wsJ2_checkIndex_2214a wsJ2_length_9d52b := goodIn_r _ [4] (by decide +kernel) (by decide +kernel)
set_option maxRecDepth 20000 in
theorem gJ2_checkIndex_2214a_J2_length_9d52b : GoodIn wsJ2_checkIndex_2214a (va_wsS RJ2 48 yJ2_length_9d52b wsJ2_length_9d52b) := goodIn_app (goodIn_of _ (by decide +kernel)) ggJ2_checkIndex_2214a_J2_length_9d52b
set_option maxRecDepth 20000 in
theorem ggJ2_checkIndex_2214a_J0_checkIndex_df160 : GoodIn wsJ2_checkIndex_2214a wsJ0_checkIndex_df160 := goodIn_r _ [8, 9, 10, 11, 12, 13] (by decide +kernel) (by decide +kernel)
set_option maxRecDepth 20000 in
theorem gJ2_checkIndex_2214a_J0_checkIndex_df160 : GoodIn wsJ2_checkIndex_2214a (va_wsS RJ2 414 yJ0_checkIndex_df160 wsJ0_checkIndex_df160) := goodIn_app (goodIn_of _ (by decide +kernel)) ggJ2_checkIndex_2214a_J0_checkIndex_df160
set_option maxRecDepth 20000 in
theorem ggL_law_X9_init : GoodIn wsL_law wsX9_init := goodIn_r _ [9, 10, 11, 12, 13, 14, 15, 16, 17, 18, 19, 20, 21, 22, 23, 24, 25, 26, 27, 28, 29, 30, 31, 32, 33, 34, 35, 36, 37, 38, 39, 40, 41, 42, 43, 44, 45, 46, 47, 48, 49, 50, 51, 52, 53, 54, 55, 56, 57, 58, 59, 60, 61, 62, 63, 64, 65, 66, 67, 68, 69, 70, 71, 72, 73, 74, 75, 76, 77, 78, 79, 2, 80, 81, 82, 83, 84, 85, 86, 87, 88, 89, 90, 91, 92, 93, 94, 95, 96, 97, 98, 99, 100, 101, 102, 103, 104, 105, 106, 107, 108, 109, 110, 111, 112, 113, 114, 115, 116, 117, 118, 119, 120, 121, 122, 123, 124, 125, 126, 127, 128, 129, 130, 131, 132, 133, 134, 135, 136, 137, 138, 139, 140, 141, 142, 828, 829, 779, 780, 781, 782, 783, 784, 785, 786, 787, 830, 831, 832, 833, 834, 835, 836, 837, 838, 839, 840, 841, 842, 843, 844, 845, 846, 847, 848, 849, 850, 851, 852, 853, 854, 855, 856, 857, 858, 859, 860, 861, 862, 863, 864, 865, 866] (by decide +kernel) (by decide +kernel)
set_option maxRecDepth 20000 in
theorem gL_law_X9_init : GoodIn wsL_law (wsX9_init) := ggL_law_X9_init
set_option maxRecDepth 20000 in
theorem ggL_law_X10_init : GoodIn wsL_law wsX10_init := goodIn_r _ [145, 146, 11, 12, 147, 148, 52, 149, 150, 151, 152, 153, 154, 155, 156, 157, 158, 159, 160, 161, 162, 163, 84, 164, 165, 166, 788, 789, 790, 791, 792, 793, 794, 795, 796, 797, 798, 799, 800, 801, 802, 803, 804, 805, 806, 807, 808, 809, 810, 811, 812, 813, 814, 815, 816, 817, 818, 819, 820, 821, 822, 823, 824, 825, 826, 827] (by decide +kernel) (by decide +kernel)
set_option maxRecDepth 20000 in
theorem gL_law_X10_init : GoodIn wsL_law (wsX10_init) := ggL_law_X10_init
set_option maxRecDepth 20000 in
theorem ggL_law_X9_write : GoodIn wsL_law wsX9_write := goodIn_r _ [170, 16, 131, 79, 2, 80, 171, 15, 172, 173, 174, 53, 175, 779, 780, 781, 782, 783, 784, 785, 786, 787, 828, 829] (by decide +kernel) (by decide +kernel)
set_option maxRecDepth 20000 in
theorem gL_law_X9_write : GoodIn wsL_law (wsV RL 15 RX9 yX9_write wsX9_write) := goodIn_app (goodIn_of _ (by decide +kernel)) ggL_law_X9_write
set_option maxRecDepth 20000 in
theorem ggL_law_X10_write : GoodIn wsL_law wsX10_write := goodIn_r _ [179, 180, 154, 181, 182, 183, 5, 184, 788, 789, 790, 791, 792, 793, 794, 795, 796, 797, 798, 799, 800, 801, 802, 803, 804, 805, 806, 807, 808, 809, 810, 811, 812, 813, 814, 815, 816, 817, 818, 819, 820, 821, 822, 823, 824, 825, 826, 827] (by decide +kernel) (by decide +kernel)
set_option maxRecDepth 20000 in
theorem gL_law_X10_write : GoodIn wsL_law (wsV RL 19 RX10 yX10_write wsX10_write) := goodIn_app (goodIn_of _ (by decide +kernel)) ggL_law_X10_write
set_option maxRecDepth 20000 in
theorem ggL_law_X9_erase : GoodIn wsL_law wsX9_erase := goodIn_r _ [188, 16, 779, 780, 781, 782, 783, 784, 785, 786, 787, 828, 829] (by decide +kernel) (by decide +kernel)
set_option maxRecDepth 20000 in
theorem gL_law_X9_erase : GoodIn wsL_law (wsV RL 20 RX9 yX9_erase wsX9_erase) := goodIn_app (goodIn_of _ (by decide +kernel)) ggL_law_X9_erase
set_option maxRecDepth 20000 in
theorem ggL_law_X10_erase : GoodIn wsL_law wsX10_erase := goodIn_r _ [192, 180, 788, 789, 790, 791, 792, 793, 794, 795, 796, 797, 798, 799, 800, 801, 802, 803, 804, 805, 806, 807, 808, 809, 810, 811, 812, 813, 814, 815, 816, 817, 818, 819, 820, 821, 822, 823, 824, 825, 826, 827] (by decide +kernel) (by decide +kernel)
set_option maxRecDepth 20000 in
theorem gL_law_X10_erase : GoodIn wsL_law (wsV RL 24 RX10 yX10_erase wsX10_erase) := goodIn_app (goodIn_of _ (by decide +kernel)) ggL_law_X10_erase
set_option maxRecDepth 20000 in
theorem ggL_law_X9_fault : GoodIn wsL_law wsX9_fault := goodIn_r _ [196, 20, 197, 19, 198, 199, 200, 201, 202, 203, 204, 205, 206, 207, 57, 208, 209, 210, 211, 59, 212, 15, 213, 214, 174, 53, 79, 2, 80, 215, 216, 217, 218, 219, 220, 221, 222, 223, 224, 225, 226, 227, 228, 229, 230, 231, 232, 233, 234, 235, 236, 237, 238, 239, 240, 241, 242, 243, 244, 245, 246, 247, 248, 249, 250, 251, 252, 253, 254, 255, 256, 257, 258, 259, 260, 261, 262, 263, 264, 265, 266, 267, 268, 269, 270, 271, 272, 273, 274, 275, 276, 277, 278, 58, 279, 280, 281, 282, 283, 284, 285, 286, 779, 780, 781, 782, 783, 784, 785, 786, 787, 830, 831, 832, 833, 834, 835, 836, 828, 829] (by decide +kernel) (by decide +kernel)
set_option maxRecDepth 20000 in
theorem gL_law_X9_fault : GoodIn wsL_law (wsV RL 25 RX9 yX9_fault wsX9_fault) := goodIn_app (goodIn_of _ (by decide +kernel)) ggL_law_X9_fault
set_option maxRecDepth 20000 in
theorem ggL_law_X10_fault : GoodIn wsL_law wsX10_fault := goodIn_r _ [290, 291, 292, 293, 294, 5, 295, 296, 297, 298, 299, 300, 301, 302, 303, 304, 155, 305, 306, 307, 308, 309, 310, 311, 312, 313, 314, 180, 154, 315, 316, 317, 318, 319, 320, 321, 182, 183, 184, 322, 323, 324, 325, 326, 327, 328, 329, 330, 331, 332, 333, 788, 789, 790, 791, 792, 793, 794, 795, 796, 797, 798, 799, 800, 801, 802, 803, 804, 805, 806, 807, 808, 809, 810, 811, 812, 813, 814, 815, 816, 817, 818, 819, 820, 821, 822, 823, 824, 825, 826, 827] (by decide +kernel) (by decide +kernel)
set_option maxRecDepth 20000 in
theorem gL_law_X10_fault : GoodIn wsL_law (wsV RL 28 RX10 yX10_fault wsX10_fault) := goodIn_app (goodIn_of _ (by decide +kernel)) ggL_law_X10_fault
set_option maxRecDepth 20000 in
theorem ggL_law_X9_game : GoodIn wsL_law wsX9_game := goodIn_r _ [337, 20, 32, 36, 40, 24, 16, 197, 19, 198, 199, 200, 201, 202, 203, 204, 205, 206, 207, 57, 208, 209, 210, 211, 59, 212, 15, 213, 214, 174, 53, 79, 2, 80, 215, 216, 217, 218, 219, 220, 221, 222, 223, 224, 225, 226, 227, 228, 229, 230, 231, 232, 233, 234, 235, 236, 237, 238, 239, 240, 241, 242, 243, 244, 245, 246, 247, 248, 249, 250, 251, 252, 253, 254, 255, 256, 257, 258, 259, 260, 261, 262, 263, 264, 265, 266, 267, 268, 269, 270, 271, 272, 273, 274, 275, 276, 277, 278, 58, 279, 280, 281, 282, 283, 284, 285, 286, 338, 339, 340, 341, 342, 343, 344, 345, 346, 347, 348, 28, 349, 27, 350, 351, 73, 76, 77, 78, 74, 352, 353, 354, 355, 107, 31, 108, 109, 86, 110, 111, 112, 113, 85, 114, 115, 116, 117, 118, 119, 120, 121, 87, 122, 123, 124, 125, 126, 127, 128, 129, 130, 131, 132, 133, 134, 135, 356, 35, 357, 358, 91, 359, 360, 361, 362, 363, 136, 39, 137, 138, 139, 140, 141, 142, 779, 780, 781, 782, 783, 784, 785, 786, 787, 830, 831, 832, 833, 834, 835, 836, 828, 829, 837, 838, 839, 840, 841, 842, 843, 844, 845, 846, 847, 848, 849, 850, 851, 852, 853, 854, 855, 856] (by decide +kernel) (by decide +kernel)
set_option maxRecDepth 20000 in
theorem gL_law_X9_game : GoodIn wsL_law (wsV RL 29 RX9 yX9_game wsX9_game) := goodIn_app (goodIn_of _ (by decide +kernel)) ggL_law_X9_game
set_option maxRecDepth 20000 in
theorem ggL_law_X10_game : GoodIn wsL_law wsX10_game := goodIn_r _ [367, 297, 180, 292, 293, 294, 5, 295, 296, 298, 299, 300, 301, 302, 303, 304, 155, 305, 306, 307, 308, 309, 310, 311, 312, 313, 314, 154, 315, 316, 317, 318, 319, 320, 321, 182, 183, 184, 322, 323, 324, 325, 326, 327, 328, 329, 291, 330, 331, 332, 333, 368, 369, 370, 371, 147, 372, 148, 149, 150, 151, 152, 373, 374, 153, 375, 376, 788, 789, 790, 791, 792, 793, 794, 795, 796, 797, 798, 799, 800, 801, 802, 803, 804, 805, 806, 807, 808, 809, 810, 811, 812, 813, 814, 815, 816, 817, 818, 819, 820, 821, 822, 823, 824, 825, 826, 827] (by decide +kernel) (by decide +kernel)
set_option maxRecDepth 20000 in
theorem gL_law_X10_game : GoodIn wsL_law (wsV RL 32 RX10 yX10_game wsX10_game) := goodIn_app (goodIn_of _ (by decide +kernel)) ggL_law_X10_game
set_option maxRecDepth 20000 in
theorem ggL_law_X9_mood : GoodIn wsL_law wsX9_mood := goodIn_r _ [380, 28, 131, 79, 2, 80, 122, 27, 123, 124, 73, 125, 126, 127, 74, 779, 780, 781, 782, 783, 784, 785, 786, 787, 844, 845] (by decide +kernel) (by decide +kernel)
set_option maxRecDepth 20000 in
theorem gL_law_X9_mood : GoodIn wsL_law (wsV RL 33 RX9 yX9_mood wsX9_mood) := goodIn_app (goodIn_of _ (by decide +kernel)) ggL_law_X9_mood
set_option maxRecDepth 20000 in
theorem ggL_law_X10_mood : GoodIn wsL_law wsX10_mood := goodIn_r _ [384, 149, 150, 182, 183, 5, 184, 788, 789, 790, 791, 792, 793, 794, 795, 796, 797, 798, 799, 800, 801, 802, 803, 804, 805, 806, 807, 808, 809, 810, 811, 812, 813, 814, 815, 816, 817, 818, 819, 820, 821, 822, 823, 824, 825, 826, 827] (by decide +kernel) (by decide +kernel)
set_option maxRecDepth 20000 in
theorem gL_law_X10_mood : GoodIn wsL_law (wsV RL 37 RX10 yX10_mood wsX10_mood) := goodIn_app (goodIn_of _ (by decide +kernel)) ggL_law_X10_mood
set_option maxRecDepth 20000 in
theorem ggL_law_X9_makes : GoodIn wsL_law wsX9_makes := goodIn_r _ [388, 389, 32, 390, 391, 392, 2, 393, 24, 131, 79, 80, 133, 31, 134, 135, 85, 394, 128, 129, 130, 395, 396, 397, 398, 399, 400, 401, 402, 403, 779, 780, 781, 782, 783, 784, 785, 786, 787, 837, 838, 839, 840, 841, 842, 843, 846, 847, 848] (by decide +kernel) (by decide +kernel)
set_option maxRecDepth 20000 in
theorem gL_law_X9_makes : GoodIn wsL_law (wsV RL 38 RX9 yX9_makes wsX9_makes) := goodIn_app (goodIn_of _ (by decide +kernel)) ggL_law_X9_makes
set_option maxRecDepth 20000 in
theorem ggL_law_X10_makes : GoodIn wsL_law wsX10_makes := goodIn_r _ [407, 299, 408, 409, 410, 5, 411, 147, 148, 182, 183, 184, 412, 413, 414, 415, 376, 164, 166, 149, 416, 417, 418, 419, 150, 420, 421, 422, 423, 424, 425, 426, 427, 428, 429, 430, 431, 432, 433, 434, 435, 436, 437, 438, 439, 440, 441, 442, 443, 444, 445, 446, 447, 448, 788, 789, 790, 791, 792, 793, 794, 795, 796, 797, 798, 799, 800, 801, 802, 803, 804, 805, 806, 807, 808, 809, 810, 811, 812, 813, 814, 815, 816, 817, 818, 819, 820, 821, 822, 823, 824, 825, 826, 827] (by decide +kernel) (by decide +kernel)
set_option maxRecDepth 20000 in
theorem gL_law_X10_makes : GoodIn wsL_law (wsV RL 42 RX10 yX10_makes wsX10_makes) := goodIn_app (goodIn_of _ (by decide +kernel)) ggL_law_X10_makes
set_option maxRecDepth 20000 in
theorem ggL_law_X9_wins : GoodIn wsL_law wsX9_wins := goodIn_r _ [452, 389, 32, 390, 391, 392, 2, 393, 24, 131, 79, 80, 453, 31, 454, 455, 86, 110, 111, 112, 113, 128, 129, 130, 456, 457, 458, 459, 87, 122, 27, 123, 124, 73, 125, 126, 127, 74, 460, 394, 395, 396, 397, 398, 399, 400, 401, 402, 403, 779, 780, 781, 782, 783, 784, 785, 786, 787, 837, 838, 839, 840, 841, 842, 843, 846, 847, 848, 844, 845] (by decide +kernel) (by decide +kernel)
set_option maxRecDepth 20000 in
theorem gL_law_X9_wins : GoodIn wsL_law (wsV RL 43 RX9 yX9_wins wsX9_wins) := goodIn_app (goodIn_of _ (by decide +kernel)) ggL_law_X9_wins
set_option maxRecDepth 20000 in
theorem ggL_law_X10_wins : GoodIn wsL_law wsX10_wins := goodIn_r _ [464, 299, 408, 409, 410, 5, 411, 147, 148, 182, 183, 184, 412, 413, 414, 415, 376, 164, 166, 149, 416, 417, 418, 419, 150, 420, 421, 422, 423, 424, 425, 426, 427, 428, 429, 430, 431, 432, 433, 434, 435, 436, 437, 438, 439, 440, 441, 442, 443, 444, 445, 446, 447, 448, 788, 789, 790, 791, 792, 793, 794, 795, 796, 797, 798, 799, 800, 801, 802, 803, 804, 805, 806, 807, 808, 809, 810, 811, 812, 813, 814, 815, 816, 817, 818, 819, 820, 821, 822, 823, 824, 825, 826, 827] (by decide +kernel) (by decide +kernel)
set_option maxRecDepth 20000 in
theorem gL_law_X10_wins : GoodIn wsL_law (wsV RL 47 RX10 yX10_wins wsX10_wins) := goodIn_app (goodIn_of _ (by decide +kernel)) ggL_law_X10_wins
set_option maxRecDepth 20000 in
theorem ggL_law_X9_best : GoodIn wsL_law wsX9_best := goodIn_r _ [468, 32, 390, 391, 392, 2, 393, 24, 131, 79, 80, 469, 31, 470, 471, 87, 122, 27, 123, 124, 73, 118, 119, 120, 121, 125, 126, 127, 74, 128, 129, 130, 132, 133, 134, 135, 85, 472, 473, 474, 456, 457, 458, 459, 460, 453, 454, 455, 86, 110, 111, 112, 113, 779, 780, 781, 782, 783, 784, 785, 786, 787, 837, 838, 839, 840, 841, 842, 843, 846, 847, 848, 844, 845] (by decide +kernel) (by decide +kernel)
set_option maxRecDepth 20000 in
theorem gL_law_X9_best : GoodIn wsL_law (wsV RL 48 RX9 yX9_best wsX9_best) := goodIn_app (goodIn_of _ (by decide +kernel)) ggL_law_X9_best
set_option maxRecDepth 20000 in
theorem ggL_law_X10_best : GoodIn wsL_law wsX10_best := goodIn_r _ [478, 149, 408, 409, 410, 5, 411, 147, 148, 182, 183, 184, 412, 413, 414, 415, 376, 164, 166, 416, 417, 418, 419, 150, 420, 421, 422, 423, 424, 425, 426, 427, 428, 429, 430, 431, 432, 433, 434, 435, 436, 437, 438, 439, 440, 441, 442, 443, 444, 445, 788, 789, 790, 791, 792, 793, 794, 795, 796, 797, 798, 799, 800, 801, 802, 803, 804, 805, 806, 807, 808, 809, 810, 811, 812, 813, 814, 815, 816, 817, 818, 819, 820, 821, 822, 823, 824, 825, 826, 827] (by decide +kernel) (by decide +kernel)
set_option maxRecDepth 20000 in
theorem gL_law_X10_best : GoodIn wsL_law (wsV RL 51 RX10 yX10_best wsX10_best) := goodIn_app (goodIn_of _ (by decide +kernel)) ggL_law_X10_best
set_option maxRecDepth 20000 in
theorem ggL_law_X9_spend : GoodIn wsL_law wsX9_spend := goodIn_r _ [482, 32, 24, 390, 391, 392, 2, 393, 131, 79, 80, 483, 31, 484, 485, 486, 132, 133, 134, 135, 85, 128, 129, 130, 402, 403, 779, 780, 781, 782, 783, 784, 785, 786, 787, 837, 838, 839, 840, 841, 842, 843, 846, 847, 848] (by decide +kernel) (by decide +kernel)
set_option maxRecDepth 20000 in
theorem gL_law_X9_spend : GoodIn wsL_law (wsV RL 52 RX9 yX9_spend wsX9_spend) := goodIn_app (goodIn_of _ (by decide +kernel)) ggL_law_X9_spend
set_option maxRecDepth 20000 in
theorem ggL_law_X10_spend : GoodIn wsL_law wsX10_spend := goodIn_r _ [490, 408, 409, 410, 5, 411, 147, 148, 182, 183, 184, 491, 492, 493, 494, 495, 412, 413, 414, 415, 376, 164, 166, 149, 416, 417, 418, 419, 150, 420, 421, 422, 423, 424, 425, 426, 427, 428, 429, 430, 431, 432, 433, 434, 435, 436, 437, 438, 439, 440, 441, 442, 443, 444, 445, 788, 789, 790, 791, 792, 793, 794, 795, 796, 797, 798, 799, 800, 801, 802, 803, 804, 805, 806, 807, 808, 809, 810, 811, 812, 813, 814, 815, 816, 817, 818, 819, 820, 821, 822, 823, 824, 825, 826, 827] (by decide +kernel) (by decide +kernel)
set_option maxRecDepth 20000 in
theorem gL_law_X10_spend : GoodIn wsL_law (wsV RL 56 RX10 yX10_spend wsX10_spend) := goodIn_app (goodIn_of _ (by decide +kernel)) ggL_law_X10_spend
set_option maxRecDepth 20000 in
theorem ggL_law_X9_bat : GoodIn wsL_law wsX9_bat := goodIn_r _ [499, 36, 24, 131, 79, 2, 80, 500, 35, 501, 502, 359, 91, 360, 779, 780, 781, 782, 783, 784, 785, 786, 787, 849, 850, 851, 837, 838, 839, 840, 841, 842, 843] (by decide +kernel) (by decide +kernel)
set_option maxRecDepth 20000 in
theorem gL_law_X9_bat : GoodIn wsL_law (wsV RL 57 RX9 yX9_bat wsX9_bat) := goodIn_app (goodIn_of _ (by decide +kernel)) ggL_law_X9_bat
set_option maxRecDepth 20000 in
theorem ggL_law_X10_bat : GoodIn wsL_law wsX10_bat := goodIn_r _ [506, 372, 147, 156, 182, 183, 5, 184, 788, 789, 790, 791, 792, 793, 794, 795, 796, 797, 798, 799, 800, 801, 802, 803, 804, 805, 806, 807, 808, 809, 810, 811, 812, 813, 814, 815, 816, 817, 818, 819, 820, 821, 822, 823, 824, 825, 826, 827] (by decide +kernel) (by decide +kernel)
set_option maxRecDepth 20000 in
theorem gL_law_X10_bat : GoodIn wsL_law (wsV RL 61 RX10 yX10_bat wsX10_bat) := goodIn_app (goodIn_of _ (by decide +kernel)) ggL_law_X10_bat
set_option maxRecDepth 20000 in
theorem ggL_law_X9_anew : GoodIn wsL_law wsX9_anew := goodIn_r _ [510, 36, 40, 24, 356, 35, 357, 358, 91, 359, 360, 361, 362, 116, 363, 136, 39, 137, 138, 139, 140, 141, 142, 779, 780, 781, 782, 783, 784, 785, 786, 787, 849, 850, 851, 852, 853, 854, 855, 856, 837, 838, 839, 840, 841, 842, 843] (by decide +kernel) (by decide +kernel)
set_option maxRecDepth 20000 in
theorem gL_law_X9_anew : GoodIn wsL_law (wsV RL 62 RX9 yX9_anew wsX9_anew) := goodIn_app (goodIn_of _ (by decide +kernel)) ggL_law_X9_anew
set_option maxRecDepth 20000 in
theorem ggL_law_X10_anew : GoodIn wsL_law wsX10_anew := goodIn_r _ [514, 372, 375, 515, 516, 517, 5, 518, 156, 788, 789, 790, 791, 792, 793, 794, 795, 796, 797, 798, 799, 800, 801, 802, 803, 804, 805, 806, 807, 808, 809, 810, 811, 812, 813, 814, 815, 816, 817, 818, 819, 820, 821, 822, 823, 824, 825, 826, 827] (by decide +kernel) (by decide +kernel)
set_option maxRecDepth 20000 in
theorem gL_law_X10_anew : GoodIn wsL_law (wsV RL 65 RX10 yX10_anew wsX10_anew) := goodIn_app (goodIn_of _ (by decide +kernel)) ggL_law_X10_anew
set_option maxRecDepth 20000 in
theorem ggL_law_X9_play : GoodIn wsL_law wsX9_play := goodIn_r _ [522, 40, 131, 79, 2, 80, 523, 39, 524, 525, 140, 141, 526, 527, 528, 529, 530, 112, 531, 142, 532, 533, 534, 535, 139, 95, 779, 780, 781, 782, 783, 784, 785, 786, 787, 852, 853, 854, 855, 856] (by decide +kernel) (by decide +kernel)
set_option maxRecDepth 20000 in
theorem gL_law_X9_play : GoodIn wsL_law (wsV RL 66 RX9 yX9_play wsX9_play) := goodIn_app (goodIn_of _ (by decide +kernel)) ggL_law_X9_play
set_option maxRecDepth 20000 in
theorem ggL_law_X10_play : GoodIn wsL_law wsX10_play := goodIn_r _ [539, 375, 540, 541, 158, 159, 160, 542, 182, 183, 5, 184, 543, 544, 545, 546, 547, 548, 549, 550, 147, 148, 551, 552, 553, 554, 412, 413, 414, 415, 376, 164, 166, 149, 416, 417, 418, 419, 150, 420, 421, 422, 423, 424, 425, 426, 427, 428, 429, 430, 431, 432, 433, 434, 435, 436, 437, 438, 439, 440, 441, 442, 443, 444, 445, 515, 516, 517, 518, 372, 156, 555, 556, 557, 558, 491, 492, 493, 494, 495, 559, 560, 561, 562, 151, 152, 788, 789, 790, 791, 792, 793, 794, 795, 796, 797, 798, 799, 800, 801, 802, 803, 804, 805, 806, 807, 808, 809, 810, 811, 812, 813, 814, 815, 816, 817, 818, 819, 820, 821, 822, 823, 824, 825, 826, 827] (by decide +kernel) (by decide +kernel)
set_option maxRecDepth 20000 in
theorem gL_law_X10_play : GoodIn wsL_law (wsV RL 69 RX10 yX10_play wsX10_play) := goodIn_app (goodIn_of _ (by decide +kernel)) ggL_law_X10_play
set_option maxRecDepth 20000 in
theorem ggL_law_X9_rain : GoodIn wsL_law wsX9_rain := goodIn_r _ [566, 40, 131, 79, 2, 80, 567, 39, 568, 569, 140, 532, 533, 534, 535, 139, 95, 141, 142, 779, 780, 781, 782, 783, 784, 785, 786, 787, 852, 853, 854, 855, 856] (by decide +kernel) (by decide +kernel)
set_option maxRecDepth 20000 in
theorem gL_law_X9_rain : GoodIn wsL_law (wsV RL 70 RX9 yX9_rain wsX9_rain) := goodIn_app (goodIn_of _ (by decide +kernel)) ggL_law_X9_rain
set_option maxRecDepth 20000 in
theorem ggL_law_X10_rain : GoodIn wsL_law wsX10_rain := goodIn_r _ [573, 375, 540, 158, 159, 160, 182, 183, 5, 184, 543, 544, 545, 546, 541, 542, 547, 548, 549, 550, 147, 148, 551, 552, 553, 554, 412, 413, 414, 415, 376, 164, 166, 149, 416, 417, 418, 419, 150, 420, 421, 422, 423, 424, 425, 426, 427, 428, 429, 430, 431, 432, 433, 434, 435, 436, 437, 438, 439, 440, 441, 442, 443, 444, 445, 515, 516, 517, 518, 372, 156, 555, 556, 557, 558, 491, 492, 493, 494, 495, 559, 560, 561, 562, 151, 152, 788, 789, 790, 791, 792, 793, 794, 795, 796, 797, 798, 799, 800, 801, 802, 803, 804, 805, 806, 807, 808, 809, 810, 811, 812, 813, 814, 815, 816, 817, 818, 819, 820, 821, 822, 823, 824, 825, 826, 827] (by decide +kernel) (by decide +kernel)
set_option maxRecDepth 20000 in
theorem gL_law_X10_rain : GoodIn wsL_law (wsV RL 73 RX10 yX10_rain wsX10_rain) := goodIn_app (goodIn_of _ (by decide +kernel)) ggL_law_X10_rain
set_option maxRecDepth 20000 in
theorem ggL_law_X9_event : GoodIn wsL_law wsX9_event := goodIn_r _ [577, 40, 131, 79, 2, 80, 578, 39, 579, 580, 95, 779, 780, 781, 782, 783, 784, 785, 786, 787, 852, 853, 854, 855, 856] (by decide +kernel) (by decide +kernel)
set_option maxRecDepth 20000 in
theorem gL_law_X9_event : GoodIn wsL_law (wsV RL 74 RX9 yX9_event wsX9_event) := goodIn_app (goodIn_of _ (by decide +kernel)) ggL_law_X9_event
set_option maxRecDepth 20000 in
theorem ggL_law_X10_event : GoodIn wsL_law wsX10_event := goodIn_r _ [584, 375, 158, 159, 160, 182, 183, 5, 184, 788, 789, 790, 791, 792, 793, 794, 795, 796, 797, 798, 799, 800, 801, 802, 803, 804, 805, 806, 807, 808, 809, 810, 811, 812, 813, 814, 815, 816, 817, 818, 819, 820, 821, 822, 823, 824, 825, 826, 827] (by decide +kernel) (by decide +kernel)
set_option maxRecDepth 20000 in
theorem gL_law_X10_event : GoodIn wsL_law (wsV RL 77 RX10 yX10_event wsX10_event) := goodIn_app (goodIn_of _ (by decide +kernel)) ggL_law_X10_event
set_option maxRecDepth 20000 in
theorem ggL_law_X9_target : GoodIn wsL_law wsX9_target := goodIn_r _ [588, 44, 40, 589, 590, 2, 591, 131, 79, 80, 592, 43, 593, 594, 595, 596, 597, 598, 599, 600, 601, 102, 602, 578, 39, 579, 580, 95, 603, 604, 605, 606, 101, 100, 483, 31, 484, 485, 486, 132, 133, 134, 135, 85, 128, 129, 130, 402, 403, 607, 608, 609, 610, 611, 612, 112, 613, 614, 530, 531, 615, 616, 617, 618, 453, 454, 455, 86, 110, 111, 113, 456, 457, 458, 459, 87, 122, 27, 123, 124, 73, 125, 126, 127, 74, 460, 619, 620, 621, 622, 623, 624, 625, 626, 627, 628, 35, 629, 630, 91, 631, 632, 633, 634, 635, 636, 637, 638, 779, 780, 781, 782, 783, 784, 785, 786, 787, 852, 853, 854, 855, 856, 857, 858, 859, 860, 861, 862, 863, 864, 849, 850, 851, 837, 838, 839, 840, 841, 842, 843, 846, 847, 848, 844, 845] (by decide +kernel) (by decide +kernel)
set_option maxRecDepth 20000 in
theorem gL_law_X9_target : GoodIn wsL_law (wsV RL 78 RX9 yX9_target wsX9_target) := goodIn_app (goodIn_of _ (by decide +kernel)) ggL_law_X9_target
set_option maxRecDepth 20000 in
theorem ggL_law_X10_target : GoodIn wsL_law wsX10_target := goodIn_r _ [642, 375, 643, 644, 5, 645, 182, 183, 184, 543, 544, 545, 546, 158, 540, 541, 160, 542, 159, 547, 548, 549, 550, 147, 148, 551, 552, 553, 554, 412, 413, 414, 415, 376, 164, 166, 149, 416, 417, 418, 419, 150, 420, 421, 422, 423, 424, 425, 426, 427, 428, 429, 430, 431, 432, 433, 434, 435, 436, 437, 438, 439, 440, 441, 442, 443, 444, 445, 515, 516, 517, 518, 372, 156, 555, 556, 557, 558, 491, 492, 493, 494, 495, 559, 560, 561, 562, 151, 152, 646, 647, 648, 649, 153, 650, 651, 652, 653, 157, 788, 789, 790, 791, 792, 793, 794, 795, 796, 797, 798, 799, 800, 801, 802, 803, 804, 805, 806, 807, 808, 809, 810, 811, 812, 813, 814, 815, 816, 817, 818, 819, 820, 821, 822, 823, 824, 825, 826, 827] (by decide +kernel) (by decide +kernel)
set_option maxRecDepth 20000 in
theorem gL_law_X10_target : GoodIn wsL_law (wsV RL 81 RX10 yX10_target wsX10_target) := goodIn_app (goodIn_of _ (by decide +kernel)) ggL_law_X10_target
set_option maxRecDepth 20000 in
theorem ggL_law_X9_odds : GoodIn wsL_law wsX9_odds := goodIn_r _ [657, 44, 40, 32, 589, 590, 2, 591, 131, 79, 80, 592, 43, 593, 594, 595, 596, 597, 598, 599, 600, 601, 102, 602, 578, 39, 579, 580, 95, 603, 604, 605, 606, 101, 100, 483, 31, 484, 485, 486, 132, 133, 134, 135, 85, 128, 129, 130, 402, 403, 607, 608, 609, 610, 611, 612, 112, 613, 614, 530, 531, 615, 616, 617, 618, 453, 454, 455, 86, 110, 111, 113, 456, 457, 458, 459, 87, 122, 27, 123, 124, 73, 125, 126, 127, 74, 460, 619, 620, 621, 622, 623, 624, 625, 626, 627, 628, 35, 629, 630, 91, 631, 632, 633, 634, 635, 636, 637, 638, 658, 659, 660, 661, 662, 394, 401, 779, 780, 781, 782, 783, 784, 785, 786, 787, 852, 853, 854, 855, 856, 857, 858, 859, 860, 861, 862, 863, 864, 849, 850, 851, 837, 838, 839, 840, 841, 842, 843, 846, 847, 848, 844, 845] (by decide +kernel) (by decide +kernel)
set_option maxRecDepth 20000 in
theorem gL_law_X9_odds : GoodIn wsL_law (wsV RL 82 RX9 yX9_odds wsX9_odds) := goodIn_app (goodIn_of _ (by decide +kernel)) ggL_law_X9_odds
set_option maxRecDepth 20000 in
theorem ggL_law_X10_odds : GoodIn wsL_law wsX10_odds := goodIn_r _ [666, 375, 643, 644, 5, 645, 182, 183, 184, 543, 544, 545, 546, 158, 540, 541, 160, 542, 159, 547, 548, 549, 550, 147, 148, 551, 552, 553, 554, 412, 413, 414, 415, 376, 164, 166, 149, 416, 417, 418, 419, 150, 420, 421, 422, 423, 424, 425, 426, 427, 428, 429, 430, 431, 432, 433, 434, 435, 436, 437, 438, 439, 440, 441, 442, 443, 444, 445, 515, 516, 517, 518, 372, 156, 555, 556, 557, 558, 491, 492, 493, 494, 495, 559, 560, 561, 562, 151, 152, 667, 668, 669, 670, 646, 647, 648, 649, 153, 650, 651, 652, 653, 157, 671, 672, 673, 788, 789, 790, 791, 792, 793, 794, 795, 796, 797, 798, 799, 800, 801, 802, 803, 804, 805, 806, 807, 808, 809, 810, 811, 812, 813, 814, 815, 816, 817, 818, 819, 820, 821, 822, 823, 824, 825, 826, 827] (by decide +kernel) (by decide +kernel)
set_option maxRecDepth 20000 in
theorem gL_law_X10_odds : GoodIn wsL_law (wsV RL 85 RX10 yX10_odds wsX10_odds) := goodIn_app (goodIn_of _ (by decide +kernel)) ggL_law_X10_odds
set_option maxRecDepth 20000 in
theorem ggL_law_X9_gain : GoodIn wsL_law wsX9_gain := goodIn_r _ [677, 40, 32, 44, 678, 589, 590, 2, 591, 131, 79, 80, 679, 39, 680, 681, 139, 682, 578, 579, 580, 95, 592, 43, 593, 594, 595, 596, 597, 598, 599, 600, 601, 102, 602, 603, 604, 605, 606, 101, 100, 483, 31, 484, 485, 486, 132, 133, 134, 135, 85, 128, 129, 130, 402, 403, 607, 608, 609, 610, 611, 612, 112, 613, 614, 530, 531, 615, 616, 617, 618, 453, 454, 455, 86, 110, 111, 113, 456, 457, 458, 459, 87, 122, 27, 123, 124, 73, 125, 126, 127, 74, 460, 619, 620, 621, 622, 623, 624, 625, 626, 627, 628, 35, 629, 630, 91, 631, 632, 633, 634, 635, 636, 637, 638, 658, 659, 660, 661, 662, 394, 401, 779, 780, 781, 782, 783, 784, 785, 786, 787, 852, 853, 854, 855, 856, 857, 858, 859, 860, 861, 862, 863, 864, 849, 850, 851, 837, 838, 839, 840, 841, 842, 843, 846, 847, 848, 844, 845] (by decide +kernel) (by decide +kernel)
set_option maxRecDepth 20000 in
theorem gL_law_X9_gain : GoodIn wsL_law (wsV RL 86 RX9 yX9_gain wsX9_gain) := goodIn_app (goodIn_of _ (by decide +kernel)) ggL_law_X9_gain
set_option maxRecDepth 20000 in
theorem ggL_law_X10_gain : GoodIn wsL_law wsX10_gain := goodIn_r _ [686, 375, 158, 687, 643, 644, 5, 645, 182, 183, 184, 543, 544, 545, 546, 540, 541, 160, 542, 159, 547, 548, 549, 550, 147, 148, 551, 552, 553, 554, 412, 413, 414, 415, 376, 164, 166, 149, 416, 417, 418, 419, 150, 420, 421, 422, 423, 424, 425, 426, 427, 428, 429, 430, 431, 432, 433, 434, 435, 436, 437, 438, 439, 440, 441, 442, 443, 444, 445, 515, 516, 517, 518, 372, 156, 555, 556, 557, 558, 491, 492, 493, 494, 495, 559, 560, 561, 562, 151, 152, 667, 668, 669, 670, 646, 647, 648, 649, 153, 650, 651, 652, 653, 157, 671, 672, 673, 788, 789, 790, 791, 792, 793, 794, 795, 796, 797, 798, 799, 800, 801, 802, 803, 804, 805, 806, 807, 808, 809, 810, 811, 812, 813, 814, 815, 816, 817, 818, 819, 820, 821, 822, 823, 824, 825, 826, 827] (by decide +kernel) (by decide +kernel)
set_option maxRecDepth 20000 in
theorem gL_law_X10_gain : GoodIn wsL_law (wsV RL 89 RX10 yX10_gain wsX10_gain) := goodIn_app (goodIn_of _ (by decide +kernel)) ggL_law_X10_gain
set_option maxRecDepth 20000 in
theorem ggL_law_X9_won : GoodIn wsL_law wsX9_won := goodIn_r _ [691, 40, 44, 589, 590, 2, 591, 131, 79, 80, 592, 43, 593, 594, 595, 596, 597, 598, 599, 600, 601, 102, 602, 578, 39, 579, 580, 95, 603, 604, 605, 606, 101, 100, 483, 31, 484, 485, 486, 132, 133, 134, 135, 85, 128, 129, 130, 402, 403, 607, 608, 609, 610, 611, 612, 112, 613, 614, 530, 531, 615, 616, 617, 618, 453, 454, 455, 86, 110, 111, 113, 456, 457, 458, 459, 87, 122, 27, 123, 124, 73, 125, 126, 127, 74, 460, 619, 620, 621, 622, 623, 624, 625, 626, 627, 628, 35, 629, 630, 91, 631, 632, 633, 634, 635, 636, 637, 638, 523, 524, 525, 140, 141, 779, 780, 781, 782, 783, 784, 785, 786, 787, 852, 853, 854, 855, 856, 857, 858, 859, 860, 861, 862, 863, 864, 849, 850, 851, 837, 838, 839, 840, 841, 842, 843, 846, 847, 848, 844, 845] (by decide +kernel) (by decide +kernel)
set_option maxRecDepth 20000 in
theorem gL_law_X9_won : GoodIn wsL_law (wsV RL 90 RX9 yX9_won wsX9_won) := goodIn_app (goodIn_of _ (by decide +kernel)) ggL_law_X9_won
set_option maxRecDepth 20000 in
theorem ggL_law_X10_won : GoodIn wsL_law wsX10_won := goodIn_r _ [695, 375, 542, 540, 541, 643, 644, 5, 645, 182, 183, 184, 543, 544, 545, 546, 158, 160, 159, 547, 548, 549, 550, 147, 148, 551, 552, 553, 554, 412, 413, 414, 415, 376, 164, 166, 149, 416, 417, 418, 419, 150, 420, 421, 422, 423, 424, 425, 426, 427, 428, 429, 430, 431, 432, 433, 434, 435, 436, 437, 438, 439, 440, 441, 442, 443, 444, 445, 515, 516, 517, 518, 372, 156, 555, 556, 557, 558, 491, 492, 493, 494, 495, 559, 560, 561, 562, 151, 152, 646, 647, 648, 649, 153, 650, 651, 652, 653, 157, 788, 789, 790, 791, 792, 793, 794, 795, 796, 797, 798, 799, 800, 801, 802, 803, 804, 805, 806, 807, 808, 809, 810, 811, 812, 813, 814, 815, 816, 817, 818, 819, 820, 821, 822, 823, 824, 825, 826, 827] (by decide +kernel) (by decide +kernel)
set_option maxRecDepth 20000 in
theorem gL_law_X10_won : GoodIn wsL_law (wsV RL 93 RX10 yX10_won wsX10_won) := goodIn_app (goodIn_of _ (by decide +kernel)) ggL_law_X10_won
set_option maxRecDepth 20000 in
theorem ggL_law_X9_odd : GoodIn wsL_law wsX9_odd := goodIn_r _ [699, 24, 36, 44, 589, 590, 2, 591, 131, 79, 80, 700, 43, 701, 702, 100, 595, 596, 597, 598, 599, 600, 601, 102, 602, 603, 604, 605, 606, 101, 483, 31, 484, 485, 486, 132, 133, 134, 135, 85, 128, 129, 130, 402, 403, 607, 608, 609, 610, 611, 612, 112, 613, 614, 530, 531, 615, 616, 617, 618, 453, 454, 455, 86, 110, 111, 113, 456, 457, 458, 459, 87, 122, 27, 123, 124, 73, 125, 126, 127, 74, 460, 619, 620, 621, 622, 623, 624, 625, 626, 627, 628, 35, 629, 630, 91, 631, 632, 633, 634, 635, 636, 637, 638, 779, 780, 781, 782, 783, 784, 785, 786, 787, 837, 838, 839, 840, 841, 842, 843, 849, 850, 851, 857, 858, 859, 860, 861, 862, 863, 864, 846, 847, 848, 844, 845] (by decide +kernel) (by decide +kernel)
set_option maxRecDepth 20000 in
theorem gL_law_X9_odd : GoodIn wsL_law (wsV RL 94 RX9 yX9_odd wsX9_odd) := goodIn_app (goodIn_of _ (by decide +kernel)) ggL_law_X9_odd
set_option maxRecDepth 20000 in
theorem ggL_law_X10_odd : GoodIn wsL_law wsX10_odd := goodIn_r _ [706, 147, 540, 643, 644, 5, 645, 182, 183, 184, 547, 548, 549, 550, 148, 541, 542, 551, 552, 553, 554, 412, 413, 414, 415, 376, 164, 166, 149, 416, 417, 418, 419, 150, 420, 421, 422, 423, 424, 425, 426, 427, 428, 429, 430, 431, 432, 433, 434, 435, 436, 437, 438, 439, 440, 441, 442, 443, 444, 445, 515, 516, 517, 518, 372, 156, 555, 556, 557, 558, 491, 492, 493, 494, 495, 559, 560, 561, 562, 151, 152, 646, 647, 648, 649, 153, 650, 651, 652, 653, 157, 788, 789, 790, 791, 792, 793, 794, 795, 796, 797, 798, 799, 800, 801, 802, 803, 804, 805, 806, 807, 808, 809, 810, 811, 812, 813, 814, 815, 816, 817, 818, 819, 820, 821, 822, 823, 824, 825, 826, 827] (by decide +kernel) (by decide +kernel)
set_option maxRecDepth 20000 in
theorem gL_law_X10_odd : GoodIn wsL_law (wsV RL 97 RX10 yX10_odd wsX10_odd) := goodIn_app (goodIn_of _ (by decide +kernel)) ggL_law_X10_odd
set_option maxRecDepth 20000 in
theorem ggL_law_X9_sheet : GoodIn wsL_law wsX9_sheet := goodIn_r _ [710, 24, 44, 589, 590, 2, 591, 131, 79, 80, 700, 43, 701, 702, 100, 595, 596, 597, 598, 599, 600, 601, 102, 602, 603, 604, 605, 606, 101, 483, 31, 484, 485, 486, 132, 133, 134, 135, 85, 128, 129, 130, 402, 403, 607, 608, 609, 610, 611, 612, 112, 613, 614, 530, 531, 615, 616, 617, 618, 453, 454, 455, 86, 110, 111, 113, 456, 457, 458, 459, 87, 122, 27, 123, 124, 73, 125, 126, 127, 74, 460, 619, 620, 621, 622, 623, 624, 625, 626, 627, 628, 35, 629, 630, 91, 631, 632, 633, 634, 635, 636, 637, 638, 779, 780, 781, 782, 783, 784, 785, 786, 787, 837, 838, 839, 840, 841, 842, 843, 857, 858, 859, 860, 861, 862, 863, 864, 849, 850, 851, 846, 847, 848, 844, 845] (by decide +kernel) (by decide +kernel)
set_option maxRecDepth 20000 in
theorem gL_law_X9_sheet : GoodIn wsL_law (wsV RL 98 RX9 yX9_sheet wsX9_sheet) := goodIn_app (goodIn_of _ (by decide +kernel)) ggL_law_X9_sheet
set_option maxRecDepth 20000 in
theorem ggL_law_X10_sheet : GoodIn wsL_law wsX10_sheet := goodIn_r _ [714, 147, 643, 644, 5, 645, 182, 183, 184, 715, 716, 717, 718, 547, 548, 549, 550, 540, 148, 541, 542, 551, 552, 553, 554, 412, 413, 414, 415, 376, 164, 166, 149, 416, 417, 418, 419, 150, 420, 421, 422, 423, 424, 425, 426, 427, 428, 429, 430, 431, 432, 433, 434, 435, 436, 437, 438, 439, 440, 441, 442, 443, 444, 445, 515, 516, 517, 518, 372, 156, 555, 556, 557, 558, 491, 492, 493, 494, 495, 559, 560, 561, 562, 151, 152, 646, 647, 648, 649, 153, 650, 651, 652, 653, 157, 788, 789, 790, 791, 792, 793, 794, 795, 796, 797, 798, 799, 800, 801, 802, 803, 804, 805, 806, 807, 808, 809, 810, 811, 812, 813, 814, 815, 816, 817, 818, 819, 820, 821, 822, 823, 824, 825, 826, 827] (by decide +kernel) (by decide +kernel)
set_option maxRecDepth 20000 in
theorem gL_law_X10_sheet : GoodIn wsL_law (wsV RL 101 RX10 yX10_sheet wsX10_sheet) := goodIn_app (goodIn_of _ (by decide +kernel)) ggL_law_X10_sheet
set_option maxRecDepth 20000 in
theorem ggL_law_X9_clouded : GoodIn wsL_law wsX9_clouded := goodIn_r _ [722, 24, 723, 612, 112, 613, 44, 32, 36, 589, 590, 2, 591, 131, 79, 80, 700, 43, 701, 702, 100, 595, 596, 597, 598, 599, 600, 601, 102, 602, 603, 604, 605, 606, 101, 483, 31, 484, 485, 486, 132, 133, 134, 135, 85, 128, 129, 130, 402, 403, 607, 608, 609, 610, 611, 614, 530, 531, 615, 616, 617, 618, 453, 454, 455, 86, 110, 111, 113, 456, 457, 458, 459, 87, 122, 27, 123, 124, 73, 125, 126, 127, 74, 460, 619, 620, 621, 622, 623, 624, 625, 626, 627, 628, 35, 629, 630, 91, 631, 632, 633, 634, 635, 636, 637, 638, 394, 724, 661, 662, 401, 779, 780, 781, 782, 783, 784, 785, 786, 787, 837, 838, 839, 840, 841, 842, 843, 849, 850, 851, 857, 858, 859, 860, 861, 862, 863, 864, 846, 847, 848, 844, 845] (by decide +kernel) (by decide +kernel)
set_option maxRecDepth 20000 in
theorem gL_law_X9_clouded : GoodIn wsL_law (wsV RL 102 RX9 yX9_clouded wsX9_clouded) := goodIn_app (goodIn_of _ (by decide +kernel)) ggL_law_X9_clouded
set_option maxRecDepth 20000 in
theorem ggL_law_X10_clouded : GoodIn wsL_law wsX10_clouded := goodIn_r _ [728, 374, 147, 148, 373, 643, 644, 5, 645, 182, 183, 184, 715, 716, 717, 718, 547, 548, 549, 550, 540, 541, 542, 551, 552, 553, 554, 412, 413, 414, 415, 376, 164, 166, 149, 416, 417, 418, 419, 150, 420, 421, 422, 423, 424, 425, 426, 427, 428, 429, 430, 431, 432, 433, 434, 435, 436, 437, 438, 439, 440, 441, 442, 443, 444, 445, 515, 516, 517, 518, 372, 156, 555, 556, 557, 558, 491, 492, 493, 494, 495, 559, 560, 561, 562, 151, 152, 646, 647, 648, 649, 153, 650, 651, 652, 653, 157, 671, 672, 673, 788, 789, 790, 791, 792, 793, 794, 795, 796, 797, 798, 799, 800, 801, 802, 803, 804, 805, 806, 807, 808, 809, 810, 811, 812, 813, 814, 815, 816, 817, 818, 819, 820, 821, 822, 823, 824, 825, 826, 827] (by decide +kernel) (by decide +kernel)
set_option maxRecDepth 20000 in
theorem gL_law_X10_clouded : GoodIn wsL_law (wsV RL 105 RX10 yX10_clouded wsX10_clouded) := goodIn_app (goodIn_of _ (by decide +kernel)) ggL_law_X10_clouded
set_option maxRecDepth 20000 in
theorem ggL_law_X9_simple : GoodIn wsL_law wsX9_simple := goodIn_r _ [732, 44, 131, 79, 2, 80, 733, 43, 734, 735, 100, 99, 595, 596, 597, 598, 599, 600, 601, 102, 602, 615, 616, 617, 618, 101, 453, 31, 454, 455, 86, 110, 111, 112, 113, 128, 129, 130, 456, 457, 458, 459, 87, 122, 27, 123, 124, 73, 125, 126, 127, 74, 460, 736, 737, 738, 739, 740, 741, 635, 636, 637, 638, 624, 625, 626, 627, 779, 780, 781, 782, 783, 784, 785, 786, 787, 857, 858, 859, 860, 861, 862, 863, 864, 837, 838, 839, 840, 841, 842, 843, 849, 850, 851, 846, 847, 848, 844, 845] (by decide +kernel) (by decide +kernel)
set_option maxRecDepth 20000 in
theorem gL_law_X9_simple : GoodIn wsL_law (wsV RL 106 RX9 yX9_simple wsX9_simple) := goodIn_app (goodIn_of _ (by decide +kernel)) ggL_law_X9_simple
set_option maxRecDepth 20000 in
theorem ggL_law_X10_simple : GoodIn wsL_law wsX10_simple := goodIn_r _ [745, 153, 147, 554, 182, 183, 5, 184, 715, 716, 717, 718, 547, 548, 549, 550, 540, 148, 541, 542, 551, 552, 553, 412, 413, 414, 415, 376, 164, 166, 149, 416, 417, 418, 419, 150, 420, 421, 422, 423, 424, 425, 426, 427, 428, 429, 430, 431, 432, 433, 434, 435, 436, 437, 438, 439, 440, 441, 442, 443, 444, 445, 515, 516, 517, 518, 372, 156, 555, 556, 557, 558, 491, 492, 493, 494, 495, 559, 560, 561, 562, 151, 152, 646, 647, 648, 649, 650, 651, 652, 653, 157, 788, 789, 790, 791, 792, 793, 794, 795, 796, 797, 798, 799, 800, 801, 802, 803, 804, 805, 806, 807, 808, 809, 810, 811, 812, 813, 814, 815, 816, 817, 818, 819, 820, 821, 822, 823, 824, 825, 826, 827] (by decide +kernel) (by decide +kernel)
set_option maxRecDepth 20000 in
theorem gL_law_X10_simple : GoodIn wsL_law (wsV RL 109 RX10 yX10_simple wsX10_simple) := goodIn_app (goodIn_of _ (by decide +kernel)) ggL_law_X10_simple
set_option maxRecDepth 20000 in
theorem ggL_law_X9_match : GoodIn wsL_law wsX9_match := goodIn_r _ [749, 48, 131, 79, 2, 80, 750, 47, 751, 752, 753, 106, 779, 780, 781, 782, 783, 784, 785, 786, 787, 865, 866] (by decide +kernel) (by decide +kernel)
set_option maxRecDepth 20000 in
theorem gL_law_X9_match : GoodIn wsL_law (wsV RL 110 RX9 yX9_match wsX9_match) := goodIn_app (goodIn_of _ (by decide +kernel)) ggL_law_X9_match
set_option maxRecDepth 20000 in
theorem ggL_law_X10_match : GoodIn wsL_law wsX10_match := goodIn_r _ [757, 758, 161, 162, 163, 182, 183, 5, 184, 788, 789, 790, 791, 792, 793, 794, 795, 796, 797, 798, 799, 800, 801, 802, 803, 804, 805, 806, 807, 808, 809, 810, 811, 812, 813, 814, 815, 816, 817, 818, 819, 820, 821, 822, 823, 824, 825, 826, 827] (by decide +kernel) (by decide +kernel)
set_option maxRecDepth 20000 in
theorem gL_law_X10_match : GoodIn wsL_law (wsV RL 113 RX10 yX10_match wsX10_match) := goodIn_app (goodIn_of _ (by decide +kernel)) ggL_law_X10_match
set_option maxRecDepth 20000 in
theorem ggL_law_X9_tried : GoodIn wsL_law wsX9_tried := goodIn_r _ [762, 48, 32, 24, 763, 47, 764, 765, 753, 106, 766, 740, 112, 741, 133, 31, 134, 135, 85, 79, 2, 80, 128, 129, 130, 131, 402, 403, 779, 780, 781, 782, 783, 784, 785, 786, 787, 865, 866, 837, 838, 839, 840, 841, 842, 843, 846, 847, 848] (by decide +kernel) (by decide +kernel)
set_option maxRecDepth 20000 in
theorem gL_law_X9_tried : GoodIn wsL_law (wsV RL 114 RX9 yX9_tried wsX9_tried) := goodIn_app (goodIn_of _ (by decide +kernel)) ggL_law_X9_tried
set_option maxRecDepth 20000 in
theorem ggL_law_X10_tried : GoodIn wsL_law wsX10_tried := goodIn_r _ [770, 758, 161, 162, 163, 412, 413, 414, 5, 415, 376, 147, 148, 164, 166, 149, 416, 417, 418, 419, 150, 420, 421, 422, 423, 424, 425, 426, 427, 428, 429, 430, 431, 432, 433, 434, 435, 436, 437, 438, 439, 440, 441, 442, 443, 444, 445, 408, 409, 410, 411, 182, 183, 184, 788, 789, 790, 791, 792, 793, 794, 795, 796, 797, 798, 799, 800, 801, 802, 803, 804, 805, 806, 807, 808, 809, 810, 811, 812, 813, 814, 815, 816, 817, 818, 819, 820, 821, 822, 823, 824, 825, 826, 827] (by decide +kernel) (by decide +kernel)
set_option maxRecDepth 20000 in
theorem gL_law_X10_tried : GoodIn wsL_law (wsV RL 117 RX10 yX10_tried wsX10_tried) := goodIn_app (goodIn_of _ (by decide +kernel)) ggL_law_X10_tried
set_option maxRecDepth 20000 in
theorem ggL_law_X9_count : GoodIn wsL_law wsX9_count := goodIn_r _ [774, 24, 16, 36, 40, 48, 779, 780, 781, 782, 783, 784, 785, 786, 787, 837, 838, 839, 840, 841, 842, 843, 828, 829, 849, 850, 851, 852, 853, 854, 855, 856, 865, 866] (by decide +kernel) (by decide +kernel)
set_option maxRecDepth 20000 in
theorem gL_law_X9_count : GoodIn wsL_law (wsV RL 118 RX9 yX9_count wsX9_count) := goodIn_app (goodIn_of _ (by decide +kernel)) ggL_law_X9_count
set_option maxRecDepth 20000 in
theorem ggL_law_X10_count : GoodIn wsL_law wsX10_count := goodIn_r _ [778, 375, 147, 148, 180, 540, 541, 542, 758, 153, 543, 544, 545, 5, 546, 158, 160, 159, 547, 548, 549, 550, 551, 552, 553, 554, 412, 413, 414, 415, 376, 164, 166, 149, 416, 417, 418, 419, 150, 420, 421, 422, 423, 424, 425, 426, 427, 428, 429, 430, 431, 432, 433, 434, 435, 436, 437, 438, 439, 440, 441, 442, 443, 444, 445, 515, 516, 517, 518, 372, 156, 555, 556, 557, 558, 491, 492, 493, 494, 495, 559, 560, 561, 562, 151, 152, 788, 789, 790, 791, 792, 793, 794, 795, 796, 797, 798, 799, 800, 801, 802, 803, 804, 805, 806, 807, 808, 809, 810, 811, 812, 813, 814, 815, 816, 817, 818, 819, 820, 821, 822, 823, 824, 825, 826, 827] (by decide +kernel) (by decide +kernel)
set_option maxRecDepth 20000 in
theorem gL_law_X10_count : GoodIn wsL_law (wsV RL 121 RX10 yX10_count wsX10_count) := goodIn_app (goodIn_of _ (by decide +kernel)) ggL_law_X10_count
abbrev vwCl : List vw_C := [(RX0, TX0, 3), (RX1, TX1, 3), (RX2, TX2, 2), (RX3, TX3, 2), (RX4, TX4, 7), (RX5, TX5, 5), (RX6, TX6, 7), (RX7, TX7, 2), (RX8, TX8, 8), (RX9, TX9, 9), (RX10, TX10, 40)]
