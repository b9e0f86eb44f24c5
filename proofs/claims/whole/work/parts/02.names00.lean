/-! ===== BEGIN words of one list among another's, by their places ===== -/
theorem goodIn_r {big : List Cond} (ws : List Cond) (ps : List Nat) (hp : ws = ps.filterMap (fun i => big[i]?)) (h : ws.all goodWord = true) : GoodIn big ws := by
  intro w hw
  have h1 := List.all_eq_true.mp h w hw
  rw [hp] at hw
  obtain ⟨i, -, hi⟩ := List.mem_filterMap.mp hw
  have hm : w ∈ big := by first | exact List.mem_of_getElem? hi | exact List.getElem?_mem hi
  exact ⟨hm, good_of_word h1⟩
theorem goodIn_app {big a b : List Cond} (ha : GoodIn big a) (hb : GoodIn big b) : GoodIn big (a ++ b) := fun w h => (List.mem_append.mp h).elim (ha w) (hb w)
theorem goodIn_ca {big a b : List Cond} {c : Cond} (ha : GoodIn big (c :: a)) (hb : GoodIn big b) : GoodIn big (c :: (a ++ b)) := fun w h => (List.mem_cons.mp h).elim (fun e => ha w (List.mem_cons.mpr (Or.inl e))) (fun h => (List.mem_append.mp h).elim (fun h => ha w (List.mem_cons.mpr (Or.inr h))) (hb w))
theorem goodIn_sub {big ws : List Cond} (hm : ∀ w ∈ ws, w ∈ big) (h : ws.all goodWord = true) : GoodIn big ws := fun w hw => ⟨hm w hw, good_of_word (List.all_eq_true.mp h w hw)⟩
/-! ===== END ===== -/

/-! ===== BEGIN printed: names, fields, word lists, decode rows ===== -/
def RX0 : String := "OnlyRhymes$Card"
def TX0 : u_T := fun k => match k with
  | _ => ("", "", "", false)
def tyX0 : Nat → FieldType := fun k => match k with
  | _ => .int
abbrev wsX00 : List Cond := u_ws RX0 TX0 0
theorem nmX0 : ∀ a, a < 0 → ∀ b, b < 0 → a ≠ b → (TX0 a).2.1 ≠ (TX0 b).2.1 := by decide +kernel
theorem tyX0_ok : ∀ k, k < 0 → parseFieldDescriptor (TX0 k).2.2.1 = some (tyX0 k) := by decide +kernel
abbrev cX0_init : ByteArray := prog_2_method_1_code
def yX0_init : MethodName := ⟨RX0, "<init>", "()V"⟩
abbrev cX0_chimes : ByteArray := prog_2_method_2_code
def yX0_chimes : MethodName := ⟨RX0, "chimes", "(LOnlyRhymes$Tongue;II)I"⟩
def RX1 : String := "OnlyRhymes$Cover"
def TX1 : u_T := fun k => match k with
  | 0 => ("OnlyRhymes$Cover", "sayable", "[I", true)
  | 1 => ("OnlyRhymes$Cover", "price", "[I", true)
  | 2 => ("OnlyRhymes$Cover", "covered", "[I", true)
  | _ => ("OnlyRhymes$Cover", "spent", "[I", true)
def tyX1 : Nat → FieldType := fun k => match k with
  | 0 => .array .int
  | 1 => .array .int
  | 2 => .array .int
  | _ => .array .int
abbrev wsX10 : List Cond := u_ws RX1 TX1 4
theorem nmX1 : ∀ a, a < 4 → ∀ b, b < 4 → a ≠ b → (TX1 a).2.1 ≠ (TX1 b).2.1 := by decide +kernel
theorem tyX1_ok : ∀ k, k < 4 → parseFieldDescriptor (TX1 k).2.2.1 = some (tyX1 k) := by decide +kernel
abbrev cX1_init : ByteArray := prog_3_method_1_code
def yX1_init : MethodName := ⟨RX1, "<init>", "()V"⟩
abbrev cX1_cheapest : ByteArray := prog_3_method_2_code
def yX1_cheapest : MethodName := ⟨RX1, "cheapest", "(II)I"⟩
def RX2 : String := "OnlyRhymes$Duel"
def TX2 : u_T := fun k => match k with
  | 0 => ("OnlyRhymes$Duel", "chimesOfFirst", "[I", true)
  | 1 => ("OnlyRhymes$Duel", "chimesOfSecond", "[I", true)
  | 2 => ("OnlyRhymes$Duel", "lasts", "[I", true)
  | 3 => ("OnlyRhymes$Duel", "words", "I", false)
  | 4 => ("OnlyRhymes$Duel", "saidAtFirst", "I", false)
  | 5 => ("OnlyRhymes$Duel", "asked", "I", false)
  | 6 => ("OnlyRhymes$Duel", "longest", "I", false)
  | _ => ("OnlyRhymes$Duel", "shortest", "I", false)
def tyX2 : Nat → FieldType := fun k => match k with
  | 0 => .array .int
  | 1 => .array .int
  | 2 => .array .int
  | 3 => .int
  | 4 => .int
  | 5 => .int
  | 6 => .int
  | _ => .int
abbrev wsX20 : List Cond := u_ws RX2 TX2 8
theorem nmX2 : ∀ a, a < 8 → ∀ b, b < 8 → a ≠ b → (TX2 a).2.1 ≠ (TX2 b).2.1 := by decide +kernel
theorem tyX2_ok : ∀ k, k < 8 → parseFieldDescriptor (TX2 k).2.2.1 = some (tyX2 k) := by decide +kernel
abbrev cX2_init : ByteArray := prog_4_method_1_code
def yX2_init : MethodName := ⟨RX2, "<init>", "()V"⟩
abbrev cX2_begin : ByteArray := prog_4_method_2_code
def yX2_begin : MethodName := ⟨RX2, "begin", "(III)V"⟩
abbrev cX2_answered : ByteArray := prog_4_method_3_code
def yX2_answered : MethodName := ⟨RX2, "answered", "(I)I"⟩
abbrev cX2_chimesOfNext : ByteArray := prog_4_method_4_code
def yX2_chimesOfNext : MethodName := ⟨RX2, "chimesOfNext", "(I)[I"⟩
abbrev cX2_firstWins : ByteArray := prog_4_method_5_code
def yX2_firstWins : MethodName := ⟨RX2, "firstWins", "()Z"⟩
abbrev cX2_traps : ByteArray := prog_4_method_6_code
def yX2_traps : MethodName := ⟨RX2, "traps", "(I)I"⟩
abbrev cX2_findEnds : ByteArray := prog_4_method_7_code
def yX2_findEnds : MethodName := ⟨RX2, "findEnds", "()V"⟩
abbrev cX2_goOn : ByteArray := prog_4_method_8_code
def yX2_goOn : MethodName := ⟨RX2, "goOn", "(I)V"⟩
def RX3 : String := "OnlyRhymes$Echo"
def TX3 : u_T := fun k => match k with
  | _ => ("", "", "", false)
def tyX3 : Nat → FieldType := fun k => match k with
  | _ => .int
abbrev wsX30 : List Cond := u_ws RX3 TX3 0
theorem nmX3 : ∀ a, a < 0 → ∀ b, b < 0 → a ≠ b → (TX3 a).2.1 ≠ (TX3 b).2.1 := by decide +kernel
theorem tyX3_ok : ∀ k, k < 0 → parseFieldDescriptor (TX3 k).2.2.1 = some (tyX3 k) := by decide +kernel
abbrev cX3_init : ByteArray := prog_5_method_1_code
def yX3_init : MethodName := ⟨RX3, "<init>", "()V"⟩
abbrev cX3_chimes : ByteArray := prog_5_method_2_code
def yX3_chimes : MethodName := ⟨RX3, "chimes", "(LOnlyRhymes$Tongue;II)I"⟩
def RX4 : String := "OnlyRhymes$Half"
def TX4 : u_T := fun k => match k with
  | _ => ("", "", "", false)
def tyX4 : Nat → FieldType := fun k => match k with
  | _ => .int
abbrev wsX40 : List Cond := u_ws RX4 TX4 0
theorem nmX4 : ∀ a, a < 0 → ∀ b, b < 0 → a ≠ b → (TX4 a).2.1 ≠ (TX4 b).2.1 := by decide +kernel
theorem tyX4_ok : ∀ k, k < 0 → parseFieldDescriptor (TX4 k).2.2.1 = some (tyX4 k) := by decide +kernel
abbrev cX4_init : ByteArray := prog_6_method_1_code
def yX4_init : MethodName := ⟨RX4, "<init>", "()V"⟩
abbrev cX4_chimes : ByteArray := prog_6_method_2_code
def yX4_chimes : MethodName := ⟨RX4, "chimes", "(LOnlyRhymes$Tongue;II)I"⟩
def RX5 : String := "OnlyRhymes$Poet"
def TX5 : u_T := fun k => match k with
  | _ => ("", "", "", false)
def tyX5 : Nat → FieldType := fun k => match k with
  | _ => .int
abbrev wsX50 : List Cond := u_ws RX5 TX5 0
theorem nmX5 : ∀ a, a < 0 → ∀ b, b < 0 → a ≠ b → (TX5 a).2.1 ≠ (TX5 b).2.1 := by decide +kernel
theorem tyX5_ok : ∀ k, k < 0 → parseFieldDescriptor (TX5 k).2.2.1 = some (tyX5 k) := by decide +kernel
abbrev cX5_init : ByteArray := prog_7_method_1_code
def yX5_init : MethodName := ⟨RX5, "<init>", "()V"⟩
abbrev cX5_chimes : ByteArray := prog_7_method_2_code
def yX5_chimes : MethodName := ⟨RX5, "chimes", "(LOnlyRhymes$Tongue;II)I"⟩
def RX6 : String := "OnlyRhymes$Reader"
def TX6 : u_T := fun k => match k with
  | 0 => ("OnlyRhymes$Reader", "bytes", "[I", true)
  | 1 => ("OnlyRhymes$Reader", "length", "I", false)
  | 2 => ("OnlyRhymes$Reader", "items", "I", false)
  | 3 => ("OnlyRhymes$Reader", "place", "I", false)
  | 4 => ("OnlyRhymes$Reader", "start", "I", false)
  | 5 => ("OnlyRhymes$Reader", "token", "I", false)
  | _ => ("OnlyRhymes$Reader", "number", "I", false)
def tyX6 : Nat → FieldType := fun k => match k with
  | 0 => .array .int
  | 1 => .int
  | 2 => .int
  | 3 => .int
  | 4 => .int
  | 5 => .int
  | _ => .int
abbrev wsX60 : List Cond := u_ws RX6 TX6 7
theorem nmX6 : ∀ a, a < 7 → ∀ b, b < 7 → a ≠ b → (TX6 a).2.1 ≠ (TX6 b).2.1 := by decide +kernel
theorem tyX6_ok : ∀ k, k < 7 → parseFieldDescriptor (TX6 k).2.2.1 = some (tyX6 k) := by decide +kernel
abbrev cX6_init : ByteArray := prog_8_method_1_code
def yX6_init : MethodName := ⟨RX6, "<init>", "()V"⟩
abbrev cX6_put : ByteArray := prog_8_method_2_code
def yX6_put : MethodName := ⟨RX6, "put", "(I)I"⟩
abbrev cX6_parseInto : ByteArray := prog_8_method_3_code
def yX6_parseInto : MethodName := ⟨RX6, "parseInto", "(LOnlyRhymes$Tongue;)I"⟩
abbrev cX6_takesItem : ByteArray := prog_8_method_4_code
def yX6_takesItem : MethodName := ⟨RX6, "takesItem", "(LOnlyRhymes$Tongue;)Z"⟩
abbrev cX6_takesWord : ByteArray := prog_8_method_5_code
def yX6_takesWord : MethodName := ⟨RX6, "takesWord", "(LOnlyRhymes$Tongue;)Z"⟩
abbrev cX6_takesAlike : ByteArray := prog_8_method_6_code
def yX6_takesAlike : MethodName := ⟨RX6, "takesAlike", "(LOnlyRhymes$Tongue;)Z"⟩
abbrev cX6_takesPerson : ByteArray := prog_8_method_7_code
def yX6_takesPerson : MethodName := ⟨RX6, "takesPerson", "(LOnlyRhymes$Tongue;)Z"⟩
abbrev cX6_takesStop : ByteArray := prog_8_method_8_code
def yX6_takesStop : MethodName := ⟨RX6, "takesStop", "()Z"⟩
abbrev cX6_takesBelow : ByteArray := prog_8_method_9_code
def yX6_takesBelow : MethodName := ⟨RX6, "takesBelow", "(I)Z"⟩
abbrev cX6_isLetters : ByteArray := prog_8_method_10_code
def yX6_isLetters : MethodName := ⟨RX6, "isLetters", "(Ljava/lang/String;)Z"⟩
abbrev cX6_take : ByteArray := prog_8_method_11_code
def yX6_take : MethodName := ⟨RX6, "take", "()V"⟩
abbrev cX6_sortOf : ByteArray := prog_8_method_12_code
def yX6_sortOf : MethodName := ⟨RX6, "sortOf", "(I)I"⟩
abbrev cX6_settleNumber : ByteArray := prog_8_method_13_code
def yX6_settleNumber : MethodName := ⟨RX6, "settleNumber", "()V"⟩
def RX7 : String := "OnlyRhymes$Rhymer"
def TX7 : u_T := fun k => match k with
  | _ => ("", "", "", false)
def tyX7 : Nat → FieldType := fun k => match k with
  | _ => .int
abbrev wsX70 : List Cond := u_ws RX7 TX7 0
theorem nmX7 : ∀ a, a < 0 → ∀ b, b < 0 → a ≠ b → (TX7 a).2.1 ≠ (TX7 b).2.1 := by decide +kernel
theorem tyX7_ok : ∀ k, k < 0 → parseFieldDescriptor (TX7 k).2.2.1 = some (tyX7 k) := by decide +kernel
abbrev cX7_init : ByteArray := prog_9_method_1_code
def yX7_init : MethodName := ⟨RX7, "<init>", "()V"⟩
abbrev cX7_chimes : ByteArray := prog_9_method_2_code
def yX7_chimes : MethodName := ⟨RX7, "chimes", "(LOnlyRhymes$Tongue;II)I"⟩
def RX8 : String := "OnlyRhymes$Slow"
def TX8 : u_T := fun k => match k with
  | _ => ("", "", "", false)
def tyX8 : Nat → FieldType := fun k => match k with
  | _ => .int
abbrev wsX80 : List Cond := u_ws RX8 TX8 0
theorem nmX8 : ∀ a, a < 0 → ∀ b, b < 0 → a ≠ b → (TX8 a).2.1 ≠ (TX8 b).2.1 := by decide +kernel
theorem tyX8_ok : ∀ k, k < 0 → parseFieldDescriptor (TX8 k).2.2.1 = some (tyX8 k) := by decide +kernel
abbrev cX8_init : ByteArray := prog_10_method_1_code
def yX8_init : MethodName := ⟨RX8, "<init>", "()V"⟩
abbrev cX8_chimes : ByteArray := prog_10_method_2_code
def yX8_chimes : MethodName := ⟨RX8, "chimes", "(LOnlyRhymes$Tongue;II)I"⟩
def RX9 : String := "OnlyRhymes$Tongue"
def TX9 : u_T := fun k => match k with
  | 0 => ("OnlyRhymes$Tongue", "ending", "[I", true)
  | 1 => ("OnlyRhymes$Tongue", "meaning", "[I", true)
  | 2 => ("OnlyRhymes$Tongue", "cost", "[I", true)
  | 3 => ("OnlyRhymes$Tongue", "words", "I", false)
  | 4 => ("OnlyRhymes$Tongue", "alikeTo", "[I", true)
  | 5 => ("OnlyRhymes$Tongue", "kind", "[I", true)
  | 6 => ("OnlyRhymes$Tongue", "want", "[I", true)
  | 7 => ("OnlyRhymes$Tongue", "people", "I", false)
  | 8 => ("OnlyRhymes$Tongue", "said", "I", false)
  | 9 => ("OnlyRhymes$Tongue", "saidAhead", "[I", true)
  | 10 => ("OnlyRhymes$Tongue", "undos", "I", false)
  | 11 => ("OnlyRhymes$Tongue", "heardWord", "[I", true)
  | 12 => ("OnlyRhymes$Tongue", "heardAnswer", "[I", true)
  | _ => ("OnlyRhymes$Tongue", "heard", "I", false)
def tyX9 : Nat → FieldType := fun k => match k with
  | 0 => .array .int
  | 1 => .array .int
  | 2 => .array .int
  | 3 => .int
  | 4 => .array .int
  | 5 => .array .int
  | 6 => .array .int
  | 7 => .int
  | 8 => .int
  | 9 => .array .int
  | 10 => .int
  | 11 => .array .int
  | 12 => .array .int
  | _ => .int
abbrev wsX90 : List Cond := u_ws RX9 TX9 14
theorem nmX9 : ∀ a, a < 14 → ∀ b, b < 14 → a ≠ b → (TX9 a).2.1 ≠ (TX9 b).2.1 := by decide +kernel
theorem tyX9_ok : ∀ k, k < 14 → parseFieldDescriptor (TX9 k).2.2.1 = some (tyX9 k) := by decide +kernel
abbrev cX9_init : ByteArray := prog_11_method_1_code
def yX9_init : MethodName := ⟨RX9, "<init>", "()V"⟩
abbrev cX9_empty : ByteArray := prog_11_method_2_code
def yX9_empty : MethodName := ⟨RX9, "empty", "()V"⟩
abbrev cX9_copyFrom : ByteArray := prog_11_method_3_code
def yX9_copyFrom : MethodName := ⟨RX9, "copyFrom", "(LOnlyRhymes$Tongue;)V"⟩
abbrev cX9_addWord : ByteArray := prog_11_method_4_code
def yX9_addWord : MethodName := ⟨RX9, "addWord", "(III)I"⟩
abbrev cX9_addPerson : ByteArray := prog_11_method_5_code
def yX9_addPerson : MethodName := ⟨RX9, "addPerson", "(II)I"⟩
abbrev cX9_addHeard : ByteArray := prog_11_method_6_code
def yX9_addHeard : MethodName := ⟨RX9, "addHeard", "(II)I"⟩
abbrev cX9_areAlike : ByteArray := prog_11_method_7_code
def yX9_areAlike : MethodName := ⟨RX9, "areAlike", "(II)Z"⟩
abbrev cX9_setAlike : ByteArray := prog_11_method_8_code
def yX9_setAlike : MethodName := ⟨RX9, "setAlike", "(IIZ)V"⟩
abbrev cX9_alikePairs : ByteArray := prog_11_method_9_code
def yX9_alikePairs : MethodName := ⟨RX9, "alikePairs", "()I"⟩
abbrev cX9_say : ByteArray := prog_11_method_10_code
def yX9_say : MethodName := ⟨RX9, "say", "(I)V"⟩
abbrev cX9_takeBack : ByteArray := prog_11_method_11_code
def yX9_takeBack : MethodName := ⟨RX9, "takeBack", "()V"⟩
abbrev cX9_wordsEnding : ByteArray := prog_11_method_12_code
def yX9_wordsEnding : MethodName := ⟨RX9, "wordsEnding", "(I)I"⟩
abbrev cX9_wordsMeaning : ByteArray := prog_11_method_13_code
def yX9_wordsMeaning : MethodName := ⟨RX9, "wordsMeaning", "(I)I"⟩
abbrev cX9_meaningsOf : ByteArray := prog_11_method_14_code
def yX9_meaningsOf : MethodName := ⟨RX9, "meaningsOf", "(I)I"⟩
abbrev cX9_costOf : ByteArray := prog_11_method_15_code
def yX9_costOf : MethodName := ⟨RX9, "costOf", "(I)I"⟩
abbrev cX9_firstOf : ByteArray := prog_11_method_16_code
def yX9_firstOf : MethodName := ⟨RX9, "firstOf", "(II)I"⟩
abbrev cX9_digestFrom : ByteArray := prog_11_method_17_code
def yX9_digestFrom : MethodName := ⟨RX9, "digestFrom", "(J)J"⟩
def RX10 : String := "OnlyRhymes"
def TX10 : u_T := fun k => match k with
  | 0 => ("OnlyRhymes", "now", "LOnlyRhymes$Tongue;", true)
  | 1 => ("OnlyRhymes", "draft", "LOnlyRhymes$Tongue;", true)
  | 2 => ("OnlyRhymes", "images", "[LOnlyRhymes$Tongue;", true)
  | 3 => ("OnlyRhymes", "imagesKept", "I", false)
  | 4 => ("OnlyRhymes", "kinds", "[LOnlyRhymes$Rhymer;", true)
  | 5 => ("OnlyRhymes", "text", "LOnlyRhymes$Reader;", true)
  | 6 => ("OnlyRhymes", "duel", "LOnlyRhymes$Duel;", true)
  | 7 => ("OnlyRhymes", "cover", "LOnlyRhymes$Cover;", true)
  | 8 => ("OnlyRhymes", "bads", "I", false)
  | 9 => ("OnlyRhymes", "nos", "I", false)
  | 10 => ("OnlyRhymes", "fulls", "I", false)
  | 11 => ("OnlyRhymes", "above", "J", false)
  | 12 => ("OnlyRhymes", "below", "J", false)
  | 13 => ("OnlyRhymes", "clashes", "[I", true)
  | 14 => ("OnlyRhymes", "tally", "[I", true)
  | 15 => ("OnlyRhymes", "sayableByPair", "[I", true)
  | _ => ("OnlyRhymes", "chosenPairs", "[I", true)
def tyX10 : Nat → FieldType := fun k => match k with
  | 0 => .object "OnlyRhymes$Tongue"
  | 1 => .object "OnlyRhymes$Tongue"
  | 2 => .array (.object "OnlyRhymes$Tongue")
  | 3 => .int
  | 4 => .array (.object "OnlyRhymes$Rhymer")
  | 5 => .object "OnlyRhymes$Reader"
  | 6 => .object "OnlyRhymes$Duel"
  | 7 => .object "OnlyRhymes$Cover"
  | 8 => .int
  | 9 => .int
  | 10 => .int
  | 11 => .long
  | 12 => .long
  | 13 => .array .int
  | 14 => .array .int
  | 15 => .array .int
  | _ => .array .int
abbrev wsX100 : List Cond := u_ws RX10 TX10 17
theorem nmX10 : ∀ a, a < 17 → ∀ b, b < 17 → a ≠ b → (TX10 a).2.1 ≠ (TX10 b).2.1 := by decide +kernel
theorem tyX10_ok : ∀ k, k < 17 → parseFieldDescriptor (TX10 k).2.2.1 = some (tyX10 k) := by decide +kernel
abbrev cX10_init : ByteArray := prog_1_method_1_code
def yX10_init : MethodName := ⟨RX10, "<init>", "()V"⟩
abbrev cX10_tongue : ByteArray := prog_1_method_2_code
def yX10_tongue : MethodName := ⟨RX10, "tongue", "()I"⟩
abbrev cX10_word : ByteArray := prog_1_method_3_code
def yX10_word : MethodName := ⟨RX10, "word", "(III)I"⟩
abbrev cX10_alike : ByteArray := prog_1_method_4_code
def yX10_alike : MethodName := ⟨RX10, "alike", "(III)I"⟩
abbrev cX10_person : ByteArray := prog_1_method_5_code
def yX10_person : MethodName := ⟨RX10, "person", "(II)I"⟩
abbrev cX10_type : ByteArray := prog_1_method_6_code
def yX10_type : MethodName := ⟨RX10, "type", "(I)I"⟩
abbrev cX10_clear : ByteArray := prog_1_method_7_code
def yX10_clear : MethodName := ⟨RX10, "clear", "()I"⟩
abbrev cX10_read : ByteArray := prog_1_method_8_code
def yX10_read : MethodName := ⟨RX10, "read", "()I"⟩
abbrev cX10_ask : ByteArray := prog_1_method_9_code
def yX10_ask : MethodName := ⟨RX10, "ask", "(III)I"⟩
abbrev cX10_rest : ByteArray := prog_1_method_10_code
def yX10_rest : MethodName := ⟨RX10, "rest", "()I"⟩
abbrev cX10_undo : ByteArray := prog_1_method_11_code
def yX10_undo : MethodName := ⟨RX10, "undo", "()I"⟩
abbrev cX10_of : ByteArray := prog_1_method_12_code
def yX10_of : MethodName := ⟨RX10, "of", "(II)I"⟩
abbrev cX10_about : ByteArray := prog_1_method_13_code
def yX10_about : MethodName := ⟨RX10, "about", "(II)I"⟩
abbrev cX10_answers : ByteArray := prog_1_method_14_code
def yX10_answers : MethodName := ⟨RX10, "answers", "(III)I"⟩
abbrev cX10_asks : ByteArray := prog_1_method_15_code
def yX10_asks : MethodName := ⟨RX10, "asks", "(II)I"⟩
abbrev cX10_fewest : ByteArray := prog_1_method_16_code
def yX10_fewest : MethodName := ⟨RX10, "fewest", "(II)I"⟩
abbrev cX10_errand : ByteArray := prog_1_method_17_code
def yX10_errand : MethodName := ⟨RX10, "errand", "(II)I"⟩
abbrev cX10_hear : ByteArray := prog_1_method_18_code
def yX10_hear : MethodName := ⟨RX10, "hear", "(II)I"⟩
abbrev cX10_forget : ByteArray := prog_1_method_19_code
def yX10_forget : MethodName := ⟨RX10, "forget", "()I"⟩
abbrev cX10_wants : ByteArray := prog_1_method_20_code
def yX10_wants : MethodName := ⟨RX10, "wants", "(I)I"⟩
abbrev cX10_next : ByteArray := prog_1_method_21_code
def yX10_next : MethodName := ⟨RX10, "next", "(II)I"⟩
abbrev cX10_two : ByteArray := prog_1_method_22_code
def yX10_two : MethodName := ⟨RX10, "two", "(IIII)I"⟩
abbrev cX10_will : ByteArray := prog_1_method_23_code
def yX10_will : MethodName := ⟨RX10, "will", "(II)I"⟩
abbrev cX10_worst : ByteArray := prog_1_method_24_code
def yX10_worst : MethodName := ⟨RX10, "worst", "(I)I"⟩
abbrev cX10_allow : ByteArray := prog_1_method_25_code
def yX10_allow : MethodName := ⟨RX10, "allow", "(III)I"⟩
abbrev cX10_misheard : ByteArray := prog_1_method_26_code
def yX10_misheard : MethodName := ⟨RX10, "misheard", "(IIII)I"⟩
abbrev cX10_talks : ByteArray := prog_1_method_27_code
def yX10_talks : MethodName := ⟨RX10, "talks", "(II)I"⟩
abbrev cX10_part : ByteArray := prog_1_method_28_code
def yX10_part : MethodName := ⟨RX10, "part", "(I)J"⟩
abbrev cX10_image : ByteArray := prog_1_method_29_code
def yX10_image : MethodName := ⟨RX10, "image", "(I)I"⟩
abbrev cX10_from : ByteArray := prog_1_method_30_code
def yX10_from : MethodName := ⟨RX10, "from", "(I)I"⟩
abbrev cX10_status : ByteArray := prog_1_method_31_code
def yX10_status : MethodName := ⟨RX10, "status", "(I)I"⟩
abbrev cX10_count : ByteArray := prog_1_method_32_code
def yX10_count : MethodName := ⟨RX10, "count", "(I)I"⟩
abbrev cX10_digest : ByteArray := prog_1_method_33_code
def yX10_digest : MethodName := ⟨RX10, "digest", "()J"⟩
abbrev cX10_fits : ByteArray := prog_1_method_34_code
def yX10_fits : MethodName := ⟨RX10, "fits", "(II)Z"⟩
abbrev cX10_isWord : ByteArray := prog_1_method_35_code
def yX10_isWord : MethodName := ⟨RX10, "isWord", "(I)Z"⟩
abbrev cX10_isPerson : ByteArray := prog_1_method_36_code
def yX10_isPerson : MethodName := ⟨RX10, "isPerson", "(I)Z"⟩
abbrev cX10_refuse : ByteArray := prog_1_method_37_code
def yX10_refuse : MethodName := ⟨RX10, "refuse", "(I)I"⟩
abbrev cX10_howMany : ByteArray := prog_1_method_38_code
def yX10_howMany : MethodName := ⟨RX10, "howMany", "(I)I"⟩
abbrev cX10_answerBits : ByteArray := prog_1_method_39_code
def yX10_answerBits : MethodName := ⟨RX10, "answerBits", "(II)I"⟩
abbrev cX10_sayableBits : ByteArray := prog_1_method_40_code
def yX10_sayableBits : MethodName := ⟨RX10, "sayableBits", "(II)I"⟩
abbrev cX10_sayableByAnyWord : ByteArray := prog_1_method_41_code
def yX10_sayableByAnyWord : MethodName := ⟨RX10, "sayableByAnyWord", "(LOnlyRhymes$Tongue;I)I"⟩
abbrev cX10_reply : ByteArray := prog_1_method_42_code
def yX10_reply : MethodName := ⟨RX10, "reply", "(III)I"⟩
abbrev cX10_wantBits : ByteArray := prog_1_method_43_code
def yX10_wantBits : MethodName := ⟨RX10, "wantBits", "(I)I"⟩
abbrev cX10_mostLeft : ByteArray := prog_1_method_44_code
def yX10_mostLeft : MethodName := ⟨RX10, "mostLeft", "(III)I"⟩
abbrev cX10_fillClashes : ByteArray := prog_1_method_45_code
def yX10_fillClashes : MethodName := ⟨RX10, "fillClashes", "(II)V"⟩
abbrev cX10_isPeaceful : ByteArray := prog_1_method_46_code
def yX10_isPeaceful : MethodName := ⟨RX10, "isPeaceful", "(I)Z"⟩
abbrev cX10_choosePairs : ByteArray := prog_1_method_47_code
def yX10_choosePairs : MethodName := ⟨RX10, "choosePairs", "(II)I"⟩
abbrev cX10_fillSayableByPair : ByteArray := prog_1_method_48_code
def yX10_fillSayableByPair : MethodName := ⟨RX10, "fillSayableByPair", "(I)V"⟩
abbrev cX10_setFraction : ByteArray := prog_1_method_49_code
def yX10_setFraction : MethodName := ⟨RX10, "setFraction", "(I)V"⟩
def RX11 : String := "OnlyRhymesModel"
def TX11 : u_T := fun k => match k with
  | 0 => ("OnlyRhymesModel", "thrown", "I", false)
  | 1 => ("OnlyRhymesModel", "refused", "[I", true)
  | 2 => ("OnlyRhymesModel", "tongue", "[I", true)
  | 3 => ("OnlyRhymesModel", "fresh", "[I", true)
  | 4 => ("OnlyRhymesModel", "kept", "[I", true)
  | 5 => ("OnlyRhymesModel", "isKept", "[Z", true)
  | 6 => ("OnlyRhymesModel", "text", "[I", true)
  | 7 => ("OnlyRhymesModel", "size", "I", false)
  | 8 => ("OnlyRhymesModel", "at", "I", false)
  | 9 => ("OnlyRhymesModel", "start", "I", false)
  | 10 => ("OnlyRhymesModel", "token", "I", false)
  | 11 => ("OnlyRhymesModel", "value", "J", false)
  | 12 => ("OnlyRhymesModel", "faultAt", "I", false)
  | 13 => ("OnlyRhymesModel", "said", "[I", true)
  | 14 => ("OnlyRhymesModel", "talk", "[I", true)
  | 15 => ("OnlyRhymesModel", "allowed", "I", false)
  | 16 => ("OnlyRhymesModel", "firstPair", "I", false)
  | 17 => ("OnlyRhymesModel", "secondPair", "I", false)
  | 18 => ("OnlyRhymesModel", "above", "J", false)
  | _ => ("OnlyRhymesModel", "below", "J", false)
def tyX11 : Nat → FieldType := fun k => match k with
  | 0 => .int
  | 1 => .array .int
  | 2 => .array .int
  | 3 => .array .int
  | 4 => .array .int
  | 5 => .array .boolean
  | 6 => .array .int
  | 7 => .int
  | 8 => .int
  | 9 => .int
  | 10 => .int
  | 11 => .long
  | 12 => .int
  | 13 => .array .int
  | 14 => .array .int
  | 15 => .int
  | 16 => .int
  | 17 => .int
  | 18 => .long
  | _ => .long
abbrev wsX110 : List Cond := u_ws RX11 TX11 20
theorem nmX11 : ∀ a, a < 20 → ∀ b, b < 20 → a ≠ b → (TX11 a).2.1 ≠ (TX11 b).2.1 := by decide +kernel
theorem tyX11_ok : ∀ k, k < 20 → parseFieldDescriptor (TX11 k).2.2.1 = some (tyX11 k) := by decide +kernel
abbrev cX11_init : ByteArray := prog_13_method_1_code
def yX11_init : MethodName := ⟨RX11, "<init>", "()V"⟩
abbrev cX11_in : ByteArray := prog_13_method_3_code
def yX11_in : MethodName := ⟨RX11, "in", "(JJJ)Z"⟩
abbrev cX11_has : ByteArray := prog_13_method_4_code
def yX11_has : MethodName := ⟨RX11, "has", "(II)Z"⟩
abbrev cX11_bits : ByteArray := prog_13_method_5_code
def yX11_bits : MethodName := ⟨RX11, "bits", "(I)I"⟩
abbrev cX11_refuse : ByteArray := prog_13_method_6_code
def yX11_refuse : MethodName := ⟨RX11, "refuse", "(II)I"⟩
