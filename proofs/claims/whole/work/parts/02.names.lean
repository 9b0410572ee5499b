/-! ===== BEGIN words of one list among another's, by their places ===== -/
theorem goodIn_r {big : List Cond} (ws : List Cond) (ps : List Nat) (hp : ws = ps.filterMap (fun i => big[i]?)) (h : ws.all goodWord = true) : GoodIn big ws := by
  intro w hw
  have h1 := List.all_eq_true.mp h w hw
  rw [hp] at hw
  obtain ⟨i, -, hi⟩ := List.mem_filterMap.mp hw
  have hm : w ∈ big := by first | exact List.mem_of_getElem? hi | exact List.getElem?_mem hi
  exact ⟨hm, good_of_word h1⟩
theorem goodIn_app {big a b : List Cond} (ha : GoodIn big a) (hb : GoodIn big b) : GoodIn big (a ++ b) := fun w h => (List.mem_append.mp h).elim (ha w) (hb w)
theorem goodIn_ca {big a b : List Cond} {c : Cond} (ha : GoodIn big (c :: a)) (hb : GoodIn big b) : GoodIn big (c :: (a ++ b)) := fun w h => (List.mem_cons.mp h).elim (fun e => ha w (List.mem_cons.mpr (Or.inl e))) (fun h => (List.mem_append.mp h).elim (fun h => ha w (List.mem_cons.mpr (Or.inr h))) (hb w))
theorem goodIn_sub {big ws : List Cond} (hm : ∀ w ∈ ws, w ∈ big) (h : ws.all goodWord = true) : GoodIn big ws := fun w hw => ⟨hm w hw, good_of_word (List.all_eq_true.mp h w hw)⟩
/-! ===== END ===== -/

/-! ===== BEGIN printed: names, fields, word lists, decode rows ===== -/
def RX0 : String := "ForeBook$Book"
def TX0 : u_T := fun k => match k with
  | 0 => ("ForeBook$Book", "questions", "[LForeBook$Question;", true)
  | 1 => ("ForeBook$Book", "latest", "[LForeBook$Guess;", true)
  | 2 => ("ForeBook$Book", "byDay", "[LForeBook$Guess;", true)
  | 3 => ("ForeBook$Book", "questionCount", "I", false)
  | 4 => ("ForeBook$Book", "guessCount", "I", false)
  | _ => ("ForeBook$Book", "version", "I", false)
def tyX0 : Nat → FieldType := fun k => match k with
  | 0 => .array (.object "ForeBook$Question")
  | 1 => .array (.object "ForeBook$Guess")
  | 2 => .array (.object "ForeBook$Guess")
  | 3 => .int
  | 4 => .int
  | _ => .int
abbrev wsX00 : List Cond := u_ws RX0 TX0 6
theorem nmX0 : ∀ a, a < 6 → ∀ b, b < 6 → a ≠ b → (TX0 a).2.1 ≠ (TX0 b).2.1 := by decide +kernel
theorem tyX0_ok : ∀ k, k < 6 → parseFieldDescriptor (TX0 k).2.2.1 = some (tyX0 k) := by decide +kernel
abbrev cX0_init : ByteArray := prog_2_method_1_code
def yX0_init : MethodName := ⟨RX0, "<init>", "()V"⟩
abbrev cX0_hasQuestion : ByteArray := prog_2_method_2_code
def yX0_hasQuestion : MethodName := ⟨RX0, "hasQuestion", "(I)Z"⟩
abbrev cX0_addQuestion : ByteArray := prog_2_method_3_code
def yX0_addQuestion : MethodName := ⟨RX0, "addQuestion", "(II)I"⟩
abbrev cX0_addGuess : ByteArray := prog_2_method_4_code
def yX0_addGuess : MethodName := ⟨RX0, "addGuess", "(IIII)I"⟩
abbrev cX0_hasLaterGuess : ByteArray := prog_2_method_5_code
def yX0_hasLaterGuess : MethodName := ⟨RX0, "hasLaterGuess", "(III)Z"⟩
abbrev cX0_isBehind : ByteArray := prog_2_method_6_code
def yX0_isBehind : MethodName := ⟨RX0, "isBehind", "(LForeBook$Guess;I)Z"⟩
abbrev cX0_latestUpTo : ByteArray := prog_2_method_7_code
def yX0_latestUpTo : MethodName := ⟨RX0, "latestUpTo", "(II)LForeBook$Guess;"⟩
abbrev cX0_heldTenth : ByteArray := prog_2_method_8_code
def yX0_heldTenth : MethodName := ⟨RX0, "heldTenth", "(III)I"⟩
def RX1 : String := "ForeBook$Costs"
def TX1 : u_T := fun k => match k with
  | 0 => ("ForeBook$Costs", "rowCount", "[I", true)
  | 1 => ("ForeBook$Costs", "rowSum", "[I", true)
  | 2 => ("ForeBook$Costs", "book", "LForeBook$Book;", true)
  | 3 => ("ForeBook$Costs", "rules", "LForeBook$Rules;", true)
  | 4 => ("ForeBook$Costs", "totalCount", "[I", true)
  | 5 => ("ForeBook$Costs", "totalSum", "[I", true)
  | _ => ("ForeBook$Costs", "seenVersion", "I", false)
def tyX1 : Nat → FieldType := fun k => match k with
  | 0 => .array .int
  | 1 => .array .int
  | 2 => .object "ForeBook$Book"
  | 3 => .object "ForeBook$Rules"
  | 4 => .array .int
  | 5 => .array .int
  | _ => .int
abbrev wsX10 : List Cond := u_ws RX1 TX1 7
theorem nmX1 : ∀ a, a < 7 → ∀ b, b < 7 → a ≠ b → (TX1 a).2.1 ≠ (TX1 b).2.1 := by decide +kernel
theorem tyX1_ok : ∀ k, k < 7 → parseFieldDescriptor (TX1 k).2.2.1 = some (tyX1 k) := by decide +kernel
abbrev cX1_init : ByteArray := prog_3_method_1_code
def yX1_init : MethodName := ⟨RX1, "<init>", "(LForeBook$Book;LForeBook$Rules;)V"⟩
abbrev cX1_refresh : ByteArray := prog_3_method_2_code
def yX1_refresh : MethodName := ⟨RX1, "refresh", "()V"⟩
abbrev cX1_fillRows : ByteArray := prog_3_method_3_code
def yX1_fillRows : MethodName := ⟨RX1, "fillRows", "(ILForeBook$Question;)V"⟩
abbrev cX1_addRows : ByteArray := prog_3_method_4_code
def yX1_addRows : MethodName := ⟨RX1, "addRows", "(III)V"⟩
abbrev cX1_addToTotal : ByteArray := prog_3_method_5_code
def yX1_addToTotal : MethodName := ⟨RX1, "addToTotal", "(II)V"⟩
abbrev cX1_doesCount : ByteArray := prog_3_method_6_code
def yX1_doesCount : MethodName := ⟨RX1, "doesCount", "(I)Z"⟩
abbrev cX1_costOnDay : ByteArray := prog_3_method_7_code
def yX1_costOnDay : MethodName := ⟨RX1, "costOnDay", "(III)I"⟩
abbrev cX1_hasMean : ByteArray := prog_3_method_8_code
def yX1_hasMean : MethodName := ⟨RX1, "hasMean", "(I)Z"⟩
abbrev cX1_meanAbove : ByteArray := prog_3_method_9_code
def yX1_meanAbove : MethodName := ⟨RX1, "meanAbove", "(I)I"⟩
abbrev cX1_meanBelow : ByteArray := prog_3_method_10_code
def yX1_meanBelow : MethodName := ⟨RX1, "meanBelow", "(I)I"⟩
abbrev cX1_greatestDivisor : ByteArray := prog_3_method_11_code
def yX1_greatestDivisor : MethodName := ⟨RX1, "greatestDivisor", "(II)I"⟩
abbrev cX1_guessersWithMean : ByteArray := prog_3_method_12_code
def yX1_guessersWithMean : MethodName := ⟨RX1, "guessersWithMean", "()I"⟩
abbrev cX1_guesserAtRank : ByteArray := prog_3_method_13_code
def yX1_guesserAtRank : MethodName := ⟨RX1, "guesserAtRank", "(I)I"⟩
abbrev cX1_rankOf : ByteArray := prog_3_method_14_code
def yX1_rankOf : MethodName := ⟨RX1, "rankOf", "(I)I"⟩
abbrev cX1_isAhead : ByteArray := prog_3_method_15_code
def yX1_isAhead : MethodName := ⟨RX1, "isAhead", "(II)Z"⟩
abbrev cX1_bestTenthToSay : ByteArray := prog_3_method_16_code
def yX1_bestTenthToSay : MethodName := ⟨RX1, "bestTenthToSay", "(I)I"⟩
abbrev cX1_leastDishonestBelief : ByteArray := prog_3_method_17_code
def yX1_leastDishonestBelief : MethodName := ⟨RX1, "leastDishonestBelief", "()I"⟩
abbrev cX1_paysAlone : ByteArray := prog_3_method_18_code
def yX1_paysAlone : MethodName := ⟨RX1, "paysAlone", "(I)Z"⟩
abbrev cX1_expectedCost : ByteArray := prog_3_method_19_code
def yX1_expectedCost : MethodName := ⟨RX1, "expectedCost", "(II)I"⟩
def RX2 : String := "ForeBook$Crowd"
def TX2 : u_T := fun k => match k with
  | 0 => ("ForeBook$Crowd", "unlike", "I", false)
  | 1 => ("ForeBook$Crowd", "better", "I", false)
  | 2 => ("ForeBook$Crowd", "book", "LForeBook$Book;", true)
  | 3 => ("ForeBook$Crowd", "rules", "LForeBook$Rules;", true)
  | 4 => ("ForeBook$Crowd", "costs", "LForeBook$Costs;", true)
  | 5 => ("ForeBook$Crowd", "copierFrom", "[I", true)
  | 6 => ("ForeBook$Crowd", "copyCount", "[I", true)
  | 7 => ("ForeBook$Crowd", "joinedByDay", "[I", true)
  | 8 => ("ForeBook$Crowd", "heldNow", "[I", true)
  | 9 => ("ForeBook$Crowd", "weightAtTenth", "[I", true)
  | _ => ("ForeBook$Crowd", "seenVersion", "I", false)
def tyX2 : Nat → FieldType := fun k => match k with
  | 0 => .int
  | 1 => .int
  | 2 => .object "ForeBook$Book"
  | 3 => .object "ForeBook$Rules"
  | 4 => .object "ForeBook$Costs"
  | 5 => .array .int
  | 6 => .array .int
  | 7 => .array .int
  | 8 => .array .int
  | 9 => .array .int
  | _ => .int
abbrev wsX20 : List Cond := u_ws RX2 TX2 11
theorem nmX2 : ∀ a, a < 11 → ∀ b, b < 11 → a ≠ b → (TX2 a).2.1 ≠ (TX2 b).2.1 := by decide +kernel
theorem tyX2_ok : ∀ k, k < 11 → parseFieldDescriptor (TX2 k).2.2.1 = some (tyX2 k) := by decide +kernel
abbrev cX2_init : ByteArray := prog_4_method_1_code
def yX2_init : MethodName := ⟨RX2, "<init>", "(LForeBook$Book;LForeBook$Rules;LForeBook$Costs;)V"⟩
abbrev cX2_refresh : ByteArray := prog_4_method_2_code
def yX2_refresh : MethodName := ⟨RX2, "refresh", "()V"⟩
abbrev cX2_countCopies : ByteArray := prog_4_method_3_code
def yX2_countCopies : MethodName := ⟨RX2, "countCopies", "(II)I"⟩
abbrev cX2_isCopy : ByteArray := prog_4_method_4_code
def yX2_isCopy : MethodName := ⟨RX2, "isCopy", "(LForeBook$Guess;I)Z"⟩
abbrev cX2_findCopiers : ByteArray := prog_4_method_5_code
def yX2_findCopiers : MethodName := ⟨RX2, "findCopiers", "()V"⟩
abbrev cX2_noteCopy : ByteArray := prog_4_method_6_code
def yX2_noteCopy : MethodName := ⟨RX2, "noteCopy", "(LForeBook$Guess;I)V"⟩
abbrev cX2_weightOn : ByteArray := prog_4_method_7_code
def yX2_weightOn : MethodName := ⟨RX2, "weightOn", "(II)I"⟩
abbrev cX2_joinedTenth : ByteArray := prog_4_method_8_code
def yX2_joinedTenth : MethodName := ⟨RX2, "joinedTenth", "(II)I"⟩
abbrev cX2_joinHeld : ByteArray := prog_4_method_9_code
def yX2_joinHeld : MethodName := ⟨RX2, "joinHeld", "(II)I"⟩
abbrev cX2_copiesAHolder : ByteArray := prog_4_method_10_code
def yX2_copiesAHolder : MethodName := ⟨RX2, "copiesAHolder", "(II)Z"⟩
abbrev cX2_tenthAtHalf : ByteArray := prog_4_method_11_code
def yX2_tenthAtHalf : MethodName := ⟨RX2, "tenthAtHalf", "(I)I"⟩
abbrev cX2_joinedRows : ByteArray := prog_4_method_12_code
def yX2_joinedRows : MethodName := ⟨RX2, "joinedRows", "(I)I"⟩
abbrev cX2_joinedSum : ByteArray := prog_4_method_13_code
def yX2_joinedSum : MethodName := ⟨RX2, "joinedSum", "(I)I"⟩
abbrev cX2_compareWithJoined : ByteArray := prog_4_method_14_code
def yX2_compareWithJoined : MethodName := ⟨RX2, "compareWithJoined", "(I)V"⟩
abbrev cX2_costOverJoined : ByteArray := prog_4_method_15_code
def yX2_costOverJoined : MethodName := ⟨RX2, "costOverJoined", "(II)I"⟩
abbrev cX2_rowsWithHeads : ByteArray := prog_4_method_16_code
def yX2_rowsWithHeads : MethodName := ⟨RX2, "rowsWithHeads", "(II)J"⟩
def RX3 : String := "ForeBook$Guess"
def TX3 : u_T := fun k => match k with
  | 0 => ("ForeBook$Guess", "guesser", "I", true)
  | 1 => ("ForeBook$Guess", "question", "I", true)
  | 2 => ("ForeBook$Guess", "day", "I", true)
  | 3 => ("ForeBook$Guess", "tenth", "I", true)
  | _ => ("ForeBook$Guess", "before", "LForeBook$Guess;", true)
def tyX3 : Nat → FieldType := fun k => match k with
  | 0 => .int
  | 1 => .int
  | 2 => .int
  | 3 => .int
  | _ => .object "ForeBook$Guess"
abbrev wsX30 : List Cond := u_ws RX3 TX3 5
theorem nmX3 : ∀ a, a < 5 → ∀ b, b < 5 → a ≠ b → (TX3 a).2.1 ≠ (TX3 b).2.1 := by decide +kernel
theorem tyX3_ok : ∀ k, k < 5 → parseFieldDescriptor (TX3 k).2.2.1 = some (tyX3 k) := by decide +kernel
abbrev cX3_init : ByteArray := prog_5_method_1_code
def yX3_init : MethodName := ⟨RX3, "<init>", "(IIIILForeBook$Guess;)V"⟩
def RX4 : String := "ForeBook$Mender"
def TX4 : u_T := fun k => match k with
  | 0 => ("ForeBook$Mender", "latestRow", "[I", true)
  | 1 => ("ForeBook$Mender", "book", "LForeBook$Book;", true)
  | 2 => ("ForeBook$Mender", "ties", "LForeBook$Ties;", true)
  | 3 => ("ForeBook$Mender", "chosen", "[I", true)
  | 4 => ("ForeBook$Mender", "held", "[I", true)
  | 5 => ("ForeBook$Mender", "tried", "[I", true)
  | 6 => ("ForeBook$Mender", "best", "[I", true)
  | 7 => ("ForeBook$Mender", "size", "I", false)
  | _ => ("ForeBook$Mender", "bestSum", "I", false)
def tyX4 : Nat → FieldType := fun k => match k with
  | 0 => .array .int
  | 1 => .object "ForeBook$Book"
  | 2 => .object "ForeBook$Ties"
  | 3 => .array .int
  | 4 => .array .int
  | 5 => .array .int
  | 6 => .array .int
  | 7 => .int
  | _ => .int
abbrev wsX40 : List Cond := u_ws RX4 TX4 9
theorem nmX4 : ∀ a, a < 9 → ∀ b, b < 9 → a ≠ b → (TX4 a).2.1 ≠ (TX4 b).2.1 := by decide +kernel
theorem tyX4_ok : ∀ k, k < 9 → parseFieldDescriptor (TX4 k).2.2.1 = some (tyX4 k) := by decide +kernel
abbrev cX4_init : ByteArray := prog_6_method_1_code
def yX4_init : MethodName := ⟨RX4, "<init>", "(LForeBook$Book;LForeBook$Ties;)V"⟩
abbrev cX4_choose : ByteArray := prog_6_method_2_code
def yX4_choose : MethodName := ⟨RX4, "choose", "(III)Z"⟩
abbrev cX4_leastChange : ByteArray := prog_6_method_3_code
def yX4_leastChange : MethodName := ⟨RX4, "leastChange", "()I"⟩
abbrev cX4_tryTenths : ByteArray := prog_6_method_4_code
def yX4_tryTenths : MethodName := ⟨RX4, "tryTenths", "(II)V"⟩
abbrev cX4_lowestFor : ByteArray := prog_6_method_5_code
def yX4_lowestFor : MethodName := ⟨RX4, "lowestFor", "(I)I"⟩
abbrev cX4_lowestByTie : ByteArray := prog_6_method_6_code
def yX4_lowestByTie : MethodName := ⟨RX4, "lowestByTie", "(III)I"⟩
abbrev cX4_highestFor : ByteArray := prog_6_method_7_code
def yX4_highestFor : MethodName := ⟨RX4, "highestFor", "(I)I"⟩
abbrev cX4_highestByTie : ByteArray := prog_6_method_8_code
def yX4_highestByTie : MethodName := ⟨RX4, "highestByTie", "(III)I"⟩
abbrev cX4_placeTiedTo : ByteArray := prog_6_method_9_code
def yX4_placeTiedTo : MethodName := ⟨RX4, "placeTiedTo", "(II)I"⟩
def RX5 : String := "ForeBook$Question"
def TX5 : u_T := fun k => match k with
  | 0 => ("ForeBook$Question", "from", "I", false)
  | 1 => ("ForeBook$Question", "to", "I", false)
  | 2 => ("ForeBook$Question", "how", "I", false)
  | 3 => ("ForeBook$Question", "known", "I", false)
  | _ => ("ForeBook$Question", "guesses", "I", false)
def tyX5 : Nat → FieldType := fun k => match k with
  | 0 => .int
  | 1 => .int
  | 2 => .int
  | 3 => .int
  | _ => .int
abbrev wsX50 : List Cond := u_ws RX5 TX5 5
theorem nmX5 : ∀ a, a < 5 → ∀ b, b < 5 → a ≠ b → (TX5 a).2.1 ≠ (TX5 b).2.1 := by decide +kernel
theorem tyX5_ok : ∀ k, k < 5 → parseFieldDescriptor (TX5 k).2.2.1 = some (tyX5 k) := by decide +kernel
abbrev cX5_init : ByteArray := prog_7_method_1_code
def yX5_init : MethodName := ⟨RX5, "<init>", "()V"⟩
abbrev cX5_isSettled : ByteArray := prog_7_method_2_code
def yX5_isSettled : MethodName := ⟨RX5, "isSettled", "()Z"⟩
abbrev cX5_endOfRows : ByteArray := prog_7_method_3_code
def yX5_endOfRows : MethodName := ⟨RX5, "endOfRows", "()I"⟩
def RX6 : String := "ForeBook$RuleReader"
def TX6 : u_T := fun k => match k with
  | 0 => ("ForeBook$RuleReader", "draft", "LForeBook$Rules;", true)
  | 1 => ("ForeBook$RuleReader", "faultKind", "I", false)
  | 2 => ("ForeBook$RuleReader", "faultPlace", "I", false)
  | 3 => ("ForeBook$RuleReader", "tape", "LForeBook$Tape;", true)
  | 4 => ("ForeBook$RuleReader", "token", "I", false)
  | 5 => ("ForeBook$RuleReader", "start", "I", false)
  | 6 => ("ForeBook$RuleReader", "next", "I", false)
  | 7 => ("ForeBook$RuleReader", "line", "I", false)
  | 8 => ("ForeBook$RuleReader", "taken", "I", false)
  | 9 => ("ForeBook$RuleReader", "lines", "I", false)
  | 10 => ("ForeBook$RuleReader", "toldLines", "I", false)
  | _ => ("ForeBook$RuleReader", "isOver", "Z", false)
def tyX6 : Nat → FieldType := fun k => match k with
  | 0 => .object "ForeBook$Rules"
  | 1 => .int
  | 2 => .int
  | 3 => .object "ForeBook$Tape"
  | 4 => .int
  | 5 => .int
  | 6 => .int
  | 7 => .int
  | 8 => .int
  | 9 => .int
  | 10 => .int
  | _ => .boolean
abbrev wsX60 : List Cond := u_ws RX6 TX6 12
theorem nmX6 : ∀ a, a < 12 → ∀ b, b < 12 → a ≠ b → (TX6 a).2.1 ≠ (TX6 b).2.1 := by decide +kernel
theorem tyX6_ok : ∀ k, k < 12 → parseFieldDescriptor (TX6 k).2.2.1 = some (tyX6 k) := by decide +kernel
abbrev cX6_init : ByteArray := prog_8_method_1_code
def yX6_init : MethodName := ⟨RX6, "<init>", "(LForeBook$Tape;)V"⟩
abbrev cX6_readText : ByteArray := prog_8_method_2_code
def yX6_readText : MethodName := ⟨RX6, "readText", "()I"⟩
abbrev cX6_begin : ByteArray := prog_8_method_3_code
def yX6_begin : MethodName := ⟨RX6, "begin", "()V"⟩
abbrev cX6_takeToken : ByteArray := prog_8_method_4_code
def yX6_takeToken : MethodName := ⟨RX6, "takeToken", "()V"⟩
abbrev cX6_startLine : ByteArray := prog_8_method_5_code
def yX6_startLine : MethodName := ⟨RX6, "startLine", "()V"⟩
abbrev cX6_lineOfWord : ByteArray := prog_8_method_6_code
def yX6_lineOfWord : MethodName := ⟨RX6, "lineOfWord", "()I"⟩
abbrev cX6_tokensBehind : ByteArray := prog_8_method_7_code
def yX6_tokensBehind : MethodName := ⟨RX6, "tokensBehind", "(I)I"⟩
abbrev cX6_takeArgument : ByteArray := prog_8_method_8_code
def yX6_takeArgument : MethodName := ⟨RX6, "takeArgument", "()V"⟩
abbrev cX6_takeOfCopy : ByteArray := prog_8_method_9_code
def yX6_takeOfCopy : MethodName := ⟨RX6, "takeOfCopy", "()V"⟩
abbrev cX6_takeChoice : ByteArray := prog_8_method_10_code
def yX6_takeChoice : MethodName := ⟨RX6, "takeChoice", "(Ljava/lang/String;Ljava/lang/String;)I"⟩
abbrev cX6_takeNumber : ByteArray := prog_8_method_11_code
def yX6_takeNumber : MethodName := ⟨RX6, "takeNumber", "(II)I"⟩
abbrev cX6_setFault : ByteArray := prog_8_method_12_code
def yX6_setFault : MethodName := ⟨RX6, "setFault", "(I)V"⟩
abbrev cX6_readToken : ByteArray := prog_8_method_13_code
def yX6_readToken : MethodName := ⟨RX6, "readToken", "()V"⟩
abbrev cX6_kindAt : ByteArray := prog_8_method_14_code
def yX6_kindAt : MethodName := ⟨RX6, "kindAt", "(I)I"⟩
abbrev cX6_isWord : ByteArray := prog_8_method_15_code
def yX6_isWord : MethodName := ⟨RX6, "isWord", "(Ljava/lang/String;)Z"⟩
def RX7 : String := "ForeBook$Rules"
def TX7 : u_T := fun k => match k with
  | 0 => ("ForeBook$Rules", "yes", "[I", true)
  | 1 => ("ForeBook$Rules", "no", "[I", true)
  | 2 => ("ForeBook$Rules", "missing", "I", false)
  | 3 => ("ForeBook$Rules", "weights", "I", false)
  | 4 => ("ForeBook$Rules", "copyDays", "I", false)
  | 5 => ("ForeBook$Rules", "copyTimes", "I", false)
  | _ => ("ForeBook$Rules", "least", "I", false)
def tyX7 : Nat → FieldType := fun k => match k with
  | 0 => .array .int
  | 1 => .array .int
  | 2 => .int
  | 3 => .int
  | 4 => .int
  | 5 => .int
  | _ => .int
abbrev wsX70 : List Cond := u_ws RX7 TX7 7
theorem nmX7 : ∀ a, a < 7 → ∀ b, b < 7 → a ≠ b → (TX7 a).2.1 ≠ (TX7 b).2.1 := by decide +kernel
theorem tyX7_ok : ∀ k, k < 7 → parseFieldDescriptor (TX7 k).2.2.1 = some (tyX7 k) := by decide +kernel
abbrev cX7_init : ByteArray := prog_9_method_1_code
def yX7_init : MethodName := ⟨RX7, "<init>", "()V"⟩
abbrev cX7_reset : ByteArray := prog_9_method_2_code
def yX7_reset : MethodName := ⟨RX7, "reset", "()V"⟩
abbrev cX7_copyFrom : ByteArray := prog_9_method_3_code
def yX7_copyFrom : MethodName := ⟨RX7, "copyFrom", "(LForeBook$Rules;)V"⟩
abbrev cX7_countsMissingAsHalf : ByteArray := prog_9_method_4_code
def yX7_countsMissingAsHalf : MethodName := ⟨RX7, "countsMissingAsHalf", "()Z"⟩
abbrev cX7_weighsByPast : ByteArray := prog_9_method_5_code
def yX7_weighsByPast : MethodName := ⟨RX7, "weighsByPast", "()Z"⟩
abbrev cX7_tellsCopy : ByteArray := prog_9_method_6_code
def yX7_tellsCopy : MethodName := ⟨RX7, "tellsCopy", "()Z"⟩
abbrev cX7_cost : ByteArray := prog_9_method_7_code
def yX7_cost : MethodName := ⟨RX7, "cost", "(II)I"⟩
def RX8 : String := "ForeBook$Tape"
def TX8 : u_T := fun k => match k with
  | 0 => ("ForeBook$Tape", "bytes", "[B", true)
  | _ => ("ForeBook$Tape", "length", "I", false)
def tyX8 : Nat → FieldType := fun k => match k with
  | 0 => .array .byte
  | _ => .int
abbrev wsX80 : List Cond := u_ws RX8 TX8 2
theorem nmX8 : ∀ a, a < 2 → ∀ b, b < 2 → a ≠ b → (TX8 a).2.1 ≠ (TX8 b).2.1 := by decide +kernel
theorem tyX8_ok : ∀ k, k < 2 → parseFieldDescriptor (TX8 k).2.2.1 = some (tyX8 k) := by decide +kernel
abbrev cX8_init : ByteArray := prog_10_method_1_code
def yX8_init : MethodName := ⟨RX8, "<init>", "()V"⟩
abbrev cX8_append : ByteArray := prog_10_method_2_code
def yX8_append : MethodName := ⟨RX8, "append", "(I)V"⟩
def RX9 : String := "ForeBook$Ties"
def TX9 : u_T := fun k => match k with
  | 0 => ("ForeBook$Ties", "first", "[I", true)
  | 1 => ("ForeBook$Ties", "second", "[I", true)
  | 2 => ("ForeBook$Ties", "kind", "[I", true)
  | 3 => ("ForeBook$Ties", "size", "I", false)
  | _ => ("ForeBook$Ties", "book", "LForeBook$Book;", true)
def tyX9 : Nat → FieldType := fun k => match k with
  | 0 => .array .int
  | 1 => .array .int
  | 2 => .array .int
  | 3 => .int
  | _ => .object "ForeBook$Book"
abbrev wsX90 : List Cond := u_ws RX9 TX9 5
theorem nmX9 : ∀ a, a < 5 → ∀ b, b < 5 → a ≠ b → (TX9 a).2.1 ≠ (TX9 b).2.1 := by decide +kernel
theorem tyX9_ok : ∀ k, k < 5 → parseFieldDescriptor (TX9 k).2.2.1 = some (tyX9 k) := by decide +kernel
abbrev cX9_init : ByteArray := prog_11_method_1_code
def yX9_init : MethodName := ⟨RX9, "<init>", "(LForeBook$Book;)V"⟩
abbrev cX9_append : ByteArray := prog_11_method_2_code
def yX9_append : MethodName := ⟨RX9, "append", "(III)I"⟩
abbrev cX9_brokenBits : ByteArray := prog_11_method_3_code
def yX9_brokenBits : MethodName := ⟨RX9, "brokenBits", "(II)I"⟩
abbrev cX9_isBroken : ByteArray := prog_11_method_4_code
def yX9_isBroken : MethodName := ⟨RX9, "isBroken", "(III)Z"⟩
def RX10 : String := "ForeBook"
def TX10 : u_T := fun k => match k with
  | 0 => ("ForeBook", "tape", "LForeBook$Tape;", true)
  | 1 => ("ForeBook", "reader", "LForeBook$RuleReader;", true)
  | 2 => ("ForeBook", "rules", "LForeBook$Rules;", true)
  | 3 => ("ForeBook", "book", "LForeBook$Book;", true)
  | 4 => ("ForeBook", "costs", "LForeBook$Costs;", true)
  | 5 => ("ForeBook", "crowd", "LForeBook$Crowd;", true)
  | 6 => ("ForeBook", "ties", "LForeBook$Ties;", true)
  | _ => ("ForeBook", "mender", "LForeBook$Mender;", true)
def tyX10 : Nat → FieldType := fun k => match k with
  | 0 => .object "ForeBook$Tape"
  | 1 => .object "ForeBook$RuleReader"
  | 2 => .object "ForeBook$Rules"
  | 3 => .object "ForeBook$Book"
  | 4 => .object "ForeBook$Costs"
  | 5 => .object "ForeBook$Crowd"
  | 6 => .object "ForeBook$Ties"
  | _ => .object "ForeBook$Mender"
abbrev wsX100 : List Cond := u_ws RX10 TX10 8
theorem nmX10 : ∀ a, a < 8 → ∀ b, b < 8 → a ≠ b → (TX10 a).2.1 ≠ (TX10 b).2.1 := by decide +kernel
theorem tyX10_ok : ∀ k, k < 8 → parseFieldDescriptor (TX10 k).2.2.1 = some (tyX10 k) := by decide +kernel
abbrev cX10_init : ByteArray := prog_1_method_1_code
def yX10_init : MethodName := ⟨RX10, "<init>", "()V"⟩
abbrev cX10_feed : ByteArray := prog_1_method_2_code
def yX10_feed : MethodName := ⟨RX10, "feed", "(IIIII)I"⟩
abbrev cX10_end : ByteArray := prog_1_method_3_code
def yX10_end : MethodName := ⟨RX10, "end", "(I)I"⟩
abbrev cX10_rules : ByteArray := prog_1_method_4_code
def yX10_rules : MethodName := ⟨RX10, "rules", "()I"⟩
abbrev cX10_fault : ByteArray := prog_1_method_5_code
def yX10_fault : MethodName := ⟨RX10, "fault", "(I)I"⟩
abbrev cX10_rule : ByteArray := prog_1_method_6_code
def yX10_rule : MethodName := ⟨RX10, "rule", "(I)I"⟩
abbrev cX10_question : ByteArray := prog_1_method_7_code
def yX10_question : MethodName := ⟨RX10, "question", "(II)I"⟩
abbrev cX10_tell : ByteArray := prog_1_method_8_code
def yX10_tell : MethodName := ⟨RX10, "tell", "(III)I"⟩
abbrev cX10_guess : ByteArray := prog_1_method_9_code
def yX10_guess : MethodName := ⟨RX10, "guess", "(IIII)I"⟩
abbrev cX10_holds : ByteArray := prog_1_method_10_code
def yX10_holds : MethodName := ⟨RX10, "holds", "(III)I"⟩
abbrev cX10_rows : ByteArray := prog_1_method_11_code
def yX10_rows : MethodName := ⟨RX10, "rows", "(III)I"⟩
abbrev cX10_mean : ByteArray := prog_1_method_12_code
def yX10_mean : MethodName := ⟨RX10, "mean", "(II)I"⟩
abbrev cX10_ranked : ByteArray := prog_1_method_13_code
def yX10_ranked : MethodName := ⟨RX10, "ranked", "(I)I"⟩
abbrev cX10_pays : ByteArray := prog_1_method_14_code
def yX10_pays : MethodName := ⟨RX10, "pays", "(I)I"⟩
abbrev cX10_honest : ByteArray := prog_1_method_15_code
def yX10_honest : MethodName := ⟨RX10, "honest", "()I"⟩
abbrev cX10_copies : ByteArray := prog_1_method_16_code
def yX10_copies : MethodName := ⟨RX10, "copies", "(II)I"⟩
abbrev cX10_weight : ByteArray := prog_1_method_17_code
def yX10_weight : MethodName := ⟨RX10, "weight", "(II)I"⟩
abbrev cX10_joined : ByteArray := prog_1_method_18_code
def yX10_joined : MethodName := ⟨RX10, "joined", "(II)I"⟩
abbrev cX10_together : ByteArray := prog_1_method_19_code
def yX10_together : MethodName := ⟨RX10, "together", "(II)I"⟩
abbrev cX10_luck : ByteArray := prog_1_method_20_code
def yX10_luck : MethodName := ⟨RX10, "luck", "(II)J"⟩
abbrev cX10_tie : ByteArray := prog_1_method_21_code
def yX10_tie : MethodName := ⟨RX10, "tie", "(III)I"⟩
abbrev cX10_pumps : ByteArray := prog_1_method_22_code
def yX10_pumps : MethodName := ⟨RX10, "pumps", "(II)I"⟩
abbrev cX10_mend : ByteArray := prog_1_method_23_code
def yX10_mend : MethodName := ⟨RX10, "mend", "(III)I"⟩
abbrev cX10_mended : ByteArray := prog_1_method_24_code
def yX10_mended : MethodName := ⟨RX10, "mended", "(I)I"⟩
abbrev cX10_about : ByteArray := prog_1_method_25_code
def yX10_about : MethodName := ⟨RX10, "about", "(II)I"⟩
abbrev cX10_count : ByteArray := prog_1_method_26_code
def yX10_count : MethodName := ⟨RX10, "count", "(I)I"⟩
abbrev cX10_isDay : ByteArray := prog_1_method_27_code
def yX10_isDay : MethodName := ⟨RX10, "isDay", "(I)Z"⟩
abbrev cX10_isGuesser : ByteArray := prog_1_method_28_code
def yX10_isGuesser : MethodName := ⟨RX10, "isGuesser", "(I)Z"⟩
abbrev cX10_isTenth : ByteArray := prog_1_method_29_code
def yX10_isTenth : MethodName := ⟨RX10, "isTenth", "(I)Z"⟩
abbrev cX10_isZeroOrOne : ByteArray := prog_1_method_30_code
def yX10_isZeroOrOne : MethodName := ⟨RX10, "isZeroOrOne", "(I)Z"⟩
abbrev cX10_cell : ByteArray := prog_1_method_31_code
def yX10_cell : MethodName := ⟨RX10, "cell", "(II)I"⟩
abbrev cX10_pair : ByteArray := prog_1_method_32_code
def yX10_pair : MethodName := ⟨RX10, "pair", "(II)I"⟩
def RX11 : String := "ForeBookModel$Stop"
def TX11 : u_T := fun k => match k with
  | 0 => ("java/lang/Throwable", "cause", "Ljava/lang/Throwable;", false)
  | 1 => ("java/lang/Throwable", "stackTrace", "[Ljava/lang/StackTraceElement;", false)
  | 2 => ("java/lang/Throwable", "suppressedExceptions", "Ljava/util/List;", false)
  | 3 => ("java/lang/Throwable", "detailMessage", "Ljava/lang/String;", false)
  | 4 => ("java/lang/Throwable", "backtrace", "Ljava/lang/Object;", false)
  | _ => ("java/lang/Throwable", "depth", "I", false)
def tyX11 : Nat → FieldType := fun k => match k with
  | 0 => .object "java/lang/Throwable"
  | 1 => .array (.object "java/lang/StackTraceElement")
  | 2 => .object "java/util/List"
  | 3 => .object "java/lang/String"
  | 4 => .object "java/lang/Object"
  | _ => .int
abbrev wsX110 : List Cond := u_ws RX11 TX11 6
theorem nmX11 : ∀ a, a < 6 → ∀ b, b < 6 → a ≠ b → (TX11 a).2.1 ≠ (TX11 b).2.1 := by decide +kernel
theorem tyX11_ok : ∀ k, k < 6 → parseFieldDescriptor (TX11 k).2.2.1 = some (tyX11 k) := by decide +kernel
abbrev cX11_init : ByteArray := prog_14_method_1_code
def yX11_init : MethodName := ⟨RX11, "<init>", "()V"⟩
def RX12 : String := "ForeBookModel"
def TX12 : u_T := fun k => match k with
  | 0 => ("ForeBookModel", "half", "I", false)
  | 1 => ("ForeBookModel", "past", "I", false)
  | 2 => ("ForeBookModel", "copyDays", "I", false)
  | 3 => ("ForeBookModel", "copyMany", "I", false)
  | 4 => ("ForeBookModel", "least", "I", false)
  | 5 => ("ForeBookModel", "readHalf", "I", false)
  | 6 => ("ForeBookModel", "readPast", "I", false)
  | 7 => ("ForeBookModel", "readDays", "I", false)
  | 8 => ("ForeBookModel", "readMany", "I", false)
  | 9 => ("ForeBookModel", "readLeast", "I", false)
  | 10 => ("ForeBookModel", "costYes", "[I", true)
  | 11 => ("ForeBookModel", "costNo", "[I", true)
  | 12 => ("ForeBookModel", "readYes", "[I", true)
  | 13 => ("ForeBookModel", "readNo", "[I", true)
  | 14 => ("ForeBookModel", "stop", "LForeBookModel$Stop;", true)
  | 15 => ("ForeBookModel", "tape", "[B", true)
  | 16 => ("ForeBookModel", "taped", "I", false)
  | 17 => ("ForeBookModel", "size", "I", false)
  | 18 => ("ForeBookModel", "from", "I", false)
  | 19 => ("ForeBookModel", "behind", "I", false)
  | 20 => ("ForeBookModel", "hand", "I", false)
  | 21 => ("ForeBookModel", "value", "I", false)
  | 22 => ("ForeBookModel", "fault", "I", false)
  | 23 => ("ForeBookModel", "faultAt", "I", false)
  | 24 => ("ForeBookModel", "told", "[Z", true)
  | 25 => ("ForeBookModel", "questions", "I", false)
  | 26 => ("ForeBookModel", "guesses", "I", false)
  | 27 => ("ForeBookModel", "ties", "I", false)
  | 28 => ("ForeBookModel", "opens", "[I", true)
  | 29 => ("ForeBookModel", "closes", "[I", true)
  | 30 => ("ForeBookModel", "how", "[I", true)
  | 31 => ("ForeBookModel", "known", "[I", true)
  | 32 => ("ForeBookModel", "who", "[I", true)
  | 33 => ("ForeBookModel", "of", "[I", true)
  | 34 => ("ForeBookModel", "day", "[I", true)
  | 35 => ("ForeBookModel", "tenth", "[I", true)
  | 36 => ("ForeBookModel", "tieOne", "[I", true)
  | 37 => ("ForeBookModel", "tieOther", "[I", true)
  | 38 => ("ForeBookModel", "tieKind", "[I", true)
  | 39 => ("ForeBookModel", "held", "[I", true)
  | 40 => ("ForeBookModel", "rowMany", "[I", true)
  | 41 => ("ForeBookModel", "rowSum", "[I", true)
  | 42 => ("ForeBookModel", "rowHalf", "[I", true)
  | 43 => ("ForeBookModel", "isIn", "[Z", true)
  | 44 => ("ForeBookModel", "isCopy", "[Z", true)
  | 45 => ("ForeBookModel", "meanAbove", "I", false)
  | 46 => ("ForeBookModel", "meanBelow", "I", false)
  | 47 => ("ForeBookModel", "above", "[I", true)
  | 48 => ("ForeBookModel", "below", "[I", true)
  | 49 => ("ForeBookModel", "weighs", "[I", true)
  | 50 => ("ForeBookModel", "triangle", "[J", true)
  | 51 => ("ForeBookModel", "mended", "[I", true)
  | 52 => ("ForeBookModel", "now", "[I", true)
  | 53 => ("ForeBookModel", "was", "[I", true)
  | 54 => ("ForeBookModel", "best", "[I", true)
  | _ => ("ForeBookModel", "bestSum", "I", false)
def tyX12 : Nat → FieldType := fun k => match k with
  | 0 => .int
  | 1 => .int
  | 2 => .int
  | 3 => .int
  | 4 => .int
  | 5 => .int
  | 6 => .int
  | 7 => .int
  | 8 => .int
  | 9 => .int
  | 10 => .array .int
  | 11 => .array .int
  | 12 => .array .int
  | 13 => .array .int
  | 14 => .object "ForeBookModel$Stop"
  | 15 => .array .byte
  | 16 => .int
  | 17 => .int
  | 18 => .int
  | 19 => .int
  | 20 => .int
  | 21 => .int
  | 22 => .int
  | 23 => .int
  | 24 => .array .boolean
  | 25 => .int
  | 26 => .int
  | 27 => .int
  | 28 => .array .int
  | 29 => .array .int
  | 30 => .array .int
  | 31 => .array .int
  | 32 => .array .int
  | 33 => .array .int
  | 34 => .array .int
  | 35 => .array .int
  | 36 => .array .int
  | 37 => .array .int
  | 38 => .array .int
  | 39 => .array .int
  | 40 => .array .int
  | 41 => .array .int
  | 42 => .array .int
  | 43 => .array .boolean
  | 44 => .array .boolean
  | 45 => .int
  | 46 => .int
  | 47 => .array .int
  | 48 => .array .int
  | 49 => .array .int
  | 50 => .array .long
  | 51 => .array .int
  | 52 => .array .int
  | 53 => .array .int
  | 54 => .array .int
  | _ => .int
abbrev wsX120 : List Cond := u_ws RX12 TX12 56
theorem nmX12 : ∀ a, a < 56 → ∀ b, b < 56 → a ≠ b → (TX12 a).2.1 ≠ (TX12 b).2.1 := by decide +kernel
theorem tyX12_ok : ∀ k, k < 56 → parseFieldDescriptor (TX12 k).2.2.1 = some (tyX12 k) := by decide +kernel
abbrev cX12_in : ByteArray := prog_13_method_1_code
def yX12_in : MethodName := ⟨RX12, "in", "(JJJ)Z"⟩
abbrev cX12_isDay : ByteArray := prog_13_method_2_code
def yX12_isDay : MethodName := ⟨RX12, "isDay", "(I)Z"⟩
abbrev cX12_wrong : ByteArray := prog_13_method_3_code
def yX12_wrong : MethodName := ⟨RX12, "wrong", "(I)LForeBookModel$Stop;"⟩
abbrev cX12_byteAt : ByteArray := prog_13_method_4_code
def yX12_byteAt : MethodName := ⟨RX12, "byteAt", "(I)I"⟩
abbrev cX12_isLetter : ByteArray := prog_13_method_5_code
def yX12_isLetter : MethodName := ⟨RX12, "isLetter", "(I)Z"⟩
abbrev cX12_isDigit : ByteArray := prog_13_method_6_code
def yX12_isDigit : MethodName := ⟨RX12, "isDigit", "(I)Z"⟩
abbrev cX12_scan : ByteArray := prog_13_method_7_code
def yX12_scan : MethodName := ⟨RX12, "scan", "()V"⟩
abbrev cX12_is : ByteArray := prog_13_method_8_code
def yX12_is : MethodName := ⟨RX12, "is", "(Ljava/lang/String;)Z"⟩
abbrev cX12_number : ByteArray := prog_13_method_9_code
def yX12_number : MethodName := ⟨RX12, "number", "(II)I"⟩
abbrev cX12_either : ByteArray := prog_13_method_10_code
def yX12_either : MethodName := ⟨RX12, "either", "(Ljava/lang/String;Ljava/lang/String;)I"⟩
abbrev cX12_key : ByteArray := prog_13_method_11_code
def yX12_key : MethodName := ⟨RX12, "key", "()I"⟩
abbrev cX12_readRules : ByteArray := prog_13_method_12_code
def yX12_readRules : MethodName := ⟨RX12, "readRules", "()I"⟩
abbrev cX12_readLine : ByteArray := prog_13_method_13_code
def yX12_readLine : MethodName := ⟨RX12, "readLine", "(I)V"⟩
abbrev cX12_init : ByteArray := prog_13_method_14_code
def yX12_init : MethodName := ⟨RX12, "<init>", "()V"⟩
abbrev cX12_feed : ByteArray := prog_13_method_15_code
def yX12_feed : MethodName := ⟨RX12, "feed", "(IIIII)I"⟩
abbrev cX12_lay : ByteArray := prog_13_method_16_code
def yX12_lay : MethodName := ⟨RX12, "lay", "(I)V"⟩
abbrev cX12_end : ByteArray := prog_13_method_17_code
def yX12_end : MethodName := ⟨RX12, "end", "(I)I"⟩
abbrev cX12_rules : ByteArray := prog_13_method_18_code
def yX12_rules : MethodName := ⟨RX12, "rules", "()I"⟩
abbrev cX12_fault : ByteArray := prog_13_method_19_code
def yX12_fault : MethodName := ⟨RX12, "fault", "(I)I"⟩
abbrev cX12_rule : ByteArray := prog_13_method_20_code
def yX12_rule : MethodName := ⟨RX12, "rule", "(I)I"⟩
abbrev cX12_isQuestion : ByteArray := prog_13_method_21_code
def yX12_isQuestion : MethodName := ⟨RX12, "isQuestion", "(I)Z"⟩
abbrev cX12_isGuesser : ByteArray := prog_13_method_22_code
def yX12_isGuesser : MethodName := ⟨RX12, "isGuesser", "(I)Z"⟩
abbrev cX12_question : ByteArray := prog_13_method_23_code
def yX12_question : MethodName := ⟨RX12, "question", "(II)I"⟩
abbrev cX12_tell : ByteArray := prog_13_method_24_code
def yX12_tell : MethodName := ⟨RX12, "tell", "(III)I"⟩
abbrev cX12_guess : ByteArray := prog_13_method_25_code
def yX12_guess : MethodName := ⟨RX12, "guess", "(IIII)I"⟩
abbrev cX12_heldOn : ByteArray := prog_13_method_26_code
def yX12_heldOn : MethodName := ⟨RX12, "heldOn", "(III)I"⟩
abbrev cX12_holds : ByteArray := prog_13_method_27_code
def yX12_holds : MethodName := ⟨RX12, "holds", "(III)I"⟩
abbrev cX12_about : ByteArray := prog_13_method_28_code
def yX12_about : MethodName := ⟨RX12, "about", "(II)I"⟩
abbrev cX12_pair : ByteArray := prog_13_method_29_code
def yX12_pair : MethodName := ⟨RX12, "pair", "(II)I"⟩
abbrev cX12_heldAt : ByteArray := prog_13_method_30_code
def yX12_heldAt : MethodName := ⟨RX12, "heldAt", "(III)I"⟩
abbrev cX12_cost : ByteArray := prog_13_method_31_code
def yX12_cost : MethodName := ⟨RX12, "cost", "(II)I"⟩
abbrev cX12_isKnown : ByteArray := prog_13_method_32_code
def yX12_isKnown : MethodName := ⟨RX12, "isKnown", "(I)Z"⟩
abbrev cX12_rowOn : ByteArray := prog_13_method_33_code
def yX12_rowOn : MethodName := ⟨RX12, "rowOn", "(III)I"⟩
abbrev cX12_lastDay : ByteArray := prog_13_method_34_code
def yX12_lastDay : MethodName := ⟨RX12, "lastDay", "(I)I"⟩
abbrev cX12_prepare : ByteArray := prog_13_method_35_code
def yX12_prepare : MethodName := ⟨RX12, "prepare", "()V"⟩
abbrev cX12_sumRows : ByteArray := prog_13_method_36_code
def yX12_sumRows : MethodName := ⟨RX12, "sumRows", "(II)V"⟩
abbrev cX12_counts : ByteArray := prog_13_method_37_code
def yX12_counts : MethodName := ⟨RX12, "counts", "(II)Z"⟩
abbrev cX12_findCopies : ByteArray := prog_13_method_38_code
def yX12_findCopies : MethodName := ⟨RX12, "findCopies", "()V"⟩
abbrev cX12_copiesOf : ByteArray := prog_13_method_39_code
def yX12_copiesOf : MethodName := ⟨RX12, "copiesOf", "(III)I"⟩
abbrev cX12_rows : ByteArray := prog_13_method_40_code
def yX12_rows : MethodName := ⟨RX12, "rows", "(III)I"⟩
abbrev cX12_findMean : ByteArray := prog_13_method_41_code
def yX12_findMean : MethodName := ⟨RX12, "findMean", "(I)V"⟩
abbrev cX12_common : ByteArray := prog_13_method_42_code
def yX12_common : MethodName := ⟨RX12, "common", "(II)I"⟩
abbrev cX12_mean : ByteArray := prog_13_method_43_code
def yX12_mean : MethodName := ⟨RX12, "mean", "(II)I"⟩
abbrev cX12_findMeans : ByteArray := prog_13_method_44_code
def yX12_findMeans : MethodName := ⟨RX12, "findMeans", "()V"⟩
abbrev cX12_ranked : ByteArray := prog_13_method_45_code
def yX12_ranked : MethodName := ⟨RX12, "ranked", "(I)I"⟩
abbrev cX12_expects : ByteArray := prog_13_method_46_code
def yX12_expects : MethodName := ⟨RX12, "expects", "(II)I"⟩
abbrev cX12_paysFor : ByteArray := prog_13_method_47_code
def yX12_paysFor : MethodName := ⟨RX12, "paysFor", "(I)I"⟩
abbrev cX12_pays : ByteArray := prog_13_method_48_code
def yX12_pays : MethodName := ⟨RX12, "pays", "(I)I"⟩
abbrev cX12_honest : ByteArray := prog_13_method_49_code
def yX12_honest : MethodName := ⟨RX12, "honest", "()I"⟩
abbrev cX12_copies : ByteArray := prog_13_method_50_code
def yX12_copies : MethodName := ⟨RX12, "copies", "(II)I"⟩
abbrev cX12_weightOn : ByteArray := prog_13_method_51_code
def yX12_weightOn : MethodName := ⟨RX12, "weightOn", "(II)I"⟩
abbrev cX12_weight : ByteArray := prog_13_method_52_code
def yX12_weight : MethodName := ⟨RX12, "weight", "(II)I"⟩
abbrev cX12_isCopier : ByteArray := prog_13_method_53_code
def yX12_isCopier : MethodName := ⟨RX12, "isCopier", "(III)Z"⟩
abbrev cX12_joinedOn : ByteArray := prog_13_method_54_code
def yX12_joinedOn : MethodName := ⟨RX12, "joinedOn", "(II)I"⟩
abbrev cX12_ready : ByteArray := prog_13_method_55_code
def yX12_ready : MethodName := ⟨RX12, "ready", "()V"⟩
abbrev cX12_joined : ByteArray := prog_13_method_56_code
def yX12_joined : MethodName := ⟨RX12, "joined", "(II)I"⟩
abbrev cX12_together : ByteArray := prog_13_method_57_code
def yX12_together : MethodName := ⟨RX12, "together", "(II)I"⟩
abbrev cX12_atLeast : ByteArray := prog_13_method_58_code
def yX12_atLeast : MethodName := ⟨RX12, "atLeast", "(II)J"⟩
abbrev cX12_luck : ByteArray := prog_13_method_59_code
def yX12_luck : MethodName := ⟨RX12, "luck", "(II)J"⟩
abbrev cX12_tie : ByteArray := prog_13_method_60_code
def yX12_tie : MethodName := ⟨RX12, "tie", "(III)I"⟩
abbrev cX12_isBroken : ByteArray := prog_13_method_61_code
def yX12_isBroken : MethodName := ⟨RX12, "isBroken", "(III)Z"⟩
abbrev cX12_pumps : ByteArray := prog_13_method_62_code
def yX12_pumps : MethodName := ⟨RX12, "pumps", "(II)I"⟩
abbrev cX12_mendFrom : ByteArray := prog_13_method_63_code
def yX12_mendFrom : MethodName := ⟨RX12, "mendFrom", "(III)V"⟩
abbrev cX12_mayBe : ByteArray := prog_13_method_64_code
def yX12_mayBe : MethodName := ⟨RX12, "mayBe", "(II)Z"⟩
abbrev cX12_mend : ByteArray := prog_13_method_65_code
def yX12_mend : MethodName := ⟨RX12, "mend", "(III)I"⟩
abbrev cX12_mended : ByteArray := prog_13_method_66_code
def yX12_mended : MethodName := ⟨RX12, "mended", "(I)I"⟩
abbrev cX12_count : ByteArray := prog_13_method_67_code
def yX12_count : MethodName := ⟨RX12, "count", "(I)I"⟩
def RJx145de : String := "java/io/Serializable"
def TJx145de : u_T := fun k => match k with
  | _ => ("", "", "", false)
def tyJx145de : Nat → FieldType := fun k => match k with
  | _ => .int
abbrev wsJx145de0 : List Cond := u_ws RJx145de TJx145de 0
theorem nmJx145de : ∀ a, a < 0 → ∀ b, b < 0 → a ≠ b → (TJx145de a).2.1 ≠ (TJx145de b).2.1 := by decide +kernel
theorem tyJx145de_ok : ∀ k, k < 0 → parseFieldDescriptor (TJx145de k).2.2.1 = some (tyJx145de k) := by decide +kernel
def RJx9f9b0 : String := "java/lang/CharSequence"
def TJx9f9b0 : u_T := fun k => match k with
  | _ => ("", "", "", false)
def tyJx9f9b0 : Nat → FieldType := fun k => match k with
  | _ => .int
abbrev wsJx9f9b00 : List Cond := u_ws RJx9f9b0 TJx9f9b0 0
theorem nmJx9f9b0 : ∀ a, a < 0 → ∀ b, b < 0 → a ≠ b → (TJx9f9b0 a).2.1 ≠ (TJx9f9b0 b).2.1 := by decide +kernel
theorem tyJx9f9b0_ok : ∀ k, k < 0 → parseFieldDescriptor (TJx9f9b0 k).2.2.1 = some (tyJx9f9b0 k) := by decide +kernel
def RJxb160c : String := "java/lang/Comparable"
def TJxb160c : u_T := fun k => match k with
  | _ => ("", "", "", false)
def tyJxb160c : Nat → FieldType := fun k => match k with
  | _ => .int
abbrev wsJxb160c0 : List Cond := u_ws RJxb160c TJxb160c 0
theorem nmJxb160c : ∀ a, a < 0 → ∀ b, b < 0 → a ≠ b → (TJxb160c a).2.1 ≠ (TJxb160c b).2.1 := by decide +kernel
theorem tyJxb160c_ok : ∀ k, k < 0 → parseFieldDescriptor (TJxb160c k).2.2.1 = some (tyJxb160c k) := by decide +kernel
def RJ6 : String := "java/lang/Integer"
def TJ6 : u_T := fun k => match k with
  | _ => ("", "", "", false)
def tyJ6 : Nat → FieldType := fun k => match k with
  | _ => .int
abbrev wsJ60 : List Cond := u_ws RJ6 TJ6 0
theorem nmJ6 : ∀ a, a < 0 → ∀ b, b < 0 → a ≠ b → (TJ6 a).2.1 ≠ (TJ6 b).2.1 := by decide +kernel
theorem tyJ6_ok : ∀ k, k < 0 → parseFieldDescriptor (TJ6 k).2.2.1 = some (tyJ6 k) := by decide +kernel
abbrev cJ6_bitCount_0f7a4 : ByteArray := prog_16_method_49_code
def yJ6_bitCount_0f7a4 : MethodName := ⟨RJ6, "bitCount", "(I)I"⟩
def RJ9 : String := "java/lang/Math"
def TJ9 : u_T := fun k => match k with
  | _ => ("", "", "", false)
def tyJ9 : Nat → FieldType := fun k => match k with
  | _ => .int
abbrev wsJ90 : List Cond := u_ws RJ9 TJ9 0
theorem nmJ9 : ∀ a, a < 0 → ∀ b, b < 0 → a ≠ b → (TJ9 a).2.1 ≠ (TJ9 b).2.1 := by decide +kernel
theorem tyJ9_ok : ∀ k, k < 0 → parseFieldDescriptor (TJ9 k).2.2.1 = some (tyJ9 k) := by decide +kernel
abbrev cJ9_abs_0f7a4 : ByteArray := prog_17_method_59_code
def yJ9_abs_0f7a4 : MethodName := ⟨RJ9, "abs", "(I)I"⟩
abbrev cJ9_max_7cf53 : ByteArray := prog_17_method_65_code
def yJ9_max_7cf53 : MethodName := ⟨RJ9, "max", "(II)I"⟩
abbrev cJ9_min_7cf53 : ByteArray := prog_17_method_69_code
def yJ9_min_7cf53 : MethodName := ⟨RJ9, "min", "(II)I"⟩
def RJ0 : String := "java/lang/String"
def TJ0 : u_T := fun k => match k with
  | _ => ("", "", "", false)
def tyJ0 : Nat → FieldType := fun k => match k with
  | _ => .int
abbrev wsJ00 : List Cond := u_ws RJ0 TJ0 0
theorem nmJ0 : ∀ a, a < 0 → ∀ b, b < 0 → a ≠ b → (TJ0 a).2.1 ≠ (TJ0 b).2.1 := by decide +kernel
theorem tyJ0_ok : ∀ k, k < 0 → parseFieldDescriptor (TJ0 k).2.2.1 = some (tyJ0 k) := by decide +kernel
abbrev cJ0_length_8abf5 : ByteArray := prog_18_method_54_code
def yJ0_length_8abf5 : MethodName := ⟨RJ0, "length", "()I"⟩
abbrev cJ0_charAt_5068e : ByteArray := prog_18_method_56_code
def yJ0_charAt_5068e : MethodName := ⟨RJ0, "charAt", "(I)C"⟩
abbrev cJ0_coder_7d493 : ByteArray := prog_18_method_152_code
def yJ0_coder_7d493 : MethodName := ⟨RJ0, "coder", "()B"⟩
abbrev cJ0_isLatin1_aae02 : ByteArray := prog_18_method_154_code
def yJ0_isLatin1_aae02 : MethodName := ⟨RJ0, "isLatin1", "()Z"⟩
abbrev cJ0_checkIndex_df160 : ByteArray := prog_18_method_155_code
def yJ0_checkIndex_df160 : MethodName := ⟨RJ0, "checkIndex", "(II)V"⟩
def RJ1 : String := "java/lang/StringLatin1"
def TJ1 : u_T := fun k => match k with
  | _ => ("", "", "", false)
def tyJ1 : Nat → FieldType := fun k => match k with
  | _ => .int
abbrev wsJ10 : List Cond := u_ws RJ1 TJ1 0
theorem nmJ1 : ∀ a, a < 0 → ∀ b, b < 0 → a ≠ b → (TJ1 a).2.1 ≠ (TJ1 b).2.1 := by decide +kernel
theorem tyJ1_ok : ∀ k, k < 0 → parseFieldDescriptor (TJ1 k).2.2.1 = some (tyJ1 k) := by decide +kernel
abbrev cJ1_charAt_3b067 : ByteArray := prog_19_method_2_code
def yJ1_charAt_3b067 : MethodName := ⟨RJ1, "charAt", "([BI)C"⟩
def RJ2 : String := "java/lang/StringUTF16"
def TJ2 : u_T := fun k => match k with
  | _ => ("", "", "", false)
def tyJ2 : Nat → FieldType := fun k => match k with
  | _ => .int
abbrev wsJ20 : List Cond := u_ws RJ2 TJ2 0
theorem nmJ2 : ∀ a, a < 0 → ∀ b, b < 0 → a ≠ b → (TJ2 a).2.1 ≠ (TJ2 b).2.1 := by decide +kernel
theorem tyJ2_ok : ∀ k, k < 0 → parseFieldDescriptor (TJ2 k).2.2.1 = some (tyJ2 k) := by decide +kernel
abbrev cJ2_getChar_3b067 : ByteArray := prog_20_method_5_code
def yJ2_getChar_3b067 : MethodName := ⟨RJ2, "getChar", "([BI)C"⟩
abbrev cJ2_length_9d52b : ByteArray := prog_20_method_6_code
def yJ2_length_9d52b : MethodName := ⟨RJ2, "length", "([B)I"⟩
abbrev cJ2_charAt_3b067 : ByteArray := prog_20_method_83_code
def yJ2_charAt_3b067 : MethodName := ⟨RJ2, "charAt", "([BI)C"⟩
abbrev cJ2_checkIndex_2214a : ByteArray := prog_20_method_91_code
def yJ2_checkIndex_2214a : MethodName := ⟨RJ2, "checkIndex", "(I[B)V"⟩
def RJ10 : String := "java/lang/System"
def TJ10 : u_T := fun k => match k with
  | _ => ("", "", "", false)
def tyJ10 : Nat → FieldType := fun k => match k with
  | _ => .int
abbrev wsJ100 : List Cond := u_ws RJ10 TJ10 0
theorem nmJ10 : ∀ a, a < 0 → ∀ b, b < 0 → a ≠ b → (TJ10 a).2.1 ≠ (TJ10 b).2.1 := by decide +kernel
theorem tyJ10_ok : ∀ k, k < 0 → parseFieldDescriptor (TJ10 k).2.2.1 = some (tyJ10 k) := by decide +kernel
def RJxfd54e : String := "java/lang/constant/Constable"
def TJxfd54e : u_T := fun k => match k with
  | _ => ("", "", "", false)
def tyJxfd54e : Nat → FieldType := fun k => match k with
  | _ => .int
abbrev wsJxfd54e0 : List Cond := u_ws RJxfd54e TJxfd54e 0
theorem nmJxfd54e : ∀ a, a < 0 → ∀ b, b < 0 → a ≠ b → (TJxfd54e a).2.1 ≠ (TJxfd54e b).2.1 := by decide +kernel
theorem tyJxfd54e_ok : ∀ k, k < 0 → parseFieldDescriptor (TJxfd54e k).2.2.1 = some (tyJxfd54e k) := by decide +kernel
def RJx3cf43 : String := "java/lang/constant/ConstantDesc"
def TJx3cf43 : u_T := fun k => match k with
  | _ => ("", "", "", false)
def tyJx3cf43 : Nat → FieldType := fun k => match k with
  | _ => .int
abbrev wsJx3cf430 : List Cond := u_ws RJx3cf43 TJx3cf43 0
theorem nmJx3cf43 : ∀ a, a < 0 → ∀ b, b < 0 → a ≠ b → (TJx3cf43 a).2.1 ≠ (TJx3cf43 b).2.1 := by decide +kernel
theorem tyJx3cf43_ok : ∀ k, k < 0 → parseFieldDescriptor (TJx3cf43 k).2.2.1 = some (tyJx3cf43 k) := by decide +kernel
def RJ7 : String := "java/util/Arrays"
def TJ7 : u_T := fun k => match k with
  | _ => ("", "", "", false)
def tyJ7 : Nat → FieldType := fun k => match k with
  | _ => .int
abbrev wsJ70 : List Cond := u_ws RJ7 TJ7 0
theorem nmJ7 : ∀ a, a < 0 → ∀ b, b < 0 → a ≠ b → (TJ7 a).2.1 ≠ (TJ7 b).2.1 := by decide +kernel
theorem tyJ7_ok : ∀ k, k < 0 → parseFieldDescriptor (TJ7 k).2.2.1 = some (tyJ7 k) := by decide +kernel
abbrev cJ7_fill_53178 : ByteArray := prog_23_method_103_code
def yJ7_fill_53178 : MethodName := ⟨RJ7, "fill", "([II)V"⟩
def RJ3 : String := "jdk/internal/util/Preconditions"
def TJ3 : u_T := fun k => match k with
  | _ => ("", "", "", false)
def tyJ3 : Nat → FieldType := fun k => match k with
  | _ => .int
abbrev wsJ30 : List Cond := u_ws RJ3 TJ3 0
theorem nmJ3 : ∀ a, a < 0 → ∀ b, b < 0 → a ≠ b → (TJ3 a).2.1 ≠ (TJ3 b).2.1 := by decide +kernel
theorem tyJ3_ok : ∀ k, k < 0 → parseFieldDescriptor (TJ3 k).2.2.1 = some (tyJ3 k) := by decide +kernel
abbrev cJ3_checkIndex_8e157 : ByteArray := prog_24_method_11_code
def yJ3_checkIndex_8e157 : MethodName := ⟨RJ3, "checkIndex", "(IILjava/util/function/BiFunction;)I"⟩
def RL : String := "ForeBookLaw"
abbrev cL_law : ByteArray := code
def yL_law : MethodName := ⟨RL, "law", "([I)Z"⟩
