section
/-! ===== BEGIN words of one list among another's, by their places ===== -/
theorem goodIn_r {big : List Cond} (ws : List Cond) (ps : List Nat) (hp : ws = ps.filterMap (fun i => big[i]?)) (h : ws.all goodWord = true) : GoodIn big ws := by
  intro w hw
  have h1 := List.all_eq_true.mp h w hw
  rw [hp] at hw
  obtain ⟨i, -, hi⟩ := List.mem_filterMap.mp hw
  have hm : w ∈ big := by first | exact List.mem_of_getElem? hi | exact List.getElem?_mem hi
  exact ⟨hm, good_of_word h1⟩
theorem goodIn_app {big a b : List Cond} (ha : GoodIn big a) (hb : GoodIn big b) : GoodIn big (a ++ b) := fun w h => (List.mem_append.mp h).elim (ha w) (hb w)
theorem goodIn_ca {big a b : List Cond} {c : Cond} (ha : GoodIn big (c :: a)) (hb : GoodIn big b) : GoodIn big (c :: (a ++ b)) := fun w h => (List.mem_cons.mp h).elim (fun e => ha w (List.mem_cons.mpr (Or.inl e))) (fun h => (List.mem_append.mp h).elim (fun h => ha w (List.mem_cons.mpr (Or.inr h))) (hb w))
theorem goodIn_sub {big ws : List Cond} (hm : ∀ w ∈ ws, w ∈ big) (h : ws.all goodWord = true) : GoodIn big ws := fun w hw => ⟨hm w hw, good_of_word (List.all_eq_true.mp h w hw)⟩
/-! ===== END ===== -/

/-! ===== BEGIN printed: names, fields, word lists, decode rows ===== -/
def RX0 : String := "WordAnchors$Anchor"
def TX0 : u_T := fun k => match k with
  | 0 => ("WordAnchors$Anchor", "things", "[I", true)
  | 1 => ("WordAnchors$Anchor", "place", "I", false)
  | _ => ("WordAnchors$Anchor", "truePlace", "I", false)
def tyX0 : Nat → FieldType := fun k => match k with
  | 0 => .array .int
  | 1 => .int
  | _ => .int
abbrev wsX00 : List Cond := u_ws RX0 TX0 3
theorem nmX0 : ∀ a, a < 3 → ∀ b, b < 3 → a ≠ b → (TX0 a).2.1 ≠ (TX0 b).2.1 := by decide +kernel
theorem tyX0_ok : ∀ k, k < 3 → parseFieldDescriptor (TX0 k).2.2.1 = some (tyX0 k) := by decide +kernel
abbrev cX0_init : ByteArray := prog_2_method_1_code
def yX0_init : MethodName := ⟨RX0, "<init>", "()V"⟩
abbrev cX0_place : ByteArray := prog_2_method_2_code
def yX0_place : MethodName := ⟨RX0, "place", "()I"⟩
abbrev cX0_truePlace : ByteArray := prog_2_method_3_code
def yX0_truePlace : MethodName := ⟨RX0, "truePlace", "()I"⟩
abbrev cX0_thing : ByteArray := prog_2_method_4_code
def yX0_thing : MethodName := ⟨RX0, "thing", "(I)I"⟩
abbrev cX0_goTo : ByteArray := prog_2_method_5_code
def yX0_goTo : MethodName := ⟨RX0, "goTo", "(I)V"⟩
abbrev cX0_setAt : ByteArray := prog_2_method_6_code
def yX0_setAt : MethodName := ⟨RX0, "setAt", "(LWordAnchors$Row;I)V"⟩
abbrev cX0_look : ByteArray := prog_2_method_7_code
def yX0_look : MethodName := ⟨RX0, "look", "(LWordAnchors$Row;)I"⟩
abbrev cX0_followWord : ByteArray := prog_2_method_8_code
def yX0_followWord : MethodName := ⟨RX0, "followWord", "(LWordAnchors$Row;)V"⟩
abbrev cX0_copyFrom : ByteArray := prog_2_method_9_code
def yX0_copyFrom : MethodName := ⟨RX0, "copyFrom", "(LWordAnchors$Anchor;)V"⟩
def RX1 : String := "WordAnchors$Blocks"
def TX1 : u_T := fun k => match k with
  | 0 => ("WordAnchors$Blocks", "shifts", "[I", true)
  | 1 => ("WordAnchors$Blocks", "members", "[I", true)
  | _ => ("WordAnchors$Blocks", "size", "I", false)
def tyX1 : Nat → FieldType := fun k => match k with
  | 0 => .array .int
  | 1 => .array .int
  | _ => .int
abbrev wsX10 : List Cond := u_ws RX1 TX1 3
theorem nmX1 : ∀ a, a < 3 → ∀ b, b < 3 → a ≠ b → (TX1 a).2.1 ≠ (TX1 b).2.1 := by decide +kernel
theorem tyX1_ok : ∀ k, k < 3 → parseFieldDescriptor (TX1 k).2.2.1 = some (tyX1 k) := by decide +kernel
abbrev cX1_init : ByteArray := prog_3_method_1_code
def yX1_init : MethodName := ⟨RX1, "<init>", "()V"⟩
abbrev cX1_membersOf : ByteArray := prog_3_method_2_code
def yX1_membersOf : MethodName := ⟨RX1, "membersOf", "(I)I"⟩
abbrev cX1_shiftOf : ByteArray := prog_3_method_3_code
def yX1_shiftOf : MethodName := ⟨RX1, "shiftOf", "(I)I"⟩
abbrev cX1_gather : ByteArray := prog_3_method_4_code
def yX1_gather : MethodName := ⟨RX1, "gather", "(LWordAnchors$State;)V"⟩
abbrev cX1_enter : ByteArray := prog_3_method_5_code
def yX1_enter : MethodName := ⟨RX1, "enter", "(II)V"⟩
abbrev cX1_inOrder : ByteArray := prog_3_method_6_code
def yX1_inOrder : MethodName := ⟨RX1, "inOrder", "(I)I"⟩
abbrev cX1_blocksAheadOf : ByteArray := prog_3_method_7_code
def yX1_blocksAheadOf : MethodName := ⟨RX1, "blocksAheadOf", "(I)I"⟩
abbrev cX1_isAhead : ByteArray := prog_3_method_8_code
def yX1_isAhead : MethodName := ⟨RX1, "isAhead", "(II)Z"⟩
def RX2 : String := "WordAnchors$EditText"
def TX2 : u_T := fun k => match k with
  | 0 => ("WordAnchors$EditText", "characters", "[C", true)
  | 1 => ("WordAnchors$EditText", "numbers", "[I", true)
  | 2 => ("WordAnchors$EditText", "length", "I", false)
  | 3 => ("WordAnchors$EditText", "start", "I", false)
  | 4 => ("WordAnchors$EditText", "next", "I", false)
  | _ => ("WordAnchors$EditText", "sign", "C", false)
def tyX2 : Nat → FieldType := fun k => match k with
  | 0 => .array .char
  | 1 => .array .int
  | 2 => .int
  | 3 => .int
  | 4 => .int
  | _ => .char
abbrev wsX20 : List Cond := u_ws RX2 TX2 6
theorem nmX2 : ∀ a, a < 6 → ∀ b, b < 6 → a ≠ b → (TX2 a).2.1 ≠ (TX2 b).2.1 := by decide +kernel
theorem tyX2_ok : ∀ k, k < 6 → parseFieldDescriptor (TX2 k).2.2.1 = some (tyX2 k) := by decide +kernel
abbrev cX2_init : ByteArray := prog_4_method_1_code
def yX2_init : MethodName := ⟨RX2, "<init>", "()V"⟩
abbrev cX2_length : ByteArray := prog_4_method_2_code
def yX2_length : MethodName := ⟨RX2, "length", "()I"⟩
abbrev cX2_isFull : ByteArray := prog_4_method_3_code
def yX2_isFull : MethodName := ⟨RX2, "isFull", "()Z"⟩
abbrev cX2_append : ByteArray := prog_4_method_4_code
def yX2_append : MethodName := ⟨RX2, "append", "(C)V"⟩
abbrev cX2_empty : ByteArray := prog_4_method_5_code
def yX2_empty : MethodName := ⟨RX2, "empty", "()V"⟩
abbrev cX2_rewind : ByteArray := prog_4_method_6_code
def yX2_rewind : MethodName := ⟨RX2, "rewind", "()V"⟩
abbrev cX2_hasMore : ByteArray := prog_4_method_7_code
def yX2_hasMore : MethodName := ⟨RX2, "hasMore", "()Z"⟩
abbrev cX2_editStart : ByteArray := prog_4_method_8_code
def yX2_editStart : MethodName := ⟨RX2, "editStart", "()I"⟩
abbrev cX2_sign : ByteArray := prog_4_method_9_code
def yX2_sign : MethodName := ⟨RX2, "sign", "()C"⟩
abbrev cX2_number : ByteArray := prog_4_method_10_code
def yX2_number : MethodName := ⟨RX2, "number", "(I)I"⟩
abbrev cX2_readEdit : ByteArray := prog_4_method_11_code
def yX2_readEdit : MethodName := ⟨RX2, "readEdit", "()Z"⟩
abbrev cX2_numbersBehind : ByteArray := prog_4_method_12_code
def yX2_numbersBehind : MethodName := ⟨RX2, "numbersBehind", "(C)I"⟩
abbrev cX2_nextCharacter : ByteArray := prog_4_method_13_code
def yX2_nextCharacter : MethodName := ⟨RX2, "nextCharacter", "()C"⟩
abbrev cX2_readSign : ByteArray := prog_4_method_14_code
def yX2_readSign : MethodName := ⟨RX2, "readSign", "(C)Z"⟩
abbrev cX2_readNumber : ByteArray := prog_4_method_15_code
def yX2_readNumber : MethodName := ⟨RX2, "readNumber", "(I)Z"⟩
abbrev cX2_isDigit : ByteArray := prog_4_method_16_code
def yX2_isDigit : MethodName := ⟨RX2, "isDigit", "(C)Z"⟩
def RX3 : String := "WordAnchors$History"
def TX3 : u_T := fun k => match k with
  | 0 => ("WordAnchors$History", "states", "[LWordAnchors$State;", true)
  | 1 => ("WordAnchors$History", "oldest", "I", false)
  | _ => ("WordAnchors$History", "size", "I", false)
def tyX3 : Nat → FieldType := fun k => match k with
  | 0 => .array (.object "WordAnchors$State")
  | 1 => .int
  | _ => .int
abbrev wsX30 : List Cond := u_ws RX3 TX3 3
theorem nmX3 : ∀ a, a < 3 → ∀ b, b < 3 → a ≠ b → (TX3 a).2.1 ≠ (TX3 b).2.1 := by decide +kernel
theorem tyX3_ok : ∀ k, k < 3 → parseFieldDescriptor (TX3 k).2.2.1 = some (tyX3 k) := by decide +kernel
abbrev cX3_init : ByteArray := prog_5_method_1_code
def yX3_init : MethodName := ⟨RX3, "<init>", "()V"⟩
abbrev cX3_size : ByteArray := prog_5_method_2_code
def yX3_size : MethodName := ⟨RX3, "size", "()I"⟩
abbrev cX3_fromOldest : ByteArray := prog_5_method_3_code
def yX3_fromOldest : MethodName := ⟨RX3, "fromOldest", "(I)LWordAnchors$State;"⟩
abbrev cX3_record : ByteArray := prog_5_method_4_code
def yX3_record : MethodName := ⟨RX3, "record", "(LWordAnchors$State;)V"⟩
abbrev cX3_latest : ByteArray := prog_5_method_5_code
def yX3_latest : MethodName := ⟨RX3, "latest", "()LWordAnchors$State;"⟩
abbrev cX3_forgetLatest : ByteArray := prog_5_method_6_code
def yX3_forgetLatest : MethodName := ⟨RX3, "forgetLatest", "()V"⟩
def RX4 : String := "WordAnchors$Row"
def TX4 : u_T := fun k => match k with
  | 0 => ("WordAnchors$Row", "words", "[I", true)
  | 1 => ("WordAnchors$Row", "targets", "[I", true)
  | 2 => ("WordAnchors$Row", "relocated", "[I", true)
  | _ => ("WordAnchors$Row", "size", "I", false)
def tyX4 : Nat → FieldType := fun k => match k with
  | 0 => .array .int
  | 1 => .array .int
  | 2 => .array .int
  | _ => .int
abbrev wsX40 : List Cond := u_ws RX4 TX4 4
theorem nmX4 : ∀ a, a < 4 → ∀ b, b < 4 → a ≠ b → (TX4 a).2.1 ≠ (TX4 b).2.1 := by decide +kernel
theorem tyX4_ok : ∀ k, k < 4 → parseFieldDescriptor (TX4 k).2.2.1 = some (tyX4 k) := by decide +kernel
abbrev cX4_init : ByteArray := prog_6_method_1_code
def yX4_init : MethodName := ⟨RX4, "<init>", "()V"⟩
abbrev cX4_size : ByteArray := prog_6_method_2_code
def yX4_size : MethodName := ⟨RX4, "size", "()I"⟩
abbrev cX4_isFull : ByteArray := prog_6_method_3_code
def yX4_isFull : MethodName := ⟨RX4, "isFull", "()Z"⟩
abbrev cX4_holds : ByteArray := prog_6_method_4_code
def yX4_holds : MethodName := ⟨RX4, "holds", "(I)Z"⟩
abbrev cX4_takesAt : ByteArray := prog_6_method_5_code
def yX4_takesAt : MethodName := ⟨RX4, "takesAt", "(I)Z"⟩
abbrev cX4_canShift : ByteArray := prog_6_method_6_code
def yX4_canShift : MethodName := ⟨RX4, "canShift", "(III)Z"⟩
abbrev cX4_at : ByteArray := prog_6_method_7_code
def yX4_at : MethodName := ⟨RX4, "at", "(I)I"⟩
abbrev cX4_insert : ByteArray := prog_6_method_8_code
def yX4_insert : MethodName := ⟨RX4, "insert", "(II)V"⟩
abbrev cX4_remove : ByteArray := prog_6_method_9_code
def yX4_remove : MethodName := ⟨RX4, "remove", "(I)V"⟩
abbrev cX4_replace : ByteArray := prog_6_method_10_code
def yX4_replace : MethodName := ⟨RX4, "replace", "(II)V"⟩
abbrev cX4_shift : ByteArray := prog_6_method_11_code
def yX4_shift : MethodName := ⟨RX4, "shift", "(III)V"⟩
abbrev cX4_placeAfterShift : ByteArray := prog_6_method_12_code
def yX4_placeAfterShift : MethodName := ⟨RX4, "placeAfterShift", "(IIII)I"⟩
abbrev cX4_relocate : ByteArray := prog_6_method_13_code
def yX4_relocate : MethodName := ⟨RX4, "relocate", "(I)V"⟩
abbrev cX4_targetOf : ByteArray := prog_6_method_14_code
def yX4_targetOf : MethodName := ⟨RX4, "targetOf", "(I)I"⟩
abbrev cX4_wordsElsewhere : ByteArray := prog_6_method_15_code
def yX4_wordsElsewhere : MethodName := ⟨RX4, "wordsElsewhere", "()I"⟩
abbrev cX4_unlikeWords : ByteArray := prog_6_method_16_code
def yX4_unlikeWords : MethodName := ⟨RX4, "unlikeWords", "()I"⟩
abbrev cX4_standsAhead : ByteArray := prog_6_method_17_code
def yX4_standsAhead : MethodName := ⟨RX4, "standsAhead", "(I)Z"⟩
abbrev cX4_copyFrom : ByteArray := prog_6_method_18_code
def yX4_copyFrom : MethodName := ⟨RX4, "copyFrom", "(LWordAnchors$Row;)V"⟩
def RX5 : String := "WordAnchors$State"
def TX5 : u_T := fun k => match k with
  | 0 => ("WordAnchors$State", "row", "LWordAnchors$Row;", true)
  | 1 => ("WordAnchors$State", "anchors", "[LWordAnchors$Anchor;", true)
  | 2 => ("WordAnchors$State", "settings", "[I", true)
  | 3 => ("WordAnchors$State", "anchorCount", "I", false)
  | _ => ("WordAnchors$State", "edits", "I", false)
def tyX5 : Nat → FieldType := fun k => match k with
  | 0 => .object "WordAnchors$Row"
  | 1 => .array (.object "WordAnchors$Anchor")
  | 2 => .array .int
  | 3 => .int
  | _ => .int
abbrev wsX50 : List Cond := u_ws RX5 TX5 5
theorem nmX5 : ∀ a, a < 5 → ∀ b, b < 5 → a ≠ b → (TX5 a).2.1 ≠ (TX5 b).2.1 := by decide +kernel
theorem tyX5_ok : ∀ k, k < 5 → parseFieldDescriptor (TX5 k).2.2.1 = some (tyX5 k) := by decide +kernel
abbrev cX5_init : ByteArray := prog_7_method_1_code
def yX5_init : MethodName := ⟨RX5, "<init>", "()V"⟩
abbrev cX5_anchorCount : ByteArray := prog_7_method_2_code
def yX5_anchorCount : MethodName := ⟨RX5, "anchorCount", "()I"⟩
abbrev cX5_edits : ByteArray := prog_7_method_3_code
def yX5_edits : MethodName := ⟨RX5, "edits", "()I"⟩
abbrev cX5_setting : ByteArray := prog_7_method_4_code
def yX5_setting : MethodName := ⟨RX5, "setting", "(I)I"⟩
abbrev cX5_changeSetting : ByteArray := prog_7_method_5_code
def yX5_changeSetting : MethodName := ⟨RX5, "changeSetting", "(II)V"⟩
abbrev cX5_anchorNumbered : ByteArray := prog_7_method_6_code
def yX5_anchorNumbered : MethodName := ⟨RX5, "anchorNumbered", "(I)LWordAnchors$Anchor;"⟩
abbrev cX5_addAnchor : ByteArray := prog_7_method_7_code
def yX5_addAnchor : MethodName := ⟨RX5, "addAnchor", "(I)V"⟩
abbrev cX5_removeAnchor : ByteArray := prog_7_method_8_code
def yX5_removeAnchor : MethodName := ⟨RX5, "removeAnchor", "(I)V"⟩
abbrev cX5_insertWord : ByteArray := prog_7_method_9_code
def yX5_insertWord : MethodName := ⟨RX5, "insertWord", "(II)V"⟩
abbrev cX5_removeWord : ByteArray := prog_7_method_10_code
def yX5_removeWord : MethodName := ⟨RX5, "removeWord", "(I)V"⟩
abbrev cX5_replaceWord : ByteArray := prog_7_method_11_code
def yX5_replaceWord : MethodName := ⟨RX5, "replaceWord", "(II)V"⟩
abbrev cX5_shiftWords : ByteArray := prog_7_method_12_code
def yX5_shiftWords : MethodName := ⟨RX5, "shiftWords", "(III)V"⟩
abbrev cX5_followWords : ByteArray := prog_7_method_13_code
def yX5_followWords : MethodName := ⟨RX5, "followWords", "()V"⟩
abbrev cX5_scoreOf : ByteArray := prog_7_method_14_code
def yX5_scoreOf : MethodName := ⟨RX5, "scoreOf", "(LWordAnchors$Anchor;I)I"⟩
abbrev cX5_bestPlace : ByteArray := prog_7_method_15_code
def yX5_bestPlace : MethodName := ⟨RX5, "bestPlace", "(LWordAnchors$Anchor;)I"⟩
abbrev cX5_nextBestPlace : ByteArray := prog_7_method_16_code
def yX5_nextBestPlace : MethodName := ⟨RX5, "nextBestPlace", "(LWordAnchors$Anchor;)I"⟩
abbrev cX5_bestPlaceBut : ByteArray := prog_7_method_17_code
def yX5_bestPlaceBut : MethodName := ⟨RX5, "bestPlaceBut", "(LWordAnchors$Anchor;I)I"⟩
abbrev cX5_isLost : ByteArray := prog_7_method_18_code
def yX5_isLost : MethodName := ⟨RX5, "isLost", "(LWordAnchors$Anchor;I)Z"⟩
abbrev cX5_standingOf : ByteArray := prog_7_method_19_code
def yX5_standingOf : MethodName := ⟨RX5, "standingOf", "(LWordAnchors$Anchor;)I"⟩
abbrev cX5_shiftOf : ByteArray := prog_7_method_20_code
def yX5_shiftOf : MethodName := ⟨RX5, "shiftOf", "(LWordAnchors$Anchor;)I"⟩
abbrev cX5_isOfKind : ByteArray := prog_7_method_21_code
def yX5_isOfKind : MethodName := ⟨RX5, "isOfKind", "(LWordAnchors$Anchor;I)Z"⟩
abbrev cX5_anchorsOfKind : ByteArray := prog_7_method_22_code
def yX5_anchorsOfKind : MethodName := ⟨RX5, "anchorsOfKind", "(I)I"⟩
abbrev cX5_faultOf : ByteArray := prog_7_method_23_code
def yX5_faultOf : MethodName := ⟨RX5, "faultOf", "(LWordAnchors$EditText;)I"⟩
abbrev cX5_perform : ByteArray := prog_7_method_24_code
def yX5_perform : MethodName := ⟨RX5, "perform", "(LWordAnchors$EditText;)V"⟩
abbrev cX5_copyFrom : ByteArray := prog_7_method_25_code
def yX5_copyFrom : MethodName := ⟨RX5, "copyFrom", "(LWordAnchors$State;)V"⟩
def RX6 : String := "WordAnchors"
def TX6 : u_T := fun k => match k with
  | 0 => ("WordAnchors", "now", "LWordAnchors$State;", true)
  | 1 => ("WordAnchors", "trial", "LWordAnchors$State;", true)
  | 2 => ("WordAnchors", "history", "LWordAnchors$History;", true)
  | 3 => ("WordAnchors", "text", "LWordAnchors$EditText;", true)
  | 4 => ("WordAnchors", "blocks", "LWordAnchors$Blocks;", true)
  | _ => ("WordAnchors", "probe", "LWordAnchors$Anchor;", true)
def tyX6 : Nat → FieldType := fun k => match k with
  | 0 => .object "WordAnchors$State"
  | 1 => .object "WordAnchors$State"
  | 2 => .object "WordAnchors$History"
  | 3 => .object "WordAnchors$EditText"
  | 4 => .object "WordAnchors$Blocks"
  | _ => .object "WordAnchors$Anchor"
abbrev wsX60 : List Cond := u_ws RX6 TX6 6
theorem nmX6 : ∀ a, a < 6 → ∀ b, b < 6 → a ≠ b → (TX6 a).2.1 ≠ (TX6 b).2.1 := by decide +kernel
theorem tyX6_ok : ∀ k, k < 6 → parseFieldDescriptor (TX6 k).2.2.1 = some (tyX6 k) := by decide +kernel
abbrev cX6_init : ByteArray := prog_1_method_1_code
def yX6_init : MethodName := ⟨RX6, "<init>", "()V"⟩
abbrev cX6_put : ByteArray := prog_1_method_2_code
def yX6_put : MethodName := ⟨RX6, "put", "(II)I"⟩
abbrev cX6_take : ByteArray := prog_1_method_3_code
def yX6_take : MethodName := ⟨RX6, "take", "(I)I"⟩
abbrev cX6_change : ByteArray := prog_1_method_4_code
def yX6_change : MethodName := ⟨RX6, "change", "(II)I"⟩
abbrev cX6_move : ByteArray := prog_1_method_5_code
def yX6_move : MethodName := ⟨RX6, "move", "(III)I"⟩
abbrev cX6_anchor : ByteArray := prog_1_method_6_code
def yX6_anchor : MethodName := ⟨RX6, "anchor", "(I)I"⟩
abbrev cX6_drop : ByteArray := prog_1_method_7_code
def yX6_drop : MethodName := ⟨RX6, "drop", "(I)I"⟩
abbrev cX6_find : ByteArray := prog_1_method_8_code
def yX6_find : MethodName := ⟨RX6, "find", "(I)I"⟩
abbrev cX6_findAll : ByteArray := prog_1_method_9_code
def yX6_findAll : MethodName := ⟨RX6, "findAll", "()I"⟩
abbrev cX6_remember : ByteArray := prog_1_method_10_code
def yX6_remember : MethodName := ⟨RX6, "remember", "(I)I"⟩
abbrev cX6_set : ByteArray := prog_1_method_11_code
def yX6_set : MethodName := ⟨RX6, "set", "(II)I"⟩
abbrev cX6_wordAt : ByteArray := prog_1_method_12_code
def yX6_wordAt : MethodName := ⟨RX6, "wordAt", "(I)I"⟩
abbrev cX6_anchorOf : ByteArray := prog_1_method_13_code
def yX6_anchorOf : MethodName := ⟨RX6, "anchorOf", "(II)I"⟩
abbrev cX6_score : ByteArray := prog_1_method_14_code
def yX6_score : MethodName := ⟨RX6, "score", "(II)I"⟩
abbrev cX6_anchors : ByteArray := prog_1_method_15_code
def yX6_anchors : MethodName := ⟨RX6, "anchors", "(I)I"⟩
abbrev cX6_blockOf : ByteArray := prog_1_method_16_code
def yX6_blockOf : MethodName := ⟨RX6, "blockOf", "(II)I"⟩
abbrev cX6_wouldTake : ByteArray := prog_1_method_17_code
def yX6_wouldTake : MethodName := ⟨RX6, "wouldTake", "(II)I"⟩
abbrev cX6_safest : ByteArray := prog_1_method_18_code
def yX6_safest : MethodName := ⟨RX6, "safest", "(I)I"⟩
abbrev cX6_clearest : ByteArray := prog_1_method_19_code
def yX6_clearest : MethodName := ⟨RX6, "clearest", "(I)I"⟩
abbrev cX6_count : ByteArray := prog_1_method_20_code
def yX6_count : MethodName := ⟨RX6, "count", "(I)I"⟩
abbrev cX6_undo : ByteArray := prog_1_method_21_code
def yX6_undo : MethodName := ⟨RX6, "undo", "()I"⟩
abbrev cX6_type : ByteArray := prog_1_method_22_code
def yX6_type : MethodName := ⟨RX6, "type", "(I)I"⟩
abbrev cX6_clearText : ByteArray := prog_1_method_23_code
def yX6_clearText : MethodName := ⟨RX6, "clearText", "()I"⟩
abbrev cX6_fault : ByteArray := prog_1_method_24_code
def yX6_fault : MethodName := ⟨RX6, "fault", "(I)I"⟩
abbrev cX6_play : ByteArray := prog_1_method_25_code
def yX6_play : MethodName := ⟨RX6, "play", "()I"⟩
abbrev cX6_isWord : ByteArray := prog_1_method_26_code
def yX6_isWord : MethodName := ⟨RX6, "isWord", "(I)Z"⟩
abbrev cX6_orNotFound : ByteArray := prog_1_method_27_code
def yX6_orNotFound : MethodName := ⟨RX6, "orNotFound", "(I)I"⟩
abbrev cX6_scoreOrNotFound : ByteArray := prog_1_method_28_code
def yX6_scoreOrNotFound : MethodName := ⟨RX6, "scoreOrNotFound", "(LWordAnchors$Anchor;I)I"⟩
abbrev cX6_tryTaking : ByteArray := prog_1_method_29_code
def yX6_tryTaking : MethodName := ⟨RX6, "tryTaking", "(I)V"⟩
abbrev cX6_differenceAt : ByteArray := prog_1_method_30_code
def yX6_differenceAt : MethodName := ⟨RX6, "differenceAt", "(I)I"⟩
abbrev cX6_rehearse : ByteArray := prog_1_method_31_code
def yX6_rehearse : MethodName := ⟨RX6, "rehearse", "()I"⟩
def RX7 : String := "WordAnchorsModel"
def TX7 : u_T := fun k => match k with
  | 0 => ("WordAnchorsModel", "s", "[I", true)
  | 1 => ("WordAnchorsModel", "was", "[I", true)
  | 2 => ("WordAnchorsModel", "begun", "[I", true)
  | 3 => ("WordAnchorsModel", "aside", "[I", true)
  | 4 => ("WordAnchorsModel", "states", "I", false)
  | 5 => ("WordAnchorsModel", "text", "[C", true)
  | 6 => ("WordAnchorsModel", "typed", "I", false)
  | 7 => ("WordAnchorsModel", "at", "I", false)
  | 8 => ("WordAnchorsModel", "reason", "I", false)
  | 9 => ("WordAnchorsModel", "number", "[I", true)
  | 10 => ("WordAnchorsModel", "moved", "[I", true)
  | _ => ("WordAnchorsModel", "shift", "[I", true)
def tyX7 : Nat → FieldType := fun k => match k with
  | 0 => .array .int
  | 1 => .array .int
  | 2 => .array .int
  | 3 => .array .int
  | 4 => .int
  | 5 => .array .char
  | 6 => .int
  | 7 => .int
  | 8 => .int
  | 9 => .array .int
  | 10 => .array .int
  | _ => .array .int
abbrev wsX70 : List Cond := u_ws RX7 TX7 12
theorem nmX7 : ∀ a, a < 12 → ∀ b, b < 12 → a ≠ b → (TX7 a).2.1 ≠ (TX7 b).2.1 := by decide +kernel
theorem tyX7_ok : ∀ k, k < 12 → parseFieldDescriptor (TX7 k).2.2.1 = some (tyX7 k) := by decide +kernel
abbrev cX7_init : ByteArray := prog_9_method_1_code
def yX7_init : MethodName := ⟨RX7, "<init>", "()V"⟩
abbrev cX7_in : ByteArray := prog_9_method_2_code
def yX7_in : MethodName := ⟨RX7, "in", "(III)Z"⟩
abbrev cX7_an : ByteArray := prog_9_method_3_code
def yX7_an : MethodName := ⟨RX7, "an", "(II)I"⟩
abbrev cX7_isPlace : ByteArray := prog_9_method_4_code
def yX7_isPlace : MethodName := ⟨RX7, "isPlace", "(I)Z"⟩
abbrev cX7_isAnchor : ByteArray := prog_9_method_5_code
def yX7_isAnchor : MethodName := ⟨RX7, "isAnchor", "(I)Z"⟩
abbrev cX7_word : ByteArray := prog_9_method_6_code
def yX7_word : MethodName := ⟨RX7, "word", "(I)I"⟩
abbrev cX7_keeps : ByteArray := prog_9_method_7_code
def yX7_keeps : MethodName := ⟨RX7, "keeps", "()V"⟩
abbrev cX7_acted : ByteArray := prog_9_method_8_code
def yX7_acted : MethodName := ⟨RX7, "acted", "(I)I"⟩
abbrev cX7_lays : ByteArray := prog_9_method_9_code
def yX7_lays : MethodName := ⟨RX7, "lays", "()V"⟩
abbrev cX7_restores : ByteArray := prog_9_method_10_code
def yX7_restores : MethodName := ⟨RX7, "restores", "()V"⟩
abbrev cX7_follows : ByteArray := prog_9_method_11_code
def yX7_follows : MethodName := ⟨RX7, "follows", "(IIZ)V"⟩
abbrev cX7_puts : ByteArray := prog_9_method_12_code
def yX7_puts : MethodName := ⟨RX7, "puts", "(II)I"⟩
abbrev cX7_put : ByteArray := prog_9_method_13_code
def yX7_put : MethodName := ⟨RX7, "put", "(II)I"⟩
abbrev cX7_takes : ByteArray := prog_9_method_14_code
def yX7_takes : MethodName := ⟨RX7, "takes", "(I)I"⟩
abbrev cX7_take : ByteArray := prog_9_method_15_code
def yX7_take : MethodName := ⟨RX7, "take", "(I)I"⟩
abbrev cX7_changes : ByteArray := prog_9_method_16_code
def yX7_changes : MethodName := ⟨RX7, "changes", "(II)I"⟩
abbrev cX7_change : ByteArray := prog_9_method_17_code
def yX7_change : MethodName := ⟨RX7, "change", "(II)I"⟩
abbrev cX7_then : ByteArray := prog_9_method_18_code
def yX7_then : MethodName := ⟨RX7, "then", "(IIII)I"⟩
abbrev cX7_moves : ByteArray := prog_9_method_19_code
def yX7_moves : MethodName := ⟨RX7, "moves", "(III)I"⟩
abbrev cX7_move : ByteArray := prog_9_method_20_code
def yX7_move : MethodName := ⟨RX7, "move", "(III)I"⟩
abbrev cX7_remembers : ByteArray := prog_9_method_21_code
def yX7_remembers : MethodName := ⟨RX7, "remembers", "(I)I"⟩
abbrev cX7_anchor : ByteArray := prog_9_method_22_code
def yX7_anchor : MethodName := ⟨RX7, "anchor", "(I)I"⟩
abbrev cX7_drop : ByteArray := prog_9_method_23_code
def yX7_drop : MethodName := ⟨RX7, "drop", "(I)I"⟩
abbrev cX7_scoreAt : ByteArray := prog_9_method_24_code
def yX7_scoreAt : MethodName := ⟨RX7, "scoreAt", "(II)I"⟩
abbrev cX7_best : ByteArray := prog_9_method_25_code
def yX7_best : MethodName := ⟨RX7, "best", "(II)I"⟩
abbrev cX7_how : ByteArray := prog_9_method_26_code
def yX7_how : MethodName := ⟨RX7, "how", "(I)I"⟩
abbrev cX7_find : ByteArray := prog_9_method_27_code
def yX7_find : MethodName := ⟨RX7, "find", "(I)I"⟩
abbrev cX7_findAll : ByteArray := prog_9_method_28_code
def yX7_findAll : MethodName := ⟨RX7, "findAll", "()I"⟩
abbrev cX7_remember : ByteArray := prog_9_method_29_code
def yX7_remember : MethodName := ⟨RX7, "remember", "(I)I"⟩
abbrev cX7_set : ByteArray := prog_9_method_30_code
def yX7_set : MethodName := ⟨RX7, "set", "(II)I"⟩
abbrev cX7_wordAt : ByteArray := prog_9_method_31_code
def yX7_wordAt : MethodName := ⟨RX7, "wordAt", "(I)I"⟩
abbrev cX7_orNone : ByteArray := prog_9_method_32_code
def yX7_orNone : MethodName := ⟨RX7, "orNone", "(I)I"⟩
abbrev cX7_isTrue : ByteArray := prog_9_method_33_code
def yX7_isTrue : MethodName := ⟨RX7, "isTrue", "(I)Z"⟩
abbrev cX7_anchorOf : ByteArray := prog_9_method_34_code
def yX7_anchorOf : MethodName := ⟨RX7, "anchorOf", "(II)I"⟩
abbrev cX7_score : ByteArray := prog_9_method_35_code
def yX7_score : MethodName := ⟨RX7, "score", "(II)I"⟩
abbrev cX7_is : ByteArray := prog_9_method_36_code
def yX7_is : MethodName := ⟨RX7, "is", "(II)Z"⟩
abbrev cX7_those : ByteArray := prog_9_method_37_code
def yX7_those : MethodName := ⟨RX7, "those", "(I)I"⟩
abbrev cX7_anchors : ByteArray := prog_9_method_38_code
def yX7_anchors : MethodName := ⟨RX7, "anchors", "(I)I"⟩
abbrev cX7_ones : ByteArray := prog_9_method_39_code
def yX7_ones : MethodName := ⟨RX7, "ones", "(I)I"⟩
abbrev cX7_block : ByteArray := prog_9_method_40_code
def yX7_block : MethodName := ⟨RX7, "block", "(I)I"⟩
abbrev cX7_shifts : ByteArray := prog_9_method_41_code
def yX7_shifts : MethodName := ⟨RX7, "shifts", "()V"⟩
abbrev cX7_blockOf : ByteArray := prog_9_method_42_code
def yX7_blockOf : MethodName := ⟨RX7, "blockOf", "(II)I"⟩
abbrev cX7_wouldTake : ByteArray := prog_9_method_43_code
def yX7_wouldTake : MethodName := ⟨RX7, "wouldTake", "(II)I"⟩
abbrev cX7_safest : ByteArray := prog_9_method_44_code
def yX7_safest : MethodName := ⟨RX7, "safest", "(I)I"⟩
abbrev cX7_likeness : ByteArray := prog_9_method_45_code
def yX7_likeness : MethodName := ⟨RX7, "likeness", "(II)I"⟩
abbrev cX7_clearest : ByteArray := prog_9_method_46_code
def yX7_clearest : MethodName := ⟨RX7, "clearest", "(I)I"⟩
abbrev cX7_unlike : ByteArray := prog_9_method_47_code
def yX7_unlike : MethodName := ⟨RX7, "unlike", "()I"⟩
abbrev cX7_count : ByteArray := prog_9_method_48_code
def yX7_count : MethodName := ⟨RX7, "count", "(I)I"⟩
abbrev cX7_undo : ByteArray := prog_9_method_49_code
def yX7_undo : MethodName := ⟨RX7, "undo", "()I"⟩
abbrev cX7_type : ByteArray := prog_9_method_50_code
def yX7_type : MethodName := ⟨RX7, "type", "(I)I"⟩
abbrev cX7_clearText : ByteArray := prog_9_method_51_code
def yX7_clearText : MethodName := ⟨RX7, "clearText", "()I"⟩
abbrev cX7_sign : ByteArray := prog_9_method_52_code
def yX7_sign : MethodName := ⟨RX7, "sign", "()I"⟩
abbrev cX7_readsNumber : ByteArray := prog_9_method_53_code
def yX7_readsNumber : MethodName := ⟨RX7, "readsNumber", "(I)Z"⟩
abbrev cX7_reads : ByteArray := prog_9_method_54_code
def yX7_reads : MethodName := ⟨RX7, "reads", "(I)Z"⟩
abbrev cX7_doesNext : ByteArray := prog_9_method_55_code
def yX7_doesNext : MethodName := ⟨RX7, "doesNext", "()I"⟩
abbrev cX7_faulty : ByteArray := prog_9_method_56_code
def yX7_faulty : MethodName := ⟨RX7, "faulty", "()I"⟩
abbrev cX7_fault : ByteArray := prog_9_method_57_code
def yX7_fault : MethodName := ⟨RX7, "fault", "(I)I"⟩
abbrev cX7_play : ByteArray := prog_9_method_58_code
def yX7_play : MethodName := ⟨RX7, "play", "()I"⟩
def RJ6 : String := "java/lang/Integer"
def TJ6 : u_T := fun k => match k with
  | _ => ("", "", "", false)
def tyJ6 : Nat → FieldType := fun k => match k with
  | _ => .int
abbrev wsJ60 : List Cond := u_ws RJ6 TJ6 0
theorem nmJ6 : ∀ a, a < 0 → ∀ b, b < 0 → a ≠ b → (TJ6 a).2.1 ≠ (TJ6 b).2.1 := by decide +kernel
theorem tyJ6_ok : ∀ k, k < 0 → parseFieldDescriptor (TJ6 k).2.2.1 = some (tyJ6 k) := by decide +kernel
abbrev cJ6_bitCount_0f7a4 : ByteArray := prog_10_method_49_code
def yJ6_bitCount_0f7a4 : MethodName := ⟨RJ6, "bitCount", "(I)I"⟩
def RJ9 : String := "java/lang/Math"
def TJ9 : u_T := fun k => match k with
  | _ => ("", "", "", false)
def tyJ9 : Nat → FieldType := fun k => match k with
  | _ => .int
abbrev wsJ90 : List Cond := u_ws RJ9 TJ9 0
theorem nmJ9 : ∀ a, a < 0 → ∀ b, b < 0 → a ≠ b → (TJ9 a).2.1 ≠ (TJ9 b).2.1 := by decide +kernel
theorem tyJ9_ok : ∀ k, k < 0 → parseFieldDescriptor (TJ9 k).2.2.1 = some (tyJ9 k) := by decide +kernel
abbrev cJ9_abs_0f7a4 : ByteArray := prog_11_method_59_code
def yJ9_abs_0f7a4 : MethodName := ⟨RJ9, "abs", "(I)I"⟩
def RL : String := "WordAnchorsLaw"
abbrev cL_law : ByteArray := code
def yL_law : MethodName := ⟨RL, "law", "([I)Z"⟩
def wsX0_init : List Cond := .code yX0_init cX0_init 1 none :: ([.methodLink RX0 3 objectInit, .instanceMethod objectInit, .code objectInit ⟨#[0xb1]⟩ 1 none, .arrayClass .int, .fieldLink RX0 9 "WordAnchors$Anchor" "things" "[I"] ++ wsX00)
def wsX0_place : List Cond := .code yX0_place cX0_place 1 (some .int) :: ([.fieldLink RX0 15 "WordAnchors$Anchor" "place" "I"] ++ wsX00)
def wsX0_truePlace : List Cond := .code yX0_truePlace cX0_truePlace 1 (some .int) :: ([.fieldLink RX0 19 "WordAnchors$Anchor" "truePlace" "I"] ++ wsX00)
def wsX0_thing : List Cond := .code yX0_thing cX0_thing 2 (some .int) :: ([.fieldLink RX0 9 "WordAnchors$Anchor" "things" "[I"] ++ wsX00)
def wsX0_goTo : List Cond := .code yX0_goTo cX0_goTo 2 none :: ([.fieldLink RX0 15 "WordAnchors$Anchor" "place" "I"] ++ wsX00)
def wsX4_at : List Cond := .code yX4_at cX4_at 2 (some .int) :: ([.fieldLink RX4 21 "WordAnchors$Row" "size" "I", .fieldLink RX4 9 "WordAnchors$Row" "words" "[I"] ++ wsX40)
def wsX0_look : List Cond := .code yX0_look cX0_look 5 (some .int) :: ([.fieldLink RX0 9 "WordAnchors$Anchor" "things" "[I", .fieldLink RX0 15 "WordAnchors$Anchor" "place" "I", .fieldLink RX0 19 "WordAnchors$Anchor" "truePlace" "I", .methodLink RX0 30 yX4_at, .instanceMethod yX4_at, .selects RX4 yX4_at yX4_at, .initialized RX4, .code yX4_at cX4_at 2 (some .int), .fieldLink RX4 21 "WordAnchors$Row" "size" "I", .fieldLink RX4 9 "WordAnchors$Row" "words" "[I"] ++ wsX00 ++ wsX40)
def wsX0_setAt : List Cond := .code yX0_setAt cX0_setAt 3 none :: ([.methodLink RX0 22 yX0_goTo, .instanceMethod yX0_goTo, .selects RX0 yX0_goTo yX0_goTo, .initialized RX0, .code yX0_goTo cX0_goTo 2 none, .fieldLink RX0 15 "WordAnchors$Anchor" "place" "I", .methodLink RX0 26 yX0_look, .instanceMethod yX0_look, .selects RX0 yX0_look yX0_look, .code yX0_look cX0_look 5 (some .int), .fieldLink RX0 9 "WordAnchors$Anchor" "things" "[I", .fieldLink RX0 19 "WordAnchors$Anchor" "truePlace" "I", .methodLink RX0 30 yX4_at, .instanceMethod yX4_at, .selects RX4 yX4_at yX4_at, .initialized RX4, .code yX4_at cX4_at 2 (some .int), .fieldLink RX4 21 "WordAnchors$Row" "size" "I", .fieldLink RX4 9 "WordAnchors$Row" "words" "[I"] ++ wsX00 ++ wsX40)
def wsX4_targetOf : List Cond := .code yX4_targetOf cX4_targetOf 2 (some .int) :: ([.fieldLink RX4 15 "WordAnchors$Row" "targets" "[I"] ++ wsX40)
def wsX0_followWord : List Cond := .code yX0_followWord cX0_followWord 2 none :: ([.fieldLink RX0 19 "WordAnchors$Anchor" "truePlace" "I", .methodLink RX0 36 yX4_targetOf, .instanceMethod yX4_targetOf, .selects RX4 yX4_targetOf yX4_targetOf, .initialized RX4, .code yX4_targetOf cX4_targetOf 2 (some .int), .fieldLink RX4 15 "WordAnchors$Row" "targets" "[I"] ++ wsX00 ++ wsX40)
def wsX0_copyFrom : List Cond := .code yX0_copyFrom cX0_copyFrom 3 none :: ([.fieldLink RX0 15 "WordAnchors$Anchor" "place" "I", .fieldLink RX0 19 "WordAnchors$Anchor" "truePlace" "I", .fieldLink RX0 9 "WordAnchors$Anchor" "things" "[I", .methodLink RX0 39 yX0_thing, .instanceMethod yX0_thing, .selects RX0 yX0_thing yX0_thing, .initialized RX0, .code yX0_thing cX0_thing 2 (some .int)] ++ wsX00)
def wsX1_init : List Cond := .code yX1_init cX1_init 1 none :: ([.methodLink RX1 3 objectInit, .instanceMethod objectInit, .code objectInit ⟨#[0xb1]⟩ 1 none, .arrayClass .int, .fieldLink RX1 9 "WordAnchors$Blocks" "shifts" "[I", .fieldLink RX1 15 "WordAnchors$Blocks" "members" "[I"] ++ wsX10)
def wsX1_membersOf : List Cond := .code yX1_membersOf cX1_membersOf 2 (some .int) :: ([.fieldLink RX1 18 "WordAnchors$Blocks" "size" "I", .fieldLink RX1 15 "WordAnchors$Blocks" "members" "[I"] ++ wsX10)
def wsX1_shiftOf : List Cond := .code yX1_shiftOf cX1_shiftOf 2 (some .int) :: ([.fieldLink RX1 18 "WordAnchors$Blocks" "size" "I", .fieldLink RX1 9 "WordAnchors$Blocks" "shifts" "[I"] ++ wsX10)
def wsX5_anchorCount : List Cond := .code yX5_anchorCount cX5_anchorCount 1 (some .int) :: ([.fieldLink RX5 29 "WordAnchors$State" "anchorCount" "I"] ++ wsX50)
def wsX5_anchorNumbered : List Cond := .code yX5_anchorNumbered cX5_anchorNumbered 2 (some (.object "WordAnchors$Anchor")) :: ([.fieldLink RX5 29 "WordAnchors$State" "anchorCount" "I", .fieldLink RX5 20 "WordAnchors$State" "anchors" "[LWordAnchors$Anchor;"] ++ wsX50)
def wsX4_size : List Cond := .code yX4_size cX4_size 1 (some .int) :: ([.fieldLink RX4 21 "WordAnchors$Row" "size" "I"] ++ wsX40)
def wsX5_setting : List Cond := .code yX5_setting cX5_setting 2 (some .int) :: ([.fieldLink RX5 24 "WordAnchors$State" "settings" "[I"] ++ wsX50)
def wsX5_scoreOf : List Cond := .code yX5_scoreOf cX5_scoreOf 6 (some .int) :: ([.fieldLink RX5 12 "WordAnchors$State" "row" "LWordAnchors$Row;", .methodLink RX5 77 Lib.Math.abs.name, .static Lib.Math.abs.name, .initialized "java/lang/Math", .code Lib.Math.abs.name Lib.Math.abs.code 1 (some .int), .methodLink RX5 70 yX0_thing, .instanceMethod yX0_thing, .selects RX0 yX0_thing yX0_thing, .initialized RX0, .code yX0_thing cX0_thing 2 (some .int), .fieldLink RX0 9 "WordAnchors$Anchor" "things" "[I", .methodLink RX5 74 yX4_at, .instanceMethod yX4_at, .selects RX4 yX4_at yX4_at, .initialized RX4, .code yX4_at cX4_at 2 (some .int), .fieldLink RX4 21 "WordAnchors$Row" "size" "I", .fieldLink RX4 9 "WordAnchors$Row" "words" "[I", .methodLink RX5 82 yX5_setting, .instanceMethod yX5_setting, .selects RX5 yX5_setting yX5_setting, .initialized RX5, .code yX5_setting cX5_setting 2 (some .int), .fieldLink RX5 24 "WordAnchors$State" "settings" "[I"] ++ wsX50 ++ wsX00 ++ wsX40)
def wsX5_bestPlaceBut_r1 : List Cond := [Cond.fieldLink RX5 12 "WordAnchors$State" "row" "LWordAnchors$Row;", Cond.methodLink RX5 77 Lib.Math.abs.name, Cond.static Lib.Math.abs.name, Cond.initialized "java/lang/Math", Cond.code Lib.Math.abs.name Lib.Math.abs.code 1 (some .int), Cond.methodLink RX5 93 yX4_size, Cond.instanceMethod yX4_size, Cond.selects RX4 yX4_size yX4_size, Cond.initialized RX4, Cond.code yX4_size cX4_size 1 (some .int), Cond.fieldLink RX4 21 "WordAnchors$Row" "size" "I", Cond.methodLink RX5 97 yX5_scoreOf, Cond.instanceMethod yX5_scoreOf, Cond.selects RX5 yX5_scoreOf yX5_scoreOf, Cond.initialized RX5, Cond.code yX5_scoreOf cX5_scoreOf 6 (some .int), Cond.methodLink RX5 70 yX0_thing, Cond.instanceMethod yX0_thing, Cond.selects RX0 yX0_thing yX0_thing, Cond.initialized RX0, Cond.code yX0_thing cX0_thing 2 (some .int), Cond.fieldLink RX0 9 "WordAnchors$Anchor" "things" "[I", Cond.methodLink RX5 74 yX4_at, Cond.instanceMethod yX4_at]
def wsX5_bestPlaceBut_r2 : List Cond := [Cond.selects RX4 yX4_at yX4_at, Cond.code yX4_at cX4_at 2 (some .int), Cond.fieldLink RX4 9 "WordAnchors$Row" "words" "[I", Cond.methodLink RX5 82 yX5_setting, Cond.instanceMethod yX5_setting, Cond.selects RX5 yX5_setting yX5_setting, Cond.code yX5_setting cX5_setting 2 (some .int), Cond.fieldLink RX5 24 "WordAnchors$State" "settings" "[I", Cond.methodLink RX5 100 yX0_place, Cond.instanceMethod yX0_place, Cond.selects RX0 yX0_place yX0_place, Cond.code yX0_place cX0_place 1 (some .int), Cond.fieldLink RX0 15 "WordAnchors$Anchor" "place" "I"]
def wsX5_bestPlaceBut : List Cond := .code yX5_bestPlaceBut cX5_bestPlaceBut 10 (some .int) :: ((wsX5_bestPlaceBut_r1 ++ wsX5_bestPlaceBut_r2) ++ wsX50 ++ wsX40 ++ wsX00)
def wsX5_bestPlace_r1 : List Cond := [Cond.methodLink RX5 85 yX5_bestPlaceBut, Cond.instanceMethod yX5_bestPlaceBut, Cond.selects RX5 yX5_bestPlaceBut yX5_bestPlaceBut, Cond.initialized RX5, Cond.code yX5_bestPlaceBut cX5_bestPlaceBut 10 (some .int), Cond.fieldLink RX5 12 "WordAnchors$State" "row" "LWordAnchors$Row;", Cond.methodLink RX5 77 Lib.Math.abs.name, Cond.static Lib.Math.abs.name, Cond.initialized "java/lang/Math", Cond.code Lib.Math.abs.name Lib.Math.abs.code 1 (some .int), Cond.methodLink RX5 93 yX4_size, Cond.instanceMethod yX4_size, Cond.selects RX4 yX4_size yX4_size, Cond.initialized RX4, Cond.code yX4_size cX4_size 1 (some .int), Cond.fieldLink RX4 21 "WordAnchors$Row" "size" "I", Cond.methodLink RX5 97 yX5_scoreOf, Cond.instanceMethod yX5_scoreOf, Cond.selects RX5 yX5_scoreOf yX5_scoreOf, Cond.code yX5_scoreOf cX5_scoreOf 6 (some .int), Cond.methodLink RX5 70 yX0_thing, Cond.instanceMethod yX0_thing, Cond.selects RX0 yX0_thing yX0_thing, Cond.initialized RX0]
def wsX5_bestPlace_r2 : List Cond := [Cond.code yX0_thing cX0_thing 2 (some .int), Cond.fieldLink RX0 9 "WordAnchors$Anchor" "things" "[I", Cond.methodLink RX5 74 yX4_at, Cond.instanceMethod yX4_at, Cond.selects RX4 yX4_at yX4_at, Cond.code yX4_at cX4_at 2 (some .int), Cond.fieldLink RX4 9 "WordAnchors$Row" "words" "[I", Cond.methodLink RX5 82 yX5_setting, Cond.instanceMethod yX5_setting, Cond.selects RX5 yX5_setting yX5_setting, Cond.code yX5_setting cX5_setting 2 (some .int), Cond.fieldLink RX5 24 "WordAnchors$State" "settings" "[I", Cond.methodLink RX5 100 yX0_place, Cond.instanceMethod yX0_place, Cond.selects RX0 yX0_place yX0_place, Cond.code yX0_place cX0_place 1 (some .int), Cond.fieldLink RX0 15 "WordAnchors$Anchor" "place" "I"]
def wsX5_bestPlace : List Cond := .code yX5_bestPlace cX5_bestPlace 2 (some .int) :: ((wsX5_bestPlace_r1 ++ wsX5_bestPlace_r2) ++ wsX50 ++ wsX40 ++ wsX00)
def wsX5_isLost_r1 : List Cond := [Cond.methodLink RX5 97 yX5_scoreOf, Cond.instanceMethod yX5_scoreOf, Cond.selects RX5 yX5_scoreOf yX5_scoreOf, Cond.initialized RX5, Cond.code yX5_scoreOf cX5_scoreOf 6 (some .int), Cond.fieldLink RX5 12 "WordAnchors$State" "row" "LWordAnchors$Row;", Cond.methodLink RX5 77 Lib.Math.abs.name, Cond.static Lib.Math.abs.name, Cond.initialized "java/lang/Math", Cond.code Lib.Math.abs.name Lib.Math.abs.code 1 (some .int), Cond.methodLink RX5 70 yX0_thing, Cond.instanceMethod yX0_thing, Cond.selects RX0 yX0_thing yX0_thing, Cond.initialized RX0, Cond.code yX0_thing cX0_thing 2 (some .int), Cond.fieldLink RX0 9 "WordAnchors$Anchor" "things" "[I", Cond.methodLink RX5 74 yX4_at, Cond.instanceMethod yX4_at, Cond.selects RX4 yX4_at yX4_at, Cond.initialized RX4, Cond.code yX4_at cX4_at 2 (some .int), Cond.fieldLink RX4 21 "WordAnchors$Row" "size" "I", Cond.fieldLink RX4 9 "WordAnchors$Row" "words" "[I", Cond.methodLink RX5 82 yX5_setting]
def wsX5_isLost_r2 : List Cond := [Cond.instanceMethod yX5_setting, Cond.selects RX5 yX5_setting yX5_setting, Cond.code yX5_setting cX5_setting 2 (some .int), Cond.fieldLink RX5 24 "WordAnchors$State" "settings" "[I"]
def wsX5_isLost : List Cond := .code yX5_isLost cX5_isLost 3 (some .boolean) :: ((wsX5_isLost_r1 ++ wsX5_isLost_r2) ++ wsX50 ++ wsX00 ++ wsX40)
def wsX5_shiftOf_r1 : List Cond := [Cond.methodLink RX5 89 yX5_bestPlace, Cond.instanceMethod yX5_bestPlace, Cond.selects RX5 yX5_bestPlace yX5_bestPlace, Cond.initialized RX5, Cond.code yX5_bestPlace cX5_bestPlace 2 (some .int), Cond.methodLink RX5 85 yX5_bestPlaceBut, Cond.instanceMethod yX5_bestPlaceBut, Cond.selects RX5 yX5_bestPlaceBut yX5_bestPlaceBut, Cond.code yX5_bestPlaceBut cX5_bestPlaceBut 10 (some .int), Cond.fieldLink RX5 12 "WordAnchors$State" "row" "LWordAnchors$Row;", Cond.methodLink RX5 77 Lib.Math.abs.name, Cond.static Lib.Math.abs.name, Cond.initialized "java/lang/Math", Cond.code Lib.Math.abs.name Lib.Math.abs.code 1 (some .int), Cond.methodLink RX5 93 yX4_size, Cond.instanceMethod yX4_size, Cond.selects RX4 yX4_size yX4_size, Cond.initialized RX4, Cond.code yX4_size cX4_size 1 (some .int), Cond.fieldLink RX4 21 "WordAnchors$Row" "size" "I", Cond.methodLink RX5 97 yX5_scoreOf, Cond.instanceMethod yX5_scoreOf, Cond.selects RX5 yX5_scoreOf yX5_scoreOf, Cond.code yX5_scoreOf cX5_scoreOf 6 (some .int)]
def wsX5_shiftOf_r2 : List Cond := [Cond.methodLink RX5 70 yX0_thing, Cond.instanceMethod yX0_thing, Cond.selects RX0 yX0_thing yX0_thing, Cond.initialized RX0, Cond.code yX0_thing cX0_thing 2 (some .int), Cond.fieldLink RX0 9 "WordAnchors$Anchor" "things" "[I", Cond.methodLink RX5 74 yX4_at, Cond.instanceMethod yX4_at, Cond.selects RX4 yX4_at yX4_at, Cond.code yX4_at cX4_at 2 (some .int), Cond.fieldLink RX4 9 "WordAnchors$Row" "words" "[I", Cond.methodLink RX5 82 yX5_setting, Cond.instanceMethod yX5_setting, Cond.selects RX5 yX5_setting yX5_setting, Cond.code yX5_setting cX5_setting 2 (some .int), Cond.fieldLink RX5 24 "WordAnchors$State" "settings" "[I", Cond.methodLink RX5 100 yX0_place, Cond.instanceMethod yX0_place, Cond.selects RX0 yX0_place yX0_place, Cond.code yX0_place cX0_place 1 (some .int), Cond.fieldLink RX0 15 "WordAnchors$Anchor" "place" "I", Cond.methodLink RX5 103 yX5_isLost, Cond.instanceMethod yX5_isLost, Cond.selects RX5 yX5_isLost yX5_isLost]
def wsX5_shiftOf_r3 : List Cond := [Cond.code yX5_isLost cX5_isLost 3 (some .boolean)]
def wsX5_shiftOf : List Cond := .code yX5_shiftOf cX5_shiftOf 3 (some .int) :: ((wsX5_shiftOf_r1 ++ (wsX5_shiftOf_r2 ++ wsX5_shiftOf_r3)) ++ wsX50 ++ wsX40 ++ wsX00)
def wsX1_enter : List Cond := .code yX1_enter cX1_enter 4 none :: ([.fieldLink RX1 18 "WordAnchors$Blocks" "size" "I", .fieldLink RX1 9 "WordAnchors$Blocks" "shifts" "[I", .fieldLink RX1 15 "WordAnchors$Blocks" "members" "[I", .methodLink RX1 40 yX1_shiftOf, .instanceMethod yX1_shiftOf, .selects RX1 yX1_shiftOf yX1_shiftOf, .initialized RX1, .code yX1_shiftOf cX1_shiftOf 2 (some .int)] ++ wsX10)
def wsX1_gather_r1 : List Cond := [Cond.fieldLink RX1 18 "WordAnchors$Blocks" "size" "I", Cond.methodLink RX1 22 yX5_anchorCount, Cond.instanceMethod yX5_anchorCount, Cond.selects RX5 yX5_anchorCount yX5_anchorCount, Cond.initialized RX5, Cond.code yX5_anchorCount cX5_anchorCount 1 (some .int), Cond.fieldLink RX5 29 "WordAnchors$State" "anchorCount" "I", Cond.methodLink RX1 28 yX5_anchorNumbered, Cond.instanceMethod yX5_anchorNumbered, Cond.selects RX5 yX5_anchorNumbered yX5_anchorNumbered, Cond.code yX5_anchorNumbered cX5_anchorNumbered 2 (some (.object "WordAnchors$Anchor")), Cond.fieldLink RX5 20 "WordAnchors$State" "anchors" "[LWordAnchors$Anchor;", Cond.methodLink RX1 32 yX5_shiftOf, Cond.instanceMethod yX5_shiftOf, Cond.selects RX5 yX5_shiftOf yX5_shiftOf, Cond.code yX5_shiftOf cX5_shiftOf 3 (some .int), Cond.methodLink RX5 89 yX5_bestPlace, Cond.instanceMethod yX5_bestPlace, Cond.selects RX5 yX5_bestPlace yX5_bestPlace, Cond.code yX5_bestPlace cX5_bestPlace 2 (some .int), Cond.methodLink RX5 85 yX5_bestPlaceBut, Cond.instanceMethod yX5_bestPlaceBut, Cond.selects RX5 yX5_bestPlaceBut yX5_bestPlaceBut, Cond.code yX5_bestPlaceBut cX5_bestPlaceBut 10 (some .int)]
def wsX1_gather_r2 : List Cond := [Cond.fieldLink RX5 12 "WordAnchors$State" "row" "LWordAnchors$Row;", Cond.methodLink RX5 77 Lib.Math.abs.name, Cond.static Lib.Math.abs.name, Cond.initialized "java/lang/Math", Cond.code Lib.Math.abs.name Lib.Math.abs.code 1 (some .int), Cond.methodLink RX5 93 yX4_size, Cond.instanceMethod yX4_size, Cond.selects RX4 yX4_size yX4_size, Cond.initialized RX4, Cond.code yX4_size cX4_size 1 (some .int), Cond.fieldLink RX4 21 "WordAnchors$Row" "size" "I", Cond.methodLink RX5 97 yX5_scoreOf, Cond.instanceMethod yX5_scoreOf, Cond.selects RX5 yX5_scoreOf yX5_scoreOf, Cond.code yX5_scoreOf cX5_scoreOf 6 (some .int), Cond.methodLink RX5 70 yX0_thing, Cond.instanceMethod yX0_thing, Cond.selects RX0 yX0_thing yX0_thing, Cond.initialized RX0, Cond.code yX0_thing cX0_thing 2 (some .int), Cond.fieldLink RX0 9 "WordAnchors$Anchor" "things" "[I", Cond.methodLink RX5 74 yX4_at, Cond.instanceMethod yX4_at, Cond.selects RX4 yX4_at yX4_at]
def wsX1_gather_r3 : List Cond := [Cond.code yX4_at cX4_at 2 (some .int), Cond.fieldLink RX4 9 "WordAnchors$Row" "words" "[I", Cond.methodLink RX5 82 yX5_setting, Cond.instanceMethod yX5_setting, Cond.selects RX5 yX5_setting yX5_setting, Cond.code yX5_setting cX5_setting 2 (some .int), Cond.fieldLink RX5 24 "WordAnchors$State" "settings" "[I", Cond.methodLink RX5 100 yX0_place, Cond.instanceMethod yX0_place, Cond.selects RX0 yX0_place yX0_place, Cond.code yX0_place cX0_place 1 (some .int), Cond.fieldLink RX0 15 "WordAnchors$Anchor" "place" "I", Cond.methodLink RX5 103 yX5_isLost, Cond.instanceMethod yX5_isLost, Cond.selects RX5 yX5_isLost yX5_isLost, Cond.code yX5_isLost cX5_isLost 3 (some .boolean), Cond.methodLink RX1 36 yX1_enter, Cond.instanceMethod yX1_enter, Cond.selects RX1 yX1_enter yX1_enter, Cond.initialized RX1, Cond.code yX1_enter cX1_enter 4 none, Cond.fieldLink RX1 9 "WordAnchors$Blocks" "shifts" "[I", Cond.fieldLink RX1 15 "WordAnchors$Blocks" "members" "[I", Cond.methodLink RX1 40 yX1_shiftOf]
def wsX1_gather_r4 : List Cond := [Cond.instanceMethod yX1_shiftOf, Cond.selects RX1 yX1_shiftOf yX1_shiftOf, Cond.code yX1_shiftOf cX1_shiftOf 2 (some .int)]
def wsX1_gather : List Cond := .code yX1_gather cX1_gather 4 none :: ((wsX1_gather_r1 ++ (wsX1_gather_r2 ++ (wsX1_gather_r3 ++ wsX1_gather_r4))) ++ wsX10 ++ wsX50 ++ wsX40 ++ wsX00)
def wsJ6_bitCount_0f7a4 : List Cond := .code yJ6_bitCount_0f7a4 cJ6_bitCount_0f7a4 1 (some .int) :: ([.constant RJ6 265 (1431655765), .constant RJ6 266 (858993459), .constant RJ6 267 (252645135)])
def wsX1_isAhead : List Cond := .code yX1_isAhead cX1_isAhead 4 (some .boolean) :: ([.methodLink RX1 50 yX1_membersOf, .instanceMethod yX1_membersOf, .selects RX1 yX1_membersOf yX1_membersOf, .initialized RX1, .code yX1_membersOf cX1_membersOf 2 (some .int), .fieldLink RX1 18 "WordAnchors$Blocks" "size" "I", .fieldLink RX1 15 "WordAnchors$Blocks" "members" "[I", .methodLink RX1 53 yJ6_bitCount_0f7a4, .static yJ6_bitCount_0f7a4, .initialized RJ6, .code yJ6_bitCount_0f7a4 cJ6_bitCount_0f7a4 1 (some .int), .constant RJ6 265 (1431655765), .constant RJ6 266 (858993459), .constant RJ6 267 (252645135), .methodLink RX1 40 yX1_shiftOf, .instanceMethod yX1_shiftOf, .selects RX1 yX1_shiftOf yX1_shiftOf, .code yX1_shiftOf cX1_shiftOf 2 (some .int), .fieldLink RX1 9 "WordAnchors$Blocks" "shifts" "[I"] ++ wsX10)
def wsX1_blocksAheadOf : List Cond := .code yX1_blocksAheadOf cX1_blocksAheadOf 4 (some .int) :: ([.fieldLink RX1 18 "WordAnchors$Blocks" "size" "I", .methodLink RX1 46 yX1_isAhead, .instanceMethod yX1_isAhead, .selects RX1 yX1_isAhead yX1_isAhead, .initialized RX1, .code yX1_isAhead cX1_isAhead 4 (some .boolean), .methodLink RX1 50 yX1_membersOf, .instanceMethod yX1_membersOf, .selects RX1 yX1_membersOf yX1_membersOf, .code yX1_membersOf cX1_membersOf 2 (some .int), .fieldLink RX1 15 "WordAnchors$Blocks" "members" "[I", .methodLink RX1 53 yJ6_bitCount_0f7a4, .static yJ6_bitCount_0f7a4, .initialized RJ6, .code yJ6_bitCount_0f7a4 cJ6_bitCount_0f7a4 1 (some .int), .constant RJ6 265 (1431655765), .constant RJ6 266 (858993459), .constant RJ6 267 (252645135), .methodLink RX1 40 yX1_shiftOf, .instanceMethod yX1_shiftOf, .selects RX1 yX1_shiftOf yX1_shiftOf, .code yX1_shiftOf cX1_shiftOf 2 (some .int), .fieldLink RX1 9 "WordAnchors$Blocks" "shifts" "[I"] ++ wsX10)
def wsX1_inOrder_r1 : List Cond := [Cond.fieldLink RX1 18 "WordAnchors$Blocks" "size" "I", Cond.methodLink RX1 43 yX1_blocksAheadOf, Cond.instanceMethod yX1_blocksAheadOf, Cond.selects RX1 yX1_blocksAheadOf yX1_blocksAheadOf, Cond.initialized RX1, Cond.code yX1_blocksAheadOf cX1_blocksAheadOf 4 (some .int), Cond.methodLink RX1 46 yX1_isAhead, Cond.instanceMethod yX1_isAhead, Cond.selects RX1 yX1_isAhead yX1_isAhead, Cond.code yX1_isAhead cX1_isAhead 4 (some .boolean), Cond.methodLink RX1 50 yX1_membersOf, Cond.instanceMethod yX1_membersOf, Cond.selects RX1 yX1_membersOf yX1_membersOf, Cond.code yX1_membersOf cX1_membersOf 2 (some .int), Cond.fieldLink RX1 15 "WordAnchors$Blocks" "members" "[I", Cond.methodLink RX1 53 yJ6_bitCount_0f7a4, Cond.static yJ6_bitCount_0f7a4, Cond.initialized RJ6, Cond.code yJ6_bitCount_0f7a4 cJ6_bitCount_0f7a4 1 (some .int), Cond.constant RJ6 265 (1431655765), Cond.constant RJ6 266 (858993459), Cond.constant RJ6 267 (252645135), Cond.methodLink RX1 40 yX1_shiftOf, Cond.instanceMethod yX1_shiftOf]
def wsX1_inOrder_r2 : List Cond := [Cond.selects RX1 yX1_shiftOf yX1_shiftOf, Cond.code yX1_shiftOf cX1_shiftOf 2 (some .int), Cond.fieldLink RX1 9 "WordAnchors$Blocks" "shifts" "[I"]
def wsX1_inOrder : List Cond := .code yX1_inOrder cX1_inOrder 3 (some .int) :: ((wsX1_inOrder_r1 ++ wsX1_inOrder_r2) ++ wsX10)
def wsX2_init : List Cond := .code yX2_init cX2_init 1 none :: ([.methodLink RX2 3 objectInit, .instanceMethod objectInit, .code objectInit ⟨#[0xb1]⟩ 1 none, .arrayClass .char, .fieldLink RX2 9 "WordAnchors$EditText" "characters" "[C", .arrayClass .int, .fieldLink RX2 15 "WordAnchors$EditText" "numbers" "[I"] ++ wsX20)
def wsX2_length : List Cond := .code yX2_length cX2_length 1 (some .int) :: ([.fieldLink RX2 19 "WordAnchors$EditText" "length" "I"] ++ wsX20)
def wsX2_isFull : List Cond := .code yX2_isFull cX2_isFull 1 (some .boolean) :: ([.fieldLink RX2 19 "WordAnchors$EditText" "length" "I", .fieldLink RX2 9 "WordAnchors$EditText" "characters" "[C"] ++ wsX20)
def wsX2_append : List Cond := .code yX2_append cX2_append 2 none :: ([.fieldLink RX2 19 "WordAnchors$EditText" "length" "I", .fieldLink RX2 9 "WordAnchors$EditText" "characters" "[C"] ++ wsX20)
def wsX2_empty : List Cond := .code yX2_empty cX2_empty 1 none :: ([.fieldLink RX2 19 "WordAnchors$EditText" "length" "I"] ++ wsX20)
def wsX2_rewind : List Cond := .code yX2_rewind cX2_rewind 1 none :: ([.fieldLink RX2 23 "WordAnchors$EditText" "next" "I"] ++ wsX20)
def wsX2_hasMore : List Cond := .code yX2_hasMore cX2_hasMore 1 (some .boolean) :: ([.fieldLink RX2 23 "WordAnchors$EditText" "next" "I", .fieldLink RX2 19 "WordAnchors$EditText" "length" "I"] ++ wsX20)
def wsX2_editStart : List Cond := .code yX2_editStart cX2_editStart 1 (some .int) :: ([.fieldLink RX2 26 "WordAnchors$EditText" "start" "I"] ++ wsX20)
def wsX2_sign : List Cond := .code yX2_sign cX2_sign 1 (some .char) :: ([.fieldLink RX2 29 "WordAnchors$EditText" "sign" "C"] ++ wsX20)
def wsX2_number : List Cond := .code yX2_number cX2_number 2 (some .int) :: ([.fieldLink RX2 15 "WordAnchors$EditText" "numbers" "[I"] ++ wsX20)
def wsX2_nextCharacter : List Cond := .code yX2_nextCharacter cX2_nextCharacter 1 (some .char) :: ([.fieldLink RX2 23 "WordAnchors$EditText" "next" "I", .fieldLink RX2 19 "WordAnchors$EditText" "length" "I", .fieldLink RX2 9 "WordAnchors$EditText" "characters" "[C"] ++ wsX20)
def wsX2_numbersBehind : List Cond := .code yX2_numbersBehind cX2_numbersBehind 1 (some .int) :: ([])
def wsX2_readSign : List Cond := .code yX2_readSign cX2_readSign 2 (some .boolean) :: ([.fieldLink RX2 23 "WordAnchors$EditText" "next" "I", .methodLink RX2 33 yX2_nextCharacter, .instanceMethod yX2_nextCharacter, .selects RX2 yX2_nextCharacter yX2_nextCharacter, .initialized RX2, .code yX2_nextCharacter cX2_nextCharacter 1 (some .char), .fieldLink RX2 19 "WordAnchors$EditText" "length" "I", .fieldLink RX2 9 "WordAnchors$EditText" "characters" "[C"] ++ wsX20)
def wsX2_isDigit : List Cond := .code yX2_isDigit cX2_isDigit 1 (some .boolean) :: ([])
def wsX2_readNumber : List Cond := .code yX2_readNumber cX2_readNumber 4 (some .boolean) :: ([.fieldLink RX2 23 "WordAnchors$EditText" "next" "I", .fieldLink RX2 15 "WordAnchors$EditText" "numbers" "[I", .methodLink RX2 33 yX2_nextCharacter, .instanceMethod yX2_nextCharacter, .selects RX2 yX2_nextCharacter yX2_nextCharacter, .initialized RX2, .code yX2_nextCharacter cX2_nextCharacter 1 (some .char), .fieldLink RX2 19 "WordAnchors$EditText" "length" "I", .fieldLink RX2 9 "WordAnchors$EditText" "characters" "[C", .methodLink RX2 49 yX2_isDigit, .static yX2_isDigit, .code yX2_isDigit cX2_isDigit 1 (some .boolean)] ++ wsX20)
def wsX2_readEdit_r1 : List Cond := [Cond.fieldLink RX2 23 "WordAnchors$EditText" "next" "I", Cond.fieldLink RX2 26 "WordAnchors$EditText" "start" "I", Cond.fieldLink RX2 29 "WordAnchors$EditText" "sign" "C", Cond.methodLink RX2 33 yX2_nextCharacter, Cond.instanceMethod yX2_nextCharacter, Cond.selects RX2 yX2_nextCharacter yX2_nextCharacter, Cond.initialized RX2, Cond.code yX2_nextCharacter cX2_nextCharacter 1 (some .char), Cond.fieldLink RX2 19 "WordAnchors$EditText" "length" "I", Cond.fieldLink RX2 9 "WordAnchors$EditText" "characters" "[C", Cond.methodLink RX2 37 yX2_numbersBehind, Cond.static yX2_numbersBehind, Cond.code yX2_numbersBehind cX2_numbersBehind 1 (some .int), Cond.methodLink RX2 41 yX2_readSign, Cond.instanceMethod yX2_readSign, Cond.selects RX2 yX2_readSign yX2_readSign, Cond.code yX2_readSign cX2_readSign 2 (some .boolean), Cond.methodLink RX2 45 yX2_readNumber, Cond.instanceMethod yX2_readNumber, Cond.selects RX2 yX2_readNumber yX2_readNumber, Cond.code yX2_readNumber cX2_readNumber 4 (some .boolean), Cond.fieldLink RX2 15 "WordAnchors$EditText" "numbers" "[I", Cond.methodLink RX2 49 yX2_isDigit, Cond.static yX2_isDigit]
def wsX2_readEdit_r2 : List Cond := [Cond.code yX2_isDigit cX2_isDigit 1 (some .boolean)]
def wsX2_readEdit : List Cond := .code yX2_readEdit cX2_readEdit 4 (some .boolean) :: ((wsX2_readEdit_r1 ++ wsX2_readEdit_r2) ++ wsX20)
def wsX4_init : List Cond := .code yX4_init cX4_init 1 none :: ([.methodLink RX4 3 objectInit, .instanceMethod objectInit, .code objectInit ⟨#[0xb1]⟩ 1 none, .arrayClass .int, .fieldLink RX4 9 "WordAnchors$Row" "words" "[I", .fieldLink RX4 15 "WordAnchors$Row" "targets" "[I", .fieldLink RX4 18 "WordAnchors$Row" "relocated" "[I"] ++ wsX40)
def wsX5_init : List Cond := .code yX5_init cX5_init 2 none :: ([.methodLink RX5 3 objectInit, .instanceMethod objectInit, .code objectInit ⟨#[0xb1]⟩ 1 none, .classLink RX5 9 RX4, .instantiable RX4 4, .initialized RX4, .fieldLink RX5 12 "WordAnchors$State" "row" "LWordAnchors$Row;", .classLink RX5 18 RX0, .fieldLink RX5 20 "WordAnchors$State" "anchors" "[LWordAnchors$Anchor;", .arrayClass .int, .fieldLink RX5 24 "WordAnchors$State" "settings" "[I", .instantiable RX0 3, .initialized RX0, .instanceMethod yX4_init, .code yX4_init cX4_init 1 none, .methodLink RX4 3 objectInit, .fieldLink RX4 9 "WordAnchors$Row" "words" "[I", .fieldLink RX4 15 "WordAnchors$Row" "targets" "[I", .fieldLink RX4 18 "WordAnchors$Row" "relocated" "[I", .instanceMethod yX0_init, .code yX0_init cX0_init 1 none, .methodLink RX0 3 objectInit, .fieldLink RX0 9 "WordAnchors$Anchor" "things" "[I"] ++ wsX40 ++ wsX50 ++ wsX00)
def wsX3_init_r1 : List Cond := [Cond.methodLink RX3 3 objectInit, Cond.instanceMethod objectInit, Cond.code objectInit ⟨#[0xb1]⟩ 1 none, Cond.classLink RX3 9 RX5, Cond.fieldLink RX3 11 "WordAnchors$History" "states" "[LWordAnchors$State;", Cond.instantiable RX5 5, Cond.initialized RX5, Cond.methodLink RX3 17 yX5_init, Cond.instanceMethod yX5_init, Cond.code yX5_init cX5_init 2 none, Cond.methodLink RX5 3 objectInit, Cond.classLink RX5 9 RX4, Cond.instantiable RX4 4, Cond.initialized RX4, Cond.fieldLink RX5 12 "WordAnchors$State" "row" "LWordAnchors$Row;", Cond.classLink RX5 18 RX0, Cond.fieldLink RX5 20 "WordAnchors$State" "anchors" "[LWordAnchors$Anchor;", Cond.arrayClass .int, Cond.fieldLink RX5 24 "WordAnchors$State" "settings" "[I", Cond.instantiable RX0 3, Cond.initialized RX0, Cond.instanceMethod yX4_init, Cond.code yX4_init cX4_init 1 none, Cond.methodLink RX4 3 objectInit]
def wsX3_init_r2 : List Cond := [Cond.fieldLink RX4 9 "WordAnchors$Row" "words" "[I", Cond.fieldLink RX4 15 "WordAnchors$Row" "targets" "[I", Cond.fieldLink RX4 18 "WordAnchors$Row" "relocated" "[I", Cond.instanceMethod yX0_init, Cond.code yX0_init cX0_init 1 none, Cond.methodLink RX0 3 objectInit, Cond.fieldLink RX0 9 "WordAnchors$Anchor" "things" "[I"]
def wsX3_init : List Cond := .code yX3_init cX3_init 2 none :: ((wsX3_init_r1 ++ wsX3_init_r2) ++ wsX30 ++ wsX50 ++ wsX40 ++ wsX00)
def wsX3_size : List Cond := .code yX3_size cX3_size 1 (some .int) :: ([.fieldLink RX3 18 "WordAnchors$History" "size" "I"] ++ wsX30)
def wsX3_fromOldest : List Cond := .code yX3_fromOldest cX3_fromOldest 3 (some (.object "WordAnchors$State")) :: ([.fieldLink RX3 22 "WordAnchors$History" "oldest" "I", .fieldLink RX3 11 "WordAnchors$History" "states" "[LWordAnchors$State;"] ++ wsX30)
def wsX4_copyFrom : List Cond := .code yX4_copyFrom cX4_copyFrom 3 none :: ([.fieldLink RX4 9 "WordAnchors$Row" "words" "[I", .fieldLink RX4 21 "WordAnchors$Row" "size" "I", .methodLink RX4 55 yX4_at, .instanceMethod yX4_at, .selects RX4 yX4_at yX4_at, .initialized RX4, .code yX4_at cX4_at 2 (some .int)] ++ wsX40)
def wsX5_copyFrom_r1 : List Cond := [Cond.fieldLink RX5 12 "WordAnchors$State" "row" "LWordAnchors$Row;", Cond.fieldLink RX5 29 "WordAnchors$State" "anchorCount" "I", Cond.fieldLink RX5 24 "WordAnchors$State" "settings" "[I", Cond.fieldLink RX5 33 "WordAnchors$State" "edits" "I", Cond.methodLink RX5 152 yX4_copyFrom, Cond.instanceMethod yX4_copyFrom, Cond.selects RX4 yX4_copyFrom yX4_copyFrom, Cond.initialized RX4, Cond.code yX4_copyFrom cX4_copyFrom 3 none, Cond.fieldLink RX4 9 "WordAnchors$Row" "words" "[I", Cond.fieldLink RX4 21 "WordAnchors$Row" "size" "I", Cond.methodLink RX4 55 yX4_at, Cond.instanceMethod yX4_at, Cond.selects RX4 yX4_at yX4_at, Cond.code yX4_at cX4_at 2 (some .int), Cond.methodLink RX5 36 yX5_anchorNumbered, Cond.instanceMethod yX5_anchorNumbered, Cond.selects RX5 yX5_anchorNumbered yX5_anchorNumbered, Cond.initialized RX5, Cond.code yX5_anchorNumbered cX5_anchorNumbered 2 (some (.object "WordAnchors$Anchor")), Cond.fieldLink RX5 20 "WordAnchors$State" "anchors" "[LWordAnchors$Anchor;", Cond.methodLink RX5 44 yX0_copyFrom, Cond.instanceMethod yX0_copyFrom, Cond.selects RX0 yX0_copyFrom yX0_copyFrom]
def wsX5_copyFrom_r2 : List Cond := [Cond.initialized RX0, Cond.code yX0_copyFrom cX0_copyFrom 3 none, Cond.fieldLink RX0 15 "WordAnchors$Anchor" "place" "I", Cond.fieldLink RX0 19 "WordAnchors$Anchor" "truePlace" "I", Cond.fieldLink RX0 9 "WordAnchors$Anchor" "things" "[I", Cond.methodLink RX0 39 yX0_thing, Cond.instanceMethod yX0_thing, Cond.selects RX0 yX0_thing yX0_thing, Cond.code yX0_thing cX0_thing 2 (some .int), Cond.methodLink RX5 82 yX5_setting, Cond.instanceMethod yX5_setting, Cond.selects RX5 yX5_setting yX5_setting, Cond.code yX5_setting cX5_setting 2 (some .int)]
def wsX5_copyFrom : List Cond := .code yX5_copyFrom cX5_copyFrom 5 none :: ((wsX5_copyFrom_r1 ++ wsX5_copyFrom_r2) ++ wsX50 ++ wsX40 ++ wsX00)
def wsX3_record_r1 : List Cond := [Cond.fieldLink RX3 18 "WordAnchors$History" "size" "I", Cond.fieldLink RX3 22 "WordAnchors$History" "oldest" "I", Cond.methodLink RX3 25 yX3_fromOldest, Cond.instanceMethod yX3_fromOldest, Cond.selects RX3 yX3_fromOldest yX3_fromOldest, Cond.initialized RX3, Cond.code yX3_fromOldest cX3_fromOldest 3 (some (.object "WordAnchors$State")), Cond.fieldLink RX3 11 "WordAnchors$History" "states" "[LWordAnchors$State;", Cond.methodLink RX3 29 yX5_copyFrom, Cond.instanceMethod yX5_copyFrom, Cond.selects RX5 yX5_copyFrom yX5_copyFrom, Cond.initialized RX5, Cond.code yX5_copyFrom cX5_copyFrom 5 none, Cond.fieldLink RX5 12 "WordAnchors$State" "row" "LWordAnchors$Row;", Cond.fieldLink RX5 29 "WordAnchors$State" "anchorCount" "I", Cond.fieldLink RX5 24 "WordAnchors$State" "settings" "[I", Cond.fieldLink RX5 33 "WordAnchors$State" "edits" "I", Cond.methodLink RX5 152 yX4_copyFrom, Cond.instanceMethod yX4_copyFrom, Cond.selects RX4 yX4_copyFrom yX4_copyFrom, Cond.initialized RX4, Cond.code yX4_copyFrom cX4_copyFrom 3 none, Cond.fieldLink RX4 9 "WordAnchors$Row" "words" "[I", Cond.fieldLink RX4 21 "WordAnchors$Row" "size" "I"]
def wsX3_record_r2 : List Cond := [Cond.methodLink RX4 55 yX4_at, Cond.instanceMethod yX4_at, Cond.selects RX4 yX4_at yX4_at, Cond.code yX4_at cX4_at 2 (some .int), Cond.methodLink RX5 36 yX5_anchorNumbered, Cond.instanceMethod yX5_anchorNumbered, Cond.selects RX5 yX5_anchorNumbered yX5_anchorNumbered, Cond.code yX5_anchorNumbered cX5_anchorNumbered 2 (some (.object "WordAnchors$Anchor")), Cond.fieldLink RX5 20 "WordAnchors$State" "anchors" "[LWordAnchors$Anchor;", Cond.methodLink RX5 44 yX0_copyFrom, Cond.instanceMethod yX0_copyFrom, Cond.selects RX0 yX0_copyFrom yX0_copyFrom, Cond.initialized RX0, Cond.code yX0_copyFrom cX0_copyFrom 3 none, Cond.fieldLink RX0 15 "WordAnchors$Anchor" "place" "I", Cond.fieldLink RX0 19 "WordAnchors$Anchor" "truePlace" "I", Cond.fieldLink RX0 9 "WordAnchors$Anchor" "things" "[I", Cond.methodLink RX0 39 yX0_thing, Cond.instanceMethod yX0_thing, Cond.selects RX0 yX0_thing yX0_thing, Cond.code yX0_thing cX0_thing 2 (some .int), Cond.methodLink RX5 82 yX5_setting, Cond.instanceMethod yX5_setting, Cond.selects RX5 yX5_setting yX5_setting]
def wsX3_record_r3 : List Cond := [Cond.code yX5_setting cX5_setting 2 (some .int)]
def wsX3_record : List Cond := .code yX3_record cX3_record 3 none :: ((wsX3_record_r1 ++ (wsX3_record_r2 ++ wsX3_record_r3)) ++ wsX30 ++ wsX50 ++ wsX40 ++ wsX00)
def wsX3_latest : List Cond := .code yX3_latest cX3_latest 1 (some (.object "WordAnchors$State")) :: ([.fieldLink RX3 18 "WordAnchors$History" "size" "I", .methodLink RX3 25 yX3_fromOldest, .instanceMethod yX3_fromOldest, .selects RX3 yX3_fromOldest yX3_fromOldest, .initialized RX3, .code yX3_fromOldest cX3_fromOldest 3 (some (.object "WordAnchors$State")), .fieldLink RX3 22 "WordAnchors$History" "oldest" "I", .fieldLink RX3 11 "WordAnchors$History" "states" "[LWordAnchors$State;"] ++ wsX30)
def wsX3_forgetLatest : List Cond := .code yX3_forgetLatest cX3_forgetLatest 1 none :: ([.fieldLink RX3 18 "WordAnchors$History" "size" "I"] ++ wsX30)
def wsX4_isFull : List Cond := .code yX4_isFull cX4_isFull 1 (some .boolean) :: ([.fieldLink RX4 21 "WordAnchors$Row" "size" "I", .fieldLink RX4 9 "WordAnchors$Row" "words" "[I"] ++ wsX40)
def wsX4_holds : List Cond := .code yX4_holds cX4_holds 2 (some .boolean) :: ([.fieldLink RX4 21 "WordAnchors$Row" "size" "I", .fieldLink RX4 9 "WordAnchors$Row" "words" "[I"] ++ wsX40)
def wsX4_takesAt : List Cond := .code yX4_takesAt cX4_takesAt 2 (some .boolean) :: ([.fieldLink RX4 21 "WordAnchors$Row" "size" "I"] ++ wsX40)
def wsX4_canShift : List Cond := .code yX4_canShift cX4_canShift 4 (some .boolean) :: ([.fieldLink RX4 21 "WordAnchors$Row" "size" "I", .methodLink RX4 25 yX4_holds, .instanceMethod yX4_holds, .selects RX4 yX4_holds yX4_holds, .initialized RX4, .code yX4_holds cX4_holds 2 (some .boolean), .fieldLink RX4 9 "WordAnchors$Row" "words" "[I"] ++ wsX40)
def wsX4_relocate : List Cond := .code yX4_relocate cX4_relocate 4 none :: ([.fieldLink RX4 21 "WordAnchors$Row" "size" "I", .fieldLink RX4 9 "WordAnchors$Row" "words" "[I", .fieldLink RX4 18 "WordAnchors$Row" "relocated" "[I", .methodLink RX4 48 yX4_targetOf, .instanceMethod yX4_targetOf, .selects RX4 yX4_targetOf yX4_targetOf, .initialized RX4, .code yX4_targetOf cX4_targetOf 2 (some .int), .fieldLink RX4 15 "WordAnchors$Row" "targets" "[I"] ++ wsX40)
def wsX4_insert : List Cond := .code yX4_insert cX4_insert 4 none :: ([.fieldLink RX4 15 "WordAnchors$Row" "targets" "[I", .fieldLink RX4 21 "WordAnchors$Row" "size" "I", .fieldLink RX4 9 "WordAnchors$Row" "words" "[I", .methodLink RX4 29 yX4_takesAt, .instanceMethod yX4_takesAt, .selects RX4 yX4_takesAt yX4_takesAt, .initialized RX4, .code yX4_takesAt cX4_takesAt 2 (some .boolean), .methodLink RX4 32 yX4_isFull, .instanceMethod yX4_isFull, .selects RX4 yX4_isFull yX4_isFull, .code yX4_isFull cX4_isFull 1 (some .boolean), .methodLink RX4 36 yX4_relocate, .instanceMethod yX4_relocate, .selects RX4 yX4_relocate yX4_relocate, .code yX4_relocate cX4_relocate 4 none, .fieldLink RX4 18 "WordAnchors$Row" "relocated" "[I", .methodLink RX4 48 yX4_targetOf, .instanceMethod yX4_targetOf, .selects RX4 yX4_targetOf yX4_targetOf, .code yX4_targetOf cX4_targetOf 2 (some .int)] ++ wsX40)
def wsX4_remove : List Cond := .code yX4_remove cX4_remove 3 none :: ([.fieldLink RX4 15 "WordAnchors$Row" "targets" "[I", .fieldLink RX4 21 "WordAnchors$Row" "size" "I", .methodLink RX4 25 yX4_holds, .instanceMethod yX4_holds, .selects RX4 yX4_holds yX4_holds, .initialized RX4, .code yX4_holds cX4_holds 2 (some .boolean), .fieldLink RX4 9 "WordAnchors$Row" "words" "[I", .methodLink RX4 36 yX4_relocate, .instanceMethod yX4_relocate, .selects RX4 yX4_relocate yX4_relocate, .code yX4_relocate cX4_relocate 4 none, .fieldLink RX4 18 "WordAnchors$Row" "relocated" "[I", .methodLink RX4 48 yX4_targetOf, .instanceMethod yX4_targetOf, .selects RX4 yX4_targetOf yX4_targetOf, .code yX4_targetOf cX4_targetOf 2 (some .int)] ++ wsX40)
def wsX4_replace : List Cond := .code yX4_replace cX4_replace 4 none :: ([.fieldLink RX4 15 "WordAnchors$Row" "targets" "[I", .fieldLink RX4 9 "WordAnchors$Row" "words" "[I", .methodLink RX4 25 yX4_holds, .instanceMethod yX4_holds, .selects RX4 yX4_holds yX4_holds, .initialized RX4, .code yX4_holds cX4_holds 2 (some .boolean), .fieldLink RX4 21 "WordAnchors$Row" "size" "I"] ++ wsX40)
def wsX4_placeAfterShift : List Cond := .code yX4_placeAfterShift cX4_placeAfterShift 5 (some .int) :: ([])
def wsX4_shift : List Cond := .code yX4_shift cX4_shift 5 none :: ([.fieldLink RX4 15 "WordAnchors$Row" "targets" "[I", .fieldLink RX4 21 "WordAnchors$Row" "size" "I", .methodLink RX4 40 yX4_canShift, .instanceMethod yX4_canShift, .selects RX4 yX4_canShift yX4_canShift, .initialized RX4, .code yX4_canShift cX4_canShift 4 (some .boolean), .methodLink RX4 25 yX4_holds, .instanceMethod yX4_holds, .selects RX4 yX4_holds yX4_holds, .code yX4_holds cX4_holds 2 (some .boolean), .fieldLink RX4 9 "WordAnchors$Row" "words" "[I", .methodLink RX4 44 yX4_placeAfterShift, .static yX4_placeAfterShift, .code yX4_placeAfterShift cX4_placeAfterShift 5 (some .int), .methodLink RX4 36 yX4_relocate, .instanceMethod yX4_relocate, .selects RX4 yX4_relocate yX4_relocate, .code yX4_relocate cX4_relocate 4 none, .fieldLink RX4 18 "WordAnchors$Row" "relocated" "[I", .methodLink RX4 48 yX4_targetOf, .instanceMethod yX4_targetOf, .selects RX4 yX4_targetOf yX4_targetOf, .code yX4_targetOf cX4_targetOf 2 (some .int)] ++ wsX40)
def wsX4_wordsElsewhere : List Cond := .code yX4_wordsElsewhere cX4_wordsElsewhere 3 (some .int) :: ([.fieldLink RX4 21 "WordAnchors$Row" "size" "I", .methodLink RX4 48 yX4_targetOf, .instanceMethod yX4_targetOf, .selects RX4 yX4_targetOf yX4_targetOf, .initialized RX4, .code yX4_targetOf cX4_targetOf 2 (some .int), .fieldLink RX4 15 "WordAnchors$Row" "targets" "[I"] ++ wsX40)
def wsX4_standsAhead : List Cond := .code yX4_standsAhead cX4_standsAhead 3 (some .boolean) :: ([.methodLink RX4 55 yX4_at, .instanceMethod yX4_at, .selects RX4 yX4_at yX4_at, .initialized RX4, .code yX4_at cX4_at 2 (some .int), .fieldLink RX4 21 "WordAnchors$Row" "size" "I", .fieldLink RX4 9 "WordAnchors$Row" "words" "[I"] ++ wsX40)
def wsX4_unlikeWords : List Cond := .code yX4_unlikeWords cX4_unlikeWords 3 (some .int) :: ([.fieldLink RX4 21 "WordAnchors$Row" "size" "I", .methodLink RX4 52 yX4_standsAhead, .instanceMethod yX4_standsAhead, .selects RX4 yX4_standsAhead yX4_standsAhead, .initialized RX4, .code yX4_standsAhead cX4_standsAhead 3 (some .boolean), .methodLink RX4 55 yX4_at, .instanceMethod yX4_at, .selects RX4 yX4_at yX4_at, .code yX4_at cX4_at 2 (some .int), .fieldLink RX4 9 "WordAnchors$Row" "words" "[I"] ++ wsX40)
def wsX5_edits : List Cond := .code yX5_edits cX5_edits 1 (some .int) :: ([.fieldLink RX5 33 "WordAnchors$State" "edits" "I"] ++ wsX50)
def wsX5_changeSetting : List Cond := .code yX5_changeSetting cX5_changeSetting 3 none :: ([.fieldLink RX5 24 "WordAnchors$State" "settings" "[I"] ++ wsX50)
def wsX5_addAnchor_r1 : List Cond := [Cond.fieldLink RX5 29 "WordAnchors$State" "anchorCount" "I", Cond.fieldLink RX5 20 "WordAnchors$State" "anchors" "[LWordAnchors$Anchor;", Cond.fieldLink RX5 12 "WordAnchors$State" "row" "LWordAnchors$Row;", Cond.methodLink RX5 36 yX5_anchorNumbered, Cond.instanceMethod yX5_anchorNumbered, Cond.selects RX5 yX5_anchorNumbered yX5_anchorNumbered, Cond.initialized RX5, Cond.code yX5_anchorNumbered cX5_anchorNumbered 2 (some (.object "WordAnchors$Anchor")), Cond.methodLink RX5 40 yX0_setAt, Cond.instanceMethod yX0_setAt, Cond.selects RX0 yX0_setAt yX0_setAt, Cond.initialized RX0, Cond.code yX0_setAt cX0_setAt 3 none, Cond.methodLink RX0 22 yX0_goTo, Cond.instanceMethod yX0_goTo, Cond.selects RX0 yX0_goTo yX0_goTo, Cond.code yX0_goTo cX0_goTo 2 none, Cond.fieldLink RX0 15 "WordAnchors$Anchor" "place" "I", Cond.methodLink RX0 26 yX0_look, Cond.instanceMethod yX0_look, Cond.selects RX0 yX0_look yX0_look, Cond.code yX0_look cX0_look 5 (some .int), Cond.fieldLink RX0 9 "WordAnchors$Anchor" "things" "[I", Cond.fieldLink RX0 19 "WordAnchors$Anchor" "truePlace" "I"]
def wsX5_addAnchor_r2 : List Cond := [Cond.methodLink RX0 30 yX4_at, Cond.instanceMethod yX4_at, Cond.selects RX4 yX4_at yX4_at, Cond.initialized RX4, Cond.code yX4_at cX4_at 2 (some .int), Cond.fieldLink RX4 21 "WordAnchors$Row" "size" "I", Cond.fieldLink RX4 9 "WordAnchors$Row" "words" "[I"]
def wsX5_addAnchor : List Cond := .code yX5_addAnchor cX5_addAnchor 3 none :: ((wsX5_addAnchor_r1 ++ wsX5_addAnchor_r2) ++ wsX50 ++ wsX00 ++ wsX40)
def wsX5_removeAnchor : List Cond := .code yX5_removeAnchor cX5_removeAnchor 5 none :: ([.fieldLink RX5 29 "WordAnchors$State" "anchorCount" "I", .methodLink RX5 36 yX5_anchorNumbered, .instanceMethod yX5_anchorNumbered, .selects RX5 yX5_anchorNumbered yX5_anchorNumbered, .initialized RX5, .code yX5_anchorNumbered cX5_anchorNumbered 2 (some (.object "WordAnchors$Anchor")), .fieldLink RX5 20 "WordAnchors$State" "anchors" "[LWordAnchors$Anchor;", .methodLink RX5 44 yX0_copyFrom, .instanceMethod yX0_copyFrom, .selects RX0 yX0_copyFrom yX0_copyFrom, .initialized RX0, .code yX0_copyFrom cX0_copyFrom 3 none, .fieldLink RX0 15 "WordAnchors$Anchor" "place" "I", .fieldLink RX0 19 "WordAnchors$Anchor" "truePlace" "I", .fieldLink RX0 9 "WordAnchors$Anchor" "things" "[I", .methodLink RX0 39 yX0_thing, .instanceMethod yX0_thing, .selects RX0 yX0_thing yX0_thing, .code yX0_thing cX0_thing 2 (some .int)] ++ wsX50 ++ wsX00)
def wsX5_followWords : List Cond := .code yX5_followWords cX5_followWords 3 none :: ([.fieldLink RX5 33 "WordAnchors$State" "edits" "I", .fieldLink RX5 29 "WordAnchors$State" "anchorCount" "I", .fieldLink RX5 12 "WordAnchors$State" "row" "LWordAnchors$Row;", .methodLink RX5 36 yX5_anchorNumbered, .instanceMethod yX5_anchorNumbered, .selects RX5 yX5_anchorNumbered yX5_anchorNumbered, .initialized RX5, .code yX5_anchorNumbered cX5_anchorNumbered 2 (some (.object "WordAnchors$Anchor")), .fieldLink RX5 20 "WordAnchors$State" "anchors" "[LWordAnchors$Anchor;", .methodLink RX5 66 yX0_followWord, .instanceMethod yX0_followWord, .selects RX0 yX0_followWord yX0_followWord, .initialized RX0, .code yX0_followWord cX0_followWord 2 none, .fieldLink RX0 19 "WordAnchors$Anchor" "truePlace" "I", .methodLink RX0 36 yX4_targetOf, .instanceMethod yX4_targetOf, .selects RX4 yX4_targetOf yX4_targetOf, .initialized RX4, .code yX4_targetOf cX4_targetOf 2 (some .int), .fieldLink RX4 15 "WordAnchors$Row" "targets" "[I"] ++ wsX50 ++ wsX00 ++ wsX40)
def wsX5_insertWord_r1 : List Cond := [Cond.fieldLink RX5 12 "WordAnchors$State" "row" "LWordAnchors$Row;", Cond.methodLink RX5 48 yX4_insert, Cond.instanceMethod yX4_insert, Cond.selects RX4 yX4_insert yX4_insert, Cond.initialized RX4, Cond.code yX4_insert cX4_insert 4 none, Cond.fieldLink RX4 15 "WordAnchors$Row" "targets" "[I", Cond.fieldLink RX4 21 "WordAnchors$Row" "size" "I", Cond.fieldLink RX4 9 "WordAnchors$Row" "words" "[I", Cond.methodLink RX4 29 yX4_takesAt, Cond.instanceMethod yX4_takesAt, Cond.selects RX4 yX4_takesAt yX4_takesAt, Cond.code yX4_takesAt cX4_takesAt 2 (some .boolean), Cond.methodLink RX4 32 yX4_isFull, Cond.instanceMethod yX4_isFull, Cond.selects RX4 yX4_isFull yX4_isFull, Cond.code yX4_isFull cX4_isFull 1 (some .boolean), Cond.methodLink RX4 36 yX4_relocate, Cond.instanceMethod yX4_relocate, Cond.selects RX4 yX4_relocate yX4_relocate, Cond.code yX4_relocate cX4_relocate 4 none, Cond.fieldLink RX4 18 "WordAnchors$Row" "relocated" "[I", Cond.methodLink RX4 48 yX4_targetOf, Cond.instanceMethod yX4_targetOf]
def wsX5_insertWord_r2 : List Cond := [Cond.selects RX4 yX4_targetOf yX4_targetOf, Cond.code yX4_targetOf cX4_targetOf 2 (some .int), Cond.methodLink RX5 52 yX5_followWords, Cond.instanceMethod yX5_followWords, Cond.selects RX5 yX5_followWords yX5_followWords, Cond.initialized RX5, Cond.code yX5_followWords cX5_followWords 3 none, Cond.fieldLink RX5 33 "WordAnchors$State" "edits" "I", Cond.fieldLink RX5 29 "WordAnchors$State" "anchorCount" "I", Cond.methodLink RX5 36 yX5_anchorNumbered, Cond.instanceMethod yX5_anchorNumbered, Cond.selects RX5 yX5_anchorNumbered yX5_anchorNumbered, Cond.code yX5_anchorNumbered cX5_anchorNumbered 2 (some (.object "WordAnchors$Anchor")), Cond.fieldLink RX5 20 "WordAnchors$State" "anchors" "[LWordAnchors$Anchor;", Cond.methodLink RX5 66 yX0_followWord, Cond.instanceMethod yX0_followWord, Cond.selects RX0 yX0_followWord yX0_followWord, Cond.initialized RX0, Cond.code yX0_followWord cX0_followWord 2 none, Cond.fieldLink RX0 19 "WordAnchors$Anchor" "truePlace" "I", Cond.methodLink RX0 36 yX4_targetOf]
def wsX5_insertWord : List Cond := .code yX5_insertWord cX5_insertWord 3 none :: ((wsX5_insertWord_r1 ++ wsX5_insertWord_r2) ++ wsX50 ++ wsX40 ++ wsX00)
def wsX5_removeWord_r1 : List Cond := [Cond.fieldLink RX5 12 "WordAnchors$State" "row" "LWordAnchors$Row;", Cond.methodLink RX5 55 yX4_remove, Cond.instanceMethod yX4_remove, Cond.selects RX4 yX4_remove yX4_remove, Cond.initialized RX4, Cond.code yX4_remove cX4_remove 3 none, Cond.fieldLink RX4 15 "WordAnchors$Row" "targets" "[I", Cond.fieldLink RX4 21 "WordAnchors$Row" "size" "I", Cond.methodLink RX4 25 yX4_holds, Cond.instanceMethod yX4_holds, Cond.selects RX4 yX4_holds yX4_holds, Cond.code yX4_holds cX4_holds 2 (some .boolean), Cond.fieldLink RX4 9 "WordAnchors$Row" "words" "[I", Cond.methodLink RX4 36 yX4_relocate, Cond.instanceMethod yX4_relocate, Cond.selects RX4 yX4_relocate yX4_relocate, Cond.code yX4_relocate cX4_relocate 4 none, Cond.fieldLink RX4 18 "WordAnchors$Row" "relocated" "[I", Cond.methodLink RX4 48 yX4_targetOf, Cond.instanceMethod yX4_targetOf, Cond.selects RX4 yX4_targetOf yX4_targetOf, Cond.code yX4_targetOf cX4_targetOf 2 (some .int), Cond.methodLink RX5 52 yX5_followWords, Cond.instanceMethod yX5_followWords]
def wsX5_removeWord_r2 : List Cond := [Cond.selects RX5 yX5_followWords yX5_followWords, Cond.initialized RX5, Cond.code yX5_followWords cX5_followWords 3 none, Cond.fieldLink RX5 33 "WordAnchors$State" "edits" "I", Cond.fieldLink RX5 29 "WordAnchors$State" "anchorCount" "I", Cond.methodLink RX5 36 yX5_anchorNumbered, Cond.instanceMethod yX5_anchorNumbered, Cond.selects RX5 yX5_anchorNumbered yX5_anchorNumbered, Cond.code yX5_anchorNumbered cX5_anchorNumbered 2 (some (.object "WordAnchors$Anchor")), Cond.fieldLink RX5 20 "WordAnchors$State" "anchors" "[LWordAnchors$Anchor;", Cond.methodLink RX5 66 yX0_followWord, Cond.instanceMethod yX0_followWord, Cond.selects RX0 yX0_followWord yX0_followWord, Cond.initialized RX0, Cond.code yX0_followWord cX0_followWord 2 none, Cond.fieldLink RX0 19 "WordAnchors$Anchor" "truePlace" "I", Cond.methodLink RX0 36 yX4_targetOf]
def wsX5_removeWord : List Cond := .code yX5_removeWord cX5_removeWord 2 none :: ((wsX5_removeWord_r1 ++ wsX5_removeWord_r2) ++ wsX50 ++ wsX40 ++ wsX00)
def wsX5_replaceWord_r1 : List Cond := [Cond.fieldLink RX5 12 "WordAnchors$State" "row" "LWordAnchors$Row;", Cond.methodLink RX5 59 yX4_replace, Cond.instanceMethod yX4_replace, Cond.selects RX4 yX4_replace yX4_replace, Cond.initialized RX4, Cond.code yX4_replace cX4_replace 4 none, Cond.fieldLink RX4 15 "WordAnchors$Row" "targets" "[I", Cond.fieldLink RX4 9 "WordAnchors$Row" "words" "[I", Cond.methodLink RX4 25 yX4_holds, Cond.instanceMethod yX4_holds, Cond.selects RX4 yX4_holds yX4_holds, Cond.code yX4_holds cX4_holds 2 (some .boolean), Cond.fieldLink RX4 21 "WordAnchors$Row" "size" "I", Cond.methodLink RX5 52 yX5_followWords, Cond.instanceMethod yX5_followWords, Cond.selects RX5 yX5_followWords yX5_followWords, Cond.initialized RX5, Cond.code yX5_followWords cX5_followWords 3 none, Cond.fieldLink RX5 33 "WordAnchors$State" "edits" "I", Cond.fieldLink RX5 29 "WordAnchors$State" "anchorCount" "I", Cond.methodLink RX5 36 yX5_anchorNumbered, Cond.instanceMethod yX5_anchorNumbered, Cond.selects RX5 yX5_anchorNumbered yX5_anchorNumbered, Cond.code yX5_anchorNumbered cX5_anchorNumbered 2 (some (.object "WordAnchors$Anchor"))]
def wsX5_replaceWord_r2 : List Cond := [Cond.fieldLink RX5 20 "WordAnchors$State" "anchors" "[LWordAnchors$Anchor;", Cond.methodLink RX5 66 yX0_followWord, Cond.instanceMethod yX0_followWord, Cond.selects RX0 yX0_followWord yX0_followWord, Cond.initialized RX0, Cond.code yX0_followWord cX0_followWord 2 none, Cond.fieldLink RX0 19 "WordAnchors$Anchor" "truePlace" "I", Cond.methodLink RX0 36 yX4_targetOf, Cond.instanceMethod yX4_targetOf, Cond.selects RX4 yX4_targetOf yX4_targetOf, Cond.code yX4_targetOf cX4_targetOf 2 (some .int)]
def wsX5_replaceWord : List Cond := .code yX5_replaceWord cX5_replaceWord 3 none :: ((wsX5_replaceWord_r1 ++ wsX5_replaceWord_r2) ++ wsX50 ++ wsX40 ++ wsX00)
def wsX5_shiftWords_r1 : List Cond := [Cond.fieldLink RX5 12 "WordAnchors$State" "row" "LWordAnchors$Row;", Cond.methodLink RX5 62 yX4_shift, Cond.instanceMethod yX4_shift, Cond.selects RX4 yX4_shift yX4_shift, Cond.initialized RX4, Cond.code yX4_shift cX4_shift 5 none, Cond.fieldLink RX4 15 "WordAnchors$Row" "targets" "[I", Cond.fieldLink RX4 21 "WordAnchors$Row" "size" "I", Cond.methodLink RX4 40 yX4_canShift, Cond.instanceMethod yX4_canShift, Cond.selects RX4 yX4_canShift yX4_canShift, Cond.code yX4_canShift cX4_canShift 4 (some .boolean), Cond.methodLink RX4 25 yX4_holds, Cond.instanceMethod yX4_holds, Cond.selects RX4 yX4_holds yX4_holds, Cond.code yX4_holds cX4_holds 2 (some .boolean), Cond.fieldLink RX4 9 "WordAnchors$Row" "words" "[I", Cond.methodLink RX4 44 yX4_placeAfterShift, Cond.static yX4_placeAfterShift, Cond.code yX4_placeAfterShift cX4_placeAfterShift 5 (some .int), Cond.methodLink RX4 36 yX4_relocate, Cond.instanceMethod yX4_relocate, Cond.selects RX4 yX4_relocate yX4_relocate, Cond.code yX4_relocate cX4_relocate 4 none]
def wsX5_shiftWords_r2 : List Cond := [Cond.fieldLink RX4 18 "WordAnchors$Row" "relocated" "[I", Cond.methodLink RX4 48 yX4_targetOf, Cond.instanceMethod yX4_targetOf, Cond.selects RX4 yX4_targetOf yX4_targetOf, Cond.code yX4_targetOf cX4_targetOf 2 (some .int), Cond.methodLink RX5 52 yX5_followWords, Cond.instanceMethod yX5_followWords, Cond.selects RX5 yX5_followWords yX5_followWords, Cond.initialized RX5, Cond.code yX5_followWords cX5_followWords 3 none, Cond.fieldLink RX5 33 "WordAnchors$State" "edits" "I", Cond.fieldLink RX5 29 "WordAnchors$State" "anchorCount" "I", Cond.methodLink RX5 36 yX5_anchorNumbered, Cond.instanceMethod yX5_anchorNumbered, Cond.selects RX5 yX5_anchorNumbered yX5_anchorNumbered, Cond.code yX5_anchorNumbered cX5_anchorNumbered 2 (some (.object "WordAnchors$Anchor")), Cond.fieldLink RX5 20 "WordAnchors$State" "anchors" "[LWordAnchors$Anchor;", Cond.methodLink RX5 66 yX0_followWord, Cond.instanceMethod yX0_followWord, Cond.selects RX0 yX0_followWord yX0_followWord, Cond.initialized RX0, Cond.code yX0_followWord cX0_followWord 2 none, Cond.fieldLink RX0 19 "WordAnchors$Anchor" "truePlace" "I", Cond.methodLink RX0 36 yX4_targetOf]
def wsX5_shiftWords : List Cond := .code yX5_shiftWords cX5_shiftWords 4 none :: ((wsX5_shiftWords_r1 ++ wsX5_shiftWords_r2) ++ wsX50 ++ wsX40 ++ wsX00)
def wsX5_nextBestPlace_r1 : List Cond := [Cond.methodLink RX5 89 yX5_bestPlace, Cond.instanceMethod yX5_bestPlace, Cond.selects RX5 yX5_bestPlace yX5_bestPlace, Cond.initialized RX5, Cond.code yX5_bestPlace cX5_bestPlace 2 (some .int), Cond.methodLink RX5 85 yX5_bestPlaceBut, Cond.instanceMethod yX5_bestPlaceBut, Cond.selects RX5 yX5_bestPlaceBut yX5_bestPlaceBut, Cond.code yX5_bestPlaceBut cX5_bestPlaceBut 10 (some .int), Cond.fieldLink RX5 12 "WordAnchors$State" "row" "LWordAnchors$Row;", Cond.methodLink RX5 77 Lib.Math.abs.name, Cond.static Lib.Math.abs.name, Cond.initialized "java/lang/Math", Cond.code Lib.Math.abs.name Lib.Math.abs.code 1 (some .int), Cond.methodLink RX5 93 yX4_size, Cond.instanceMethod yX4_size, Cond.selects RX4 yX4_size yX4_size, Cond.initialized RX4, Cond.code yX4_size cX4_size 1 (some .int), Cond.fieldLink RX4 21 "WordAnchors$Row" "size" "I", Cond.methodLink RX5 97 yX5_scoreOf, Cond.instanceMethod yX5_scoreOf, Cond.selects RX5 yX5_scoreOf yX5_scoreOf, Cond.code yX5_scoreOf cX5_scoreOf 6 (some .int)]
def wsX5_nextBestPlace_r2 : List Cond := [Cond.methodLink RX5 70 yX0_thing, Cond.instanceMethod yX0_thing, Cond.selects RX0 yX0_thing yX0_thing, Cond.initialized RX0, Cond.code yX0_thing cX0_thing 2 (some .int), Cond.fieldLink RX0 9 "WordAnchors$Anchor" "things" "[I", Cond.methodLink RX5 74 yX4_at, Cond.instanceMethod yX4_at, Cond.selects RX4 yX4_at yX4_at, Cond.code yX4_at cX4_at 2 (some .int), Cond.fieldLink RX4 9 "WordAnchors$Row" "words" "[I", Cond.methodLink RX5 82 yX5_setting, Cond.instanceMethod yX5_setting, Cond.selects RX5 yX5_setting yX5_setting, Cond.code yX5_setting cX5_setting 2 (some .int), Cond.fieldLink RX5 24 "WordAnchors$State" "settings" "[I", Cond.methodLink RX5 100 yX0_place, Cond.instanceMethod yX0_place, Cond.selects RX0 yX0_place yX0_place, Cond.code yX0_place cX0_place 1 (some .int), Cond.fieldLink RX0 15 "WordAnchors$Anchor" "place" "I"]
def wsX5_nextBestPlace : List Cond := .code yX5_nextBestPlace cX5_nextBestPlace 2 (some .int) :: ((wsX5_nextBestPlace_r1 ++ wsX5_nextBestPlace_r2) ++ wsX50 ++ wsX40 ++ wsX00)
def wsX5_standingOf_r1 : List Cond := [Cond.methodLink RX5 89 yX5_bestPlace, Cond.instanceMethod yX5_bestPlace, Cond.selects RX5 yX5_bestPlace yX5_bestPlace, Cond.initialized RX5, Cond.code yX5_bestPlace cX5_bestPlace 2 (some .int), Cond.methodLink RX5 85 yX5_bestPlaceBut, Cond.instanceMethod yX5_bestPlaceBut, Cond.selects RX5 yX5_bestPlaceBut yX5_bestPlaceBut, Cond.code yX5_bestPlaceBut cX5_bestPlaceBut 10 (some .int), Cond.fieldLink RX5 12 "WordAnchors$State" "row" "LWordAnchors$Row;", Cond.methodLink RX5 77 Lib.Math.abs.name, Cond.static Lib.Math.abs.name, Cond.initialized "java/lang/Math", Cond.code Lib.Math.abs.name Lib.Math.abs.code 1 (some .int), Cond.methodLink RX5 93 yX4_size, Cond.instanceMethod yX4_size, Cond.selects RX4 yX4_size yX4_size, Cond.initialized RX4, Cond.code yX4_size cX4_size 1 (some .int), Cond.fieldLink RX4 21 "WordAnchors$Row" "size" "I", Cond.methodLink RX5 97 yX5_scoreOf, Cond.instanceMethod yX5_scoreOf, Cond.selects RX5 yX5_scoreOf yX5_scoreOf, Cond.code yX5_scoreOf cX5_scoreOf 6 (some .int)]
def wsX5_standingOf_r2 : List Cond := [Cond.methodLink RX5 70 yX0_thing, Cond.instanceMethod yX0_thing, Cond.selects RX0 yX0_thing yX0_thing, Cond.initialized RX0, Cond.code yX0_thing cX0_thing 2 (some .int), Cond.fieldLink RX0 9 "WordAnchors$Anchor" "things" "[I", Cond.methodLink RX5 74 yX4_at, Cond.instanceMethod yX4_at, Cond.selects RX4 yX4_at yX4_at, Cond.code yX4_at cX4_at 2 (some .int), Cond.fieldLink RX4 9 "WordAnchors$Row" "words" "[I", Cond.methodLink RX5 82 yX5_setting, Cond.instanceMethod yX5_setting, Cond.selects RX5 yX5_setting yX5_setting, Cond.code yX5_setting cX5_setting 2 (some .int), Cond.fieldLink RX5 24 "WordAnchors$State" "settings" "[I", Cond.methodLink RX5 100 yX0_place, Cond.instanceMethod yX0_place, Cond.selects RX0 yX0_place yX0_place, Cond.code yX0_place cX0_place 1 (some .int), Cond.fieldLink RX0 15 "WordAnchors$Anchor" "place" "I", Cond.methodLink RX5 103 yX5_isLost, Cond.instanceMethod yX5_isLost, Cond.selects RX5 yX5_isLost yX5_isLost]
def wsX5_standingOf_r3 : List Cond := [Cond.code yX5_isLost cX5_isLost 3 (some .boolean)]
def wsX5_standingOf : List Cond := .code yX5_standingOf cX5_standingOf 5 (some .int) :: ((wsX5_standingOf_r1 ++ (wsX5_standingOf_r2 ++ wsX5_standingOf_r3)) ++ wsX50 ++ wsX40 ++ wsX00)
def wsX5_isOfKind_r1 : List Cond := [Cond.methodLink RX5 89 yX5_bestPlace, Cond.instanceMethod yX5_bestPlace, Cond.selects RX5 yX5_bestPlace yX5_bestPlace, Cond.initialized RX5, Cond.code yX5_bestPlace cX5_bestPlace 2 (some .int), Cond.methodLink RX5 85 yX5_bestPlaceBut, Cond.instanceMethod yX5_bestPlaceBut, Cond.selects RX5 yX5_bestPlaceBut yX5_bestPlaceBut, Cond.code yX5_bestPlaceBut cX5_bestPlaceBut 10 (some .int), Cond.fieldLink RX5 12 "WordAnchors$State" "row" "LWordAnchors$Row;", Cond.methodLink RX5 77 Lib.Math.abs.name, Cond.static Lib.Math.abs.name, Cond.initialized "java/lang/Math", Cond.code Lib.Math.abs.name Lib.Math.abs.code 1 (some .int), Cond.methodLink RX5 93 yX4_size, Cond.instanceMethod yX4_size, Cond.selects RX4 yX4_size yX4_size, Cond.initialized RX4, Cond.code yX4_size cX4_size 1 (some .int), Cond.fieldLink RX4 21 "WordAnchors$Row" "size" "I", Cond.methodLink RX5 97 yX5_scoreOf, Cond.instanceMethod yX5_scoreOf, Cond.selects RX5 yX5_scoreOf yX5_scoreOf, Cond.code yX5_scoreOf cX5_scoreOf 6 (some .int)]
def wsX5_isOfKind_r2 : List Cond := [Cond.methodLink RX5 70 yX0_thing, Cond.instanceMethod yX0_thing, Cond.selects RX0 yX0_thing yX0_thing, Cond.initialized RX0, Cond.code yX0_thing cX0_thing 2 (some .int), Cond.fieldLink RX0 9 "WordAnchors$Anchor" "things" "[I", Cond.methodLink RX5 74 yX4_at, Cond.instanceMethod yX4_at, Cond.selects RX4 yX4_at yX4_at, Cond.code yX4_at cX4_at 2 (some .int), Cond.fieldLink RX4 9 "WordAnchors$Row" "words" "[I", Cond.methodLink RX5 82 yX5_setting, Cond.instanceMethod yX5_setting, Cond.selects RX5 yX5_setting yX5_setting, Cond.code yX5_setting cX5_setting 2 (some .int), Cond.fieldLink RX5 24 "WordAnchors$State" "settings" "[I", Cond.methodLink RX5 100 yX0_place, Cond.instanceMethod yX0_place, Cond.selects RX0 yX0_place yX0_place, Cond.code yX0_place cX0_place 1 (some .int), Cond.fieldLink RX0 15 "WordAnchors$Anchor" "place" "I", Cond.methodLink RX5 103 yX5_isLost, Cond.instanceMethod yX5_isLost, Cond.selects RX5 yX5_isLost yX5_isLost]
def wsX5_isOfKind_r3 : List Cond := [Cond.code yX5_isLost cX5_isLost 3 (some .boolean), Cond.methodLink RX5 107 yX0_truePlace, Cond.instanceMethod yX0_truePlace, Cond.selects RX0 yX0_truePlace yX0_truePlace, Cond.code yX0_truePlace cX0_truePlace 1 (some .int), Cond.fieldLink RX0 19 "WordAnchors$Anchor" "truePlace" "I", Cond.methodLink RX5 110 yX5_standingOf, Cond.instanceMethod yX5_standingOf, Cond.selects RX5 yX5_standingOf yX5_standingOf, Cond.code yX5_standingOf cX5_standingOf 5 (some .int)]
def wsX5_isOfKind : List Cond := .code yX5_isOfKind cX5_isOfKind 3 (some .boolean) :: ((wsX5_isOfKind_r1 ++ (wsX5_isOfKind_r2 ++ wsX5_isOfKind_r3)) ++ wsX50 ++ wsX40 ++ wsX00)
def wsX5_anchorsOfKind_r1 : List Cond := [Cond.fieldLink RX5 29 "WordAnchors$State" "anchorCount" "I", Cond.methodLink RX5 36 yX5_anchorNumbered, Cond.instanceMethod yX5_anchorNumbered, Cond.selects RX5 yX5_anchorNumbered yX5_anchorNumbered, Cond.initialized RX5, Cond.code yX5_anchorNumbered cX5_anchorNumbered 2 (some (.object "WordAnchors$Anchor")), Cond.fieldLink RX5 20 "WordAnchors$State" "anchors" "[LWordAnchors$Anchor;", Cond.methodLink RX5 113 yX5_isOfKind, Cond.instanceMethod yX5_isOfKind, Cond.selects RX5 yX5_isOfKind yX5_isOfKind, Cond.code yX5_isOfKind cX5_isOfKind 3 (some .boolean), Cond.methodLink RX5 89 yX5_bestPlace, Cond.instanceMethod yX5_bestPlace, Cond.selects RX5 yX5_bestPlace yX5_bestPlace, Cond.code yX5_bestPlace cX5_bestPlace 2 (some .int), Cond.methodLink RX5 85 yX5_bestPlaceBut, Cond.instanceMethod yX5_bestPlaceBut, Cond.selects RX5 yX5_bestPlaceBut yX5_bestPlaceBut, Cond.code yX5_bestPlaceBut cX5_bestPlaceBut 10 (some .int), Cond.fieldLink RX5 12 "WordAnchors$State" "row" "LWordAnchors$Row;", Cond.methodLink RX5 77 Lib.Math.abs.name, Cond.static Lib.Math.abs.name, Cond.initialized "java/lang/Math", Cond.code Lib.Math.abs.name Lib.Math.abs.code 1 (some .int)]
def wsX5_anchorsOfKind_r2 : List Cond := [Cond.methodLink RX5 93 yX4_size, Cond.instanceMethod yX4_size, Cond.selects RX4 yX4_size yX4_size, Cond.initialized RX4, Cond.code yX4_size cX4_size 1 (some .int), Cond.fieldLink RX4 21 "WordAnchors$Row" "size" "I", Cond.methodLink RX5 97 yX5_scoreOf, Cond.instanceMethod yX5_scoreOf, Cond.selects RX5 yX5_scoreOf yX5_scoreOf, Cond.code yX5_scoreOf cX5_scoreOf 6 (some .int), Cond.methodLink RX5 70 yX0_thing, Cond.instanceMethod yX0_thing, Cond.selects RX0 yX0_thing yX0_thing, Cond.initialized RX0, Cond.code yX0_thing cX0_thing 2 (some .int), Cond.fieldLink RX0 9 "WordAnchors$Anchor" "things" "[I", Cond.methodLink RX5 74 yX4_at, Cond.instanceMethod yX4_at, Cond.selects RX4 yX4_at yX4_at, Cond.code yX4_at cX4_at 2 (some .int), Cond.fieldLink RX4 9 "WordAnchors$Row" "words" "[I", Cond.methodLink RX5 82 yX5_setting, Cond.instanceMethod yX5_setting, Cond.selects RX5 yX5_setting yX5_setting]
def wsX5_anchorsOfKind_r3 : List Cond := [Cond.code yX5_setting cX5_setting 2 (some .int), Cond.fieldLink RX5 24 "WordAnchors$State" "settings" "[I", Cond.methodLink RX5 100 yX0_place, Cond.instanceMethod yX0_place, Cond.selects RX0 yX0_place yX0_place, Cond.code yX0_place cX0_place 1 (some .int), Cond.fieldLink RX0 15 "WordAnchors$Anchor" "place" "I", Cond.methodLink RX5 103 yX5_isLost, Cond.instanceMethod yX5_isLost, Cond.selects RX5 yX5_isLost yX5_isLost, Cond.code yX5_isLost cX5_isLost 3 (some .boolean), Cond.methodLink RX5 107 yX0_truePlace, Cond.instanceMethod yX0_truePlace, Cond.selects RX0 yX0_truePlace yX0_truePlace, Cond.code yX0_truePlace cX0_truePlace 1 (some .int), Cond.fieldLink RX0 19 "WordAnchors$Anchor" "truePlace" "I", Cond.methodLink RX5 110 yX5_standingOf, Cond.instanceMethod yX5_standingOf, Cond.selects RX5 yX5_standingOf yX5_standingOf, Cond.code yX5_standingOf cX5_standingOf 5 (some .int)]
def wsX5_anchorsOfKind : List Cond := .code yX5_anchorsOfKind cX5_anchorsOfKind 5 (some .int) :: ((wsX5_anchorsOfKind_r1 ++ (wsX5_anchorsOfKind_r2 ++ wsX5_anchorsOfKind_r3)) ++ wsX50 ++ wsX40 ++ wsX00)
def wsX5_faultOf_r1 : List Cond := [Cond.fieldLink RX5 12 "WordAnchors$State" "row" "LWordAnchors$Row;", Cond.methodLink RX5 116 yX2_number, Cond.instanceMethod yX2_number, Cond.selects RX2 yX2_number yX2_number, Cond.initialized RX2, Cond.code yX2_number cX2_number 2 (some .int), Cond.fieldLink RX2 15 "WordAnchors$EditText" "numbers" "[I", Cond.methodLink RX5 121 yX2_sign, Cond.instanceMethod yX2_sign, Cond.selects RX2 yX2_sign yX2_sign, Cond.code yX2_sign cX2_sign 1 (some .char), Cond.fieldLink RX2 29 "WordAnchors$EditText" "sign" "C", Cond.methodLink RX5 125 yX4_takesAt, Cond.instanceMethod yX4_takesAt, Cond.selects RX4 yX4_takesAt yX4_takesAt, Cond.initialized RX4, Cond.code yX4_takesAt cX4_takesAt 2 (some .boolean), Cond.fieldLink RX4 21 "WordAnchors$Row" "size" "I", Cond.methodLink RX5 129 yX4_canShift, Cond.instanceMethod yX4_canShift, Cond.selects RX4 yX4_canShift yX4_canShift, Cond.code yX4_canShift cX4_canShift 4 (some .boolean), Cond.methodLink RX4 25 yX4_holds, Cond.instanceMethod yX4_holds]
def wsX5_faultOf_r2 : List Cond := [Cond.selects RX4 yX4_holds yX4_holds, Cond.code yX4_holds cX4_holds 2 (some .boolean), Cond.fieldLink RX4 9 "WordAnchors$Row" "words" "[I", Cond.methodLink RX5 133 yX4_holds, Cond.methodLink RX5 136 yX4_isFull, Cond.instanceMethod yX4_isFull, Cond.selects RX4 yX4_isFull yX4_isFull, Cond.code yX4_isFull cX4_isFull 1 (some .boolean)]
def wsX5_faultOf : List Cond := .code yX5_faultOf cX5_faultOf 4 (some .int) :: ((wsX5_faultOf_r1 ++ wsX5_faultOf_r2) ++ wsX50 ++ wsX20 ++ wsX40)
def wsX5_perform_r1 : List Cond := [Cond.methodLink RX5 116 yX2_number, Cond.instanceMethod yX2_number, Cond.selects RX2 yX2_number yX2_number, Cond.initialized RX2, Cond.code yX2_number cX2_number 2 (some .int), Cond.fieldLink RX2 15 "WordAnchors$EditText" "numbers" "[I", Cond.methodLink RX5 121 yX2_sign, Cond.instanceMethod yX2_sign, Cond.selects RX2 yX2_sign yX2_sign, Cond.code yX2_sign cX2_sign 1 (some .char), Cond.fieldLink RX2 29 "WordAnchors$EditText" "sign" "C", Cond.methodLink RX5 140 yX5_insertWord, Cond.instanceMethod yX5_insertWord, Cond.selects RX5 yX5_insertWord yX5_insertWord, Cond.initialized RX5, Cond.code yX5_insertWord cX5_insertWord 3 none, Cond.fieldLink RX5 12 "WordAnchors$State" "row" "LWordAnchors$Row;", Cond.methodLink RX5 48 yX4_insert, Cond.instanceMethod yX4_insert, Cond.selects RX4 yX4_insert yX4_insert, Cond.initialized RX4, Cond.code yX4_insert cX4_insert 4 none, Cond.fieldLink RX4 15 "WordAnchors$Row" "targets" "[I", Cond.fieldLink RX4 21 "WordAnchors$Row" "size" "I"]
def wsX5_perform_r2 : List Cond := [Cond.fieldLink RX4 9 "WordAnchors$Row" "words" "[I", Cond.methodLink RX4 29 yX4_takesAt, Cond.instanceMethod yX4_takesAt, Cond.selects RX4 yX4_takesAt yX4_takesAt, Cond.code yX4_takesAt cX4_takesAt 2 (some .boolean), Cond.methodLink RX4 32 yX4_isFull, Cond.instanceMethod yX4_isFull, Cond.selects RX4 yX4_isFull yX4_isFull, Cond.code yX4_isFull cX4_isFull 1 (some .boolean), Cond.methodLink RX4 36 yX4_relocate, Cond.instanceMethod yX4_relocate, Cond.selects RX4 yX4_relocate yX4_relocate, Cond.code yX4_relocate cX4_relocate 4 none, Cond.fieldLink RX4 18 "WordAnchors$Row" "relocated" "[I", Cond.methodLink RX4 48 yX4_targetOf, Cond.instanceMethod yX4_targetOf, Cond.selects RX4 yX4_targetOf yX4_targetOf, Cond.code yX4_targetOf cX4_targetOf 2 (some .int), Cond.methodLink RX5 52 yX5_followWords, Cond.instanceMethod yX5_followWords, Cond.selects RX5 yX5_followWords yX5_followWords, Cond.code yX5_followWords cX5_followWords 3 none, Cond.fieldLink RX5 33 "WordAnchors$State" "edits" "I", Cond.fieldLink RX5 29 "WordAnchors$State" "anchorCount" "I"]
def wsX5_perform_r3 : List Cond := [Cond.methodLink RX5 36 yX5_anchorNumbered, Cond.instanceMethod yX5_anchorNumbered, Cond.selects RX5 yX5_anchorNumbered yX5_anchorNumbered, Cond.code yX5_anchorNumbered cX5_anchorNumbered 2 (some (.object "WordAnchors$Anchor")), Cond.fieldLink RX5 20 "WordAnchors$State" "anchors" "[LWordAnchors$Anchor;", Cond.methodLink RX5 66 yX0_followWord, Cond.instanceMethod yX0_followWord, Cond.selects RX0 yX0_followWord yX0_followWord, Cond.initialized RX0, Cond.code yX0_followWord cX0_followWord 2 none, Cond.fieldLink RX0 19 "WordAnchors$Anchor" "truePlace" "I", Cond.methodLink RX0 36 yX4_targetOf, Cond.methodLink RX5 143 yX5_removeWord, Cond.instanceMethod yX5_removeWord, Cond.selects RX5 yX5_removeWord yX5_removeWord, Cond.code yX5_removeWord cX5_removeWord 2 none, Cond.methodLink RX5 55 yX4_remove, Cond.instanceMethod yX4_remove, Cond.selects RX4 yX4_remove yX4_remove, Cond.code yX4_remove cX4_remove 3 none, Cond.methodLink RX4 25 yX4_holds, Cond.instanceMethod yX4_holds, Cond.selects RX4 yX4_holds yX4_holds, Cond.code yX4_holds cX4_holds 2 (some .boolean)]
def wsX5_perform_r4 : List Cond := [Cond.methodLink RX5 146 yX5_replaceWord, Cond.instanceMethod yX5_replaceWord, Cond.selects RX5 yX5_replaceWord yX5_replaceWord, Cond.code yX5_replaceWord cX5_replaceWord 3 none, Cond.methodLink RX5 59 yX4_replace, Cond.instanceMethod yX4_replace, Cond.selects RX4 yX4_replace yX4_replace, Cond.code yX4_replace cX4_replace 4 none, Cond.methodLink RX5 149 yX5_shiftWords, Cond.instanceMethod yX5_shiftWords, Cond.selects RX5 yX5_shiftWords yX5_shiftWords, Cond.code yX5_shiftWords cX5_shiftWords 4 none, Cond.methodLink RX5 62 yX4_shift, Cond.instanceMethod yX4_shift, Cond.selects RX4 yX4_shift yX4_shift, Cond.code yX4_shift cX4_shift 5 none, Cond.methodLink RX4 40 yX4_canShift, Cond.instanceMethod yX4_canShift, Cond.selects RX4 yX4_canShift yX4_canShift, Cond.code yX4_canShift cX4_canShift 4 (some .boolean), Cond.methodLink RX4 44 yX4_placeAfterShift, Cond.static yX4_placeAfterShift, Cond.code yX4_placeAfterShift cX4_placeAfterShift 5 (some .int)]
def wsX5_perform : List Cond := .code yX5_perform cX5_perform 3 none :: ((wsX5_perform_r1 ++ (wsX5_perform_r2 ++ (wsX5_perform_r3 ++ wsX5_perform_r4))) ++ wsX20 ++ wsX50 ++ wsX40 ++ wsX00)
def wsX6_init_r1 : List Cond := [Cond.methodLink RX6 1 objectInit, Cond.instanceMethod objectInit, Cond.code objectInit ⟨#[0xb1]⟩ 1 none, Cond.classLink RX6 7 RX5, Cond.instantiable RX5 5, Cond.initialized RX5, Cond.fieldLink RX6 10 "WordAnchors" "now" "LWordAnchors$State;", Cond.fieldLink RX6 16 "WordAnchors" "trial" "LWordAnchors$State;", Cond.classLink RX6 19 RX3, Cond.instantiable RX3 3, Cond.initialized RX3, Cond.fieldLink RX6 22 "WordAnchors" "history" "LWordAnchors$History;", Cond.classLink RX6 26 RX2, Cond.instantiable RX2 6, Cond.initialized RX2, Cond.fieldLink RX6 29 "WordAnchors" "text" "LWordAnchors$EditText;", Cond.classLink RX6 33 RX1, Cond.instantiable RX1 3, Cond.initialized RX1, Cond.fieldLink RX6 36 "WordAnchors" "blocks" "LWordAnchors$Blocks;", Cond.classLink RX6 40 RX0, Cond.instantiable RX0 3, Cond.initialized RX0, Cond.fieldLink RX6 43 "WordAnchors" "probe" "LWordAnchors$Anchor;"]
def wsX6_init_r2 : List Cond := [Cond.methodLink RX6 9 yX5_init, Cond.instanceMethod yX5_init, Cond.code yX5_init cX5_init 2 none, Cond.methodLink RX5 3 objectInit, Cond.classLink RX5 9 RX4, Cond.instantiable RX4 4, Cond.initialized RX4, Cond.fieldLink RX5 12 "WordAnchors$State" "row" "LWordAnchors$Row;", Cond.classLink RX5 18 RX0, Cond.fieldLink RX5 20 "WordAnchors$State" "anchors" "[LWordAnchors$Anchor;", Cond.arrayClass .int, Cond.fieldLink RX5 24 "WordAnchors$State" "settings" "[I", Cond.instanceMethod yX4_init, Cond.code yX4_init cX4_init 1 none, Cond.methodLink RX4 3 objectInit, Cond.fieldLink RX4 9 "WordAnchors$Row" "words" "[I", Cond.fieldLink RX4 15 "WordAnchors$Row" "targets" "[I", Cond.fieldLink RX4 18 "WordAnchors$Row" "relocated" "[I", Cond.instanceMethod yX0_init, Cond.code yX0_init cX0_init 1 none, Cond.methodLink RX0 3 objectInit, Cond.fieldLink RX0 9 "WordAnchors$Anchor" "things" "[I", Cond.methodLink RX6 21 yX3_init, Cond.instanceMethod yX3_init]
def wsX6_init_r3 : List Cond := [Cond.code yX3_init cX3_init 2 none, Cond.methodLink RX3 3 objectInit, Cond.classLink RX3 9 RX5, Cond.fieldLink RX3 11 "WordAnchors$History" "states" "[LWordAnchors$State;", Cond.methodLink RX3 17 yX5_init, Cond.instanceMethod yX2_init, Cond.code yX2_init cX2_init 1 none, Cond.methodLink RX2 3 objectInit, Cond.arrayClass .char, Cond.fieldLink RX2 9 "WordAnchors$EditText" "characters" "[C", Cond.fieldLink RX2 15 "WordAnchors$EditText" "numbers" "[I", Cond.instanceMethod yX1_init, Cond.code yX1_init cX1_init 1 none, Cond.methodLink RX1 3 objectInit, Cond.fieldLink RX1 9 "WordAnchors$Blocks" "shifts" "[I", Cond.fieldLink RX1 15 "WordAnchors$Blocks" "members" "[I"]
def wsX6_init : List Cond := .code yX6_init cX6_init 1 none :: ((wsX6_init_r1 ++ (wsX6_init_r2 ++ wsX6_init_r3)) ++ wsX50 ++ wsX60 ++ wsX30 ++ wsX20 ++ wsX10 ++ wsX00 ++ wsX40)
def wsX6_isWord : List Cond := .code yX6_isWord cX6_isWord 1 (some .boolean) :: ([])
def wsX6_put_r1 : List Cond := [Cond.fieldLink RX6 10 "WordAnchors" "now" "LWordAnchors$State;", Cond.fieldLink RX6 47 "WordAnchors$State" "row" "LWordAnchors$Row;", Cond.constant RX6 60 (-1000001), Cond.constant RX6 65 (-1000003), Cond.fieldLink RX6 22 "WordAnchors" "history" "LWordAnchors$History;", Cond.methodLink RX6 51 yX4_takesAt, Cond.instanceMethod yX4_takesAt, Cond.selects RX4 yX4_takesAt yX4_takesAt, Cond.initialized RX4, Cond.code yX4_takesAt cX4_takesAt 2 (some .boolean), Cond.fieldLink RX4 21 "WordAnchors$Row" "size" "I", Cond.methodLink RX6 57 yX6_isWord, Cond.static yX6_isWord, Cond.initialized RX6, Cond.code yX6_isWord cX6_isWord 1 (some .boolean), Cond.methodLink RX6 61 yX4_isFull, Cond.instanceMethod yX4_isFull, Cond.selects RX4 yX4_isFull yX4_isFull, Cond.code yX4_isFull cX4_isFull 1 (some .boolean), Cond.fieldLink RX4 9 "WordAnchors$Row" "words" "[I", Cond.methodLink RX6 66 yX3_record, Cond.instanceMethod yX3_record, Cond.selects RX3 yX3_record yX3_record, Cond.initialized RX3]
def wsX6_put_r2 : List Cond := [Cond.code yX3_record cX3_record 3 none, Cond.fieldLink RX3 18 "WordAnchors$History" "size" "I", Cond.fieldLink RX3 22 "WordAnchors$History" "oldest" "I", Cond.methodLink RX3 25 yX3_fromOldest, Cond.instanceMethod yX3_fromOldest, Cond.selects RX3 yX3_fromOldest yX3_fromOldest, Cond.code yX3_fromOldest cX3_fromOldest 3 (some (.object "WordAnchors$State")), Cond.fieldLink RX3 11 "WordAnchors$History" "states" "[LWordAnchors$State;", Cond.methodLink RX3 29 yX5_copyFrom, Cond.instanceMethod yX5_copyFrom, Cond.selects RX5 yX5_copyFrom yX5_copyFrom, Cond.initialized RX5, Cond.code yX5_copyFrom cX5_copyFrom 5 none, Cond.fieldLink RX5 12 "WordAnchors$State" "row" "LWordAnchors$Row;", Cond.fieldLink RX5 29 "WordAnchors$State" "anchorCount" "I", Cond.fieldLink RX5 24 "WordAnchors$State" "settings" "[I", Cond.fieldLink RX5 33 "WordAnchors$State" "edits" "I", Cond.methodLink RX5 152 yX4_copyFrom, Cond.instanceMethod yX4_copyFrom, Cond.selects RX4 yX4_copyFrom yX4_copyFrom, Cond.code yX4_copyFrom cX4_copyFrom 3 none, Cond.methodLink RX4 55 yX4_at, Cond.instanceMethod yX4_at, Cond.selects RX4 yX4_at yX4_at]
def wsX6_put_r3 : List Cond := [Cond.code yX4_at cX4_at 2 (some .int), Cond.methodLink RX5 36 yX5_anchorNumbered, Cond.instanceMethod yX5_anchorNumbered, Cond.selects RX5 yX5_anchorNumbered yX5_anchorNumbered, Cond.code yX5_anchorNumbered cX5_anchorNumbered 2 (some (.object "WordAnchors$Anchor")), Cond.fieldLink RX5 20 "WordAnchors$State" "anchors" "[LWordAnchors$Anchor;", Cond.methodLink RX5 44 yX0_copyFrom, Cond.instanceMethod yX0_copyFrom, Cond.selects RX0 yX0_copyFrom yX0_copyFrom, Cond.initialized RX0, Cond.code yX0_copyFrom cX0_copyFrom 3 none, Cond.fieldLink RX0 15 "WordAnchors$Anchor" "place" "I", Cond.fieldLink RX0 19 "WordAnchors$Anchor" "truePlace" "I", Cond.fieldLink RX0 9 "WordAnchors$Anchor" "things" "[I", Cond.methodLink RX0 39 yX0_thing, Cond.instanceMethod yX0_thing, Cond.selects RX0 yX0_thing yX0_thing, Cond.code yX0_thing cX0_thing 2 (some .int), Cond.methodLink RX5 82 yX5_setting, Cond.instanceMethod yX5_setting, Cond.selects RX5 yX5_setting yX5_setting, Cond.code yX5_setting cX5_setting 2 (some .int), Cond.methodLink RX6 70 yX5_insertWord, Cond.instanceMethod yX5_insertWord]
def wsX6_put_r4 : List Cond := [Cond.selects RX5 yX5_insertWord yX5_insertWord, Cond.code yX5_insertWord cX5_insertWord 3 none, Cond.methodLink RX5 48 yX4_insert, Cond.instanceMethod yX4_insert, Cond.selects RX4 yX4_insert yX4_insert, Cond.code yX4_insert cX4_insert 4 none, Cond.fieldLink RX4 15 "WordAnchors$Row" "targets" "[I", Cond.methodLink RX4 29 yX4_takesAt, Cond.methodLink RX4 32 yX4_isFull, Cond.methodLink RX4 36 yX4_relocate, Cond.instanceMethod yX4_relocate, Cond.selects RX4 yX4_relocate yX4_relocate, Cond.code yX4_relocate cX4_relocate 4 none, Cond.fieldLink RX4 18 "WordAnchors$Row" "relocated" "[I", Cond.methodLink RX4 48 yX4_targetOf, Cond.instanceMethod yX4_targetOf, Cond.selects RX4 yX4_targetOf yX4_targetOf, Cond.code yX4_targetOf cX4_targetOf 2 (some .int), Cond.methodLink RX5 52 yX5_followWords, Cond.instanceMethod yX5_followWords, Cond.selects RX5 yX5_followWords yX5_followWords, Cond.code yX5_followWords cX5_followWords 3 none, Cond.methodLink RX5 66 yX0_followWord, Cond.instanceMethod yX0_followWord]
def wsX6_put_r5 : List Cond := [Cond.selects RX0 yX0_followWord yX0_followWord, Cond.code yX0_followWord cX0_followWord 2 none, Cond.methodLink RX0 36 yX4_targetOf, Cond.methodLink RX6 74 yX4_size, Cond.instanceMethod yX4_size, Cond.selects RX4 yX4_size yX4_size, Cond.code yX4_size cX4_size 1 (some .int)]
def wsX6_put : List Cond := .code yX6_put cX6_put 3 (some .int) :: ((wsX6_put_r1 ++ (wsX6_put_r2 ++ (wsX6_put_r3 ++ (wsX6_put_r4 ++ wsX6_put_r5)))) ++ wsX60 ++ wsX50 ++ wsX40 ++ wsX30 ++ wsX00)
def wsX6_take_r1 : List Cond := [Cond.fieldLink RX6 10 "WordAnchors" "now" "LWordAnchors$State;", Cond.fieldLink RX6 47 "WordAnchors$State" "row" "LWordAnchors$Row;", Cond.constant RX6 60 (-1000001), Cond.fieldLink RX6 22 "WordAnchors" "history" "LWordAnchors$History;", Cond.methodLink RX6 78 yX4_holds, Cond.instanceMethod yX4_holds, Cond.selects RX4 yX4_holds yX4_holds, Cond.initialized RX4, Cond.code yX4_holds cX4_holds 2 (some .boolean), Cond.fieldLink RX4 21 "WordAnchors$Row" "size" "I", Cond.fieldLink RX4 9 "WordAnchors$Row" "words" "[I", Cond.methodLink RX6 81 yX4_at, Cond.instanceMethod yX4_at, Cond.selects RX4 yX4_at yX4_at, Cond.code yX4_at cX4_at 2 (some .int), Cond.methodLink RX6 66 yX3_record, Cond.instanceMethod yX3_record, Cond.selects RX3 yX3_record yX3_record, Cond.initialized RX3, Cond.code yX3_record cX3_record 3 none, Cond.fieldLink RX3 18 "WordAnchors$History" "size" "I", Cond.fieldLink RX3 22 "WordAnchors$History" "oldest" "I", Cond.methodLink RX3 25 yX3_fromOldest, Cond.instanceMethod yX3_fromOldest]
def wsX6_take_r2 : List Cond := [Cond.selects RX3 yX3_fromOldest yX3_fromOldest, Cond.code yX3_fromOldest cX3_fromOldest 3 (some (.object "WordAnchors$State")), Cond.fieldLink RX3 11 "WordAnchors$History" "states" "[LWordAnchors$State;", Cond.methodLink RX3 29 yX5_copyFrom, Cond.instanceMethod yX5_copyFrom, Cond.selects RX5 yX5_copyFrom yX5_copyFrom, Cond.initialized RX5, Cond.code yX5_copyFrom cX5_copyFrom 5 none, Cond.fieldLink RX5 12 "WordAnchors$State" "row" "LWordAnchors$Row;", Cond.fieldLink RX5 29 "WordAnchors$State" "anchorCount" "I", Cond.fieldLink RX5 24 "WordAnchors$State" "settings" "[I", Cond.fieldLink RX5 33 "WordAnchors$State" "edits" "I", Cond.methodLink RX5 152 yX4_copyFrom, Cond.instanceMethod yX4_copyFrom, Cond.selects RX4 yX4_copyFrom yX4_copyFrom, Cond.code yX4_copyFrom cX4_copyFrom 3 none, Cond.methodLink RX4 55 yX4_at, Cond.methodLink RX5 36 yX5_anchorNumbered, Cond.instanceMethod yX5_anchorNumbered, Cond.selects RX5 yX5_anchorNumbered yX5_anchorNumbered, Cond.code yX5_anchorNumbered cX5_anchorNumbered 2 (some (.object "WordAnchors$Anchor")), Cond.fieldLink RX5 20 "WordAnchors$State" "anchors" "[LWordAnchors$Anchor;", Cond.methodLink RX5 44 yX0_copyFrom, Cond.instanceMethod yX0_copyFrom]
def wsX6_take_r3 : List Cond := [Cond.selects RX0 yX0_copyFrom yX0_copyFrom, Cond.initialized RX0, Cond.code yX0_copyFrom cX0_copyFrom 3 none, Cond.fieldLink RX0 15 "WordAnchors$Anchor" "place" "I", Cond.fieldLink RX0 19 "WordAnchors$Anchor" "truePlace" "I", Cond.fieldLink RX0 9 "WordAnchors$Anchor" "things" "[I", Cond.methodLink RX0 39 yX0_thing, Cond.instanceMethod yX0_thing, Cond.selects RX0 yX0_thing yX0_thing, Cond.code yX0_thing cX0_thing 2 (some .int), Cond.methodLink RX5 82 yX5_setting, Cond.instanceMethod yX5_setting, Cond.selects RX5 yX5_setting yX5_setting, Cond.code yX5_setting cX5_setting 2 (some .int), Cond.methodLink RX6 85 yX5_removeWord, Cond.instanceMethod yX5_removeWord, Cond.selects RX5 yX5_removeWord yX5_removeWord, Cond.code yX5_removeWord cX5_removeWord 2 none, Cond.methodLink RX5 55 yX4_remove, Cond.instanceMethod yX4_remove, Cond.selects RX4 yX4_remove yX4_remove, Cond.code yX4_remove cX4_remove 3 none, Cond.fieldLink RX4 15 "WordAnchors$Row" "targets" "[I", Cond.methodLink RX4 25 yX4_holds]
def wsX6_take_r4 : List Cond := [Cond.methodLink RX4 36 yX4_relocate, Cond.instanceMethod yX4_relocate, Cond.selects RX4 yX4_relocate yX4_relocate, Cond.code yX4_relocate cX4_relocate 4 none, Cond.fieldLink RX4 18 "WordAnchors$Row" "relocated" "[I", Cond.methodLink RX4 48 yX4_targetOf, Cond.instanceMethod yX4_targetOf, Cond.selects RX4 yX4_targetOf yX4_targetOf, Cond.code yX4_targetOf cX4_targetOf 2 (some .int), Cond.methodLink RX5 52 yX5_followWords, Cond.instanceMethod yX5_followWords, Cond.selects RX5 yX5_followWords yX5_followWords, Cond.code yX5_followWords cX5_followWords 3 none, Cond.methodLink RX5 66 yX0_followWord, Cond.instanceMethod yX0_followWord, Cond.selects RX0 yX0_followWord yX0_followWord, Cond.code yX0_followWord cX0_followWord 2 none, Cond.methodLink RX0 36 yX4_targetOf]
def wsX6_take : List Cond := .code yX6_take cX6_take 3 (some .int) :: ((wsX6_take_r1 ++ (wsX6_take_r2 ++ (wsX6_take_r3 ++ wsX6_take_r4))) ++ wsX60 ++ wsX50 ++ wsX40 ++ wsX30 ++ wsX00)
def wsX6_change_r1 : List Cond := [Cond.fieldLink RX6 10 "WordAnchors" "now" "LWordAnchors$State;", Cond.fieldLink RX6 47 "WordAnchors$State" "row" "LWordAnchors$Row;", Cond.constant RX6 60 (-1000001), Cond.fieldLink RX6 22 "WordAnchors" "history" "LWordAnchors$History;", Cond.methodLink RX6 78 yX4_holds, Cond.instanceMethod yX4_holds, Cond.selects RX4 yX4_holds yX4_holds, Cond.initialized RX4, Cond.code yX4_holds cX4_holds 2 (some .boolean), Cond.fieldLink RX4 21 "WordAnchors$Row" "size" "I", Cond.fieldLink RX4 9 "WordAnchors$Row" "words" "[I", Cond.methodLink RX6 57 yX6_isWord, Cond.static yX6_isWord, Cond.initialized RX6, Cond.code yX6_isWord cX6_isWord 1 (some .boolean), Cond.methodLink RX6 81 yX4_at, Cond.instanceMethod yX4_at, Cond.selects RX4 yX4_at yX4_at, Cond.code yX4_at cX4_at 2 (some .int), Cond.methodLink RX6 66 yX3_record, Cond.instanceMethod yX3_record, Cond.selects RX3 yX3_record yX3_record, Cond.initialized RX3, Cond.code yX3_record cX3_record 3 none]
def wsX6_change_r2 : List Cond := [Cond.fieldLink RX3 18 "WordAnchors$History" "size" "I", Cond.fieldLink RX3 22 "WordAnchors$History" "oldest" "I", Cond.methodLink RX3 25 yX3_fromOldest, Cond.instanceMethod yX3_fromOldest, Cond.selects RX3 yX3_fromOldest yX3_fromOldest, Cond.code yX3_fromOldest cX3_fromOldest 3 (some (.object "WordAnchors$State")), Cond.fieldLink RX3 11 "WordAnchors$History" "states" "[LWordAnchors$State;", Cond.methodLink RX3 29 yX5_copyFrom, Cond.instanceMethod yX5_copyFrom, Cond.selects RX5 yX5_copyFrom yX5_copyFrom, Cond.initialized RX5, Cond.code yX5_copyFrom cX5_copyFrom 5 none, Cond.fieldLink RX5 12 "WordAnchors$State" "row" "LWordAnchors$Row;", Cond.fieldLink RX5 29 "WordAnchors$State" "anchorCount" "I", Cond.fieldLink RX5 24 "WordAnchors$State" "settings" "[I", Cond.fieldLink RX5 33 "WordAnchors$State" "edits" "I", Cond.methodLink RX5 152 yX4_copyFrom, Cond.instanceMethod yX4_copyFrom, Cond.selects RX4 yX4_copyFrom yX4_copyFrom, Cond.code yX4_copyFrom cX4_copyFrom 3 none, Cond.methodLink RX4 55 yX4_at, Cond.methodLink RX5 36 yX5_anchorNumbered, Cond.instanceMethod yX5_anchorNumbered, Cond.selects RX5 yX5_anchorNumbered yX5_anchorNumbered]
def wsX6_change_r3 : List Cond := [Cond.code yX5_anchorNumbered cX5_anchorNumbered 2 (some (.object "WordAnchors$Anchor")), Cond.fieldLink RX5 20 "WordAnchors$State" "anchors" "[LWordAnchors$Anchor;", Cond.methodLink RX5 44 yX0_copyFrom, Cond.instanceMethod yX0_copyFrom, Cond.selects RX0 yX0_copyFrom yX0_copyFrom, Cond.initialized RX0, Cond.code yX0_copyFrom cX0_copyFrom 3 none, Cond.fieldLink RX0 15 "WordAnchors$Anchor" "place" "I", Cond.fieldLink RX0 19 "WordAnchors$Anchor" "truePlace" "I", Cond.fieldLink RX0 9 "WordAnchors$Anchor" "things" "[I", Cond.methodLink RX0 39 yX0_thing, Cond.instanceMethod yX0_thing, Cond.selects RX0 yX0_thing yX0_thing, Cond.code yX0_thing cX0_thing 2 (some .int), Cond.methodLink RX5 82 yX5_setting, Cond.instanceMethod yX5_setting, Cond.selects RX5 yX5_setting yX5_setting, Cond.code yX5_setting cX5_setting 2 (some .int), Cond.methodLink RX6 89 yX5_replaceWord, Cond.instanceMethod yX5_replaceWord, Cond.selects RX5 yX5_replaceWord yX5_replaceWord, Cond.code yX5_replaceWord cX5_replaceWord 3 none, Cond.methodLink RX5 59 yX4_replace, Cond.instanceMethod yX4_replace]
def wsX6_change_r4 : List Cond := [Cond.selects RX4 yX4_replace yX4_replace, Cond.code yX4_replace cX4_replace 4 none, Cond.fieldLink RX4 15 "WordAnchors$Row" "targets" "[I", Cond.methodLink RX4 25 yX4_holds, Cond.methodLink RX5 52 yX5_followWords, Cond.instanceMethod yX5_followWords, Cond.selects RX5 yX5_followWords yX5_followWords, Cond.code yX5_followWords cX5_followWords 3 none, Cond.methodLink RX5 66 yX0_followWord, Cond.instanceMethod yX0_followWord, Cond.selects RX0 yX0_followWord yX0_followWord, Cond.code yX0_followWord cX0_followWord 2 none, Cond.methodLink RX0 36 yX4_targetOf, Cond.instanceMethod yX4_targetOf, Cond.selects RX4 yX4_targetOf yX4_targetOf, Cond.code yX4_targetOf cX4_targetOf 2 (some .int)]
def wsX6_change : List Cond := .code yX6_change cX6_change 4 (some .int) :: ((wsX6_change_r1 ++ (wsX6_change_r2 ++ (wsX6_change_r3 ++ wsX6_change_r4))) ++ wsX60 ++ wsX50 ++ wsX40 ++ wsX30 ++ wsX00)
def wsX6_move_r1 : List Cond := [Cond.fieldLink RX6 10 "WordAnchors" "now" "LWordAnchors$State;", Cond.fieldLink RX6 47 "WordAnchors$State" "row" "LWordAnchors$Row;", Cond.constant RX6 60 (-1000001), Cond.fieldLink RX6 22 "WordAnchors" "history" "LWordAnchors$History;", Cond.methodLink RX6 92 yX4_canShift, Cond.instanceMethod yX4_canShift, Cond.selects RX4 yX4_canShift yX4_canShift, Cond.initialized RX4, Cond.code yX4_canShift cX4_canShift 4 (some .boolean), Cond.fieldLink RX4 21 "WordAnchors$Row" "size" "I", Cond.methodLink RX4 25 yX4_holds, Cond.instanceMethod yX4_holds, Cond.selects RX4 yX4_holds yX4_holds, Cond.code yX4_holds cX4_holds 2 (some .boolean), Cond.fieldLink RX4 9 "WordAnchors$Row" "words" "[I", Cond.methodLink RX6 66 yX3_record, Cond.instanceMethod yX3_record, Cond.selects RX3 yX3_record yX3_record, Cond.initialized RX3, Cond.code yX3_record cX3_record 3 none, Cond.fieldLink RX3 18 "WordAnchors$History" "size" "I", Cond.fieldLink RX3 22 "WordAnchors$History" "oldest" "I", Cond.methodLink RX3 25 yX3_fromOldest, Cond.instanceMethod yX3_fromOldest]
def wsX6_move_r2 : List Cond := [Cond.selects RX3 yX3_fromOldest yX3_fromOldest, Cond.code yX3_fromOldest cX3_fromOldest 3 (some (.object "WordAnchors$State")), Cond.fieldLink RX3 11 "WordAnchors$History" "states" "[LWordAnchors$State;", Cond.methodLink RX3 29 yX5_copyFrom, Cond.instanceMethod yX5_copyFrom, Cond.selects RX5 yX5_copyFrom yX5_copyFrom, Cond.initialized RX5, Cond.code yX5_copyFrom cX5_copyFrom 5 none, Cond.fieldLink RX5 12 "WordAnchors$State" "row" "LWordAnchors$Row;", Cond.fieldLink RX5 29 "WordAnchors$State" "anchorCount" "I", Cond.fieldLink RX5 24 "WordAnchors$State" "settings" "[I", Cond.fieldLink RX5 33 "WordAnchors$State" "edits" "I", Cond.methodLink RX5 152 yX4_copyFrom, Cond.instanceMethod yX4_copyFrom, Cond.selects RX4 yX4_copyFrom yX4_copyFrom, Cond.code yX4_copyFrom cX4_copyFrom 3 none, Cond.methodLink RX4 55 yX4_at, Cond.instanceMethod yX4_at, Cond.selects RX4 yX4_at yX4_at, Cond.code yX4_at cX4_at 2 (some .int), Cond.methodLink RX5 36 yX5_anchorNumbered, Cond.instanceMethod yX5_anchorNumbered, Cond.selects RX5 yX5_anchorNumbered yX5_anchorNumbered, Cond.code yX5_anchorNumbered cX5_anchorNumbered 2 (some (.object "WordAnchors$Anchor"))]
def wsX6_move_r3 : List Cond := [Cond.fieldLink RX5 20 "WordAnchors$State" "anchors" "[LWordAnchors$Anchor;", Cond.methodLink RX5 44 yX0_copyFrom, Cond.instanceMethod yX0_copyFrom, Cond.selects RX0 yX0_copyFrom yX0_copyFrom, Cond.initialized RX0, Cond.code yX0_copyFrom cX0_copyFrom 3 none, Cond.fieldLink RX0 15 "WordAnchors$Anchor" "place" "I", Cond.fieldLink RX0 19 "WordAnchors$Anchor" "truePlace" "I", Cond.fieldLink RX0 9 "WordAnchors$Anchor" "things" "[I", Cond.methodLink RX0 39 yX0_thing, Cond.instanceMethod yX0_thing, Cond.selects RX0 yX0_thing yX0_thing, Cond.code yX0_thing cX0_thing 2 (some .int), Cond.methodLink RX5 82 yX5_setting, Cond.instanceMethod yX5_setting, Cond.selects RX5 yX5_setting yX5_setting, Cond.code yX5_setting cX5_setting 2 (some .int), Cond.methodLink RX6 96 yX5_shiftWords, Cond.instanceMethod yX5_shiftWords, Cond.selects RX5 yX5_shiftWords yX5_shiftWords, Cond.code yX5_shiftWords cX5_shiftWords 4 none, Cond.methodLink RX5 62 yX4_shift, Cond.instanceMethod yX4_shift, Cond.selects RX4 yX4_shift yX4_shift]
def wsX6_move_r4 : List Cond := [Cond.code yX4_shift cX4_shift 5 none, Cond.fieldLink RX4 15 "WordAnchors$Row" "targets" "[I", Cond.methodLink RX4 40 yX4_canShift, Cond.methodLink RX4 44 yX4_placeAfterShift, Cond.static yX4_placeAfterShift, Cond.code yX4_placeAfterShift cX4_placeAfterShift 5 (some .int), Cond.methodLink RX4 36 yX4_relocate, Cond.instanceMethod yX4_relocate, Cond.selects RX4 yX4_relocate yX4_relocate, Cond.code yX4_relocate cX4_relocate 4 none, Cond.fieldLink RX4 18 "WordAnchors$Row" "relocated" "[I", Cond.methodLink RX4 48 yX4_targetOf, Cond.instanceMethod yX4_targetOf, Cond.selects RX4 yX4_targetOf yX4_targetOf, Cond.code yX4_targetOf cX4_targetOf 2 (some .int), Cond.methodLink RX5 52 yX5_followWords, Cond.instanceMethod yX5_followWords, Cond.selects RX5 yX5_followWords yX5_followWords, Cond.code yX5_followWords cX5_followWords 3 none, Cond.methodLink RX5 66 yX0_followWord, Cond.instanceMethod yX0_followWord, Cond.selects RX0 yX0_followWord yX0_followWord, Cond.code yX0_followWord cX0_followWord 2 none, Cond.methodLink RX0 36 yX4_targetOf]
def wsX6_move_r5 : List Cond := [Cond.methodLink RX6 100 yX4_wordsElsewhere, Cond.instanceMethod yX4_wordsElsewhere, Cond.selects RX4 yX4_wordsElsewhere yX4_wordsElsewhere, Cond.code yX4_wordsElsewhere cX4_wordsElsewhere 3 (some .int)]
def wsX6_move : List Cond := .code yX6_move cX6_move 4 (some .int) :: ((wsX6_move_r1 ++ (wsX6_move_r2 ++ (wsX6_move_r3 ++ (wsX6_move_r4 ++ wsX6_move_r5)))) ++ wsX60 ++ wsX50 ++ wsX40 ++ wsX30 ++ wsX00)
def wsX6_anchor_r1 : List Cond := [Cond.fieldLink RX6 10 "WordAnchors" "now" "LWordAnchors$State;", Cond.fieldLink RX6 47 "WordAnchors$State" "row" "LWordAnchors$Row;", Cond.constant RX6 60 (-1000001), Cond.constant RX6 65 (-1000003), Cond.fieldLink RX6 22 "WordAnchors" "history" "LWordAnchors$History;", Cond.methodLink RX6 78 yX4_holds, Cond.instanceMethod yX4_holds, Cond.selects RX4 yX4_holds yX4_holds, Cond.initialized RX4, Cond.code yX4_holds cX4_holds 2 (some .boolean), Cond.fieldLink RX4 21 "WordAnchors$Row" "size" "I", Cond.fieldLink RX4 9 "WordAnchors$Row" "words" "[I", Cond.methodLink RX6 103 yX5_anchorCount, Cond.instanceMethod yX5_anchorCount, Cond.selects RX5 yX5_anchorCount yX5_anchorCount, Cond.initialized RX5, Cond.code yX5_anchorCount cX5_anchorCount 1 (some .int), Cond.fieldLink RX5 29 "WordAnchors$State" "anchorCount" "I", Cond.methodLink RX6 66 yX3_record, Cond.instanceMethod yX3_record, Cond.selects RX3 yX3_record yX3_record, Cond.initialized RX3, Cond.code yX3_record cX3_record 3 none, Cond.fieldLink RX3 18 "WordAnchors$History" "size" "I"]
def wsX6_anchor_r2 : List Cond := [Cond.fieldLink RX3 22 "WordAnchors$History" "oldest" "I", Cond.methodLink RX3 25 yX3_fromOldest, Cond.instanceMethod yX3_fromOldest, Cond.selects RX3 yX3_fromOldest yX3_fromOldest, Cond.code yX3_fromOldest cX3_fromOldest 3 (some (.object "WordAnchors$State")), Cond.fieldLink RX3 11 "WordAnchors$History" "states" "[LWordAnchors$State;", Cond.methodLink RX3 29 yX5_copyFrom, Cond.instanceMethod yX5_copyFrom, Cond.selects RX5 yX5_copyFrom yX5_copyFrom, Cond.code yX5_copyFrom cX5_copyFrom 5 none, Cond.fieldLink RX5 12 "WordAnchors$State" "row" "LWordAnchors$Row;", Cond.fieldLink RX5 24 "WordAnchors$State" "settings" "[I", Cond.fieldLink RX5 33 "WordAnchors$State" "edits" "I", Cond.methodLink RX5 152 yX4_copyFrom, Cond.instanceMethod yX4_copyFrom, Cond.selects RX4 yX4_copyFrom yX4_copyFrom, Cond.code yX4_copyFrom cX4_copyFrom 3 none, Cond.methodLink RX4 55 yX4_at, Cond.instanceMethod yX4_at, Cond.selects RX4 yX4_at yX4_at, Cond.code yX4_at cX4_at 2 (some .int), Cond.methodLink RX5 36 yX5_anchorNumbered, Cond.instanceMethod yX5_anchorNumbered, Cond.selects RX5 yX5_anchorNumbered yX5_anchorNumbered]
def wsX6_anchor_r3 : List Cond := [Cond.code yX5_anchorNumbered cX5_anchorNumbered 2 (some (.object "WordAnchors$Anchor")), Cond.fieldLink RX5 20 "WordAnchors$State" "anchors" "[LWordAnchors$Anchor;", Cond.methodLink RX5 44 yX0_copyFrom, Cond.instanceMethod yX0_copyFrom, Cond.selects RX0 yX0_copyFrom yX0_copyFrom, Cond.initialized RX0, Cond.code yX0_copyFrom cX0_copyFrom 3 none, Cond.fieldLink RX0 15 "WordAnchors$Anchor" "place" "I", Cond.fieldLink RX0 19 "WordAnchors$Anchor" "truePlace" "I", Cond.fieldLink RX0 9 "WordAnchors$Anchor" "things" "[I", Cond.methodLink RX0 39 yX0_thing, Cond.instanceMethod yX0_thing, Cond.selects RX0 yX0_thing yX0_thing, Cond.code yX0_thing cX0_thing 2 (some .int), Cond.methodLink RX5 82 yX5_setting, Cond.instanceMethod yX5_setting, Cond.selects RX5 yX5_setting yX5_setting, Cond.code yX5_setting cX5_setting 2 (some .int), Cond.methodLink RX6 106 yX5_addAnchor, Cond.instanceMethod yX5_addAnchor, Cond.selects RX5 yX5_addAnchor yX5_addAnchor, Cond.code yX5_addAnchor cX5_addAnchor 3 none, Cond.methodLink RX5 40 yX0_setAt, Cond.instanceMethod yX0_setAt]
def wsX6_anchor_r4 : List Cond := [Cond.selects RX0 yX0_setAt yX0_setAt, Cond.code yX0_setAt cX0_setAt 3 none, Cond.methodLink RX0 22 yX0_goTo, Cond.instanceMethod yX0_goTo, Cond.selects RX0 yX0_goTo yX0_goTo, Cond.code yX0_goTo cX0_goTo 2 none, Cond.methodLink RX0 26 yX0_look, Cond.instanceMethod yX0_look, Cond.selects RX0 yX0_look yX0_look, Cond.code yX0_look cX0_look 5 (some .int), Cond.methodLink RX0 30 yX4_at]
def wsX6_anchor : List Cond := .code yX6_anchor cX6_anchor 2 (some .int) :: ((wsX6_anchor_r1 ++ (wsX6_anchor_r2 ++ (wsX6_anchor_r3 ++ wsX6_anchor_r4))) ++ wsX60 ++ wsX50 ++ wsX40 ++ wsX30 ++ wsX00)
def wsX6_drop_r1 : List Cond := [Cond.fieldLink RX6 10 "WordAnchors" "now" "LWordAnchors$State;", Cond.constant RX6 60 (-1000001), Cond.fieldLink RX6 22 "WordAnchors" "history" "LWordAnchors$History;", Cond.methodLink RX6 109 yX5_anchorNumbered, Cond.instanceMethod yX5_anchorNumbered, Cond.selects RX5 yX5_anchorNumbered yX5_anchorNumbered, Cond.initialized RX5, Cond.code yX5_anchorNumbered cX5_anchorNumbered 2 (some (.object "WordAnchors$Anchor")), Cond.fieldLink RX5 29 "WordAnchors$State" "anchorCount" "I", Cond.fieldLink RX5 20 "WordAnchors$State" "anchors" "[LWordAnchors$Anchor;", Cond.methodLink RX6 66 yX3_record, Cond.instanceMethod yX3_record, Cond.selects RX3 yX3_record yX3_record, Cond.initialized RX3, Cond.code yX3_record cX3_record 3 none, Cond.fieldLink RX3 18 "WordAnchors$History" "size" "I", Cond.fieldLink RX3 22 "WordAnchors$History" "oldest" "I", Cond.methodLink RX3 25 yX3_fromOldest, Cond.instanceMethod yX3_fromOldest, Cond.selects RX3 yX3_fromOldest yX3_fromOldest, Cond.code yX3_fromOldest cX3_fromOldest 3 (some (.object "WordAnchors$State")), Cond.fieldLink RX3 11 "WordAnchors$History" "states" "[LWordAnchors$State;", Cond.methodLink RX3 29 yX5_copyFrom, Cond.instanceMethod yX5_copyFrom]
def wsX6_drop_r2 : List Cond := [Cond.selects RX5 yX5_copyFrom yX5_copyFrom, Cond.code yX5_copyFrom cX5_copyFrom 5 none, Cond.fieldLink RX5 12 "WordAnchors$State" "row" "LWordAnchors$Row;", Cond.fieldLink RX5 24 "WordAnchors$State" "settings" "[I", Cond.fieldLink RX5 33 "WordAnchors$State" "edits" "I", Cond.methodLink RX5 152 yX4_copyFrom, Cond.instanceMethod yX4_copyFrom, Cond.selects RX4 yX4_copyFrom yX4_copyFrom, Cond.initialized RX4, Cond.code yX4_copyFrom cX4_copyFrom 3 none, Cond.fieldLink RX4 9 "WordAnchors$Row" "words" "[I", Cond.fieldLink RX4 21 "WordAnchors$Row" "size" "I", Cond.methodLink RX4 55 yX4_at, Cond.instanceMethod yX4_at, Cond.selects RX4 yX4_at yX4_at, Cond.code yX4_at cX4_at 2 (some .int), Cond.methodLink RX5 36 yX5_anchorNumbered, Cond.methodLink RX5 44 yX0_copyFrom, Cond.instanceMethod yX0_copyFrom, Cond.selects RX0 yX0_copyFrom yX0_copyFrom, Cond.initialized RX0, Cond.code yX0_copyFrom cX0_copyFrom 3 none, Cond.fieldLink RX0 15 "WordAnchors$Anchor" "place" "I", Cond.fieldLink RX0 19 "WordAnchors$Anchor" "truePlace" "I"]
def wsX6_drop_r3 : List Cond := [Cond.fieldLink RX0 9 "WordAnchors$Anchor" "things" "[I", Cond.methodLink RX0 39 yX0_thing, Cond.instanceMethod yX0_thing, Cond.selects RX0 yX0_thing yX0_thing, Cond.code yX0_thing cX0_thing 2 (some .int), Cond.methodLink RX5 82 yX5_setting, Cond.instanceMethod yX5_setting, Cond.selects RX5 yX5_setting yX5_setting, Cond.code yX5_setting cX5_setting 2 (some .int), Cond.methodLink RX6 113 yX5_removeAnchor, Cond.instanceMethod yX5_removeAnchor, Cond.selects RX5 yX5_removeAnchor yX5_removeAnchor, Cond.code yX5_removeAnchor cX5_removeAnchor 5 none, Cond.methodLink RX6 103 yX5_anchorCount, Cond.instanceMethod yX5_anchorCount, Cond.selects RX5 yX5_anchorCount yX5_anchorCount, Cond.code yX5_anchorCount cX5_anchorCount 1 (some .int)]
def wsX6_drop : List Cond := .code yX6_drop cX6_drop 2 (some .int) :: ((wsX6_drop_r1 ++ (wsX6_drop_r2 ++ wsX6_drop_r3)) ++ wsX60 ++ wsX50 ++ wsX30 ++ wsX40 ++ wsX00)
def wsX6_find_r1 : List Cond := [Cond.fieldLink RX6 10 "WordAnchors" "now" "LWordAnchors$State;", Cond.constant RX6 60 (-1000001), Cond.constant RX6 124 (-1000002), Cond.fieldLink RX6 22 "WordAnchors" "history" "LWordAnchors$History;", Cond.methodLink RX6 109 yX5_anchorNumbered, Cond.instanceMethod yX5_anchorNumbered, Cond.selects RX5 yX5_anchorNumbered yX5_anchorNumbered, Cond.initialized RX5, Cond.code yX5_anchorNumbered cX5_anchorNumbered 2 (some (.object "WordAnchors$Anchor")), Cond.fieldLink RX5 29 "WordAnchors$State" "anchorCount" "I", Cond.fieldLink RX5 20 "WordAnchors$State" "anchors" "[LWordAnchors$Anchor;", Cond.methodLink RX6 116 yX5_bestPlace, Cond.instanceMethod yX5_bestPlace, Cond.selects RX5 yX5_bestPlace yX5_bestPlace, Cond.code yX5_bestPlace cX5_bestPlace 2 (some .int), Cond.methodLink RX5 85 yX5_bestPlaceBut, Cond.instanceMethod yX5_bestPlaceBut, Cond.selects RX5 yX5_bestPlaceBut yX5_bestPlaceBut, Cond.code yX5_bestPlaceBut cX5_bestPlaceBut 10 (some .int), Cond.fieldLink RX5 12 "WordAnchors$State" "row" "LWordAnchors$Row;", Cond.methodLink RX5 77 Lib.Math.abs.name, Cond.static Lib.Math.abs.name, Cond.initialized "java/lang/Math", Cond.code Lib.Math.abs.name Lib.Math.abs.code 1 (some .int)]
def wsX6_find_r2 : List Cond := [Cond.methodLink RX5 93 yX4_size, Cond.instanceMethod yX4_size, Cond.selects RX4 yX4_size yX4_size, Cond.initialized RX4, Cond.code yX4_size cX4_size 1 (some .int), Cond.fieldLink RX4 21 "WordAnchors$Row" "size" "I", Cond.methodLink RX5 97 yX5_scoreOf, Cond.instanceMethod yX5_scoreOf, Cond.selects RX5 yX5_scoreOf yX5_scoreOf, Cond.code yX5_scoreOf cX5_scoreOf 6 (some .int), Cond.methodLink RX5 70 yX0_thing, Cond.instanceMethod yX0_thing, Cond.selects RX0 yX0_thing yX0_thing, Cond.initialized RX0, Cond.code yX0_thing cX0_thing 2 (some .int), Cond.fieldLink RX0 9 "WordAnchors$Anchor" "things" "[I", Cond.methodLink RX5 74 yX4_at, Cond.instanceMethod yX4_at, Cond.selects RX4 yX4_at yX4_at, Cond.code yX4_at cX4_at 2 (some .int), Cond.fieldLink RX4 9 "WordAnchors$Row" "words" "[I", Cond.methodLink RX5 82 yX5_setting, Cond.instanceMethod yX5_setting, Cond.selects RX5 yX5_setting yX5_setting]
def wsX6_find_r3 : List Cond := [Cond.code yX5_setting cX5_setting 2 (some .int), Cond.fieldLink RX5 24 "WordAnchors$State" "settings" "[I", Cond.methodLink RX5 100 yX0_place, Cond.instanceMethod yX0_place, Cond.selects RX0 yX0_place yX0_place, Cond.code yX0_place cX0_place 1 (some .int), Cond.fieldLink RX0 15 "WordAnchors$Anchor" "place" "I", Cond.methodLink RX6 120 yX5_isLost, Cond.instanceMethod yX5_isLost, Cond.selects RX5 yX5_isLost yX5_isLost, Cond.code yX5_isLost cX5_isLost 3 (some .boolean), Cond.methodLink RX6 66 yX3_record, Cond.instanceMethod yX3_record, Cond.selects RX3 yX3_record yX3_record, Cond.initialized RX3, Cond.code yX3_record cX3_record 3 none, Cond.fieldLink RX3 18 "WordAnchors$History" "size" "I", Cond.fieldLink RX3 22 "WordAnchors$History" "oldest" "I", Cond.methodLink RX3 25 yX3_fromOldest, Cond.instanceMethod yX3_fromOldest, Cond.selects RX3 yX3_fromOldest yX3_fromOldest, Cond.code yX3_fromOldest cX3_fromOldest 3 (some (.object "WordAnchors$State")), Cond.fieldLink RX3 11 "WordAnchors$History" "states" "[LWordAnchors$State;", Cond.methodLink RX3 29 yX5_copyFrom]
def wsX6_find_r4 : List Cond := [Cond.instanceMethod yX5_copyFrom, Cond.selects RX5 yX5_copyFrom yX5_copyFrom, Cond.code yX5_copyFrom cX5_copyFrom 5 none, Cond.fieldLink RX5 33 "WordAnchors$State" "edits" "I", Cond.methodLink RX5 152 yX4_copyFrom, Cond.instanceMethod yX4_copyFrom, Cond.selects RX4 yX4_copyFrom yX4_copyFrom, Cond.code yX4_copyFrom cX4_copyFrom 3 none, Cond.methodLink RX4 55 yX4_at, Cond.methodLink RX5 36 yX5_anchorNumbered, Cond.methodLink RX5 44 yX0_copyFrom, Cond.instanceMethod yX0_copyFrom, Cond.selects RX0 yX0_copyFrom yX0_copyFrom, Cond.code yX0_copyFrom cX0_copyFrom 3 none, Cond.fieldLink RX0 19 "WordAnchors$Anchor" "truePlace" "I", Cond.methodLink RX0 39 yX0_thing, Cond.methodLink RX6 125 yX0_goTo, Cond.instanceMethod yX0_goTo, Cond.selects RX0 yX0_goTo yX0_goTo, Cond.code yX0_goTo cX0_goTo 2 none, Cond.methodLink RX6 128 yX0_place]
def wsX6_find : List Cond := .code yX6_find cX6_find 4 (some .int) :: ((wsX6_find_r1 ++ (wsX6_find_r2 ++ (wsX6_find_r3 ++ wsX6_find_r4))) ++ wsX60 ++ wsX50 ++ wsX40 ++ wsX00 ++ wsX30)
def wsX6_findAll_r1 : List Cond := [Cond.fieldLink RX6 22 "WordAnchors" "history" "LWordAnchors$History;", Cond.fieldLink RX6 10 "WordAnchors" "now" "LWordAnchors$State;", Cond.methodLink RX6 66 yX3_record, Cond.instanceMethod yX3_record, Cond.selects RX3 yX3_record yX3_record, Cond.initialized RX3, Cond.code yX3_record cX3_record 3 none, Cond.fieldLink RX3 18 "WordAnchors$History" "size" "I", Cond.fieldLink RX3 22 "WordAnchors$History" "oldest" "I", Cond.methodLink RX3 25 yX3_fromOldest, Cond.instanceMethod yX3_fromOldest, Cond.selects RX3 yX3_fromOldest yX3_fromOldest, Cond.code yX3_fromOldest cX3_fromOldest 3 (some (.object "WordAnchors$State")), Cond.fieldLink RX3 11 "WordAnchors$History" "states" "[LWordAnchors$State;", Cond.methodLink RX3 29 yX5_copyFrom, Cond.instanceMethod yX5_copyFrom, Cond.selects RX5 yX5_copyFrom yX5_copyFrom, Cond.initialized RX5, Cond.code yX5_copyFrom cX5_copyFrom 5 none, Cond.fieldLink RX5 12 "WordAnchors$State" "row" "LWordAnchors$Row;", Cond.fieldLink RX5 29 "WordAnchors$State" "anchorCount" "I", Cond.fieldLink RX5 24 "WordAnchors$State" "settings" "[I", Cond.fieldLink RX5 33 "WordAnchors$State" "edits" "I", Cond.methodLink RX5 152 yX4_copyFrom]
def wsX6_findAll_r2 : List Cond := [Cond.instanceMethod yX4_copyFrom, Cond.selects RX4 yX4_copyFrom yX4_copyFrom, Cond.initialized RX4, Cond.code yX4_copyFrom cX4_copyFrom 3 none, Cond.fieldLink RX4 9 "WordAnchors$Row" "words" "[I", Cond.fieldLink RX4 21 "WordAnchors$Row" "size" "I", Cond.methodLink RX4 55 yX4_at, Cond.instanceMethod yX4_at, Cond.selects RX4 yX4_at yX4_at, Cond.code yX4_at cX4_at 2 (some .int), Cond.methodLink RX5 36 yX5_anchorNumbered, Cond.instanceMethod yX5_anchorNumbered, Cond.selects RX5 yX5_anchorNumbered yX5_anchorNumbered, Cond.code yX5_anchorNumbered cX5_anchorNumbered 2 (some (.object "WordAnchors$Anchor")), Cond.fieldLink RX5 20 "WordAnchors$State" "anchors" "[LWordAnchors$Anchor;", Cond.methodLink RX5 44 yX0_copyFrom, Cond.instanceMethod yX0_copyFrom, Cond.selects RX0 yX0_copyFrom yX0_copyFrom, Cond.initialized RX0, Cond.code yX0_copyFrom cX0_copyFrom 3 none, Cond.fieldLink RX0 15 "WordAnchors$Anchor" "place" "I", Cond.fieldLink RX0 19 "WordAnchors$Anchor" "truePlace" "I", Cond.fieldLink RX0 9 "WordAnchors$Anchor" "things" "[I", Cond.methodLink RX0 39 yX0_thing]
def wsX6_findAll_r3 : List Cond := [Cond.instanceMethod yX0_thing, Cond.selects RX0 yX0_thing yX0_thing, Cond.code yX0_thing cX0_thing 2 (some .int), Cond.methodLink RX5 82 yX5_setting, Cond.instanceMethod yX5_setting, Cond.selects RX5 yX5_setting yX5_setting, Cond.code yX5_setting cX5_setting 2 (some .int), Cond.methodLink RX6 103 yX5_anchorCount, Cond.instanceMethod yX5_anchorCount, Cond.selects RX5 yX5_anchorCount yX5_anchorCount, Cond.code yX5_anchorCount cX5_anchorCount 1 (some .int), Cond.methodLink RX6 109 yX5_anchorNumbered, Cond.methodLink RX6 131 yX5_shiftOf, Cond.instanceMethod yX5_shiftOf, Cond.selects RX5 yX5_shiftOf yX5_shiftOf, Cond.code yX5_shiftOf cX5_shiftOf 3 (some .int), Cond.methodLink RX5 89 yX5_bestPlace, Cond.instanceMethod yX5_bestPlace, Cond.selects RX5 yX5_bestPlace yX5_bestPlace, Cond.code yX5_bestPlace cX5_bestPlace 2 (some .int), Cond.methodLink RX5 85 yX5_bestPlaceBut, Cond.instanceMethod yX5_bestPlaceBut, Cond.selects RX5 yX5_bestPlaceBut yX5_bestPlaceBut, Cond.code yX5_bestPlaceBut cX5_bestPlaceBut 10 (some .int)]
def wsX6_findAll_r4 : List Cond := [Cond.methodLink RX5 77 Lib.Math.abs.name, Cond.static Lib.Math.abs.name, Cond.initialized "java/lang/Math", Cond.code Lib.Math.abs.name Lib.Math.abs.code 1 (some .int), Cond.methodLink RX5 93 yX4_size, Cond.instanceMethod yX4_size, Cond.selects RX4 yX4_size yX4_size, Cond.code yX4_size cX4_size 1 (some .int), Cond.methodLink RX5 97 yX5_scoreOf, Cond.instanceMethod yX5_scoreOf, Cond.selects RX5 yX5_scoreOf yX5_scoreOf, Cond.code yX5_scoreOf cX5_scoreOf 6 (some .int), Cond.methodLink RX5 70 yX0_thing, Cond.methodLink RX5 74 yX4_at, Cond.methodLink RX5 100 yX0_place, Cond.instanceMethod yX0_place, Cond.selects RX0 yX0_place yX0_place, Cond.code yX0_place cX0_place 1 (some .int), Cond.methodLink RX5 103 yX5_isLost, Cond.instanceMethod yX5_isLost, Cond.selects RX5 yX5_isLost yX5_isLost, Cond.code yX5_isLost cX5_isLost 3 (some .boolean), Cond.methodLink RX6 128 yX0_place, Cond.methodLink RX6 125 yX0_goTo]
def wsX6_findAll_r5 : List Cond := [Cond.instanceMethod yX0_goTo, Cond.selects RX0 yX0_goTo yX0_goTo, Cond.code yX0_goTo cX0_goTo 2 none]
def wsX6_findAll : List Cond := .code yX6_findAll cX6_findAll 5 (some .int) :: ((wsX6_findAll_r1 ++ (wsX6_findAll_r2 ++ (wsX6_findAll_r3 ++ (wsX6_findAll_r4 ++ wsX6_findAll_r5)))) ++ wsX60 ++ wsX30 ++ wsX50 ++ wsX40 ++ wsX00)
def wsX6_remember_r1 : List Cond := [Cond.fieldLink RX6 10 "WordAnchors" "now" "LWordAnchors$State;", Cond.constant RX6 60 (-1000001), Cond.fieldLink RX6 47 "WordAnchors$State" "row" "LWordAnchors$Row;", Cond.constant RX6 124 (-1000002), Cond.fieldLink RX6 22 "WordAnchors" "history" "LWordAnchors$History;", Cond.methodLink RX6 109 yX5_anchorNumbered, Cond.instanceMethod yX5_anchorNumbered, Cond.selects RX5 yX5_anchorNumbered yX5_anchorNumbered, Cond.initialized RX5, Cond.code yX5_anchorNumbered cX5_anchorNumbered 2 (some (.object "WordAnchors$Anchor")), Cond.fieldLink RX5 29 "WordAnchors$State" "anchorCount" "I", Cond.fieldLink RX5 20 "WordAnchors$State" "anchors" "[LWordAnchors$Anchor;", Cond.methodLink RX6 128 yX0_place, Cond.instanceMethod yX0_place, Cond.selects RX0 yX0_place yX0_place, Cond.initialized RX0, Cond.code yX0_place cX0_place 1 (some .int), Cond.fieldLink RX0 15 "WordAnchors$Anchor" "place" "I", Cond.methodLink RX6 78 yX4_holds, Cond.instanceMethod yX4_holds, Cond.selects RX4 yX4_holds yX4_holds, Cond.initialized RX4, Cond.code yX4_holds cX4_holds 2 (some .boolean), Cond.fieldLink RX4 21 "WordAnchors$Row" "size" "I"]
def wsX6_remember_r2 : List Cond := [Cond.fieldLink RX4 9 "WordAnchors$Row" "words" "[I", Cond.methodLink RX6 66 yX3_record, Cond.instanceMethod yX3_record, Cond.selects RX3 yX3_record yX3_record, Cond.initialized RX3, Cond.code yX3_record cX3_record 3 none, Cond.fieldLink RX3 18 "WordAnchors$History" "size" "I", Cond.fieldLink RX3 22 "WordAnchors$History" "oldest" "I", Cond.methodLink RX3 25 yX3_fromOldest, Cond.instanceMethod yX3_fromOldest, Cond.selects RX3 yX3_fromOldest yX3_fromOldest, Cond.code yX3_fromOldest cX3_fromOldest 3 (some (.object "WordAnchors$State")), Cond.fieldLink RX3 11 "WordAnchors$History" "states" "[LWordAnchors$State;", Cond.methodLink RX3 29 yX5_copyFrom, Cond.instanceMethod yX5_copyFrom, Cond.selects RX5 yX5_copyFrom yX5_copyFrom, Cond.code yX5_copyFrom cX5_copyFrom 5 none, Cond.fieldLink RX5 12 "WordAnchors$State" "row" "LWordAnchors$Row;", Cond.fieldLink RX5 24 "WordAnchors$State" "settings" "[I", Cond.fieldLink RX5 33 "WordAnchors$State" "edits" "I", Cond.methodLink RX5 152 yX4_copyFrom, Cond.instanceMethod yX4_copyFrom, Cond.selects RX4 yX4_copyFrom yX4_copyFrom, Cond.code yX4_copyFrom cX4_copyFrom 3 none]
def wsX6_remember_r3 : List Cond := [Cond.methodLink RX4 55 yX4_at, Cond.instanceMethod yX4_at, Cond.selects RX4 yX4_at yX4_at, Cond.code yX4_at cX4_at 2 (some .int), Cond.methodLink RX5 36 yX5_anchorNumbered, Cond.methodLink RX5 44 yX0_copyFrom, Cond.instanceMethod yX0_copyFrom, Cond.selects RX0 yX0_copyFrom yX0_copyFrom, Cond.code yX0_copyFrom cX0_copyFrom 3 none, Cond.fieldLink RX0 19 "WordAnchors$Anchor" "truePlace" "I", Cond.fieldLink RX0 9 "WordAnchors$Anchor" "things" "[I", Cond.methodLink RX0 39 yX0_thing, Cond.instanceMethod yX0_thing, Cond.selects RX0 yX0_thing yX0_thing, Cond.code yX0_thing cX0_thing 2 (some .int), Cond.methodLink RX5 82 yX5_setting, Cond.instanceMethod yX5_setting, Cond.selects RX5 yX5_setting yX5_setting, Cond.code yX5_setting cX5_setting 2 (some .int), Cond.methodLink RX6 134 yX0_look, Cond.instanceMethod yX0_look, Cond.selects RX0 yX0_look yX0_look, Cond.code yX0_look cX0_look 5 (some .int), Cond.methodLink RX0 30 yX4_at]
def wsX6_remember : List Cond := .code yX6_remember cX6_remember 3 (some .int) :: ((wsX6_remember_r1 ++ (wsX6_remember_r2 ++ wsX6_remember_r3)) ++ wsX60 ++ wsX50 ++ wsX00 ++ wsX40 ++ wsX30)
def wsX6_set_r1 : List Cond := [Cond.fieldLink RX6 138 "WordAnchors" "GREATEST_SETTINGS" "[I", Cond.constant RX6 60 (-1000001), Cond.fieldLink RX6 10 "WordAnchors" "now" "LWordAnchors$State;", Cond.fieldLink RX6 22 "WordAnchors" "history" "LWordAnchors$History;", Cond.methodLink RX6 142 yX5_setting, Cond.instanceMethod yX5_setting, Cond.selects RX5 yX5_setting yX5_setting, Cond.initialized RX5, Cond.code yX5_setting cX5_setting 2 (some .int), Cond.fieldLink RX5 24 "WordAnchors$State" "settings" "[I", Cond.methodLink RX6 66 yX3_record, Cond.instanceMethod yX3_record, Cond.selects RX3 yX3_record yX3_record, Cond.initialized RX3, Cond.code yX3_record cX3_record 3 none, Cond.fieldLink RX3 18 "WordAnchors$History" "size" "I", Cond.fieldLink RX3 22 "WordAnchors$History" "oldest" "I", Cond.methodLink RX3 25 yX3_fromOldest, Cond.instanceMethod yX3_fromOldest, Cond.selects RX3 yX3_fromOldest yX3_fromOldest, Cond.code yX3_fromOldest cX3_fromOldest 3 (some (.object "WordAnchors$State")), Cond.fieldLink RX3 11 "WordAnchors$History" "states" "[LWordAnchors$State;", Cond.methodLink RX3 29 yX5_copyFrom, Cond.instanceMethod yX5_copyFrom]
def wsX6_set_r2 : List Cond := [Cond.selects RX5 yX5_copyFrom yX5_copyFrom, Cond.code yX5_copyFrom cX5_copyFrom 5 none, Cond.fieldLink RX5 12 "WordAnchors$State" "row" "LWordAnchors$Row;", Cond.fieldLink RX5 29 "WordAnchors$State" "anchorCount" "I", Cond.fieldLink RX5 33 "WordAnchors$State" "edits" "I", Cond.methodLink RX5 152 yX4_copyFrom, Cond.instanceMethod yX4_copyFrom, Cond.selects RX4 yX4_copyFrom yX4_copyFrom, Cond.initialized RX4, Cond.code yX4_copyFrom cX4_copyFrom 3 none, Cond.fieldLink RX4 9 "WordAnchors$Row" "words" "[I", Cond.fieldLink RX4 21 "WordAnchors$Row" "size" "I", Cond.methodLink RX4 55 yX4_at, Cond.instanceMethod yX4_at, Cond.selects RX4 yX4_at yX4_at, Cond.code yX4_at cX4_at 2 (some .int), Cond.methodLink RX5 36 yX5_anchorNumbered, Cond.instanceMethod yX5_anchorNumbered, Cond.selects RX5 yX5_anchorNumbered yX5_anchorNumbered, Cond.code yX5_anchorNumbered cX5_anchorNumbered 2 (some (.object "WordAnchors$Anchor")), Cond.fieldLink RX5 20 "WordAnchors$State" "anchors" "[LWordAnchors$Anchor;", Cond.methodLink RX5 44 yX0_copyFrom, Cond.instanceMethod yX0_copyFrom, Cond.selects RX0 yX0_copyFrom yX0_copyFrom]
def wsX6_set_r3 : List Cond := [Cond.initialized RX0, Cond.code yX0_copyFrom cX0_copyFrom 3 none, Cond.fieldLink RX0 15 "WordAnchors$Anchor" "place" "I", Cond.fieldLink RX0 19 "WordAnchors$Anchor" "truePlace" "I", Cond.fieldLink RX0 9 "WordAnchors$Anchor" "things" "[I", Cond.methodLink RX0 39 yX0_thing, Cond.instanceMethod yX0_thing, Cond.selects RX0 yX0_thing yX0_thing, Cond.code yX0_thing cX0_thing 2 (some .int), Cond.methodLink RX5 82 yX5_setting, Cond.methodLink RX6 145 yX5_changeSetting, Cond.instanceMethod yX5_changeSetting, Cond.selects RX5 yX5_changeSetting yX5_changeSetting, Cond.code yX5_changeSetting cX5_changeSetting 3 none]
def wsX6_set : List Cond := .code yX6_set cX6_set 4 (some .int) :: ((wsX6_set_r1 ++ (wsX6_set_r2 ++ wsX6_set_r3)) ++ wsX60 ++ wsX50 ++ wsX30 ++ wsX40 ++ wsX00)
def wsX6_orNotFound : List Cond := .code yX6_orNotFound cX6_orNotFound 1 (some .int) :: ([.constant RX6 182 (-1000004)])
def wsX6_wordAt : List Cond := .code yX6_wordAt cX6_wordAt 2 (some .int) :: ([.constant RX6 60 (-1000001), .fieldLink RX6 10 "WordAnchors" "now" "LWordAnchors$State;", .fieldLink RX6 47 "WordAnchors$State" "row" "LWordAnchors$Row;", .methodLink RX6 81 yX4_at, .instanceMethod yX4_at, .selects RX4 yX4_at yX4_at, .initialized RX4, .code yX4_at cX4_at 2 (some .int), .fieldLink RX4 21 "WordAnchors$Row" "size" "I", .fieldLink RX4 9 "WordAnchors$Row" "words" "[I", .methodLink RX6 148 yX6_orNotFound, .static yX6_orNotFound, .initialized RX6, .code yX6_orNotFound cX6_orNotFound 1 (some .int), .constant RX6 182 (-1000004)] ++ wsX60 ++ wsX50 ++ wsX40)
def wsX6_scoreOrNotFound_r1 : List Cond := [Cond.constant RX6 182 (-1000004), Cond.fieldLink RX6 10 "WordAnchors" "now" "LWordAnchors$State;", Cond.methodLink RX6 170 yX5_scoreOf, Cond.instanceMethod yX5_scoreOf, Cond.selects RX5 yX5_scoreOf yX5_scoreOf, Cond.initialized RX5, Cond.code yX5_scoreOf cX5_scoreOf 6 (some .int), Cond.fieldLink RX5 12 "WordAnchors$State" "row" "LWordAnchors$Row;", Cond.methodLink RX5 77 Lib.Math.abs.name, Cond.static Lib.Math.abs.name, Cond.initialized "java/lang/Math", Cond.code Lib.Math.abs.name Lib.Math.abs.code 1 (some .int), Cond.methodLink RX5 70 yX0_thing, Cond.instanceMethod yX0_thing, Cond.selects RX0 yX0_thing yX0_thing, Cond.initialized RX0, Cond.code yX0_thing cX0_thing 2 (some .int), Cond.fieldLink RX0 9 "WordAnchors$Anchor" "things" "[I", Cond.methodLink RX5 74 yX4_at, Cond.instanceMethod yX4_at, Cond.selects RX4 yX4_at yX4_at, Cond.initialized RX4, Cond.code yX4_at cX4_at 2 (some .int), Cond.fieldLink RX4 21 "WordAnchors$Row" "size" "I"]
def wsX6_scoreOrNotFound_r2 : List Cond := [Cond.fieldLink RX4 9 "WordAnchors$Row" "words" "[I", Cond.methodLink RX5 82 yX5_setting, Cond.instanceMethod yX5_setting, Cond.selects RX5 yX5_setting yX5_setting, Cond.code yX5_setting cX5_setting 2 (some .int), Cond.fieldLink RX5 24 "WordAnchors$State" "settings" "[I"]
def wsX6_scoreOrNotFound : List Cond := .code yX6_scoreOrNotFound cX6_scoreOrNotFound 3 (some .int) :: ((wsX6_scoreOrNotFound_r1 ++ wsX6_scoreOrNotFound_r2) ++ wsX60 ++ wsX50 ++ wsX00 ++ wsX40)
def wsX6_anchorOf_r1 : List Cond := [Cond.fieldLink RX6 10 "WordAnchors" "now" "LWordAnchors$State;", Cond.constant RX6 60 (-1000001), Cond.methodLink RX6 109 yX5_anchorNumbered, Cond.instanceMethod yX5_anchorNumbered, Cond.selects RX5 yX5_anchorNumbered yX5_anchorNumbered, Cond.initialized RX5, Cond.code yX5_anchorNumbered cX5_anchorNumbered 2 (some (.object "WordAnchors$Anchor")), Cond.fieldLink RX5 29 "WordAnchors$State" "anchorCount" "I", Cond.fieldLink RX5 20 "WordAnchors$State" "anchors" "[LWordAnchors$Anchor;", Cond.methodLink RX6 128 yX0_place, Cond.instanceMethod yX0_place, Cond.selects RX0 yX0_place yX0_place, Cond.initialized RX0, Cond.code yX0_place cX0_place 1 (some .int), Cond.fieldLink RX0 15 "WordAnchors$Anchor" "place" "I", Cond.methodLink RX6 151 yX0_truePlace, Cond.instanceMethod yX0_truePlace, Cond.selects RX0 yX0_truePlace yX0_truePlace, Cond.code yX0_truePlace cX0_truePlace 1 (some .int), Cond.fieldLink RX0 19 "WordAnchors$Anchor" "truePlace" "I", Cond.methodLink RX6 148 yX6_orNotFound, Cond.static yX6_orNotFound, Cond.initialized RX6, Cond.code yX6_orNotFound cX6_orNotFound 1 (some .int)]
def wsX6_anchorOf_r2 : List Cond := [Cond.constant RX6 182 (-1000004), Cond.methodLink RX6 154 yX5_standingOf, Cond.instanceMethod yX5_standingOf, Cond.selects RX5 yX5_standingOf yX5_standingOf, Cond.code yX5_standingOf cX5_standingOf 5 (some .int), Cond.methodLink RX5 89 yX5_bestPlace, Cond.instanceMethod yX5_bestPlace, Cond.selects RX5 yX5_bestPlace yX5_bestPlace, Cond.code yX5_bestPlace cX5_bestPlace 2 (some .int), Cond.methodLink RX5 85 yX5_bestPlaceBut, Cond.instanceMethod yX5_bestPlaceBut, Cond.selects RX5 yX5_bestPlaceBut yX5_bestPlaceBut, Cond.code yX5_bestPlaceBut cX5_bestPlaceBut 10 (some .int), Cond.fieldLink RX5 12 "WordAnchors$State" "row" "LWordAnchors$Row;", Cond.methodLink RX5 77 Lib.Math.abs.name, Cond.static Lib.Math.abs.name, Cond.initialized "java/lang/Math", Cond.code Lib.Math.abs.name Lib.Math.abs.code 1 (some .int), Cond.methodLink RX5 93 yX4_size, Cond.instanceMethod yX4_size, Cond.selects RX4 yX4_size yX4_size, Cond.initialized RX4, Cond.code yX4_size cX4_size 1 (some .int), Cond.fieldLink RX4 21 "WordAnchors$Row" "size" "I"]
def wsX6_anchorOf_r3 : List Cond := [Cond.methodLink RX5 97 yX5_scoreOf, Cond.instanceMethod yX5_scoreOf, Cond.selects RX5 yX5_scoreOf yX5_scoreOf, Cond.code yX5_scoreOf cX5_scoreOf 6 (some .int), Cond.methodLink RX5 70 yX0_thing, Cond.instanceMethod yX0_thing, Cond.selects RX0 yX0_thing yX0_thing, Cond.code yX0_thing cX0_thing 2 (some .int), Cond.fieldLink RX0 9 "WordAnchors$Anchor" "things" "[I", Cond.methodLink RX5 74 yX4_at, Cond.instanceMethod yX4_at, Cond.selects RX4 yX4_at yX4_at, Cond.code yX4_at cX4_at 2 (some .int), Cond.fieldLink RX4 9 "WordAnchors$Row" "words" "[I", Cond.methodLink RX5 82 yX5_setting, Cond.instanceMethod yX5_setting, Cond.selects RX5 yX5_setting yX5_setting, Cond.code yX5_setting cX5_setting 2 (some .int), Cond.fieldLink RX5 24 "WordAnchors$State" "settings" "[I", Cond.methodLink RX5 100 yX0_place, Cond.methodLink RX5 103 yX5_isLost, Cond.instanceMethod yX5_isLost, Cond.selects RX5 yX5_isLost yX5_isLost, Cond.code yX5_isLost cX5_isLost 3 (some .boolean)]
def wsX6_anchorOf_r4 : List Cond := [Cond.methodLink RX6 116 yX5_bestPlace, Cond.methodLink RX6 157 yX6_scoreOrNotFound, Cond.instanceMethod yX6_scoreOrNotFound, Cond.selects RX6 yX6_scoreOrNotFound yX6_scoreOrNotFound, Cond.code yX6_scoreOrNotFound cX6_scoreOrNotFound 3 (some .int), Cond.methodLink RX6 170 yX5_scoreOf, Cond.methodLink RX6 161 yX5_nextBestPlace, Cond.instanceMethod yX5_nextBestPlace, Cond.selects RX5 yX5_nextBestPlace yX5_nextBestPlace, Cond.code yX5_nextBestPlace cX5_nextBestPlace 2 (some .int), Cond.methodLink RX6 164 yX5_isOfKind, Cond.instanceMethod yX5_isOfKind, Cond.selects RX5 yX5_isOfKind yX5_isOfKind, Cond.code yX5_isOfKind cX5_isOfKind 3 (some .boolean), Cond.methodLink RX5 107 yX0_truePlace, Cond.methodLink RX5 110 yX5_standingOf, Cond.methodLink RX6 167 yX0_thing]
def wsX6_anchorOf : List Cond := .code yX6_anchorOf cX6_anchorOf 4 (some .int) :: ((wsX6_anchorOf_r1 ++ (wsX6_anchorOf_r2 ++ (wsX6_anchorOf_r3 ++ wsX6_anchorOf_r4))) ++ wsX60 ++ wsX50 ++ wsX00 ++ wsX40)
def wsX6_score_r1 : List Cond := [Cond.fieldLink RX6 10 "WordAnchors" "now" "LWordAnchors$State;", Cond.fieldLink RX6 47 "WordAnchors$State" "row" "LWordAnchors$Row;", Cond.constant RX6 60 (-1000001), Cond.methodLink RX6 109 yX5_anchorNumbered, Cond.instanceMethod yX5_anchorNumbered, Cond.selects RX5 yX5_anchorNumbered yX5_anchorNumbered, Cond.initialized RX5, Cond.code yX5_anchorNumbered cX5_anchorNumbered 2 (some (.object "WordAnchors$Anchor")), Cond.fieldLink RX5 29 "WordAnchors$State" "anchorCount" "I", Cond.fieldLink RX5 20 "WordAnchors$State" "anchors" "[LWordAnchors$Anchor;", Cond.methodLink RX6 78 yX4_holds, Cond.instanceMethod yX4_holds, Cond.selects RX4 yX4_holds yX4_holds, Cond.initialized RX4, Cond.code yX4_holds cX4_holds 2 (some .boolean), Cond.fieldLink RX4 21 "WordAnchors$Row" "size" "I", Cond.fieldLink RX4 9 "WordAnchors$Row" "words" "[I", Cond.methodLink RX6 170 yX5_scoreOf, Cond.instanceMethod yX5_scoreOf, Cond.selects RX5 yX5_scoreOf yX5_scoreOf, Cond.code yX5_scoreOf cX5_scoreOf 6 (some .int), Cond.fieldLink RX5 12 "WordAnchors$State" "row" "LWordAnchors$Row;", Cond.methodLink RX5 77 Lib.Math.abs.name, Cond.static Lib.Math.abs.name]
def wsX6_score_r2 : List Cond := [Cond.initialized "java/lang/Math", Cond.code Lib.Math.abs.name Lib.Math.abs.code 1 (some .int), Cond.methodLink RX5 70 yX0_thing, Cond.instanceMethod yX0_thing, Cond.selects RX0 yX0_thing yX0_thing, Cond.initialized RX0, Cond.code yX0_thing cX0_thing 2 (some .int), Cond.fieldLink RX0 9 "WordAnchors$Anchor" "things" "[I", Cond.methodLink RX5 74 yX4_at, Cond.instanceMethod yX4_at, Cond.selects RX4 yX4_at yX4_at, Cond.code yX4_at cX4_at 2 (some .int), Cond.methodLink RX5 82 yX5_setting, Cond.instanceMethod yX5_setting, Cond.selects RX5 yX5_setting yX5_setting, Cond.code yX5_setting cX5_setting 2 (some .int), Cond.fieldLink RX5 24 "WordAnchors$State" "settings" "[I"]
def wsX6_score : List Cond := .code yX6_score cX6_score 4 (some .int) :: ((wsX6_score_r1 ++ wsX6_score_r2) ++ wsX60 ++ wsX50 ++ wsX40 ++ wsX00)
def wsX6_anchors_r1 : List Cond := [Cond.constant RX6 60 (-1000001), Cond.fieldLink RX6 10 "WordAnchors" "now" "LWordAnchors$State;", Cond.methodLink RX6 173 yX5_anchorsOfKind, Cond.instanceMethod yX5_anchorsOfKind, Cond.selects RX5 yX5_anchorsOfKind yX5_anchorsOfKind, Cond.initialized RX5, Cond.code yX5_anchorsOfKind cX5_anchorsOfKind 5 (some .int), Cond.fieldLink RX5 29 "WordAnchors$State" "anchorCount" "I", Cond.methodLink RX5 36 yX5_anchorNumbered, Cond.instanceMethod yX5_anchorNumbered, Cond.selects RX5 yX5_anchorNumbered yX5_anchorNumbered, Cond.code yX5_anchorNumbered cX5_anchorNumbered 2 (some (.object "WordAnchors$Anchor")), Cond.fieldLink RX5 20 "WordAnchors$State" "anchors" "[LWordAnchors$Anchor;", Cond.methodLink RX5 113 yX5_isOfKind, Cond.instanceMethod yX5_isOfKind, Cond.selects RX5 yX5_isOfKind yX5_isOfKind, Cond.code yX5_isOfKind cX5_isOfKind 3 (some .boolean), Cond.methodLink RX5 89 yX5_bestPlace, Cond.instanceMethod yX5_bestPlace, Cond.selects RX5 yX5_bestPlace yX5_bestPlace, Cond.code yX5_bestPlace cX5_bestPlace 2 (some .int), Cond.methodLink RX5 85 yX5_bestPlaceBut, Cond.instanceMethod yX5_bestPlaceBut, Cond.selects RX5 yX5_bestPlaceBut yX5_bestPlaceBut]
def wsX6_anchors_r2 : List Cond := [Cond.code yX5_bestPlaceBut cX5_bestPlaceBut 10 (some .int), Cond.fieldLink RX5 12 "WordAnchors$State" "row" "LWordAnchors$Row;", Cond.methodLink RX5 77 Lib.Math.abs.name, Cond.static Lib.Math.abs.name, Cond.initialized "java/lang/Math", Cond.code Lib.Math.abs.name Lib.Math.abs.code 1 (some .int), Cond.methodLink RX5 93 yX4_size, Cond.instanceMethod yX4_size, Cond.selects RX4 yX4_size yX4_size, Cond.initialized RX4, Cond.code yX4_size cX4_size 1 (some .int), Cond.fieldLink RX4 21 "WordAnchors$Row" "size" "I", Cond.methodLink RX5 97 yX5_scoreOf, Cond.instanceMethod yX5_scoreOf, Cond.selects RX5 yX5_scoreOf yX5_scoreOf, Cond.code yX5_scoreOf cX5_scoreOf 6 (some .int), Cond.methodLink RX5 70 yX0_thing, Cond.instanceMethod yX0_thing, Cond.selects RX0 yX0_thing yX0_thing, Cond.initialized RX0, Cond.code yX0_thing cX0_thing 2 (some .int), Cond.fieldLink RX0 9 "WordAnchors$Anchor" "things" "[I", Cond.methodLink RX5 74 yX4_at, Cond.instanceMethod yX4_at]
def wsX6_anchors_r3 : List Cond := [Cond.selects RX4 yX4_at yX4_at, Cond.code yX4_at cX4_at 2 (some .int), Cond.fieldLink RX4 9 "WordAnchors$Row" "words" "[I", Cond.methodLink RX5 82 yX5_setting, Cond.instanceMethod yX5_setting, Cond.selects RX5 yX5_setting yX5_setting, Cond.code yX5_setting cX5_setting 2 (some .int), Cond.fieldLink RX5 24 "WordAnchors$State" "settings" "[I", Cond.methodLink RX5 100 yX0_place, Cond.instanceMethod yX0_place, Cond.selects RX0 yX0_place yX0_place, Cond.code yX0_place cX0_place 1 (some .int), Cond.fieldLink RX0 15 "WordAnchors$Anchor" "place" "I", Cond.methodLink RX5 103 yX5_isLost, Cond.instanceMethod yX5_isLost, Cond.selects RX5 yX5_isLost yX5_isLost, Cond.code yX5_isLost cX5_isLost 3 (some .boolean), Cond.methodLink RX5 107 yX0_truePlace, Cond.instanceMethod yX0_truePlace, Cond.selects RX0 yX0_truePlace yX0_truePlace, Cond.code yX0_truePlace cX0_truePlace 1 (some .int), Cond.fieldLink RX0 19 "WordAnchors$Anchor" "truePlace" "I", Cond.methodLink RX5 110 yX5_standingOf, Cond.instanceMethod yX5_standingOf]
def wsX6_anchors_r4 : List Cond := [Cond.selects RX5 yX5_standingOf yX5_standingOf, Cond.code yX5_standingOf cX5_standingOf 5 (some .int)]
def wsX6_anchors : List Cond := .code yX6_anchors cX6_anchors 2 (some .int) :: ((wsX6_anchors_r1 ++ (wsX6_anchors_r2 ++ (wsX6_anchors_r3 ++ wsX6_anchors_r4))) ++ wsX60 ++ wsX50 ++ wsX40 ++ wsX00)
def wsX6_blockOf_r1 : List Cond := [Cond.constant RX6 60 (-1000001), Cond.fieldLink RX6 36 "WordAnchors" "blocks" "LWordAnchors$Blocks;", Cond.fieldLink RX6 10 "WordAnchors" "now" "LWordAnchors$State;", Cond.constant RX6 182 (-1000004), Cond.methodLink RX6 176 yX1_gather, Cond.instanceMethod yX1_gather, Cond.selects RX1 yX1_gather yX1_gather, Cond.initialized RX1, Cond.code yX1_gather cX1_gather 4 none, Cond.fieldLink RX1 18 "WordAnchors$Blocks" "size" "I", Cond.methodLink RX1 22 yX5_anchorCount, Cond.instanceMethod yX5_anchorCount, Cond.selects RX5 yX5_anchorCount yX5_anchorCount, Cond.initialized RX5, Cond.code yX5_anchorCount cX5_anchorCount 1 (some .int), Cond.fieldLink RX5 29 "WordAnchors$State" "anchorCount" "I", Cond.methodLink RX1 28 yX5_anchorNumbered, Cond.instanceMethod yX5_anchorNumbered, Cond.selects RX5 yX5_anchorNumbered yX5_anchorNumbered, Cond.code yX5_anchorNumbered cX5_anchorNumbered 2 (some (.object "WordAnchors$Anchor")), Cond.fieldLink RX5 20 "WordAnchors$State" "anchors" "[LWordAnchors$Anchor;", Cond.methodLink RX1 32 yX5_shiftOf, Cond.instanceMethod yX5_shiftOf, Cond.selects RX5 yX5_shiftOf yX5_shiftOf]
def wsX6_blockOf_r2 : List Cond := [Cond.code yX5_shiftOf cX5_shiftOf 3 (some .int), Cond.methodLink RX5 89 yX5_bestPlace, Cond.instanceMethod yX5_bestPlace, Cond.selects RX5 yX5_bestPlace yX5_bestPlace, Cond.code yX5_bestPlace cX5_bestPlace 2 (some .int), Cond.methodLink RX5 85 yX5_bestPlaceBut, Cond.instanceMethod yX5_bestPlaceBut, Cond.selects RX5 yX5_bestPlaceBut yX5_bestPlaceBut, Cond.code yX5_bestPlaceBut cX5_bestPlaceBut 10 (some .int), Cond.fieldLink RX5 12 "WordAnchors$State" "row" "LWordAnchors$Row;", Cond.methodLink RX5 77 Lib.Math.abs.name, Cond.static Lib.Math.abs.name, Cond.initialized "java/lang/Math", Cond.code Lib.Math.abs.name Lib.Math.abs.code 1 (some .int), Cond.methodLink RX5 93 yX4_size, Cond.instanceMethod yX4_size, Cond.selects RX4 yX4_size yX4_size, Cond.initialized RX4, Cond.code yX4_size cX4_size 1 (some .int), Cond.fieldLink RX4 21 "WordAnchors$Row" "size" "I", Cond.methodLink RX5 97 yX5_scoreOf, Cond.instanceMethod yX5_scoreOf, Cond.selects RX5 yX5_scoreOf yX5_scoreOf, Cond.code yX5_scoreOf cX5_scoreOf 6 (some .int)]
def wsX6_blockOf_r3 : List Cond := [Cond.methodLink RX5 70 yX0_thing, Cond.instanceMethod yX0_thing, Cond.selects RX0 yX0_thing yX0_thing, Cond.initialized RX0, Cond.code yX0_thing cX0_thing 2 (some .int), Cond.fieldLink RX0 9 "WordAnchors$Anchor" "things" "[I", Cond.methodLink RX5 74 yX4_at, Cond.instanceMethod yX4_at, Cond.selects RX4 yX4_at yX4_at, Cond.code yX4_at cX4_at 2 (some .int), Cond.fieldLink RX4 9 "WordAnchors$Row" "words" "[I", Cond.methodLink RX5 82 yX5_setting, Cond.instanceMethod yX5_setting, Cond.selects RX5 yX5_setting yX5_setting, Cond.code yX5_setting cX5_setting 2 (some .int), Cond.fieldLink RX5 24 "WordAnchors$State" "settings" "[I", Cond.methodLink RX5 100 yX0_place, Cond.instanceMethod yX0_place, Cond.selects RX0 yX0_place yX0_place, Cond.code yX0_place cX0_place 1 (some .int), Cond.fieldLink RX0 15 "WordAnchors$Anchor" "place" "I", Cond.methodLink RX5 103 yX5_isLost, Cond.instanceMethod yX5_isLost, Cond.selects RX5 yX5_isLost yX5_isLost]
def wsX6_blockOf_r4 : List Cond := [Cond.code yX5_isLost cX5_isLost 3 (some .boolean), Cond.methodLink RX1 36 yX1_enter, Cond.instanceMethod yX1_enter, Cond.selects RX1 yX1_enter yX1_enter, Cond.code yX1_enter cX1_enter 4 none, Cond.fieldLink RX1 9 "WordAnchors$Blocks" "shifts" "[I", Cond.fieldLink RX1 15 "WordAnchors$Blocks" "members" "[I", Cond.methodLink RX1 40 yX1_shiftOf, Cond.instanceMethod yX1_shiftOf, Cond.selects RX1 yX1_shiftOf yX1_shiftOf, Cond.code yX1_shiftOf cX1_shiftOf 2 (some .int), Cond.methodLink RX6 179 yX1_inOrder, Cond.instanceMethod yX1_inOrder, Cond.selects RX1 yX1_inOrder yX1_inOrder, Cond.code yX1_inOrder cX1_inOrder 3 (some .int), Cond.methodLink RX1 43 yX1_blocksAheadOf, Cond.instanceMethod yX1_blocksAheadOf, Cond.selects RX1 yX1_blocksAheadOf yX1_blocksAheadOf, Cond.code yX1_blocksAheadOf cX1_blocksAheadOf 4 (some .int), Cond.methodLink RX1 46 yX1_isAhead, Cond.instanceMethod yX1_isAhead, Cond.selects RX1 yX1_isAhead yX1_isAhead, Cond.code yX1_isAhead cX1_isAhead 4 (some .boolean), Cond.methodLink RX1 50 yX1_membersOf]
def wsX6_blockOf_r5 : List Cond := [Cond.instanceMethod yX1_membersOf, Cond.selects RX1 yX1_membersOf yX1_membersOf, Cond.code yX1_membersOf cX1_membersOf 2 (some .int), Cond.methodLink RX1 53 yJ6_bitCount_0f7a4, Cond.static yJ6_bitCount_0f7a4, Cond.initialized RJ6, Cond.code yJ6_bitCount_0f7a4 cJ6_bitCount_0f7a4 1 (some .int), Cond.constant RJ6 265 (1431655765), Cond.constant RJ6 266 (858993459), Cond.constant RJ6 267 (252645135), Cond.methodLink RX6 183 yX1_membersOf, Cond.methodLink RX6 186 yX1_shiftOf]
def wsX6_blockOf : List Cond := .code yX6_blockOf cX6_blockOf 4 (some .int) :: ((wsX6_blockOf_r1 ++ (wsX6_blockOf_r2 ++ (wsX6_blockOf_r3 ++ (wsX6_blockOf_r4 ++ wsX6_blockOf_r5)))) ++ wsX60 ++ wsX10 ++ wsX50 ++ wsX40 ++ wsX00)
def wsX6_tryTaking_r1 : List Cond := [Cond.fieldLink RX6 16 "WordAnchors" "trial" "LWordAnchors$State;", Cond.fieldLink RX6 10 "WordAnchors" "now" "LWordAnchors$State;", Cond.methodLink RX6 213 yX5_copyFrom, Cond.instanceMethod yX5_copyFrom, Cond.selects RX5 yX5_copyFrom yX5_copyFrom, Cond.initialized RX5, Cond.code yX5_copyFrom cX5_copyFrom 5 none, Cond.fieldLink RX5 12 "WordAnchors$State" "row" "LWordAnchors$Row;", Cond.fieldLink RX5 29 "WordAnchors$State" "anchorCount" "I", Cond.fieldLink RX5 24 "WordAnchors$State" "settings" "[I", Cond.fieldLink RX5 33 "WordAnchors$State" "edits" "I", Cond.methodLink RX5 152 yX4_copyFrom, Cond.instanceMethod yX4_copyFrom, Cond.selects RX4 yX4_copyFrom yX4_copyFrom, Cond.initialized RX4, Cond.code yX4_copyFrom cX4_copyFrom 3 none, Cond.fieldLink RX4 9 "WordAnchors$Row" "words" "[I", Cond.fieldLink RX4 21 "WordAnchors$Row" "size" "I", Cond.methodLink RX4 55 yX4_at, Cond.instanceMethod yX4_at, Cond.selects RX4 yX4_at yX4_at, Cond.code yX4_at cX4_at 2 (some .int), Cond.methodLink RX5 36 yX5_anchorNumbered, Cond.instanceMethod yX5_anchorNumbered]
def wsX6_tryTaking_r2 : List Cond := [Cond.selects RX5 yX5_anchorNumbered yX5_anchorNumbered, Cond.code yX5_anchorNumbered cX5_anchorNumbered 2 (some (.object "WordAnchors$Anchor")), Cond.fieldLink RX5 20 "WordAnchors$State" "anchors" "[LWordAnchors$Anchor;", Cond.methodLink RX5 44 yX0_copyFrom, Cond.instanceMethod yX0_copyFrom, Cond.selects RX0 yX0_copyFrom yX0_copyFrom, Cond.initialized RX0, Cond.code yX0_copyFrom cX0_copyFrom 3 none, Cond.fieldLink RX0 15 "WordAnchors$Anchor" "place" "I", Cond.fieldLink RX0 19 "WordAnchors$Anchor" "truePlace" "I", Cond.fieldLink RX0 9 "WordAnchors$Anchor" "things" "[I", Cond.methodLink RX0 39 yX0_thing, Cond.instanceMethod yX0_thing, Cond.selects RX0 yX0_thing yX0_thing, Cond.code yX0_thing cX0_thing 2 (some .int), Cond.methodLink RX5 82 yX5_setting, Cond.instanceMethod yX5_setting, Cond.selects RX5 yX5_setting yX5_setting, Cond.code yX5_setting cX5_setting 2 (some .int), Cond.methodLink RX6 85 yX5_removeWord, Cond.instanceMethod yX5_removeWord, Cond.selects RX5 yX5_removeWord yX5_removeWord, Cond.code yX5_removeWord cX5_removeWord 2 none, Cond.methodLink RX5 55 yX4_remove]
def wsX6_tryTaking_r3 : List Cond := [Cond.instanceMethod yX4_remove, Cond.selects RX4 yX4_remove yX4_remove, Cond.code yX4_remove cX4_remove 3 none, Cond.fieldLink RX4 15 "WordAnchors$Row" "targets" "[I", Cond.methodLink RX4 25 yX4_holds, Cond.instanceMethod yX4_holds, Cond.selects RX4 yX4_holds yX4_holds, Cond.code yX4_holds cX4_holds 2 (some .boolean), Cond.methodLink RX4 36 yX4_relocate, Cond.instanceMethod yX4_relocate, Cond.selects RX4 yX4_relocate yX4_relocate, Cond.code yX4_relocate cX4_relocate 4 none, Cond.fieldLink RX4 18 "WordAnchors$Row" "relocated" "[I", Cond.methodLink RX4 48 yX4_targetOf, Cond.instanceMethod yX4_targetOf, Cond.selects RX4 yX4_targetOf yX4_targetOf, Cond.code yX4_targetOf cX4_targetOf 2 (some .int), Cond.methodLink RX5 52 yX5_followWords, Cond.instanceMethod yX5_followWords, Cond.selects RX5 yX5_followWords yX5_followWords, Cond.code yX5_followWords cX5_followWords 3 none, Cond.methodLink RX5 66 yX0_followWord, Cond.instanceMethod yX0_followWord, Cond.selects RX0 yX0_followWord yX0_followWord]
def wsX6_tryTaking_r4 : List Cond := [Cond.code yX0_followWord cX0_followWord 2 none, Cond.methodLink RX0 36 yX4_targetOf]
def wsX6_tryTaking : List Cond := .code yX6_tryTaking cX6_tryTaking 2 none :: ((wsX6_tryTaking_r1 ++ (wsX6_tryTaking_r2 ++ (wsX6_tryTaking_r3 ++ wsX6_tryTaking_r4))) ++ wsX60 ++ wsX50 ++ wsX40 ++ wsX00)
def wsX6_wouldTake_r1 : List Cond := [Cond.fieldLink RX6 10 "WordAnchors" "now" "LWordAnchors$State;", Cond.fieldLink RX6 47 "WordAnchors$State" "row" "LWordAnchors$Row;", Cond.constant RX6 60 (-1000001), Cond.fieldLink RX6 16 "WordAnchors" "trial" "LWordAnchors$State;", Cond.methodLink RX6 78 yX4_holds, Cond.instanceMethod yX4_holds, Cond.selects RX4 yX4_holds yX4_holds, Cond.initialized RX4, Cond.code yX4_holds cX4_holds 2 (some .boolean), Cond.fieldLink RX4 21 "WordAnchors$Row" "size" "I", Cond.fieldLink RX4 9 "WordAnchors$Row" "words" "[I", Cond.methodLink RX6 188 yX6_tryTaking, Cond.instanceMethod yX6_tryTaking, Cond.selects RX6 yX6_tryTaking yX6_tryTaking, Cond.initialized RX6, Cond.code yX6_tryTaking cX6_tryTaking 2 none, Cond.methodLink RX6 213 yX5_copyFrom, Cond.instanceMethod yX5_copyFrom, Cond.selects RX5 yX5_copyFrom yX5_copyFrom, Cond.initialized RX5, Cond.code yX5_copyFrom cX5_copyFrom 5 none, Cond.fieldLink RX5 12 "WordAnchors$State" "row" "LWordAnchors$Row;", Cond.fieldLink RX5 29 "WordAnchors$State" "anchorCount" "I", Cond.fieldLink RX5 24 "WordAnchors$State" "settings" "[I"]
def wsX6_wouldTake_r2 : List Cond := [Cond.fieldLink RX5 33 "WordAnchors$State" "edits" "I", Cond.methodLink RX5 152 yX4_copyFrom, Cond.instanceMethod yX4_copyFrom, Cond.selects RX4 yX4_copyFrom yX4_copyFrom, Cond.code yX4_copyFrom cX4_copyFrom 3 none, Cond.methodLink RX4 55 yX4_at, Cond.instanceMethod yX4_at, Cond.selects RX4 yX4_at yX4_at, Cond.code yX4_at cX4_at 2 (some .int), Cond.methodLink RX5 36 yX5_anchorNumbered, Cond.instanceMethod yX5_anchorNumbered, Cond.selects RX5 yX5_anchorNumbered yX5_anchorNumbered, Cond.code yX5_anchorNumbered cX5_anchorNumbered 2 (some (.object "WordAnchors$Anchor")), Cond.fieldLink RX5 20 "WordAnchors$State" "anchors" "[LWordAnchors$Anchor;", Cond.methodLink RX5 44 yX0_copyFrom, Cond.instanceMethod yX0_copyFrom, Cond.selects RX0 yX0_copyFrom yX0_copyFrom, Cond.initialized RX0, Cond.code yX0_copyFrom cX0_copyFrom 3 none, Cond.fieldLink RX0 15 "WordAnchors$Anchor" "place" "I", Cond.fieldLink RX0 19 "WordAnchors$Anchor" "truePlace" "I", Cond.fieldLink RX0 9 "WordAnchors$Anchor" "things" "[I", Cond.methodLink RX0 39 yX0_thing, Cond.instanceMethod yX0_thing]
def wsX6_wouldTake_r3 : List Cond := [Cond.selects RX0 yX0_thing yX0_thing, Cond.code yX0_thing cX0_thing 2 (some .int), Cond.methodLink RX5 82 yX5_setting, Cond.instanceMethod yX5_setting, Cond.selects RX5 yX5_setting yX5_setting, Cond.code yX5_setting cX5_setting 2 (some .int), Cond.methodLink RX6 85 yX5_removeWord, Cond.instanceMethod yX5_removeWord, Cond.selects RX5 yX5_removeWord yX5_removeWord, Cond.code yX5_removeWord cX5_removeWord 2 none, Cond.methodLink RX5 55 yX4_remove, Cond.instanceMethod yX4_remove, Cond.selects RX4 yX4_remove yX4_remove, Cond.code yX4_remove cX4_remove 3 none, Cond.fieldLink RX4 15 "WordAnchors$Row" "targets" "[I", Cond.methodLink RX4 25 yX4_holds, Cond.methodLink RX4 36 yX4_relocate, Cond.instanceMethod yX4_relocate, Cond.selects RX4 yX4_relocate yX4_relocate, Cond.code yX4_relocate cX4_relocate 4 none, Cond.fieldLink RX4 18 "WordAnchors$Row" "relocated" "[I", Cond.methodLink RX4 48 yX4_targetOf, Cond.instanceMethod yX4_targetOf, Cond.selects RX4 yX4_targetOf yX4_targetOf]
def wsX6_wouldTake_r4 : List Cond := [Cond.code yX4_targetOf cX4_targetOf 2 (some .int), Cond.methodLink RX5 52 yX5_followWords, Cond.instanceMethod yX5_followWords, Cond.selects RX5 yX5_followWords yX5_followWords, Cond.code yX5_followWords cX5_followWords 3 none, Cond.methodLink RX5 66 yX0_followWord, Cond.instanceMethod yX0_followWord, Cond.selects RX0 yX0_followWord yX0_followWord, Cond.code yX0_followWord cX0_followWord 2 none, Cond.methodLink RX0 36 yX4_targetOf, Cond.methodLink RX6 173 yX5_anchorsOfKind, Cond.instanceMethod yX5_anchorsOfKind, Cond.selects RX5 yX5_anchorsOfKind yX5_anchorsOfKind, Cond.code yX5_anchorsOfKind cX5_anchorsOfKind 5 (some .int), Cond.methodLink RX5 113 yX5_isOfKind, Cond.instanceMethod yX5_isOfKind, Cond.selects RX5 yX5_isOfKind yX5_isOfKind, Cond.code yX5_isOfKind cX5_isOfKind 3 (some .boolean), Cond.methodLink RX5 89 yX5_bestPlace, Cond.instanceMethod yX5_bestPlace, Cond.selects RX5 yX5_bestPlace yX5_bestPlace, Cond.code yX5_bestPlace cX5_bestPlace 2 (some .int), Cond.methodLink RX5 85 yX5_bestPlaceBut, Cond.instanceMethod yX5_bestPlaceBut]
def wsX6_wouldTake_r5 : List Cond := [Cond.selects RX5 yX5_bestPlaceBut yX5_bestPlaceBut, Cond.code yX5_bestPlaceBut cX5_bestPlaceBut 10 (some .int), Cond.methodLink RX5 77 Lib.Math.abs.name, Cond.static Lib.Math.abs.name, Cond.initialized "java/lang/Math", Cond.code Lib.Math.abs.name Lib.Math.abs.code 1 (some .int), Cond.methodLink RX5 93 yX4_size, Cond.instanceMethod yX4_size, Cond.selects RX4 yX4_size yX4_size, Cond.code yX4_size cX4_size 1 (some .int), Cond.methodLink RX5 97 yX5_scoreOf, Cond.instanceMethod yX5_scoreOf, Cond.selects RX5 yX5_scoreOf yX5_scoreOf, Cond.code yX5_scoreOf cX5_scoreOf 6 (some .int), Cond.methodLink RX5 70 yX0_thing, Cond.methodLink RX5 74 yX4_at, Cond.methodLink RX5 100 yX0_place, Cond.instanceMethod yX0_place, Cond.selects RX0 yX0_place yX0_place, Cond.code yX0_place cX0_place 1 (some .int), Cond.methodLink RX5 103 yX5_isLost, Cond.instanceMethod yX5_isLost, Cond.selects RX5 yX5_isLost yX5_isLost, Cond.code yX5_isLost cX5_isLost 3 (some .boolean)]
def wsX6_wouldTake_r6 : List Cond := [Cond.methodLink RX5 107 yX0_truePlace, Cond.instanceMethod yX0_truePlace, Cond.selects RX0 yX0_truePlace yX0_truePlace, Cond.code yX0_truePlace cX0_truePlace 1 (some .int), Cond.methodLink RX5 110 yX5_standingOf, Cond.instanceMethod yX5_standingOf, Cond.selects RX5 yX5_standingOf yX5_standingOf, Cond.code yX5_standingOf cX5_standingOf 5 (some .int)]
def wsX6_wouldTake : List Cond := .code yX6_wouldTake cX6_wouldTake 3 (some .int) :: ((wsX6_wouldTake_r1 ++ (wsX6_wouldTake_r2 ++ (wsX6_wouldTake_r3 ++ (wsX6_wouldTake_r4 ++ (wsX6_wouldTake_r5 ++ wsX6_wouldTake_r6))))) ++ wsX60 ++ wsX50 ++ wsX40 ++ wsX00)
def wsX6_safest_r1 : List Cond := [Cond.constant RX6 60 (-1000001), Cond.fieldLink RX6 10 "WordAnchors" "now" "LWordAnchors$State;", Cond.fieldLink RX6 47 "WordAnchors$State" "row" "LWordAnchors$Row;", Cond.fieldLink RX6 16 "WordAnchors" "trial" "LWordAnchors$State;", Cond.constant RX6 182 (-1000004), Cond.methodLink RX6 74 yX4_size, Cond.instanceMethod yX4_size, Cond.selects RX4 yX4_size yX4_size, Cond.initialized RX4, Cond.code yX4_size cX4_size 1 (some .int), Cond.fieldLink RX4 21 "WordAnchors$Row" "size" "I", Cond.methodLink RX6 188 yX6_tryTaking, Cond.instanceMethod yX6_tryTaking, Cond.selects RX6 yX6_tryTaking yX6_tryTaking, Cond.initialized RX6, Cond.code yX6_tryTaking cX6_tryTaking 2 none, Cond.methodLink RX6 213 yX5_copyFrom, Cond.instanceMethod yX5_copyFrom, Cond.selects RX5 yX5_copyFrom yX5_copyFrom, Cond.initialized RX5, Cond.code yX5_copyFrom cX5_copyFrom 5 none, Cond.fieldLink RX5 12 "WordAnchors$State" "row" "LWordAnchors$Row;", Cond.fieldLink RX5 29 "WordAnchors$State" "anchorCount" "I", Cond.fieldLink RX5 24 "WordAnchors$State" "settings" "[I"]
def wsX6_safest_r2 : List Cond := [Cond.fieldLink RX5 33 "WordAnchors$State" "edits" "I", Cond.methodLink RX5 152 yX4_copyFrom, Cond.instanceMethod yX4_copyFrom, Cond.selects RX4 yX4_copyFrom yX4_copyFrom, Cond.code yX4_copyFrom cX4_copyFrom 3 none, Cond.fieldLink RX4 9 "WordAnchors$Row" "words" "[I", Cond.methodLink RX4 55 yX4_at, Cond.instanceMethod yX4_at, Cond.selects RX4 yX4_at yX4_at, Cond.code yX4_at cX4_at 2 (some .int), Cond.methodLink RX5 36 yX5_anchorNumbered, Cond.instanceMethod yX5_anchorNumbered, Cond.selects RX5 yX5_anchorNumbered yX5_anchorNumbered, Cond.code yX5_anchorNumbered cX5_anchorNumbered 2 (some (.object "WordAnchors$Anchor")), Cond.fieldLink RX5 20 "WordAnchors$State" "anchors" "[LWordAnchors$Anchor;", Cond.methodLink RX5 44 yX0_copyFrom, Cond.instanceMethod yX0_copyFrom, Cond.selects RX0 yX0_copyFrom yX0_copyFrom, Cond.initialized RX0, Cond.code yX0_copyFrom cX0_copyFrom 3 none, Cond.fieldLink RX0 15 "WordAnchors$Anchor" "place" "I", Cond.fieldLink RX0 19 "WordAnchors$Anchor" "truePlace" "I", Cond.fieldLink RX0 9 "WordAnchors$Anchor" "things" "[I", Cond.methodLink RX0 39 yX0_thing]
def wsX6_safest_r3 : List Cond := [Cond.instanceMethod yX0_thing, Cond.selects RX0 yX0_thing yX0_thing, Cond.code yX0_thing cX0_thing 2 (some .int), Cond.methodLink RX5 82 yX5_setting, Cond.instanceMethod yX5_setting, Cond.selects RX5 yX5_setting yX5_setting, Cond.code yX5_setting cX5_setting 2 (some .int), Cond.methodLink RX6 85 yX5_removeWord, Cond.instanceMethod yX5_removeWord, Cond.selects RX5 yX5_removeWord yX5_removeWord, Cond.code yX5_removeWord cX5_removeWord 2 none, Cond.methodLink RX5 55 yX4_remove, Cond.instanceMethod yX4_remove, Cond.selects RX4 yX4_remove yX4_remove, Cond.code yX4_remove cX4_remove 3 none, Cond.fieldLink RX4 15 "WordAnchors$Row" "targets" "[I", Cond.methodLink RX4 25 yX4_holds, Cond.instanceMethod yX4_holds, Cond.selects RX4 yX4_holds yX4_holds, Cond.code yX4_holds cX4_holds 2 (some .boolean), Cond.methodLink RX4 36 yX4_relocate, Cond.instanceMethod yX4_relocate, Cond.selects RX4 yX4_relocate yX4_relocate, Cond.code yX4_relocate cX4_relocate 4 none]
def wsX6_safest_r4 : List Cond := [Cond.fieldLink RX4 18 "WordAnchors$Row" "relocated" "[I", Cond.methodLink RX4 48 yX4_targetOf, Cond.instanceMethod yX4_targetOf, Cond.selects RX4 yX4_targetOf yX4_targetOf, Cond.code yX4_targetOf cX4_targetOf 2 (some .int), Cond.methodLink RX5 52 yX5_followWords, Cond.instanceMethod yX5_followWords, Cond.selects RX5 yX5_followWords yX5_followWords, Cond.code yX5_followWords cX5_followWords 3 none, Cond.methodLink RX5 66 yX0_followWord, Cond.instanceMethod yX0_followWord, Cond.selects RX0 yX0_followWord yX0_followWord, Cond.code yX0_followWord cX0_followWord 2 none, Cond.methodLink RX0 36 yX4_targetOf, Cond.methodLink RX6 173 yX5_anchorsOfKind, Cond.instanceMethod yX5_anchorsOfKind, Cond.selects RX5 yX5_anchorsOfKind yX5_anchorsOfKind, Cond.code yX5_anchorsOfKind cX5_anchorsOfKind 5 (some .int), Cond.methodLink RX5 113 yX5_isOfKind, Cond.instanceMethod yX5_isOfKind, Cond.selects RX5 yX5_isOfKind yX5_isOfKind, Cond.code yX5_isOfKind cX5_isOfKind 3 (some .boolean), Cond.methodLink RX5 89 yX5_bestPlace, Cond.instanceMethod yX5_bestPlace]
def wsX6_safest_r5 : List Cond := [Cond.selects RX5 yX5_bestPlace yX5_bestPlace, Cond.code yX5_bestPlace cX5_bestPlace 2 (some .int), Cond.methodLink RX5 85 yX5_bestPlaceBut, Cond.instanceMethod yX5_bestPlaceBut, Cond.selects RX5 yX5_bestPlaceBut yX5_bestPlaceBut, Cond.code yX5_bestPlaceBut cX5_bestPlaceBut 10 (some .int), Cond.methodLink RX5 77 Lib.Math.abs.name, Cond.static Lib.Math.abs.name, Cond.initialized "java/lang/Math", Cond.code Lib.Math.abs.name Lib.Math.abs.code 1 (some .int), Cond.methodLink RX5 93 yX4_size, Cond.methodLink RX5 97 yX5_scoreOf, Cond.instanceMethod yX5_scoreOf, Cond.selects RX5 yX5_scoreOf yX5_scoreOf, Cond.code yX5_scoreOf cX5_scoreOf 6 (some .int), Cond.methodLink RX5 70 yX0_thing, Cond.methodLink RX5 74 yX4_at, Cond.methodLink RX5 100 yX0_place, Cond.instanceMethod yX0_place, Cond.selects RX0 yX0_place yX0_place, Cond.code yX0_place cX0_place 1 (some .int), Cond.methodLink RX5 103 yX5_isLost, Cond.instanceMethod yX5_isLost, Cond.selects RX5 yX5_isLost yX5_isLost]
def wsX6_safest_r6 : List Cond := [Cond.code yX5_isLost cX5_isLost 3 (some .boolean), Cond.methodLink RX5 107 yX0_truePlace, Cond.instanceMethod yX0_truePlace, Cond.selects RX0 yX0_truePlace yX0_truePlace, Cond.code yX0_truePlace cX0_truePlace 1 (some .int), Cond.methodLink RX5 110 yX5_standingOf, Cond.instanceMethod yX5_standingOf, Cond.selects RX5 yX5_standingOf yX5_standingOf, Cond.code yX5_standingOf cX5_standingOf 5 (some .int), Cond.methodLink RX6 191 yJ6_bitCount_0f7a4, Cond.static yJ6_bitCount_0f7a4, Cond.initialized RJ6, Cond.code yJ6_bitCount_0f7a4 cJ6_bitCount_0f7a4 1 (some .int), Cond.constant RJ6 265 (1431655765), Cond.constant RJ6 266 (858993459), Cond.constant RJ6 267 (252645135)]
def wsX6_safest : List Cond := .code yX6_safest cX6_safest 6 (some .int) :: ((wsX6_safest_r1 ++ (wsX6_safest_r2 ++ (wsX6_safest_r3 ++ (wsX6_safest_r4 ++ (wsX6_safest_r5 ++ wsX6_safest_r6))))) ++ wsX60 ++ wsX50 ++ wsX40 ++ wsX00)
def wsX6_differenceAt_r1 : List Cond := [Cond.fieldLink RX6 43 "WordAnchors" "probe" "LWordAnchors$Anchor;", Cond.fieldLink RX6 10 "WordAnchors" "now" "LWordAnchors$State;", Cond.fieldLink RX6 47 "WordAnchors$State" "row" "LWordAnchors$Row;", Cond.methodLink RX6 233 yX0_setAt, Cond.instanceMethod yX0_setAt, Cond.selects RX0 yX0_setAt yX0_setAt, Cond.initialized RX0, Cond.code yX0_setAt cX0_setAt 3 none, Cond.methodLink RX0 22 yX0_goTo, Cond.instanceMethod yX0_goTo, Cond.selects RX0 yX0_goTo yX0_goTo, Cond.code yX0_goTo cX0_goTo 2 none, Cond.fieldLink RX0 15 "WordAnchors$Anchor" "place" "I", Cond.methodLink RX0 26 yX0_look, Cond.instanceMethod yX0_look, Cond.selects RX0 yX0_look yX0_look, Cond.code yX0_look cX0_look 5 (some .int), Cond.fieldLink RX0 9 "WordAnchors$Anchor" "things" "[I", Cond.fieldLink RX0 19 "WordAnchors$Anchor" "truePlace" "I", Cond.methodLink RX0 30 yX4_at, Cond.instanceMethod yX4_at, Cond.selects RX4 yX4_at yX4_at, Cond.initialized RX4, Cond.code yX4_at cX4_at 2 (some .int)]
def wsX6_differenceAt_r2 : List Cond := [Cond.fieldLink RX4 21 "WordAnchors$Row" "size" "I", Cond.fieldLink RX4 9 "WordAnchors$Row" "words" "[I", Cond.methodLink RX6 170 yX5_scoreOf, Cond.instanceMethod yX5_scoreOf, Cond.selects RX5 yX5_scoreOf yX5_scoreOf, Cond.initialized RX5, Cond.code yX5_scoreOf cX5_scoreOf 6 (some .int), Cond.fieldLink RX5 12 "WordAnchors$State" "row" "LWordAnchors$Row;", Cond.methodLink RX5 77 Lib.Math.abs.name, Cond.static Lib.Math.abs.name, Cond.initialized "java/lang/Math", Cond.code Lib.Math.abs.name Lib.Math.abs.code 1 (some .int), Cond.methodLink RX5 70 yX0_thing, Cond.instanceMethod yX0_thing, Cond.selects RX0 yX0_thing yX0_thing, Cond.code yX0_thing cX0_thing 2 (some .int), Cond.methodLink RX5 74 yX4_at, Cond.methodLink RX5 82 yX5_setting, Cond.instanceMethod yX5_setting, Cond.selects RX5 yX5_setting yX5_setting, Cond.code yX5_setting cX5_setting 2 (some .int), Cond.fieldLink RX5 24 "WordAnchors$State" "settings" "[I", Cond.methodLink RX6 237 yX5_bestPlaceBut, Cond.instanceMethod yX5_bestPlaceBut]
def wsX6_differenceAt_r3 : List Cond := [Cond.selects RX5 yX5_bestPlaceBut yX5_bestPlaceBut, Cond.code yX5_bestPlaceBut cX5_bestPlaceBut 10 (some .int), Cond.methodLink RX5 93 yX4_size, Cond.instanceMethod yX4_size, Cond.selects RX4 yX4_size yX4_size, Cond.code yX4_size cX4_size 1 (some .int), Cond.methodLink RX5 97 yX5_scoreOf, Cond.methodLink RX5 100 yX0_place, Cond.instanceMethod yX0_place, Cond.selects RX0 yX0_place yX0_place, Cond.code yX0_place cX0_place 1 (some .int)]
def wsX6_differenceAt : List Cond := .code yX6_differenceAt cX6_differenceAt 4 (some .int) :: ((wsX6_differenceAt_r1 ++ (wsX6_differenceAt_r2 ++ wsX6_differenceAt_r3)) ++ wsX60 ++ wsX50 ++ wsX00 ++ wsX40)
def wsX6_clearest_r1 : List Cond := [Cond.constant RX6 60 (-1000001), Cond.fieldLink RX6 10 "WordAnchors" "now" "LWordAnchors$State;", Cond.fieldLink RX6 47 "WordAnchors$State" "row" "LWordAnchors$Row;", Cond.constant RX6 182 (-1000004), Cond.methodLink RX6 74 yX4_size, Cond.instanceMethod yX4_size, Cond.selects RX4 yX4_size yX4_size, Cond.initialized RX4, Cond.code yX4_size cX4_size 1 (some .int), Cond.fieldLink RX4 21 "WordAnchors$Row" "size" "I", Cond.methodLink RX6 196 yX6_differenceAt, Cond.instanceMethod yX6_differenceAt, Cond.selects RX6 yX6_differenceAt yX6_differenceAt, Cond.initialized RX6, Cond.code yX6_differenceAt cX6_differenceAt 4 (some .int), Cond.fieldLink RX6 43 "WordAnchors" "probe" "LWordAnchors$Anchor;", Cond.methodLink RX6 233 yX0_setAt, Cond.instanceMethod yX0_setAt, Cond.selects RX0 yX0_setAt yX0_setAt, Cond.initialized RX0, Cond.code yX0_setAt cX0_setAt 3 none, Cond.methodLink RX0 22 yX0_goTo, Cond.instanceMethod yX0_goTo, Cond.selects RX0 yX0_goTo yX0_goTo]
def wsX6_clearest_r2 : List Cond := [Cond.code yX0_goTo cX0_goTo 2 none, Cond.fieldLink RX0 15 "WordAnchors$Anchor" "place" "I", Cond.methodLink RX0 26 yX0_look, Cond.instanceMethod yX0_look, Cond.selects RX0 yX0_look yX0_look, Cond.code yX0_look cX0_look 5 (some .int), Cond.fieldLink RX0 9 "WordAnchors$Anchor" "things" "[I", Cond.fieldLink RX0 19 "WordAnchors$Anchor" "truePlace" "I", Cond.methodLink RX0 30 yX4_at, Cond.instanceMethod yX4_at, Cond.selects RX4 yX4_at yX4_at, Cond.code yX4_at cX4_at 2 (some .int), Cond.fieldLink RX4 9 "WordAnchors$Row" "words" "[I", Cond.methodLink RX6 170 yX5_scoreOf, Cond.instanceMethod yX5_scoreOf, Cond.selects RX5 yX5_scoreOf yX5_scoreOf, Cond.initialized RX5, Cond.code yX5_scoreOf cX5_scoreOf 6 (some .int), Cond.fieldLink RX5 12 "WordAnchors$State" "row" "LWordAnchors$Row;", Cond.methodLink RX5 77 Lib.Math.abs.name, Cond.static Lib.Math.abs.name, Cond.initialized "java/lang/Math", Cond.code Lib.Math.abs.name Lib.Math.abs.code 1 (some .int), Cond.methodLink RX5 70 yX0_thing]
def wsX6_clearest_r3 : List Cond := [Cond.instanceMethod yX0_thing, Cond.selects RX0 yX0_thing yX0_thing, Cond.code yX0_thing cX0_thing 2 (some .int), Cond.methodLink RX5 74 yX4_at, Cond.methodLink RX5 82 yX5_setting, Cond.instanceMethod yX5_setting, Cond.selects RX5 yX5_setting yX5_setting, Cond.code yX5_setting cX5_setting 2 (some .int), Cond.fieldLink RX5 24 "WordAnchors$State" "settings" "[I", Cond.methodLink RX6 237 yX5_bestPlaceBut, Cond.instanceMethod yX5_bestPlaceBut, Cond.selects RX5 yX5_bestPlaceBut yX5_bestPlaceBut, Cond.code yX5_bestPlaceBut cX5_bestPlaceBut 10 (some .int), Cond.methodLink RX5 93 yX4_size, Cond.methodLink RX5 97 yX5_scoreOf, Cond.methodLink RX5 100 yX0_place, Cond.instanceMethod yX0_place, Cond.selects RX0 yX0_place yX0_place, Cond.code yX0_place cX0_place 1 (some .int)]
def wsX6_clearest : List Cond := .code yX6_clearest cX6_clearest 6 (some .int) :: ((wsX6_clearest_r1 ++ (wsX6_clearest_r2 ++ wsX6_clearest_r3)) ++ wsX60 ++ wsX50 ++ wsX40 ++ wsX00)
def wsX6_count_r1 : List Cond := [Cond.fieldLink RX6 10 "WordAnchors" "now" "LWordAnchors$State;", Cond.fieldLink RX6 47 "WordAnchors$State" "row" "LWordAnchors$Row;", Cond.fieldLink RX6 22 "WordAnchors" "history" "LWordAnchors$History;", Cond.fieldLink RX6 29 "WordAnchors" "text" "LWordAnchors$EditText;", Cond.constant RX6 60 (-1000001), Cond.methodLink RX6 74 yX4_size, Cond.instanceMethod yX4_size, Cond.selects RX4 yX4_size yX4_size, Cond.initialized RX4, Cond.code yX4_size cX4_size 1 (some .int), Cond.fieldLink RX4 21 "WordAnchors$Row" "size" "I", Cond.methodLink RX6 103 yX5_anchorCount, Cond.instanceMethod yX5_anchorCount, Cond.selects RX5 yX5_anchorCount yX5_anchorCount, Cond.initialized RX5, Cond.code yX5_anchorCount cX5_anchorCount 1 (some .int), Cond.fieldLink RX5 29 "WordAnchors$State" "anchorCount" "I", Cond.methodLink RX6 199 yX4_unlikeWords, Cond.instanceMethod yX4_unlikeWords, Cond.selects RX4 yX4_unlikeWords yX4_unlikeWords, Cond.code yX4_unlikeWords cX4_unlikeWords 3 (some .int), Cond.methodLink RX4 52 yX4_standsAhead, Cond.instanceMethod yX4_standsAhead, Cond.selects RX4 yX4_standsAhead yX4_standsAhead]
def wsX6_count_r2 : List Cond := [Cond.code yX4_standsAhead cX4_standsAhead 3 (some .boolean), Cond.methodLink RX4 55 yX4_at, Cond.instanceMethod yX4_at, Cond.selects RX4 yX4_at yX4_at, Cond.code yX4_at cX4_at 2 (some .int), Cond.fieldLink RX4 9 "WordAnchors$Row" "words" "[I", Cond.methodLink RX6 202 yX5_edits, Cond.instanceMethod yX5_edits, Cond.selects RX5 yX5_edits yX5_edits, Cond.code yX5_edits cX5_edits 1 (some .int), Cond.fieldLink RX5 33 "WordAnchors$State" "edits" "I", Cond.methodLink RX6 205 yX3_size, Cond.instanceMethod yX3_size, Cond.selects RX3 yX3_size yX3_size, Cond.initialized RX3, Cond.code yX3_size cX3_size 1 (some .int), Cond.fieldLink RX3 18 "WordAnchors$History" "size" "I", Cond.methodLink RX6 206 yX2_length, Cond.instanceMethod yX2_length, Cond.selects RX2 yX2_length yX2_length, Cond.initialized RX2, Cond.code yX2_length cX2_length 1 (some .int), Cond.fieldLink RX2 19 "WordAnchors$EditText" "length" "I", Cond.methodLink RX6 142 yX5_setting]
def wsX6_count_r3 : List Cond := [Cond.instanceMethod yX5_setting, Cond.selects RX5 yX5_setting yX5_setting, Cond.code yX5_setting cX5_setting 2 (some .int), Cond.fieldLink RX5 24 "WordAnchors$State" "settings" "[I"]
def wsX6_count : List Cond := .code yX6_count cX6_count 2 (some .int) :: ((wsX6_count_r1 ++ (wsX6_count_r2 ++ wsX6_count_r3)) ++ wsX60 ++ wsX50 ++ wsX40 ++ wsX30 ++ wsX20)
def wsX6_undo_r1 : List Cond := [Cond.fieldLink RX6 22 "WordAnchors" "history" "LWordAnchors$History;", Cond.constant RX6 124 (-1000002), Cond.fieldLink RX6 10 "WordAnchors" "now" "LWordAnchors$State;", Cond.methodLink RX6 209 yX3_latest, Cond.instanceMethod yX3_latest, Cond.selects RX3 yX3_latest yX3_latest, Cond.initialized RX3, Cond.code yX3_latest cX3_latest 1 (some (.object "WordAnchors$State")), Cond.fieldLink RX3 18 "WordAnchors$History" "size" "I", Cond.methodLink RX3 25 yX3_fromOldest, Cond.instanceMethod yX3_fromOldest, Cond.selects RX3 yX3_fromOldest yX3_fromOldest, Cond.code yX3_fromOldest cX3_fromOldest 3 (some (.object "WordAnchors$State")), Cond.fieldLink RX3 22 "WordAnchors$History" "oldest" "I", Cond.fieldLink RX3 11 "WordAnchors$History" "states" "[LWordAnchors$State;", Cond.methodLink RX6 213 yX5_copyFrom, Cond.instanceMethod yX5_copyFrom, Cond.selects RX5 yX5_copyFrom yX5_copyFrom, Cond.initialized RX5, Cond.code yX5_copyFrom cX5_copyFrom 5 none, Cond.fieldLink RX5 12 "WordAnchors$State" "row" "LWordAnchors$Row;", Cond.fieldLink RX5 29 "WordAnchors$State" "anchorCount" "I", Cond.fieldLink RX5 24 "WordAnchors$State" "settings" "[I", Cond.fieldLink RX5 33 "WordAnchors$State" "edits" "I"]
def wsX6_undo_r2 : List Cond := [Cond.methodLink RX5 152 yX4_copyFrom, Cond.instanceMethod yX4_copyFrom, Cond.selects RX4 yX4_copyFrom yX4_copyFrom, Cond.initialized RX4, Cond.code yX4_copyFrom cX4_copyFrom 3 none, Cond.fieldLink RX4 9 "WordAnchors$Row" "words" "[I", Cond.fieldLink RX4 21 "WordAnchors$Row" "size" "I", Cond.methodLink RX4 55 yX4_at, Cond.instanceMethod yX4_at, Cond.selects RX4 yX4_at yX4_at, Cond.code yX4_at cX4_at 2 (some .int), Cond.methodLink RX5 36 yX5_anchorNumbered, Cond.instanceMethod yX5_anchorNumbered, Cond.selects RX5 yX5_anchorNumbered yX5_anchorNumbered, Cond.code yX5_anchorNumbered cX5_anchorNumbered 2 (some (.object "WordAnchors$Anchor")), Cond.fieldLink RX5 20 "WordAnchors$State" "anchors" "[LWordAnchors$Anchor;", Cond.methodLink RX5 44 yX0_copyFrom, Cond.instanceMethod yX0_copyFrom, Cond.selects RX0 yX0_copyFrom yX0_copyFrom, Cond.initialized RX0, Cond.code yX0_copyFrom cX0_copyFrom 3 none, Cond.fieldLink RX0 15 "WordAnchors$Anchor" "place" "I", Cond.fieldLink RX0 19 "WordAnchors$Anchor" "truePlace" "I", Cond.fieldLink RX0 9 "WordAnchors$Anchor" "things" "[I"]
def wsX6_undo_r3 : List Cond := [Cond.methodLink RX0 39 yX0_thing, Cond.instanceMethod yX0_thing, Cond.selects RX0 yX0_thing yX0_thing, Cond.code yX0_thing cX0_thing 2 (some .int), Cond.methodLink RX5 82 yX5_setting, Cond.instanceMethod yX5_setting, Cond.selects RX5 yX5_setting yX5_setting, Cond.code yX5_setting cX5_setting 2 (some .int), Cond.methodLink RX6 216 yX3_forgetLatest, Cond.instanceMethod yX3_forgetLatest, Cond.selects RX3 yX3_forgetLatest yX3_forgetLatest, Cond.code yX3_forgetLatest cX3_forgetLatest 1 none, Cond.methodLink RX6 205 yX3_size, Cond.instanceMethod yX3_size, Cond.selects RX3 yX3_size yX3_size, Cond.code yX3_size cX3_size 1 (some .int)]
def wsX6_undo : List Cond := .code yX6_undo cX6_undo 2 (some .int) :: ((wsX6_undo_r1 ++ (wsX6_undo_r2 ++ wsX6_undo_r3)) ++ wsX60 ++ wsX30 ++ wsX50 ++ wsX40 ++ wsX00)
def wsX6_type : List Cond := .code yX6_type cX6_type 2 (some .int) :: ([.constant RX6 60 (-1000001), .fieldLink RX6 29 "WordAnchors" "text" "LWordAnchors$EditText;", .constant RX6 65 (-1000003), .methodLink RX6 219 yX2_isFull, .instanceMethod yX2_isFull, .selects RX2 yX2_isFull yX2_isFull, .initialized RX2, .code yX2_isFull cX2_isFull 1 (some .boolean), .fieldLink RX2 19 "WordAnchors$EditText" "length" "I", .fieldLink RX2 9 "WordAnchors$EditText" "characters" "[C", .methodLink RX6 220 yX2_append, .instanceMethod yX2_append, .selects RX2 yX2_append yX2_append, .code yX2_append cX2_append 2 none, .methodLink RX6 206 yX2_length, .instanceMethod yX2_length, .selects RX2 yX2_length yX2_length, .code yX2_length cX2_length 1 (some .int)] ++ wsX60 ++ wsX20)
def wsX6_clearText : List Cond := .code yX6_clearText cX6_clearText 2 (some .int) :: ([.fieldLink RX6 29 "WordAnchors" "text" "LWordAnchors$EditText;", .methodLink RX6 206 yX2_length, .instanceMethod yX2_length, .selects RX2 yX2_length yX2_length, .initialized RX2, .code yX2_length cX2_length 1 (some .int), .fieldLink RX2 19 "WordAnchors$EditText" "length" "I", .methodLink RX6 224 yX2_empty, .instanceMethod yX2_empty, .selects RX2 yX2_empty yX2_empty, .code yX2_empty cX2_empty 1 none] ++ wsX60 ++ wsX20)
def wsX6_rehearse_r1 : List Cond := [Cond.fieldLink RX6 16 "WordAnchors" "trial" "LWordAnchors$State;", Cond.fieldLink RX6 10 "WordAnchors" "now" "LWordAnchors$State;", Cond.fieldLink RX6 29 "WordAnchors" "text" "LWordAnchors$EditText;", Cond.methodLink RX6 213 yX5_copyFrom, Cond.instanceMethod yX5_copyFrom, Cond.selects RX5 yX5_copyFrom yX5_copyFrom, Cond.initialized RX5, Cond.code yX5_copyFrom cX5_copyFrom 5 none, Cond.fieldLink RX5 12 "WordAnchors$State" "row" "LWordAnchors$Row;", Cond.fieldLink RX5 29 "WordAnchors$State" "anchorCount" "I", Cond.fieldLink RX5 24 "WordAnchors$State" "settings" "[I", Cond.fieldLink RX5 33 "WordAnchors$State" "edits" "I", Cond.methodLink RX5 152 yX4_copyFrom, Cond.instanceMethod yX4_copyFrom, Cond.selects RX4 yX4_copyFrom yX4_copyFrom, Cond.initialized RX4, Cond.code yX4_copyFrom cX4_copyFrom 3 none, Cond.fieldLink RX4 9 "WordAnchors$Row" "words" "[I", Cond.fieldLink RX4 21 "WordAnchors$Row" "size" "I", Cond.methodLink RX4 55 yX4_at, Cond.instanceMethod yX4_at, Cond.selects RX4 yX4_at yX4_at, Cond.code yX4_at cX4_at 2 (some .int), Cond.methodLink RX5 36 yX5_anchorNumbered]
def wsX6_rehearse_r2 : List Cond := [Cond.instanceMethod yX5_anchorNumbered, Cond.selects RX5 yX5_anchorNumbered yX5_anchorNumbered, Cond.code yX5_anchorNumbered cX5_anchorNumbered 2 (some (.object "WordAnchors$Anchor")), Cond.fieldLink RX5 20 "WordAnchors$State" "anchors" "[LWordAnchors$Anchor;", Cond.methodLink RX5 44 yX0_copyFrom, Cond.instanceMethod yX0_copyFrom, Cond.selects RX0 yX0_copyFrom yX0_copyFrom, Cond.initialized RX0, Cond.code yX0_copyFrom cX0_copyFrom 3 none, Cond.fieldLink RX0 15 "WordAnchors$Anchor" "place" "I", Cond.fieldLink RX0 19 "WordAnchors$Anchor" "truePlace" "I", Cond.fieldLink RX0 9 "WordAnchors$Anchor" "things" "[I", Cond.methodLink RX0 39 yX0_thing, Cond.instanceMethod yX0_thing, Cond.selects RX0 yX0_thing yX0_thing, Cond.code yX0_thing cX0_thing 2 (some .int), Cond.methodLink RX5 82 yX5_setting, Cond.instanceMethod yX5_setting, Cond.selects RX5 yX5_setting yX5_setting, Cond.code yX5_setting cX5_setting 2 (some .int), Cond.methodLink RX6 240 yX2_rewind, Cond.instanceMethod yX2_rewind, Cond.selects RX2 yX2_rewind yX2_rewind, Cond.initialized RX2]
def wsX6_rehearse_r3 : List Cond := [Cond.code yX2_rewind cX2_rewind 1 none, Cond.fieldLink RX2 23 "WordAnchors$EditText" "next" "I", Cond.methodLink RX6 243 yX2_hasMore, Cond.instanceMethod yX2_hasMore, Cond.selects RX2 yX2_hasMore yX2_hasMore, Cond.code yX2_hasMore cX2_hasMore 1 (some .boolean), Cond.fieldLink RX2 19 "WordAnchors$EditText" "length" "I", Cond.methodLink RX6 246 yX2_readEdit, Cond.instanceMethod yX2_readEdit, Cond.selects RX2 yX2_readEdit yX2_readEdit, Cond.code yX2_readEdit cX2_readEdit 4 (some .boolean), Cond.fieldLink RX2 26 "WordAnchors$EditText" "start" "I", Cond.fieldLink RX2 29 "WordAnchors$EditText" "sign" "C", Cond.methodLink RX2 33 yX2_nextCharacter, Cond.instanceMethod yX2_nextCharacter, Cond.selects RX2 yX2_nextCharacter yX2_nextCharacter, Cond.code yX2_nextCharacter cX2_nextCharacter 1 (some .char), Cond.fieldLink RX2 9 "WordAnchors$EditText" "characters" "[C", Cond.methodLink RX2 37 yX2_numbersBehind, Cond.static yX2_numbersBehind, Cond.code yX2_numbersBehind cX2_numbersBehind 1 (some .int), Cond.methodLink RX2 41 yX2_readSign, Cond.instanceMethod yX2_readSign, Cond.selects RX2 yX2_readSign yX2_readSign]
def wsX6_rehearse_r4 : List Cond := [Cond.code yX2_readSign cX2_readSign 2 (some .boolean), Cond.methodLink RX2 45 yX2_readNumber, Cond.instanceMethod yX2_readNumber, Cond.selects RX2 yX2_readNumber yX2_readNumber, Cond.code yX2_readNumber cX2_readNumber 4 (some .boolean), Cond.fieldLink RX2 15 "WordAnchors$EditText" "numbers" "[I", Cond.methodLink RX2 49 yX2_isDigit, Cond.static yX2_isDigit, Cond.code yX2_isDigit cX2_isDigit 1 (some .boolean), Cond.methodLink RX6 249 yX5_faultOf, Cond.instanceMethod yX5_faultOf, Cond.selects RX5 yX5_faultOf yX5_faultOf, Cond.code yX5_faultOf cX5_faultOf 4 (some .int), Cond.methodLink RX5 116 yX2_number, Cond.instanceMethod yX2_number, Cond.selects RX2 yX2_number yX2_number, Cond.code yX2_number cX2_number 2 (some .int), Cond.methodLink RX5 121 yX2_sign, Cond.instanceMethod yX2_sign, Cond.selects RX2 yX2_sign yX2_sign, Cond.code yX2_sign cX2_sign 1 (some .char), Cond.methodLink RX5 125 yX4_takesAt, Cond.instanceMethod yX4_takesAt, Cond.selects RX4 yX4_takesAt yX4_takesAt]
def wsX6_rehearse_r5 : List Cond := [Cond.code yX4_takesAt cX4_takesAt 2 (some .boolean), Cond.methodLink RX5 129 yX4_canShift, Cond.instanceMethod yX4_canShift, Cond.selects RX4 yX4_canShift yX4_canShift, Cond.code yX4_canShift cX4_canShift 4 (some .boolean), Cond.methodLink RX4 25 yX4_holds, Cond.instanceMethod yX4_holds, Cond.selects RX4 yX4_holds yX4_holds, Cond.code yX4_holds cX4_holds 2 (some .boolean), Cond.methodLink RX5 133 yX4_holds, Cond.methodLink RX5 136 yX4_isFull, Cond.instanceMethod yX4_isFull, Cond.selects RX4 yX4_isFull yX4_isFull, Cond.code yX4_isFull cX4_isFull 1 (some .boolean), Cond.methodLink RX6 253 yX5_perform, Cond.instanceMethod yX5_perform, Cond.selects RX5 yX5_perform yX5_perform, Cond.code yX5_perform cX5_perform 3 none, Cond.methodLink RX5 140 yX5_insertWord, Cond.instanceMethod yX5_insertWord, Cond.selects RX5 yX5_insertWord yX5_insertWord, Cond.code yX5_insertWord cX5_insertWord 3 none, Cond.methodLink RX5 48 yX4_insert, Cond.instanceMethod yX4_insert]
def wsX6_rehearse_r6 : List Cond := [Cond.selects RX4 yX4_insert yX4_insert, Cond.code yX4_insert cX4_insert 4 none, Cond.fieldLink RX4 15 "WordAnchors$Row" "targets" "[I", Cond.methodLink RX4 29 yX4_takesAt, Cond.methodLink RX4 32 yX4_isFull, Cond.methodLink RX4 36 yX4_relocate, Cond.instanceMethod yX4_relocate, Cond.selects RX4 yX4_relocate yX4_relocate, Cond.code yX4_relocate cX4_relocate 4 none, Cond.fieldLink RX4 18 "WordAnchors$Row" "relocated" "[I", Cond.methodLink RX4 48 yX4_targetOf, Cond.instanceMethod yX4_targetOf, Cond.selects RX4 yX4_targetOf yX4_targetOf, Cond.code yX4_targetOf cX4_targetOf 2 (some .int), Cond.methodLink RX5 52 yX5_followWords, Cond.instanceMethod yX5_followWords, Cond.selects RX5 yX5_followWords yX5_followWords, Cond.code yX5_followWords cX5_followWords 3 none, Cond.methodLink RX5 66 yX0_followWord, Cond.instanceMethod yX0_followWord, Cond.selects RX0 yX0_followWord yX0_followWord, Cond.code yX0_followWord cX0_followWord 2 none, Cond.methodLink RX0 36 yX4_targetOf, Cond.methodLink RX5 143 yX5_removeWord]
def wsX6_rehearse_r7 : List Cond := [Cond.instanceMethod yX5_removeWord, Cond.selects RX5 yX5_removeWord yX5_removeWord, Cond.code yX5_removeWord cX5_removeWord 2 none, Cond.methodLink RX5 55 yX4_remove, Cond.instanceMethod yX4_remove, Cond.selects RX4 yX4_remove yX4_remove, Cond.code yX4_remove cX4_remove 3 none, Cond.methodLink RX5 146 yX5_replaceWord, Cond.instanceMethod yX5_replaceWord, Cond.selects RX5 yX5_replaceWord yX5_replaceWord, Cond.code yX5_replaceWord cX5_replaceWord 3 none, Cond.methodLink RX5 59 yX4_replace, Cond.instanceMethod yX4_replace, Cond.selects RX4 yX4_replace yX4_replace, Cond.code yX4_replace cX4_replace 4 none, Cond.methodLink RX5 149 yX5_shiftWords, Cond.instanceMethod yX5_shiftWords, Cond.selects RX5 yX5_shiftWords yX5_shiftWords, Cond.code yX5_shiftWords cX5_shiftWords 4 none, Cond.methodLink RX5 62 yX4_shift, Cond.instanceMethod yX4_shift, Cond.selects RX4 yX4_shift yX4_shift, Cond.code yX4_shift cX4_shift 5 none, Cond.methodLink RX4 40 yX4_canShift]
def wsX6_rehearse_r8 : List Cond := [Cond.methodLink RX4 44 yX4_placeAfterShift, Cond.static yX4_placeAfterShift, Cond.code yX4_placeAfterShift cX4_placeAfterShift 5 (some .int)]
def wsX6_rehearse : List Cond := .code yX6_rehearse cX6_rehearse 3 (some .int) :: ((wsX6_rehearse_r1 ++ (wsX6_rehearse_r2 ++ (wsX6_rehearse_r3 ++ (wsX6_rehearse_r4 ++ (wsX6_rehearse_r5 ++ (wsX6_rehearse_r6 ++ (wsX6_rehearse_r7 ++ wsX6_rehearse_r8))))))) ++ wsX60 ++ wsX50 ++ wsX40 ++ wsX00 ++ wsX20)
def wsX6_fault_r1 : List Cond := [Cond.constant RX6 60 (-1000001), Cond.constant RX6 182 (-1000004), Cond.fieldLink RX6 29 "WordAnchors" "text" "LWordAnchors$EditText;", Cond.methodLink RX6 227 yX6_rehearse, Cond.instanceMethod yX6_rehearse, Cond.selects RX6 yX6_rehearse yX6_rehearse, Cond.initialized RX6, Cond.code yX6_rehearse cX6_rehearse 3 (some .int), Cond.fieldLink RX6 16 "WordAnchors" "trial" "LWordAnchors$State;", Cond.fieldLink RX6 10 "WordAnchors" "now" "LWordAnchors$State;", Cond.methodLink RX6 213 yX5_copyFrom, Cond.instanceMethod yX5_copyFrom, Cond.selects RX5 yX5_copyFrom yX5_copyFrom, Cond.initialized RX5, Cond.code yX5_copyFrom cX5_copyFrom 5 none, Cond.fieldLink RX5 12 "WordAnchors$State" "row" "LWordAnchors$Row;", Cond.fieldLink RX5 29 "WordAnchors$State" "anchorCount" "I", Cond.fieldLink RX5 24 "WordAnchors$State" "settings" "[I", Cond.fieldLink RX5 33 "WordAnchors$State" "edits" "I", Cond.methodLink RX5 152 yX4_copyFrom, Cond.instanceMethod yX4_copyFrom, Cond.selects RX4 yX4_copyFrom yX4_copyFrom, Cond.initialized RX4, Cond.code yX4_copyFrom cX4_copyFrom 3 none]
def wsX6_fault_r2 : List Cond := [Cond.fieldLink RX4 9 "WordAnchors$Row" "words" "[I", Cond.fieldLink RX4 21 "WordAnchors$Row" "size" "I", Cond.methodLink RX4 55 yX4_at, Cond.instanceMethod yX4_at, Cond.selects RX4 yX4_at yX4_at, Cond.code yX4_at cX4_at 2 (some .int), Cond.methodLink RX5 36 yX5_anchorNumbered, Cond.instanceMethod yX5_anchorNumbered, Cond.selects RX5 yX5_anchorNumbered yX5_anchorNumbered, Cond.code yX5_anchorNumbered cX5_anchorNumbered 2 (some (.object "WordAnchors$Anchor")), Cond.fieldLink RX5 20 "WordAnchors$State" "anchors" "[LWordAnchors$Anchor;", Cond.methodLink RX5 44 yX0_copyFrom, Cond.instanceMethod yX0_copyFrom, Cond.selects RX0 yX0_copyFrom yX0_copyFrom, Cond.initialized RX0, Cond.code yX0_copyFrom cX0_copyFrom 3 none, Cond.fieldLink RX0 15 "WordAnchors$Anchor" "place" "I", Cond.fieldLink RX0 19 "WordAnchors$Anchor" "truePlace" "I", Cond.fieldLink RX0 9 "WordAnchors$Anchor" "things" "[I", Cond.methodLink RX0 39 yX0_thing, Cond.instanceMethod yX0_thing, Cond.selects RX0 yX0_thing yX0_thing, Cond.code yX0_thing cX0_thing 2 (some .int), Cond.methodLink RX5 82 yX5_setting]
def wsX6_fault_r3 : List Cond := [Cond.instanceMethod yX5_setting, Cond.selects RX5 yX5_setting yX5_setting, Cond.code yX5_setting cX5_setting 2 (some .int), Cond.methodLink RX6 240 yX2_rewind, Cond.instanceMethod yX2_rewind, Cond.selects RX2 yX2_rewind yX2_rewind, Cond.initialized RX2, Cond.code yX2_rewind cX2_rewind 1 none, Cond.fieldLink RX2 23 "WordAnchors$EditText" "next" "I", Cond.methodLink RX6 243 yX2_hasMore, Cond.instanceMethod yX2_hasMore, Cond.selects RX2 yX2_hasMore yX2_hasMore, Cond.code yX2_hasMore cX2_hasMore 1 (some .boolean), Cond.fieldLink RX2 19 "WordAnchors$EditText" "length" "I", Cond.methodLink RX6 246 yX2_readEdit, Cond.instanceMethod yX2_readEdit, Cond.selects RX2 yX2_readEdit yX2_readEdit, Cond.code yX2_readEdit cX2_readEdit 4 (some .boolean), Cond.fieldLink RX2 26 "WordAnchors$EditText" "start" "I", Cond.fieldLink RX2 29 "WordAnchors$EditText" "sign" "C", Cond.methodLink RX2 33 yX2_nextCharacter, Cond.instanceMethod yX2_nextCharacter, Cond.selects RX2 yX2_nextCharacter yX2_nextCharacter, Cond.code yX2_nextCharacter cX2_nextCharacter 1 (some .char)]
def wsX6_fault_r4 : List Cond := [Cond.fieldLink RX2 9 "WordAnchors$EditText" "characters" "[C", Cond.methodLink RX2 37 yX2_numbersBehind, Cond.static yX2_numbersBehind, Cond.code yX2_numbersBehind cX2_numbersBehind 1 (some .int), Cond.methodLink RX2 41 yX2_readSign, Cond.instanceMethod yX2_readSign, Cond.selects RX2 yX2_readSign yX2_readSign, Cond.code yX2_readSign cX2_readSign 2 (some .boolean), Cond.methodLink RX2 45 yX2_readNumber, Cond.instanceMethod yX2_readNumber, Cond.selects RX2 yX2_readNumber yX2_readNumber, Cond.code yX2_readNumber cX2_readNumber 4 (some .boolean), Cond.fieldLink RX2 15 "WordAnchors$EditText" "numbers" "[I", Cond.methodLink RX2 49 yX2_isDigit, Cond.static yX2_isDigit, Cond.code yX2_isDigit cX2_isDigit 1 (some .boolean), Cond.methodLink RX6 249 yX5_faultOf, Cond.instanceMethod yX5_faultOf, Cond.selects RX5 yX5_faultOf yX5_faultOf, Cond.code yX5_faultOf cX5_faultOf 4 (some .int), Cond.methodLink RX5 116 yX2_number, Cond.instanceMethod yX2_number, Cond.selects RX2 yX2_number yX2_number, Cond.code yX2_number cX2_number 2 (some .int)]
def wsX6_fault_r5 : List Cond := [Cond.methodLink RX5 121 yX2_sign, Cond.instanceMethod yX2_sign, Cond.selects RX2 yX2_sign yX2_sign, Cond.code yX2_sign cX2_sign 1 (some .char), Cond.methodLink RX5 125 yX4_takesAt, Cond.instanceMethod yX4_takesAt, Cond.selects RX4 yX4_takesAt yX4_takesAt, Cond.code yX4_takesAt cX4_takesAt 2 (some .boolean), Cond.methodLink RX5 129 yX4_canShift, Cond.instanceMethod yX4_canShift, Cond.selects RX4 yX4_canShift yX4_canShift, Cond.code yX4_canShift cX4_canShift 4 (some .boolean), Cond.methodLink RX4 25 yX4_holds, Cond.instanceMethod yX4_holds, Cond.selects RX4 yX4_holds yX4_holds, Cond.code yX4_holds cX4_holds 2 (some .boolean), Cond.methodLink RX5 133 yX4_holds, Cond.methodLink RX5 136 yX4_isFull, Cond.instanceMethod yX4_isFull, Cond.selects RX4 yX4_isFull yX4_isFull, Cond.code yX4_isFull cX4_isFull 1 (some .boolean), Cond.methodLink RX6 253 yX5_perform, Cond.instanceMethod yX5_perform, Cond.selects RX5 yX5_perform yX5_perform]
def wsX6_fault_r6 : List Cond := [Cond.code yX5_perform cX5_perform 3 none, Cond.methodLink RX5 140 yX5_insertWord, Cond.instanceMethod yX5_insertWord, Cond.selects RX5 yX5_insertWord yX5_insertWord, Cond.code yX5_insertWord cX5_insertWord 3 none, Cond.methodLink RX5 48 yX4_insert, Cond.instanceMethod yX4_insert, Cond.selects RX4 yX4_insert yX4_insert, Cond.code yX4_insert cX4_insert 4 none, Cond.fieldLink RX4 15 "WordAnchors$Row" "targets" "[I", Cond.methodLink RX4 29 yX4_takesAt, Cond.methodLink RX4 32 yX4_isFull, Cond.methodLink RX4 36 yX4_relocate, Cond.instanceMethod yX4_relocate, Cond.selects RX4 yX4_relocate yX4_relocate, Cond.code yX4_relocate cX4_relocate 4 none, Cond.fieldLink RX4 18 "WordAnchors$Row" "relocated" "[I", Cond.methodLink RX4 48 yX4_targetOf, Cond.instanceMethod yX4_targetOf, Cond.selects RX4 yX4_targetOf yX4_targetOf, Cond.code yX4_targetOf cX4_targetOf 2 (some .int), Cond.methodLink RX5 52 yX5_followWords, Cond.instanceMethod yX5_followWords, Cond.selects RX5 yX5_followWords yX5_followWords]
def wsX6_fault_r7 : List Cond := [Cond.code yX5_followWords cX5_followWords 3 none, Cond.methodLink RX5 66 yX0_followWord, Cond.instanceMethod yX0_followWord, Cond.selects RX0 yX0_followWord yX0_followWord, Cond.code yX0_followWord cX0_followWord 2 none, Cond.methodLink RX0 36 yX4_targetOf, Cond.methodLink RX5 143 yX5_removeWord, Cond.instanceMethod yX5_removeWord, Cond.selects RX5 yX5_removeWord yX5_removeWord, Cond.code yX5_removeWord cX5_removeWord 2 none, Cond.methodLink RX5 55 yX4_remove, Cond.instanceMethod yX4_remove, Cond.selects RX4 yX4_remove yX4_remove, Cond.code yX4_remove cX4_remove 3 none, Cond.methodLink RX5 146 yX5_replaceWord, Cond.instanceMethod yX5_replaceWord, Cond.selects RX5 yX5_replaceWord yX5_replaceWord, Cond.code yX5_replaceWord cX5_replaceWord 3 none, Cond.methodLink RX5 59 yX4_replace, Cond.instanceMethod yX4_replace, Cond.selects RX4 yX4_replace yX4_replace, Cond.code yX4_replace cX4_replace 4 none, Cond.methodLink RX5 149 yX5_shiftWords, Cond.instanceMethod yX5_shiftWords]
def wsX6_fault_r8 : List Cond := [Cond.selects RX5 yX5_shiftWords yX5_shiftWords, Cond.code yX5_shiftWords cX5_shiftWords 4 none, Cond.methodLink RX5 62 yX4_shift, Cond.instanceMethod yX4_shift, Cond.selects RX4 yX4_shift yX4_shift, Cond.code yX4_shift cX4_shift 5 none, Cond.methodLink RX4 40 yX4_canShift, Cond.methodLink RX4 44 yX4_placeAfterShift, Cond.static yX4_placeAfterShift, Cond.code yX4_placeAfterShift cX4_placeAfterShift 5 (some .int), Cond.methodLink RX6 230 yX2_editStart, Cond.instanceMethod yX2_editStart, Cond.selects RX2 yX2_editStart yX2_editStart, Cond.code yX2_editStart cX2_editStart 1 (some .int)]
def wsX6_fault : List Cond := .code yX6_fault cX6_fault 3 (some .int) :: ((wsX6_fault_r1 ++ (wsX6_fault_r2 ++ (wsX6_fault_r3 ++ (wsX6_fault_r4 ++ (wsX6_fault_r5 ++ (wsX6_fault_r6 ++ (wsX6_fault_r7 ++ wsX6_fault_r8))))))) ++ wsX60 ++ wsX50 ++ wsX40 ++ wsX00 ++ wsX20)
def wsX6_play_r1 : List Cond := [Cond.constant RX6 124 (-1000002), Cond.fieldLink RX6 22 "WordAnchors" "history" "LWordAnchors$History;", Cond.fieldLink RX6 10 "WordAnchors" "now" "LWordAnchors$State;", Cond.fieldLink RX6 16 "WordAnchors" "trial" "LWordAnchors$State;", Cond.fieldLink RX6 47 "WordAnchors$State" "row" "LWordAnchors$Row;", Cond.methodLink RX6 227 yX6_rehearse, Cond.instanceMethod yX6_rehearse, Cond.selects RX6 yX6_rehearse yX6_rehearse, Cond.initialized RX6, Cond.code yX6_rehearse cX6_rehearse 3 (some .int), Cond.fieldLink RX6 29 "WordAnchors" "text" "LWordAnchors$EditText;", Cond.methodLink RX6 213 yX5_copyFrom, Cond.instanceMethod yX5_copyFrom, Cond.selects RX5 yX5_copyFrom yX5_copyFrom, Cond.initialized RX5, Cond.code yX5_copyFrom cX5_copyFrom 5 none, Cond.fieldLink RX5 12 "WordAnchors$State" "row" "LWordAnchors$Row;", Cond.fieldLink RX5 29 "WordAnchors$State" "anchorCount" "I", Cond.fieldLink RX5 24 "WordAnchors$State" "settings" "[I", Cond.fieldLink RX5 33 "WordAnchors$State" "edits" "I", Cond.methodLink RX5 152 yX4_copyFrom, Cond.instanceMethod yX4_copyFrom, Cond.selects RX4 yX4_copyFrom yX4_copyFrom, Cond.initialized RX4]
def wsX6_play_r2 : List Cond := [Cond.code yX4_copyFrom cX4_copyFrom 3 none, Cond.fieldLink RX4 9 "WordAnchors$Row" "words" "[I", Cond.fieldLink RX4 21 "WordAnchors$Row" "size" "I", Cond.methodLink RX4 55 yX4_at, Cond.instanceMethod yX4_at, Cond.selects RX4 yX4_at yX4_at, Cond.code yX4_at cX4_at 2 (some .int), Cond.methodLink RX5 36 yX5_anchorNumbered, Cond.instanceMethod yX5_anchorNumbered, Cond.selects RX5 yX5_anchorNumbered yX5_anchorNumbered, Cond.code yX5_anchorNumbered cX5_anchorNumbered 2 (some (.object "WordAnchors$Anchor")), Cond.fieldLink RX5 20 "WordAnchors$State" "anchors" "[LWordAnchors$Anchor;", Cond.methodLink RX5 44 yX0_copyFrom, Cond.instanceMethod yX0_copyFrom, Cond.selects RX0 yX0_copyFrom yX0_copyFrom, Cond.initialized RX0, Cond.code yX0_copyFrom cX0_copyFrom 3 none, Cond.fieldLink RX0 15 "WordAnchors$Anchor" "place" "I", Cond.fieldLink RX0 19 "WordAnchors$Anchor" "truePlace" "I", Cond.fieldLink RX0 9 "WordAnchors$Anchor" "things" "[I", Cond.methodLink RX0 39 yX0_thing, Cond.instanceMethod yX0_thing, Cond.selects RX0 yX0_thing yX0_thing, Cond.code yX0_thing cX0_thing 2 (some .int)]
def wsX6_play_r3 : List Cond := [Cond.methodLink RX5 82 yX5_setting, Cond.instanceMethod yX5_setting, Cond.selects RX5 yX5_setting yX5_setting, Cond.code yX5_setting cX5_setting 2 (some .int), Cond.methodLink RX6 240 yX2_rewind, Cond.instanceMethod yX2_rewind, Cond.selects RX2 yX2_rewind yX2_rewind, Cond.initialized RX2, Cond.code yX2_rewind cX2_rewind 1 none, Cond.fieldLink RX2 23 "WordAnchors$EditText" "next" "I", Cond.methodLink RX6 243 yX2_hasMore, Cond.instanceMethod yX2_hasMore, Cond.selects RX2 yX2_hasMore yX2_hasMore, Cond.code yX2_hasMore cX2_hasMore 1 (some .boolean), Cond.fieldLink RX2 19 "WordAnchors$EditText" "length" "I", Cond.methodLink RX6 246 yX2_readEdit, Cond.instanceMethod yX2_readEdit, Cond.selects RX2 yX2_readEdit yX2_readEdit, Cond.code yX2_readEdit cX2_readEdit 4 (some .boolean), Cond.fieldLink RX2 26 "WordAnchors$EditText" "start" "I", Cond.fieldLink RX2 29 "WordAnchors$EditText" "sign" "C", Cond.methodLink RX2 33 yX2_nextCharacter, Cond.instanceMethod yX2_nextCharacter, Cond.selects RX2 yX2_nextCharacter yX2_nextCharacter]
def wsX6_play_r4 : List Cond := [Cond.code yX2_nextCharacter cX2_nextCharacter 1 (some .char), Cond.fieldLink RX2 9 "WordAnchors$EditText" "characters" "[C", Cond.methodLink RX2 37 yX2_numbersBehind, Cond.static yX2_numbersBehind, Cond.code yX2_numbersBehind cX2_numbersBehind 1 (some .int), Cond.methodLink RX2 41 yX2_readSign, Cond.instanceMethod yX2_readSign, Cond.selects RX2 yX2_readSign yX2_readSign, Cond.code yX2_readSign cX2_readSign 2 (some .boolean), Cond.methodLink RX2 45 yX2_readNumber, Cond.instanceMethod yX2_readNumber, Cond.selects RX2 yX2_readNumber yX2_readNumber, Cond.code yX2_readNumber cX2_readNumber 4 (some .boolean), Cond.fieldLink RX2 15 "WordAnchors$EditText" "numbers" "[I", Cond.methodLink RX2 49 yX2_isDigit, Cond.static yX2_isDigit, Cond.code yX2_isDigit cX2_isDigit 1 (some .boolean), Cond.methodLink RX6 249 yX5_faultOf, Cond.instanceMethod yX5_faultOf, Cond.selects RX5 yX5_faultOf yX5_faultOf, Cond.code yX5_faultOf cX5_faultOf 4 (some .int), Cond.methodLink RX5 116 yX2_number, Cond.instanceMethod yX2_number, Cond.selects RX2 yX2_number yX2_number]
def wsX6_play_r5 : List Cond := [Cond.code yX2_number cX2_number 2 (some .int), Cond.methodLink RX5 121 yX2_sign, Cond.instanceMethod yX2_sign, Cond.selects RX2 yX2_sign yX2_sign, Cond.code yX2_sign cX2_sign 1 (some .char), Cond.methodLink RX5 125 yX4_takesAt, Cond.instanceMethod yX4_takesAt, Cond.selects RX4 yX4_takesAt yX4_takesAt, Cond.code yX4_takesAt cX4_takesAt 2 (some .boolean), Cond.methodLink RX5 129 yX4_canShift, Cond.instanceMethod yX4_canShift, Cond.selects RX4 yX4_canShift yX4_canShift, Cond.code yX4_canShift cX4_canShift 4 (some .boolean), Cond.methodLink RX4 25 yX4_holds, Cond.instanceMethod yX4_holds, Cond.selects RX4 yX4_holds yX4_holds, Cond.code yX4_holds cX4_holds 2 (some .boolean), Cond.methodLink RX5 133 yX4_holds, Cond.methodLink RX5 136 yX4_isFull, Cond.instanceMethod yX4_isFull, Cond.selects RX4 yX4_isFull yX4_isFull, Cond.code yX4_isFull cX4_isFull 1 (some .boolean), Cond.methodLink RX6 253 yX5_perform, Cond.instanceMethod yX5_perform]
def wsX6_play_r6 : List Cond := [Cond.selects RX5 yX5_perform yX5_perform, Cond.code yX5_perform cX5_perform 3 none, Cond.methodLink RX5 140 yX5_insertWord, Cond.instanceMethod yX5_insertWord, Cond.selects RX5 yX5_insertWord yX5_insertWord, Cond.code yX5_insertWord cX5_insertWord 3 none, Cond.methodLink RX5 48 yX4_insert, Cond.instanceMethod yX4_insert, Cond.selects RX4 yX4_insert yX4_insert, Cond.code yX4_insert cX4_insert 4 none, Cond.fieldLink RX4 15 "WordAnchors$Row" "targets" "[I", Cond.methodLink RX4 29 yX4_takesAt, Cond.methodLink RX4 32 yX4_isFull, Cond.methodLink RX4 36 yX4_relocate, Cond.instanceMethod yX4_relocate, Cond.selects RX4 yX4_relocate yX4_relocate, Cond.code yX4_relocate cX4_relocate 4 none, Cond.fieldLink RX4 18 "WordAnchors$Row" "relocated" "[I", Cond.methodLink RX4 48 yX4_targetOf, Cond.instanceMethod yX4_targetOf, Cond.selects RX4 yX4_targetOf yX4_targetOf, Cond.code yX4_targetOf cX4_targetOf 2 (some .int), Cond.methodLink RX5 52 yX5_followWords, Cond.instanceMethod yX5_followWords]
def wsX6_play_r7 : List Cond := [Cond.selects RX5 yX5_followWords yX5_followWords, Cond.code yX5_followWords cX5_followWords 3 none, Cond.methodLink RX5 66 yX0_followWord, Cond.instanceMethod yX0_followWord, Cond.selects RX0 yX0_followWord yX0_followWord, Cond.code yX0_followWord cX0_followWord 2 none, Cond.methodLink RX0 36 yX4_targetOf, Cond.methodLink RX5 143 yX5_removeWord, Cond.instanceMethod yX5_removeWord, Cond.selects RX5 yX5_removeWord yX5_removeWord, Cond.code yX5_removeWord cX5_removeWord 2 none, Cond.methodLink RX5 55 yX4_remove, Cond.instanceMethod yX4_remove, Cond.selects RX4 yX4_remove yX4_remove, Cond.code yX4_remove cX4_remove 3 none, Cond.methodLink RX5 146 yX5_replaceWord, Cond.instanceMethod yX5_replaceWord, Cond.selects RX5 yX5_replaceWord yX5_replaceWord, Cond.code yX5_replaceWord cX5_replaceWord 3 none, Cond.methodLink RX5 59 yX4_replace, Cond.instanceMethod yX4_replace, Cond.selects RX4 yX4_replace yX4_replace, Cond.code yX4_replace cX4_replace 4 none, Cond.methodLink RX5 149 yX5_shiftWords]
def wsX6_play_r8 : List Cond := [Cond.instanceMethod yX5_shiftWords, Cond.selects RX5 yX5_shiftWords yX5_shiftWords, Cond.code yX5_shiftWords cX5_shiftWords 4 none, Cond.methodLink RX5 62 yX4_shift, Cond.instanceMethod yX4_shift, Cond.selects RX4 yX4_shift yX4_shift, Cond.code yX4_shift cX4_shift 5 none, Cond.methodLink RX4 40 yX4_canShift, Cond.methodLink RX4 44 yX4_placeAfterShift, Cond.static yX4_placeAfterShift, Cond.code yX4_placeAfterShift cX4_placeAfterShift 5 (some .int), Cond.methodLink RX6 66 yX3_record, Cond.instanceMethod yX3_record, Cond.selects RX3 yX3_record yX3_record, Cond.initialized RX3, Cond.code yX3_record cX3_record 3 none, Cond.fieldLink RX3 18 "WordAnchors$History" "size" "I", Cond.fieldLink RX3 22 "WordAnchors$History" "oldest" "I", Cond.methodLink RX3 25 yX3_fromOldest, Cond.instanceMethod yX3_fromOldest, Cond.selects RX3 yX3_fromOldest yX3_fromOldest, Cond.code yX3_fromOldest cX3_fromOldest 3 (some (.object "WordAnchors$State")), Cond.fieldLink RX3 11 "WordAnchors$History" "states" "[LWordAnchors$State;", Cond.methodLink RX3 29 yX5_copyFrom]
def wsX6_play_r9 : List Cond := [Cond.methodLink RX6 74 yX4_size, Cond.instanceMethod yX4_size, Cond.selects RX4 yX4_size yX4_size, Cond.code yX4_size cX4_size 1 (some .int)]
def wsX6_play : List Cond := .code yX6_play cX6_play 1 (some .int) :: ((wsX6_play_r1 ++ (wsX6_play_r2 ++ (wsX6_play_r3 ++ (wsX6_play_r4 ++ (wsX6_play_r5 ++ (wsX6_play_r6 ++ (wsX6_play_r7 ++ (wsX6_play_r8 ++ wsX6_play_r9)))))))) ++ wsX60 ++ wsX50 ++ wsX40 ++ wsX00 ++ wsX20 ++ wsX30)
def wsX7_init : List Cond := .code yX7_init cX7_init 1 none :: ([.methodLink RX7 1 objectInit, .instanceMethod objectInit, .code objectInit ⟨#[0xb1]⟩ 1 none, .arrayClass .int, .fieldLink RX7 7 "WordAnchorsModel" "s" "[I", .fieldLink RX7 13 "WordAnchorsModel" "was" "[I", .fieldLink RX7 16 "WordAnchorsModel" "begun" "[I", .fieldLink RX7 19 "WordAnchorsModel" "aside" "[I", .arrayClass .char, .fieldLink RX7 22 "WordAnchorsModel" "text" "[C", .fieldLink RX7 26 "WordAnchorsModel" "number" "[I", .fieldLink RX7 29 "WordAnchorsModel" "moved" "[I", .fieldLink RX7 32 "WordAnchorsModel" "shift" "[I"] ++ wsX70)
def wsX7_in : List Cond := .code yX7_in cX7_in 3 (some .boolean) :: ([])
def wsX7_an : List Cond := .code yX7_an cX7_an 3 (some .int) :: ([.fieldLink RX7 7 "WordAnchorsModel" "s" "[I"] ++ wsX70)
def wsX7_isPlace : List Cond := .code yX7_isPlace cX7_isPlace 2 (some .boolean) :: ([.fieldLink RX7 7 "WordAnchorsModel" "s" "[I", .methodLink RX7 35 yX7_in, .static yX7_in, .initialized RX7, .code yX7_in cX7_in 3 (some .boolean)] ++ wsX70)
def wsX7_isAnchor : List Cond := .code yX7_isAnchor cX7_isAnchor 2 (some .boolean) :: ([.fieldLink RX7 7 "WordAnchorsModel" "s" "[I", .methodLink RX7 35 yX7_in, .static yX7_in, .initialized RX7, .code yX7_in cX7_in 3 (some .boolean)] ++ wsX70)
def wsX7_word : List Cond := .code yX7_word cX7_word 2 (some .int) :: ([.fieldLink RX7 7 "WordAnchorsModel" "s" "[I", .methodLink RX7 39 yX7_isPlace, .instanceMethod yX7_isPlace, .selects RX7 yX7_isPlace yX7_isPlace, .initialized RX7, .code yX7_isPlace cX7_isPlace 2 (some .boolean), .methodLink RX7 35 yX7_in, .static yX7_in, .code yX7_in cX7_in 3 (some .boolean)] ++ wsX70)
def wsX7_keeps : List Cond := .code yX7_keeps cX7_keeps 2 none :: ([.fieldLink RX7 16 "WordAnchorsModel" "begun" "[I", .fieldLink RX7 7 "WordAnchorsModel" "s" "[I"] ++ wsX70)
def wsX7_acted : List Cond := .code yX7_acted cX7_acted 3 (some .int) :: ([.constant RX7 43 (-1000001), .fieldLink RX7 44 "WordAnchorsModel" "states" "I", .fieldLink RX7 13 "WordAnchorsModel" "was" "[I", .fieldLink RX7 16 "WordAnchorsModel" "begun" "[I"] ++ wsX70)
def wsX7_lays : List Cond := .code yX7_lays cX7_lays 2 none :: ([.fieldLink RX7 19 "WordAnchorsModel" "aside" "[I", .fieldLink RX7 7 "WordAnchorsModel" "s" "[I"] ++ wsX70)
def wsX7_restores : List Cond := .code yX7_restores cX7_restores 2 none :: ([.fieldLink RX7 7 "WordAnchorsModel" "s" "[I", .fieldLink RX7 19 "WordAnchorsModel" "aside" "[I"] ++ wsX70)
def wsX7_follows : List Cond := .code yX7_follows cX7_follows 7 none :: ([.fieldLink RX7 7 "WordAnchorsModel" "s" "[I", .methodLink RX7 48 yX7_an, .instanceMethod yX7_an, .selects RX7 yX7_an yX7_an, .initialized RX7, .code yX7_an cX7_an 3 (some .int)] ++ wsX70)
def wsX7_puts : List Cond := .code yX7_puts cX7_puts 4 (some .int) :: ([.fieldLink RX7 7 "WordAnchorsModel" "s" "[I", .constant RX7 43 (-1000001), .constant RX7 52 (-1000003), .methodLink RX7 35 yX7_in, .static yX7_in, .initialized RX7, .code yX7_in cX7_in 3 (some .boolean), .methodLink RX7 53 yX7_follows, .instanceMethod yX7_follows, .selects RX7 yX7_follows yX7_follows, .code yX7_follows cX7_follows 7 none, .methodLink RX7 48 yX7_an, .instanceMethod yX7_an, .selects RX7 yX7_an yX7_an, .code yX7_an cX7_an 3 (some .int)] ++ wsX70)
def wsX7_put_r1 : List Cond := [Cond.methodLink RX7 57 yX7_keeps, Cond.instanceMethod yX7_keeps, Cond.selects RX7 yX7_keeps yX7_keeps, Cond.initialized RX7, Cond.code yX7_keeps cX7_keeps 2 none, Cond.fieldLink RX7 16 "WordAnchorsModel" "begun" "[I", Cond.fieldLink RX7 7 "WordAnchorsModel" "s" "[I", Cond.methodLink RX7 60 yX7_puts, Cond.instanceMethod yX7_puts, Cond.selects RX7 yX7_puts yX7_puts, Cond.code yX7_puts cX7_puts 4 (some .int), Cond.constant RX7 43 (-1000001), Cond.constant RX7 52 (-1000003), Cond.methodLink RX7 35 yX7_in, Cond.static yX7_in, Cond.code yX7_in cX7_in 3 (some .boolean), Cond.methodLink RX7 53 yX7_follows, Cond.instanceMethod yX7_follows, Cond.selects RX7 yX7_follows yX7_follows, Cond.code yX7_follows cX7_follows 7 none, Cond.methodLink RX7 48 yX7_an, Cond.instanceMethod yX7_an, Cond.selects RX7 yX7_an yX7_an, Cond.code yX7_an cX7_an 3 (some .int)]
def wsX7_put_r2 : List Cond := [Cond.methodLink RX7 63 yX7_acted, Cond.instanceMethod yX7_acted, Cond.selects RX7 yX7_acted yX7_acted, Cond.code yX7_acted cX7_acted 3 (some .int), Cond.fieldLink RX7 44 "WordAnchorsModel" "states" "I", Cond.fieldLink RX7 13 "WordAnchorsModel" "was" "[I"]
def wsX7_put : List Cond := .code yX7_put cX7_put 3 (some .int) :: ((wsX7_put_r1 ++ wsX7_put_r2) ++ wsX70)
def wsX7_takes : List Cond := .code yX7_takes cX7_takes 4 (some .int) :: ([.constant RX7 43 (-1000001), .fieldLink RX7 7 "WordAnchorsModel" "s" "[I", .methodLink RX7 39 yX7_isPlace, .instanceMethod yX7_isPlace, .selects RX7 yX7_isPlace yX7_isPlace, .initialized RX7, .code yX7_isPlace cX7_isPlace 2 (some .boolean), .methodLink RX7 35 yX7_in, .static yX7_in, .code yX7_in cX7_in 3 (some .boolean), .methodLink RX7 53 yX7_follows, .instanceMethod yX7_follows, .selects RX7 yX7_follows yX7_follows, .code yX7_follows cX7_follows 7 none, .methodLink RX7 48 yX7_an, .instanceMethod yX7_an, .selects RX7 yX7_an yX7_an, .code yX7_an cX7_an 3 (some .int)] ++ wsX70)
def wsX7_take_r1 : List Cond := [Cond.methodLink RX7 57 yX7_keeps, Cond.instanceMethod yX7_keeps, Cond.selects RX7 yX7_keeps yX7_keeps, Cond.initialized RX7, Cond.code yX7_keeps cX7_keeps 2 none, Cond.fieldLink RX7 16 "WordAnchorsModel" "begun" "[I", Cond.fieldLink RX7 7 "WordAnchorsModel" "s" "[I", Cond.methodLink RX7 67 yX7_takes, Cond.instanceMethod yX7_takes, Cond.selects RX7 yX7_takes yX7_takes, Cond.code yX7_takes cX7_takes 4 (some .int), Cond.constant RX7 43 (-1000001), Cond.methodLink RX7 39 yX7_isPlace, Cond.instanceMethod yX7_isPlace, Cond.selects RX7 yX7_isPlace yX7_isPlace, Cond.code yX7_isPlace cX7_isPlace 2 (some .boolean), Cond.methodLink RX7 35 yX7_in, Cond.static yX7_in, Cond.code yX7_in cX7_in 3 (some .boolean), Cond.methodLink RX7 53 yX7_follows, Cond.instanceMethod yX7_follows, Cond.selects RX7 yX7_follows yX7_follows, Cond.code yX7_follows cX7_follows 7 none, Cond.methodLink RX7 48 yX7_an]
def wsX7_take_r2 : List Cond := [Cond.instanceMethod yX7_an, Cond.selects RX7 yX7_an yX7_an, Cond.code yX7_an cX7_an 3 (some .int), Cond.methodLink RX7 63 yX7_acted, Cond.instanceMethod yX7_acted, Cond.selects RX7 yX7_acted yX7_acted, Cond.code yX7_acted cX7_acted 3 (some .int), Cond.fieldLink RX7 44 "WordAnchorsModel" "states" "I", Cond.fieldLink RX7 13 "WordAnchorsModel" "was" "[I"]
def wsX7_take : List Cond := .code yX7_take cX7_take 2 (some .int) :: ((wsX7_take_r1 ++ wsX7_take_r2) ++ wsX70)
def wsX7_changes : List Cond := .code yX7_changes cX7_changes 4 (some .int) :: ([.constant RX7 43 (-1000001), .fieldLink RX7 7 "WordAnchorsModel" "s" "[I", .methodLink RX7 39 yX7_isPlace, .instanceMethod yX7_isPlace, .selects RX7 yX7_isPlace yX7_isPlace, .initialized RX7, .code yX7_isPlace cX7_isPlace 2 (some .boolean), .methodLink RX7 35 yX7_in, .static yX7_in, .code yX7_in cX7_in 3 (some .boolean), .methodLink RX7 53 yX7_follows, .instanceMethod yX7_follows, .selects RX7 yX7_follows yX7_follows, .code yX7_follows cX7_follows 7 none, .methodLink RX7 48 yX7_an, .instanceMethod yX7_an, .selects RX7 yX7_an yX7_an, .code yX7_an cX7_an 3 (some .int)] ++ wsX70)
def wsX7_change_r1 : List Cond := [Cond.methodLink RX7 57 yX7_keeps, Cond.instanceMethod yX7_keeps, Cond.selects RX7 yX7_keeps yX7_keeps, Cond.initialized RX7, Cond.code yX7_keeps cX7_keeps 2 none, Cond.fieldLink RX7 16 "WordAnchorsModel" "begun" "[I", Cond.fieldLink RX7 7 "WordAnchorsModel" "s" "[I", Cond.methodLink RX7 70 yX7_changes, Cond.instanceMethod yX7_changes, Cond.selects RX7 yX7_changes yX7_changes, Cond.code yX7_changes cX7_changes 4 (some .int), Cond.constant RX7 43 (-1000001), Cond.methodLink RX7 39 yX7_isPlace, Cond.instanceMethod yX7_isPlace, Cond.selects RX7 yX7_isPlace yX7_isPlace, Cond.code yX7_isPlace cX7_isPlace 2 (some .boolean), Cond.methodLink RX7 35 yX7_in, Cond.static yX7_in, Cond.code yX7_in cX7_in 3 (some .boolean), Cond.methodLink RX7 53 yX7_follows, Cond.instanceMethod yX7_follows, Cond.selects RX7 yX7_follows yX7_follows, Cond.code yX7_follows cX7_follows 7 none, Cond.methodLink RX7 48 yX7_an]
def wsX7_change_r2 : List Cond := [Cond.instanceMethod yX7_an, Cond.selects RX7 yX7_an yX7_an, Cond.code yX7_an cX7_an 3 (some .int), Cond.methodLink RX7 63 yX7_acted, Cond.instanceMethod yX7_acted, Cond.selects RX7 yX7_acted yX7_acted, Cond.code yX7_acted cX7_acted 3 (some .int), Cond.fieldLink RX7 44 "WordAnchorsModel" "states" "I", Cond.fieldLink RX7 13 "WordAnchorsModel" "was" "[I"]
def wsX7_change : List Cond := .code yX7_change cX7_change 3 (some .int) :: ((wsX7_change_r1 ++ wsX7_change_r2) ++ wsX70)
def wsX7_then : List Cond := .code yX7_then cX7_then 5 (some .int) :: ([.methodLink RX7 35 yX7_in, .static yX7_in, .initialized RX7, .code yX7_in cX7_in 3 (some .boolean)])
def wsX7_moves : List Cond := .code yX7_moves cX7_moves 7 (some .int) :: ([.fieldLink RX7 7 "WordAnchorsModel" "s" "[I", .constant RX7 43 (-1000001), .fieldLink RX7 29 "WordAnchorsModel" "moved" "[I", .methodLink RX7 39 yX7_isPlace, .instanceMethod yX7_isPlace, .selects RX7 yX7_isPlace yX7_isPlace, .initialized RX7, .code yX7_isPlace cX7_isPlace 2 (some .boolean), .methodLink RX7 35 yX7_in, .static yX7_in, .code yX7_in cX7_in 3 (some .boolean), .methodLink RX7 73 yX7_then, .static yX7_then, .code yX7_then cX7_then 5 (some .int), .methodLink RX7 48 yX7_an, .instanceMethod yX7_an, .selects RX7 yX7_an yX7_an, .code yX7_an cX7_an 3 (some .int)] ++ wsX70)
def wsX7_move_r1 : List Cond := [Cond.methodLink RX7 57 yX7_keeps, Cond.instanceMethod yX7_keeps, Cond.selects RX7 yX7_keeps yX7_keeps, Cond.initialized RX7, Cond.code yX7_keeps cX7_keeps 2 none, Cond.fieldLink RX7 16 "WordAnchorsModel" "begun" "[I", Cond.fieldLink RX7 7 "WordAnchorsModel" "s" "[I", Cond.methodLink RX7 77 yX7_moves, Cond.instanceMethod yX7_moves, Cond.selects RX7 yX7_moves yX7_moves, Cond.code yX7_moves cX7_moves 7 (some .int), Cond.constant RX7 43 (-1000001), Cond.fieldLink RX7 29 "WordAnchorsModel" "moved" "[I", Cond.methodLink RX7 39 yX7_isPlace, Cond.instanceMethod yX7_isPlace, Cond.selects RX7 yX7_isPlace yX7_isPlace, Cond.code yX7_isPlace cX7_isPlace 2 (some .boolean), Cond.methodLink RX7 35 yX7_in, Cond.static yX7_in, Cond.code yX7_in cX7_in 3 (some .boolean), Cond.methodLink RX7 73 yX7_then, Cond.static yX7_then, Cond.code yX7_then cX7_then 5 (some .int), Cond.methodLink RX7 48 yX7_an]
def wsX7_move_r2 : List Cond := [Cond.instanceMethod yX7_an, Cond.selects RX7 yX7_an yX7_an, Cond.code yX7_an cX7_an 3 (some .int), Cond.methodLink RX7 63 yX7_acted, Cond.instanceMethod yX7_acted, Cond.selects RX7 yX7_acted yX7_acted, Cond.code yX7_acted cX7_acted 3 (some .int), Cond.fieldLink RX7 44 "WordAnchorsModel" "states" "I", Cond.fieldLink RX7 13 "WordAnchorsModel" "was" "[I"]
def wsX7_move : List Cond := .code yX7_move cX7_move 4 (some .int) :: ((wsX7_move_r1 ++ wsX7_move_r2) ++ wsX70)
def wsX7_remembers : List Cond := .code yX7_remembers cX7_remembers 5 (some .int) :: ([.fieldLink RX7 7 "WordAnchorsModel" "s" "[I", .methodLink RX7 48 yX7_an, .instanceMethod yX7_an, .selects RX7 yX7_an yX7_an, .initialized RX7, .code yX7_an cX7_an 3 (some .int), .methodLink RX7 81 yX7_word, .instanceMethod yX7_word, .selects RX7 yX7_word yX7_word, .code yX7_word cX7_word 2 (some .int), .methodLink RX7 39 yX7_isPlace, .instanceMethod yX7_isPlace, .selects RX7 yX7_isPlace yX7_isPlace, .code yX7_isPlace cX7_isPlace 2 (some .boolean), .methodLink RX7 35 yX7_in, .static yX7_in, .code yX7_in cX7_in 3 (some .boolean)] ++ wsX70)
def wsX7_anchor_r1 : List Cond := [Cond.constant RX7 43 (-1000001), Cond.fieldLink RX7 7 "WordAnchorsModel" "s" "[I", Cond.constant RX7 52 (-1000003), Cond.methodLink RX7 39 yX7_isPlace, Cond.instanceMethod yX7_isPlace, Cond.selects RX7 yX7_isPlace yX7_isPlace, Cond.initialized RX7, Cond.code yX7_isPlace cX7_isPlace 2 (some .boolean), Cond.methodLink RX7 35 yX7_in, Cond.static yX7_in, Cond.code yX7_in cX7_in 3 (some .boolean), Cond.methodLink RX7 57 yX7_keeps, Cond.instanceMethod yX7_keeps, Cond.selects RX7 yX7_keeps yX7_keeps, Cond.code yX7_keeps cX7_keeps 2 none, Cond.fieldLink RX7 16 "WordAnchorsModel" "begun" "[I", Cond.methodLink RX7 84 yX7_remembers, Cond.instanceMethod yX7_remembers, Cond.selects RX7 yX7_remembers yX7_remembers, Cond.code yX7_remembers cX7_remembers 5 (some .int), Cond.methodLink RX7 48 yX7_an, Cond.instanceMethod yX7_an, Cond.selects RX7 yX7_an yX7_an, Cond.code yX7_an cX7_an 3 (some .int)]
def wsX7_anchor_r2 : List Cond := [Cond.methodLink RX7 81 yX7_word, Cond.instanceMethod yX7_word, Cond.selects RX7 yX7_word yX7_word, Cond.code yX7_word cX7_word 2 (some .int), Cond.methodLink RX7 63 yX7_acted, Cond.instanceMethod yX7_acted, Cond.selects RX7 yX7_acted yX7_acted, Cond.code yX7_acted cX7_acted 3 (some .int), Cond.fieldLink RX7 44 "WordAnchorsModel" "states" "I", Cond.fieldLink RX7 13 "WordAnchorsModel" "was" "[I"]
def wsX7_anchor : List Cond := .code yX7_anchor cX7_anchor 3 (some .int) :: ((wsX7_anchor_r1 ++ wsX7_anchor_r2) ++ wsX70)
def wsX7_drop : List Cond := .code yX7_drop cX7_drop 3 (some .int) :: ([.constant RX7 43 (-1000001), .fieldLink RX7 7 "WordAnchorsModel" "s" "[I", .methodLink RX7 87 yX7_isAnchor, .instanceMethod yX7_isAnchor, .selects RX7 yX7_isAnchor yX7_isAnchor, .initialized RX7, .code yX7_isAnchor cX7_isAnchor 2 (some .boolean), .methodLink RX7 35 yX7_in, .static yX7_in, .code yX7_in cX7_in 3 (some .boolean), .methodLink RX7 57 yX7_keeps, .instanceMethod yX7_keeps, .selects RX7 yX7_keeps yX7_keeps, .code yX7_keeps cX7_keeps 2 none, .fieldLink RX7 16 "WordAnchorsModel" "begun" "[I", .methodLink RX7 63 yX7_acted, .instanceMethod yX7_acted, .selects RX7 yX7_acted yX7_acted, .code yX7_acted cX7_acted 3 (some .int), .fieldLink RX7 44 "WordAnchorsModel" "states" "I", .fieldLink RX7 13 "WordAnchorsModel" "was" "[I"] ++ wsX70)
def wsX7_scoreAt : List Cond := .code yX7_scoreAt cX7_scoreAt 6 (some .int) :: ([.fieldLink RX7 7 "WordAnchorsModel" "s" "[I", .methodLink RX7 81 yX7_word, .instanceMethod yX7_word, .selects RX7 yX7_word yX7_word, .initialized RX7, .code yX7_word cX7_word 2 (some .int), .methodLink RX7 39 yX7_isPlace, .instanceMethod yX7_isPlace, .selects RX7 yX7_isPlace yX7_isPlace, .code yX7_isPlace cX7_isPlace 2 (some .boolean), .methodLink RX7 35 yX7_in, .static yX7_in, .code yX7_in cX7_in 3 (some .boolean), .methodLink RX7 48 yX7_an, .instanceMethod yX7_an, .selects RX7 yX7_an yX7_an, .code yX7_an cX7_an 3 (some .int)] ++ wsX70)
def wsX7_best : List Cond := .code yX7_best cX7_best 9 (some .int) :: ([.fieldLink RX7 7 "WordAnchorsModel" "s" "[I", .methodLink RX7 90 yX7_scoreAt, .instanceMethod yX7_scoreAt, .selects RX7 yX7_scoreAt yX7_scoreAt, .initialized RX7, .code yX7_scoreAt cX7_scoreAt 6 (some .int), .methodLink RX7 81 yX7_word, .instanceMethod yX7_word, .selects RX7 yX7_word yX7_word, .code yX7_word cX7_word 2 (some .int), .methodLink RX7 39 yX7_isPlace, .instanceMethod yX7_isPlace, .selects RX7 yX7_isPlace yX7_isPlace, .code yX7_isPlace cX7_isPlace 2 (some .boolean), .methodLink RX7 35 yX7_in, .static yX7_in, .code yX7_in cX7_in 3 (some .boolean), .methodLink RX7 48 yX7_an, .instanceMethod yX7_an, .selects RX7 yX7_an yX7_an, .code yX7_an cX7_an 3 (some .int)] ++ wsX70)
def wsX7_how_r1 : List Cond := [Cond.fieldLink RX7 7 "WordAnchorsModel" "s" "[I", Cond.methodLink RX7 93 yX7_best, Cond.instanceMethod yX7_best, Cond.selects RX7 yX7_best yX7_best, Cond.initialized RX7, Cond.code yX7_best cX7_best 9 (some .int), Cond.methodLink RX7 90 yX7_scoreAt, Cond.instanceMethod yX7_scoreAt, Cond.selects RX7 yX7_scoreAt yX7_scoreAt, Cond.code yX7_scoreAt cX7_scoreAt 6 (some .int), Cond.methodLink RX7 81 yX7_word, Cond.instanceMethod yX7_word, Cond.selects RX7 yX7_word yX7_word, Cond.code yX7_word cX7_word 2 (some .int), Cond.methodLink RX7 39 yX7_isPlace, Cond.instanceMethod yX7_isPlace, Cond.selects RX7 yX7_isPlace yX7_isPlace, Cond.code yX7_isPlace cX7_isPlace 2 (some .boolean), Cond.methodLink RX7 35 yX7_in, Cond.static yX7_in, Cond.code yX7_in cX7_in 3 (some .boolean), Cond.methodLink RX7 48 yX7_an, Cond.instanceMethod yX7_an, Cond.selects RX7 yX7_an yX7_an]
def wsX7_how_r2 : List Cond := [Cond.code yX7_an cX7_an 3 (some .int)]
def wsX7_how : List Cond := .code yX7_how cX7_how 4 (some .int) :: ((wsX7_how_r1 ++ wsX7_how_r2) ++ wsX70)
def wsX7_find_r1 : List Cond := [Cond.constant RX7 43 (-1000001), Cond.constant RX7 99 (-1000002), Cond.fieldLink RX7 7 "WordAnchorsModel" "s" "[I", Cond.methodLink RX7 87 yX7_isAnchor, Cond.instanceMethod yX7_isAnchor, Cond.selects RX7 yX7_isAnchor yX7_isAnchor, Cond.initialized RX7, Cond.code yX7_isAnchor cX7_isAnchor 2 (some .boolean), Cond.methodLink RX7 35 yX7_in, Cond.static yX7_in, Cond.code yX7_in cX7_in 3 (some .boolean), Cond.methodLink RX7 96 yX7_how, Cond.instanceMethod yX7_how, Cond.selects RX7 yX7_how yX7_how, Cond.code yX7_how cX7_how 4 (some .int), Cond.methodLink RX7 93 yX7_best, Cond.instanceMethod yX7_best, Cond.selects RX7 yX7_best yX7_best, Cond.code yX7_best cX7_best 9 (some .int), Cond.methodLink RX7 90 yX7_scoreAt, Cond.instanceMethod yX7_scoreAt, Cond.selects RX7 yX7_scoreAt yX7_scoreAt, Cond.code yX7_scoreAt cX7_scoreAt 6 (some .int), Cond.methodLink RX7 81 yX7_word]
def wsX7_find_r2 : List Cond := [Cond.instanceMethod yX7_word, Cond.selects RX7 yX7_word yX7_word, Cond.code yX7_word cX7_word 2 (some .int), Cond.methodLink RX7 39 yX7_isPlace, Cond.instanceMethod yX7_isPlace, Cond.selects RX7 yX7_isPlace yX7_isPlace, Cond.code yX7_isPlace cX7_isPlace 2 (some .boolean), Cond.methodLink RX7 48 yX7_an, Cond.instanceMethod yX7_an, Cond.selects RX7 yX7_an yX7_an, Cond.code yX7_an cX7_an 3 (some .int), Cond.methodLink RX7 57 yX7_keeps, Cond.instanceMethod yX7_keeps, Cond.selects RX7 yX7_keeps yX7_keeps, Cond.code yX7_keeps cX7_keeps 2 none, Cond.fieldLink RX7 16 "WordAnchorsModel" "begun" "[I", Cond.methodLink RX7 63 yX7_acted, Cond.instanceMethod yX7_acted, Cond.selects RX7 yX7_acted yX7_acted, Cond.code yX7_acted cX7_acted 3 (some .int), Cond.fieldLink RX7 44 "WordAnchorsModel" "states" "I", Cond.fieldLink RX7 13 "WordAnchorsModel" "was" "[I"]
def wsX7_find : List Cond := .code yX7_find cX7_find 2 (some .int) :: ((wsX7_find_r1 ++ wsX7_find_r2) ++ wsX70)
def wsX7_findAll_r1 : List Cond := [Cond.fieldLink RX7 7 "WordAnchorsModel" "s" "[I", Cond.methodLink RX7 57 yX7_keeps, Cond.instanceMethod yX7_keeps, Cond.selects RX7 yX7_keeps yX7_keeps, Cond.initialized RX7, Cond.code yX7_keeps cX7_keeps 2 none, Cond.fieldLink RX7 16 "WordAnchorsModel" "begun" "[I", Cond.methodLink RX7 96 yX7_how, Cond.instanceMethod yX7_how, Cond.selects RX7 yX7_how yX7_how, Cond.code yX7_how cX7_how 4 (some .int), Cond.methodLink RX7 93 yX7_best, Cond.instanceMethod yX7_best, Cond.selects RX7 yX7_best yX7_best, Cond.code yX7_best cX7_best 9 (some .int), Cond.methodLink RX7 90 yX7_scoreAt, Cond.instanceMethod yX7_scoreAt, Cond.selects RX7 yX7_scoreAt yX7_scoreAt, Cond.code yX7_scoreAt cX7_scoreAt 6 (some .int), Cond.methodLink RX7 81 yX7_word, Cond.instanceMethod yX7_word, Cond.selects RX7 yX7_word yX7_word, Cond.code yX7_word cX7_word 2 (some .int), Cond.methodLink RX7 39 yX7_isPlace]
def wsX7_findAll_r2 : List Cond := [Cond.instanceMethod yX7_isPlace, Cond.selects RX7 yX7_isPlace yX7_isPlace, Cond.code yX7_isPlace cX7_isPlace 2 (some .boolean), Cond.methodLink RX7 35 yX7_in, Cond.static yX7_in, Cond.code yX7_in cX7_in 3 (some .boolean), Cond.methodLink RX7 48 yX7_an, Cond.instanceMethod yX7_an, Cond.selects RX7 yX7_an yX7_an, Cond.code yX7_an cX7_an 3 (some .int), Cond.methodLink RX7 63 yX7_acted, Cond.instanceMethod yX7_acted, Cond.selects RX7 yX7_acted yX7_acted, Cond.code yX7_acted cX7_acted 3 (some .int), Cond.constant RX7 43 (-1000001), Cond.fieldLink RX7 44 "WordAnchorsModel" "states" "I", Cond.fieldLink RX7 13 "WordAnchorsModel" "was" "[I"]
def wsX7_findAll : List Cond := .code yX7_findAll cX7_findAll 4 (some .int) :: ((wsX7_findAll_r1 ++ wsX7_findAll_r2) ++ wsX70)
def wsX7_remember_r1 : List Cond := [Cond.constant RX7 43 (-1000001), Cond.constant RX7 99 (-1000002), Cond.methodLink RX7 87 yX7_isAnchor, Cond.instanceMethod yX7_isAnchor, Cond.selects RX7 yX7_isAnchor yX7_isAnchor, Cond.initialized RX7, Cond.code yX7_isAnchor cX7_isAnchor 2 (some .boolean), Cond.fieldLink RX7 7 "WordAnchorsModel" "s" "[I", Cond.methodLink RX7 35 yX7_in, Cond.static yX7_in, Cond.code yX7_in cX7_in 3 (some .boolean), Cond.methodLink RX7 48 yX7_an, Cond.instanceMethod yX7_an, Cond.selects RX7 yX7_an yX7_an, Cond.code yX7_an cX7_an 3 (some .int), Cond.methodLink RX7 39 yX7_isPlace, Cond.instanceMethod yX7_isPlace, Cond.selects RX7 yX7_isPlace yX7_isPlace, Cond.code yX7_isPlace cX7_isPlace 2 (some .boolean), Cond.methodLink RX7 57 yX7_keeps, Cond.instanceMethod yX7_keeps, Cond.selects RX7 yX7_keeps yX7_keeps, Cond.code yX7_keeps cX7_keeps 2 none, Cond.fieldLink RX7 16 "WordAnchorsModel" "begun" "[I"]
def wsX7_remember_r2 : List Cond := [Cond.methodLink RX7 84 yX7_remembers, Cond.instanceMethod yX7_remembers, Cond.selects RX7 yX7_remembers yX7_remembers, Cond.code yX7_remembers cX7_remembers 5 (some .int), Cond.methodLink RX7 81 yX7_word, Cond.instanceMethod yX7_word, Cond.selects RX7 yX7_word yX7_word, Cond.code yX7_word cX7_word 2 (some .int), Cond.methodLink RX7 63 yX7_acted, Cond.instanceMethod yX7_acted, Cond.selects RX7 yX7_acted yX7_acted, Cond.code yX7_acted cX7_acted 3 (some .int), Cond.fieldLink RX7 44 "WordAnchorsModel" "states" "I", Cond.fieldLink RX7 13 "WordAnchorsModel" "was" "[I"]
def wsX7_remember : List Cond := .code yX7_remember cX7_remember 2 (some .int) :: ((wsX7_remember_r1 ++ wsX7_remember_r2) ++ wsX70)
def wsX7_set : List Cond := .code yX7_set cX7_set 4 (some .int) :: ([.constant RX7 43 (-1000001), .fieldLink RX7 7 "WordAnchorsModel" "s" "[I", .methodLink RX7 35 yX7_in, .static yX7_in, .initialized RX7, .code yX7_in cX7_in 3 (some .boolean), .methodLink RX7 57 yX7_keeps, .instanceMethod yX7_keeps, .selects RX7 yX7_keeps yX7_keeps, .code yX7_keeps cX7_keeps 2 none, .fieldLink RX7 16 "WordAnchorsModel" "begun" "[I", .methodLink RX7 63 yX7_acted, .instanceMethod yX7_acted, .selects RX7 yX7_acted yX7_acted, .code yX7_acted cX7_acted 3 (some .int), .fieldLink RX7 44 "WordAnchorsModel" "states" "I", .fieldLink RX7 13 "WordAnchorsModel" "was" "[I"] ++ wsX70)
def wsX7_wordAt : List Cond := .code yX7_wordAt cX7_wordAt 2 (some .int) :: ([.constant RX7 43 (-1000001), .fieldLink RX7 7 "WordAnchorsModel" "s" "[I", .constant RX7 100 (-1000004), .methodLink RX7 39 yX7_isPlace, .instanceMethod yX7_isPlace, .selects RX7 yX7_isPlace yX7_isPlace, .initialized RX7, .code yX7_isPlace cX7_isPlace 2 (some .boolean), .methodLink RX7 35 yX7_in, .static yX7_in, .code yX7_in cX7_in 3 (some .boolean)] ++ wsX70)
def wsX7_orNone : List Cond := .code yX7_orNone cX7_orNone 1 (some .int) :: ([.constant RX7 100 (-1000004)])
def wsX7_isTrue_r1 : List Cond := [Cond.methodLink RX7 48 yX7_an, Cond.instanceMethod yX7_an, Cond.selects RX7 yX7_an yX7_an, Cond.initialized RX7, Cond.code yX7_an cX7_an 3 (some .int), Cond.fieldLink RX7 7 "WordAnchorsModel" "s" "[I", Cond.methodLink RX7 93 yX7_best, Cond.instanceMethod yX7_best, Cond.selects RX7 yX7_best yX7_best, Cond.code yX7_best cX7_best 9 (some .int), Cond.methodLink RX7 90 yX7_scoreAt, Cond.instanceMethod yX7_scoreAt, Cond.selects RX7 yX7_scoreAt yX7_scoreAt, Cond.code yX7_scoreAt cX7_scoreAt 6 (some .int), Cond.methodLink RX7 81 yX7_word, Cond.instanceMethod yX7_word, Cond.selects RX7 yX7_word yX7_word, Cond.code yX7_word cX7_word 2 (some .int), Cond.methodLink RX7 39 yX7_isPlace, Cond.instanceMethod yX7_isPlace, Cond.selects RX7 yX7_isPlace yX7_isPlace, Cond.code yX7_isPlace cX7_isPlace 2 (some .boolean), Cond.methodLink RX7 35 yX7_in, Cond.static yX7_in]
def wsX7_isTrue_r2 : List Cond := [Cond.code yX7_in cX7_in 3 (some .boolean)]
def wsX7_isTrue : List Cond := .code yX7_isTrue cX7_isTrue 2 (some .boolean) :: ((wsX7_isTrue_r1 ++ wsX7_isTrue_r2) ++ wsX70)
def wsX7_anchorOf_r1 : List Cond := [Cond.constant RX7 43 (-1000001), Cond.constant RX7 100 (-1000004), Cond.methodLink RX7 87 yX7_isAnchor, Cond.instanceMethod yX7_isAnchor, Cond.selects RX7 yX7_isAnchor yX7_isAnchor, Cond.initialized RX7, Cond.code yX7_isAnchor cX7_isAnchor 2 (some .boolean), Cond.fieldLink RX7 7 "WordAnchorsModel" "s" "[I", Cond.methodLink RX7 35 yX7_in, Cond.static yX7_in, Cond.code yX7_in cX7_in 3 (some .boolean), Cond.methodLink RX7 93 yX7_best, Cond.instanceMethod yX7_best, Cond.selects RX7 yX7_best yX7_best, Cond.code yX7_best cX7_best 9 (some .int), Cond.methodLink RX7 90 yX7_scoreAt, Cond.instanceMethod yX7_scoreAt, Cond.selects RX7 yX7_scoreAt yX7_scoreAt, Cond.code yX7_scoreAt cX7_scoreAt 6 (some .int), Cond.methodLink RX7 81 yX7_word, Cond.instanceMethod yX7_word, Cond.selects RX7 yX7_word yX7_word, Cond.code yX7_word cX7_word 2 (some .int), Cond.methodLink RX7 39 yX7_isPlace]
def wsX7_anchorOf_r2 : List Cond := [Cond.instanceMethod yX7_isPlace, Cond.selects RX7 yX7_isPlace yX7_isPlace, Cond.code yX7_isPlace cX7_isPlace 2 (some .boolean), Cond.methodLink RX7 48 yX7_an, Cond.instanceMethod yX7_an, Cond.selects RX7 yX7_an yX7_an, Cond.code yX7_an cX7_an 3 (some .int), Cond.methodLink RX7 96 yX7_how, Cond.instanceMethod yX7_how, Cond.selects RX7 yX7_how yX7_how, Cond.code yX7_how cX7_how 4 (some .int), Cond.methodLink RX7 101 yX7_orNone, Cond.static yX7_orNone, Cond.code yX7_orNone cX7_orNone 1 (some .int), Cond.methodLink RX7 104 yX7_isTrue, Cond.instanceMethod yX7_isTrue, Cond.selects RX7 yX7_isTrue yX7_isTrue, Cond.code yX7_isTrue cX7_isTrue 2 (some .boolean)]
def wsX7_anchorOf : List Cond := .code yX7_anchorOf cX7_anchorOf 5 (some .int) :: ((wsX7_anchorOf_r1 ++ wsX7_anchorOf_r2) ++ wsX70)
def wsX7_score_r1 : List Cond := [Cond.constant RX7 43 (-1000001), Cond.methodLink RX7 87 yX7_isAnchor, Cond.instanceMethod yX7_isAnchor, Cond.selects RX7 yX7_isAnchor yX7_isAnchor, Cond.initialized RX7, Cond.code yX7_isAnchor cX7_isAnchor 2 (some .boolean), Cond.fieldLink RX7 7 "WordAnchorsModel" "s" "[I", Cond.methodLink RX7 35 yX7_in, Cond.static yX7_in, Cond.code yX7_in cX7_in 3 (some .boolean), Cond.methodLink RX7 39 yX7_isPlace, Cond.instanceMethod yX7_isPlace, Cond.selects RX7 yX7_isPlace yX7_isPlace, Cond.code yX7_isPlace cX7_isPlace 2 (some .boolean), Cond.methodLink RX7 90 yX7_scoreAt, Cond.instanceMethod yX7_scoreAt, Cond.selects RX7 yX7_scoreAt yX7_scoreAt, Cond.code yX7_scoreAt cX7_scoreAt 6 (some .int), Cond.methodLink RX7 81 yX7_word, Cond.instanceMethod yX7_word, Cond.selects RX7 yX7_word yX7_word, Cond.code yX7_word cX7_word 2 (some .int), Cond.methodLink RX7 48 yX7_an, Cond.instanceMethod yX7_an]
def wsX7_score_r2 : List Cond := [Cond.selects RX7 yX7_an yX7_an, Cond.code yX7_an cX7_an 3 (some .int)]
def wsX7_score : List Cond := .code yX7_score cX7_score 3 (some .int) :: ((wsX7_score_r1 ++ wsX7_score_r2) ++ wsX70)
def wsX7_is_r1 : List Cond := [Cond.methodLink RX7 104 yX7_isTrue, Cond.instanceMethod yX7_isTrue, Cond.selects RX7 yX7_isTrue yX7_isTrue, Cond.initialized RX7, Cond.code yX7_isTrue cX7_isTrue 2 (some .boolean), Cond.methodLink RX7 48 yX7_an, Cond.instanceMethod yX7_an, Cond.selects RX7 yX7_an yX7_an, Cond.code yX7_an cX7_an 3 (some .int), Cond.fieldLink RX7 7 "WordAnchorsModel" "s" "[I", Cond.methodLink RX7 93 yX7_best, Cond.instanceMethod yX7_best, Cond.selects RX7 yX7_best yX7_best, Cond.code yX7_best cX7_best 9 (some .int), Cond.methodLink RX7 90 yX7_scoreAt, Cond.instanceMethod yX7_scoreAt, Cond.selects RX7 yX7_scoreAt yX7_scoreAt, Cond.code yX7_scoreAt cX7_scoreAt 6 (some .int), Cond.methodLink RX7 81 yX7_word, Cond.instanceMethod yX7_word, Cond.selects RX7 yX7_word yX7_word, Cond.code yX7_word cX7_word 2 (some .int), Cond.methodLink RX7 39 yX7_isPlace, Cond.instanceMethod yX7_isPlace]
def wsX7_is_r2 : List Cond := [Cond.selects RX7 yX7_isPlace yX7_isPlace, Cond.code yX7_isPlace cX7_isPlace 2 (some .boolean), Cond.methodLink RX7 35 yX7_in, Cond.static yX7_in, Cond.code yX7_in cX7_in 3 (some .boolean), Cond.methodLink RX7 96 yX7_how, Cond.instanceMethod yX7_how, Cond.selects RX7 yX7_how yX7_how, Cond.code yX7_how cX7_how 4 (some .int)]
def wsX7_is : List Cond := .code yX7_is cX7_is 3 (some .boolean) :: ((wsX7_is_r1 ++ wsX7_is_r2) ++ wsX70)
def wsX7_those_r1 : List Cond := [Cond.fieldLink RX7 7 "WordAnchorsModel" "s" "[I", Cond.methodLink RX7 107 yX7_is, Cond.instanceMethod yX7_is, Cond.selects RX7 yX7_is yX7_is, Cond.initialized RX7, Cond.code yX7_is cX7_is 3 (some .boolean), Cond.methodLink RX7 104 yX7_isTrue, Cond.instanceMethod yX7_isTrue, Cond.selects RX7 yX7_isTrue yX7_isTrue, Cond.code yX7_isTrue cX7_isTrue 2 (some .boolean), Cond.methodLink RX7 48 yX7_an, Cond.instanceMethod yX7_an, Cond.selects RX7 yX7_an yX7_an, Cond.code yX7_an cX7_an 3 (some .int), Cond.methodLink RX7 93 yX7_best, Cond.instanceMethod yX7_best, Cond.selects RX7 yX7_best yX7_best, Cond.code yX7_best cX7_best 9 (some .int), Cond.methodLink RX7 90 yX7_scoreAt, Cond.instanceMethod yX7_scoreAt, Cond.selects RX7 yX7_scoreAt yX7_scoreAt, Cond.code yX7_scoreAt cX7_scoreAt 6 (some .int), Cond.methodLink RX7 81 yX7_word, Cond.instanceMethod yX7_word]
def wsX7_those_r2 : List Cond := [Cond.selects RX7 yX7_word yX7_word, Cond.code yX7_word cX7_word 2 (some .int), Cond.methodLink RX7 39 yX7_isPlace, Cond.instanceMethod yX7_isPlace, Cond.selects RX7 yX7_isPlace yX7_isPlace, Cond.code yX7_isPlace cX7_isPlace 2 (some .boolean), Cond.methodLink RX7 35 yX7_in, Cond.static yX7_in, Cond.code yX7_in cX7_in 3 (some .boolean), Cond.methodLink RX7 96 yX7_how, Cond.instanceMethod yX7_how, Cond.selects RX7 yX7_how yX7_how, Cond.code yX7_how cX7_how 4 (some .int)]
def wsX7_those : List Cond := .code yX7_those cX7_those 4 (some .int) :: ((wsX7_those_r1 ++ wsX7_those_r2) ++ wsX70)
def wsX7_anchors_r1 : List Cond := [Cond.constant RX7 43 (-1000001), Cond.methodLink RX7 35 yX7_in, Cond.static yX7_in, Cond.initialized RX7, Cond.code yX7_in cX7_in 3 (some .boolean), Cond.methodLink RX7 111 yX7_those, Cond.instanceMethod yX7_those, Cond.selects RX7 yX7_those yX7_those, Cond.code yX7_those cX7_those 4 (some .int), Cond.fieldLink RX7 7 "WordAnchorsModel" "s" "[I", Cond.methodLink RX7 107 yX7_is, Cond.instanceMethod yX7_is, Cond.selects RX7 yX7_is yX7_is, Cond.code yX7_is cX7_is 3 (some .boolean), Cond.methodLink RX7 104 yX7_isTrue, Cond.instanceMethod yX7_isTrue, Cond.selects RX7 yX7_isTrue yX7_isTrue, Cond.code yX7_isTrue cX7_isTrue 2 (some .boolean), Cond.methodLink RX7 48 yX7_an, Cond.instanceMethod yX7_an, Cond.selects RX7 yX7_an yX7_an, Cond.code yX7_an cX7_an 3 (some .int), Cond.methodLink RX7 93 yX7_best, Cond.instanceMethod yX7_best]
def wsX7_anchors_r2 : List Cond := [Cond.selects RX7 yX7_best yX7_best, Cond.code yX7_best cX7_best 9 (some .int), Cond.methodLink RX7 90 yX7_scoreAt, Cond.instanceMethod yX7_scoreAt, Cond.selects RX7 yX7_scoreAt yX7_scoreAt, Cond.code yX7_scoreAt cX7_scoreAt 6 (some .int), Cond.methodLink RX7 81 yX7_word, Cond.instanceMethod yX7_word, Cond.selects RX7 yX7_word yX7_word, Cond.code yX7_word cX7_word 2 (some .int), Cond.methodLink RX7 39 yX7_isPlace, Cond.instanceMethod yX7_isPlace, Cond.selects RX7 yX7_isPlace yX7_isPlace, Cond.code yX7_isPlace cX7_isPlace 2 (some .boolean), Cond.methodLink RX7 96 yX7_how, Cond.instanceMethod yX7_how, Cond.selects RX7 yX7_how yX7_how, Cond.code yX7_how cX7_how 4 (some .int)]
def wsX7_anchors : List Cond := .code yX7_anchors cX7_anchors 2 (some .int) :: ((wsX7_anchors_r1 ++ wsX7_anchors_r2) ++ wsX70)
def wsX7_ones : List Cond := .code yX7_ones cX7_ones 3 (some .int) :: ([])
def wsX7_block : List Cond := .code yX7_block cX7_block 4 (some .int) :: ([.fieldLink RX7 7 "WordAnchorsModel" "s" "[I", .fieldLink RX7 32 "WordAnchorsModel" "shift" "[I"] ++ wsX70)
def wsX7_shifts_r1 : List Cond := [Cond.fieldLink RX7 7 "WordAnchorsModel" "s" "[I", Cond.fieldLink RX7 32 "WordAnchorsModel" "shift" "[I", Cond.methodLink RX7 96 yX7_how, Cond.instanceMethod yX7_how, Cond.selects RX7 yX7_how yX7_how, Cond.initialized RX7, Cond.code yX7_how cX7_how 4 (some .int), Cond.methodLink RX7 93 yX7_best, Cond.instanceMethod yX7_best, Cond.selects RX7 yX7_best yX7_best, Cond.code yX7_best cX7_best 9 (some .int), Cond.methodLink RX7 90 yX7_scoreAt, Cond.instanceMethod yX7_scoreAt, Cond.selects RX7 yX7_scoreAt yX7_scoreAt, Cond.code yX7_scoreAt cX7_scoreAt 6 (some .int), Cond.methodLink RX7 81 yX7_word, Cond.instanceMethod yX7_word, Cond.selects RX7 yX7_word yX7_word, Cond.code yX7_word cX7_word 2 (some .int), Cond.methodLink RX7 39 yX7_isPlace, Cond.instanceMethod yX7_isPlace, Cond.selects RX7 yX7_isPlace yX7_isPlace, Cond.code yX7_isPlace cX7_isPlace 2 (some .boolean), Cond.methodLink RX7 35 yX7_in]
def wsX7_shifts_r2 : List Cond := [Cond.static yX7_in, Cond.code yX7_in cX7_in 3 (some .boolean), Cond.methodLink RX7 48 yX7_an, Cond.instanceMethod yX7_an, Cond.selects RX7 yX7_an yX7_an, Cond.code yX7_an cX7_an 3 (some .int)]
def wsX7_shifts : List Cond := .code yX7_shifts cX7_shifts 2 none :: ((wsX7_shifts_r1 ++ wsX7_shifts_r2) ++ wsX70)
def wsX7_blockOf_r1 : List Cond := [Cond.constant RX7 43 (-1000001), Cond.fieldLink RX7 7 "WordAnchorsModel" "s" "[I", Cond.fieldLink RX7 32 "WordAnchorsModel" "shift" "[I", Cond.constant RX7 100 (-1000004), Cond.methodLink RX7 35 yX7_in, Cond.static yX7_in, Cond.initialized RX7, Cond.code yX7_in cX7_in 3 (some .boolean), Cond.methodLink RX7 114 yX7_shifts, Cond.instanceMethod yX7_shifts, Cond.selects RX7 yX7_shifts yX7_shifts, Cond.code yX7_shifts cX7_shifts 2 none, Cond.methodLink RX7 96 yX7_how, Cond.instanceMethod yX7_how, Cond.selects RX7 yX7_how yX7_how, Cond.code yX7_how cX7_how 4 (some .int), Cond.methodLink RX7 93 yX7_best, Cond.instanceMethod yX7_best, Cond.selects RX7 yX7_best yX7_best, Cond.code yX7_best cX7_best 9 (some .int), Cond.methodLink RX7 90 yX7_scoreAt, Cond.instanceMethod yX7_scoreAt, Cond.selects RX7 yX7_scoreAt yX7_scoreAt, Cond.code yX7_scoreAt cX7_scoreAt 6 (some .int)]
def wsX7_blockOf_r2 : List Cond := [Cond.methodLink RX7 81 yX7_word, Cond.instanceMethod yX7_word, Cond.selects RX7 yX7_word yX7_word, Cond.code yX7_word cX7_word 2 (some .int), Cond.methodLink RX7 39 yX7_isPlace, Cond.instanceMethod yX7_isPlace, Cond.selects RX7 yX7_isPlace yX7_isPlace, Cond.code yX7_isPlace cX7_isPlace 2 (some .boolean), Cond.methodLink RX7 48 yX7_an, Cond.instanceMethod yX7_an, Cond.selects RX7 yX7_an yX7_an, Cond.code yX7_an cX7_an 3 (some .int), Cond.methodLink RX7 117 yX7_block, Cond.instanceMethod yX7_block, Cond.selects RX7 yX7_block yX7_block, Cond.code yX7_block cX7_block 4 (some .int), Cond.methodLink RX7 120 yX7_ones, Cond.static yX7_ones, Cond.code yX7_ones cX7_ones 3 (some .int)]
def wsX7_blockOf : List Cond := .code yX7_blockOf cX7_blockOf 8 (some .int) :: ((wsX7_blockOf_r1 ++ wsX7_blockOf_r2) ++ wsX70)
def wsX7_wouldTake_r1 : List Cond := [Cond.constant RX7 43 (-1000001), Cond.methodLink RX7 39 yX7_isPlace, Cond.instanceMethod yX7_isPlace, Cond.selects RX7 yX7_isPlace yX7_isPlace, Cond.initialized RX7, Cond.code yX7_isPlace cX7_isPlace 2 (some .boolean), Cond.fieldLink RX7 7 "WordAnchorsModel" "s" "[I", Cond.methodLink RX7 35 yX7_in, Cond.static yX7_in, Cond.code yX7_in cX7_in 3 (some .boolean), Cond.methodLink RX7 123 yX7_lays, Cond.instanceMethod yX7_lays, Cond.selects RX7 yX7_lays yX7_lays, Cond.code yX7_lays cX7_lays 2 none, Cond.fieldLink RX7 19 "WordAnchorsModel" "aside" "[I", Cond.methodLink RX7 67 yX7_takes, Cond.instanceMethod yX7_takes, Cond.selects RX7 yX7_takes yX7_takes, Cond.code yX7_takes cX7_takes 4 (some .int), Cond.methodLink RX7 53 yX7_follows, Cond.instanceMethod yX7_follows, Cond.selects RX7 yX7_follows yX7_follows, Cond.code yX7_follows cX7_follows 7 none, Cond.methodLink RX7 48 yX7_an]
def wsX7_wouldTake_r2 : List Cond := [Cond.instanceMethod yX7_an, Cond.selects RX7 yX7_an yX7_an, Cond.code yX7_an cX7_an 3 (some .int), Cond.methodLink RX7 111 yX7_those, Cond.instanceMethod yX7_those, Cond.selects RX7 yX7_those yX7_those, Cond.code yX7_those cX7_those 4 (some .int), Cond.methodLink RX7 107 yX7_is, Cond.instanceMethod yX7_is, Cond.selects RX7 yX7_is yX7_is, Cond.code yX7_is cX7_is 3 (some .boolean), Cond.methodLink RX7 104 yX7_isTrue, Cond.instanceMethod yX7_isTrue, Cond.selects RX7 yX7_isTrue yX7_isTrue, Cond.code yX7_isTrue cX7_isTrue 2 (some .boolean), Cond.methodLink RX7 93 yX7_best, Cond.instanceMethod yX7_best, Cond.selects RX7 yX7_best yX7_best, Cond.code yX7_best cX7_best 9 (some .int), Cond.methodLink RX7 90 yX7_scoreAt, Cond.instanceMethod yX7_scoreAt, Cond.selects RX7 yX7_scoreAt yX7_scoreAt, Cond.code yX7_scoreAt cX7_scoreAt 6 (some .int), Cond.methodLink RX7 81 yX7_word]
def wsX7_wouldTake_r3 : List Cond := [Cond.instanceMethod yX7_word, Cond.selects RX7 yX7_word yX7_word, Cond.code yX7_word cX7_word 2 (some .int), Cond.methodLink RX7 96 yX7_how, Cond.instanceMethod yX7_how, Cond.selects RX7 yX7_how yX7_how, Cond.code yX7_how cX7_how 4 (some .int), Cond.methodLink RX7 126 yX7_restores, Cond.instanceMethod yX7_restores, Cond.selects RX7 yX7_restores yX7_restores, Cond.code yX7_restores cX7_restores 2 none]
def wsX7_wouldTake : List Cond := .code yX7_wouldTake cX7_wouldTake 4 (some .int) :: ((wsX7_wouldTake_r1 ++ (wsX7_wouldTake_r2 ++ wsX7_wouldTake_r3)) ++ wsX70)
def wsX7_safest_r1 : List Cond := [Cond.constant RX7 43 (-1000001), Cond.constant RX7 100 (-1000004), Cond.fieldLink RX7 7 "WordAnchorsModel" "s" "[I", Cond.methodLink RX7 35 yX7_in, Cond.static yX7_in, Cond.initialized RX7, Cond.code yX7_in cX7_in 3 (some .boolean), Cond.methodLink RX7 129 yX7_wouldTake, Cond.instanceMethod yX7_wouldTake, Cond.selects RX7 yX7_wouldTake yX7_wouldTake, Cond.code yX7_wouldTake cX7_wouldTake 4 (some .int), Cond.methodLink RX7 39 yX7_isPlace, Cond.instanceMethod yX7_isPlace, Cond.selects RX7 yX7_isPlace yX7_isPlace, Cond.code yX7_isPlace cX7_isPlace 2 (some .boolean), Cond.methodLink RX7 123 yX7_lays, Cond.instanceMethod yX7_lays, Cond.selects RX7 yX7_lays yX7_lays, Cond.code yX7_lays cX7_lays 2 none, Cond.fieldLink RX7 19 "WordAnchorsModel" "aside" "[I", Cond.methodLink RX7 67 yX7_takes, Cond.instanceMethod yX7_takes, Cond.selects RX7 yX7_takes yX7_takes, Cond.code yX7_takes cX7_takes 4 (some .int)]
def wsX7_safest_r2 : List Cond := [Cond.methodLink RX7 53 yX7_follows, Cond.instanceMethod yX7_follows, Cond.selects RX7 yX7_follows yX7_follows, Cond.code yX7_follows cX7_follows 7 none, Cond.methodLink RX7 48 yX7_an, Cond.instanceMethod yX7_an, Cond.selects RX7 yX7_an yX7_an, Cond.code yX7_an cX7_an 3 (some .int), Cond.methodLink RX7 111 yX7_those, Cond.instanceMethod yX7_those, Cond.selects RX7 yX7_those yX7_those, Cond.code yX7_those cX7_those 4 (some .int), Cond.methodLink RX7 107 yX7_is, Cond.instanceMethod yX7_is, Cond.selects RX7 yX7_is yX7_is, Cond.code yX7_is cX7_is 3 (some .boolean), Cond.methodLink RX7 104 yX7_isTrue, Cond.instanceMethod yX7_isTrue, Cond.selects RX7 yX7_isTrue yX7_isTrue, Cond.code yX7_isTrue cX7_isTrue 2 (some .boolean), Cond.methodLink RX7 93 yX7_best, Cond.instanceMethod yX7_best, Cond.selects RX7 yX7_best yX7_best, Cond.code yX7_best cX7_best 9 (some .int)]
def wsX7_safest_r3 : List Cond := [Cond.methodLink RX7 90 yX7_scoreAt, Cond.instanceMethod yX7_scoreAt, Cond.selects RX7 yX7_scoreAt yX7_scoreAt, Cond.code yX7_scoreAt cX7_scoreAt 6 (some .int), Cond.methodLink RX7 81 yX7_word, Cond.instanceMethod yX7_word, Cond.selects RX7 yX7_word yX7_word, Cond.code yX7_word cX7_word 2 (some .int), Cond.methodLink RX7 96 yX7_how, Cond.instanceMethod yX7_how, Cond.selects RX7 yX7_how yX7_how, Cond.code yX7_how cX7_how 4 (some .int), Cond.methodLink RX7 126 yX7_restores, Cond.instanceMethod yX7_restores, Cond.selects RX7 yX7_restores yX7_restores, Cond.code yX7_restores cX7_restores 2 none, Cond.methodLink RX7 120 yX7_ones, Cond.static yX7_ones, Cond.code yX7_ones cX7_ones 3 (some .int)]
def wsX7_safest : List Cond := .code yX7_safest cX7_safest 6 (some .int) :: ((wsX7_safest_r1 ++ (wsX7_safest_r2 ++ wsX7_safest_r3)) ++ wsX70)
def wsX7_likeness : List Cond := .code yX7_likeness cX7_likeness 5 (some .int) :: ([.fieldLink RX7 7 "WordAnchorsModel" "s" "[I", .methodLink RX7 81 yX7_word, .instanceMethod yX7_word, .selects RX7 yX7_word yX7_word, .initialized RX7, .code yX7_word cX7_word 2 (some .int), .methodLink RX7 39 yX7_isPlace, .instanceMethod yX7_isPlace, .selects RX7 yX7_isPlace yX7_isPlace, .code yX7_isPlace cX7_isPlace 2 (some .boolean), .methodLink RX7 35 yX7_in, .static yX7_in, .code yX7_in cX7_in 3 (some .boolean)] ++ wsX70)
def wsX7_clearest : List Cond := .code yX7_clearest cX7_clearest 8 (some .int) :: ([.constant RX7 43 (-1000001), .constant RX7 100 (-1000004), .fieldLink RX7 7 "WordAnchorsModel" "s" "[I", .methodLink RX7 35 yX7_in, .static yX7_in, .initialized RX7, .code yX7_in cX7_in 3 (some .boolean), .methodLink RX7 132 yX7_likeness, .instanceMethod yX7_likeness, .selects RX7 yX7_likeness yX7_likeness, .code yX7_likeness cX7_likeness 5 (some .int), .methodLink RX7 81 yX7_word, .instanceMethod yX7_word, .selects RX7 yX7_word yX7_word, .code yX7_word cX7_word 2 (some .int), .methodLink RX7 39 yX7_isPlace, .instanceMethod yX7_isPlace, .selects RX7 yX7_isPlace yX7_isPlace, .code yX7_isPlace cX7_isPlace 2 (some .boolean)] ++ wsX70)
def wsX7_unlike : List Cond := .code yX7_unlike cX7_unlike 5 (some .int) :: ([.fieldLink RX7 7 "WordAnchorsModel" "s" "[I"] ++ wsX70)
def wsX7_count : List Cond := .code yX7_count cX7_count 2 (some .int) :: ([.fieldLink RX7 7 "WordAnchorsModel" "s" "[I", .fieldLink RX7 44 "WordAnchorsModel" "states" "I", .fieldLink RX7 139 "WordAnchorsModel" "typed" "I", .constant RX7 43 (-1000001), .methodLink RX7 135 yX7_unlike, .instanceMethod yX7_unlike, .selects RX7 yX7_unlike yX7_unlike, .initialized RX7, .code yX7_unlike cX7_unlike 5 (some .int), .methodLink RX7 35 yX7_in, .static yX7_in, .code yX7_in cX7_in 3 (some .boolean)] ++ wsX70)
def wsX7_undo : List Cond := .code yX7_undo cX7_undo 2 (some .int) :: ([.fieldLink RX7 44 "WordAnchorsModel" "states" "I", .constant RX7 99 (-1000002), .fieldLink RX7 7 "WordAnchorsModel" "s" "[I", .fieldLink RX7 13 "WordAnchorsModel" "was" "[I"] ++ wsX70)
def wsX7_type : List Cond := .code yX7_type cX7_type 2 (some .int) :: ([.constant RX7 43 (-1000001), .fieldLink RX7 139 "WordAnchorsModel" "typed" "I", .constant RX7 52 (-1000003), .fieldLink RX7 22 "WordAnchorsModel" "text" "[C", .methodLink RX7 35 yX7_in, .static yX7_in, .initialized RX7, .code yX7_in cX7_in 3 (some .boolean)] ++ wsX70)
def wsX7_clearText : List Cond := .code yX7_clearText cX7_clearText 2 (some .int) :: ([.fieldLink RX7 139 "WordAnchorsModel" "typed" "I"] ++ wsX70)
def wsX7_sign : List Cond := .code yX7_sign cX7_sign 1 (some .int) :: ([.fieldLink RX7 142 "WordAnchorsModel" "at" "I", .fieldLink RX7 139 "WordAnchorsModel" "typed" "I", .fieldLink RX7 22 "WordAnchorsModel" "text" "[C"] ++ wsX70)
def wsX7_readsNumber : List Cond := .code yX7_readsNumber cX7_readsNumber 4 (some .boolean) :: ([.fieldLink RX7 142 "WordAnchorsModel" "at" "I", .fieldLink RX7 26 "WordAnchorsModel" "number" "[I", .methodLink RX7 145 yX7_sign, .instanceMethod yX7_sign, .selects RX7 yX7_sign yX7_sign, .initialized RX7, .code yX7_sign cX7_sign 1 (some .int), .fieldLink RX7 139 "WordAnchorsModel" "typed" "I", .fieldLink RX7 22 "WordAnchorsModel" "text" "[C", .methodLink RX7 35 yX7_in, .static yX7_in, .code yX7_in cX7_in 3 (some .boolean)] ++ wsX70)
def wsX7_reads : List Cond := .code yX7_reads cX7_reads 4 (some .boolean) :: ([.fieldLink RX7 142 "WordAnchorsModel" "at" "I", .methodLink RX7 145 yX7_sign, .instanceMethod yX7_sign, .selects RX7 yX7_sign yX7_sign, .initialized RX7, .code yX7_sign cX7_sign 1 (some .int), .fieldLink RX7 139 "WordAnchorsModel" "typed" "I", .fieldLink RX7 22 "WordAnchorsModel" "text" "[C", .methodLink RX7 148 yX7_readsNumber, .instanceMethod yX7_readsNumber, .selects RX7 yX7_readsNumber yX7_readsNumber, .code yX7_readsNumber cX7_readsNumber 4 (some .boolean), .fieldLink RX7 26 "WordAnchorsModel" "number" "[I", .methodLink RX7 35 yX7_in, .static yX7_in, .code yX7_in cX7_in 3 (some .boolean)] ++ wsX70)
def wsX7_doesNext_r1 : List Cond := [Cond.fieldLink RX7 142 "WordAnchorsModel" "at" "I", Cond.fieldLink RX7 26 "WordAnchorsModel" "number" "[I", Cond.constant RX7 43 (-1000001), Cond.constant RX7 52 (-1000003), Cond.methodLink RX7 145 yX7_sign, Cond.instanceMethod yX7_sign, Cond.selects RX7 yX7_sign yX7_sign, Cond.initialized RX7, Cond.code yX7_sign cX7_sign 1 (some .int), Cond.fieldLink RX7 139 "WordAnchorsModel" "typed" "I", Cond.fieldLink RX7 22 "WordAnchorsModel" "text" "[C", Cond.methodLink RX7 151 yX7_reads, Cond.instanceMethod yX7_reads, Cond.selects RX7 yX7_reads yX7_reads, Cond.code yX7_reads cX7_reads 4 (some .boolean), Cond.methodLink RX7 148 yX7_readsNumber, Cond.instanceMethod yX7_readsNumber, Cond.selects RX7 yX7_readsNumber yX7_readsNumber, Cond.code yX7_readsNumber cX7_readsNumber 4 (some .boolean), Cond.methodLink RX7 35 yX7_in, Cond.static yX7_in, Cond.code yX7_in cX7_in 3 (some .boolean), Cond.methodLink RX7 60 yX7_puts, Cond.instanceMethod yX7_puts]
def wsX7_doesNext_r2 : List Cond := [Cond.selects RX7 yX7_puts yX7_puts, Cond.code yX7_puts cX7_puts 4 (some .int), Cond.fieldLink RX7 7 "WordAnchorsModel" "s" "[I", Cond.methodLink RX7 53 yX7_follows, Cond.instanceMethod yX7_follows, Cond.selects RX7 yX7_follows yX7_follows, Cond.code yX7_follows cX7_follows 7 none, Cond.methodLink RX7 48 yX7_an, Cond.instanceMethod yX7_an, Cond.selects RX7 yX7_an yX7_an, Cond.code yX7_an cX7_an 3 (some .int), Cond.methodLink RX7 67 yX7_takes, Cond.instanceMethod yX7_takes, Cond.selects RX7 yX7_takes yX7_takes, Cond.code yX7_takes cX7_takes 4 (some .int), Cond.methodLink RX7 39 yX7_isPlace, Cond.instanceMethod yX7_isPlace, Cond.selects RX7 yX7_isPlace yX7_isPlace, Cond.code yX7_isPlace cX7_isPlace 2 (some .boolean), Cond.methodLink RX7 70 yX7_changes, Cond.instanceMethod yX7_changes, Cond.selects RX7 yX7_changes yX7_changes, Cond.code yX7_changes cX7_changes 4 (some .int), Cond.methodLink RX7 77 yX7_moves]
def wsX7_doesNext_r3 : List Cond := [Cond.instanceMethod yX7_moves, Cond.selects RX7 yX7_moves yX7_moves, Cond.code yX7_moves cX7_moves 7 (some .int), Cond.fieldLink RX7 29 "WordAnchorsModel" "moved" "[I", Cond.methodLink RX7 73 yX7_then, Cond.static yX7_then, Cond.code yX7_then cX7_then 5 (some .int)]
def wsX7_doesNext : List Cond := .code yX7_doesNext cX7_doesNext 3 (some .int) :: ((wsX7_doesNext_r1 ++ (wsX7_doesNext_r2 ++ wsX7_doesNext_r3)) ++ wsX70)
def wsX7_faulty_r1 : List Cond := [Cond.constant RX7 100 (-1000004), Cond.fieldLink RX7 142 "WordAnchorsModel" "at" "I", Cond.fieldLink RX7 139 "WordAnchorsModel" "typed" "I", Cond.fieldLink RX7 157 "WordAnchorsModel" "reason" "I", Cond.methodLink RX7 123 yX7_lays, Cond.instanceMethod yX7_lays, Cond.selects RX7 yX7_lays yX7_lays, Cond.initialized RX7, Cond.code yX7_lays cX7_lays 2 none, Cond.fieldLink RX7 19 "WordAnchorsModel" "aside" "[I", Cond.fieldLink RX7 7 "WordAnchorsModel" "s" "[I", Cond.methodLink RX7 154 yX7_doesNext, Cond.instanceMethod yX7_doesNext, Cond.selects RX7 yX7_doesNext yX7_doesNext, Cond.code yX7_doesNext cX7_doesNext 3 (some .int), Cond.fieldLink RX7 26 "WordAnchorsModel" "number" "[I", Cond.constant RX7 43 (-1000001), Cond.constant RX7 52 (-1000003), Cond.methodLink RX7 145 yX7_sign, Cond.instanceMethod yX7_sign, Cond.selects RX7 yX7_sign yX7_sign, Cond.code yX7_sign cX7_sign 1 (some .int), Cond.fieldLink RX7 22 "WordAnchorsModel" "text" "[C", Cond.methodLink RX7 151 yX7_reads]
def wsX7_faulty_r2 : List Cond := [Cond.instanceMethod yX7_reads, Cond.selects RX7 yX7_reads yX7_reads, Cond.code yX7_reads cX7_reads 4 (some .boolean), Cond.methodLink RX7 148 yX7_readsNumber, Cond.instanceMethod yX7_readsNumber, Cond.selects RX7 yX7_readsNumber yX7_readsNumber, Cond.code yX7_readsNumber cX7_readsNumber 4 (some .boolean), Cond.methodLink RX7 35 yX7_in, Cond.static yX7_in, Cond.code yX7_in cX7_in 3 (some .boolean), Cond.methodLink RX7 60 yX7_puts, Cond.instanceMethod yX7_puts, Cond.selects RX7 yX7_puts yX7_puts, Cond.code yX7_puts cX7_puts 4 (some .int), Cond.methodLink RX7 53 yX7_follows, Cond.instanceMethod yX7_follows, Cond.selects RX7 yX7_follows yX7_follows, Cond.code yX7_follows cX7_follows 7 none, Cond.methodLink RX7 48 yX7_an, Cond.instanceMethod yX7_an, Cond.selects RX7 yX7_an yX7_an, Cond.code yX7_an cX7_an 3 (some .int), Cond.methodLink RX7 67 yX7_takes, Cond.instanceMethod yX7_takes]
def wsX7_faulty_r3 : List Cond := [Cond.selects RX7 yX7_takes yX7_takes, Cond.code yX7_takes cX7_takes 4 (some .int), Cond.methodLink RX7 39 yX7_isPlace, Cond.instanceMethod yX7_isPlace, Cond.selects RX7 yX7_isPlace yX7_isPlace, Cond.code yX7_isPlace cX7_isPlace 2 (some .boolean), Cond.methodLink RX7 70 yX7_changes, Cond.instanceMethod yX7_changes, Cond.selects RX7 yX7_changes yX7_changes, Cond.code yX7_changes cX7_changes 4 (some .int), Cond.methodLink RX7 77 yX7_moves, Cond.instanceMethod yX7_moves, Cond.selects RX7 yX7_moves yX7_moves, Cond.code yX7_moves cX7_moves 7 (some .int), Cond.fieldLink RX7 29 "WordAnchorsModel" "moved" "[I", Cond.methodLink RX7 73 yX7_then, Cond.static yX7_then, Cond.code yX7_then cX7_then 5 (some .int), Cond.methodLink RX7 126 yX7_restores, Cond.instanceMethod yX7_restores, Cond.selects RX7 yX7_restores yX7_restores, Cond.code yX7_restores cX7_restores 2 none]
def wsX7_faulty : List Cond := .code yX7_faulty cX7_faulty 3 (some .int) :: ((wsX7_faulty_r1 ++ (wsX7_faulty_r2 ++ wsX7_faulty_r3)) ++ wsX70)
def wsX7_fault_r1 : List Cond := [Cond.constant RX7 43 (-1000001), Cond.constant RX7 100 (-1000004), Cond.fieldLink RX7 157 "WordAnchorsModel" "reason" "I", Cond.methodLink RX7 35 yX7_in, Cond.static yX7_in, Cond.initialized RX7, Cond.code yX7_in cX7_in 3 (some .boolean), Cond.methodLink RX7 160 yX7_faulty, Cond.instanceMethod yX7_faulty, Cond.selects RX7 yX7_faulty yX7_faulty, Cond.code yX7_faulty cX7_faulty 3 (some .int), Cond.fieldLink RX7 142 "WordAnchorsModel" "at" "I", Cond.fieldLink RX7 139 "WordAnchorsModel" "typed" "I", Cond.methodLink RX7 123 yX7_lays, Cond.instanceMethod yX7_lays, Cond.selects RX7 yX7_lays yX7_lays, Cond.code yX7_lays cX7_lays 2 none, Cond.fieldLink RX7 19 "WordAnchorsModel" "aside" "[I", Cond.fieldLink RX7 7 "WordAnchorsModel" "s" "[I", Cond.methodLink RX7 154 yX7_doesNext, Cond.instanceMethod yX7_doesNext, Cond.selects RX7 yX7_doesNext yX7_doesNext, Cond.code yX7_doesNext cX7_doesNext 3 (some .int), Cond.fieldLink RX7 26 "WordAnchorsModel" "number" "[I"]
def wsX7_fault_r2 : List Cond := [Cond.constant RX7 52 (-1000003), Cond.methodLink RX7 145 yX7_sign, Cond.instanceMethod yX7_sign, Cond.selects RX7 yX7_sign yX7_sign, Cond.code yX7_sign cX7_sign 1 (some .int), Cond.fieldLink RX7 22 "WordAnchorsModel" "text" "[C", Cond.methodLink RX7 151 yX7_reads, Cond.instanceMethod yX7_reads, Cond.selects RX7 yX7_reads yX7_reads, Cond.code yX7_reads cX7_reads 4 (some .boolean), Cond.methodLink RX7 148 yX7_readsNumber, Cond.instanceMethod yX7_readsNumber, Cond.selects RX7 yX7_readsNumber yX7_readsNumber, Cond.code yX7_readsNumber cX7_readsNumber 4 (some .boolean), Cond.methodLink RX7 60 yX7_puts, Cond.instanceMethod yX7_puts, Cond.selects RX7 yX7_puts yX7_puts, Cond.code yX7_puts cX7_puts 4 (some .int), Cond.methodLink RX7 53 yX7_follows, Cond.instanceMethod yX7_follows, Cond.selects RX7 yX7_follows yX7_follows, Cond.code yX7_follows cX7_follows 7 none, Cond.methodLink RX7 48 yX7_an, Cond.instanceMethod yX7_an]
def wsX7_fault_r3 : List Cond := [Cond.selects RX7 yX7_an yX7_an, Cond.code yX7_an cX7_an 3 (some .int), Cond.methodLink RX7 67 yX7_takes, Cond.instanceMethod yX7_takes, Cond.selects RX7 yX7_takes yX7_takes, Cond.code yX7_takes cX7_takes 4 (some .int), Cond.methodLink RX7 39 yX7_isPlace, Cond.instanceMethod yX7_isPlace, Cond.selects RX7 yX7_isPlace yX7_isPlace, Cond.code yX7_isPlace cX7_isPlace 2 (some .boolean), Cond.methodLink RX7 70 yX7_changes, Cond.instanceMethod yX7_changes, Cond.selects RX7 yX7_changes yX7_changes, Cond.code yX7_changes cX7_changes 4 (some .int), Cond.methodLink RX7 77 yX7_moves, Cond.instanceMethod yX7_moves, Cond.selects RX7 yX7_moves yX7_moves, Cond.code yX7_moves cX7_moves 7 (some .int), Cond.fieldLink RX7 29 "WordAnchorsModel" "moved" "[I", Cond.methodLink RX7 73 yX7_then, Cond.static yX7_then, Cond.code yX7_then cX7_then 5 (some .int), Cond.methodLink RX7 126 yX7_restores, Cond.instanceMethod yX7_restores]
def wsX7_fault_r4 : List Cond := [Cond.selects RX7 yX7_restores yX7_restores, Cond.code yX7_restores cX7_restores 2 none]
def wsX7_fault : List Cond := .code yX7_fault cX7_fault 3 (some .int) :: ((wsX7_fault_r1 ++ (wsX7_fault_r2 ++ (wsX7_fault_r3 ++ wsX7_fault_r4))) ++ wsX70)
def wsX7_play_r1 : List Cond := [Cond.constant RX7 100 (-1000004), Cond.constant RX7 99 (-1000002), Cond.fieldLink RX7 142 "WordAnchorsModel" "at" "I", Cond.fieldLink RX7 139 "WordAnchorsModel" "typed" "I", Cond.fieldLink RX7 7 "WordAnchorsModel" "s" "[I", Cond.methodLink RX7 160 yX7_faulty, Cond.instanceMethod yX7_faulty, Cond.selects RX7 yX7_faulty yX7_faulty, Cond.initialized RX7, Cond.code yX7_faulty cX7_faulty 3 (some .int), Cond.fieldLink RX7 157 "WordAnchorsModel" "reason" "I", Cond.methodLink RX7 123 yX7_lays, Cond.instanceMethod yX7_lays, Cond.selects RX7 yX7_lays yX7_lays, Cond.code yX7_lays cX7_lays 2 none, Cond.fieldLink RX7 19 "WordAnchorsModel" "aside" "[I", Cond.methodLink RX7 154 yX7_doesNext, Cond.instanceMethod yX7_doesNext, Cond.selects RX7 yX7_doesNext yX7_doesNext, Cond.code yX7_doesNext cX7_doesNext 3 (some .int), Cond.fieldLink RX7 26 "WordAnchorsModel" "number" "[I", Cond.constant RX7 43 (-1000001), Cond.constant RX7 52 (-1000003), Cond.methodLink RX7 145 yX7_sign]
def wsX7_play_r2 : List Cond := [Cond.instanceMethod yX7_sign, Cond.selects RX7 yX7_sign yX7_sign, Cond.code yX7_sign cX7_sign 1 (some .int), Cond.fieldLink RX7 22 "WordAnchorsModel" "text" "[C", Cond.methodLink RX7 151 yX7_reads, Cond.instanceMethod yX7_reads, Cond.selects RX7 yX7_reads yX7_reads, Cond.code yX7_reads cX7_reads 4 (some .boolean), Cond.methodLink RX7 148 yX7_readsNumber, Cond.instanceMethod yX7_readsNumber, Cond.selects RX7 yX7_readsNumber yX7_readsNumber, Cond.code yX7_readsNumber cX7_readsNumber 4 (some .boolean), Cond.methodLink RX7 35 yX7_in, Cond.static yX7_in, Cond.code yX7_in cX7_in 3 (some .boolean), Cond.methodLink RX7 60 yX7_puts, Cond.instanceMethod yX7_puts, Cond.selects RX7 yX7_puts yX7_puts, Cond.code yX7_puts cX7_puts 4 (some .int), Cond.methodLink RX7 53 yX7_follows, Cond.instanceMethod yX7_follows, Cond.selects RX7 yX7_follows yX7_follows, Cond.code yX7_follows cX7_follows 7 none, Cond.methodLink RX7 48 yX7_an]
def wsX7_play_r3 : List Cond := [Cond.instanceMethod yX7_an, Cond.selects RX7 yX7_an yX7_an, Cond.code yX7_an cX7_an 3 (some .int), Cond.methodLink RX7 67 yX7_takes, Cond.instanceMethod yX7_takes, Cond.selects RX7 yX7_takes yX7_takes, Cond.code yX7_takes cX7_takes 4 (some .int), Cond.methodLink RX7 39 yX7_isPlace, Cond.instanceMethod yX7_isPlace, Cond.selects RX7 yX7_isPlace yX7_isPlace, Cond.code yX7_isPlace cX7_isPlace 2 (some .boolean), Cond.methodLink RX7 70 yX7_changes, Cond.instanceMethod yX7_changes, Cond.selects RX7 yX7_changes yX7_changes, Cond.code yX7_changes cX7_changes 4 (some .int), Cond.methodLink RX7 77 yX7_moves, Cond.instanceMethod yX7_moves, Cond.selects RX7 yX7_moves yX7_moves, Cond.code yX7_moves cX7_moves 7 (some .int), Cond.fieldLink RX7 29 "WordAnchorsModel" "moved" "[I", Cond.methodLink RX7 73 yX7_then, Cond.static yX7_then, Cond.code yX7_then cX7_then 5 (some .int), Cond.methodLink RX7 126 yX7_restores]
def wsX7_play_r4 : List Cond := [Cond.instanceMethod yX7_restores, Cond.selects RX7 yX7_restores yX7_restores, Cond.code yX7_restores cX7_restores 2 none, Cond.methodLink RX7 57 yX7_keeps, Cond.instanceMethod yX7_keeps, Cond.selects RX7 yX7_keeps yX7_keeps, Cond.code yX7_keeps cX7_keeps 2 none, Cond.fieldLink RX7 16 "WordAnchorsModel" "begun" "[I", Cond.methodLink RX7 63 yX7_acted, Cond.instanceMethod yX7_acted, Cond.selects RX7 yX7_acted yX7_acted, Cond.code yX7_acted cX7_acted 3 (some .int), Cond.fieldLink RX7 44 "WordAnchorsModel" "states" "I", Cond.fieldLink RX7 13 "WordAnchorsModel" "was" "[I"]
def wsX7_play : List Cond := .code yX7_play cX7_play 1 (some .int) :: ((wsX7_play_r1 ++ (wsX7_play_r2 ++ (wsX7_play_r3 ++ wsX7_play_r4))) ++ wsX70)
def wsJ9_abs_0f7a4 : List Cond := .code yJ9_abs_0f7a4 cJ9_abs_0f7a4 1 (some .int) :: ([])
abbrev vwCl : List vw_C := [(RX0, TX0, 3), (RX1, TX1, 3), (RX2, TX2, 6), (RX3, TX3, 3), (RX4, TX4, 4), (RX5, TX5, 5), (RX6, TX6, 6), (RX7, TX7, 12)]
end
section
/-! THE INDEXED WORLD: N cells, numbered; adr gives the address of a number, cell what it holds. One judgement G over it, a row an instruction. -/
abbrev tyl (kc : Nat → ClassId) : List (ClassId × FieldType) := [(kc 0, .int), (kc 1, .char), (kc 2, .object "WordAnchors$Anchor"), (kc 3, .object "WordAnchors$State")]
def wld (N : Nat) (adr : Nat → Nat) (cell : Nat → va_E) : va_W := (List.range N).map (fun i => (adr i, cell i))
theorem wld_at {N : Nat} {adr : Nat → Nat} {cell : Nat → va_E} {i : Nat} {e : va_E} (h : i < N) (he : cell i = e) : (wld N adr cell)[i]? = some (adr i, e) := by
  subst he
  simp [wld, h]
theorem wld_of {N : Nat} {adr : Nat → Nat} {cell : Nat → va_E} {i : Nat} {q : Nat × va_E} (h : (wld N adr cell)[i]? = some q) : i < N ∧ q = (adr i, cell i) := by
  have hl : i < N := by
    have := (List.getElem?_eq_some_iff.mp h).1
    simpa [wld] using this
  rw [wld_at hl rfl] at h
  exact ⟨hl, (Option.some.inj h).symm⟩
theorem wld_set {N : Nat} {adr : Nat → Nat} {cell : Nat → va_E} {i : Nat} {e : va_E} : (wld N adr cell).set i (adr i, e) = wld N adr (va_up cell i e) := by
  apply List.ext_getElem?
  intro j
  by_cases hj : j = i
  · subst hj
    by_cases hl : j < N
    · rw [List.getElem?_set_self (by simpa [wld] using hl), wld_at hl (va_up_self _ _ _)]
    · rw [List.getElem?_eq_none (by simpa [wld] using hl), List.getElem?_eq_none (by simpa [wld] using hl)]
  · rw [List.getElem?_set_ne (Ne.symm hj)]
    by_cases hl : j < N
    · rw [wld_at hl rfl, wld_at hl (va_up_ne _ _ hj)]
    · rw [List.getElem?_eq_none (by simpa [wld] using hl), List.getElem?_eq_none (by simpa [wld] using hl)]
theorem wld_D {A : Nat → Prop} {N : Nat} {adr : Nat → Nat} {cell cell' : Nat → va_E} (h : va_D A (wld N adr cell)) : va_D A (wld N adr cell') := by
  refine ⟨fun i j x y hx hy hxy => ?_, fun k q hk => ?_⟩
  · obtain ⟨l1, rfl⟩ := wld_of hx
    obtain ⟨l2, rfl⟩ := wld_of hy
    exact h.1 i j _ _ (wld_at l1 rfl) (wld_at l2 rfl) hxy
  · obtain ⟨l1, rfl⟩ := wld_of hk
    exact h.2 k (adr k, cell k) (wld_at l1 rfl)
theorem wld_push {N : Nat} {adr : Nat → Nat} {cell : Nat → va_E} {q : Nat} {e : va_E} : wld N adr cell ++ [(q, e)] = wld (N + 1) (va_up adr N q) (va_up cell N e) := by
  simp only [wld, List.range_succ, List.map_append, List.map_cons, List.map_nil, va_up_self]
  congr 1
  apply List.map_congr_left
  intro j hj
  have : j ≠ N := Nat.ne_of_lt (List.mem_range.mp hj)
  rw [va_up_ne _ _ this, va_up_ne _ _ this]
/-- what a method may change: the world's cells, and what is made -/
def AA (N : Nat) (adr : Nat → Nat) (sz : Nat) : Nat → Prop := fun q => (∃ i : Nat, i < N ∧ adr i = q) ∨ sz ≤ q
def Pre (D : va_G) (kc : Nat → ClassId) (N : Nat) (adr : Nat → Nat) (cell : Nat → va_E) (sz : Nat) (U : State) : Prop := U.heap.size = sz ∧ va_P D vwCl (wld N adr cell) U.heap ∧ va_K D vwCl (tyl kc) U ∧ va_D (fun _ => True) (wld N adr cell)
/-- contracts: an int, nothing, or an address (or null) comes back; behind it the same cells hold cell' -/
def MI (l : Launch) (y : MethodName) (ws : List Cond) (rm : Room) (D : va_G) (kc : Nat → ClassId) (N : Nat) (adr : Nat → Nat) (cell : Nat → va_E) (av : List Value) (post : Int32 → (Nat → va_E) → Prop) : Prop := ∀ sz : Nat, Met l y ws rm (va_Pc av (Pre D kc N adr cell sz)) (va_Qi post (fun cell' t => va_P D vwCl (wld N adr cell') t.heap) (AA N adr sz)) 0 0 (AA N adr sz)
def MV (l : Launch) (y : MethodName) (ws : List Cond) (rm : Room) (D : va_G) (kc : Nat → ClassId) (N : Nat) (adr : Nat → Nat) (cell : Nat → va_E) (av : List Value) (post : (Nat → va_E) → Prop) : Prop := ∀ sz : Nat, Met l y ws rm (va_Pc av (Pre D kc N adr cell sz)) (va_Qv post (fun cell' t => va_P D vwCl (wld N adr cell') t.heap) (AA N adr sz)) 0 0 (AA N adr sz)
def MR (l : Launch) (y : MethodName) (ws : List Cond) (rm : Room) (D : va_G) (kc : Nat → ClassId) (N : Nat) (adr : Nat → Nat) (cell : Nat → va_E) (av : List Value) (post : Option Nat → (Nat → va_E) → Prop) : Prop := ∀ sz : Nat, Met l y ws rm (va_Pc av (Pre D kc N adr cell sz)) (va_Qq post (fun cell' t => va_P D vwCl (wld N adr cell') t.heap) (AA N adr sz)) 0 0 (AA N adr sz)
theorem blindPre {av : List Value} {D : va_G} {kc : Nat → ClassId} {N : Nat} {adr : Nat → Nat} {cell : Nat → va_E} {sz : Nat} : FrameBlind (va_Pc av (Pre D kc N adr cell sz)) := by
  intro a U g mk q
  obtain ⟨q0, q1, qP, qK, qD⟩ := q
  exact ⟨q0, q1, qP, va_K.moved (u := U) (U := U.calling g mk a) (Vm.Alike.refl U.vm) qK, qD⟩
/-- a method's context: the machine, the code, the words, the classes, the cells apart -/
def CX (p : Program) (s : State) (m : MethodId) (args : Array Value) (c : Code) (cc : ByteArray) (own : String) (Ts : List Cond) (D : va_G) (kc : Nat → ClassId) (N : Nat) (adr : Nat → Nat) (A : Nat → Prop) (H0 : Heap) (nL : Nat) : Prop :=
  p.tables.exec = Jvm.exec ∧ c.code = cc ∧ c.maxLocals = nL ∧ s.vm.findClass own = some m.cls ∧ (∀ w ∈ Ts, w.before args s = true) ∧ va_K D vwCl (tyl kc) s ∧ (∀ cell : Nat → va_E, va_D A (wld N adr cell)) ∧ (∀ q, H0.size ≤ q → A q)
def G (p : Program) (l : Launch) (e : Env) (R : Room) (s : State) (m : MethodId) (args : Array Value) (below : List Frame) (meth : Method) (c : Code) (D : va_G) (N : Nat) (adr : Nat → Nat) (A : Nat → Prop) (H0 : Heap) (nL k n : Nat) (Q : State → Prop) (cell : Nat → va_E) (pc : Nat) (lv : List (Nat × Value)) (st : List Value) : Prop :=
  ∀ (H : Heap) (locs : List Loc) (ls : Array Slot), va_P D vwCl (wld N adr cell) H → va_S A H0 H locs → lv_has ls nL lv → W p l e R s m args below meth c H locs k n Q (F0 m pc ls st)
section GROWS
variable {p : Program} {l : Launch} {e : Env} {R : Room} {s : State} {m : MethodId} {args : Array Value} {below : List Frame} {meth : Method} {c : Code} {D : va_G} {N : Nat} {adr : Nat → Nat} {A : Nat → Prop} {H0 : Heap} {nL ka kn : Nat} {Q : State → Prop} {cell : Nat → va_E} {pc : Nat} {lv lv' : List (Nat × Value)} {st rest : List Value}
variable {cc : ByteArray} {own : String} {Ts : List Cond} {kc : Nat → ClassId}

theorem g_iload_n (C : CX p s m args c cc own Ts D kc N adr A H0 nL) {k : Fin 4} {x : Int32} (q : Nat) (hq : lv[q]? = some ((k : Nat), .int x)) (d : decode cc pc = .ok (.iload_n k, 1)) (kk : G p l e R s m args below meth c D N adr A H0 nL ka kn Q cell (pc + 1) lv (.int x :: st)) : G p l e R s m args below meth c D N adr A H0 nL ka kn Q cell pc lv st := fun H locs ls hP hS hl => lv_iload_n C.1 C.2.1 d rfl (lv_at hl q hq) (kk H locs ls hP hS hl)
theorem g_iload (C : CX p s m args c cc own Ts D kc N adr A H0 nL) {i : Nat} {x : Int32} (q : Nat) (hq : lv[q]? = some (i, .int x)) (d : decode cc pc = .ok (.iload i, 2)) (kk : G p l e R s m args below meth c D N adr A H0 nL ka kn Q cell (pc + 2) lv (.int x :: st)) : G p l e R s m args below meth c D N adr A H0 nL ka kn Q cell pc lv st := fun H locs ls hP hS hl => lv_iload C.1 C.2.1 d (lv_at hl q hq) (kk H locs ls hP hS hl)
theorem g_aload_n (C : CX p s m args c cc own Ts D kc N adr A H0 nL) {k : Fin 4} {x : Nat} (q : Nat) (hq : lv[q]? = some ((k : Nat), .ref x)) (d : decode cc pc = .ok (.aload_n k, 1)) (kk : G p l e R s m args below meth c D N adr A H0 nL ka kn Q cell (pc + 1) lv (.ref x :: st)) : G p l e R s m args below meth c D N adr A H0 nL ka kn Q cell pc lv st := fun H locs ls hP hS hl => lv_aload_n C.1 C.2.1 d rfl (lv_at hl q hq) (kk H locs ls hP hS hl)
theorem g_aload (C : CX p s m args c cc own Ts D kc N adr A H0 nL) {i : Nat} {x : Nat} (q : Nat) (hq : lv[q]? = some (i, .ref x)) (d : decode cc pc = .ok (.aload i, 2)) (kk : G p l e R s m args below meth c D N adr A H0 nL ka kn Q cell (pc + 2) lv (.ref x :: st)) : G p l e R s m args below meth c D N adr A H0 nL ka kn Q cell pc lv st := fun H locs ls hP hS hl => lv_aload C.1 C.2.1 d (lv_at hl q hq) (kk H locs ls hP hS hl)
theorem g_aload_nN (C : CX p s m args c cc own Ts D kc N adr A H0 nL) {k : Fin 4} (q : Nat) (hq : lv[q]? = some ((k : Nat), .null)) (d : decode cc pc = .ok (.aload_n k, 1)) (kk : G p l e R s m args below meth c D N adr A H0 nL ka kn Q cell (pc + 1) lv (.null :: st)) : G p l e R s m args below meth c D N adr A H0 nL ka kn Q cell pc lv st := fun H locs ls hP hS hl => lv_aload_nN C.1 C.2.1 d rfl (lv_at hl q hq) (kk H locs ls hP hS hl)
theorem g_aloadN (C : CX p s m args c cc own Ts D kc N adr A H0 nL) {i : Nat} (q : Nat) (hq : lv[q]? = some (i, .null)) (d : decode cc pc = .ok (.aload i, 2)) (kk : G p l e R s m args below meth c D N adr A H0 nL ka kn Q cell (pc + 2) lv (.null :: st)) : G p l e R s m args below meth c D N adr A H0 nL ka kn Q cell pc lv st := fun H locs ls hP hS hl => lv_aloadN C.1 C.2.1 d (lv_at hl q hq) (kk H locs ls hP hS hl)
theorem g_istore_n (C : CX p s m args c cc own Ts D kc N adr A H0 nL) {k : Fin 4} {x : Int32} (lv' : List (Nat × Value)) (hn : (k : Nat) < nL) (hq : ((k : Nat), Value.int x) :: lv.filter (fun q => !(q.1 == (k : Nat)) && !(q.1 + 1 == (k : Nat) && q.2.category == 2)) = lv') (d : decode cc pc = .ok (.istore_n k, 1)) (kk : G p l e R s m args below meth c D N adr A H0 nL ka kn Q cell (pc + 1) lv' st) : G p l e R s m args below meth c D N adr A H0 nL ka kn Q cell pc lv (.int x :: st) := fun H locs ls hP hS hl => lv_istore_n C.1 C.2.1 d rfl hl hn hq (fun ls1 hl1 => kk H locs ls1 hP hS hl1)
theorem g_istore (C : CX p s m args c cc own Ts D kc N adr A H0 nL) {i : Nat} {x : Int32} (lv' : List (Nat × Value)) (hn : i < nL) (hq : (i, Value.int x) :: lv.filter (fun q => !(q.1 == i) && !(q.1 + 1 == i && q.2.category == 2)) = lv') (d : decode cc pc = .ok (.istore i, 2)) (kk : G p l e R s m args below meth c D N adr A H0 nL ka kn Q cell (pc + 2) lv' st) : G p l e R s m args below meth c D N adr A H0 nL ka kn Q cell pc lv (.int x :: st) := fun H locs ls hP hS hl => lv_istore C.1 C.2.1 d hl hn hq (fun ls1 hl1 => kk H locs ls1 hP hS hl1)
theorem g_astore_n (C : CX p s m args c cc own Ts D kc N adr A H0 nL) {k : Fin 4} {x : Nat} (lv' : List (Nat × Value)) (hn : (k : Nat) < nL) (hq : ((k : Nat), Value.ref x) :: lv.filter (fun q => !(q.1 == (k : Nat)) && !(q.1 + 1 == (k : Nat) && q.2.category == 2)) = lv') (d : decode cc pc = .ok (.astore_n k, 1)) (kk : G p l e R s m args below meth c D N adr A H0 nL ka kn Q cell (pc + 1) lv' st) : G p l e R s m args below meth c D N adr A H0 nL ka kn Q cell pc lv (.ref x :: st) := fun H locs ls hP hS hl => lv_astore_n C.1 C.2.1 d rfl hl hn hq (fun ls1 hl1 => kk H locs ls1 hP hS hl1)
theorem g_astore (C : CX p s m args c cc own Ts D kc N adr A H0 nL) {i : Nat} {x : Nat} (lv' : List (Nat × Value)) (hn : i < nL) (hq : (i, Value.ref x) :: lv.filter (fun q => !(q.1 == i) && !(q.1 + 1 == i && q.2.category == 2)) = lv') (d : decode cc pc = .ok (.astore i, 2)) (kk : G p l e R s m args below meth c D N adr A H0 nL ka kn Q cell (pc + 2) lv' st) : G p l e R s m args below meth c D N adr A H0 nL ka kn Q cell pc lv (.ref x :: st) := fun H locs ls hP hS hl => lv_astore C.1 C.2.1 d hl hn hq (fun ls1 hl1 => kk H locs ls1 hP hS hl1)
theorem g_astore_nN (C : CX p s m args c cc own Ts D kc N adr A H0 nL) {k : Fin 4} (lv' : List (Nat × Value)) (hn : (k : Nat) < nL) (hq : ((k : Nat), Value.null) :: lv.filter (fun q => !(q.1 == (k : Nat)) && !(q.1 + 1 == (k : Nat) && q.2.category == 2)) = lv') (d : decode cc pc = .ok (.astore_n k, 1)) (kk : G p l e R s m args below meth c D N adr A H0 nL ka kn Q cell (pc + 1) lv' st) : G p l e R s m args below meth c D N adr A H0 nL ka kn Q cell pc lv (.null :: st) := fun H locs ls hP hS hl => lv_astore_nN C.1 C.2.1 d rfl hl hn hq (fun ls1 hl1 => kk H locs ls1 hP hS hl1)
theorem g_astoreN (C : CX p s m args c cc own Ts D kc N adr A H0 nL) {i : Nat} (lv' : List (Nat × Value)) (hn : i < nL) (hq : (i, Value.null) :: lv.filter (fun q => !(q.1 == i) && !(q.1 + 1 == i && q.2.category == 2)) = lv') (d : decode cc pc = .ok (.astore i, 2)) (kk : G p l e R s m args below meth c D N adr A H0 nL ka kn Q cell (pc + 2) lv' st) : G p l e R s m args below meth c D N adr A H0 nL ka kn Q cell pc lv (.null :: st) := fun H locs ls hP hS hl => lv_astoreN C.1 C.2.1 d hl hn hq (fun ls1 hl1 => kk H locs ls1 hP hS hl1)
theorem g_iinc (C : CX p s m args c cc own Ts D kc N adr A H0 nL) {i : Nat} {z : Int} {x v : Int32} (q : Nat) (lv' : List (Nat × Value)) (hq : lv[q]? = some (i, .int x)) (hv : x + Int32.ofInt z = v) (hn : i < nL) (hs : (i, Value.int v) :: lv.filter (fun q => !(q.1 == i) && !(q.1 + 1 == i && q.2.category == 2)) = lv') (d : decode cc pc = .ok (.iinc i z, 3)) (kk : G p l e R s m args below meth c D N adr A H0 nL ka kn Q cell (pc + 3) lv' st) : G p l e R s m args below meth c D N adr A H0 nL ka kn Q cell pc lv st := fun H locs ls hP hS hl => lv_iinc C.1 C.2.1 d hl hq hv hn hs (fun ls1 hl1 => kk H locs ls1 hP hS hl1)
theorem g_iconst (C : CX p s m args c cc own Ts D kc N adr A H0 nL) {z : Int} (v : Int32) (hv : Int32.ofInt z = v) (d : decode cc pc = .ok (.iconst z, 1)) (kk : G p l e R s m args below meth c D N adr A H0 nL ka kn Q cell (pc + 1) lv (.int v :: st)) : G p l e R s m args below meth c D N adr A H0 nL ka kn Q cell pc lv st := fun H locs ls hP hS hl => lv_iconst C.1 C.2.1 d hv (kk H locs ls hP hS hl)
theorem g_bipush (C : CX p s m args c cc own Ts D kc N adr A H0 nL) {z : Int} (v : Int32) (hv : (Int8.ofInt z).toInt32 = v) (d : decode cc pc = .ok (.bipush z, 2)) (kk : G p l e R s m args below meth c D N adr A H0 nL ka kn Q cell (pc + 2) lv (.int v :: st)) : G p l e R s m args below meth c D N adr A H0 nL ka kn Q cell pc lv st := fun H locs ls hP hS hl => lv_bipush C.1 C.2.1 d hv (kk H locs ls hP hS hl)
theorem g_sipush (C : CX p s m args c cc own Ts D kc N adr A H0 nL) {z : Int} (v : Int32) (hv : (Int16.ofInt z).toInt32 = v) (d : decode cc pc = .ok (.sipush z, 3)) (kk : G p l e R s m args below meth c D N adr A H0 nL ka kn Q cell (pc + 3) lv (.int v :: st)) : G p l e R s m args below meth c D N adr A H0 nL ka kn Q cell pc lv st := fun H locs ls hP hS hl => lv_sipush C.1 C.2.1 d hv (kk H locs ls hP hS hl)
theorem g_ldc (C : CX p s m args c cc own Ts D kc N adr A H0 nL) {z : Nat} (v : Int32) (hc : (Jvm.Cond.constant own z v).before args s = true) (d : decode cc pc = .ok (.ldc z, 2)) (kk : G p l e R s m args below meth c D N adr A H0 nL ka kn Q cell (pc + 2) lv (.int v :: st)) : G p l e R s m args below meth c D N adr A H0 nL ka kn Q cell pc lv st := fun H locs ls hP hS hl => lv_ldc C.1 C.2.1 C.2.2.2.1 hc d (kk H locs ls hP hS hl)
theorem g_null (C : CX p s m args c cc own Ts D kc N adr A H0 nL)   (d : decode cc pc = .ok (.aconst_null, 1)) (kk : G p l e R s m args below meth c D N adr A H0 nL ka kn Q cell (pc + 1) lv (.null :: st)) : G p l e R s m args below meth c D N adr A H0 nL ka kn Q cell pc lv st := fun H locs ls hP hS hl => lv_null C.1 C.2.1 d (kk H locs ls hP hS hl)
theorem g_iadd (C : CX p s m args c cc own Ts D kc N adr A H0 nL) {x y : Int32}  (d : decode cc pc = .ok (.iadd, 1)) (kk : G p l e R s m args below meth c D N adr A H0 nL ka kn Q cell (pc + 1) lv (.int (x + y) :: st)) : G p l e R s m args below meth c D N adr A H0 nL ka kn Q cell pc lv (.int y :: .int x :: st) := fun H locs ls hP hS hl => lv_iadd C.1 C.2.1 d (kk H locs ls hP hS hl)
theorem g_isub (C : CX p s m args c cc own Ts D kc N adr A H0 nL) {x y : Int32}  (d : decode cc pc = .ok (.isub, 1)) (kk : G p l e R s m args below meth c D N adr A H0 nL ka kn Q cell (pc + 1) lv (.int (x - y) :: st)) : G p l e R s m args below meth c D N adr A H0 nL ka kn Q cell pc lv (.int y :: .int x :: st) := fun H locs ls hP hS hl => lv_isub C.1 C.2.1 d (kk H locs ls hP hS hl)
theorem g_imul (C : CX p s m args c cc own Ts D kc N adr A H0 nL) {x y : Int32}  (d : decode cc pc = .ok (.imul, 1)) (kk : G p l e R s m args below meth c D N adr A H0 nL ka kn Q cell (pc + 1) lv (.int (x * y) :: st)) : G p l e R s m args below meth c D N adr A H0 nL ka kn Q cell pc lv (.int y :: .int x :: st) := fun H locs ls hP hS hl => lv_imul C.1 C.2.1 d (kk H locs ls hP hS hl)
theorem g_iand (C : CX p s m args c cc own Ts D kc N adr A H0 nL) {x y : Int32}  (d : decode cc pc = .ok (.iand, 1)) (kk : G p l e R s m args below meth c D N adr A H0 nL ka kn Q cell (pc + 1) lv (.int (x &&& y) :: st)) : G p l e R s m args below meth c D N adr A H0 nL ka kn Q cell pc lv (.int y :: .int x :: st) := fun H locs ls hP hS hl => lv_iand C.1 C.2.1 d (kk H locs ls hP hS hl)
theorem g_ior (C : CX p s m args c cc own Ts D kc N adr A H0 nL) {x y : Int32}  (d : decode cc pc = .ok (.ior, 1)) (kk : G p l e R s m args below meth c D N adr A H0 nL ka kn Q cell (pc + 1) lv (.int (x ||| y) :: st)) : G p l e R s m args below meth c D N adr A H0 nL ka kn Q cell pc lv (.int y :: .int x :: st) := fun H locs ls hP hS hl => lv_ior C.1 C.2.1 d (kk H locs ls hP hS hl)
theorem g_ishl (C : CX p s m args c cc own Ts D kc N adr A H0 nL) {x y : Int32}  (d : decode cc pc = .ok (.ishl, 1)) (kk : G p l e R s m args below meth c D N adr A H0 nL ka kn Q cell (pc + 1) lv (.int (x <<< (y &&& 31)) :: st)) : G p l e R s m args below meth c D N adr A H0 nL ka kn Q cell pc lv (.int y :: .int x :: st) := fun H locs ls hP hS hl => lv_ishl C.1 C.2.1 d (kk H locs ls hP hS hl)
theorem g_ishr (C : CX p s m args c cc own Ts D kc N adr A H0 nL) {x y : Int32}  (d : decode cc pc = .ok (.ishr, 1)) (kk : G p l e R s m args below meth c D N adr A H0 nL ka kn Q cell (pc + 1) lv (.int (x >>> (y &&& 31)) :: st)) : G p l e R s m args below meth c D N adr A H0 nL ka kn Q cell pc lv (.int y :: .int x :: st) := fun H locs ls hP hS hl => lv_ishr C.1 C.2.1 d (kk H locs ls hP hS hl)
theorem g_ineg (C : CX p s m args c cc own Ts D kc N adr A H0 nL) {x : Int32}  (d : decode cc pc = .ok (.ineg, 1)) (kk : G p l e R s m args below meth c D N adr A H0 nL ka kn Q cell (pc + 1) lv (.int (-x) :: st)) : G p l e R s m args below meth c D N adr A H0 nL ka kn Q cell pc lv (.int x :: st) := fun H locs ls hP hS hl => lv_ineg C.1 C.2.1 d (kk H locs ls hP hS hl)
theorem g_irem (C : CX p s m args c cc own Ts D kc N adr A H0 nL) {x y : Int32} (hne : ¬ y = 0) (d : decode cc pc = .ok (.irem, 1)) (kk : G p l e R s m args below meth c D N adr A H0 nL ka kn Q cell (pc + 1) lv (.int (x - x / y * y) :: st)) : G p l e R s m args below meth c D N adr A H0 nL ka kn Q cell pc lv (.int y :: .int x :: st) := fun H locs ls hP hS hl => lv_irem C.1 C.2.1 d hne (kk H locs ls hP hS hl)
theorem g_i2c (C : CX p s m args c cc own Ts D kc N adr A H0 nL) {x : Int32} (v : Int32) (hv : (x.toUInt32 % 65536).toInt32 = v) (d : decode cc pc = .ok (.i2c, 1)) (kk : G p l e R s m args below meth c D N adr A H0 nL ka kn Q cell (pc + 1) lv (.int v :: st)) : G p l e R s m args below meth c D N adr A H0 nL ka kn Q cell pc lv (.int x :: st) := fun H locs ls hP hS hl => lv_i2c C.1 C.2.1 d hv (kk H locs ls hP hS hl)
theorem g_dup (C : CX p s m args c cc own Ts D kc N adr A H0 nL) {a : Value} (hc : a.category = 1) (d : decode cc pc = .ok (.dup, 1)) (kk : G p l e R s m args below meth c D N adr A H0 nL ka kn Q cell (pc + 1) lv (a :: a :: st)) : G p l e R s m args below meth c D N adr A H0 nL ka kn Q cell pc lv (a :: st) := fun H locs ls hP hS hl => lv_dup C.1 C.2.1 d hc (kk H locs ls hP hS hl)
theorem g_dup2 (C : CX p s m args c cc own Ts D kc N adr A H0 nL) {a b : Value} (ha : a.category = 1) (hb : b.category = 1) (d : decode cc pc = .ok (.dup2, 1)) (kk : G p l e R s m args below meth c D N adr A H0 nL ka kn Q cell (pc + 1) lv (a :: b :: a :: b :: st)) : G p l e R s m args below meth c D N adr A H0 nL ka kn Q cell pc lv (a :: b :: st) := fun H locs ls hP hS hl => lv_dup2_11 C.1 C.2.1 d ha hb (kk H locs ls hP hS hl)
theorem g_pop (C : CX p s m args c cc own Ts D kc N adr A H0 nL) {a : Value} (hc : a.category = 1) (d : decode cc pc = .ok (.pop, 1)) (kk : G p l e R s m args below meth c D N adr A H0 nL ka kn Q cell (pc + 1) lv st) : G p l e R s m args below meth c D N adr A H0 nL ka kn Q cell pc lv (a :: st) := fun H locs ls hP hS hl => lv_pop C.1 C.2.1 d hc (kk H locs ls hP hS hl)
theorem g_if_eq (C : CX p s m args c cc own Ts D kc N adr A H0 nL) {x : Int32} {off : Int} (tgt : Nat) (ht : (pc : Int) + off = (tgt : Int)) (d : decode cc pc = .ok (.ifCond .eq off, 3)) (kt : x = 0 → G p l e R s m args below meth c D N adr A H0 nL ka kn Q cell tgt lv st) (kf : ¬ x = 0 → G p l e R s m args below meth c D N adr A H0 nL ka kn Q cell (pc + 3) lv st) : G p l e R s m args below meth c D N adr A H0 nL ka kn Q cell pc lv (.int x :: st) := fun H locs ls hP hS hl => lv_if_eq C.1 C.2.1 d ht (fun h => kt h H locs ls hP hS hl) (fun h => kf h H locs ls hP hS hl)
theorem g_icmp_eq (C : CX p s m args c cc own Ts D kc N adr A H0 nL) {x y : Int32} {off : Int} (tgt : Nat) (ht : (pc : Int) + off = (tgt : Int)) (d : decode cc pc = .ok (.if_icmp .eq off, 3)) (kt : x = y → G p l e R s m args below meth c D N adr A H0 nL ka kn Q cell tgt lv st) (kf : ¬ x = y → G p l e R s m args below meth c D N adr A H0 nL ka kn Q cell (pc + 3) lv st) : G p l e R s m args below meth c D N adr A H0 nL ka kn Q cell pc lv (.int y :: .int x :: st) := fun H locs ls hP hS hl => lv_icmp_eq C.1 C.2.1 d ht (fun h => kt h H locs ls hP hS hl) (fun h => kf h H locs ls hP hS hl)
theorem g_if_ne (C : CX p s m args c cc own Ts D kc N adr A H0 nL) {x : Int32} {off : Int} (tgt : Nat) (ht : (pc : Int) + off = (tgt : Int)) (d : decode cc pc = .ok (.ifCond .ne off, 3)) (kt : ¬ x = 0 → G p l e R s m args below meth c D N adr A H0 nL ka kn Q cell tgt lv st) (kf : x = 0 → G p l e R s m args below meth c D N adr A H0 nL ka kn Q cell (pc + 3) lv st) : G p l e R s m args below meth c D N adr A H0 nL ka kn Q cell pc lv (.int x :: st) := fun H locs ls hP hS hl => lv_if_ne C.1 C.2.1 d ht (fun h => kt h H locs ls hP hS hl) (fun h => kf h H locs ls hP hS hl)
theorem g_icmp_ne (C : CX p s m args c cc own Ts D kc N adr A H0 nL) {x y : Int32} {off : Int} (tgt : Nat) (ht : (pc : Int) + off = (tgt : Int)) (d : decode cc pc = .ok (.if_icmp .ne off, 3)) (kt : ¬ x = y → G p l e R s m args below meth c D N adr A H0 nL ka kn Q cell tgt lv st) (kf : x = y → G p l e R s m args below meth c D N adr A H0 nL ka kn Q cell (pc + 3) lv st) : G p l e R s m args below meth c D N adr A H0 nL ka kn Q cell pc lv (.int y :: .int x :: st) := fun H locs ls hP hS hl => lv_icmp_ne C.1 C.2.1 d ht (fun h => kt h H locs ls hP hS hl) (fun h => kf h H locs ls hP hS hl)
theorem g_if_lt (C : CX p s m args c cc own Ts D kc N adr A H0 nL) {x : Int32} {off : Int} (tgt : Nat) (ht : (pc : Int) + off = (tgt : Int)) (d : decode cc pc = .ok (.ifCond .lt off, 3)) (kt : x < 0 → G p l e R s m args below meth c D N adr A H0 nL ka kn Q cell tgt lv st) (kf : ¬ x < 0 → G p l e R s m args below meth c D N adr A H0 nL ka kn Q cell (pc + 3) lv st) : G p l e R s m args below meth c D N adr A H0 nL ka kn Q cell pc lv (.int x :: st) := fun H locs ls hP hS hl => lv_if_lt C.1 C.2.1 d ht (fun h => kt h H locs ls hP hS hl) (fun h => kf h H locs ls hP hS hl)
theorem g_icmp_lt (C : CX p s m args c cc own Ts D kc N adr A H0 nL) {x y : Int32} {off : Int} (tgt : Nat) (ht : (pc : Int) + off = (tgt : Int)) (d : decode cc pc = .ok (.if_icmp .lt off, 3)) (kt : x < y → G p l e R s m args below meth c D N adr A H0 nL ka kn Q cell tgt lv st) (kf : ¬ x < y → G p l e R s m args below meth c D N adr A H0 nL ka kn Q cell (pc + 3) lv st) : G p l e R s m args below meth c D N adr A H0 nL ka kn Q cell pc lv (.int y :: .int x :: st) := fun H locs ls hP hS hl => lv_icmp_lt C.1 C.2.1 d ht (fun h => kt h H locs ls hP hS hl) (fun h => kf h H locs ls hP hS hl)
theorem g_if_ge (C : CX p s m args c cc own Ts D kc N adr A H0 nL) {x : Int32} {off : Int} (tgt : Nat) (ht : (pc : Int) + off = (tgt : Int)) (d : decode cc pc = .ok (.ifCond .ge off, 3)) (kt : 0 ≤ x → G p l e R s m args below meth c D N adr A H0 nL ka kn Q cell tgt lv st) (kf : ¬ 0 ≤ x → G p l e R s m args below meth c D N adr A H0 nL ka kn Q cell (pc + 3) lv st) : G p l e R s m args below meth c D N adr A H0 nL ka kn Q cell pc lv (.int x :: st) := fun H locs ls hP hS hl => lv_if_ge C.1 C.2.1 d ht (fun h => kt h H locs ls hP hS hl) (fun h => kf h H locs ls hP hS hl)
theorem g_icmp_ge (C : CX p s m args c cc own Ts D kc N adr A H0 nL) {x y : Int32} {off : Int} (tgt : Nat) (ht : (pc : Int) + off = (tgt : Int)) (d : decode cc pc = .ok (.if_icmp .ge off, 3)) (kt : y ≤ x → G p l e R s m args below meth c D N adr A H0 nL ka kn Q cell tgt lv st) (kf : ¬ y ≤ x → G p l e R s m args below meth c D N adr A H0 nL ka kn Q cell (pc + 3) lv st) : G p l e R s m args below meth c D N adr A H0 nL ka kn Q cell pc lv (.int y :: .int x :: st) := fun H locs ls hP hS hl => lv_icmp_ge C.1 C.2.1 d ht (fun h => kt h H locs ls hP hS hl) (fun h => kf h H locs ls hP hS hl)
theorem g_if_gt (C : CX p s m args c cc own Ts D kc N adr A H0 nL) {x : Int32} {off : Int} (tgt : Nat) (ht : (pc : Int) + off = (tgt : Int)) (d : decode cc pc = .ok (.ifCond .gt off, 3)) (kt : 0 < x → G p l e R s m args below meth c D N adr A H0 nL ka kn Q cell tgt lv st) (kf : ¬ 0 < x → G p l e R s m args below meth c D N adr A H0 nL ka kn Q cell (pc + 3) lv st) : G p l e R s m args below meth c D N adr A H0 nL ka kn Q cell pc lv (.int x :: st) := fun H locs ls hP hS hl => lv_if_gt C.1 C.2.1 d ht (fun h => kt h H locs ls hP hS hl) (fun h => kf h H locs ls hP hS hl)
theorem g_icmp_gt (C : CX p s m args c cc own Ts D kc N adr A H0 nL) {x y : Int32} {off : Int} (tgt : Nat) (ht : (pc : Int) + off = (tgt : Int)) (d : decode cc pc = .ok (.if_icmp .gt off, 3)) (kt : y < x → G p l e R s m args below meth c D N adr A H0 nL ka kn Q cell tgt lv st) (kf : ¬ y < x → G p l e R s m args below meth c D N adr A H0 nL ka kn Q cell (pc + 3) lv st) : G p l e R s m args below meth c D N adr A H0 nL ka kn Q cell pc lv (.int y :: .int x :: st) := fun H locs ls hP hS hl => lv_icmp_gt C.1 C.2.1 d ht (fun h => kt h H locs ls hP hS hl) (fun h => kf h H locs ls hP hS hl)
theorem g_if_le (C : CX p s m args c cc own Ts D kc N adr A H0 nL) {x : Int32} {off : Int} (tgt : Nat) (ht : (pc : Int) + off = (tgt : Int)) (d : decode cc pc = .ok (.ifCond .le off, 3)) (kt : x ≤ 0 → G p l e R s m args below meth c D N adr A H0 nL ka kn Q cell tgt lv st) (kf : ¬ x ≤ 0 → G p l e R s m args below meth c D N adr A H0 nL ka kn Q cell (pc + 3) lv st) : G p l e R s m args below meth c D N adr A H0 nL ka kn Q cell pc lv (.int x :: st) := fun H locs ls hP hS hl => lv_if_le C.1 C.2.1 d ht (fun h => kt h H locs ls hP hS hl) (fun h => kf h H locs ls hP hS hl)
theorem g_icmp_le (C : CX p s m args c cc own Ts D kc N adr A H0 nL) {x y : Int32} {off : Int} (tgt : Nat) (ht : (pc : Int) + off = (tgt : Int)) (d : decode cc pc = .ok (.if_icmp .le off, 3)) (kt : x ≤ y → G p l e R s m args below meth c D N adr A H0 nL ka kn Q cell tgt lv st) (kf : ¬ x ≤ y → G p l e R s m args below meth c D N adr A H0 nL ka kn Q cell (pc + 3) lv st) : G p l e R s m args below meth c D N adr A H0 nL ka kn Q cell pc lv (.int y :: .int x :: st) := fun H locs ls hP hS hl => lv_icmp_le C.1 C.2.1 d ht (fun h => kt h H locs ls hP hS hl) (fun h => kf h H locs ls hP hS hl)
theorem g_goto (C : CX p s m args c cc own Ts D kc N adr A H0 nL) {off : Int} (tgt : Nat) (ht : (pc : Int) + off = (tgt : Int)) (d : decode cc pc = .ok (.goto off, 3)) (kk : G p l e R s m args below meth c D N adr A H0 nL ka kn Q cell tgt lv st) : G p l e R s m args below meth c D N adr A H0 nL ka kn Q cell pc lv st := fun H locs ls hP hS hl => lv_goto C.1 C.2.1 d ht (kk H locs ls hP hS hl)
theorem g_ifnull (C : CX p s m args c cc own Ts D kc N adr A H0 nL) {x : Nat} {off : Int}  (d : decode cc pc = .ok (.ifnull off, 3)) (kk : G p l e R s m args below meth c D N adr A H0 nL ka kn Q cell (pc + 3) lv st) : G p l e R s m args below meth c D N adr A H0 nL ka kn Q cell pc lv (.ref x :: st) := fun H locs ls hP hS hl => lv_ifnull C.1 C.2.1 d (kk H locs ls hP hS hl)
theorem g_ifnullN (C : CX p s m args c cc own Ts D kc N adr A H0 nL) {off : Int} (tgt : Nat) (ht : (pc : Int) + off = (tgt : Int)) (d : decode cc pc = .ok (.ifnull off, 3)) (kk : G p l e R s m args below meth c D N adr A H0 nL ka kn Q cell tgt lv st) : G p l e R s m args below meth c D N adr A H0 nL ka kn Q cell pc lv (.null :: st) := fun H locs ls hP hS hl => lv_ifnullN C.1 C.2.1 d ht (kk H locs ls hP hS hl)
theorem g_ifnonnull (C : CX p s m args c cc own Ts D kc N adr A H0 nL) {x : Nat} {off : Int} (tgt : Nat) (ht : (pc : Int) + off = (tgt : Int)) (d : decode cc pc = .ok (.ifnonnull off, 3)) (kk : G p l e R s m args below meth c D N adr A H0 nL ka kn Q cell tgt lv st) : G p l e R s m args below meth c D N adr A H0 nL ka kn Q cell pc lv (.ref x :: st) := fun H locs ls hP hS hl => lv_ifnonnull C.1 C.2.1 d ht (kk H locs ls hP hS hl)
theorem g_ifnonnullN (C : CX p s m args c cc own Ts D kc N adr A H0 nL) {off : Int}  (d : decode cc pc = .ok (.ifnonnull off, 3)) (kk : G p l e R s m args below meth c D N adr A H0 nL ka kn Q cell (pc + 3) lv st) : G p l e R s m args below meth c D N adr A H0 nL ka kn Q cell pc lv (.null :: st) := fun H locs ls hP hS hl => lv_ifnonnullN C.1 C.2.1 d (kk H locs ls hP hS hl)
theorem g_tableOut (C : CX p s m args c cc own Ts D kc N adr A H0 nL) {dflt lo hi : Int} {offs : Array Int} {len : Nat} {x : Int32} (tgt : Nat) (h : x.toInt < lo ∨ hi < x.toInt) (ht : (pc : Int) + dflt = (tgt : Int)) (d : decode cc pc = .ok (.tableswitch dflt lo hi offs, len)) (kk : G p l e R s m args below meth c D N adr A H0 nL ka kn Q cell tgt lv st) : G p l e R s m args below meth c D N adr A H0 nL ka kn Q cell pc lv (.int x :: st) := fun H locs ls hP hS hl => lv_tableOut C.1 C.2.1 d h ht (kk H locs ls hP hS hl)
theorem g_tableIn (C : CX p s m args c cc own Ts D kc N adr A H0 nL) {dflt lo hi : Int} {offs : Array Int} {len : Nat} {x : Int32} (tgt : Nat) {off : Int} (h1 : ¬ x.toInt < lo) (h2 : ¬ hi < x.toInt) (ho : offs[(x.toInt - lo).toNat]? = some off) (ht : (pc : Int) + off = (tgt : Int)) (d : decode cc pc = .ok (.tableswitch dflt lo hi offs, len)) (kk : G p l e R s m args below meth c D N adr A H0 nL ka kn Q cell tgt lv st) : G p l e R s m args below meth c D N adr A H0 nL ka kn Q cell pc lv (.int x :: st) := fun H locs ls hP hS hl => lv_tableIn C.1 C.2.1 d h1 h2 ho ht (kk H locs ls hP hS hl)
theorem g_lookup (C : CX p s m args c cc own Ts D kc N adr A H0 nL) {dflt : Int} {ps : Array (Int × Int)} {len : Nat} {x : Int32} (tgt : Nat) {off : Int} (hp : (ps.toList.zip (ps.toList.drop 1)).all (fun (a, next) => a.1 < next.1) = true) (ho : Op.lookupswitch.offset ps.toList dflt x.toInt = off) (ht : (pc : Int) + off = (tgt : Int)) (d : decode cc pc = .ok (.lookupswitch dflt ps, len)) (kk : G p l e R s m args below meth c D N adr A H0 nL ka kn Q cell tgt lv st) : G p l e R s m args below meth c D N adr A H0 nL ka kn Q cell pc lv (.int x :: st) := fun H locs ls hP hS hl => lv_lookup C.1 C.2.1 d hp ho ht (kk H locs ls hP hS hl)
theorem g_get (C : CX p s m args c cc own Ts D kc N adr A H0 nL) {ref C0 : String} {T : u_T} {M index : Nat} (i ci k : Nat) (hi : i < N) {fs : List Value} (he : cell i = .inr (ci, fs)) (hc : vwCl[ci]? = some (C0, T, M)) (hin : ∀ w ∈ u_ws C0 T M, w ∈ Ts) (hk : k < M) (hlink : (Cond.fieldLink own index ref (T k).2.1 (T k).2.2.1).before args s = true) (hsame : ∀ x, s.fieldFound? (T k).1 (T k).2.1 (T k).2.2.1 = some x → s.fieldFound? ref (T k).2.1 (T k).2.2.1 = some x) {v : Value} (hv : fs[k]? = some v) (d : decode cc pc = .ok (.getfield index, 3)) (kk : G p l e R s m args below meth c D N adr A H0 nL ka kn Q cell (pc + 3) lv (v :: st)) : G p l e R s m args below meth c D N adr A H0 nL ka kn Q cell pc lv (.ref (adr i) :: st) := fun H locs ls hP hS hl => va_get C.1 C.2.1 C.2.2.2.2.1 hin C.2.2.2.1 C.2.2.2.2.2.1 hP i (wld_at hi he) hc k hk hlink hsame hv d (kk H locs ls hP hS hl)
theorem g_put (C : CX p s m args c cc own Ts D kc N adr A H0 nL) {ref C0 : String} {T : u_T} {M index : Nat} {v : Value} (i ci k : Nat) (hi : i < N) {fs : List Value} (he : cell i = .inr (ci, fs)) (hc : vwCl[ci]? = some (C0, T, M)) (hin : ∀ w ∈ u_ws C0 T M, w ∈ Ts) (ty0 : Nat → FieldType) (hty : ∀ k, k < M → parseFieldDescriptor (T k).2.2.1 = some (ty0 k)) (hnm : ∀ a, a < M → ∀ b, b < M → a ≠ b → (T a).2.1 ≠ (T b).2.1) (hk : k < M) (hlink : (Cond.fieldLink own index ref (T k).2.1 (T k).2.2.1).before args s = true) (hsame : ∀ x, s.fieldFound? (T k).1 (T k).2.1 (T k).2.2.1 = some x → s.fieldFound? ref (T k).2.1 (T k).2.2.1 = some x) (hfin : (T k).2.2.2 = false) {ty : FieldType} (hd : parseFieldDescriptor (T k).2.2.1 = some ty) (hn : narrow ty v = v) (hfit : fits ty v = true) (hl0 : k < fs.length) (d : decode cc pc = .ok (.putfield index, 3)) (kk : G p l e R s m args below meth c D N adr A H0 nL ka kn Q (va_up cell i (.inr (ci, fs.set k v))) (pc + 3) lv st) : G p l e R s m args below meth c D N adr A H0 nL ka kn Q cell pc lv (v :: .ref (adr i) :: st) := fun H locs ls hP hS hl => va_put C.1 C.2.1 C.2.2.2.2.1 hin ty0 hty hnm C.2.2.2.1 C.2.2.2.2.2.1 hP (C.2.2.2.2.2.2.1 cell) hS i (wld_at hi he) hc k hk hlink hsame hfin hd hn hfit hl0 d (fun H1 locs1 hP1 _ hS1 => kk H1 locs1 ls (wld_set ▸ hP1) hS1 hl)
theorem g_iald (C : CX p s m args c cc own Ts D kc N adr A H0 nL) {x : Int32} (i : Nat) (hi : i < N) {f : Nat → Int32} {z : Nat} (he : cell i = .inl (kc 0, z, .inl f)) (hin : vp_in x z) (d : decode cc pc = .ok (.iaload, 1)) (kk : G p l e R s m args below meth c D N adr A H0 nL ka kn Q cell (pc + 1) lv (.int (f x.toNatClampNeg) :: st)) : G p l e R s m args below meth c D N adr A H0 nL ka kn Q cell pc lv (.int x :: .ref (adr i) :: st) := fun H locs ls hP hS hl => va_iald C.1 C.2.1 C.2.2.2.2.2.1 hP i 0 (wld_at hi he) rfl hin d (kk H locs ls hP hS hl)
theorem g_cald (C : CX p s m args c cc own Ts D kc N adr A H0 nL) {x : Int32} (i : Nat) (hi : i < N) {f : Nat → Int32} {z : Nat} (he : cell i = .inl (kc 1, z, .inl f)) (hin : vp_in x z) (d : decode cc pc = .ok (.caload, 1)) (kk : G p l e R s m args below meth c D N adr A H0 nL ka kn Q cell (pc + 1) lv (.int (f x.toNatClampNeg) :: st)) : G p l e R s m args below meth c D N adr A H0 nL ka kn Q cell pc lv (.int x :: .ref (adr i) :: st) := fun H locs ls hP hS hl => va_cald C.1 C.2.1 C.2.2.2.2.2.1 hP i 1 (wld_at hi he) rfl hin d (kk H locs ls hP hS hl)
theorem g_iast (C : CX p s m args c cc own Ts D kc N adr A H0 nL) {x v : Int32} (i : Nat) (hi : i < N) {f : Nat → Int32} {z : Nat} (he : cell i = .inl (kc 0, z, .inl f)) (hin : vp_in x z) (d : decode cc pc = .ok (.iastore, 1)) (kk : G p l e R s m args below meth c D N adr A H0 nL ka kn Q (va_up cell i (.inl (kc 0, z, .inl (upd f x.toNatClampNeg v)))) (pc + 1) lv st) : G p l e R s m args below meth c D N adr A H0 nL ka kn Q cell pc lv (.int v :: .int x :: .ref (adr i) :: st) := fun H locs ls hP hS hl => va_iast C.1 C.2.1 C.2.2.2.2.2.1 hP (C.2.2.2.2.2.2.1 cell) hS i 0 (wld_at hi he) rfl hin d (fun H1 locs1 hP1 _ hS1 => kk H1 locs1 ls (wld_set ▸ hP1) hS1 hl)
theorem g_cast (C : CX p s m args c cc own Ts D kc N adr A H0 nL) {x v : Int32} (i : Nat) (hi : i < N) {f : Nat → Int32} {z : Nat} (he : cell i = .inl (kc 1, z, .inl f)) (hin : vp_in x z) (d : decode cc pc = .ok (.castore, 1)) (kk : G p l e R s m args below meth c D N adr A H0 nL ka kn Q (va_up cell i (.inl (kc 1, z, .inl (upd f x.toNatClampNeg (vp_nar .char v))))) (pc + 1) lv st) : G p l e R s m args below meth c D N adr A H0 nL ka kn Q cell pc lv (.int v :: .int x :: .ref (adr i) :: st) := fun H locs ls hP hS hl => va_cast C.1 C.2.1 C.2.2.2.2.2.1 hP (C.2.2.2.2.2.2.1 cell) hS i 1 (wld_at hi he) rfl hin d (fun H1 locs1 hP1 _ hS1 => kk H1 locs1 ls (wld_set ▸ hP1) hS1 hl)
theorem g_ald (C : CX p s m args c cc own Ts D kc N adr A H0 nL) {x : Int32} (i t0 : Nat) (hi : i < N) {f : Nat → Option Nat} {z : Nat} {cA : ClassId} {C1 : String} (he : cell i = .inl (cA, z, .inr (.inr (.inr (.inr f))))) (ht : (tyl kc)[t0]? = some (cA, .object C1)) (hin : vp_in x z) (d : decode cc pc = .ok (.aaload, 1)) (kk : G p l e R s m args below meth c D N adr A H0 nL ka kn Q cell (pc + 1) lv (va_rf (f x.toNatClampNeg) :: st)) : G p l e R s m args below meth c D N adr A H0 nL ka kn Q cell pc lv (.int x :: .ref (adr i) :: st) := fun H locs ls hP hS hl => va_aldq C.1 C.2.1 C.2.2.2.2.2.1 hP i t0 (wld_at hi he) ht hin d (kk H locs ls hP hS hl)
theorem g_alen (C : CX p s m args c cc own Ts D kc N adr A H0 nL)  (i t0 : Nat) (hi : i < N) {y : vp_A} {cA : ClassId} {ty : FieldType} (he : cell i = .inl (cA, y)) (ht : (tyl kc)[t0]? = some (cA, ty)) (v : Int32) (hv : Int32.ofNat y.1 = v) (d : decode cc pc = .ok (.arraylength, 1)) (kk : G p l e R s m args below meth c D N adr A H0 nL ka kn Q cell (pc + 1) lv (.int v :: st)) : G p l e R s m args below meth c D N adr A H0 nL ka kn Q cell pc lv (.ref (adr i) :: st) := fun H locs ls hP hS hl => va_alen C.1 C.2.1 C.2.2.2.2.2.1 hP i t0 (wld_at hi he) ht hv d (kk H locs ls hP hS hl)
theorem g_gets (C : CX p s m args c cc own Ts D kc N adr A H0 nL) {C1 nm1 d1 ref : String} {index : Nat} {v : Value} (hZ : va_Z C1 nm1 d1 v A s s.heap) (hH : H0 = s.heap) (hlink : (Cond.fieldLink own index ref nm1 d1).before args s = true) (hsame : ∀ x, s.fieldFound? C1 nm1 d1 = some x → s.fieldFound? ref nm1 d1 = some x) (d : decode cc pc = .ok (.getstatic index, 3)) (kk : G p l e R s m args below meth c D N adr A H0 nL ka kn Q cell (pc + 3) lv (v :: st)) : G p l e R s m args below meth c D N adr A H0 nL ka kn Q cell pc lv st := fun H locs ls hP hS hl => va_gets C.1 C.2.1 hZ (hH ▸ hS) C.2.2.2.1 hlink hsame d (kk H locs ls hP hS hl)
theorem g_abs (C : CX p s m args c cc own Ts D kc N adr A H0 nL) {index : Nat} {x : Int32} (hlink : (Cond.methodLink own index Lib.Math.abs.name).before args s = true) (hstat : (Cond.static Lib.Math.abs.name).before args s = true) (hini : (Cond.initialized "java/lang/Math").before args s = true) (hcode : (Cond.code Lib.Math.abs.name Lib.Math.abs.code 1 (some .int)).before args s = true) (hfr : 1 ≤ R.frames) (hlo : (st.map fun v => v.category).sum + 13 ≤ R.locals) (h1 : ka ≤ R.cells) (h2 : kn ≤ R.slots) (d : decode cc pc = .ok (.invokestatic index, 3)) (kk : G p l e R s m args below meth c D N adr A H0 nL ka kn Q cell (pc + 3) lv (.int (if 0 ≤ x then x else 0 - x) :: st)) : G p l e R s m args below meth c D N adr A H0 nL ka kn Q cell pc lv (.int x :: st) := fun H locs ls hP hS hl => va_mabs C.1 C.2.1 (C.2.2.1.trans hl.1.symm) C.2.2.2.1 hlink hstat hini hcode hfr hlo h1 h2 d (kk H locs ls hP hS hl)
theorem g_sub {lv1 : List (Nat × Value)} (ks : List Nat) (h : lv_pick lv ks = lv1) (kk : G p l e R s m args below meth c D N adr A H0 nL ka kn Q cell pc lv1 st) : G p l e R s m args below meth c D N adr A H0 nL ka kn Q cell pc lv st := fun H locs ls hP hS hl => kk H locs ls hP hS (lv_sub hl ks h)
theorem g_top {x : Int32} (k : ∀ y : Int32, y = x → G p l e R s m args below meth c D N adr A H0 nL ka kn Q cell pc lv (.int y :: st)) : G p l e R s m args below meth c D N adr A H0 nL ka kn Q cell pc lv (.int x :: st) := k x rfl
theorem g_cell (k : ∀ cell1 : Nat → va_E, cell1 = cell → G p l e R s m args below meth c D N adr A H0 nL ka kn Q cell1 pc lv st) : G p l e R s m args below meth c D N adr A H0 nL ka kn Q cell pc lv st := k cell rfl
theorem g_eqst {st1 : List Value} (h : st = st1) (kk : G p l e R s m args below meth c D N adr A H0 nL ka kn Q cell pc lv st1) : G p l e R s m args below meth c D N adr A H0 nL ka kn Q cell pc lv st := h ▸ kk
theorem aaF {H : Heap} {locs : List Loc} (C : CX p s m args c cc own Ts D kc N adr A H0 nL) (hS : va_S A H0 H locs) : ∀ q, AA N adr H.size q → A q := by
  intro q h
  rcases h with ⟨i, hi, rfl⟩ | h
  · exact (C.2.2.2.2.2.2.1 (fun _ => .inr (0, []))).2 i _ (wld_at hi rfl)
  · exact C.2.2.2.2.2.2.2 q (Nat.le_trans hS.1 h)
theorem preP {H : Heap} {U : State} (C : CX p s m args c cc own Ts D kc N adr A H0 nL) (hP : va_P D vwCl (wld N adr cell) H) (hU : U.heap = H) (hW : s.WarmedH U.vm) : Pre D kc N adr cell H.size U := ⟨by rw [hU], by rw [hU]; exact hP, va_K.moved hW.alike C.2.2.2.2.2.1, (C.2.2.2.2.2.2.1 cell).weaken (fun _ _ _ _ => trivial)⟩
theorem g_Vi (C : CX p s m args c cc own Ts D kc N adr A H0 nL) {y : MethodName} {ws : List Cond} {rm : Room} {C0 : String} {T : u_T} {M maxL n index : Nat} {bytes : ByteArray} {ret : Option FieldType} {post : Int32 → (Nat → va_E) → Prop} (As : List Value) (i ci : Nat) (hi : i < N) {fs : List Value} (he : cell i = .inr (ci, fs)) (hc : vwCl[ci]? = some (C0, T, M)) (hM : MI l y ws rm D kc N adr cell (.ref (adr i) :: As) post) (cw : CallW R s args own C0 index y bytes maxL ret ws rm 0 0 n) (hn : As.length = n) (hst : st = As.reverse ++ .ref (adr i) :: rest) (hW : (rest.map fun v => v.category).sum ≤ 8) (h1 : ka ≤ R.cells) (h2 : kn ≤ R.slots) (d : decode cc pc = .ok (.invokevirtual index, 3)) (kk : ∀ (r : Int32) (cell1 : Nat → va_E), post r cell1 → G p l e R s m args below meth c D N adr A H0 nL ka kn Q cell1 (pc + 3) lv (.int r :: rest)) : G p l e R s m args below meth c D N adr A H0 nL ka kn Q cell pc lv st := fun H locs ls hP hS hl => by
  subst hst
  exact va_calli (va_runV (As := As) (rest := rest) ⟨C.1, C.2.1, C.2.2.1, C.2.2.2.1, C.2.2.2.2.1⟩ (hM H.size) cw ⟨blindPre, va_recv C.2.2.2.2.2.1 hP hc (wld_at hi he), fun U hU hW => ⟨rfl, preP C hP hU hW⟩⟩ rfl hn hl.1 rfl (lv_room hW) d ⟨h1, h2⟩) hS (fun q _ h => aaF C hS q h) (aaF C hS) (fun r u t H1 locs1 ht hvm hw hB hz1 hk1 hS1 => kk r u hw H1 locs1 ls (ht ▸ hB) hS1 hl)
theorem g_Si (C : CX p s m args c cc own Ts D kc N adr A H0 nL) {y : MethodName} {ws : List Cond} {rm : Room} {maxL n index : Nat} {bytes : ByteArray} {ret : Option FieldType} {post : Int32 → (Nat → va_E) → Prop} (As : List Value) (hM : MI l y ws rm D kc N adr cell As post) (cw : CallB R s args own index y bytes maxL ret ws rm 0 0 n ∧ (Cond.static y).before args s = true) (hn : As.length = n) (hst : st = As.reverse ++ rest) (hW : (rest.map fun v => v.category).sum ≤ 8) (h1 : ka ≤ R.cells) (h2 : kn ≤ R.slots) (d : decode cc pc = .ok (.invokestatic index, 3)) (kk : ∀ (r : Int32) (cell1 : Nat → va_E), post r cell1 → G p l e R s m args below meth c D N adr A H0 nL ka kn Q cell1 (pc + 3) lv (.int r :: rest)) : G p l e R s m args below meth c D N adr A H0 nL ka kn Q cell pc lv st := fun H locs ls hP hS hl => by
  subst hst
  exact va_calli (va_runS (As := As) (rest := rest) ⟨C.1, C.2.1, C.2.2.1, C.2.2.2.1, C.2.2.2.2.1⟩ (hM H.size) cw ⟨blindPre, fun U hU hW => ⟨rfl, preP C hP hU hW⟩⟩ rfl hn hl.1 rfl (lv_room hW) d ⟨h1, h2⟩) hS (fun q _ h => aaF C hS q h) (aaF C hS) (fun r u t H1 locs1 ht hvm hw hB hz1 hk1 hS1 => kk r u hw H1 locs1 ls (ht ▸ hB) hS1 hl)
theorem g_Vv (C : CX p s m args c cc own Ts D kc N adr A H0 nL) {y : MethodName} {ws : List Cond} {rm : Room} {C0 : String} {T : u_T} {M maxL n index : Nat} {bytes : ByteArray} {ret : Option FieldType} {post : (Nat → va_E) → Prop} (As : List Value) (i ci : Nat) (hi : i < N) {fs : List Value} (he : cell i = .inr (ci, fs)) (hc : vwCl[ci]? = some (C0, T, M)) (hM : MV l y ws rm D kc N adr cell (.ref (adr i) :: As) post) (cw : CallW R s args own C0 index y bytes maxL ret ws rm 0 0 n) (hn : As.length = n) (hst : st = As.reverse ++ .ref (adr i) :: rest) (hW : (rest.map fun v => v.category).sum ≤ 8) (h1 : ka ≤ R.cells) (h2 : kn ≤ R.slots) (d : decode cc pc = .ok (.invokevirtual index, 3)) (kk : ∀ (cell1 : Nat → va_E), post cell1 → G p l e R s m args below meth c D N adr A H0 nL ka kn Q cell1 (pc + 3) lv rest) : G p l e R s m args below meth c D N adr A H0 nL ka kn Q cell pc lv st := fun H locs ls hP hS hl => by
  subst hst
  exact va_callv (va_runV (As := As) (rest := rest) ⟨C.1, C.2.1, C.2.2.1, C.2.2.2.1, C.2.2.2.2.1⟩ (hM H.size) cw ⟨blindPre, va_recv C.2.2.2.2.2.1 hP hc (wld_at hi he), fun U hU hW => ⟨rfl, preP C hP hU hW⟩⟩ rfl hn hl.1 rfl (lv_room hW) d ⟨h1, h2⟩) hS (fun q _ h => aaF C hS q h) (aaF C hS) (fun u t H1 locs1 ht hvm hw hB hz1 hk1 hS1 => kk u hw H1 locs1 ls (ht ▸ hB) hS1 hl)
theorem g_Sv (C : CX p s m args c cc own Ts D kc N adr A H0 nL) {y : MethodName} {ws : List Cond} {rm : Room} {maxL n index : Nat} {bytes : ByteArray} {ret : Option FieldType} {post : (Nat → va_E) → Prop} (As : List Value) (hM : MV l y ws rm D kc N adr cell As post) (cw : CallB R s args own index y bytes maxL ret ws rm 0 0 n ∧ (Cond.static y).before args s = true) (hn : As.length = n) (hst : st = As.reverse ++ rest) (hW : (rest.map fun v => v.category).sum ≤ 8) (h1 : ka ≤ R.cells) (h2 : kn ≤ R.slots) (d : decode cc pc = .ok (.invokestatic index, 3)) (kk : ∀ (cell1 : Nat → va_E), post cell1 → G p l e R s m args below meth c D N adr A H0 nL ka kn Q cell1 (pc + 3) lv rest) : G p l e R s m args below meth c D N adr A H0 nL ka kn Q cell pc lv st := fun H locs ls hP hS hl => by
  subst hst
  exact va_callv (va_runS (As := As) (rest := rest) ⟨C.1, C.2.1, C.2.2.1, C.2.2.2.1, C.2.2.2.2.1⟩ (hM H.size) cw ⟨blindPre, fun U hU hW => ⟨rfl, preP C hP hU hW⟩⟩ rfl hn hl.1 rfl (lv_room hW) d ⟨h1, h2⟩) hS (fun q _ h => aaF C hS q h) (aaF C hS) (fun u t H1 locs1 ht hvm hw hB hz1 hk1 hS1 => kk u hw H1 locs1 ls (ht ▸ hB) hS1 hl)
theorem g_Vq (C : CX p s m args c cc own Ts D kc N adr A H0 nL) {y : MethodName} {ws : List Cond} {rm : Room} {C0 : String} {T : u_T} {M maxL n index : Nat} {bytes : ByteArray} {ret : Option FieldType} {post : Option Nat → (Nat → va_E) → Prop} (As : List Value) (i ci : Nat) (hi : i < N) {fs : List Value} (he : cell i = .inr (ci, fs)) (hc : vwCl[ci]? = some (C0, T, M)) (hM : MR l y ws rm D kc N adr cell (.ref (adr i) :: As) post) (cw : CallW R s args own C0 index y bytes maxL ret ws rm 0 0 n) (hn : As.length = n) (hst : st = As.reverse ++ .ref (adr i) :: rest) (hW : (rest.map fun v => v.category).sum ≤ 8) (h1 : ka ≤ R.cells) (h2 : kn ≤ R.slots) (d : decode cc pc = .ok (.invokevirtual index, 3)) (kk : ∀ (r : Option Nat) (cell1 : Nat → va_E), post r cell1 → G p l e R s m args below meth c D N adr A H0 nL ka kn Q cell1 (pc + 3) lv (va_rf r :: rest)) : G p l e R s m args below meth c D N adr A H0 nL ka kn Q cell pc lv st := fun H locs ls hP hS hl => by
  subst hst
  exact va_callq (va_runV (As := As) (rest := rest) ⟨C.1, C.2.1, C.2.2.1, C.2.2.2.1, C.2.2.2.2.1⟩ (hM H.size) cw ⟨blindPre, va_recv C.2.2.2.2.2.1 hP hc (wld_at hi he), fun U hU hW => ⟨rfl, preP C hP hU hW⟩⟩ rfl hn hl.1 rfl (lv_room hW) d ⟨h1, h2⟩) hS (fun q _ h => aaF C hS q h) (aaF C hS) (fun r u t H1 locs1 ht hvm hw hB hz1 hk1 hS1 => kk r u hw H1 locs1 ls (ht ▸ hB) hS1 hl)
theorem g_Sq (C : CX p s m args c cc own Ts D kc N adr A H0 nL) {y : MethodName} {ws : List Cond} {rm : Room} {maxL n index : Nat} {bytes : ByteArray} {ret : Option FieldType} {post : Option Nat → (Nat → va_E) → Prop} (As : List Value) (hM : MR l y ws rm D kc N adr cell As post) (cw : CallB R s args own index y bytes maxL ret ws rm 0 0 n ∧ (Cond.static y).before args s = true) (hn : As.length = n) (hst : st = As.reverse ++ rest) (hW : (rest.map fun v => v.category).sum ≤ 8) (h1 : ka ≤ R.cells) (h2 : kn ≤ R.slots) (d : decode cc pc = .ok (.invokestatic index, 3)) (kk : ∀ (r : Option Nat) (cell1 : Nat → va_E), post r cell1 → G p l e R s m args below meth c D N adr A H0 nL ka kn Q cell1 (pc + 3) lv (va_rf r :: rest)) : G p l e R s m args below meth c D N adr A H0 nL ka kn Q cell pc lv st := fun H locs ls hP hS hl => by
  subst hst
  exact va_callq (va_runS (As := As) (rest := rest) ⟨C.1, C.2.1, C.2.2.1, C.2.2.2.1, C.2.2.2.2.1⟩ (hM H.size) cw ⟨blindPre, fun U hU hW => ⟨rfl, preP C hP hU hW⟩⟩ rfl hn hl.1 rfl (lv_room hW) d ⟨h1, h2⟩) hS (fun q _ h => aaF C hS q h) (aaF C hS) (fun r u t H1 locs1 ht hvm hw hB hz1 hk1 hS1 => kk r u hw H1 locs1 ls (ht ▸ hB) hS1 hl)
theorem g_iret (C : CX p s m args c cc own Ts D kc N adr A s.heap nL) {post : Int32 → (Nat → va_E) → Prop} {v : Int32} {ty : FieldType} (hr : meth.sig.returnType = some ty) (hnar : narrow ty (.int v) = .int v) (hlk : meth.locks = false) (d : decode cc pc = .ok (.ireturn, 1)) (hp : post v cell) : G p l e R s m args below meth c D N adr A s.heap nL 0 0 (MQ below (va_Qi post (fun cell1 t => va_P D vwCl (wld N adr cell1) t.heap) A) args s 0 0 A) cell pc lv [.int v] := fun H locs ls hP hS hl => W.zret C.1 C.2.1 hr hnar (fun t ht _ => ⟨⟨v, cell, rfl, hp, (show va_P D vwCl (wld N adr cell) t.heap by rw [ht]; exact hP)⟩, hS.F ht⟩) hS.2.2 d hlk
theorem g_vret (C : CX p s m args c cc own Ts D kc N adr A s.heap nL) {post : (Nat → va_E) → Prop} (hr : meth.sig.returnType = none) (hlk : meth.locks = false) (d : decode cc pc = .ok (.return_, 1)) (hp : post cell) : G p l e R s m args below meth c D N adr A s.heap nL 0 0 (MQ below (va_Qv post (fun cell1 t => va_P D vwCl (wld N adr cell1) t.heap) A) args s 0 0 A) cell pc lv [] := fun H locs ls hP hS hl => W.vret C.1 C.2.1 hr (fun t ht _ => ⟨⟨cell, rfl, hp, (show va_P D vwCl (wld N adr cell) t.heap by rw [ht]; exact hP)⟩, hS.F ht⟩) hS.2.2 d hlk
theorem g_aret (C : CX p s m args c cc own Ts D kc N adr A s.heap nL) {post : Option Nat → (Nat → va_E) → Prop} {x : Nat} {nm : String} (hr : meth.sig.returnType = some (.object nm)) (hlk : meth.locks = false) (d : decode cc pc = .ok (.areturn, 1)) (hp : post (some x) cell) : G p l e R s m args below meth c D N adr A s.heap nL 0 0 (MQ below (va_Qq post (fun cell1 t => va_P D vwCl (wld N adr cell1) t.heap) A) args s 0 0 A) cell pc lv [.ref x] := fun H locs ls hP hS hl => W.aret C.1 C.2.1 hr (Or.inl ⟨nm, rfl⟩) (Or.inr ⟨x, rfl⟩) (fun t ht _ => ⟨⟨some x, cell, rfl, hp, (show va_P D vwCl (wld N adr cell) t.heap by rw [ht]; exact hP)⟩, hS.F ht⟩) hS.2.2 d hlk
theorem g_aretN (C : CX p s m args c cc own Ts D kc N adr A s.heap nL) {post : Option Nat → (Nat → va_E) → Prop} {nm : String} (hr : meth.sig.returnType = some (.object nm)) (hlk : meth.locks = false) (d : decode cc pc = .ok (.areturn, 1)) (hp : post none cell) : G p l e R s m args below meth c D N adr A s.heap nL 0 0 (MQ below (va_Qq post (fun cell1 t => va_P D vwCl (wld N adr cell1) t.heap) A) args s 0 0 A) cell pc lv [.null] := fun H locs ls hP hS hl => W.aret C.1 C.2.1 hr (Or.inl ⟨nm, rfl⟩) (Or.inl rfl) (fun t ht _ => ⟨⟨none, cell, rfl, hp, (show va_P D vwCl (wld N adr cell) t.heap by rw [ht]; exact hP)⟩, hS.F ht⟩) hS.2.2 d hlk
end GROWS
theorem met_i {l : Launch} {y : MethodName} {ws ws' : List Cond} {rm : Room} {D : va_G} {kc : Nat → ClassId} {N : Nat} {adr : Nat → Nat} {cell : Nat → va_E} {av : List Value} {post : Int32 → (Nat → va_E) → Prop} {cc : ByteArray} {maxL : Nat} {ret : Option FieldType} {lv : List (Nat × Value)} (hy : plainName y.cls = true) (hw : ws = Cond.code y cc maxL ret :: ws') (hlen : (lg_sl av).length ≤ maxL) (hlv : lv_args 0 av = lv)
    (body : ∀ (p : Program) (e : Env) (s : State) (m : MethodId) (args : Array Value) (below : List Frame) (meth : Method) (c : Code) (A : Nat → Prop), CX p s m args c cc y.cls ws D kc N adr A s.heap maxL → meth.sig.returnType = ret → meth.locks = false → meth.name = y.name →
      G p l e (headSpec ws rm).room s m args below meth c D N adr A s.heap maxL 0 0 (MQ below (va_Qi post (fun cell1 t => va_P D vwCl (wld N adr cell1) t.heap) A) args s 0 0 A) cell 0 lv []) : MI l y ws rm D kc N adr cell av post := by
  intro sz
  refine Met.ofW (cc := cc) (maxL := maxL) (ret := ret) hy hw ?_
  intro p e s m args below meth c s₁ B hml hv
  obtain ⟨rfl, rfl, hP, hK, hD0⟩ := hv
  have hCX : CX p s m av.toArray c cc y.cls ws D kc N adr (AA N adr s.heap.size) s.heap maxL := ⟨B.exec, B.bytes, hml, findClass_of_methodNamed B.named, atoms_spec (ws := ws) B.pre, hK, fun cell' => ⟨(wld_D (cell' := cell') hD0).1, fun k q hk => Or.inl ⟨k, (wld_of hk).1, by rw [(wld_of hk).2]⟩⟩, fun q h => Or.inr h⟩
  have hl := lv_entry av (n := maxL) hlen
  rw [lg_entry_eq]
  exact body p e s m _ below meth c _ hCX B.returns B.notSynchronized (name_of_methodNamed B.named B.method).1 s.heap [] _ hP va_S.rf (hlv ▸ hl)
theorem met_v {l : Launch} {y : MethodName} {ws ws' : List Cond} {rm : Room} {D : va_G} {kc : Nat → ClassId} {N : Nat} {adr : Nat → Nat} {cell : Nat → va_E} {av : List Value} {post : (Nat → va_E) → Prop} {cc : ByteArray} {maxL : Nat} {ret : Option FieldType} {lv : List (Nat × Value)} (hy : plainName y.cls = true) (hw : ws = Cond.code y cc maxL ret :: ws') (hlen : (lg_sl av).length ≤ maxL) (hlv : lv_args 0 av = lv)
    (body : ∀ (p : Program) (e : Env) (s : State) (m : MethodId) (args : Array Value) (below : List Frame) (meth : Method) (c : Code) (A : Nat → Prop), CX p s m args c cc y.cls ws D kc N adr A s.heap maxL → meth.sig.returnType = ret → meth.locks = false → meth.name = y.name →
      G p l e (headSpec ws rm).room s m args below meth c D N adr A s.heap maxL 0 0 (MQ below (va_Qv post (fun cell1 t => va_P D vwCl (wld N adr cell1) t.heap) A) args s 0 0 A) cell 0 lv []) : MV l y ws rm D kc N adr cell av post := by
  intro sz
  refine Met.ofW (cc := cc) (maxL := maxL) (ret := ret) hy hw ?_
  intro p e s m args below meth c s₁ B hml hv
  obtain ⟨rfl, rfl, hP, hK, hD0⟩ := hv
  have hCX : CX p s m av.toArray c cc y.cls ws D kc N adr (AA N adr s.heap.size) s.heap maxL := ⟨B.exec, B.bytes, hml, findClass_of_methodNamed B.named, atoms_spec (ws := ws) B.pre, hK, fun cell' => ⟨(wld_D (cell' := cell') hD0).1, fun k q hk => Or.inl ⟨k, (wld_of hk).1, by rw [(wld_of hk).2]⟩⟩, fun q h => Or.inr h⟩
  have hl := lv_entry av (n := maxL) hlen
  rw [lg_entry_eq]
  exact body p e s m _ below meth c _ hCX B.returns B.notSynchronized (name_of_methodNamed B.named B.method).1 s.heap [] _ hP va_S.rf (hlv ▸ hl)
theorem met_q {l : Launch} {y : MethodName} {ws ws' : List Cond} {rm : Room} {D : va_G} {kc : Nat → ClassId} {N : Nat} {adr : Nat → Nat} {cell : Nat → va_E} {av : List Value} {post : Option Nat → (Nat → va_E) → Prop} {cc : ByteArray} {maxL : Nat} {ret : Option FieldType} {lv : List (Nat × Value)} (hy : plainName y.cls = true) (hw : ws = Cond.code y cc maxL ret :: ws') (hlen : (lg_sl av).length ≤ maxL) (hlv : lv_args 0 av = lv)
    (body : ∀ (p : Program) (e : Env) (s : State) (m : MethodId) (args : Array Value) (below : List Frame) (meth : Method) (c : Code) (A : Nat → Prop), CX p s m args c cc y.cls ws D kc N adr A s.heap maxL → meth.sig.returnType = ret → meth.locks = false → meth.name = y.name →
      G p l e (headSpec ws rm).room s m args below meth c D N adr A s.heap maxL 0 0 (MQ below (va_Qq post (fun cell1 t => va_P D vwCl (wld N adr cell1) t.heap) A) args s 0 0 A) cell 0 lv []) : MR l y ws rm D kc N adr cell av post := by
  intro sz
  refine Met.ofW (cc := cc) (maxL := maxL) (ret := ret) hy hw ?_
  intro p e s m args below meth c s₁ B hml hv
  obtain ⟨rfl, rfl, hP, hK, hD0⟩ := hv
  have hCX : CX p s m av.toArray c cc y.cls ws D kc N adr (AA N adr s.heap.size) s.heap maxL := ⟨B.exec, B.bytes, hml, findClass_of_methodNamed B.named, atoms_spec (ws := ws) B.pre, hK, fun cell' => ⟨(wld_D (cell' := cell') hD0).1, fun k q hk => Or.inl ⟨k, (wld_of hk).1, by rw [(wld_of hk).2]⟩⟩, fun q h => Or.inr h⟩
  have hl := lv_entry av (n := maxL) hlen
  rw [lg_entry_eq]
  exact body p e s m _ below meth c _ hCX B.returns B.notSynchronized (name_of_methodNamed B.named B.method).1 s.heap [] _ hP va_S.rf (hlv ▸ hl)
end
section
theorem dX0_init_0 : decode cX0_init 0 = .ok (.aload_n 0, 1) := by decide +kernel
theorem dX0_init_1 : decode cX0_init 1 = .ok (.invokespecial 3, 3) := by decide +kernel
theorem dX0_init_4 : decode cX0_init 4 = .ok (.aload_n 0, 1) := by decide +kernel
theorem dX0_init_5 : decode cX0_init 5 = .ok (.iconst 5, 1) := by decide +kernel
theorem dX0_init_6 : decode cX0_init 6 = .ok (.newarray .int, 2) := by decide +kernel
theorem dX0_init_8 : decode cX0_init 8 = .ok (.putfield 9, 3) := by decide +kernel
theorem dX0_init_11 : decode cX0_init 11 = .ok (.return_, 1) := by decide +kernel
theorem dX0_place_0 : decode cX0_place 0 = .ok (.aload_n 0, 1) := by decide +kernel
theorem dX0_place_1 : decode cX0_place 1 = .ok (.getfield 15, 3) := by decide +kernel
theorem dX0_place_4 : decode cX0_place 4 = .ok (.ireturn, 1) := by decide +kernel
theorem dX0_truePlace_0 : decode cX0_truePlace 0 = .ok (.aload_n 0, 1) := by decide +kernel
theorem dX0_truePlace_1 : decode cX0_truePlace 1 = .ok (.getfield 19, 3) := by decide +kernel
theorem dX0_truePlace_4 : decode cX0_truePlace 4 = .ok (.ireturn, 1) := by decide +kernel
theorem dX0_thing_0 : decode cX0_thing 0 = .ok (.iload_n 1, 1) := by decide +kernel
theorem dX0_thing_1 : decode cX0_thing 1 = .ok (.ifCond .lt 21, 3) := by decide +kernel
theorem dX0_thing_4 : decode cX0_thing 4 = .ok (.iload_n 1, 1) := by decide +kernel
theorem dX0_thing_5 : decode cX0_thing 5 = .ok (.aload_n 0, 1) := by decide +kernel
theorem dX0_thing_6 : decode cX0_thing 6 = .ok (.getfield 9, 3) := by decide +kernel
theorem dX0_thing_9 : decode cX0_thing 9 = .ok (.arraylength, 1) := by decide +kernel
theorem dX0_thing_10 : decode cX0_thing 10 = .ok (.if_icmp .ge 12, 3) := by decide +kernel
theorem dX0_thing_13 : decode cX0_thing 13 = .ok (.aload_n 0, 1) := by decide +kernel
theorem dX0_thing_14 : decode cX0_thing 14 = .ok (.getfield 9, 3) := by decide +kernel
theorem dX0_thing_17 : decode cX0_thing 17 = .ok (.iload_n 1, 1) := by decide +kernel
theorem dX0_thing_18 : decode cX0_thing 18 = .ok (.iaload, 1) := by decide +kernel
theorem dX0_thing_19 : decode cX0_thing 19 = .ok (.goto 4, 3) := by decide +kernel
theorem dX0_thing_22 : decode cX0_thing 22 = .ok (.iconst (-1), 1) := by decide +kernel
theorem dX0_thing_23 : decode cX0_thing 23 = .ok (.ireturn, 1) := by decide +kernel
theorem dX0_goTo_0 : decode cX0_goTo 0 = .ok (.aload_n 0, 1) := by decide +kernel
theorem dX0_goTo_1 : decode cX0_goTo 1 = .ok (.iload_n 1, 1) := by decide +kernel
theorem dX0_goTo_2 : decode cX0_goTo 2 = .ok (.putfield 15, 3) := by decide +kernel
theorem dX0_goTo_5 : decode cX0_goTo 5 = .ok (.return_, 1) := by decide +kernel
set_option maxRecDepth 20000 in
theorem ggX0_setAt_X0_goTo : GoodIn wsX0_setAt wsX0_goTo := goodIn_r _ [5, 6, 20, 21, 22] (by decide +kernel) (by decide +kernel)
set_option maxRecDepth 20000 in
theorem gX0_setAt_X0_goTo : GoodIn wsX0_setAt (wsV RX0 22 RX0 yX0_goTo wsX0_goTo) := goodIn_app (goodIn_of _ (by decide +kernel)) ggX0_setAt_X0_goTo
set_option maxRecDepth 20000 in
theorem ggX0_setAt_X0_look : GoodIn wsX0_setAt wsX0_look := goodIn_r _ [10, 11, 6, 12, 13, 14, 15, 16, 17, 18, 19, 20, 21, 22, 23, 24, 25, 26] (by decide +kernel) (by decide +kernel)
set_option maxRecDepth 20000 in
theorem gX0_setAt_X0_look : GoodIn wsX0_setAt (wsV RX0 26 RX0 yX0_look wsX0_look) := goodIn_app (goodIn_of _ (by decide +kernel)) ggX0_setAt_X0_look
theorem dX0_setAt_0 : decode cX0_setAt 0 = .ok (.aload_n 0, 1) := by decide +kernel
theorem dX0_setAt_1 : decode cX0_setAt 1 = .ok (.iload_n 2, 1) := by decide +kernel
theorem dX0_setAt_2 : decode cX0_setAt 2 = .ok (.invokevirtual 22, 3) := by decide +kernel
theorem dX0_setAt_5 : decode cX0_setAt 5 = .ok (.aload_n 0, 1) := by decide +kernel
theorem dX0_setAt_6 : decode cX0_setAt 6 = .ok (.aload_n 1, 1) := by decide +kernel
theorem dX0_setAt_7 : decode cX0_setAt 7 = .ok (.invokevirtual 26, 3) := by decide +kernel
theorem dX0_setAt_10 : decode cX0_setAt 10 = .ok (.pop, 1) := by decide +kernel
theorem dX0_setAt_11 : decode cX0_setAt 11 = .ok (.return_, 1) := by decide +kernel
set_option maxRecDepth 20000 in
theorem ggX0_look_X4_at : GoodIn wsX0_look wsX4_at := goodIn_r _ [8, 9, 10, 14, 15, 16, 17] (by decide +kernel) (by decide +kernel)
set_option maxRecDepth 20000 in
theorem gX0_look_X4_at : GoodIn wsX0_look (wsV RX0 30 RX4 yX4_at wsX4_at) := goodIn_app (goodIn_of _ (by decide +kernel)) ggX0_look_X4_at
theorem dX0_look_0 : decode cX0_look 0 = .ok (.iconst 0, 1) := by decide +kernel
theorem dX0_look_1 : decode cX0_look 1 = .ok (.istore_n 2, 1) := by decide +kernel
theorem dX0_look_2 : decode cX0_look 2 = .ok (.iconst 0, 1) := by decide +kernel
theorem dX0_look_3 : decode cX0_look 3 = .ok (.istore_n 3, 1) := by decide +kernel
theorem dX0_look_4 : decode cX0_look 4 = .ok (.iload_n 3, 1) := by decide +kernel
theorem dX0_look_5 : decode cX0_look 5 = .ok (.aload_n 0, 1) := by decide +kernel
theorem dX0_look_6 : decode cX0_look 6 = .ok (.getfield 9, 3) := by decide +kernel
theorem dX0_look_9 : decode cX0_look 9 = .ok (.arraylength, 1) := by decide +kernel
theorem dX0_look_10 : decode cX0_look 10 = .ok (.if_icmp .ge 45, 3) := by decide +kernel
theorem dX0_look_13 : decode cX0_look 13 = .ok (.aload_n 1, 1) := by decide +kernel
theorem dX0_look_14 : decode cX0_look 14 = .ok (.aload_n 0, 1) := by decide +kernel
theorem dX0_look_15 : decode cX0_look 15 = .ok (.getfield 15, 3) := by decide +kernel
theorem dX0_look_18 : decode cX0_look 18 = .ok (.iload_n 3, 1) := by decide +kernel
theorem dX0_look_19 : decode cX0_look 19 = .ok (.iadd, 1) := by decide +kernel
theorem dX0_look_20 : decode cX0_look 20 = .ok (.iconst 2, 1) := by decide +kernel
theorem dX0_look_21 : decode cX0_look 21 = .ok (.isub, 1) := by decide +kernel
theorem dX0_look_22 : decode cX0_look 22 = .ok (.invokevirtual 30, 3) := by decide +kernel
theorem dX0_look_25 : decode cX0_look 25 = .ok (.istore 4, 2) := by decide +kernel
theorem dX0_look_27 : decode cX0_look 27 = .ok (.aload_n 0, 1) := by decide +kernel
theorem dX0_look_28 : decode cX0_look 28 = .ok (.getfield 9, 3) := by decide +kernel
theorem dX0_look_31 : decode cX0_look 31 = .ok (.iload_n 3, 1) := by decide +kernel
theorem dX0_look_32 : decode cX0_look 32 = .ok (.iaload, 1) := by decide +kernel
theorem dX0_look_33 : decode cX0_look 33 = .ok (.iload 4, 2) := by decide +kernel
theorem dX0_look_35 : decode cX0_look 35 = .ok (.if_icmp .eq 6, 3) := by decide +kernel
theorem dX0_look_38 : decode cX0_look 38 = .ok (.iinc 2 1, 3) := by decide +kernel
theorem dX0_look_41 : decode cX0_look 41 = .ok (.aload_n 0, 1) := by decide +kernel
theorem dX0_look_42 : decode cX0_look 42 = .ok (.getfield 9, 3) := by decide +kernel
theorem dX0_look_45 : decode cX0_look 45 = .ok (.iload_n 3, 1) := by decide +kernel
theorem dX0_look_46 : decode cX0_look 46 = .ok (.iload 4, 2) := by decide +kernel
theorem dX0_look_48 : decode cX0_look 48 = .ok (.iastore, 1) := by decide +kernel
theorem dX0_look_49 : decode cX0_look 49 = .ok (.iinc 3 1, 3) := by decide +kernel
theorem dX0_look_52 : decode cX0_look 52 = .ok (.goto (-48), 3) := by decide +kernel
theorem dX0_look_55 : decode cX0_look 55 = .ok (.aload_n 0, 1) := by decide +kernel
theorem dX0_look_56 : decode cX0_look 56 = .ok (.aload_n 0, 1) := by decide +kernel
theorem dX0_look_57 : decode cX0_look 57 = .ok (.getfield 15, 3) := by decide +kernel
theorem dX0_look_60 : decode cX0_look 60 = .ok (.putfield 19, 3) := by decide +kernel
theorem dX0_look_63 : decode cX0_look 63 = .ok (.iload_n 2, 1) := by decide +kernel
theorem dX0_look_64 : decode cX0_look 64 = .ok (.ireturn, 1) := by decide +kernel
set_option maxRecDepth 20000 in
theorem ggX0_followWord_X4_targetOf : GoodIn wsX0_followWord wsX4_targetOf := goodIn_r _ [6, 7, 11, 12, 13, 14] (by decide +kernel) (by decide +kernel)
set_option maxRecDepth 20000 in
theorem gX0_followWord_X4_targetOf : GoodIn wsX0_followWord (wsV RX0 36 RX4 yX4_targetOf wsX4_targetOf) := goodIn_app (goodIn_of _ (by decide +kernel)) ggX0_followWord_X4_targetOf
theorem dX0_followWord_0 : decode cX0_followWord 0 = .ok (.aload_n 0, 1) := by decide +kernel
theorem dX0_followWord_1 : decode cX0_followWord 1 = .ok (.aload_n 1, 1) := by decide +kernel
theorem dX0_followWord_2 : decode cX0_followWord 2 = .ok (.aload_n 0, 1) := by decide +kernel
theorem dX0_followWord_3 : decode cX0_followWord 3 = .ok (.getfield 19, 3) := by decide +kernel
theorem dX0_followWord_6 : decode cX0_followWord 6 = .ok (.invokevirtual 36, 3) := by decide +kernel
theorem dX0_followWord_9 : decode cX0_followWord 9 = .ok (.putfield 19, 3) := by decide +kernel
theorem dX0_followWord_12 : decode cX0_followWord 12 = .ok (.return_, 1) := by decide +kernel
set_option maxRecDepth 20000 in
theorem ggX0_copyFrom_X0_thing : GoodIn wsX0_copyFrom wsX0_thing := goodIn_r _ [8, 3, 9, 10, 11] (by decide +kernel) (by decide +kernel)
set_option maxRecDepth 20000 in
theorem gX0_copyFrom_X0_thing : GoodIn wsX0_copyFrom (wsV RX0 39 RX0 yX0_thing wsX0_thing) := goodIn_app (goodIn_of _ (by decide +kernel)) ggX0_copyFrom_X0_thing
theorem dX0_copyFrom_0 : decode cX0_copyFrom 0 = .ok (.aload_n 0, 1) := by decide +kernel
theorem dX0_copyFrom_1 : decode cX0_copyFrom 1 = .ok (.aload_n 1, 1) := by decide +kernel
theorem dX0_copyFrom_2 : decode cX0_copyFrom 2 = .ok (.getfield 15, 3) := by decide +kernel
theorem dX0_copyFrom_5 : decode cX0_copyFrom 5 = .ok (.putfield 15, 3) := by decide +kernel
theorem dX0_copyFrom_8 : decode cX0_copyFrom 8 = .ok (.aload_n 0, 1) := by decide +kernel
theorem dX0_copyFrom_9 : decode cX0_copyFrom 9 = .ok (.aload_n 1, 1) := by decide +kernel
theorem dX0_copyFrom_10 : decode cX0_copyFrom 10 = .ok (.getfield 19, 3) := by decide +kernel
theorem dX0_copyFrom_13 : decode cX0_copyFrom 13 = .ok (.putfield 19, 3) := by decide +kernel
theorem dX0_copyFrom_16 : decode cX0_copyFrom 16 = .ok (.iconst 0, 1) := by decide +kernel
theorem dX0_copyFrom_17 : decode cX0_copyFrom 17 = .ok (.istore_n 2, 1) := by decide +kernel
theorem dX0_copyFrom_18 : decode cX0_copyFrom 18 = .ok (.iload_n 2, 1) := by decide +kernel
theorem dX0_copyFrom_19 : decode cX0_copyFrom 19 = .ok (.aload_n 0, 1) := by decide +kernel
theorem dX0_copyFrom_20 : decode cX0_copyFrom 20 = .ok (.getfield 9, 3) := by decide +kernel
theorem dX0_copyFrom_23 : decode cX0_copyFrom 23 = .ok (.arraylength, 1) := by decide +kernel
theorem dX0_copyFrom_24 : decode cX0_copyFrom 24 = .ok (.if_icmp .ge 20, 3) := by decide +kernel
theorem dX0_copyFrom_27 : decode cX0_copyFrom 27 = .ok (.aload_n 0, 1) := by decide +kernel
theorem dX0_copyFrom_28 : decode cX0_copyFrom 28 = .ok (.getfield 9, 3) := by decide +kernel
theorem dX0_copyFrom_31 : decode cX0_copyFrom 31 = .ok (.iload_n 2, 1) := by decide +kernel
theorem dX0_copyFrom_32 : decode cX0_copyFrom 32 = .ok (.aload_n 1, 1) := by decide +kernel
theorem dX0_copyFrom_33 : decode cX0_copyFrom 33 = .ok (.iload_n 2, 1) := by decide +kernel
theorem dX0_copyFrom_34 : decode cX0_copyFrom 34 = .ok (.invokevirtual 39, 3) := by decide +kernel
theorem dX0_copyFrom_37 : decode cX0_copyFrom 37 = .ok (.iastore, 1) := by decide +kernel
theorem dX0_copyFrom_38 : decode cX0_copyFrom 38 = .ok (.iinc 2 1, 3) := by decide +kernel
theorem dX0_copyFrom_41 : decode cX0_copyFrom 41 = .ok (.goto (-23), 3) := by decide +kernel
theorem dX0_copyFrom_44 : decode cX0_copyFrom 44 = .ok (.return_, 1) := by decide +kernel
theorem dX1_init_0 : decode cX1_init 0 = .ok (.aload_n 0, 1) := by decide +kernel
theorem dX1_init_1 : decode cX1_init 1 = .ok (.invokespecial 3, 3) := by decide +kernel
theorem dX1_init_4 : decode cX1_init 4 = .ok (.aload_n 0, 1) := by decide +kernel
theorem dX1_init_5 : decode cX1_init 5 = .ok (.bipush 6, 2) := by decide +kernel
theorem dX1_init_7 : decode cX1_init 7 = .ok (.newarray .int, 2) := by decide +kernel
theorem dX1_init_9 : decode cX1_init 9 = .ok (.putfield 9, 3) := by decide +kernel
theorem dX1_init_12 : decode cX1_init 12 = .ok (.aload_n 0, 1) := by decide +kernel
theorem dX1_init_13 : decode cX1_init 13 = .ok (.bipush 6, 2) := by decide +kernel
theorem dX1_init_15 : decode cX1_init 15 = .ok (.newarray .int, 2) := by decide +kernel
theorem dX1_init_17 : decode cX1_init 17 = .ok (.putfield 15, 3) := by decide +kernel
theorem dX1_init_20 : decode cX1_init 20 = .ok (.return_, 1) := by decide +kernel
theorem dX1_membersOf_0 : decode cX1_membersOf 0 = .ok (.iload_n 1, 1) := by decide +kernel
theorem dX1_membersOf_1 : decode cX1_membersOf 1 = .ok (.ifCond .lt 29, 3) := by decide +kernel
theorem dX1_membersOf_4 : decode cX1_membersOf 4 = .ok (.iload_n 1, 1) := by decide +kernel
theorem dX1_membersOf_5 : decode cX1_membersOf 5 = .ok (.aload_n 0, 1) := by decide +kernel
theorem dX1_membersOf_6 : decode cX1_membersOf 6 = .ok (.getfield 18, 3) := by decide +kernel
theorem dX1_membersOf_9 : decode cX1_membersOf 9 = .ok (.if_icmp .ge 21, 3) := by decide +kernel
theorem dX1_membersOf_12 : decode cX1_membersOf 12 = .ok (.iload_n 1, 1) := by decide +kernel
theorem dX1_membersOf_13 : decode cX1_membersOf 13 = .ok (.aload_n 0, 1) := by decide +kernel
theorem dX1_membersOf_14 : decode cX1_membersOf 14 = .ok (.getfield 15, 3) := by decide +kernel
theorem dX1_membersOf_17 : decode cX1_membersOf 17 = .ok (.arraylength, 1) := by decide +kernel
theorem dX1_membersOf_18 : decode cX1_membersOf 18 = .ok (.if_icmp .ge 12, 3) := by decide +kernel
theorem dX1_membersOf_21 : decode cX1_membersOf 21 = .ok (.aload_n 0, 1) := by decide +kernel
theorem dX1_membersOf_22 : decode cX1_membersOf 22 = .ok (.getfield 15, 3) := by decide +kernel
theorem dX1_membersOf_25 : decode cX1_membersOf 25 = .ok (.iload_n 1, 1) := by decide +kernel
theorem dX1_membersOf_26 : decode cX1_membersOf 26 = .ok (.iaload, 1) := by decide +kernel
theorem dX1_membersOf_27 : decode cX1_membersOf 27 = .ok (.goto 4, 3) := by decide +kernel
theorem dX1_membersOf_30 : decode cX1_membersOf 30 = .ok (.iconst 0, 1) := by decide +kernel
theorem dX1_membersOf_31 : decode cX1_membersOf 31 = .ok (.ireturn, 1) := by decide +kernel
theorem dX1_shiftOf_0 : decode cX1_shiftOf 0 = .ok (.iload_n 1, 1) := by decide +kernel
theorem dX1_shiftOf_1 : decode cX1_shiftOf 1 = .ok (.ifCond .lt 29, 3) := by decide +kernel
theorem dX1_shiftOf_4 : decode cX1_shiftOf 4 = .ok (.iload_n 1, 1) := by decide +kernel
theorem dX1_shiftOf_5 : decode cX1_shiftOf 5 = .ok (.aload_n 0, 1) := by decide +kernel
theorem dX1_shiftOf_6 : decode cX1_shiftOf 6 = .ok (.getfield 18, 3) := by decide +kernel
theorem dX1_shiftOf_9 : decode cX1_shiftOf 9 = .ok (.if_icmp .ge 21, 3) := by decide +kernel
theorem dX1_shiftOf_12 : decode cX1_shiftOf 12 = .ok (.iload_n 1, 1) := by decide +kernel
theorem dX1_shiftOf_13 : decode cX1_shiftOf 13 = .ok (.aload_n 0, 1) := by decide +kernel
theorem dX1_shiftOf_14 : decode cX1_shiftOf 14 = .ok (.getfield 9, 3) := by decide +kernel
theorem dX1_shiftOf_17 : decode cX1_shiftOf 17 = .ok (.arraylength, 1) := by decide +kernel
theorem dX1_shiftOf_18 : decode cX1_shiftOf 18 = .ok (.if_icmp .ge 12, 3) := by decide +kernel
theorem dX1_shiftOf_21 : decode cX1_shiftOf 21 = .ok (.aload_n 0, 1) := by decide +kernel
theorem dX1_shiftOf_22 : decode cX1_shiftOf 22 = .ok (.getfield 9, 3) := by decide +kernel
theorem dX1_shiftOf_25 : decode cX1_shiftOf 25 = .ok (.iload_n 1, 1) := by decide +kernel
theorem dX1_shiftOf_26 : decode cX1_shiftOf 26 = .ok (.iaload, 1) := by decide +kernel
theorem dX1_shiftOf_27 : decode cX1_shiftOf 27 = .ok (.goto 4, 3) := by decide +kernel
theorem dX1_shiftOf_30 : decode cX1_shiftOf 30 = .ok (.iconst 0, 1) := by decide +kernel
theorem dX1_shiftOf_31 : decode cX1_shiftOf 31 = .ok (.ireturn, 1) := by decide +kernel
set_option maxRecDepth 20000 in
theorem ggX1_gather_X5_anchorCount : GoodIn wsX1_gather wsX5_anchorCount := goodIn_r _ [6, 7, 79, 80, 81, 82, 83] (by decide +kernel) (by decide +kernel)
set_option maxRecDepth 20000 in
theorem gX1_gather_X5_anchorCount : GoodIn wsX1_gather (wsV RX1 22 RX5 yX5_anchorCount wsX5_anchorCount) := goodIn_app (goodIn_of _ (by decide +kernel)) ggX1_gather_X5_anchorCount
set_option maxRecDepth 20000 in
theorem ggX1_gather_X5_anchorNumbered : GoodIn wsX1_gather wsX5_anchorNumbered := goodIn_r _ [11, 7, 12, 79, 80, 81, 82, 83] (by decide +kernel) (by decide +kernel)
set_option maxRecDepth 20000 in
theorem gX1_gather_X5_anchorNumbered : GoodIn wsX1_gather (wsV RX1 28 RX5 yX5_anchorNumbered wsX5_anchorNumbered) := goodIn_app (goodIn_of _ (by decide +kernel)) ggX1_gather_X5_anchorNumbered
set_option maxRecDepth 20000 in
theorem ggX1_gather_X5_shiftOf : GoodIn wsX1_gather wsX5_shiftOf := goodIn_r _ [16, 17, 18, 19, 5, 20, 21, 22, 23, 24, 25, 26, 27, 28, 29, 30, 31, 32, 33, 34, 35, 36, 37, 38, 39, 40, 41, 42, 43, 44, 45, 46, 47, 48, 49, 50, 51, 52, 53, 54, 55, 56, 57, 58, 59, 60, 61, 62, 63, 64, 79, 80, 81, 82, 83, 84, 85, 86, 87, 88, 89, 90] (by decide +kernel) (by decide +kernel)
set_option maxRecDepth 20000 in
theorem gX1_gather_X5_shiftOf : GoodIn wsX1_gather (wsV RX1 32 RX5 yX5_shiftOf wsX5_shiftOf) := goodIn_app (goodIn_of _ (by decide +kernel)) ggX1_gather_X5_shiftOf
set_option maxRecDepth 20000 in
theorem ggX1_gather_X1_enter : GoodIn wsX1_gather wsX1_enter := goodIn_r _ [69, 1, 70, 71, 72, 73, 74, 68, 75, 76, 77, 78] (by decide +kernel) (by decide +kernel)
set_option maxRecDepth 20000 in
theorem gX1_gather_X1_enter : GoodIn wsX1_gather (wsV RX1 36 RX1 yX1_enter wsX1_enter) := goodIn_app (goodIn_of _ (by decide +kernel)) ggX1_gather_X1_enter
theorem dX1_gather_0 : decode cX1_gather 0 = .ok (.aload_n 0, 1) := by decide +kernel
theorem dX1_gather_1 : decode cX1_gather 1 = .ok (.iconst 0, 1) := by decide +kernel
theorem dX1_gather_2 : decode cX1_gather 2 = .ok (.putfield 18, 3) := by decide +kernel
theorem dX1_gather_5 : decode cX1_gather 5 = .ok (.iconst 0, 1) := by decide +kernel
theorem dX1_gather_6 : decode cX1_gather 6 = .ok (.istore_n 2, 1) := by decide +kernel
theorem dX1_gather_7 : decode cX1_gather 7 = .ok (.iload_n 2, 1) := by decide +kernel
theorem dX1_gather_8 : decode cX1_gather 8 = .ok (.aload_n 1, 1) := by decide +kernel
theorem dX1_gather_9 : decode cX1_gather 9 = .ok (.invokevirtual 22, 3) := by decide +kernel
theorem dX1_gather_12 : decode cX1_gather 12 = .ok (.if_icmp .ge 29, 3) := by decide +kernel
theorem dX1_gather_15 : decode cX1_gather 15 = .ok (.aload_n 1, 1) := by decide +kernel
theorem dX1_gather_16 : decode cX1_gather 16 = .ok (.aload_n 1, 1) := by decide +kernel
theorem dX1_gather_17 : decode cX1_gather 17 = .ok (.iload_n 2, 1) := by decide +kernel
theorem dX1_gather_18 : decode cX1_gather 18 = .ok (.invokevirtual 28, 3) := by decide +kernel
theorem dX1_gather_21 : decode cX1_gather 21 = .ok (.invokevirtual 32, 3) := by decide +kernel
theorem dX1_gather_24 : decode cX1_gather 24 = .ok (.istore_n 3, 1) := by decide +kernel
theorem dX1_gather_25 : decode cX1_gather 25 = .ok (.iload_n 3, 1) := by decide +kernel
theorem dX1_gather_26 : decode cX1_gather 26 = .ok (.ifCond .eq 9, 3) := by decide +kernel
theorem dX1_gather_29 : decode cX1_gather 29 = .ok (.aload_n 0, 1) := by decide +kernel
theorem dX1_gather_30 : decode cX1_gather 30 = .ok (.iload_n 2, 1) := by decide +kernel
theorem dX1_gather_31 : decode cX1_gather 31 = .ok (.iload_n 3, 1) := by decide +kernel
theorem dX1_gather_32 : decode cX1_gather 32 = .ok (.invokevirtual 36, 3) := by decide +kernel
theorem dX1_gather_35 : decode cX1_gather 35 = .ok (.iinc 2 1, 3) := by decide +kernel
theorem dX1_gather_38 : decode cX1_gather 38 = .ok (.goto (-31), 3) := by decide +kernel
theorem dX1_gather_41 : decode cX1_gather 41 = .ok (.return_, 1) := by decide +kernel
set_option maxRecDepth 20000 in
theorem ggX1_enter_X1_shiftOf : GoodIn wsX1_enter wsX1_shiftOf := goodIn_r _ [8, 1, 2, 9, 10, 11] (by decide +kernel) (by decide +kernel)
set_option maxRecDepth 20000 in
theorem gX1_enter_X1_shiftOf : GoodIn wsX1_enter (wsV RX1 40 RX1 yX1_shiftOf wsX1_shiftOf) := goodIn_app (goodIn_of _ (by decide +kernel)) ggX1_enter_X1_shiftOf
theorem dX1_enter_0 : decode cX1_enter 0 = .ok (.iconst 0, 1) := by decide +kernel
theorem dX1_enter_1 : decode cX1_enter 1 = .ok (.istore_n 3, 1) := by decide +kernel
theorem dX1_enter_2 : decode cX1_enter 2 = .ok (.iload_n 3, 1) := by decide +kernel
theorem dX1_enter_3 : decode cX1_enter 3 = .ok (.aload_n 0, 1) := by decide +kernel
theorem dX1_enter_4 : decode cX1_enter 4 = .ok (.getfield 18, 3) := by decide +kernel
theorem dX1_enter_7 : decode cX1_enter 7 = .ok (.if_icmp .ge 18, 3) := by decide +kernel
theorem dX1_enter_10 : decode cX1_enter 10 = .ok (.aload_n 0, 1) := by decide +kernel
theorem dX1_enter_11 : decode cX1_enter 11 = .ok (.iload_n 3, 1) := by decide +kernel
theorem dX1_enter_12 : decode cX1_enter 12 = .ok (.invokevirtual 40, 3) := by decide +kernel
theorem dX1_enter_15 : decode cX1_enter 15 = .ok (.iload_n 2, 1) := by decide +kernel
theorem dX1_enter_16 : decode cX1_enter 16 = .ok (.if_icmp .eq 9, 3) := by decide +kernel
theorem dX1_enter_19 : decode cX1_enter 19 = .ok (.iinc 3 1, 3) := by decide +kernel
theorem dX1_enter_22 : decode cX1_enter 22 = .ok (.goto (-20), 3) := by decide +kernel
theorem dX1_enter_25 : decode cX1_enter 25 = .ok (.iload_n 3, 1) := by decide +kernel
theorem dX1_enter_26 : decode cX1_enter 26 = .ok (.aload_n 0, 1) := by decide +kernel
theorem dX1_enter_27 : decode cX1_enter 27 = .ok (.getfield 9, 3) := by decide +kernel
theorem dX1_enter_30 : decode cX1_enter 30 = .ok (.arraylength, 1) := by decide +kernel
theorem dX1_enter_31 : decode cX1_enter 31 = .ok (.if_icmp .lt 4, 3) := by decide +kernel
theorem dX1_enter_34 : decode cX1_enter 34 = .ok (.return_, 1) := by decide +kernel
theorem dX1_enter_35 : decode cX1_enter 35 = .ok (.iload_n 3, 1) := by decide +kernel
theorem dX1_enter_36 : decode cX1_enter 36 = .ok (.aload_n 0, 1) := by decide +kernel
theorem dX1_enter_37 : decode cX1_enter 37 = .ok (.getfield 18, 3) := by decide +kernel
theorem dX1_enter_40 : decode cX1_enter 40 = .ok (.if_icmp .ne 27, 3) := by decide +kernel
theorem dX1_enter_43 : decode cX1_enter 43 = .ok (.aload_n 0, 1) := by decide +kernel
theorem dX1_enter_44 : decode cX1_enter 44 = .ok (.getfield 9, 3) := by decide +kernel
theorem dX1_enter_47 : decode cX1_enter 47 = .ok (.iload_n 3, 1) := by decide +kernel
theorem dX1_enter_48 : decode cX1_enter 48 = .ok (.iload_n 2, 1) := by decide +kernel
theorem dX1_enter_49 : decode cX1_enter 49 = .ok (.iastore, 1) := by decide +kernel
theorem dX1_enter_50 : decode cX1_enter 50 = .ok (.aload_n 0, 1) := by decide +kernel
theorem dX1_enter_51 : decode cX1_enter 51 = .ok (.getfield 15, 3) := by decide +kernel
theorem dX1_enter_54 : decode cX1_enter 54 = .ok (.iload_n 3, 1) := by decide +kernel
theorem dX1_enter_55 : decode cX1_enter 55 = .ok (.iconst 0, 1) := by decide +kernel
theorem dX1_enter_56 : decode cX1_enter 56 = .ok (.iastore, 1) := by decide +kernel
theorem dX1_enter_57 : decode cX1_enter 57 = .ok (.aload_n 0, 1) := by decide +kernel
theorem dX1_enter_58 : decode cX1_enter 58 = .ok (.dup, 1) := by decide +kernel
theorem dX1_enter_59 : decode cX1_enter 59 = .ok (.getfield 18, 3) := by decide +kernel
theorem dX1_enter_62 : decode cX1_enter 62 = .ok (.iconst 1, 1) := by decide +kernel
theorem dX1_enter_63 : decode cX1_enter 63 = .ok (.iadd, 1) := by decide +kernel
theorem dX1_enter_64 : decode cX1_enter 64 = .ok (.putfield 18, 3) := by decide +kernel
theorem dX1_enter_67 : decode cX1_enter 67 = .ok (.aload_n 0, 1) := by decide +kernel
theorem dX1_enter_68 : decode cX1_enter 68 = .ok (.getfield 15, 3) := by decide +kernel
theorem dX1_enter_71 : decode cX1_enter 71 = .ok (.iload_n 3, 1) := by decide +kernel
theorem dX1_enter_72 : decode cX1_enter 72 = .ok (.dup2, 1) := by decide +kernel
theorem dX1_enter_73 : decode cX1_enter 73 = .ok (.iaload, 1) := by decide +kernel
theorem dX1_enter_74 : decode cX1_enter 74 = .ok (.iconst 1, 1) := by decide +kernel
theorem dX1_enter_75 : decode cX1_enter 75 = .ok (.iload_n 1, 1) := by decide +kernel
theorem dX1_enter_76 : decode cX1_enter 76 = .ok (.ishl, 1) := by decide +kernel
theorem dX1_enter_77 : decode cX1_enter 77 = .ok (.ior, 1) := by decide +kernel
theorem dX1_enter_78 : decode cX1_enter 78 = .ok (.iastore, 1) := by decide +kernel
theorem dX1_enter_79 : decode cX1_enter 79 = .ok (.return_, 1) := by decide +kernel
set_option maxRecDepth 20000 in
theorem ggX1_inOrder_X1_blocksAheadOf : GoodIn wsX1_inOrder wsX1_blocksAheadOf := goodIn_r _ [6, 1, 7, 8, 9, 5, 10, 11, 12, 13, 14, 15, 16, 17, 18, 19, 20, 21, 22, 23, 24, 25, 26, 27, 28, 29, 30] (by decide +kernel) (by decide +kernel)
set_option maxRecDepth 20000 in
theorem gX1_inOrder_X1_blocksAheadOf : GoodIn wsX1_inOrder (wsV RX1 43 RX1 yX1_blocksAheadOf wsX1_blocksAheadOf) := goodIn_app (goodIn_of _ (by decide +kernel)) ggX1_inOrder_X1_blocksAheadOf
theorem dX1_inOrder_0 : decode cX1_inOrder 0 = .ok (.iconst 0, 1) := by decide +kernel
theorem dX1_inOrder_1 : decode cX1_inOrder 1 = .ok (.istore_n 2, 1) := by decide +kernel
theorem dX1_inOrder_2 : decode cX1_inOrder 2 = .ok (.iload_n 2, 1) := by decide +kernel
theorem dX1_inOrder_3 : decode cX1_inOrder 3 = .ok (.aload_n 0, 1) := by decide +kernel
theorem dX1_inOrder_4 : decode cX1_inOrder 4 = .ok (.getfield 18, 3) := by decide +kernel
theorem dX1_inOrder_7 : decode cX1_inOrder 7 = .ok (.if_icmp .ge 20, 3) := by decide +kernel
theorem dX1_inOrder_10 : decode cX1_inOrder 10 = .ok (.aload_n 0, 1) := by decide +kernel
theorem dX1_inOrder_11 : decode cX1_inOrder 11 = .ok (.iload_n 2, 1) := by decide +kernel
theorem dX1_inOrder_12 : decode cX1_inOrder 12 = .ok (.invokevirtual 43, 3) := by decide +kernel
theorem dX1_inOrder_15 : decode cX1_inOrder 15 = .ok (.iload_n 1, 1) := by decide +kernel
theorem dX1_inOrder_16 : decode cX1_inOrder 16 = .ok (.if_icmp .ne 5, 3) := by decide +kernel
theorem dX1_inOrder_19 : decode cX1_inOrder 19 = .ok (.iload_n 2, 1) := by decide +kernel
theorem dX1_inOrder_20 : decode cX1_inOrder 20 = .ok (.ireturn, 1) := by decide +kernel
theorem dX1_inOrder_21 : decode cX1_inOrder 21 = .ok (.iinc 2 1, 3) := by decide +kernel
theorem dX1_inOrder_24 : decode cX1_inOrder 24 = .ok (.goto (-22), 3) := by decide +kernel
theorem dX1_inOrder_27 : decode cX1_inOrder 27 = .ok (.iconst (-1), 1) := by decide +kernel
theorem dX1_inOrder_28 : decode cX1_inOrder 28 = .ok (.ireturn, 1) := by decide +kernel
set_option maxRecDepth 20000 in
theorem ggX1_blocksAheadOf_X1_isAhead : GoodIn wsX1_blocksAheadOf wsX1_isAhead := goodIn_r _ [6, 7, 8, 9, 5, 10, 1, 11, 12, 13, 14, 15, 16, 17, 18, 19, 20, 21, 22, 23, 24, 25, 26] (by decide +kernel) (by decide +kernel)
set_option maxRecDepth 20000 in
theorem gX1_blocksAheadOf_X1_isAhead : GoodIn wsX1_blocksAheadOf (wsV RX1 46 RX1 yX1_isAhead wsX1_isAhead) := goodIn_app (goodIn_of _ (by decide +kernel)) ggX1_blocksAheadOf_X1_isAhead
theorem dX1_blocksAheadOf_0 : decode cX1_blocksAheadOf 0 = .ok (.iconst 0, 1) := by decide +kernel
theorem dX1_blocksAheadOf_1 : decode cX1_blocksAheadOf 1 = .ok (.istore_n 2, 1) := by decide +kernel
theorem dX1_blocksAheadOf_2 : decode cX1_blocksAheadOf 2 = .ok (.iconst 0, 1) := by decide +kernel
theorem dX1_blocksAheadOf_3 : decode cX1_blocksAheadOf 3 = .ok (.istore_n 3, 1) := by decide +kernel
theorem dX1_blocksAheadOf_4 : decode cX1_blocksAheadOf 4 = .ok (.iload_n 3, 1) := by decide +kernel
theorem dX1_blocksAheadOf_5 : decode cX1_blocksAheadOf 5 = .ok (.aload_n 0, 1) := by decide +kernel
theorem dX1_blocksAheadOf_6 : decode cX1_blocksAheadOf 6 = .ok (.getfield 18, 3) := by decide +kernel
theorem dX1_blocksAheadOf_9 : decode cX1_blocksAheadOf 9 = .ok (.if_icmp .ge 21, 3) := by decide +kernel
theorem dX1_blocksAheadOf_12 : decode cX1_blocksAheadOf 12 = .ok (.aload_n 0, 1) := by decide +kernel
theorem dX1_blocksAheadOf_13 : decode cX1_blocksAheadOf 13 = .ok (.iload_n 3, 1) := by decide +kernel
theorem dX1_blocksAheadOf_14 : decode cX1_blocksAheadOf 14 = .ok (.iload_n 1, 1) := by decide +kernel
theorem dX1_blocksAheadOf_15 : decode cX1_blocksAheadOf 15 = .ok (.invokevirtual 46, 3) := by decide +kernel
theorem dX1_blocksAheadOf_18 : decode cX1_blocksAheadOf 18 = .ok (.ifCond .eq 6, 3) := by decide +kernel
theorem dX1_blocksAheadOf_21 : decode cX1_blocksAheadOf 21 = .ok (.iinc 2 1, 3) := by decide +kernel
theorem dX1_blocksAheadOf_24 : decode cX1_blocksAheadOf 24 = .ok (.iinc 3 1, 3) := by decide +kernel
theorem dX1_blocksAheadOf_27 : decode cX1_blocksAheadOf 27 = .ok (.goto (-23), 3) := by decide +kernel
theorem dX1_blocksAheadOf_30 : decode cX1_blocksAheadOf 30 = .ok (.iload_n 2, 1) := by decide +kernel
theorem dX1_blocksAheadOf_31 : decode cX1_blocksAheadOf 31 = .ok (.ireturn, 1) := by decide +kernel
set_option maxRecDepth 20000 in
theorem ggX1_isAhead_X1_membersOf : GoodIn wsX1_isAhead wsX1_membersOf := goodIn_r _ [5, 6, 7, 20, 21, 22] (by decide +kernel) (by decide +kernel)
set_option maxRecDepth 20000 in
theorem gX1_isAhead_X1_membersOf : GoodIn wsX1_isAhead (wsV RX1 50 RX1 yX1_membersOf wsX1_membersOf) := goodIn_app (goodIn_of _ (by decide +kernel)) ggX1_isAhead_X1_membersOf
set_option maxRecDepth 20000 in
theorem ggX1_isAhead_J6_bitCount_0f7a4 : GoodIn wsX1_isAhead wsJ6_bitCount_0f7a4 := goodIn_r _ [11, 12, 13, 14] (by decide +kernel) (by decide +kernel)
set_option maxRecDepth 20000 in
theorem gX1_isAhead_J6_bitCount_0f7a4 : GoodIn wsX1_isAhead (va_wsS RX1 53 yJ6_bitCount_0f7a4 wsJ6_bitCount_0f7a4) := goodIn_app (goodIn_of _ (by decide +kernel)) ggX1_isAhead_J6_bitCount_0f7a4
set_option maxRecDepth 20000 in
theorem ggX1_isAhead_X1_shiftOf : GoodIn wsX1_isAhead wsX1_shiftOf := goodIn_r _ [18, 6, 19, 20, 21, 22] (by decide +kernel) (by decide +kernel)
set_option maxRecDepth 20000 in
theorem gX1_isAhead_X1_shiftOf : GoodIn wsX1_isAhead (wsV RX1 40 RX1 yX1_shiftOf wsX1_shiftOf) := goodIn_app (goodIn_of _ (by decide +kernel)) ggX1_isAhead_X1_shiftOf
theorem dX1_isAhead_0 : decode cX1_isAhead 0 = .ok (.aload_n 0, 1) := by decide +kernel
theorem dX1_isAhead_1 : decode cX1_isAhead 1 = .ok (.iload_n 1, 1) := by decide +kernel
theorem dX1_isAhead_2 : decode cX1_isAhead 2 = .ok (.invokevirtual 50, 3) := by decide +kernel
theorem dX1_isAhead_5 : decode cX1_isAhead 5 = .ok (.invokestatic 53, 3) := by decide +kernel
theorem dX1_isAhead_8 : decode cX1_isAhead 8 = .ok (.aload_n 0, 1) := by decide +kernel
theorem dX1_isAhead_9 : decode cX1_isAhead 9 = .ok (.iload_n 2, 1) := by decide +kernel
theorem dX1_isAhead_10 : decode cX1_isAhead 10 = .ok (.invokevirtual 50, 3) := by decide +kernel
theorem dX1_isAhead_13 : decode cX1_isAhead 13 = .ok (.invokestatic 53, 3) := by decide +kernel
theorem dX1_isAhead_16 : decode cX1_isAhead 16 = .ok (.isub, 1) := by decide +kernel
theorem dX1_isAhead_17 : decode cX1_isAhead 17 = .ok (.istore_n 3, 1) := by decide +kernel
theorem dX1_isAhead_18 : decode cX1_isAhead 18 = .ok (.iload_n 3, 1) := by decide +kernel
theorem dX1_isAhead_19 : decode cX1_isAhead 19 = .ok (.ifCond .gt 20, 3) := by decide +kernel
theorem dX1_isAhead_22 : decode cX1_isAhead 22 = .ok (.iload_n 3, 1) := by decide +kernel
theorem dX1_isAhead_23 : decode cX1_isAhead 23 = .ok (.ifCond .ne 20, 3) := by decide +kernel
theorem dX1_isAhead_26 : decode cX1_isAhead 26 = .ok (.aload_n 0, 1) := by decide +kernel
theorem dX1_isAhead_27 : decode cX1_isAhead 27 = .ok (.iload_n 1, 1) := by decide +kernel
theorem dX1_isAhead_28 : decode cX1_isAhead 28 = .ok (.invokevirtual 40, 3) := by decide +kernel
theorem dX1_isAhead_31 : decode cX1_isAhead 31 = .ok (.aload_n 0, 1) := by decide +kernel
theorem dX1_isAhead_32 : decode cX1_isAhead 32 = .ok (.iload_n 2, 1) := by decide +kernel
theorem dX1_isAhead_33 : decode cX1_isAhead 33 = .ok (.invokevirtual 40, 3) := by decide +kernel
theorem dX1_isAhead_36 : decode cX1_isAhead 36 = .ok (.if_icmp .ge 7, 3) := by decide +kernel
theorem dX1_isAhead_39 : decode cX1_isAhead 39 = .ok (.iconst 1, 1) := by decide +kernel
theorem dX1_isAhead_40 : decode cX1_isAhead 40 = .ok (.goto 4, 3) := by decide +kernel
theorem dX1_isAhead_43 : decode cX1_isAhead 43 = .ok (.iconst 0, 1) := by decide +kernel
theorem dX1_isAhead_44 : decode cX1_isAhead 44 = .ok (.ireturn, 1) := by decide +kernel
theorem dX2_init_0 : decode cX2_init 0 = .ok (.aload_n 0, 1) := by decide +kernel
theorem dX2_init_1 : decode cX2_init 1 = .ok (.invokespecial 3, 3) := by decide +kernel
theorem dX2_init_4 : decode cX2_init 4 = .ok (.aload_n 0, 1) := by decide +kernel
theorem dX2_init_5 : decode cX2_init 5 = .ok (.bipush 60, 2) := by decide +kernel
theorem dX2_init_7 : decode cX2_init 7 = .ok (.newarray .char, 2) := by decide +kernel
theorem dX2_init_9 : decode cX2_init 9 = .ok (.putfield 9, 3) := by decide +kernel
theorem dX2_init_12 : decode cX2_init 12 = .ok (.aload_n 0, 1) := by decide +kernel
theorem dX2_init_13 : decode cX2_init 13 = .ok (.iconst 3, 1) := by decide +kernel
theorem dX2_init_14 : decode cX2_init 14 = .ok (.newarray .int, 2) := by decide +kernel
theorem dX2_init_16 : decode cX2_init 16 = .ok (.putfield 15, 3) := by decide +kernel
theorem dX2_init_19 : decode cX2_init 19 = .ok (.return_, 1) := by decide +kernel
theorem dX2_length_0 : decode cX2_length 0 = .ok (.aload_n 0, 1) := by decide +kernel
theorem dX2_length_1 : decode cX2_length 1 = .ok (.getfield 19, 3) := by decide +kernel
theorem dX2_length_4 : decode cX2_length 4 = .ok (.ireturn, 1) := by decide +kernel
theorem dX2_isFull_0 : decode cX2_isFull 0 = .ok (.aload_n 0, 1) := by decide +kernel
theorem dX2_isFull_1 : decode cX2_isFull 1 = .ok (.getfield 19, 3) := by decide +kernel
theorem dX2_isFull_4 : decode cX2_isFull 4 = .ok (.aload_n 0, 1) := by decide +kernel
theorem dX2_isFull_5 : decode cX2_isFull 5 = .ok (.getfield 9, 3) := by decide +kernel
theorem dX2_isFull_8 : decode cX2_isFull 8 = .ok (.arraylength, 1) := by decide +kernel
theorem dX2_isFull_9 : decode cX2_isFull 9 = .ok (.if_icmp .lt 7, 3) := by decide +kernel
theorem dX2_isFull_12 : decode cX2_isFull 12 = .ok (.iconst 1, 1) := by decide +kernel
theorem dX2_isFull_13 : decode cX2_isFull 13 = .ok (.goto 4, 3) := by decide +kernel
theorem dX2_isFull_16 : decode cX2_isFull 16 = .ok (.iconst 0, 1) := by decide +kernel
theorem dX2_isFull_17 : decode cX2_isFull 17 = .ok (.ireturn, 1) := by decide +kernel
theorem dX2_append_0 : decode cX2_append 0 = .ok (.aload_n 0, 1) := by decide +kernel
theorem dX2_append_1 : decode cX2_append 1 = .ok (.getfield 19, 3) := by decide +kernel
theorem dX2_append_4 : decode cX2_append 4 = .ok (.ifCond .lt 35, 3) := by decide +kernel
theorem dX2_append_7 : decode cX2_append 7 = .ok (.aload_n 0, 1) := by decide +kernel
theorem dX2_append_8 : decode cX2_append 8 = .ok (.getfield 19, 3) := by decide +kernel
theorem dX2_append_11 : decode cX2_append 11 = .ok (.aload_n 0, 1) := by decide +kernel
theorem dX2_append_12 : decode cX2_append 12 = .ok (.getfield 9, 3) := by decide +kernel
theorem dX2_append_15 : decode cX2_append 15 = .ok (.arraylength, 1) := by decide +kernel
theorem dX2_append_16 : decode cX2_append 16 = .ok (.if_icmp .ge 23, 3) := by decide +kernel
theorem dX2_append_19 : decode cX2_append 19 = .ok (.aload_n 0, 1) := by decide +kernel
theorem dX2_append_20 : decode cX2_append 20 = .ok (.getfield 9, 3) := by decide +kernel
theorem dX2_append_23 : decode cX2_append 23 = .ok (.aload_n 0, 1) := by decide +kernel
theorem dX2_append_24 : decode cX2_append 24 = .ok (.getfield 19, 3) := by decide +kernel
theorem dX2_append_27 : decode cX2_append 27 = .ok (.iload_n 1, 1) := by decide +kernel
theorem dX2_append_28 : decode cX2_append 28 = .ok (.castore, 1) := by decide +kernel
theorem dX2_append_29 : decode cX2_append 29 = .ok (.aload_n 0, 1) := by decide +kernel
theorem dX2_append_30 : decode cX2_append 30 = .ok (.dup, 1) := by decide +kernel
theorem dX2_append_31 : decode cX2_append 31 = .ok (.getfield 19, 3) := by decide +kernel
theorem dX2_append_34 : decode cX2_append 34 = .ok (.iconst 1, 1) := by decide +kernel
theorem dX2_append_35 : decode cX2_append 35 = .ok (.iadd, 1) := by decide +kernel
theorem dX2_append_36 : decode cX2_append 36 = .ok (.putfield 19, 3) := by decide +kernel
theorem dX2_append_39 : decode cX2_append 39 = .ok (.return_, 1) := by decide +kernel
theorem dX2_empty_0 : decode cX2_empty 0 = .ok (.aload_n 0, 1) := by decide +kernel
theorem dX2_empty_1 : decode cX2_empty 1 = .ok (.iconst 0, 1) := by decide +kernel
theorem dX2_empty_2 : decode cX2_empty 2 = .ok (.putfield 19, 3) := by decide +kernel
theorem dX2_empty_5 : decode cX2_empty 5 = .ok (.return_, 1) := by decide +kernel
theorem dX2_rewind_0 : decode cX2_rewind 0 = .ok (.aload_n 0, 1) := by decide +kernel
theorem dX2_rewind_1 : decode cX2_rewind 1 = .ok (.iconst 0, 1) := by decide +kernel
theorem dX2_rewind_2 : decode cX2_rewind 2 = .ok (.putfield 23, 3) := by decide +kernel
theorem dX2_rewind_5 : decode cX2_rewind 5 = .ok (.return_, 1) := by decide +kernel
theorem dX2_hasMore_0 : decode cX2_hasMore 0 = .ok (.aload_n 0, 1) := by decide +kernel
theorem dX2_hasMore_1 : decode cX2_hasMore 1 = .ok (.getfield 23, 3) := by decide +kernel
theorem dX2_hasMore_4 : decode cX2_hasMore 4 = .ok (.aload_n 0, 1) := by decide +kernel
theorem dX2_hasMore_5 : decode cX2_hasMore 5 = .ok (.getfield 19, 3) := by decide +kernel
theorem dX2_hasMore_8 : decode cX2_hasMore 8 = .ok (.if_icmp .ge 7, 3) := by decide +kernel
theorem dX2_hasMore_11 : decode cX2_hasMore 11 = .ok (.iconst 1, 1) := by decide +kernel
theorem dX2_hasMore_12 : decode cX2_hasMore 12 = .ok (.goto 4, 3) := by decide +kernel
theorem dX2_hasMore_15 : decode cX2_hasMore 15 = .ok (.iconst 0, 1) := by decide +kernel
theorem dX2_hasMore_16 : decode cX2_hasMore 16 = .ok (.ireturn, 1) := by decide +kernel
theorem dX2_editStart_0 : decode cX2_editStart 0 = .ok (.aload_n 0, 1) := by decide +kernel
theorem dX2_editStart_1 : decode cX2_editStart 1 = .ok (.getfield 26, 3) := by decide +kernel
theorem dX2_editStart_4 : decode cX2_editStart 4 = .ok (.ireturn, 1) := by decide +kernel
theorem dX2_sign_0 : decode cX2_sign 0 = .ok (.aload_n 0, 1) := by decide +kernel
theorem dX2_sign_1 : decode cX2_sign 1 = .ok (.getfield 29, 3) := by decide +kernel
theorem dX2_sign_4 : decode cX2_sign 4 = .ok (.ireturn, 1) := by decide +kernel
theorem dX2_number_0 : decode cX2_number 0 = .ok (.iload_n 1, 1) := by decide +kernel
theorem dX2_number_1 : decode cX2_number 1 = .ok (.ifCond .lt 21, 3) := by decide +kernel
theorem dX2_number_4 : decode cX2_number 4 = .ok (.iload_n 1, 1) := by decide +kernel
theorem dX2_number_5 : decode cX2_number 5 = .ok (.aload_n 0, 1) := by decide +kernel
theorem dX2_number_6 : decode cX2_number 6 = .ok (.getfield 15, 3) := by decide +kernel
theorem dX2_number_9 : decode cX2_number 9 = .ok (.arraylength, 1) := by decide +kernel
theorem dX2_number_10 : decode cX2_number 10 = .ok (.if_icmp .ge 12, 3) := by decide +kernel
theorem dX2_number_13 : decode cX2_number 13 = .ok (.aload_n 0, 1) := by decide +kernel
theorem dX2_number_14 : decode cX2_number 14 = .ok (.getfield 15, 3) := by decide +kernel
theorem dX2_number_17 : decode cX2_number 17 = .ok (.iload_n 1, 1) := by decide +kernel
theorem dX2_number_18 : decode cX2_number 18 = .ok (.iaload, 1) := by decide +kernel
theorem dX2_number_19 : decode cX2_number 19 = .ok (.goto 4, 3) := by decide +kernel
theorem dX2_number_22 : decode cX2_number 22 = .ok (.iconst 0, 1) := by decide +kernel
theorem dX2_number_23 : decode cX2_number 23 = .ok (.ireturn, 1) := by decide +kernel
set_option maxRecDepth 20000 in
theorem ggX2_readEdit_X2_nextCharacter : GoodIn wsX2_readEdit wsX2_nextCharacter := goodIn_r _ [8, 1, 9, 10, 26, 27, 28, 29, 30, 31] (by decide +kernel) (by decide +kernel)
set_option maxRecDepth 20000 in
theorem gX2_readEdit_X2_nextCharacter : GoodIn wsX2_readEdit (wsV RX2 33 RX2 yX2_nextCharacter wsX2_nextCharacter) := goodIn_app (goodIn_of _ (by decide +kernel)) ggX2_readEdit_X2_nextCharacter
set_option maxRecDepth 20000 in
theorem ggX2_readEdit_X2_numbersBehind : GoodIn wsX2_readEdit wsX2_numbersBehind := goodIn_r _ [13] (by decide +kernel) (by decide +kernel)
set_option maxRecDepth 20000 in
theorem gX2_readEdit_X2_numbersBehind : GoodIn wsX2_readEdit (va_wsS RX2 37 yX2_numbersBehind wsX2_numbersBehind) := goodIn_app (goodIn_of _ (by decide +kernel)) ggX2_readEdit_X2_numbersBehind
set_option maxRecDepth 20000 in
theorem ggX2_readEdit_X2_readSign : GoodIn wsX2_readEdit wsX2_readSign := goodIn_r _ [17, 1, 4, 5, 6, 7, 8, 9, 10, 26, 27, 28, 29, 30, 31] (by decide +kernel) (by decide +kernel)
set_option maxRecDepth 20000 in
theorem gX2_readEdit_X2_readSign : GoodIn wsX2_readEdit (wsV RX2 41 RX2 yX2_readSign wsX2_readSign) := goodIn_app (goodIn_of _ (by decide +kernel)) ggX2_readEdit_X2_readSign
set_option maxRecDepth 20000 in
theorem ggX2_readEdit_X2_readNumber : GoodIn wsX2_readEdit wsX2_readNumber := goodIn_r _ [21, 1, 22, 4, 5, 6, 7, 8, 9, 10, 23, 24, 25, 26, 27, 28, 29, 30, 31] (by decide +kernel) (by decide +kernel)
set_option maxRecDepth 20000 in
theorem gX2_readEdit_X2_readNumber : GoodIn wsX2_readEdit (wsV RX2 45 RX2 yX2_readNumber wsX2_readNumber) := goodIn_app (goodIn_of _ (by decide +kernel)) ggX2_readEdit_X2_readNumber
theorem dX2_readEdit_0 : decode cX2_readEdit 0 = .ok (.aload_n 0, 1) := by decide +kernel
theorem dX2_readEdit_1 : decode cX2_readEdit 1 = .ok (.aload_n 0, 1) := by decide +kernel
theorem dX2_readEdit_2 : decode cX2_readEdit 2 = .ok (.getfield 23, 3) := by decide +kernel
theorem dX2_readEdit_5 : decode cX2_readEdit 5 = .ok (.putfield 26, 3) := by decide +kernel
theorem dX2_readEdit_8 : decode cX2_readEdit 8 = .ok (.aload_n 0, 1) := by decide +kernel
theorem dX2_readEdit_9 : decode cX2_readEdit 9 = .ok (.aload_n 0, 1) := by decide +kernel
theorem dX2_readEdit_10 : decode cX2_readEdit 10 = .ok (.invokevirtual 33, 3) := by decide +kernel
theorem dX2_readEdit_13 : decode cX2_readEdit 13 = .ok (.putfield 29, 3) := by decide +kernel
theorem dX2_readEdit_16 : decode cX2_readEdit 16 = .ok (.aload_n 0, 1) := by decide +kernel
theorem dX2_readEdit_17 : decode cX2_readEdit 17 = .ok (.dup, 1) := by decide +kernel
theorem dX2_readEdit_18 : decode cX2_readEdit 18 = .ok (.getfield 23, 3) := by decide +kernel
theorem dX2_readEdit_21 : decode cX2_readEdit 21 = .ok (.iconst 1, 1) := by decide +kernel
theorem dX2_readEdit_22 : decode cX2_readEdit 22 = .ok (.iadd, 1) := by decide +kernel
theorem dX2_readEdit_23 : decode cX2_readEdit 23 = .ok (.putfield 23, 3) := by decide +kernel
theorem dX2_readEdit_26 : decode cX2_readEdit 26 = .ok (.aload_n 0, 1) := by decide +kernel
theorem dX2_readEdit_27 : decode cX2_readEdit 27 = .ok (.getfield 29, 3) := by decide +kernel
theorem dX2_readEdit_30 : decode cX2_readEdit 30 = .ok (.invokestatic 37, 3) := by decide +kernel
theorem dX2_readEdit_33 : decode cX2_readEdit 33 = .ok (.istore_n 1, 1) := by decide +kernel
theorem dX2_readEdit_34 : decode cX2_readEdit 34 = .ok (.iload_n 1, 1) := by decide +kernel
theorem dX2_readEdit_35 : decode cX2_readEdit 35 = .ok (.ifCond .le 7, 3) := by decide +kernel
theorem dX2_readEdit_38 : decode cX2_readEdit 38 = .ok (.iconst 1, 1) := by decide +kernel
theorem dX2_readEdit_39 : decode cX2_readEdit 39 = .ok (.goto 4, 3) := by decide +kernel
theorem dX2_readEdit_42 : decode cX2_readEdit 42 = .ok (.iconst 0, 1) := by decide +kernel
theorem dX2_readEdit_43 : decode cX2_readEdit 43 = .ok (.istore_n 2, 1) := by decide +kernel
theorem dX2_readEdit_44 : decode cX2_readEdit 44 = .ok (.iconst 0, 1) := by decide +kernel
theorem dX2_readEdit_45 : decode cX2_readEdit 45 = .ok (.istore_n 3, 1) := by decide +kernel
theorem dX2_readEdit_46 : decode cX2_readEdit 46 = .ok (.iload_n 3, 1) := by decide +kernel
theorem dX2_readEdit_47 : decode cX2_readEdit 47 = .ok (.iload_n 1, 1) := by decide +kernel
theorem dX2_readEdit_48 : decode cX2_readEdit 48 = .ok (.if_icmp .ge 40, 3) := by decide +kernel
theorem dX2_readEdit_51 : decode cX2_readEdit 51 = .ok (.iload_n 2, 1) := by decide +kernel
theorem dX2_readEdit_52 : decode cX2_readEdit 52 = .ok (.ifCond .eq 36, 3) := by decide +kernel
theorem dX2_readEdit_55 : decode cX2_readEdit 55 = .ok (.iload_n 3, 1) := by decide +kernel
theorem dX2_readEdit_56 : decode cX2_readEdit 56 = .ok (.ifCond .eq 12, 3) := by decide +kernel
theorem dX2_readEdit_59 : decode cX2_readEdit 59 = .ok (.aload_n 0, 1) := by decide +kernel
theorem dX2_readEdit_60 : decode cX2_readEdit 60 = .ok (.bipush 44, 2) := by decide +kernel
theorem dX2_readEdit_62 : decode cX2_readEdit 62 = .ok (.invokevirtual 41, 3) := by decide +kernel
theorem dX2_readEdit_65 : decode cX2_readEdit 65 = .ok (.ifCond .eq 15, 3) := by decide +kernel
theorem dX2_readEdit_68 : decode cX2_readEdit 68 = .ok (.aload_n 0, 1) := by decide +kernel
theorem dX2_readEdit_69 : decode cX2_readEdit 69 = .ok (.iload_n 3, 1) := by decide +kernel
theorem dX2_readEdit_70 : decode cX2_readEdit 70 = .ok (.invokevirtual 45, 3) := by decide +kernel
theorem dX2_readEdit_73 : decode cX2_readEdit 73 = .ok (.ifCond .eq 7, 3) := by decide +kernel
theorem dX2_readEdit_76 : decode cX2_readEdit 76 = .ok (.iconst 1, 1) := by decide +kernel
theorem dX2_readEdit_77 : decode cX2_readEdit 77 = .ok (.goto 4, 3) := by decide +kernel
theorem dX2_readEdit_80 : decode cX2_readEdit 80 = .ok (.iconst 0, 1) := by decide +kernel
theorem dX2_readEdit_81 : decode cX2_readEdit 81 = .ok (.istore_n 2, 1) := by decide +kernel
theorem dX2_readEdit_82 : decode cX2_readEdit 82 = .ok (.iinc 3 1, 3) := by decide +kernel
theorem dX2_readEdit_85 : decode cX2_readEdit 85 = .ok (.goto (-39), 3) := by decide +kernel
theorem dX2_readEdit_88 : decode cX2_readEdit 88 = .ok (.iload_n 2, 1) := by decide +kernel
theorem dX2_readEdit_89 : decode cX2_readEdit 89 = .ok (.ifCond .eq 16, 3) := by decide +kernel
theorem dX2_readEdit_92 : decode cX2_readEdit 92 = .ok (.aload_n 0, 1) := by decide +kernel
theorem dX2_readEdit_93 : decode cX2_readEdit 93 = .ok (.bipush 59, 2) := by decide +kernel
theorem dX2_readEdit_95 : decode cX2_readEdit 95 = .ok (.invokevirtual 41, 3) := by decide +kernel
theorem dX2_readEdit_98 : decode cX2_readEdit 98 = .ok (.ifCond .eq 7, 3) := by decide +kernel
theorem dX2_readEdit_101 : decode cX2_readEdit 101 = .ok (.iconst 1, 1) := by decide +kernel
theorem dX2_readEdit_102 : decode cX2_readEdit 102 = .ok (.goto 4, 3) := by decide +kernel
theorem dX2_readEdit_105 : decode cX2_readEdit 105 = .ok (.iconst 0, 1) := by decide +kernel
theorem dX2_readEdit_106 : decode cX2_readEdit 106 = .ok (.ireturn, 1) := by decide +kernel
theorem dX2_numbersBehind_0 : decode cX2_numbersBehind 0 = .ok (.iload_n 0, 1) := by decide +kernel
theorem dX2_numbersBehind_1 : decode cX2_numbersBehind 1 = .ok (.lookupswitch 49 #[(43, 45), (45, 43), (61, 45), (62, 47)], 43) := by decide +kernel
theorem dX2_numbersBehind_44 : decode cX2_numbersBehind 44 = .ok (.iconst 1, 1) := by decide +kernel
theorem dX2_numbersBehind_45 : decode cX2_numbersBehind 45 = .ok (.ireturn, 1) := by decide +kernel
theorem dX2_numbersBehind_46 : decode cX2_numbersBehind 46 = .ok (.iconst 2, 1) := by decide +kernel
theorem dX2_numbersBehind_47 : decode cX2_numbersBehind 47 = .ok (.ireturn, 1) := by decide +kernel
theorem dX2_numbersBehind_48 : decode cX2_numbersBehind 48 = .ok (.iconst 3, 1) := by decide +kernel
theorem dX2_numbersBehind_49 : decode cX2_numbersBehind 49 = .ok (.ireturn, 1) := by decide +kernel
theorem dX2_numbersBehind_50 : decode cX2_numbersBehind 50 = .ok (.iconst 0, 1) := by decide +kernel
theorem dX2_numbersBehind_51 : decode cX2_numbersBehind 51 = .ok (.ireturn, 1) := by decide +kernel
theorem dX2_nextCharacter_0 : decode cX2_nextCharacter 0 = .ok (.aload_n 0, 1) := by decide +kernel
theorem dX2_nextCharacter_1 : decode cX2_nextCharacter 1 = .ok (.getfield 23, 3) := by decide +kernel
theorem dX2_nextCharacter_4 : decode cX2_nextCharacter 4 = .ok (.ifCond .lt 38, 3) := by decide +kernel
theorem dX2_nextCharacter_7 : decode cX2_nextCharacter 7 = .ok (.aload_n 0, 1) := by decide +kernel
theorem dX2_nextCharacter_8 : decode cX2_nextCharacter 8 = .ok (.getfield 23, 3) := by decide +kernel
theorem dX2_nextCharacter_11 : decode cX2_nextCharacter 11 = .ok (.aload_n 0, 1) := by decide +kernel
theorem dX2_nextCharacter_12 : decode cX2_nextCharacter 12 = .ok (.getfield 19, 3) := by decide +kernel
theorem dX2_nextCharacter_15 : decode cX2_nextCharacter 15 = .ok (.if_icmp .ge 27, 3) := by decide +kernel
theorem dX2_nextCharacter_18 : decode cX2_nextCharacter 18 = .ok (.aload_n 0, 1) := by decide +kernel
theorem dX2_nextCharacter_19 : decode cX2_nextCharacter 19 = .ok (.getfield 23, 3) := by decide +kernel
theorem dX2_nextCharacter_22 : decode cX2_nextCharacter 22 = .ok (.aload_n 0, 1) := by decide +kernel
theorem dX2_nextCharacter_23 : decode cX2_nextCharacter 23 = .ok (.getfield 9, 3) := by decide +kernel
theorem dX2_nextCharacter_26 : decode cX2_nextCharacter 26 = .ok (.arraylength, 1) := by decide +kernel
theorem dX2_nextCharacter_27 : decode cX2_nextCharacter 27 = .ok (.if_icmp .ge 15, 3) := by decide +kernel
theorem dX2_nextCharacter_30 : decode cX2_nextCharacter 30 = .ok (.aload_n 0, 1) := by decide +kernel
theorem dX2_nextCharacter_31 : decode cX2_nextCharacter 31 = .ok (.getfield 9, 3) := by decide +kernel
theorem dX2_nextCharacter_34 : decode cX2_nextCharacter 34 = .ok (.aload_n 0, 1) := by decide +kernel
theorem dX2_nextCharacter_35 : decode cX2_nextCharacter 35 = .ok (.getfield 23, 3) := by decide +kernel
theorem dX2_nextCharacter_38 : decode cX2_nextCharacter 38 = .ok (.caload, 1) := by decide +kernel
theorem dX2_nextCharacter_39 : decode cX2_nextCharacter 39 = .ok (.goto 4, 3) := by decide +kernel
theorem dX2_nextCharacter_42 : decode cX2_nextCharacter 42 = .ok (.iconst 0, 1) := by decide +kernel
theorem dX2_nextCharacter_43 : decode cX2_nextCharacter 43 = .ok (.ireturn, 1) := by decide +kernel
set_option maxRecDepth 20000 in
theorem ggX2_readSign_X2_nextCharacter : GoodIn wsX2_readSign wsX2_nextCharacter := goodIn_r _ [6, 1, 7, 8, 9, 10, 11, 12, 13, 14] (by decide +kernel) (by decide +kernel)
set_option maxRecDepth 20000 in
theorem gX2_readSign_X2_nextCharacter : GoodIn wsX2_readSign (wsV RX2 33 RX2 yX2_nextCharacter wsX2_nextCharacter) := goodIn_app (goodIn_of _ (by decide +kernel)) ggX2_readSign_X2_nextCharacter
theorem dX2_readSign_0 : decode cX2_readSign 0 = .ok (.aload_n 0, 1) := by decide +kernel
theorem dX2_readSign_1 : decode cX2_readSign 1 = .ok (.invokevirtual 33, 3) := by decide +kernel
theorem dX2_readSign_4 : decode cX2_readSign 4 = .ok (.iload_n 1, 1) := by decide +kernel
theorem dX2_readSign_5 : decode cX2_readSign 5 = .ok (.if_icmp .eq 5, 3) := by decide +kernel
theorem dX2_readSign_8 : decode cX2_readSign 8 = .ok (.iconst 0, 1) := by decide +kernel
theorem dX2_readSign_9 : decode cX2_readSign 9 = .ok (.ireturn, 1) := by decide +kernel
theorem dX2_readSign_10 : decode cX2_readSign 10 = .ok (.aload_n 0, 1) := by decide +kernel
theorem dX2_readSign_11 : decode cX2_readSign 11 = .ok (.dup, 1) := by decide +kernel
theorem dX2_readSign_12 : decode cX2_readSign 12 = .ok (.getfield 23, 3) := by decide +kernel
theorem dX2_readSign_15 : decode cX2_readSign 15 = .ok (.iconst 1, 1) := by decide +kernel
theorem dX2_readSign_16 : decode cX2_readSign 16 = .ok (.iadd, 1) := by decide +kernel
theorem dX2_readSign_17 : decode cX2_readSign 17 = .ok (.putfield 23, 3) := by decide +kernel
theorem dX2_readSign_20 : decode cX2_readSign 20 = .ok (.iconst 1, 1) := by decide +kernel
theorem dX2_readSign_21 : decode cX2_readSign 21 = .ok (.ireturn, 1) := by decide +kernel
set_option maxRecDepth 20000 in
theorem ggX2_readNumber_X2_nextCharacter : GoodIn wsX2_readNumber wsX2_nextCharacter := goodIn_r _ [7, 1, 8, 9, 13, 14, 15, 16, 17, 18] (by decide +kernel) (by decide +kernel)
set_option maxRecDepth 20000 in
theorem gX2_readNumber_X2_nextCharacter : GoodIn wsX2_readNumber (wsV RX2 33 RX2 yX2_nextCharacter wsX2_nextCharacter) := goodIn_app (goodIn_of _ (by decide +kernel)) ggX2_readNumber_X2_nextCharacter
set_option maxRecDepth 20000 in
theorem ggX2_readNumber_X2_isDigit : GoodIn wsX2_readNumber wsX2_isDigit := goodIn_r _ [12] (by decide +kernel) (by decide +kernel)
set_option maxRecDepth 20000 in
theorem gX2_readNumber_X2_isDigit : GoodIn wsX2_readNumber (va_wsS RX2 49 yX2_isDigit wsX2_isDigit) := goodIn_app (goodIn_of _ (by decide +kernel)) ggX2_readNumber_X2_isDigit
theorem dX2_readNumber_0 : decode cX2_readNumber 0 = .ok (.iconst 0, 1) := by decide +kernel
theorem dX2_readNumber_1 : decode cX2_readNumber 1 = .ok (.istore_n 2, 1) := by decide +kernel
theorem dX2_readNumber_2 : decode cX2_readNumber 2 = .ok (.iconst 0, 1) := by decide +kernel
theorem dX2_readNumber_3 : decode cX2_readNumber 3 = .ok (.istore_n 3, 1) := by decide +kernel
theorem dX2_readNumber_4 : decode cX2_readNumber 4 = .ok (.iload_n 3, 1) := by decide +kernel
theorem dX2_readNumber_5 : decode cX2_readNumber 5 = .ok (.iconst 2, 1) := by decide +kernel
theorem dX2_readNumber_6 : decode cX2_readNumber 6 = .ok (.if_icmp .ge 42, 3) := by decide +kernel
theorem dX2_readNumber_9 : decode cX2_readNumber 9 = .ok (.aload_n 0, 1) := by decide +kernel
theorem dX2_readNumber_10 : decode cX2_readNumber 10 = .ok (.invokevirtual 33, 3) := by decide +kernel
theorem dX2_readNumber_13 : decode cX2_readNumber 13 = .ok (.invokestatic 49, 3) := by decide +kernel
theorem dX2_readNumber_16 : decode cX2_readNumber 16 = .ok (.ifCond .eq 32, 3) := by decide +kernel
theorem dX2_readNumber_19 : decode cX2_readNumber 19 = .ok (.iload_n 2, 1) := by decide +kernel
theorem dX2_readNumber_20 : decode cX2_readNumber 20 = .ok (.bipush 10, 2) := by decide +kernel
theorem dX2_readNumber_22 : decode cX2_readNumber 22 = .ok (.imul, 1) := by decide +kernel
theorem dX2_readNumber_23 : decode cX2_readNumber 23 = .ok (.aload_n 0, 1) := by decide +kernel
theorem dX2_readNumber_24 : decode cX2_readNumber 24 = .ok (.invokevirtual 33, 3) := by decide +kernel
theorem dX2_readNumber_27 : decode cX2_readNumber 27 = .ok (.bipush 48, 2) := by decide +kernel
theorem dX2_readNumber_29 : decode cX2_readNumber 29 = .ok (.isub, 1) := by decide +kernel
theorem dX2_readNumber_30 : decode cX2_readNumber 30 = .ok (.iadd, 1) := by decide +kernel
theorem dX2_readNumber_31 : decode cX2_readNumber 31 = .ok (.istore_n 2, 1) := by decide +kernel
theorem dX2_readNumber_32 : decode cX2_readNumber 32 = .ok (.iinc 3 1, 3) := by decide +kernel
theorem dX2_readNumber_35 : decode cX2_readNumber 35 = .ok (.aload_n 0, 1) := by decide +kernel
theorem dX2_readNumber_36 : decode cX2_readNumber 36 = .ok (.dup, 1) := by decide +kernel
theorem dX2_readNumber_37 : decode cX2_readNumber 37 = .ok (.getfield 23, 3) := by decide +kernel
theorem dX2_readNumber_40 : decode cX2_readNumber 40 = .ok (.iconst 1, 1) := by decide +kernel
theorem dX2_readNumber_41 : decode cX2_readNumber 41 = .ok (.iadd, 1) := by decide +kernel
theorem dX2_readNumber_42 : decode cX2_readNumber 42 = .ok (.putfield 23, 3) := by decide +kernel
theorem dX2_readNumber_45 : decode cX2_readNumber 45 = .ok (.goto (-41), 3) := by decide +kernel
theorem dX2_readNumber_48 : decode cX2_readNumber 48 = .ok (.iload_n 1, 1) := by decide +kernel
theorem dX2_readNumber_49 : decode cX2_readNumber 49 = .ok (.ifCond .lt 19, 3) := by decide +kernel
theorem dX2_readNumber_52 : decode cX2_readNumber 52 = .ok (.iload_n 1, 1) := by decide +kernel
theorem dX2_readNumber_53 : decode cX2_readNumber 53 = .ok (.aload_n 0, 1) := by decide +kernel
theorem dX2_readNumber_54 : decode cX2_readNumber 54 = .ok (.getfield 15, 3) := by decide +kernel
theorem dX2_readNumber_57 : decode cX2_readNumber 57 = .ok (.arraylength, 1) := by decide +kernel
theorem dX2_readNumber_58 : decode cX2_readNumber 58 = .ok (.if_icmp .ge 10, 3) := by decide +kernel
theorem dX2_readNumber_61 : decode cX2_readNumber 61 = .ok (.aload_n 0, 1) := by decide +kernel
theorem dX2_readNumber_62 : decode cX2_readNumber 62 = .ok (.getfield 15, 3) := by decide +kernel
theorem dX2_readNumber_65 : decode cX2_readNumber 65 = .ok (.iload_n 1, 1) := by decide +kernel
theorem dX2_readNumber_66 : decode cX2_readNumber 66 = .ok (.iload_n 2, 1) := by decide +kernel
theorem dX2_readNumber_67 : decode cX2_readNumber 67 = .ok (.iastore, 1) := by decide +kernel
theorem dX2_readNumber_68 : decode cX2_readNumber 68 = .ok (.iload_n 3, 1) := by decide +kernel
theorem dX2_readNumber_69 : decode cX2_readNumber 69 = .ok (.ifCond .le 7, 3) := by decide +kernel
theorem dX2_readNumber_72 : decode cX2_readNumber 72 = .ok (.iconst 1, 1) := by decide +kernel
theorem dX2_readNumber_73 : decode cX2_readNumber 73 = .ok (.goto 4, 3) := by decide +kernel
theorem dX2_readNumber_76 : decode cX2_readNumber 76 = .ok (.iconst 0, 1) := by decide +kernel
theorem dX2_readNumber_77 : decode cX2_readNumber 77 = .ok (.ireturn, 1) := by decide +kernel
theorem dX2_isDigit_0 : decode cX2_isDigit 0 = .ok (.iload_n 0, 1) := by decide +kernel
theorem dX2_isDigit_1 : decode cX2_isDigit 1 = .ok (.bipush 48, 2) := by decide +kernel
theorem dX2_isDigit_3 : decode cX2_isDigit 3 = .ok (.if_icmp .lt 13, 3) := by decide +kernel
theorem dX2_isDigit_6 : decode cX2_isDigit 6 = .ok (.iload_n 0, 1) := by decide +kernel
theorem dX2_isDigit_7 : decode cX2_isDigit 7 = .ok (.bipush 57, 2) := by decide +kernel
theorem dX2_isDigit_9 : decode cX2_isDigit 9 = .ok (.if_icmp .gt 7, 3) := by decide +kernel
theorem dX2_isDigit_12 : decode cX2_isDigit 12 = .ok (.iconst 1, 1) := by decide +kernel
theorem dX2_isDigit_13 : decode cX2_isDigit 13 = .ok (.goto 4, 3) := by decide +kernel
theorem dX2_isDigit_16 : decode cX2_isDigit 16 = .ok (.iconst 0, 1) := by decide +kernel
theorem dX2_isDigit_17 : decode cX2_isDigit 17 = .ok (.ireturn, 1) := by decide +kernel
set_option maxRecDepth 20000 in
theorem ggX3_init_X5_init : GoodIn wsX3_init wsX5_init := goodIn_r _ [10, 11, 2, 3, 12, 13, 14, 15, 16, 17, 18, 19, 20, 21, 22, 23, 24, 25, 26, 27, 28, 29, 30, 31, 40, 41, 42, 43, 35, 36, 37, 38, 39, 44, 45, 46] (by decide +kernel) (by decide +kernel)
set_option maxRecDepth 20000 in
theorem gX3_init_X5_init : GoodIn wsX3_init (wsX5_init) := ggX3_init_X5_init
theorem dX3_init_0 : decode cX3_init 0 = .ok (.aload_n 0, 1) := by decide +kernel
theorem dX3_init_1 : decode cX3_init 1 = .ok (.invokespecial 3, 3) := by decide +kernel
theorem dX3_init_4 : decode cX3_init 4 = .ok (.aload_n 0, 1) := by decide +kernel
theorem dX3_init_5 : decode cX3_init 5 = .ok (.iconst 4, 1) := by decide +kernel
theorem dX3_init_6 : decode cX3_init 6 = .ok (.anewarray 9, 3) := by decide +kernel
theorem dX3_init_9 : decode cX3_init 9 = .ok (.putfield 11, 3) := by decide +kernel
theorem dX3_init_12 : decode cX3_init 12 = .ok (.iconst 0, 1) := by decide +kernel
theorem dX3_init_13 : decode cX3_init 13 = .ok (.istore_n 1, 1) := by decide +kernel
theorem dX3_init_14 : decode cX3_init 14 = .ok (.iload_n 1, 1) := by decide +kernel
theorem dX3_init_15 : decode cX3_init 15 = .ok (.aload_n 0, 1) := by decide +kernel
theorem dX3_init_16 : decode cX3_init 16 = .ok (.getfield 11, 3) := by decide +kernel
theorem dX3_init_19 : decode cX3_init 19 = .ok (.arraylength, 1) := by decide +kernel
theorem dX3_init_20 : decode cX3_init 20 = .ok (.if_icmp .ge 22, 3) := by decide +kernel
theorem dX3_init_23 : decode cX3_init 23 = .ok (.aload_n 0, 1) := by decide +kernel
theorem dX3_init_24 : decode cX3_init 24 = .ok (.getfield 11, 3) := by decide +kernel
theorem dX3_init_27 : decode cX3_init 27 = .ok (.iload_n 1, 1) := by decide +kernel
theorem dX3_init_28 : decode cX3_init 28 = .ok (.new 9, 3) := by decide +kernel
theorem dX3_init_31 : decode cX3_init 31 = .ok (.dup, 1) := by decide +kernel
theorem dX3_init_32 : decode cX3_init 32 = .ok (.invokespecial 17, 3) := by decide +kernel
theorem dX3_init_35 : decode cX3_init 35 = .ok (.aastore, 1) := by decide +kernel
theorem dX3_init_36 : decode cX3_init 36 = .ok (.iinc 1 1, 3) := by decide +kernel
theorem dX3_init_39 : decode cX3_init 39 = .ok (.goto (-25), 3) := by decide +kernel
theorem dX3_init_42 : decode cX3_init 42 = .ok (.return_, 1) := by decide +kernel
theorem dX3_size_0 : decode cX3_size 0 = .ok (.aload_n 0, 1) := by decide +kernel
theorem dX3_size_1 : decode cX3_size 1 = .ok (.getfield 18, 3) := by decide +kernel
theorem dX3_size_4 : decode cX3_size 4 = .ok (.ireturn, 1) := by decide +kernel
theorem dX3_fromOldest_0 : decode cX3_fromOldest 0 = .ok (.aload_n 0, 1) := by decide +kernel
theorem dX3_fromOldest_1 : decode cX3_fromOldest 1 = .ok (.getfield 22, 3) := by decide +kernel
theorem dX3_fromOldest_4 : decode cX3_fromOldest 4 = .ok (.iload_n 1, 1) := by decide +kernel
theorem dX3_fromOldest_5 : decode cX3_fromOldest 5 = .ok (.iadd, 1) := by decide +kernel
theorem dX3_fromOldest_6 : decode cX3_fromOldest 6 = .ok (.iconst 4, 1) := by decide +kernel
theorem dX3_fromOldest_7 : decode cX3_fromOldest 7 = .ok (.irem, 1) := by decide +kernel
theorem dX3_fromOldest_8 : decode cX3_fromOldest 8 = .ok (.istore_n 2, 1) := by decide +kernel
theorem dX3_fromOldest_9 : decode cX3_fromOldest 9 = .ok (.iload_n 2, 1) := by decide +kernel
theorem dX3_fromOldest_10 : decode cX3_fromOldest 10 = .ok (.ifCond .lt 21, 3) := by decide +kernel
theorem dX3_fromOldest_13 : decode cX3_fromOldest 13 = .ok (.iload_n 2, 1) := by decide +kernel
theorem dX3_fromOldest_14 : decode cX3_fromOldest 14 = .ok (.aload_n 0, 1) := by decide +kernel
theorem dX3_fromOldest_15 : decode cX3_fromOldest 15 = .ok (.getfield 11, 3) := by decide +kernel
theorem dX3_fromOldest_18 : decode cX3_fromOldest 18 = .ok (.arraylength, 1) := by decide +kernel
theorem dX3_fromOldest_19 : decode cX3_fromOldest 19 = .ok (.if_icmp .ge 12, 3) := by decide +kernel
theorem dX3_fromOldest_22 : decode cX3_fromOldest 22 = .ok (.aload_n 0, 1) := by decide +kernel
theorem dX3_fromOldest_23 : decode cX3_fromOldest 23 = .ok (.getfield 11, 3) := by decide +kernel
theorem dX3_fromOldest_26 : decode cX3_fromOldest 26 = .ok (.iload_n 2, 1) := by decide +kernel
theorem dX3_fromOldest_27 : decode cX3_fromOldest 27 = .ok (.aaload, 1) := by decide +kernel
theorem dX3_fromOldest_28 : decode cX3_fromOldest 28 = .ok (.goto 4, 3) := by decide +kernel
theorem dX3_fromOldest_31 : decode cX3_fromOldest 31 = .ok (.aconst_null, 1) := by decide +kernel
theorem dX3_fromOldest_32 : decode cX3_fromOldest 32 = .ok (.areturn, 1) := by decide +kernel
set_option maxRecDepth 20000 in
theorem ggX3_record_X3_fromOldest : GoodIn wsX3_record wsX3_fromOldest := goodIn_r _ [7, 2, 8, 50, 51, 52] (by decide +kernel) (by decide +kernel)
set_option maxRecDepth 20000 in
theorem gX3_record_X3_fromOldest : GoodIn wsX3_record (wsV RX3 25 RX3 yX3_fromOldest wsX3_fromOldest) := goodIn_app (goodIn_of _ (by decide +kernel)) ggX3_record_X3_fromOldest
set_option maxRecDepth 20000 in
theorem ggX3_record_X5_copyFrom : GoodIn wsX3_record wsX5_copyFrom := goodIn_r _ [13, 14, 15, 16, 17, 18, 19, 20, 21, 22, 23, 24, 25, 26, 27, 28, 29, 30, 31, 12, 32, 33, 34, 35, 36, 37, 38, 39, 40, 41, 42, 43, 44, 45, 46, 47, 48, 49, 53, 54, 55, 56, 57, 58, 59, 60, 61, 62, 63, 64] (by decide +kernel) (by decide +kernel)
set_option maxRecDepth 20000 in
theorem gX3_record_X5_copyFrom : GoodIn wsX3_record (wsV RX3 29 RX5 yX5_copyFrom wsX5_copyFrom) := goodIn_app (goodIn_of _ (by decide +kernel)) ggX3_record_X5_copyFrom
theorem dX3_record_0 : decode cX3_record 0 = .ok (.aload_n 0, 1) := by decide +kernel
theorem dX3_record_1 : decode cX3_record 1 = .ok (.aload_n 0, 1) := by decide +kernel
theorem dX3_record_2 : decode cX3_record 2 = .ok (.getfield 18, 3) := by decide +kernel
theorem dX3_record_5 : decode cX3_record 5 = .ok (.invokevirtual 25, 3) := by decide +kernel
theorem dX3_record_8 : decode cX3_record 8 = .ok (.astore_n 2, 1) := by decide +kernel
theorem dX3_record_9 : decode cX3_record 9 = .ok (.aload_n 2, 1) := by decide +kernel
theorem dX3_record_10 : decode cX3_record 10 = .ok (.ifnull 8, 3) := by decide +kernel
theorem dX3_record_13 : decode cX3_record 13 = .ok (.aload_n 2, 1) := by decide +kernel
theorem dX3_record_14 : decode cX3_record 14 = .ok (.aload_n 1, 1) := by decide +kernel
theorem dX3_record_15 : decode cX3_record 15 = .ok (.invokevirtual 29, 3) := by decide +kernel
theorem dX3_record_18 : decode cX3_record 18 = .ok (.aload_n 0, 1) := by decide +kernel
theorem dX3_record_19 : decode cX3_record 19 = .ok (.getfield 18, 3) := by decide +kernel
theorem dX3_record_22 : decode cX3_record 22 = .ok (.iconst 4, 1) := by decide +kernel
theorem dX3_record_23 : decode cX3_record 23 = .ok (.if_icmp .ge 16, 3) := by decide +kernel
theorem dX3_record_26 : decode cX3_record 26 = .ok (.aload_n 0, 1) := by decide +kernel
theorem dX3_record_27 : decode cX3_record 27 = .ok (.dup, 1) := by decide +kernel
theorem dX3_record_28 : decode cX3_record 28 = .ok (.getfield 18, 3) := by decide +kernel
theorem dX3_record_31 : decode cX3_record 31 = .ok (.iconst 1, 1) := by decide +kernel
theorem dX3_record_32 : decode cX3_record 32 = .ok (.iadd, 1) := by decide +kernel
theorem dX3_record_33 : decode cX3_record 33 = .ok (.putfield 18, 3) := by decide +kernel
theorem dX3_record_36 : decode cX3_record 36 = .ok (.goto 15, 3) := by decide +kernel
theorem dX3_record_39 : decode cX3_record 39 = .ok (.aload_n 0, 1) := by decide +kernel
theorem dX3_record_40 : decode cX3_record 40 = .ok (.aload_n 0, 1) := by decide +kernel
theorem dX3_record_41 : decode cX3_record 41 = .ok (.getfield 22, 3) := by decide +kernel
theorem dX3_record_44 : decode cX3_record 44 = .ok (.iconst 1, 1) := by decide +kernel
theorem dX3_record_45 : decode cX3_record 45 = .ok (.iadd, 1) := by decide +kernel
theorem dX3_record_46 : decode cX3_record 46 = .ok (.iconst 4, 1) := by decide +kernel
theorem dX3_record_47 : decode cX3_record 47 = .ok (.irem, 1) := by decide +kernel
theorem dX3_record_48 : decode cX3_record 48 = .ok (.putfield 22, 3) := by decide +kernel
theorem dX3_record_51 : decode cX3_record 51 = .ok (.return_, 1) := by decide +kernel
set_option maxRecDepth 20000 in
theorem ggX3_latest_X3_fromOldest : GoodIn wsX3_latest wsX3_fromOldest := goodIn_r _ [6, 7, 8, 9, 10, 11] (by decide +kernel) (by decide +kernel)
set_option maxRecDepth 20000 in
theorem gX3_latest_X3_fromOldest : GoodIn wsX3_latest (wsV RX3 25 RX3 yX3_fromOldest wsX3_fromOldest) := goodIn_app (goodIn_of _ (by decide +kernel)) ggX3_latest_X3_fromOldest
theorem dX3_latest_0 : decode cX3_latest 0 = .ok (.aload_n 0, 1) := by decide +kernel
theorem dX3_latest_1 : decode cX3_latest 1 = .ok (.getfield 18, 3) := by decide +kernel
theorem dX3_latest_4 : decode cX3_latest 4 = .ok (.ifCond .ne 7, 3) := by decide +kernel
theorem dX3_latest_7 : decode cX3_latest 7 = .ok (.aconst_null, 1) := by decide +kernel
theorem dX3_latest_8 : decode cX3_latest 8 = .ok (.goto 13, 3) := by decide +kernel
theorem dX3_latest_11 : decode cX3_latest 11 = .ok (.aload_n 0, 1) := by decide +kernel
theorem dX3_latest_12 : decode cX3_latest 12 = .ok (.aload_n 0, 1) := by decide +kernel
theorem dX3_latest_13 : decode cX3_latest 13 = .ok (.getfield 18, 3) := by decide +kernel
theorem dX3_latest_16 : decode cX3_latest 16 = .ok (.iconst 1, 1) := by decide +kernel
theorem dX3_latest_17 : decode cX3_latest 17 = .ok (.isub, 1) := by decide +kernel
theorem dX3_latest_18 : decode cX3_latest 18 = .ok (.invokevirtual 25, 3) := by decide +kernel
theorem dX3_latest_21 : decode cX3_latest 21 = .ok (.areturn, 1) := by decide +kernel
theorem dX3_forgetLatest_0 : decode cX3_forgetLatest 0 = .ok (.aload_n 0, 1) := by decide +kernel
theorem dX3_forgetLatest_1 : decode cX3_forgetLatest 1 = .ok (.getfield 18, 3) := by decide +kernel
theorem dX3_forgetLatest_4 : decode cX3_forgetLatest 4 = .ok (.ifCond .le 13, 3) := by decide +kernel
theorem dX3_forgetLatest_7 : decode cX3_forgetLatest 7 = .ok (.aload_n 0, 1) := by decide +kernel
theorem dX3_forgetLatest_8 : decode cX3_forgetLatest 8 = .ok (.dup, 1) := by decide +kernel
theorem dX3_forgetLatest_9 : decode cX3_forgetLatest 9 = .ok (.getfield 18, 3) := by decide +kernel
theorem dX3_forgetLatest_12 : decode cX3_forgetLatest 12 = .ok (.iconst 1, 1) := by decide +kernel
theorem dX3_forgetLatest_13 : decode cX3_forgetLatest 13 = .ok (.isub, 1) := by decide +kernel
theorem dX3_forgetLatest_14 : decode cX3_forgetLatest 14 = .ok (.putfield 18, 3) := by decide +kernel
theorem dX3_forgetLatest_17 : decode cX3_forgetLatest 17 = .ok (.return_, 1) := by decide +kernel
end
section
theorem dX4_init_0 : decode cX4_init 0 = .ok (.aload_n 0, 1) := by decide +kernel
theorem dX4_init_1 : decode cX4_init 1 = .ok (.invokespecial 3, 3) := by decide +kernel
theorem dX4_init_4 : decode cX4_init 4 = .ok (.aload_n 0, 1) := by decide +kernel
theorem dX4_init_5 : decode cX4_init 5 = .ok (.bipush 40, 2) := by decide +kernel
theorem dX4_init_7 : decode cX4_init 7 = .ok (.newarray .int, 2) := by decide +kernel
theorem dX4_init_9 : decode cX4_init 9 = .ok (.putfield 9, 3) := by decide +kernel
theorem dX4_init_12 : decode cX4_init 12 = .ok (.aload_n 0, 1) := by decide +kernel
theorem dX4_init_13 : decode cX4_init 13 = .ok (.bipush 40, 2) := by decide +kernel
theorem dX4_init_15 : decode cX4_init 15 = .ok (.newarray .int, 2) := by decide +kernel
theorem dX4_init_17 : decode cX4_init 17 = .ok (.putfield 15, 3) := by decide +kernel
theorem dX4_init_20 : decode cX4_init 20 = .ok (.aload_n 0, 1) := by decide +kernel
theorem dX4_init_21 : decode cX4_init 21 = .ok (.bipush 40, 2) := by decide +kernel
theorem dX4_init_23 : decode cX4_init 23 = .ok (.newarray .int, 2) := by decide +kernel
theorem dX4_init_25 : decode cX4_init 25 = .ok (.putfield 18, 3) := by decide +kernel
theorem dX4_init_28 : decode cX4_init 28 = .ok (.return_, 1) := by decide +kernel
theorem dX4_size_0 : decode cX4_size 0 = .ok (.aload_n 0, 1) := by decide +kernel
theorem dX4_size_1 : decode cX4_size 1 = .ok (.getfield 21, 3) := by decide +kernel
theorem dX4_size_4 : decode cX4_size 4 = .ok (.ireturn, 1) := by decide +kernel
theorem dX4_isFull_0 : decode cX4_isFull 0 = .ok (.aload_n 0, 1) := by decide +kernel
theorem dX4_isFull_1 : decode cX4_isFull 1 = .ok (.getfield 21, 3) := by decide +kernel
theorem dX4_isFull_4 : decode cX4_isFull 4 = .ok (.aload_n 0, 1) := by decide +kernel
theorem dX4_isFull_5 : decode cX4_isFull 5 = .ok (.getfield 9, 3) := by decide +kernel
theorem dX4_isFull_8 : decode cX4_isFull 8 = .ok (.arraylength, 1) := by decide +kernel
theorem dX4_isFull_9 : decode cX4_isFull 9 = .ok (.if_icmp .lt 7, 3) := by decide +kernel
theorem dX4_isFull_12 : decode cX4_isFull 12 = .ok (.iconst 1, 1) := by decide +kernel
theorem dX4_isFull_13 : decode cX4_isFull 13 = .ok (.goto 4, 3) := by decide +kernel
theorem dX4_isFull_16 : decode cX4_isFull 16 = .ok (.iconst 0, 1) := by decide +kernel
theorem dX4_isFull_17 : decode cX4_isFull 17 = .ok (.ireturn, 1) := by decide +kernel
theorem dX4_holds_0 : decode cX4_holds 0 = .ok (.iload_n 1, 1) := by decide +kernel
theorem dX4_holds_1 : decode cX4_holds 1 = .ok (.ifCond .lt 24, 3) := by decide +kernel
theorem dX4_holds_4 : decode cX4_holds 4 = .ok (.iload_n 1, 1) := by decide +kernel
theorem dX4_holds_5 : decode cX4_holds 5 = .ok (.aload_n 0, 1) := by decide +kernel
theorem dX4_holds_6 : decode cX4_holds 6 = .ok (.getfield 21, 3) := by decide +kernel
theorem dX4_holds_9 : decode cX4_holds 9 = .ok (.if_icmp .ge 16, 3) := by decide +kernel
theorem dX4_holds_12 : decode cX4_holds 12 = .ok (.iload_n 1, 1) := by decide +kernel
theorem dX4_holds_13 : decode cX4_holds 13 = .ok (.aload_n 0, 1) := by decide +kernel
theorem dX4_holds_14 : decode cX4_holds 14 = .ok (.getfield 9, 3) := by decide +kernel
theorem dX4_holds_17 : decode cX4_holds 17 = .ok (.arraylength, 1) := by decide +kernel
theorem dX4_holds_18 : decode cX4_holds 18 = .ok (.if_icmp .ge 7, 3) := by decide +kernel
theorem dX4_holds_21 : decode cX4_holds 21 = .ok (.iconst 1, 1) := by decide +kernel
theorem dX4_holds_22 : decode cX4_holds 22 = .ok (.goto 4, 3) := by decide +kernel
theorem dX4_holds_25 : decode cX4_holds 25 = .ok (.iconst 0, 1) := by decide +kernel
theorem dX4_holds_26 : decode cX4_holds 26 = .ok (.ireturn, 1) := by decide +kernel
theorem dX4_takesAt_0 : decode cX4_takesAt 0 = .ok (.iload_n 1, 1) := by decide +kernel
theorem dX4_takesAt_1 : decode cX4_takesAt 1 = .ok (.ifCond .lt 15, 3) := by decide +kernel
theorem dX4_takesAt_4 : decode cX4_takesAt 4 = .ok (.iload_n 1, 1) := by decide +kernel
theorem dX4_takesAt_5 : decode cX4_takesAt 5 = .ok (.aload_n 0, 1) := by decide +kernel
theorem dX4_takesAt_6 : decode cX4_takesAt 6 = .ok (.getfield 21, 3) := by decide +kernel
theorem dX4_takesAt_9 : decode cX4_takesAt 9 = .ok (.if_icmp .gt 7, 3) := by decide +kernel
theorem dX4_takesAt_12 : decode cX4_takesAt 12 = .ok (.iconst 1, 1) := by decide +kernel
theorem dX4_takesAt_13 : decode cX4_takesAt 13 = .ok (.goto 4, 3) := by decide +kernel
theorem dX4_takesAt_16 : decode cX4_takesAt 16 = .ok (.iconst 0, 1) := by decide +kernel
theorem dX4_takesAt_17 : decode cX4_takesAt 17 = .ok (.ireturn, 1) := by decide +kernel
set_option maxRecDepth 20000 in
theorem ggX4_canShift_X4_holds : GoodIn wsX4_canShift wsX4_holds := goodIn_r _ [6, 1, 7, 8, 9, 10, 11] (by decide +kernel) (by decide +kernel)
set_option maxRecDepth 20000 in
theorem gX4_canShift_X4_holds : GoodIn wsX4_canShift (wsV RX4 25 RX4 yX4_holds wsX4_holds) := goodIn_app (goodIn_of _ (by decide +kernel)) ggX4_canShift_X4_holds
theorem dX4_canShift_0 : decode cX4_canShift 0 = .ok (.aload_n 0, 1) := by decide +kernel
theorem dX4_canShift_1 : decode cX4_canShift 1 = .ok (.iload_n 1, 1) := by decide +kernel
theorem dX4_canShift_2 : decode cX4_canShift 2 = .ok (.invokevirtual 25, 3) := by decide +kernel
theorem dX4_canShift_5 : decode cX4_canShift 5 = .ok (.ifCond .eq 36, 3) := by decide +kernel
theorem dX4_canShift_8 : decode cX4_canShift 8 = .ok (.iload_n 2, 1) := by decide +kernel
theorem dX4_canShift_9 : decode cX4_canShift 9 = .ok (.iconst 1, 1) := by decide +kernel
theorem dX4_canShift_10 : decode cX4_canShift 10 = .ok (.if_icmp .lt 31, 3) := by decide +kernel
theorem dX4_canShift_13 : decode cX4_canShift 13 = .ok (.iload_n 2, 1) := by decide +kernel
theorem dX4_canShift_14 : decode cX4_canShift 14 = .ok (.aload_n 0, 1) := by decide +kernel
theorem dX4_canShift_15 : decode cX4_canShift 15 = .ok (.getfield 21, 3) := by decide +kernel
theorem dX4_canShift_18 : decode cX4_canShift 18 = .ok (.iload_n 1, 1) := by decide +kernel
theorem dX4_canShift_19 : decode cX4_canShift 19 = .ok (.isub, 1) := by decide +kernel
theorem dX4_canShift_20 : decode cX4_canShift 20 = .ok (.if_icmp .gt 21, 3) := by decide +kernel
theorem dX4_canShift_23 : decode cX4_canShift 23 = .ok (.iload_n 3, 1) := by decide +kernel
theorem dX4_canShift_24 : decode cX4_canShift 24 = .ok (.ifCond .lt 17, 3) := by decide +kernel
theorem dX4_canShift_27 : decode cX4_canShift 27 = .ok (.iload_n 3, 1) := by decide +kernel
theorem dX4_canShift_28 : decode cX4_canShift 28 = .ok (.aload_n 0, 1) := by decide +kernel
theorem dX4_canShift_29 : decode cX4_canShift 29 = .ok (.getfield 21, 3) := by decide +kernel
theorem dX4_canShift_32 : decode cX4_canShift 32 = .ok (.iload_n 2, 1) := by decide +kernel
theorem dX4_canShift_33 : decode cX4_canShift 33 = .ok (.isub, 1) := by decide +kernel
theorem dX4_canShift_34 : decode cX4_canShift 34 = .ok (.if_icmp .gt 7, 3) := by decide +kernel
theorem dX4_canShift_37 : decode cX4_canShift 37 = .ok (.iconst 1, 1) := by decide +kernel
theorem dX4_canShift_38 : decode cX4_canShift 38 = .ok (.goto 4, 3) := by decide +kernel
theorem dX4_canShift_41 : decode cX4_canShift 41 = .ok (.iconst 0, 1) := by decide +kernel
theorem dX4_canShift_42 : decode cX4_canShift 42 = .ok (.ireturn, 1) := by decide +kernel
theorem dX4_at_0 : decode cX4_at 0 = .ok (.iload_n 1, 1) := by decide +kernel
theorem dX4_at_1 : decode cX4_at 1 = .ok (.ifCond .lt 29, 3) := by decide +kernel
theorem dX4_at_4 : decode cX4_at 4 = .ok (.iload_n 1, 1) := by decide +kernel
theorem dX4_at_5 : decode cX4_at 5 = .ok (.aload_n 0, 1) := by decide +kernel
theorem dX4_at_6 : decode cX4_at 6 = .ok (.getfield 21, 3) := by decide +kernel
theorem dX4_at_9 : decode cX4_at 9 = .ok (.if_icmp .ge 21, 3) := by decide +kernel
theorem dX4_at_12 : decode cX4_at 12 = .ok (.iload_n 1, 1) := by decide +kernel
theorem dX4_at_13 : decode cX4_at 13 = .ok (.aload_n 0, 1) := by decide +kernel
theorem dX4_at_14 : decode cX4_at 14 = .ok (.getfield 9, 3) := by decide +kernel
theorem dX4_at_17 : decode cX4_at 17 = .ok (.arraylength, 1) := by decide +kernel
theorem dX4_at_18 : decode cX4_at 18 = .ok (.if_icmp .ge 12, 3) := by decide +kernel
theorem dX4_at_21 : decode cX4_at 21 = .ok (.aload_n 0, 1) := by decide +kernel
theorem dX4_at_22 : decode cX4_at 22 = .ok (.getfield 9, 3) := by decide +kernel
theorem dX4_at_25 : decode cX4_at 25 = .ok (.iload_n 1, 1) := by decide +kernel
theorem dX4_at_26 : decode cX4_at 26 = .ok (.iaload, 1) := by decide +kernel
theorem dX4_at_27 : decode cX4_at 27 = .ok (.goto 4, 3) := by decide +kernel
theorem dX4_at_30 : decode cX4_at 30 = .ok (.iconst (-1), 1) := by decide +kernel
theorem dX4_at_31 : decode cX4_at 31 = .ok (.ireturn, 1) := by decide +kernel
set_option maxRecDepth 20000 in
theorem ggX4_insert_X4_takesAt : GoodIn wsX4_insert wsX4_takesAt := goodIn_r _ [8, 2, 22, 23, 24, 25] (by decide +kernel) (by decide +kernel)
set_option maxRecDepth 20000 in
theorem gX4_insert_X4_takesAt : GoodIn wsX4_insert (wsV RX4 29 RX4 yX4_takesAt wsX4_takesAt) := goodIn_app (goodIn_of _ (by decide +kernel)) ggX4_insert_X4_takesAt
set_option maxRecDepth 20000 in
theorem ggX4_insert_X4_isFull : GoodIn wsX4_insert wsX4_isFull := goodIn_r _ [12, 2, 3, 22, 23, 24, 25] (by decide +kernel) (by decide +kernel)
set_option maxRecDepth 20000 in
theorem gX4_insert_X4_isFull : GoodIn wsX4_insert (wsV RX4 32 RX4 yX4_isFull wsX4_isFull) := goodIn_app (goodIn_of _ (by decide +kernel)) ggX4_insert_X4_isFull
set_option maxRecDepth 20000 in
theorem ggX4_insert_X4_relocate : GoodIn wsX4_insert wsX4_relocate := goodIn_r _ [16, 2, 3, 17, 18, 19, 20, 7, 21, 1, 22, 23, 24, 25] (by decide +kernel) (by decide +kernel)
set_option maxRecDepth 20000 in
theorem gX4_insert_X4_relocate : GoodIn wsX4_insert (wsV RX4 36 RX4 yX4_relocate wsX4_relocate) := goodIn_app (goodIn_of _ (by decide +kernel)) ggX4_insert_X4_relocate
theorem dX4_insert_0 : decode cX4_insert 0 = .ok (.aload_n 0, 1) := by decide +kernel
theorem dX4_insert_1 : decode cX4_insert 1 = .ok (.iload_n 1, 1) := by decide +kernel
theorem dX4_insert_2 : decode cX4_insert 2 = .ok (.invokevirtual 29, 3) := by decide +kernel
theorem dX4_insert_5 : decode cX4_insert 5 = .ok (.ifCond .eq 10, 3) := by decide +kernel
theorem dX4_insert_8 : decode cX4_insert 8 = .ok (.aload_n 0, 1) := by decide +kernel
theorem dX4_insert_9 : decode cX4_insert 9 = .ok (.invokevirtual 32, 3) := by decide +kernel
theorem dX4_insert_12 : decode cX4_insert 12 = .ok (.ifCond .eq 4, 3) := by decide +kernel
theorem dX4_insert_15 : decode cX4_insert 15 = .ok (.return_, 1) := by decide +kernel
theorem dX4_insert_16 : decode cX4_insert 16 = .ok (.iconst 0, 1) := by decide +kernel
theorem dX4_insert_17 : decode cX4_insert 17 = .ok (.istore_n 3, 1) := by decide +kernel
theorem dX4_insert_18 : decode cX4_insert 18 = .ok (.iload_n 3, 1) := by decide +kernel
theorem dX4_insert_19 : decode cX4_insert 19 = .ok (.aload_n 0, 1) := by decide +kernel
theorem dX4_insert_20 : decode cX4_insert 20 = .ok (.getfield 15, 3) := by decide +kernel
theorem dX4_insert_23 : decode cX4_insert 23 = .ok (.arraylength, 1) := by decide +kernel
theorem dX4_insert_24 : decode cX4_insert 24 = .ok (.if_icmp .ge 27, 3) := by decide +kernel
theorem dX4_insert_27 : decode cX4_insert 27 = .ok (.aload_n 0, 1) := by decide +kernel
theorem dX4_insert_28 : decode cX4_insert 28 = .ok (.getfield 15, 3) := by decide +kernel
theorem dX4_insert_31 : decode cX4_insert 31 = .ok (.iload_n 3, 1) := by decide +kernel
theorem dX4_insert_32 : decode cX4_insert 32 = .ok (.iload_n 3, 1) := by decide +kernel
theorem dX4_insert_33 : decode cX4_insert 33 = .ok (.iload_n 1, 1) := by decide +kernel
theorem dX4_insert_34 : decode cX4_insert 34 = .ok (.if_icmp .ge 7, 3) := by decide +kernel
theorem dX4_insert_37 : decode cX4_insert 37 = .ok (.iload_n 3, 1) := by decide +kernel
theorem dX4_insert_38 : decode cX4_insert 38 = .ok (.goto 6, 3) := by decide +kernel
theorem dX4_insert_41 : decode cX4_insert 41 = .ok (.iload_n 3, 1) := by decide +kernel
theorem dX4_insert_42 : decode cX4_insert 42 = .ok (.iconst 1, 1) := by decide +kernel
theorem dX4_insert_43 : decode cX4_insert 43 = .ok (.iadd, 1) := by decide +kernel
theorem dX4_insert_44 : decode cX4_insert 44 = .ok (.iastore, 1) := by decide +kernel
theorem dX4_insert_45 : decode cX4_insert 45 = .ok (.iinc 3 1, 3) := by decide +kernel
theorem dX4_insert_48 : decode cX4_insert 48 = .ok (.goto (-30), 3) := by decide +kernel
theorem dX4_insert_51 : decode cX4_insert 51 = .ok (.aload_n 0, 1) := by decide +kernel
theorem dX4_insert_52 : decode cX4_insert 52 = .ok (.aload_n 0, 1) := by decide +kernel
theorem dX4_insert_53 : decode cX4_insert 53 = .ok (.getfield 21, 3) := by decide +kernel
theorem dX4_insert_56 : decode cX4_insert 56 = .ok (.iconst 1, 1) := by decide +kernel
theorem dX4_insert_57 : decode cX4_insert 57 = .ok (.iadd, 1) := by decide +kernel
theorem dX4_insert_58 : decode cX4_insert 58 = .ok (.invokevirtual 36, 3) := by decide +kernel
theorem dX4_insert_61 : decode cX4_insert 61 = .ok (.aload_n 0, 1) := by decide +kernel
theorem dX4_insert_62 : decode cX4_insert 62 = .ok (.getfield 9, 3) := by decide +kernel
theorem dX4_insert_65 : decode cX4_insert 65 = .ok (.iload_n 1, 1) := by decide +kernel
theorem dX4_insert_66 : decode cX4_insert 66 = .ok (.iload_n 2, 1) := by decide +kernel
theorem dX4_insert_67 : decode cX4_insert 67 = .ok (.iastore, 1) := by decide +kernel
theorem dX4_insert_68 : decode cX4_insert 68 = .ok (.return_, 1) := by decide +kernel
set_option maxRecDepth 20000 in
theorem ggX4_remove_X4_holds : GoodIn wsX4_remove wsX4_holds := goodIn_r _ [7, 2, 8, 18, 19, 20, 21] (by decide +kernel) (by decide +kernel)
set_option maxRecDepth 20000 in
theorem gX4_remove_X4_holds : GoodIn wsX4_remove (wsV RX4 25 RX4 yX4_holds wsX4_holds) := goodIn_app (goodIn_of _ (by decide +kernel)) ggX4_remove_X4_holds
set_option maxRecDepth 20000 in
theorem ggX4_remove_X4_relocate : GoodIn wsX4_remove wsX4_relocate := goodIn_r _ [12, 2, 8, 13, 14, 15, 16, 6, 17, 1, 18, 19, 20, 21] (by decide +kernel) (by decide +kernel)
set_option maxRecDepth 20000 in
theorem gX4_remove_X4_relocate : GoodIn wsX4_remove (wsV RX4 36 RX4 yX4_relocate wsX4_relocate) := goodIn_app (goodIn_of _ (by decide +kernel)) ggX4_remove_X4_relocate
theorem dX4_remove_0 : decode cX4_remove 0 = .ok (.aload_n 0, 1) := by decide +kernel
theorem dX4_remove_1 : decode cX4_remove 1 = .ok (.iload_n 1, 1) := by decide +kernel
theorem dX4_remove_2 : decode cX4_remove 2 = .ok (.invokevirtual 25, 3) := by decide +kernel
theorem dX4_remove_5 : decode cX4_remove 5 = .ok (.ifCond .ne 4, 3) := by decide +kernel
theorem dX4_remove_8 : decode cX4_remove 8 = .ok (.return_, 1) := by decide +kernel
theorem dX4_remove_9 : decode cX4_remove 9 = .ok (.iconst 0, 1) := by decide +kernel
theorem dX4_remove_10 : decode cX4_remove 10 = .ok (.istore_n 2, 1) := by decide +kernel
theorem dX4_remove_11 : decode cX4_remove 11 = .ok (.iload_n 2, 1) := by decide +kernel
theorem dX4_remove_12 : decode cX4_remove 12 = .ok (.aload_n 0, 1) := by decide +kernel
theorem dX4_remove_13 : decode cX4_remove 13 = .ok (.getfield 15, 3) := by decide +kernel
theorem dX4_remove_16 : decode cX4_remove 16 = .ok (.arraylength, 1) := by decide +kernel
theorem dX4_remove_17 : decode cX4_remove 17 = .ok (.if_icmp .ge 27, 3) := by decide +kernel
theorem dX4_remove_20 : decode cX4_remove 20 = .ok (.aload_n 0, 1) := by decide +kernel
theorem dX4_remove_21 : decode cX4_remove 21 = .ok (.getfield 15, 3) := by decide +kernel
theorem dX4_remove_24 : decode cX4_remove 24 = .ok (.iload_n 2, 1) := by decide +kernel
theorem dX4_remove_25 : decode cX4_remove 25 = .ok (.iload_n 2, 1) := by decide +kernel
theorem dX4_remove_26 : decode cX4_remove 26 = .ok (.iload_n 1, 1) := by decide +kernel
theorem dX4_remove_27 : decode cX4_remove 27 = .ok (.if_icmp .ge 7, 3) := by decide +kernel
theorem dX4_remove_30 : decode cX4_remove 30 = .ok (.iload_n 2, 1) := by decide +kernel
theorem dX4_remove_31 : decode cX4_remove 31 = .ok (.goto 6, 3) := by decide +kernel
theorem dX4_remove_34 : decode cX4_remove 34 = .ok (.iload_n 2, 1) := by decide +kernel
theorem dX4_remove_35 : decode cX4_remove 35 = .ok (.iconst 1, 1) := by decide +kernel
theorem dX4_remove_36 : decode cX4_remove 36 = .ok (.isub, 1) := by decide +kernel
theorem dX4_remove_37 : decode cX4_remove 37 = .ok (.iastore, 1) := by decide +kernel
theorem dX4_remove_38 : decode cX4_remove 38 = .ok (.iinc 2 1, 3) := by decide +kernel
theorem dX4_remove_41 : decode cX4_remove 41 = .ok (.goto (-30), 3) := by decide +kernel
theorem dX4_remove_44 : decode cX4_remove 44 = .ok (.aload_n 0, 1) := by decide +kernel
theorem dX4_remove_45 : decode cX4_remove 45 = .ok (.getfield 15, 3) := by decide +kernel
theorem dX4_remove_48 : decode cX4_remove 48 = .ok (.iload_n 1, 1) := by decide +kernel
theorem dX4_remove_49 : decode cX4_remove 49 = .ok (.iconst (-1), 1) := by decide +kernel
theorem dX4_remove_50 : decode cX4_remove 50 = .ok (.iastore, 1) := by decide +kernel
theorem dX4_remove_51 : decode cX4_remove 51 = .ok (.aload_n 0, 1) := by decide +kernel
theorem dX4_remove_52 : decode cX4_remove 52 = .ok (.aload_n 0, 1) := by decide +kernel
theorem dX4_remove_53 : decode cX4_remove 53 = .ok (.getfield 21, 3) := by decide +kernel
theorem dX4_remove_56 : decode cX4_remove 56 = .ok (.iconst 1, 1) := by decide +kernel
theorem dX4_remove_57 : decode cX4_remove 57 = .ok (.isub, 1) := by decide +kernel
theorem dX4_remove_58 : decode cX4_remove 58 = .ok (.invokevirtual 36, 3) := by decide +kernel
theorem dX4_remove_61 : decode cX4_remove 61 = .ok (.return_, 1) := by decide +kernel
set_option maxRecDepth 20000 in
theorem ggX4_replace_X4_holds : GoodIn wsX4_replace wsX4_holds := goodIn_r _ [7, 8, 2, 9, 10, 11, 12] (by decide +kernel) (by decide +kernel)
set_option maxRecDepth 20000 in
theorem gX4_replace_X4_holds : GoodIn wsX4_replace (wsV RX4 25 RX4 yX4_holds wsX4_holds) := goodIn_app (goodIn_of _ (by decide +kernel)) ggX4_replace_X4_holds
theorem dX4_replace_0 : decode cX4_replace 0 = .ok (.aload_n 0, 1) := by decide +kernel
theorem dX4_replace_1 : decode cX4_replace 1 = .ok (.iload_n 1, 1) := by decide +kernel
theorem dX4_replace_2 : decode cX4_replace 2 = .ok (.invokevirtual 25, 3) := by decide +kernel
theorem dX4_replace_5 : decode cX4_replace 5 = .ok (.ifCond .ne 4, 3) := by decide +kernel
theorem dX4_replace_8 : decode cX4_replace 8 = .ok (.return_, 1) := by decide +kernel
theorem dX4_replace_9 : decode cX4_replace 9 = .ok (.iconst 0, 1) := by decide +kernel
theorem dX4_replace_10 : decode cX4_replace 10 = .ok (.istore_n 3, 1) := by decide +kernel
theorem dX4_replace_11 : decode cX4_replace 11 = .ok (.iload_n 3, 1) := by decide +kernel
theorem dX4_replace_12 : decode cX4_replace 12 = .ok (.aload_n 0, 1) := by decide +kernel
theorem dX4_replace_13 : decode cX4_replace 13 = .ok (.getfield 15, 3) := by decide +kernel
theorem dX4_replace_16 : decode cX4_replace 16 = .ok (.arraylength, 1) := by decide +kernel
theorem dX4_replace_17 : decode cX4_replace 17 = .ok (.if_icmp .ge 16, 3) := by decide +kernel
theorem dX4_replace_20 : decode cX4_replace 20 = .ok (.aload_n 0, 1) := by decide +kernel
theorem dX4_replace_21 : decode cX4_replace 21 = .ok (.getfield 15, 3) := by decide +kernel
theorem dX4_replace_24 : decode cX4_replace 24 = .ok (.iload_n 3, 1) := by decide +kernel
theorem dX4_replace_25 : decode cX4_replace 25 = .ok (.iload_n 3, 1) := by decide +kernel
theorem dX4_replace_26 : decode cX4_replace 26 = .ok (.iastore, 1) := by decide +kernel
theorem dX4_replace_27 : decode cX4_replace 27 = .ok (.iinc 3 1, 3) := by decide +kernel
theorem dX4_replace_30 : decode cX4_replace 30 = .ok (.goto (-19), 3) := by decide +kernel
theorem dX4_replace_33 : decode cX4_replace 33 = .ok (.aload_n 0, 1) := by decide +kernel
theorem dX4_replace_34 : decode cX4_replace 34 = .ok (.getfield 15, 3) := by decide +kernel
theorem dX4_replace_37 : decode cX4_replace 37 = .ok (.iload_n 1, 1) := by decide +kernel
theorem dX4_replace_38 : decode cX4_replace 38 = .ok (.iconst (-1), 1) := by decide +kernel
theorem dX4_replace_39 : decode cX4_replace 39 = .ok (.iastore, 1) := by decide +kernel
theorem dX4_replace_40 : decode cX4_replace 40 = .ok (.aload_n 0, 1) := by decide +kernel
theorem dX4_replace_41 : decode cX4_replace 41 = .ok (.getfield 9, 3) := by decide +kernel
theorem dX4_replace_44 : decode cX4_replace 44 = .ok (.iload_n 1, 1) := by decide +kernel
theorem dX4_replace_45 : decode cX4_replace 45 = .ok (.iload_n 2, 1) := by decide +kernel
theorem dX4_replace_46 : decode cX4_replace 46 = .ok (.iastore, 1) := by decide +kernel
theorem dX4_replace_47 : decode cX4_replace 47 = .ok (.return_, 1) := by decide +kernel
set_option maxRecDepth 20000 in
theorem ggX4_shift_X4_canShift : GoodIn wsX4_shift wsX4_canShift := goodIn_r _ [7, 2, 8, 9, 10, 6, 11, 12, 25, 26, 27, 28] (by decide +kernel) (by decide +kernel)
set_option maxRecDepth 20000 in
theorem gX4_shift_X4_canShift : GoodIn wsX4_shift (wsV RX4 40 RX4 yX4_canShift wsX4_canShift) := goodIn_app (goodIn_of _ (by decide +kernel)) ggX4_shift_X4_canShift
set_option maxRecDepth 20000 in
theorem ggX4_shift_X4_placeAfterShift : GoodIn wsX4_shift wsX4_placeAfterShift := goodIn_r _ [15] (by decide +kernel) (by decide +kernel)
set_option maxRecDepth 20000 in
theorem gX4_shift_X4_placeAfterShift : GoodIn wsX4_shift (va_wsS RX4 44 yX4_placeAfterShift wsX4_placeAfterShift) := goodIn_app (goodIn_of _ (by decide +kernel)) ggX4_shift_X4_placeAfterShift
set_option maxRecDepth 20000 in
theorem ggX4_shift_X4_relocate : GoodIn wsX4_shift wsX4_relocate := goodIn_r _ [19, 2, 12, 20, 21, 22, 23, 6, 24, 1, 25, 26, 27, 28] (by decide +kernel) (by decide +kernel)
set_option maxRecDepth 20000 in
theorem gX4_shift_X4_relocate : GoodIn wsX4_shift (wsV RX4 36 RX4 yX4_relocate wsX4_relocate) := goodIn_app (goodIn_of _ (by decide +kernel)) ggX4_shift_X4_relocate
theorem dX4_shift_0 : decode cX4_shift 0 = .ok (.aload_n 0, 1) := by decide +kernel
theorem dX4_shift_1 : decode cX4_shift 1 = .ok (.iload_n 1, 1) := by decide +kernel
theorem dX4_shift_2 : decode cX4_shift 2 = .ok (.iload_n 2, 1) := by decide +kernel
theorem dX4_shift_3 : decode cX4_shift 3 = .ok (.iload_n 3, 1) := by decide +kernel
theorem dX4_shift_4 : decode cX4_shift 4 = .ok (.invokevirtual 40, 3) := by decide +kernel
theorem dX4_shift_7 : decode cX4_shift 7 = .ok (.ifCond .ne 4, 3) := by decide +kernel
theorem dX4_shift_10 : decode cX4_shift 10 = .ok (.return_, 1) := by decide +kernel
theorem dX4_shift_11 : decode cX4_shift 11 = .ok (.iconst 0, 1) := by decide +kernel
theorem dX4_shift_12 : decode cX4_shift 12 = .ok (.istore 4, 2) := by decide +kernel
theorem dX4_shift_14 : decode cX4_shift 14 = .ok (.iload 4, 2) := by decide +kernel
theorem dX4_shift_16 : decode cX4_shift 16 = .ok (.aload_n 0, 1) := by decide +kernel
theorem dX4_shift_17 : decode cX4_shift 17 = .ok (.getfield 15, 3) := by decide +kernel
theorem dX4_shift_20 : decode cX4_shift 20 = .ok (.arraylength, 1) := by decide +kernel
theorem dX4_shift_21 : decode cX4_shift 21 = .ok (.if_icmp .ge 24, 3) := by decide +kernel
theorem dX4_shift_24 : decode cX4_shift 24 = .ok (.aload_n 0, 1) := by decide +kernel
theorem dX4_shift_25 : decode cX4_shift 25 = .ok (.getfield 15, 3) := by decide +kernel
theorem dX4_shift_28 : decode cX4_shift 28 = .ok (.iload 4, 2) := by decide +kernel
theorem dX4_shift_30 : decode cX4_shift 30 = .ok (.iload 4, 2) := by decide +kernel
theorem dX4_shift_32 : decode cX4_shift 32 = .ok (.iload_n 1, 1) := by decide +kernel
theorem dX4_shift_33 : decode cX4_shift 33 = .ok (.iload_n 2, 1) := by decide +kernel
theorem dX4_shift_34 : decode cX4_shift 34 = .ok (.iload_n 3, 1) := by decide +kernel
theorem dX4_shift_35 : decode cX4_shift 35 = .ok (.invokestatic 44, 3) := by decide +kernel
theorem dX4_shift_38 : decode cX4_shift 38 = .ok (.iastore, 1) := by decide +kernel
theorem dX4_shift_39 : decode cX4_shift 39 = .ok (.iinc 4 1, 3) := by decide +kernel
theorem dX4_shift_42 : decode cX4_shift 42 = .ok (.goto (-28), 3) := by decide +kernel
theorem dX4_shift_45 : decode cX4_shift 45 = .ok (.aload_n 0, 1) := by decide +kernel
theorem dX4_shift_46 : decode cX4_shift 46 = .ok (.aload_n 0, 1) := by decide +kernel
theorem dX4_shift_47 : decode cX4_shift 47 = .ok (.getfield 21, 3) := by decide +kernel
theorem dX4_shift_50 : decode cX4_shift 50 = .ok (.invokevirtual 36, 3) := by decide +kernel
theorem dX4_shift_53 : decode cX4_shift 53 = .ok (.return_, 1) := by decide +kernel
theorem dX4_placeAfterShift_0 : decode cX4_placeAfterShift 0 = .ok (.iload_n 0, 1) := by decide +kernel
theorem dX4_placeAfterShift_1 : decode cX4_placeAfterShift 1 = .ok (.iload_n 1, 1) := by decide +kernel
theorem dX4_placeAfterShift_2 : decode cX4_placeAfterShift 2 = .ok (.if_icmp .lt 16, 3) := by decide +kernel
theorem dX4_placeAfterShift_5 : decode cX4_placeAfterShift 5 = .ok (.iload_n 0, 1) := by decide +kernel
theorem dX4_placeAfterShift_6 : decode cX4_placeAfterShift 6 = .ok (.iload_n 1, 1) := by decide +kernel
theorem dX4_placeAfterShift_7 : decode cX4_placeAfterShift 7 = .ok (.iload_n 2, 1) := by decide +kernel
theorem dX4_placeAfterShift_8 : decode cX4_placeAfterShift 8 = .ok (.iadd, 1) := by decide +kernel
theorem dX4_placeAfterShift_9 : decode cX4_placeAfterShift 9 = .ok (.if_icmp .ge 9, 3) := by decide +kernel
theorem dX4_placeAfterShift_12 : decode cX4_placeAfterShift 12 = .ok (.iload_n 0, 1) := by decide +kernel
theorem dX4_placeAfterShift_13 : decode cX4_placeAfterShift 13 = .ok (.iload_n 1, 1) := by decide +kernel
theorem dX4_placeAfterShift_14 : decode cX4_placeAfterShift 14 = .ok (.isub, 1) := by decide +kernel
theorem dX4_placeAfterShift_15 : decode cX4_placeAfterShift 15 = .ok (.iload_n 3, 1) := by decide +kernel
theorem dX4_placeAfterShift_16 : decode cX4_placeAfterShift 16 = .ok (.iadd, 1) := by decide +kernel
theorem dX4_placeAfterShift_17 : decode cX4_placeAfterShift 17 = .ok (.ireturn, 1) := by decide +kernel
theorem dX4_placeAfterShift_18 : decode cX4_placeAfterShift 18 = .ok (.iload_n 0, 1) := by decide +kernel
theorem dX4_placeAfterShift_19 : decode cX4_placeAfterShift 19 = .ok (.iload_n 1, 1) := by decide +kernel
theorem dX4_placeAfterShift_20 : decode cX4_placeAfterShift 20 = .ok (.if_icmp .ge 7, 3) := by decide +kernel
theorem dX4_placeAfterShift_23 : decode cX4_placeAfterShift 23 = .ok (.iload_n 0, 1) := by decide +kernel
theorem dX4_placeAfterShift_24 : decode cX4_placeAfterShift 24 = .ok (.goto 6, 3) := by decide +kernel
theorem dX4_placeAfterShift_27 : decode cX4_placeAfterShift 27 = .ok (.iload_n 0, 1) := by decide +kernel
theorem dX4_placeAfterShift_28 : decode cX4_placeAfterShift 28 = .ok (.iload_n 2, 1) := by decide +kernel
theorem dX4_placeAfterShift_29 : decode cX4_placeAfterShift 29 = .ok (.isub, 1) := by decide +kernel
theorem dX4_placeAfterShift_30 : decode cX4_placeAfterShift 30 = .ok (.istore 4, 2) := by decide +kernel
theorem dX4_placeAfterShift_32 : decode cX4_placeAfterShift 32 = .ok (.iload 4, 2) := by decide +kernel
theorem dX4_placeAfterShift_34 : decode cX4_placeAfterShift 34 = .ok (.iload_n 3, 1) := by decide +kernel
theorem dX4_placeAfterShift_35 : decode cX4_placeAfterShift 35 = .ok (.if_icmp .ge 8, 3) := by decide +kernel
theorem dX4_placeAfterShift_38 : decode cX4_placeAfterShift 38 = .ok (.iload 4, 2) := by decide +kernel
theorem dX4_placeAfterShift_40 : decode cX4_placeAfterShift 40 = .ok (.goto 7, 3) := by decide +kernel
theorem dX4_placeAfterShift_43 : decode cX4_placeAfterShift 43 = .ok (.iload 4, 2) := by decide +kernel
theorem dX4_placeAfterShift_45 : decode cX4_placeAfterShift 45 = .ok (.iload_n 2, 1) := by decide +kernel
theorem dX4_placeAfterShift_46 : decode cX4_placeAfterShift 46 = .ok (.iadd, 1) := by decide +kernel
theorem dX4_placeAfterShift_47 : decode cX4_placeAfterShift 47 = .ok (.ireturn, 1) := by decide +kernel
set_option maxRecDepth 20000 in
theorem ggX4_relocate_X4_targetOf : GoodIn wsX4_relocate wsX4_targetOf := goodIn_r _ [8, 9, 10, 11, 12, 13] (by decide +kernel) (by decide +kernel)
set_option maxRecDepth 20000 in
theorem gX4_relocate_X4_targetOf : GoodIn wsX4_relocate (wsV RX4 48 RX4 yX4_targetOf wsX4_targetOf) := goodIn_app (goodIn_of _ (by decide +kernel)) ggX4_relocate_X4_targetOf
theorem dX4_relocate_0 : decode cX4_relocate 0 = .ok (.iconst 0, 1) := by decide +kernel
theorem dX4_relocate_1 : decode cX4_relocate 1 = .ok (.istore_n 2, 1) := by decide +kernel
theorem dX4_relocate_2 : decode cX4_relocate 2 = .ok (.iload_n 2, 1) := by decide +kernel
theorem dX4_relocate_3 : decode cX4_relocate 3 = .ok (.aload_n 0, 1) := by decide +kernel
theorem dX4_relocate_4 : decode cX4_relocate 4 = .ok (.getfield 21, 3) := by decide +kernel
theorem dX4_relocate_7 : decode cX4_relocate 7 = .ok (.if_icmp .ge 49, 3) := by decide +kernel
theorem dX4_relocate_10 : decode cX4_relocate 10 = .ok (.iload_n 2, 1) := by decide +kernel
theorem dX4_relocate_11 : decode cX4_relocate 11 = .ok (.aload_n 0, 1) := by decide +kernel
theorem dX4_relocate_12 : decode cX4_relocate 12 = .ok (.getfield 9, 3) := by decide +kernel
theorem dX4_relocate_15 : decode cX4_relocate 15 = .ok (.arraylength, 1) := by decide +kernel
theorem dX4_relocate_16 : decode cX4_relocate 16 = .ok (.if_icmp .ge 40, 3) := by decide +kernel
theorem dX4_relocate_19 : decode cX4_relocate 19 = .ok (.aload_n 0, 1) := by decide +kernel
theorem dX4_relocate_20 : decode cX4_relocate 20 = .ok (.iload_n 2, 1) := by decide +kernel
theorem dX4_relocate_21 : decode cX4_relocate 21 = .ok (.invokevirtual 48, 3) := by decide +kernel
theorem dX4_relocate_24 : decode cX4_relocate 24 = .ok (.istore_n 3, 1) := by decide +kernel
theorem dX4_relocate_25 : decode cX4_relocate 25 = .ok (.iload_n 3, 1) := by decide +kernel
theorem dX4_relocate_26 : decode cX4_relocate 26 = .ok (.ifCond .lt 24, 3) := by decide +kernel
theorem dX4_relocate_29 : decode cX4_relocate 29 = .ok (.iload_n 3, 1) := by decide +kernel
theorem dX4_relocate_30 : decode cX4_relocate 30 = .ok (.aload_n 0, 1) := by decide +kernel
theorem dX4_relocate_31 : decode cX4_relocate 31 = .ok (.getfield 18, 3) := by decide +kernel
theorem dX4_relocate_34 : decode cX4_relocate 34 = .ok (.arraylength, 1) := by decide +kernel
theorem dX4_relocate_35 : decode cX4_relocate 35 = .ok (.if_icmp .ge 15, 3) := by decide +kernel
theorem dX4_relocate_38 : decode cX4_relocate 38 = .ok (.aload_n 0, 1) := by decide +kernel
theorem dX4_relocate_39 : decode cX4_relocate 39 = .ok (.getfield 18, 3) := by decide +kernel
theorem dX4_relocate_42 : decode cX4_relocate 42 = .ok (.iload_n 3, 1) := by decide +kernel
theorem dX4_relocate_43 : decode cX4_relocate 43 = .ok (.aload_n 0, 1) := by decide +kernel
theorem dX4_relocate_44 : decode cX4_relocate 44 = .ok (.getfield 9, 3) := by decide +kernel
theorem dX4_relocate_47 : decode cX4_relocate 47 = .ok (.iload_n 2, 1) := by decide +kernel
theorem dX4_relocate_48 : decode cX4_relocate 48 = .ok (.iaload, 1) := by decide +kernel
theorem dX4_relocate_49 : decode cX4_relocate 49 = .ok (.iastore, 1) := by decide +kernel
theorem dX4_relocate_50 : decode cX4_relocate 50 = .ok (.iinc 2 1, 3) := by decide +kernel
theorem dX4_relocate_53 : decode cX4_relocate 53 = .ok (.goto (-51), 3) := by decide +kernel
theorem dX4_relocate_56 : decode cX4_relocate 56 = .ok (.iconst 0, 1) := by decide +kernel
theorem dX4_relocate_57 : decode cX4_relocate 57 = .ok (.istore_n 2, 1) := by decide +kernel
theorem dX4_relocate_58 : decode cX4_relocate 58 = .ok (.iload_n 2, 1) := by decide +kernel
theorem dX4_relocate_59 : decode cX4_relocate 59 = .ok (.iload_n 1, 1) := by decide +kernel
theorem dX4_relocate_60 : decode cX4_relocate 60 = .ok (.if_icmp .ge 30, 3) := by decide +kernel
theorem dX4_relocate_63 : decode cX4_relocate 63 = .ok (.iload_n 2, 1) := by decide +kernel
theorem dX4_relocate_64 : decode cX4_relocate 64 = .ok (.aload_n 0, 1) := by decide +kernel
theorem dX4_relocate_65 : decode cX4_relocate 65 = .ok (.getfield 9, 3) := by decide +kernel
theorem dX4_relocate_68 : decode cX4_relocate 68 = .ok (.arraylength, 1) := by decide +kernel
theorem dX4_relocate_69 : decode cX4_relocate 69 = .ok (.if_icmp .ge 21, 3) := by decide +kernel
theorem dX4_relocate_72 : decode cX4_relocate 72 = .ok (.aload_n 0, 1) := by decide +kernel
theorem dX4_relocate_73 : decode cX4_relocate 73 = .ok (.getfield 9, 3) := by decide +kernel
theorem dX4_relocate_76 : decode cX4_relocate 76 = .ok (.iload_n 2, 1) := by decide +kernel
theorem dX4_relocate_77 : decode cX4_relocate 77 = .ok (.aload_n 0, 1) := by decide +kernel
theorem dX4_relocate_78 : decode cX4_relocate 78 = .ok (.getfield 18, 3) := by decide +kernel
theorem dX4_relocate_81 : decode cX4_relocate 81 = .ok (.iload_n 2, 1) := by decide +kernel
theorem dX4_relocate_82 : decode cX4_relocate 82 = .ok (.iaload, 1) := by decide +kernel
theorem dX4_relocate_83 : decode cX4_relocate 83 = .ok (.iastore, 1) := by decide +kernel
theorem dX4_relocate_84 : decode cX4_relocate 84 = .ok (.iinc 2 1, 3) := by decide +kernel
theorem dX4_relocate_87 : decode cX4_relocate 87 = .ok (.goto (-29), 3) := by decide +kernel
theorem dX4_relocate_90 : decode cX4_relocate 90 = .ok (.aload_n 0, 1) := by decide +kernel
theorem dX4_relocate_91 : decode cX4_relocate 91 = .ok (.iload_n 1, 1) := by decide +kernel
theorem dX4_relocate_92 : decode cX4_relocate 92 = .ok (.putfield 21, 3) := by decide +kernel
theorem dX4_relocate_95 : decode cX4_relocate 95 = .ok (.return_, 1) := by decide +kernel
theorem dX4_targetOf_0 : decode cX4_targetOf 0 = .ok (.iload_n 1, 1) := by decide +kernel
theorem dX4_targetOf_1 : decode cX4_targetOf 1 = .ok (.ifCond .lt 21, 3) := by decide +kernel
theorem dX4_targetOf_4 : decode cX4_targetOf 4 = .ok (.iload_n 1, 1) := by decide +kernel
theorem dX4_targetOf_5 : decode cX4_targetOf 5 = .ok (.aload_n 0, 1) := by decide +kernel
theorem dX4_targetOf_6 : decode cX4_targetOf 6 = .ok (.getfield 15, 3) := by decide +kernel
theorem dX4_targetOf_9 : decode cX4_targetOf 9 = .ok (.arraylength, 1) := by decide +kernel
theorem dX4_targetOf_10 : decode cX4_targetOf 10 = .ok (.if_icmp .ge 12, 3) := by decide +kernel
theorem dX4_targetOf_13 : decode cX4_targetOf 13 = .ok (.aload_n 0, 1) := by decide +kernel
theorem dX4_targetOf_14 : decode cX4_targetOf 14 = .ok (.getfield 15, 3) := by decide +kernel
theorem dX4_targetOf_17 : decode cX4_targetOf 17 = .ok (.iload_n 1, 1) := by decide +kernel
theorem dX4_targetOf_18 : decode cX4_targetOf 18 = .ok (.iaload, 1) := by decide +kernel
theorem dX4_targetOf_19 : decode cX4_targetOf 19 = .ok (.goto 4, 3) := by decide +kernel
theorem dX4_targetOf_22 : decode cX4_targetOf 22 = .ok (.iconst (-1), 1) := by decide +kernel
theorem dX4_targetOf_23 : decode cX4_targetOf 23 = .ok (.ireturn, 1) := by decide +kernel
set_option maxRecDepth 20000 in
theorem ggX4_wordsElsewhere_X4_targetOf : GoodIn wsX4_wordsElsewhere wsX4_targetOf := goodIn_r _ [6, 7, 8, 9, 10, 11] (by decide +kernel) (by decide +kernel)
set_option maxRecDepth 20000 in
theorem gX4_wordsElsewhere_X4_targetOf : GoodIn wsX4_wordsElsewhere (wsV RX4 48 RX4 yX4_targetOf wsX4_targetOf) := goodIn_app (goodIn_of _ (by decide +kernel)) ggX4_wordsElsewhere_X4_targetOf
theorem dX4_wordsElsewhere_0 : decode cX4_wordsElsewhere 0 = .ok (.iconst 0, 1) := by decide +kernel
theorem dX4_wordsElsewhere_1 : decode cX4_wordsElsewhere 1 = .ok (.istore_n 1, 1) := by decide +kernel
theorem dX4_wordsElsewhere_2 : decode cX4_wordsElsewhere 2 = .ok (.iconst 0, 1) := by decide +kernel
theorem dX4_wordsElsewhere_3 : decode cX4_wordsElsewhere 3 = .ok (.istore_n 2, 1) := by decide +kernel
theorem dX4_wordsElsewhere_4 : decode cX4_wordsElsewhere 4 = .ok (.iload_n 2, 1) := by decide +kernel
theorem dX4_wordsElsewhere_5 : decode cX4_wordsElsewhere 5 = .ok (.aload_n 0, 1) := by decide +kernel
theorem dX4_wordsElsewhere_6 : decode cX4_wordsElsewhere 6 = .ok (.getfield 21, 3) := by decide +kernel
theorem dX4_wordsElsewhere_9 : decode cX4_wordsElsewhere 9 = .ok (.if_icmp .ge 21, 3) := by decide +kernel
theorem dX4_wordsElsewhere_12 : decode cX4_wordsElsewhere 12 = .ok (.aload_n 0, 1) := by decide +kernel
theorem dX4_wordsElsewhere_13 : decode cX4_wordsElsewhere 13 = .ok (.iload_n 2, 1) := by decide +kernel
theorem dX4_wordsElsewhere_14 : decode cX4_wordsElsewhere 14 = .ok (.invokevirtual 48, 3) := by decide +kernel
theorem dX4_wordsElsewhere_17 : decode cX4_wordsElsewhere 17 = .ok (.iload_n 2, 1) := by decide +kernel
theorem dX4_wordsElsewhere_18 : decode cX4_wordsElsewhere 18 = .ok (.if_icmp .eq 6, 3) := by decide +kernel
theorem dX4_wordsElsewhere_21 : decode cX4_wordsElsewhere 21 = .ok (.iinc 1 1, 3) := by decide +kernel
theorem dX4_wordsElsewhere_24 : decode cX4_wordsElsewhere 24 = .ok (.iinc 2 1, 3) := by decide +kernel
theorem dX4_wordsElsewhere_27 : decode cX4_wordsElsewhere 27 = .ok (.goto (-23), 3) := by decide +kernel
theorem dX4_wordsElsewhere_30 : decode cX4_wordsElsewhere 30 = .ok (.iload_n 1, 1) := by decide +kernel
theorem dX4_wordsElsewhere_31 : decode cX4_wordsElsewhere 31 = .ok (.ireturn, 1) := by decide +kernel
set_option maxRecDepth 20000 in
theorem ggX4_unlikeWords_X4_standsAhead : GoodIn wsX4_unlikeWords wsX4_standsAhead := goodIn_r _ [6, 7, 8, 9, 5, 10, 1, 11, 12, 13, 14, 15] (by decide +kernel) (by decide +kernel)
set_option maxRecDepth 20000 in
theorem gX4_unlikeWords_X4_standsAhead : GoodIn wsX4_unlikeWords (wsV RX4 52 RX4 yX4_standsAhead wsX4_standsAhead) := goodIn_app (goodIn_of _ (by decide +kernel)) ggX4_unlikeWords_X4_standsAhead
theorem dX4_unlikeWords_0 : decode cX4_unlikeWords 0 = .ok (.iconst 0, 1) := by decide +kernel
theorem dX4_unlikeWords_1 : decode cX4_unlikeWords 1 = .ok (.istore_n 1, 1) := by decide +kernel
theorem dX4_unlikeWords_2 : decode cX4_unlikeWords 2 = .ok (.iconst 0, 1) := by decide +kernel
theorem dX4_unlikeWords_3 : decode cX4_unlikeWords 3 = .ok (.istore_n 2, 1) := by decide +kernel
theorem dX4_unlikeWords_4 : decode cX4_unlikeWords 4 = .ok (.iload_n 2, 1) := by decide +kernel
theorem dX4_unlikeWords_5 : decode cX4_unlikeWords 5 = .ok (.aload_n 0, 1) := by decide +kernel
theorem dX4_unlikeWords_6 : decode cX4_unlikeWords 6 = .ok (.getfield 21, 3) := by decide +kernel
theorem dX4_unlikeWords_9 : decode cX4_unlikeWords 9 = .ok (.if_icmp .ge 20, 3) := by decide +kernel
theorem dX4_unlikeWords_12 : decode cX4_unlikeWords 12 = .ok (.aload_n 0, 1) := by decide +kernel
theorem dX4_unlikeWords_13 : decode cX4_unlikeWords 13 = .ok (.iload_n 2, 1) := by decide +kernel
theorem dX4_unlikeWords_14 : decode cX4_unlikeWords 14 = .ok (.invokevirtual 52, 3) := by decide +kernel
theorem dX4_unlikeWords_17 : decode cX4_unlikeWords 17 = .ok (.ifCond .ne 6, 3) := by decide +kernel
theorem dX4_unlikeWords_20 : decode cX4_unlikeWords 20 = .ok (.iinc 1 1, 3) := by decide +kernel
theorem dX4_unlikeWords_23 : decode cX4_unlikeWords 23 = .ok (.iinc 2 1, 3) := by decide +kernel
theorem dX4_unlikeWords_26 : decode cX4_unlikeWords 26 = .ok (.goto (-22), 3) := by decide +kernel
theorem dX4_unlikeWords_29 : decode cX4_unlikeWords 29 = .ok (.iload_n 1, 1) := by decide +kernel
theorem dX4_unlikeWords_30 : decode cX4_unlikeWords 30 = .ok (.ireturn, 1) := by decide +kernel
set_option maxRecDepth 20000 in
theorem ggX4_standsAhead_X4_at : GoodIn wsX4_standsAhead wsX4_at := goodIn_r _ [5, 6, 7, 8, 9, 10, 11] (by decide +kernel) (by decide +kernel)
set_option maxRecDepth 20000 in
theorem gX4_standsAhead_X4_at : GoodIn wsX4_standsAhead (wsV RX4 55 RX4 yX4_at wsX4_at) := goodIn_app (goodIn_of _ (by decide +kernel)) ggX4_standsAhead_X4_at
theorem dX4_standsAhead_0 : decode cX4_standsAhead 0 = .ok (.iconst 0, 1) := by decide +kernel
theorem dX4_standsAhead_1 : decode cX4_standsAhead 1 = .ok (.istore_n 2, 1) := by decide +kernel
theorem dX4_standsAhead_2 : decode cX4_standsAhead 2 = .ok (.iload_n 2, 1) := by decide +kernel
theorem dX4_standsAhead_3 : decode cX4_standsAhead 3 = .ok (.iload_n 1, 1) := by decide +kernel
theorem dX4_standsAhead_4 : decode cX4_standsAhead 4 = .ok (.if_icmp .ge 24, 3) := by decide +kernel
theorem dX4_standsAhead_7 : decode cX4_standsAhead 7 = .ok (.aload_n 0, 1) := by decide +kernel
theorem dX4_standsAhead_8 : decode cX4_standsAhead 8 = .ok (.iload_n 2, 1) := by decide +kernel
theorem dX4_standsAhead_9 : decode cX4_standsAhead 9 = .ok (.invokevirtual 55, 3) := by decide +kernel
theorem dX4_standsAhead_12 : decode cX4_standsAhead 12 = .ok (.aload_n 0, 1) := by decide +kernel
theorem dX4_standsAhead_13 : decode cX4_standsAhead 13 = .ok (.iload_n 1, 1) := by decide +kernel
theorem dX4_standsAhead_14 : decode cX4_standsAhead 14 = .ok (.invokevirtual 55, 3) := by decide +kernel
theorem dX4_standsAhead_17 : decode cX4_standsAhead 17 = .ok (.if_icmp .ne 5, 3) := by decide +kernel
theorem dX4_standsAhead_20 : decode cX4_standsAhead 20 = .ok (.iconst 1, 1) := by decide +kernel
theorem dX4_standsAhead_21 : decode cX4_standsAhead 21 = .ok (.ireturn, 1) := by decide +kernel
theorem dX4_standsAhead_22 : decode cX4_standsAhead 22 = .ok (.iinc 2 1, 3) := by decide +kernel
theorem dX4_standsAhead_25 : decode cX4_standsAhead 25 = .ok (.goto (-23), 3) := by decide +kernel
theorem dX4_standsAhead_28 : decode cX4_standsAhead 28 = .ok (.iconst 0, 1) := by decide +kernel
theorem dX4_standsAhead_29 : decode cX4_standsAhead 29 = .ok (.ireturn, 1) := by decide +kernel
set_option maxRecDepth 20000 in
theorem ggX4_copyFrom_X4_at : GoodIn wsX4_copyFrom wsX4_at := goodIn_r _ [7, 2, 1, 8, 9, 10, 11] (by decide +kernel) (by decide +kernel)
set_option maxRecDepth 20000 in
theorem gX4_copyFrom_X4_at : GoodIn wsX4_copyFrom (wsV RX4 55 RX4 yX4_at wsX4_at) := goodIn_app (goodIn_of _ (by decide +kernel)) ggX4_copyFrom_X4_at
theorem dX4_copyFrom_0 : decode cX4_copyFrom 0 = .ok (.iconst 0, 1) := by decide +kernel
theorem dX4_copyFrom_1 : decode cX4_copyFrom 1 = .ok (.istore_n 2, 1) := by decide +kernel
theorem dX4_copyFrom_2 : decode cX4_copyFrom 2 = .ok (.iload_n 2, 1) := by decide +kernel
theorem dX4_copyFrom_3 : decode cX4_copyFrom 3 = .ok (.aload_n 0, 1) := by decide +kernel
theorem dX4_copyFrom_4 : decode cX4_copyFrom 4 = .ok (.getfield 9, 3) := by decide +kernel
theorem dX4_copyFrom_7 : decode cX4_copyFrom 7 = .ok (.arraylength, 1) := by decide +kernel
theorem dX4_copyFrom_8 : decode cX4_copyFrom 8 = .ok (.if_icmp .ge 20, 3) := by decide +kernel
theorem dX4_copyFrom_11 : decode cX4_copyFrom 11 = .ok (.aload_n 0, 1) := by decide +kernel
theorem dX4_copyFrom_12 : decode cX4_copyFrom 12 = .ok (.getfield 9, 3) := by decide +kernel
theorem dX4_copyFrom_15 : decode cX4_copyFrom 15 = .ok (.iload_n 2, 1) := by decide +kernel
theorem dX4_copyFrom_16 : decode cX4_copyFrom 16 = .ok (.aload_n 1, 1) := by decide +kernel
theorem dX4_copyFrom_17 : decode cX4_copyFrom 17 = .ok (.iload_n 2, 1) := by decide +kernel
theorem dX4_copyFrom_18 : decode cX4_copyFrom 18 = .ok (.invokevirtual 55, 3) := by decide +kernel
theorem dX4_copyFrom_21 : decode cX4_copyFrom 21 = .ok (.iastore, 1) := by decide +kernel
theorem dX4_copyFrom_22 : decode cX4_copyFrom 22 = .ok (.iinc 2 1, 3) := by decide +kernel
theorem dX4_copyFrom_25 : decode cX4_copyFrom 25 = .ok (.goto (-23), 3) := by decide +kernel
theorem dX4_copyFrom_28 : decode cX4_copyFrom 28 = .ok (.aload_n 0, 1) := by decide +kernel
theorem dX4_copyFrom_29 : decode cX4_copyFrom 29 = .ok (.aload_n 1, 1) := by decide +kernel
theorem dX4_copyFrom_30 : decode cX4_copyFrom 30 = .ok (.getfield 21, 3) := by decide +kernel
theorem dX4_copyFrom_33 : decode cX4_copyFrom 33 = .ok (.putfield 21, 3) := by decide +kernel
theorem dX4_copyFrom_36 : decode cX4_copyFrom 36 = .ok (.return_, 1) := by decide +kernel
set_option maxRecDepth 20000 in
theorem ggX5_init_X4_init : GoodIn wsX5_init wsX4_init := goodIn_r _ [15, 16, 2, 3, 10, 17, 18, 19, 24, 25, 26, 27] (by decide +kernel) (by decide +kernel)
set_option maxRecDepth 20000 in
theorem gX5_init_X4_init_n11 : GoodIn wsX5_init (wsX4_init) := ggX5_init_X4_init
set_option maxRecDepth 20000 in
theorem ggX5_init_X0_init : GoodIn wsX5_init wsX0_init := goodIn_r _ [21, 22, 2, 3, 10, 23, 33, 34, 35] (by decide +kernel) (by decide +kernel)
set_option maxRecDepth 20000 in
theorem gX5_init_X0_init_n28 : GoodIn wsX5_init (wsX0_init) := ggX5_init_X0_init
theorem dX5_init_0 : decode cX5_init 0 = .ok (.aload_n 0, 1) := by decide +kernel
theorem dX5_init_1 : decode cX5_init 1 = .ok (.invokespecial 3, 3) := by decide +kernel
theorem dX5_init_4 : decode cX5_init 4 = .ok (.aload_n 0, 1) := by decide +kernel
theorem dX5_init_5 : decode cX5_init 5 = .ok (.new 9, 3) := by decide +kernel
theorem dX5_init_8 : decode cX5_init 8 = .ok (.dup, 1) := by decide +kernel
theorem dX5_init_9 : decode cX5_init 9 = .ok (.invokespecial 11, 3) := by decide +kernel
theorem dX5_init_12 : decode cX5_init 12 = .ok (.putfield 12, 3) := by decide +kernel
theorem dX5_init_15 : decode cX5_init 15 = .ok (.aload_n 0, 1) := by decide +kernel
theorem dX5_init_16 : decode cX5_init 16 = .ok (.bipush 6, 2) := by decide +kernel
theorem dX5_init_18 : decode cX5_init 18 = .ok (.anewarray 18, 3) := by decide +kernel
theorem dX5_init_21 : decode cX5_init 21 = .ok (.putfield 20, 3) := by decide +kernel
theorem dX5_init_24 : decode cX5_init 24 = .ok (.aload_n 0, 1) := by decide +kernel
theorem dX5_init_25 : decode cX5_init 25 = .ok (.iconst 5, 1) := by decide +kernel
theorem dX5_init_26 : decode cX5_init 26 = .ok (.newarray .int, 2) := by decide +kernel
theorem dX5_init_28 : decode cX5_init 28 = .ok (.dup, 1) := by decide +kernel
theorem dX5_init_29 : decode cX5_init 29 = .ok (.iconst 0, 1) := by decide +kernel
theorem dX5_init_30 : decode cX5_init 30 = .ok (.bipush 6, 2) := by decide +kernel
theorem dX5_init_32 : decode cX5_init 32 = .ok (.iastore, 1) := by decide +kernel
theorem dX5_init_33 : decode cX5_init 33 = .ok (.dup, 1) := by decide +kernel
theorem dX5_init_34 : decode cX5_init 34 = .ok (.iconst 1, 1) := by decide +kernel
theorem dX5_init_35 : decode cX5_init 35 = .ok (.iconst 3, 1) := by decide +kernel
theorem dX5_init_36 : decode cX5_init 36 = .ok (.iastore, 1) := by decide +kernel
theorem dX5_init_37 : decode cX5_init 37 = .ok (.dup, 1) := by decide +kernel
theorem dX5_init_38 : decode cX5_init 38 = .ok (.iconst 2, 1) := by decide +kernel
theorem dX5_init_39 : decode cX5_init 39 = .ok (.iconst 1, 1) := by decide +kernel
theorem dX5_init_40 : decode cX5_init 40 = .ok (.iastore, 1) := by decide +kernel
theorem dX5_init_41 : decode cX5_init 41 = .ok (.dup, 1) := by decide +kernel
theorem dX5_init_42 : decode cX5_init 42 = .ok (.iconst 3, 1) := by decide +kernel
theorem dX5_init_43 : decode cX5_init 43 = .ok (.iconst 5, 1) := by decide +kernel
theorem dX5_init_44 : decode cX5_init 44 = .ok (.iastore, 1) := by decide +kernel
theorem dX5_init_45 : decode cX5_init 45 = .ok (.dup, 1) := by decide +kernel
theorem dX5_init_46 : decode cX5_init 46 = .ok (.iconst 4, 1) := by decide +kernel
theorem dX5_init_47 : decode cX5_init 47 = .ok (.iconst 2, 1) := by decide +kernel
theorem dX5_init_48 : decode cX5_init 48 = .ok (.iastore, 1) := by decide +kernel
theorem dX5_init_49 : decode cX5_init 49 = .ok (.putfield 24, 3) := by decide +kernel
theorem dX5_init_52 : decode cX5_init 52 = .ok (.iconst 0, 1) := by decide +kernel
theorem dX5_init_53 : decode cX5_init 53 = .ok (.istore_n 1, 1) := by decide +kernel
theorem dX5_init_54 : decode cX5_init 54 = .ok (.iload_n 1, 1) := by decide +kernel
theorem dX5_init_55 : decode cX5_init 55 = .ok (.aload_n 0, 1) := by decide +kernel
theorem dX5_init_56 : decode cX5_init 56 = .ok (.getfield 20, 3) := by decide +kernel
theorem dX5_init_59 : decode cX5_init 59 = .ok (.arraylength, 1) := by decide +kernel
theorem dX5_init_60 : decode cX5_init 60 = .ok (.if_icmp .ge 22, 3) := by decide +kernel
theorem dX5_init_63 : decode cX5_init 63 = .ok (.aload_n 0, 1) := by decide +kernel
theorem dX5_init_64 : decode cX5_init 64 = .ok (.getfield 20, 3) := by decide +kernel
theorem dX5_init_67 : decode cX5_init 67 = .ok (.iload_n 1, 1) := by decide +kernel
theorem dX5_init_68 : decode cX5_init 68 = .ok (.new 18, 3) := by decide +kernel
theorem dX5_init_71 : decode cX5_init 71 = .ok (.dup, 1) := by decide +kernel
theorem dX5_init_72 : decode cX5_init 72 = .ok (.invokespecial 28, 3) := by decide +kernel
theorem dX5_init_75 : decode cX5_init 75 = .ok (.aastore, 1) := by decide +kernel
theorem dX5_init_76 : decode cX5_init 76 = .ok (.iinc 1 1, 3) := by decide +kernel
theorem dX5_init_79 : decode cX5_init 79 = .ok (.goto (-25), 3) := by decide +kernel
theorem dX5_init_82 : decode cX5_init 82 = .ok (.return_, 1) := by decide +kernel
theorem dX5_anchorCount_0 : decode cX5_anchorCount 0 = .ok (.aload_n 0, 1) := by decide +kernel
theorem dX5_anchorCount_1 : decode cX5_anchorCount 1 = .ok (.getfield 29, 3) := by decide +kernel
theorem dX5_anchorCount_4 : decode cX5_anchorCount 4 = .ok (.ireturn, 1) := by decide +kernel
theorem dX5_edits_0 : decode cX5_edits 0 = .ok (.aload_n 0, 1) := by decide +kernel
theorem dX5_edits_1 : decode cX5_edits 1 = .ok (.getfield 33, 3) := by decide +kernel
theorem dX5_edits_4 : decode cX5_edits 4 = .ok (.ireturn, 1) := by decide +kernel
theorem dX5_setting_0 : decode cX5_setting 0 = .ok (.iload_n 1, 1) := by decide +kernel
theorem dX5_setting_1 : decode cX5_setting 1 = .ok (.ifCond .lt 21, 3) := by decide +kernel
theorem dX5_setting_4 : decode cX5_setting 4 = .ok (.iload_n 1, 1) := by decide +kernel
theorem dX5_setting_5 : decode cX5_setting 5 = .ok (.aload_n 0, 1) := by decide +kernel
theorem dX5_setting_6 : decode cX5_setting 6 = .ok (.getfield 24, 3) := by decide +kernel
theorem dX5_setting_9 : decode cX5_setting 9 = .ok (.arraylength, 1) := by decide +kernel
theorem dX5_setting_10 : decode cX5_setting 10 = .ok (.if_icmp .ge 12, 3) := by decide +kernel
theorem dX5_setting_13 : decode cX5_setting 13 = .ok (.aload_n 0, 1) := by decide +kernel
theorem dX5_setting_14 : decode cX5_setting 14 = .ok (.getfield 24, 3) := by decide +kernel
theorem dX5_setting_17 : decode cX5_setting 17 = .ok (.iload_n 1, 1) := by decide +kernel
theorem dX5_setting_18 : decode cX5_setting 18 = .ok (.iaload, 1) := by decide +kernel
theorem dX5_setting_19 : decode cX5_setting 19 = .ok (.goto 4, 3) := by decide +kernel
theorem dX5_setting_22 : decode cX5_setting 22 = .ok (.iconst 0, 1) := by decide +kernel
theorem dX5_setting_23 : decode cX5_setting 23 = .ok (.ireturn, 1) := by decide +kernel
theorem dX5_changeSetting_0 : decode cX5_changeSetting 0 = .ok (.iload_n 1, 1) := by decide +kernel
theorem dX5_changeSetting_1 : decode cX5_changeSetting 1 = .ok (.ifCond .lt 19, 3) := by decide +kernel
theorem dX5_changeSetting_4 : decode cX5_changeSetting 4 = .ok (.iload_n 1, 1) := by decide +kernel
theorem dX5_changeSetting_5 : decode cX5_changeSetting 5 = .ok (.aload_n 0, 1) := by decide +kernel
theorem dX5_changeSetting_6 : decode cX5_changeSetting 6 = .ok (.getfield 24, 3) := by decide +kernel
theorem dX5_changeSetting_9 : decode cX5_changeSetting 9 = .ok (.arraylength, 1) := by decide +kernel
theorem dX5_changeSetting_10 : decode cX5_changeSetting 10 = .ok (.if_icmp .ge 10, 3) := by decide +kernel
theorem dX5_changeSetting_13 : decode cX5_changeSetting 13 = .ok (.aload_n 0, 1) := by decide +kernel
theorem dX5_changeSetting_14 : decode cX5_changeSetting 14 = .ok (.getfield 24, 3) := by decide +kernel
theorem dX5_changeSetting_17 : decode cX5_changeSetting 17 = .ok (.iload_n 1, 1) := by decide +kernel
theorem dX5_changeSetting_18 : decode cX5_changeSetting 18 = .ok (.iload_n 2, 1) := by decide +kernel
theorem dX5_changeSetting_19 : decode cX5_changeSetting 19 = .ok (.iastore, 1) := by decide +kernel
theorem dX5_changeSetting_20 : decode cX5_changeSetting 20 = .ok (.return_, 1) := by decide +kernel
theorem dX5_anchorNumbered_0 : decode cX5_anchorNumbered 0 = .ok (.iload_n 1, 1) := by decide +kernel
theorem dX5_anchorNumbered_1 : decode cX5_anchorNumbered 1 = .ok (.ifCond .lt 20, 3) := by decide +kernel
theorem dX5_anchorNumbered_4 : decode cX5_anchorNumbered 4 = .ok (.iload_n 1, 1) := by decide +kernel
theorem dX5_anchorNumbered_5 : decode cX5_anchorNumbered 5 = .ok (.aload_n 0, 1) := by decide +kernel
theorem dX5_anchorNumbered_6 : decode cX5_anchorNumbered 6 = .ok (.getfield 29, 3) := by decide +kernel
theorem dX5_anchorNumbered_9 : decode cX5_anchorNumbered 9 = .ok (.if_icmp .ge 12, 3) := by decide +kernel
theorem dX5_anchorNumbered_12 : decode cX5_anchorNumbered 12 = .ok (.iload_n 1, 1) := by decide +kernel
theorem dX5_anchorNumbered_13 : decode cX5_anchorNumbered 13 = .ok (.aload_n 0, 1) := by decide +kernel
theorem dX5_anchorNumbered_14 : decode cX5_anchorNumbered 14 = .ok (.getfield 20, 3) := by decide +kernel
theorem dX5_anchorNumbered_17 : decode cX5_anchorNumbered 17 = .ok (.arraylength, 1) := by decide +kernel
theorem dX5_anchorNumbered_18 : decode cX5_anchorNumbered 18 = .ok (.if_icmp .lt 5, 3) := by decide +kernel
theorem dX5_anchorNumbered_21 : decode cX5_anchorNumbered 21 = .ok (.aconst_null, 1) := by decide +kernel
theorem dX5_anchorNumbered_22 : decode cX5_anchorNumbered 22 = .ok (.areturn, 1) := by decide +kernel
theorem dX5_anchorNumbered_23 : decode cX5_anchorNumbered 23 = .ok (.aload_n 0, 1) := by decide +kernel
theorem dX5_anchorNumbered_24 : decode cX5_anchorNumbered 24 = .ok (.getfield 20, 3) := by decide +kernel
theorem dX5_anchorNumbered_27 : decode cX5_anchorNumbered 27 = .ok (.iload_n 1, 1) := by decide +kernel
theorem dX5_anchorNumbered_28 : decode cX5_anchorNumbered 28 = .ok (.aaload, 1) := by decide +kernel
theorem dX5_anchorNumbered_29 : decode cX5_anchorNumbered 29 = .ok (.areturn, 1) := by decide +kernel
set_option maxRecDepth 20000 in
theorem ggX5_addAnchor_X5_anchorNumbered : GoodIn wsX5_addAnchor wsX5_anchorNumbered := goodIn_r _ [8, 1, 2, 32, 33, 34, 35, 36] (by decide +kernel) (by decide +kernel)
set_option maxRecDepth 20000 in
theorem gX5_addAnchor_X5_anchorNumbered : GoodIn wsX5_addAnchor (wsV RX5 36 RX5 yX5_anchorNumbered wsX5_anchorNumbered) := goodIn_app (goodIn_of _ (by decide +kernel)) ggX5_addAnchor_X5_anchorNumbered
set_option maxRecDepth 20000 in
theorem ggX5_addAnchor_X0_setAt : GoodIn wsX5_addAnchor wsX0_setAt := goodIn_r _ [13, 14, 15, 16, 12, 17, 18, 19, 20, 21, 22, 23, 24, 25, 26, 27, 28, 29, 30, 31, 37, 38, 39, 40, 41, 42, 43] (by decide +kernel) (by decide +kernel)
set_option maxRecDepth 20000 in
theorem gX5_addAnchor_X0_setAt : GoodIn wsX5_addAnchor (wsV RX5 40 RX0 yX0_setAt wsX0_setAt) := goodIn_app (goodIn_of _ (by decide +kernel)) ggX5_addAnchor_X0_setAt
theorem dX5_addAnchor_0 : decode cX5_addAnchor 0 = .ok (.aload_n 0, 1) := by decide +kernel
theorem dX5_addAnchor_1 : decode cX5_addAnchor 1 = .ok (.getfield 29, 3) := by decide +kernel
theorem dX5_addAnchor_4 : decode cX5_addAnchor 4 = .ok (.aload_n 0, 1) := by decide +kernel
theorem dX5_addAnchor_5 : decode cX5_addAnchor 5 = .ok (.getfield 20, 3) := by decide +kernel
theorem dX5_addAnchor_8 : decode cX5_addAnchor 8 = .ok (.arraylength, 1) := by decide +kernel
theorem dX5_addAnchor_9 : decode cX5_addAnchor 9 = .ok (.if_icmp .lt 4, 3) := by decide +kernel
theorem dX5_addAnchor_12 : decode cX5_addAnchor 12 = .ok (.return_, 1) := by decide +kernel
theorem dX5_addAnchor_13 : decode cX5_addAnchor 13 = .ok (.aload_n 0, 1) := by decide +kernel
theorem dX5_addAnchor_14 : decode cX5_addAnchor 14 = .ok (.dup, 1) := by decide +kernel
theorem dX5_addAnchor_15 : decode cX5_addAnchor 15 = .ok (.getfield 29, 3) := by decide +kernel
theorem dX5_addAnchor_18 : decode cX5_addAnchor 18 = .ok (.iconst 1, 1) := by decide +kernel
theorem dX5_addAnchor_19 : decode cX5_addAnchor 19 = .ok (.iadd, 1) := by decide +kernel
theorem dX5_addAnchor_20 : decode cX5_addAnchor 20 = .ok (.putfield 29, 3) := by decide +kernel
theorem dX5_addAnchor_23 : decode cX5_addAnchor 23 = .ok (.aload_n 0, 1) := by decide +kernel
theorem dX5_addAnchor_24 : decode cX5_addAnchor 24 = .ok (.aload_n 0, 1) := by decide +kernel
theorem dX5_addAnchor_25 : decode cX5_addAnchor 25 = .ok (.getfield 29, 3) := by decide +kernel
theorem dX5_addAnchor_28 : decode cX5_addAnchor 28 = .ok (.iconst 1, 1) := by decide +kernel
theorem dX5_addAnchor_29 : decode cX5_addAnchor 29 = .ok (.isub, 1) := by decide +kernel
theorem dX5_addAnchor_30 : decode cX5_addAnchor 30 = .ok (.invokevirtual 36, 3) := by decide +kernel
theorem dX5_addAnchor_33 : decode cX5_addAnchor 33 = .ok (.astore_n 2, 1) := by decide +kernel
theorem dX5_addAnchor_34 : decode cX5_addAnchor 34 = .ok (.aload_n 2, 1) := by decide +kernel
theorem dX5_addAnchor_35 : decode cX5_addAnchor 35 = .ok (.ifnull 12, 3) := by decide +kernel
theorem dX5_addAnchor_38 : decode cX5_addAnchor 38 = .ok (.aload_n 2, 1) := by decide +kernel
theorem dX5_addAnchor_39 : decode cX5_addAnchor 39 = .ok (.aload_n 0, 1) := by decide +kernel
theorem dX5_addAnchor_40 : decode cX5_addAnchor 40 = .ok (.getfield 12, 3) := by decide +kernel
theorem dX5_addAnchor_43 : decode cX5_addAnchor 43 = .ok (.iload_n 1, 1) := by decide +kernel
theorem dX5_addAnchor_44 : decode cX5_addAnchor 44 = .ok (.invokevirtual 40, 3) := by decide +kernel
theorem dX5_addAnchor_47 : decode cX5_addAnchor 47 = .ok (.return_, 1) := by decide +kernel
set_option maxRecDepth 20000 in
theorem ggX5_removeAnchor_X5_anchorNumbered : GoodIn wsX5_removeAnchor wsX5_anchorNumbered := goodIn_r _ [6, 1, 7, 20, 21, 22, 23, 24] (by decide +kernel) (by decide +kernel)
set_option maxRecDepth 20000 in
theorem gX5_removeAnchor_X5_anchorNumbered : GoodIn wsX5_removeAnchor (wsV RX5 36 RX5 yX5_anchorNumbered wsX5_anchorNumbered) := goodIn_app (goodIn_of _ (by decide +kernel)) ggX5_removeAnchor_X5_anchorNumbered
set_option maxRecDepth 20000 in
theorem ggX5_removeAnchor_X0_copyFrom : GoodIn wsX5_removeAnchor wsX0_copyFrom := goodIn_r _ [12, 13, 14, 15, 16, 17, 18, 11, 19, 25, 26, 27] (by decide +kernel) (by decide +kernel)
set_option maxRecDepth 20000 in
theorem gX5_removeAnchor_X0_copyFrom : GoodIn wsX5_removeAnchor (wsV RX5 44 RX0 yX0_copyFrom wsX0_copyFrom) := goodIn_app (goodIn_of _ (by decide +kernel)) ggX5_removeAnchor_X0_copyFrom
theorem dX5_removeAnchor_0 : decode cX5_removeAnchor 0 = .ok (.iload_n 1, 1) := by decide +kernel
theorem dX5_removeAnchor_1 : decode cX5_removeAnchor 1 = .ok (.ifCond .lt 11, 3) := by decide +kernel
theorem dX5_removeAnchor_4 : decode cX5_removeAnchor 4 = .ok (.iload_n 1, 1) := by decide +kernel
theorem dX5_removeAnchor_5 : decode cX5_removeAnchor 5 = .ok (.aload_n 0, 1) := by decide +kernel
theorem dX5_removeAnchor_6 : decode cX5_removeAnchor 6 = .ok (.getfield 29, 3) := by decide +kernel
theorem dX5_removeAnchor_9 : decode cX5_removeAnchor 9 = .ok (.if_icmp .lt 4, 3) := by decide +kernel
theorem dX5_removeAnchor_12 : decode cX5_removeAnchor 12 = .ok (.return_, 1) := by decide +kernel
theorem dX5_removeAnchor_13 : decode cX5_removeAnchor 13 = .ok (.iload_n 1, 1) := by decide +kernel
theorem dX5_removeAnchor_14 : decode cX5_removeAnchor 14 = .ok (.iconst 1, 1) := by decide +kernel
theorem dX5_removeAnchor_15 : decode cX5_removeAnchor 15 = .ok (.iadd, 1) := by decide +kernel
theorem dX5_removeAnchor_16 : decode cX5_removeAnchor 16 = .ok (.istore_n 2, 1) := by decide +kernel
theorem dX5_removeAnchor_17 : decode cX5_removeAnchor 17 = .ok (.iload_n 2, 1) := by decide +kernel
theorem dX5_removeAnchor_18 : decode cX5_removeAnchor 18 = .ok (.aload_n 0, 1) := by decide +kernel
theorem dX5_removeAnchor_19 : decode cX5_removeAnchor 19 = .ok (.getfield 29, 3) := by decide +kernel
theorem dX5_removeAnchor_22 : decode cX5_removeAnchor 22 = .ok (.if_icmp .ge 39, 3) := by decide +kernel
theorem dX5_removeAnchor_25 : decode cX5_removeAnchor 25 = .ok (.aload_n 0, 1) := by decide +kernel
theorem dX5_removeAnchor_26 : decode cX5_removeAnchor 26 = .ok (.iload_n 2, 1) := by decide +kernel
theorem dX5_removeAnchor_27 : decode cX5_removeAnchor 27 = .ok (.iconst 1, 1) := by decide +kernel
theorem dX5_removeAnchor_28 : decode cX5_removeAnchor 28 = .ok (.isub, 1) := by decide +kernel
theorem dX5_removeAnchor_29 : decode cX5_removeAnchor 29 = .ok (.invokevirtual 36, 3) := by decide +kernel
theorem dX5_removeAnchor_32 : decode cX5_removeAnchor 32 = .ok (.astore_n 3, 1) := by decide +kernel
theorem dX5_removeAnchor_33 : decode cX5_removeAnchor 33 = .ok (.aload_n 0, 1) := by decide +kernel
theorem dX5_removeAnchor_34 : decode cX5_removeAnchor 34 = .ok (.iload_n 2, 1) := by decide +kernel
theorem dX5_removeAnchor_35 : decode cX5_removeAnchor 35 = .ok (.invokevirtual 36, 3) := by decide +kernel
theorem dX5_removeAnchor_38 : decode cX5_removeAnchor 38 = .ok (.astore 4, 2) := by decide +kernel
theorem dX5_removeAnchor_40 : decode cX5_removeAnchor 40 = .ok (.aload_n 3, 1) := by decide +kernel
theorem dX5_removeAnchor_41 : decode cX5_removeAnchor 41 = .ok (.ifnull 14, 3) := by decide +kernel
theorem dX5_removeAnchor_44 : decode cX5_removeAnchor 44 = .ok (.aload 4, 2) := by decide +kernel
theorem dX5_removeAnchor_46 : decode cX5_removeAnchor 46 = .ok (.ifnull 9, 3) := by decide +kernel
theorem dX5_removeAnchor_49 : decode cX5_removeAnchor 49 = .ok (.aload_n 3, 1) := by decide +kernel
theorem dX5_removeAnchor_50 : decode cX5_removeAnchor 50 = .ok (.aload 4, 2) := by decide +kernel
theorem dX5_removeAnchor_52 : decode cX5_removeAnchor 52 = .ok (.invokevirtual 44, 3) := by decide +kernel
theorem dX5_removeAnchor_55 : decode cX5_removeAnchor 55 = .ok (.iinc 2 1, 3) := by decide +kernel
theorem dX5_removeAnchor_58 : decode cX5_removeAnchor 58 = .ok (.goto (-41), 3) := by decide +kernel
theorem dX5_removeAnchor_61 : decode cX5_removeAnchor 61 = .ok (.aload_n 0, 1) := by decide +kernel
theorem dX5_removeAnchor_62 : decode cX5_removeAnchor 62 = .ok (.dup, 1) := by decide +kernel
theorem dX5_removeAnchor_63 : decode cX5_removeAnchor 63 = .ok (.getfield 29, 3) := by decide +kernel
theorem dX5_removeAnchor_66 : decode cX5_removeAnchor 66 = .ok (.iconst 1, 1) := by decide +kernel
theorem dX5_removeAnchor_67 : decode cX5_removeAnchor 67 = .ok (.isub, 1) := by decide +kernel
theorem dX5_removeAnchor_68 : decode cX5_removeAnchor 68 = .ok (.putfield 29, 3) := by decide +kernel
theorem dX5_removeAnchor_71 : decode cX5_removeAnchor 71 = .ok (.return_, 1) := by decide +kernel
set_option maxRecDepth 20000 in
theorem ggX5_insertWord_X4_insert : GoodIn wsX5_insertWord wsX4_insert := goodIn_r _ [6, 7, 8, 9, 10, 11, 12, 5, 13, 14, 15, 16, 17, 18, 19, 20, 21, 22, 23, 24, 25, 26, 51, 52, 53, 54] (by decide +kernel) (by decide +kernel)
set_option maxRecDepth 20000 in
theorem gX5_insertWord_X4_insert : GoodIn wsX5_insertWord (wsV RX5 48 RX4 yX4_insert wsX4_insert) := goodIn_app (goodIn_of _ (by decide +kernel)) ggX5_insertWord_X4_insert
set_option maxRecDepth 20000 in
theorem ggX5_insertWord_X5_followWords : GoodIn wsX5_insertWord wsX5_followWords := goodIn_r _ [31, 32, 33, 1, 34, 35, 36, 30, 37, 38, 39, 40, 41, 42, 43, 44, 45, 24, 25, 5, 26, 7, 46, 47, 48, 49, 50, 55, 56, 57, 51, 52, 53, 54] (by decide +kernel) (by decide +kernel)
set_option maxRecDepth 20000 in
theorem gX5_insertWord_X5_followWords : GoodIn wsX5_insertWord (wsV RX5 52 RX5 yX5_followWords wsX5_followWords) := goodIn_app (goodIn_of _ (by decide +kernel)) ggX5_insertWord_X5_followWords
theorem dX5_insertWord_0 : decode cX5_insertWord 0 = .ok (.aload_n 0, 1) := by decide +kernel
theorem dX5_insertWord_1 : decode cX5_insertWord 1 = .ok (.getfield 12, 3) := by decide +kernel
theorem dX5_insertWord_4 : decode cX5_insertWord 4 = .ok (.iload_n 1, 1) := by decide +kernel
theorem dX5_insertWord_5 : decode cX5_insertWord 5 = .ok (.iload_n 2, 1) := by decide +kernel
theorem dX5_insertWord_6 : decode cX5_insertWord 6 = .ok (.invokevirtual 48, 3) := by decide +kernel
theorem dX5_insertWord_9 : decode cX5_insertWord 9 = .ok (.aload_n 0, 1) := by decide +kernel
theorem dX5_insertWord_10 : decode cX5_insertWord 10 = .ok (.invokevirtual 52, 3) := by decide +kernel
theorem dX5_insertWord_13 : decode cX5_insertWord 13 = .ok (.return_, 1) := by decide +kernel
set_option maxRecDepth 20000 in
theorem ggX5_removeWord_X4_remove : GoodIn wsX5_removeWord wsX4_remove := goodIn_r _ [6, 7, 8, 9, 10, 11, 5, 12, 13, 14, 15, 16, 17, 18, 19, 20, 21, 22, 47, 48, 49, 50] (by decide +kernel) (by decide +kernel)
set_option maxRecDepth 20000 in
theorem gX5_removeWord_X4_remove : GoodIn wsX5_removeWord (wsV RX5 55 RX4 yX4_remove wsX4_remove) := goodIn_app (goodIn_of _ (by decide +kernel)) ggX5_removeWord_X4_remove
set_option maxRecDepth 20000 in
theorem ggX5_removeWord_X5_followWords : GoodIn wsX5_removeWord wsX5_followWords := goodIn_r _ [27, 28, 29, 1, 30, 31, 32, 26, 33, 34, 35, 36, 37, 38, 39, 40, 41, 20, 21, 5, 22, 7, 42, 43, 44, 45, 46, 51, 52, 53, 47, 48, 49, 50] (by decide +kernel) (by decide +kernel)
set_option maxRecDepth 20000 in
theorem gX5_removeWord_X5_followWords : GoodIn wsX5_removeWord (wsV RX5 52 RX5 yX5_followWords wsX5_followWords) := goodIn_app (goodIn_of _ (by decide +kernel)) ggX5_removeWord_X5_followWords
theorem dX5_removeWord_0 : decode cX5_removeWord 0 = .ok (.aload_n 0, 1) := by decide +kernel
theorem dX5_removeWord_1 : decode cX5_removeWord 1 = .ok (.getfield 12, 3) := by decide +kernel
theorem dX5_removeWord_4 : decode cX5_removeWord 4 = .ok (.iload_n 1, 1) := by decide +kernel
theorem dX5_removeWord_5 : decode cX5_removeWord 5 = .ok (.invokevirtual 55, 3) := by decide +kernel
theorem dX5_removeWord_8 : decode cX5_removeWord 8 = .ok (.aload_n 0, 1) := by decide +kernel
theorem dX5_removeWord_9 : decode cX5_removeWord 9 = .ok (.invokevirtual 52, 3) := by decide +kernel
theorem dX5_removeWord_12 : decode cX5_removeWord 12 = .ok (.return_, 1) := by decide +kernel
set_option maxRecDepth 20000 in
theorem ggX5_replaceWord_X4_replace : GoodIn wsX5_replaceWord wsX4_replace := goodIn_r _ [6, 7, 8, 9, 10, 11, 5, 12, 13, 41, 42, 43, 44] (by decide +kernel) (by decide +kernel)
set_option maxRecDepth 20000 in
theorem gX5_replaceWord_X4_replace : GoodIn wsX5_replaceWord (wsV RX5 59 RX4 yX4_replace wsX4_replace) := goodIn_app (goodIn_of _ (by decide +kernel)) ggX5_replaceWord_X4_replace
set_option maxRecDepth 20000 in
theorem ggX5_replaceWord_X5_followWords : GoodIn wsX5_replaceWord wsX5_followWords := goodIn_r _ [18, 19, 20, 1, 21, 22, 23, 17, 24, 25, 26, 27, 28, 29, 30, 31, 32, 33, 34, 5, 35, 7, 36, 37, 38, 39, 40, 45, 46, 47, 41, 42, 43, 44] (by decide +kernel) (by decide +kernel)
set_option maxRecDepth 20000 in
theorem gX5_replaceWord_X5_followWords : GoodIn wsX5_replaceWord (wsV RX5 52 RX5 yX5_followWords wsX5_followWords) := goodIn_app (goodIn_of _ (by decide +kernel)) ggX5_replaceWord_X5_followWords
theorem dX5_replaceWord_0 : decode cX5_replaceWord 0 = .ok (.aload_n 0, 1) := by decide +kernel
theorem dX5_replaceWord_1 : decode cX5_replaceWord 1 = .ok (.getfield 12, 3) := by decide +kernel
theorem dX5_replaceWord_4 : decode cX5_replaceWord 4 = .ok (.iload_n 1, 1) := by decide +kernel
theorem dX5_replaceWord_5 : decode cX5_replaceWord 5 = .ok (.iload_n 2, 1) := by decide +kernel
theorem dX5_replaceWord_6 : decode cX5_replaceWord 6 = .ok (.invokevirtual 59, 3) := by decide +kernel
theorem dX5_replaceWord_9 : decode cX5_replaceWord 9 = .ok (.aload_n 0, 1) := by decide +kernel
theorem dX5_replaceWord_10 : decode cX5_replaceWord 10 = .ok (.invokevirtual 52, 3) := by decide +kernel
theorem dX5_replaceWord_13 : decode cX5_replaceWord 13 = .ok (.return_, 1) := by decide +kernel
set_option maxRecDepth 20000 in
theorem ggX5_shiftWords_X4_shift : GoodIn wsX5_shiftWords wsX4_shift := goodIn_r _ [6, 7, 8, 9, 10, 11, 5, 12, 13, 14, 15, 16, 17, 18, 19, 20, 21, 22, 23, 24, 25, 26, 27, 28, 29, 54, 55, 56, 57] (by decide +kernel) (by decide +kernel)
set_option maxRecDepth 20000 in
theorem gX5_shiftWords_X4_shift : GoodIn wsX5_shiftWords (wsV RX5 62 RX4 yX4_shift wsX4_shift) := goodIn_app (goodIn_of _ (by decide +kernel)) ggX5_shiftWords_X4_shift
set_option maxRecDepth 20000 in
theorem ggX5_shiftWords_X5_followWords : GoodIn wsX5_shiftWords wsX5_followWords := goodIn_r _ [34, 35, 36, 1, 37, 38, 39, 33, 40, 41, 42, 43, 44, 45, 46, 47, 48, 27, 28, 5, 29, 7, 49, 50, 51, 52, 53, 58, 59, 60, 54, 55, 56, 57] (by decide +kernel) (by decide +kernel)
set_option maxRecDepth 20000 in
theorem gX5_shiftWords_X5_followWords : GoodIn wsX5_shiftWords (wsV RX5 52 RX5 yX5_followWords wsX5_followWords) := goodIn_app (goodIn_of _ (by decide +kernel)) ggX5_shiftWords_X5_followWords
theorem dX5_shiftWords_0 : decode cX5_shiftWords 0 = .ok (.aload_n 0, 1) := by decide +kernel
theorem dX5_shiftWords_1 : decode cX5_shiftWords 1 = .ok (.getfield 12, 3) := by decide +kernel
theorem dX5_shiftWords_4 : decode cX5_shiftWords 4 = .ok (.iload_n 1, 1) := by decide +kernel
theorem dX5_shiftWords_5 : decode cX5_shiftWords 5 = .ok (.iload_n 2, 1) := by decide +kernel
theorem dX5_shiftWords_6 : decode cX5_shiftWords 6 = .ok (.iload_n 3, 1) := by decide +kernel
theorem dX5_shiftWords_7 : decode cX5_shiftWords 7 = .ok (.invokevirtual 62, 3) := by decide +kernel
theorem dX5_shiftWords_10 : decode cX5_shiftWords 10 = .ok (.aload_n 0, 1) := by decide +kernel
theorem dX5_shiftWords_11 : decode cX5_shiftWords 11 = .ok (.invokevirtual 52, 3) := by decide +kernel
theorem dX5_shiftWords_14 : decode cX5_shiftWords 14 = .ok (.return_, 1) := by decide +kernel
set_option maxRecDepth 20000 in
theorem ggX5_followWords_X5_anchorNumbered : GoodIn wsX5_followWords wsX5_anchorNumbered := goodIn_r _ [8, 2, 9, 22, 23, 24, 25, 26] (by decide +kernel) (by decide +kernel)
set_option maxRecDepth 20000 in
theorem gX5_followWords_X5_anchorNumbered : GoodIn wsX5_followWords (wsV RX5 36 RX5 yX5_anchorNumbered wsX5_anchorNumbered) := goodIn_app (goodIn_of _ (by decide +kernel)) ggX5_followWords_X5_anchorNumbered
set_option maxRecDepth 20000 in
theorem ggX5_followWords_X0_followWord : GoodIn wsX5_followWords wsX0_followWord := goodIn_r _ [14, 15, 16, 17, 18, 19, 20, 21, 27, 28, 29, 30, 31, 32, 33] (by decide +kernel) (by decide +kernel)
set_option maxRecDepth 20000 in
theorem gX5_followWords_X0_followWord : GoodIn wsX5_followWords (wsV RX5 66 RX0 yX0_followWord wsX0_followWord) := goodIn_app (goodIn_of _ (by decide +kernel)) ggX5_followWords_X0_followWord
theorem dX5_followWords_0 : decode cX5_followWords 0 = .ok (.aload_n 0, 1) := by decide +kernel
theorem dX5_followWords_1 : decode cX5_followWords 1 = .ok (.dup, 1) := by decide +kernel
theorem dX5_followWords_2 : decode cX5_followWords 2 = .ok (.getfield 33, 3) := by decide +kernel
theorem dX5_followWords_5 : decode cX5_followWords 5 = .ok (.iconst 1, 1) := by decide +kernel
theorem dX5_followWords_6 : decode cX5_followWords 6 = .ok (.iadd, 1) := by decide +kernel
theorem dX5_followWords_7 : decode cX5_followWords 7 = .ok (.putfield 33, 3) := by decide +kernel
theorem dX5_followWords_10 : decode cX5_followWords 10 = .ok (.iconst 0, 1) := by decide +kernel
theorem dX5_followWords_11 : decode cX5_followWords 11 = .ok (.istore_n 1, 1) := by decide +kernel
theorem dX5_followWords_12 : decode cX5_followWords 12 = .ok (.iload_n 1, 1) := by decide +kernel
theorem dX5_followWords_13 : decode cX5_followWords 13 = .ok (.aload_n 0, 1) := by decide +kernel
theorem dX5_followWords_14 : decode cX5_followWords 14 = .ok (.getfield 29, 3) := by decide +kernel
theorem dX5_followWords_17 : decode cX5_followWords 17 = .ok (.if_icmp .ge 27, 3) := by decide +kernel
theorem dX5_followWords_20 : decode cX5_followWords 20 = .ok (.aload_n 0, 1) := by decide +kernel
theorem dX5_followWords_21 : decode cX5_followWords 21 = .ok (.iload_n 1, 1) := by decide +kernel
theorem dX5_followWords_22 : decode cX5_followWords 22 = .ok (.invokevirtual 36, 3) := by decide +kernel
theorem dX5_followWords_25 : decode cX5_followWords 25 = .ok (.astore_n 2, 1) := by decide +kernel
theorem dX5_followWords_26 : decode cX5_followWords 26 = .ok (.aload_n 2, 1) := by decide +kernel
theorem dX5_followWords_27 : decode cX5_followWords 27 = .ok (.ifnull 11, 3) := by decide +kernel
theorem dX5_followWords_30 : decode cX5_followWords 30 = .ok (.aload_n 2, 1) := by decide +kernel
theorem dX5_followWords_31 : decode cX5_followWords 31 = .ok (.aload_n 0, 1) := by decide +kernel
theorem dX5_followWords_32 : decode cX5_followWords 32 = .ok (.getfield 12, 3) := by decide +kernel
theorem dX5_followWords_35 : decode cX5_followWords 35 = .ok (.invokevirtual 66, 3) := by decide +kernel
theorem dX5_followWords_38 : decode cX5_followWords 38 = .ok (.iinc 1 1, 3) := by decide +kernel
theorem dX5_followWords_41 : decode cX5_followWords 41 = .ok (.goto (-29), 3) := by decide +kernel
theorem dX5_followWords_44 : decode cX5_followWords 44 = .ok (.return_, 1) := by decide +kernel
set_option maxRecDepth 20000 in
theorem ggX5_scoreOf_X0_thing : GoodIn wsX5_scoreOf wsX0_thing := goodIn_r _ [10, 11, 30, 31, 32] (by decide +kernel) (by decide +kernel)
set_option maxRecDepth 20000 in
theorem gX5_scoreOf_X0_thing : GoodIn wsX5_scoreOf (wsV RX5 70 RX0 yX0_thing wsX0_thing) := goodIn_app (goodIn_of _ (by decide +kernel)) ggX5_scoreOf_X0_thing
set_option maxRecDepth 20000 in
theorem ggX5_scoreOf_X4_at : GoodIn wsX5_scoreOf wsX4_at := goodIn_r _ [16, 17, 18, 33, 34, 35, 36] (by decide +kernel) (by decide +kernel)
set_option maxRecDepth 20000 in
theorem gX5_scoreOf_X4_at : GoodIn wsX5_scoreOf (wsV RX5 74 RX4 yX4_at wsX4_at) := goodIn_app (goodIn_of _ (by decide +kernel)) ggX5_scoreOf_X4_at
set_option maxRecDepth 20000 in
theorem ggX5_scoreOf_X5_setting : GoodIn wsX5_scoreOf wsX5_setting := goodIn_r _ [23, 24, 25, 26, 27, 28, 29] (by decide +kernel) (by decide +kernel)
set_option maxRecDepth 20000 in
theorem gX5_scoreOf_X5_setting : GoodIn wsX5_scoreOf (wsV RX5 82 RX5 yX5_setting wsX5_setting) := goodIn_app (goodIn_of _ (by decide +kernel)) ggX5_scoreOf_X5_setting
theorem dX5_scoreOf_0 : decode cX5_scoreOf 0 = .ok (.iconst 0, 1) := by decide +kernel
theorem dX5_scoreOf_1 : decode cX5_scoreOf 1 = .ok (.istore_n 3, 1) := by decide +kernel
theorem dX5_scoreOf_2 : decode cX5_scoreOf 2 = .ok (.iconst 0, 1) := by decide +kernel
theorem dX5_scoreOf_3 : decode cX5_scoreOf 3 = .ok (.istore 4, 2) := by decide +kernel
theorem dX5_scoreOf_5 : decode cX5_scoreOf 5 = .ok (.iload 4, 2) := by decide +kernel
theorem dX5_scoreOf_7 : decode cX5_scoreOf 7 = .ok (.iconst 5, 1) := by decide +kernel
theorem dX5_scoreOf_8 : decode cX5_scoreOf 8 = .ok (.if_icmp .ge 47, 3) := by decide +kernel
theorem dX5_scoreOf_11 : decode cX5_scoreOf 11 = .ok (.iload 4, 2) := by decide +kernel
theorem dX5_scoreOf_13 : decode cX5_scoreOf 13 = .ok (.iconst 2, 1) := by decide +kernel
theorem dX5_scoreOf_14 : decode cX5_scoreOf 14 = .ok (.isub, 1) := by decide +kernel
theorem dX5_scoreOf_15 : decode cX5_scoreOf 15 = .ok (.istore 5, 2) := by decide +kernel
theorem dX5_scoreOf_17 : decode cX5_scoreOf 17 = .ok (.aload_n 1, 1) := by decide +kernel
theorem dX5_scoreOf_18 : decode cX5_scoreOf 18 = .ok (.iload 4, 2) := by decide +kernel
theorem dX5_scoreOf_20 : decode cX5_scoreOf 20 = .ok (.invokevirtual 70, 3) := by decide +kernel
theorem dX5_scoreOf_23 : decode cX5_scoreOf 23 = .ok (.aload_n 0, 1) := by decide +kernel
theorem dX5_scoreOf_24 : decode cX5_scoreOf 24 = .ok (.getfield 12, 3) := by decide +kernel
theorem dX5_scoreOf_27 : decode cX5_scoreOf 27 = .ok (.iload_n 2, 1) := by decide +kernel
theorem dX5_scoreOf_28 : decode cX5_scoreOf 28 = .ok (.iload 5, 2) := by decide +kernel
theorem dX5_scoreOf_30 : decode cX5_scoreOf 30 = .ok (.iadd, 1) := by decide +kernel
theorem dX5_scoreOf_31 : decode cX5_scoreOf 31 = .ok (.invokevirtual 74, 3) := by decide +kernel
theorem dX5_scoreOf_34 : decode cX5_scoreOf 34 = .ok (.if_icmp .ne 15, 3) := by decide +kernel
theorem dX5_scoreOf_37 : decode cX5_scoreOf 37 = .ok (.iload_n 3, 1) := by decide +kernel
theorem dX5_scoreOf_38 : decode cX5_scoreOf 38 = .ok (.aload_n 0, 1) := by decide +kernel
theorem dX5_scoreOf_39 : decode cX5_scoreOf 39 = .ok (.iload 5, 2) := by decide +kernel
theorem dX5_scoreOf_41 : decode cX5_scoreOf 41 = .ok (.invokestatic 77, 3) := by decide +kernel
theorem dX5_scoreOf_44 : decode cX5_scoreOf 44 = .ok (.invokevirtual 82, 3) := by decide +kernel
theorem dX5_scoreOf_47 : decode cX5_scoreOf 47 = .ok (.iadd, 1) := by decide +kernel
theorem dX5_scoreOf_48 : decode cX5_scoreOf 48 = .ok (.istore_n 3, 1) := by decide +kernel
theorem dX5_scoreOf_49 : decode cX5_scoreOf 49 = .ok (.iinc 4 1, 3) := by decide +kernel
theorem dX5_scoreOf_52 : decode cX5_scoreOf 52 = .ok (.goto (-47), 3) := by decide +kernel
theorem dX5_scoreOf_55 : decode cX5_scoreOf 55 = .ok (.iload_n 3, 1) := by decide +kernel
theorem dX5_scoreOf_56 : decode cX5_scoreOf 56 = .ok (.ireturn, 1) := by decide +kernel
set_option maxRecDepth 20000 in
theorem ggX5_bestPlace_X5_bestPlaceBut : GoodIn wsX5_bestPlace wsX5_bestPlaceBut := goodIn_r _ [5, 6, 7, 8, 9, 10, 11, 12, 13, 14, 15, 16, 17, 18, 19, 4, 20, 21, 22, 23, 24, 25, 26, 27, 28, 29, 30, 31, 32, 33, 34, 35, 36, 37, 38, 39, 40, 41, 42, 43, 44, 45, 46, 47, 48, 49, 50, 51, 52, 53] (by decide +kernel) (by decide +kernel)
set_option maxRecDepth 20000 in
theorem gX5_bestPlace_X5_bestPlaceBut : GoodIn wsX5_bestPlace (wsV RX5 85 RX5 yX5_bestPlaceBut wsX5_bestPlaceBut) := goodIn_app (goodIn_of _ (by decide +kernel)) ggX5_bestPlace_X5_bestPlaceBut
theorem dX5_bestPlace_0 : decode cX5_bestPlace 0 = .ok (.aload_n 0, 1) := by decide +kernel
theorem dX5_bestPlace_1 : decode cX5_bestPlace 1 = .ok (.aload_n 1, 1) := by decide +kernel
theorem dX5_bestPlace_2 : decode cX5_bestPlace 2 = .ok (.iconst (-1), 1) := by decide +kernel
theorem dX5_bestPlace_3 : decode cX5_bestPlace 3 = .ok (.invokevirtual 85, 3) := by decide +kernel
theorem dX5_bestPlace_6 : decode cX5_bestPlace 6 = .ok (.ireturn, 1) := by decide +kernel
set_option maxRecDepth 20000 in
theorem ggX5_nextBestPlace_X5_bestPlace : GoodIn wsX5_nextBestPlace wsX5_bestPlace := goodIn_r _ [5, 6, 7, 8, 4, 9, 10, 11, 12, 13, 14, 15, 16, 17, 18, 19, 20, 21, 22, 23, 24, 25, 26, 27, 28, 29, 30, 31, 32, 33, 34, 35, 36, 37, 38, 39, 40, 41, 42, 43, 44, 45, 46, 47, 48, 49, 50, 51, 52, 53, 54, 55, 56, 57] (by decide +kernel) (by decide +kernel)
set_option maxRecDepth 20000 in
theorem gX5_nextBestPlace_X5_bestPlace : GoodIn wsX5_nextBestPlace (wsV RX5 89 RX5 yX5_bestPlace wsX5_bestPlace) := goodIn_app (goodIn_of _ (by decide +kernel)) ggX5_nextBestPlace_X5_bestPlace
set_option maxRecDepth 20000 in
theorem ggX5_nextBestPlace_X5_bestPlaceBut : GoodIn wsX5_nextBestPlace wsX5_bestPlaceBut := goodIn_r _ [9, 10, 11, 12, 13, 14, 15, 16, 17, 18, 19, 20, 21, 22, 23, 4, 24, 25, 26, 27, 28, 29, 30, 31, 32, 33, 34, 35, 36, 37, 38, 39, 40, 41, 42, 43, 44, 45, 46, 47, 48, 49, 50, 51, 52, 53, 54, 55, 56, 57] (by decide +kernel) (by decide +kernel)
set_option maxRecDepth 20000 in
theorem gX5_nextBestPlace_X5_bestPlaceBut : GoodIn wsX5_nextBestPlace (wsV RX5 85 RX5 yX5_bestPlaceBut wsX5_bestPlaceBut) := goodIn_app (goodIn_of _ (by decide +kernel)) ggX5_nextBestPlace_X5_bestPlaceBut
theorem dX5_nextBestPlace_0 : decode cX5_nextBestPlace 0 = .ok (.aload_n 0, 1) := by decide +kernel
theorem dX5_nextBestPlace_1 : decode cX5_nextBestPlace 1 = .ok (.aload_n 1, 1) := by decide +kernel
theorem dX5_nextBestPlace_2 : decode cX5_nextBestPlace 2 = .ok (.aload_n 0, 1) := by decide +kernel
theorem dX5_nextBestPlace_3 : decode cX5_nextBestPlace 3 = .ok (.aload_n 1, 1) := by decide +kernel
theorem dX5_nextBestPlace_4 : decode cX5_nextBestPlace 4 = .ok (.invokevirtual 89, 3) := by decide +kernel
theorem dX5_nextBestPlace_7 : decode cX5_nextBestPlace 7 = .ok (.invokevirtual 85, 3) := by decide +kernel
theorem dX5_nextBestPlace_10 : decode cX5_nextBestPlace 10 = .ok (.ireturn, 1) := by decide +kernel
set_option maxRecDepth 20000 in
theorem ggX5_bestPlaceBut_X4_size : GoodIn wsX5_bestPlaceBut wsX4_size := goodIn_r _ [10, 11, 43, 44, 45, 46] (by decide +kernel) (by decide +kernel)
set_option maxRecDepth 20000 in
theorem gX5_bestPlaceBut_X4_size : GoodIn wsX5_bestPlaceBut (wsV RX5 93 RX4 yX4_size wsX4_size) := goodIn_app (goodIn_of _ (by decide +kernel)) ggX5_bestPlaceBut_X4_size
set_option maxRecDepth 20000 in
theorem ggX5_bestPlaceBut_X5_scoreOf : GoodIn wsX5_bestPlaceBut wsX5_scoreOf := goodIn_r _ [16, 1, 2, 3, 4, 5, 17, 18, 19, 20, 21, 22, 23, 24, 25, 9, 26, 11, 27, 28, 29, 30, 15, 31, 32, 38, 39, 40, 41, 42, 47, 48, 49, 43, 44, 45, 46] (by decide +kernel) (by decide +kernel)
set_option maxRecDepth 20000 in
theorem gX5_bestPlaceBut_X5_scoreOf : GoodIn wsX5_bestPlaceBut (wsV RX5 97 RX5 yX5_scoreOf wsX5_scoreOf) := goodIn_app (goodIn_of _ (by decide +kernel)) ggX5_bestPlaceBut_X5_scoreOf
set_option maxRecDepth 20000 in
theorem ggX5_bestPlaceBut_X0_place : GoodIn wsX5_bestPlaceBut wsX0_place := goodIn_r _ [36, 37, 47, 48, 49] (by decide +kernel) (by decide +kernel)
set_option maxRecDepth 20000 in
theorem gX5_bestPlaceBut_X0_place : GoodIn wsX5_bestPlaceBut (wsV RX5 100 RX0 yX0_place wsX0_place) := goodIn_app (goodIn_of _ (by decide +kernel)) ggX5_bestPlaceBut_X0_place
theorem dX5_bestPlaceBut_0 : decode cX5_bestPlaceBut 0 = .ok (.iconst (-1), 1) := by decide +kernel
theorem dX5_bestPlaceBut_1 : decode cX5_bestPlaceBut 1 = .ok (.istore_n 3, 1) := by decide +kernel
theorem dX5_bestPlaceBut_2 : decode cX5_bestPlaceBut 2 = .ok (.iconst 0, 1) := by decide +kernel
theorem dX5_bestPlaceBut_3 : decode cX5_bestPlaceBut 3 = .ok (.istore 4, 2) := by decide +kernel
theorem dX5_bestPlaceBut_5 : decode cX5_bestPlaceBut 5 = .ok (.iconst 0, 1) := by decide +kernel
theorem dX5_bestPlaceBut_6 : decode cX5_bestPlaceBut 6 = .ok (.istore 5, 2) := by decide +kernel
theorem dX5_bestPlaceBut_8 : decode cX5_bestPlaceBut 8 = .ok (.iconst 0, 1) := by decide +kernel
theorem dX5_bestPlaceBut_9 : decode cX5_bestPlaceBut 9 = .ok (.istore 6, 2) := by decide +kernel
theorem dX5_bestPlaceBut_11 : decode cX5_bestPlaceBut 11 = .ok (.iload 6, 2) := by decide +kernel
theorem dX5_bestPlaceBut_13 : decode cX5_bestPlaceBut 13 = .ok (.aload_n 0, 1) := by decide +kernel
theorem dX5_bestPlaceBut_14 : decode cX5_bestPlaceBut 14 = .ok (.getfield 12, 3) := by decide +kernel
theorem dX5_bestPlaceBut_17 : decode cX5_bestPlaceBut 17 = .ok (.invokevirtual 93, 3) := by decide +kernel
theorem dX5_bestPlaceBut_20 : decode cX5_bestPlaceBut 20 = .ok (.if_icmp .ge 85, 3) := by decide +kernel
theorem dX5_bestPlaceBut_23 : decode cX5_bestPlaceBut 23 = .ok (.aload_n 0, 1) := by decide +kernel
theorem dX5_bestPlaceBut_24 : decode cX5_bestPlaceBut 24 = .ok (.aload_n 1, 1) := by decide +kernel
theorem dX5_bestPlaceBut_25 : decode cX5_bestPlaceBut 25 = .ok (.iload 6, 2) := by decide +kernel
theorem dX5_bestPlaceBut_27 : decode cX5_bestPlaceBut 27 = .ok (.invokevirtual 97, 3) := by decide +kernel
theorem dX5_bestPlaceBut_30 : decode cX5_bestPlaceBut 30 = .ok (.istore 7, 2) := by decide +kernel
theorem dX5_bestPlaceBut_32 : decode cX5_bestPlaceBut 32 = .ok (.iload 6, 2) := by decide +kernel
theorem dX5_bestPlaceBut_34 : decode cX5_bestPlaceBut 34 = .ok (.aload_n 1, 1) := by decide +kernel
theorem dX5_bestPlaceBut_35 : decode cX5_bestPlaceBut 35 = .ok (.invokevirtual 100, 3) := by decide +kernel
theorem dX5_bestPlaceBut_38 : decode cX5_bestPlaceBut 38 = .ok (.isub, 1) := by decide +kernel
theorem dX5_bestPlaceBut_39 : decode cX5_bestPlaceBut 39 = .ok (.invokestatic 77, 3) := by decide +kernel
theorem dX5_bestPlaceBut_42 : decode cX5_bestPlaceBut 42 = .ok (.istore 8, 2) := by decide +kernel
theorem dX5_bestPlaceBut_44 : decode cX5_bestPlaceBut 44 = .ok (.iload_n 3, 1) := by decide +kernel
theorem dX5_bestPlaceBut_45 : decode cX5_bestPlaceBut 45 = .ok (.iconst (-1), 1) := by decide +kernel
theorem dX5_bestPlaceBut_46 : decode cX5_bestPlaceBut 46 = .ok (.if_icmp .eq 24, 3) := by decide +kernel
theorem dX5_bestPlaceBut_49 : decode cX5_bestPlaceBut 49 = .ok (.iload 7, 2) := by decide +kernel
theorem dX5_bestPlaceBut_51 : decode cX5_bestPlaceBut 51 = .ok (.iload 4, 2) := by decide +kernel
theorem dX5_bestPlaceBut_53 : decode cX5_bestPlaceBut 53 = .ok (.if_icmp .gt 17, 3) := by decide +kernel
theorem dX5_bestPlaceBut_56 : decode cX5_bestPlaceBut 56 = .ok (.iload 7, 2) := by decide +kernel
theorem dX5_bestPlaceBut_58 : decode cX5_bestPlaceBut 58 = .ok (.iload 4, 2) := by decide +kernel
theorem dX5_bestPlaceBut_60 : decode cX5_bestPlaceBut 60 = .ok (.if_icmp .ne 14, 3) := by decide +kernel
theorem dX5_bestPlaceBut_63 : decode cX5_bestPlaceBut 63 = .ok (.iload 8, 2) := by decide +kernel
theorem dX5_bestPlaceBut_65 : decode cX5_bestPlaceBut 65 = .ok (.iload 5, 2) := by decide +kernel
theorem dX5_bestPlaceBut_67 : decode cX5_bestPlaceBut 67 = .ok (.if_icmp .ge 7, 3) := by decide +kernel
theorem dX5_bestPlaceBut_70 : decode cX5_bestPlaceBut 70 = .ok (.iconst 1, 1) := by decide +kernel
theorem dX5_bestPlaceBut_71 : decode cX5_bestPlaceBut 71 = .ok (.goto 4, 3) := by decide +kernel
theorem dX5_bestPlaceBut_74 : decode cX5_bestPlaceBut 74 = .ok (.iconst 0, 1) := by decide +kernel
theorem dX5_bestPlaceBut_75 : decode cX5_bestPlaceBut 75 = .ok (.istore 9, 2) := by decide +kernel
theorem dX5_bestPlaceBut_77 : decode cX5_bestPlaceBut 77 = .ok (.iload 6, 2) := by decide +kernel
theorem dX5_bestPlaceBut_79 : decode cX5_bestPlaceBut 79 = .ok (.iload_n 2, 1) := by decide +kernel
theorem dX5_bestPlaceBut_80 : decode cX5_bestPlaceBut 80 = .ok (.if_icmp .eq 19, 3) := by decide +kernel
theorem dX5_bestPlaceBut_83 : decode cX5_bestPlaceBut 83 = .ok (.iload 9, 2) := by decide +kernel
theorem dX5_bestPlaceBut_85 : decode cX5_bestPlaceBut 85 = .ok (.ifCond .eq 14, 3) := by decide +kernel
theorem dX5_bestPlaceBut_88 : decode cX5_bestPlaceBut 88 = .ok (.iload 6, 2) := by decide +kernel
theorem dX5_bestPlaceBut_90 : decode cX5_bestPlaceBut 90 = .ok (.istore_n 3, 1) := by decide +kernel
theorem dX5_bestPlaceBut_91 : decode cX5_bestPlaceBut 91 = .ok (.iload 7, 2) := by decide +kernel
theorem dX5_bestPlaceBut_93 : decode cX5_bestPlaceBut 93 = .ok (.istore 4, 2) := by decide +kernel
theorem dX5_bestPlaceBut_95 : decode cX5_bestPlaceBut 95 = .ok (.iload 8, 2) := by decide +kernel
theorem dX5_bestPlaceBut_97 : decode cX5_bestPlaceBut 97 = .ok (.istore 5, 2) := by decide +kernel
theorem dX5_bestPlaceBut_99 : decode cX5_bestPlaceBut 99 = .ok (.iinc 6 1, 3) := by decide +kernel
theorem dX5_bestPlaceBut_102 : decode cX5_bestPlaceBut 102 = .ok (.goto (-91), 3) := by decide +kernel
theorem dX5_bestPlaceBut_105 : decode cX5_bestPlaceBut 105 = .ok (.iload_n 3, 1) := by decide +kernel
theorem dX5_bestPlaceBut_106 : decode cX5_bestPlaceBut 106 = .ok (.ireturn, 1) := by decide +kernel
set_option maxRecDepth 20000 in
theorem ggX5_isLost_X5_scoreOf : GoodIn wsX5_isLost wsX5_scoreOf := goodIn_r _ [5, 6, 7, 8, 9, 10, 11, 12, 13, 14, 15, 16, 17, 18, 19, 20, 21, 22, 23, 24, 25, 26, 4, 27, 28, 29, 30, 31, 32, 33, 34, 35, 36, 37, 38, 39, 40] (by decide +kernel) (by decide +kernel)
set_option maxRecDepth 20000 in
theorem gX5_isLost_X5_scoreOf : GoodIn wsX5_isLost (wsV RX5 97 RX5 yX5_scoreOf wsX5_scoreOf) := goodIn_app (goodIn_of _ (by decide +kernel)) ggX5_isLost_X5_scoreOf
set_option maxRecDepth 20000 in
theorem ggX5_isLost_X5_setting : GoodIn wsX5_isLost wsX5_setting := goodIn_r _ [27, 28, 29, 30, 31, 32, 33] (by decide +kernel) (by decide +kernel)
set_option maxRecDepth 20000 in
theorem gX5_isLost_X5_setting : GoodIn wsX5_isLost (wsV RX5 82 RX5 yX5_setting wsX5_setting) := goodIn_app (goodIn_of _ (by decide +kernel)) ggX5_isLost_X5_setting
theorem dX5_isLost_0 : decode cX5_isLost 0 = .ok (.iload_n 2, 1) := by decide +kernel
theorem dX5_isLost_1 : decode cX5_isLost 1 = .ok (.iconst (-1), 1) := by decide +kernel
theorem dX5_isLost_2 : decode cX5_isLost 2 = .ok (.if_icmp .eq 17, 3) := by decide +kernel
theorem dX5_isLost_5 : decode cX5_isLost 5 = .ok (.aload_n 0, 1) := by decide +kernel
theorem dX5_isLost_6 : decode cX5_isLost 6 = .ok (.aload_n 1, 1) := by decide +kernel
theorem dX5_isLost_7 : decode cX5_isLost 7 = .ok (.iload_n 2, 1) := by decide +kernel
theorem dX5_isLost_8 : decode cX5_isLost 8 = .ok (.invokevirtual 97, 3) := by decide +kernel
theorem dX5_isLost_11 : decode cX5_isLost 11 = .ok (.aload_n 0, 1) := by decide +kernel
theorem dX5_isLost_12 : decode cX5_isLost 12 = .ok (.iconst 3, 1) := by decide +kernel
theorem dX5_isLost_13 : decode cX5_isLost 13 = .ok (.invokevirtual 82, 3) := by decide +kernel
theorem dX5_isLost_16 : decode cX5_isLost 16 = .ok (.if_icmp .ge 7, 3) := by decide +kernel
theorem dX5_isLost_19 : decode cX5_isLost 19 = .ok (.iconst 1, 1) := by decide +kernel
theorem dX5_isLost_20 : decode cX5_isLost 20 = .ok (.goto 4, 3) := by decide +kernel
theorem dX5_isLost_23 : decode cX5_isLost 23 = .ok (.iconst 0, 1) := by decide +kernel
theorem dX5_isLost_24 : decode cX5_isLost 24 = .ok (.ireturn, 1) := by decide +kernel
set_option maxRecDepth 20000 in
theorem ggX5_standingOf_X5_bestPlace : GoodIn wsX5_standingOf wsX5_bestPlace := goodIn_r _ [5, 6, 7, 8, 4, 9, 10, 11, 12, 13, 14, 15, 16, 17, 18, 19, 20, 21, 22, 23, 24, 25, 26, 27, 28, 29, 30, 31, 32, 33, 34, 35, 36, 37, 38, 39, 40, 41, 42, 43, 44, 45, 50, 51, 52, 53, 54, 55, 56, 57, 58, 59, 60, 61] (by decide +kernel) (by decide +kernel)
set_option maxRecDepth 20000 in
theorem gX5_standingOf_X5_bestPlace : GoodIn wsX5_standingOf (wsV RX5 89 RX5 yX5_bestPlace wsX5_bestPlace) := goodIn_app (goodIn_of _ (by decide +kernel)) ggX5_standingOf_X5_bestPlace
set_option maxRecDepth 20000 in
theorem ggX5_standingOf_X5_isLost : GoodIn wsX5_standingOf wsX5_isLost := goodIn_r _ [49, 21, 22, 23, 4, 24, 10, 11, 12, 13, 14, 25, 26, 27, 28, 29, 30, 31, 32, 33, 18, 34, 20, 35, 36, 37, 38, 39, 40, 50, 51, 52, 53, 54, 59, 60, 61, 55, 56, 57, 58] (by decide +kernel) (by decide +kernel)
set_option maxRecDepth 20000 in
theorem gX5_standingOf_X5_isLost : GoodIn wsX5_standingOf (wsV RX5 103 RX5 yX5_isLost wsX5_isLost) := goodIn_app (goodIn_of _ (by decide +kernel)) ggX5_standingOf_X5_isLost
set_option maxRecDepth 20000 in
theorem ggX5_standingOf_X5_bestPlaceBut : GoodIn wsX5_standingOf wsX5_bestPlaceBut := goodIn_r _ [9, 10, 11, 12, 13, 14, 15, 16, 17, 18, 19, 20, 21, 22, 23, 4, 24, 25, 26, 27, 28, 29, 30, 31, 32, 33, 34, 35, 36, 37, 38, 39, 40, 41, 42, 43, 44, 45, 50, 51, 52, 53, 54, 55, 56, 57, 58, 59, 60, 61] (by decide +kernel) (by decide +kernel)
set_option maxRecDepth 20000 in
theorem gX5_standingOf_X5_bestPlaceBut : GoodIn wsX5_standingOf (wsV RX5 85 RX5 yX5_bestPlaceBut wsX5_bestPlaceBut) := goodIn_app (goodIn_of _ (by decide +kernel)) ggX5_standingOf_X5_bestPlaceBut
set_option maxRecDepth 20000 in
theorem ggX5_standingOf_X5_scoreOf : GoodIn wsX5_standingOf wsX5_scoreOf := goodIn_r _ [24, 10, 11, 12, 13, 14, 25, 26, 27, 28, 29, 30, 31, 32, 33, 18, 34, 20, 35, 36, 37, 38, 4, 39, 40, 50, 51, 52, 53, 54, 59, 60, 61, 55, 56, 57, 58] (by decide +kernel) (by decide +kernel)
set_option maxRecDepth 20000 in
theorem gX5_standingOf_X5_scoreOf : GoodIn wsX5_standingOf (wsV RX5 97 RX5 yX5_scoreOf wsX5_scoreOf) := goodIn_app (goodIn_of _ (by decide +kernel)) ggX5_standingOf_X5_scoreOf
set_option maxRecDepth 20000 in
theorem ggX5_standingOf_X5_setting : GoodIn wsX5_standingOf wsX5_setting := goodIn_r _ [39, 40, 50, 51, 52, 53, 54] (by decide +kernel) (by decide +kernel)
set_option maxRecDepth 20000 in
theorem gX5_standingOf_X5_setting : GoodIn wsX5_standingOf (wsV RX5 82 RX5 yX5_setting wsX5_setting) := goodIn_app (goodIn_of _ (by decide +kernel)) ggX5_standingOf_X5_setting
theorem dX5_standingOf_0 : decode cX5_standingOf 0 = .ok (.aload_n 0, 1) := by decide +kernel
theorem dX5_standingOf_1 : decode cX5_standingOf 1 = .ok (.aload_n 1, 1) := by decide +kernel
theorem dX5_standingOf_2 : decode cX5_standingOf 2 = .ok (.invokevirtual 89, 3) := by decide +kernel
theorem dX5_standingOf_5 : decode cX5_standingOf 5 = .ok (.istore_n 2, 1) := by decide +kernel
theorem dX5_standingOf_6 : decode cX5_standingOf 6 = .ok (.aload_n 0, 1) := by decide +kernel
theorem dX5_standingOf_7 : decode cX5_standingOf 7 = .ok (.aload_n 1, 1) := by decide +kernel
theorem dX5_standingOf_8 : decode cX5_standingOf 8 = .ok (.iload_n 2, 1) := by decide +kernel
theorem dX5_standingOf_9 : decode cX5_standingOf 9 = .ok (.invokevirtual 103, 3) := by decide +kernel
theorem dX5_standingOf_12 : decode cX5_standingOf 12 = .ok (.ifCond .eq 5, 3) := by decide +kernel
theorem dX5_standingOf_15 : decode cX5_standingOf 15 = .ok (.iconst 2, 1) := by decide +kernel
theorem dX5_standingOf_16 : decode cX5_standingOf 16 = .ok (.ireturn, 1) := by decide +kernel
theorem dX5_standingOf_17 : decode cX5_standingOf 17 = .ok (.aload_n 0, 1) := by decide +kernel
theorem dX5_standingOf_18 : decode cX5_standingOf 18 = .ok (.aload_n 1, 1) := by decide +kernel
theorem dX5_standingOf_19 : decode cX5_standingOf 19 = .ok (.iload_n 2, 1) := by decide +kernel
theorem dX5_standingOf_20 : decode cX5_standingOf 20 = .ok (.invokevirtual 85, 3) := by decide +kernel
theorem dX5_standingOf_23 : decode cX5_standingOf 23 = .ok (.istore_n 3, 1) := by decide +kernel
theorem dX5_standingOf_24 : decode cX5_standingOf 24 = .ok (.aload_n 0, 1) := by decide +kernel
theorem dX5_standingOf_25 : decode cX5_standingOf 25 = .ok (.aload_n 1, 1) := by decide +kernel
theorem dX5_standingOf_26 : decode cX5_standingOf 26 = .ok (.iload_n 2, 1) := by decide +kernel
theorem dX5_standingOf_27 : decode cX5_standingOf 27 = .ok (.invokevirtual 97, 3) := by decide +kernel
theorem dX5_standingOf_30 : decode cX5_standingOf 30 = .ok (.aload_n 0, 1) := by decide +kernel
theorem dX5_standingOf_31 : decode cX5_standingOf 31 = .ok (.iconst 4, 1) := by decide +kernel
theorem dX5_standingOf_32 : decode cX5_standingOf 32 = .ok (.invokevirtual 82, 3) := by decide +kernel
theorem dX5_standingOf_35 : decode cX5_standingOf 35 = .ok (.isub, 1) := by decide +kernel
theorem dX5_standingOf_36 : decode cX5_standingOf 36 = .ok (.istore 4, 2) := by decide +kernel
theorem dX5_standingOf_38 : decode cX5_standingOf 38 = .ok (.iload_n 3, 1) := by decide +kernel
theorem dX5_standingOf_39 : decode cX5_standingOf 39 = .ok (.iconst (-1), 1) := by decide +kernel
theorem dX5_standingOf_40 : decode cX5_standingOf 40 = .ok (.if_icmp .eq 18, 3) := by decide +kernel
theorem dX5_standingOf_43 : decode cX5_standingOf 43 = .ok (.aload_n 0, 1) := by decide +kernel
theorem dX5_standingOf_44 : decode cX5_standingOf 44 = .ok (.aload_n 1, 1) := by decide +kernel
theorem dX5_standingOf_45 : decode cX5_standingOf 45 = .ok (.iload_n 3, 1) := by decide +kernel
theorem dX5_standingOf_46 : decode cX5_standingOf 46 = .ok (.invokevirtual 97, 3) := by decide +kernel
theorem dX5_standingOf_49 : decode cX5_standingOf 49 = .ok (.iload 4, 2) := by decide +kernel
theorem dX5_standingOf_51 : decode cX5_standingOf 51 = .ok (.if_icmp .lt 7, 3) := by decide +kernel
theorem dX5_standingOf_54 : decode cX5_standingOf 54 = .ok (.iconst 1, 1) := by decide +kernel
theorem dX5_standingOf_55 : decode cX5_standingOf 55 = .ok (.goto 4, 3) := by decide +kernel
theorem dX5_standingOf_58 : decode cX5_standingOf 58 = .ok (.iconst 0, 1) := by decide +kernel
theorem dX5_standingOf_59 : decode cX5_standingOf 59 = .ok (.ireturn, 1) := by decide +kernel
set_option maxRecDepth 20000 in
theorem ggX5_shiftOf_X5_bestPlace : GoodIn wsX5_shiftOf wsX5_bestPlace := goodIn_r _ [5, 6, 7, 8, 4, 9, 10, 11, 12, 13, 14, 15, 16, 17, 18, 19, 20, 21, 22, 23, 24, 25, 26, 27, 28, 29, 30, 31, 32, 33, 34, 35, 36, 37, 38, 39, 40, 41, 42, 43, 44, 45, 50, 51, 52, 53, 54, 55, 56, 57, 58, 59, 60, 61] (by decide +kernel) (by decide +kernel)
set_option maxRecDepth 20000 in
theorem gX5_shiftOf_X5_bestPlace : GoodIn wsX5_shiftOf (wsV RX5 89 RX5 yX5_bestPlace wsX5_bestPlace) := goodIn_app (goodIn_of _ (by decide +kernel)) ggX5_shiftOf_X5_bestPlace
set_option maxRecDepth 20000 in
theorem ggX5_shiftOf_X5_isLost : GoodIn wsX5_shiftOf wsX5_isLost := goodIn_r _ [49, 21, 22, 23, 4, 24, 10, 11, 12, 13, 14, 25, 26, 27, 28, 29, 30, 31, 32, 33, 18, 34, 20, 35, 36, 37, 38, 39, 40, 50, 51, 52, 53, 54, 59, 60, 61, 55, 56, 57, 58] (by decide +kernel) (by decide +kernel)
set_option maxRecDepth 20000 in
theorem gX5_shiftOf_X5_isLost : GoodIn wsX5_shiftOf (wsV RX5 103 RX5 yX5_isLost wsX5_isLost) := goodIn_app (goodIn_of _ (by decide +kernel)) ggX5_shiftOf_X5_isLost
set_option maxRecDepth 20000 in
theorem ggX5_shiftOf_X0_place : GoodIn wsX5_shiftOf wsX0_place := goodIn_r _ [44, 45, 59, 60, 61] (by decide +kernel) (by decide +kernel)
set_option maxRecDepth 20000 in
theorem gX5_shiftOf_X0_place : GoodIn wsX5_shiftOf (wsV RX5 100 RX0 yX0_place wsX0_place) := goodIn_app (goodIn_of _ (by decide +kernel)) ggX5_shiftOf_X0_place
theorem dX5_shiftOf_0 : decode cX5_shiftOf 0 = .ok (.aload_n 1, 1) := by decide +kernel
theorem dX5_shiftOf_1 : decode cX5_shiftOf 1 = .ok (.ifnonnull 5, 3) := by decide +kernel
theorem dX5_shiftOf_4 : decode cX5_shiftOf 4 = .ok (.iconst 0, 1) := by decide +kernel
theorem dX5_shiftOf_5 : decode cX5_shiftOf 5 = .ok (.ireturn, 1) := by decide +kernel
theorem dX5_shiftOf_6 : decode cX5_shiftOf 6 = .ok (.aload_n 0, 1) := by decide +kernel
theorem dX5_shiftOf_7 : decode cX5_shiftOf 7 = .ok (.aload_n 1, 1) := by decide +kernel
theorem dX5_shiftOf_8 : decode cX5_shiftOf 8 = .ok (.invokevirtual 89, 3) := by decide +kernel
theorem dX5_shiftOf_11 : decode cX5_shiftOf 11 = .ok (.istore_n 2, 1) := by decide +kernel
theorem dX5_shiftOf_12 : decode cX5_shiftOf 12 = .ok (.aload_n 0, 1) := by decide +kernel
theorem dX5_shiftOf_13 : decode cX5_shiftOf 13 = .ok (.aload_n 1, 1) := by decide +kernel
theorem dX5_shiftOf_14 : decode cX5_shiftOf 14 = .ok (.iload_n 2, 1) := by decide +kernel
theorem dX5_shiftOf_15 : decode cX5_shiftOf 15 = .ok (.invokevirtual 103, 3) := by decide +kernel
theorem dX5_shiftOf_18 : decode cX5_shiftOf 18 = .ok (.ifCond .eq 7, 3) := by decide +kernel
theorem dX5_shiftOf_21 : decode cX5_shiftOf 21 = .ok (.iconst 0, 1) := by decide +kernel
theorem dX5_shiftOf_22 : decode cX5_shiftOf 22 = .ok (.goto 9, 3) := by decide +kernel
theorem dX5_shiftOf_25 : decode cX5_shiftOf 25 = .ok (.iload_n 2, 1) := by decide +kernel
theorem dX5_shiftOf_26 : decode cX5_shiftOf 26 = .ok (.aload_n 1, 1) := by decide +kernel
theorem dX5_shiftOf_27 : decode cX5_shiftOf 27 = .ok (.invokevirtual 100, 3) := by decide +kernel
theorem dX5_shiftOf_30 : decode cX5_shiftOf 30 = .ok (.isub, 1) := by decide +kernel
theorem dX5_shiftOf_31 : decode cX5_shiftOf 31 = .ok (.ireturn, 1) := by decide +kernel
set_option maxRecDepth 20000 in
theorem ggX5_isOfKind_X5_bestPlace : GoodIn wsX5_isOfKind wsX5_bestPlace := goodIn_r _ [5, 6, 7, 8, 4, 9, 10, 11, 12, 13, 14, 15, 16, 17, 18, 19, 20, 21, 22, 23, 24, 25, 26, 27, 28, 29, 30, 31, 32, 33, 34, 35, 36, 37, 38, 39, 40, 41, 42, 43, 44, 45, 59, 60, 61, 62, 63, 64, 65, 66, 67, 68, 69, 70] (by decide +kernel) (by decide +kernel)
set_option maxRecDepth 20000 in
theorem gX5_isOfKind_X5_bestPlace : GoodIn wsX5_isOfKind (wsV RX5 89 RX5 yX5_bestPlace wsX5_bestPlace) := goodIn_app (goodIn_of _ (by decide +kernel)) ggX5_isOfKind_X5_bestPlace
set_option maxRecDepth 20000 in
theorem ggX5_isOfKind_X5_isLost : GoodIn wsX5_isOfKind wsX5_isLost := goodIn_r _ [49, 21, 22, 23, 4, 24, 10, 11, 12, 13, 14, 25, 26, 27, 28, 29, 30, 31, 32, 33, 18, 34, 20, 35, 36, 37, 38, 39, 40, 59, 60, 61, 62, 63, 68, 69, 70, 64, 65, 66, 67] (by decide +kernel) (by decide +kernel)
set_option maxRecDepth 20000 in
theorem gX5_isOfKind_X5_isLost : GoodIn wsX5_isOfKind (wsV RX5 103 RX5 yX5_isLost wsX5_isLost) := goodIn_app (goodIn_of _ (by decide +kernel)) ggX5_isOfKind_X5_isLost
set_option maxRecDepth 20000 in
theorem ggX5_isOfKind_X0_truePlace : GoodIn wsX5_isOfKind wsX0_truePlace := goodIn_r _ [53, 54, 68, 69, 70] (by decide +kernel) (by decide +kernel)
set_option maxRecDepth 20000 in
theorem gX5_isOfKind_X0_truePlace : GoodIn wsX5_isOfKind (wsV RX5 107 RX0 yX0_truePlace wsX0_truePlace) := goodIn_app (goodIn_of _ (by decide +kernel)) ggX5_isOfKind_X0_truePlace
set_option maxRecDepth 20000 in
theorem ggX5_isOfKind_X5_standingOf : GoodIn wsX5_isOfKind wsX5_standingOf := goodIn_r _ [58, 1, 2, 3, 4, 5, 6, 7, 8, 9, 10, 11, 12, 13, 14, 15, 16, 17, 18, 19, 20, 21, 22, 23, 24, 25, 26, 27, 28, 29, 30, 31, 32, 33, 34, 35, 36, 37, 38, 39, 40, 41, 42, 43, 44, 45, 46, 47, 48, 49, 59, 60, 61, 62, 63, 64, 65, 66, 67, 68, 69, 70] (by decide +kernel) (by decide +kernel)
set_option maxRecDepth 20000 in
theorem gX5_isOfKind_X5_standingOf : GoodIn wsX5_isOfKind (wsV RX5 110 RX5 yX5_standingOf wsX5_standingOf) := goodIn_app (goodIn_of _ (by decide +kernel)) ggX5_isOfKind_X5_standingOf
theorem dX5_isOfKind_0 : decode cX5_isOfKind 0 = .ok (.iload_n 2, 1) := by decide +kernel
theorem dX5_isOfKind_1 : decode cX5_isOfKind 1 = .ok (.tableswitch 109 2 5 #[31, 42, 68, 82], 31) := by decide +kernel
theorem dX5_isOfKind_32 : decode cX5_isOfKind 32 = .ok (.aload_n 0, 1) := by decide +kernel
theorem dX5_isOfKind_33 : decode cX5_isOfKind 33 = .ok (.aload_n 1, 1) := by decide +kernel
theorem dX5_isOfKind_34 : decode cX5_isOfKind 34 = .ok (.aload_n 0, 1) := by decide +kernel
theorem dX5_isOfKind_35 : decode cX5_isOfKind 35 = .ok (.aload_n 1, 1) := by decide +kernel
theorem dX5_isOfKind_36 : decode cX5_isOfKind 36 = .ok (.invokevirtual 89, 3) := by decide +kernel
theorem dX5_isOfKind_39 : decode cX5_isOfKind 39 = .ok (.invokevirtual 103, 3) := by decide +kernel
theorem dX5_isOfKind_42 : decode cX5_isOfKind 42 = .ok (.ireturn, 1) := by decide +kernel
theorem dX5_isOfKind_43 : decode cX5_isOfKind 43 = .ok (.aload_n 1, 1) := by decide +kernel
theorem dX5_isOfKind_44 : decode cX5_isOfKind 44 = .ok (.invokevirtual 107, 3) := by decide +kernel
theorem dX5_isOfKind_47 : decode cX5_isOfKind 47 = .ok (.iconst (-1), 1) := by decide +kernel
theorem dX5_isOfKind_48 : decode cX5_isOfKind 48 = .ok (.if_icmp .eq 19, 3) := by decide +kernel
theorem dX5_isOfKind_51 : decode cX5_isOfKind 51 = .ok (.aload_n 1, 1) := by decide +kernel
theorem dX5_isOfKind_52 : decode cX5_isOfKind 52 = .ok (.invokevirtual 107, 3) := by decide +kernel
theorem dX5_isOfKind_55 : decode cX5_isOfKind 55 = .ok (.aload_n 0, 1) := by decide +kernel
theorem dX5_isOfKind_56 : decode cX5_isOfKind 56 = .ok (.aload_n 1, 1) := by decide +kernel
theorem dX5_isOfKind_57 : decode cX5_isOfKind 57 = .ok (.invokevirtual 89, 3) := by decide +kernel
theorem dX5_isOfKind_60 : decode cX5_isOfKind 60 = .ok (.if_icmp .ne 7, 3) := by decide +kernel
theorem dX5_isOfKind_63 : decode cX5_isOfKind 63 = .ok (.iconst 1, 1) := by decide +kernel
theorem dX5_isOfKind_64 : decode cX5_isOfKind 64 = .ok (.goto 4, 3) := by decide +kernel
theorem dX5_isOfKind_67 : decode cX5_isOfKind 67 = .ok (.iconst 0, 1) := by decide +kernel
theorem dX5_isOfKind_68 : decode cX5_isOfKind 68 = .ok (.ireturn, 1) := by decide +kernel
theorem dX5_isOfKind_69 : decode cX5_isOfKind 69 = .ok (.aload_n 1, 1) := by decide +kernel
theorem dX5_isOfKind_70 : decode cX5_isOfKind 70 = .ok (.invokevirtual 107, 3) := by decide +kernel
theorem dX5_isOfKind_73 : decode cX5_isOfKind 73 = .ok (.iconst (-1), 1) := by decide +kernel
theorem dX5_isOfKind_74 : decode cX5_isOfKind 74 = .ok (.if_icmp .ne 7, 3) := by decide +kernel
theorem dX5_isOfKind_77 : decode cX5_isOfKind 77 = .ok (.iconst 1, 1) := by decide +kernel
theorem dX5_isOfKind_78 : decode cX5_isOfKind 78 = .ok (.goto 4, 3) := by decide +kernel
theorem dX5_isOfKind_81 : decode cX5_isOfKind 81 = .ok (.iconst 0, 1) := by decide +kernel
theorem dX5_isOfKind_82 : decode cX5_isOfKind 82 = .ok (.ireturn, 1) := by decide +kernel
theorem dX5_isOfKind_83 : decode cX5_isOfKind 83 = .ok (.aload_n 1, 1) := by decide +kernel
theorem dX5_isOfKind_84 : decode cX5_isOfKind 84 = .ok (.invokevirtual 107, 3) := by decide +kernel
theorem dX5_isOfKind_87 : decode cX5_isOfKind 87 = .ok (.iconst (-1), 1) := by decide +kernel
theorem dX5_isOfKind_88 : decode cX5_isOfKind 88 = .ok (.if_icmp .eq 20, 3) := by decide +kernel
theorem dX5_isOfKind_91 : decode cX5_isOfKind 91 = .ok (.aload_n 0, 1) := by decide +kernel
theorem dX5_isOfKind_92 : decode cX5_isOfKind 92 = .ok (.aload_n 1, 1) := by decide +kernel
theorem dX5_isOfKind_93 : decode cX5_isOfKind 93 = .ok (.aload_n 0, 1) := by decide +kernel
theorem dX5_isOfKind_94 : decode cX5_isOfKind 94 = .ok (.aload_n 1, 1) := by decide +kernel
theorem dX5_isOfKind_95 : decode cX5_isOfKind 95 = .ok (.invokevirtual 89, 3) := by decide +kernel
theorem dX5_isOfKind_98 : decode cX5_isOfKind 98 = .ok (.invokevirtual 103, 3) := by decide +kernel
theorem dX5_isOfKind_101 : decode cX5_isOfKind 101 = .ok (.ifCond .eq 7, 3) := by decide +kernel
theorem dX5_isOfKind_104 : decode cX5_isOfKind 104 = .ok (.iconst 1, 1) := by decide +kernel
theorem dX5_isOfKind_105 : decode cX5_isOfKind 105 = .ok (.goto 4, 3) := by decide +kernel
theorem dX5_isOfKind_108 : decode cX5_isOfKind 108 = .ok (.iconst 0, 1) := by decide +kernel
theorem dX5_isOfKind_109 : decode cX5_isOfKind 109 = .ok (.ireturn, 1) := by decide +kernel
theorem dX5_isOfKind_110 : decode cX5_isOfKind 110 = .ok (.aload_n 0, 1) := by decide +kernel
theorem dX5_isOfKind_111 : decode cX5_isOfKind 111 = .ok (.aload_n 1, 1) := by decide +kernel
theorem dX5_isOfKind_112 : decode cX5_isOfKind 112 = .ok (.invokevirtual 110, 3) := by decide +kernel
theorem dX5_isOfKind_115 : decode cX5_isOfKind 115 = .ok (.iload_n 2, 1) := by decide +kernel
theorem dX5_isOfKind_116 : decode cX5_isOfKind 116 = .ok (.if_icmp .ne 7, 3) := by decide +kernel
theorem dX5_isOfKind_119 : decode cX5_isOfKind 119 = .ok (.iconst 1, 1) := by decide +kernel
theorem dX5_isOfKind_120 : decode cX5_isOfKind 120 = .ok (.goto 4, 3) := by decide +kernel
theorem dX5_isOfKind_123 : decode cX5_isOfKind 123 = .ok (.iconst 0, 1) := by decide +kernel
theorem dX5_isOfKind_124 : decode cX5_isOfKind 124 = .ok (.ireturn, 1) := by decide +kernel
set_option maxRecDepth 20000 in
theorem ggX5_anchorsOfKind_X5_anchorNumbered : GoodIn wsX5_anchorsOfKind wsX5_anchorNumbered := goodIn_r _ [6, 1, 7, 69, 70, 71, 72, 73] (by decide +kernel) (by decide +kernel)
set_option maxRecDepth 20000 in
theorem gX5_anchorsOfKind_X5_anchorNumbered : GoodIn wsX5_anchorsOfKind (wsV RX5 36 RX5 yX5_anchorNumbered wsX5_anchorNumbered) := goodIn_app (goodIn_of _ (by decide +kernel)) ggX5_anchorsOfKind_X5_anchorNumbered
set_option maxRecDepth 20000 in
theorem ggX5_anchorsOfKind_X5_isOfKind : GoodIn wsX5_anchorsOfKind wsX5_isOfKind := goodIn_r _ [11, 12, 13, 14, 5, 15, 16, 17, 18, 19, 20, 21, 22, 23, 24, 25, 26, 27, 28, 29, 30, 31, 32, 33, 34, 35, 36, 37, 38, 39, 40, 41, 42, 43, 44, 45, 46, 47, 48, 49, 50, 51, 52, 53, 54, 55, 56, 57, 58, 59, 60, 61, 62, 63, 64, 65, 66, 67, 68, 69, 70, 71, 72, 73, 74, 75, 76, 77, 78, 79, 80] (by decide +kernel) (by decide +kernel)
set_option maxRecDepth 20000 in
theorem gX5_anchorsOfKind_X5_isOfKind : GoodIn wsX5_anchorsOfKind (wsV RX5 113 RX5 yX5_isOfKind wsX5_isOfKind) := goodIn_app (goodIn_of _ (by decide +kernel)) ggX5_anchorsOfKind_X5_isOfKind
theorem dX5_anchorsOfKind_0 : decode cX5_anchorsOfKind 0 = .ok (.iconst 0, 1) := by decide +kernel
theorem dX5_anchorsOfKind_1 : decode cX5_anchorsOfKind 1 = .ok (.istore_n 2, 1) := by decide +kernel
theorem dX5_anchorsOfKind_2 : decode cX5_anchorsOfKind 2 = .ok (.iconst 0, 1) := by decide +kernel
theorem dX5_anchorsOfKind_3 : decode cX5_anchorsOfKind 3 = .ok (.istore_n 3, 1) := by decide +kernel
theorem dX5_anchorsOfKind_4 : decode cX5_anchorsOfKind 4 = .ok (.iload_n 3, 1) := by decide +kernel
theorem dX5_anchorsOfKind_5 : decode cX5_anchorsOfKind 5 = .ok (.aload_n 0, 1) := by decide +kernel
theorem dX5_anchorsOfKind_6 : decode cX5_anchorsOfKind 6 = .ok (.getfield 29, 3) := by decide +kernel
theorem dX5_anchorsOfKind_9 : decode cX5_anchorsOfKind 9 = .ok (.if_icmp .ge 37, 3) := by decide +kernel
theorem dX5_anchorsOfKind_12 : decode cX5_anchorsOfKind 12 = .ok (.aload_n 0, 1) := by decide +kernel
theorem dX5_anchorsOfKind_13 : decode cX5_anchorsOfKind 13 = .ok (.iload_n 3, 1) := by decide +kernel
theorem dX5_anchorsOfKind_14 : decode cX5_anchorsOfKind 14 = .ok (.invokevirtual 36, 3) := by decide +kernel
theorem dX5_anchorsOfKind_17 : decode cX5_anchorsOfKind 17 = .ok (.astore 4, 2) := by decide +kernel
theorem dX5_anchorsOfKind_19 : decode cX5_anchorsOfKind 19 = .ok (.aload 4, 2) := by decide +kernel
theorem dX5_anchorsOfKind_21 : decode cX5_anchorsOfKind 21 = .ok (.ifnull 19, 3) := by decide +kernel
theorem dX5_anchorsOfKind_24 : decode cX5_anchorsOfKind 24 = .ok (.aload_n 0, 1) := by decide +kernel
theorem dX5_anchorsOfKind_25 : decode cX5_anchorsOfKind 25 = .ok (.aload 4, 2) := by decide +kernel
theorem dX5_anchorsOfKind_27 : decode cX5_anchorsOfKind 27 = .ok (.iload_n 1, 1) := by decide +kernel
theorem dX5_anchorsOfKind_28 : decode cX5_anchorsOfKind 28 = .ok (.invokevirtual 113, 3) := by decide +kernel
theorem dX5_anchorsOfKind_31 : decode cX5_anchorsOfKind 31 = .ok (.ifCond .eq 9, 3) := by decide +kernel
theorem dX5_anchorsOfKind_34 : decode cX5_anchorsOfKind 34 = .ok (.iload_n 2, 1) := by decide +kernel
theorem dX5_anchorsOfKind_35 : decode cX5_anchorsOfKind 35 = .ok (.iconst 1, 1) := by decide +kernel
theorem dX5_anchorsOfKind_36 : decode cX5_anchorsOfKind 36 = .ok (.iload_n 3, 1) := by decide +kernel
theorem dX5_anchorsOfKind_37 : decode cX5_anchorsOfKind 37 = .ok (.ishl, 1) := by decide +kernel
theorem dX5_anchorsOfKind_38 : decode cX5_anchorsOfKind 38 = .ok (.ior, 1) := by decide +kernel
theorem dX5_anchorsOfKind_39 : decode cX5_anchorsOfKind 39 = .ok (.istore_n 2, 1) := by decide +kernel
theorem dX5_anchorsOfKind_40 : decode cX5_anchorsOfKind 40 = .ok (.iinc 3 1, 3) := by decide +kernel
theorem dX5_anchorsOfKind_43 : decode cX5_anchorsOfKind 43 = .ok (.goto (-39), 3) := by decide +kernel
theorem dX5_anchorsOfKind_46 : decode cX5_anchorsOfKind 46 = .ok (.iload_n 2, 1) := by decide +kernel
theorem dX5_anchorsOfKind_47 : decode cX5_anchorsOfKind 47 = .ok (.ireturn, 1) := by decide +kernel
set_option maxRecDepth 20000 in
theorem ggX5_faultOf_X2_number : GoodIn wsX5_faultOf wsX2_number := goodIn_r _ [6, 7, 38, 39, 40, 41, 42, 43] (by decide +kernel) (by decide +kernel)
set_option maxRecDepth 20000 in
theorem gX5_faultOf_X2_number : GoodIn wsX5_faultOf (wsV RX5 116 RX2 yX2_number wsX2_number) := goodIn_app (goodIn_of _ (by decide +kernel)) ggX5_faultOf_X2_number
set_option maxRecDepth 20000 in
theorem ggX5_faultOf_X2_sign : GoodIn wsX5_faultOf wsX2_sign := goodIn_r _ [11, 12, 38, 39, 40, 41, 42, 43] (by decide +kernel) (by decide +kernel)
set_option maxRecDepth 20000 in
theorem gX5_faultOf_X2_sign : GoodIn wsX5_faultOf (wsV RX5 121 RX2 yX2_sign wsX2_sign) := goodIn_app (goodIn_of _ (by decide +kernel)) ggX5_faultOf_X2_sign
set_option maxRecDepth 20000 in
theorem ggX5_faultOf_X4_takesAt : GoodIn wsX5_faultOf wsX4_takesAt := goodIn_r _ [17, 18, 44, 45, 46, 47] (by decide +kernel) (by decide +kernel)
set_option maxRecDepth 20000 in
theorem gX5_faultOf_X4_takesAt : GoodIn wsX5_faultOf (wsV RX5 125 RX4 yX4_takesAt wsX4_takesAt) := goodIn_app (goodIn_of _ (by decide +kernel)) ggX5_faultOf_X4_takesAt
set_option maxRecDepth 20000 in
theorem ggX5_faultOf_X4_canShift : GoodIn wsX5_faultOf wsX4_canShift := goodIn_r _ [22, 18, 23, 24, 25, 16, 26, 27, 44, 45, 46, 47] (by decide +kernel) (by decide +kernel)
set_option maxRecDepth 20000 in
theorem gX5_faultOf_X4_canShift : GoodIn wsX5_faultOf (wsV RX5 129 RX4 yX4_canShift wsX4_canShift) := goodIn_app (goodIn_of _ (by decide +kernel)) ggX5_faultOf_X4_canShift
set_option maxRecDepth 20000 in
theorem ggX5_faultOf_X4_holds : GoodIn wsX5_faultOf wsX4_holds := goodIn_r _ [26, 18, 27, 44, 45, 46, 47] (by decide +kernel) (by decide +kernel)
set_option maxRecDepth 20000 in
theorem gX5_faultOf_X4_holds : GoodIn wsX5_faultOf (wsV RX5 133 RX4 yX4_holds wsX4_holds) := goodIn_app (goodIn_of _ (by decide +kernel)) ggX5_faultOf_X4_holds
set_option maxRecDepth 20000 in
theorem ggX5_faultOf_X4_isFull : GoodIn wsX5_faultOf wsX4_isFull := goodIn_r _ [32, 18, 27, 44, 45, 46, 47] (by decide +kernel) (by decide +kernel)
set_option maxRecDepth 20000 in
theorem gX5_faultOf_X4_isFull : GoodIn wsX5_faultOf (wsV RX5 136 RX4 yX4_isFull wsX4_isFull) := goodIn_app (goodIn_of _ (by decide +kernel)) ggX5_faultOf_X4_isFull
theorem dX5_faultOf_0 : decode cX5_faultOf 0 = .ok (.aload_n 1, 1) := by decide +kernel
theorem dX5_faultOf_1 : decode cX5_faultOf 1 = .ok (.iconst 0, 1) := by decide +kernel
theorem dX5_faultOf_2 : decode cX5_faultOf 2 = .ok (.invokevirtual 116, 3) := by decide +kernel
theorem dX5_faultOf_5 : decode cX5_faultOf 5 = .ok (.istore_n 2, 1) := by decide +kernel
theorem dX5_faultOf_6 : decode cX5_faultOf 6 = .ok (.aload_n 1, 1) := by decide +kernel
theorem dX5_faultOf_7 : decode cX5_faultOf 7 = .ok (.invokevirtual 121, 3) := by decide +kernel
theorem dX5_faultOf_10 : decode cX5_faultOf 10 = .ok (.lookupswitch 60 #[(43, 26), (62, 38)], 26) := by decide +kernel
theorem dX5_faultOf_36 : decode cX5_faultOf 36 = .ok (.aload_n 0, 1) := by decide +kernel
theorem dX5_faultOf_37 : decode cX5_faultOf 37 = .ok (.getfield 12, 3) := by decide +kernel
theorem dX5_faultOf_40 : decode cX5_faultOf 40 = .ok (.iload_n 2, 1) := by decide +kernel
theorem dX5_faultOf_41 : decode cX5_faultOf 41 = .ok (.invokevirtual 125, 3) := by decide +kernel
theorem dX5_faultOf_44 : decode cX5_faultOf 44 = .ok (.istore_n 3, 1) := by decide +kernel
theorem dX5_faultOf_45 : decode cX5_faultOf 45 = .ok (.goto 34, 3) := by decide +kernel
theorem dX5_faultOf_48 : decode cX5_faultOf 48 = .ok (.aload_n 0, 1) := by decide +kernel
theorem dX5_faultOf_49 : decode cX5_faultOf 49 = .ok (.getfield 12, 3) := by decide +kernel
theorem dX5_faultOf_52 : decode cX5_faultOf 52 = .ok (.iload_n 2, 1) := by decide +kernel
theorem dX5_faultOf_53 : decode cX5_faultOf 53 = .ok (.aload_n 1, 1) := by decide +kernel
theorem dX5_faultOf_54 : decode cX5_faultOf 54 = .ok (.iconst 1, 1) := by decide +kernel
theorem dX5_faultOf_55 : decode cX5_faultOf 55 = .ok (.invokevirtual 116, 3) := by decide +kernel
theorem dX5_faultOf_58 : decode cX5_faultOf 58 = .ok (.aload_n 1, 1) := by decide +kernel
theorem dX5_faultOf_59 : decode cX5_faultOf 59 = .ok (.iconst 2, 1) := by decide +kernel
theorem dX5_faultOf_60 : decode cX5_faultOf 60 = .ok (.invokevirtual 116, 3) := by decide +kernel
theorem dX5_faultOf_63 : decode cX5_faultOf 63 = .ok (.invokevirtual 129, 3) := by decide +kernel
theorem dX5_faultOf_66 : decode cX5_faultOf 66 = .ok (.istore_n 3, 1) := by decide +kernel
theorem dX5_faultOf_67 : decode cX5_faultOf 67 = .ok (.goto 12, 3) := by decide +kernel
theorem dX5_faultOf_70 : decode cX5_faultOf 70 = .ok (.aload_n 0, 1) := by decide +kernel
theorem dX5_faultOf_71 : decode cX5_faultOf 71 = .ok (.getfield 12, 3) := by decide +kernel
theorem dX5_faultOf_74 : decode cX5_faultOf 74 = .ok (.iload_n 2, 1) := by decide +kernel
theorem dX5_faultOf_75 : decode cX5_faultOf 75 = .ok (.invokevirtual 133, 3) := by decide +kernel
theorem dX5_faultOf_78 : decode cX5_faultOf 78 = .ok (.istore_n 3, 1) := by decide +kernel
theorem dX5_faultOf_79 : decode cX5_faultOf 79 = .ok (.iload_n 3, 1) := by decide +kernel
theorem dX5_faultOf_80 : decode cX5_faultOf 80 = .ok (.ifCond .ne 5, 3) := by decide +kernel
theorem dX5_faultOf_83 : decode cX5_faultOf 83 = .ok (.iconst 2, 1) := by decide +kernel
theorem dX5_faultOf_84 : decode cX5_faultOf 84 = .ok (.ireturn, 1) := by decide +kernel
theorem dX5_faultOf_85 : decode cX5_faultOf 85 = .ok (.aload_n 1, 1) := by decide +kernel
theorem dX5_faultOf_86 : decode cX5_faultOf 86 = .ok (.invokevirtual 121, 3) := by decide +kernel
theorem dX5_faultOf_89 : decode cX5_faultOf 89 = .ok (.bipush 43, 2) := by decide +kernel
theorem dX5_faultOf_91 : decode cX5_faultOf 91 = .ok (.if_icmp .ne 17, 3) := by decide +kernel
theorem dX5_faultOf_94 : decode cX5_faultOf 94 = .ok (.aload_n 0, 1) := by decide +kernel
theorem dX5_faultOf_95 : decode cX5_faultOf 95 = .ok (.getfield 12, 3) := by decide +kernel
theorem dX5_faultOf_98 : decode cX5_faultOf 98 = .ok (.invokevirtual 136, 3) := by decide +kernel
theorem dX5_faultOf_101 : decode cX5_faultOf 101 = .ok (.ifCond .eq 7, 3) := by decide +kernel
theorem dX5_faultOf_104 : decode cX5_faultOf 104 = .ok (.iconst 3, 1) := by decide +kernel
theorem dX5_faultOf_105 : decode cX5_faultOf 105 = .ok (.goto 4, 3) := by decide +kernel
theorem dX5_faultOf_108 : decode cX5_faultOf 108 = .ok (.iconst 0, 1) := by decide +kernel
theorem dX5_faultOf_109 : decode cX5_faultOf 109 = .ok (.ireturn, 1) := by decide +kernel
set_option maxRecDepth 20000 in
theorem ggX5_perform_X2_number : GoodIn wsX5_perform wsX2_number := goodIn_r _ [5, 6, 96, 97, 98, 99, 100, 101] (by decide +kernel) (by decide +kernel)
set_option maxRecDepth 20000 in
theorem gX5_perform_X2_number : GoodIn wsX5_perform (wsV RX5 116 RX2 yX2_number wsX2_number) := goodIn_app (goodIn_of _ (by decide +kernel)) ggX5_perform_X2_number
set_option maxRecDepth 20000 in
theorem ggX5_perform_X2_sign : GoodIn wsX5_perform wsX2_sign := goodIn_r _ [10, 11, 96, 97, 98, 99, 100, 101] (by decide +kernel) (by decide +kernel)
set_option maxRecDepth 20000 in
theorem gX5_perform_X2_sign : GoodIn wsX5_perform (wsV RX5 121 RX2 yX2_sign wsX2_sign) := goodIn_app (goodIn_of _ (by decide +kernel)) ggX5_perform_X2_sign
set_option maxRecDepth 20000 in
theorem ggX5_perform_X5_insertWord : GoodIn wsX5_perform wsX5_insertWord := goodIn_r _ [16, 17, 18, 19, 20, 21, 22, 23, 24, 25, 26, 27, 28, 29, 30, 31, 32, 33, 34, 35, 36, 37, 38, 39, 40, 41, 42, 43, 44, 45, 15, 46, 47, 48, 49, 50, 51, 52, 53, 54, 55, 56, 57, 58, 59, 60, 102, 103, 104, 105, 106, 107, 108, 109, 110, 111, 112, 113] (by decide +kernel) (by decide +kernel)
set_option maxRecDepth 20000 in
theorem gX5_perform_X5_insertWord : GoodIn wsX5_perform (wsV RX5 140 RX5 yX5_insertWord wsX5_insertWord) := goodIn_app (goodIn_of _ (by decide +kernel)) ggX5_perform_X5_insertWord
set_option maxRecDepth 20000 in
theorem ggX5_perform_X5_removeWord : GoodIn wsX5_perform wsX5_removeWord := goodIn_r _ [64, 17, 65, 66, 67, 21, 68, 23, 24, 69, 70, 71, 72, 25, 34, 35, 36, 37, 38, 39, 40, 41, 42, 43, 44, 45, 15, 46, 47, 48, 49, 50, 51, 52, 53, 54, 55, 56, 57, 58, 59, 60, 102, 103, 104, 105, 106, 107, 108, 109, 110, 111, 112, 113] (by decide +kernel) (by decide +kernel)
set_option maxRecDepth 20000 in
theorem gX5_perform_X5_removeWord : GoodIn wsX5_perform (wsV RX5 143 RX5 yX5_removeWord wsX5_removeWord) := goodIn_app (goodIn_of _ (by decide +kernel)) ggX5_perform_X5_removeWord
set_option maxRecDepth 20000 in
theorem ggX5_perform_X5_replaceWord : GoodIn wsX5_perform wsX5_replaceWord := goodIn_r _ [76, 17, 77, 78, 79, 21, 80, 23, 25, 69, 70, 71, 72, 24, 43, 44, 45, 15, 46, 47, 48, 49, 50, 51, 52, 53, 54, 55, 56, 57, 58, 59, 60, 40, 41, 42, 102, 103, 104, 105, 106, 107, 108, 109, 110, 111, 112, 113] (by decide +kernel) (by decide +kernel)
set_option maxRecDepth 20000 in
theorem gX5_perform_X5_replaceWord : GoodIn wsX5_perform (wsV RX5 146 RX5 yX5_replaceWord wsX5_replaceWord) := goodIn_app (goodIn_of _ (by decide +kernel)) ggX5_perform_X5_replaceWord
set_option maxRecDepth 20000 in
theorem ggX5_perform_X5_shiftWords : GoodIn wsX5_perform wsX5_shiftWords := goodIn_r _ [84, 17, 85, 86, 87, 21, 88, 23, 24, 89, 90, 91, 92, 69, 70, 71, 72, 25, 93, 94, 95, 34, 35, 36, 37, 38, 39, 40, 41, 42, 43, 44, 45, 15, 46, 47, 48, 49, 50, 51, 52, 53, 54, 55, 56, 57, 58, 59, 60, 102, 103, 104, 105, 106, 107, 108, 109, 110, 111, 112, 113] (by decide +kernel) (by decide +kernel)
set_option maxRecDepth 20000 in
theorem gX5_perform_X5_shiftWords : GoodIn wsX5_perform (wsV RX5 149 RX5 yX5_shiftWords wsX5_shiftWords) := goodIn_app (goodIn_of _ (by decide +kernel)) ggX5_perform_X5_shiftWords
theorem dX5_perform_0 : decode cX5_perform 0 = .ok (.aload_n 1, 1) := by decide +kernel
theorem dX5_perform_1 : decode cX5_perform 1 = .ok (.iconst 0, 1) := by decide +kernel
theorem dX5_perform_2 : decode cX5_perform 2 = .ok (.invokevirtual 116, 3) := by decide +kernel
theorem dX5_perform_5 : decode cX5_perform 5 = .ok (.istore_n 2, 1) := by decide +kernel
theorem dX5_perform_6 : decode cX5_perform 6 = .ok (.aload_n 1, 1) := by decide +kernel
theorem dX5_perform_7 : decode cX5_perform 7 = .ok (.invokevirtual 121, 3) := by decide +kernel
theorem dX5_perform_10 : decode cX5_perform 10 = .ok (.lookupswitch 68 #[(43, 34), (45, 47), (61, 55)], 34) := by decide +kernel
theorem dX5_perform_44 : decode cX5_perform 44 = .ok (.aload_n 0, 1) := by decide +kernel
theorem dX5_perform_45 : decode cX5_perform 45 = .ok (.iload_n 2, 1) := by decide +kernel
theorem dX5_perform_46 : decode cX5_perform 46 = .ok (.aload_n 1, 1) := by decide +kernel
theorem dX5_perform_47 : decode cX5_perform 47 = .ok (.iconst 1, 1) := by decide +kernel
theorem dX5_perform_48 : decode cX5_perform 48 = .ok (.invokevirtual 116, 3) := by decide +kernel
theorem dX5_perform_51 : decode cX5_perform 51 = .ok (.invokevirtual 140, 3) := by decide +kernel
theorem dX5_perform_54 : decode cX5_perform 54 = .ok (.goto 39, 3) := by decide +kernel
theorem dX5_perform_57 : decode cX5_perform 57 = .ok (.aload_n 0, 1) := by decide +kernel
theorem dX5_perform_58 : decode cX5_perform 58 = .ok (.iload_n 2, 1) := by decide +kernel
theorem dX5_perform_59 : decode cX5_perform 59 = .ok (.invokevirtual 143, 3) := by decide +kernel
theorem dX5_perform_62 : decode cX5_perform 62 = .ok (.goto 31, 3) := by decide +kernel
theorem dX5_perform_65 : decode cX5_perform 65 = .ok (.aload_n 0, 1) := by decide +kernel
theorem dX5_perform_66 : decode cX5_perform 66 = .ok (.iload_n 2, 1) := by decide +kernel
theorem dX5_perform_67 : decode cX5_perform 67 = .ok (.aload_n 1, 1) := by decide +kernel
theorem dX5_perform_68 : decode cX5_perform 68 = .ok (.iconst 1, 1) := by decide +kernel
theorem dX5_perform_69 : decode cX5_perform 69 = .ok (.invokevirtual 116, 3) := by decide +kernel
theorem dX5_perform_72 : decode cX5_perform 72 = .ok (.invokevirtual 146, 3) := by decide +kernel
theorem dX5_perform_75 : decode cX5_perform 75 = .ok (.goto 18, 3) := by decide +kernel
theorem dX5_perform_78 : decode cX5_perform 78 = .ok (.aload_n 0, 1) := by decide +kernel
theorem dX5_perform_79 : decode cX5_perform 79 = .ok (.iload_n 2, 1) := by decide +kernel
theorem dX5_perform_80 : decode cX5_perform 80 = .ok (.aload_n 1, 1) := by decide +kernel
theorem dX5_perform_81 : decode cX5_perform 81 = .ok (.iconst 1, 1) := by decide +kernel
theorem dX5_perform_82 : decode cX5_perform 82 = .ok (.invokevirtual 116, 3) := by decide +kernel
theorem dX5_perform_85 : decode cX5_perform 85 = .ok (.aload_n 1, 1) := by decide +kernel
theorem dX5_perform_86 : decode cX5_perform 86 = .ok (.iconst 2, 1) := by decide +kernel
theorem dX5_perform_87 : decode cX5_perform 87 = .ok (.invokevirtual 116, 3) := by decide +kernel
theorem dX5_perform_90 : decode cX5_perform 90 = .ok (.invokevirtual 149, 3) := by decide +kernel
theorem dX5_perform_93 : decode cX5_perform 93 = .ok (.return_, 1) := by decide +kernel
set_option maxRecDepth 20000 in
theorem ggX5_copyFrom_X4_copyFrom : GoodIn wsX5_copyFrom wsX4_copyFrom := goodIn_r _ [9, 10, 11, 12, 13, 14, 8, 15, 43, 44, 45, 46] (by decide +kernel) (by decide +kernel)
set_option maxRecDepth 20000 in
theorem gX5_copyFrom_X4_copyFrom : GoodIn wsX5_copyFrom (wsV RX5 152 RX4 yX4_copyFrom wsX4_copyFrom) := goodIn_app (goodIn_of _ (by decide +kernel)) ggX5_copyFrom_X4_copyFrom
set_option maxRecDepth 20000 in
theorem ggX5_copyFrom_X5_anchorNumbered : GoodIn wsX5_copyFrom wsX5_anchorNumbered := goodIn_r _ [20, 2, 21, 38, 39, 40, 41, 42] (by decide +kernel) (by decide +kernel)
set_option maxRecDepth 20000 in
theorem gX5_copyFrom_X5_anchorNumbered : GoodIn wsX5_copyFrom (wsV RX5 36 RX5 yX5_anchorNumbered wsX5_anchorNumbered) := goodIn_app (goodIn_of _ (by decide +kernel)) ggX5_copyFrom_X5_anchorNumbered
set_option maxRecDepth 20000 in
theorem ggX5_copyFrom_X0_copyFrom : GoodIn wsX5_copyFrom wsX0_copyFrom := goodIn_r _ [26, 27, 28, 29, 30, 31, 32, 25, 33, 47, 48, 49] (by decide +kernel) (by decide +kernel)
set_option maxRecDepth 20000 in
theorem gX5_copyFrom_X0_copyFrom : GoodIn wsX5_copyFrom (wsV RX5 44 RX0 yX0_copyFrom wsX0_copyFrom) := goodIn_app (goodIn_of _ (by decide +kernel)) ggX5_copyFrom_X0_copyFrom
set_option maxRecDepth 20000 in
theorem ggX5_copyFrom_X5_setting : GoodIn wsX5_copyFrom wsX5_setting := goodIn_r _ [37, 3, 38, 39, 40, 41, 42] (by decide +kernel) (by decide +kernel)
set_option maxRecDepth 20000 in
theorem gX5_copyFrom_X5_setting : GoodIn wsX5_copyFrom (wsV RX5 82 RX5 yX5_setting wsX5_setting) := goodIn_app (goodIn_of _ (by decide +kernel)) ggX5_copyFrom_X5_setting
theorem dX5_copyFrom_0 : decode cX5_copyFrom 0 = .ok (.aload_n 0, 1) := by decide +kernel
theorem dX5_copyFrom_1 : decode cX5_copyFrom 1 = .ok (.getfield 12, 3) := by decide +kernel
theorem dX5_copyFrom_4 : decode cX5_copyFrom 4 = .ok (.aload_n 1, 1) := by decide +kernel
theorem dX5_copyFrom_5 : decode cX5_copyFrom 5 = .ok (.getfield 12, 3) := by decide +kernel
theorem dX5_copyFrom_8 : decode cX5_copyFrom 8 = .ok (.invokevirtual 152, 3) := by decide +kernel
theorem dX5_copyFrom_11 : decode cX5_copyFrom 11 = .ok (.aload_n 0, 1) := by decide +kernel
theorem dX5_copyFrom_12 : decode cX5_copyFrom 12 = .ok (.aload_n 1, 1) := by decide +kernel
theorem dX5_copyFrom_13 : decode cX5_copyFrom 13 = .ok (.getfield 29, 3) := by decide +kernel
theorem dX5_copyFrom_16 : decode cX5_copyFrom 16 = .ok (.putfield 29, 3) := by decide +kernel
theorem dX5_copyFrom_19 : decode cX5_copyFrom 19 = .ok (.iconst 0, 1) := by decide +kernel
theorem dX5_copyFrom_20 : decode cX5_copyFrom 20 = .ok (.istore_n 2, 1) := by decide +kernel
theorem dX5_copyFrom_21 : decode cX5_copyFrom 21 = .ok (.iload_n 2, 1) := by decide +kernel
theorem dX5_copyFrom_22 : decode cX5_copyFrom 22 = .ok (.aload_n 0, 1) := by decide +kernel
theorem dX5_copyFrom_23 : decode cX5_copyFrom 23 = .ok (.getfield 29, 3) := by decide +kernel
theorem dX5_copyFrom_26 : decode cX5_copyFrom 26 = .ok (.if_icmp .ge 37, 3) := by decide +kernel
theorem dX5_copyFrom_29 : decode cX5_copyFrom 29 = .ok (.aload_n 0, 1) := by decide +kernel
theorem dX5_copyFrom_30 : decode cX5_copyFrom 30 = .ok (.iload_n 2, 1) := by decide +kernel
theorem dX5_copyFrom_31 : decode cX5_copyFrom 31 = .ok (.invokevirtual 36, 3) := by decide +kernel
theorem dX5_copyFrom_34 : decode cX5_copyFrom 34 = .ok (.astore_n 3, 1) := by decide +kernel
theorem dX5_copyFrom_35 : decode cX5_copyFrom 35 = .ok (.aload_n 1, 1) := by decide +kernel
theorem dX5_copyFrom_36 : decode cX5_copyFrom 36 = .ok (.iload_n 2, 1) := by decide +kernel
theorem dX5_copyFrom_37 : decode cX5_copyFrom 37 = .ok (.invokevirtual 36, 3) := by decide +kernel
theorem dX5_copyFrom_40 : decode cX5_copyFrom 40 = .ok (.astore 4, 2) := by decide +kernel
theorem dX5_copyFrom_42 : decode cX5_copyFrom 42 = .ok (.aload_n 3, 1) := by decide +kernel
theorem dX5_copyFrom_43 : decode cX5_copyFrom 43 = .ok (.ifnull 14, 3) := by decide +kernel
theorem dX5_copyFrom_46 : decode cX5_copyFrom 46 = .ok (.aload 4, 2) := by decide +kernel
theorem dX5_copyFrom_48 : decode cX5_copyFrom 48 = .ok (.ifnull 9, 3) := by decide +kernel
theorem dX5_copyFrom_51 : decode cX5_copyFrom 51 = .ok (.aload_n 3, 1) := by decide +kernel
theorem dX5_copyFrom_52 : decode cX5_copyFrom 52 = .ok (.aload 4, 2) := by decide +kernel
theorem dX5_copyFrom_54 : decode cX5_copyFrom 54 = .ok (.invokevirtual 44, 3) := by decide +kernel
theorem dX5_copyFrom_57 : decode cX5_copyFrom 57 = .ok (.iinc 2 1, 3) := by decide +kernel
theorem dX5_copyFrom_60 : decode cX5_copyFrom 60 = .ok (.goto (-39), 3) := by decide +kernel
theorem dX5_copyFrom_63 : decode cX5_copyFrom 63 = .ok (.iconst 0, 1) := by decide +kernel
theorem dX5_copyFrom_64 : decode cX5_copyFrom 64 = .ok (.istore_n 2, 1) := by decide +kernel
theorem dX5_copyFrom_65 : decode cX5_copyFrom 65 = .ok (.iload_n 2, 1) := by decide +kernel
theorem dX5_copyFrom_66 : decode cX5_copyFrom 66 = .ok (.aload_n 0, 1) := by decide +kernel
theorem dX5_copyFrom_67 : decode cX5_copyFrom 67 = .ok (.getfield 24, 3) := by decide +kernel
theorem dX5_copyFrom_70 : decode cX5_copyFrom 70 = .ok (.arraylength, 1) := by decide +kernel
theorem dX5_copyFrom_71 : decode cX5_copyFrom 71 = .ok (.if_icmp .ge 20, 3) := by decide +kernel
theorem dX5_copyFrom_74 : decode cX5_copyFrom 74 = .ok (.aload_n 0, 1) := by decide +kernel
theorem dX5_copyFrom_75 : decode cX5_copyFrom 75 = .ok (.getfield 24, 3) := by decide +kernel
theorem dX5_copyFrom_78 : decode cX5_copyFrom 78 = .ok (.iload_n 2, 1) := by decide +kernel
theorem dX5_copyFrom_79 : decode cX5_copyFrom 79 = .ok (.aload_n 1, 1) := by decide +kernel
theorem dX5_copyFrom_80 : decode cX5_copyFrom 80 = .ok (.iload_n 2, 1) := by decide +kernel
theorem dX5_copyFrom_81 : decode cX5_copyFrom 81 = .ok (.invokevirtual 82, 3) := by decide +kernel
theorem dX5_copyFrom_84 : decode cX5_copyFrom 84 = .ok (.iastore, 1) := by decide +kernel
theorem dX5_copyFrom_85 : decode cX5_copyFrom 85 = .ok (.iinc 2 1, 3) := by decide +kernel
theorem dX5_copyFrom_88 : decode cX5_copyFrom 88 = .ok (.goto (-23), 3) := by decide +kernel
theorem dX5_copyFrom_91 : decode cX5_copyFrom 91 = .ok (.aload_n 0, 1) := by decide +kernel
theorem dX5_copyFrom_92 : decode cX5_copyFrom 92 = .ok (.aload_n 1, 1) := by decide +kernel
theorem dX5_copyFrom_93 : decode cX5_copyFrom 93 = .ok (.getfield 33, 3) := by decide +kernel
theorem dX5_copyFrom_96 : decode cX5_copyFrom 96 = .ok (.putfield 33, 3) := by decide +kernel
theorem dX5_copyFrom_99 : decode cX5_copyFrom 99 = .ok (.return_, 1) := by decide +kernel
end
section
set_option maxRecDepth 20000 in
theorem ggX6_init_X5_init : GoodIn wsX6_init wsX5_init := goodIn_r _ [27, 28, 2, 3, 29, 30, 31, 32, 33, 34, 35, 36, 22, 23, 37, 38, 39, 40, 41, 42, 43, 44, 45, 46, 91, 92, 93, 94, 65, 66, 67, 68, 69, 88, 89, 90] (by decide +kernel) (by decide +kernel)
set_option maxRecDepth 20000 in
theorem gX6_init_X5_init : GoodIn wsX6_init (wsX5_init) := ggX6_init_X5_init
set_option maxRecDepth 20000 in
theorem ggX6_init_X3_init : GoodIn wsX6_init wsX3_init := goodIn_r _ [49, 50, 2, 3, 51, 52, 5, 6, 53, 26, 27, 28, 29, 30, 31, 32, 33, 34, 35, 36, 22, 23, 37, 38, 39, 40, 41, 42, 43, 44, 45, 46, 76, 77, 78, 65, 66, 67, 68, 69, 91, 92, 93, 94, 88, 89, 90] (by decide +kernel) (by decide +kernel)
set_option maxRecDepth 20000 in
theorem gX6_init_X3_init : GoodIn wsX6_init (wsX3_init) := ggX6_init_X3_init
set_option maxRecDepth 20000 in
theorem ggX6_init_X2_init : GoodIn wsX6_init wsX2_init := goodIn_r _ [55, 56, 2, 3, 57, 58, 35, 59, 79, 80, 81, 82, 83, 84] (by decide +kernel) (by decide +kernel)
set_option maxRecDepth 20000 in
theorem gX6_init_X2_init_n28 : GoodIn wsX6_init (wsX2_init) := ggX6_init_X2_init
set_option maxRecDepth 20000 in
theorem ggX6_init_X1_init : GoodIn wsX6_init wsX1_init := goodIn_r _ [61, 62, 2, 3, 35, 63, 64, 85, 86, 87] (by decide +kernel) (by decide +kernel)
set_option maxRecDepth 20000 in
theorem gX6_init_X1_init_n35 : GoodIn wsX6_init (wsX1_init) := ggX6_init_X1_init
set_option maxRecDepth 20000 in
theorem ggX6_init_X0_init : GoodIn wsX6_init wsX0_init := goodIn_r _ [44, 45, 2, 3, 35, 46, 88, 89, 90] (by decide +kernel) (by decide +kernel)
set_option maxRecDepth 20000 in
theorem gX6_init_X0_init_n42 : GoodIn wsX6_init (wsX0_init) := ggX6_init_X0_init
theorem dX6_init_0 : decode cX6_init 0 = .ok (.aload_n 0, 1) := by decide +kernel
theorem dX6_init_1 : decode cX6_init 1 = .ok (.invokespecial 1, 3) := by decide +kernel
theorem dX6_init_4 : decode cX6_init 4 = .ok (.aload_n 0, 1) := by decide +kernel
theorem dX6_init_5 : decode cX6_init 5 = .ok (.new 7, 3) := by decide +kernel
theorem dX6_init_8 : decode cX6_init 8 = .ok (.dup, 1) := by decide +kernel
theorem dX6_init_9 : decode cX6_init 9 = .ok (.invokespecial 9, 3) := by decide +kernel
theorem dX6_init_12 : decode cX6_init 12 = .ok (.putfield 10, 3) := by decide +kernel
theorem dX6_init_15 : decode cX6_init 15 = .ok (.aload_n 0, 1) := by decide +kernel
theorem dX6_init_16 : decode cX6_init 16 = .ok (.new 7, 3) := by decide +kernel
theorem dX6_init_19 : decode cX6_init 19 = .ok (.dup, 1) := by decide +kernel
theorem dX6_init_20 : decode cX6_init 20 = .ok (.invokespecial 9, 3) := by decide +kernel
theorem dX6_init_23 : decode cX6_init 23 = .ok (.putfield 16, 3) := by decide +kernel
theorem dX6_init_26 : decode cX6_init 26 = .ok (.aload_n 0, 1) := by decide +kernel
theorem dX6_init_27 : decode cX6_init 27 = .ok (.new 19, 3) := by decide +kernel
theorem dX6_init_30 : decode cX6_init 30 = .ok (.dup, 1) := by decide +kernel
theorem dX6_init_31 : decode cX6_init 31 = .ok (.invokespecial 21, 3) := by decide +kernel
theorem dX6_init_34 : decode cX6_init 34 = .ok (.putfield 22, 3) := by decide +kernel
theorem dX6_init_37 : decode cX6_init 37 = .ok (.aload_n 0, 1) := by decide +kernel
theorem dX6_init_38 : decode cX6_init 38 = .ok (.new 26, 3) := by decide +kernel
theorem dX6_init_41 : decode cX6_init 41 = .ok (.dup, 1) := by decide +kernel
theorem dX6_init_42 : decode cX6_init 42 = .ok (.invokespecial 28, 3) := by decide +kernel
theorem dX6_init_45 : decode cX6_init 45 = .ok (.putfield 29, 3) := by decide +kernel
theorem dX6_init_48 : decode cX6_init 48 = .ok (.aload_n 0, 1) := by decide +kernel
theorem dX6_init_49 : decode cX6_init 49 = .ok (.new 33, 3) := by decide +kernel
theorem dX6_init_52 : decode cX6_init 52 = .ok (.dup, 1) := by decide +kernel
theorem dX6_init_53 : decode cX6_init 53 = .ok (.invokespecial 35, 3) := by decide +kernel
theorem dX6_init_56 : decode cX6_init 56 = .ok (.putfield 36, 3) := by decide +kernel
theorem dX6_init_59 : decode cX6_init 59 = .ok (.aload_n 0, 1) := by decide +kernel
theorem dX6_init_60 : decode cX6_init 60 = .ok (.new 40, 3) := by decide +kernel
theorem dX6_init_63 : decode cX6_init 63 = .ok (.dup, 1) := by decide +kernel
theorem dX6_init_64 : decode cX6_init 64 = .ok (.invokespecial 42, 3) := by decide +kernel
theorem dX6_init_67 : decode cX6_init 67 = .ok (.putfield 43, 3) := by decide +kernel
theorem dX6_init_70 : decode cX6_init 70 = .ok (.return_, 1) := by decide +kernel
set_option maxRecDepth 20000 in
theorem ggX6_put_X4_takesAt : GoodIn wsX6_put wsX4_takesAt := goodIn_r _ [10, 11, 115, 116, 117, 118] (by decide +kernel) (by decide +kernel)
set_option maxRecDepth 20000 in
theorem gX6_put_X4_takesAt : GoodIn wsX6_put (wsV RX6 51 RX4 yX4_takesAt wsX4_takesAt) := goodIn_app (goodIn_of _ (by decide +kernel)) ggX6_put_X4_takesAt
set_option maxRecDepth 20000 in
theorem ggX6_put_X6_isWord : GoodIn wsX6_put wsX6_isWord := goodIn_r _ [15] (by decide +kernel) (by decide +kernel)
set_option maxRecDepth 20000 in
theorem gX6_put_X6_isWord : GoodIn wsX6_put (va_wsS RX6 57 yX6_isWord wsX6_isWord) := goodIn_app (goodIn_of _ (by decide +kernel)) ggX6_put_X6_isWord
set_option maxRecDepth 20000 in
theorem ggX6_put_X4_isFull : GoodIn wsX6_put wsX4_isFull := goodIn_r _ [19, 11, 20, 115, 116, 117, 118] (by decide +kernel) (by decide +kernel)
set_option maxRecDepth 20000 in
theorem gX6_put_X4_isFull : GoodIn wsX6_put (wsV RX6 61 RX4 yX4_isFull wsX4_isFull) := goodIn_app (goodIn_of _ (by decide +kernel)) ggX6_put_X4_isFull
set_option maxRecDepth 20000 in
theorem ggX6_put_X3_record : GoodIn wsX6_put wsX3_record := goodIn_r _ [25, 26, 27, 28, 29, 30, 24, 31, 32, 33, 34, 35, 36, 37, 38, 39, 40, 41, 42, 43, 44, 9, 45, 20, 11, 46, 47, 48, 49, 50, 51, 52, 53, 54, 55, 56, 57, 58, 59, 60, 61, 62, 63, 64, 65, 66, 67, 68, 69, 70, 119, 120, 121, 110, 111, 112, 113, 114, 115, 116, 117, 118, 122, 123, 124] (by decide +kernel) (by decide +kernel)
set_option maxRecDepth 20000 in
theorem gX6_put_X3_record : GoodIn wsX6_put (wsV RX6 66 RX3 yX3_record wsX3_record) := goodIn_app (goodIn_of _ (by decide +kernel)) ggX6_put_X3_record
set_option maxRecDepth 20000 in
theorem ggX6_put_X5_insertWord : GoodIn wsX6_put wsX5_insertWord := goodIn_r _ [74, 38, 75, 76, 77, 9, 78, 79, 11, 20, 80, 7, 8, 10, 81, 17, 18, 19, 82, 83, 84, 85, 86, 87, 88, 89, 90, 91, 92, 93, 36, 94, 41, 39, 50, 51, 52, 53, 54, 95, 96, 97, 58, 98, 61, 99, 110, 111, 112, 113, 114, 115, 116, 117, 118, 122, 123, 124] (by decide +kernel) (by decide +kernel)
set_option maxRecDepth 20000 in
theorem gX6_put_X5_insertWord : GoodIn wsX6_put (wsV RX6 70 RX5 yX5_insertWord wsX5_insertWord) := goodIn_app (goodIn_of _ (by decide +kernel)) ggX6_put_X5_insertWord
set_option maxRecDepth 20000 in
theorem ggX6_put_X4_size : GoodIn wsX6_put wsX4_size := goodIn_r _ [103, 11, 115, 116, 117, 118] (by decide +kernel) (by decide +kernel)
set_option maxRecDepth 20000 in
theorem gX6_put_X4_size : GoodIn wsX6_put (wsV RX6 74 RX4 yX4_size wsX4_size) := goodIn_app (goodIn_of _ (by decide +kernel)) ggX6_put_X4_size
theorem dX6_put_0 : decode cX6_put 0 = .ok (.aload_n 0, 1) := by decide +kernel
theorem dX6_put_1 : decode cX6_put 1 = .ok (.getfield 10, 3) := by decide +kernel
theorem dX6_put_4 : decode cX6_put 4 = .ok (.getfield 47, 3) := by decide +kernel
theorem dX6_put_7 : decode cX6_put 7 = .ok (.iload_n 1, 1) := by decide +kernel
theorem dX6_put_8 : decode cX6_put 8 = .ok (.invokevirtual 51, 3) := by decide +kernel
theorem dX6_put_11 : decode cX6_put 11 = .ok (.ifCond .eq 10, 3) := by decide +kernel
theorem dX6_put_14 : decode cX6_put 14 = .ok (.iload_n 2, 1) := by decide +kernel
theorem dX6_put_15 : decode cX6_put 15 = .ok (.invokestatic 57, 3) := by decide +kernel
theorem dX6_put_18 : decode cX6_put 18 = .ok (.ifCond .ne 6, 3) := by decide +kernel
theorem dX6_put_21 : decode cX6_put 21 = .ok (.ldc 60, 2) := by decide +kernel
theorem dX6_put_23 : decode cX6_put 23 = .ok (.ireturn, 1) := by decide +kernel
theorem dX6_put_24 : decode cX6_put 24 = .ok (.aload_n 0, 1) := by decide +kernel
theorem dX6_put_25 : decode cX6_put 25 = .ok (.getfield 10, 3) := by decide +kernel
theorem dX6_put_28 : decode cX6_put 28 = .ok (.getfield 47, 3) := by decide +kernel
theorem dX6_put_31 : decode cX6_put 31 = .ok (.invokevirtual 61, 3) := by decide +kernel
theorem dX6_put_34 : decode cX6_put 34 = .ok (.ifCond .eq 6, 3) := by decide +kernel
theorem dX6_put_37 : decode cX6_put 37 = .ok (.ldc 65, 2) := by decide +kernel
theorem dX6_put_39 : decode cX6_put 39 = .ok (.ireturn, 1) := by decide +kernel
theorem dX6_put_40 : decode cX6_put 40 = .ok (.aload_n 0, 1) := by decide +kernel
theorem dX6_put_41 : decode cX6_put 41 = .ok (.getfield 22, 3) := by decide +kernel
theorem dX6_put_44 : decode cX6_put 44 = .ok (.aload_n 0, 1) := by decide +kernel
theorem dX6_put_45 : decode cX6_put 45 = .ok (.getfield 10, 3) := by decide +kernel
theorem dX6_put_48 : decode cX6_put 48 = .ok (.invokevirtual 66, 3) := by decide +kernel
theorem dX6_put_51 : decode cX6_put 51 = .ok (.aload_n 0, 1) := by decide +kernel
theorem dX6_put_52 : decode cX6_put 52 = .ok (.getfield 10, 3) := by decide +kernel
theorem dX6_put_55 : decode cX6_put 55 = .ok (.iload_n 1, 1) := by decide +kernel
theorem dX6_put_56 : decode cX6_put 56 = .ok (.iload_n 2, 1) := by decide +kernel
theorem dX6_put_57 : decode cX6_put 57 = .ok (.invokevirtual 70, 3) := by decide +kernel
theorem dX6_put_60 : decode cX6_put 60 = .ok (.aload_n 0, 1) := by decide +kernel
theorem dX6_put_61 : decode cX6_put 61 = .ok (.getfield 10, 3) := by decide +kernel
theorem dX6_put_64 : decode cX6_put 64 = .ok (.getfield 47, 3) := by decide +kernel
theorem dX6_put_67 : decode cX6_put 67 = .ok (.invokevirtual 74, 3) := by decide +kernel
theorem dX6_put_70 : decode cX6_put 70 = .ok (.ireturn, 1) := by decide +kernel
set_option maxRecDepth 20000 in
theorem ggX6_take_X4_holds : GoodIn wsX6_take wsX4_holds := goodIn_r _ [9, 10, 11, 102, 103, 104, 105] (by decide +kernel) (by decide +kernel)
set_option maxRecDepth 20000 in
theorem gX6_take_X4_holds : GoodIn wsX6_take (wsV RX6 78 RX4 yX4_holds wsX4_holds) := goodIn_app (goodIn_of _ (by decide +kernel)) ggX6_take_X4_holds
set_option maxRecDepth 20000 in
theorem ggX6_take_X4_at : GoodIn wsX6_take wsX4_at := goodIn_r _ [15, 10, 11, 102, 103, 104, 105] (by decide +kernel) (by decide +kernel)
set_option maxRecDepth 20000 in
theorem gX6_take_X4_at : GoodIn wsX6_take (wsV RX6 81 RX4 yX4_at wsX4_at) := goodIn_app (goodIn_of _ (by decide +kernel)) ggX6_take_X4_at
set_option maxRecDepth 20000 in
theorem ggX6_take_X3_record : GoodIn wsX6_take wsX3_record := goodIn_r _ [20, 21, 22, 23, 24, 25, 19, 26, 27, 28, 29, 30, 31, 32, 33, 34, 35, 36, 37, 38, 39, 8, 40, 11, 10, 41, 13, 14, 15, 42, 43, 44, 45, 46, 47, 48, 49, 50, 51, 52, 53, 54, 55, 56, 57, 58, 59, 60, 61, 62, 106, 107, 108, 97, 98, 99, 100, 101, 102, 103, 104, 105, 109, 110, 111] (by decide +kernel) (by decide +kernel)
set_option maxRecDepth 20000 in
theorem gX6_take_X3_record : GoodIn wsX6_take (wsV RX6 66 RX3 yX3_record wsX3_record) := goodIn_app (goodIn_of _ (by decide +kernel)) ggX6_take_X3_record
set_option maxRecDepth 20000 in
theorem ggX6_take_X5_removeWord : GoodIn wsX6_take wsX5_removeWord := goodIn_r _ [66, 33, 67, 68, 69, 8, 70, 71, 10, 72, 6, 7, 9, 11, 73, 74, 75, 76, 77, 78, 79, 80, 81, 82, 83, 84, 31, 85, 36, 34, 42, 43, 44, 45, 46, 86, 87, 88, 50, 89, 53, 90, 97, 98, 99, 100, 101, 102, 103, 104, 105, 109, 110, 111] (by decide +kernel) (by decide +kernel)
set_option maxRecDepth 20000 in
theorem gX6_take_X5_removeWord : GoodIn wsX6_take (wsV RX6 85 RX5 yX5_removeWord wsX5_removeWord) := goodIn_app (goodIn_of _ (by decide +kernel)) ggX6_take_X5_removeWord
theorem dX6_take_0 : decode cX6_take 0 = .ok (.aload_n 0, 1) := by decide +kernel
theorem dX6_take_1 : decode cX6_take 1 = .ok (.getfield 10, 3) := by decide +kernel
theorem dX6_take_4 : decode cX6_take 4 = .ok (.getfield 47, 3) := by decide +kernel
theorem dX6_take_7 : decode cX6_take 7 = .ok (.iload_n 1, 1) := by decide +kernel
theorem dX6_take_8 : decode cX6_take 8 = .ok (.invokevirtual 78, 3) := by decide +kernel
theorem dX6_take_11 : decode cX6_take 11 = .ok (.ifCond .ne 6, 3) := by decide +kernel
theorem dX6_take_14 : decode cX6_take 14 = .ok (.ldc 60, 2) := by decide +kernel
theorem dX6_take_16 : decode cX6_take 16 = .ok (.ireturn, 1) := by decide +kernel
theorem dX6_take_17 : decode cX6_take 17 = .ok (.aload_n 0, 1) := by decide +kernel
theorem dX6_take_18 : decode cX6_take 18 = .ok (.getfield 10, 3) := by decide +kernel
theorem dX6_take_21 : decode cX6_take 21 = .ok (.getfield 47, 3) := by decide +kernel
theorem dX6_take_24 : decode cX6_take 24 = .ok (.iload_n 1, 1) := by decide +kernel
theorem dX6_take_25 : decode cX6_take 25 = .ok (.invokevirtual 81, 3) := by decide +kernel
theorem dX6_take_28 : decode cX6_take 28 = .ok (.istore_n 2, 1) := by decide +kernel
theorem dX6_take_29 : decode cX6_take 29 = .ok (.aload_n 0, 1) := by decide +kernel
theorem dX6_take_30 : decode cX6_take 30 = .ok (.getfield 22, 3) := by decide +kernel
theorem dX6_take_33 : decode cX6_take 33 = .ok (.aload_n 0, 1) := by decide +kernel
theorem dX6_take_34 : decode cX6_take 34 = .ok (.getfield 10, 3) := by decide +kernel
theorem dX6_take_37 : decode cX6_take 37 = .ok (.invokevirtual 66, 3) := by decide +kernel
theorem dX6_take_40 : decode cX6_take 40 = .ok (.aload_n 0, 1) := by decide +kernel
theorem dX6_take_41 : decode cX6_take 41 = .ok (.getfield 10, 3) := by decide +kernel
theorem dX6_take_44 : decode cX6_take 44 = .ok (.iload_n 1, 1) := by decide +kernel
theorem dX6_take_45 : decode cX6_take 45 = .ok (.invokevirtual 85, 3) := by decide +kernel
theorem dX6_take_48 : decode cX6_take 48 = .ok (.iload_n 2, 1) := by decide +kernel
theorem dX6_take_49 : decode cX6_take 49 = .ok (.ireturn, 1) := by decide +kernel
set_option maxRecDepth 20000 in
theorem ggX6_change_X4_holds : GoodIn wsX6_change wsX4_holds := goodIn_r _ [9, 10, 11, 100, 101, 102, 103] (by decide +kernel) (by decide +kernel)
set_option maxRecDepth 20000 in
theorem gX6_change_X4_holds : GoodIn wsX6_change (wsV RX6 78 RX4 yX4_holds wsX4_holds) := goodIn_app (goodIn_of _ (by decide +kernel)) ggX6_change_X4_holds
set_option maxRecDepth 20000 in
theorem ggX6_change_X6_isWord : GoodIn wsX6_change wsX6_isWord := goodIn_r _ [15] (by decide +kernel) (by decide +kernel)
set_option maxRecDepth 20000 in
theorem gX6_change_X6_isWord : GoodIn wsX6_change (va_wsS RX6 57 yX6_isWord wsX6_isWord) := goodIn_app (goodIn_of _ (by decide +kernel)) ggX6_change_X6_isWord
set_option maxRecDepth 20000 in
theorem ggX6_change_X4_at : GoodIn wsX6_change wsX4_at := goodIn_r _ [19, 10, 11, 100, 101, 102, 103] (by decide +kernel) (by decide +kernel)
set_option maxRecDepth 20000 in
theorem gX6_change_X4_at : GoodIn wsX6_change (wsV RX6 81 RX4 yX4_at wsX4_at) := goodIn_app (goodIn_of _ (by decide +kernel)) ggX6_change_X4_at
set_option maxRecDepth 20000 in
theorem ggX6_change_X3_record : GoodIn wsX6_change wsX3_record := goodIn_r _ [24, 25, 26, 27, 28, 29, 23, 30, 31, 32, 33, 34, 35, 36, 37, 38, 39, 40, 41, 42, 43, 8, 44, 11, 10, 45, 17, 18, 19, 46, 47, 48, 49, 50, 51, 52, 53, 54, 55, 56, 57, 58, 59, 60, 61, 62, 63, 64, 65, 66, 104, 105, 106, 95, 96, 97, 98, 99, 100, 101, 102, 103, 107, 108, 109] (by decide +kernel) (by decide +kernel)
set_option maxRecDepth 20000 in
theorem gX6_change_X3_record : GoodIn wsX6_change (wsV RX6 66 RX3 yX3_record wsX3_record) := goodIn_app (goodIn_of _ (by decide +kernel)) ggX6_change_X3_record
set_option maxRecDepth 20000 in
theorem ggX6_change_X5_replaceWord : GoodIn wsX6_change wsX5_replaceWord := goodIn_r _ [70, 37, 71, 72, 73, 8, 74, 75, 11, 76, 6, 7, 9, 10, 77, 78, 79, 35, 80, 40, 38, 46, 47, 48, 49, 50, 81, 82, 83, 54, 84, 57, 85, 86, 87, 88, 95, 96, 97, 98, 99, 100, 101, 102, 103, 107, 108, 109] (by decide +kernel) (by decide +kernel)
set_option maxRecDepth 20000 in
theorem gX6_change_X5_replaceWord : GoodIn wsX6_change (wsV RX6 89 RX5 yX5_replaceWord wsX5_replaceWord) := goodIn_app (goodIn_of _ (by decide +kernel)) ggX6_change_X5_replaceWord
theorem dX6_change_0 : decode cX6_change 0 = .ok (.aload_n 0, 1) := by decide +kernel
theorem dX6_change_1 : decode cX6_change 1 = .ok (.getfield 10, 3) := by decide +kernel
theorem dX6_change_4 : decode cX6_change 4 = .ok (.getfield 47, 3) := by decide +kernel
theorem dX6_change_7 : decode cX6_change 7 = .ok (.iload_n 1, 1) := by decide +kernel
theorem dX6_change_8 : decode cX6_change 8 = .ok (.invokevirtual 78, 3) := by decide +kernel
theorem dX6_change_11 : decode cX6_change 11 = .ok (.ifCond .eq 10, 3) := by decide +kernel
theorem dX6_change_14 : decode cX6_change 14 = .ok (.iload_n 2, 1) := by decide +kernel
theorem dX6_change_15 : decode cX6_change 15 = .ok (.invokestatic 57, 3) := by decide +kernel
theorem dX6_change_18 : decode cX6_change 18 = .ok (.ifCond .ne 6, 3) := by decide +kernel
theorem dX6_change_21 : decode cX6_change 21 = .ok (.ldc 60, 2) := by decide +kernel
theorem dX6_change_23 : decode cX6_change 23 = .ok (.ireturn, 1) := by decide +kernel
theorem dX6_change_24 : decode cX6_change 24 = .ok (.aload_n 0, 1) := by decide +kernel
theorem dX6_change_25 : decode cX6_change 25 = .ok (.getfield 10, 3) := by decide +kernel
theorem dX6_change_28 : decode cX6_change 28 = .ok (.getfield 47, 3) := by decide +kernel
theorem dX6_change_31 : decode cX6_change 31 = .ok (.iload_n 1, 1) := by decide +kernel
theorem dX6_change_32 : decode cX6_change 32 = .ok (.invokevirtual 81, 3) := by decide +kernel
theorem dX6_change_35 : decode cX6_change 35 = .ok (.istore_n 3, 1) := by decide +kernel
theorem dX6_change_36 : decode cX6_change 36 = .ok (.aload_n 0, 1) := by decide +kernel
theorem dX6_change_37 : decode cX6_change 37 = .ok (.getfield 22, 3) := by decide +kernel
theorem dX6_change_40 : decode cX6_change 40 = .ok (.aload_n 0, 1) := by decide +kernel
theorem dX6_change_41 : decode cX6_change 41 = .ok (.getfield 10, 3) := by decide +kernel
theorem dX6_change_44 : decode cX6_change 44 = .ok (.invokevirtual 66, 3) := by decide +kernel
theorem dX6_change_47 : decode cX6_change 47 = .ok (.aload_n 0, 1) := by decide +kernel
theorem dX6_change_48 : decode cX6_change 48 = .ok (.getfield 10, 3) := by decide +kernel
theorem dX6_change_51 : decode cX6_change 51 = .ok (.iload_n 1, 1) := by decide +kernel
theorem dX6_change_52 : decode cX6_change 52 = .ok (.iload_n 2, 1) := by decide +kernel
theorem dX6_change_53 : decode cX6_change 53 = .ok (.invokevirtual 89, 3) := by decide +kernel
theorem dX6_change_56 : decode cX6_change 56 = .ok (.iload_n 3, 1) := by decide +kernel
theorem dX6_change_57 : decode cX6_change 57 = .ok (.ireturn, 1) := by decide +kernel
set_option maxRecDepth 20000 in
theorem ggX6_move_X4_canShift : GoodIn wsX6_move wsX4_canShift := goodIn_r _ [9, 10, 11, 12, 13, 8, 14, 15, 112, 113, 114, 115] (by decide +kernel) (by decide +kernel)
set_option maxRecDepth 20000 in
theorem gX6_move_X4_canShift : GoodIn wsX6_move (wsV RX6 92 RX4 yX4_canShift wsX4_canShift) := goodIn_app (goodIn_of _ (by decide +kernel)) ggX6_move_X4_canShift
set_option maxRecDepth 20000 in
theorem ggX6_move_X3_record : GoodIn wsX6_move wsX3_record := goodIn_r _ [20, 21, 22, 23, 24, 25, 19, 26, 27, 28, 29, 30, 31, 32, 33, 34, 35, 36, 37, 38, 39, 8, 40, 15, 10, 41, 42, 43, 44, 45, 46, 47, 48, 49, 50, 51, 52, 53, 54, 55, 56, 57, 58, 59, 60, 61, 62, 63, 64, 65, 116, 117, 118, 107, 108, 109, 110, 111, 112, 113, 114, 115, 119, 120, 121] (by decide +kernel) (by decide +kernel)
set_option maxRecDepth 20000 in
theorem gX6_move_X3_record : GoodIn wsX6_move (wsV RX6 66 RX3 yX3_record wsX3_record) := goodIn_app (goodIn_of _ (by decide +kernel)) ggX6_move_X3_record
set_option maxRecDepth 20000 in
theorem ggX6_move_X5_shiftWords : GoodIn wsX6_move wsX5_shiftWords := goodIn_r _ [69, 33, 70, 71, 72, 8, 73, 74, 10, 75, 6, 7, 9, 11, 12, 13, 14, 15, 76, 77, 78, 79, 80, 81, 82, 83, 84, 85, 86, 87, 88, 89, 90, 31, 91, 36, 34, 45, 46, 47, 48, 49, 92, 93, 94, 53, 95, 56, 96, 107, 108, 109, 110, 111, 112, 113, 114, 115, 119, 120, 121] (by decide +kernel) (by decide +kernel)
set_option maxRecDepth 20000 in
theorem gX6_move_X5_shiftWords : GoodIn wsX6_move (wsV RX6 96 RX5 yX5_shiftWords wsX5_shiftWords) := goodIn_app (goodIn_of _ (by decide +kernel)) ggX6_move_X5_shiftWords
set_option maxRecDepth 20000 in
theorem ggX6_move_X4_wordsElsewhere : GoodIn wsX6_move wsX4_wordsElsewhere := goodIn_r _ [100, 10, 84, 85, 86, 8, 87, 74, 112, 113, 114, 115] (by decide +kernel) (by decide +kernel)
set_option maxRecDepth 20000 in
theorem gX6_move_X4_wordsElsewhere : GoodIn wsX6_move (wsV RX6 100 RX4 yX4_wordsElsewhere wsX4_wordsElsewhere) := goodIn_app (goodIn_of _ (by decide +kernel)) ggX6_move_X4_wordsElsewhere
theorem dX6_move_0 : decode cX6_move 0 = .ok (.aload_n 0, 1) := by decide +kernel
theorem dX6_move_1 : decode cX6_move 1 = .ok (.getfield 10, 3) := by decide +kernel
theorem dX6_move_4 : decode cX6_move 4 = .ok (.getfield 47, 3) := by decide +kernel
theorem dX6_move_7 : decode cX6_move 7 = .ok (.iload_n 1, 1) := by decide +kernel
theorem dX6_move_8 : decode cX6_move 8 = .ok (.iload_n 2, 1) := by decide +kernel
theorem dX6_move_9 : decode cX6_move 9 = .ok (.iload_n 3, 1) := by decide +kernel
theorem dX6_move_10 : decode cX6_move 10 = .ok (.invokevirtual 92, 3) := by decide +kernel
theorem dX6_move_13 : decode cX6_move 13 = .ok (.ifCond .ne 6, 3) := by decide +kernel
theorem dX6_move_16 : decode cX6_move 16 = .ok (.ldc 60, 2) := by decide +kernel
theorem dX6_move_18 : decode cX6_move 18 = .ok (.ireturn, 1) := by decide +kernel
theorem dX6_move_19 : decode cX6_move 19 = .ok (.aload_n 0, 1) := by decide +kernel
theorem dX6_move_20 : decode cX6_move 20 = .ok (.getfield 22, 3) := by decide +kernel
theorem dX6_move_23 : decode cX6_move 23 = .ok (.aload_n 0, 1) := by decide +kernel
theorem dX6_move_24 : decode cX6_move 24 = .ok (.getfield 10, 3) := by decide +kernel
theorem dX6_move_27 : decode cX6_move 27 = .ok (.invokevirtual 66, 3) := by decide +kernel
theorem dX6_move_30 : decode cX6_move 30 = .ok (.aload_n 0, 1) := by decide +kernel
theorem dX6_move_31 : decode cX6_move 31 = .ok (.getfield 10, 3) := by decide +kernel
theorem dX6_move_34 : decode cX6_move 34 = .ok (.iload_n 1, 1) := by decide +kernel
theorem dX6_move_35 : decode cX6_move 35 = .ok (.iload_n 2, 1) := by decide +kernel
theorem dX6_move_36 : decode cX6_move 36 = .ok (.iload_n 3, 1) := by decide +kernel
theorem dX6_move_37 : decode cX6_move 37 = .ok (.invokevirtual 96, 3) := by decide +kernel
theorem dX6_move_40 : decode cX6_move 40 = .ok (.aload_n 0, 1) := by decide +kernel
theorem dX6_move_41 : decode cX6_move 41 = .ok (.getfield 10, 3) := by decide +kernel
theorem dX6_move_44 : decode cX6_move 44 = .ok (.getfield 47, 3) := by decide +kernel
theorem dX6_move_47 : decode cX6_move 47 = .ok (.invokevirtual 100, 3) := by decide +kernel
theorem dX6_move_50 : decode cX6_move 50 = .ok (.ireturn, 1) := by decide +kernel
set_option maxRecDepth 20000 in
theorem ggX6_anchor_X4_holds : GoodIn wsX6_anchor wsX4_holds := goodIn_r _ [10, 11, 12, 95, 96, 97, 98] (by decide +kernel) (by decide +kernel)
set_option maxRecDepth 20000 in
theorem gX6_anchor_X4_holds : GoodIn wsX6_anchor (wsV RX6 78 RX4 yX4_holds wsX4_holds) := goodIn_app (goodIn_of _ (by decide +kernel)) ggX6_anchor_X4_holds
set_option maxRecDepth 20000 in
theorem ggX6_anchor_X5_anchorCount : GoodIn wsX6_anchor wsX5_anchorCount := goodIn_r _ [17, 18, 90, 91, 92, 93, 94] (by decide +kernel) (by decide +kernel)
set_option maxRecDepth 20000 in
theorem gX6_anchor_X5_anchorCount : GoodIn wsX6_anchor (wsV RX6 103 RX5 yX5_anchorCount wsX5_anchorCount) := goodIn_app (goodIn_of _ (by decide +kernel)) ggX6_anchor_X5_anchorCount
set_option maxRecDepth 20000 in
theorem ggX6_anchor_X3_record : GoodIn wsX6_anchor wsX3_record := goodIn_r _ [23, 24, 25, 26, 27, 28, 22, 29, 30, 31, 32, 33, 16, 34, 35, 18, 36, 37, 38, 39, 40, 9, 41, 12, 11, 42, 43, 44, 45, 46, 47, 48, 49, 50, 51, 52, 53, 54, 55, 56, 57, 58, 59, 60, 61, 62, 63, 64, 65, 66, 99, 100, 101, 90, 91, 92, 93, 94, 95, 96, 97, 98, 102, 103, 104] (by decide +kernel) (by decide +kernel)
set_option maxRecDepth 20000 in
theorem gX6_anchor_X3_record : GoodIn wsX6_anchor (wsV RX6 66 RX3 yX3_record wsX3_record) := goodIn_app (goodIn_of _ (by decide +kernel)) ggX6_anchor_X3_record
set_option maxRecDepth 20000 in
theorem ggX6_anchor_X5_addAnchor : GoodIn wsX6_anchor wsX5_addAnchor := goodIn_r _ [70, 18, 50, 35, 46, 47, 48, 16, 49, 71, 72, 73, 54, 74, 75, 76, 77, 78, 56, 79, 80, 81, 82, 58, 57, 83, 43, 44, 9, 45, 11, 12, 90, 91, 92, 93, 94, 102, 103, 104, 95, 96, 97, 98] (by decide +kernel) (by decide +kernel)
set_option maxRecDepth 20000 in
theorem gX6_anchor_X5_addAnchor : GoodIn wsX6_anchor (wsV RX6 106 RX5 yX5_addAnchor wsX5_addAnchor) := goodIn_app (goodIn_of _ (by decide +kernel)) ggX6_anchor_X5_addAnchor
theorem dX6_anchor_0 : decode cX6_anchor 0 = .ok (.aload_n 0, 1) := by decide +kernel
theorem dX6_anchor_1 : decode cX6_anchor 1 = .ok (.getfield 10, 3) := by decide +kernel
theorem dX6_anchor_4 : decode cX6_anchor 4 = .ok (.getfield 47, 3) := by decide +kernel
theorem dX6_anchor_7 : decode cX6_anchor 7 = .ok (.iload_n 1, 1) := by decide +kernel
theorem dX6_anchor_8 : decode cX6_anchor 8 = .ok (.invokevirtual 78, 3) := by decide +kernel
theorem dX6_anchor_11 : decode cX6_anchor 11 = .ok (.ifCond .ne 6, 3) := by decide +kernel
theorem dX6_anchor_14 : decode cX6_anchor 14 = .ok (.ldc 60, 2) := by decide +kernel
theorem dX6_anchor_16 : decode cX6_anchor 16 = .ok (.ireturn, 1) := by decide +kernel
theorem dX6_anchor_17 : decode cX6_anchor 17 = .ok (.aload_n 0, 1) := by decide +kernel
theorem dX6_anchor_18 : decode cX6_anchor 18 = .ok (.getfield 10, 3) := by decide +kernel
theorem dX6_anchor_21 : decode cX6_anchor 21 = .ok (.invokevirtual 103, 3) := by decide +kernel
theorem dX6_anchor_24 : decode cX6_anchor 24 = .ok (.bipush 6, 2) := by decide +kernel
theorem dX6_anchor_26 : decode cX6_anchor 26 = .ok (.if_icmp .lt 6, 3) := by decide +kernel
theorem dX6_anchor_29 : decode cX6_anchor 29 = .ok (.ldc 65, 2) := by decide +kernel
theorem dX6_anchor_31 : decode cX6_anchor 31 = .ok (.ireturn, 1) := by decide +kernel
theorem dX6_anchor_32 : decode cX6_anchor 32 = .ok (.aload_n 0, 1) := by decide +kernel
theorem dX6_anchor_33 : decode cX6_anchor 33 = .ok (.getfield 22, 3) := by decide +kernel
theorem dX6_anchor_36 : decode cX6_anchor 36 = .ok (.aload_n 0, 1) := by decide +kernel
theorem dX6_anchor_37 : decode cX6_anchor 37 = .ok (.getfield 10, 3) := by decide +kernel
theorem dX6_anchor_40 : decode cX6_anchor 40 = .ok (.invokevirtual 66, 3) := by decide +kernel
theorem dX6_anchor_43 : decode cX6_anchor 43 = .ok (.aload_n 0, 1) := by decide +kernel
theorem dX6_anchor_44 : decode cX6_anchor 44 = .ok (.getfield 10, 3) := by decide +kernel
theorem dX6_anchor_47 : decode cX6_anchor 47 = .ok (.iload_n 1, 1) := by decide +kernel
theorem dX6_anchor_48 : decode cX6_anchor 48 = .ok (.invokevirtual 106, 3) := by decide +kernel
theorem dX6_anchor_51 : decode cX6_anchor 51 = .ok (.aload_n 0, 1) := by decide +kernel
theorem dX6_anchor_52 : decode cX6_anchor 52 = .ok (.getfield 10, 3) := by decide +kernel
theorem dX6_anchor_55 : decode cX6_anchor 55 = .ok (.invokevirtual 103, 3) := by decide +kernel
theorem dX6_anchor_58 : decode cX6_anchor 58 = .ok (.iconst 1, 1) := by decide +kernel
theorem dX6_anchor_59 : decode cX6_anchor 59 = .ok (.isub, 1) := by decide +kernel
theorem dX6_anchor_60 : decode cX6_anchor 60 = .ok (.ireturn, 1) := by decide +kernel
set_option maxRecDepth 20000 in
theorem ggX6_drop_X5_anchorNumbered : GoodIn wsX6_drop wsX5_anchorNumbered := goodIn_r _ [8, 9, 10, 72, 73, 74, 75, 76] (by decide +kernel) (by decide +kernel)
set_option maxRecDepth 20000 in
theorem gX6_drop_X5_anchorNumbered : GoodIn wsX6_drop (wsV RX6 109 RX5 yX5_anchorNumbered wsX5_anchorNumbered) := goodIn_app (goodIn_of _ (by decide +kernel)) ggX6_drop_X5_anchorNumbered
set_option maxRecDepth 20000 in
theorem ggX6_drop_X3_record : GoodIn wsX6_drop wsX3_record := goodIn_r _ [15, 16, 17, 18, 19, 20, 14, 21, 22, 23, 24, 25, 7, 26, 27, 9, 28, 29, 30, 31, 32, 33, 34, 35, 36, 37, 38, 39, 40, 41, 5, 6, 8, 10, 42, 43, 44, 45, 46, 47, 48, 49, 50, 51, 52, 53, 54, 55, 56, 57, 77, 78, 79, 72, 73, 74, 75, 76, 80, 81, 82, 83, 84, 85, 86] (by decide +kernel) (by decide +kernel)
set_option maxRecDepth 20000 in
theorem gX6_drop_X3_record : GoodIn wsX6_drop (wsV RX6 66 RX3 yX3_record wsX3_record) := goodIn_app (goodIn_of _ (by decide +kernel)) ggX6_drop_X3_record
set_option maxRecDepth 20000 in
theorem ggX6_drop_X5_removeAnchor : GoodIn wsX6_drop wsX5_removeAnchor := goodIn_r _ [61, 9, 41, 5, 6, 7, 8, 10, 42, 43, 44, 45, 46, 47, 48, 49, 50, 51, 52, 53, 72, 73, 74, 75, 76, 84, 85, 86] (by decide +kernel) (by decide +kernel)
set_option maxRecDepth 20000 in
theorem gX6_drop_X5_removeAnchor : GoodIn wsX6_drop (wsV RX6 113 RX5 yX5_removeAnchor wsX5_removeAnchor) := goodIn_app (goodIn_of _ (by decide +kernel)) ggX6_drop_X5_removeAnchor
set_option maxRecDepth 20000 in
theorem ggX6_drop_X5_anchorCount : GoodIn wsX6_drop wsX5_anchorCount := goodIn_r _ [65, 9, 72, 73, 74, 75, 76] (by decide +kernel) (by decide +kernel)
set_option maxRecDepth 20000 in
theorem gX6_drop_X5_anchorCount : GoodIn wsX6_drop (wsV RX6 103 RX5 yX5_anchorCount wsX5_anchorCount) := goodIn_app (goodIn_of _ (by decide +kernel)) ggX6_drop_X5_anchorCount
theorem dX6_drop_0 : decode cX6_drop 0 = .ok (.aload_n 0, 1) := by decide +kernel
theorem dX6_drop_1 : decode cX6_drop 1 = .ok (.getfield 10, 3) := by decide +kernel
theorem dX6_drop_4 : decode cX6_drop 4 = .ok (.iload_n 1, 1) := by decide +kernel
theorem dX6_drop_5 : decode cX6_drop 5 = .ok (.invokevirtual 109, 3) := by decide +kernel
theorem dX6_drop_8 : decode cX6_drop 8 = .ok (.ifnonnull 6, 3) := by decide +kernel
theorem dX6_drop_11 : decode cX6_drop 11 = .ok (.ldc 60, 2) := by decide +kernel
theorem dX6_drop_13 : decode cX6_drop 13 = .ok (.ireturn, 1) := by decide +kernel
theorem dX6_drop_14 : decode cX6_drop 14 = .ok (.aload_n 0, 1) := by decide +kernel
theorem dX6_drop_15 : decode cX6_drop 15 = .ok (.getfield 22, 3) := by decide +kernel
theorem dX6_drop_18 : decode cX6_drop 18 = .ok (.aload_n 0, 1) := by decide +kernel
theorem dX6_drop_19 : decode cX6_drop 19 = .ok (.getfield 10, 3) := by decide +kernel
theorem dX6_drop_22 : decode cX6_drop 22 = .ok (.invokevirtual 66, 3) := by decide +kernel
theorem dX6_drop_25 : decode cX6_drop 25 = .ok (.aload_n 0, 1) := by decide +kernel
theorem dX6_drop_26 : decode cX6_drop 26 = .ok (.getfield 10, 3) := by decide +kernel
theorem dX6_drop_29 : decode cX6_drop 29 = .ok (.iload_n 1, 1) := by decide +kernel
theorem dX6_drop_30 : decode cX6_drop 30 = .ok (.invokevirtual 113, 3) := by decide +kernel
theorem dX6_drop_33 : decode cX6_drop 33 = .ok (.aload_n 0, 1) := by decide +kernel
theorem dX6_drop_34 : decode cX6_drop 34 = .ok (.getfield 10, 3) := by decide +kernel
theorem dX6_drop_37 : decode cX6_drop 37 = .ok (.invokevirtual 103, 3) := by decide +kernel
theorem dX6_drop_40 : decode cX6_drop 40 = .ok (.ireturn, 1) := by decide +kernel
set_option maxRecDepth 20000 in
theorem ggX6_find_X5_anchorNumbered : GoodIn wsX6_find wsX5_anchorNumbered := goodIn_r _ [9, 10, 11, 100, 101, 102, 103, 104] (by decide +kernel) (by decide +kernel)
set_option maxRecDepth 20000 in
theorem gX6_find_X5_anchorNumbered : GoodIn wsX6_find (wsV RX6 109 RX5 yX5_anchorNumbered wsX5_anchorNumbered) := goodIn_app (goodIn_of _ (by decide +kernel)) ggX6_find_X5_anchorNumbered
set_option maxRecDepth 20000 in
theorem ggX6_find_X5_bestPlace : GoodIn wsX6_find wsX5_bestPlace := goodIn_r _ [15, 16, 17, 18, 8, 19, 20, 21, 22, 23, 24, 25, 26, 27, 28, 29, 30, 31, 32, 33, 34, 35, 36, 37, 38, 39, 40, 41, 42, 43, 44, 45, 46, 47, 48, 49, 50, 51, 52, 53, 54, 55, 100, 101, 102, 103, 104, 105, 106, 107, 108, 109, 110, 111] (by decide +kernel) (by decide +kernel)
set_option maxRecDepth 20000 in
theorem gX6_find_X5_bestPlace : GoodIn wsX6_find (wsV RX6 116 RX5 yX5_bestPlace wsX5_bestPlace) := goodIn_app (goodIn_of _ (by decide +kernel)) ggX6_find_X5_bestPlace
set_option maxRecDepth 20000 in
theorem ggX6_find_X5_isLost : GoodIn wsX6_find wsX5_isLost := goodIn_r _ [59, 31, 32, 33, 8, 34, 20, 21, 22, 23, 24, 35, 36, 37, 38, 39, 40, 41, 42, 43, 28, 44, 30, 45, 46, 47, 48, 49, 50, 100, 101, 102, 103, 104, 109, 110, 111, 105, 106, 107, 108] (by decide +kernel) (by decide +kernel)
set_option maxRecDepth 20000 in
theorem gX6_find_X5_isLost : GoodIn wsX6_find (wsV RX6 120 RX5 yX5_isLost wsX5_isLost) := goodIn_app (goodIn_of _ (by decide +kernel)) ggX6_find_X5_isLost
set_option maxRecDepth 20000 in
theorem ggX6_find_X3_record : GoodIn wsX6_find wsX3_record := goodIn_r _ [64, 65, 66, 67, 68, 69, 63, 70, 71, 72, 73, 74, 8, 75, 20, 10, 50, 76, 77, 78, 79, 28, 80, 45, 30, 81, 42, 43, 44, 82, 6, 7, 9, 11, 83, 84, 85, 38, 86, 55, 87, 40, 88, 36, 37, 39, 46, 47, 48, 49, 112, 113, 114, 100, 101, 102, 103, 104, 105, 106, 107, 108, 109, 110, 111] (by decide +kernel) (by decide +kernel)
set_option maxRecDepth 20000 in
theorem gX6_find_X3_record : GoodIn wsX6_find (wsV RX6 66 RX3 yX3_record wsX3_record) := goodIn_app (goodIn_of _ (by decide +kernel)) ggX6_find_X3_record
set_option maxRecDepth 20000 in
theorem ggX6_find_X0_goTo : GoodIn wsX6_find wsX0_goTo := goodIn_r _ [92, 55, 109, 110, 111] (by decide +kernel) (by decide +kernel)
set_option maxRecDepth 20000 in
theorem gX6_find_X0_goTo : GoodIn wsX6_find (wsV RX6 125 RX0 yX0_goTo wsX0_goTo) := goodIn_app (goodIn_of _ (by decide +kernel)) ggX6_find_X0_goTo
set_option maxRecDepth 20000 in
theorem ggX6_find_X0_place : GoodIn wsX6_find wsX0_place := goodIn_r _ [54, 55, 109, 110, 111] (by decide +kernel) (by decide +kernel)
set_option maxRecDepth 20000 in
theorem gX6_find_X0_place : GoodIn wsX6_find (wsV RX6 128 RX0 yX0_place wsX0_place) := goodIn_app (goodIn_of _ (by decide +kernel)) ggX6_find_X0_place
theorem dX6_find_0 : decode cX6_find 0 = .ok (.aload_n 0, 1) := by decide +kernel
theorem dX6_find_1 : decode cX6_find 1 = .ok (.getfield 10, 3) := by decide +kernel
theorem dX6_find_4 : decode cX6_find 4 = .ok (.iload_n 1, 1) := by decide +kernel
theorem dX6_find_5 : decode cX6_find 5 = .ok (.invokevirtual 109, 3) := by decide +kernel
theorem dX6_find_8 : decode cX6_find 8 = .ok (.astore_n 2, 1) := by decide +kernel
theorem dX6_find_9 : decode cX6_find 9 = .ok (.aload_n 2, 1) := by decide +kernel
theorem dX6_find_10 : decode cX6_find 10 = .ok (.ifnonnull 6, 3) := by decide +kernel
theorem dX6_find_13 : decode cX6_find 13 = .ok (.ldc 60, 2) := by decide +kernel
theorem dX6_find_15 : decode cX6_find 15 = .ok (.ireturn, 1) := by decide +kernel
theorem dX6_find_16 : decode cX6_find 16 = .ok (.aload_n 0, 1) := by decide +kernel
theorem dX6_find_17 : decode cX6_find 17 = .ok (.getfield 10, 3) := by decide +kernel
theorem dX6_find_20 : decode cX6_find 20 = .ok (.aload_n 2, 1) := by decide +kernel
theorem dX6_find_21 : decode cX6_find 21 = .ok (.invokevirtual 116, 3) := by decide +kernel
theorem dX6_find_24 : decode cX6_find 24 = .ok (.istore_n 3, 1) := by decide +kernel
theorem dX6_find_25 : decode cX6_find 25 = .ok (.aload_n 0, 1) := by decide +kernel
theorem dX6_find_26 : decode cX6_find 26 = .ok (.getfield 10, 3) := by decide +kernel
theorem dX6_find_29 : decode cX6_find 29 = .ok (.aload_n 2, 1) := by decide +kernel
theorem dX6_find_30 : decode cX6_find 30 = .ok (.iload_n 3, 1) := by decide +kernel
theorem dX6_find_31 : decode cX6_find 31 = .ok (.invokevirtual 120, 3) := by decide +kernel
theorem dX6_find_34 : decode cX6_find 34 = .ok (.ifCond .eq 6, 3) := by decide +kernel
theorem dX6_find_37 : decode cX6_find 37 = .ok (.ldc 124, 2) := by decide +kernel
theorem dX6_find_39 : decode cX6_find 39 = .ok (.ireturn, 1) := by decide +kernel
theorem dX6_find_40 : decode cX6_find 40 = .ok (.aload_n 0, 1) := by decide +kernel
theorem dX6_find_41 : decode cX6_find 41 = .ok (.getfield 22, 3) := by decide +kernel
theorem dX6_find_44 : decode cX6_find 44 = .ok (.aload_n 0, 1) := by decide +kernel
theorem dX6_find_45 : decode cX6_find 45 = .ok (.getfield 10, 3) := by decide +kernel
theorem dX6_find_48 : decode cX6_find 48 = .ok (.invokevirtual 66, 3) := by decide +kernel
theorem dX6_find_51 : decode cX6_find 51 = .ok (.aload_n 2, 1) := by decide +kernel
theorem dX6_find_52 : decode cX6_find 52 = .ok (.iload_n 3, 1) := by decide +kernel
theorem dX6_find_53 : decode cX6_find 53 = .ok (.invokevirtual 125, 3) := by decide +kernel
theorem dX6_find_56 : decode cX6_find 56 = .ok (.aload_n 2, 1) := by decide +kernel
theorem dX6_find_57 : decode cX6_find 57 = .ok (.invokevirtual 128, 3) := by decide +kernel
theorem dX6_find_60 : decode cX6_find 60 = .ok (.ireturn, 1) := by decide +kernel
set_option maxRecDepth 20000 in
theorem ggX6_findAll_X3_record : GoodIn wsX6_findAll wsX3_record := goodIn_r _ [7, 8, 9, 10, 11, 12, 6, 13, 14, 15, 16, 17, 18, 19, 20, 21, 22, 23, 24, 25, 26, 27, 28, 29, 30, 31, 32, 33, 34, 35, 36, 37, 38, 39, 40, 41, 42, 43, 44, 45, 46, 47, 48, 49, 50, 51, 52, 53, 54, 55, 106, 107, 108, 109, 110, 111, 112, 113, 114, 115, 116, 117, 118, 119, 120] (by decide +kernel) (by decide +kernel)
set_option maxRecDepth 20000 in
theorem gX6_findAll_X3_record : GoodIn wsX6_findAll (wsV RX6 66 RX3 yX3_record wsX3_record) := goodIn_app (goodIn_of _ (by decide +kernel)) ggX6_findAll_X3_record
set_option maxRecDepth 20000 in
theorem ggX6_findAll_X5_anchorCount : GoodIn wsX6_findAll wsX5_anchorCount := goodIn_r _ [59, 21, 109, 110, 111, 112, 113] (by decide +kernel) (by decide +kernel)
set_option maxRecDepth 20000 in
theorem gX6_findAll_X5_anchorCount : GoodIn wsX6_findAll (wsV RX6 103 RX5 yX5_anchorCount wsX5_anchorCount) := goodIn_app (goodIn_of _ (by decide +kernel)) ggX6_findAll_X5_anchorCount
set_option maxRecDepth 20000 in
theorem ggX6_findAll_X5_anchorNumbered : GoodIn wsX6_findAll wsX5_anchorNumbered := goodIn_r _ [38, 21, 39, 109, 110, 111, 112, 113] (by decide +kernel) (by decide +kernel)
set_option maxRecDepth 20000 in
theorem gX6_findAll_X5_anchorNumbered : GoodIn wsX6_findAll (wsV RX6 109 RX5 yX5_anchorNumbered wsX5_anchorNumbered) := goodIn_app (goodIn_of _ (by decide +kernel)) ggX6_findAll_X5_anchorNumbered
set_option maxRecDepth 20000 in
theorem ggX6_findAll_X5_shiftOf : GoodIn wsX6_findAll wsX5_shiftOf := goodIn_r _ [64, 65, 66, 67, 18, 68, 69, 70, 71, 72, 20, 73, 74, 75, 76, 77, 78, 79, 27, 80, 30, 81, 82, 83, 84, 85, 49, 50, 43, 51, 47, 86, 32, 33, 34, 29, 52, 53, 54, 55, 22, 87, 88, 89, 90, 45, 91, 92, 93, 94, 109, 110, 111, 112, 113, 114, 115, 116, 117, 118, 119, 120] (by decide +kernel) (by decide +kernel)
set_option maxRecDepth 20000 in
theorem gX6_findAll_X5_shiftOf : GoodIn wsX6_findAll (wsV RX6 131 RX5 yX5_shiftOf wsX5_shiftOf) := goodIn_app (goodIn_of _ (by decide +kernel)) ggX6_findAll_X5_shiftOf
set_option maxRecDepth 20000 in
theorem ggX6_findAll_X0_place : GoodIn wsX6_findAll wsX0_place := goodIn_r _ [90, 45, 118, 119, 120] (by decide +kernel) (by decide +kernel)
set_option maxRecDepth 20000 in
theorem gX6_findAll_X0_place : GoodIn wsX6_findAll (wsV RX6 128 RX0 yX0_place wsX0_place) := goodIn_app (goodIn_of _ (by decide +kernel)) ggX6_findAll_X0_place
set_option maxRecDepth 20000 in
theorem ggX6_findAll_X0_goTo : GoodIn wsX6_findAll wsX0_goTo := goodIn_r _ [99, 45, 118, 119, 120] (by decide +kernel) (by decide +kernel)
set_option maxRecDepth 20000 in
theorem gX6_findAll_X0_goTo : GoodIn wsX6_findAll (wsV RX6 125 RX0 yX0_goTo wsX0_goTo) := goodIn_app (goodIn_of _ (by decide +kernel)) ggX6_findAll_X0_goTo
theorem dX6_findAll_0 : decode cX6_findAll 0 = .ok (.aload_n 0, 1) := by decide +kernel
theorem dX6_findAll_1 : decode cX6_findAll 1 = .ok (.getfield 22, 3) := by decide +kernel
theorem dX6_findAll_4 : decode cX6_findAll 4 = .ok (.aload_n 0, 1) := by decide +kernel
theorem dX6_findAll_5 : decode cX6_findAll 5 = .ok (.getfield 10, 3) := by decide +kernel
theorem dX6_findAll_8 : decode cX6_findAll 8 = .ok (.invokevirtual 66, 3) := by decide +kernel
theorem dX6_findAll_11 : decode cX6_findAll 11 = .ok (.iconst 0, 1) := by decide +kernel
theorem dX6_findAll_12 : decode cX6_findAll 12 = .ok (.istore_n 1, 1) := by decide +kernel
theorem dX6_findAll_13 : decode cX6_findAll 13 = .ok (.iconst 0, 1) := by decide +kernel
theorem dX6_findAll_14 : decode cX6_findAll 14 = .ok (.istore_n 2, 1) := by decide +kernel
theorem dX6_findAll_15 : decode cX6_findAll 15 = .ok (.iload_n 2, 1) := by decide +kernel
theorem dX6_findAll_16 : decode cX6_findAll 16 = .ok (.aload_n 0, 1) := by decide +kernel
theorem dX6_findAll_17 : decode cX6_findAll 17 = .ok (.getfield 10, 3) := by decide +kernel
theorem dX6_findAll_20 : decode cX6_findAll 20 = .ok (.invokevirtual 103, 3) := by decide +kernel
theorem dX6_findAll_23 : decode cX6_findAll 23 = .ok (.if_icmp .ge 51, 3) := by decide +kernel
theorem dX6_findAll_26 : decode cX6_findAll 26 = .ok (.aload_n 0, 1) := by decide +kernel
theorem dX6_findAll_27 : decode cX6_findAll 27 = .ok (.getfield 10, 3) := by decide +kernel
theorem dX6_findAll_30 : decode cX6_findAll 30 = .ok (.iload_n 2, 1) := by decide +kernel
theorem dX6_findAll_31 : decode cX6_findAll 31 = .ok (.invokevirtual 109, 3) := by decide +kernel
theorem dX6_findAll_34 : decode cX6_findAll 34 = .ok (.astore_n 3, 1) := by decide +kernel
theorem dX6_findAll_35 : decode cX6_findAll 35 = .ok (.aload_n 0, 1) := by decide +kernel
theorem dX6_findAll_36 : decode cX6_findAll 36 = .ok (.getfield 10, 3) := by decide +kernel
theorem dX6_findAll_39 : decode cX6_findAll 39 = .ok (.aload_n 3, 1) := by decide +kernel
theorem dX6_findAll_40 : decode cX6_findAll 40 = .ok (.invokevirtual 131, 3) := by decide +kernel
theorem dX6_findAll_43 : decode cX6_findAll 43 = .ok (.istore 4, 2) := by decide +kernel
theorem dX6_findAll_45 : decode cX6_findAll 45 = .ok (.aload_n 3, 1) := by decide +kernel
theorem dX6_findAll_46 : decode cX6_findAll 46 = .ok (.ifnull 22, 3) := by decide +kernel
theorem dX6_findAll_49 : decode cX6_findAll 49 = .ok (.iload 4, 2) := by decide +kernel
theorem dX6_findAll_51 : decode cX6_findAll 51 = .ok (.ifCond .eq 17, 3) := by decide +kernel
theorem dX6_findAll_54 : decode cX6_findAll 54 = .ok (.aload_n 3, 1) := by decide +kernel
theorem dX6_findAll_55 : decode cX6_findAll 55 = .ok (.aload_n 3, 1) := by decide +kernel
theorem dX6_findAll_56 : decode cX6_findAll 56 = .ok (.invokevirtual 128, 3) := by decide +kernel
theorem dX6_findAll_59 : decode cX6_findAll 59 = .ok (.iload 4, 2) := by decide +kernel
theorem dX6_findAll_61 : decode cX6_findAll 61 = .ok (.iadd, 1) := by decide +kernel
theorem dX6_findAll_62 : decode cX6_findAll 62 = .ok (.invokevirtual 125, 3) := by decide +kernel
theorem dX6_findAll_65 : decode cX6_findAll 65 = .ok (.iinc 1 1, 3) := by decide +kernel
theorem dX6_findAll_68 : decode cX6_findAll 68 = .ok (.iinc 2 1, 3) := by decide +kernel
theorem dX6_findAll_71 : decode cX6_findAll 71 = .ok (.goto (-56), 3) := by decide +kernel
theorem dX6_findAll_74 : decode cX6_findAll 74 = .ok (.iload_n 1, 1) := by decide +kernel
theorem dX6_findAll_75 : decode cX6_findAll 75 = .ok (.ireturn, 1) := by decide +kernel
set_option maxRecDepth 20000 in
theorem ggX6_remember_X5_anchorNumbered : GoodIn wsX6_remember wsX5_anchorNumbered := goodIn_r _ [10, 11, 12, 79, 80, 81, 82, 83] (by decide +kernel) (by decide +kernel)
set_option maxRecDepth 20000 in
theorem gX6_remember_X5_anchorNumbered : GoodIn wsX6_remember (wsV RX6 109 RX5 yX5_anchorNumbered wsX5_anchorNumbered) := goodIn_app (goodIn_of _ (by decide +kernel)) ggX6_remember_X5_anchorNumbered
set_option maxRecDepth 20000 in
theorem ggX6_remember_X0_place : GoodIn wsX6_remember wsX0_place := goodIn_r _ [17, 18, 84, 85, 86] (by decide +kernel) (by decide +kernel)
set_option maxRecDepth 20000 in
theorem gX6_remember_X0_place : GoodIn wsX6_remember (wsV RX6 128 RX0 yX0_place wsX0_place) := goodIn_app (goodIn_of _ (by decide +kernel)) ggX6_remember_X0_place
set_option maxRecDepth 20000 in
theorem ggX6_remember_X4_holds : GoodIn wsX6_remember wsX4_holds := goodIn_r _ [23, 24, 25, 87, 88, 89, 90] (by decide +kernel) (by decide +kernel)
set_option maxRecDepth 20000 in
theorem gX6_remember_X4_holds : GoodIn wsX6_remember (wsV RX6 78 RX4 yX4_holds wsX4_holds) := goodIn_app (goodIn_of _ (by decide +kernel)) ggX6_remember_X4_holds
set_option maxRecDepth 20000 in
theorem ggX6_remember_X3_record : GoodIn wsX6_remember wsX3_record := goodIn_r _ [30, 31, 32, 33, 34, 35, 29, 36, 37, 38, 39, 40, 9, 41, 42, 11, 43, 44, 45, 46, 47, 22, 48, 25, 24, 49, 50, 51, 52, 53, 7, 8, 10, 12, 54, 55, 56, 16, 57, 18, 58, 59, 60, 61, 62, 63, 64, 65, 66, 67, 91, 92, 93, 79, 80, 81, 82, 83, 87, 88, 89, 90, 84, 85, 86] (by decide +kernel) (by decide +kernel)
set_option maxRecDepth 20000 in
theorem gX6_remember_X3_record : GoodIn wsX6_remember (wsV RX6 66 RX3 yX3_record wsX3_record) := goodIn_app (goodIn_of _ (by decide +kernel)) ggX6_remember_X3_record
set_option maxRecDepth 20000 in
theorem ggX6_remember_X0_look : GoodIn wsX6_remember wsX0_look := goodIn_r _ [71, 59, 18, 58, 72, 50, 51, 22, 52, 24, 25, 84, 85, 86, 87, 88, 89, 90] (by decide +kernel) (by decide +kernel)
set_option maxRecDepth 20000 in
theorem gX6_remember_X0_look : GoodIn wsX6_remember (wsV RX6 134 RX0 yX0_look wsX0_look) := goodIn_app (goodIn_of _ (by decide +kernel)) ggX6_remember_X0_look
theorem dX6_remember_0 : decode cX6_remember 0 = .ok (.aload_n 0, 1) := by decide +kernel
theorem dX6_remember_1 : decode cX6_remember 1 = .ok (.getfield 10, 3) := by decide +kernel
theorem dX6_remember_4 : decode cX6_remember 4 = .ok (.iload_n 1, 1) := by decide +kernel
theorem dX6_remember_5 : decode cX6_remember 5 = .ok (.invokevirtual 109, 3) := by decide +kernel
theorem dX6_remember_8 : decode cX6_remember 8 = .ok (.astore_n 2, 1) := by decide +kernel
theorem dX6_remember_9 : decode cX6_remember 9 = .ok (.aload_n 2, 1) := by decide +kernel
theorem dX6_remember_10 : decode cX6_remember 10 = .ok (.ifnonnull 6, 3) := by decide +kernel
theorem dX6_remember_13 : decode cX6_remember 13 = .ok (.ldc 60, 2) := by decide +kernel
theorem dX6_remember_15 : decode cX6_remember 15 = .ok (.ireturn, 1) := by decide +kernel
theorem dX6_remember_16 : decode cX6_remember 16 = .ok (.aload_n 0, 1) := by decide +kernel
theorem dX6_remember_17 : decode cX6_remember 17 = .ok (.getfield 10, 3) := by decide +kernel
theorem dX6_remember_20 : decode cX6_remember 20 = .ok (.getfield 47, 3) := by decide +kernel
theorem dX6_remember_23 : decode cX6_remember 23 = .ok (.aload_n 2, 1) := by decide +kernel
theorem dX6_remember_24 : decode cX6_remember 24 = .ok (.invokevirtual 128, 3) := by decide +kernel
theorem dX6_remember_27 : decode cX6_remember 27 = .ok (.invokevirtual 78, 3) := by decide +kernel
theorem dX6_remember_30 : decode cX6_remember 30 = .ok (.ifCond .ne 6, 3) := by decide +kernel
theorem dX6_remember_33 : decode cX6_remember 33 = .ok (.ldc 124, 2) := by decide +kernel
theorem dX6_remember_35 : decode cX6_remember 35 = .ok (.ireturn, 1) := by decide +kernel
theorem dX6_remember_36 : decode cX6_remember 36 = .ok (.aload_n 0, 1) := by decide +kernel
theorem dX6_remember_37 : decode cX6_remember 37 = .ok (.getfield 22, 3) := by decide +kernel
theorem dX6_remember_40 : decode cX6_remember 40 = .ok (.aload_n 0, 1) := by decide +kernel
theorem dX6_remember_41 : decode cX6_remember 41 = .ok (.getfield 10, 3) := by decide +kernel
theorem dX6_remember_44 : decode cX6_remember 44 = .ok (.invokevirtual 66, 3) := by decide +kernel
theorem dX6_remember_47 : decode cX6_remember 47 = .ok (.aload_n 2, 1) := by decide +kernel
theorem dX6_remember_48 : decode cX6_remember 48 = .ok (.aload_n 0, 1) := by decide +kernel
theorem dX6_remember_49 : decode cX6_remember 49 = .ok (.getfield 10, 3) := by decide +kernel
theorem dX6_remember_52 : decode cX6_remember 52 = .ok (.getfield 47, 3) := by decide +kernel
theorem dX6_remember_55 : decode cX6_remember 55 = .ok (.invokevirtual 134, 3) := by decide +kernel
theorem dX6_remember_58 : decode cX6_remember 58 = .ok (.ireturn, 1) := by decide +kernel
set_option maxRecDepth 20000 in
theorem ggX6_set_X5_setting : GoodIn wsX6_set wsX5_setting := goodIn_r _ [9, 10, 69, 70, 71, 72, 73] (by decide +kernel) (by decide +kernel)
set_option maxRecDepth 20000 in
theorem gX6_set_X5_setting : GoodIn wsX6_set (wsV RX6 142 RX5 yX5_setting wsX5_setting) := goodIn_app (goodIn_of _ (by decide +kernel)) ggX6_set_X5_setting
set_option maxRecDepth 20000 in
theorem ggX6_set_X3_record : GoodIn wsX6_set wsX3_record := goodIn_r _ [15, 16, 17, 18, 19, 20, 14, 21, 22, 23, 24, 25, 8, 26, 27, 28, 10, 29, 30, 31, 32, 33, 34, 35, 36, 37, 38, 39, 40, 41, 42, 43, 44, 45, 46, 47, 48, 49, 50, 51, 52, 53, 54, 55, 56, 57, 58, 6, 7, 9, 74, 75, 76, 69, 70, 71, 72, 73, 77, 78, 79, 80, 81, 82, 83] (by decide +kernel) (by decide +kernel)
set_option maxRecDepth 20000 in
theorem gX6_set_X3_record : GoodIn wsX6_set (wsV RX6 66 RX3 yX3_record wsX3_record) := goodIn_app (goodIn_of _ (by decide +kernel)) ggX6_set_X3_record
set_option maxRecDepth 20000 in
theorem ggX6_set_X5_changeSetting : GoodIn wsX6_set wsX5_changeSetting := goodIn_r _ [62, 10, 69, 70, 71, 72, 73] (by decide +kernel) (by decide +kernel)
set_option maxRecDepth 20000 in
theorem gX6_set_X5_changeSetting : GoodIn wsX6_set (wsV RX6 145 RX5 yX5_changeSetting wsX5_changeSetting) := goodIn_app (goodIn_of _ (by decide +kernel)) ggX6_set_X5_changeSetting
theorem dX6_set_0 : decode cX6_set 0 = .ok (.iload_n 1, 1) := by decide +kernel
theorem dX6_set_1 : decode cX6_set 1 = .ok (.ifCond .lt 11, 3) := by decide +kernel
theorem dX6_set_4 : decode cX6_set 4 = .ok (.iload_n 1, 1) := by decide +kernel
theorem dX6_set_5 : decode cX6_set 5 = .ok (.getstatic 138, 3) := by decide +kernel
theorem dX6_set_8 : decode cX6_set 8 = .ok (.arraylength, 1) := by decide +kernel
theorem dX6_set_9 : decode cX6_set 9 = .ok (.if_icmp .lt 6, 3) := by decide +kernel
theorem dX6_set_12 : decode cX6_set 12 = .ok (.ldc 60, 2) := by decide +kernel
theorem dX6_set_14 : decode cX6_set 14 = .ok (.ireturn, 1) := by decide +kernel
theorem dX6_set_15 : decode cX6_set 15 = .ok (.iload_n 2, 1) := by decide +kernel
theorem dX6_set_16 : decode cX6_set 16 = .ok (.ifCond .lt 12, 3) := by decide +kernel
theorem dX6_set_19 : decode cX6_set 19 = .ok (.iload_n 2, 1) := by decide +kernel
theorem dX6_set_20 : decode cX6_set 20 = .ok (.getstatic 138, 3) := by decide +kernel
theorem dX6_set_23 : decode cX6_set 23 = .ok (.iload_n 1, 1) := by decide +kernel
theorem dX6_set_24 : decode cX6_set 24 = .ok (.iaload, 1) := by decide +kernel
theorem dX6_set_25 : decode cX6_set 25 = .ok (.if_icmp .le 6, 3) := by decide +kernel
theorem dX6_set_28 : decode cX6_set 28 = .ok (.ldc 60, 2) := by decide +kernel
theorem dX6_set_30 : decode cX6_set 30 = .ok (.ireturn, 1) := by decide +kernel
theorem dX6_set_31 : decode cX6_set 31 = .ok (.aload_n 0, 1) := by decide +kernel
theorem dX6_set_32 : decode cX6_set 32 = .ok (.getfield 10, 3) := by decide +kernel
theorem dX6_set_35 : decode cX6_set 35 = .ok (.iload_n 1, 1) := by decide +kernel
theorem dX6_set_36 : decode cX6_set 36 = .ok (.invokevirtual 142, 3) := by decide +kernel
theorem dX6_set_39 : decode cX6_set 39 = .ok (.istore_n 3, 1) := by decide +kernel
theorem dX6_set_40 : decode cX6_set 40 = .ok (.aload_n 0, 1) := by decide +kernel
theorem dX6_set_41 : decode cX6_set 41 = .ok (.getfield 22, 3) := by decide +kernel
theorem dX6_set_44 : decode cX6_set 44 = .ok (.aload_n 0, 1) := by decide +kernel
theorem dX6_set_45 : decode cX6_set 45 = .ok (.getfield 10, 3) := by decide +kernel
theorem dX6_set_48 : decode cX6_set 48 = .ok (.invokevirtual 66, 3) := by decide +kernel
theorem dX6_set_51 : decode cX6_set 51 = .ok (.aload_n 0, 1) := by decide +kernel
theorem dX6_set_52 : decode cX6_set 52 = .ok (.getfield 10, 3) := by decide +kernel
theorem dX6_set_55 : decode cX6_set 55 = .ok (.iload_n 1, 1) := by decide +kernel
theorem dX6_set_56 : decode cX6_set 56 = .ok (.iload_n 2, 1) := by decide +kernel
theorem dX6_set_57 : decode cX6_set 57 = .ok (.invokevirtual 145, 3) := by decide +kernel
theorem dX6_set_60 : decode cX6_set 60 = .ok (.iload_n 3, 1) := by decide +kernel
theorem dX6_set_61 : decode cX6_set 61 = .ok (.ireturn, 1) := by decide +kernel
set_option maxRecDepth 20000 in
theorem ggX6_wordAt_X4_at : GoodIn wsX6_wordAt wsX4_at := goodIn_r _ [8, 9, 10, 27, 28, 29, 30] (by decide +kernel) (by decide +kernel)
set_option maxRecDepth 20000 in
theorem gX6_wordAt_X4_at : GoodIn wsX6_wordAt (wsV RX6 81 RX4 yX4_at wsX4_at) := goodIn_app (goodIn_of _ (by decide +kernel)) ggX6_wordAt_X4_at
set_option maxRecDepth 20000 in
theorem ggX6_wordAt_X6_orNotFound : GoodIn wsX6_wordAt wsX6_orNotFound := goodIn_r _ [14, 15] (by decide +kernel) (by decide +kernel)
set_option maxRecDepth 20000 in
theorem gX6_wordAt_X6_orNotFound : GoodIn wsX6_wordAt (va_wsS RX6 148 yX6_orNotFound wsX6_orNotFound) := goodIn_app (goodIn_of _ (by decide +kernel)) ggX6_wordAt_X6_orNotFound
theorem dX6_wordAt_0 : decode cX6_wordAt 0 = .ok (.iload_n 1, 1) := by decide +kernel
theorem dX6_wordAt_1 : decode cX6_wordAt 1 = .ok (.ifCond .ge 6, 3) := by decide +kernel
theorem dX6_wordAt_4 : decode cX6_wordAt 4 = .ok (.ldc 60, 2) := by decide +kernel
theorem dX6_wordAt_6 : decode cX6_wordAt 6 = .ok (.ireturn, 1) := by decide +kernel
theorem dX6_wordAt_7 : decode cX6_wordAt 7 = .ok (.aload_n 0, 1) := by decide +kernel
theorem dX6_wordAt_8 : decode cX6_wordAt 8 = .ok (.getfield 10, 3) := by decide +kernel
theorem dX6_wordAt_11 : decode cX6_wordAt 11 = .ok (.getfield 47, 3) := by decide +kernel
theorem dX6_wordAt_14 : decode cX6_wordAt 14 = .ok (.iload_n 1, 1) := by decide +kernel
theorem dX6_wordAt_15 : decode cX6_wordAt 15 = .ok (.invokevirtual 81, 3) := by decide +kernel
theorem dX6_wordAt_18 : decode cX6_wordAt 18 = .ok (.invokestatic 148, 3) := by decide +kernel
theorem dX6_wordAt_21 : decode cX6_wordAt 21 = .ok (.ireturn, 1) := by decide +kernel
set_option maxRecDepth 20000 in
theorem ggX6_anchorOf_X5_anchorNumbered : GoodIn wsX6_anchorOf wsX5_anchorNumbered := goodIn_r _ [7, 8, 9, 96, 97, 98, 99, 100] (by decide +kernel) (by decide +kernel)
set_option maxRecDepth 20000 in
theorem gX6_anchorOf_X5_anchorNumbered : GoodIn wsX6_anchorOf (wsV RX6 109 RX5 yX5_anchorNumbered wsX5_anchorNumbered) := goodIn_app (goodIn_of _ (by decide +kernel)) ggX6_anchorOf_X5_anchorNumbered
set_option maxRecDepth 20000 in
theorem ggX6_anchorOf_X0_place : GoodIn wsX6_anchorOf wsX0_place := goodIn_r _ [14, 15, 101, 102, 103] (by decide +kernel) (by decide +kernel)
set_option maxRecDepth 20000 in
theorem gX6_anchorOf_X0_place : GoodIn wsX6_anchorOf (wsV RX6 128 RX0 yX0_place wsX0_place) := goodIn_app (goodIn_of _ (by decide +kernel)) ggX6_anchorOf_X0_place
set_option maxRecDepth 20000 in
theorem ggX6_anchorOf_X0_truePlace : GoodIn wsX6_anchorOf wsX0_truePlace := goodIn_r _ [19, 20, 101, 102, 103] (by decide +kernel) (by decide +kernel)
set_option maxRecDepth 20000 in
theorem gX6_anchorOf_X0_truePlace : GoodIn wsX6_anchorOf (wsV RX6 151 RX0 yX0_truePlace wsX0_truePlace) := goodIn_app (goodIn_of _ (by decide +kernel)) ggX6_anchorOf_X0_truePlace
set_option maxRecDepth 20000 in
theorem ggX6_anchorOf_X6_orNotFound : GoodIn wsX6_anchorOf wsX6_orNotFound := goodIn_r _ [24, 25] (by decide +kernel) (by decide +kernel)
set_option maxRecDepth 20000 in
theorem gX6_anchorOf_X6_orNotFound : GoodIn wsX6_anchorOf (va_wsS RX6 148 yX6_orNotFound wsX6_orNotFound) := goodIn_app (goodIn_of _ (by decide +kernel)) ggX6_anchorOf_X6_orNotFound
set_option maxRecDepth 20000 in
theorem ggX6_anchorOf_X5_standingOf : GoodIn wsX6_anchorOf wsX5_standingOf := goodIn_r _ [29, 30, 31, 32, 6, 33, 34, 35, 36, 37, 38, 39, 40, 41, 42, 43, 44, 45, 46, 47, 48, 49, 50, 51, 52, 53, 54, 55, 13, 56, 57, 58, 59, 60, 61, 62, 63, 64, 65, 66, 67, 68, 11, 12, 14, 15, 69, 70, 71, 72, 96, 97, 98, 99, 100, 104, 105, 106, 107, 101, 102, 103] (by decide +kernel) (by decide +kernel)
set_option maxRecDepth 20000 in
theorem gX6_anchorOf_X5_standingOf : GoodIn wsX6_anchorOf (wsV RX6 154 RX5 yX5_standingOf wsX5_standingOf) := goodIn_app (goodIn_of _ (by decide +kernel)) ggX6_anchorOf_X5_standingOf
set_option maxRecDepth 20000 in
theorem ggX6_anchorOf_X5_bestPlace : GoodIn wsX6_anchorOf wsX5_bestPlace := goodIn_r _ [33, 34, 35, 36, 6, 37, 38, 39, 40, 41, 42, 43, 44, 45, 46, 47, 48, 49, 50, 51, 52, 53, 54, 55, 13, 56, 57, 58, 59, 60, 61, 62, 63, 64, 65, 66, 67, 68, 11, 12, 14, 15, 96, 97, 98, 99, 100, 104, 105, 106, 107, 101, 102, 103] (by decide +kernel) (by decide +kernel)
set_option maxRecDepth 20000 in
theorem gX6_anchorOf_X5_bestPlace : GoodIn wsX6_anchorOf (wsV RX6 116 RX5 yX5_bestPlace wsX5_bestPlace) := goodIn_app (goodIn_of _ (by decide +kernel)) ggX6_anchorOf_X5_bestPlace
set_option maxRecDepth 20000 in
theorem ggX6_anchorOf_X6_scoreOrNotFound : GoodIn wsX6_anchorOf wsX6_scoreOrNotFound := goodIn_r _ [77, 25, 1, 78, 50, 51, 6, 52, 38, 39, 40, 41, 42, 53, 54, 55, 13, 56, 57, 58, 59, 60, 46, 61, 48, 62, 63, 64, 65, 66, 67, 90, 91, 92, 93, 94, 95, 96, 97, 98, 99, 100, 101, 102, 103, 104, 105, 106, 107] (by decide +kernel) (by decide +kernel)
set_option maxRecDepth 20000 in
theorem gX6_anchorOf_X6_scoreOrNotFound : GoodIn wsX6_anchorOf (wsV RX6 157 RX6 yX6_scoreOrNotFound wsX6_scoreOrNotFound) := goodIn_app (goodIn_of _ (by decide +kernel)) ggX6_anchorOf_X6_scoreOrNotFound
set_option maxRecDepth 20000 in
theorem ggX6_anchorOf_X5_nextBestPlace : GoodIn wsX6_anchorOf wsX5_nextBestPlace := goodIn_r _ [82, 30, 31, 32, 6, 33, 34, 35, 36, 37, 38, 39, 40, 41, 42, 43, 44, 45, 46, 47, 48, 49, 50, 51, 52, 53, 54, 55, 13, 56, 57, 58, 59, 60, 61, 62, 63, 64, 65, 66, 67, 68, 11, 12, 14, 15, 96, 97, 98, 99, 100, 104, 105, 106, 107, 101, 102, 103] (by decide +kernel) (by decide +kernel)
set_option maxRecDepth 20000 in
theorem gX6_anchorOf_X5_nextBestPlace : GoodIn wsX6_anchorOf (wsV RX6 161 RX5 yX5_nextBestPlace wsX5_nextBestPlace) := goodIn_app (goodIn_of _ (by decide +kernel)) ggX6_anchorOf_X5_nextBestPlace
set_option maxRecDepth 20000 in
theorem ggX6_anchorOf_X5_isOfKind : GoodIn wsX6_anchorOf wsX5_isOfKind := goodIn_r _ [86, 30, 31, 32, 6, 33, 34, 35, 36, 37, 38, 39, 40, 41, 42, 43, 44, 45, 46, 47, 48, 49, 50, 51, 52, 53, 54, 55, 13, 56, 57, 58, 59, 60, 61, 62, 63, 64, 65, 66, 67, 68, 11, 12, 14, 15, 69, 70, 71, 72, 87, 17, 18, 19, 20, 88, 27, 28, 29, 96, 97, 98, 99, 100, 104, 105, 106, 107, 101, 102, 103] (by decide +kernel) (by decide +kernel)
set_option maxRecDepth 20000 in
theorem gX6_anchorOf_X5_isOfKind : GoodIn wsX6_anchorOf (wsV RX6 164 RX5 yX5_isOfKind wsX5_isOfKind) := goodIn_app (goodIn_of _ (by decide +kernel)) ggX6_anchorOf_X5_isOfKind
set_option maxRecDepth 20000 in
theorem ggX6_anchorOf_X0_thing : GoodIn wsX6_anchorOf wsX0_thing := goodIn_r _ [56, 57, 101, 102, 103] (by decide +kernel) (by decide +kernel)
set_option maxRecDepth 20000 in
theorem gX6_anchorOf_X0_thing : GoodIn wsX6_anchorOf (wsV RX6 167 RX0 yX0_thing wsX0_thing) := goodIn_app (goodIn_of _ (by decide +kernel)) ggX6_anchorOf_X0_thing
theorem dX6_anchorOf_0 : decode cX6_anchorOf 0 = .ok (.aload_n 0, 1) := by decide +kernel
theorem dX6_anchorOf_1 : decode cX6_anchorOf 1 = .ok (.getfield 10, 3) := by decide +kernel
theorem dX6_anchorOf_4 : decode cX6_anchorOf 4 = .ok (.iload_n 1, 1) := by decide +kernel
theorem dX6_anchorOf_5 : decode cX6_anchorOf 5 = .ok (.invokevirtual 109, 3) := by decide +kernel
theorem dX6_anchorOf_8 : decode cX6_anchorOf 8 = .ok (.astore_n 3, 1) := by decide +kernel
theorem dX6_anchorOf_9 : decode cX6_anchorOf 9 = .ok (.aload_n 3, 1) := by decide +kernel
theorem dX6_anchorOf_10 : decode cX6_anchorOf 10 = .ok (.ifnull 13, 3) := by decide +kernel
theorem dX6_anchorOf_13 : decode cX6_anchorOf 13 = .ok (.iload_n 2, 1) := by decide +kernel
theorem dX6_anchorOf_14 : decode cX6_anchorOf 14 = .ok (.ifCond .lt 9, 3) := by decide +kernel
theorem dX6_anchorOf_17 : decode cX6_anchorOf 17 = .ok (.iload_n 2, 1) := by decide +kernel
theorem dX6_anchorOf_18 : decode cX6_anchorOf 18 = .ok (.bipush 12, 2) := by decide +kernel
theorem dX6_anchorOf_20 : decode cX6_anchorOf 20 = .ok (.if_icmp .le 6, 3) := by decide +kernel
theorem dX6_anchorOf_23 : decode cX6_anchorOf 23 = .ok (.ldc 60, 2) := by decide +kernel
theorem dX6_anchorOf_25 : decode cX6_anchorOf 25 = .ok (.ireturn, 1) := by decide +kernel
theorem dX6_anchorOf_26 : decode cX6_anchorOf 26 = .ok (.iload_n 2, 1) := by decide +kernel
theorem dX6_anchorOf_27 : decode cX6_anchorOf 27 = .ok (.tableswitch 157 0 12 #[65, 70, 157, 157, 157, 157, 157, 78, 87, 99, 113, 125, 139], 65) := by decide +kernel
theorem dX6_anchorOf_92 : decode cX6_anchorOf 92 = .ok (.aload_n 3, 1) := by decide +kernel
theorem dX6_anchorOf_93 : decode cX6_anchorOf 93 = .ok (.invokevirtual 128, 3) := by decide +kernel
theorem dX6_anchorOf_96 : decode cX6_anchorOf 96 = .ok (.ireturn, 1) := by decide +kernel
theorem dX6_anchorOf_97 : decode cX6_anchorOf 97 = .ok (.aload_n 3, 1) := by decide +kernel
theorem dX6_anchorOf_98 : decode cX6_anchorOf 98 = .ok (.invokevirtual 151, 3) := by decide +kernel
theorem dX6_anchorOf_101 : decode cX6_anchorOf 101 = .ok (.invokestatic 148, 3) := by decide +kernel
theorem dX6_anchorOf_104 : decode cX6_anchorOf 104 = .ok (.ireturn, 1) := by decide +kernel
theorem dX6_anchorOf_105 : decode cX6_anchorOf 105 = .ok (.aload_n 0, 1) := by decide +kernel
theorem dX6_anchorOf_106 : decode cX6_anchorOf 106 = .ok (.getfield 10, 3) := by decide +kernel
theorem dX6_anchorOf_109 : decode cX6_anchorOf 109 = .ok (.aload_n 3, 1) := by decide +kernel
theorem dX6_anchorOf_110 : decode cX6_anchorOf 110 = .ok (.invokevirtual 154, 3) := by decide +kernel
theorem dX6_anchorOf_113 : decode cX6_anchorOf 113 = .ok (.ireturn, 1) := by decide +kernel
theorem dX6_anchorOf_114 : decode cX6_anchorOf 114 = .ok (.aload_n 0, 1) := by decide +kernel
theorem dX6_anchorOf_115 : decode cX6_anchorOf 115 = .ok (.getfield 10, 3) := by decide +kernel
theorem dX6_anchorOf_118 : decode cX6_anchorOf 118 = .ok (.aload_n 3, 1) := by decide +kernel
theorem dX6_anchorOf_119 : decode cX6_anchorOf 119 = .ok (.invokevirtual 116, 3) := by decide +kernel
theorem dX6_anchorOf_122 : decode cX6_anchorOf 122 = .ok (.invokestatic 148, 3) := by decide +kernel
theorem dX6_anchorOf_125 : decode cX6_anchorOf 125 = .ok (.ireturn, 1) := by decide +kernel
theorem dX6_anchorOf_126 : decode cX6_anchorOf 126 = .ok (.aload_n 0, 1) := by decide +kernel
theorem dX6_anchorOf_127 : decode cX6_anchorOf 127 = .ok (.aload_n 3, 1) := by decide +kernel
theorem dX6_anchorOf_128 : decode cX6_anchorOf 128 = .ok (.aload_n 0, 1) := by decide +kernel
theorem dX6_anchorOf_129 : decode cX6_anchorOf 129 = .ok (.getfield 10, 3) := by decide +kernel
theorem dX6_anchorOf_132 : decode cX6_anchorOf 132 = .ok (.aload_n 3, 1) := by decide +kernel
theorem dX6_anchorOf_133 : decode cX6_anchorOf 133 = .ok (.invokevirtual 116, 3) := by decide +kernel
theorem dX6_anchorOf_136 : decode cX6_anchorOf 136 = .ok (.invokevirtual 157, 3) := by decide +kernel
theorem dX6_anchorOf_139 : decode cX6_anchorOf 139 = .ok (.ireturn, 1) := by decide +kernel
theorem dX6_anchorOf_140 : decode cX6_anchorOf 140 = .ok (.aload_n 0, 1) := by decide +kernel
theorem dX6_anchorOf_141 : decode cX6_anchorOf 141 = .ok (.getfield 10, 3) := by decide +kernel
theorem dX6_anchorOf_144 : decode cX6_anchorOf 144 = .ok (.aload_n 3, 1) := by decide +kernel
theorem dX6_anchorOf_145 : decode cX6_anchorOf 145 = .ok (.invokevirtual 161, 3) := by decide +kernel
theorem dX6_anchorOf_148 : decode cX6_anchorOf 148 = .ok (.invokestatic 148, 3) := by decide +kernel
theorem dX6_anchorOf_151 : decode cX6_anchorOf 151 = .ok (.ireturn, 1) := by decide +kernel
theorem dX6_anchorOf_152 : decode cX6_anchorOf 152 = .ok (.aload_n 0, 1) := by decide +kernel
theorem dX6_anchorOf_153 : decode cX6_anchorOf 153 = .ok (.aload_n 3, 1) := by decide +kernel
theorem dX6_anchorOf_154 : decode cX6_anchorOf 154 = .ok (.aload_n 0, 1) := by decide +kernel
theorem dX6_anchorOf_155 : decode cX6_anchorOf 155 = .ok (.getfield 10, 3) := by decide +kernel
theorem dX6_anchorOf_158 : decode cX6_anchorOf 158 = .ok (.aload_n 3, 1) := by decide +kernel
theorem dX6_anchorOf_159 : decode cX6_anchorOf 159 = .ok (.invokevirtual 161, 3) := by decide +kernel
theorem dX6_anchorOf_162 : decode cX6_anchorOf 162 = .ok (.invokevirtual 157, 3) := by decide +kernel
theorem dX6_anchorOf_165 : decode cX6_anchorOf 165 = .ok (.ireturn, 1) := by decide +kernel
theorem dX6_anchorOf_166 : decode cX6_anchorOf 166 = .ok (.aload_n 0, 1) := by decide +kernel
theorem dX6_anchorOf_167 : decode cX6_anchorOf 167 = .ok (.getfield 10, 3) := by decide +kernel
theorem dX6_anchorOf_170 : decode cX6_anchorOf 170 = .ok (.aload_n 3, 1) := by decide +kernel
theorem dX6_anchorOf_171 : decode cX6_anchorOf 171 = .ok (.iconst 3, 1) := by decide +kernel
theorem dX6_anchorOf_172 : decode cX6_anchorOf 172 = .ok (.invokevirtual 164, 3) := by decide +kernel
theorem dX6_anchorOf_175 : decode cX6_anchorOf 175 = .ok (.ifCond .eq 7, 3) := by decide +kernel
theorem dX6_anchorOf_178 : decode cX6_anchorOf 178 = .ok (.iconst 1, 1) := by decide +kernel
theorem dX6_anchorOf_179 : decode cX6_anchorOf 179 = .ok (.goto 4, 3) := by decide +kernel
theorem dX6_anchorOf_182 : decode cX6_anchorOf 182 = .ok (.iconst 0, 1) := by decide +kernel
theorem dX6_anchorOf_183 : decode cX6_anchorOf 183 = .ok (.ireturn, 1) := by decide +kernel
theorem dX6_anchorOf_184 : decode cX6_anchorOf 184 = .ok (.aload_n 3, 1) := by decide +kernel
theorem dX6_anchorOf_185 : decode cX6_anchorOf 185 = .ok (.iload_n 2, 1) := by decide +kernel
theorem dX6_anchorOf_186 : decode cX6_anchorOf 186 = .ok (.iconst 2, 1) := by decide +kernel
theorem dX6_anchorOf_187 : decode cX6_anchorOf 187 = .ok (.isub, 1) := by decide +kernel
theorem dX6_anchorOf_188 : decode cX6_anchorOf 188 = .ok (.invokevirtual 167, 3) := by decide +kernel
theorem dX6_anchorOf_191 : decode cX6_anchorOf 191 = .ok (.invokestatic 148, 3) := by decide +kernel
theorem dX6_anchorOf_194 : decode cX6_anchorOf 194 = .ok (.ireturn, 1) := by decide +kernel
set_option maxRecDepth 20000 in
theorem ggX6_score_X5_anchorNumbered : GoodIn wsX6_score wsX5_anchorNumbered := goodIn_r _ [8, 9, 10, 48, 49, 50, 51, 52] (by decide +kernel) (by decide +kernel)
set_option maxRecDepth 20000 in
theorem gX6_score_X5_anchorNumbered : GoodIn wsX6_score (wsV RX6 109 RX5 yX5_anchorNumbered wsX5_anchorNumbered) := goodIn_app (goodIn_of _ (by decide +kernel)) ggX6_score_X5_anchorNumbered
set_option maxRecDepth 20000 in
theorem ggX6_score_X4_holds : GoodIn wsX6_score wsX4_holds := goodIn_r _ [15, 16, 17, 53, 54, 55, 56] (by decide +kernel) (by decide +kernel)
set_option maxRecDepth 20000 in
theorem gX6_score_X4_holds : GoodIn wsX6_score (wsV RX6 78 RX4 yX4_holds wsX4_holds) := goodIn_app (goodIn_of _ (by decide +kernel)) ggX6_score_X4_holds
set_option maxRecDepth 20000 in
theorem ggX6_score_X5_scoreOf : GoodIn wsX6_score wsX5_scoreOf := goodIn_r _ [21, 22, 23, 24, 25, 26, 27, 28, 29, 30, 31, 32, 33, 34, 35, 14, 36, 16, 17, 37, 38, 39, 7, 40, 41, 48, 49, 50, 51, 52, 57, 58, 59, 53, 54, 55, 56] (by decide +kernel) (by decide +kernel)
set_option maxRecDepth 20000 in
theorem gX6_score_X5_scoreOf : GoodIn wsX6_score (wsV RX6 170 RX5 yX5_scoreOf wsX5_scoreOf) := goodIn_app (goodIn_of _ (by decide +kernel)) ggX6_score_X5_scoreOf
theorem dX6_score_0 : decode cX6_score 0 = .ok (.aload_n 0, 1) := by decide +kernel
theorem dX6_score_1 : decode cX6_score 1 = .ok (.getfield 10, 3) := by decide +kernel
theorem dX6_score_4 : decode cX6_score 4 = .ok (.iload_n 1, 1) := by decide +kernel
theorem dX6_score_5 : decode cX6_score 5 = .ok (.invokevirtual 109, 3) := by decide +kernel
theorem dX6_score_8 : decode cX6_score 8 = .ok (.astore_n 3, 1) := by decide +kernel
theorem dX6_score_9 : decode cX6_score 9 = .ok (.aload_n 3, 1) := by decide +kernel
theorem dX6_score_10 : decode cX6_score 10 = .ok (.ifnull 17, 3) := by decide +kernel
theorem dX6_score_13 : decode cX6_score 13 = .ok (.aload_n 0, 1) := by decide +kernel
theorem dX6_score_14 : decode cX6_score 14 = .ok (.getfield 10, 3) := by decide +kernel
theorem dX6_score_17 : decode cX6_score 17 = .ok (.getfield 47, 3) := by decide +kernel
theorem dX6_score_20 : decode cX6_score 20 = .ok (.iload_n 2, 1) := by decide +kernel
theorem dX6_score_21 : decode cX6_score 21 = .ok (.invokevirtual 78, 3) := by decide +kernel
theorem dX6_score_24 : decode cX6_score 24 = .ok (.ifCond .ne 6, 3) := by decide +kernel
theorem dX6_score_27 : decode cX6_score 27 = .ok (.ldc 60, 2) := by decide +kernel
theorem dX6_score_29 : decode cX6_score 29 = .ok (.ireturn, 1) := by decide +kernel
theorem dX6_score_30 : decode cX6_score 30 = .ok (.aload_n 0, 1) := by decide +kernel
theorem dX6_score_31 : decode cX6_score 31 = .ok (.getfield 10, 3) := by decide +kernel
theorem dX6_score_34 : decode cX6_score 34 = .ok (.aload_n 3, 1) := by decide +kernel
theorem dX6_score_35 : decode cX6_score 35 = .ok (.iload_n 2, 1) := by decide +kernel
theorem dX6_score_36 : decode cX6_score 36 = .ok (.invokevirtual 170, 3) := by decide +kernel
theorem dX6_score_39 : decode cX6_score 39 = .ok (.ireturn, 1) := by decide +kernel
set_option maxRecDepth 20000 in
theorem ggX6_anchors_X5_anchorsOfKind : GoodIn wsX6_anchors wsX5_anchorsOfKind := goodIn_r _ [7, 8, 9, 10, 11, 6, 12, 13, 14, 15, 16, 17, 18, 19, 20, 21, 22, 23, 24, 25, 26, 27, 28, 29, 30, 31, 32, 33, 34, 35, 36, 37, 38, 39, 40, 41, 42, 43, 44, 45, 46, 47, 48, 49, 50, 51, 52, 53, 54, 55, 56, 57, 58, 59, 60, 61, 62, 63, 64, 65, 66, 67, 68, 69, 70, 71, 72, 73, 74, 81, 82, 83, 84, 85, 86, 87, 88, 89, 90, 91, 92] (by decide +kernel) (by decide +kernel)
set_option maxRecDepth 20000 in
theorem gX6_anchors_X5_anchorsOfKind : GoodIn wsX6_anchors (wsV RX6 173 RX5 yX5_anchorsOfKind wsX5_anchorsOfKind) := goodIn_app (goodIn_of _ (by decide +kernel)) ggX6_anchors_X5_anchorsOfKind
theorem dX6_anchors_0 : decode cX6_anchors 0 = .ok (.iload_n 1, 1) := by decide +kernel
theorem dX6_anchors_1 : decode cX6_anchors 1 = .ok (.ifCond .lt 8, 3) := by decide +kernel
theorem dX6_anchors_4 : decode cX6_anchors 4 = .ok (.iload_n 1, 1) := by decide +kernel
theorem dX6_anchors_5 : decode cX6_anchors 5 = .ok (.iconst 5, 1) := by decide +kernel
theorem dX6_anchors_6 : decode cX6_anchors 6 = .ok (.if_icmp .le 6, 3) := by decide +kernel
theorem dX6_anchors_9 : decode cX6_anchors 9 = .ok (.ldc 60, 2) := by decide +kernel
theorem dX6_anchors_11 : decode cX6_anchors 11 = .ok (.ireturn, 1) := by decide +kernel
theorem dX6_anchors_12 : decode cX6_anchors 12 = .ok (.aload_n 0, 1) := by decide +kernel
theorem dX6_anchors_13 : decode cX6_anchors 13 = .ok (.getfield 10, 3) := by decide +kernel
theorem dX6_anchors_16 : decode cX6_anchors 16 = .ok (.iload_n 1, 1) := by decide +kernel
theorem dX6_anchors_17 : decode cX6_anchors 17 = .ok (.invokevirtual 173, 3) := by decide +kernel
theorem dX6_anchors_20 : decode cX6_anchors 20 = .ok (.ireturn, 1) := by decide +kernel
set_option maxRecDepth 20000 in
theorem ggX6_blockOf_X1_gather : GoodIn wsX6_blockOf wsX1_gather := goodIn_r _ [9, 10, 11, 12, 13, 14, 15, 16, 17, 18, 19, 20, 21, 22, 23, 24, 25, 26, 27, 28, 29, 30, 31, 32, 33, 34, 35, 36, 37, 38, 39, 40, 41, 42, 43, 44, 45, 46, 47, 48, 49, 50, 51, 52, 53, 54, 55, 56, 57, 58, 59, 60, 61, 62, 63, 64, 65, 66, 67, 68, 69, 70, 71, 72, 73, 74, 75, 76, 8, 77, 78, 79, 80, 81, 82, 83, 115, 116, 117, 118, 119, 120, 121, 122, 123, 124, 125, 126, 127, 128, 129] (by decide +kernel) (by decide +kernel)
set_option maxRecDepth 20000 in
theorem gX6_blockOf_X1_gather : GoodIn wsX6_blockOf (wsV RX6 176 RX1 yX1_gather wsX1_gather) := goodIn_app (goodIn_of _ (by decide +kernel)) ggX6_blockOf_X1_gather
set_option maxRecDepth 20000 in
theorem ggX6_blockOf_X1_inOrder : GoodIn wsX6_blockOf wsX1_inOrder := goodIn_r _ [87, 10, 88, 89, 90, 8, 91, 92, 93, 94, 95, 96, 97, 98, 99, 79, 100, 101, 102, 103, 104, 105, 106, 80, 81, 82, 83, 78, 115, 116, 117] (by decide +kernel) (by decide +kernel)
set_option maxRecDepth 20000 in
theorem gX6_blockOf_X1_inOrder : GoodIn wsX6_blockOf (wsV RX6 179 RX1 yX1_inOrder wsX1_inOrder) := goodIn_app (goodIn_of _ (by decide +kernel)) ggX6_blockOf_X1_inOrder
set_option maxRecDepth 20000 in
theorem ggX6_blockOf_X1_membersOf : GoodIn wsX6_blockOf wsX1_membersOf := goodIn_r _ [99, 10, 79, 115, 116, 117] (by decide +kernel) (by decide +kernel)
set_option maxRecDepth 20000 in
theorem gX6_blockOf_X1_membersOf : GoodIn wsX6_blockOf (wsV RX6 183 RX1 yX1_membersOf wsX1_membersOf) := goodIn_app (goodIn_of _ (by decide +kernel)) ggX6_blockOf_X1_membersOf
set_option maxRecDepth 20000 in
theorem ggX6_blockOf_X1_shiftOf : GoodIn wsX6_blockOf wsX1_shiftOf := goodIn_r _ [83, 10, 78, 115, 116, 117] (by decide +kernel) (by decide +kernel)
set_option maxRecDepth 20000 in
theorem gX6_blockOf_X1_shiftOf : GoodIn wsX6_blockOf (wsV RX6 186 RX1 yX1_shiftOf wsX1_shiftOf) := goodIn_app (goodIn_of _ (by decide +kernel)) ggX6_blockOf_X1_shiftOf
theorem dX6_blockOf_0 : decode cX6_blockOf 0 = .ok (.iload_n 1, 1) := by decide +kernel
theorem dX6_blockOf_1 : decode cX6_blockOf 1 = .ok (.ifCond .lt 12, 3) := by decide +kernel
theorem dX6_blockOf_4 : decode cX6_blockOf 4 = .ok (.iload_n 2, 1) := by decide +kernel
theorem dX6_blockOf_5 : decode cX6_blockOf 5 = .ok (.ifCond .lt 8, 3) := by decide +kernel
theorem dX6_blockOf_8 : decode cX6_blockOf 8 = .ok (.iload_n 2, 1) := by decide +kernel
theorem dX6_blockOf_9 : decode cX6_blockOf 9 = .ok (.iconst 1, 1) := by decide +kernel
theorem dX6_blockOf_10 : decode cX6_blockOf 10 = .ok (.if_icmp .le 6, 3) := by decide +kernel
theorem dX6_blockOf_13 : decode cX6_blockOf 13 = .ok (.ldc 60, 2) := by decide +kernel
theorem dX6_blockOf_15 : decode cX6_blockOf 15 = .ok (.ireturn, 1) := by decide +kernel
theorem dX6_blockOf_16 : decode cX6_blockOf 16 = .ok (.aload_n 0, 1) := by decide +kernel
theorem dX6_blockOf_17 : decode cX6_blockOf 17 = .ok (.getfield 36, 3) := by decide +kernel
theorem dX6_blockOf_20 : decode cX6_blockOf 20 = .ok (.aload_n 0, 1) := by decide +kernel
theorem dX6_blockOf_21 : decode cX6_blockOf 21 = .ok (.getfield 10, 3) := by decide +kernel
theorem dX6_blockOf_24 : decode cX6_blockOf 24 = .ok (.invokevirtual 176, 3) := by decide +kernel
theorem dX6_blockOf_27 : decode cX6_blockOf 27 = .ok (.aload_n 0, 1) := by decide +kernel
theorem dX6_blockOf_28 : decode cX6_blockOf 28 = .ok (.getfield 36, 3) := by decide +kernel
theorem dX6_blockOf_31 : decode cX6_blockOf 31 = .ok (.iload_n 1, 1) := by decide +kernel
theorem dX6_blockOf_32 : decode cX6_blockOf 32 = .ok (.invokevirtual 179, 3) := by decide +kernel
theorem dX6_blockOf_35 : decode cX6_blockOf 35 = .ok (.istore_n 3, 1) := by decide +kernel
theorem dX6_blockOf_36 : decode cX6_blockOf 36 = .ok (.iload_n 3, 1) := by decide +kernel
theorem dX6_blockOf_37 : decode cX6_blockOf 37 = .ok (.iconst (-1), 1) := by decide +kernel
theorem dX6_blockOf_38 : decode cX6_blockOf 38 = .ok (.if_icmp .ne 6, 3) := by decide +kernel
theorem dX6_blockOf_41 : decode cX6_blockOf 41 = .ok (.ldc 182, 2) := by decide +kernel
theorem dX6_blockOf_43 : decode cX6_blockOf 43 = .ok (.ireturn, 1) := by decide +kernel
theorem dX6_blockOf_44 : decode cX6_blockOf 44 = .ok (.iload_n 2, 1) := by decide +kernel
theorem dX6_blockOf_45 : decode cX6_blockOf 45 = .ok (.ifCond .ne 14, 3) := by decide +kernel
theorem dX6_blockOf_48 : decode cX6_blockOf 48 = .ok (.aload_n 0, 1) := by decide +kernel
theorem dX6_blockOf_49 : decode cX6_blockOf 49 = .ok (.getfield 36, 3) := by decide +kernel
theorem dX6_blockOf_52 : decode cX6_blockOf 52 = .ok (.iload_n 3, 1) := by decide +kernel
theorem dX6_blockOf_53 : decode cX6_blockOf 53 = .ok (.invokevirtual 183, 3) := by decide +kernel
theorem dX6_blockOf_56 : decode cX6_blockOf 56 = .ok (.goto 14, 3) := by decide +kernel
theorem dX6_blockOf_59 : decode cX6_blockOf 59 = .ok (.aload_n 0, 1) := by decide +kernel
theorem dX6_blockOf_60 : decode cX6_blockOf 60 = .ok (.getfield 36, 3) := by decide +kernel
theorem dX6_blockOf_63 : decode cX6_blockOf 63 = .ok (.iload_n 3, 1) := by decide +kernel
theorem dX6_blockOf_64 : decode cX6_blockOf 64 = .ok (.invokevirtual 186, 3) := by decide +kernel
theorem dX6_blockOf_67 : decode cX6_blockOf 67 = .ok (.bipush 100, 2) := by decide +kernel
theorem dX6_blockOf_69 : decode cX6_blockOf 69 = .ok (.iadd, 1) := by decide +kernel
theorem dX6_blockOf_70 : decode cX6_blockOf 70 = .ok (.ireturn, 1) := by decide +kernel
set_option maxRecDepth 20000 in
theorem ggX6_wouldTake_X4_holds : GoodIn wsX6_wouldTake wsX4_holds := goodIn_r _ [9, 10, 11, 140, 141, 142, 143] (by decide +kernel) (by decide +kernel)
set_option maxRecDepth 20000 in
theorem gX6_wouldTake_X4_holds : GoodIn wsX6_wouldTake (wsV RX6 78 RX4 yX4_holds wsX4_holds) := goodIn_app (goodIn_of _ (by decide +kernel)) ggX6_wouldTake_X4_holds
set_option maxRecDepth 20000 in
theorem ggX6_wouldTake_X6_tryTaking : GoodIn wsX6_wouldTake wsX6_tryTaking := goodIn_r _ [16, 4, 1, 17, 18, 19, 20, 21, 22, 23, 24, 25, 26, 27, 28, 8, 29, 11, 10, 30, 31, 32, 33, 34, 35, 36, 37, 38, 39, 40, 41, 42, 43, 44, 45, 46, 47, 48, 49, 50, 51, 52, 53, 54, 55, 56, 57, 58, 59, 60, 61, 62, 63, 64, 6, 7, 9, 65, 66, 67, 68, 69, 70, 71, 72, 73, 74, 75, 76, 77, 78, 79, 80, 81, 82, 129, 130, 131, 132, 133, 134, 135, 136, 137, 138, 139, 140, 141, 142, 143, 144, 145, 146] (by decide +kernel) (by decide +kernel)
set_option maxRecDepth 20000 in
theorem gX6_wouldTake_X6_tryTaking : GoodIn wsX6_wouldTake (wsV RX6 188 RX6 yX6_tryTaking wsX6_tryTaking) := goodIn_app (goodIn_of _ (by decide +kernel)) ggX6_wouldTake_X6_tryTaking
set_option maxRecDepth 20000 in
theorem ggX6_wouldTake_X5_anchorsOfKind : GoodIn wsX6_wouldTake wsX5_anchorsOfKind := goodIn_r _ [86, 23, 34, 35, 36, 20, 37, 38, 87, 88, 89, 90, 91, 92, 93, 94, 95, 96, 97, 98, 22, 99, 100, 101, 102, 103, 104, 105, 8, 106, 10, 107, 108, 109, 110, 111, 48, 49, 42, 50, 46, 112, 31, 32, 33, 11, 51, 52, 53, 54, 24, 113, 114, 115, 116, 44, 117, 118, 119, 120, 121, 122, 123, 124, 45, 125, 126, 127, 128, 135, 136, 137, 138, 139, 140, 141, 142, 143, 144, 145, 146] (by decide +kernel) (by decide +kernel)
set_option maxRecDepth 20000 in
theorem gX6_wouldTake_X5_anchorsOfKind : GoodIn wsX6_wouldTake (wsV RX6 173 RX5 yX5_anchorsOfKind wsX5_anchorsOfKind) := goodIn_app (goodIn_of _ (by decide +kernel)) ggX6_wouldTake_X5_anchorsOfKind
theorem dX6_wouldTake_0 : decode cX6_wouldTake 0 = .ok (.aload_n 0, 1) := by decide +kernel
theorem dX6_wouldTake_1 : decode cX6_wouldTake 1 = .ok (.getfield 10, 3) := by decide +kernel
theorem dX6_wouldTake_4 : decode cX6_wouldTake 4 = .ok (.getfield 47, 3) := by decide +kernel
theorem dX6_wouldTake_7 : decode cX6_wouldTake 7 = .ok (.iload_n 1, 1) := by decide +kernel
theorem dX6_wouldTake_8 : decode cX6_wouldTake 8 = .ok (.invokevirtual 78, 3) := by decide +kernel
theorem dX6_wouldTake_11 : decode cX6_wouldTake 11 = .ok (.ifCond .eq 12, 3) := by decide +kernel
theorem dX6_wouldTake_14 : decode cX6_wouldTake 14 = .ok (.iload_n 2, 1) := by decide +kernel
theorem dX6_wouldTake_15 : decode cX6_wouldTake 15 = .ok (.ifCond .lt 8, 3) := by decide +kernel
theorem dX6_wouldTake_18 : decode cX6_wouldTake 18 = .ok (.iload_n 2, 1) := by decide +kernel
theorem dX6_wouldTake_19 : decode cX6_wouldTake 19 = .ok (.iconst 1, 1) := by decide +kernel
theorem dX6_wouldTake_20 : decode cX6_wouldTake 20 = .ok (.if_icmp .le 6, 3) := by decide +kernel
theorem dX6_wouldTake_23 : decode cX6_wouldTake 23 = .ok (.ldc 60, 2) := by decide +kernel
theorem dX6_wouldTake_25 : decode cX6_wouldTake 25 = .ok (.ireturn, 1) := by decide +kernel
theorem dX6_wouldTake_26 : decode cX6_wouldTake 26 = .ok (.aload_n 0, 1) := by decide +kernel
theorem dX6_wouldTake_27 : decode cX6_wouldTake 27 = .ok (.iload_n 1, 1) := by decide +kernel
theorem dX6_wouldTake_28 : decode cX6_wouldTake 28 = .ok (.invokevirtual 188, 3) := by decide +kernel
theorem dX6_wouldTake_31 : decode cX6_wouldTake 31 = .ok (.aload_n 0, 1) := by decide +kernel
theorem dX6_wouldTake_32 : decode cX6_wouldTake 32 = .ok (.getfield 16, 3) := by decide +kernel
theorem dX6_wouldTake_35 : decode cX6_wouldTake 35 = .ok (.iload_n 2, 1) := by decide +kernel
theorem dX6_wouldTake_36 : decode cX6_wouldTake 36 = .ok (.ifCond .ne 7, 3) := by decide +kernel
theorem dX6_wouldTake_39 : decode cX6_wouldTake 39 = .ok (.iconst 2, 1) := by decide +kernel
theorem dX6_wouldTake_40 : decode cX6_wouldTake 40 = .ok (.goto 4, 3) := by decide +kernel
theorem dX6_wouldTake_43 : decode cX6_wouldTake 43 = .ok (.iconst 3, 1) := by decide +kernel
theorem dX6_wouldTake_44 : decode cX6_wouldTake 44 = .ok (.invokevirtual 173, 3) := by decide +kernel
theorem dX6_wouldTake_47 : decode cX6_wouldTake 47 = .ok (.ireturn, 1) := by decide +kernel
set_option maxRecDepth 20000 in
theorem ggX6_safest_X4_size : GoodIn wsX6_safest wsX4_size := goodIn_r _ [10, 11, 148, 149, 150, 151] (by decide +kernel) (by decide +kernel)
set_option maxRecDepth 20000 in
theorem gX6_safest_X4_size : GoodIn wsX6_safest (wsV RX6 74 RX4 yX4_size wsX4_size) := goodIn_app (goodIn_of _ (by decide +kernel)) ggX6_safest_X4_size
set_option maxRecDepth 20000 in
theorem ggX6_safest_X6_tryTaking : GoodIn wsX6_safest wsX6_tryTaking := goodIn_r _ [16, 4, 2, 17, 18, 19, 20, 21, 22, 23, 24, 25, 26, 27, 28, 9, 29, 30, 11, 31, 32, 33, 34, 35, 36, 37, 38, 39, 40, 41, 42, 43, 44, 45, 46, 47, 48, 49, 50, 51, 52, 53, 54, 55, 56, 57, 58, 59, 60, 61, 62, 63, 64, 65, 66, 67, 68, 69, 70, 71, 72, 73, 74, 75, 76, 77, 78, 79, 80, 81, 82, 83, 84, 85, 86, 137, 138, 139, 140, 141, 142, 143, 144, 145, 146, 147, 148, 149, 150, 151, 152, 153, 154] (by decide +kernel) (by decide +kernel)
set_option maxRecDepth 20000 in
theorem gX6_safest_X6_tryTaking : GoodIn wsX6_safest (wsV RX6 188 RX6 yX6_tryTaking wsX6_tryTaking) := goodIn_app (goodIn_of _ (by decide +kernel)) ggX6_safest_X6_tryTaking
set_option maxRecDepth 20000 in
theorem ggX6_safest_X5_anchorsOfKind : GoodIn wsX6_safest wsX5_anchorsOfKind := goodIn_r _ [90, 23, 35, 36, 37, 20, 38, 39, 91, 92, 93, 94, 95, 96, 97, 98, 99, 100, 101, 102, 22, 103, 104, 105, 106, 107, 7, 8, 9, 10, 11, 108, 109, 110, 111, 112, 49, 50, 43, 51, 47, 113, 32, 33, 34, 30, 52, 53, 54, 55, 24, 114, 115, 116, 117, 45, 118, 119, 120, 121, 122, 123, 124, 125, 46, 126, 127, 128, 129, 143, 144, 145, 146, 147, 148, 149, 150, 151, 152, 153, 154] (by decide +kernel) (by decide +kernel)
set_option maxRecDepth 20000 in
theorem gX6_safest_X5_anchorsOfKind : GoodIn wsX6_safest (wsV RX6 173 RX5 yX5_anchorsOfKind wsX5_anchorsOfKind) := goodIn_app (goodIn_of _ (by decide +kernel)) ggX6_safest_X5_anchorsOfKind
set_option maxRecDepth 20000 in
theorem ggX6_safest_J6_bitCount_0f7a4 : GoodIn wsX6_safest wsJ6_bitCount_0f7a4 := goodIn_r _ [133, 134, 135, 136] (by decide +kernel) (by decide +kernel)
set_option maxRecDepth 20000 in
theorem gX6_safest_J6_bitCount_0f7a4 : GoodIn wsX6_safest (va_wsS RX6 191 yJ6_bitCount_0f7a4 wsJ6_bitCount_0f7a4) := goodIn_app (goodIn_of _ (by decide +kernel)) ggX6_safest_J6_bitCount_0f7a4
theorem dX6_safest_0 : decode cX6_safest 0 = .ok (.iload_n 1, 1) := by decide +kernel
theorem dX6_safest_1 : decode cX6_safest 1 = .ok (.ifCond .lt 8, 3) := by decide +kernel
theorem dX6_safest_4 : decode cX6_safest 4 = .ok (.iload_n 1, 1) := by decide +kernel
theorem dX6_safest_5 : decode cX6_safest 5 = .ok (.iconst 1, 1) := by decide +kernel
theorem dX6_safest_6 : decode cX6_safest 6 = .ok (.if_icmp .le 6, 3) := by decide +kernel
theorem dX6_safest_9 : decode cX6_safest 9 = .ok (.ldc 60, 2) := by decide +kernel
theorem dX6_safest_11 : decode cX6_safest 11 = .ok (.ireturn, 1) := by decide +kernel
theorem dX6_safest_12 : decode cX6_safest 12 = .ok (.iconst (-1), 1) := by decide +kernel
theorem dX6_safest_13 : decode cX6_safest 13 = .ok (.istore_n 2, 1) := by decide +kernel
theorem dX6_safest_14 : decode cX6_safest 14 = .ok (.bipush 7, 2) := by decide +kernel
theorem dX6_safest_16 : decode cX6_safest 16 = .ok (.istore_n 3, 1) := by decide +kernel
theorem dX6_safest_17 : decode cX6_safest 17 = .ok (.iconst 0, 1) := by decide +kernel
theorem dX6_safest_18 : decode cX6_safest 18 = .ok (.istore 4, 2) := by decide +kernel
theorem dX6_safest_20 : decode cX6_safest 20 = .ok (.iload 4, 2) := by decide +kernel
theorem dX6_safest_22 : decode cX6_safest 22 = .ok (.aload_n 0, 1) := by decide +kernel
theorem dX6_safest_23 : decode cX6_safest 23 = .ok (.getfield 10, 3) := by decide +kernel
theorem dX6_safest_26 : decode cX6_safest 26 = .ok (.getfield 47, 3) := by decide +kernel
theorem dX6_safest_29 : decode cX6_safest 29 = .ok (.invokevirtual 74, 3) := by decide +kernel
theorem dX6_safest_32 : decode cX6_safest 32 = .ok (.if_icmp .ge 44, 3) := by decide +kernel
theorem dX6_safest_35 : decode cX6_safest 35 = .ok (.iload_n 3, 1) := by decide +kernel
theorem dX6_safest_36 : decode cX6_safest 36 = .ok (.ifCond .le 40, 3) := by decide +kernel
theorem dX6_safest_39 : decode cX6_safest 39 = .ok (.aload_n 0, 1) := by decide +kernel
theorem dX6_safest_40 : decode cX6_safest 40 = .ok (.iload 4, 2) := by decide +kernel
theorem dX6_safest_42 : decode cX6_safest 42 = .ok (.invokevirtual 188, 3) := by decide +kernel
theorem dX6_safest_45 : decode cX6_safest 45 = .ok (.aload_n 0, 1) := by decide +kernel
theorem dX6_safest_46 : decode cX6_safest 46 = .ok (.getfield 16, 3) := by decide +kernel
theorem dX6_safest_49 : decode cX6_safest 49 = .ok (.iconst 2, 1) := by decide +kernel
theorem dX6_safest_50 : decode cX6_safest 50 = .ok (.invokevirtual 173, 3) := by decide +kernel
theorem dX6_safest_53 : decode cX6_safest 53 = .ok (.invokestatic 191, 3) := by decide +kernel
theorem dX6_safest_56 : decode cX6_safest 56 = .ok (.istore 5, 2) := by decide +kernel
theorem dX6_safest_58 : decode cX6_safest 58 = .ok (.iload 5, 2) := by decide +kernel
theorem dX6_safest_60 : decode cX6_safest 60 = .ok (.iload_n 3, 1) := by decide +kernel
theorem dX6_safest_61 : decode cX6_safest 61 = .ok (.if_icmp .ge 9, 3) := by decide +kernel
theorem dX6_safest_64 : decode cX6_safest 64 = .ok (.iload 4, 2) := by decide +kernel
theorem dX6_safest_66 : decode cX6_safest 66 = .ok (.istore_n 2, 1) := by decide +kernel
theorem dX6_safest_67 : decode cX6_safest 67 = .ok (.iload 5, 2) := by decide +kernel
theorem dX6_safest_69 : decode cX6_safest 69 = .ok (.istore_n 3, 1) := by decide +kernel
theorem dX6_safest_70 : decode cX6_safest 70 = .ok (.iinc 4 1, 3) := by decide +kernel
theorem dX6_safest_73 : decode cX6_safest 73 = .ok (.goto (-53), 3) := by decide +kernel
theorem dX6_safest_76 : decode cX6_safest 76 = .ok (.iload_n 2, 1) := by decide +kernel
theorem dX6_safest_77 : decode cX6_safest 77 = .ok (.iconst (-1), 1) := by decide +kernel
theorem dX6_safest_78 : decode cX6_safest 78 = .ok (.if_icmp .ne 6, 3) := by decide +kernel
theorem dX6_safest_81 : decode cX6_safest 81 = .ok (.ldc 182, 2) := by decide +kernel
theorem dX6_safest_83 : decode cX6_safest 83 = .ok (.ireturn, 1) := by decide +kernel
theorem dX6_safest_84 : decode cX6_safest 84 = .ok (.iload_n 1, 1) := by decide +kernel
theorem dX6_safest_85 : decode cX6_safest 85 = .ok (.ifCond .ne 7, 3) := by decide +kernel
theorem dX6_safest_88 : decode cX6_safest 88 = .ok (.iload_n 2, 1) := by decide +kernel
theorem dX6_safest_89 : decode cX6_safest 89 = .ok (.goto 4, 3) := by decide +kernel
theorem dX6_safest_92 : decode cX6_safest 92 = .ok (.iload_n 3, 1) := by decide +kernel
theorem dX6_safest_93 : decode cX6_safest 93 = .ok (.ireturn, 1) := by decide +kernel
set_option maxRecDepth 20000 in
theorem ggX6_clearest_X4_size : GoodIn wsX6_clearest wsX4_size := goodIn_r _ [9, 10, 79, 80, 81, 82] (by decide +kernel) (by decide +kernel)
set_option maxRecDepth 20000 in
theorem gX6_clearest_X4_size : GoodIn wsX6_clearest (wsV RX6 74 RX4 yX4_size wsX4_size) := goodIn_app (goodIn_of _ (by decide +kernel)) ggX6_clearest_X4_size
set_option maxRecDepth 20000 in
theorem ggX6_clearest_X6_differenceAt : GoodIn wsX6_clearest wsX6_differenceAt := goodIn_r _ [15, 16, 2, 3, 17, 18, 19, 20, 21, 22, 23, 24, 25, 26, 27, 28, 29, 30, 31, 32, 33, 34, 35, 8, 36, 10, 37, 38, 39, 40, 41, 42, 43, 44, 45, 46, 47, 48, 49, 50, 51, 52, 53, 54, 55, 56, 57, 58, 59, 60, 61, 62, 6, 7, 9, 63, 64, 65, 66, 67, 68, 69, 70, 71, 72, 73, 74, 75, 76, 77, 78, 83, 84, 85, 79, 80, 81, 82] (by decide +kernel) (by decide +kernel)
set_option maxRecDepth 20000 in
theorem gX6_clearest_X6_differenceAt : GoodIn wsX6_clearest (wsV RX6 196 RX6 yX6_differenceAt wsX6_differenceAt) := goodIn_app (goodIn_of _ (by decide +kernel)) ggX6_clearest_X6_differenceAt
theorem dX6_clearest_0 : decode cX6_clearest 0 = .ok (.iload_n 1, 1) := by decide +kernel
theorem dX6_clearest_1 : decode cX6_clearest 1 = .ok (.ifCond .lt 8, 3) := by decide +kernel
theorem dX6_clearest_4 : decode cX6_clearest 4 = .ok (.iload_n 1, 1) := by decide +kernel
theorem dX6_clearest_5 : decode cX6_clearest 5 = .ok (.iconst 1, 1) := by decide +kernel
theorem dX6_clearest_6 : decode cX6_clearest 6 = .ok (.if_icmp .le 6, 3) := by decide +kernel
theorem dX6_clearest_9 : decode cX6_clearest 9 = .ok (.ldc 60, 2) := by decide +kernel
theorem dX6_clearest_11 : decode cX6_clearest 11 = .ok (.ireturn, 1) := by decide +kernel
theorem dX6_clearest_12 : decode cX6_clearest 12 = .ok (.iconst (-1), 1) := by decide +kernel
theorem dX6_clearest_13 : decode cX6_clearest 13 = .ok (.istore_n 2, 1) := by decide +kernel
theorem dX6_clearest_14 : decode cX6_clearest 14 = .ok (.iconst 0, 1) := by decide +kernel
theorem dX6_clearest_15 : decode cX6_clearest 15 = .ok (.istore_n 3, 1) := by decide +kernel
theorem dX6_clearest_16 : decode cX6_clearest 16 = .ok (.iconst 0, 1) := by decide +kernel
theorem dX6_clearest_17 : decode cX6_clearest 17 = .ok (.istore 4, 2) := by decide +kernel
theorem dX6_clearest_19 : decode cX6_clearest 19 = .ok (.iload 4, 2) := by decide +kernel
theorem dX6_clearest_21 : decode cX6_clearest 21 = .ok (.aload_n 0, 1) := by decide +kernel
theorem dX6_clearest_22 : decode cX6_clearest 22 = .ok (.getfield 10, 3) := by decide +kernel
theorem dX6_clearest_25 : decode cX6_clearest 25 = .ok (.getfield 47, 3) := by decide +kernel
theorem dX6_clearest_28 : decode cX6_clearest 28 = .ok (.invokevirtual 74, 3) := by decide +kernel
theorem dX6_clearest_31 : decode cX6_clearest 31 = .ok (.if_icmp .ge 34, 3) := by decide +kernel
theorem dX6_clearest_34 : decode cX6_clearest 34 = .ok (.aload_n 0, 1) := by decide +kernel
theorem dX6_clearest_35 : decode cX6_clearest 35 = .ok (.iload 4, 2) := by decide +kernel
theorem dX6_clearest_37 : decode cX6_clearest 37 = .ok (.invokevirtual 196, 3) := by decide +kernel
theorem dX6_clearest_40 : decode cX6_clearest 40 = .ok (.istore 5, 2) := by decide +kernel
theorem dX6_clearest_42 : decode cX6_clearest 42 = .ok (.iload_n 2, 1) := by decide +kernel
theorem dX6_clearest_43 : decode cX6_clearest 43 = .ok (.iconst (-1), 1) := by decide +kernel
theorem dX6_clearest_44 : decode cX6_clearest 44 = .ok (.if_icmp .eq 9, 3) := by decide +kernel
theorem dX6_clearest_47 : decode cX6_clearest 47 = .ok (.iload 5, 2) := by decide +kernel
theorem dX6_clearest_49 : decode cX6_clearest 49 = .ok (.iload_n 3, 1) := by decide +kernel
theorem dX6_clearest_50 : decode cX6_clearest 50 = .ok (.if_icmp .le 9, 3) := by decide +kernel
theorem dX6_clearest_53 : decode cX6_clearest 53 = .ok (.iload 4, 2) := by decide +kernel
theorem dX6_clearest_55 : decode cX6_clearest 55 = .ok (.istore_n 2, 1) := by decide +kernel
theorem dX6_clearest_56 : decode cX6_clearest 56 = .ok (.iload 5, 2) := by decide +kernel
theorem dX6_clearest_58 : decode cX6_clearest 58 = .ok (.istore_n 3, 1) := by decide +kernel
theorem dX6_clearest_59 : decode cX6_clearest 59 = .ok (.iinc 4 1, 3) := by decide +kernel
theorem dX6_clearest_62 : decode cX6_clearest 62 = .ok (.goto (-43), 3) := by decide +kernel
theorem dX6_clearest_65 : decode cX6_clearest 65 = .ok (.iload_n 2, 1) := by decide +kernel
theorem dX6_clearest_66 : decode cX6_clearest 66 = .ok (.iconst (-1), 1) := by decide +kernel
theorem dX6_clearest_67 : decode cX6_clearest 67 = .ok (.if_icmp .ne 6, 3) := by decide +kernel
theorem dX6_clearest_70 : decode cX6_clearest 70 = .ok (.ldc 182, 2) := by decide +kernel
theorem dX6_clearest_72 : decode cX6_clearest 72 = .ok (.ireturn, 1) := by decide +kernel
theorem dX6_clearest_73 : decode cX6_clearest 73 = .ok (.iload_n 1, 1) := by decide +kernel
theorem dX6_clearest_74 : decode cX6_clearest 74 = .ok (.ifCond .ne 7, 3) := by decide +kernel
theorem dX6_clearest_77 : decode cX6_clearest 77 = .ok (.iload_n 2, 1) := by decide +kernel
theorem dX6_clearest_78 : decode cX6_clearest 78 = .ok (.goto 4, 3) := by decide +kernel
theorem dX6_clearest_81 : decode cX6_clearest 81 = .ok (.iload_n 3, 1) := by decide +kernel
theorem dX6_clearest_82 : decode cX6_clearest 82 = .ok (.ireturn, 1) := by decide +kernel
set_option maxRecDepth 20000 in
theorem ggX6_count_X4_size : GoodIn wsX6_count wsX4_size := goodIn_r _ [10, 11, 64, 65, 66, 67] (by decide +kernel) (by decide +kernel)
set_option maxRecDepth 20000 in
theorem gX6_count_X4_size : GoodIn wsX6_count (wsV RX6 74 RX4 yX4_size wsX4_size) := goodIn_app (goodIn_of _ (by decide +kernel)) ggX6_count_X4_size
set_option maxRecDepth 20000 in
theorem ggX6_count_X5_anchorCount : GoodIn wsX6_count wsX5_anchorCount := goodIn_r _ [16, 17, 59, 60, 61, 62, 63] (by decide +kernel) (by decide +kernel)
set_option maxRecDepth 20000 in
theorem gX6_count_X5_anchorCount : GoodIn wsX6_count (wsV RX6 103 RX5 yX5_anchorCount wsX5_anchorCount) := goodIn_app (goodIn_of _ (by decide +kernel)) ggX6_count_X5_anchorCount
set_option maxRecDepth 20000 in
theorem ggX6_count_X4_unlikeWords : GoodIn wsX6_count wsX4_unlikeWords := goodIn_r _ [21, 11, 22, 23, 24, 9, 25, 26, 27, 28, 29, 30, 64, 65, 66, 67] (by decide +kernel) (by decide +kernel)
set_option maxRecDepth 20000 in
theorem gX6_count_X4_unlikeWords : GoodIn wsX6_count (wsV RX6 199 RX4 yX4_unlikeWords wsX4_unlikeWords) := goodIn_app (goodIn_of _ (by decide +kernel)) ggX6_count_X4_unlikeWords
set_option maxRecDepth 20000 in
theorem ggX6_count_X5_edits : GoodIn wsX6_count wsX5_edits := goodIn_r _ [34, 35, 59, 60, 61, 62, 63] (by decide +kernel) (by decide +kernel)
set_option maxRecDepth 20000 in
theorem gX6_count_X5_edits : GoodIn wsX6_count (wsV RX6 202 RX5 yX5_edits wsX5_edits) := goodIn_app (goodIn_of _ (by decide +kernel)) ggX6_count_X5_edits
set_option maxRecDepth 20000 in
theorem ggX6_count_X3_size : GoodIn wsX6_count wsX3_size := goodIn_r _ [40, 41, 68, 69, 70] (by decide +kernel) (by decide +kernel)
set_option maxRecDepth 20000 in
theorem gX6_count_X3_size : GoodIn wsX6_count (wsV RX6 205 RX3 yX3_size wsX3_size) := goodIn_app (goodIn_of _ (by decide +kernel)) ggX6_count_X3_size
set_option maxRecDepth 20000 in
theorem ggX6_count_X2_length : GoodIn wsX6_count wsX2_length := goodIn_r _ [46, 47, 71, 72, 73, 74, 75, 76] (by decide +kernel) (by decide +kernel)
set_option maxRecDepth 20000 in
theorem gX6_count_X2_length : GoodIn wsX6_count (wsV RX6 206 RX2 yX2_length wsX2_length) := goodIn_app (goodIn_of _ (by decide +kernel)) ggX6_count_X2_length
set_option maxRecDepth 20000 in
theorem ggX6_count_X5_setting : GoodIn wsX6_count wsX5_setting := goodIn_r _ [51, 52, 59, 60, 61, 62, 63] (by decide +kernel) (by decide +kernel)
set_option maxRecDepth 20000 in
theorem gX6_count_X5_setting : GoodIn wsX6_count (wsV RX6 142 RX5 yX5_setting wsX5_setting) := goodIn_app (goodIn_of _ (by decide +kernel)) ggX6_count_X5_setting
theorem dX6_count_0 : decode cX6_count 0 = .ok (.iload_n 1, 1) := by decide +kernel
theorem dX6_count_1 : decode cX6_count 1 = .ok (.tableswitch 181 0 24 #[115, 126, 134, 145, 153, 161, 181, 181, 181, 181, 181, 181, 181, 181, 181, 181, 181, 181, 181, 181, 169, 169, 169, 169, 169], 115) := by decide +kernel
theorem dX6_count_116 : decode cX6_count 116 = .ok (.aload_n 0, 1) := by decide +kernel
theorem dX6_count_117 : decode cX6_count 117 = .ok (.getfield 10, 3) := by decide +kernel
theorem dX6_count_120 : decode cX6_count 120 = .ok (.getfield 47, 3) := by decide +kernel
theorem dX6_count_123 : decode cX6_count 123 = .ok (.invokevirtual 74, 3) := by decide +kernel
theorem dX6_count_126 : decode cX6_count 126 = .ok (.ireturn, 1) := by decide +kernel
theorem dX6_count_127 : decode cX6_count 127 = .ok (.aload_n 0, 1) := by decide +kernel
theorem dX6_count_128 : decode cX6_count 128 = .ok (.getfield 10, 3) := by decide +kernel
theorem dX6_count_131 : decode cX6_count 131 = .ok (.invokevirtual 103, 3) := by decide +kernel
theorem dX6_count_134 : decode cX6_count 134 = .ok (.ireturn, 1) := by decide +kernel
theorem dX6_count_135 : decode cX6_count 135 = .ok (.aload_n 0, 1) := by decide +kernel
theorem dX6_count_136 : decode cX6_count 136 = .ok (.getfield 10, 3) := by decide +kernel
theorem dX6_count_139 : decode cX6_count 139 = .ok (.getfield 47, 3) := by decide +kernel
theorem dX6_count_142 : decode cX6_count 142 = .ok (.invokevirtual 199, 3) := by decide +kernel
theorem dX6_count_145 : decode cX6_count 145 = .ok (.ireturn, 1) := by decide +kernel
theorem dX6_count_146 : decode cX6_count 146 = .ok (.aload_n 0, 1) := by decide +kernel
theorem dX6_count_147 : decode cX6_count 147 = .ok (.getfield 10, 3) := by decide +kernel
theorem dX6_count_150 : decode cX6_count 150 = .ok (.invokevirtual 202, 3) := by decide +kernel
theorem dX6_count_153 : decode cX6_count 153 = .ok (.ireturn, 1) := by decide +kernel
theorem dX6_count_154 : decode cX6_count 154 = .ok (.aload_n 0, 1) := by decide +kernel
theorem dX6_count_155 : decode cX6_count 155 = .ok (.getfield 22, 3) := by decide +kernel
theorem dX6_count_158 : decode cX6_count 158 = .ok (.invokevirtual 205, 3) := by decide +kernel
theorem dX6_count_161 : decode cX6_count 161 = .ok (.ireturn, 1) := by decide +kernel
theorem dX6_count_162 : decode cX6_count 162 = .ok (.aload_n 0, 1) := by decide +kernel
theorem dX6_count_163 : decode cX6_count 163 = .ok (.getfield 29, 3) := by decide +kernel
theorem dX6_count_166 : decode cX6_count 166 = .ok (.invokevirtual 206, 3) := by decide +kernel
theorem dX6_count_169 : decode cX6_count 169 = .ok (.ireturn, 1) := by decide +kernel
theorem dX6_count_170 : decode cX6_count 170 = .ok (.aload_n 0, 1) := by decide +kernel
theorem dX6_count_171 : decode cX6_count 171 = .ok (.getfield 10, 3) := by decide +kernel
theorem dX6_count_174 : decode cX6_count 174 = .ok (.iload_n 1, 1) := by decide +kernel
theorem dX6_count_175 : decode cX6_count 175 = .ok (.bipush 20, 2) := by decide +kernel
theorem dX6_count_177 : decode cX6_count 177 = .ok (.isub, 1) := by decide +kernel
theorem dX6_count_178 : decode cX6_count 178 = .ok (.invokevirtual 142, 3) := by decide +kernel
theorem dX6_count_181 : decode cX6_count 181 = .ok (.ireturn, 1) := by decide +kernel
theorem dX6_count_182 : decode cX6_count 182 = .ok (.ldc 60, 2) := by decide +kernel
theorem dX6_count_184 : decode cX6_count 184 = .ok (.ireturn, 1) := by decide +kernel
set_option maxRecDepth 20000 in
theorem ggX6_undo_X3_latest : GoodIn wsX6_undo wsX3_latest := goodIn_r _ [8, 9, 10, 11, 12, 7, 13, 14, 15, 71, 72, 73] (by decide +kernel) (by decide +kernel)
set_option maxRecDepth 20000 in
theorem gX6_undo_X3_latest : GoodIn wsX6_undo (wsV RX6 209 RX3 yX3_latest wsX3_latest) := goodIn_app (goodIn_of _ (by decide +kernel)) ggX6_undo_X3_latest
set_option maxRecDepth 20000 in
theorem ggX6_undo_X5_copyFrom : GoodIn wsX6_undo wsX5_copyFrom := goodIn_r _ [20, 21, 22, 23, 24, 25, 26, 27, 28, 29, 30, 31, 32, 33, 34, 35, 36, 37, 38, 19, 39, 40, 41, 42, 43, 44, 45, 46, 47, 48, 49, 50, 51, 52, 53, 54, 55, 56, 74, 75, 76, 77, 78, 79, 80, 81, 82, 83, 84, 85] (by decide +kernel) (by decide +kernel)
set_option maxRecDepth 20000 in
theorem gX6_undo_X5_copyFrom : GoodIn wsX6_undo (wsV RX6 213 RX5 yX5_copyFrom wsX5_copyFrom) := goodIn_app (goodIn_of _ (by decide +kernel)) ggX6_undo_X5_copyFrom
set_option maxRecDepth 20000 in
theorem ggX6_undo_X3_forgetLatest : GoodIn wsX6_undo wsX3_forgetLatest := goodIn_r _ [60, 9, 71, 72, 73] (by decide +kernel) (by decide +kernel)
set_option maxRecDepth 20000 in
theorem gX6_undo_X3_forgetLatest : GoodIn wsX6_undo (wsV RX6 216 RX3 yX3_forgetLatest wsX3_forgetLatest) := goodIn_app (goodIn_of _ (by decide +kernel)) ggX6_undo_X3_forgetLatest
set_option maxRecDepth 20000 in
theorem ggX6_undo_X3_size : GoodIn wsX6_undo wsX3_size := goodIn_r _ [64, 9, 71, 72, 73] (by decide +kernel) (by decide +kernel)
set_option maxRecDepth 20000 in
theorem gX6_undo_X3_size : GoodIn wsX6_undo (wsV RX6 205 RX3 yX3_size wsX3_size) := goodIn_app (goodIn_of _ (by decide +kernel)) ggX6_undo_X3_size
theorem dX6_undo_0 : decode cX6_undo 0 = .ok (.aload_n 0, 1) := by decide +kernel
theorem dX6_undo_1 : decode cX6_undo 1 = .ok (.getfield 22, 3) := by decide +kernel
theorem dX6_undo_4 : decode cX6_undo 4 = .ok (.invokevirtual 209, 3) := by decide +kernel
theorem dX6_undo_7 : decode cX6_undo 7 = .ok (.astore_n 1, 1) := by decide +kernel
theorem dX6_undo_8 : decode cX6_undo 8 = .ok (.aload_n 1, 1) := by decide +kernel
theorem dX6_undo_9 : decode cX6_undo 9 = .ok (.ifnonnull 6, 3) := by decide +kernel
theorem dX6_undo_12 : decode cX6_undo 12 = .ok (.ldc 124, 2) := by decide +kernel
theorem dX6_undo_14 : decode cX6_undo 14 = .ok (.ireturn, 1) := by decide +kernel
theorem dX6_undo_15 : decode cX6_undo 15 = .ok (.aload_n 0, 1) := by decide +kernel
theorem dX6_undo_16 : decode cX6_undo 16 = .ok (.getfield 10, 3) := by decide +kernel
theorem dX6_undo_19 : decode cX6_undo 19 = .ok (.aload_n 1, 1) := by decide +kernel
theorem dX6_undo_20 : decode cX6_undo 20 = .ok (.invokevirtual 213, 3) := by decide +kernel
theorem dX6_undo_23 : decode cX6_undo 23 = .ok (.aload_n 0, 1) := by decide +kernel
theorem dX6_undo_24 : decode cX6_undo 24 = .ok (.getfield 22, 3) := by decide +kernel
theorem dX6_undo_27 : decode cX6_undo 27 = .ok (.invokevirtual 216, 3) := by decide +kernel
theorem dX6_undo_30 : decode cX6_undo 30 = .ok (.aload_n 0, 1) := by decide +kernel
theorem dX6_undo_31 : decode cX6_undo 31 = .ok (.getfield 22, 3) := by decide +kernel
theorem dX6_undo_34 : decode cX6_undo 34 = .ok (.invokevirtual 205, 3) := by decide +kernel
theorem dX6_undo_37 : decode cX6_undo 37 = .ok (.ireturn, 1) := by decide +kernel
set_option maxRecDepth 20000 in
theorem ggX6_type_X2_isFull : GoodIn wsX6_type wsX2_isFull := goodIn_r _ [8, 9, 10, 25, 26, 27, 28, 29, 30] (by decide +kernel) (by decide +kernel)
set_option maxRecDepth 20000 in
theorem gX6_type_X2_isFull : GoodIn wsX6_type (wsV RX6 219 RX2 yX2_isFull wsX2_isFull) := goodIn_app (goodIn_of _ (by decide +kernel)) ggX6_type_X2_isFull
set_option maxRecDepth 20000 in
theorem ggX6_type_X2_append : GoodIn wsX6_type wsX2_append := goodIn_r _ [14, 9, 10, 25, 26, 27, 28, 29, 30] (by decide +kernel) (by decide +kernel)
set_option maxRecDepth 20000 in
theorem gX6_type_X2_append : GoodIn wsX6_type (wsV RX6 220 RX2 yX2_append wsX2_append) := goodIn_app (goodIn_of _ (by decide +kernel)) ggX6_type_X2_append
set_option maxRecDepth 20000 in
theorem ggX6_type_X2_length : GoodIn wsX6_type wsX2_length := goodIn_r _ [18, 9, 25, 26, 27, 28, 29, 30] (by decide +kernel) (by decide +kernel)
set_option maxRecDepth 20000 in
theorem gX6_type_X2_length : GoodIn wsX6_type (wsV RX6 206 RX2 yX2_length wsX2_length) := goodIn_app (goodIn_of _ (by decide +kernel)) ggX6_type_X2_length
theorem dX6_type_0 : decode cX6_type 0 = .ok (.iload_n 1, 1) := by decide +kernel
theorem dX6_type_1 : decode cX6_type 1 = .ok (.bipush 32, 2) := by decide +kernel
theorem dX6_type_3 : decode cX6_type 3 = .ok (.if_icmp .lt 9, 3) := by decide +kernel
theorem dX6_type_6 : decode cX6_type 6 = .ok (.iload_n 1, 1) := by decide +kernel
theorem dX6_type_7 : decode cX6_type 7 = .ok (.bipush 126, 2) := by decide +kernel
theorem dX6_type_9 : decode cX6_type 9 = .ok (.if_icmp .le 6, 3) := by decide +kernel
theorem dX6_type_12 : decode cX6_type 12 = .ok (.ldc 60, 2) := by decide +kernel
theorem dX6_type_14 : decode cX6_type 14 = .ok (.ireturn, 1) := by decide +kernel
theorem dX6_type_15 : decode cX6_type 15 = .ok (.aload_n 0, 1) := by decide +kernel
theorem dX6_type_16 : decode cX6_type 16 = .ok (.getfield 29, 3) := by decide +kernel
theorem dX6_type_19 : decode cX6_type 19 = .ok (.invokevirtual 219, 3) := by decide +kernel
theorem dX6_type_22 : decode cX6_type 22 = .ok (.ifCond .eq 6, 3) := by decide +kernel
theorem dX6_type_25 : decode cX6_type 25 = .ok (.ldc 65, 2) := by decide +kernel
theorem dX6_type_27 : decode cX6_type 27 = .ok (.ireturn, 1) := by decide +kernel
theorem dX6_type_28 : decode cX6_type 28 = .ok (.aload_n 0, 1) := by decide +kernel
theorem dX6_type_29 : decode cX6_type 29 = .ok (.getfield 29, 3) := by decide +kernel
theorem dX6_type_32 : decode cX6_type 32 = .ok (.iload_n 1, 1) := by decide +kernel
theorem dX6_type_33 : decode cX6_type 33 = .ok (.i2c, 1) := by decide +kernel
theorem dX6_type_34 : decode cX6_type 34 = .ok (.invokevirtual 220, 3) := by decide +kernel
theorem dX6_type_37 : decode cX6_type 37 = .ok (.aload_n 0, 1) := by decide +kernel
theorem dX6_type_38 : decode cX6_type 38 = .ok (.getfield 29, 3) := by decide +kernel
theorem dX6_type_41 : decode cX6_type 41 = .ok (.invokevirtual 206, 3) := by decide +kernel
theorem dX6_type_44 : decode cX6_type 44 = .ok (.ireturn, 1) := by decide +kernel
set_option maxRecDepth 20000 in
theorem ggX6_clearText_X2_length : GoodIn wsX6_clearText wsX2_length := goodIn_r _ [6, 7, 18, 19, 20, 21, 22, 23] (by decide +kernel) (by decide +kernel)
set_option maxRecDepth 20000 in
theorem gX6_clearText_X2_length : GoodIn wsX6_clearText (wsV RX6 206 RX2 yX2_length wsX2_length) := goodIn_app (goodIn_of _ (by decide +kernel)) ggX6_clearText_X2_length
set_option maxRecDepth 20000 in
theorem ggX6_clearText_X2_empty : GoodIn wsX6_clearText wsX2_empty := goodIn_r _ [11, 7, 18, 19, 20, 21, 22, 23] (by decide +kernel) (by decide +kernel)
set_option maxRecDepth 20000 in
theorem gX6_clearText_X2_empty : GoodIn wsX6_clearText (wsV RX6 224 RX2 yX2_empty wsX2_empty) := goodIn_app (goodIn_of _ (by decide +kernel)) ggX6_clearText_X2_empty
theorem dX6_clearText_0 : decode cX6_clearText 0 = .ok (.aload_n 0, 1) := by decide +kernel
theorem dX6_clearText_1 : decode cX6_clearText 1 = .ok (.getfield 29, 3) := by decide +kernel
theorem dX6_clearText_4 : decode cX6_clearText 4 = .ok (.invokevirtual 206, 3) := by decide +kernel
theorem dX6_clearText_7 : decode cX6_clearText 7 = .ok (.istore_n 1, 1) := by decide +kernel
theorem dX6_clearText_8 : decode cX6_clearText 8 = .ok (.aload_n 0, 1) := by decide +kernel
theorem dX6_clearText_9 : decode cX6_clearText 9 = .ok (.getfield 29, 3) := by decide +kernel
theorem dX6_clearText_12 : decode cX6_clearText 12 = .ok (.invokevirtual 224, 3) := by decide +kernel
theorem dX6_clearText_15 : decode cX6_clearText 15 = .ok (.iload_n 1, 1) := by decide +kernel
theorem dX6_clearText_16 : decode cX6_clearText 16 = .ok (.ireturn, 1) := by decide +kernel
set_option maxRecDepth 20000 in
theorem ggX6_fault_X6_rehearse : GoodIn wsX6_fault wsX6_rehearse := goodIn_r _ [8, 9, 10, 3, 11, 12, 13, 14, 15, 16, 17, 18, 19, 20, 21, 22, 23, 24, 25, 26, 27, 28, 29, 30, 31, 32, 33, 34, 35, 36, 37, 38, 39, 40, 41, 42, 43, 44, 45, 46, 47, 48, 49, 50, 51, 52, 53, 54, 55, 56, 57, 58, 59, 60, 61, 62, 63, 64, 65, 66, 67, 68, 69, 70, 71, 72, 73, 74, 75, 76, 77, 78, 79, 80, 81, 82, 83, 84, 85, 86, 87, 88, 89, 90, 91, 92, 93, 94, 95, 96, 97, 98, 99, 100, 101, 102, 103, 104, 105, 106, 107, 108, 109, 110, 111, 112, 113, 114, 115, 116, 117, 118, 119, 120, 121, 122, 123, 124, 125, 126, 127, 128, 129, 130, 131, 132, 133, 134, 135, 136, 137, 138, 139, 140, 141, 142, 143, 144, 145, 146, 147, 148, 149, 150, 151, 152, 153, 154, 155, 156, 157, 158, 159, 160, 161, 162, 163, 164, 165, 166, 167, 168, 169, 170, 171, 172, 173, 174, 175, 176, 177, 178, 183, 184, 185, 186, 187, 188, 189, 190, 191, 192, 193, 194, 195, 196, 197, 198, 199, 200, 201, 202, 203, 204, 205, 206] (by decide +kernel) (by decide +kernel)
set_option maxRecDepth 20000 in
theorem gX6_fault_X6_rehearse : GoodIn wsX6_fault (wsV RX6 227 RX6 yX6_rehearse wsX6_rehearse) := goodIn_app (goodIn_of _ (by decide +kernel)) ggX6_fault_X6_rehearse
set_option maxRecDepth 20000 in
theorem ggX6_fault_X2_editStart : GoodIn wsX6_fault wsX2_editStart := goodIn_r _ [182, 67, 201, 202, 203, 204, 205, 206] (by decide +kernel) (by decide +kernel)
set_option maxRecDepth 20000 in
theorem gX6_fault_X2_editStart : GoodIn wsX6_fault (wsV RX6 230 RX2 yX2_editStart wsX2_editStart) := goodIn_app (goodIn_of _ (by decide +kernel)) ggX6_fault_X2_editStart
theorem dX6_fault_0 : decode cX6_fault 0 = .ok (.iload_n 1, 1) := by decide +kernel
theorem dX6_fault_1 : decode cX6_fault 1 = .ok (.ifCond .lt 8, 3) := by decide +kernel
theorem dX6_fault_4 : decode cX6_fault 4 = .ok (.iload_n 1, 1) := by decide +kernel
theorem dX6_fault_5 : decode cX6_fault 5 = .ok (.iconst 1, 1) := by decide +kernel
theorem dX6_fault_6 : decode cX6_fault 6 = .ok (.if_icmp .le 6, 3) := by decide +kernel
theorem dX6_fault_9 : decode cX6_fault 9 = .ok (.ldc 60, 2) := by decide +kernel
theorem dX6_fault_11 : decode cX6_fault 11 = .ok (.ireturn, 1) := by decide +kernel
theorem dX6_fault_12 : decode cX6_fault 12 = .ok (.aload_n 0, 1) := by decide +kernel
theorem dX6_fault_13 : decode cX6_fault 13 = .ok (.invokevirtual 227, 3) := by decide +kernel
theorem dX6_fault_16 : decode cX6_fault 16 = .ok (.istore_n 2, 1) := by decide +kernel
theorem dX6_fault_17 : decode cX6_fault 17 = .ok (.iload_n 2, 1) := by decide +kernel
theorem dX6_fault_18 : decode cX6_fault 18 = .ok (.ifCond .ne 6, 3) := by decide +kernel
theorem dX6_fault_21 : decode cX6_fault 21 = .ok (.ldc 182, 2) := by decide +kernel
theorem dX6_fault_23 : decode cX6_fault 23 = .ok (.ireturn, 1) := by decide +kernel
theorem dX6_fault_24 : decode cX6_fault 24 = .ok (.iload_n 1, 1) := by decide +kernel
theorem dX6_fault_25 : decode cX6_fault 25 = .ok (.ifCond .ne 13, 3) := by decide +kernel
theorem dX6_fault_28 : decode cX6_fault 28 = .ok (.aload_n 0, 1) := by decide +kernel
theorem dX6_fault_29 : decode cX6_fault 29 = .ok (.getfield 29, 3) := by decide +kernel
theorem dX6_fault_32 : decode cX6_fault 32 = .ok (.invokevirtual 230, 3) := by decide +kernel
theorem dX6_fault_35 : decode cX6_fault 35 = .ok (.goto 4, 3) := by decide +kernel
theorem dX6_fault_38 : decode cX6_fault 38 = .ok (.iload_n 2, 1) := by decide +kernel
theorem dX6_fault_39 : decode cX6_fault 39 = .ok (.ireturn, 1) := by decide +kernel
set_option maxRecDepth 20000 in
theorem ggX6_play_X6_rehearse : GoodIn wsX6_play wsX6_rehearse := goodIn_r _ [10, 4, 3, 11, 12, 13, 14, 15, 16, 17, 18, 19, 20, 21, 22, 23, 24, 25, 26, 27, 28, 29, 30, 31, 32, 33, 34, 35, 36, 37, 38, 39, 40, 41, 42, 43, 44, 45, 46, 47, 48, 49, 50, 51, 52, 53, 54, 55, 56, 57, 58, 59, 60, 61, 62, 63, 64, 65, 66, 67, 68, 69, 70, 71, 72, 73, 74, 75, 76, 77, 78, 79, 80, 81, 82, 83, 84, 85, 86, 87, 88, 89, 90, 91, 92, 93, 94, 95, 96, 97, 98, 99, 100, 101, 102, 103, 104, 105, 106, 107, 108, 109, 110, 111, 112, 113, 114, 115, 116, 117, 118, 119, 120, 121, 122, 123, 124, 125, 126, 127, 128, 129, 130, 131, 132, 133, 134, 135, 136, 137, 138, 139, 140, 141, 142, 143, 144, 145, 146, 147, 148, 149, 150, 151, 152, 153, 154, 155, 156, 157, 158, 159, 160, 161, 162, 163, 164, 165, 166, 167, 168, 169, 170, 171, 172, 173, 174, 175, 176, 177, 178, 179, 197, 198, 199, 200, 201, 202, 203, 204, 205, 206, 207, 208, 209, 210, 211, 212, 213, 214, 215, 216, 217, 218, 219, 220] (by decide +kernel) (by decide +kernel)
set_option maxRecDepth 20000 in
theorem gX6_play_X6_rehearse : GoodIn wsX6_play (wsV RX6 227 RX6 yX6_rehearse wsX6_rehearse) := goodIn_app (goodIn_of _ (by decide +kernel)) ggX6_play_X6_rehearse
set_option maxRecDepth 20000 in
theorem ggX6_play_X3_record : GoodIn wsX6_play wsX3_record := goodIn_r _ [184, 185, 186, 187, 188, 189, 183, 190, 191, 192, 13, 14, 15, 16, 17, 18, 19, 20, 21, 22, 23, 24, 25, 26, 27, 28, 29, 30, 31, 32, 33, 34, 35, 36, 37, 38, 39, 40, 41, 42, 43, 44, 45, 46, 47, 48, 49, 50, 51, 52, 221, 222, 223, 203, 204, 205, 206, 207, 208, 209, 210, 211, 212, 213, 214] (by decide +kernel) (by decide +kernel)
set_option maxRecDepth 20000 in
theorem gX6_play_X3_record : GoodIn wsX6_play (wsV RX6 66 RX3 yX3_record wsX3_record) := goodIn_app (goodIn_of _ (by decide +kernel)) ggX6_play_X3_record
set_option maxRecDepth 20000 in
theorem ggX6_play_X5_copyFrom : GoodIn wsX6_play wsX5_copyFrom := goodIn_r _ [16, 17, 18, 19, 20, 21, 22, 23, 24, 25, 26, 27, 28, 29, 30, 31, 32, 33, 34, 15, 35, 36, 37, 38, 39, 40, 41, 42, 43, 44, 45, 46, 47, 48, 49, 50, 51, 52, 203, 204, 205, 206, 207, 208, 209, 210, 211, 212, 213, 214] (by decide +kernel) (by decide +kernel)
set_option maxRecDepth 20000 in
theorem gX6_play_X5_copyFrom : GoodIn wsX6_play (wsV RX6 213 RX5 yX5_copyFrom wsX5_copyFrom) := goodIn_app (goodIn_of _ (by decide +kernel)) ggX6_play_X5_copyFrom
set_option maxRecDepth 20000 in
theorem ggX6_play_X4_size : GoodIn wsX6_play wsX4_size := goodIn_r _ [196, 27, 208, 209, 210, 211] (by decide +kernel) (by decide +kernel)
set_option maxRecDepth 20000 in
theorem gX6_play_X4_size : GoodIn wsX6_play (wsV RX6 74 RX4 yX4_size wsX4_size) := goodIn_app (goodIn_of _ (by decide +kernel)) ggX6_play_X4_size
theorem dX6_play_0 : decode cX6_play 0 = .ok (.aload_n 0, 1) := by decide +kernel
theorem dX6_play_1 : decode cX6_play 1 = .ok (.invokevirtual 227, 3) := by decide +kernel
theorem dX6_play_4 : decode cX6_play 4 = .ok (.ifCond .eq 6, 3) := by decide +kernel
theorem dX6_play_7 : decode cX6_play 7 = .ok (.ldc 124, 2) := by decide +kernel
theorem dX6_play_9 : decode cX6_play 9 = .ok (.ireturn, 1) := by decide +kernel
theorem dX6_play_10 : decode cX6_play 10 = .ok (.aload_n 0, 1) := by decide +kernel
theorem dX6_play_11 : decode cX6_play 11 = .ok (.getfield 22, 3) := by decide +kernel
theorem dX6_play_14 : decode cX6_play 14 = .ok (.aload_n 0, 1) := by decide +kernel
theorem dX6_play_15 : decode cX6_play 15 = .ok (.getfield 10, 3) := by decide +kernel
theorem dX6_play_18 : decode cX6_play 18 = .ok (.invokevirtual 66, 3) := by decide +kernel
theorem dX6_play_21 : decode cX6_play 21 = .ok (.aload_n 0, 1) := by decide +kernel
theorem dX6_play_22 : decode cX6_play 22 = .ok (.getfield 10, 3) := by decide +kernel
theorem dX6_play_25 : decode cX6_play 25 = .ok (.aload_n 0, 1) := by decide +kernel
theorem dX6_play_26 : decode cX6_play 26 = .ok (.getfield 16, 3) := by decide +kernel
theorem dX6_play_29 : decode cX6_play 29 = .ok (.invokevirtual 213, 3) := by decide +kernel
theorem dX6_play_32 : decode cX6_play 32 = .ok (.aload_n 0, 1) := by decide +kernel
theorem dX6_play_33 : decode cX6_play 33 = .ok (.getfield 10, 3) := by decide +kernel
theorem dX6_play_36 : decode cX6_play 36 = .ok (.getfield 47, 3) := by decide +kernel
theorem dX6_play_39 : decode cX6_play 39 = .ok (.invokevirtual 74, 3) := by decide +kernel
theorem dX6_play_42 : decode cX6_play 42 = .ok (.ireturn, 1) := by decide +kernel
theorem dX6_isWord_0 : decode cX6_isWord 0 = .ok (.iload_n 0, 1) := by decide +kernel
theorem dX6_isWord_1 : decode cX6_isWord 1 = .ok (.ifCond .lt 13, 3) := by decide +kernel
theorem dX6_isWord_4 : decode cX6_isWord 4 = .ok (.iload_n 0, 1) := by decide +kernel
theorem dX6_isWord_5 : decode cX6_isWord 5 = .ok (.bipush 99, 2) := by decide +kernel
theorem dX6_isWord_7 : decode cX6_isWord 7 = .ok (.if_icmp .gt 7, 3) := by decide +kernel
theorem dX6_isWord_10 : decode cX6_isWord 10 = .ok (.iconst 1, 1) := by decide +kernel
theorem dX6_isWord_11 : decode cX6_isWord 11 = .ok (.goto 4, 3) := by decide +kernel
theorem dX6_isWord_14 : decode cX6_isWord 14 = .ok (.iconst 0, 1) := by decide +kernel
theorem dX6_isWord_15 : decode cX6_isWord 15 = .ok (.ireturn, 1) := by decide +kernel
theorem dX6_orNotFound_0 : decode cX6_orNotFound 0 = .ok (.iload_n 0, 1) := by decide +kernel
theorem dX6_orNotFound_1 : decode cX6_orNotFound 1 = .ok (.iconst (-1), 1) := by decide +kernel
theorem dX6_orNotFound_2 : decode cX6_orNotFound 2 = .ok (.if_icmp .ne 8, 3) := by decide +kernel
theorem dX6_orNotFound_5 : decode cX6_orNotFound 5 = .ok (.ldc 182, 2) := by decide +kernel
theorem dX6_orNotFound_7 : decode cX6_orNotFound 7 = .ok (.goto 4, 3) := by decide +kernel
theorem dX6_orNotFound_10 : decode cX6_orNotFound 10 = .ok (.iload_n 0, 1) := by decide +kernel
theorem dX6_orNotFound_11 : decode cX6_orNotFound 11 = .ok (.ireturn, 1) := by decide +kernel
set_option maxRecDepth 20000 in
theorem ggX6_scoreOrNotFound_X5_scoreOf : GoodIn wsX6_scoreOrNotFound wsX5_scoreOf := goodIn_r _ [7, 8, 9, 10, 11, 12, 13, 14, 15, 16, 17, 18, 19, 20, 21, 22, 23, 24, 25, 26, 27, 28, 6, 29, 30, 37, 38, 39, 40, 41, 42, 43, 44, 45, 46, 47, 48] (by decide +kernel) (by decide +kernel)
set_option maxRecDepth 20000 in
theorem gX6_scoreOrNotFound_X5_scoreOf : GoodIn wsX6_scoreOrNotFound (wsV RX6 170 RX5 yX5_scoreOf wsX5_scoreOf) := goodIn_app (goodIn_of _ (by decide +kernel)) ggX6_scoreOrNotFound_X5_scoreOf
theorem dX6_scoreOrNotFound_0 : decode cX6_scoreOrNotFound 0 = .ok (.iload_n 2, 1) := by decide +kernel
theorem dX6_scoreOrNotFound_1 : decode cX6_scoreOrNotFound 1 = .ok (.iconst (-1), 1) := by decide +kernel
theorem dX6_scoreOrNotFound_2 : decode cX6_scoreOrNotFound 2 = .ok (.if_icmp .ne 8, 3) := by decide +kernel
theorem dX6_scoreOrNotFound_5 : decode cX6_scoreOrNotFound 5 = .ok (.ldc 182, 2) := by decide +kernel
theorem dX6_scoreOrNotFound_7 : decode cX6_scoreOrNotFound 7 = .ok (.goto 12, 3) := by decide +kernel
theorem dX6_scoreOrNotFound_10 : decode cX6_scoreOrNotFound 10 = .ok (.aload_n 0, 1) := by decide +kernel
theorem dX6_scoreOrNotFound_11 : decode cX6_scoreOrNotFound 11 = .ok (.getfield 10, 3) := by decide +kernel
theorem dX6_scoreOrNotFound_14 : decode cX6_scoreOrNotFound 14 = .ok (.aload_n 1, 1) := by decide +kernel
theorem dX6_scoreOrNotFound_15 : decode cX6_scoreOrNotFound 15 = .ok (.iload_n 2, 1) := by decide +kernel
theorem dX6_scoreOrNotFound_16 : decode cX6_scoreOrNotFound 16 = .ok (.invokevirtual 170, 3) := by decide +kernel
theorem dX6_scoreOrNotFound_19 : decode cX6_scoreOrNotFound 19 = .ok (.ireturn, 1) := by decide +kernel
set_option maxRecDepth 20000 in
theorem ggX6_tryTaking_X5_copyFrom : GoodIn wsX6_tryTaking wsX5_copyFrom := goodIn_r _ [7, 8, 9, 10, 11, 12, 13, 14, 15, 16, 17, 18, 19, 20, 21, 22, 23, 24, 25, 6, 26, 27, 28, 29, 30, 31, 32, 33, 34, 35, 36, 37, 38, 39, 40, 41, 42, 43, 81, 82, 83, 84, 85, 86, 87, 88, 89, 90, 91, 92] (by decide +kernel) (by decide +kernel)
set_option maxRecDepth 20000 in
theorem gX6_tryTaking_X5_copyFrom : GoodIn wsX6_tryTaking (wsV RX6 213 RX5 yX5_copyFrom wsX5_copyFrom) := goodIn_app (goodIn_of _ (by decide +kernel)) ggX6_tryTaking_X5_copyFrom
set_option maxRecDepth 20000 in
theorem ggX6_tryTaking_X5_removeWord : GoodIn wsX6_tryTaking wsX5_removeWord := goodIn_r _ [47, 8, 48, 49, 50, 15, 51, 52, 18, 53, 54, 55, 56, 17, 57, 58, 59, 60, 61, 62, 63, 64, 65, 66, 67, 68, 6, 69, 11, 9, 23, 24, 25, 26, 27, 70, 71, 72, 31, 73, 34, 74, 81, 82, 83, 84, 85, 86, 87, 88, 89, 90, 91, 92] (by decide +kernel) (by decide +kernel)
set_option maxRecDepth 20000 in
theorem gX6_tryTaking_X5_removeWord : GoodIn wsX6_tryTaking (wsV RX6 85 RX5 yX5_removeWord wsX5_removeWord) := goodIn_app (goodIn_of _ (by decide +kernel)) ggX6_tryTaking_X5_removeWord
theorem dX6_tryTaking_0 : decode cX6_tryTaking 0 = .ok (.aload_n 0, 1) := by decide +kernel
theorem dX6_tryTaking_1 : decode cX6_tryTaking 1 = .ok (.getfield 16, 3) := by decide +kernel
theorem dX6_tryTaking_4 : decode cX6_tryTaking 4 = .ok (.aload_n 0, 1) := by decide +kernel
theorem dX6_tryTaking_5 : decode cX6_tryTaking 5 = .ok (.getfield 10, 3) := by decide +kernel
theorem dX6_tryTaking_8 : decode cX6_tryTaking 8 = .ok (.invokevirtual 213, 3) := by decide +kernel
theorem dX6_tryTaking_11 : decode cX6_tryTaking 11 = .ok (.aload_n 0, 1) := by decide +kernel
theorem dX6_tryTaking_12 : decode cX6_tryTaking 12 = .ok (.getfield 16, 3) := by decide +kernel
theorem dX6_tryTaking_15 : decode cX6_tryTaking 15 = .ok (.iload_n 1, 1) := by decide +kernel
theorem dX6_tryTaking_16 : decode cX6_tryTaking 16 = .ok (.invokevirtual 85, 3) := by decide +kernel
theorem dX6_tryTaking_19 : decode cX6_tryTaking 19 = .ok (.return_, 1) := by decide +kernel
set_option maxRecDepth 20000 in
theorem ggX6_differenceAt_X0_setAt : GoodIn wsX6_differenceAt wsX0_setAt := goodIn_r _ [8, 9, 10, 11, 7, 12, 13, 14, 15, 16, 17, 18, 19, 20, 21, 22, 23, 24, 25, 26, 71, 72, 73, 74, 75, 76, 77] (by decide +kernel) (by decide +kernel)
set_option maxRecDepth 20000 in
theorem gX6_differenceAt_X0_setAt : GoodIn wsX6_differenceAt (wsV RX6 233 RX0 yX0_setAt wsX0_setAt) := goodIn_app (goodIn_of _ (by decide +kernel)) ggX6_differenceAt_X0_setAt
set_option maxRecDepth 20000 in
theorem ggX6_differenceAt_X5_scoreOf : GoodIn wsX6_differenceAt wsX5_scoreOf := goodIn_r _ [31, 32, 33, 34, 35, 36, 37, 38, 39, 7, 40, 18, 41, 21, 22, 23, 24, 25, 26, 42, 43, 44, 30, 45, 46, 66, 67, 68, 69, 70, 71, 72, 73, 74, 75, 76, 77] (by decide +kernel) (by decide +kernel)
set_option maxRecDepth 20000 in
theorem gX6_differenceAt_X5_scoreOf : GoodIn wsX6_differenceAt (wsV RX6 170 RX5 yX5_scoreOf wsX5_scoreOf) := goodIn_app (goodIn_of _ (by decide +kernel)) ggX6_differenceAt_X5_scoreOf
set_option maxRecDepth 20000 in
theorem ggX6_differenceAt_X5_bestPlaceBut : GoodIn wsX6_differenceAt wsX5_bestPlaceBut := goodIn_r _ [50, 32, 33, 34, 35, 36, 51, 52, 53, 23, 54, 25, 55, 28, 29, 30, 31, 37, 38, 39, 7, 40, 18, 41, 21, 22, 24, 26, 42, 43, 44, 45, 46, 56, 57, 58, 59, 13, 66, 67, 68, 69, 70, 74, 75, 76, 77, 71, 72, 73] (by decide +kernel) (by decide +kernel)
set_option maxRecDepth 20000 in
theorem gX6_differenceAt_X5_bestPlaceBut : GoodIn wsX6_differenceAt (wsV RX6 237 RX5 yX5_bestPlaceBut wsX5_bestPlaceBut) := goodIn_app (goodIn_of _ (by decide +kernel)) ggX6_differenceAt_X5_bestPlaceBut
theorem dX6_differenceAt_0 : decode cX6_differenceAt 0 = .ok (.aload_n 0, 1) := by decide +kernel
theorem dX6_differenceAt_1 : decode cX6_differenceAt 1 = .ok (.getfield 43, 3) := by decide +kernel
theorem dX6_differenceAt_4 : decode cX6_differenceAt 4 = .ok (.aload_n 0, 1) := by decide +kernel
theorem dX6_differenceAt_5 : decode cX6_differenceAt 5 = .ok (.getfield 10, 3) := by decide +kernel
theorem dX6_differenceAt_8 : decode cX6_differenceAt 8 = .ok (.getfield 47, 3) := by decide +kernel
theorem dX6_differenceAt_11 : decode cX6_differenceAt 11 = .ok (.iload_n 1, 1) := by decide +kernel
theorem dX6_differenceAt_12 : decode cX6_differenceAt 12 = .ok (.invokevirtual 233, 3) := by decide +kernel
theorem dX6_differenceAt_15 : decode cX6_differenceAt 15 = .ok (.aload_n 0, 1) := by decide +kernel
theorem dX6_differenceAt_16 : decode cX6_differenceAt 16 = .ok (.getfield 10, 3) := by decide +kernel
theorem dX6_differenceAt_19 : decode cX6_differenceAt 19 = .ok (.aload_n 0, 1) := by decide +kernel
theorem dX6_differenceAt_20 : decode cX6_differenceAt 20 = .ok (.getfield 43, 3) := by decide +kernel
theorem dX6_differenceAt_23 : decode cX6_differenceAt 23 = .ok (.iload_n 1, 1) := by decide +kernel
theorem dX6_differenceAt_24 : decode cX6_differenceAt 24 = .ok (.invokevirtual 170, 3) := by decide +kernel
theorem dX6_differenceAt_27 : decode cX6_differenceAt 27 = .ok (.istore_n 2, 1) := by decide +kernel
theorem dX6_differenceAt_28 : decode cX6_differenceAt 28 = .ok (.aload_n 0, 1) := by decide +kernel
theorem dX6_differenceAt_29 : decode cX6_differenceAt 29 = .ok (.getfield 10, 3) := by decide +kernel
theorem dX6_differenceAt_32 : decode cX6_differenceAt 32 = .ok (.aload_n 0, 1) := by decide +kernel
theorem dX6_differenceAt_33 : decode cX6_differenceAt 33 = .ok (.getfield 43, 3) := by decide +kernel
theorem dX6_differenceAt_36 : decode cX6_differenceAt 36 = .ok (.iload_n 1, 1) := by decide +kernel
theorem dX6_differenceAt_37 : decode cX6_differenceAt 37 = .ok (.invokevirtual 237, 3) := by decide +kernel
theorem dX6_differenceAt_40 : decode cX6_differenceAt 40 = .ok (.istore_n 3, 1) := by decide +kernel
theorem dX6_differenceAt_41 : decode cX6_differenceAt 41 = .ok (.iload_n 3, 1) := by decide +kernel
theorem dX6_differenceAt_42 : decode cX6_differenceAt 42 = .ok (.iconst (-1), 1) := by decide +kernel
theorem dX6_differenceAt_43 : decode cX6_differenceAt 43 = .ok (.if_icmp .ne 7, 3) := by decide +kernel
theorem dX6_differenceAt_46 : decode cX6_differenceAt 46 = .ok (.iload_n 2, 1) := by decide +kernel
theorem dX6_differenceAt_47 : decode cX6_differenceAt 47 = .ok (.goto 17, 3) := by decide +kernel
theorem dX6_differenceAt_50 : decode cX6_differenceAt 50 = .ok (.iload_n 2, 1) := by decide +kernel
theorem dX6_differenceAt_51 : decode cX6_differenceAt 51 = .ok (.aload_n 0, 1) := by decide +kernel
theorem dX6_differenceAt_52 : decode cX6_differenceAt 52 = .ok (.getfield 10, 3) := by decide +kernel
theorem dX6_differenceAt_55 : decode cX6_differenceAt 55 = .ok (.aload_n 0, 1) := by decide +kernel
theorem dX6_differenceAt_56 : decode cX6_differenceAt 56 = .ok (.getfield 43, 3) := by decide +kernel
theorem dX6_differenceAt_59 : decode cX6_differenceAt 59 = .ok (.iload_n 3, 1) := by decide +kernel
theorem dX6_differenceAt_60 : decode cX6_differenceAt 60 = .ok (.invokevirtual 170, 3) := by decide +kernel
theorem dX6_differenceAt_63 : decode cX6_differenceAt 63 = .ok (.isub, 1) := by decide +kernel
theorem dX6_differenceAt_64 : decode cX6_differenceAt 64 = .ok (.ireturn, 1) := by decide +kernel
set_option maxRecDepth 20000 in
theorem ggX6_rehearse_X5_copyFrom : GoodIn wsX6_rehearse wsX5_copyFrom := goodIn_r _ [8, 9, 10, 11, 12, 13, 14, 15, 16, 17, 18, 19, 20, 21, 22, 23, 24, 25, 26, 7, 27, 28, 29, 30, 31, 32, 33, 34, 35, 36, 37, 38, 39, 40, 41, 42, 43, 44, 178, 179, 180, 181, 182, 183, 184, 185, 186, 187, 188, 189] (by decide +kernel) (by decide +kernel)
set_option maxRecDepth 20000 in
theorem gX6_rehearse_X5_copyFrom : GoodIn wsX6_rehearse (wsV RX6 213 RX5 yX5_copyFrom wsX5_copyFrom) := goodIn_app (goodIn_of _ (by decide +kernel)) ggX6_rehearse_X5_copyFrom
set_option maxRecDepth 20000 in
theorem ggX6_rehearse_X2_rewind : GoodIn wsX6_rehearse wsX2_rewind := goodIn_r _ [49, 50, 190, 191, 192, 193, 194, 195] (by decide +kernel) (by decide +kernel)
set_option maxRecDepth 20000 in
theorem gX6_rehearse_X2_rewind : GoodIn wsX6_rehearse (wsV RX6 240 RX2 yX2_rewind wsX2_rewind) := goodIn_app (goodIn_of _ (by decide +kernel)) ggX6_rehearse_X2_rewind
set_option maxRecDepth 20000 in
theorem ggX6_rehearse_X2_hasMore : GoodIn wsX6_rehearse wsX2_hasMore := goodIn_r _ [54, 50, 55, 190, 191, 192, 193, 194, 195] (by decide +kernel) (by decide +kernel)
set_option maxRecDepth 20000 in
theorem gX6_rehearse_X2_hasMore : GoodIn wsX6_rehearse (wsV RX6 243 RX2 yX2_hasMore wsX2_hasMore) := goodIn_app (goodIn_of _ (by decide +kernel)) ggX6_rehearse_X2_hasMore
set_option maxRecDepth 20000 in
theorem ggX6_rehearse_X2_readEdit : GoodIn wsX6_rehearse wsX2_readEdit := goodIn_r _ [59, 50, 60, 61, 62, 63, 64, 48, 65, 55, 66, 67, 68, 69, 70, 71, 72, 73, 74, 75, 76, 77, 78, 79, 80, 81, 190, 191, 192, 193, 194, 195] (by decide +kernel) (by decide +kernel)
set_option maxRecDepth 20000 in
theorem gX6_rehearse_X2_readEdit : GoodIn wsX6_rehearse (wsV RX6 246 RX2 yX2_readEdit wsX2_readEdit) := goodIn_app (goodIn_of _ (by decide +kernel)) ggX6_rehearse_X2_readEdit
set_option maxRecDepth 20000 in
theorem ggX6_rehearse_X5_faultOf : GoodIn wsX6_rehearse wsX5_faultOf := goodIn_r _ [85, 9, 86, 87, 88, 48, 89, 78, 90, 91, 92, 93, 61, 94, 95, 96, 16, 97, 19, 98, 99, 100, 101, 102, 103, 104, 105, 18, 106, 107, 108, 109, 110, 178, 179, 180, 181, 182, 190, 191, 192, 193, 194, 195, 183, 184, 185, 186] (by decide +kernel) (by decide +kernel)
set_option maxRecDepth 20000 in
theorem gX6_rehearse_X5_faultOf : GoodIn wsX6_rehearse (wsV RX6 249 RX5 yX5_faultOf wsX5_faultOf) := goodIn_app (goodIn_of _ (by decide +kernel)) ggX6_rehearse_X5_faultOf
set_option maxRecDepth 20000 in
theorem ggX6_rehearse_X5_perform : GoodIn wsX6_rehearse wsX5_perform := goodIn_r _ [114, 86, 87, 88, 48, 89, 78, 90, 91, 92, 93, 61, 115, 116, 117, 7, 118, 9, 119, 120, 121, 16, 122, 123, 19, 18, 124, 95, 96, 97, 125, 108, 109, 110, 126, 127, 128, 129, 130, 131, 132, 133, 134, 135, 136, 137, 138, 12, 10, 24, 25, 26, 27, 28, 139, 140, 141, 32, 142, 35, 143, 144, 145, 146, 147, 148, 149, 150, 151, 102, 103, 104, 105, 152, 153, 154, 155, 156, 157, 158, 159, 160, 161, 162, 163, 164, 165, 166, 167, 168, 99, 100, 101, 169, 170, 171, 190, 191, 192, 193, 194, 195, 178, 179, 180, 181, 182, 183, 184, 185, 186, 187, 188, 189] (by decide +kernel) (by decide +kernel)
set_option maxRecDepth 20000 in
theorem gX6_rehearse_X5_perform : GoodIn wsX6_rehearse (wsV RX6 253 RX5 yX5_perform wsX5_perform) := goodIn_app (goodIn_of _ (by decide +kernel)) ggX6_rehearse_X5_perform
theorem dX6_rehearse_0 : decode cX6_rehearse 0 = .ok (.aload_n 0, 1) := by decide +kernel
theorem dX6_rehearse_1 : decode cX6_rehearse 1 = .ok (.getfield 16, 3) := by decide +kernel
theorem dX6_rehearse_4 : decode cX6_rehearse 4 = .ok (.aload_n 0, 1) := by decide +kernel
theorem dX6_rehearse_5 : decode cX6_rehearse 5 = .ok (.getfield 10, 3) := by decide +kernel
theorem dX6_rehearse_8 : decode cX6_rehearse 8 = .ok (.invokevirtual 213, 3) := by decide +kernel
theorem dX6_rehearse_11 : decode cX6_rehearse 11 = .ok (.aload_n 0, 1) := by decide +kernel
theorem dX6_rehearse_12 : decode cX6_rehearse 12 = .ok (.getfield 29, 3) := by decide +kernel
theorem dX6_rehearse_15 : decode cX6_rehearse 15 = .ok (.invokevirtual 240, 3) := by decide +kernel
theorem dX6_rehearse_18 : decode cX6_rehearse 18 = .ok (.iconst 0, 1) := by decide +kernel
theorem dX6_rehearse_19 : decode cX6_rehearse 19 = .ok (.istore_n 1, 1) := by decide +kernel
theorem dX6_rehearse_20 : decode cX6_rehearse 20 = .ok (.iconst 0, 1) := by decide +kernel
theorem dX6_rehearse_21 : decode cX6_rehearse 21 = .ok (.istore_n 2, 1) := by decide +kernel
theorem dX6_rehearse_22 : decode cX6_rehearse 22 = .ok (.iload_n 2, 1) := by decide +kernel
theorem dX6_rehearse_23 : decode cX6_rehearse 23 = .ok (.bipush 60, 2) := by decide +kernel
theorem dX6_rehearse_25 : decode cX6_rehearse 25 = .ok (.if_icmp .ge 64, 3) := by decide +kernel
theorem dX6_rehearse_28 : decode cX6_rehearse 28 = .ok (.iload_n 1, 1) := by decide +kernel
theorem dX6_rehearse_29 : decode cX6_rehearse 29 = .ok (.ifCond .ne 60, 3) := by decide +kernel
theorem dX6_rehearse_32 : decode cX6_rehearse 32 = .ok (.aload_n 0, 1) := by decide +kernel
theorem dX6_rehearse_33 : decode cX6_rehearse 33 = .ok (.getfield 29, 3) := by decide +kernel
theorem dX6_rehearse_36 : decode cX6_rehearse 36 = .ok (.invokevirtual 243, 3) := by decide +kernel
theorem dX6_rehearse_39 : decode cX6_rehearse 39 = .ok (.ifCond .eq 50, 3) := by decide +kernel
theorem dX6_rehearse_42 : decode cX6_rehearse 42 = .ok (.aload_n 0, 1) := by decide +kernel
theorem dX6_rehearse_43 : decode cX6_rehearse 43 = .ok (.getfield 29, 3) := by decide +kernel
theorem dX6_rehearse_46 : decode cX6_rehearse 46 = .ok (.invokevirtual 246, 3) := by decide +kernel
theorem dX6_rehearse_49 : decode cX6_rehearse 49 = .ok (.ifCond .eq 17, 3) := by decide +kernel
theorem dX6_rehearse_52 : decode cX6_rehearse 52 = .ok (.aload_n 0, 1) := by decide +kernel
theorem dX6_rehearse_53 : decode cX6_rehearse 53 = .ok (.getfield 16, 3) := by decide +kernel
theorem dX6_rehearse_56 : decode cX6_rehearse 56 = .ok (.aload_n 0, 1) := by decide +kernel
theorem dX6_rehearse_57 : decode cX6_rehearse 57 = .ok (.getfield 29, 3) := by decide +kernel
theorem dX6_rehearse_60 : decode cX6_rehearse 60 = .ok (.invokevirtual 249, 3) := by decide +kernel
theorem dX6_rehearse_63 : decode cX6_rehearse 63 = .ok (.goto 4, 3) := by decide +kernel
theorem dX6_rehearse_66 : decode cX6_rehearse 66 = .ok (.iconst 1, 1) := by decide +kernel
theorem dX6_rehearse_67 : decode cX6_rehearse 67 = .ok (.istore_n 1, 1) := by decide +kernel
theorem dX6_rehearse_68 : decode cX6_rehearse 68 = .ok (.iload_n 1, 1) := by decide +kernel
theorem dX6_rehearse_69 : decode cX6_rehearse 69 = .ok (.ifCond .ne 14, 3) := by decide +kernel
theorem dX6_rehearse_72 : decode cX6_rehearse 72 = .ok (.aload_n 0, 1) := by decide +kernel
theorem dX6_rehearse_73 : decode cX6_rehearse 73 = .ok (.getfield 16, 3) := by decide +kernel
theorem dX6_rehearse_76 : decode cX6_rehearse 76 = .ok (.aload_n 0, 1) := by decide +kernel
theorem dX6_rehearse_77 : decode cX6_rehearse 77 = .ok (.getfield 29, 3) := by decide +kernel
theorem dX6_rehearse_80 : decode cX6_rehearse 80 = .ok (.invokevirtual 253, 3) := by decide +kernel
theorem dX6_rehearse_83 : decode cX6_rehearse 83 = .ok (.iinc 2 1, 3) := by decide +kernel
theorem dX6_rehearse_86 : decode cX6_rehearse 86 = .ok (.goto (-64), 3) := by decide +kernel
theorem dX6_rehearse_89 : decode cX6_rehearse 89 = .ok (.iload_n 1, 1) := by decide +kernel
theorem dX6_rehearse_90 : decode cX6_rehearse 90 = .ok (.ireturn, 1) := by decide +kernel
end
section
theorem dX7_init_0 : decode cX7_init 0 = .ok (.aload_n 0, 1) := by decide +kernel
theorem dX7_init_1 : decode cX7_init 1 = .ok (.invokespecial 1, 3) := by decide +kernel
theorem dX7_init_4 : decode cX7_init 4 = .ok (.aload_n 0, 1) := by decide +kernel
theorem dX7_init_5 : decode cX7_init 5 = .ok (.bipush 90, 2) := by decide +kernel
theorem dX7_init_7 : decode cX7_init 7 = .ok (.newarray .int, 2) := by decide +kernel
theorem dX7_init_9 : decode cX7_init 9 = .ok (.putfield 7, 3) := by decide +kernel
theorem dX7_init_12 : decode cX7_init 12 = .ok (.aload_n 0, 1) := by decide +kernel
theorem dX7_init_13 : decode cX7_init 13 = .ok (.sipush 360, 3) := by decide +kernel
theorem dX7_init_16 : decode cX7_init 16 = .ok (.newarray .int, 2) := by decide +kernel
theorem dX7_init_18 : decode cX7_init 18 = .ok (.putfield 13, 3) := by decide +kernel
theorem dX7_init_21 : decode cX7_init 21 = .ok (.aload_n 0, 1) := by decide +kernel
theorem dX7_init_22 : decode cX7_init 22 = .ok (.bipush 90, 2) := by decide +kernel
theorem dX7_init_24 : decode cX7_init 24 = .ok (.newarray .int, 2) := by decide +kernel
theorem dX7_init_26 : decode cX7_init 26 = .ok (.putfield 16, 3) := by decide +kernel
theorem dX7_init_29 : decode cX7_init 29 = .ok (.aload_n 0, 1) := by decide +kernel
theorem dX7_init_30 : decode cX7_init 30 = .ok (.bipush 90, 2) := by decide +kernel
theorem dX7_init_32 : decode cX7_init 32 = .ok (.newarray .int, 2) := by decide +kernel
theorem dX7_init_34 : decode cX7_init 34 = .ok (.putfield 19, 3) := by decide +kernel
theorem dX7_init_37 : decode cX7_init 37 = .ok (.aload_n 0, 1) := by decide +kernel
theorem dX7_init_38 : decode cX7_init 38 = .ok (.bipush 60, 2) := by decide +kernel
theorem dX7_init_40 : decode cX7_init 40 = .ok (.newarray .char, 2) := by decide +kernel
theorem dX7_init_42 : decode cX7_init 42 = .ok (.putfield 22, 3) := by decide +kernel
theorem dX7_init_45 : decode cX7_init 45 = .ok (.aload_n 0, 1) := by decide +kernel
theorem dX7_init_46 : decode cX7_init 46 = .ok (.iconst 3, 1) := by decide +kernel
theorem dX7_init_47 : decode cX7_init 47 = .ok (.newarray .int, 2) := by decide +kernel
theorem dX7_init_49 : decode cX7_init 49 = .ok (.putfield 26, 3) := by decide +kernel
theorem dX7_init_52 : decode cX7_init 52 = .ok (.aload_n 0, 1) := by decide +kernel
theorem dX7_init_53 : decode cX7_init 53 = .ok (.bipush 40, 2) := by decide +kernel
theorem dX7_init_55 : decode cX7_init 55 = .ok (.newarray .int, 2) := by decide +kernel
theorem dX7_init_57 : decode cX7_init 57 = .ok (.putfield 29, 3) := by decide +kernel
theorem dX7_init_60 : decode cX7_init 60 = .ok (.aload_n 0, 1) := by decide +kernel
theorem dX7_init_61 : decode cX7_init 61 = .ok (.bipush 6, 2) := by decide +kernel
theorem dX7_init_63 : decode cX7_init 63 = .ok (.newarray .int, 2) := by decide +kernel
theorem dX7_init_65 : decode cX7_init 65 = .ok (.putfield 32, 3) := by decide +kernel
theorem dX7_init_68 : decode cX7_init 68 = .ok (.aload_n 0, 1) := by decide +kernel
theorem dX7_init_69 : decode cX7_init 69 = .ok (.getfield 7, 3) := by decide +kernel
theorem dX7_init_72 : decode cX7_init 72 = .ok (.iconst 3, 1) := by decide +kernel
theorem dX7_init_73 : decode cX7_init 73 = .ok (.bipush 6, 2) := by decide +kernel
theorem dX7_init_75 : decode cX7_init 75 = .ok (.iastore, 1) := by decide +kernel
theorem dX7_init_76 : decode cX7_init 76 = .ok (.aload_n 0, 1) := by decide +kernel
theorem dX7_init_77 : decode cX7_init 77 = .ok (.getfield 7, 3) := by decide +kernel
theorem dX7_init_80 : decode cX7_init 80 = .ok (.iconst 4, 1) := by decide +kernel
theorem dX7_init_81 : decode cX7_init 81 = .ok (.iconst 3, 1) := by decide +kernel
theorem dX7_init_82 : decode cX7_init 82 = .ok (.iastore, 1) := by decide +kernel
theorem dX7_init_83 : decode cX7_init 83 = .ok (.aload_n 0, 1) := by decide +kernel
theorem dX7_init_84 : decode cX7_init 84 = .ok (.getfield 7, 3) := by decide +kernel
theorem dX7_init_87 : decode cX7_init 87 = .ok (.iconst 5, 1) := by decide +kernel
theorem dX7_init_88 : decode cX7_init 88 = .ok (.iconst 1, 1) := by decide +kernel
theorem dX7_init_89 : decode cX7_init 89 = .ok (.iastore, 1) := by decide +kernel
theorem dX7_init_90 : decode cX7_init 90 = .ok (.aload_n 0, 1) := by decide +kernel
theorem dX7_init_91 : decode cX7_init 91 = .ok (.getfield 7, 3) := by decide +kernel
theorem dX7_init_94 : decode cX7_init 94 = .ok (.bipush 6, 2) := by decide +kernel
theorem dX7_init_96 : decode cX7_init 96 = .ok (.iconst 5, 1) := by decide +kernel
theorem dX7_init_97 : decode cX7_init 97 = .ok (.iastore, 1) := by decide +kernel
theorem dX7_init_98 : decode cX7_init 98 = .ok (.aload_n 0, 1) := by decide +kernel
theorem dX7_init_99 : decode cX7_init 99 = .ok (.getfield 7, 3) := by decide +kernel
theorem dX7_init_102 : decode cX7_init 102 = .ok (.bipush 7, 2) := by decide +kernel
theorem dX7_init_104 : decode cX7_init 104 = .ok (.iconst 2, 1) := by decide +kernel
theorem dX7_init_105 : decode cX7_init 105 = .ok (.iastore, 1) := by decide +kernel
theorem dX7_init_106 : decode cX7_init 106 = .ok (.return_, 1) := by decide +kernel
theorem dX7_in_0 : decode cX7_in 0 = .ok (.iload_n 0, 1) := by decide +kernel
theorem dX7_in_1 : decode cX7_in 1 = .ok (.iload_n 1, 1) := by decide +kernel
theorem dX7_in_2 : decode cX7_in 2 = .ok (.if_icmp .lt 12, 3) := by decide +kernel
theorem dX7_in_5 : decode cX7_in 5 = .ok (.iload_n 0, 1) := by decide +kernel
theorem dX7_in_6 : decode cX7_in 6 = .ok (.iload_n 2, 1) := by decide +kernel
theorem dX7_in_7 : decode cX7_in 7 = .ok (.if_icmp .gt 7, 3) := by decide +kernel
theorem dX7_in_10 : decode cX7_in 10 = .ok (.iconst 1, 1) := by decide +kernel
theorem dX7_in_11 : decode cX7_in 11 = .ok (.goto 4, 3) := by decide +kernel
theorem dX7_in_14 : decode cX7_in 14 = .ok (.iconst 0, 1) := by decide +kernel
theorem dX7_in_15 : decode cX7_in 15 = .ok (.ireturn, 1) := by decide +kernel
theorem dX7_an_0 : decode cX7_an 0 = .ok (.aload_n 0, 1) := by decide +kernel
theorem dX7_an_1 : decode cX7_an 1 = .ok (.getfield 7, 3) := by decide +kernel
theorem dX7_an_4 : decode cX7_an 4 = .ok (.bipush 48, 2) := by decide +kernel
theorem dX7_an_6 : decode cX7_an 6 = .ok (.bipush 7, 2) := by decide +kernel
theorem dX7_an_8 : decode cX7_an 8 = .ok (.iload_n 1, 1) := by decide +kernel
theorem dX7_an_9 : decode cX7_an 9 = .ok (.imul, 1) := by decide +kernel
theorem dX7_an_10 : decode cX7_an 10 = .ok (.iadd, 1) := by decide +kernel
theorem dX7_an_11 : decode cX7_an 11 = .ok (.iload_n 2, 1) := by decide +kernel
theorem dX7_an_12 : decode cX7_an 12 = .ok (.iadd, 1) := by decide +kernel
theorem dX7_an_13 : decode cX7_an 13 = .ok (.iaload, 1) := by decide +kernel
theorem dX7_an_14 : decode cX7_an 14 = .ok (.ireturn, 1) := by decide +kernel
set_option maxRecDepth 20000 in
theorem ggX7_isPlace_X7_in : GoodIn wsX7_isPlace wsX7_in := goodIn_r _ [5] (by decide +kernel) (by decide +kernel)
set_option maxRecDepth 20000 in
theorem gX7_isPlace_X7_in : GoodIn wsX7_isPlace (va_wsS RX7 35 yX7_in wsX7_in) := goodIn_app (goodIn_of _ (by decide +kernel)) ggX7_isPlace_X7_in
theorem dX7_isPlace_0 : decode cX7_isPlace 0 = .ok (.iload_n 1, 1) := by decide +kernel
theorem dX7_isPlace_1 : decode cX7_isPlace 1 = .ok (.iconst 0, 1) := by decide +kernel
theorem dX7_isPlace_2 : decode cX7_isPlace 2 = .ok (.aload_n 0, 1) := by decide +kernel
theorem dX7_isPlace_3 : decode cX7_isPlace 3 = .ok (.getfield 7, 3) := by decide +kernel
theorem dX7_isPlace_6 : decode cX7_isPlace 6 = .ok (.iconst 0, 1) := by decide +kernel
theorem dX7_isPlace_7 : decode cX7_isPlace 7 = .ok (.iaload, 1) := by decide +kernel
theorem dX7_isPlace_8 : decode cX7_isPlace 8 = .ok (.iconst 1, 1) := by decide +kernel
theorem dX7_isPlace_9 : decode cX7_isPlace 9 = .ok (.isub, 1) := by decide +kernel
theorem dX7_isPlace_10 : decode cX7_isPlace 10 = .ok (.invokestatic 35, 3) := by decide +kernel
theorem dX7_isPlace_13 : decode cX7_isPlace 13 = .ok (.ireturn, 1) := by decide +kernel
set_option maxRecDepth 20000 in
theorem ggX7_isAnchor_X7_in : GoodIn wsX7_isAnchor wsX7_in := goodIn_r _ [5] (by decide +kernel) (by decide +kernel)
set_option maxRecDepth 20000 in
theorem gX7_isAnchor_X7_in : GoodIn wsX7_isAnchor (va_wsS RX7 35 yX7_in wsX7_in) := goodIn_app (goodIn_of _ (by decide +kernel)) ggX7_isAnchor_X7_in
theorem dX7_isAnchor_0 : decode cX7_isAnchor 0 = .ok (.iload_n 1, 1) := by decide +kernel
theorem dX7_isAnchor_1 : decode cX7_isAnchor 1 = .ok (.iconst 0, 1) := by decide +kernel
theorem dX7_isAnchor_2 : decode cX7_isAnchor 2 = .ok (.aload_n 0, 1) := by decide +kernel
theorem dX7_isAnchor_3 : decode cX7_isAnchor 3 = .ok (.getfield 7, 3) := by decide +kernel
theorem dX7_isAnchor_6 : decode cX7_isAnchor 6 = .ok (.iconst 1, 1) := by decide +kernel
theorem dX7_isAnchor_7 : decode cX7_isAnchor 7 = .ok (.iaload, 1) := by decide +kernel
theorem dX7_isAnchor_8 : decode cX7_isAnchor 8 = .ok (.iconst 1, 1) := by decide +kernel
theorem dX7_isAnchor_9 : decode cX7_isAnchor 9 = .ok (.isub, 1) := by decide +kernel
theorem dX7_isAnchor_10 : decode cX7_isAnchor 10 = .ok (.invokestatic 35, 3) := by decide +kernel
theorem dX7_isAnchor_13 : decode cX7_isAnchor 13 = .ok (.ireturn, 1) := by decide +kernel
set_option maxRecDepth 20000 in
theorem ggX7_word_X7_isPlace : GoodIn wsX7_word wsX7_isPlace := goodIn_r _ [6, 1, 7, 8, 5, 9, 10, 11, 12, 13, 14, 15, 16, 17, 18, 19, 20, 21] (by decide +kernel) (by decide +kernel)
set_option maxRecDepth 20000 in
theorem gX7_word_X7_isPlace : GoodIn wsX7_word (wsV RX7 39 RX7 yX7_isPlace wsX7_isPlace) := goodIn_app (goodIn_of _ (by decide +kernel)) ggX7_word_X7_isPlace
theorem dX7_word_0 : decode cX7_word 0 = .ok (.aload_n 0, 1) := by decide +kernel
theorem dX7_word_1 : decode cX7_word 1 = .ok (.iload_n 1, 1) := by decide +kernel
theorem dX7_word_2 : decode cX7_word 2 = .ok (.invokevirtual 39, 3) := by decide +kernel
theorem dX7_word_5 : decode cX7_word 5 = .ok (.ifCond .eq 15, 3) := by decide +kernel
theorem dX7_word_8 : decode cX7_word 8 = .ok (.aload_n 0, 1) := by decide +kernel
theorem dX7_word_9 : decode cX7_word 9 = .ok (.getfield 7, 3) := by decide +kernel
theorem dX7_word_12 : decode cX7_word 12 = .ok (.bipush 8, 2) := by decide +kernel
theorem dX7_word_14 : decode cX7_word 14 = .ok (.iload_n 1, 1) := by decide +kernel
theorem dX7_word_15 : decode cX7_word 15 = .ok (.iadd, 1) := by decide +kernel
theorem dX7_word_16 : decode cX7_word 16 = .ok (.iaload, 1) := by decide +kernel
theorem dX7_word_17 : decode cX7_word 17 = .ok (.goto 4, 3) := by decide +kernel
theorem dX7_word_20 : decode cX7_word 20 = .ok (.iconst (-1), 1) := by decide +kernel
theorem dX7_word_21 : decode cX7_word 21 = .ok (.ireturn, 1) := by decide +kernel
theorem dX7_keeps_0 : decode cX7_keeps 0 = .ok (.iconst 0, 1) := by decide +kernel
theorem dX7_keeps_1 : decode cX7_keeps 1 = .ok (.istore_n 1, 1) := by decide +kernel
theorem dX7_keeps_2 : decode cX7_keeps 2 = .ok (.iload_n 1, 1) := by decide +kernel
theorem dX7_keeps_3 : decode cX7_keeps 3 = .ok (.bipush 90, 2) := by decide +kernel
theorem dX7_keeps_5 : decode cX7_keeps 5 = .ok (.if_icmp .ge 21, 3) := by decide +kernel
theorem dX7_keeps_8 : decode cX7_keeps 8 = .ok (.aload_n 0, 1) := by decide +kernel
theorem dX7_keeps_9 : decode cX7_keeps 9 = .ok (.getfield 16, 3) := by decide +kernel
theorem dX7_keeps_12 : decode cX7_keeps 12 = .ok (.iload_n 1, 1) := by decide +kernel
theorem dX7_keeps_13 : decode cX7_keeps 13 = .ok (.aload_n 0, 1) := by decide +kernel
theorem dX7_keeps_14 : decode cX7_keeps 14 = .ok (.getfield 7, 3) := by decide +kernel
theorem dX7_keeps_17 : decode cX7_keeps 17 = .ok (.iload_n 1, 1) := by decide +kernel
theorem dX7_keeps_18 : decode cX7_keeps 18 = .ok (.iaload, 1) := by decide +kernel
theorem dX7_keeps_19 : decode cX7_keeps 19 = .ok (.iastore, 1) := by decide +kernel
theorem dX7_keeps_20 : decode cX7_keeps 20 = .ok (.iinc 1 1, 3) := by decide +kernel
theorem dX7_keeps_23 : decode cX7_keeps 23 = .ok (.goto (-21), 3) := by decide +kernel
theorem dX7_keeps_26 : decode cX7_keeps 26 = .ok (.return_, 1) := by decide +kernel
theorem dX7_acted_0 : decode cX7_acted 0 = .ok (.iload_n 1, 1) := by decide +kernel
theorem dX7_acted_1 : decode cX7_acted 1 = .ok (.ldc 43, 2) := by decide +kernel
theorem dX7_acted_3 : decode cX7_acted 3 = .ok (.if_icmp .le 95, 3) := by decide +kernel
theorem dX7_acted_6 : decode cX7_acted 6 = .ok (.aload_n 0, 1) := by decide +kernel
theorem dX7_acted_7 : decode cX7_acted 7 = .ok (.getfield 44, 3) := by decide +kernel
theorem dX7_acted_10 : decode cX7_acted 10 = .ok (.iconst 4, 1) := by decide +kernel
theorem dX7_acted_11 : decode cX7_acted 11 = .ok (.if_icmp .ne 43, 3) := by decide +kernel
theorem dX7_acted_14 : decode cX7_acted 14 = .ok (.iconst 0, 1) := by decide +kernel
theorem dX7_acted_15 : decode cX7_acted 15 = .ok (.istore_n 2, 1) := by decide +kernel
theorem dX7_acted_16 : decode cX7_acted 16 = .ok (.iload_n 2, 1) := by decide +kernel
theorem dX7_acted_17 : decode cX7_acted 17 = .ok (.sipush 270, 3) := by decide +kernel
theorem dX7_acted_20 : decode cX7_acted 20 = .ok (.if_icmp .ge 24, 3) := by decide +kernel
theorem dX7_acted_23 : decode cX7_acted 23 = .ok (.aload_n 0, 1) := by decide +kernel
theorem dX7_acted_24 : decode cX7_acted 24 = .ok (.getfield 13, 3) := by decide +kernel
theorem dX7_acted_27 : decode cX7_acted 27 = .ok (.iload_n 2, 1) := by decide +kernel
theorem dX7_acted_28 : decode cX7_acted 28 = .ok (.aload_n 0, 1) := by decide +kernel
theorem dX7_acted_29 : decode cX7_acted 29 = .ok (.getfield 13, 3) := by decide +kernel
theorem dX7_acted_32 : decode cX7_acted 32 = .ok (.iload_n 2, 1) := by decide +kernel
theorem dX7_acted_33 : decode cX7_acted 33 = .ok (.bipush 90, 2) := by decide +kernel
theorem dX7_acted_35 : decode cX7_acted 35 = .ok (.iadd, 1) := by decide +kernel
theorem dX7_acted_36 : decode cX7_acted 36 = .ok (.iaload, 1) := by decide +kernel
theorem dX7_acted_37 : decode cX7_acted 37 = .ok (.iastore, 1) := by decide +kernel
theorem dX7_acted_38 : decode cX7_acted 38 = .ok (.iinc 2 1, 3) := by decide +kernel
theorem dX7_acted_41 : decode cX7_acted 41 = .ok (.goto (-25), 3) := by decide +kernel
theorem dX7_acted_44 : decode cX7_acted 44 = .ok (.aload_n 0, 1) := by decide +kernel
theorem dX7_acted_45 : decode cX7_acted 45 = .ok (.dup, 1) := by decide +kernel
theorem dX7_acted_46 : decode cX7_acted 46 = .ok (.getfield 44, 3) := by decide +kernel
theorem dX7_acted_49 : decode cX7_acted 49 = .ok (.iconst 1, 1) := by decide +kernel
theorem dX7_acted_50 : decode cX7_acted 50 = .ok (.isub, 1) := by decide +kernel
theorem dX7_acted_51 : decode cX7_acted 51 = .ok (.putfield 44, 3) := by decide +kernel
theorem dX7_acted_54 : decode cX7_acted 54 = .ok (.iconst 0, 1) := by decide +kernel
theorem dX7_acted_55 : decode cX7_acted 55 = .ok (.istore_n 2, 1) := by decide +kernel
theorem dX7_acted_56 : decode cX7_acted 56 = .ok (.iload_n 2, 1) := by decide +kernel
theorem dX7_acted_57 : decode cX7_acted 57 = .ok (.bipush 90, 2) := by decide +kernel
theorem dX7_acted_59 : decode cX7_acted 59 = .ok (.if_icmp .ge 29, 3) := by decide +kernel
theorem dX7_acted_62 : decode cX7_acted 62 = .ok (.aload_n 0, 1) := by decide +kernel
theorem dX7_acted_63 : decode cX7_acted 63 = .ok (.getfield 13, 3) := by decide +kernel
theorem dX7_acted_66 : decode cX7_acted 66 = .ok (.bipush 90, 2) := by decide +kernel
theorem dX7_acted_68 : decode cX7_acted 68 = .ok (.aload_n 0, 1) := by decide +kernel
theorem dX7_acted_69 : decode cX7_acted 69 = .ok (.getfield 44, 3) := by decide +kernel
theorem dX7_acted_72 : decode cX7_acted 72 = .ok (.imul, 1) := by decide +kernel
theorem dX7_acted_73 : decode cX7_acted 73 = .ok (.iload_n 2, 1) := by decide +kernel
theorem dX7_acted_74 : decode cX7_acted 74 = .ok (.iadd, 1) := by decide +kernel
theorem dX7_acted_75 : decode cX7_acted 75 = .ok (.aload_n 0, 1) := by decide +kernel
theorem dX7_acted_76 : decode cX7_acted 76 = .ok (.getfield 16, 3) := by decide +kernel
theorem dX7_acted_79 : decode cX7_acted 79 = .ok (.iload_n 2, 1) := by decide +kernel
theorem dX7_acted_80 : decode cX7_acted 80 = .ok (.iaload, 1) := by decide +kernel
theorem dX7_acted_81 : decode cX7_acted 81 = .ok (.iastore, 1) := by decide +kernel
theorem dX7_acted_82 : decode cX7_acted 82 = .ok (.iinc 2 1, 3) := by decide +kernel
theorem dX7_acted_85 : decode cX7_acted 85 = .ok (.goto (-29), 3) := by decide +kernel
theorem dX7_acted_88 : decode cX7_acted 88 = .ok (.aload_n 0, 1) := by decide +kernel
theorem dX7_acted_89 : decode cX7_acted 89 = .ok (.dup, 1) := by decide +kernel
theorem dX7_acted_90 : decode cX7_acted 90 = .ok (.getfield 44, 3) := by decide +kernel
theorem dX7_acted_93 : decode cX7_acted 93 = .ok (.iconst 1, 1) := by decide +kernel
theorem dX7_acted_94 : decode cX7_acted 94 = .ok (.iadd, 1) := by decide +kernel
theorem dX7_acted_95 : decode cX7_acted 95 = .ok (.putfield 44, 3) := by decide +kernel
theorem dX7_acted_98 : decode cX7_acted 98 = .ok (.iload_n 1, 1) := by decide +kernel
theorem dX7_acted_99 : decode cX7_acted 99 = .ok (.ireturn, 1) := by decide +kernel
theorem dX7_lays_0 : decode cX7_lays 0 = .ok (.iconst 0, 1) := by decide +kernel
theorem dX7_lays_1 : decode cX7_lays 1 = .ok (.istore_n 1, 1) := by decide +kernel
theorem dX7_lays_2 : decode cX7_lays 2 = .ok (.iload_n 1, 1) := by decide +kernel
theorem dX7_lays_3 : decode cX7_lays 3 = .ok (.bipush 90, 2) := by decide +kernel
theorem dX7_lays_5 : decode cX7_lays 5 = .ok (.if_icmp .ge 21, 3) := by decide +kernel
theorem dX7_lays_8 : decode cX7_lays 8 = .ok (.aload_n 0, 1) := by decide +kernel
theorem dX7_lays_9 : decode cX7_lays 9 = .ok (.getfield 19, 3) := by decide +kernel
theorem dX7_lays_12 : decode cX7_lays 12 = .ok (.iload_n 1, 1) := by decide +kernel
theorem dX7_lays_13 : decode cX7_lays 13 = .ok (.aload_n 0, 1) := by decide +kernel
theorem dX7_lays_14 : decode cX7_lays 14 = .ok (.getfield 7, 3) := by decide +kernel
theorem dX7_lays_17 : decode cX7_lays 17 = .ok (.iload_n 1, 1) := by decide +kernel
theorem dX7_lays_18 : decode cX7_lays 18 = .ok (.iaload, 1) := by decide +kernel
theorem dX7_lays_19 : decode cX7_lays 19 = .ok (.iastore, 1) := by decide +kernel
theorem dX7_lays_20 : decode cX7_lays 20 = .ok (.iinc 1 1, 3) := by decide +kernel
theorem dX7_lays_23 : decode cX7_lays 23 = .ok (.goto (-21), 3) := by decide +kernel
theorem dX7_lays_26 : decode cX7_lays 26 = .ok (.return_, 1) := by decide +kernel
theorem dX7_restores_0 : decode cX7_restores 0 = .ok (.iconst 0, 1) := by decide +kernel
theorem dX7_restores_1 : decode cX7_restores 1 = .ok (.istore_n 1, 1) := by decide +kernel
theorem dX7_restores_2 : decode cX7_restores 2 = .ok (.iload_n 1, 1) := by decide +kernel
theorem dX7_restores_3 : decode cX7_restores 3 = .ok (.bipush 90, 2) := by decide +kernel
theorem dX7_restores_5 : decode cX7_restores 5 = .ok (.if_icmp .ge 21, 3) := by decide +kernel
theorem dX7_restores_8 : decode cX7_restores 8 = .ok (.aload_n 0, 1) := by decide +kernel
theorem dX7_restores_9 : decode cX7_restores 9 = .ok (.getfield 7, 3) := by decide +kernel
theorem dX7_restores_12 : decode cX7_restores 12 = .ok (.iload_n 1, 1) := by decide +kernel
theorem dX7_restores_13 : decode cX7_restores 13 = .ok (.aload_n 0, 1) := by decide +kernel
theorem dX7_restores_14 : decode cX7_restores 14 = .ok (.getfield 19, 3) := by decide +kernel
theorem dX7_restores_17 : decode cX7_restores 17 = .ok (.iload_n 1, 1) := by decide +kernel
theorem dX7_restores_18 : decode cX7_restores 18 = .ok (.iaload, 1) := by decide +kernel
theorem dX7_restores_19 : decode cX7_restores 19 = .ok (.iastore, 1) := by decide +kernel
theorem dX7_restores_20 : decode cX7_restores 20 = .ok (.iinc 1 1, 3) := by decide +kernel
theorem dX7_restores_23 : decode cX7_restores 23 = .ok (.goto (-21), 3) := by decide +kernel
theorem dX7_restores_26 : decode cX7_restores 26 = .ok (.return_, 1) := by decide +kernel
set_option maxRecDepth 20000 in
theorem ggX7_follows_X7_an : GoodIn wsX7_follows wsX7_an := goodIn_r _ [6, 1, 7, 8, 9, 10, 11, 12, 13, 14, 15, 16, 17, 18] (by decide +kernel) (by decide +kernel)
set_option maxRecDepth 20000 in
theorem gX7_follows_X7_an : GoodIn wsX7_follows (wsV RX7 48 RX7 yX7_an wsX7_an) := goodIn_app (goodIn_of _ (by decide +kernel)) ggX7_follows_X7_an
theorem dX7_follows_0 : decode cX7_follows 0 = .ok (.iconst 0, 1) := by decide +kernel
theorem dX7_follows_1 : decode cX7_follows 1 = .ok (.istore 4, 2) := by decide +kernel
theorem dX7_follows_3 : decode cX7_follows 3 = .ok (.iload 4, 2) := by decide +kernel
theorem dX7_follows_5 : decode cX7_follows 5 = .ok (.aload_n 0, 1) := by decide +kernel
theorem dX7_follows_6 : decode cX7_follows 6 = .ok (.getfield 7, 3) := by decide +kernel
theorem dX7_follows_9 : decode cX7_follows 9 = .ok (.iconst 1, 1) := by decide +kernel
theorem dX7_follows_10 : decode cX7_follows 10 = .ok (.iaload, 1) := by decide +kernel
theorem dX7_follows_11 : decode cX7_follows 11 = .ok (.if_icmp .ge 75, 3) := by decide +kernel
theorem dX7_follows_14 : decode cX7_follows 14 = .ok (.aload_n 0, 1) := by decide +kernel
theorem dX7_follows_15 : decode cX7_follows 15 = .ok (.iload 4, 2) := by decide +kernel
theorem dX7_follows_17 : decode cX7_follows 17 = .ok (.iconst 1, 1) := by decide +kernel
theorem dX7_follows_18 : decode cX7_follows 18 = .ok (.invokevirtual 48, 3) := by decide +kernel
theorem dX7_follows_21 : decode cX7_follows 21 = .ok (.istore 5, 2) := by decide +kernel
theorem dX7_follows_23 : decode cX7_follows 23 = .ok (.iload 5, 2) := by decide +kernel
theorem dX7_follows_25 : decode cX7_follows 25 = .ok (.iload_n 1, 1) := by decide +kernel
theorem dX7_follows_26 : decode cX7_follows 26 = .ok (.if_icmp .ne 11, 3) := by decide +kernel
theorem dX7_follows_29 : decode cX7_follows 29 = .ok (.iload_n 3, 1) := by decide +kernel
theorem dX7_follows_30 : decode cX7_follows 30 = .ok (.ifCond .eq 7, 3) := by decide +kernel
theorem dX7_follows_33 : decode cX7_follows 33 = .ok (.iconst (-1), 1) := by decide +kernel
theorem dX7_follows_34 : decode cX7_follows 34 = .ok (.goto 18, 3) := by decide +kernel
theorem dX7_follows_37 : decode cX7_follows 37 = .ok (.iload 5, 2) := by decide +kernel
theorem dX7_follows_39 : decode cX7_follows 39 = .ok (.iload_n 1, 1) := by decide +kernel
theorem dX7_follows_40 : decode cX7_follows 40 = .ok (.if_icmp .lt 10, 3) := by decide +kernel
theorem dX7_follows_43 : decode cX7_follows 43 = .ok (.iload 5, 2) := by decide +kernel
theorem dX7_follows_45 : decode cX7_follows 45 = .ok (.iload_n 2, 1) := by decide +kernel
theorem dX7_follows_46 : decode cX7_follows 46 = .ok (.iadd, 1) := by decide +kernel
theorem dX7_follows_47 : decode cX7_follows 47 = .ok (.goto 5, 3) := by decide +kernel
theorem dX7_follows_50 : decode cX7_follows 50 = .ok (.iload 5, 2) := by decide +kernel
theorem dX7_follows_52 : decode cX7_follows 52 = .ok (.istore 6, 2) := by decide +kernel
theorem dX7_follows_54 : decode cX7_follows 54 = .ok (.aload_n 0, 1) := by decide +kernel
theorem dX7_follows_55 : decode cX7_follows 55 = .ok (.getfield 7, 3) := by decide +kernel
theorem dX7_follows_58 : decode cX7_follows 58 = .ok (.bipush 48, 2) := by decide +kernel
theorem dX7_follows_60 : decode cX7_follows 60 = .ok (.bipush 7, 2) := by decide +kernel
theorem dX7_follows_62 : decode cX7_follows 62 = .ok (.iload 4, 2) := by decide +kernel
theorem dX7_follows_64 : decode cX7_follows 64 = .ok (.imul, 1) := by decide +kernel
theorem dX7_follows_65 : decode cX7_follows 65 = .ok (.iadd, 1) := by decide +kernel
theorem dX7_follows_66 : decode cX7_follows 66 = .ok (.iconst 1, 1) := by decide +kernel
theorem dX7_follows_67 : decode cX7_follows 67 = .ok (.iadd, 1) := by decide +kernel
theorem dX7_follows_68 : decode cX7_follows 68 = .ok (.iload 5, 2) := by decide +kernel
theorem dX7_follows_70 : decode cX7_follows 70 = .ok (.ifCond .ge 7, 3) := by decide +kernel
theorem dX7_follows_73 : decode cX7_follows 73 = .ok (.iconst (-1), 1) := by decide +kernel
theorem dX7_follows_74 : decode cX7_follows 74 = .ok (.goto 5, 3) := by decide +kernel
theorem dX7_follows_77 : decode cX7_follows 77 = .ok (.iload 6, 2) := by decide +kernel
theorem dX7_follows_79 : decode cX7_follows 79 = .ok (.iastore, 1) := by decide +kernel
theorem dX7_follows_80 : decode cX7_follows 80 = .ok (.iinc 4 1, 3) := by decide +kernel
theorem dX7_follows_83 : decode cX7_follows 83 = .ok (.goto (-80), 3) := by decide +kernel
theorem dX7_follows_86 : decode cX7_follows 86 = .ok (.return_, 1) := by decide +kernel
set_option maxRecDepth 20000 in
theorem ggX7_puts_X7_in : GoodIn wsX7_puts wsX7_in := goodIn_r _ [7] (by decide +kernel) (by decide +kernel)
set_option maxRecDepth 20000 in
theorem gX7_puts_X7_in : GoodIn wsX7_puts (va_wsS RX7 35 yX7_in wsX7_in) := goodIn_app (goodIn_of _ (by decide +kernel)) ggX7_puts_X7_in
set_option maxRecDepth 20000 in
theorem ggX7_puts_X7_follows : GoodIn wsX7_puts wsX7_follows := goodIn_r _ [11, 1, 12, 13, 14, 6, 15, 16, 17, 18, 19, 20, 21, 22, 23, 24, 25, 26, 27] (by decide +kernel) (by decide +kernel)
set_option maxRecDepth 20000 in
theorem gX7_puts_X7_follows : GoodIn wsX7_puts (wsV RX7 53 RX7 yX7_follows wsX7_follows) := goodIn_app (goodIn_of _ (by decide +kernel)) ggX7_puts_X7_follows
theorem dX7_puts_0 : decode cX7_puts 0 = .ok (.iload_n 1, 1) := by decide +kernel
theorem dX7_puts_1 : decode cX7_puts 1 = .ok (.iconst 0, 1) := by decide +kernel
theorem dX7_puts_2 : decode cX7_puts 2 = .ok (.aload_n 0, 1) := by decide +kernel
theorem dX7_puts_3 : decode cX7_puts 3 = .ok (.getfield 7, 3) := by decide +kernel
theorem dX7_puts_6 : decode cX7_puts 6 = .ok (.iconst 0, 1) := by decide +kernel
theorem dX7_puts_7 : decode cX7_puts 7 = .ok (.iaload, 1) := by decide +kernel
theorem dX7_puts_8 : decode cX7_puts 8 = .ok (.invokestatic 35, 3) := by decide +kernel
theorem dX7_puts_11 : decode cX7_puts 11 = .ok (.ifCond .eq 13, 3) := by decide +kernel
theorem dX7_puts_14 : decode cX7_puts 14 = .ok (.iload_n 2, 1) := by decide +kernel
theorem dX7_puts_15 : decode cX7_puts 15 = .ok (.iconst 0, 1) := by decide +kernel
theorem dX7_puts_16 : decode cX7_puts 16 = .ok (.bipush 99, 2) := by decide +kernel
theorem dX7_puts_18 : decode cX7_puts 18 = .ok (.invokestatic 35, 3) := by decide +kernel
theorem dX7_puts_21 : decode cX7_puts 21 = .ok (.ifCond .ne 6, 3) := by decide +kernel
theorem dX7_puts_24 : decode cX7_puts 24 = .ok (.ldc 43, 2) := by decide +kernel
theorem dX7_puts_26 : decode cX7_puts 26 = .ok (.ireturn, 1) := by decide +kernel
theorem dX7_puts_27 : decode cX7_puts 27 = .ok (.aload_n 0, 1) := by decide +kernel
theorem dX7_puts_28 : decode cX7_puts 28 = .ok (.getfield 7, 3) := by decide +kernel
theorem dX7_puts_31 : decode cX7_puts 31 = .ok (.iconst 0, 1) := by decide +kernel
theorem dX7_puts_32 : decode cX7_puts 32 = .ok (.iaload, 1) := by decide +kernel
theorem dX7_puts_33 : decode cX7_puts 33 = .ok (.bipush 40, 2) := by decide +kernel
theorem dX7_puts_35 : decode cX7_puts 35 = .ok (.if_icmp .ne 6, 3) := by decide +kernel
theorem dX7_puts_38 : decode cX7_puts 38 = .ok (.ldc 52, 2) := by decide +kernel
theorem dX7_puts_40 : decode cX7_puts 40 = .ok (.ireturn, 1) := by decide +kernel
theorem dX7_puts_41 : decode cX7_puts 41 = .ok (.aload_n 0, 1) := by decide +kernel
theorem dX7_puts_42 : decode cX7_puts 42 = .ok (.getfield 7, 3) := by decide +kernel
theorem dX7_puts_45 : decode cX7_puts 45 = .ok (.iconst 0, 1) := by decide +kernel
theorem dX7_puts_46 : decode cX7_puts 46 = .ok (.iaload, 1) := by decide +kernel
theorem dX7_puts_47 : decode cX7_puts 47 = .ok (.istore_n 3, 1) := by decide +kernel
theorem dX7_puts_48 : decode cX7_puts 48 = .ok (.iload_n 3, 1) := by decide +kernel
theorem dX7_puts_49 : decode cX7_puts 49 = .ok (.iload_n 1, 1) := by decide +kernel
theorem dX7_puts_50 : decode cX7_puts 50 = .ok (.if_icmp .le 29, 3) := by decide +kernel
theorem dX7_puts_53 : decode cX7_puts 53 = .ok (.aload_n 0, 1) := by decide +kernel
theorem dX7_puts_54 : decode cX7_puts 54 = .ok (.getfield 7, 3) := by decide +kernel
theorem dX7_puts_57 : decode cX7_puts 57 = .ok (.bipush 8, 2) := by decide +kernel
theorem dX7_puts_59 : decode cX7_puts 59 = .ok (.iload_n 3, 1) := by decide +kernel
theorem dX7_puts_60 : decode cX7_puts 60 = .ok (.iadd, 1) := by decide +kernel
theorem dX7_puts_61 : decode cX7_puts 61 = .ok (.aload_n 0, 1) := by decide +kernel
theorem dX7_puts_62 : decode cX7_puts 62 = .ok (.getfield 7, 3) := by decide +kernel
theorem dX7_puts_65 : decode cX7_puts 65 = .ok (.bipush 8, 2) := by decide +kernel
theorem dX7_puts_67 : decode cX7_puts 67 = .ok (.iload_n 3, 1) := by decide +kernel
theorem dX7_puts_68 : decode cX7_puts 68 = .ok (.iadd, 1) := by decide +kernel
theorem dX7_puts_69 : decode cX7_puts 69 = .ok (.iconst 1, 1) := by decide +kernel
theorem dX7_puts_70 : decode cX7_puts 70 = .ok (.isub, 1) := by decide +kernel
theorem dX7_puts_71 : decode cX7_puts 71 = .ok (.iaload, 1) := by decide +kernel
theorem dX7_puts_72 : decode cX7_puts 72 = .ok (.iastore, 1) := by decide +kernel
theorem dX7_puts_73 : decode cX7_puts 73 = .ok (.iinc 3 (-1), 3) := by decide +kernel
theorem dX7_puts_76 : decode cX7_puts 76 = .ok (.goto (-28), 3) := by decide +kernel
theorem dX7_puts_79 : decode cX7_puts 79 = .ok (.aload_n 0, 1) := by decide +kernel
theorem dX7_puts_80 : decode cX7_puts 80 = .ok (.getfield 7, 3) := by decide +kernel
theorem dX7_puts_83 : decode cX7_puts 83 = .ok (.bipush 8, 2) := by decide +kernel
theorem dX7_puts_85 : decode cX7_puts 85 = .ok (.iload_n 1, 1) := by decide +kernel
theorem dX7_puts_86 : decode cX7_puts 86 = .ok (.iadd, 1) := by decide +kernel
theorem dX7_puts_87 : decode cX7_puts 87 = .ok (.iload_n 2, 1) := by decide +kernel
theorem dX7_puts_88 : decode cX7_puts 88 = .ok (.iastore, 1) := by decide +kernel
theorem dX7_puts_89 : decode cX7_puts 89 = .ok (.aload_n 0, 1) := by decide +kernel
theorem dX7_puts_90 : decode cX7_puts 90 = .ok (.getfield 7, 3) := by decide +kernel
theorem dX7_puts_93 : decode cX7_puts 93 = .ok (.iconst 0, 1) := by decide +kernel
theorem dX7_puts_94 : decode cX7_puts 94 = .ok (.dup2, 1) := by decide +kernel
theorem dX7_puts_95 : decode cX7_puts 95 = .ok (.iaload, 1) := by decide +kernel
theorem dX7_puts_96 : decode cX7_puts 96 = .ok (.iconst 1, 1) := by decide +kernel
theorem dX7_puts_97 : decode cX7_puts 97 = .ok (.iadd, 1) := by decide +kernel
theorem dX7_puts_98 : decode cX7_puts 98 = .ok (.iastore, 1) := by decide +kernel
theorem dX7_puts_99 : decode cX7_puts 99 = .ok (.aload_n 0, 1) := by decide +kernel
theorem dX7_puts_100 : decode cX7_puts 100 = .ok (.getfield 7, 3) := by decide +kernel
theorem dX7_puts_103 : decode cX7_puts 103 = .ok (.iconst 2, 1) := by decide +kernel
theorem dX7_puts_104 : decode cX7_puts 104 = .ok (.dup2, 1) := by decide +kernel
theorem dX7_puts_105 : decode cX7_puts 105 = .ok (.iaload, 1) := by decide +kernel
theorem dX7_puts_106 : decode cX7_puts 106 = .ok (.iconst 1, 1) := by decide +kernel
theorem dX7_puts_107 : decode cX7_puts 107 = .ok (.iadd, 1) := by decide +kernel
theorem dX7_puts_108 : decode cX7_puts 108 = .ok (.iastore, 1) := by decide +kernel
theorem dX7_puts_109 : decode cX7_puts 109 = .ok (.aload_n 0, 1) := by decide +kernel
theorem dX7_puts_110 : decode cX7_puts 110 = .ok (.iload_n 1, 1) := by decide +kernel
theorem dX7_puts_111 : decode cX7_puts 111 = .ok (.iconst 1, 1) := by decide +kernel
theorem dX7_puts_112 : decode cX7_puts 112 = .ok (.iconst 0, 1) := by decide +kernel
theorem dX7_puts_113 : decode cX7_puts 113 = .ok (.invokevirtual 53, 3) := by decide +kernel
theorem dX7_puts_116 : decode cX7_puts 116 = .ok (.aload_n 0, 1) := by decide +kernel
theorem dX7_puts_117 : decode cX7_puts 117 = .ok (.getfield 7, 3) := by decide +kernel
theorem dX7_puts_120 : decode cX7_puts 120 = .ok (.iconst 0, 1) := by decide +kernel
theorem dX7_puts_121 : decode cX7_puts 121 = .ok (.iaload, 1) := by decide +kernel
theorem dX7_puts_122 : decode cX7_puts 122 = .ok (.ireturn, 1) := by decide +kernel
set_option maxRecDepth 20000 in
theorem ggX7_put_X7_keeps : GoodIn wsX7_put wsX7_keeps := goodIn_r _ [5, 6, 7, 31, 32, 33, 34, 35, 36, 37, 38, 39, 40, 41, 42] (by decide +kernel) (by decide +kernel)
set_option maxRecDepth 20000 in
theorem gX7_put_X7_keeps : GoodIn wsX7_put (wsV RX7 57 RX7 yX7_keeps wsX7_keeps) := goodIn_app (goodIn_of _ (by decide +kernel)) ggX7_put_X7_keeps
set_option maxRecDepth 20000 in
theorem ggX7_put_X7_puts : GoodIn wsX7_put wsX7_puts := goodIn_r _ [11, 7, 12, 13, 14, 15, 4, 16, 17, 18, 19, 20, 21, 22, 23, 24, 31, 32, 33, 34, 35, 36, 37, 38, 39, 40, 41, 42] (by decide +kernel) (by decide +kernel)
set_option maxRecDepth 20000 in
theorem gX7_put_X7_puts : GoodIn wsX7_put (wsV RX7 60 RX7 yX7_puts wsX7_puts) := goodIn_app (goodIn_of _ (by decide +kernel)) ggX7_put_X7_puts
set_option maxRecDepth 20000 in
theorem ggX7_put_X7_acted : GoodIn wsX7_put wsX7_acted := goodIn_r _ [28, 12, 29, 30, 6, 31, 32, 33, 34, 35, 36, 37, 38, 39, 40, 41, 42] (by decide +kernel) (by decide +kernel)
set_option maxRecDepth 20000 in
theorem gX7_put_X7_acted : GoodIn wsX7_put (wsV RX7 63 RX7 yX7_acted wsX7_acted) := goodIn_app (goodIn_of _ (by decide +kernel)) ggX7_put_X7_acted
theorem dX7_put_0 : decode cX7_put 0 = .ok (.aload_n 0, 1) := by decide +kernel
theorem dX7_put_1 : decode cX7_put 1 = .ok (.invokevirtual 57, 3) := by decide +kernel
theorem dX7_put_4 : decode cX7_put 4 = .ok (.aload_n 0, 1) := by decide +kernel
theorem dX7_put_5 : decode cX7_put 5 = .ok (.aload_n 0, 1) := by decide +kernel
theorem dX7_put_6 : decode cX7_put 6 = .ok (.iload_n 1, 1) := by decide +kernel
theorem dX7_put_7 : decode cX7_put 7 = .ok (.iload_n 2, 1) := by decide +kernel
theorem dX7_put_8 : decode cX7_put 8 = .ok (.invokevirtual 60, 3) := by decide +kernel
theorem dX7_put_11 : decode cX7_put 11 = .ok (.invokevirtual 63, 3) := by decide +kernel
theorem dX7_put_14 : decode cX7_put 14 = .ok (.ireturn, 1) := by decide +kernel
set_option maxRecDepth 20000 in
theorem ggX7_takes_X7_isPlace : GoodIn wsX7_takes wsX7_isPlace := goodIn_r _ [7, 2, 8, 9, 6, 10, 19, 20, 21, 22, 23, 24, 25, 26, 27, 28, 29, 30] (by decide +kernel) (by decide +kernel)
set_option maxRecDepth 20000 in
theorem gX7_takes_X7_isPlace : GoodIn wsX7_takes (wsV RX7 39 RX7 yX7_isPlace wsX7_isPlace) := goodIn_app (goodIn_of _ (by decide +kernel)) ggX7_takes_X7_isPlace
set_option maxRecDepth 20000 in
theorem ggX7_takes_X7_follows : GoodIn wsX7_takes wsX7_follows := goodIn_r _ [14, 2, 15, 16, 17, 6, 18, 19, 20, 21, 22, 23, 24, 25, 26, 27, 28, 29, 30] (by decide +kernel) (by decide +kernel)
set_option maxRecDepth 20000 in
theorem gX7_takes_X7_follows : GoodIn wsX7_takes (wsV RX7 53 RX7 yX7_follows wsX7_follows) := goodIn_app (goodIn_of _ (by decide +kernel)) ggX7_takes_X7_follows
theorem dX7_takes_0 : decode cX7_takes 0 = .ok (.aload_n 0, 1) := by decide +kernel
theorem dX7_takes_1 : decode cX7_takes 1 = .ok (.iload_n 1, 1) := by decide +kernel
theorem dX7_takes_2 : decode cX7_takes 2 = .ok (.invokevirtual 39, 3) := by decide +kernel
theorem dX7_takes_5 : decode cX7_takes 5 = .ok (.ifCond .ne 6, 3) := by decide +kernel
theorem dX7_takes_8 : decode cX7_takes 8 = .ok (.ldc 43, 2) := by decide +kernel
theorem dX7_takes_10 : decode cX7_takes 10 = .ok (.ireturn, 1) := by decide +kernel
theorem dX7_takes_11 : decode cX7_takes 11 = .ok (.aload_n 0, 1) := by decide +kernel
theorem dX7_takes_12 : decode cX7_takes 12 = .ok (.getfield 7, 3) := by decide +kernel
theorem dX7_takes_15 : decode cX7_takes 15 = .ok (.bipush 8, 2) := by decide +kernel
theorem dX7_takes_17 : decode cX7_takes 17 = .ok (.iload_n 1, 1) := by decide +kernel
theorem dX7_takes_18 : decode cX7_takes 18 = .ok (.iadd, 1) := by decide +kernel
theorem dX7_takes_19 : decode cX7_takes 19 = .ok (.iaload, 1) := by decide +kernel
theorem dX7_takes_20 : decode cX7_takes 20 = .ok (.istore_n 2, 1) := by decide +kernel
theorem dX7_takes_21 : decode cX7_takes 21 = .ok (.aload_n 0, 1) := by decide +kernel
theorem dX7_takes_22 : decode cX7_takes 22 = .ok (.getfield 7, 3) := by decide +kernel
theorem dX7_takes_25 : decode cX7_takes 25 = .ok (.iconst 0, 1) := by decide +kernel
theorem dX7_takes_26 : decode cX7_takes 26 = .ok (.dup2, 1) := by decide +kernel
theorem dX7_takes_27 : decode cX7_takes 27 = .ok (.iaload, 1) := by decide +kernel
theorem dX7_takes_28 : decode cX7_takes 28 = .ok (.iconst 1, 1) := by decide +kernel
theorem dX7_takes_29 : decode cX7_takes 29 = .ok (.isub, 1) := by decide +kernel
theorem dX7_takes_30 : decode cX7_takes 30 = .ok (.iastore, 1) := by decide +kernel
theorem dX7_takes_31 : decode cX7_takes 31 = .ok (.iload_n 1, 1) := by decide +kernel
theorem dX7_takes_32 : decode cX7_takes 32 = .ok (.istore_n 3, 1) := by decide +kernel
theorem dX7_takes_33 : decode cX7_takes 33 = .ok (.iload_n 3, 1) := by decide +kernel
theorem dX7_takes_34 : decode cX7_takes 34 = .ok (.aload_n 0, 1) := by decide +kernel
theorem dX7_takes_35 : decode cX7_takes 35 = .ok (.getfield 7, 3) := by decide +kernel
theorem dX7_takes_38 : decode cX7_takes 38 = .ok (.iconst 0, 1) := by decide +kernel
theorem dX7_takes_39 : decode cX7_takes 39 = .ok (.iaload, 1) := by decide +kernel
theorem dX7_takes_40 : decode cX7_takes 40 = .ok (.if_icmp .ge 29, 3) := by decide +kernel
theorem dX7_takes_43 : decode cX7_takes 43 = .ok (.aload_n 0, 1) := by decide +kernel
theorem dX7_takes_44 : decode cX7_takes 44 = .ok (.getfield 7, 3) := by decide +kernel
theorem dX7_takes_47 : decode cX7_takes 47 = .ok (.bipush 8, 2) := by decide +kernel
theorem dX7_takes_49 : decode cX7_takes 49 = .ok (.iload_n 3, 1) := by decide +kernel
theorem dX7_takes_50 : decode cX7_takes 50 = .ok (.iadd, 1) := by decide +kernel
theorem dX7_takes_51 : decode cX7_takes 51 = .ok (.aload_n 0, 1) := by decide +kernel
theorem dX7_takes_52 : decode cX7_takes 52 = .ok (.getfield 7, 3) := by decide +kernel
theorem dX7_takes_55 : decode cX7_takes 55 = .ok (.bipush 8, 2) := by decide +kernel
theorem dX7_takes_57 : decode cX7_takes 57 = .ok (.iload_n 3, 1) := by decide +kernel
theorem dX7_takes_58 : decode cX7_takes 58 = .ok (.iadd, 1) := by decide +kernel
theorem dX7_takes_59 : decode cX7_takes 59 = .ok (.iconst 1, 1) := by decide +kernel
theorem dX7_takes_60 : decode cX7_takes 60 = .ok (.iadd, 1) := by decide +kernel
theorem dX7_takes_61 : decode cX7_takes 61 = .ok (.iaload, 1) := by decide +kernel
theorem dX7_takes_62 : decode cX7_takes 62 = .ok (.iastore, 1) := by decide +kernel
theorem dX7_takes_63 : decode cX7_takes 63 = .ok (.iinc 3 1, 3) := by decide +kernel
theorem dX7_takes_66 : decode cX7_takes 66 = .ok (.goto (-33), 3) := by decide +kernel
theorem dX7_takes_69 : decode cX7_takes 69 = .ok (.aload_n 0, 1) := by decide +kernel
theorem dX7_takes_70 : decode cX7_takes 70 = .ok (.getfield 7, 3) := by decide +kernel
theorem dX7_takes_73 : decode cX7_takes 73 = .ok (.iconst 2, 1) := by decide +kernel
theorem dX7_takes_74 : decode cX7_takes 74 = .ok (.dup2, 1) := by decide +kernel
theorem dX7_takes_75 : decode cX7_takes 75 = .ok (.iaload, 1) := by decide +kernel
theorem dX7_takes_76 : decode cX7_takes 76 = .ok (.iconst 1, 1) := by decide +kernel
theorem dX7_takes_77 : decode cX7_takes 77 = .ok (.iadd, 1) := by decide +kernel
theorem dX7_takes_78 : decode cX7_takes 78 = .ok (.iastore, 1) := by decide +kernel
theorem dX7_takes_79 : decode cX7_takes 79 = .ok (.aload_n 0, 1) := by decide +kernel
theorem dX7_takes_80 : decode cX7_takes 80 = .ok (.iload_n 1, 1) := by decide +kernel
theorem dX7_takes_81 : decode cX7_takes 81 = .ok (.iconst (-1), 1) := by decide +kernel
theorem dX7_takes_82 : decode cX7_takes 82 = .ok (.iconst 1, 1) := by decide +kernel
theorem dX7_takes_83 : decode cX7_takes 83 = .ok (.invokevirtual 53, 3) := by decide +kernel
theorem dX7_takes_86 : decode cX7_takes 86 = .ok (.iload_n 2, 1) := by decide +kernel
theorem dX7_takes_87 : decode cX7_takes 87 = .ok (.ireturn, 1) := by decide +kernel
set_option maxRecDepth 20000 in
theorem ggX7_take_X7_keeps : GoodIn wsX7_take wsX7_keeps := goodIn_r _ [5, 6, 7, 34, 35, 36, 37, 38, 39, 40, 41, 42, 43, 44, 45] (by decide +kernel) (by decide +kernel)
set_option maxRecDepth 20000 in
theorem gX7_take_X7_keeps : GoodIn wsX7_take (wsV RX7 57 RX7 yX7_keeps wsX7_keeps) := goodIn_app (goodIn_of _ (by decide +kernel)) ggX7_take_X7_keeps
set_option maxRecDepth 20000 in
theorem ggX7_take_X7_takes : GoodIn wsX7_take wsX7_takes := goodIn_r _ [11, 12, 7, 13, 14, 15, 4, 16, 17, 18, 19, 20, 21, 22, 23, 24, 25, 26, 27, 34, 35, 36, 37, 38, 39, 40, 41, 42, 43, 44, 45] (by decide +kernel) (by decide +kernel)
set_option maxRecDepth 20000 in
theorem gX7_take_X7_takes : GoodIn wsX7_take (wsV RX7 67 RX7 yX7_takes wsX7_takes) := goodIn_app (goodIn_of _ (by decide +kernel)) ggX7_take_X7_takes
set_option maxRecDepth 20000 in
theorem ggX7_take_X7_acted : GoodIn wsX7_take wsX7_acted := goodIn_r _ [31, 12, 32, 33, 6, 34, 35, 36, 37, 38, 39, 40, 41, 42, 43, 44, 45] (by decide +kernel) (by decide +kernel)
set_option maxRecDepth 20000 in
theorem gX7_take_X7_acted : GoodIn wsX7_take (wsV RX7 63 RX7 yX7_acted wsX7_acted) := goodIn_app (goodIn_of _ (by decide +kernel)) ggX7_take_X7_acted
theorem dX7_take_0 : decode cX7_take 0 = .ok (.aload_n 0, 1) := by decide +kernel
theorem dX7_take_1 : decode cX7_take 1 = .ok (.invokevirtual 57, 3) := by decide +kernel
theorem dX7_take_4 : decode cX7_take 4 = .ok (.aload_n 0, 1) := by decide +kernel
theorem dX7_take_5 : decode cX7_take 5 = .ok (.aload_n 0, 1) := by decide +kernel
theorem dX7_take_6 : decode cX7_take 6 = .ok (.iload_n 1, 1) := by decide +kernel
theorem dX7_take_7 : decode cX7_take 7 = .ok (.invokevirtual 67, 3) := by decide +kernel
theorem dX7_take_10 : decode cX7_take 10 = .ok (.invokevirtual 63, 3) := by decide +kernel
theorem dX7_take_13 : decode cX7_take 13 = .ok (.ireturn, 1) := by decide +kernel
set_option maxRecDepth 20000 in
theorem ggX7_changes_X7_isPlace : GoodIn wsX7_changes wsX7_isPlace := goodIn_r _ [7, 2, 8, 9, 6, 10, 19, 20, 21, 22, 23, 24, 25, 26, 27, 28, 29, 30] (by decide +kernel) (by decide +kernel)
set_option maxRecDepth 20000 in
theorem gX7_changes_X7_isPlace : GoodIn wsX7_changes (wsV RX7 39 RX7 yX7_isPlace wsX7_isPlace) := goodIn_app (goodIn_of _ (by decide +kernel)) ggX7_changes_X7_isPlace
set_option maxRecDepth 20000 in
theorem ggX7_changes_X7_in : GoodIn wsX7_changes wsX7_in := goodIn_r _ [10] (by decide +kernel) (by decide +kernel)
set_option maxRecDepth 20000 in
theorem gX7_changes_X7_in : GoodIn wsX7_changes (va_wsS RX7 35 yX7_in wsX7_in) := goodIn_app (goodIn_of _ (by decide +kernel)) ggX7_changes_X7_in
set_option maxRecDepth 20000 in
theorem ggX7_changes_X7_follows : GoodIn wsX7_changes wsX7_follows := goodIn_r _ [14, 2, 15, 16, 17, 6, 18, 19, 20, 21, 22, 23, 24, 25, 26, 27, 28, 29, 30] (by decide +kernel) (by decide +kernel)
set_option maxRecDepth 20000 in
theorem gX7_changes_X7_follows : GoodIn wsX7_changes (wsV RX7 53 RX7 yX7_follows wsX7_follows) := goodIn_app (goodIn_of _ (by decide +kernel)) ggX7_changes_X7_follows
theorem dX7_changes_0 : decode cX7_changes 0 = .ok (.aload_n 0, 1) := by decide +kernel
theorem dX7_changes_1 : decode cX7_changes 1 = .ok (.iload_n 1, 1) := by decide +kernel
theorem dX7_changes_2 : decode cX7_changes 2 = .ok (.invokevirtual 39, 3) := by decide +kernel
theorem dX7_changes_5 : decode cX7_changes 5 = .ok (.ifCond .eq 13, 3) := by decide +kernel
theorem dX7_changes_8 : decode cX7_changes 8 = .ok (.iload_n 2, 1) := by decide +kernel
theorem dX7_changes_9 : decode cX7_changes 9 = .ok (.iconst 0, 1) := by decide +kernel
theorem dX7_changes_10 : decode cX7_changes 10 = .ok (.bipush 99, 2) := by decide +kernel
theorem dX7_changes_12 : decode cX7_changes 12 = .ok (.invokestatic 35, 3) := by decide +kernel
theorem dX7_changes_15 : decode cX7_changes 15 = .ok (.ifCond .ne 6, 3) := by decide +kernel
theorem dX7_changes_18 : decode cX7_changes 18 = .ok (.ldc 43, 2) := by decide +kernel
theorem dX7_changes_20 : decode cX7_changes 20 = .ok (.ireturn, 1) := by decide +kernel
theorem dX7_changes_21 : decode cX7_changes 21 = .ok (.aload_n 0, 1) := by decide +kernel
theorem dX7_changes_22 : decode cX7_changes 22 = .ok (.getfield 7, 3) := by decide +kernel
theorem dX7_changes_25 : decode cX7_changes 25 = .ok (.bipush 8, 2) := by decide +kernel
theorem dX7_changes_27 : decode cX7_changes 27 = .ok (.iload_n 1, 1) := by decide +kernel
theorem dX7_changes_28 : decode cX7_changes 28 = .ok (.iadd, 1) := by decide +kernel
theorem dX7_changes_29 : decode cX7_changes 29 = .ok (.iaload, 1) := by decide +kernel
theorem dX7_changes_30 : decode cX7_changes 30 = .ok (.istore_n 3, 1) := by decide +kernel
theorem dX7_changes_31 : decode cX7_changes 31 = .ok (.aload_n 0, 1) := by decide +kernel
theorem dX7_changes_32 : decode cX7_changes 32 = .ok (.getfield 7, 3) := by decide +kernel
theorem dX7_changes_35 : decode cX7_changes 35 = .ok (.bipush 8, 2) := by decide +kernel
theorem dX7_changes_37 : decode cX7_changes 37 = .ok (.iload_n 1, 1) := by decide +kernel
theorem dX7_changes_38 : decode cX7_changes 38 = .ok (.iadd, 1) := by decide +kernel
theorem dX7_changes_39 : decode cX7_changes 39 = .ok (.iload_n 2, 1) := by decide +kernel
theorem dX7_changes_40 : decode cX7_changes 40 = .ok (.iastore, 1) := by decide +kernel
theorem dX7_changes_41 : decode cX7_changes 41 = .ok (.aload_n 0, 1) := by decide +kernel
theorem dX7_changes_42 : decode cX7_changes 42 = .ok (.getfield 7, 3) := by decide +kernel
theorem dX7_changes_45 : decode cX7_changes 45 = .ok (.iconst 2, 1) := by decide +kernel
theorem dX7_changes_46 : decode cX7_changes 46 = .ok (.dup2, 1) := by decide +kernel
theorem dX7_changes_47 : decode cX7_changes 47 = .ok (.iaload, 1) := by decide +kernel
theorem dX7_changes_48 : decode cX7_changes 48 = .ok (.iconst 1, 1) := by decide +kernel
theorem dX7_changes_49 : decode cX7_changes 49 = .ok (.iadd, 1) := by decide +kernel
theorem dX7_changes_50 : decode cX7_changes 50 = .ok (.iastore, 1) := by decide +kernel
theorem dX7_changes_51 : decode cX7_changes 51 = .ok (.aload_n 0, 1) := by decide +kernel
theorem dX7_changes_52 : decode cX7_changes 52 = .ok (.iload_n 1, 1) := by decide +kernel
theorem dX7_changes_53 : decode cX7_changes 53 = .ok (.iconst 0, 1) := by decide +kernel
theorem dX7_changes_54 : decode cX7_changes 54 = .ok (.iconst 1, 1) := by decide +kernel
theorem dX7_changes_55 : decode cX7_changes 55 = .ok (.invokevirtual 53, 3) := by decide +kernel
theorem dX7_changes_58 : decode cX7_changes 58 = .ok (.iload_n 3, 1) := by decide +kernel
theorem dX7_changes_59 : decode cX7_changes 59 = .ok (.ireturn, 1) := by decide +kernel
set_option maxRecDepth 20000 in
theorem ggX7_change_X7_keeps : GoodIn wsX7_change wsX7_keeps := goodIn_r _ [5, 6, 7, 34, 35, 36, 37, 38, 39, 40, 41, 42, 43, 44, 45] (by decide +kernel) (by decide +kernel)
set_option maxRecDepth 20000 in
theorem gX7_change_X7_keeps : GoodIn wsX7_change (wsV RX7 57 RX7 yX7_keeps wsX7_keeps) := goodIn_app (goodIn_of _ (by decide +kernel)) ggX7_change_X7_keeps
set_option maxRecDepth 20000 in
theorem ggX7_change_X7_changes : GoodIn wsX7_change wsX7_changes := goodIn_r _ [11, 12, 7, 13, 14, 15, 4, 16, 17, 18, 19, 20, 21, 22, 23, 24, 25, 26, 27, 34, 35, 36, 37, 38, 39, 40, 41, 42, 43, 44, 45] (by decide +kernel) (by decide +kernel)
set_option maxRecDepth 20000 in
theorem gX7_change_X7_changes : GoodIn wsX7_change (wsV RX7 70 RX7 yX7_changes wsX7_changes) := goodIn_app (goodIn_of _ (by decide +kernel)) ggX7_change_X7_changes
set_option maxRecDepth 20000 in
theorem ggX7_change_X7_acted : GoodIn wsX7_change wsX7_acted := goodIn_r _ [31, 12, 32, 33, 6, 34, 35, 36, 37, 38, 39, 40, 41, 42, 43, 44, 45] (by decide +kernel) (by decide +kernel)
set_option maxRecDepth 20000 in
theorem gX7_change_X7_acted : GoodIn wsX7_change (wsV RX7 63 RX7 yX7_acted wsX7_acted) := goodIn_app (goodIn_of _ (by decide +kernel)) ggX7_change_X7_acted
theorem dX7_change_0 : decode cX7_change 0 = .ok (.aload_n 0, 1) := by decide +kernel
theorem dX7_change_1 : decode cX7_change 1 = .ok (.invokevirtual 57, 3) := by decide +kernel
theorem dX7_change_4 : decode cX7_change 4 = .ok (.aload_n 0, 1) := by decide +kernel
theorem dX7_change_5 : decode cX7_change 5 = .ok (.aload_n 0, 1) := by decide +kernel
theorem dX7_change_6 : decode cX7_change 6 = .ok (.iload_n 1, 1) := by decide +kernel
theorem dX7_change_7 : decode cX7_change 7 = .ok (.iload_n 2, 1) := by decide +kernel
theorem dX7_change_8 : decode cX7_change 8 = .ok (.invokevirtual 70, 3) := by decide +kernel
theorem dX7_change_11 : decode cX7_change 11 = .ok (.invokevirtual 63, 3) := by decide +kernel
theorem dX7_change_14 : decode cX7_change 14 = .ok (.ireturn, 1) := by decide +kernel
set_option maxRecDepth 20000 in
theorem ggX7_then_X7_in : GoodIn wsX7_then wsX7_in := goodIn_r _ [4] (by decide +kernel) (by decide +kernel)
set_option maxRecDepth 20000 in
theorem gX7_then_X7_in : GoodIn wsX7_then (va_wsS RX7 35 yX7_in wsX7_in) := goodIn_app (goodIn_of _ (by decide +kernel)) ggX7_then_X7_in
theorem dX7_then_0 : decode cX7_then 0 = .ok (.iload_n 0, 1) := by decide +kernel
theorem dX7_then_1 : decode cX7_then 1 = .ok (.iload_n 1, 1) := by decide +kernel
theorem dX7_then_2 : decode cX7_then 2 = .ok (.iload_n 1, 1) := by decide +kernel
theorem dX7_then_3 : decode cX7_then 3 = .ok (.iload_n 2, 1) := by decide +kernel
theorem dX7_then_4 : decode cX7_then 4 = .ok (.iadd, 1) := by decide +kernel
theorem dX7_then_5 : decode cX7_then 5 = .ok (.iconst 1, 1) := by decide +kernel
theorem dX7_then_6 : decode cX7_then 6 = .ok (.isub, 1) := by decide +kernel
theorem dX7_then_7 : decode cX7_then 7 = .ok (.invokestatic 35, 3) := by decide +kernel
theorem dX7_then_10 : decode cX7_then 10 = .ok (.ifCond .eq 9, 3) := by decide +kernel
theorem dX7_then_13 : decode cX7_then 13 = .ok (.iload_n 0, 1) := by decide +kernel
theorem dX7_then_14 : decode cX7_then 14 = .ok (.iload_n 1, 1) := by decide +kernel
theorem dX7_then_15 : decode cX7_then 15 = .ok (.isub, 1) := by decide +kernel
theorem dX7_then_16 : decode cX7_then 16 = .ok (.iload_n 3, 1) := by decide +kernel
theorem dX7_then_17 : decode cX7_then 17 = .ok (.iadd, 1) := by decide +kernel
theorem dX7_then_18 : decode cX7_then 18 = .ok (.ireturn, 1) := by decide +kernel
theorem dX7_then_19 : decode cX7_then 19 = .ok (.iload_n 0, 1) := by decide +kernel
theorem dX7_then_20 : decode cX7_then 20 = .ok (.iload_n 1, 1) := by decide +kernel
theorem dX7_then_21 : decode cX7_then 21 = .ok (.if_icmp .ge 7, 3) := by decide +kernel
theorem dX7_then_24 : decode cX7_then 24 = .ok (.iload_n 0, 1) := by decide +kernel
theorem dX7_then_25 : decode cX7_then 25 = .ok (.goto 6, 3) := by decide +kernel
theorem dX7_then_28 : decode cX7_then 28 = .ok (.iload_n 0, 1) := by decide +kernel
theorem dX7_then_29 : decode cX7_then 29 = .ok (.iload_n 2, 1) := by decide +kernel
theorem dX7_then_30 : decode cX7_then 30 = .ok (.isub, 1) := by decide +kernel
theorem dX7_then_31 : decode cX7_then 31 = .ok (.istore 4, 2) := by decide +kernel
theorem dX7_then_33 : decode cX7_then 33 = .ok (.iload 4, 2) := by decide +kernel
theorem dX7_then_35 : decode cX7_then 35 = .ok (.iload_n 3, 1) := by decide +kernel
theorem dX7_then_36 : decode cX7_then 36 = .ok (.if_icmp .ge 8, 3) := by decide +kernel
theorem dX7_then_39 : decode cX7_then 39 = .ok (.iload 4, 2) := by decide +kernel
theorem dX7_then_41 : decode cX7_then 41 = .ok (.goto 7, 3) := by decide +kernel
theorem dX7_then_44 : decode cX7_then 44 = .ok (.iload 4, 2) := by decide +kernel
theorem dX7_then_46 : decode cX7_then 46 = .ok (.iload_n 2, 1) := by decide +kernel
theorem dX7_then_47 : decode cX7_then 47 = .ok (.iadd, 1) := by decide +kernel
theorem dX7_then_48 : decode cX7_then 48 = .ok (.ireturn, 1) := by decide +kernel
set_option maxRecDepth 20000 in
theorem ggX7_moves_X7_isPlace : GoodIn wsX7_moves wsX7_isPlace := goodIn_r _ [8, 1, 9, 10, 7, 11, 19, 20, 21, 22, 23, 24, 25, 26, 27, 28, 29, 30] (by decide +kernel) (by decide +kernel)
set_option maxRecDepth 20000 in
theorem gX7_moves_X7_isPlace : GoodIn wsX7_moves (wsV RX7 39 RX7 yX7_isPlace wsX7_isPlace) := goodIn_app (goodIn_of _ (by decide +kernel)) ggX7_moves_X7_isPlace
set_option maxRecDepth 20000 in
theorem ggX7_moves_X7_in : GoodIn wsX7_moves wsX7_in := goodIn_r _ [11] (by decide +kernel) (by decide +kernel)
set_option maxRecDepth 20000 in
theorem gX7_moves_X7_in : GoodIn wsX7_moves (va_wsS RX7 35 yX7_in wsX7_in) := goodIn_app (goodIn_of _ (by decide +kernel)) ggX7_moves_X7_in
set_option maxRecDepth 20000 in
theorem ggX7_moves_X7_then : GoodIn wsX7_moves wsX7_then := goodIn_r _ [14, 9, 10, 7, 11] (by decide +kernel) (by decide +kernel)
set_option maxRecDepth 20000 in
theorem gX7_moves_X7_then : GoodIn wsX7_moves (va_wsS RX7 73 yX7_then wsX7_then) := goodIn_app (goodIn_of _ (by decide +kernel)) ggX7_moves_X7_then
set_option maxRecDepth 20000 in
theorem ggX7_moves_X7_an : GoodIn wsX7_moves wsX7_an := goodIn_r _ [18, 1, 19, 20, 21, 22, 23, 24, 25, 26, 27, 28, 29, 30] (by decide +kernel) (by decide +kernel)
set_option maxRecDepth 20000 in
theorem gX7_moves_X7_an : GoodIn wsX7_moves (wsV RX7 48 RX7 yX7_an wsX7_an) := goodIn_app (goodIn_of _ (by decide +kernel)) ggX7_moves_X7_an
theorem dX7_moves_0 : decode cX7_moves 0 = .ok (.aload_n 0, 1) := by decide +kernel
theorem dX7_moves_1 : decode cX7_moves 1 = .ok (.iload_n 1, 1) := by decide +kernel
theorem dX7_moves_2 : decode cX7_moves 2 = .ok (.invokevirtual 39, 3) := by decide +kernel
theorem dX7_moves_5 : decode cX7_moves 5 = .ok (.ifCond .eq 36, 3) := by decide +kernel
theorem dX7_moves_8 : decode cX7_moves 8 = .ok (.iload_n 2, 1) := by decide +kernel
theorem dX7_moves_9 : decode cX7_moves 9 = .ok (.iconst 1, 1) := by decide +kernel
theorem dX7_moves_10 : decode cX7_moves 10 = .ok (.if_icmp .lt 31, 3) := by decide +kernel
theorem dX7_moves_13 : decode cX7_moves 13 = .ok (.iload_n 2, 1) := by decide +kernel
theorem dX7_moves_14 : decode cX7_moves 14 = .ok (.aload_n 0, 1) := by decide +kernel
theorem dX7_moves_15 : decode cX7_moves 15 = .ok (.getfield 7, 3) := by decide +kernel
theorem dX7_moves_18 : decode cX7_moves 18 = .ok (.iconst 0, 1) := by decide +kernel
theorem dX7_moves_19 : decode cX7_moves 19 = .ok (.iaload, 1) := by decide +kernel
theorem dX7_moves_20 : decode cX7_moves 20 = .ok (.iload_n 1, 1) := by decide +kernel
theorem dX7_moves_21 : decode cX7_moves 21 = .ok (.isub, 1) := by decide +kernel
theorem dX7_moves_22 : decode cX7_moves 22 = .ok (.if_icmp .gt 19, 3) := by decide +kernel
theorem dX7_moves_25 : decode cX7_moves 25 = .ok (.iload_n 3, 1) := by decide +kernel
theorem dX7_moves_26 : decode cX7_moves 26 = .ok (.iconst 0, 1) := by decide +kernel
theorem dX7_moves_27 : decode cX7_moves 27 = .ok (.aload_n 0, 1) := by decide +kernel
theorem dX7_moves_28 : decode cX7_moves 28 = .ok (.getfield 7, 3) := by decide +kernel
theorem dX7_moves_31 : decode cX7_moves 31 = .ok (.iconst 0, 1) := by decide +kernel
theorem dX7_moves_32 : decode cX7_moves 32 = .ok (.iaload, 1) := by decide +kernel
theorem dX7_moves_33 : decode cX7_moves 33 = .ok (.iload_n 2, 1) := by decide +kernel
theorem dX7_moves_34 : decode cX7_moves 34 = .ok (.isub, 1) := by decide +kernel
theorem dX7_moves_35 : decode cX7_moves 35 = .ok (.invokestatic 35, 3) := by decide +kernel
theorem dX7_moves_38 : decode cX7_moves 38 = .ok (.ifCond .ne 6, 3) := by decide +kernel
theorem dX7_moves_41 : decode cX7_moves 41 = .ok (.ldc 43, 2) := by decide +kernel
theorem dX7_moves_43 : decode cX7_moves 43 = .ok (.ireturn, 1) := by decide +kernel
theorem dX7_moves_44 : decode cX7_moves 44 = .ok (.iconst 0, 1) := by decide +kernel
theorem dX7_moves_45 : decode cX7_moves 45 = .ok (.istore 4, 2) := by decide +kernel
theorem dX7_moves_47 : decode cX7_moves 47 = .ok (.iconst 0, 1) := by decide +kernel
theorem dX7_moves_48 : decode cX7_moves 48 = .ok (.istore 5, 2) := by decide +kernel
theorem dX7_moves_50 : decode cX7_moves 50 = .ok (.iload 5, 2) := by decide +kernel
theorem dX7_moves_52 : decode cX7_moves 52 = .ok (.aload_n 0, 1) := by decide +kernel
theorem dX7_moves_53 : decode cX7_moves 53 = .ok (.getfield 7, 3) := by decide +kernel
theorem dX7_moves_56 : decode cX7_moves 56 = .ok (.iconst 0, 1) := by decide +kernel
theorem dX7_moves_57 : decode cX7_moves 57 = .ok (.iaload, 1) := by decide +kernel
theorem dX7_moves_58 : decode cX7_moves 58 = .ok (.if_icmp .ge 53, 3) := by decide +kernel
theorem dX7_moves_61 : decode cX7_moves 61 = .ok (.iload 5, 2) := by decide +kernel
theorem dX7_moves_63 : decode cX7_moves 63 = .ok (.iload_n 1, 1) := by decide +kernel
theorem dX7_moves_64 : decode cX7_moves 64 = .ok (.iload_n 2, 1) := by decide +kernel
theorem dX7_moves_65 : decode cX7_moves 65 = .ok (.iload_n 3, 1) := by decide +kernel
theorem dX7_moves_66 : decode cX7_moves 66 = .ok (.invokestatic 73, 3) := by decide +kernel
theorem dX7_moves_69 : decode cX7_moves 69 = .ok (.istore 6, 2) := by decide +kernel
theorem dX7_moves_71 : decode cX7_moves 71 = .ok (.aload_n 0, 1) := by decide +kernel
theorem dX7_moves_72 : decode cX7_moves 72 = .ok (.getfield 29, 3) := by decide +kernel
theorem dX7_moves_75 : decode cX7_moves 75 = .ok (.iload 6, 2) := by decide +kernel
theorem dX7_moves_77 : decode cX7_moves 77 = .ok (.aload_n 0, 1) := by decide +kernel
theorem dX7_moves_78 : decode cX7_moves 78 = .ok (.getfield 7, 3) := by decide +kernel
theorem dX7_moves_81 : decode cX7_moves 81 = .ok (.bipush 8, 2) := by decide +kernel
theorem dX7_moves_83 : decode cX7_moves 83 = .ok (.iload 5, 2) := by decide +kernel
theorem dX7_moves_85 : decode cX7_moves 85 = .ok (.iadd, 1) := by decide +kernel
theorem dX7_moves_86 : decode cX7_moves 86 = .ok (.iaload, 1) := by decide +kernel
theorem dX7_moves_87 : decode cX7_moves 87 = .ok (.iastore, 1) := by decide +kernel
theorem dX7_moves_88 : decode cX7_moves 88 = .ok (.iload 4, 2) := by decide +kernel
theorem dX7_moves_90 : decode cX7_moves 90 = .ok (.iload 6, 2) := by decide +kernel
theorem dX7_moves_92 : decode cX7_moves 92 = .ok (.iload 5, 2) := by decide +kernel
theorem dX7_moves_94 : decode cX7_moves 94 = .ok (.if_icmp .eq 7, 3) := by decide +kernel
theorem dX7_moves_97 : decode cX7_moves 97 = .ok (.iconst 1, 1) := by decide +kernel
theorem dX7_moves_98 : decode cX7_moves 98 = .ok (.goto 4, 3) := by decide +kernel
theorem dX7_moves_101 : decode cX7_moves 101 = .ok (.iconst 0, 1) := by decide +kernel
theorem dX7_moves_102 : decode cX7_moves 102 = .ok (.iadd, 1) := by decide +kernel
theorem dX7_moves_103 : decode cX7_moves 103 = .ok (.istore 4, 2) := by decide +kernel
theorem dX7_moves_105 : decode cX7_moves 105 = .ok (.iinc 5 1, 3) := by decide +kernel
theorem dX7_moves_108 : decode cX7_moves 108 = .ok (.goto (-58), 3) := by decide +kernel
theorem dX7_moves_111 : decode cX7_moves 111 = .ok (.iconst 0, 1) := by decide +kernel
theorem dX7_moves_112 : decode cX7_moves 112 = .ok (.istore 5, 2) := by decide +kernel
theorem dX7_moves_114 : decode cX7_moves 114 = .ok (.iload 5, 2) := by decide +kernel
theorem dX7_moves_116 : decode cX7_moves 116 = .ok (.aload_n 0, 1) := by decide +kernel
theorem dX7_moves_117 : decode cX7_moves 117 = .ok (.getfield 7, 3) := by decide +kernel
theorem dX7_moves_120 : decode cX7_moves 120 = .ok (.iconst 0, 1) := by decide +kernel
theorem dX7_moves_121 : decode cX7_moves 121 = .ok (.iaload, 1) := by decide +kernel
theorem dX7_moves_122 : decode cX7_moves 122 = .ok (.if_icmp .ge 26, 3) := by decide +kernel
theorem dX7_moves_125 : decode cX7_moves 125 = .ok (.aload_n 0, 1) := by decide +kernel
theorem dX7_moves_126 : decode cX7_moves 126 = .ok (.getfield 7, 3) := by decide +kernel
theorem dX7_moves_129 : decode cX7_moves 129 = .ok (.bipush 8, 2) := by decide +kernel
theorem dX7_moves_131 : decode cX7_moves 131 = .ok (.iload 5, 2) := by decide +kernel
theorem dX7_moves_133 : decode cX7_moves 133 = .ok (.iadd, 1) := by decide +kernel
theorem dX7_moves_134 : decode cX7_moves 134 = .ok (.aload_n 0, 1) := by decide +kernel
theorem dX7_moves_135 : decode cX7_moves 135 = .ok (.getfield 29, 3) := by decide +kernel
theorem dX7_moves_138 : decode cX7_moves 138 = .ok (.iload 5, 2) := by decide +kernel
theorem dX7_moves_140 : decode cX7_moves 140 = .ok (.iaload, 1) := by decide +kernel
theorem dX7_moves_141 : decode cX7_moves 141 = .ok (.iastore, 1) := by decide +kernel
theorem dX7_moves_142 : decode cX7_moves 142 = .ok (.iinc 5 1, 3) := by decide +kernel
theorem dX7_moves_145 : decode cX7_moves 145 = .ok (.goto (-31), 3) := by decide +kernel
theorem dX7_moves_148 : decode cX7_moves 148 = .ok (.iconst 0, 1) := by decide +kernel
theorem dX7_moves_149 : decode cX7_moves 149 = .ok (.istore 5, 2) := by decide +kernel
theorem dX7_moves_151 : decode cX7_moves 151 = .ok (.iload 5, 2) := by decide +kernel
theorem dX7_moves_153 : decode cX7_moves 153 = .ok (.aload_n 0, 1) := by decide +kernel
theorem dX7_moves_154 : decode cX7_moves 154 = .ok (.getfield 7, 3) := by decide +kernel
theorem dX7_moves_157 : decode cX7_moves 157 = .ok (.iconst 1, 1) := by decide +kernel
theorem dX7_moves_158 : decode cX7_moves 158 = .ok (.iaload, 1) := by decide +kernel
theorem dX7_moves_159 : decode cX7_moves 159 = .ok (.if_icmp .ge 50, 3) := by decide +kernel
theorem dX7_moves_162 : decode cX7_moves 162 = .ok (.aload_n 0, 1) := by decide +kernel
theorem dX7_moves_163 : decode cX7_moves 163 = .ok (.iload 5, 2) := by decide +kernel
theorem dX7_moves_165 : decode cX7_moves 165 = .ok (.iconst 1, 1) := by decide +kernel
theorem dX7_moves_166 : decode cX7_moves 166 = .ok (.invokevirtual 48, 3) := by decide +kernel
theorem dX7_moves_169 : decode cX7_moves 169 = .ok (.istore 6, 2) := by decide +kernel
theorem dX7_moves_171 : decode cX7_moves 171 = .ok (.aload_n 0, 1) := by decide +kernel
theorem dX7_moves_172 : decode cX7_moves 172 = .ok (.getfield 7, 3) := by decide +kernel
theorem dX7_moves_175 : decode cX7_moves 175 = .ok (.bipush 48, 2) := by decide +kernel
theorem dX7_moves_177 : decode cX7_moves 177 = .ok (.bipush 7, 2) := by decide +kernel
theorem dX7_moves_179 : decode cX7_moves 179 = .ok (.iload 5, 2) := by decide +kernel
theorem dX7_moves_181 : decode cX7_moves 181 = .ok (.imul, 1) := by decide +kernel
theorem dX7_moves_182 : decode cX7_moves 182 = .ok (.iadd, 1) := by decide +kernel
theorem dX7_moves_183 : decode cX7_moves 183 = .ok (.iconst 1, 1) := by decide +kernel
theorem dX7_moves_184 : decode cX7_moves 184 = .ok (.iadd, 1) := by decide +kernel
theorem dX7_moves_185 : decode cX7_moves 185 = .ok (.iload 6, 2) := by decide +kernel
theorem dX7_moves_187 : decode cX7_moves 187 = .ok (.ifCond .ge 7, 3) := by decide +kernel
theorem dX7_moves_190 : decode cX7_moves 190 = .ok (.iconst (-1), 1) := by decide +kernel
theorem dX7_moves_191 : decode cX7_moves 191 = .ok (.goto 11, 3) := by decide +kernel
theorem dX7_moves_194 : decode cX7_moves 194 = .ok (.iload 6, 2) := by decide +kernel
theorem dX7_moves_196 : decode cX7_moves 196 = .ok (.iload_n 1, 1) := by decide +kernel
theorem dX7_moves_197 : decode cX7_moves 197 = .ok (.iload_n 2, 1) := by decide +kernel
theorem dX7_moves_198 : decode cX7_moves 198 = .ok (.iload_n 3, 1) := by decide +kernel
theorem dX7_moves_199 : decode cX7_moves 199 = .ok (.invokestatic 73, 3) := by decide +kernel
theorem dX7_moves_202 : decode cX7_moves 202 = .ok (.iastore, 1) := by decide +kernel
theorem dX7_moves_203 : decode cX7_moves 203 = .ok (.iinc 5 1, 3) := by decide +kernel
theorem dX7_moves_206 : decode cX7_moves 206 = .ok (.goto (-55), 3) := by decide +kernel
theorem dX7_moves_209 : decode cX7_moves 209 = .ok (.aload_n 0, 1) := by decide +kernel
theorem dX7_moves_210 : decode cX7_moves 210 = .ok (.getfield 7, 3) := by decide +kernel
theorem dX7_moves_213 : decode cX7_moves 213 = .ok (.iconst 2, 1) := by decide +kernel
theorem dX7_moves_214 : decode cX7_moves 214 = .ok (.dup2, 1) := by decide +kernel
theorem dX7_moves_215 : decode cX7_moves 215 = .ok (.iaload, 1) := by decide +kernel
theorem dX7_moves_216 : decode cX7_moves 216 = .ok (.iconst 1, 1) := by decide +kernel
theorem dX7_moves_217 : decode cX7_moves 217 = .ok (.iadd, 1) := by decide +kernel
theorem dX7_moves_218 : decode cX7_moves 218 = .ok (.iastore, 1) := by decide +kernel
theorem dX7_moves_219 : decode cX7_moves 219 = .ok (.iload 4, 2) := by decide +kernel
theorem dX7_moves_221 : decode cX7_moves 221 = .ok (.ireturn, 1) := by decide +kernel
set_option maxRecDepth 20000 in
theorem ggX7_move_X7_keeps : GoodIn wsX7_move wsX7_keeps := goodIn_r _ [5, 6, 7, 34, 35, 36, 37, 38, 39, 40, 41, 42, 43, 44, 45] (by decide +kernel) (by decide +kernel)
set_option maxRecDepth 20000 in
theorem gX7_move_X7_keeps : GoodIn wsX7_move (wsV RX7 57 RX7 yX7_keeps wsX7_keeps) := goodIn_app (goodIn_of _ (by decide +kernel)) ggX7_move_X7_keeps
set_option maxRecDepth 20000 in
theorem ggX7_move_X7_moves : GoodIn wsX7_move wsX7_moves := goodIn_r _ [11, 7, 12, 13, 14, 15, 16, 4, 17, 18, 19, 20, 21, 22, 23, 24, 25, 26, 27, 34, 35, 36, 37, 38, 39, 40, 41, 42, 43, 44, 45] (by decide +kernel) (by decide +kernel)
set_option maxRecDepth 20000 in
theorem gX7_move_X7_moves : GoodIn wsX7_move (wsV RX7 77 RX7 yX7_moves wsX7_moves) := goodIn_app (goodIn_of _ (by decide +kernel)) ggX7_move_X7_moves
set_option maxRecDepth 20000 in
theorem ggX7_move_X7_acted : GoodIn wsX7_move wsX7_acted := goodIn_r _ [31, 12, 32, 33, 6, 34, 35, 36, 37, 38, 39, 40, 41, 42, 43, 44, 45] (by decide +kernel) (by decide +kernel)
set_option maxRecDepth 20000 in
theorem gX7_move_X7_acted : GoodIn wsX7_move (wsV RX7 63 RX7 yX7_acted wsX7_acted) := goodIn_app (goodIn_of _ (by decide +kernel)) ggX7_move_X7_acted
theorem dX7_move_0 : decode cX7_move 0 = .ok (.aload_n 0, 1) := by decide +kernel
theorem dX7_move_1 : decode cX7_move 1 = .ok (.invokevirtual 57, 3) := by decide +kernel
theorem dX7_move_4 : decode cX7_move 4 = .ok (.aload_n 0, 1) := by decide +kernel
theorem dX7_move_5 : decode cX7_move 5 = .ok (.aload_n 0, 1) := by decide +kernel
theorem dX7_move_6 : decode cX7_move 6 = .ok (.iload_n 1, 1) := by decide +kernel
theorem dX7_move_7 : decode cX7_move 7 = .ok (.iload_n 2, 1) := by decide +kernel
theorem dX7_move_8 : decode cX7_move 8 = .ok (.iload_n 3, 1) := by decide +kernel
theorem dX7_move_9 : decode cX7_move 9 = .ok (.invokevirtual 77, 3) := by decide +kernel
theorem dX7_move_12 : decode cX7_move 12 = .ok (.invokevirtual 63, 3) := by decide +kernel
theorem dX7_move_15 : decode cX7_move 15 = .ok (.ireturn, 1) := by decide +kernel
set_option maxRecDepth 20000 in
theorem ggX7_remembers_X7_an : GoodIn wsX7_remembers wsX7_an := goodIn_r _ [6, 1, 18, 19, 20, 21, 22, 23, 24, 25, 26, 27, 28, 29] (by decide +kernel) (by decide +kernel)
set_option maxRecDepth 20000 in
theorem gX7_remembers_X7_an : GoodIn wsX7_remembers (wsV RX7 48 RX7 yX7_an wsX7_an) := goodIn_app (goodIn_of _ (by decide +kernel)) ggX7_remembers_X7_an
set_option maxRecDepth 20000 in
theorem ggX7_remembers_X7_word : GoodIn wsX7_remembers wsX7_word := goodIn_r _ [10, 1, 11, 12, 13, 5, 14, 15, 16, 17, 18, 19, 20, 21, 22, 23, 24, 25, 26, 27, 28, 29] (by decide +kernel) (by decide +kernel)
set_option maxRecDepth 20000 in
theorem gX7_remembers_X7_word : GoodIn wsX7_remembers (wsV RX7 81 RX7 yX7_word wsX7_word) := goodIn_app (goodIn_of _ (by decide +kernel)) ggX7_remembers_X7_word
theorem dX7_remembers_0 : decode cX7_remembers 0 = .ok (.iconst 0, 1) := by decide +kernel
theorem dX7_remembers_1 : decode cX7_remembers 1 = .ok (.istore_n 2, 1) := by decide +kernel
theorem dX7_remembers_2 : decode cX7_remembers 2 = .ok (.iconst 0, 1) := by decide +kernel
theorem dX7_remembers_3 : decode cX7_remembers 3 = .ok (.istore_n 3, 1) := by decide +kernel
theorem dX7_remembers_4 : decode cX7_remembers 4 = .ok (.iload_n 3, 1) := by decide +kernel
theorem dX7_remembers_5 : decode cX7_remembers 5 = .ok (.iconst 5, 1) := by decide +kernel
theorem dX7_remembers_6 : decode cX7_remembers 6 = .ok (.if_icmp .ge 64, 3) := by decide +kernel
theorem dX7_remembers_9 : decode cX7_remembers 9 = .ok (.aload_n 0, 1) := by decide +kernel
theorem dX7_remembers_10 : decode cX7_remembers 10 = .ok (.aload_n 0, 1) := by decide +kernel
theorem dX7_remembers_11 : decode cX7_remembers 11 = .ok (.iload_n 1, 1) := by decide +kernel
theorem dX7_remembers_12 : decode cX7_remembers 12 = .ok (.iconst 0, 1) := by decide +kernel
theorem dX7_remembers_13 : decode cX7_remembers 13 = .ok (.invokevirtual 48, 3) := by decide +kernel
theorem dX7_remembers_16 : decode cX7_remembers 16 = .ok (.iload_n 3, 1) := by decide +kernel
theorem dX7_remembers_17 : decode cX7_remembers 17 = .ok (.iadd, 1) := by decide +kernel
theorem dX7_remembers_18 : decode cX7_remembers 18 = .ok (.iconst 2, 1) := by decide +kernel
theorem dX7_remembers_19 : decode cX7_remembers 19 = .ok (.isub, 1) := by decide +kernel
theorem dX7_remembers_20 : decode cX7_remembers 20 = .ok (.invokevirtual 81, 3) := by decide +kernel
theorem dX7_remembers_23 : decode cX7_remembers 23 = .ok (.istore 4, 2) := by decide +kernel
theorem dX7_remembers_25 : decode cX7_remembers 25 = .ok (.iload_n 2, 1) := by decide +kernel
theorem dX7_remembers_26 : decode cX7_remembers 26 = .ok (.iload 4, 2) := by decide +kernel
theorem dX7_remembers_28 : decode cX7_remembers 28 = .ok (.aload_n 0, 1) := by decide +kernel
theorem dX7_remembers_29 : decode cX7_remembers 29 = .ok (.iload_n 1, 1) := by decide +kernel
theorem dX7_remembers_30 : decode cX7_remembers 30 = .ok (.iconst 2, 1) := by decide +kernel
theorem dX7_remembers_31 : decode cX7_remembers 31 = .ok (.iload_n 3, 1) := by decide +kernel
theorem dX7_remembers_32 : decode cX7_remembers 32 = .ok (.iadd, 1) := by decide +kernel
theorem dX7_remembers_33 : decode cX7_remembers 33 = .ok (.invokevirtual 48, 3) := by decide +kernel
theorem dX7_remembers_36 : decode cX7_remembers 36 = .ok (.if_icmp .eq 7, 3) := by decide +kernel
theorem dX7_remembers_39 : decode cX7_remembers 39 = .ok (.iconst 1, 1) := by decide +kernel
theorem dX7_remembers_40 : decode cX7_remembers 40 = .ok (.goto 4, 3) := by decide +kernel
theorem dX7_remembers_43 : decode cX7_remembers 43 = .ok (.iconst 0, 1) := by decide +kernel
theorem dX7_remembers_44 : decode cX7_remembers 44 = .ok (.iadd, 1) := by decide +kernel
theorem dX7_remembers_45 : decode cX7_remembers 45 = .ok (.istore_n 2, 1) := by decide +kernel
theorem dX7_remembers_46 : decode cX7_remembers 46 = .ok (.aload_n 0, 1) := by decide +kernel
theorem dX7_remembers_47 : decode cX7_remembers 47 = .ok (.getfield 7, 3) := by decide +kernel
theorem dX7_remembers_50 : decode cX7_remembers 50 = .ok (.bipush 48, 2) := by decide +kernel
theorem dX7_remembers_52 : decode cX7_remembers 52 = .ok (.bipush 7, 2) := by decide +kernel
theorem dX7_remembers_54 : decode cX7_remembers 54 = .ok (.iload_n 1, 1) := by decide +kernel
theorem dX7_remembers_55 : decode cX7_remembers 55 = .ok (.imul, 1) := by decide +kernel
theorem dX7_remembers_56 : decode cX7_remembers 56 = .ok (.iadd, 1) := by decide +kernel
theorem dX7_remembers_57 : decode cX7_remembers 57 = .ok (.iconst 2, 1) := by decide +kernel
theorem dX7_remembers_58 : decode cX7_remembers 58 = .ok (.iadd, 1) := by decide +kernel
theorem dX7_remembers_59 : decode cX7_remembers 59 = .ok (.iload_n 3, 1) := by decide +kernel
theorem dX7_remembers_60 : decode cX7_remembers 60 = .ok (.iadd, 1) := by decide +kernel
theorem dX7_remembers_61 : decode cX7_remembers 61 = .ok (.iload 4, 2) := by decide +kernel
theorem dX7_remembers_63 : decode cX7_remembers 63 = .ok (.iastore, 1) := by decide +kernel
theorem dX7_remembers_64 : decode cX7_remembers 64 = .ok (.iinc 3 1, 3) := by decide +kernel
theorem dX7_remembers_67 : decode cX7_remembers 67 = .ok (.goto (-63), 3) := by decide +kernel
theorem dX7_remembers_70 : decode cX7_remembers 70 = .ok (.aload_n 0, 1) := by decide +kernel
theorem dX7_remembers_71 : decode cX7_remembers 71 = .ok (.getfield 7, 3) := by decide +kernel
theorem dX7_remembers_74 : decode cX7_remembers 74 = .ok (.bipush 48, 2) := by decide +kernel
theorem dX7_remembers_76 : decode cX7_remembers 76 = .ok (.bipush 7, 2) := by decide +kernel
theorem dX7_remembers_78 : decode cX7_remembers 78 = .ok (.iload_n 1, 1) := by decide +kernel
theorem dX7_remembers_79 : decode cX7_remembers 79 = .ok (.imul, 1) := by decide +kernel
theorem dX7_remembers_80 : decode cX7_remembers 80 = .ok (.iadd, 1) := by decide +kernel
theorem dX7_remembers_81 : decode cX7_remembers 81 = .ok (.iconst 1, 1) := by decide +kernel
theorem dX7_remembers_82 : decode cX7_remembers 82 = .ok (.iadd, 1) := by decide +kernel
theorem dX7_remembers_83 : decode cX7_remembers 83 = .ok (.aload_n 0, 1) := by decide +kernel
theorem dX7_remembers_84 : decode cX7_remembers 84 = .ok (.iload_n 1, 1) := by decide +kernel
theorem dX7_remembers_85 : decode cX7_remembers 85 = .ok (.iconst 0, 1) := by decide +kernel
theorem dX7_remembers_86 : decode cX7_remembers 86 = .ok (.invokevirtual 48, 3) := by decide +kernel
theorem dX7_remembers_89 : decode cX7_remembers 89 = .ok (.iastore, 1) := by decide +kernel
theorem dX7_remembers_90 : decode cX7_remembers 90 = .ok (.iload_n 2, 1) := by decide +kernel
theorem dX7_remembers_91 : decode cX7_remembers 91 = .ok (.ireturn, 1) := by decide +kernel
set_option maxRecDepth 20000 in
theorem ggX7_anchor_X7_isPlace : GoodIn wsX7_anchor wsX7_isPlace := goodIn_r _ [8, 2, 9, 10, 7, 11, 35, 36, 37, 38, 39, 40, 41, 42, 43, 44, 45, 46] (by decide +kernel) (by decide +kernel)
set_option maxRecDepth 20000 in
theorem gX7_anchor_X7_isPlace : GoodIn wsX7_anchor (wsV RX7 39 RX7 yX7_isPlace wsX7_isPlace) := goodIn_app (goodIn_of _ (by decide +kernel)) ggX7_anchor_X7_isPlace
set_option maxRecDepth 20000 in
theorem ggX7_anchor_X7_keeps : GoodIn wsX7_anchor wsX7_keeps := goodIn_r _ [15, 16, 2, 35, 36, 37, 38, 39, 40, 41, 42, 43, 44, 45, 46] (by decide +kernel) (by decide +kernel)
set_option maxRecDepth 20000 in
theorem gX7_anchor_X7_keeps : GoodIn wsX7_anchor (wsV RX7 57 RX7 yX7_keeps wsX7_keeps) := goodIn_app (goodIn_of _ (by decide +kernel)) ggX7_anchor_X7_keeps
set_option maxRecDepth 20000 in
theorem ggX7_anchor_X7_remembers : GoodIn wsX7_anchor wsX7_remembers := goodIn_r _ [20, 2, 21, 22, 23, 7, 24, 25, 26, 27, 28, 4, 5, 6, 8, 9, 10, 11, 35, 36, 37, 38, 39, 40, 41, 42, 43, 44, 45, 46] (by decide +kernel) (by decide +kernel)
set_option maxRecDepth 20000 in
theorem gX7_anchor_X7_remembers : GoodIn wsX7_anchor (wsV RX7 84 RX7 yX7_remembers wsX7_remembers) := goodIn_app (goodIn_of _ (by decide +kernel)) ggX7_anchor_X7_remembers
set_option maxRecDepth 20000 in
theorem ggX7_anchor_X7_acted : GoodIn wsX7_anchor wsX7_acted := goodIn_r _ [32, 1, 33, 34, 16, 35, 36, 37, 38, 39, 40, 41, 42, 43, 44, 45, 46] (by decide +kernel) (by decide +kernel)
set_option maxRecDepth 20000 in
theorem gX7_anchor_X7_acted : GoodIn wsX7_anchor (wsV RX7 63 RX7 yX7_acted wsX7_acted) := goodIn_app (goodIn_of _ (by decide +kernel)) ggX7_anchor_X7_acted
theorem dX7_anchor_0 : decode cX7_anchor 0 = .ok (.aload_n 0, 1) := by decide +kernel
theorem dX7_anchor_1 : decode cX7_anchor 1 = .ok (.iload_n 1, 1) := by decide +kernel
theorem dX7_anchor_2 : decode cX7_anchor 2 = .ok (.invokevirtual 39, 3) := by decide +kernel
theorem dX7_anchor_5 : decode cX7_anchor 5 = .ok (.ifCond .ne 6, 3) := by decide +kernel
theorem dX7_anchor_8 : decode cX7_anchor 8 = .ok (.ldc 43, 2) := by decide +kernel
theorem dX7_anchor_10 : decode cX7_anchor 10 = .ok (.ireturn, 1) := by decide +kernel
theorem dX7_anchor_11 : decode cX7_anchor 11 = .ok (.aload_n 0, 1) := by decide +kernel
theorem dX7_anchor_12 : decode cX7_anchor 12 = .ok (.getfield 7, 3) := by decide +kernel
theorem dX7_anchor_15 : decode cX7_anchor 15 = .ok (.iconst 1, 1) := by decide +kernel
theorem dX7_anchor_16 : decode cX7_anchor 16 = .ok (.iaload, 1) := by decide +kernel
theorem dX7_anchor_17 : decode cX7_anchor 17 = .ok (.bipush 6, 2) := by decide +kernel
theorem dX7_anchor_19 : decode cX7_anchor 19 = .ok (.if_icmp .ne 6, 3) := by decide +kernel
theorem dX7_anchor_22 : decode cX7_anchor 22 = .ok (.ldc 52, 2) := by decide +kernel
theorem dX7_anchor_24 : decode cX7_anchor 24 = .ok (.ireturn, 1) := by decide +kernel
theorem dX7_anchor_25 : decode cX7_anchor 25 = .ok (.aload_n 0, 1) := by decide +kernel
theorem dX7_anchor_26 : decode cX7_anchor 26 = .ok (.invokevirtual 57, 3) := by decide +kernel
theorem dX7_anchor_29 : decode cX7_anchor 29 = .ok (.aload_n 0, 1) := by decide +kernel
theorem dX7_anchor_30 : decode cX7_anchor 30 = .ok (.getfield 7, 3) := by decide +kernel
theorem dX7_anchor_33 : decode cX7_anchor 33 = .ok (.iconst 1, 1) := by decide +kernel
theorem dX7_anchor_34 : decode cX7_anchor 34 = .ok (.iaload, 1) := by decide +kernel
theorem dX7_anchor_35 : decode cX7_anchor 35 = .ok (.istore_n 2, 1) := by decide +kernel
theorem dX7_anchor_36 : decode cX7_anchor 36 = .ok (.aload_n 0, 1) := by decide +kernel
theorem dX7_anchor_37 : decode cX7_anchor 37 = .ok (.getfield 7, 3) := by decide +kernel
theorem dX7_anchor_40 : decode cX7_anchor 40 = .ok (.bipush 48, 2) := by decide +kernel
theorem dX7_anchor_42 : decode cX7_anchor 42 = .ok (.bipush 7, 2) := by decide +kernel
theorem dX7_anchor_44 : decode cX7_anchor 44 = .ok (.iload_n 2, 1) := by decide +kernel
theorem dX7_anchor_45 : decode cX7_anchor 45 = .ok (.imul, 1) := by decide +kernel
theorem dX7_anchor_46 : decode cX7_anchor 46 = .ok (.iadd, 1) := by decide +kernel
theorem dX7_anchor_47 : decode cX7_anchor 47 = .ok (.iload_n 1, 1) := by decide +kernel
theorem dX7_anchor_48 : decode cX7_anchor 48 = .ok (.iastore, 1) := by decide +kernel
theorem dX7_anchor_49 : decode cX7_anchor 49 = .ok (.aload_n 0, 1) := by decide +kernel
theorem dX7_anchor_50 : decode cX7_anchor 50 = .ok (.iload_n 2, 1) := by decide +kernel
theorem dX7_anchor_51 : decode cX7_anchor 51 = .ok (.invokevirtual 84, 3) := by decide +kernel
theorem dX7_anchor_54 : decode cX7_anchor 54 = .ok (.pop, 1) := by decide +kernel
theorem dX7_anchor_55 : decode cX7_anchor 55 = .ok (.aload_n 0, 1) := by decide +kernel
theorem dX7_anchor_56 : decode cX7_anchor 56 = .ok (.getfield 7, 3) := by decide +kernel
theorem dX7_anchor_59 : decode cX7_anchor 59 = .ok (.iconst 1, 1) := by decide +kernel
theorem dX7_anchor_60 : decode cX7_anchor 60 = .ok (.dup2, 1) := by decide +kernel
theorem dX7_anchor_61 : decode cX7_anchor 61 = .ok (.iaload, 1) := by decide +kernel
theorem dX7_anchor_62 : decode cX7_anchor 62 = .ok (.iconst 1, 1) := by decide +kernel
theorem dX7_anchor_63 : decode cX7_anchor 63 = .ok (.iadd, 1) := by decide +kernel
theorem dX7_anchor_64 : decode cX7_anchor 64 = .ok (.iastore, 1) := by decide +kernel
theorem dX7_anchor_65 : decode cX7_anchor 65 = .ok (.aload_n 0, 1) := by decide +kernel
theorem dX7_anchor_66 : decode cX7_anchor 66 = .ok (.iload_n 2, 1) := by decide +kernel
theorem dX7_anchor_67 : decode cX7_anchor 67 = .ok (.invokevirtual 63, 3) := by decide +kernel
theorem dX7_anchor_70 : decode cX7_anchor 70 = .ok (.ireturn, 1) := by decide +kernel
set_option maxRecDepth 20000 in
theorem ggX7_drop_X7_isAnchor : GoodIn wsX7_drop wsX7_isAnchor := goodIn_r _ [7, 2, 8, 9, 6, 10, 22, 23, 24, 25, 26, 27, 28, 29, 30, 31, 32, 33] (by decide +kernel) (by decide +kernel)
set_option maxRecDepth 20000 in
theorem gX7_drop_X7_isAnchor : GoodIn wsX7_drop (wsV RX7 87 RX7 yX7_isAnchor wsX7_isAnchor) := goodIn_app (goodIn_of _ (by decide +kernel)) ggX7_drop_X7_isAnchor
set_option maxRecDepth 20000 in
theorem ggX7_drop_X7_keeps : GoodIn wsX7_drop wsX7_keeps := goodIn_r _ [14, 15, 2, 22, 23, 24, 25, 26, 27, 28, 29, 30, 31, 32, 33] (by decide +kernel) (by decide +kernel)
set_option maxRecDepth 20000 in
theorem gX7_drop_X7_keeps : GoodIn wsX7_drop (wsV RX7 57 RX7 yX7_keeps wsX7_keeps) := goodIn_app (goodIn_of _ (by decide +kernel)) ggX7_drop_X7_keeps
set_option maxRecDepth 20000 in
theorem ggX7_drop_X7_acted : GoodIn wsX7_drop wsX7_acted := goodIn_r _ [19, 1, 20, 21, 15, 22, 23, 24, 25, 26, 27, 28, 29, 30, 31, 32, 33] (by decide +kernel) (by decide +kernel)
set_option maxRecDepth 20000 in
theorem gX7_drop_X7_acted : GoodIn wsX7_drop (wsV RX7 63 RX7 yX7_acted wsX7_acted) := goodIn_app (goodIn_of _ (by decide +kernel)) ggX7_drop_X7_acted
theorem dX7_drop_0 : decode cX7_drop 0 = .ok (.aload_n 0, 1) := by decide +kernel
theorem dX7_drop_1 : decode cX7_drop 1 = .ok (.iload_n 1, 1) := by decide +kernel
theorem dX7_drop_2 : decode cX7_drop 2 = .ok (.invokevirtual 87, 3) := by decide +kernel
theorem dX7_drop_5 : decode cX7_drop 5 = .ok (.ifCond .ne 6, 3) := by decide +kernel
theorem dX7_drop_8 : decode cX7_drop 8 = .ok (.ldc 43, 2) := by decide +kernel
theorem dX7_drop_10 : decode cX7_drop 10 = .ok (.ireturn, 1) := by decide +kernel
theorem dX7_drop_11 : decode cX7_drop 11 = .ok (.aload_n 0, 1) := by decide +kernel
theorem dX7_drop_12 : decode cX7_drop 12 = .ok (.invokevirtual 57, 3) := by decide +kernel
theorem dX7_drop_15 : decode cX7_drop 15 = .ok (.aload_n 0, 1) := by decide +kernel
theorem dX7_drop_16 : decode cX7_drop 16 = .ok (.getfield 7, 3) := by decide +kernel
theorem dX7_drop_19 : decode cX7_drop 19 = .ok (.iconst 1, 1) := by decide +kernel
theorem dX7_drop_20 : decode cX7_drop 20 = .ok (.dup2, 1) := by decide +kernel
theorem dX7_drop_21 : decode cX7_drop 21 = .ok (.iaload, 1) := by decide +kernel
theorem dX7_drop_22 : decode cX7_drop 22 = .ok (.iconst 1, 1) := by decide +kernel
theorem dX7_drop_23 : decode cX7_drop 23 = .ok (.isub, 1) := by decide +kernel
theorem dX7_drop_24 : decode cX7_drop 24 = .ok (.iastore, 1) := by decide +kernel
theorem dX7_drop_25 : decode cX7_drop 25 = .ok (.bipush 7, 2) := by decide +kernel
theorem dX7_drop_27 : decode cX7_drop 27 = .ok (.iload_n 1, 1) := by decide +kernel
theorem dX7_drop_28 : decode cX7_drop 28 = .ok (.imul, 1) := by decide +kernel
theorem dX7_drop_29 : decode cX7_drop 29 = .ok (.istore_n 2, 1) := by decide +kernel
theorem dX7_drop_30 : decode cX7_drop 30 = .ok (.iload_n 2, 1) := by decide +kernel
theorem dX7_drop_31 : decode cX7_drop 31 = .ok (.bipush 7, 2) := by decide +kernel
theorem dX7_drop_33 : decode cX7_drop 33 = .ok (.aload_n 0, 1) := by decide +kernel
theorem dX7_drop_34 : decode cX7_drop 34 = .ok (.getfield 7, 3) := by decide +kernel
theorem dX7_drop_37 : decode cX7_drop 37 = .ok (.iconst 1, 1) := by decide +kernel
theorem dX7_drop_38 : decode cX7_drop 38 = .ok (.iaload, 1) := by decide +kernel
theorem dX7_drop_39 : decode cX7_drop 39 = .ok (.imul, 1) := by decide +kernel
theorem dX7_drop_40 : decode cX7_drop 40 = .ok (.if_icmp .ge 30, 3) := by decide +kernel
theorem dX7_drop_43 : decode cX7_drop 43 = .ok (.aload_n 0, 1) := by decide +kernel
theorem dX7_drop_44 : decode cX7_drop 44 = .ok (.getfield 7, 3) := by decide +kernel
theorem dX7_drop_47 : decode cX7_drop 47 = .ok (.bipush 48, 2) := by decide +kernel
theorem dX7_drop_49 : decode cX7_drop 49 = .ok (.iload_n 2, 1) := by decide +kernel
theorem dX7_drop_50 : decode cX7_drop 50 = .ok (.iadd, 1) := by decide +kernel
theorem dX7_drop_51 : decode cX7_drop 51 = .ok (.aload_n 0, 1) := by decide +kernel
theorem dX7_drop_52 : decode cX7_drop 52 = .ok (.getfield 7, 3) := by decide +kernel
theorem dX7_drop_55 : decode cX7_drop 55 = .ok (.bipush 48, 2) := by decide +kernel
theorem dX7_drop_57 : decode cX7_drop 57 = .ok (.iload_n 2, 1) := by decide +kernel
theorem dX7_drop_58 : decode cX7_drop 58 = .ok (.iadd, 1) := by decide +kernel
theorem dX7_drop_59 : decode cX7_drop 59 = .ok (.bipush 7, 2) := by decide +kernel
theorem dX7_drop_61 : decode cX7_drop 61 = .ok (.iadd, 1) := by decide +kernel
theorem dX7_drop_62 : decode cX7_drop 62 = .ok (.iaload, 1) := by decide +kernel
theorem dX7_drop_63 : decode cX7_drop 63 = .ok (.iastore, 1) := by decide +kernel
theorem dX7_drop_64 : decode cX7_drop 64 = .ok (.iinc 2 1, 3) := by decide +kernel
theorem dX7_drop_67 : decode cX7_drop 67 = .ok (.goto (-37), 3) := by decide +kernel
theorem dX7_drop_70 : decode cX7_drop 70 = .ok (.aload_n 0, 1) := by decide +kernel
theorem dX7_drop_71 : decode cX7_drop 71 = .ok (.aload_n 0, 1) := by decide +kernel
theorem dX7_drop_72 : decode cX7_drop 72 = .ok (.getfield 7, 3) := by decide +kernel
theorem dX7_drop_75 : decode cX7_drop 75 = .ok (.iconst 1, 1) := by decide +kernel
theorem dX7_drop_76 : decode cX7_drop 76 = .ok (.iaload, 1) := by decide +kernel
theorem dX7_drop_77 : decode cX7_drop 77 = .ok (.invokevirtual 63, 3) := by decide +kernel
theorem dX7_drop_80 : decode cX7_drop 80 = .ok (.ireturn, 1) := by decide +kernel
set_option maxRecDepth 20000 in
theorem ggX7_scoreAt_X7_word : GoodIn wsX7_scoreAt wsX7_word := goodIn_r _ [6, 1, 7, 8, 9, 5, 10, 11, 12, 13, 18, 19, 20, 21, 22, 23, 24, 25, 26, 27, 28, 29] (by decide +kernel) (by decide +kernel)
set_option maxRecDepth 20000 in
theorem gX7_scoreAt_X7_word : GoodIn wsX7_scoreAt (wsV RX7 81 RX7 yX7_word wsX7_word) := goodIn_app (goodIn_of _ (by decide +kernel)) ggX7_scoreAt_X7_word
set_option maxRecDepth 20000 in
theorem ggX7_scoreAt_X7_an : GoodIn wsX7_scoreAt wsX7_an := goodIn_r _ [17, 1, 18, 19, 20, 21, 22, 23, 24, 25, 26, 27, 28, 29] (by decide +kernel) (by decide +kernel)
set_option maxRecDepth 20000 in
theorem gX7_scoreAt_X7_an : GoodIn wsX7_scoreAt (wsV RX7 48 RX7 yX7_an wsX7_an) := goodIn_app (goodIn_of _ (by decide +kernel)) ggX7_scoreAt_X7_an
theorem dX7_scoreAt_0 : decode cX7_scoreAt 0 = .ok (.iconst 0, 1) := by decide +kernel
theorem dX7_scoreAt_1 : decode cX7_scoreAt 1 = .ok (.istore_n 3, 1) := by decide +kernel
theorem dX7_scoreAt_2 : decode cX7_scoreAt 2 = .ok (.iconst 0, 1) := by decide +kernel
theorem dX7_scoreAt_3 : decode cX7_scoreAt 3 = .ok (.istore 4, 2) := by decide +kernel
theorem dX7_scoreAt_5 : decode cX7_scoreAt 5 = .ok (.iload 4, 2) := by decide +kernel
theorem dX7_scoreAt_7 : decode cX7_scoreAt 7 = .ok (.iconst 5, 1) := by decide +kernel
theorem dX7_scoreAt_8 : decode cX7_scoreAt 8 = .ok (.if_icmp .ge 66, 3) := by decide +kernel
theorem dX7_scoreAt_11 : decode cX7_scoreAt 11 = .ok (.iload 4, 2) := by decide +kernel
theorem dX7_scoreAt_13 : decode cX7_scoreAt 13 = .ok (.iconst 2, 1) := by decide +kernel
theorem dX7_scoreAt_14 : decode cX7_scoreAt 14 = .ok (.if_icmp .ge 10, 3) := by decide +kernel
theorem dX7_scoreAt_17 : decode cX7_scoreAt 17 = .ok (.iconst 2, 1) := by decide +kernel
theorem dX7_scoreAt_18 : decode cX7_scoreAt 18 = .ok (.iload 4, 2) := by decide +kernel
theorem dX7_scoreAt_20 : decode cX7_scoreAt 20 = .ok (.isub, 1) := by decide +kernel
theorem dX7_scoreAt_21 : decode cX7_scoreAt 21 = .ok (.goto 7, 3) := by decide +kernel
theorem dX7_scoreAt_24 : decode cX7_scoreAt 24 = .ok (.iload 4, 2) := by decide +kernel
theorem dX7_scoreAt_26 : decode cX7_scoreAt 26 = .ok (.iconst 2, 1) := by decide +kernel
theorem dX7_scoreAt_27 : decode cX7_scoreAt 27 = .ok (.isub, 1) := by decide +kernel
theorem dX7_scoreAt_28 : decode cX7_scoreAt 28 = .ok (.istore 5, 2) := by decide +kernel
theorem dX7_scoreAt_30 : decode cX7_scoreAt 30 = .ok (.iload_n 3, 1) := by decide +kernel
theorem dX7_scoreAt_31 : decode cX7_scoreAt 31 = .ok (.aload_n 0, 1) := by decide +kernel
theorem dX7_scoreAt_32 : decode cX7_scoreAt 32 = .ok (.iload_n 2, 1) := by decide +kernel
theorem dX7_scoreAt_33 : decode cX7_scoreAt 33 = .ok (.iload 4, 2) := by decide +kernel
theorem dX7_scoreAt_35 : decode cX7_scoreAt 35 = .ok (.iadd, 1) := by decide +kernel
theorem dX7_scoreAt_36 : decode cX7_scoreAt 36 = .ok (.iconst 2, 1) := by decide +kernel
theorem dX7_scoreAt_37 : decode cX7_scoreAt 37 = .ok (.isub, 1) := by decide +kernel
theorem dX7_scoreAt_38 : decode cX7_scoreAt 38 = .ok (.invokevirtual 81, 3) := by decide +kernel
theorem dX7_scoreAt_41 : decode cX7_scoreAt 41 = .ok (.aload_n 0, 1) := by decide +kernel
theorem dX7_scoreAt_42 : decode cX7_scoreAt 42 = .ok (.iload_n 1, 1) := by decide +kernel
theorem dX7_scoreAt_43 : decode cX7_scoreAt 43 = .ok (.iconst 2, 1) := by decide +kernel
theorem dX7_scoreAt_44 : decode cX7_scoreAt 44 = .ok (.iload 4, 2) := by decide +kernel
theorem dX7_scoreAt_46 : decode cX7_scoreAt 46 = .ok (.iadd, 1) := by decide +kernel
theorem dX7_scoreAt_47 : decode cX7_scoreAt 47 = .ok (.invokevirtual 48, 3) := by decide +kernel
theorem dX7_scoreAt_50 : decode cX7_scoreAt 50 = .ok (.if_icmp .ne 15, 3) := by decide +kernel
theorem dX7_scoreAt_53 : decode cX7_scoreAt 53 = .ok (.aload_n 0, 1) := by decide +kernel
theorem dX7_scoreAt_54 : decode cX7_scoreAt 54 = .ok (.getfield 7, 3) := by decide +kernel
theorem dX7_scoreAt_57 : decode cX7_scoreAt 57 = .ok (.iconst 3, 1) := by decide +kernel
theorem dX7_scoreAt_58 : decode cX7_scoreAt 58 = .ok (.iload 5, 2) := by decide +kernel
theorem dX7_scoreAt_60 : decode cX7_scoreAt 60 = .ok (.iadd, 1) := by decide +kernel
theorem dX7_scoreAt_61 : decode cX7_scoreAt 61 = .ok (.iaload, 1) := by decide +kernel
theorem dX7_scoreAt_62 : decode cX7_scoreAt 62 = .ok (.goto 4, 3) := by decide +kernel
theorem dX7_scoreAt_65 : decode cX7_scoreAt 65 = .ok (.iconst 0, 1) := by decide +kernel
theorem dX7_scoreAt_66 : decode cX7_scoreAt 66 = .ok (.iadd, 1) := by decide +kernel
theorem dX7_scoreAt_67 : decode cX7_scoreAt 67 = .ok (.istore_n 3, 1) := by decide +kernel
theorem dX7_scoreAt_68 : decode cX7_scoreAt 68 = .ok (.iinc 4 1, 3) := by decide +kernel
theorem dX7_scoreAt_71 : decode cX7_scoreAt 71 = .ok (.goto (-66), 3) := by decide +kernel
theorem dX7_scoreAt_74 : decode cX7_scoreAt 74 = .ok (.iload_n 3, 1) := by decide +kernel
theorem dX7_scoreAt_75 : decode cX7_scoreAt 75 = .ok (.ireturn, 1) := by decide +kernel
set_option maxRecDepth 20000 in
theorem ggX7_best_X7_scoreAt : GoodIn wsX7_best wsX7_scoreAt := goodIn_r _ [6, 1, 7, 8, 9, 5, 10, 11, 12, 13, 14, 15, 16, 17, 18, 19, 20, 21, 22, 23, 24, 25, 26, 27, 28, 29, 30, 31, 32, 33] (by decide +kernel) (by decide +kernel)
set_option maxRecDepth 20000 in
theorem gX7_best_X7_scoreAt : GoodIn wsX7_best (wsV RX7 90 RX7 yX7_scoreAt wsX7_scoreAt) := goodIn_app (goodIn_of _ (by decide +kernel)) ggX7_best_X7_scoreAt
set_option maxRecDepth 20000 in
theorem ggX7_best_X7_an : GoodIn wsX7_best wsX7_an := goodIn_r _ [21, 1, 22, 23, 24, 25, 26, 27, 28, 29, 30, 31, 32, 33] (by decide +kernel) (by decide +kernel)
set_option maxRecDepth 20000 in
theorem gX7_best_X7_an : GoodIn wsX7_best (wsV RX7 48 RX7 yX7_an wsX7_an) := goodIn_app (goodIn_of _ (by decide +kernel)) ggX7_best_X7_an
theorem dX7_best_0 : decode cX7_best 0 = .ok (.iconst (-1), 1) := by decide +kernel
theorem dX7_best_1 : decode cX7_best 1 = .ok (.istore_n 3, 1) := by decide +kernel
theorem dX7_best_2 : decode cX7_best 2 = .ok (.iconst (-1), 1) := by decide +kernel
theorem dX7_best_3 : decode cX7_best 3 = .ok (.istore 4, 2) := by decide +kernel
theorem dX7_best_5 : decode cX7_best 5 = .ok (.iconst 0, 1) := by decide +kernel
theorem dX7_best_6 : decode cX7_best 6 = .ok (.istore 5, 2) := by decide +kernel
theorem dX7_best_8 : decode cX7_best 8 = .ok (.iconst 0, 1) := by decide +kernel
theorem dX7_best_9 : decode cX7_best 9 = .ok (.istore 6, 2) := by decide +kernel
theorem dX7_best_11 : decode cX7_best 11 = .ok (.iload 6, 2) := by decide +kernel
theorem dX7_best_13 : decode cX7_best 13 = .ok (.aload_n 0, 1) := by decide +kernel
theorem dX7_best_14 : decode cX7_best 14 = .ok (.getfield 7, 3) := by decide +kernel
theorem dX7_best_17 : decode cX7_best 17 = .ok (.iconst 0, 1) := by decide +kernel
theorem dX7_best_18 : decode cX7_best 18 = .ok (.iaload, 1) := by decide +kernel
theorem dX7_best_19 : decode cX7_best 19 = .ok (.if_icmp .ge 82, 3) := by decide +kernel
theorem dX7_best_22 : decode cX7_best 22 = .ok (.aload_n 0, 1) := by decide +kernel
theorem dX7_best_23 : decode cX7_best 23 = .ok (.iload_n 1, 1) := by decide +kernel
theorem dX7_best_24 : decode cX7_best 24 = .ok (.iload 6, 2) := by decide +kernel
theorem dX7_best_26 : decode cX7_best 26 = .ok (.invokevirtual 90, 3) := by decide +kernel
theorem dX7_best_29 : decode cX7_best 29 = .ok (.istore 7, 2) := by decide +kernel
theorem dX7_best_31 : decode cX7_best 31 = .ok (.iload 6, 2) := by decide +kernel
theorem dX7_best_33 : decode cX7_best 33 = .ok (.aload_n 0, 1) := by decide +kernel
theorem dX7_best_34 : decode cX7_best 34 = .ok (.iload_n 1, 1) := by decide +kernel
theorem dX7_best_35 : decode cX7_best 35 = .ok (.iconst 0, 1) := by decide +kernel
theorem dX7_best_36 : decode cX7_best 36 = .ok (.invokevirtual 48, 3) := by decide +kernel
theorem dX7_best_39 : decode cX7_best 39 = .ok (.isub, 1) := by decide +kernel
theorem dX7_best_40 : decode cX7_best 40 = .ok (.istore 8, 2) := by decide +kernel
theorem dX7_best_42 : decode cX7_best 42 = .ok (.iload 8, 2) := by decide +kernel
theorem dX7_best_44 : decode cX7_best 44 = .ok (.ifCond .ge 9, 3) := by decide +kernel
theorem dX7_best_47 : decode cX7_best 47 = .ok (.iload 8, 2) := by decide +kernel
theorem dX7_best_49 : decode cX7_best 49 = .ok (.ineg, 1) := by decide +kernel
theorem dX7_best_50 : decode cX7_best 50 = .ok (.goto 5, 3) := by decide +kernel
theorem dX7_best_53 : decode cX7_best 53 = .ok (.iload 8, 2) := by decide +kernel
theorem dX7_best_55 : decode cX7_best 55 = .ok (.istore 8, 2) := by decide +kernel
theorem dX7_best_57 : decode cX7_best 57 = .ok (.iload 6, 2) := by decide +kernel
theorem dX7_best_59 : decode cX7_best 59 = .ok (.iload_n 2, 1) := by decide +kernel
theorem dX7_best_60 : decode cX7_best 60 = .ok (.if_icmp .eq 35, 3) := by decide +kernel
theorem dX7_best_63 : decode cX7_best 63 = .ok (.iload 7, 2) := by decide +kernel
theorem dX7_best_65 : decode cX7_best 65 = .ok (.iload 4, 2) := by decide +kernel
theorem dX7_best_67 : decode cX7_best 67 = .ok (.if_icmp .gt 17, 3) := by decide +kernel
theorem dX7_best_70 : decode cX7_best 70 = .ok (.iload 7, 2) := by decide +kernel
theorem dX7_best_72 : decode cX7_best 72 = .ok (.iload 4, 2) := by decide +kernel
theorem dX7_best_74 : decode cX7_best 74 = .ok (.if_icmp .ne 21, 3) := by decide +kernel
theorem dX7_best_77 : decode cX7_best 77 = .ok (.iload 8, 2) := by decide +kernel
theorem dX7_best_79 : decode cX7_best 79 = .ok (.iload 5, 2) := by decide +kernel
theorem dX7_best_81 : decode cX7_best 81 = .ok (.if_icmp .ge 14, 3) := by decide +kernel
theorem dX7_best_84 : decode cX7_best 84 = .ok (.iload 6, 2) := by decide +kernel
theorem dX7_best_86 : decode cX7_best 86 = .ok (.istore_n 3, 1) := by decide +kernel
theorem dX7_best_87 : decode cX7_best 87 = .ok (.iload 7, 2) := by decide +kernel
theorem dX7_best_89 : decode cX7_best 89 = .ok (.istore 4, 2) := by decide +kernel
theorem dX7_best_91 : decode cX7_best 91 = .ok (.iload 8, 2) := by decide +kernel
theorem dX7_best_93 : decode cX7_best 93 = .ok (.istore 5, 2) := by decide +kernel
theorem dX7_best_95 : decode cX7_best 95 = .ok (.iinc 6 1, 3) := by decide +kernel
theorem dX7_best_98 : decode cX7_best 98 = .ok (.goto (-87), 3) := by decide +kernel
theorem dX7_best_101 : decode cX7_best 101 = .ok (.iload_n 3, 1) := by decide +kernel
theorem dX7_best_102 : decode cX7_best 102 = .ok (.ireturn, 1) := by decide +kernel
set_option maxRecDepth 20000 in
theorem ggX7_how_X7_best : GoodIn wsX7_how wsX7_best := goodIn_r _ [6, 1, 7, 8, 9, 5, 10, 11, 12, 13, 14, 15, 16, 17, 18, 19, 20, 21, 22, 23, 24, 25, 26, 27, 28, 29, 30, 31, 32, 33, 34, 35, 36, 37] (by decide +kernel) (by decide +kernel)
set_option maxRecDepth 20000 in
theorem gX7_how_X7_best : GoodIn wsX7_how (wsV RX7 93 RX7 yX7_best wsX7_best) := goodIn_app (goodIn_of _ (by decide +kernel)) ggX7_how_X7_best
set_option maxRecDepth 20000 in
theorem ggX7_how_X7_scoreAt : GoodIn wsX7_how wsX7_scoreAt := goodIn_r _ [10, 1, 11, 12, 13, 5, 14, 15, 16, 17, 18, 19, 20, 21, 22, 23, 24, 25, 26, 27, 28, 29, 30, 31, 32, 33, 34, 35, 36, 37] (by decide +kernel) (by decide +kernel)
set_option maxRecDepth 20000 in
theorem gX7_how_X7_scoreAt : GoodIn wsX7_how (wsV RX7 90 RX7 yX7_scoreAt wsX7_scoreAt) := goodIn_app (goodIn_of _ (by decide +kernel)) ggX7_how_X7_scoreAt
theorem dX7_how_0 : decode cX7_how 0 = .ok (.aload_n 0, 1) := by decide +kernel
theorem dX7_how_1 : decode cX7_how 1 = .ok (.iload_n 1, 1) := by decide +kernel
theorem dX7_how_2 : decode cX7_how 2 = .ok (.iconst (-1), 1) := by decide +kernel
theorem dX7_how_3 : decode cX7_how 3 = .ok (.invokevirtual 93, 3) := by decide +kernel
theorem dX7_how_6 : decode cX7_how 6 = .ok (.istore_n 2, 1) := by decide +kernel
theorem dX7_how_7 : decode cX7_how 7 = .ok (.iload_n 2, 1) := by decide +kernel
theorem dX7_how_8 : decode cX7_how 8 = .ok (.ifCond .lt 19, 3) := by decide +kernel
theorem dX7_how_11 : decode cX7_how 11 = .ok (.aload_n 0, 1) := by decide +kernel
theorem dX7_how_12 : decode cX7_how 12 = .ok (.iload_n 1, 1) := by decide +kernel
theorem dX7_how_13 : decode cX7_how 13 = .ok (.iload_n 2, 1) := by decide +kernel
theorem dX7_how_14 : decode cX7_how 14 = .ok (.invokevirtual 90, 3) := by decide +kernel
theorem dX7_how_17 : decode cX7_how 17 = .ok (.aload_n 0, 1) := by decide +kernel
theorem dX7_how_18 : decode cX7_how 18 = .ok (.getfield 7, 3) := by decide +kernel
theorem dX7_how_21 : decode cX7_how 21 = .ok (.bipush 6, 2) := by decide +kernel
theorem dX7_how_23 : decode cX7_how 23 = .ok (.iaload, 1) := by decide +kernel
theorem dX7_how_24 : decode cX7_how 24 = .ok (.if_icmp .ge 5, 3) := by decide +kernel
theorem dX7_how_27 : decode cX7_how 27 = .ok (.iconst 2, 1) := by decide +kernel
theorem dX7_how_28 : decode cX7_how 28 = .ok (.ireturn, 1) := by decide +kernel
theorem dX7_how_29 : decode cX7_how 29 = .ok (.aload_n 0, 1) := by decide +kernel
theorem dX7_how_30 : decode cX7_how 30 = .ok (.iload_n 1, 1) := by decide +kernel
theorem dX7_how_31 : decode cX7_how 31 = .ok (.iload_n 2, 1) := by decide +kernel
theorem dX7_how_32 : decode cX7_how 32 = .ok (.invokevirtual 93, 3) := by decide +kernel
theorem dX7_how_35 : decode cX7_how 35 = .ok (.istore_n 3, 1) := by decide +kernel
theorem dX7_how_36 : decode cX7_how 36 = .ok (.iload_n 3, 1) := by decide +kernel
theorem dX7_how_37 : decode cX7_how 37 = .ok (.ifCond .lt 30, 3) := by decide +kernel
theorem dX7_how_40 : decode cX7_how 40 = .ok (.aload_n 0, 1) := by decide +kernel
theorem dX7_how_41 : decode cX7_how 41 = .ok (.iload_n 1, 1) := by decide +kernel
theorem dX7_how_42 : decode cX7_how 42 = .ok (.iload_n 3, 1) := by decide +kernel
theorem dX7_how_43 : decode cX7_how 43 = .ok (.invokevirtual 90, 3) := by decide +kernel
theorem dX7_how_46 : decode cX7_how 46 = .ok (.aload_n 0, 1) := by decide +kernel
theorem dX7_how_47 : decode cX7_how 47 = .ok (.iload_n 1, 1) := by decide +kernel
theorem dX7_how_48 : decode cX7_how 48 = .ok (.iload_n 2, 1) := by decide +kernel
theorem dX7_how_49 : decode cX7_how 49 = .ok (.invokevirtual 90, 3) := by decide +kernel
theorem dX7_how_52 : decode cX7_how 52 = .ok (.aload_n 0, 1) := by decide +kernel
theorem dX7_how_53 : decode cX7_how 53 = .ok (.getfield 7, 3) := by decide +kernel
theorem dX7_how_56 : decode cX7_how 56 = .ok (.bipush 7, 2) := by decide +kernel
theorem dX7_how_58 : decode cX7_how 58 = .ok (.iaload, 1) := by decide +kernel
theorem dX7_how_59 : decode cX7_how 59 = .ok (.isub, 1) := by decide +kernel
theorem dX7_how_60 : decode cX7_how 60 = .ok (.if_icmp .lt 7, 3) := by decide +kernel
theorem dX7_how_63 : decode cX7_how 63 = .ok (.iconst 1, 1) := by decide +kernel
theorem dX7_how_64 : decode cX7_how 64 = .ok (.goto 4, 3) := by decide +kernel
theorem dX7_how_67 : decode cX7_how 67 = .ok (.iconst 0, 1) := by decide +kernel
theorem dX7_how_68 : decode cX7_how 68 = .ok (.ireturn, 1) := by decide +kernel
set_option maxRecDepth 20000 in
theorem ggX7_find_X7_isAnchor : GoodIn wsX7_find wsX7_isAnchor := goodIn_r _ [8, 3, 9, 10, 7, 11, 47, 48, 49, 50, 51, 52, 53, 54, 55, 56, 57, 58] (by decide +kernel) (by decide +kernel)
set_option maxRecDepth 20000 in
theorem gX7_find_X7_isAnchor : GoodIn wsX7_find (wsV RX7 87 RX7 yX7_isAnchor wsX7_isAnchor) := goodIn_app (goodIn_of _ (by decide +kernel)) ggX7_find_X7_isAnchor
set_option maxRecDepth 20000 in
theorem ggX7_find_X7_how : GoodIn wsX7_find wsX7_how := goodIn_r _ [15, 3, 16, 17, 18, 7, 19, 20, 21, 22, 23, 24, 25, 26, 27, 28, 29, 30, 31, 9, 10, 11, 32, 33, 34, 35, 47, 48, 49, 50, 51, 52, 53, 54, 55, 56, 57, 58] (by decide +kernel) (by decide +kernel)
set_option maxRecDepth 20000 in
theorem gX7_find_X7_how : GoodIn wsX7_find (wsV RX7 96 RX7 yX7_how wsX7_how) := goodIn_app (goodIn_of _ (by decide +kernel)) ggX7_find_X7_how
set_option maxRecDepth 20000 in
theorem ggX7_find_X7_keeps : GoodIn wsX7_find wsX7_keeps := goodIn_r _ [39, 40, 3, 47, 48, 49, 50, 51, 52, 53, 54, 55, 56, 57, 58] (by decide +kernel) (by decide +kernel)
set_option maxRecDepth 20000 in
theorem gX7_find_X7_keeps : GoodIn wsX7_find (wsV RX7 57 RX7 yX7_keeps wsX7_keeps) := goodIn_app (goodIn_of _ (by decide +kernel)) ggX7_find_X7_keeps
set_option maxRecDepth 20000 in
theorem ggX7_find_X7_best : GoodIn wsX7_find wsX7_best := goodIn_r _ [19, 3, 20, 21, 22, 7, 23, 24, 25, 26, 27, 28, 29, 30, 31, 9, 10, 11, 32, 33, 34, 35, 47, 48, 49, 50, 51, 52, 53, 54, 55, 56, 57, 58] (by decide +kernel) (by decide +kernel)
set_option maxRecDepth 20000 in
theorem gX7_find_X7_best : GoodIn wsX7_find (wsV RX7 93 RX7 yX7_best wsX7_best) := goodIn_app (goodIn_of _ (by decide +kernel)) ggX7_find_X7_best
set_option maxRecDepth 20000 in
theorem ggX7_find_X7_an : GoodIn wsX7_find wsX7_an := goodIn_r _ [35, 3, 47, 48, 49, 50, 51, 52, 53, 54, 55, 56, 57, 58] (by decide +kernel) (by decide +kernel)
set_option maxRecDepth 20000 in
theorem gX7_find_X7_an : GoodIn wsX7_find (wsV RX7 48 RX7 yX7_an wsX7_an) := goodIn_app (goodIn_of _ (by decide +kernel)) ggX7_find_X7_an
set_option maxRecDepth 20000 in
theorem ggX7_find_X7_acted : GoodIn wsX7_find wsX7_acted := goodIn_r _ [44, 1, 45, 46, 40, 47, 48, 49, 50, 51, 52, 53, 54, 55, 56, 57, 58] (by decide +kernel) (by decide +kernel)
set_option maxRecDepth 20000 in
theorem gX7_find_X7_acted : GoodIn wsX7_find (wsV RX7 63 RX7 yX7_acted wsX7_acted) := goodIn_app (goodIn_of _ (by decide +kernel)) ggX7_find_X7_acted
theorem dX7_find_0 : decode cX7_find 0 = .ok (.aload_n 0, 1) := by decide +kernel
theorem dX7_find_1 : decode cX7_find 1 = .ok (.iload_n 1, 1) := by decide +kernel
theorem dX7_find_2 : decode cX7_find 2 = .ok (.invokevirtual 87, 3) := by decide +kernel
theorem dX7_find_5 : decode cX7_find 5 = .ok (.ifCond .ne 6, 3) := by decide +kernel
theorem dX7_find_8 : decode cX7_find 8 = .ok (.ldc 43, 2) := by decide +kernel
theorem dX7_find_10 : decode cX7_find 10 = .ok (.ireturn, 1) := by decide +kernel
theorem dX7_find_11 : decode cX7_find 11 = .ok (.aload_n 0, 1) := by decide +kernel
theorem dX7_find_12 : decode cX7_find 12 = .ok (.iload_n 1, 1) := by decide +kernel
theorem dX7_find_13 : decode cX7_find 13 = .ok (.invokevirtual 96, 3) := by decide +kernel
theorem dX7_find_16 : decode cX7_find 16 = .ok (.iconst 2, 1) := by decide +kernel
theorem dX7_find_17 : decode cX7_find 17 = .ok (.if_icmp .ne 6, 3) := by decide +kernel
theorem dX7_find_20 : decode cX7_find 20 = .ok (.ldc 99, 2) := by decide +kernel
theorem dX7_find_22 : decode cX7_find 22 = .ok (.ireturn, 1) := by decide +kernel
theorem dX7_find_23 : decode cX7_find 23 = .ok (.aload_n 0, 1) := by decide +kernel
theorem dX7_find_24 : decode cX7_find 24 = .ok (.invokevirtual 57, 3) := by decide +kernel
theorem dX7_find_27 : decode cX7_find 27 = .ok (.aload_n 0, 1) := by decide +kernel
theorem dX7_find_28 : decode cX7_find 28 = .ok (.getfield 7, 3) := by decide +kernel
theorem dX7_find_31 : decode cX7_find 31 = .ok (.bipush 48, 2) := by decide +kernel
theorem dX7_find_33 : decode cX7_find 33 = .ok (.bipush 7, 2) := by decide +kernel
theorem dX7_find_35 : decode cX7_find 35 = .ok (.iload_n 1, 1) := by decide +kernel
theorem dX7_find_36 : decode cX7_find 36 = .ok (.imul, 1) := by decide +kernel
theorem dX7_find_37 : decode cX7_find 37 = .ok (.iadd, 1) := by decide +kernel
theorem dX7_find_38 : decode cX7_find 38 = .ok (.aload_n 0, 1) := by decide +kernel
theorem dX7_find_39 : decode cX7_find 39 = .ok (.iload_n 1, 1) := by decide +kernel
theorem dX7_find_40 : decode cX7_find 40 = .ok (.iconst (-1), 1) := by decide +kernel
theorem dX7_find_41 : decode cX7_find 41 = .ok (.invokevirtual 93, 3) := by decide +kernel
theorem dX7_find_44 : decode cX7_find 44 = .ok (.iastore, 1) := by decide +kernel
theorem dX7_find_45 : decode cX7_find 45 = .ok (.aload_n 0, 1) := by decide +kernel
theorem dX7_find_46 : decode cX7_find 46 = .ok (.aload_n 0, 1) := by decide +kernel
theorem dX7_find_47 : decode cX7_find 47 = .ok (.iload_n 1, 1) := by decide +kernel
theorem dX7_find_48 : decode cX7_find 48 = .ok (.iconst 0, 1) := by decide +kernel
theorem dX7_find_49 : decode cX7_find 49 = .ok (.invokevirtual 48, 3) := by decide +kernel
theorem dX7_find_52 : decode cX7_find 52 = .ok (.invokevirtual 63, 3) := by decide +kernel
theorem dX7_find_55 : decode cX7_find 55 = .ok (.ireturn, 1) := by decide +kernel
set_option maxRecDepth 20000 in
theorem ggX7_findAll_X7_keeps : GoodIn wsX7_findAll wsX7_keeps := goodIn_r _ [6, 7, 1, 42, 43, 44, 45, 46, 47, 48, 49, 50, 51, 52, 53] (by decide +kernel) (by decide +kernel)
set_option maxRecDepth 20000 in
theorem gX7_findAll_X7_keeps : GoodIn wsX7_findAll (wsV RX7 57 RX7 yX7_keeps wsX7_keeps) := goodIn_app (goodIn_of _ (by decide +kernel)) ggX7_findAll_X7_keeps
set_option maxRecDepth 20000 in
theorem ggX7_findAll_X7_how : GoodIn wsX7_findAll wsX7_how := goodIn_r _ [11, 1, 12, 13, 14, 5, 15, 16, 17, 18, 19, 20, 21, 22, 23, 24, 25, 26, 27, 28, 29, 30, 31, 32, 33, 34, 42, 43, 44, 45, 46, 47, 48, 49, 50, 51, 52, 53] (by decide +kernel) (by decide +kernel)
set_option maxRecDepth 20000 in
theorem gX7_findAll_X7_how : GoodIn wsX7_findAll (wsV RX7 96 RX7 yX7_how wsX7_how) := goodIn_app (goodIn_of _ (by decide +kernel)) ggX7_findAll_X7_how
set_option maxRecDepth 20000 in
theorem ggX7_findAll_X7_an : GoodIn wsX7_findAll wsX7_an := goodIn_r _ [34, 1, 42, 43, 44, 45, 46, 47, 48, 49, 50, 51, 52, 53] (by decide +kernel) (by decide +kernel)
set_option maxRecDepth 20000 in
theorem gX7_findAll_X7_an : GoodIn wsX7_findAll (wsV RX7 48 RX7 yX7_an wsX7_an) := goodIn_app (goodIn_of _ (by decide +kernel)) ggX7_findAll_X7_an
set_option maxRecDepth 20000 in
theorem ggX7_findAll_X7_best : GoodIn wsX7_findAll wsX7_best := goodIn_r _ [15, 1, 16, 17, 18, 5, 19, 20, 21, 22, 23, 24, 25, 26, 27, 28, 29, 30, 31, 32, 33, 34, 42, 43, 44, 45, 46, 47, 48, 49, 50, 51, 52, 53] (by decide +kernel) (by decide +kernel)
set_option maxRecDepth 20000 in
theorem gX7_findAll_X7_best : GoodIn wsX7_findAll (wsV RX7 93 RX7 yX7_best wsX7_best) := goodIn_app (goodIn_of _ (by decide +kernel)) ggX7_findAll_X7_best
set_option maxRecDepth 20000 in
theorem ggX7_findAll_X7_acted : GoodIn wsX7_findAll wsX7_acted := goodIn_r _ [38, 39, 40, 41, 7, 42, 43, 44, 45, 46, 47, 48, 49, 50, 51, 52, 53] (by decide +kernel) (by decide +kernel)
set_option maxRecDepth 20000 in
theorem gX7_findAll_X7_acted : GoodIn wsX7_findAll (wsV RX7 63 RX7 yX7_acted wsX7_acted) := goodIn_app (goodIn_of _ (by decide +kernel)) ggX7_findAll_X7_acted
theorem dX7_findAll_0 : decode cX7_findAll 0 = .ok (.aload_n 0, 1) := by decide +kernel
theorem dX7_findAll_1 : decode cX7_findAll 1 = .ok (.invokevirtual 57, 3) := by decide +kernel
theorem dX7_findAll_4 : decode cX7_findAll 4 = .ok (.iconst 0, 1) := by decide +kernel
theorem dX7_findAll_5 : decode cX7_findAll 5 = .ok (.istore_n 1, 1) := by decide +kernel
theorem dX7_findAll_6 : decode cX7_findAll 6 = .ok (.iconst 0, 1) := by decide +kernel
theorem dX7_findAll_7 : decode cX7_findAll 7 = .ok (.istore_n 2, 1) := by decide +kernel
theorem dX7_findAll_8 : decode cX7_findAll 8 = .ok (.iload_n 2, 1) := by decide +kernel
theorem dX7_findAll_9 : decode cX7_findAll 9 = .ok (.aload_n 0, 1) := by decide +kernel
theorem dX7_findAll_10 : decode cX7_findAll 10 = .ok (.getfield 7, 3) := by decide +kernel
theorem dX7_findAll_13 : decode cX7_findAll 13 = .ok (.iconst 1, 1) := by decide +kernel
theorem dX7_findAll_14 : decode cX7_findAll 14 = .ok (.iaload, 1) := by decide +kernel
theorem dX7_findAll_15 : decode cX7_findAll 15 = .ok (.if_icmp .ge 65, 3) := by decide +kernel
theorem dX7_findAll_18 : decode cX7_findAll 18 = .ok (.aload_n 0, 1) := by decide +kernel
theorem dX7_findAll_19 : decode cX7_findAll 19 = .ok (.iload_n 2, 1) := by decide +kernel
theorem dX7_findAll_20 : decode cX7_findAll 20 = .ok (.invokevirtual 96, 3) := by decide +kernel
theorem dX7_findAll_23 : decode cX7_findAll 23 = .ok (.iconst 2, 1) := by decide +kernel
theorem dX7_findAll_24 : decode cX7_findAll 24 = .ok (.if_icmp .ne 12, 3) := by decide +kernel
theorem dX7_findAll_27 : decode cX7_findAll 27 = .ok (.aload_n 0, 1) := by decide +kernel
theorem dX7_findAll_28 : decode cX7_findAll 28 = .ok (.iload_n 2, 1) := by decide +kernel
theorem dX7_findAll_29 : decode cX7_findAll 29 = .ok (.iconst 0, 1) := by decide +kernel
theorem dX7_findAll_30 : decode cX7_findAll 30 = .ok (.invokevirtual 48, 3) := by decide +kernel
theorem dX7_findAll_33 : decode cX7_findAll 33 = .ok (.goto 9, 3) := by decide +kernel
theorem dX7_findAll_36 : decode cX7_findAll 36 = .ok (.aload_n 0, 1) := by decide +kernel
theorem dX7_findAll_37 : decode cX7_findAll 37 = .ok (.iload_n 2, 1) := by decide +kernel
theorem dX7_findAll_38 : decode cX7_findAll 38 = .ok (.iconst (-1), 1) := by decide +kernel
theorem dX7_findAll_39 : decode cX7_findAll 39 = .ok (.invokevirtual 93, 3) := by decide +kernel
theorem dX7_findAll_42 : decode cX7_findAll 42 = .ok (.istore_n 3, 1) := by decide +kernel
theorem dX7_findAll_43 : decode cX7_findAll 43 = .ok (.iload_n 1, 1) := by decide +kernel
theorem dX7_findAll_44 : decode cX7_findAll 44 = .ok (.iload_n 3, 1) := by decide +kernel
theorem dX7_findAll_45 : decode cX7_findAll 45 = .ok (.aload_n 0, 1) := by decide +kernel
theorem dX7_findAll_46 : decode cX7_findAll 46 = .ok (.iload_n 2, 1) := by decide +kernel
theorem dX7_findAll_47 : decode cX7_findAll 47 = .ok (.iconst 0, 1) := by decide +kernel
theorem dX7_findAll_48 : decode cX7_findAll 48 = .ok (.invokevirtual 48, 3) := by decide +kernel
theorem dX7_findAll_51 : decode cX7_findAll 51 = .ok (.if_icmp .eq 7, 3) := by decide +kernel
theorem dX7_findAll_54 : decode cX7_findAll 54 = .ok (.iconst 1, 1) := by decide +kernel
theorem dX7_findAll_55 : decode cX7_findAll 55 = .ok (.goto 4, 3) := by decide +kernel
theorem dX7_findAll_58 : decode cX7_findAll 58 = .ok (.iconst 0, 1) := by decide +kernel
theorem dX7_findAll_59 : decode cX7_findAll 59 = .ok (.iadd, 1) := by decide +kernel
theorem dX7_findAll_60 : decode cX7_findAll 60 = .ok (.istore_n 1, 1) := by decide +kernel
theorem dX7_findAll_61 : decode cX7_findAll 61 = .ok (.aload_n 0, 1) := by decide +kernel
theorem dX7_findAll_62 : decode cX7_findAll 62 = .ok (.getfield 7, 3) := by decide +kernel
theorem dX7_findAll_65 : decode cX7_findAll 65 = .ok (.bipush 48, 2) := by decide +kernel
theorem dX7_findAll_67 : decode cX7_findAll 67 = .ok (.bipush 7, 2) := by decide +kernel
theorem dX7_findAll_69 : decode cX7_findAll 69 = .ok (.iload_n 2, 1) := by decide +kernel
theorem dX7_findAll_70 : decode cX7_findAll 70 = .ok (.imul, 1) := by decide +kernel
theorem dX7_findAll_71 : decode cX7_findAll 71 = .ok (.iadd, 1) := by decide +kernel
theorem dX7_findAll_72 : decode cX7_findAll 72 = .ok (.iload_n 3, 1) := by decide +kernel
theorem dX7_findAll_73 : decode cX7_findAll 73 = .ok (.iastore, 1) := by decide +kernel
theorem dX7_findAll_74 : decode cX7_findAll 74 = .ok (.iinc 2 1, 3) := by decide +kernel
theorem dX7_findAll_77 : decode cX7_findAll 77 = .ok (.goto (-69), 3) := by decide +kernel
theorem dX7_findAll_80 : decode cX7_findAll 80 = .ok (.aload_n 0, 1) := by decide +kernel
theorem dX7_findAll_81 : decode cX7_findAll 81 = .ok (.iload_n 1, 1) := by decide +kernel
theorem dX7_findAll_82 : decode cX7_findAll 82 = .ok (.invokevirtual 63, 3) := by decide +kernel
theorem dX7_findAll_85 : decode cX7_findAll 85 = .ok (.ireturn, 1) := by decide +kernel
set_option maxRecDepth 20000 in
theorem ggX7_remember_X7_isAnchor : GoodIn wsX7_remember wsX7_isAnchor := goodIn_r _ [7, 8, 9, 10, 6, 11, 39, 40, 41, 42, 43, 44, 45, 46, 47, 48, 49, 50] (by decide +kernel) (by decide +kernel)
set_option maxRecDepth 20000 in
theorem gX7_remember_X7_isAnchor : GoodIn wsX7_remember (wsV RX7 87 RX7 yX7_isAnchor wsX7_isAnchor) := goodIn_app (goodIn_of _ (by decide +kernel)) ggX7_remember_X7_isAnchor
set_option maxRecDepth 20000 in
theorem ggX7_remember_X7_an : GoodIn wsX7_remember wsX7_an := goodIn_r _ [15, 8, 39, 40, 41, 42, 43, 44, 45, 46, 47, 48, 49, 50] (by decide +kernel) (by decide +kernel)
set_option maxRecDepth 20000 in
theorem gX7_remember_X7_an : GoodIn wsX7_remember (wsV RX7 48 RX7 yX7_an wsX7_an) := goodIn_app (goodIn_of _ (by decide +kernel)) ggX7_remember_X7_an
set_option maxRecDepth 20000 in
theorem ggX7_remember_X7_isPlace : GoodIn wsX7_remember wsX7_isPlace := goodIn_r _ [19, 8, 9, 10, 6, 11, 39, 40, 41, 42, 43, 44, 45, 46, 47, 48, 49, 50] (by decide +kernel) (by decide +kernel)
set_option maxRecDepth 20000 in
theorem gX7_remember_X7_isPlace : GoodIn wsX7_remember (wsV RX7 39 RX7 yX7_isPlace wsX7_isPlace) := goodIn_app (goodIn_of _ (by decide +kernel)) ggX7_remember_X7_isPlace
set_option maxRecDepth 20000 in
theorem ggX7_remember_X7_keeps : GoodIn wsX7_remember wsX7_keeps := goodIn_r _ [23, 24, 8, 39, 40, 41, 42, 43, 44, 45, 46, 47, 48, 49, 50] (by decide +kernel) (by decide +kernel)
set_option maxRecDepth 20000 in
theorem gX7_remember_X7_keeps : GoodIn wsX7_remember (wsV RX7 57 RX7 yX7_keeps wsX7_keeps) := goodIn_app (goodIn_of _ (by decide +kernel)) ggX7_remember_X7_keeps
set_option maxRecDepth 20000 in
theorem ggX7_remember_X7_remembers : GoodIn wsX7_remember wsX7_remembers := goodIn_r _ [28, 8, 12, 13, 14, 6, 15, 29, 30, 31, 32, 16, 17, 18, 19, 9, 10, 11, 39, 40, 41, 42, 43, 44, 45, 46, 47, 48, 49, 50] (by decide +kernel) (by decide +kernel)
set_option maxRecDepth 20000 in
theorem gX7_remember_X7_remembers : GoodIn wsX7_remember (wsV RX7 84 RX7 yX7_remembers wsX7_remembers) := goodIn_app (goodIn_of _ (by decide +kernel)) ggX7_remember_X7_remembers
set_option maxRecDepth 20000 in
theorem ggX7_remember_X7_acted : GoodIn wsX7_remember wsX7_acted := goodIn_r _ [36, 1, 37, 38, 24, 39, 40, 41, 42, 43, 44, 45, 46, 47, 48, 49, 50] (by decide +kernel) (by decide +kernel)
set_option maxRecDepth 20000 in
theorem gX7_remember_X7_acted : GoodIn wsX7_remember (wsV RX7 63 RX7 yX7_acted wsX7_acted) := goodIn_app (goodIn_of _ (by decide +kernel)) ggX7_remember_X7_acted
theorem dX7_remember_0 : decode cX7_remember 0 = .ok (.aload_n 0, 1) := by decide +kernel
theorem dX7_remember_1 : decode cX7_remember 1 = .ok (.iload_n 1, 1) := by decide +kernel
theorem dX7_remember_2 : decode cX7_remember 2 = .ok (.invokevirtual 87, 3) := by decide +kernel
theorem dX7_remember_5 : decode cX7_remember 5 = .ok (.ifCond .ne 6, 3) := by decide +kernel
theorem dX7_remember_8 : decode cX7_remember 8 = .ok (.ldc 43, 2) := by decide +kernel
theorem dX7_remember_10 : decode cX7_remember 10 = .ok (.ireturn, 1) := by decide +kernel
theorem dX7_remember_11 : decode cX7_remember 11 = .ok (.aload_n 0, 1) := by decide +kernel
theorem dX7_remember_12 : decode cX7_remember 12 = .ok (.aload_n 0, 1) := by decide +kernel
theorem dX7_remember_13 : decode cX7_remember 13 = .ok (.iload_n 1, 1) := by decide +kernel
theorem dX7_remember_14 : decode cX7_remember 14 = .ok (.iconst 0, 1) := by decide +kernel
theorem dX7_remember_15 : decode cX7_remember 15 = .ok (.invokevirtual 48, 3) := by decide +kernel
theorem dX7_remember_18 : decode cX7_remember 18 = .ok (.invokevirtual 39, 3) := by decide +kernel
theorem dX7_remember_21 : decode cX7_remember 21 = .ok (.ifCond .ne 6, 3) := by decide +kernel
theorem dX7_remember_24 : decode cX7_remember 24 = .ok (.ldc 99, 2) := by decide +kernel
theorem dX7_remember_26 : decode cX7_remember 26 = .ok (.ireturn, 1) := by decide +kernel
theorem dX7_remember_27 : decode cX7_remember 27 = .ok (.aload_n 0, 1) := by decide +kernel
theorem dX7_remember_28 : decode cX7_remember 28 = .ok (.invokevirtual 57, 3) := by decide +kernel
theorem dX7_remember_31 : decode cX7_remember 31 = .ok (.aload_n 0, 1) := by decide +kernel
theorem dX7_remember_32 : decode cX7_remember 32 = .ok (.aload_n 0, 1) := by decide +kernel
theorem dX7_remember_33 : decode cX7_remember 33 = .ok (.iload_n 1, 1) := by decide +kernel
theorem dX7_remember_34 : decode cX7_remember 34 = .ok (.invokevirtual 84, 3) := by decide +kernel
theorem dX7_remember_37 : decode cX7_remember 37 = .ok (.invokevirtual 63, 3) := by decide +kernel
theorem dX7_remember_40 : decode cX7_remember 40 = .ok (.ireturn, 1) := by decide +kernel
set_option maxRecDepth 20000 in
theorem ggX7_set_X7_in : GoodIn wsX7_set wsX7_in := goodIn_r _ [6] (by decide +kernel) (by decide +kernel)
set_option maxRecDepth 20000 in
theorem gX7_set_X7_in : GoodIn wsX7_set (va_wsS RX7 35 yX7_in wsX7_in) := goodIn_app (goodIn_of _ (by decide +kernel)) ggX7_set_X7_in
set_option maxRecDepth 20000 in
theorem ggX7_set_X7_keeps : GoodIn wsX7_set wsX7_keeps := goodIn_r _ [10, 11, 2, 18, 19, 20, 21, 22, 23, 24, 25, 26, 27, 28, 29] (by decide +kernel) (by decide +kernel)
set_option maxRecDepth 20000 in
theorem gX7_set_X7_keeps : GoodIn wsX7_set (wsV RX7 57 RX7 yX7_keeps wsX7_keeps) := goodIn_app (goodIn_of _ (by decide +kernel)) ggX7_set_X7_keeps
set_option maxRecDepth 20000 in
theorem ggX7_set_X7_acted : GoodIn wsX7_set wsX7_acted := goodIn_r _ [15, 1, 16, 17, 11, 18, 19, 20, 21, 22, 23, 24, 25, 26, 27, 28, 29] (by decide +kernel) (by decide +kernel)
set_option maxRecDepth 20000 in
theorem gX7_set_X7_acted : GoodIn wsX7_set (wsV RX7 63 RX7 yX7_acted wsX7_acted) := goodIn_app (goodIn_of _ (by decide +kernel)) ggX7_set_X7_acted
theorem dX7_set_0 : decode cX7_set 0 = .ok (.iload_n 1, 1) := by decide +kernel
theorem dX7_set_1 : decode cX7_set 1 = .ok (.iconst 0, 1) := by decide +kernel
theorem dX7_set_2 : decode cX7_set 2 = .ok (.iconst 4, 1) := by decide +kernel
theorem dX7_set_3 : decode cX7_set 3 = .ok (.invokestatic 35, 3) := by decide +kernel
theorem dX7_set_6 : decode cX7_set 6 = .ok (.ifCond .eq 23, 3) := by decide +kernel
theorem dX7_set_9 : decode cX7_set 9 = .ok (.iload_n 2, 1) := by decide +kernel
theorem dX7_set_10 : decode cX7_set 10 = .ok (.iconst 0, 1) := by decide +kernel
theorem dX7_set_11 : decode cX7_set 11 = .ok (.iload_n 1, 1) := by decide +kernel
theorem dX7_set_12 : decode cX7_set 12 = .ok (.iconst 3, 1) := by decide +kernel
theorem dX7_set_13 : decode cX7_set 13 = .ok (.if_icmp .ge 8, 3) := by decide +kernel
theorem dX7_set_16 : decode cX7_set 16 = .ok (.bipush 20, 2) := by decide +kernel
theorem dX7_set_18 : decode cX7_set 18 = .ok (.goto 5, 3) := by decide +kernel
theorem dX7_set_21 : decode cX7_set 21 = .ok (.bipush 60, 2) := by decide +kernel
theorem dX7_set_23 : decode cX7_set 23 = .ok (.invokestatic 35, 3) := by decide +kernel
theorem dX7_set_26 : decode cX7_set 26 = .ok (.ifCond .ne 6, 3) := by decide +kernel
theorem dX7_set_29 : decode cX7_set 29 = .ok (.ldc 43, 2) := by decide +kernel
theorem dX7_set_31 : decode cX7_set 31 = .ok (.ireturn, 1) := by decide +kernel
theorem dX7_set_32 : decode cX7_set 32 = .ok (.aload_n 0, 1) := by decide +kernel
theorem dX7_set_33 : decode cX7_set 33 = .ok (.invokevirtual 57, 3) := by decide +kernel
theorem dX7_set_36 : decode cX7_set 36 = .ok (.aload_n 0, 1) := by decide +kernel
theorem dX7_set_37 : decode cX7_set 37 = .ok (.getfield 7, 3) := by decide +kernel
theorem dX7_set_40 : decode cX7_set 40 = .ok (.iconst 3, 1) := by decide +kernel
theorem dX7_set_41 : decode cX7_set 41 = .ok (.iload_n 1, 1) := by decide +kernel
theorem dX7_set_42 : decode cX7_set 42 = .ok (.iadd, 1) := by decide +kernel
theorem dX7_set_43 : decode cX7_set 43 = .ok (.iaload, 1) := by decide +kernel
theorem dX7_set_44 : decode cX7_set 44 = .ok (.istore_n 3, 1) := by decide +kernel
end
section
theorem dX7_set_45 : decode cX7_set 45 = .ok (.aload_n 0, 1) := by decide +kernel
theorem dX7_set_46 : decode cX7_set 46 = .ok (.getfield 7, 3) := by decide +kernel
theorem dX7_set_49 : decode cX7_set 49 = .ok (.iconst 3, 1) := by decide +kernel
theorem dX7_set_50 : decode cX7_set 50 = .ok (.iload_n 1, 1) := by decide +kernel
theorem dX7_set_51 : decode cX7_set 51 = .ok (.iadd, 1) := by decide +kernel
theorem dX7_set_52 : decode cX7_set 52 = .ok (.iload_n 2, 1) := by decide +kernel
theorem dX7_set_53 : decode cX7_set 53 = .ok (.iastore, 1) := by decide +kernel
theorem dX7_set_54 : decode cX7_set 54 = .ok (.aload_n 0, 1) := by decide +kernel
theorem dX7_set_55 : decode cX7_set 55 = .ok (.iload_n 3, 1) := by decide +kernel
theorem dX7_set_56 : decode cX7_set 56 = .ok (.invokevirtual 63, 3) := by decide +kernel
theorem dX7_set_59 : decode cX7_set 59 = .ok (.ireturn, 1) := by decide +kernel
set_option maxRecDepth 20000 in
theorem ggX7_wordAt_X7_isPlace : GoodIn wsX7_wordAt wsX7_isPlace := goodIn_r _ [8, 2, 9, 10, 7, 11, 12, 13, 14, 15, 16, 17, 18, 19, 20, 21, 22, 23] (by decide +kernel) (by decide +kernel)
set_option maxRecDepth 20000 in
theorem gX7_wordAt_X7_isPlace : GoodIn wsX7_wordAt (wsV RX7 39 RX7 yX7_isPlace wsX7_isPlace) := goodIn_app (goodIn_of _ (by decide +kernel)) ggX7_wordAt_X7_isPlace
theorem dX7_wordAt_0 : decode cX7_wordAt 0 = .ok (.iload_n 1, 1) := by decide +kernel
theorem dX7_wordAt_1 : decode cX7_wordAt 1 = .ok (.ifCond .ge 6, 3) := by decide +kernel
theorem dX7_wordAt_4 : decode cX7_wordAt 4 = .ok (.ldc 43, 2) := by decide +kernel
theorem dX7_wordAt_6 : decode cX7_wordAt 6 = .ok (.ireturn, 1) := by decide +kernel
theorem dX7_wordAt_7 : decode cX7_wordAt 7 = .ok (.aload_n 0, 1) := by decide +kernel
theorem dX7_wordAt_8 : decode cX7_wordAt 8 = .ok (.iload_n 1, 1) := by decide +kernel
theorem dX7_wordAt_9 : decode cX7_wordAt 9 = .ok (.invokevirtual 39, 3) := by decide +kernel
theorem dX7_wordAt_12 : decode cX7_wordAt 12 = .ok (.ifCond .eq 15, 3) := by decide +kernel
theorem dX7_wordAt_15 : decode cX7_wordAt 15 = .ok (.aload_n 0, 1) := by decide +kernel
theorem dX7_wordAt_16 : decode cX7_wordAt 16 = .ok (.getfield 7, 3) := by decide +kernel
theorem dX7_wordAt_19 : decode cX7_wordAt 19 = .ok (.bipush 8, 2) := by decide +kernel
theorem dX7_wordAt_21 : decode cX7_wordAt 21 = .ok (.iload_n 1, 1) := by decide +kernel
theorem dX7_wordAt_22 : decode cX7_wordAt 22 = .ok (.iadd, 1) := by decide +kernel
theorem dX7_wordAt_23 : decode cX7_wordAt 23 = .ok (.iaload, 1) := by decide +kernel
theorem dX7_wordAt_24 : decode cX7_wordAt 24 = .ok (.goto 5, 3) := by decide +kernel
theorem dX7_wordAt_27 : decode cX7_wordAt 27 = .ok (.ldc 100, 2) := by decide +kernel
theorem dX7_wordAt_29 : decode cX7_wordAt 29 = .ok (.ireturn, 1) := by decide +kernel
theorem dX7_orNone_0 : decode cX7_orNone 0 = .ok (.iload_n 0, 1) := by decide +kernel
theorem dX7_orNone_1 : decode cX7_orNone 1 = .ok (.ifCond .ge 8, 3) := by decide +kernel
theorem dX7_orNone_4 : decode cX7_orNone 4 = .ok (.ldc 100, 2) := by decide +kernel
theorem dX7_orNone_6 : decode cX7_orNone 6 = .ok (.goto 4, 3) := by decide +kernel
theorem dX7_orNone_9 : decode cX7_orNone 9 = .ok (.iload_n 0, 1) := by decide +kernel
theorem dX7_orNone_10 : decode cX7_orNone 10 = .ok (.ireturn, 1) := by decide +kernel
set_option maxRecDepth 20000 in
theorem ggX7_isTrue_X7_an : GoodIn wsX7_isTrue wsX7_an := goodIn_r _ [5, 6, 26, 27, 28, 29, 30, 31, 32, 33, 34, 35, 36, 37] (by decide +kernel) (by decide +kernel)
set_option maxRecDepth 20000 in
theorem gX7_isTrue_X7_an : GoodIn wsX7_isTrue (wsV RX7 48 RX7 yX7_an wsX7_an) := goodIn_app (goodIn_of _ (by decide +kernel)) ggX7_isTrue_X7_an
set_option maxRecDepth 20000 in
theorem ggX7_isTrue_X7_best : GoodIn wsX7_isTrue wsX7_best := goodIn_r _ [10, 6, 11, 12, 13, 4, 14, 15, 16, 17, 18, 19, 20, 21, 22, 23, 24, 25, 1, 2, 3, 5, 26, 27, 28, 29, 30, 31, 32, 33, 34, 35, 36, 37] (by decide +kernel) (by decide +kernel)
set_option maxRecDepth 20000 in
theorem gX7_isTrue_X7_best : GoodIn wsX7_isTrue (wsV RX7 93 RX7 yX7_best wsX7_best) := goodIn_app (goodIn_of _ (by decide +kernel)) ggX7_isTrue_X7_best
theorem dX7_isTrue_0 : decode cX7_isTrue 0 = .ok (.aload_n 0, 1) := by decide +kernel
theorem dX7_isTrue_1 : decode cX7_isTrue 1 = .ok (.iload_n 1, 1) := by decide +kernel
theorem dX7_isTrue_2 : decode cX7_isTrue 2 = .ok (.iconst 1, 1) := by decide +kernel
theorem dX7_isTrue_3 : decode cX7_isTrue 3 = .ok (.invokevirtual 48, 3) := by decide +kernel
theorem dX7_isTrue_6 : decode cX7_isTrue 6 = .ok (.ifCond .lt 22, 3) := by decide +kernel
theorem dX7_isTrue_9 : decode cX7_isTrue 9 = .ok (.aload_n 0, 1) := by decide +kernel
theorem dX7_isTrue_10 : decode cX7_isTrue 10 = .ok (.iload_n 1, 1) := by decide +kernel
theorem dX7_isTrue_11 : decode cX7_isTrue 11 = .ok (.iconst (-1), 1) := by decide +kernel
theorem dX7_isTrue_12 : decode cX7_isTrue 12 = .ok (.invokevirtual 93, 3) := by decide +kernel
theorem dX7_isTrue_15 : decode cX7_isTrue 15 = .ok (.aload_n 0, 1) := by decide +kernel
theorem dX7_isTrue_16 : decode cX7_isTrue 16 = .ok (.iload_n 1, 1) := by decide +kernel
theorem dX7_isTrue_17 : decode cX7_isTrue 17 = .ok (.iconst 1, 1) := by decide +kernel
theorem dX7_isTrue_18 : decode cX7_isTrue 18 = .ok (.invokevirtual 48, 3) := by decide +kernel
theorem dX7_isTrue_21 : decode cX7_isTrue 21 = .ok (.if_icmp .ne 7, 3) := by decide +kernel
theorem dX7_isTrue_24 : decode cX7_isTrue 24 = .ok (.iconst 1, 1) := by decide +kernel
theorem dX7_isTrue_25 : decode cX7_isTrue 25 = .ok (.goto 4, 3) := by decide +kernel
theorem dX7_isTrue_28 : decode cX7_isTrue 28 = .ok (.iconst 0, 1) := by decide +kernel
theorem dX7_isTrue_29 : decode cX7_isTrue 29 = .ok (.ireturn, 1) := by decide +kernel
set_option maxRecDepth 20000 in
theorem ggX7_anchorOf_X7_isAnchor : GoodIn wsX7_anchorOf wsX7_isAnchor := goodIn_r _ [7, 8, 9, 10, 6, 11, 43, 44, 45, 46, 47, 48, 49, 50, 51, 52, 53, 54] (by decide +kernel) (by decide +kernel)
set_option maxRecDepth 20000 in
theorem gX7_anchorOf_X7_isAnchor : GoodIn wsX7_anchorOf (wsV RX7 87 RX7 yX7_isAnchor wsX7_isAnchor) := goodIn_app (goodIn_of _ (by decide +kernel)) ggX7_anchorOf_X7_isAnchor
set_option maxRecDepth 20000 in
theorem ggX7_anchorOf_X7_in : GoodIn wsX7_anchorOf wsX7_in := goodIn_r _ [11] (by decide +kernel) (by decide +kernel)
set_option maxRecDepth 20000 in
theorem gX7_anchorOf_X7_in : GoodIn wsX7_anchorOf (va_wsS RX7 35 yX7_in wsX7_in) := goodIn_app (goodIn_of _ (by decide +kernel)) ggX7_anchorOf_X7_in
set_option maxRecDepth 20000 in
theorem ggX7_anchorOf_X7_best : GoodIn wsX7_anchorOf wsX7_best := goodIn_r _ [15, 8, 16, 17, 18, 6, 19, 20, 21, 22, 23, 24, 25, 26, 27, 9, 10, 11, 28, 29, 30, 31, 43, 44, 45, 46, 47, 48, 49, 50, 51, 52, 53, 54] (by decide +kernel) (by decide +kernel)
set_option maxRecDepth 20000 in
theorem gX7_anchorOf_X7_best : GoodIn wsX7_anchorOf (wsV RX7 93 RX7 yX7_best wsX7_best) := goodIn_app (goodIn_of _ (by decide +kernel)) ggX7_anchorOf_X7_best
set_option maxRecDepth 20000 in
theorem ggX7_anchorOf_X7_how : GoodIn wsX7_anchorOf wsX7_how := goodIn_r _ [35, 8, 12, 13, 14, 6, 15, 16, 17, 18, 19, 20, 21, 22, 23, 24, 25, 26, 27, 9, 10, 11, 28, 29, 30, 31, 43, 44, 45, 46, 47, 48, 49, 50, 51, 52, 53, 54] (by decide +kernel) (by decide +kernel)
set_option maxRecDepth 20000 in
theorem gX7_anchorOf_X7_how : GoodIn wsX7_anchorOf (wsV RX7 96 RX7 yX7_how wsX7_how) := goodIn_app (goodIn_of _ (by decide +kernel)) ggX7_anchorOf_X7_how
set_option maxRecDepth 20000 in
theorem ggX7_anchorOf_X7_orNone : GoodIn wsX7_anchorOf wsX7_orNone := goodIn_r _ [38, 2] (by decide +kernel) (by decide +kernel)
set_option maxRecDepth 20000 in
theorem gX7_anchorOf_X7_orNone : GoodIn wsX7_anchorOf (va_wsS RX7 101 yX7_orNone wsX7_orNone) := goodIn_app (goodIn_of _ (by decide +kernel)) ggX7_anchorOf_X7_orNone
set_option maxRecDepth 20000 in
theorem ggX7_anchorOf_X7_scoreAt : GoodIn wsX7_anchorOf wsX7_scoreAt := goodIn_r _ [19, 8, 20, 21, 22, 6, 23, 24, 25, 26, 27, 9, 10, 11, 28, 29, 30, 31, 43, 44, 45, 46, 47, 48, 49, 50, 51, 52, 53, 54] (by decide +kernel) (by decide +kernel)
set_option maxRecDepth 20000 in
theorem gX7_anchorOf_X7_scoreAt : GoodIn wsX7_anchorOf (wsV RX7 90 RX7 yX7_scoreAt wsX7_scoreAt) := goodIn_app (goodIn_of _ (by decide +kernel)) ggX7_anchorOf_X7_scoreAt
set_option maxRecDepth 20000 in
theorem ggX7_anchorOf_X7_isTrue : GoodIn wsX7_anchorOf wsX7_isTrue := goodIn_r _ [42, 28, 29, 30, 6, 31, 8, 12, 13, 14, 15, 16, 17, 18, 19, 20, 21, 22, 23, 24, 25, 26, 27, 9, 10, 11, 43, 44, 45, 46, 47, 48, 49, 50, 51, 52, 53, 54] (by decide +kernel) (by decide +kernel)
set_option maxRecDepth 20000 in
theorem gX7_anchorOf_X7_isTrue : GoodIn wsX7_anchorOf (wsV RX7 104 RX7 yX7_isTrue wsX7_isTrue) := goodIn_app (goodIn_of _ (by decide +kernel)) ggX7_anchorOf_X7_isTrue
set_option maxRecDepth 20000 in
theorem ggX7_anchorOf_X7_an : GoodIn wsX7_anchorOf wsX7_an := goodIn_r _ [31, 8, 43, 44, 45, 46, 47, 48, 49, 50, 51, 52, 53, 54] (by decide +kernel) (by decide +kernel)
set_option maxRecDepth 20000 in
theorem gX7_anchorOf_X7_an : GoodIn wsX7_anchorOf (wsV RX7 48 RX7 yX7_an wsX7_an) := goodIn_app (goodIn_of _ (by decide +kernel)) ggX7_anchorOf_X7_an
theorem dX7_anchorOf_0 : decode cX7_anchorOf 0 = .ok (.aload_n 0, 1) := by decide +kernel
theorem dX7_anchorOf_1 : decode cX7_anchorOf 1 = .ok (.iload_n 1, 1) := by decide +kernel
theorem dX7_anchorOf_2 : decode cX7_anchorOf 2 = .ok (.invokevirtual 87, 3) := by decide +kernel
theorem dX7_anchorOf_5 : decode cX7_anchorOf 5 = .ok (.ifCond .eq 13, 3) := by decide +kernel
theorem dX7_anchorOf_8 : decode cX7_anchorOf 8 = .ok (.iload_n 2, 1) := by decide +kernel
theorem dX7_anchorOf_9 : decode cX7_anchorOf 9 = .ok (.iconst 0, 1) := by decide +kernel
theorem dX7_anchorOf_10 : decode cX7_anchorOf 10 = .ok (.bipush 12, 2) := by decide +kernel
theorem dX7_anchorOf_12 : decode cX7_anchorOf 12 = .ok (.invokestatic 35, 3) := by decide +kernel
theorem dX7_anchorOf_15 : decode cX7_anchorOf 15 = .ok (.ifCond .ne 6, 3) := by decide +kernel
theorem dX7_anchorOf_18 : decode cX7_anchorOf 18 = .ok (.ldc 43, 2) := by decide +kernel
theorem dX7_anchorOf_20 : decode cX7_anchorOf 20 = .ok (.ireturn, 1) := by decide +kernel
theorem dX7_anchorOf_21 : decode cX7_anchorOf 21 = .ok (.aload_n 0, 1) := by decide +kernel
theorem dX7_anchorOf_22 : decode cX7_anchorOf 22 = .ok (.iload_n 1, 1) := by decide +kernel
theorem dX7_anchorOf_23 : decode cX7_anchorOf 23 = .ok (.iconst (-1), 1) := by decide +kernel
theorem dX7_anchorOf_24 : decode cX7_anchorOf 24 = .ok (.invokevirtual 93, 3) := by decide +kernel
theorem dX7_anchorOf_27 : decode cX7_anchorOf 27 = .ok (.istore_n 3, 1) := by decide +kernel
theorem dX7_anchorOf_28 : decode cX7_anchorOf 28 = .ok (.iload_n 3, 1) := by decide +kernel
theorem dX7_anchorOf_29 : decode cX7_anchorOf 29 = .ok (.ifCond .ge 7, 3) := by decide +kernel
theorem dX7_anchorOf_32 : decode cX7_anchorOf 32 = .ok (.iconst (-1), 1) := by decide +kernel
theorem dX7_anchorOf_33 : decode cX7_anchorOf 33 = .ok (.goto 9, 3) := by decide +kernel
theorem dX7_anchorOf_36 : decode cX7_anchorOf 36 = .ok (.aload_n 0, 1) := by decide +kernel
theorem dX7_anchorOf_37 : decode cX7_anchorOf 37 = .ok (.iload_n 1, 1) := by decide +kernel
theorem dX7_anchorOf_38 : decode cX7_anchorOf 38 = .ok (.iload_n 3, 1) := by decide +kernel
theorem dX7_anchorOf_39 : decode cX7_anchorOf 39 = .ok (.invokevirtual 93, 3) := by decide +kernel
theorem dX7_anchorOf_42 : decode cX7_anchorOf 42 = .ok (.istore 4, 2) := by decide +kernel
theorem dX7_anchorOf_44 : decode cX7_anchorOf 44 = .ok (.iload_n 2, 1) := by decide +kernel
theorem dX7_anchorOf_45 : decode cX7_anchorOf 45 = .ok (.tableswitch 104 7 12 #[39, 45, 50, 66, 72, 90], 39) := by decide +kernel
theorem dX7_anchorOf_84 : decode cX7_anchorOf 84 = .ok (.aload_n 0, 1) := by decide +kernel
theorem dX7_anchorOf_85 : decode cX7_anchorOf 85 = .ok (.iload_n 1, 1) := by decide +kernel
theorem dX7_anchorOf_86 : decode cX7_anchorOf 86 = .ok (.invokevirtual 96, 3) := by decide +kernel
theorem dX7_anchorOf_89 : decode cX7_anchorOf 89 = .ok (.ireturn, 1) := by decide +kernel
theorem dX7_anchorOf_90 : decode cX7_anchorOf 90 = .ok (.iload_n 3, 1) := by decide +kernel
theorem dX7_anchorOf_91 : decode cX7_anchorOf 91 = .ok (.invokestatic 101, 3) := by decide +kernel
theorem dX7_anchorOf_94 : decode cX7_anchorOf 94 = .ok (.ireturn, 1) := by decide +kernel
theorem dX7_anchorOf_95 : decode cX7_anchorOf 95 = .ok (.iload_n 3, 1) := by decide +kernel
theorem dX7_anchorOf_96 : decode cX7_anchorOf 96 = .ok (.ifCond .ge 8, 3) := by decide +kernel
theorem dX7_anchorOf_99 : decode cX7_anchorOf 99 = .ok (.ldc 100, 2) := by decide +kernel
theorem dX7_anchorOf_101 : decode cX7_anchorOf 101 = .ok (.goto 9, 3) := by decide +kernel
theorem dX7_anchorOf_104 : decode cX7_anchorOf 104 = .ok (.aload_n 0, 1) := by decide +kernel
theorem dX7_anchorOf_105 : decode cX7_anchorOf 105 = .ok (.iload_n 1, 1) := by decide +kernel
theorem dX7_anchorOf_106 : decode cX7_anchorOf 106 = .ok (.iload_n 3, 1) := by decide +kernel
theorem dX7_anchorOf_107 : decode cX7_anchorOf 107 = .ok (.invokevirtual 90, 3) := by decide +kernel
theorem dX7_anchorOf_110 : decode cX7_anchorOf 110 = .ok (.ireturn, 1) := by decide +kernel
theorem dX7_anchorOf_111 : decode cX7_anchorOf 111 = .ok (.iload 4, 2) := by decide +kernel
theorem dX7_anchorOf_113 : decode cX7_anchorOf 113 = .ok (.invokestatic 101, 3) := by decide +kernel
theorem dX7_anchorOf_116 : decode cX7_anchorOf 116 = .ok (.ireturn, 1) := by decide +kernel
theorem dX7_anchorOf_117 : decode cX7_anchorOf 117 = .ok (.iload 4, 2) := by decide +kernel
theorem dX7_anchorOf_119 : decode cX7_anchorOf 119 = .ok (.ifCond .ge 8, 3) := by decide +kernel
theorem dX7_anchorOf_122 : decode cX7_anchorOf 122 = .ok (.ldc 100, 2) := by decide +kernel
theorem dX7_anchorOf_124 : decode cX7_anchorOf 124 = .ok (.goto 10, 3) := by decide +kernel
theorem dX7_anchorOf_127 : decode cX7_anchorOf 127 = .ok (.aload_n 0, 1) := by decide +kernel
theorem dX7_anchorOf_128 : decode cX7_anchorOf 128 = .ok (.iload_n 1, 1) := by decide +kernel
theorem dX7_anchorOf_129 : decode cX7_anchorOf 129 = .ok (.iload 4, 2) := by decide +kernel
theorem dX7_anchorOf_131 : decode cX7_anchorOf 131 = .ok (.invokevirtual 90, 3) := by decide +kernel
theorem dX7_anchorOf_134 : decode cX7_anchorOf 134 = .ok (.ireturn, 1) := by decide +kernel
theorem dX7_anchorOf_135 : decode cX7_anchorOf 135 = .ok (.aload_n 0, 1) := by decide +kernel
theorem dX7_anchorOf_136 : decode cX7_anchorOf 136 = .ok (.iload_n 1, 1) := by decide +kernel
theorem dX7_anchorOf_137 : decode cX7_anchorOf 137 = .ok (.invokevirtual 104, 3) := by decide +kernel
theorem dX7_anchorOf_140 : decode cX7_anchorOf 140 = .ok (.ifCond .eq 7, 3) := by decide +kernel
theorem dX7_anchorOf_143 : decode cX7_anchorOf 143 = .ok (.iconst 1, 1) := by decide +kernel
theorem dX7_anchorOf_144 : decode cX7_anchorOf 144 = .ok (.goto 4, 3) := by decide +kernel
theorem dX7_anchorOf_147 : decode cX7_anchorOf 147 = .ok (.iconst 0, 1) := by decide +kernel
theorem dX7_anchorOf_148 : decode cX7_anchorOf 148 = .ok (.ireturn, 1) := by decide +kernel
theorem dX7_anchorOf_149 : decode cX7_anchorOf 149 = .ok (.aload_n 0, 1) := by decide +kernel
theorem dX7_anchorOf_150 : decode cX7_anchorOf 150 = .ok (.iload_n 1, 1) := by decide +kernel
theorem dX7_anchorOf_151 : decode cX7_anchorOf 151 = .ok (.iload_n 2, 1) := by decide +kernel
theorem dX7_anchorOf_152 : decode cX7_anchorOf 152 = .ok (.invokevirtual 48, 3) := by decide +kernel
theorem dX7_anchorOf_155 : decode cX7_anchorOf 155 = .ok (.invokestatic 101, 3) := by decide +kernel
theorem dX7_anchorOf_158 : decode cX7_anchorOf 158 = .ok (.ireturn, 1) := by decide +kernel
set_option maxRecDepth 20000 in
theorem ggX7_score_X7_isAnchor : GoodIn wsX7_score wsX7_isAnchor := goodIn_r _ [6, 7, 8, 9, 5, 10, 27, 28, 29, 30, 31, 32, 33, 34, 35, 36, 37, 38] (by decide +kernel) (by decide +kernel)
set_option maxRecDepth 20000 in
theorem gX7_score_X7_isAnchor : GoodIn wsX7_score (wsV RX7 87 RX7 yX7_isAnchor wsX7_isAnchor) := goodIn_app (goodIn_of _ (by decide +kernel)) ggX7_score_X7_isAnchor
set_option maxRecDepth 20000 in
theorem ggX7_score_X7_isPlace : GoodIn wsX7_score wsX7_isPlace := goodIn_r _ [14, 7, 8, 9, 5, 10, 27, 28, 29, 30, 31, 32, 33, 34, 35, 36, 37, 38] (by decide +kernel) (by decide +kernel)
set_option maxRecDepth 20000 in
theorem gX7_score_X7_isPlace : GoodIn wsX7_score (wsV RX7 39 RX7 yX7_isPlace wsX7_isPlace) := goodIn_app (goodIn_of _ (by decide +kernel)) ggX7_score_X7_isPlace
set_option maxRecDepth 20000 in
theorem ggX7_score_X7_scoreAt : GoodIn wsX7_score wsX7_scoreAt := goodIn_r _ [18, 7, 19, 20, 21, 5, 22, 11, 12, 13, 14, 8, 9, 10, 23, 24, 25, 26, 27, 28, 29, 30, 31, 32, 33, 34, 35, 36, 37, 38] (by decide +kernel) (by decide +kernel)
set_option maxRecDepth 20000 in
theorem gX7_score_X7_scoreAt : GoodIn wsX7_score (wsV RX7 90 RX7 yX7_scoreAt wsX7_scoreAt) := goodIn_app (goodIn_of _ (by decide +kernel)) ggX7_score_X7_scoreAt
theorem dX7_score_0 : decode cX7_score 0 = .ok (.aload_n 0, 1) := by decide +kernel
theorem dX7_score_1 : decode cX7_score 1 = .ok (.iload_n 1, 1) := by decide +kernel
theorem dX7_score_2 : decode cX7_score 2 = .ok (.invokevirtual 87, 3) := by decide +kernel
theorem dX7_score_5 : decode cX7_score 5 = .ok (.ifCond .eq 20, 3) := by decide +kernel
theorem dX7_score_8 : decode cX7_score 8 = .ok (.aload_n 0, 1) := by decide +kernel
theorem dX7_score_9 : decode cX7_score 9 = .ok (.iload_n 2, 1) := by decide +kernel
theorem dX7_score_10 : decode cX7_score 10 = .ok (.invokevirtual 39, 3) := by decide +kernel
theorem dX7_score_13 : decode cX7_score 13 = .ok (.ifCond .eq 12, 3) := by decide +kernel
theorem dX7_score_16 : decode cX7_score 16 = .ok (.aload_n 0, 1) := by decide +kernel
theorem dX7_score_17 : decode cX7_score 17 = .ok (.iload_n 1, 1) := by decide +kernel
theorem dX7_score_18 : decode cX7_score 18 = .ok (.iload_n 2, 1) := by decide +kernel
theorem dX7_score_19 : decode cX7_score 19 = .ok (.invokevirtual 90, 3) := by decide +kernel
theorem dX7_score_22 : decode cX7_score 22 = .ok (.goto 5, 3) := by decide +kernel
theorem dX7_score_25 : decode cX7_score 25 = .ok (.ldc 43, 2) := by decide +kernel
theorem dX7_score_27 : decode cX7_score 27 = .ok (.ireturn, 1) := by decide +kernel
set_option maxRecDepth 20000 in
theorem ggX7_is_X7_isTrue : GoodIn wsX7_is wsX7_isTrue := goodIn_r _ [5, 6, 7, 8, 4, 9, 10, 11, 12, 13, 14, 15, 16, 17, 18, 19, 20, 21, 22, 23, 24, 25, 26, 27, 28, 29, 34, 35, 36, 37, 38, 39, 40, 41, 42, 43, 44, 45] (by decide +kernel) (by decide +kernel)
set_option maxRecDepth 20000 in
theorem gX7_is_X7_isTrue : GoodIn wsX7_is (wsV RX7 104 RX7 yX7_isTrue wsX7_isTrue) := goodIn_app (goodIn_of _ (by decide +kernel)) ggX7_is_X7_isTrue
set_option maxRecDepth 20000 in
theorem ggX7_is_X7_an : GoodIn wsX7_is wsX7_an := goodIn_r _ [9, 10, 34, 35, 36, 37, 38, 39, 40, 41, 42, 43, 44, 45] (by decide +kernel) (by decide +kernel)
set_option maxRecDepth 20000 in
theorem gX7_is_X7_an : GoodIn wsX7_is (wsV RX7 48 RX7 yX7_an wsX7_an) := goodIn_app (goodIn_of _ (by decide +kernel)) ggX7_is_X7_an
set_option maxRecDepth 20000 in
theorem ggX7_is_X7_how : GoodIn wsX7_is wsX7_how := goodIn_r _ [33, 10, 11, 12, 13, 4, 14, 15, 16, 17, 18, 19, 20, 21, 22, 23, 24, 25, 26, 27, 28, 29, 6, 7, 8, 9, 34, 35, 36, 37, 38, 39, 40, 41, 42, 43, 44, 45] (by decide +kernel) (by decide +kernel)
set_option maxRecDepth 20000 in
theorem gX7_is_X7_how : GoodIn wsX7_is (wsV RX7 96 RX7 yX7_how wsX7_how) := goodIn_app (goodIn_of _ (by decide +kernel)) ggX7_is_X7_how
theorem dX7_is_0 : decode cX7_is 0 = .ok (.iload_n 2, 1) := by decide +kernel
theorem dX7_is_1 : decode cX7_is 1 = .ok (.tableswitch 72 3 5 #[27, 33, 48], 27) := by decide +kernel
theorem dX7_is_28 : decode cX7_is 28 = .ok (.aload_n 0, 1) := by decide +kernel
theorem dX7_is_29 : decode cX7_is 29 = .ok (.iload_n 1, 1) := by decide +kernel
theorem dX7_is_30 : decode cX7_is 30 = .ok (.invokevirtual 104, 3) := by decide +kernel
theorem dX7_is_33 : decode cX7_is 33 = .ok (.ireturn, 1) := by decide +kernel
theorem dX7_is_34 : decode cX7_is 34 = .ok (.aload_n 0, 1) := by decide +kernel
theorem dX7_is_35 : decode cX7_is 35 = .ok (.iload_n 1, 1) := by decide +kernel
theorem dX7_is_36 : decode cX7_is 36 = .ok (.iconst 1, 1) := by decide +kernel
theorem dX7_is_37 : decode cX7_is 37 = .ok (.invokevirtual 48, 3) := by decide +kernel
theorem dX7_is_40 : decode cX7_is 40 = .ok (.ifCond .ge 7, 3) := by decide +kernel
theorem dX7_is_43 : decode cX7_is 43 = .ok (.iconst 1, 1) := by decide +kernel
theorem dX7_is_44 : decode cX7_is 44 = .ok (.goto 4, 3) := by decide +kernel
theorem dX7_is_47 : decode cX7_is 47 = .ok (.iconst 0, 1) := by decide +kernel
theorem dX7_is_48 : decode cX7_is 48 = .ok (.ireturn, 1) := by decide +kernel
theorem dX7_is_49 : decode cX7_is 49 = .ok (.aload_n 0, 1) := by decide +kernel
theorem dX7_is_50 : decode cX7_is 50 = .ok (.iload_n 1, 1) := by decide +kernel
theorem dX7_is_51 : decode cX7_is 51 = .ok (.invokevirtual 96, 3) := by decide +kernel
theorem dX7_is_54 : decode cX7_is 54 = .ok (.iconst 2, 1) := by decide +kernel
theorem dX7_is_55 : decode cX7_is 55 = .ok (.if_icmp .ne 16, 3) := by decide +kernel
theorem dX7_is_58 : decode cX7_is 58 = .ok (.aload_n 0, 1) := by decide +kernel
theorem dX7_is_59 : decode cX7_is 59 = .ok (.iload_n 1, 1) := by decide +kernel
theorem dX7_is_60 : decode cX7_is 60 = .ok (.iconst 1, 1) := by decide +kernel
theorem dX7_is_61 : decode cX7_is 61 = .ok (.invokevirtual 48, 3) := by decide +kernel
theorem dX7_is_64 : decode cX7_is 64 = .ok (.ifCond .lt 7, 3) := by decide +kernel
theorem dX7_is_67 : decode cX7_is 67 = .ok (.iconst 1, 1) := by decide +kernel
theorem dX7_is_68 : decode cX7_is 68 = .ok (.goto 4, 3) := by decide +kernel
theorem dX7_is_71 : decode cX7_is 71 = .ok (.iconst 0, 1) := by decide +kernel
theorem dX7_is_72 : decode cX7_is 72 = .ok (.ireturn, 1) := by decide +kernel
theorem dX7_is_73 : decode cX7_is 73 = .ok (.aload_n 0, 1) := by decide +kernel
theorem dX7_is_74 : decode cX7_is 74 = .ok (.iload_n 1, 1) := by decide +kernel
theorem dX7_is_75 : decode cX7_is 75 = .ok (.invokevirtual 96, 3) := by decide +kernel
theorem dX7_is_78 : decode cX7_is 78 = .ok (.iload_n 2, 1) := by decide +kernel
theorem dX7_is_79 : decode cX7_is 79 = .ok (.if_icmp .ne 7, 3) := by decide +kernel
theorem dX7_is_82 : decode cX7_is 82 = .ok (.iconst 1, 1) := by decide +kernel
theorem dX7_is_83 : decode cX7_is 83 = .ok (.goto 4, 3) := by decide +kernel
theorem dX7_is_86 : decode cX7_is 86 = .ok (.iconst 0, 1) := by decide +kernel
theorem dX7_is_87 : decode cX7_is 87 = .ok (.ireturn, 1) := by decide +kernel
set_option maxRecDepth 20000 in
theorem ggX7_those_X7_is : GoodIn wsX7_those wsX7_is := goodIn_r _ [6, 7, 8, 9, 5, 10, 11, 12, 13, 14, 1, 15, 16, 17, 18, 19, 20, 21, 22, 23, 24, 25, 26, 27, 28, 29, 30, 31, 32, 33, 34, 35, 36, 37, 38, 39, 40, 41, 42, 43, 44, 45, 46, 47, 48, 49] (by decide +kernel) (by decide +kernel)
set_option maxRecDepth 20000 in
theorem gX7_those_X7_is : GoodIn wsX7_those (wsV RX7 107 RX7 yX7_is wsX7_is) := goodIn_app (goodIn_of _ (by decide +kernel)) ggX7_those_X7_is
theorem dX7_those_0 : decode cX7_those 0 = .ok (.iconst 0, 1) := by decide +kernel
theorem dX7_those_1 : decode cX7_those 1 = .ok (.istore_n 2, 1) := by decide +kernel
theorem dX7_those_2 : decode cX7_those 2 = .ok (.iconst 0, 1) := by decide +kernel
theorem dX7_those_3 : decode cX7_those 3 = .ok (.istore_n 3, 1) := by decide +kernel
theorem dX7_those_4 : decode cX7_those 4 = .ok (.iload_n 3, 1) := by decide +kernel
theorem dX7_those_5 : decode cX7_those 5 = .ok (.aload_n 0, 1) := by decide +kernel
theorem dX7_those_6 : decode cX7_those 6 = .ok (.getfield 7, 3) := by decide +kernel
theorem dX7_those_9 : decode cX7_those 9 = .ok (.iconst 1, 1) := by decide +kernel
theorem dX7_those_10 : decode cX7_those 10 = .ok (.iaload, 1) := by decide +kernel
theorem dX7_those_11 : decode cX7_those 11 = .ok (.if_icmp .ge 28, 3) := by decide +kernel
theorem dX7_those_14 : decode cX7_those 14 = .ok (.iload_n 2, 1) := by decide +kernel
theorem dX7_those_15 : decode cX7_those 15 = .ok (.aload_n 0, 1) := by decide +kernel
theorem dX7_those_16 : decode cX7_those 16 = .ok (.iload_n 3, 1) := by decide +kernel
theorem dX7_those_17 : decode cX7_those 17 = .ok (.iload_n 1, 1) := by decide +kernel
theorem dX7_those_18 : decode cX7_those 18 = .ok (.invokevirtual 107, 3) := by decide +kernel
theorem dX7_those_21 : decode cX7_those 21 = .ok (.ifCond .eq 9, 3) := by decide +kernel
theorem dX7_those_24 : decode cX7_those 24 = .ok (.iconst 1, 1) := by decide +kernel
theorem dX7_those_25 : decode cX7_those 25 = .ok (.iload_n 3, 1) := by decide +kernel
theorem dX7_those_26 : decode cX7_those 26 = .ok (.ishl, 1) := by decide +kernel
theorem dX7_those_27 : decode cX7_those 27 = .ok (.goto 4, 3) := by decide +kernel
theorem dX7_those_30 : decode cX7_those 30 = .ok (.iconst 0, 1) := by decide +kernel
theorem dX7_those_31 : decode cX7_those 31 = .ok (.ior, 1) := by decide +kernel
theorem dX7_those_32 : decode cX7_those 32 = .ok (.istore_n 2, 1) := by decide +kernel
theorem dX7_those_33 : decode cX7_those 33 = .ok (.iinc 3 1, 3) := by decide +kernel
theorem dX7_those_36 : decode cX7_those 36 = .ok (.goto (-32), 3) := by decide +kernel
theorem dX7_those_39 : decode cX7_those 39 = .ok (.iload_n 2, 1) := by decide +kernel
theorem dX7_those_40 : decode cX7_those 40 = .ok (.ireturn, 1) := by decide +kernel
set_option maxRecDepth 20000 in
theorem ggX7_anchors_X7_in : GoodIn wsX7_anchors wsX7_in := goodIn_r _ [5] (by decide +kernel) (by decide +kernel)
set_option maxRecDepth 20000 in
theorem gX7_anchors_X7_in : GoodIn wsX7_anchors (va_wsS RX7 35 yX7_in wsX7_in) := goodIn_app (goodIn_of _ (by decide +kernel)) ggX7_anchors_X7_in
set_option maxRecDepth 20000 in
theorem ggX7_anchors_X7_those : GoodIn wsX7_anchors wsX7_those := goodIn_r _ [9, 10, 11, 12, 13, 4, 14, 15, 16, 17, 18, 19, 20, 21, 22, 23, 24, 25, 26, 27, 28, 29, 30, 31, 32, 33, 34, 35, 36, 37, 38, 2, 3, 5, 39, 40, 41, 42, 43, 44, 45, 46, 47, 48, 49, 50, 51, 52, 53, 54] (by decide +kernel) (by decide +kernel)
set_option maxRecDepth 20000 in
theorem gX7_anchors_X7_those : GoodIn wsX7_anchors (wsV RX7 111 RX7 yX7_those wsX7_those) := goodIn_app (goodIn_of _ (by decide +kernel)) ggX7_anchors_X7_those
theorem dX7_anchors_0 : decode cX7_anchors 0 = .ok (.iload_n 1, 1) := by decide +kernel
theorem dX7_anchors_1 : decode cX7_anchors 1 = .ok (.iconst 0, 1) := by decide +kernel
theorem dX7_anchors_2 : decode cX7_anchors 2 = .ok (.iconst 5, 1) := by decide +kernel
theorem dX7_anchors_3 : decode cX7_anchors 3 = .ok (.invokestatic 35, 3) := by decide +kernel
theorem dX7_anchors_6 : decode cX7_anchors 6 = .ok (.ifCond .eq 11, 3) := by decide +kernel
theorem dX7_anchors_9 : decode cX7_anchors 9 = .ok (.aload_n 0, 1) := by decide +kernel
theorem dX7_anchors_10 : decode cX7_anchors 10 = .ok (.iload_n 1, 1) := by decide +kernel
theorem dX7_anchors_11 : decode cX7_anchors 11 = .ok (.invokevirtual 111, 3) := by decide +kernel
theorem dX7_anchors_14 : decode cX7_anchors 14 = .ok (.goto 5, 3) := by decide +kernel
theorem dX7_anchors_17 : decode cX7_anchors 17 = .ok (.ldc 43, 2) := by decide +kernel
theorem dX7_anchors_19 : decode cX7_anchors 19 = .ok (.ireturn, 1) := by decide +kernel
theorem dX7_ones_0 : decode cX7_ones 0 = .ok (.iconst 0, 1) := by decide +kernel
theorem dX7_ones_1 : decode cX7_ones 1 = .ok (.istore_n 1, 1) := by decide +kernel
theorem dX7_ones_2 : decode cX7_ones 2 = .ok (.iconst 0, 1) := by decide +kernel
theorem dX7_ones_3 : decode cX7_ones 3 = .ok (.istore_n 2, 1) := by decide +kernel
theorem dX7_ones_4 : decode cX7_ones 4 = .ok (.iload_n 2, 1) := by decide +kernel
theorem dX7_ones_5 : decode cX7_ones 5 = .ok (.bipush 6, 2) := by decide +kernel
theorem dX7_ones_7 : decode cX7_ones 7 = .ok (.if_icmp .ge 17, 3) := by decide +kernel
theorem dX7_ones_10 : decode cX7_ones 10 = .ok (.iload_n 1, 1) := by decide +kernel
theorem dX7_ones_11 : decode cX7_ones 11 = .ok (.iload_n 0, 1) := by decide +kernel
theorem dX7_ones_12 : decode cX7_ones 12 = .ok (.iload_n 2, 1) := by decide +kernel
theorem dX7_ones_13 : decode cX7_ones 13 = .ok (.ishr, 1) := by decide +kernel
theorem dX7_ones_14 : decode cX7_ones 14 = .ok (.iconst 1, 1) := by decide +kernel
theorem dX7_ones_15 : decode cX7_ones 15 = .ok (.iand, 1) := by decide +kernel
theorem dX7_ones_16 : decode cX7_ones 16 = .ok (.iadd, 1) := by decide +kernel
theorem dX7_ones_17 : decode cX7_ones 17 = .ok (.istore_n 1, 1) := by decide +kernel
theorem dX7_ones_18 : decode cX7_ones 18 = .ok (.iinc 2 1, 3) := by decide +kernel
theorem dX7_ones_21 : decode cX7_ones 21 = .ok (.goto (-17), 3) := by decide +kernel
theorem dX7_ones_24 : decode cX7_ones 24 = .ok (.iload_n 1, 1) := by decide +kernel
theorem dX7_ones_25 : decode cX7_ones 25 = .ok (.ireturn, 1) := by decide +kernel
theorem dX7_block_0 : decode cX7_block 0 = .ok (.iconst 0, 1) := by decide +kernel
theorem dX7_block_1 : decode cX7_block 1 = .ok (.istore_n 2, 1) := by decide +kernel
theorem dX7_block_2 : decode cX7_block 2 = .ok (.iconst 0, 1) := by decide +kernel
theorem dX7_block_3 : decode cX7_block 3 = .ok (.istore_n 3, 1) := by decide +kernel
theorem dX7_block_4 : decode cX7_block 4 = .ok (.iload_n 3, 1) := by decide +kernel
theorem dX7_block_5 : decode cX7_block 5 = .ok (.aload_n 0, 1) := by decide +kernel
theorem dX7_block_6 : decode cX7_block 6 = .ok (.getfield 7, 3) := by decide +kernel
theorem dX7_block_9 : decode cX7_block 9 = .ok (.iconst 1, 1) := by decide +kernel
theorem dX7_block_10 : decode cX7_block 10 = .ok (.iaload, 1) := by decide +kernel
theorem dX7_block_11 : decode cX7_block 11 = .ok (.if_icmp .ge 34, 3) := by decide +kernel
theorem dX7_block_14 : decode cX7_block 14 = .ok (.iload_n 2, 1) := by decide +kernel
theorem dX7_block_15 : decode cX7_block 15 = .ok (.aload_n 0, 1) := by decide +kernel
theorem dX7_block_16 : decode cX7_block 16 = .ok (.getfield 32, 3) := by decide +kernel
theorem dX7_block_19 : decode cX7_block 19 = .ok (.iload_n 3, 1) := by decide +kernel
theorem dX7_block_20 : decode cX7_block 20 = .ok (.iaload, 1) := by decide +kernel
theorem dX7_block_21 : decode cX7_block 21 = .ok (.aload_n 0, 1) := by decide +kernel
theorem dX7_block_22 : decode cX7_block 22 = .ok (.getfield 32, 3) := by decide +kernel
theorem dX7_block_25 : decode cX7_block 25 = .ok (.iload_n 1, 1) := by decide +kernel
theorem dX7_block_26 : decode cX7_block 26 = .ok (.iaload, 1) := by decide +kernel
theorem dX7_block_27 : decode cX7_block 27 = .ok (.if_icmp .ne 9, 3) := by decide +kernel
theorem dX7_block_30 : decode cX7_block 30 = .ok (.iconst 1, 1) := by decide +kernel
theorem dX7_block_31 : decode cX7_block 31 = .ok (.iload_n 3, 1) := by decide +kernel
theorem dX7_block_32 : decode cX7_block 32 = .ok (.ishl, 1) := by decide +kernel
theorem dX7_block_33 : decode cX7_block 33 = .ok (.goto 4, 3) := by decide +kernel
theorem dX7_block_36 : decode cX7_block 36 = .ok (.iconst 0, 1) := by decide +kernel
theorem dX7_block_37 : decode cX7_block 37 = .ok (.ior, 1) := by decide +kernel
theorem dX7_block_38 : decode cX7_block 38 = .ok (.istore_n 2, 1) := by decide +kernel
theorem dX7_block_39 : decode cX7_block 39 = .ok (.iinc 3 1, 3) := by decide +kernel
theorem dX7_block_42 : decode cX7_block 42 = .ok (.goto (-38), 3) := by decide +kernel
theorem dX7_block_45 : decode cX7_block 45 = .ok (.aload_n 0, 1) := by decide +kernel
theorem dX7_block_46 : decode cX7_block 46 = .ok (.getfield 32, 3) := by decide +kernel
theorem dX7_block_49 : decode cX7_block 49 = .ok (.iload_n 1, 1) := by decide +kernel
theorem dX7_block_50 : decode cX7_block 50 = .ok (.iaload, 1) := by decide +kernel
theorem dX7_block_51 : decode cX7_block 51 = .ok (.ifCond .eq 13, 3) := by decide +kernel
theorem dX7_block_54 : decode cX7_block 54 = .ok (.iload_n 2, 1) := by decide +kernel
theorem dX7_block_55 : decode cX7_block 55 = .ok (.iconst 1, 1) := by decide +kernel
theorem dX7_block_56 : decode cX7_block 56 = .ok (.iload_n 1, 1) := by decide +kernel
theorem dX7_block_57 : decode cX7_block 57 = .ok (.ishl, 1) := by decide +kernel
theorem dX7_block_58 : decode cX7_block 58 = .ok (.iconst 1, 1) := by decide +kernel
theorem dX7_block_59 : decode cX7_block 59 = .ok (.isub, 1) := by decide +kernel
theorem dX7_block_60 : decode cX7_block 60 = .ok (.iand, 1) := by decide +kernel
theorem dX7_block_61 : decode cX7_block 61 = .ok (.ifCond .eq 7, 3) := by decide +kernel
theorem dX7_block_64 : decode cX7_block 64 = .ok (.iconst 0, 1) := by decide +kernel
theorem dX7_block_65 : decode cX7_block 65 = .ok (.goto 4, 3) := by decide +kernel
theorem dX7_block_68 : decode cX7_block 68 = .ok (.iload_n 2, 1) := by decide +kernel
theorem dX7_block_69 : decode cX7_block 69 = .ok (.ireturn, 1) := by decide +kernel
set_option maxRecDepth 20000 in
theorem ggX7_shifts_X7_how : GoodIn wsX7_shifts wsX7_how := goodIn_r _ [7, 1, 8, 9, 10, 6, 11, 12, 13, 14, 15, 16, 17, 18, 19, 20, 21, 22, 23, 24, 25, 26, 27, 28, 29, 30, 31, 32, 33, 34, 35, 36, 37, 38, 39, 40, 41, 42] (by decide +kernel) (by decide +kernel)
set_option maxRecDepth 20000 in
theorem gX7_shifts_X7_how : GoodIn wsX7_shifts (wsV RX7 96 RX7 yX7_how wsX7_how) := goodIn_app (goodIn_of _ (by decide +kernel)) ggX7_shifts_X7_how
set_option maxRecDepth 20000 in
theorem ggX7_shifts_X7_best : GoodIn wsX7_shifts wsX7_best := goodIn_r _ [11, 1, 12, 13, 14, 6, 15, 16, 17, 18, 19, 20, 21, 22, 23, 24, 25, 26, 27, 28, 29, 30, 31, 32, 33, 34, 35, 36, 37, 38, 39, 40, 41, 42] (by decide +kernel) (by decide +kernel)
set_option maxRecDepth 20000 in
theorem gX7_shifts_X7_best : GoodIn wsX7_shifts (wsV RX7 93 RX7 yX7_best wsX7_best) := goodIn_app (goodIn_of _ (by decide +kernel)) ggX7_shifts_X7_best
set_option maxRecDepth 20000 in
theorem ggX7_shifts_X7_an : GoodIn wsX7_shifts wsX7_an := goodIn_r _ [30, 1, 31, 32, 33, 34, 35, 36, 37, 38, 39, 40, 41, 42] (by decide +kernel) (by decide +kernel)
set_option maxRecDepth 20000 in
theorem gX7_shifts_X7_an : GoodIn wsX7_shifts (wsV RX7 48 RX7 yX7_an wsX7_an) := goodIn_app (goodIn_of _ (by decide +kernel)) ggX7_shifts_X7_an
theorem dX7_shifts_0 : decode cX7_shifts 0 = .ok (.iconst 0, 1) := by decide +kernel
theorem dX7_shifts_1 : decode cX7_shifts 1 = .ok (.istore_n 1, 1) := by decide +kernel
theorem dX7_shifts_2 : decode cX7_shifts 2 = .ok (.iload_n 1, 1) := by decide +kernel
theorem dX7_shifts_3 : decode cX7_shifts 3 = .ok (.aload_n 0, 1) := by decide +kernel
theorem dX7_shifts_4 : decode cX7_shifts 4 = .ok (.getfield 7, 3) := by decide +kernel
theorem dX7_shifts_7 : decode cX7_shifts 7 = .ok (.iconst 1, 1) := by decide +kernel
theorem dX7_shifts_8 : decode cX7_shifts 8 = .ok (.iaload, 1) := by decide +kernel
theorem dX7_shifts_9 : decode cX7_shifts 9 = .ok (.if_icmp .ge 41, 3) := by decide +kernel
theorem dX7_shifts_12 : decode cX7_shifts 12 = .ok (.aload_n 0, 1) := by decide +kernel
theorem dX7_shifts_13 : decode cX7_shifts 13 = .ok (.getfield 32, 3) := by decide +kernel
theorem dX7_shifts_16 : decode cX7_shifts 16 = .ok (.iload_n 1, 1) := by decide +kernel
theorem dX7_shifts_17 : decode cX7_shifts 17 = .ok (.aload_n 0, 1) := by decide +kernel
theorem dX7_shifts_18 : decode cX7_shifts 18 = .ok (.iload_n 1, 1) := by decide +kernel
theorem dX7_shifts_19 : decode cX7_shifts 19 = .ok (.invokevirtual 96, 3) := by decide +kernel
theorem dX7_shifts_22 : decode cX7_shifts 22 = .ok (.iconst 2, 1) := by decide +kernel
theorem dX7_shifts_23 : decode cX7_shifts 23 = .ok (.if_icmp .ne 7, 3) := by decide +kernel
theorem dX7_shifts_26 : decode cX7_shifts 26 = .ok (.iconst 0, 1) := by decide +kernel
theorem dX7_shifts_27 : decode cX7_shifts 27 = .ok (.goto 16, 3) := by decide +kernel
theorem dX7_shifts_30 : decode cX7_shifts 30 = .ok (.aload_n 0, 1) := by decide +kernel
theorem dX7_shifts_31 : decode cX7_shifts 31 = .ok (.iload_n 1, 1) := by decide +kernel
theorem dX7_shifts_32 : decode cX7_shifts 32 = .ok (.iconst (-1), 1) := by decide +kernel
theorem dX7_shifts_33 : decode cX7_shifts 33 = .ok (.invokevirtual 93, 3) := by decide +kernel
theorem dX7_shifts_36 : decode cX7_shifts 36 = .ok (.aload_n 0, 1) := by decide +kernel
theorem dX7_shifts_37 : decode cX7_shifts 37 = .ok (.iload_n 1, 1) := by decide +kernel
theorem dX7_shifts_38 : decode cX7_shifts 38 = .ok (.iconst 0, 1) := by decide +kernel
theorem dX7_shifts_39 : decode cX7_shifts 39 = .ok (.invokevirtual 48, 3) := by decide +kernel
theorem dX7_shifts_42 : decode cX7_shifts 42 = .ok (.isub, 1) := by decide +kernel
theorem dX7_shifts_43 : decode cX7_shifts 43 = .ok (.iastore, 1) := by decide +kernel
theorem dX7_shifts_44 : decode cX7_shifts 44 = .ok (.iinc 1 1, 3) := by decide +kernel
theorem dX7_shifts_47 : decode cX7_shifts 47 = .ok (.goto (-45), 3) := by decide +kernel
theorem dX7_shifts_50 : decode cX7_shifts 50 = .ok (.return_, 1) := by decide +kernel
set_option maxRecDepth 20000 in
theorem ggX7_blockOf_X7_in : GoodIn wsX7_blockOf wsX7_in := goodIn_r _ [8] (by decide +kernel) (by decide +kernel)
set_option maxRecDepth 20000 in
theorem gX7_blockOf_X7_in : GoodIn wsX7_blockOf (va_wsS RX7 35 yX7_in wsX7_in) := goodIn_app (goodIn_of _ (by decide +kernel)) ggX7_blockOf_X7_in
set_option maxRecDepth 20000 in
theorem ggX7_blockOf_X7_shifts : GoodIn wsX7_blockOf wsX7_shifts := goodIn_r _ [12, 2, 3, 13, 14, 15, 7, 16, 17, 18, 19, 20, 21, 22, 23, 24, 25, 26, 27, 28, 29, 30, 31, 32, 5, 6, 8, 33, 34, 35, 36, 44, 45, 46, 47, 48, 49, 50, 51, 52, 53, 54, 55] (by decide +kernel) (by decide +kernel)
set_option maxRecDepth 20000 in
theorem gX7_blockOf_X7_shifts : GoodIn wsX7_blockOf (wsV RX7 114 RX7 yX7_shifts wsX7_shifts) := goodIn_app (goodIn_of _ (by decide +kernel)) ggX7_blockOf_X7_shifts
set_option maxRecDepth 20000 in
theorem ggX7_blockOf_X7_block : GoodIn wsX7_blockOf wsX7_block := goodIn_r _ [40, 2, 3, 44, 45, 46, 47, 48, 49, 50, 51, 52, 53, 54, 55] (by decide +kernel) (by decide +kernel)
set_option maxRecDepth 20000 in
theorem gX7_blockOf_X7_block : GoodIn wsX7_blockOf (wsV RX7 117 RX7 yX7_block wsX7_block) := goodIn_app (goodIn_of _ (by decide +kernel)) ggX7_blockOf_X7_block
set_option maxRecDepth 20000 in
theorem ggX7_blockOf_X7_ones : GoodIn wsX7_blockOf wsX7_ones := goodIn_r _ [43] (by decide +kernel) (by decide +kernel)
set_option maxRecDepth 20000 in
theorem gX7_blockOf_X7_ones : GoodIn wsX7_blockOf (va_wsS RX7 120 yX7_ones wsX7_ones) := goodIn_app (goodIn_of _ (by decide +kernel)) ggX7_blockOf_X7_ones
theorem dX7_blockOf_0 : decode cX7_blockOf 0 = .ok (.iload_n 1, 1) := by decide +kernel
theorem dX7_blockOf_1 : decode cX7_blockOf 1 = .ok (.ifCond .lt 12, 3) := by decide +kernel
theorem dX7_blockOf_4 : decode cX7_blockOf 4 = .ok (.iload_n 2, 1) := by decide +kernel
theorem dX7_blockOf_5 : decode cX7_blockOf 5 = .ok (.iconst 0, 1) := by decide +kernel
theorem dX7_blockOf_6 : decode cX7_blockOf 6 = .ok (.iconst 1, 1) := by decide +kernel
theorem dX7_blockOf_7 : decode cX7_blockOf 7 = .ok (.invokestatic 35, 3) := by decide +kernel
theorem dX7_blockOf_10 : decode cX7_blockOf 10 = .ok (.ifCond .ne 6, 3) := by decide +kernel
theorem dX7_blockOf_13 : decode cX7_blockOf 13 = .ok (.ldc 43, 2) := by decide +kernel
theorem dX7_blockOf_15 : decode cX7_blockOf 15 = .ok (.ireturn, 1) := by decide +kernel
theorem dX7_blockOf_16 : decode cX7_blockOf 16 = .ok (.aload_n 0, 1) := by decide +kernel
theorem dX7_blockOf_17 : decode cX7_blockOf 17 = .ok (.invokevirtual 114, 3) := by decide +kernel
theorem dX7_blockOf_20 : decode cX7_blockOf 20 = .ok (.iconst 0, 1) := by decide +kernel
theorem dX7_blockOf_21 : decode cX7_blockOf 21 = .ok (.istore_n 3, 1) := by decide +kernel
theorem dX7_blockOf_22 : decode cX7_blockOf 22 = .ok (.iload_n 3, 1) := by decide +kernel
theorem dX7_blockOf_23 : decode cX7_blockOf 23 = .ok (.aload_n 0, 1) := by decide +kernel
theorem dX7_blockOf_24 : decode cX7_blockOf 24 = .ok (.getfield 7, 3) := by decide +kernel
theorem dX7_blockOf_27 : decode cX7_blockOf 27 = .ok (.iconst 1, 1) := by decide +kernel
theorem dX7_blockOf_28 : decode cX7_blockOf 28 = .ok (.iaload, 1) := by decide +kernel
theorem dX7_blockOf_29 : decode cX7_blockOf 29 = .ok (.if_icmp .ge 134, 3) := by decide +kernel
theorem dX7_blockOf_32 : decode cX7_blockOf 32 = .ok (.aload_n 0, 1) := by decide +kernel
theorem dX7_blockOf_33 : decode cX7_blockOf 33 = .ok (.iload_n 3, 1) := by decide +kernel
theorem dX7_blockOf_34 : decode cX7_blockOf 34 = .ok (.invokevirtual 117, 3) := by decide +kernel
theorem dX7_blockOf_37 : decode cX7_blockOf 37 = .ok (.istore 4, 2) := by decide +kernel
theorem dX7_blockOf_39 : decode cX7_blockOf 39 = .ok (.iconst 0, 1) := by decide +kernel
theorem dX7_blockOf_40 : decode cX7_blockOf 40 = .ok (.istore 5, 2) := by decide +kernel
theorem dX7_blockOf_42 : decode cX7_blockOf 42 = .ok (.iconst 0, 1) := by decide +kernel
theorem dX7_blockOf_43 : decode cX7_blockOf 43 = .ok (.istore 6, 2) := by decide +kernel
theorem dX7_blockOf_45 : decode cX7_blockOf 45 = .ok (.iload 6, 2) := by decide +kernel
theorem dX7_blockOf_47 : decode cX7_blockOf 47 = .ok (.aload_n 0, 1) := by decide +kernel
theorem dX7_blockOf_48 : decode cX7_blockOf 48 = .ok (.getfield 7, 3) := by decide +kernel
theorem dX7_blockOf_51 : decode cX7_blockOf 51 = .ok (.iconst 1, 1) := by decide +kernel
theorem dX7_blockOf_52 : decode cX7_blockOf 52 = .ok (.iaload, 1) := by decide +kernel
theorem dX7_blockOf_53 : decode cX7_blockOf 53 = .ok (.if_icmp .ge 74, 3) := by decide +kernel
theorem dX7_blockOf_56 : decode cX7_blockOf 56 = .ok (.aload_n 0, 1) := by decide +kernel
theorem dX7_blockOf_57 : decode cX7_blockOf 57 = .ok (.iload 6, 2) := by decide +kernel
theorem dX7_blockOf_59 : decode cX7_blockOf 59 = .ok (.invokevirtual 117, 3) := by decide +kernel
theorem dX7_blockOf_62 : decode cX7_blockOf 62 = .ok (.istore 7, 2) := by decide +kernel
theorem dX7_blockOf_64 : decode cX7_blockOf 64 = .ok (.iload 5, 2) := by decide +kernel
theorem dX7_blockOf_66 : decode cX7_blockOf 66 = .ok (.iload 7, 2) := by decide +kernel
theorem dX7_blockOf_68 : decode cX7_blockOf 68 = .ok (.invokestatic 120, 3) := by decide +kernel
theorem dX7_blockOf_71 : decode cX7_blockOf 71 = .ok (.iload 4, 2) := by decide +kernel
theorem dX7_blockOf_73 : decode cX7_blockOf 73 = .ok (.invokestatic 120, 3) := by decide +kernel
theorem dX7_blockOf_76 : decode cX7_blockOf 76 = .ok (.if_icmp .gt 37, 3) := by decide +kernel
theorem dX7_blockOf_79 : decode cX7_blockOf 79 = .ok (.iload 7, 2) := by decide +kernel
theorem dX7_blockOf_81 : decode cX7_blockOf 81 = .ok (.ifCond .le 36, 3) := by decide +kernel
theorem dX7_blockOf_84 : decode cX7_blockOf 84 = .ok (.iload 7, 2) := by decide +kernel
theorem dX7_blockOf_86 : decode cX7_blockOf 86 = .ok (.invokestatic 120, 3) := by decide +kernel
theorem dX7_blockOf_89 : decode cX7_blockOf 89 = .ok (.iload 4, 2) := by decide +kernel
theorem dX7_blockOf_91 : decode cX7_blockOf 91 = .ok (.invokestatic 120, 3) := by decide +kernel
theorem dX7_blockOf_94 : decode cX7_blockOf 94 = .ok (.if_icmp .ne 23, 3) := by decide +kernel
theorem dX7_blockOf_97 : decode cX7_blockOf 97 = .ok (.aload_n 0, 1) := by decide +kernel
theorem dX7_blockOf_98 : decode cX7_blockOf 98 = .ok (.getfield 32, 3) := by decide +kernel
theorem dX7_blockOf_101 : decode cX7_blockOf 101 = .ok (.iload 6, 2) := by decide +kernel
theorem dX7_blockOf_103 : decode cX7_blockOf 103 = .ok (.iaload, 1) := by decide +kernel
theorem dX7_blockOf_104 : decode cX7_blockOf 104 = .ok (.aload_n 0, 1) := by decide +kernel
theorem dX7_blockOf_105 : decode cX7_blockOf 105 = .ok (.getfield 32, 3) := by decide +kernel
theorem dX7_blockOf_108 : decode cX7_blockOf 108 = .ok (.iload_n 3, 1) := by decide +kernel
theorem dX7_blockOf_109 : decode cX7_blockOf 109 = .ok (.iaload, 1) := by decide +kernel
theorem dX7_blockOf_110 : decode cX7_blockOf 110 = .ok (.if_icmp .ge 7, 3) := by decide +kernel
theorem dX7_blockOf_113 : decode cX7_blockOf 113 = .ok (.iconst 1, 1) := by decide +kernel
theorem dX7_blockOf_114 : decode cX7_blockOf 114 = .ok (.goto 4, 3) := by decide +kernel
theorem dX7_blockOf_117 : decode cX7_blockOf 117 = .ok (.iconst 0, 1) := by decide +kernel
theorem dX7_blockOf_118 : decode cX7_blockOf 118 = .ok (.iadd, 1) := by decide +kernel
theorem dX7_blockOf_119 : decode cX7_blockOf 119 = .ok (.istore 5, 2) := by decide +kernel
theorem dX7_blockOf_121 : decode cX7_blockOf 121 = .ok (.iinc 6 1, 3) := by decide +kernel
theorem dX7_blockOf_124 : decode cX7_blockOf 124 = .ok (.goto (-79), 3) := by decide +kernel
theorem dX7_blockOf_127 : decode cX7_blockOf 127 = .ok (.iload 4, 2) := by decide +kernel
theorem dX7_blockOf_129 : decode cX7_blockOf 129 = .ok (.ifCond .le 28, 3) := by decide +kernel
theorem dX7_blockOf_132 : decode cX7_blockOf 132 = .ok (.iload 5, 2) := by decide +kernel
theorem dX7_blockOf_134 : decode cX7_blockOf 134 = .ok (.iload_n 1, 1) := by decide +kernel
theorem dX7_blockOf_135 : decode cX7_blockOf 135 = .ok (.if_icmp .ne 22, 3) := by decide +kernel
theorem dX7_blockOf_138 : decode cX7_blockOf 138 = .ok (.iload_n 2, 1) := by decide +kernel
theorem dX7_blockOf_139 : decode cX7_blockOf 139 = .ok (.ifCond .ne 8, 3) := by decide +kernel
theorem dX7_blockOf_142 : decode cX7_blockOf 142 = .ok (.iload 4, 2) := by decide +kernel
theorem dX7_blockOf_144 : decode cX7_blockOf 144 = .ok (.goto 12, 3) := by decide +kernel
theorem dX7_blockOf_147 : decode cX7_blockOf 147 = .ok (.aload_n 0, 1) := by decide +kernel
theorem dX7_blockOf_148 : decode cX7_blockOf 148 = .ok (.getfield 32, 3) := by decide +kernel
theorem dX7_blockOf_151 : decode cX7_blockOf 151 = .ok (.iload_n 3, 1) := by decide +kernel
theorem dX7_blockOf_152 : decode cX7_blockOf 152 = .ok (.iaload, 1) := by decide +kernel
theorem dX7_blockOf_153 : decode cX7_blockOf 153 = .ok (.bipush 100, 2) := by decide +kernel
theorem dX7_blockOf_155 : decode cX7_blockOf 155 = .ok (.iadd, 1) := by decide +kernel
theorem dX7_blockOf_156 : decode cX7_blockOf 156 = .ok (.ireturn, 1) := by decide +kernel
theorem dX7_blockOf_157 : decode cX7_blockOf 157 = .ok (.iinc 3 1, 3) := by decide +kernel
theorem dX7_blockOf_160 : decode cX7_blockOf 160 = .ok (.goto (-138), 3) := by decide +kernel
theorem dX7_blockOf_163 : decode cX7_blockOf 163 = .ok (.ldc 100, 2) := by decide +kernel
theorem dX7_blockOf_165 : decode cX7_blockOf 165 = .ok (.ireturn, 1) := by decide +kernel
set_option maxRecDepth 20000 in
theorem ggX7_wouldTake_X7_isPlace : GoodIn wsX7_wouldTake wsX7_isPlace := goodIn_r _ [6, 7, 8, 9, 5, 10, 60, 61, 62, 63, 64, 65, 66, 67, 68, 69, 70, 71] (by decide +kernel) (by decide +kernel)
set_option maxRecDepth 20000 in
theorem gX7_wouldTake_X7_isPlace : GoodIn wsX7_wouldTake (wsV RX7 39 RX7 yX7_isPlace wsX7_isPlace) := goodIn_app (goodIn_of _ (by decide +kernel)) ggX7_wouldTake_X7_isPlace
set_option maxRecDepth 20000 in
theorem ggX7_wouldTake_X7_in : GoodIn wsX7_wouldTake wsX7_in := goodIn_r _ [10] (by decide +kernel) (by decide +kernel)
set_option maxRecDepth 20000 in
theorem gX7_wouldTake_X7_in : GoodIn wsX7_wouldTake (va_wsS RX7 35 yX7_in wsX7_in) := goodIn_app (goodIn_of _ (by decide +kernel)) ggX7_wouldTake_X7_in
set_option maxRecDepth 20000 in
theorem ggX7_wouldTake_X7_lays : GoodIn wsX7_wouldTake wsX7_lays := goodIn_r _ [14, 15, 7, 60, 61, 62, 63, 64, 65, 66, 67, 68, 69, 70, 71] (by decide +kernel) (by decide +kernel)
set_option maxRecDepth 20000 in
theorem gX7_wouldTake_X7_lays : GoodIn wsX7_wouldTake (wsV RX7 123 RX7 yX7_lays wsX7_lays) := goodIn_app (goodIn_of _ (by decide +kernel)) ggX7_wouldTake_X7_lays
set_option maxRecDepth 20000 in
theorem ggX7_wouldTake_X7_takes : GoodIn wsX7_wouldTake wsX7_takes := goodIn_r _ [19, 1, 7, 2, 3, 4, 5, 6, 8, 9, 10, 20, 21, 22, 23, 24, 25, 26, 27, 60, 61, 62, 63, 64, 65, 66, 67, 68, 69, 70, 71] (by decide +kernel) (by decide +kernel)
set_option maxRecDepth 20000 in
theorem gX7_wouldTake_X7_takes : GoodIn wsX7_wouldTake (wsV RX7 67 RX7 yX7_takes wsX7_takes) := goodIn_app (goodIn_of _ (by decide +kernel)) ggX7_wouldTake_X7_takes
set_option maxRecDepth 20000 in
theorem ggX7_wouldTake_X7_those : GoodIn wsX7_wouldTake wsX7_those := goodIn_r _ [31, 7, 32, 33, 34, 5, 35, 36, 37, 38, 39, 24, 25, 26, 27, 40, 41, 42, 43, 44, 45, 46, 47, 48, 49, 50, 51, 2, 3, 4, 6, 8, 9, 10, 52, 53, 54, 55, 60, 61, 62, 63, 64, 65, 66, 67, 68, 69, 70, 71] (by decide +kernel) (by decide +kernel)
set_option maxRecDepth 20000 in
theorem gX7_wouldTake_X7_those : GoodIn wsX7_wouldTake (wsV RX7 111 RX7 yX7_those wsX7_those) := goodIn_app (goodIn_of _ (by decide +kernel)) ggX7_wouldTake_X7_those
set_option maxRecDepth 20000 in
theorem ggX7_wouldTake_X7_restores : GoodIn wsX7_wouldTake wsX7_restores := goodIn_r _ [59, 7, 15, 60, 61, 62, 63, 64, 65, 66, 67, 68, 69, 70, 71] (by decide +kernel) (by decide +kernel)
set_option maxRecDepth 20000 in
theorem gX7_wouldTake_X7_restores : GoodIn wsX7_wouldTake (wsV RX7 126 RX7 yX7_restores wsX7_restores) := goodIn_app (goodIn_of _ (by decide +kernel)) ggX7_wouldTake_X7_restores
theorem dX7_wouldTake_0 : decode cX7_wouldTake 0 = .ok (.aload_n 0, 1) := by decide +kernel
theorem dX7_wouldTake_1 : decode cX7_wouldTake 1 = .ok (.iload_n 1, 1) := by decide +kernel
theorem dX7_wouldTake_2 : decode cX7_wouldTake 2 = .ok (.invokevirtual 39, 3) := by decide +kernel
theorem dX7_wouldTake_5 : decode cX7_wouldTake 5 = .ok (.ifCond .eq 12, 3) := by decide +kernel
theorem dX7_wouldTake_8 : decode cX7_wouldTake 8 = .ok (.iload_n 2, 1) := by decide +kernel
theorem dX7_wouldTake_9 : decode cX7_wouldTake 9 = .ok (.iconst 0, 1) := by decide +kernel
theorem dX7_wouldTake_10 : decode cX7_wouldTake 10 = .ok (.iconst 1, 1) := by decide +kernel
theorem dX7_wouldTake_11 : decode cX7_wouldTake 11 = .ok (.invokestatic 35, 3) := by decide +kernel
theorem dX7_wouldTake_14 : decode cX7_wouldTake 14 = .ok (.ifCond .ne 6, 3) := by decide +kernel
theorem dX7_wouldTake_17 : decode cX7_wouldTake 17 = .ok (.ldc 43, 2) := by decide +kernel
theorem dX7_wouldTake_19 : decode cX7_wouldTake 19 = .ok (.ireturn, 1) := by decide +kernel
theorem dX7_wouldTake_20 : decode cX7_wouldTake 20 = .ok (.aload_n 0, 1) := by decide +kernel
theorem dX7_wouldTake_21 : decode cX7_wouldTake 21 = .ok (.invokevirtual 123, 3) := by decide +kernel
theorem dX7_wouldTake_24 : decode cX7_wouldTake 24 = .ok (.aload_n 0, 1) := by decide +kernel
theorem dX7_wouldTake_25 : decode cX7_wouldTake 25 = .ok (.iload_n 1, 1) := by decide +kernel
theorem dX7_wouldTake_26 : decode cX7_wouldTake 26 = .ok (.invokevirtual 67, 3) := by decide +kernel
theorem dX7_wouldTake_29 : decode cX7_wouldTake 29 = .ok (.pop, 1) := by decide +kernel
theorem dX7_wouldTake_30 : decode cX7_wouldTake 30 = .ok (.aload_n 0, 1) := by decide +kernel
theorem dX7_wouldTake_31 : decode cX7_wouldTake 31 = .ok (.iload_n 2, 1) := by decide +kernel
theorem dX7_wouldTake_32 : decode cX7_wouldTake 32 = .ok (.ifCond .ne 7, 3) := by decide +kernel
theorem dX7_wouldTake_35 : decode cX7_wouldTake 35 = .ok (.iconst 2, 1) := by decide +kernel
theorem dX7_wouldTake_36 : decode cX7_wouldTake 36 = .ok (.goto 4, 3) := by decide +kernel
theorem dX7_wouldTake_39 : decode cX7_wouldTake 39 = .ok (.iconst 3, 1) := by decide +kernel
theorem dX7_wouldTake_40 : decode cX7_wouldTake 40 = .ok (.invokevirtual 111, 3) := by decide +kernel
theorem dX7_wouldTake_43 : decode cX7_wouldTake 43 = .ok (.istore_n 3, 1) := by decide +kernel
theorem dX7_wouldTake_44 : decode cX7_wouldTake 44 = .ok (.aload_n 0, 1) := by decide +kernel
theorem dX7_wouldTake_45 : decode cX7_wouldTake 45 = .ok (.invokevirtual 126, 3) := by decide +kernel
theorem dX7_wouldTake_48 : decode cX7_wouldTake 48 = .ok (.iload_n 3, 1) := by decide +kernel
theorem dX7_wouldTake_49 : decode cX7_wouldTake 49 = .ok (.ireturn, 1) := by decide +kernel
set_option maxRecDepth 20000 in
theorem ggX7_safest_X7_in : GoodIn wsX7_safest wsX7_in := goodIn_r _ [7] (by decide +kernel) (by decide +kernel)
set_option maxRecDepth 20000 in
theorem gX7_safest_X7_in : GoodIn wsX7_safest (va_wsS RX7 35 yX7_in wsX7_in) := goodIn_app (goodIn_of _ (by decide +kernel)) ggX7_safest_X7_in
set_option maxRecDepth 20000 in
theorem ggX7_safest_X7_wouldTake : GoodIn wsX7_safest wsX7_wouldTake := goodIn_r _ [11, 1, 12, 13, 14, 6, 15, 3, 4, 5, 7, 16, 17, 18, 19, 20, 21, 22, 23, 24, 25, 26, 27, 28, 29, 30, 31, 32, 33, 34, 35, 36, 37, 38, 39, 40, 41, 42, 43, 44, 45, 46, 47, 48, 49, 50, 51, 52, 53, 54, 55, 56, 57, 58, 59, 60, 61, 62, 63, 64, 68, 69, 70, 71, 72, 73, 74, 75, 76, 77, 78, 79] (by decide +kernel) (by decide +kernel)
set_option maxRecDepth 20000 in
theorem gX7_safest_X7_wouldTake : GoodIn wsX7_safest (wsV RX7 129 RX7 yX7_wouldTake wsX7_wouldTake) := goodIn_app (goodIn_of _ (by decide +kernel)) ggX7_safest_X7_wouldTake
set_option maxRecDepth 20000 in
theorem ggX7_safest_X7_ones : GoodIn wsX7_safest wsX7_ones := goodIn_r _ [67] (by decide +kernel) (by decide +kernel)
set_option maxRecDepth 20000 in
theorem gX7_safest_X7_ones : GoodIn wsX7_safest (va_wsS RX7 120 yX7_ones wsX7_ones) := goodIn_app (goodIn_of _ (by decide +kernel)) ggX7_safest_X7_ones
theorem dX7_safest_0 : decode cX7_safest 0 = .ok (.iload_n 1, 1) := by decide +kernel
theorem dX7_safest_1 : decode cX7_safest 1 = .ok (.iconst 0, 1) := by decide +kernel
theorem dX7_safest_2 : decode cX7_safest 2 = .ok (.iconst 1, 1) := by decide +kernel
theorem dX7_safest_3 : decode cX7_safest 3 = .ok (.invokestatic 35, 3) := by decide +kernel
theorem dX7_safest_6 : decode cX7_safest 6 = .ok (.ifCond .ne 6, 3) := by decide +kernel
theorem dX7_safest_9 : decode cX7_safest 9 = .ok (.ldc 43, 2) := by decide +kernel
theorem dX7_safest_11 : decode cX7_safest 11 = .ok (.ireturn, 1) := by decide +kernel
theorem dX7_safest_12 : decode cX7_safest 12 = .ok (.ldc 100, 2) := by decide +kernel
theorem dX7_safest_14 : decode cX7_safest 14 = .ok (.istore_n 2, 1) := by decide +kernel
theorem dX7_safest_15 : decode cX7_safest 15 = .ok (.bipush 7, 2) := by decide +kernel
theorem dX7_safest_17 : decode cX7_safest 17 = .ok (.istore_n 3, 1) := by decide +kernel
theorem dX7_safest_18 : decode cX7_safest 18 = .ok (.iconst 0, 1) := by decide +kernel
theorem dX7_safest_19 : decode cX7_safest 19 = .ok (.istore 4, 2) := by decide +kernel
theorem dX7_safest_21 : decode cX7_safest 21 = .ok (.iload 4, 2) := by decide +kernel
theorem dX7_safest_23 : decode cX7_safest 23 = .ok (.aload_n 0, 1) := by decide +kernel
theorem dX7_safest_24 : decode cX7_safest 24 = .ok (.getfield 7, 3) := by decide +kernel
theorem dX7_safest_27 : decode cX7_safest 27 = .ok (.iconst 0, 1) := by decide +kernel
theorem dX7_safest_28 : decode cX7_safest 28 = .ok (.iaload, 1) := by decide +kernel
theorem dX7_safest_29 : decode cX7_safest 29 = .ok (.if_icmp .ge 47, 3) := by decide +kernel
theorem dX7_safest_32 : decode cX7_safest 32 = .ok (.aload_n 0, 1) := by decide +kernel
theorem dX7_safest_33 : decode cX7_safest 33 = .ok (.iload 4, 2) := by decide +kernel
theorem dX7_safest_35 : decode cX7_safest 35 = .ok (.iconst 0, 1) := by decide +kernel
theorem dX7_safest_36 : decode cX7_safest 36 = .ok (.invokevirtual 129, 3) := by decide +kernel
theorem dX7_safest_39 : decode cX7_safest 39 = .ok (.invokestatic 120, 3) := by decide +kernel
theorem dX7_safest_42 : decode cX7_safest 42 = .ok (.istore 5, 2) := by decide +kernel
theorem dX7_safest_44 : decode cX7_safest 44 = .ok (.iload 5, 2) := by decide +kernel
theorem dX7_safest_46 : decode cX7_safest 46 = .ok (.iload_n 3, 1) := by decide +kernel
theorem dX7_safest_47 : decode cX7_safest 47 = .ok (.if_icmp .ge 8, 3) := by decide +kernel
theorem dX7_safest_50 : decode cX7_safest 50 = .ok (.iload 4, 2) := by decide +kernel
theorem dX7_safest_52 : decode cX7_safest 52 = .ok (.goto 4, 3) := by decide +kernel
theorem dX7_safest_55 : decode cX7_safest 55 = .ok (.iload_n 2, 1) := by decide +kernel
theorem dX7_safest_56 : decode cX7_safest 56 = .ok (.istore_n 2, 1) := by decide +kernel
theorem dX7_safest_57 : decode cX7_safest 57 = .ok (.iload 5, 2) := by decide +kernel
theorem dX7_safest_59 : decode cX7_safest 59 = .ok (.iload_n 3, 1) := by decide +kernel
theorem dX7_safest_60 : decode cX7_safest 60 = .ok (.if_icmp .ge 8, 3) := by decide +kernel
theorem dX7_safest_63 : decode cX7_safest 63 = .ok (.iload 5, 2) := by decide +kernel
theorem dX7_safest_65 : decode cX7_safest 65 = .ok (.goto 4, 3) := by decide +kernel
theorem dX7_safest_68 : decode cX7_safest 68 = .ok (.iload_n 3, 1) := by decide +kernel
theorem dX7_safest_69 : decode cX7_safest 69 = .ok (.istore_n 3, 1) := by decide +kernel
theorem dX7_safest_70 : decode cX7_safest 70 = .ok (.iinc 4 1, 3) := by decide +kernel
theorem dX7_safest_73 : decode cX7_safest 73 = .ok (.goto (-52), 3) := by decide +kernel
theorem dX7_safest_76 : decode cX7_safest 76 = .ok (.iload_n 1, 1) := by decide +kernel
theorem dX7_safest_77 : decode cX7_safest 77 = .ok (.ifCond .eq 7, 3) := by decide +kernel
theorem dX7_safest_80 : decode cX7_safest 80 = .ok (.iload_n 2, 1) := by decide +kernel
theorem dX7_safest_81 : decode cX7_safest 81 = .ok (.ifCond .ge 7, 3) := by decide +kernel
theorem dX7_safest_84 : decode cX7_safest 84 = .ok (.iload_n 2, 1) := by decide +kernel
theorem dX7_safest_85 : decode cX7_safest 85 = .ok (.goto 4, 3) := by decide +kernel
theorem dX7_safest_88 : decode cX7_safest 88 = .ok (.iload_n 3, 1) := by decide +kernel
theorem dX7_safest_89 : decode cX7_safest 89 = .ok (.ireturn, 1) := by decide +kernel
set_option maxRecDepth 20000 in
theorem ggX7_likeness_X7_word : GoodIn wsX7_likeness wsX7_word := goodIn_r _ [6, 1, 7, 8, 9, 5, 10, 11, 12, 13, 14, 15, 16, 17, 18, 19, 20, 21, 22, 23, 24, 25] (by decide +kernel) (by decide +kernel)
set_option maxRecDepth 20000 in
theorem gX7_likeness_X7_word : GoodIn wsX7_likeness (wsV RX7 81 RX7 yX7_word wsX7_word) := goodIn_app (goodIn_of _ (by decide +kernel)) ggX7_likeness_X7_word
theorem dX7_likeness_0 : decode cX7_likeness 0 = .ok (.iconst 0, 1) := by decide +kernel
theorem dX7_likeness_1 : decode cX7_likeness 1 = .ok (.istore_n 3, 1) := by decide +kernel
theorem dX7_likeness_2 : decode cX7_likeness 2 = .ok (.bipush (-2), 2) := by decide +kernel
theorem dX7_likeness_4 : decode cX7_likeness 4 = .ok (.istore 4, 2) := by decide +kernel
theorem dX7_likeness_6 : decode cX7_likeness 6 = .ok (.iload 4, 2) := by decide +kernel
theorem dX7_likeness_8 : decode cX7_likeness 8 = .ok (.iconst 2, 1) := by decide +kernel
theorem dX7_likeness_9 : decode cX7_likeness 9 = .ok (.if_icmp .gt 55, 3) := by decide +kernel
theorem dX7_likeness_12 : decode cX7_likeness 12 = .ok (.iload_n 3, 1) := by decide +kernel
theorem dX7_likeness_13 : decode cX7_likeness 13 = .ok (.aload_n 0, 1) := by decide +kernel
theorem dX7_likeness_14 : decode cX7_likeness 14 = .ok (.iload_n 1, 1) := by decide +kernel
theorem dX7_likeness_15 : decode cX7_likeness 15 = .ok (.iload 4, 2) := by decide +kernel
theorem dX7_likeness_17 : decode cX7_likeness 17 = .ok (.iadd, 1) := by decide +kernel
theorem dX7_likeness_18 : decode cX7_likeness 18 = .ok (.invokevirtual 81, 3) := by decide +kernel
theorem dX7_likeness_21 : decode cX7_likeness 21 = .ok (.aload_n 0, 1) := by decide +kernel
theorem dX7_likeness_22 : decode cX7_likeness 22 = .ok (.iload_n 2, 1) := by decide +kernel
theorem dX7_likeness_23 : decode cX7_likeness 23 = .ok (.iload 4, 2) := by decide +kernel
theorem dX7_likeness_25 : decode cX7_likeness 25 = .ok (.iadd, 1) := by decide +kernel
theorem dX7_likeness_26 : decode cX7_likeness 26 = .ok (.invokevirtual 81, 3) := by decide +kernel
theorem dX7_likeness_29 : decode cX7_likeness 29 = .ok (.if_icmp .ne 26, 3) := by decide +kernel
theorem dX7_likeness_32 : decode cX7_likeness 32 = .ok (.aload_n 0, 1) := by decide +kernel
theorem dX7_likeness_33 : decode cX7_likeness 33 = .ok (.getfield 7, 3) := by decide +kernel
theorem dX7_likeness_36 : decode cX7_likeness 36 = .ok (.iconst 3, 1) := by decide +kernel
theorem dX7_likeness_37 : decode cX7_likeness 37 = .ok (.iload 4, 2) := by decide +kernel
theorem dX7_likeness_39 : decode cX7_likeness 39 = .ok (.ifCond .ge 9, 3) := by decide +kernel
theorem dX7_likeness_42 : decode cX7_likeness 42 = .ok (.iload 4, 2) := by decide +kernel
theorem dX7_likeness_44 : decode cX7_likeness 44 = .ok (.ineg, 1) := by decide +kernel
theorem dX7_likeness_45 : decode cX7_likeness 45 = .ok (.goto 5, 3) := by decide +kernel
theorem dX7_likeness_48 : decode cX7_likeness 48 = .ok (.iload 4, 2) := by decide +kernel
theorem dX7_likeness_50 : decode cX7_likeness 50 = .ok (.iadd, 1) := by decide +kernel
theorem dX7_likeness_51 : decode cX7_likeness 51 = .ok (.iaload, 1) := by decide +kernel
theorem dX7_likeness_52 : decode cX7_likeness 52 = .ok (.goto 4, 3) := by decide +kernel
theorem dX7_likeness_55 : decode cX7_likeness 55 = .ok (.iconst 0, 1) := by decide +kernel
theorem dX7_likeness_56 : decode cX7_likeness 56 = .ok (.iadd, 1) := by decide +kernel
theorem dX7_likeness_57 : decode cX7_likeness 57 = .ok (.istore_n 3, 1) := by decide +kernel
theorem dX7_likeness_58 : decode cX7_likeness 58 = .ok (.iinc 4 1, 3) := by decide +kernel
theorem dX7_likeness_61 : decode cX7_likeness 61 = .ok (.goto (-55), 3) := by decide +kernel
theorem dX7_likeness_64 : decode cX7_likeness 64 = .ok (.iload_n 3, 1) := by decide +kernel
theorem dX7_likeness_65 : decode cX7_likeness 65 = .ok (.ireturn, 1) := by decide +kernel
set_option maxRecDepth 20000 in
theorem ggX7_clearest_X7_in : GoodIn wsX7_clearest wsX7_in := goodIn_r _ [7] (by decide +kernel) (by decide +kernel)
set_option maxRecDepth 20000 in
theorem gX7_clearest_X7_in : GoodIn wsX7_clearest (va_wsS RX7 35 yX7_in wsX7_in) := goodIn_app (goodIn_of _ (by decide +kernel)) ggX7_clearest_X7_in
set_option maxRecDepth 20000 in
theorem ggX7_clearest_X7_likeness : GoodIn wsX7_clearest wsX7_likeness := goodIn_r _ [11, 3, 12, 13, 14, 6, 15, 16, 17, 18, 19, 4, 5, 7, 20, 21, 22, 23, 24, 25, 26, 27, 28, 29, 30, 31] (by decide +kernel) (by decide +kernel)
set_option maxRecDepth 20000 in
theorem gX7_clearest_X7_likeness : GoodIn wsX7_clearest (wsV RX7 132 RX7 yX7_likeness wsX7_likeness) := goodIn_app (goodIn_of _ (by decide +kernel)) ggX7_clearest_X7_likeness
theorem dX7_clearest_0 : decode cX7_clearest 0 = .ok (.iload_n 1, 1) := by decide +kernel
theorem dX7_clearest_1 : decode cX7_clearest 1 = .ok (.iconst 0, 1) := by decide +kernel
theorem dX7_clearest_2 : decode cX7_clearest 2 = .ok (.iconst 1, 1) := by decide +kernel
theorem dX7_clearest_3 : decode cX7_clearest 3 = .ok (.invokestatic 35, 3) := by decide +kernel
theorem dX7_clearest_6 : decode cX7_clearest 6 = .ok (.ifCond .ne 6, 3) := by decide +kernel
theorem dX7_clearest_9 : decode cX7_clearest 9 = .ok (.ldc 43, 2) := by decide +kernel
theorem dX7_clearest_11 : decode cX7_clearest 11 = .ok (.ireturn, 1) := by decide +kernel
theorem dX7_clearest_12 : decode cX7_clearest 12 = .ok (.ldc 100, 2) := by decide +kernel
theorem dX7_clearest_14 : decode cX7_clearest 14 = .ok (.istore_n 2, 1) := by decide +kernel
theorem dX7_clearest_15 : decode cX7_clearest 15 = .ok (.iconst (-1), 1) := by decide +kernel
theorem dX7_clearest_16 : decode cX7_clearest 16 = .ok (.istore_n 3, 1) := by decide +kernel
theorem dX7_clearest_17 : decode cX7_clearest 17 = .ok (.iconst 0, 1) := by decide +kernel
theorem dX7_clearest_18 : decode cX7_clearest 18 = .ok (.istore 4, 2) := by decide +kernel
theorem dX7_clearest_20 : decode cX7_clearest 20 = .ok (.iload 4, 2) := by decide +kernel
theorem dX7_clearest_22 : decode cX7_clearest 22 = .ok (.aload_n 0, 1) := by decide +kernel
theorem dX7_clearest_23 : decode cX7_clearest 23 = .ok (.getfield 7, 3) := by decide +kernel
theorem dX7_clearest_26 : decode cX7_clearest 26 = .ok (.iconst 0, 1) := by decide +kernel
theorem dX7_clearest_27 : decode cX7_clearest 27 = .ok (.iaload, 1) := by decide +kernel
theorem dX7_clearest_28 : decode cX7_clearest 28 = .ok (.if_icmp .ge 108, 3) := by decide +kernel
theorem dX7_clearest_31 : decode cX7_clearest 31 = .ok (.iconst 0, 1) := by decide +kernel
theorem dX7_clearest_32 : decode cX7_clearest 32 = .ok (.istore 5, 2) := by decide +kernel
theorem dX7_clearest_34 : decode cX7_clearest 34 = .ok (.iconst 0, 1) := by decide +kernel
theorem dX7_clearest_35 : decode cX7_clearest 35 = .ok (.istore 6, 2) := by decide +kernel
theorem dX7_clearest_37 : decode cX7_clearest 37 = .ok (.iload 6, 2) := by decide +kernel
theorem dX7_clearest_39 : decode cX7_clearest 39 = .ok (.aload_n 0, 1) := by decide +kernel
theorem dX7_clearest_40 : decode cX7_clearest 40 = .ok (.getfield 7, 3) := by decide +kernel
theorem dX7_clearest_43 : decode cX7_clearest 43 = .ok (.iconst 0, 1) := by decide +kernel
theorem dX7_clearest_44 : decode cX7_clearest 44 = .ok (.iaload, 1) := by decide +kernel
theorem dX7_clearest_45 : decode cX7_clearest 45 = .ok (.if_icmp .ge 46, 3) := by decide +kernel
theorem dX7_clearest_48 : decode cX7_clearest 48 = .ok (.iload 6, 2) := by decide +kernel
theorem dX7_clearest_50 : decode cX7_clearest 50 = .ok (.iload 4, 2) := by decide +kernel
theorem dX7_clearest_52 : decode cX7_clearest 52 = .ok (.if_icmp .ne 7, 3) := by decide +kernel
theorem dX7_clearest_55 : decode cX7_clearest 55 = .ok (.iconst 0, 1) := by decide +kernel
theorem dX7_clearest_56 : decode cX7_clearest 56 = .ok (.goto 11, 3) := by decide +kernel
theorem dX7_clearest_59 : decode cX7_clearest 59 = .ok (.aload_n 0, 1) := by decide +kernel
theorem dX7_clearest_60 : decode cX7_clearest 60 = .ok (.iload 4, 2) := by decide +kernel
theorem dX7_clearest_62 : decode cX7_clearest 62 = .ok (.iload 6, 2) := by decide +kernel
theorem dX7_clearest_64 : decode cX7_clearest 64 = .ok (.invokevirtual 132, 3) := by decide +kernel
theorem dX7_clearest_67 : decode cX7_clearest 67 = .ok (.istore 7, 2) := by decide +kernel
theorem dX7_clearest_69 : decode cX7_clearest 69 = .ok (.iload 7, 2) := by decide +kernel
theorem dX7_clearest_71 : decode cX7_clearest 71 = .ok (.iload 5, 2) := by decide +kernel
theorem dX7_clearest_73 : decode cX7_clearest 73 = .ok (.if_icmp .le 8, 3) := by decide +kernel
theorem dX7_clearest_76 : decode cX7_clearest 76 = .ok (.iload 7, 2) := by decide +kernel
theorem dX7_clearest_78 : decode cX7_clearest 78 = .ok (.goto 5, 3) := by decide +kernel
theorem dX7_clearest_81 : decode cX7_clearest 81 = .ok (.iload 5, 2) := by decide +kernel
theorem dX7_clearest_83 : decode cX7_clearest 83 = .ok (.istore 5, 2) := by decide +kernel
theorem dX7_clearest_85 : decode cX7_clearest 85 = .ok (.iinc 6 1, 3) := by decide +kernel
theorem dX7_clearest_88 : decode cX7_clearest 88 = .ok (.goto (-51), 3) := by decide +kernel
theorem dX7_clearest_91 : decode cX7_clearest 91 = .ok (.aload_n 0, 1) := by decide +kernel
theorem dX7_clearest_92 : decode cX7_clearest 92 = .ok (.iload 4, 2) := by decide +kernel
theorem dX7_clearest_94 : decode cX7_clearest 94 = .ok (.iload 4, 2) := by decide +kernel
theorem dX7_clearest_96 : decode cX7_clearest 96 = .ok (.invokevirtual 132, 3) := by decide +kernel
theorem dX7_clearest_99 : decode cX7_clearest 99 = .ok (.iload 5, 2) := by decide +kernel
theorem dX7_clearest_101 : decode cX7_clearest 101 = .ok (.isub, 1) := by decide +kernel
theorem dX7_clearest_102 : decode cX7_clearest 102 = .ok (.istore 6, 2) := by decide +kernel
theorem dX7_clearest_104 : decode cX7_clearest 104 = .ok (.iload 6, 2) := by decide +kernel
theorem dX7_clearest_106 : decode cX7_clearest 106 = .ok (.iload_n 3, 1) := by decide +kernel
theorem dX7_clearest_107 : decode cX7_clearest 107 = .ok (.if_icmp .le 8, 3) := by decide +kernel
theorem dX7_clearest_110 : decode cX7_clearest 110 = .ok (.iload 4, 2) := by decide +kernel
theorem dX7_clearest_112 : decode cX7_clearest 112 = .ok (.goto 4, 3) := by decide +kernel
theorem dX7_clearest_115 : decode cX7_clearest 115 = .ok (.iload_n 2, 1) := by decide +kernel
theorem dX7_clearest_116 : decode cX7_clearest 116 = .ok (.istore_n 2, 1) := by decide +kernel
theorem dX7_clearest_117 : decode cX7_clearest 117 = .ok (.iload 6, 2) := by decide +kernel
theorem dX7_clearest_119 : decode cX7_clearest 119 = .ok (.iload_n 3, 1) := by decide +kernel
theorem dX7_clearest_120 : decode cX7_clearest 120 = .ok (.if_icmp .le 8, 3) := by decide +kernel
theorem dX7_clearest_123 : decode cX7_clearest 123 = .ok (.iload 6, 2) := by decide +kernel
theorem dX7_clearest_125 : decode cX7_clearest 125 = .ok (.goto 4, 3) := by decide +kernel
theorem dX7_clearest_128 : decode cX7_clearest 128 = .ok (.iload_n 3, 1) := by decide +kernel
theorem dX7_clearest_129 : decode cX7_clearest 129 = .ok (.istore_n 3, 1) := by decide +kernel
theorem dX7_clearest_130 : decode cX7_clearest 130 = .ok (.iinc 4 1, 3) := by decide +kernel
theorem dX7_clearest_133 : decode cX7_clearest 133 = .ok (.goto (-113), 3) := by decide +kernel
theorem dX7_clearest_136 : decode cX7_clearest 136 = .ok (.iload_n 1, 1) := by decide +kernel
theorem dX7_clearest_137 : decode cX7_clearest 137 = .ok (.ifCond .eq 7, 3) := by decide +kernel
theorem dX7_clearest_140 : decode cX7_clearest 140 = .ok (.iload_n 2, 1) := by decide +kernel
theorem dX7_clearest_141 : decode cX7_clearest 141 = .ok (.ifCond .ge 7, 3) := by decide +kernel
theorem dX7_clearest_144 : decode cX7_clearest 144 = .ok (.iload_n 2, 1) := by decide +kernel
theorem dX7_clearest_145 : decode cX7_clearest 145 = .ok (.goto 4, 3) := by decide +kernel
theorem dX7_clearest_148 : decode cX7_clearest 148 = .ok (.iload_n 3, 1) := by decide +kernel
theorem dX7_clearest_149 : decode cX7_clearest 149 = .ok (.ireturn, 1) := by decide +kernel
theorem dX7_unlike_0 : decode cX7_unlike 0 = .ok (.iconst 0, 1) := by decide +kernel
theorem dX7_unlike_1 : decode cX7_unlike 1 = .ok (.istore_n 1, 1) := by decide +kernel
theorem dX7_unlike_2 : decode cX7_unlike 2 = .ok (.iconst 0, 1) := by decide +kernel
theorem dX7_unlike_3 : decode cX7_unlike 3 = .ok (.istore_n 2, 1) := by decide +kernel
theorem dX7_unlike_4 : decode cX7_unlike 4 = .ok (.iload_n 2, 1) := by decide +kernel
theorem dX7_unlike_5 : decode cX7_unlike 5 = .ok (.aload_n 0, 1) := by decide +kernel
theorem dX7_unlike_6 : decode cX7_unlike 6 = .ok (.getfield 7, 3) := by decide +kernel
theorem dX7_unlike_9 : decode cX7_unlike 9 = .ok (.iconst 0, 1) := by decide +kernel
theorem dX7_unlike_10 : decode cX7_unlike 10 = .ok (.iaload, 1) := by decide +kernel
theorem dX7_unlike_11 : decode cX7_unlike 11 = .ok (.if_icmp .ge 70, 3) := by decide +kernel
theorem dX7_unlike_14 : decode cX7_unlike 14 = .ok (.iconst 1, 1) := by decide +kernel
theorem dX7_unlike_15 : decode cX7_unlike 15 = .ok (.istore_n 3, 1) := by decide +kernel
theorem dX7_unlike_16 : decode cX7_unlike 16 = .ok (.iconst 0, 1) := by decide +kernel
theorem dX7_unlike_17 : decode cX7_unlike 17 = .ok (.istore 4, 2) := by decide +kernel
theorem dX7_unlike_19 : decode cX7_unlike 19 = .ok (.iload 4, 2) := by decide +kernel
theorem dX7_unlike_21 : decode cX7_unlike 21 = .ok (.iload_n 2, 1) := by decide +kernel
theorem dX7_unlike_22 : decode cX7_unlike 22 = .ok (.if_icmp .ge 41, 3) := by decide +kernel
theorem dX7_unlike_25 : decode cX7_unlike 25 = .ok (.iload_n 3, 1) := by decide +kernel
theorem dX7_unlike_26 : decode cX7_unlike 26 = .ok (.ifCond .eq 29, 3) := by decide +kernel
theorem dX7_unlike_29 : decode cX7_unlike 29 = .ok (.aload_n 0, 1) := by decide +kernel
theorem dX7_unlike_30 : decode cX7_unlike 30 = .ok (.getfield 7, 3) := by decide +kernel
theorem dX7_unlike_33 : decode cX7_unlike 33 = .ok (.bipush 8, 2) := by decide +kernel
theorem dX7_unlike_35 : decode cX7_unlike 35 = .ok (.iload 4, 2) := by decide +kernel
theorem dX7_unlike_37 : decode cX7_unlike 37 = .ok (.iadd, 1) := by decide +kernel
theorem dX7_unlike_38 : decode cX7_unlike 38 = .ok (.iaload, 1) := by decide +kernel
theorem dX7_unlike_39 : decode cX7_unlike 39 = .ok (.aload_n 0, 1) := by decide +kernel
theorem dX7_unlike_40 : decode cX7_unlike 40 = .ok (.getfield 7, 3) := by decide +kernel
theorem dX7_unlike_43 : decode cX7_unlike 43 = .ok (.bipush 8, 2) := by decide +kernel
theorem dX7_unlike_45 : decode cX7_unlike 45 = .ok (.iload_n 2, 1) := by decide +kernel
theorem dX7_unlike_46 : decode cX7_unlike 46 = .ok (.iadd, 1) := by decide +kernel
theorem dX7_unlike_47 : decode cX7_unlike 47 = .ok (.iaload, 1) := by decide +kernel
theorem dX7_unlike_48 : decode cX7_unlike 48 = .ok (.if_icmp .eq 7, 3) := by decide +kernel
theorem dX7_unlike_51 : decode cX7_unlike 51 = .ok (.iconst 1, 1) := by decide +kernel
theorem dX7_unlike_52 : decode cX7_unlike 52 = .ok (.goto 4, 3) := by decide +kernel
theorem dX7_unlike_55 : decode cX7_unlike 55 = .ok (.iconst 0, 1) := by decide +kernel
theorem dX7_unlike_56 : decode cX7_unlike 56 = .ok (.istore_n 3, 1) := by decide +kernel
theorem dX7_unlike_57 : decode cX7_unlike 57 = .ok (.iinc 4 1, 3) := by decide +kernel
theorem dX7_unlike_60 : decode cX7_unlike 60 = .ok (.goto (-41), 3) := by decide +kernel
theorem dX7_unlike_63 : decode cX7_unlike 63 = .ok (.iload_n 1, 1) := by decide +kernel
theorem dX7_unlike_64 : decode cX7_unlike 64 = .ok (.iload_n 3, 1) := by decide +kernel
theorem dX7_unlike_65 : decode cX7_unlike 65 = .ok (.ifCond .eq 7, 3) := by decide +kernel
theorem dX7_unlike_68 : decode cX7_unlike 68 = .ok (.iconst 1, 1) := by decide +kernel
theorem dX7_unlike_69 : decode cX7_unlike 69 = .ok (.goto 4, 3) := by decide +kernel
theorem dX7_unlike_72 : decode cX7_unlike 72 = .ok (.iconst 0, 1) := by decide +kernel
theorem dX7_unlike_73 : decode cX7_unlike 73 = .ok (.iadd, 1) := by decide +kernel
theorem dX7_unlike_74 : decode cX7_unlike 74 = .ok (.istore_n 1, 1) := by decide +kernel
theorem dX7_unlike_75 : decode cX7_unlike 75 = .ok (.iinc 2 1, 3) := by decide +kernel
theorem dX7_unlike_78 : decode cX7_unlike 78 = .ok (.goto (-74), 3) := by decide +kernel
theorem dX7_unlike_81 : decode cX7_unlike 81 = .ok (.iload_n 1, 1) := by decide +kernel
theorem dX7_unlike_82 : decode cX7_unlike 82 = .ok (.ireturn, 1) := by decide +kernel
set_option maxRecDepth 20000 in
theorem ggX7_count_X7_unlike : GoodIn wsX7_count wsX7_unlike := goodIn_r _ [9, 1, 13, 14, 15, 16, 17, 18, 19, 20, 21, 22, 23, 24] (by decide +kernel) (by decide +kernel)
set_option maxRecDepth 20000 in
theorem gX7_count_X7_unlike : GoodIn wsX7_count (wsV RX7 135 RX7 yX7_unlike wsX7_unlike) := goodIn_app (goodIn_of _ (by decide +kernel)) ggX7_count_X7_unlike
set_option maxRecDepth 20000 in
theorem ggX7_count_X7_in : GoodIn wsX7_count wsX7_in := goodIn_r _ [12] (by decide +kernel) (by decide +kernel)
set_option maxRecDepth 20000 in
theorem gX7_count_X7_in : GoodIn wsX7_count (va_wsS RX7 35 yX7_in wsX7_in) := goodIn_app (goodIn_of _ (by decide +kernel)) ggX7_count_X7_in
theorem dX7_count_0 : decode cX7_count 0 = .ok (.iload_n 1, 1) := by decide +kernel
theorem dX7_count_1 : decode cX7_count 1 = .ok (.tableswitch 68 0 5 #[39, 39, 46, 51, 58, 63], 39) := by decide +kernel
theorem dX7_count_40 : decode cX7_count 40 = .ok (.aload_n 0, 1) := by decide +kernel
theorem dX7_count_41 : decode cX7_count 41 = .ok (.getfield 7, 3) := by decide +kernel
theorem dX7_count_44 : decode cX7_count 44 = .ok (.iload_n 1, 1) := by decide +kernel
theorem dX7_count_45 : decode cX7_count 45 = .ok (.iaload, 1) := by decide +kernel
theorem dX7_count_46 : decode cX7_count 46 = .ok (.ireturn, 1) := by decide +kernel
theorem dX7_count_47 : decode cX7_count 47 = .ok (.aload_n 0, 1) := by decide +kernel
theorem dX7_count_48 : decode cX7_count 48 = .ok (.invokevirtual 135, 3) := by decide +kernel
theorem dX7_count_51 : decode cX7_count 51 = .ok (.ireturn, 1) := by decide +kernel
theorem dX7_count_52 : decode cX7_count 52 = .ok (.aload_n 0, 1) := by decide +kernel
theorem dX7_count_53 : decode cX7_count 53 = .ok (.getfield 7, 3) := by decide +kernel
theorem dX7_count_56 : decode cX7_count 56 = .ok (.iconst 2, 1) := by decide +kernel
theorem dX7_count_57 : decode cX7_count 57 = .ok (.iaload, 1) := by decide +kernel
theorem dX7_count_58 : decode cX7_count 58 = .ok (.ireturn, 1) := by decide +kernel
theorem dX7_count_59 : decode cX7_count 59 = .ok (.aload_n 0, 1) := by decide +kernel
theorem dX7_count_60 : decode cX7_count 60 = .ok (.getfield 44, 3) := by decide +kernel
theorem dX7_count_63 : decode cX7_count 63 = .ok (.ireturn, 1) := by decide +kernel
theorem dX7_count_64 : decode cX7_count 64 = .ok (.aload_n 0, 1) := by decide +kernel
theorem dX7_count_65 : decode cX7_count 65 = .ok (.getfield 139, 3) := by decide +kernel
theorem dX7_count_68 : decode cX7_count 68 = .ok (.ireturn, 1) := by decide +kernel
theorem dX7_count_69 : decode cX7_count 69 = .ok (.iload_n 1, 1) := by decide +kernel
theorem dX7_count_70 : decode cX7_count 70 = .ok (.bipush 20, 2) := by decide +kernel
theorem dX7_count_72 : decode cX7_count 72 = .ok (.bipush 24, 2) := by decide +kernel
theorem dX7_count_74 : decode cX7_count 74 = .ok (.invokestatic 35, 3) := by decide +kernel
theorem dX7_count_77 : decode cX7_count 77 = .ok (.ifCond .eq 17, 3) := by decide +kernel
theorem dX7_count_80 : decode cX7_count 80 = .ok (.aload_n 0, 1) := by decide +kernel
theorem dX7_count_81 : decode cX7_count 81 = .ok (.getfield 7, 3) := by decide +kernel
theorem dX7_count_84 : decode cX7_count 84 = .ok (.iconst 3, 1) := by decide +kernel
theorem dX7_count_85 : decode cX7_count 85 = .ok (.iload_n 1, 1) := by decide +kernel
theorem dX7_count_86 : decode cX7_count 86 = .ok (.iadd, 1) := by decide +kernel
theorem dX7_count_87 : decode cX7_count 87 = .ok (.bipush 20, 2) := by decide +kernel
theorem dX7_count_89 : decode cX7_count 89 = .ok (.isub, 1) := by decide +kernel
theorem dX7_count_90 : decode cX7_count 90 = .ok (.iaload, 1) := by decide +kernel
theorem dX7_count_91 : decode cX7_count 91 = .ok (.goto 5, 3) := by decide +kernel
theorem dX7_count_94 : decode cX7_count 94 = .ok (.ldc 43, 2) := by decide +kernel
theorem dX7_count_96 : decode cX7_count 96 = .ok (.ireturn, 1) := by decide +kernel
theorem dX7_undo_0 : decode cX7_undo 0 = .ok (.aload_n 0, 1) := by decide +kernel
theorem dX7_undo_1 : decode cX7_undo 1 = .ok (.getfield 44, 3) := by decide +kernel
theorem dX7_undo_4 : decode cX7_undo 4 = .ok (.ifCond .ne 6, 3) := by decide +kernel
theorem dX7_undo_7 : decode cX7_undo 7 = .ok (.ldc 99, 2) := by decide +kernel
theorem dX7_undo_9 : decode cX7_undo 9 = .ok (.ireturn, 1) := by decide +kernel
theorem dX7_undo_10 : decode cX7_undo 10 = .ok (.aload_n 0, 1) := by decide +kernel
theorem dX7_undo_11 : decode cX7_undo 11 = .ok (.dup, 1) := by decide +kernel
theorem dX7_undo_12 : decode cX7_undo 12 = .ok (.getfield 44, 3) := by decide +kernel
theorem dX7_undo_15 : decode cX7_undo 15 = .ok (.iconst 1, 1) := by decide +kernel
theorem dX7_undo_16 : decode cX7_undo 16 = .ok (.isub, 1) := by decide +kernel
theorem dX7_undo_17 : decode cX7_undo 17 = .ok (.putfield 44, 3) := by decide +kernel
theorem dX7_undo_20 : decode cX7_undo 20 = .ok (.iconst 0, 1) := by decide +kernel
theorem dX7_undo_21 : decode cX7_undo 21 = .ok (.istore_n 1, 1) := by decide +kernel
theorem dX7_undo_22 : decode cX7_undo 22 = .ok (.iload_n 1, 1) := by decide +kernel
theorem dX7_undo_23 : decode cX7_undo 23 = .ok (.bipush 90, 2) := by decide +kernel
theorem dX7_undo_25 : decode cX7_undo 25 = .ok (.if_icmp .ge 29, 3) := by decide +kernel
theorem dX7_undo_28 : decode cX7_undo 28 = .ok (.aload_n 0, 1) := by decide +kernel
theorem dX7_undo_29 : decode cX7_undo 29 = .ok (.getfield 7, 3) := by decide +kernel
theorem dX7_undo_32 : decode cX7_undo 32 = .ok (.iload_n 1, 1) := by decide +kernel
theorem dX7_undo_33 : decode cX7_undo 33 = .ok (.aload_n 0, 1) := by decide +kernel
theorem dX7_undo_34 : decode cX7_undo 34 = .ok (.getfield 13, 3) := by decide +kernel
theorem dX7_undo_37 : decode cX7_undo 37 = .ok (.bipush 90, 2) := by decide +kernel
theorem dX7_undo_39 : decode cX7_undo 39 = .ok (.aload_n 0, 1) := by decide +kernel
theorem dX7_undo_40 : decode cX7_undo 40 = .ok (.getfield 44, 3) := by decide +kernel
theorem dX7_undo_43 : decode cX7_undo 43 = .ok (.imul, 1) := by decide +kernel
theorem dX7_undo_44 : decode cX7_undo 44 = .ok (.iload_n 1, 1) := by decide +kernel
theorem dX7_undo_45 : decode cX7_undo 45 = .ok (.iadd, 1) := by decide +kernel
theorem dX7_undo_46 : decode cX7_undo 46 = .ok (.iaload, 1) := by decide +kernel
theorem dX7_undo_47 : decode cX7_undo 47 = .ok (.iastore, 1) := by decide +kernel
theorem dX7_undo_48 : decode cX7_undo 48 = .ok (.iinc 1 1, 3) := by decide +kernel
theorem dX7_undo_51 : decode cX7_undo 51 = .ok (.goto (-29), 3) := by decide +kernel
theorem dX7_undo_54 : decode cX7_undo 54 = .ok (.aload_n 0, 1) := by decide +kernel
theorem dX7_undo_55 : decode cX7_undo 55 = .ok (.getfield 44, 3) := by decide +kernel
theorem dX7_undo_58 : decode cX7_undo 58 = .ok (.ireturn, 1) := by decide +kernel
set_option maxRecDepth 20000 in
theorem ggX7_type_X7_in : GoodIn wsX7_type wsX7_in := goodIn_r _ [8] (by decide +kernel) (by decide +kernel)
set_option maxRecDepth 20000 in
theorem gX7_type_X7_in : GoodIn wsX7_type (va_wsS RX7 35 yX7_in wsX7_in) := goodIn_app (goodIn_of _ (by decide +kernel)) ggX7_type_X7_in
theorem dX7_type_0 : decode cX7_type 0 = .ok (.iload_n 1, 1) := by decide +kernel
theorem dX7_type_1 : decode cX7_type 1 = .ok (.bipush 32, 2) := by decide +kernel
theorem dX7_type_3 : decode cX7_type 3 = .ok (.bipush 126, 2) := by decide +kernel
theorem dX7_type_5 : decode cX7_type 5 = .ok (.invokestatic 35, 3) := by decide +kernel
theorem dX7_type_8 : decode cX7_type 8 = .ok (.ifCond .ne 6, 3) := by decide +kernel
theorem dX7_type_11 : decode cX7_type 11 = .ok (.ldc 43, 2) := by decide +kernel
theorem dX7_type_13 : decode cX7_type 13 = .ok (.ireturn, 1) := by decide +kernel
theorem dX7_type_14 : decode cX7_type 14 = .ok (.aload_n 0, 1) := by decide +kernel
theorem dX7_type_15 : decode cX7_type 15 = .ok (.getfield 139, 3) := by decide +kernel
theorem dX7_type_18 : decode cX7_type 18 = .ok (.bipush 60, 2) := by decide +kernel
theorem dX7_type_20 : decode cX7_type 20 = .ok (.if_icmp .ne 6, 3) := by decide +kernel
theorem dX7_type_23 : decode cX7_type 23 = .ok (.ldc 52, 2) := by decide +kernel
theorem dX7_type_25 : decode cX7_type 25 = .ok (.ireturn, 1) := by decide +kernel
theorem dX7_type_26 : decode cX7_type 26 = .ok (.aload_n 0, 1) := by decide +kernel
theorem dX7_type_27 : decode cX7_type 27 = .ok (.getfield 22, 3) := by decide +kernel
theorem dX7_type_30 : decode cX7_type 30 = .ok (.aload_n 0, 1) := by decide +kernel
theorem dX7_type_31 : decode cX7_type 31 = .ok (.getfield 139, 3) := by decide +kernel
theorem dX7_type_34 : decode cX7_type 34 = .ok (.iload_n 1, 1) := by decide +kernel
theorem dX7_type_35 : decode cX7_type 35 = .ok (.i2c, 1) := by decide +kernel
theorem dX7_type_36 : decode cX7_type 36 = .ok (.castore, 1) := by decide +kernel
theorem dX7_type_37 : decode cX7_type 37 = .ok (.aload_n 0, 1) := by decide +kernel
theorem dX7_type_38 : decode cX7_type 38 = .ok (.dup, 1) := by decide +kernel
theorem dX7_type_39 : decode cX7_type 39 = .ok (.getfield 139, 3) := by decide +kernel
theorem dX7_type_42 : decode cX7_type 42 = .ok (.iconst 1, 1) := by decide +kernel
theorem dX7_type_43 : decode cX7_type 43 = .ok (.iadd, 1) := by decide +kernel
theorem dX7_type_44 : decode cX7_type 44 = .ok (.putfield 139, 3) := by decide +kernel
theorem dX7_type_47 : decode cX7_type 47 = .ok (.aload_n 0, 1) := by decide +kernel
theorem dX7_type_48 : decode cX7_type 48 = .ok (.getfield 139, 3) := by decide +kernel
theorem dX7_type_51 : decode cX7_type 51 = .ok (.ireturn, 1) := by decide +kernel
theorem dX7_clearText_0 : decode cX7_clearText 0 = .ok (.aload_n 0, 1) := by decide +kernel
theorem dX7_clearText_1 : decode cX7_clearText 1 = .ok (.getfield 139, 3) := by decide +kernel
theorem dX7_clearText_4 : decode cX7_clearText 4 = .ok (.istore_n 1, 1) := by decide +kernel
theorem dX7_clearText_5 : decode cX7_clearText 5 = .ok (.aload_n 0, 1) := by decide +kernel
theorem dX7_clearText_6 : decode cX7_clearText 6 = .ok (.iconst 0, 1) := by decide +kernel
theorem dX7_clearText_7 : decode cX7_clearText 7 = .ok (.putfield 139, 3) := by decide +kernel
theorem dX7_clearText_10 : decode cX7_clearText 10 = .ok (.iload_n 1, 1) := by decide +kernel
theorem dX7_clearText_11 : decode cX7_clearText 11 = .ok (.ireturn, 1) := by decide +kernel
theorem dX7_sign_0 : decode cX7_sign 0 = .ok (.aload_n 0, 1) := by decide +kernel
theorem dX7_sign_1 : decode cX7_sign 1 = .ok (.getfield 142, 3) := by decide +kernel
theorem dX7_sign_4 : decode cX7_sign 4 = .ok (.aload_n 0, 1) := by decide +kernel
theorem dX7_sign_5 : decode cX7_sign 5 = .ok (.getfield 139, 3) := by decide +kernel
theorem dX7_sign_8 : decode cX7_sign 8 = .ok (.if_icmp .ge 15, 3) := by decide +kernel
theorem dX7_sign_11 : decode cX7_sign 11 = .ok (.aload_n 0, 1) := by decide +kernel
theorem dX7_sign_12 : decode cX7_sign 12 = .ok (.getfield 22, 3) := by decide +kernel
theorem dX7_sign_15 : decode cX7_sign 15 = .ok (.aload_n 0, 1) := by decide +kernel
theorem dX7_sign_16 : decode cX7_sign 16 = .ok (.getfield 142, 3) := by decide +kernel
theorem dX7_sign_19 : decode cX7_sign 19 = .ok (.caload, 1) := by decide +kernel
theorem dX7_sign_20 : decode cX7_sign 20 = .ok (.goto 4, 3) := by decide +kernel
theorem dX7_sign_23 : decode cX7_sign 23 = .ok (.iconst (-1), 1) := by decide +kernel
theorem dX7_sign_24 : decode cX7_sign 24 = .ok (.ireturn, 1) := by decide +kernel
set_option maxRecDepth 20000 in
theorem ggX7_readsNumber_X7_sign : GoodIn wsX7_readsNumber wsX7_sign := goodIn_r _ [7, 1, 8, 9, 13, 14, 15, 16, 17, 18, 19, 20, 21, 22, 23, 24] (by decide +kernel) (by decide +kernel)
set_option maxRecDepth 20000 in
theorem gX7_readsNumber_X7_sign : GoodIn wsX7_readsNumber (wsV RX7 145 RX7 yX7_sign wsX7_sign) := goodIn_app (goodIn_of _ (by decide +kernel)) ggX7_readsNumber_X7_sign
set_option maxRecDepth 20000 in
theorem ggX7_readsNumber_X7_in : GoodIn wsX7_readsNumber wsX7_in := goodIn_r _ [12] (by decide +kernel) (by decide +kernel)
set_option maxRecDepth 20000 in
theorem gX7_readsNumber_X7_in : GoodIn wsX7_readsNumber (va_wsS RX7 35 yX7_in wsX7_in) := goodIn_app (goodIn_of _ (by decide +kernel)) ggX7_readsNumber_X7_in
theorem dX7_readsNumber_0 : decode cX7_readsNumber 0 = .ok (.aload_n 0, 1) := by decide +kernel
theorem dX7_readsNumber_1 : decode cX7_readsNumber 1 = .ok (.getfield 142, 3) := by decide +kernel
theorem dX7_readsNumber_4 : decode cX7_readsNumber 4 = .ok (.istore_n 2, 1) := by decide +kernel
theorem dX7_readsNumber_5 : decode cX7_readsNumber 5 = .ok (.iconst 0, 1) := by decide +kernel
theorem dX7_readsNumber_6 : decode cX7_readsNumber 6 = .ok (.istore_n 3, 1) := by decide +kernel
theorem dX7_readsNumber_7 : decode cX7_readsNumber 7 = .ok (.aload_n 0, 1) := by decide +kernel
theorem dX7_readsNumber_8 : decode cX7_readsNumber 8 = .ok (.invokevirtual 145, 3) := by decide +kernel
theorem dX7_readsNumber_11 : decode cX7_readsNumber 11 = .ok (.bipush 48, 2) := by decide +kernel
theorem dX7_readsNumber_13 : decode cX7_readsNumber 13 = .ok (.bipush 57, 2) := by decide +kernel
theorem dX7_readsNumber_15 : decode cX7_readsNumber 15 = .ok (.invokestatic 35, 3) := by decide +kernel
theorem dX7_readsNumber_18 : decode cX7_readsNumber 18 = .ok (.ifCond .eq 39, 3) := by decide +kernel
theorem dX7_readsNumber_21 : decode cX7_readsNumber 21 = .ok (.aload_n 0, 1) := by decide +kernel
theorem dX7_readsNumber_22 : decode cX7_readsNumber 22 = .ok (.getfield 142, 3) := by decide +kernel
theorem dX7_readsNumber_25 : decode cX7_readsNumber 25 = .ok (.iload_n 2, 1) := by decide +kernel
theorem dX7_readsNumber_26 : decode cX7_readsNumber 26 = .ok (.iconst 2, 1) := by decide +kernel
theorem dX7_readsNumber_27 : decode cX7_readsNumber 27 = .ok (.iadd, 1) := by decide +kernel
theorem dX7_readsNumber_28 : decode cX7_readsNumber 28 = .ok (.if_icmp .ge 29, 3) := by decide +kernel
theorem dX7_readsNumber_31 : decode cX7_readsNumber 31 = .ok (.bipush 10, 2) := by decide +kernel
theorem dX7_readsNumber_33 : decode cX7_readsNumber 33 = .ok (.iload_n 3, 1) := by decide +kernel
theorem dX7_readsNumber_34 : decode cX7_readsNumber 34 = .ok (.imul, 1) := by decide +kernel
theorem dX7_readsNumber_35 : decode cX7_readsNumber 35 = .ok (.aload_n 0, 1) := by decide +kernel
theorem dX7_readsNumber_36 : decode cX7_readsNumber 36 = .ok (.invokevirtual 145, 3) := by decide +kernel
theorem dX7_readsNumber_39 : decode cX7_readsNumber 39 = .ok (.iadd, 1) := by decide +kernel
theorem dX7_readsNumber_40 : decode cX7_readsNumber 40 = .ok (.bipush 48, 2) := by decide +kernel
theorem dX7_readsNumber_42 : decode cX7_readsNumber 42 = .ok (.isub, 1) := by decide +kernel
theorem dX7_readsNumber_43 : decode cX7_readsNumber 43 = .ok (.istore_n 3, 1) := by decide +kernel
theorem dX7_readsNumber_44 : decode cX7_readsNumber 44 = .ok (.aload_n 0, 1) := by decide +kernel
theorem dX7_readsNumber_45 : decode cX7_readsNumber 45 = .ok (.dup, 1) := by decide +kernel
theorem dX7_readsNumber_46 : decode cX7_readsNumber 46 = .ok (.getfield 142, 3) := by decide +kernel
theorem dX7_readsNumber_49 : decode cX7_readsNumber 49 = .ok (.iconst 1, 1) := by decide +kernel
theorem dX7_readsNumber_50 : decode cX7_readsNumber 50 = .ok (.iadd, 1) := by decide +kernel
theorem dX7_readsNumber_51 : decode cX7_readsNumber 51 = .ok (.putfield 142, 3) := by decide +kernel
theorem dX7_readsNumber_54 : decode cX7_readsNumber 54 = .ok (.goto (-47), 3) := by decide +kernel
theorem dX7_readsNumber_57 : decode cX7_readsNumber 57 = .ok (.aload_n 0, 1) := by decide +kernel
theorem dX7_readsNumber_58 : decode cX7_readsNumber 58 = .ok (.getfield 26, 3) := by decide +kernel
theorem dX7_readsNumber_61 : decode cX7_readsNumber 61 = .ok (.iload_n 1, 1) := by decide +kernel
theorem dX7_readsNumber_62 : decode cX7_readsNumber 62 = .ok (.iload_n 3, 1) := by decide +kernel
theorem dX7_readsNumber_63 : decode cX7_readsNumber 63 = .ok (.iastore, 1) := by decide +kernel
theorem dX7_readsNumber_64 : decode cX7_readsNumber 64 = .ok (.aload_n 0, 1) := by decide +kernel
theorem dX7_readsNumber_65 : decode cX7_readsNumber 65 = .ok (.getfield 142, 3) := by decide +kernel
theorem dX7_readsNumber_68 : decode cX7_readsNumber 68 = .ok (.iload_n 2, 1) := by decide +kernel
theorem dX7_readsNumber_69 : decode cX7_readsNumber 69 = .ok (.if_icmp .le 7, 3) := by decide +kernel
theorem dX7_readsNumber_72 : decode cX7_readsNumber 72 = .ok (.iconst 1, 1) := by decide +kernel
theorem dX7_readsNumber_73 : decode cX7_readsNumber 73 = .ok (.goto 4, 3) := by decide +kernel
theorem dX7_readsNumber_76 : decode cX7_readsNumber 76 = .ok (.iconst 0, 1) := by decide +kernel
theorem dX7_readsNumber_77 : decode cX7_readsNumber 77 = .ok (.ireturn, 1) := by decide +kernel
set_option maxRecDepth 20000 in
theorem ggX7_reads_X7_sign : GoodIn wsX7_reads wsX7_sign := goodIn_r _ [6, 1, 7, 8, 17, 18, 19, 20, 21, 22, 23, 24, 25, 26, 27, 28] (by decide +kernel) (by decide +kernel)
set_option maxRecDepth 20000 in
theorem gX7_reads_X7_sign : GoodIn wsX7_reads (wsV RX7 145 RX7 yX7_sign wsX7_sign) := goodIn_app (goodIn_of _ (by decide +kernel)) ggX7_reads_X7_sign
set_option maxRecDepth 20000 in
theorem ggX7_reads_X7_readsNumber : GoodIn wsX7_reads wsX7_readsNumber := goodIn_r _ [12, 1, 13, 2, 3, 4, 5, 6, 7, 8, 14, 15, 16, 17, 18, 19, 20, 21, 22, 23, 24, 25, 26, 27, 28] (by decide +kernel) (by decide +kernel)
set_option maxRecDepth 20000 in
theorem gX7_reads_X7_readsNumber : GoodIn wsX7_reads (wsV RX7 148 RX7 yX7_readsNumber wsX7_readsNumber) := goodIn_app (goodIn_of _ (by decide +kernel)) ggX7_reads_X7_readsNumber
theorem dX7_reads_0 : decode cX7_reads 0 = .ok (.iload_n 1, 1) := by decide +kernel
theorem dX7_reads_1 : decode cX7_reads 1 = .ok (.ifCond .le 7, 3) := by decide +kernel
theorem dX7_reads_4 : decode cX7_reads 4 = .ok (.iconst 1, 1) := by decide +kernel
theorem dX7_reads_5 : decode cX7_reads 5 = .ok (.goto 4, 3) := by decide +kernel
theorem dX7_reads_8 : decode cX7_reads 8 = .ok (.iconst 0, 1) := by decide +kernel
theorem dX7_reads_9 : decode cX7_reads 9 = .ok (.istore_n 2, 1) := by decide +kernel
theorem dX7_reads_10 : decode cX7_reads 10 = .ok (.iconst 0, 1) := by decide +kernel
theorem dX7_reads_11 : decode cX7_reads 11 = .ok (.istore_n 3, 1) := by decide +kernel
theorem dX7_reads_12 : decode cX7_reads 12 = .ok (.iload_n 3, 1) := by decide +kernel
theorem dX7_reads_13 : decode cX7_reads 13 = .ok (.iload_n 1, 1) := by decide +kernel
theorem dX7_reads_14 : decode cX7_reads 14 = .ok (.if_icmp .ge 60, 3) := by decide +kernel
theorem dX7_reads_17 : decode cX7_reads 17 = .ok (.iload_n 2, 1) := by decide +kernel
theorem dX7_reads_18 : decode cX7_reads 18 = .ok (.ifCond .eq 56, 3) := by decide +kernel
theorem dX7_reads_21 : decode cX7_reads 21 = .ok (.iload_n 3, 1) := by decide +kernel
theorem dX7_reads_22 : decode cX7_reads 22 = .ok (.ifCond .le 28, 3) := by decide +kernel
theorem dX7_reads_25 : decode cX7_reads 25 = .ok (.aload_n 0, 1) := by decide +kernel
theorem dX7_reads_26 : decode cX7_reads 26 = .ok (.invokevirtual 145, 3) := by decide +kernel
theorem dX7_reads_29 : decode cX7_reads 29 = .ok (.bipush 44, 2) := by decide +kernel
theorem dX7_reads_31 : decode cX7_reads 31 = .ok (.if_icmp .ne 7, 3) := by decide +kernel
theorem dX7_reads_34 : decode cX7_reads 34 = .ok (.iconst 1, 1) := by decide +kernel
theorem dX7_reads_35 : decode cX7_reads 35 = .ok (.goto 4, 3) := by decide +kernel
theorem dX7_reads_38 : decode cX7_reads 38 = .ok (.iconst 0, 1) := by decide +kernel
theorem dX7_reads_39 : decode cX7_reads 39 = .ok (.istore_n 2, 1) := by decide +kernel
theorem dX7_reads_40 : decode cX7_reads 40 = .ok (.aload_n 0, 1) := by decide +kernel
theorem dX7_reads_41 : decode cX7_reads 41 = .ok (.dup, 1) := by decide +kernel
theorem dX7_reads_42 : decode cX7_reads 42 = .ok (.getfield 142, 3) := by decide +kernel
theorem dX7_reads_45 : decode cX7_reads 45 = .ok (.iconst 1, 1) := by decide +kernel
theorem dX7_reads_46 : decode cX7_reads 46 = .ok (.iadd, 1) := by decide +kernel
theorem dX7_reads_47 : decode cX7_reads 47 = .ok (.putfield 142, 3) := by decide +kernel
theorem dX7_reads_50 : decode cX7_reads 50 = .ok (.iload_n 2, 1) := by decide +kernel
theorem dX7_reads_51 : decode cX7_reads 51 = .ok (.ifCond .eq 15, 3) := by decide +kernel
theorem dX7_reads_54 : decode cX7_reads 54 = .ok (.aload_n 0, 1) := by decide +kernel
theorem dX7_reads_55 : decode cX7_reads 55 = .ok (.iload_n 3, 1) := by decide +kernel
theorem dX7_reads_56 : decode cX7_reads 56 = .ok (.invokevirtual 148, 3) := by decide +kernel
theorem dX7_reads_59 : decode cX7_reads 59 = .ok (.ifCond .eq 7, 3) := by decide +kernel
theorem dX7_reads_62 : decode cX7_reads 62 = .ok (.iconst 1, 1) := by decide +kernel
theorem dX7_reads_63 : decode cX7_reads 63 = .ok (.goto 4, 3) := by decide +kernel
theorem dX7_reads_66 : decode cX7_reads 66 = .ok (.iconst 0, 1) := by decide +kernel
theorem dX7_reads_67 : decode cX7_reads 67 = .ok (.istore_n 2, 1) := by decide +kernel
theorem dX7_reads_68 : decode cX7_reads 68 = .ok (.iinc 3 1, 3) := by decide +kernel
theorem dX7_reads_71 : decode cX7_reads 71 = .ok (.goto (-59), 3) := by decide +kernel
theorem dX7_reads_74 : decode cX7_reads 74 = .ok (.iload_n 2, 1) := by decide +kernel
theorem dX7_reads_75 : decode cX7_reads 75 = .ok (.ifCond .eq 16, 3) := by decide +kernel
theorem dX7_reads_78 : decode cX7_reads 78 = .ok (.aload_n 0, 1) := by decide +kernel
theorem dX7_reads_79 : decode cX7_reads 79 = .ok (.invokevirtual 145, 3) := by decide +kernel
theorem dX7_reads_82 : decode cX7_reads 82 = .ok (.bipush 59, 2) := by decide +kernel
theorem dX7_reads_84 : decode cX7_reads 84 = .ok (.if_icmp .ne 7, 3) := by decide +kernel
theorem dX7_reads_87 : decode cX7_reads 87 = .ok (.iconst 1, 1) := by decide +kernel
theorem dX7_reads_88 : decode cX7_reads 88 = .ok (.goto 4, 3) := by decide +kernel
theorem dX7_reads_91 : decode cX7_reads 91 = .ok (.iconst 0, 1) := by decide +kernel
theorem dX7_reads_92 : decode cX7_reads 92 = .ok (.istore_n 2, 1) := by decide +kernel
theorem dX7_reads_93 : decode cX7_reads 93 = .ok (.aload_n 0, 1) := by decide +kernel
theorem dX7_reads_94 : decode cX7_reads 94 = .ok (.dup, 1) := by decide +kernel
theorem dX7_reads_95 : decode cX7_reads 95 = .ok (.getfield 142, 3) := by decide +kernel
theorem dX7_reads_98 : decode cX7_reads 98 = .ok (.iconst 1, 1) := by decide +kernel
theorem dX7_reads_99 : decode cX7_reads 99 = .ok (.iadd, 1) := by decide +kernel
theorem dX7_reads_100 : decode cX7_reads 100 = .ok (.putfield 142, 3) := by decide +kernel
theorem dX7_reads_103 : decode cX7_reads 103 = .ok (.iload_n 2, 1) := by decide +kernel
theorem dX7_reads_104 : decode cX7_reads 104 = .ok (.ireturn, 1) := by decide +kernel
set_option maxRecDepth 20000 in
theorem ggX7_doesNext_X7_sign : GoodIn wsX7_doesNext wsX7_sign := goodIn_r _ [9, 1, 10, 11, 56, 57, 58, 59, 60, 61, 62, 63, 64, 65, 66, 67] (by decide +kernel) (by decide +kernel)
set_option maxRecDepth 20000 in
theorem gX7_doesNext_X7_sign : GoodIn wsX7_doesNext (wsV RX7 145 RX7 yX7_sign wsX7_sign) := goodIn_app (goodIn_of _ (by decide +kernel)) ggX7_doesNext_X7_sign
set_option maxRecDepth 20000 in
theorem ggX7_doesNext_X7_reads : GoodIn wsX7_doesNext wsX7_reads := goodIn_r _ [15, 1, 5, 6, 7, 8, 9, 10, 11, 16, 17, 18, 19, 2, 20, 21, 22, 56, 57, 58, 59, 60, 61, 62, 63, 64, 65, 66, 67] (by decide +kernel) (by decide +kernel)
set_option maxRecDepth 20000 in
theorem gX7_doesNext_X7_reads : GoodIn wsX7_doesNext (wsV RX7 151 RX7 yX7_reads wsX7_reads) := goodIn_app (goodIn_of _ (by decide +kernel)) ggX7_doesNext_X7_reads
set_option maxRecDepth 20000 in
theorem ggX7_doesNext_X7_puts : GoodIn wsX7_doesNext wsX7_puts := goodIn_r _ [26, 27, 3, 4, 20, 21, 8, 22, 28, 29, 30, 31, 32, 33, 34, 35, 56, 57, 58, 59, 60, 61, 62, 63, 64, 65, 66, 67] (by decide +kernel) (by decide +kernel)
set_option maxRecDepth 20000 in
theorem gX7_doesNext_X7_puts : GoodIn wsX7_doesNext (wsV RX7 60 RX7 yX7_puts wsX7_puts) := goodIn_app (goodIn_of _ (by decide +kernel)) ggX7_doesNext_X7_puts
set_option maxRecDepth 20000 in
theorem ggX7_doesNext_X7_takes : GoodIn wsX7_doesNext wsX7_takes := goodIn_r _ [39, 3, 27, 40, 41, 42, 8, 43, 20, 21, 22, 28, 29, 30, 31, 32, 33, 34, 35, 56, 57, 58, 59, 60, 61, 62, 63, 64, 65, 66, 67] (by decide +kernel) (by decide +kernel)
set_option maxRecDepth 20000 in
theorem gX7_doesNext_X7_takes : GoodIn wsX7_doesNext (wsV RX7 67 RX7 yX7_takes wsX7_takes) := goodIn_app (goodIn_of _ (by decide +kernel)) ggX7_doesNext_X7_takes
set_option maxRecDepth 20000 in
theorem ggX7_doesNext_X7_changes : GoodIn wsX7_doesNext wsX7_changes := goodIn_r _ [47, 3, 27, 40, 41, 42, 8, 43, 20, 21, 22, 28, 29, 30, 31, 32, 33, 34, 35, 56, 57, 58, 59, 60, 61, 62, 63, 64, 65, 66, 67] (by decide +kernel) (by decide +kernel)
set_option maxRecDepth 20000 in
theorem gX7_doesNext_X7_changes : GoodIn wsX7_doesNext (wsV RX7 70 RX7 yX7_changes wsX7_changes) := goodIn_app (goodIn_of _ (by decide +kernel)) ggX7_doesNext_X7_changes
set_option maxRecDepth 20000 in
theorem ggX7_doesNext_X7_moves : GoodIn wsX7_doesNext wsX7_moves := goodIn_r _ [51, 27, 3, 52, 40, 41, 42, 8, 43, 20, 21, 22, 53, 54, 55, 32, 33, 34, 35, 56, 57, 58, 59, 60, 61, 62, 63, 64, 65, 66, 67] (by decide +kernel) (by decide +kernel)
set_option maxRecDepth 20000 in
theorem gX7_doesNext_X7_moves : GoodIn wsX7_doesNext (wsV RX7 77 RX7 yX7_moves wsX7_moves) := goodIn_app (goodIn_of _ (by decide +kernel)) ggX7_doesNext_X7_moves
theorem dX7_doesNext_0 : decode cX7_doesNext 0 = .ok (.aload_n 0, 1) := by decide +kernel
theorem dX7_doesNext_1 : decode cX7_doesNext 1 = .ok (.invokevirtual 145, 3) := by decide +kernel
theorem dX7_doesNext_4 : decode cX7_doesNext 4 = .ok (.istore_n 1, 1) := by decide +kernel
theorem dX7_doesNext_5 : decode cX7_doesNext 5 = .ok (.aload_n 0, 1) := by decide +kernel
theorem dX7_doesNext_6 : decode cX7_doesNext 6 = .ok (.dup, 1) := by decide +kernel
theorem dX7_doesNext_7 : decode cX7_doesNext 7 = .ok (.getfield 142, 3) := by decide +kernel
theorem dX7_doesNext_10 : decode cX7_doesNext 10 = .ok (.iconst 1, 1) := by decide +kernel
theorem dX7_doesNext_11 : decode cX7_doesNext 11 = .ok (.iadd, 1) := by decide +kernel
theorem dX7_doesNext_12 : decode cX7_doesNext 12 = .ok (.putfield 142, 3) := by decide +kernel
theorem dX7_doesNext_15 : decode cX7_doesNext 15 = .ok (.aload_n 0, 1) := by decide +kernel
theorem dX7_doesNext_16 : decode cX7_doesNext 16 = .ok (.iload_n 1, 1) := by decide +kernel
theorem dX7_doesNext_17 : decode cX7_doesNext 17 = .ok (.bipush 45, 2) := by decide +kernel
theorem dX7_doesNext_19 : decode cX7_doesNext 19 = .ok (.if_icmp .ne 7, 3) := by decide +kernel
theorem dX7_doesNext_22 : decode cX7_doesNext 22 = .ok (.iconst 1, 1) := by decide +kernel
theorem dX7_doesNext_23 : decode cX7_doesNext 23 = .ok (.goto 30, 3) := by decide +kernel
theorem dX7_doesNext_26 : decode cX7_doesNext 26 = .ok (.iload_n 1, 1) := by decide +kernel
theorem dX7_doesNext_27 : decode cX7_doesNext 27 = .ok (.bipush 43, 2) := by decide +kernel
theorem dX7_doesNext_29 : decode cX7_doesNext 29 = .ok (.if_icmp .eq 9, 3) := by decide +kernel
theorem dX7_doesNext_32 : decode cX7_doesNext 32 = .ok (.iload_n 1, 1) := by decide +kernel
theorem dX7_doesNext_33 : decode cX7_doesNext 33 = .ok (.bipush 61, 2) := by decide +kernel
theorem dX7_doesNext_35 : decode cX7_doesNext 35 = .ok (.if_icmp .ne 7, 3) := by decide +kernel
theorem dX7_doesNext_38 : decode cX7_doesNext 38 = .ok (.iconst 2, 1) := by decide +kernel
theorem dX7_doesNext_39 : decode cX7_doesNext 39 = .ok (.goto 14, 3) := by decide +kernel
theorem dX7_doesNext_42 : decode cX7_doesNext 42 = .ok (.iload_n 1, 1) := by decide +kernel
theorem dX7_doesNext_43 : decode cX7_doesNext 43 = .ok (.bipush 62, 2) := by decide +kernel
theorem dX7_doesNext_45 : decode cX7_doesNext 45 = .ok (.if_icmp .ne 7, 3) := by decide +kernel
theorem dX7_doesNext_48 : decode cX7_doesNext 48 = .ok (.iconst 3, 1) := by decide +kernel
theorem dX7_doesNext_49 : decode cX7_doesNext 49 = .ok (.goto 4, 3) := by decide +kernel
theorem dX7_doesNext_52 : decode cX7_doesNext 52 = .ok (.iconst 0, 1) := by decide +kernel
theorem dX7_doesNext_53 : decode cX7_doesNext 53 = .ok (.invokevirtual 151, 3) := by decide +kernel
theorem dX7_doesNext_56 : decode cX7_doesNext 56 = .ok (.ifCond .ne 5, 3) := by decide +kernel
theorem dX7_doesNext_59 : decode cX7_doesNext 59 = .ok (.iconst 1, 1) := by decide +kernel
theorem dX7_doesNext_60 : decode cX7_doesNext 60 = .ok (.ireturn, 1) := by decide +kernel
theorem dX7_doesNext_61 : decode cX7_doesNext 61 = .ok (.iconst 0, 1) := by decide +kernel
theorem dX7_doesNext_62 : decode cX7_doesNext 62 = .ok (.istore_n 2, 1) := by decide +kernel
theorem dX7_doesNext_63 : decode cX7_doesNext 63 = .ok (.iload_n 1, 1) := by decide +kernel
theorem dX7_doesNext_64 : decode cX7_doesNext 64 = .ok (.lookupswitch 90 #[(43, 36), (45, 56), (61, 70)], 36) := by decide +kernel
theorem dX7_doesNext_100 : decode cX7_doesNext 100 = .ok (.aload_n 0, 1) := by decide +kernel
theorem dX7_doesNext_101 : decode cX7_doesNext 101 = .ok (.aload_n 0, 1) := by decide +kernel
theorem dX7_doesNext_102 : decode cX7_doesNext 102 = .ok (.getfield 26, 3) := by decide +kernel
theorem dX7_doesNext_105 : decode cX7_doesNext 105 = .ok (.iconst 0, 1) := by decide +kernel
theorem dX7_doesNext_106 : decode cX7_doesNext 106 = .ok (.iaload, 1) := by decide +kernel
theorem dX7_doesNext_107 : decode cX7_doesNext 107 = .ok (.aload_n 0, 1) := by decide +kernel
theorem dX7_doesNext_108 : decode cX7_doesNext 108 = .ok (.getfield 26, 3) := by decide +kernel
theorem dX7_doesNext_111 : decode cX7_doesNext 111 = .ok (.iconst 1, 1) := by decide +kernel
theorem dX7_doesNext_112 : decode cX7_doesNext 112 = .ok (.iaload, 1) := by decide +kernel
theorem dX7_doesNext_113 : decode cX7_doesNext 113 = .ok (.invokevirtual 60, 3) := by decide +kernel
theorem dX7_doesNext_116 : decode cX7_doesNext 116 = .ok (.istore_n 2, 1) := by decide +kernel
theorem dX7_doesNext_117 : decode cX7_doesNext 117 = .ok (.goto 60, 3) := by decide +kernel
theorem dX7_doesNext_120 : decode cX7_doesNext 120 = .ok (.aload_n 0, 1) := by decide +kernel
theorem dX7_doesNext_121 : decode cX7_doesNext 121 = .ok (.aload_n 0, 1) := by decide +kernel
theorem dX7_doesNext_122 : decode cX7_doesNext 122 = .ok (.getfield 26, 3) := by decide +kernel
theorem dX7_doesNext_125 : decode cX7_doesNext 125 = .ok (.iconst 0, 1) := by decide +kernel
theorem dX7_doesNext_126 : decode cX7_doesNext 126 = .ok (.iaload, 1) := by decide +kernel
theorem dX7_doesNext_127 : decode cX7_doesNext 127 = .ok (.invokevirtual 67, 3) := by decide +kernel
theorem dX7_doesNext_130 : decode cX7_doesNext 130 = .ok (.istore_n 2, 1) := by decide +kernel
theorem dX7_doesNext_131 : decode cX7_doesNext 131 = .ok (.goto 46, 3) := by decide +kernel
theorem dX7_doesNext_134 : decode cX7_doesNext 134 = .ok (.aload_n 0, 1) := by decide +kernel
theorem dX7_doesNext_135 : decode cX7_doesNext 135 = .ok (.aload_n 0, 1) := by decide +kernel
theorem dX7_doesNext_136 : decode cX7_doesNext 136 = .ok (.getfield 26, 3) := by decide +kernel
theorem dX7_doesNext_139 : decode cX7_doesNext 139 = .ok (.iconst 0, 1) := by decide +kernel
theorem dX7_doesNext_140 : decode cX7_doesNext 140 = .ok (.iaload, 1) := by decide +kernel
theorem dX7_doesNext_141 : decode cX7_doesNext 141 = .ok (.aload_n 0, 1) := by decide +kernel
theorem dX7_doesNext_142 : decode cX7_doesNext 142 = .ok (.getfield 26, 3) := by decide +kernel
theorem dX7_doesNext_145 : decode cX7_doesNext 145 = .ok (.iconst 1, 1) := by decide +kernel
theorem dX7_doesNext_146 : decode cX7_doesNext 146 = .ok (.iaload, 1) := by decide +kernel
theorem dX7_doesNext_147 : decode cX7_doesNext 147 = .ok (.invokevirtual 70, 3) := by decide +kernel
theorem dX7_doesNext_150 : decode cX7_doesNext 150 = .ok (.istore_n 2, 1) := by decide +kernel
theorem dX7_doesNext_151 : decode cX7_doesNext 151 = .ok (.goto 26, 3) := by decide +kernel
theorem dX7_doesNext_154 : decode cX7_doesNext 154 = .ok (.aload_n 0, 1) := by decide +kernel
theorem dX7_doesNext_155 : decode cX7_doesNext 155 = .ok (.aload_n 0, 1) := by decide +kernel
theorem dX7_doesNext_156 : decode cX7_doesNext 156 = .ok (.getfield 26, 3) := by decide +kernel
theorem dX7_doesNext_159 : decode cX7_doesNext 159 = .ok (.iconst 0, 1) := by decide +kernel
theorem dX7_doesNext_160 : decode cX7_doesNext 160 = .ok (.iaload, 1) := by decide +kernel
theorem dX7_doesNext_161 : decode cX7_doesNext 161 = .ok (.aload_n 0, 1) := by decide +kernel
theorem dX7_doesNext_162 : decode cX7_doesNext 162 = .ok (.getfield 26, 3) := by decide +kernel
theorem dX7_doesNext_165 : decode cX7_doesNext 165 = .ok (.iconst 1, 1) := by decide +kernel
theorem dX7_doesNext_166 : decode cX7_doesNext 166 = .ok (.iaload, 1) := by decide +kernel
theorem dX7_doesNext_167 : decode cX7_doesNext 167 = .ok (.aload_n 0, 1) := by decide +kernel
theorem dX7_doesNext_168 : decode cX7_doesNext 168 = .ok (.getfield 26, 3) := by decide +kernel
theorem dX7_doesNext_171 : decode cX7_doesNext 171 = .ok (.iconst 2, 1) := by decide +kernel
theorem dX7_doesNext_172 : decode cX7_doesNext 172 = .ok (.iaload, 1) := by decide +kernel
theorem dX7_doesNext_173 : decode cX7_doesNext 173 = .ok (.invokevirtual 77, 3) := by decide +kernel
theorem dX7_doesNext_176 : decode cX7_doesNext 176 = .ok (.istore_n 2, 1) := by decide +kernel
theorem dX7_doesNext_177 : decode cX7_doesNext 177 = .ok (.iload_n 2, 1) := by decide +kernel
theorem dX7_doesNext_178 : decode cX7_doesNext 178 = .ok (.ldc 43, 2) := by decide +kernel
theorem dX7_doesNext_180 : decode cX7_doesNext 180 = .ok (.if_icmp .ne 7, 3) := by decide +kernel
theorem dX7_doesNext_183 : decode cX7_doesNext 183 = .ok (.iconst 2, 1) := by decide +kernel
theorem dX7_doesNext_184 : decode cX7_doesNext 184 = .ok (.goto 14, 3) := by decide +kernel
theorem dX7_doesNext_187 : decode cX7_doesNext 187 = .ok (.iload_n 2, 1) := by decide +kernel
theorem dX7_doesNext_188 : decode cX7_doesNext 188 = .ok (.ldc 52, 2) := by decide +kernel
theorem dX7_doesNext_190 : decode cX7_doesNext 190 = .ok (.if_icmp .ne 7, 3) := by decide +kernel
theorem dX7_doesNext_193 : decode cX7_doesNext 193 = .ok (.iconst 3, 1) := by decide +kernel
theorem dX7_doesNext_194 : decode cX7_doesNext 194 = .ok (.goto 4, 3) := by decide +kernel
theorem dX7_doesNext_197 : decode cX7_doesNext 197 = .ok (.iconst 0, 1) := by decide +kernel
theorem dX7_doesNext_198 : decode cX7_doesNext 198 = .ok (.ireturn, 1) := by decide +kernel
set_option maxRecDepth 20000 in
theorem ggX7_faulty_X7_lays : GoodIn wsX7_faulty wsX7_lays := goodIn_r _ [9, 10, 11, 71, 72, 73, 74, 75, 76, 77, 78, 79, 80, 81, 82] (by decide +kernel) (by decide +kernel)
set_option maxRecDepth 20000 in
theorem gX7_faulty_X7_lays : GoodIn wsX7_faulty (wsV RX7 123 RX7 yX7_lays wsX7_lays) := goodIn_app (goodIn_of _ (by decide +kernel)) ggX7_faulty_X7_lays
set_option maxRecDepth 20000 in
theorem ggX7_faulty_X7_doesNext : GoodIn wsX7_faulty wsX7_doesNext := goodIn_r _ [15, 2, 16, 17, 18, 19, 20, 21, 8, 22, 3, 23, 24, 25, 26, 27, 28, 29, 30, 31, 32, 33, 34, 35, 36, 37, 38, 11, 39, 40, 41, 42, 43, 44, 45, 46, 47, 48, 49, 50, 51, 52, 53, 54, 55, 56, 57, 58, 59, 60, 61, 62, 63, 64, 65, 66, 71, 72, 73, 74, 75, 76, 77, 78, 79, 80, 81, 82] (by decide +kernel) (by decide +kernel)
set_option maxRecDepth 20000 in
theorem gX7_faulty_X7_doesNext : GoodIn wsX7_faulty (wsV RX7 154 RX7 yX7_doesNext wsX7_doesNext) := goodIn_app (goodIn_of _ (by decide +kernel)) ggX7_faulty_X7_doesNext
set_option maxRecDepth 20000 in
theorem ggX7_faulty_X7_restores : GoodIn wsX7_faulty wsX7_restores := goodIn_r _ [70, 11, 10, 71, 72, 73, 74, 75, 76, 77, 78, 79, 80, 81, 82] (by decide +kernel) (by decide +kernel)
set_option maxRecDepth 20000 in
theorem gX7_faulty_X7_restores : GoodIn wsX7_faulty (wsV RX7 126 RX7 yX7_restores wsX7_restores) := goodIn_app (goodIn_of _ (by decide +kernel)) ggX7_faulty_X7_restores
theorem dX7_faulty_0 : decode cX7_faulty 0 = .ok (.aload_n 0, 1) := by decide +kernel
theorem dX7_faulty_1 : decode cX7_faulty 1 = .ok (.invokevirtual 123, 3) := by decide +kernel
theorem dX7_faulty_4 : decode cX7_faulty 4 = .ok (.ldc 100, 2) := by decide +kernel
theorem dX7_faulty_6 : decode cX7_faulty 6 = .ok (.istore_n 1, 1) := by decide +kernel
theorem dX7_faulty_7 : decode cX7_faulty 7 = .ok (.aload_n 0, 1) := by decide +kernel
theorem dX7_faulty_8 : decode cX7_faulty 8 = .ok (.iconst 0, 1) := by decide +kernel
theorem dX7_faulty_9 : decode cX7_faulty 9 = .ok (.putfield 142, 3) := by decide +kernel
theorem dX7_faulty_12 : decode cX7_faulty 12 = .ok (.aload_n 0, 1) := by decide +kernel
theorem dX7_faulty_13 : decode cX7_faulty 13 = .ok (.getfield 142, 3) := by decide +kernel
theorem dX7_faulty_16 : decode cX7_faulty 16 = .ok (.aload_n 0, 1) := by decide +kernel
theorem dX7_faulty_17 : decode cX7_faulty 17 = .ok (.getfield 139, 3) := by decide +kernel
theorem dX7_faulty_20 : decode cX7_faulty 20 = .ok (.if_icmp .ge 38, 3) := by decide +kernel
theorem dX7_faulty_23 : decode cX7_faulty 23 = .ok (.iload_n 1, 1) := by decide +kernel
theorem dX7_faulty_24 : decode cX7_faulty 24 = .ok (.ldc 100, 2) := by decide +kernel
theorem dX7_faulty_26 : decode cX7_faulty 26 = .ok (.if_icmp .ne 32, 3) := by decide +kernel
theorem dX7_faulty_29 : decode cX7_faulty 29 = .ok (.aload_n 0, 1) := by decide +kernel
theorem dX7_faulty_30 : decode cX7_faulty 30 = .ok (.getfield 142, 3) := by decide +kernel
theorem dX7_faulty_33 : decode cX7_faulty 33 = .ok (.istore_n 2, 1) := by decide +kernel
theorem dX7_faulty_34 : decode cX7_faulty 34 = .ok (.aload_n 0, 1) := by decide +kernel
theorem dX7_faulty_35 : decode cX7_faulty 35 = .ok (.aload_n 0, 1) := by decide +kernel
theorem dX7_faulty_36 : decode cX7_faulty 36 = .ok (.invokevirtual 154, 3) := by decide +kernel
theorem dX7_faulty_39 : decode cX7_faulty 39 = .ok (.putfield 157, 3) := by decide +kernel
theorem dX7_faulty_42 : decode cX7_faulty 42 = .ok (.aload_n 0, 1) := by decide +kernel
theorem dX7_faulty_43 : decode cX7_faulty 43 = .ok (.getfield 157, 3) := by decide +kernel
theorem dX7_faulty_46 : decode cX7_faulty 46 = .ok (.ifCond .le 7, 3) := by decide +kernel
theorem dX7_faulty_49 : decode cX7_faulty 49 = .ok (.iload_n 2, 1) := by decide +kernel
theorem dX7_faulty_50 : decode cX7_faulty 50 = .ok (.goto 4, 3) := by decide +kernel
theorem dX7_faulty_53 : decode cX7_faulty 53 = .ok (.iload_n 1, 1) := by decide +kernel
theorem dX7_faulty_54 : decode cX7_faulty 54 = .ok (.istore_n 1, 1) := by decide +kernel
theorem dX7_faulty_55 : decode cX7_faulty 55 = .ok (.goto (-43), 3) := by decide +kernel
theorem dX7_faulty_58 : decode cX7_faulty 58 = .ok (.aload_n 0, 1) := by decide +kernel
theorem dX7_faulty_59 : decode cX7_faulty 59 = .ok (.invokevirtual 126, 3) := by decide +kernel
theorem dX7_faulty_62 : decode cX7_faulty 62 = .ok (.iload_n 1, 1) := by decide +kernel
theorem dX7_faulty_63 : decode cX7_faulty 63 = .ok (.ireturn, 1) := by decide +kernel
set_option maxRecDepth 20000 in
theorem ggX7_fault_X7_in : GoodIn wsX7_fault wsX7_in := goodIn_r _ [7] (by decide +kernel) (by decide +kernel)
set_option maxRecDepth 20000 in
theorem gX7_fault_X7_in : GoodIn wsX7_fault (va_wsS RX7 35 yX7_in wsX7_in) := goodIn_app (goodIn_of _ (by decide +kernel)) ggX7_fault_X7_in
set_option maxRecDepth 20000 in
theorem ggX7_fault_X7_faulty : GoodIn wsX7_fault wsX7_faulty := goodIn_r _ [11, 2, 12, 13, 3, 14, 15, 16, 6, 17, 18, 19, 20, 21, 22, 23, 24, 1, 25, 26, 27, 28, 29, 30, 31, 32, 33, 34, 35, 36, 37, 38, 4, 5, 7, 39, 40, 41, 42, 43, 44, 45, 46, 47, 48, 49, 50, 51, 52, 53, 54, 55, 56, 57, 58, 59, 60, 61, 62, 63, 64, 65, 66, 67, 68, 69, 70, 71, 72, 73, 74, 75, 76, 77, 78, 79, 80, 81, 82, 83, 84, 85, 86] (by decide +kernel) (by decide +kernel)
set_option maxRecDepth 20000 in
theorem gX7_fault_X7_faulty : GoodIn wsX7_fault (wsV RX7 160 RX7 yX7_faulty wsX7_faulty) := goodIn_app (goodIn_of _ (by decide +kernel)) ggX7_fault_X7_faulty
theorem dX7_fault_0 : decode cX7_fault 0 = .ok (.iload_n 1, 1) := by decide +kernel
theorem dX7_fault_1 : decode cX7_fault 1 = .ok (.iconst 0, 1) := by decide +kernel
theorem dX7_fault_2 : decode cX7_fault 2 = .ok (.iconst 1, 1) := by decide +kernel
theorem dX7_fault_3 : decode cX7_fault 3 = .ok (.invokestatic 35, 3) := by decide +kernel
theorem dX7_fault_6 : decode cX7_fault 6 = .ok (.ifCond .ne 6, 3) := by decide +kernel
theorem dX7_fault_9 : decode cX7_fault 9 = .ok (.ldc 43, 2) := by decide +kernel
theorem dX7_fault_11 : decode cX7_fault 11 = .ok (.ireturn, 1) := by decide +kernel
theorem dX7_fault_12 : decode cX7_fault 12 = .ok (.aload_n 0, 1) := by decide +kernel
theorem dX7_fault_13 : decode cX7_fault 13 = .ok (.invokevirtual 160, 3) := by decide +kernel
theorem dX7_fault_16 : decode cX7_fault 16 = .ok (.istore_n 2, 1) := by decide +kernel
theorem dX7_fault_17 : decode cX7_fault 17 = .ok (.iload_n 2, 1) := by decide +kernel
theorem dX7_fault_18 : decode cX7_fault 18 = .ok (.ldc 100, 2) := by decide +kernel
theorem dX7_fault_20 : decode cX7_fault 20 = .ok (.if_icmp .eq 7, 3) := by decide +kernel
theorem dX7_fault_23 : decode cX7_fault 23 = .ok (.iload_n 1, 1) := by decide +kernel
theorem dX7_fault_24 : decode cX7_fault 24 = .ok (.ifCond .ne 7, 3) := by decide +kernel
theorem dX7_fault_27 : decode cX7_fault 27 = .ok (.iload_n 2, 1) := by decide +kernel
theorem dX7_fault_28 : decode cX7_fault 28 = .ok (.goto 7, 3) := by decide +kernel
theorem dX7_fault_31 : decode cX7_fault 31 = .ok (.aload_n 0, 1) := by decide +kernel
theorem dX7_fault_32 : decode cX7_fault 32 = .ok (.getfield 157, 3) := by decide +kernel
theorem dX7_fault_35 : decode cX7_fault 35 = .ok (.ireturn, 1) := by decide +kernel
set_option maxRecDepth 20000 in
theorem ggX7_play_X7_faulty : GoodIn wsX7_play wsX7_faulty := goodIn_r _ [10, 1, 3, 4, 11, 12, 13, 14, 9, 15, 16, 5, 17, 18, 19, 20, 21, 22, 23, 24, 25, 26, 27, 28, 29, 30, 31, 32, 33, 34, 35, 36, 37, 38, 39, 40, 41, 42, 43, 44, 45, 46, 47, 48, 49, 50, 51, 52, 53, 54, 55, 56, 57, 58, 59, 60, 61, 62, 63, 64, 65, 66, 67, 68, 69, 70, 71, 72, 73, 74, 75, 87, 88, 89, 90, 91, 92, 93, 94, 95, 96, 97, 98] (by decide +kernel) (by decide +kernel)
set_option maxRecDepth 20000 in
theorem gX7_play_X7_faulty : GoodIn wsX7_play (wsV RX7 160 RX7 yX7_faulty wsX7_faulty) := goodIn_app (goodIn_of _ (by decide +kernel)) ggX7_play_X7_faulty
set_option maxRecDepth 20000 in
theorem ggX7_play_X7_keeps : GoodIn wsX7_play wsX7_keeps := goodIn_r _ [79, 80, 5, 87, 88, 89, 90, 91, 92, 93, 94, 95, 96, 97, 98] (by decide +kernel) (by decide +kernel)
set_option maxRecDepth 20000 in
theorem gX7_play_X7_keeps : GoodIn wsX7_play (wsV RX7 57 RX7 yX7_keeps wsX7_keeps) := goodIn_app (goodIn_of _ (by decide +kernel)) ggX7_play_X7_keeps
set_option maxRecDepth 20000 in
theorem ggX7_play_X7_doesNext : GoodIn wsX7_play wsX7_doesNext := goodIn_r _ [20, 3, 21, 22, 23, 24, 25, 26, 9, 27, 4, 28, 29, 30, 31, 32, 33, 34, 35, 36, 37, 38, 39, 40, 41, 42, 43, 5, 44, 45, 46, 47, 48, 49, 50, 51, 52, 53, 54, 55, 56, 57, 58, 59, 60, 61, 62, 63, 64, 65, 66, 67, 68, 69, 70, 71, 87, 88, 89, 90, 91, 92, 93, 94, 95, 96, 97, 98] (by decide +kernel) (by decide +kernel)
set_option maxRecDepth 20000 in
theorem gX7_play_X7_doesNext : GoodIn wsX7_play (wsV RX7 154 RX7 yX7_doesNext wsX7_doesNext) := goodIn_app (goodIn_of _ (by decide +kernel)) ggX7_play_X7_doesNext
set_option maxRecDepth 20000 in
theorem ggX7_play_X7_acted : GoodIn wsX7_play wsX7_acted := goodIn_r _ [84, 22, 85, 86, 80, 87, 88, 89, 90, 91, 92, 93, 94, 95, 96, 97, 98] (by decide +kernel) (by decide +kernel)
set_option maxRecDepth 20000 in
theorem gX7_play_X7_acted : GoodIn wsX7_play (wsV RX7 63 RX7 yX7_acted wsX7_acted) := goodIn_app (goodIn_of _ (by decide +kernel)) ggX7_play_X7_acted
theorem dX7_play_0 : decode cX7_play 0 = .ok (.aload_n 0, 1) := by decide +kernel
theorem dX7_play_1 : decode cX7_play 1 = .ok (.invokevirtual 160, 3) := by decide +kernel
theorem dX7_play_4 : decode cX7_play 4 = .ok (.ldc 100, 2) := by decide +kernel
theorem dX7_play_6 : decode cX7_play 6 = .ok (.if_icmp .eq 6, 3) := by decide +kernel
theorem dX7_play_9 : decode cX7_play 9 = .ok (.ldc 99, 2) := by decide +kernel
theorem dX7_play_11 : decode cX7_play 11 = .ok (.ireturn, 1) := by decide +kernel
theorem dX7_play_12 : decode cX7_play 12 = .ok (.aload_n 0, 1) := by decide +kernel
theorem dX7_play_13 : decode cX7_play 13 = .ok (.invokevirtual 57, 3) := by decide +kernel
theorem dX7_play_16 : decode cX7_play 16 = .ok (.aload_n 0, 1) := by decide +kernel
theorem dX7_play_17 : decode cX7_play 17 = .ok (.iconst 0, 1) := by decide +kernel
theorem dX7_play_18 : decode cX7_play 18 = .ok (.putfield 142, 3) := by decide +kernel
theorem dX7_play_21 : decode cX7_play 21 = .ok (.aload_n 0, 1) := by decide +kernel
theorem dX7_play_22 : decode cX7_play 22 = .ok (.getfield 142, 3) := by decide +kernel
theorem dX7_play_25 : decode cX7_play 25 = .ok (.aload_n 0, 1) := by decide +kernel
theorem dX7_play_26 : decode cX7_play 26 = .ok (.getfield 139, 3) := by decide +kernel
theorem dX7_play_29 : decode cX7_play 29 = .ok (.if_icmp .ge 11, 3) := by decide +kernel
theorem dX7_play_32 : decode cX7_play 32 = .ok (.aload_n 0, 1) := by decide +kernel
theorem dX7_play_33 : decode cX7_play 33 = .ok (.invokevirtual 154, 3) := by decide +kernel
theorem dX7_play_36 : decode cX7_play 36 = .ok (.pop, 1) := by decide +kernel
theorem dX7_play_37 : decode cX7_play 37 = .ok (.goto (-16), 3) := by decide +kernel
theorem dX7_play_40 : decode cX7_play 40 = .ok (.aload_n 0, 1) := by decide +kernel
theorem dX7_play_41 : decode cX7_play 41 = .ok (.aload_n 0, 1) := by decide +kernel
theorem dX7_play_42 : decode cX7_play 42 = .ok (.getfield 7, 3) := by decide +kernel
theorem dX7_play_45 : decode cX7_play 45 = .ok (.iconst 0, 1) := by decide +kernel
theorem dX7_play_46 : decode cX7_play 46 = .ok (.iaload, 1) := by decide +kernel
theorem dX7_play_47 : decode cX7_play 47 = .ok (.invokevirtual 63, 3) := by decide +kernel
theorem dX7_play_50 : decode cX7_play 50 = .ok (.ireturn, 1) := by decide +kernel
theorem dJ6_bitCount_0f7a4_0 : decode cJ6_bitCount_0f7a4 0 = .ok (.iload_n 0, 1) := by decide +kernel
theorem dJ6_bitCount_0f7a4_1 : decode cJ6_bitCount_0f7a4 1 = .ok (.iload_n 0, 1) := by decide +kernel
theorem dJ6_bitCount_0f7a4_2 : decode cJ6_bitCount_0f7a4 2 = .ok (.iconst 1, 1) := by decide +kernel
theorem dJ6_bitCount_0f7a4_3 : decode cJ6_bitCount_0f7a4 3 = .ok (.iushr, 1) := by decide +kernel
theorem dJ6_bitCount_0f7a4_4 : decode cJ6_bitCount_0f7a4 4 = .ok (.ldc_w 265, 3) := by decide +kernel
theorem dJ6_bitCount_0f7a4_7 : decode cJ6_bitCount_0f7a4 7 = .ok (.iand, 1) := by decide +kernel
theorem dJ6_bitCount_0f7a4_8 : decode cJ6_bitCount_0f7a4 8 = .ok (.isub, 1) := by decide +kernel
theorem dJ6_bitCount_0f7a4_9 : decode cJ6_bitCount_0f7a4 9 = .ok (.istore_n 0, 1) := by decide +kernel
theorem dJ6_bitCount_0f7a4_10 : decode cJ6_bitCount_0f7a4 10 = .ok (.iload_n 0, 1) := by decide +kernel
theorem dJ6_bitCount_0f7a4_11 : decode cJ6_bitCount_0f7a4 11 = .ok (.ldc_w 266, 3) := by decide +kernel
theorem dJ6_bitCount_0f7a4_14 : decode cJ6_bitCount_0f7a4 14 = .ok (.iand, 1) := by decide +kernel
theorem dJ6_bitCount_0f7a4_15 : decode cJ6_bitCount_0f7a4 15 = .ok (.iload_n 0, 1) := by decide +kernel
theorem dJ6_bitCount_0f7a4_16 : decode cJ6_bitCount_0f7a4 16 = .ok (.iconst 2, 1) := by decide +kernel
theorem dJ6_bitCount_0f7a4_17 : decode cJ6_bitCount_0f7a4 17 = .ok (.iushr, 1) := by decide +kernel
theorem dJ6_bitCount_0f7a4_18 : decode cJ6_bitCount_0f7a4 18 = .ok (.ldc_w 266, 3) := by decide +kernel
theorem dJ6_bitCount_0f7a4_21 : decode cJ6_bitCount_0f7a4 21 = .ok (.iand, 1) := by decide +kernel
theorem dJ6_bitCount_0f7a4_22 : decode cJ6_bitCount_0f7a4 22 = .ok (.iadd, 1) := by decide +kernel
theorem dJ6_bitCount_0f7a4_23 : decode cJ6_bitCount_0f7a4 23 = .ok (.istore_n 0, 1) := by decide +kernel
theorem dJ6_bitCount_0f7a4_24 : decode cJ6_bitCount_0f7a4 24 = .ok (.iload_n 0, 1) := by decide +kernel
theorem dJ6_bitCount_0f7a4_25 : decode cJ6_bitCount_0f7a4 25 = .ok (.iload_n 0, 1) := by decide +kernel
theorem dJ6_bitCount_0f7a4_26 : decode cJ6_bitCount_0f7a4 26 = .ok (.iconst 4, 1) := by decide +kernel
theorem dJ6_bitCount_0f7a4_27 : decode cJ6_bitCount_0f7a4 27 = .ok (.iushr, 1) := by decide +kernel
theorem dJ6_bitCount_0f7a4_28 : decode cJ6_bitCount_0f7a4 28 = .ok (.iadd, 1) := by decide +kernel
theorem dJ6_bitCount_0f7a4_29 : decode cJ6_bitCount_0f7a4 29 = .ok (.ldc_w 267, 3) := by decide +kernel
theorem dJ6_bitCount_0f7a4_32 : decode cJ6_bitCount_0f7a4 32 = .ok (.iand, 1) := by decide +kernel
theorem dJ6_bitCount_0f7a4_33 : decode cJ6_bitCount_0f7a4 33 = .ok (.istore_n 0, 1) := by decide +kernel
theorem dJ6_bitCount_0f7a4_34 : decode cJ6_bitCount_0f7a4 34 = .ok (.iload_n 0, 1) := by decide +kernel
theorem dJ6_bitCount_0f7a4_35 : decode cJ6_bitCount_0f7a4 35 = .ok (.iload_n 0, 1) := by decide +kernel
theorem dJ6_bitCount_0f7a4_36 : decode cJ6_bitCount_0f7a4 36 = .ok (.bipush 8, 2) := by decide +kernel
theorem dJ6_bitCount_0f7a4_38 : decode cJ6_bitCount_0f7a4 38 = .ok (.iushr, 1) := by decide +kernel
theorem dJ6_bitCount_0f7a4_39 : decode cJ6_bitCount_0f7a4 39 = .ok (.iadd, 1) := by decide +kernel
theorem dJ6_bitCount_0f7a4_40 : decode cJ6_bitCount_0f7a4 40 = .ok (.istore_n 0, 1) := by decide +kernel
theorem dJ6_bitCount_0f7a4_41 : decode cJ6_bitCount_0f7a4 41 = .ok (.iload_n 0, 1) := by decide +kernel
theorem dJ6_bitCount_0f7a4_42 : decode cJ6_bitCount_0f7a4 42 = .ok (.iload_n 0, 1) := by decide +kernel
theorem dJ6_bitCount_0f7a4_43 : decode cJ6_bitCount_0f7a4 43 = .ok (.bipush 16, 2) := by decide +kernel
theorem dJ6_bitCount_0f7a4_45 : decode cJ6_bitCount_0f7a4 45 = .ok (.iushr, 1) := by decide +kernel
theorem dJ6_bitCount_0f7a4_46 : decode cJ6_bitCount_0f7a4 46 = .ok (.iadd, 1) := by decide +kernel
theorem dJ6_bitCount_0f7a4_47 : decode cJ6_bitCount_0f7a4 47 = .ok (.istore_n 0, 1) := by decide +kernel
theorem dJ6_bitCount_0f7a4_48 : decode cJ6_bitCount_0f7a4 48 = .ok (.iload_n 0, 1) := by decide +kernel
theorem dJ6_bitCount_0f7a4_49 : decode cJ6_bitCount_0f7a4 49 = .ok (.bipush 63, 2) := by decide +kernel
theorem dJ6_bitCount_0f7a4_51 : decode cJ6_bitCount_0f7a4 51 = .ok (.iand, 1) := by decide +kernel
theorem dJ6_bitCount_0f7a4_52 : decode cJ6_bitCount_0f7a4 52 = .ok (.ireturn, 1) := by decide +kernel
theorem dJ9_abs_0f7a4_0 : decode cJ9_abs_0f7a4 0 = .ok (.iload_n 0, 1) := by decide +kernel
theorem dJ9_abs_0f7a4_1 : decode cJ9_abs_0f7a4 1 = .ok (.ifCond .ge 8, 3) := by decide +kernel
theorem dJ9_abs_0f7a4_4 : decode cJ9_abs_0f7a4 4 = .ok (.iload_n 0, 1) := by decide +kernel
theorem dJ9_abs_0f7a4_5 : decode cJ9_abs_0f7a4 5 = .ok (.ineg, 1) := by decide +kernel
theorem dJ9_abs_0f7a4_6 : decode cJ9_abs_0f7a4 6 = .ok (.goto 4, 3) := by decide +kernel
theorem dJ9_abs_0f7a4_9 : decode cJ9_abs_0f7a4 9 = .ok (.iload_n 0, 1) := by decide +kernel
theorem dJ9_abs_0f7a4_10 : decode cJ9_abs_0f7a4 10 = .ok (.ireturn, 1) := by decide +kernel
end
section
/-! NUMBERS, and the cells of a row, an anchor, a state -/
theorem iinc_nI (a : Nat) : nI a + Int32.ofInt 1 = nI (a + 1) := nI_1 a
theorem i_lt {a b : Int32} (h : a < b) : a.toInt < b.toInt := Int32.lt_iff_toInt_lt.mp h
theorem i_nlt {a b : Int32} (h : ¬ a < b) : b.toInt ≤ a.toInt := Int.not_lt.mp (fun q => h (Int32.lt_iff_toInt_lt.mpr q))
theorem i_le {a b : Int32} (h : a ≤ b) : a.toInt ≤ b.toInt := Int32.le_iff_toInt_le.mp h
theorem i_nle {a b : Int32} (h : ¬ a ≤ b) : b.toInt < a.toInt := Int.not_le.mp (fun q => h (Int32.le_iff_toInt_le.mpr q))
theorem i_eq {a b : Int32} (h : a = b) : a.toInt = b.toInt := congrArg _ h
theorem i_ne {a b : Int32} (h : ¬ a = b) : a.toInt ≠ b.toInt := fun q => h (Int32.toInt_inj.mp q)
theorem i_inj {a b : Int32} (h : a.toInt = b.toInt) : a = b := Int32.toInt_inj.mp h
theorem t_rng (x : Int32) : -2147483648 ≤ x.toInt ∧ x.toInt < 2147483648 := ⟨Int32.le_toInt x, Int32.toInt_lt x⟩
theorem t_bmod {z : Int} (h1 : -2147483648 ≤ z) (h2 : z < 2147483648) : z.bmod (2 ^ 32) = z := by
  rw [Int.bmod_eq_of_le] <;> omega
theorem t_add {x y : Int32} (h1 : -2147483648 ≤ x.toInt + y.toInt) (h2 : x.toInt + y.toInt < 2147483648) : (x + y).toInt = x.toInt + y.toInt := by
  rw [Int32.toInt_add]; exact t_bmod h1 h2
theorem t_sub {x y : Int32} (h1 : -2147483648 ≤ x.toInt - y.toInt) (h2 : x.toInt - y.toInt < 2147483648) : (x - y).toInt = x.toInt - y.toInt := by
  rw [Int32.toInt_sub]; exact t_bmod h1 h2
theorem t_neg {x : Int32} (h1 : -2147483648 < x.toInt) : (-x).toInt = -x.toInt := by
  rw [Int32.toInt_neg]; exact t_bmod (by have := t_rng x; omega) (by have := t_rng x; omega)
/-- an int from 0 on is nI of its clamp -/
theorem nI_cl {x : Int32} (h : 0 ≤ x.toInt) : x = nI x.toNatClampNeg := by
  apply i_inj
  rw [nI_toInt]
  · show x.toInt = (x.toInt.toNat : Int); omega
  · have := t_rng x; show x.toInt.toNat < 2 ^ 31; omega
theorem cl_toInt {x : Int32} (h : 0 ≤ x.toInt) : (x.toNatClampNeg : Int) = x.toInt := by
  show (x.toInt.toNat : Int) = x.toInt; omega
def bI (c : Bool) : Int32 := if c then 1 else 0
theorem bI_1 {P : Prop} [Decidable P] (h : P) : bI (decide P) = 1 := by simp [bI, h]
theorem bI_0 {P : Prop} [Decidable P] (h : ¬ P) : bI (decide P) = 0 := by simp [bI, h]
theorem bI_f {P : Prop} [Decidable P] (h : bI (decide P) = 0) : ¬ P := fun q => by rw [bI_1 q] at h; exact absurd h (by decide)
theorem bI_t {P : Prop} [Decidable P] (h : ¬ bI (decide P) = 0) : P := Decidable.byContradiction (fun q => h (bI_0 q))
theorem bI_nar (c : Bool) : narrow .boolean (.int (bI c)) = .int (bI c) := by cases c <;> rfl
/-- what stands at a place of a row of n words; -1: none -/
def atF (n : Nat) (W : Nat → Int32) (x : Int32) : Int32 := if 0 ≤ x.toInt ∧ x.toInt < n then W x.toNatClampNeg else -1
def RowAt (cell : Nat → va_E) (adr : Nat → Nat) (kc : Nat → ClassId) (r : Nat) (W T U : Nat → Int32) (n : Nat) : Prop := cell r = .inr (4, [.ref (adr (r + 1)), .ref (adr (r + 2)), .ref (adr (r + 3)), .int (nI n)]) ∧ cell (r + 1) = .inl (kc 0, 40, .inl W) ∧ cell (r + 2) = .inl (kc 0, 40, .inl T) ∧ cell (r + 3) = .inl (kc 0, 40, .inl U) ∧ n ≤ 40
def AncAt (cell : Nat → va_E) (adr : Nat → Nat) (kc : Nat → ClassId) (a : Nat) (p v : Int32) (f : Nat → Int32) : Prop := cell a = .inr (0, [.ref (adr (a + 1)), .int p, .int v]) ∧ cell (a + 1) = .inl (kc 0, 5, .inl f)
def fill (f g : Nat → Int32) (i : Nat) : Nat → Int32 := fun p => if p < i then f p else g p
theorem fill_0 {f g : Nat → Int32} : g = fill f g 0 := by funext p; simp [fill]
theorem fill_upd {f g : Nat → Int32} {i : Nat} {v : Int32} (h : v = f i) : upd (fill f g i) i v = fill f g (i + 1) := by
  funext p
  subst h
  unfold fill upd
  by_cases h1 : p = i
  · subst h1; simp
  · simp only [if_neg h1]
    by_cases h2 : p < i
    · rw [if_pos h2, if_pos (by omega)]
    · rw [if_neg h2, if_neg (by omega)]
theorem fill_in {f g : Nat → Int32} {i p : Nat} (h : p < i) : fill f g i p = f p := if_pos h
theorem fill_out {f g : Nat → Int32} {i p : Nat} (h : i ≤ p) : fill f g i p = g p := if_neg (by omega)
theorem atF_nI {n : Nat} {W : Nat → Int32} {i : Nat} (h : i < n) (hn : n < 2 ^ 31) : atF n W (nI i) = W i := by
  unfold atF
  rw [nI_toInt (by omega), nI_clamp (by omega), if_pos (by omega)]
theorem upd_s {f : Nat → Int32} {i : Nat} {v : Int32} : upd f i v i = v := by simp [upd]
theorem upd_n {f : Nat → Int32} {i j : Nat} {v : Int32} (h : j ≠ i) : upd f i v j = f j := by simp [upd, h]
/-- the words of a row, brought where the targets say -/
def rlF (W T : Nat → Int32) (U : Nat → Int32) : Nat → Nat → Int32
  | 0 => U
  | i + 1 => if 0 ≤ (T i).toInt ∧ (T i).toInt < 40 then upd (rlF W T U i) (T i).toNatClampNeg (W i) else rlF W T U i
theorem rl_keep {W T U : Nat → Int32} {j p : Nat} : ∀ {m : Nat}, p ≤ m → (∀ k, p ≤ k → k < m → 0 ≤ (T k).toInt → (T k).toNatClampNeg ≠ j) → rlF W T U m j = rlF W T U p j := by
  intro m
  induction m with
  | zero => intro h _; rw [show p = 0 by omega]
  | succ m ih =>
    intro h hk
    by_cases e : p = m + 1
    · rw [e]
    · have h1 := ih (by omega) (fun k a b => hk k a (by omega))
      rw [← h1]
      show (if 0 ≤ (T m).toInt ∧ (T m).toInt < 40 then upd (rlF W T U m) (T m).toNatClampNeg (W m) else rlF W T U m) j = _
      by_cases c : 0 ≤ (T m).toInt ∧ (T m).toInt < 40
      · rw [if_pos c, upd_n (fun q => hk m (by omega) (by omega) c.1 q.symm)]
      · rw [if_neg c]
theorem rl_hit {W T U : Nat → Int32} {j p m : Nat} (hp : p < m) (h0 : 0 ≤ (T p).toInt) (h1 : (T p).toInt < 40) (hj : (T p).toNatClampNeg = j) (hk : ∀ k, p < k → k < m → 0 ≤ (T k).toInt → (T k).toNatClampNeg ≠ j) : rlF W T U m j = W p := by
  rw [rl_keep (p := p + 1) (by omega) (fun k a b => hk k (by omega) b)]
  show (if 0 ≤ (T p).toInt ∧ (T p).toInt < 40 then upd (rlF W T U p) (T p).toNatClampNeg (W p) else rlF W T U p) j = _
  rw [if_pos ⟨h0, h1⟩, ← hj, upd_s]
theorem rl_nI {W T U : Nat → Int32} {t : Nat → Nat} {j p m : Nat} (hp : p < m) (hT : ∀ k, p ≤ k → k < m → T k = nI (t k)) (ht : ∀ k, p ≤ k → k < m → t k < 40) (hj : t p = j) (hk : ∀ k, p < k → k < m → t k ≠ j) : rlF W T U m j = W p := by
  have e0 := hT p (Nat.le_refl _) hp
  have l0 := ht p (Nat.le_refl _) hp
  refine rl_hit hp (by rw [e0, nI_toInt (by omega)]; omega) (by rw [e0, nI_toInt (by omega)]; omega) (by rw [e0, nI_clamp (by omega)]; exact hj) (fun k a b c => ?_)
  rw [hT k (by omega) b, nI_clamp (by have := ht k (by omega) b; omega)]
  exact hk k a b
/-- a word put in -/
def insP (q p : Nat) : Nat := if p < q then p else p + 1
def insW (q : Nat) (w : Int32) (W : Nat → Int32) (p : Nat) : Int32 := if p < q then W p else if p = q then w else W (p - 1)
/-- a word taken out -/
def remW (q : Nat) (W : Nat → Int32) (p : Nat) : Int32 := if p < q then W p else W (p + 1)
def remP (q p : Nat) : Int32 := if p < q then nI p else if p = q then -1 else nI (p - 1)
/-- a block moved -/
def pasF (f k t p : Nat) : Nat := if f ≤ p ∧ p < f + k then p - f + t else if (if p < f then p else p - k) < t then (if p < f then p else p - k) else (if p < f then p else p - k) + k
end
section
set_option maxRecDepth 100000 in
set_option maxHeartbeats 4000000 in
theorem c_X4_size (l : Launch) (D : va_G) (kc : Nat → ClassId) (N : Nat) (adr : Nat → Nat) (cell : Nat → va_E) (r : Nat) (W T U : Nat → Int32) (n : Nat)  (hR : RowAt cell adr kc r W T U n) (hN : r + 4 ≤ N) : MI l yX4_size wsX4_size ({ frames := 0, cells := 0, slots := 0, locals := 0 }) D kc N adr cell [.ref (adr r)] (fun (v : Int32) (cell1 : Nat → va_E) => nI n = v ∧ cell = cell1) := by
  refine met_i (cc := cX4_size) (maxL := 1) (ret := (some .int)) (by decide) rfl (Nat.le_of_ble_eq_true rfl) (lv := [(0, .ref (adr r))]) rfl ?_
  intro p e s m args below meth c A C hr hlk hnm
  have in4 : ∀ w ∈ u_ws RX4 TX4 4, w ∈ wsX4_size := by decide +kernel
  have f21 := C.2.2.2.2.1 (.fieldLink RX4 21 "WordAnchors$Row" "size" "I") (by decide +kernel)
  obtain ⟨h0, h1, h2, h3, hn⟩ := hR
  have litm1 : ((-1) : Int32).toInt = -1 := rfl
  have lit0 : (0 : Int32).toInt = 0 := rfl
  have lit1 : (1 : Int32).toInt = 1 := rfl
  have tn_n : (nI n).toInt = ((n : Nat) : Int) := nI_toInt (by omega)
  refine g_aload_n C 0 rfl dX4_size_0 ?_
  refine g_get C r 4 3 (by omega) h0 rfl in4 (by decide) f21 (fun _ h9 => h9) rfl dX4_size_1 ?_
  refine g_iret C hr rfl hlk dX4_size_4 ?_
  exact ⟨by first | rfl | exact bI_1 (by omega) | exact bI_0 (by omega) | exact if_pos (by omega) | exact if_neg (by omega), rfl⟩
set_option maxRecDepth 100000 in
set_option maxHeartbeats 4000000 in
theorem c_X4_isFull (l : Launch) (D : va_G) (kc : Nat → ClassId) (N : Nat) (adr : Nat → Nat) (cell : Nat → va_E) (r : Nat) (W T U : Nat → Int32) (n : Nat)  (hR : RowAt cell adr kc r W T U n) (hN : r + 4 ≤ N) : MI l yX4_isFull wsX4_isFull ({ frames := 0, cells := 0, slots := 0, locals := 0 }) D kc N adr cell [.ref (adr r)] (fun (v : Int32) (cell1 : Nat → va_E) => bI (decide (40 ≤ n)) = v ∧ cell = cell1) := by
  refine met_i (cc := cX4_isFull) (maxL := 1) (ret := (some .boolean)) (by decide) rfl (Nat.le_of_ble_eq_true rfl) (lv := [(0, .ref (adr r))]) rfl ?_
  intro p e s m args below meth c A C hr hlk hnm
  have in4 : ∀ w ∈ u_ws RX4 TX4 4, w ∈ wsX4_isFull := by decide +kernel
  have f21 := C.2.2.2.2.1 (.fieldLink RX4 21 "WordAnchors$Row" "size" "I") (by decide +kernel)
  have f9 := C.2.2.2.2.1 (.fieldLink RX4 9 "WordAnchors$Row" "words" "[I") (by decide +kernel)
  obtain ⟨h0, h1, h2, h3, hn⟩ := hR
  have litm1 : ((-1) : Int32).toInt = -1 := rfl
  have lit0 : (0 : Int32).toInt = 0 := rfl
  have lit1 : (1 : Int32).toInt = 1 := rfl
  have lit40 : (40 : Int32).toInt = 40 := rfl
  have tn_n : (nI n).toInt = ((n : Nat) : Int) := nI_toInt (by omega)
  refine g_aload_n C 0 rfl dX4_isFull_0 ?_
  refine g_get C r 4 3 (by omega) h0 rfl in4 (by decide) f21 (fun _ h9 => h9) rfl dX4_isFull_1 ?_
  refine g_aload_n C 0 rfl dX4_isFull_4 ?_
  refine g_get C r 4 0 (by omega) h0 rfl in4 (by decide) f9 (fun _ h9 => h9) rfl dX4_isFull_5 ?_
  refine g_alen C (r + 1) 0 (by omega) h1 rfl 40 rfl dX4_isFull_8 ?_
  refine g_icmp_lt C 16 (by decide) dX4_isFull_9 (fun c9 => ?_) (fun c9 => ?_)
  · -- taken at 9
    have c9' := i_lt c9
    refine g_iconst C 0 (by decide) dX4_isFull_16 ?_
    refine g_iret C hr rfl hlk dX4_isFull_17 ?_
    exact ⟨by first | rfl | exact bI_1 (by omega) | exact bI_0 (by omega) | exact if_pos (by omega) | exact if_neg (by omega), rfl⟩
  · -- not taken at 9
    have c9' := i_nlt c9
    refine g_iconst C 1 (by decide) dX4_isFull_12 ?_
    refine g_goto C 17 (by decide) dX4_isFull_13 ?_
    refine g_iret C hr rfl hlk dX4_isFull_17 ?_
    exact ⟨by first | rfl | exact bI_1 (by omega) | exact bI_0 (by omega) | exact if_pos (by omega) | exact if_neg (by omega), rfl⟩
set_option maxRecDepth 100000 in
set_option maxHeartbeats 4000000 in
theorem c_X4_holds (l : Launch) (D : va_G) (kc : Nat → ClassId) (N : Nat) (adr : Nat → Nat) (cell : Nat → va_E) (r : Nat) (W T U : Nat → Int32) (n : Nat) (x : Int32) (hR : RowAt cell adr kc r W T U n) (hN : r + 4 ≤ N) : MI l yX4_holds wsX4_holds ({ frames := 0, cells := 0, slots := 0, locals := 0 }) D kc N adr cell [.ref (adr r), .int x] (fun (v : Int32) (cell1 : Nat → va_E) => bI (decide (0 ≤ x.toInt ∧ x.toInt < n)) = v ∧ cell = cell1) := by
  refine met_i (cc := cX4_holds) (maxL := 2) (ret := (some .boolean)) (by decide) rfl (Nat.le_of_ble_eq_true rfl) (lv := [(0, .ref (adr r)), (1, .int x)]) rfl ?_
  intro p e s m args below meth c A C hr hlk hnm
  have in4 : ∀ w ∈ u_ws RX4 TX4 4, w ∈ wsX4_holds := by decide +kernel
  have f21 := C.2.2.2.2.1 (.fieldLink RX4 21 "WordAnchors$Row" "size" "I") (by decide +kernel)
  have f9 := C.2.2.2.2.1 (.fieldLink RX4 9 "WordAnchors$Row" "words" "[I") (by decide +kernel)
  obtain ⟨h0, h1, h2, h3, hn⟩ := hR
  have litm1 : ((-1) : Int32).toInt = -1 := rfl
  have lit0 : (0 : Int32).toInt = 0 := rfl
  have lit1 : (1 : Int32).toInt = 1 := rfl
  have lit40 : (40 : Int32).toInt = 40 := rfl
  have tn_n : (nI n).toInt = ((n : Nat) : Int) := nI_toInt (by omega)
  refine g_iload_n C 1 rfl dX4_holds_0 ?_
  refine g_if_lt C 25 (by decide) dX4_holds_1 (fun c1 => ?_) (fun c1 => ?_)
  · -- taken at 1
    have c1' := i_lt c1
    refine g_iconst C 0 (by decide) dX4_holds_25 ?_
    refine g_iret C hr rfl hlk dX4_holds_26 ?_
    exact ⟨by first | rfl | exact bI_1 (by omega) | exact bI_0 (by omega) | exact if_pos (by omega) | exact if_neg (by omega), rfl⟩
  · -- not taken at 1
    have c1' := i_nlt c1
    refine g_iload_n C 1 rfl dX4_holds_4 ?_
    refine g_aload_n C 0 rfl dX4_holds_5 ?_
    refine g_get C r 4 3 (by omega) h0 rfl in4 (by decide) f21 (fun _ h9 => h9) rfl dX4_holds_6 ?_
    refine g_icmp_ge C 25 (by decide) dX4_holds_9 (fun c9 => ?_) (fun c9 => ?_)
    · -- taken at 9
      have c9' := i_le c9
      refine g_iconst C 0 (by decide) dX4_holds_25 ?_
      refine g_iret C hr rfl hlk dX4_holds_26 ?_
      exact ⟨by first | rfl | exact bI_1 (by omega) | exact bI_0 (by omega) | exact if_pos (by omega) | exact if_neg (by omega), rfl⟩
    · -- not taken at 9
      have c9' := i_nle c9
      refine g_iload_n C 1 rfl dX4_holds_12 ?_
      refine g_aload_n C 0 rfl dX4_holds_13 ?_
      refine g_get C r 4 0 (by omega) h0 rfl in4 (by decide) f9 (fun _ h9 => h9) rfl dX4_holds_14 ?_
      refine g_alen C (r + 1) 0 (by omega) h1 rfl 40 rfl dX4_holds_17 ?_
      refine g_icmp_ge C 25 (by decide) dX4_holds_18 (fun c18 => ?_) (fun c18 => ?_)
      · -- taken at 18
        have c18' := i_le c18
        refine g_iconst C 0 (by decide) dX4_holds_25 ?_
        refine g_iret C hr rfl hlk dX4_holds_26 ?_
        exact ⟨by first | rfl | exact bI_1 (by omega) | exact bI_0 (by omega) | exact if_pos (by omega) | exact if_neg (by omega), rfl⟩
      · -- not taken at 18
        have c18' := i_nle c18
        refine g_iconst C 1 (by decide) dX4_holds_21 ?_
        refine g_goto C 26 (by decide) dX4_holds_22 ?_
        refine g_iret C hr rfl hlk dX4_holds_26 ?_
        exact ⟨by first | rfl | exact bI_1 (by omega) | exact bI_0 (by omega) | exact if_pos (by omega) | exact if_neg (by omega), rfl⟩
set_option maxRecDepth 100000 in
set_option maxHeartbeats 4000000 in
theorem c_X4_takesAt (l : Launch) (D : va_G) (kc : Nat → ClassId) (N : Nat) (adr : Nat → Nat) (cell : Nat → va_E) (r : Nat) (W T U : Nat → Int32) (n : Nat) (x : Int32) (hR : RowAt cell adr kc r W T U n) (hN : r + 4 ≤ N) : MI l yX4_takesAt wsX4_takesAt ({ frames := 0, cells := 0, slots := 0, locals := 0 }) D kc N adr cell [.ref (adr r), .int x] (fun (v : Int32) (cell1 : Nat → va_E) => bI (decide (0 ≤ x.toInt ∧ x.toInt ≤ n)) = v ∧ cell = cell1) := by
  refine met_i (cc := cX4_takesAt) (maxL := 2) (ret := (some .boolean)) (by decide) rfl (Nat.le_of_ble_eq_true rfl) (lv := [(0, .ref (adr r)), (1, .int x)]) rfl ?_
  intro p e s m args below meth c A C hr hlk hnm
  have in4 : ∀ w ∈ u_ws RX4 TX4 4, w ∈ wsX4_takesAt := by decide +kernel
  have f21 := C.2.2.2.2.1 (.fieldLink RX4 21 "WordAnchors$Row" "size" "I") (by decide +kernel)
  obtain ⟨h0, h1, h2, h3, hn⟩ := hR
  have litm1 : ((-1) : Int32).toInt = -1 := rfl
  have lit0 : (0 : Int32).toInt = 0 := rfl
  have lit1 : (1 : Int32).toInt = 1 := rfl
  have tn_n : (nI n).toInt = ((n : Nat) : Int) := nI_toInt (by omega)
  refine g_iload_n C 1 rfl dX4_takesAt_0 ?_
  refine g_if_lt C 16 (by decide) dX4_takesAt_1 (fun c1 => ?_) (fun c1 => ?_)
  · -- taken at 1
    have c1' := i_lt c1
    refine g_iconst C 0 (by decide) dX4_takesAt_16 ?_
    refine g_iret C hr rfl hlk dX4_takesAt_17 ?_
    exact ⟨by first | rfl | exact bI_1 (by omega) | exact bI_0 (by omega) | exact if_pos (by omega) | exact if_neg (by omega), rfl⟩
  · -- not taken at 1
    have c1' := i_nlt c1
    refine g_iload_n C 1 rfl dX4_takesAt_4 ?_
    refine g_aload_n C 0 rfl dX4_takesAt_5 ?_
    refine g_get C r 4 3 (by omega) h0 rfl in4 (by decide) f21 (fun _ h9 => h9) rfl dX4_takesAt_6 ?_
    refine g_icmp_gt C 16 (by decide) dX4_takesAt_9 (fun c9 => ?_) (fun c9 => ?_)
    · -- taken at 9
      have c9' := i_lt c9
      refine g_iconst C 0 (by decide) dX4_takesAt_16 ?_
      refine g_iret C hr rfl hlk dX4_takesAt_17 ?_
      exact ⟨by first | rfl | exact bI_1 (by omega) | exact bI_0 (by omega) | exact if_pos (by omega) | exact if_neg (by omega), rfl⟩
    · -- not taken at 9
      have c9' := i_nlt c9
      refine g_iconst C 1 (by decide) dX4_takesAt_12 ?_
      refine g_goto C 17 (by decide) dX4_takesAt_13 ?_
      refine g_iret C hr rfl hlk dX4_takesAt_17 ?_
      exact ⟨by first | rfl | exact bI_1 (by omega) | exact bI_0 (by omega) | exact if_pos (by omega) | exact if_neg (by omega), rfl⟩
set_option maxRecDepth 100000 in
set_option maxHeartbeats 4000000 in
theorem c_X4_at (l : Launch) (D : va_G) (kc : Nat → ClassId) (N : Nat) (adr : Nat → Nat) (cell : Nat → va_E) (r : Nat) (W T U : Nat → Int32) (n : Nat) (x : Int32) (hR : RowAt cell adr kc r W T U n) (hN : r + 4 ≤ N) : MI l yX4_at wsX4_at ({ frames := 0, cells := 0, slots := 0, locals := 0 }) D kc N adr cell [.ref (adr r), .int x] (fun (v : Int32) (cell1 : Nat → va_E) => atF n W x = v ∧ cell = cell1) := by
  refine met_i (cc := cX4_at) (maxL := 2) (ret := (some .int)) (by decide) rfl (Nat.le_of_ble_eq_true rfl) (lv := [(0, .ref (adr r)), (1, .int x)]) rfl ?_
  intro p e s m args below meth c A C hr hlk hnm
  have in4 : ∀ w ∈ u_ws RX4 TX4 4, w ∈ wsX4_at := by decide +kernel
  have f21 := C.2.2.2.2.1 (.fieldLink RX4 21 "WordAnchors$Row" "size" "I") (by decide +kernel)
  have f9 := C.2.2.2.2.1 (.fieldLink RX4 9 "WordAnchors$Row" "words" "[I") (by decide +kernel)
  obtain ⟨h0, h1, h2, h3, hn⟩ := hR
  have litm1 : ((-1) : Int32).toInt = -1 := rfl
  have lit0 : (0 : Int32).toInt = 0 := rfl
  have lit1 : (1 : Int32).toInt = 1 := rfl
  have lit40 : (40 : Int32).toInt = 40 := rfl
  have tn_n : (nI n).toInt = ((n : Nat) : Int) := nI_toInt (by omega)
  refine g_iload_n C 1 rfl dX4_at_0 ?_
  refine g_if_lt C 30 (by decide) dX4_at_1 (fun c1 => ?_) (fun c1 => ?_)
  · -- taken at 1
    have c1' := i_lt c1
    refine g_iconst C (-1) (by decide) dX4_at_30 ?_
    refine g_iret C hr rfl hlk dX4_at_31 ?_
    exact ⟨by first | rfl | exact bI_1 (by omega) | exact bI_0 (by omega) | exact if_pos (by omega) | exact if_neg (by omega), rfl⟩
  · -- not taken at 1
    have c1' := i_nlt c1
    refine g_iload_n C 1 rfl dX4_at_4 ?_
    refine g_aload_n C 0 rfl dX4_at_5 ?_
    refine g_get C r 4 3 (by omega) h0 rfl in4 (by decide) f21 (fun _ h9 => h9) rfl dX4_at_6 ?_
    refine g_icmp_ge C 30 (by decide) dX4_at_9 (fun c9 => ?_) (fun c9 => ?_)
    · -- taken at 9
      have c9' := i_le c9
      refine g_iconst C (-1) (by decide) dX4_at_30 ?_
      refine g_iret C hr rfl hlk dX4_at_31 ?_
      exact ⟨by first | rfl | exact bI_1 (by omega) | exact bI_0 (by omega) | exact if_pos (by omega) | exact if_neg (by omega), rfl⟩
    · -- not taken at 9
      have c9' := i_nle c9
      refine g_iload_n C 1 rfl dX4_at_12 ?_
      refine g_aload_n C 0 rfl dX4_at_13 ?_
      refine g_get C r 4 0 (by omega) h0 rfl in4 (by decide) f9 (fun _ h9 => h9) rfl dX4_at_14 ?_
      refine g_alen C (r + 1) 0 (by omega) h1 rfl 40 rfl dX4_at_17 ?_
      refine g_icmp_ge C 30 (by decide) dX4_at_18 (fun c18 => ?_) (fun c18 => ?_)
      · -- taken at 18
        have c18' := i_le c18
        refine g_iconst C (-1) (by decide) dX4_at_30 ?_
        refine g_iret C hr rfl hlk dX4_at_31 ?_
        exact ⟨by first | rfl | exact bI_1 (by omega) | exact bI_0 (by omega) | exact if_pos (by omega) | exact if_neg (by omega), rfl⟩
      · -- not taken at 18
        have c18' := i_nle c18
        refine g_aload_n C 0 rfl dX4_at_21 ?_
        refine g_get C r 4 0 (by omega) h0 rfl in4 (by decide) f9 (fun _ h9 => h9) rfl dX4_at_22 ?_
        refine g_iload_n C 1 rfl dX4_at_25 ?_
        refine g_iald C (r + 1) (by omega) h1 (vp_in_iff.mpr (by omega)) dX4_at_26 ?_
        refine g_goto C 31 (by decide) dX4_at_27 ?_
        refine g_iret C hr rfl hlk dX4_at_31 ?_
        exact ⟨by first | rfl | exact bI_1 (by omega) | exact bI_0 (by omega) | exact if_pos (by omega) | exact if_neg (by omega), rfl⟩
set_option maxRecDepth 100000 in
set_option maxHeartbeats 4000000 in
theorem c_X4_targetOf (l : Launch) (D : va_G) (kc : Nat → ClassId) (N : Nat) (adr : Nat → Nat) (cell : Nat → va_E) (r : Nat) (W T U : Nat → Int32) (n : Nat) (x : Int32) (hR : RowAt cell adr kc r W T U n) (hN : r + 4 ≤ N) : MI l yX4_targetOf wsX4_targetOf ({ frames := 0, cells := 0, slots := 0, locals := 0 }) D kc N adr cell [.ref (adr r), .int x] (fun (v : Int32) (cell1 : Nat → va_E) => atF 40 T x = v ∧ cell = cell1) := by
  refine met_i (cc := cX4_targetOf) (maxL := 2) (ret := (some .int)) (by decide) rfl (Nat.le_of_ble_eq_true rfl) (lv := [(0, .ref (adr r)), (1, .int x)]) rfl ?_
  intro p e s m args below meth c A C hr hlk hnm
  have in4 : ∀ w ∈ u_ws RX4 TX4 4, w ∈ wsX4_targetOf := by decide +kernel
  have f15 := C.2.2.2.2.1 (.fieldLink RX4 15 "WordAnchors$Row" "targets" "[I") (by decide +kernel)
  obtain ⟨h0, h1, h2, h3, hn⟩ := hR
  have litm1 : ((-1) : Int32).toInt = -1 := rfl
  have lit0 : (0 : Int32).toInt = 0 := rfl
  have lit1 : (1 : Int32).toInt = 1 := rfl
  have lit40 : (40 : Int32).toInt = 40 := rfl
  have tn_n : (nI n).toInt = ((n : Nat) : Int) := nI_toInt (by omega)
  refine g_iload_n C 1 rfl dX4_targetOf_0 ?_
  refine g_if_lt C 22 (by decide) dX4_targetOf_1 (fun c1 => ?_) (fun c1 => ?_)
  · -- taken at 1
    have c1' := i_lt c1
    refine g_iconst C (-1) (by decide) dX4_targetOf_22 ?_
    refine g_iret C hr rfl hlk dX4_targetOf_23 ?_
    exact ⟨by first | rfl | exact bI_1 (by omega) | exact bI_0 (by omega) | exact if_pos (by omega) | exact if_neg (by omega), rfl⟩
  · -- not taken at 1
    have c1' := i_nlt c1
    refine g_iload_n C 1 rfl dX4_targetOf_4 ?_
    refine g_aload_n C 0 rfl dX4_targetOf_5 ?_
    refine g_get C r 4 1 (by omega) h0 rfl in4 (by decide) f15 (fun _ h9 => h9) rfl dX4_targetOf_6 ?_
    refine g_alen C (r + 2) 0 (by omega) h2 rfl 40 rfl dX4_targetOf_9 ?_
    refine g_icmp_ge C 22 (by decide) dX4_targetOf_10 (fun c10 => ?_) (fun c10 => ?_)
    · -- taken at 10
      have c10' := i_le c10
      refine g_iconst C (-1) (by decide) dX4_targetOf_22 ?_
      refine g_iret C hr rfl hlk dX4_targetOf_23 ?_
      exact ⟨by first | rfl | exact bI_1 (by omega) | exact bI_0 (by omega) | exact if_pos (by omega) | exact if_neg (by omega), rfl⟩
    · -- not taken at 10
      have c10' := i_nle c10
      refine g_aload_n C 0 rfl dX4_targetOf_13 ?_
      refine g_get C r 4 1 (by omega) h0 rfl in4 (by decide) f15 (fun _ h9 => h9) rfl dX4_targetOf_14 ?_
      refine g_iload_n C 1 rfl dX4_targetOf_17 ?_
      refine g_iald C (r + 2) (by omega) h2 (vp_in_iff.mpr (by omega)) dX4_targetOf_18 ?_
      refine g_goto C 23 (by decide) dX4_targetOf_19 ?_
      refine g_iret C hr rfl hlk dX4_targetOf_23 ?_
      exact ⟨by first | rfl | exact bI_1 (by omega) | exact bI_0 (by omega) | exact if_pos (by omega) | exact if_neg (by omega), rfl⟩
set_option maxRecDepth 100000 in
set_option maxHeartbeats 4000000 in
theorem c_X4_canShift (l : Launch) (D : va_G) (kc : Nat → ClassId) (N : Nat) (adr : Nat → Nat) (cell : Nat → va_E) (r : Nat) (W T U : Nat → Int32) (n : Nat) (f : Int32) (k : Int32) (t : Int32) (hR : RowAt cell adr kc r W T U n) (hN : r + 4 ≤ N) : MI l yX4_canShift wsX4_canShift ({ frames := 1, cells := 0, slots := 0, locals := 21 }) D kc N adr cell [.ref (adr r), .int f, .int k, .int t] (fun (v : Int32) (cell1 : Nat → va_E) => bI (decide (0 ≤ f.toInt ∧ f.toInt < n ∧ 1 ≤ k.toInt ∧ k.toInt ≤ n - f.toInt ∧ 0 ≤ t.toInt ∧ t.toInt ≤ n - k.toInt)) = v ∧ cell = cell1) := by
  refine met_i (cc := cX4_canShift) (maxL := 4) (ret := (some .boolean)) (by decide) rfl (Nat.le_of_ble_eq_true rfl) (lv := [(0, .ref (adr r)), (1, .int f), (2, .int k), (3, .int t)]) rfl ?_
  intro p e s m args below meth c A C hr hlk hnm
  have in4 : ∀ w ∈ u_ws RX4 TX4 4, w ∈ wsX4_canShift := by decide +kernel
  have f21 := C.2.2.2.2.1 (.fieldLink RX4 21 "WordAnchors$Row" "size" "I") (by decide +kernel)
  obtain ⟨h0, h1, h2, h3, hn⟩ := hR
  have litm1 : ((-1) : Int32).toInt = -1 := rfl
  have lit0 : (0 : Int32).toInt = 0 := rfl
  have lit1 : (1 : Int32).toInt = 1 := rfl
  have tn_n : (nI n).toInt = ((n : Nat) : Int) := nI_toInt (by omega)
  refine g_aload_n C 0 rfl dX4_canShift_0 ?_
  refine g_iload_n C 1 rfl dX4_canShift_1 ?_
  refine g_Vi C [.int f] r 4 (by omega) h0 rfl (c_X4_holds l D kc N adr cell r W T U n f ⟨h0, h1, h2, h3, by omega⟩ (by omega)) (cwV 1 C.2.2.2.2.1 gX4_canShift_X4_holds rfl rfl rfl (by decide +kernel) ⟨Nat.le_of_ble_eq_true rfl, Nat.le_of_ble_eq_true rfl⟩) rfl rfl (Nat.le_of_ble_eq_true rfl) (Nat.zero_le _) (Nat.zero_le _) dX4_canShift_2 (fun v1 cell1 q1 => ?_)
  obtain ⟨rfl, rfl⟩ := q1
  refine g_if_eq C 41 (by decide) dX4_canShift_5 (fun c5 => ?_) (fun c5 => ?_)
  · -- taken at 5
    have c5' := bI_f c5
    refine g_iconst C 0 (by decide) dX4_canShift_41 ?_
    refine g_iret C hr rfl hlk dX4_canShift_42 ?_
    exact ⟨by first | rfl | exact bI_1 (by omega) | exact bI_0 (by omega) | exact if_pos (by omega) | exact if_neg (by omega), rfl⟩
  · -- not taken at 5
    have c5' := bI_t c5
    refine g_iload_n C 2 rfl dX4_canShift_8 ?_
    refine g_iconst C 1 (by decide) dX4_canShift_9 ?_
    refine g_icmp_lt C 41 (by decide) dX4_canShift_10 (fun c10 => ?_) (fun c10 => ?_)
    · -- taken at 10
      have c10' := i_lt c10
      refine g_iconst C 0 (by decide) dX4_canShift_41 ?_
      refine g_iret C hr rfl hlk dX4_canShift_42 ?_
      exact ⟨by first | rfl | exact bI_1 (by omega) | exact bI_0 (by omega) | exact if_pos (by omega) | exact if_neg (by omega), rfl⟩
    · -- not taken at 10
      have c10' := i_nlt c10
      refine g_iload_n C 2 rfl dX4_canShift_13 ?_
      refine g_aload_n C 0 rfl dX4_canShift_14 ?_
      refine g_get C r 4 3 (by omega) h0 rfl in4 (by decide) f21 (fun _ h9 => h9) rfl dX4_canShift_15 ?_
      refine g_iload_n C 1 rfl dX4_canShift_18 ?_
      refine g_isub C dX4_canShift_19 ?_
      have ta2 : ((nI n) - f).toInt = (nI n).toInt - f.toInt := t_sub (by omega) (by omega)
      refine g_icmp_gt C 41 (by decide) dX4_canShift_20 (fun c20 => ?_) (fun c20 => ?_)
      · -- taken at 20
        have c20' := i_lt c20
        refine g_iconst C 0 (by decide) dX4_canShift_41 ?_
        refine g_iret C hr rfl hlk dX4_canShift_42 ?_
        exact ⟨by first | rfl | exact bI_1 (by omega) | exact bI_0 (by omega) | exact if_pos (by omega) | exact if_neg (by omega), rfl⟩
      · -- not taken at 20
        have c20' := i_nlt c20
        refine g_iload_n C 3 rfl dX4_canShift_23 ?_
        refine g_if_lt C 41 (by decide) dX4_canShift_24 (fun c24 => ?_) (fun c24 => ?_)
        · -- taken at 24
          have c24' := i_lt c24
          refine g_iconst C 0 (by decide) dX4_canShift_41 ?_
          refine g_iret C hr rfl hlk dX4_canShift_42 ?_
          exact ⟨by first | rfl | exact bI_1 (by omega) | exact bI_0 (by omega) | exact if_pos (by omega) | exact if_neg (by omega), rfl⟩
        · -- not taken at 24
          have c24' := i_nlt c24
          refine g_iload_n C 3 rfl dX4_canShift_27 ?_
          refine g_aload_n C 0 rfl dX4_canShift_28 ?_
          refine g_get C r 4 3 (by omega) h0 rfl in4 (by decide) f21 (fun _ h9 => h9) rfl dX4_canShift_29 ?_
          refine g_iload_n C 2 rfl dX4_canShift_32 ?_
          refine g_isub C dX4_canShift_33 ?_
          have ta3 : ((nI n) - k).toInt = (nI n).toInt - k.toInt := t_sub (by omega) (by omega)
          refine g_icmp_gt C 41 (by decide) dX4_canShift_34 (fun c34 => ?_) (fun c34 => ?_)
          · -- taken at 34
            have c34' := i_lt c34
            refine g_iconst C 0 (by decide) dX4_canShift_41 ?_
            refine g_iret C hr rfl hlk dX4_canShift_42 ?_
            exact ⟨by first | rfl | exact bI_1 (by omega) | exact bI_0 (by omega) | exact if_pos (by omega) | exact if_neg (by omega), rfl⟩
          · -- not taken at 34
            have c34' := i_nlt c34
            refine g_iconst C 1 (by decide) dX4_canShift_37 ?_
            refine g_goto C 42 (by decide) dX4_canShift_38 ?_
            refine g_iret C hr rfl hlk dX4_canShift_42 ?_
            exact ⟨by first | rfl | exact bI_1 (by omega) | exact bI_0 (by omega) | exact if_pos (by omega) | exact if_neg (by omega), rfl⟩
set_option maxRecDepth 100000 in
set_option maxHeartbeats 4000000 in
theorem c_X4_placeAfterShift (l : Launch) (D : va_G) (kc : Nat → ClassId) (N : Nat) (adr : Nat → Nat) (cell : Nat → va_E) (f k t q : Nat) (hb : q < 40 ∧ f + k ≤ 40 ∧ t + k ≤ 40) : MI l yX4_placeAfterShift wsX4_placeAfterShift ({ frames := 0, cells := 0, slots := 0, locals := 0 }) D kc N adr cell [.int (nI q), .int (nI f), .int (nI k), .int (nI t)] (fun (v : Int32) (cell1 : Nat → va_E) => nI (pasF f k t q) = v ∧ cell = cell1) := by
  refine met_i (cc := cX4_placeAfterShift) (maxL := 5) (ret := (some .int)) (by decide) rfl (Nat.le_of_ble_eq_true rfl) (lv := [(0, .int (nI q)), (1, .int (nI f)), (2, .int (nI k)), (3, .int (nI t))]) rfl ?_
  intro p e s m args below meth c A C hr hlk hnm
  obtain ⟨hb1, hb2, hb3⟩ := hb
  have litm1 : ((-1) : Int32).toInt = -1 := rfl
  have lit0 : (0 : Int32).toInt = 0 := rfl
  have lit1 : (1 : Int32).toInt = 1 := rfl
  have tn_q : (nI q).toInt = ((q : Nat) : Int) := nI_toInt (by omega)
  have tn_f : (nI f).toInt = ((f : Nat) : Int) := nI_toInt (by omega)
  have tn_k : (nI k).toInt = ((k : Nat) : Int) := nI_toInt (by omega)
  have tn_t : (nI t).toInt = ((t : Nat) : Int) := nI_toInt (by omega)
  refine g_iload_n C 0 rfl dX4_placeAfterShift_0 ?_
  refine g_iload_n C 1 rfl dX4_placeAfterShift_1 ?_
  refine g_icmp_lt C 18 (by decide) dX4_placeAfterShift_2 (fun c2 => ?_) (fun c2 => ?_)
  · -- taken at 2
    have c2' := i_lt c2
    refine g_iload_n C 0 rfl dX4_placeAfterShift_18 ?_
    refine g_iload_n C 1 rfl dX4_placeAfterShift_19 ?_
    refine g_icmp_ge C 27 (by decide) dX4_placeAfterShift_20 (fun c20 => ?_) (fun c20 => ?_)
    · -- taken at 20
      have c20' := i_le c20
      refine g_iload_n C 0 rfl dX4_placeAfterShift_27 ?_
      refine g_iload_n C 2 rfl dX4_placeAfterShift_28 ?_
      refine g_isub C dX4_placeAfterShift_29 ?_
      have ta1 : ((nI q) - (nI k)).toInt = (nI q).toInt - (nI k).toInt := t_sub (by omega) (by omega)
      refine g_istore C [(4, .int ((nI q) - (nI k))), (0, .int (nI q)), (1, .int (nI f)), (2, .int (nI k)), (3, .int (nI t))] (by decide) rfl dX4_placeAfterShift_30 ?_
      refine g_iload C 0 rfl dX4_placeAfterShift_32 ?_
      refine g_iload_n C 4 rfl dX4_placeAfterShift_34 ?_
      refine g_icmp_ge C 43 (by decide) dX4_placeAfterShift_35 (fun c35 => ?_) (fun c35 => ?_)
      · -- taken at 35
        have c35' := i_le c35
        refine g_iload C 0 rfl dX4_placeAfterShift_43 ?_
        refine g_iload_n C 3 rfl dX4_placeAfterShift_45 ?_
        refine g_iadd C dX4_placeAfterShift_46 ?_
        have ta2 : (((nI q) - (nI k)) + (nI k)).toInt = ((nI q) - (nI k)).toInt + (nI k).toInt := t_add (by omega) (by omega)
        refine g_iret C hr rfl hlk dX4_placeAfterShift_47 ?_
        have hp : pasF f k t q < 40 := by unfold pasF; (repeat' split) <;> omega
        exact ⟨i_inj (by rw [nI_toInt (n := pasF f k t q) (by omega)]; unfold pasF; (repeat' split) <;> omega), rfl⟩
      · -- not taken at 35
        have c35' := i_nle c35
        refine g_iload C 0 rfl dX4_placeAfterShift_38 ?_
        refine g_goto C 47 (by decide) dX4_placeAfterShift_40 ?_
        refine g_iret C hr rfl hlk dX4_placeAfterShift_47 ?_
        have hp : pasF f k t q < 40 := by unfold pasF; (repeat' split) <;> omega
        exact ⟨i_inj (by rw [nI_toInt (n := pasF f k t q) (by omega)]; unfold pasF; (repeat' split) <;> omega), rfl⟩
    · -- not taken at 20
      have c20' := i_nle c20
      refine g_iload_n C 0 rfl dX4_placeAfterShift_23 ?_
      refine g_goto C 30 (by decide) dX4_placeAfterShift_24 ?_
      refine g_istore C [(4, .int (nI q)), (0, .int (nI q)), (1, .int (nI f)), (2, .int (nI k)), (3, .int (nI t))] (by decide) rfl dX4_placeAfterShift_30 ?_
      refine g_iload C 0 rfl dX4_placeAfterShift_32 ?_
      refine g_iload_n C 4 rfl dX4_placeAfterShift_34 ?_
      refine g_icmp_ge C 43 (by decide) dX4_placeAfterShift_35 (fun c35 => ?_) (fun c35 => ?_)
      · -- taken at 35
        have c35' := i_le c35
        refine g_iload C 0 rfl dX4_placeAfterShift_43 ?_
        refine g_iload_n C 3 rfl dX4_placeAfterShift_45 ?_
        refine g_iadd C dX4_placeAfterShift_46 ?_
        have ta3 : ((nI q) + (nI k)).toInt = (nI q).toInt + (nI k).toInt := t_add (by omega) (by omega)
        refine g_iret C hr rfl hlk dX4_placeAfterShift_47 ?_
        have hp : pasF f k t q < 40 := by unfold pasF; (repeat' split) <;> omega
        exact ⟨i_inj (by rw [nI_toInt (n := pasF f k t q) (by omega)]; unfold pasF; (repeat' split) <;> omega), rfl⟩
      · -- not taken at 35
        have c35' := i_nle c35
        refine g_iload C 0 rfl dX4_placeAfterShift_38 ?_
        refine g_goto C 47 (by decide) dX4_placeAfterShift_40 ?_
        refine g_iret C hr rfl hlk dX4_placeAfterShift_47 ?_
        have hp : pasF f k t q < 40 := by unfold pasF; (repeat' split) <;> omega
        exact ⟨i_inj (by rw [nI_toInt (n := pasF f k t q) (by omega)]; unfold pasF; (repeat' split) <;> omega), rfl⟩
  · -- not taken at 2
    have c2' := i_nlt c2
    refine g_iload_n C 0 rfl dX4_placeAfterShift_5 ?_
    refine g_iload_n C 1 rfl dX4_placeAfterShift_6 ?_
    refine g_iload_n C 2 rfl dX4_placeAfterShift_7 ?_
    refine g_iadd C dX4_placeAfterShift_8 ?_
    have ta4 : ((nI f) + (nI k)).toInt = (nI f).toInt + (nI k).toInt := t_add (by omega) (by omega)
    refine g_icmp_ge C 18 (by decide) dX4_placeAfterShift_9 (fun c9 => ?_) (fun c9 => ?_)
    · -- taken at 9
      have c9' := i_le c9
      refine g_iload_n C 0 rfl dX4_placeAfterShift_18 ?_
      refine g_iload_n C 1 rfl dX4_placeAfterShift_19 ?_
      refine g_icmp_ge C 27 (by decide) dX4_placeAfterShift_20 (fun c20 => ?_) (fun c20 => ?_)
      · -- taken at 20
        have c20' := i_le c20
        refine g_iload_n C 0 rfl dX4_placeAfterShift_27 ?_
        refine g_iload_n C 2 rfl dX4_placeAfterShift_28 ?_
        refine g_isub C dX4_placeAfterShift_29 ?_
        have ta5 : ((nI q) - (nI k)).toInt = (nI q).toInt - (nI k).toInt := t_sub (by omega) (by omega)
        refine g_istore C [(4, .int ((nI q) - (nI k))), (0, .int (nI q)), (1, .int (nI f)), (2, .int (nI k)), (3, .int (nI t))] (by decide) rfl dX4_placeAfterShift_30 ?_
        refine g_iload C 0 rfl dX4_placeAfterShift_32 ?_
        refine g_iload_n C 4 rfl dX4_placeAfterShift_34 ?_
        refine g_icmp_ge C 43 (by decide) dX4_placeAfterShift_35 (fun c35 => ?_) (fun c35 => ?_)
        · -- taken at 35
          have c35' := i_le c35
          refine g_iload C 0 rfl dX4_placeAfterShift_43 ?_
          refine g_iload_n C 3 rfl dX4_placeAfterShift_45 ?_
          refine g_iadd C dX4_placeAfterShift_46 ?_
          have ta6 : (((nI q) - (nI k)) + (nI k)).toInt = ((nI q) - (nI k)).toInt + (nI k).toInt := t_add (by omega) (by omega)
          refine g_iret C hr rfl hlk dX4_placeAfterShift_47 ?_
          have hp : pasF f k t q < 40 := by unfold pasF; (repeat' split) <;> omega
          exact ⟨i_inj (by rw [nI_toInt (n := pasF f k t q) (by omega)]; unfold pasF; (repeat' split) <;> omega), rfl⟩
        · -- not taken at 35
          have c35' := i_nle c35
          refine g_iload C 0 rfl dX4_placeAfterShift_38 ?_
          refine g_goto C 47 (by decide) dX4_placeAfterShift_40 ?_
          refine g_iret C hr rfl hlk dX4_placeAfterShift_47 ?_
          have hp : pasF f k t q < 40 := by unfold pasF; (repeat' split) <;> omega
          exact ⟨i_inj (by rw [nI_toInt (n := pasF f k t q) (by omega)]; unfold pasF; (repeat' split) <;> omega), rfl⟩
      · -- not taken at 20
        have c20' := i_nle c20
        refine g_iload_n C 0 rfl dX4_placeAfterShift_23 ?_
        refine g_goto C 30 (by decide) dX4_placeAfterShift_24 ?_
        refine g_istore C [(4, .int (nI q)), (0, .int (nI q)), (1, .int (nI f)), (2, .int (nI k)), (3, .int (nI t))] (by decide) rfl dX4_placeAfterShift_30 ?_
        refine g_iload C 0 rfl dX4_placeAfterShift_32 ?_
        refine g_iload_n C 4 rfl dX4_placeAfterShift_34 ?_
        refine g_icmp_ge C 43 (by decide) dX4_placeAfterShift_35 (fun c35 => ?_) (fun c35 => ?_)
        · -- taken at 35
          have c35' := i_le c35
          refine g_iload C 0 rfl dX4_placeAfterShift_43 ?_
          refine g_iload_n C 3 rfl dX4_placeAfterShift_45 ?_
          refine g_iadd C dX4_placeAfterShift_46 ?_
          have ta7 : ((nI q) + (nI k)).toInt = (nI q).toInt + (nI k).toInt := t_add (by omega) (by omega)
          refine g_iret C hr rfl hlk dX4_placeAfterShift_47 ?_
          have hp : pasF f k t q < 40 := by unfold pasF; (repeat' split) <;> omega
          exact ⟨i_inj (by rw [nI_toInt (n := pasF f k t q) (by omega)]; unfold pasF; (repeat' split) <;> omega), rfl⟩
        · -- not taken at 35
          have c35' := i_nle c35
          refine g_iload C 0 rfl dX4_placeAfterShift_38 ?_
          refine g_goto C 47 (by decide) dX4_placeAfterShift_40 ?_
          refine g_iret C hr rfl hlk dX4_placeAfterShift_47 ?_
          have hp : pasF f k t q < 40 := by unfold pasF; (repeat' split) <;> omega
          exact ⟨i_inj (by rw [nI_toInt (n := pasF f k t q) (by omega)]; unfold pasF; (repeat' split) <;> omega), rfl⟩
    · -- not taken at 9
      have c9' := i_nle c9
      refine g_iload_n C 0 rfl dX4_placeAfterShift_12 ?_
      refine g_iload_n C 1 rfl dX4_placeAfterShift_13 ?_
      refine g_isub C dX4_placeAfterShift_14 ?_
      have ta8 : ((nI q) - (nI f)).toInt = (nI q).toInt - (nI f).toInt := t_sub (by omega) (by omega)
      refine g_iload_n C 3 rfl dX4_placeAfterShift_15 ?_
      refine g_iadd C dX4_placeAfterShift_16 ?_
      have ta9 : (((nI q) - (nI f)) + (nI t)).toInt = ((nI q) - (nI f)).toInt + (nI t).toInt := t_add (by omega) (by omega)
      refine g_iret C hr rfl hlk dX4_placeAfterShift_17 ?_
      have hp : pasF f k t q < 40 := by unfold pasF; (repeat' split) <;> omega
      exact ⟨i_inj (by rw [nI_toInt (n := pasF f k t q) (by omega)]; unfold pasF; (repeat' split) <;> omega), rfl⟩
set_option maxRecDepth 100000 in
set_option maxHeartbeats 4000000 in
theorem c_X4_relocate (l : Launch) (D : va_G) (kc : Nat → ClassId) (N : Nat) (adr : Nat → Nat) (cell : Nat → va_E) (r : Nat) (W T U : Nat → Int32) (n : Nat) (k : Nat) (hR : RowAt cell adr kc r W T U n) (hN : r + 4 ≤ N) (hk : k ≤ 40) : MV l yX4_relocate wsX4_relocate ({ frames := 1, cells := 0, slots := 0, locals := 21 }) D kc N adr cell [.ref (adr r), .int (nI k)] (fun (cell1 : Nat → va_E) => RowAt cell1 adr kc r (fill (rlF W T U n) W k) T (rlF W T U n) k ∧ ∀ j : Nat, (j < r ∨ r + 4 ≤ j) → cell1 j = cell j) := by
  refine met_v (cc := cX4_relocate) (maxL := 4) (ret := none) (by decide) rfl (Nat.le_of_ble_eq_true rfl) (lv := [(0, .ref (adr r)), (1, .int (nI k))]) rfl ?_
  intro p e s m args below meth c A C hr hlk hnm
  have in4 : ∀ w ∈ u_ws RX4 TX4 4, w ∈ wsX4_relocate := by decide +kernel
  have f21 := C.2.2.2.2.1 (.fieldLink RX4 21 "WordAnchors$Row" "size" "I") (by decide +kernel)
  have f9 := C.2.2.2.2.1 (.fieldLink RX4 9 "WordAnchors$Row" "words" "[I") (by decide +kernel)
  have f18 := C.2.2.2.2.1 (.fieldLink RX4 18 "WordAnchors$Row" "relocated" "[I") (by decide +kernel)
  obtain ⟨h0, h1, h2, h3, hn⟩ := hR
  have litm1 : ((-1) : Int32).toInt = -1 := rfl
  have lit0 : (0 : Int32).toInt = 0 := rfl
  have lit1 : (1 : Int32).toInt = 1 := rfl
  have lit40 : (40 : Int32).toInt = 40 := rfl
  have tn_n : (nI n).toInt = ((n : Nat) : Int) := nI_toInt (by omega)
  have tn_k : (nI k).toInt = ((k : Nat) : Int) := nI_toInt (by omega)
  refine g_iconst C 0 (by decide) dX4_relocate_0 ?_
  refine g_istore_n C [(2, .int 0), (0, .ref (adr r)), (1, .int (nI k))] (by decide) rfl dX4_relocate_1 ?_
  have L2 : ∀ (fu i : Nat) (cl : Nat → va_E) , i ≤ n → n < i + fu → (g0 : cl r = .inr (4, [.ref (adr (r + 1)), .ref (adr (r + 2)), .ref (adr (r + 3)), .int (nI n)])) → (g1 : cl (r + 1) = .inl (kc 0, 40, .inl W)) → (g2 : cl (r + 2) = .inl (kc 0, 40, .inl T)) → (g3 : cl (r + 3) = .inl (kc 0, 40, .inl (rlF W T U i))) → (frl2 : ∀ j : Nat, (j < r ∨ r + 4 ≤ j) → cl j = cell j) → G p l e (headSpec wsX4_relocate { frames := 1, cells := 0, slots := 0, locals := 21 }).room s m args below meth c D N adr A s.heap 4 0 0 (MQ below (va_Qv (fun (cell1 : Nat → va_E) => RowAt cell1 adr kc r (fill (rlF W T U n) W k) T (rlF W T U n) k ∧ ∀ j : Nat, (j < r ∨ r + 4 ≤ j) → cell1 j = cell j) (fun (cell1 : Nat → va_E) (t : State) => va_P D vwCl (wld N adr cell1) t.heap) A) args s 0 0 A) cl 2 [(0, .ref (adr r)), (1, .int (nI k)), (2, .int (nI i))] ([] : List Value) := by
    intro fu
    induction fu with
    | zero => intro i cl  hle hfu; exact absurd hfu (by omega)
    | succ fu ih =>
      intro i cl  hle2 hfu2 g0 g1 g2 g3 frl2 
      have tn_i : (nI i).toInt = ((i : Nat) : Int) := nI_toInt (by omega)
      refine g_iload_n C 2 rfl dX4_relocate_2 ?_
      refine g_aload_n C 0 rfl dX4_relocate_3 ?_
      refine g_get C r 4 3 (by omega) g0 rfl in4 (by decide) f21 (fun _ h9 => h9) rfl dX4_relocate_4 ?_
      refine g_icmp_ge C 56 (by decide) dX4_relocate_7 (fun c7 => ?_) (fun c7 => ?_)
      · -- taken at 7
        have c7' := i_le c7
        refine g_iconst C 0 (by decide) dX4_relocate_56 ?_
        refine g_istore_n C [(2, .int 0), (0, .ref (adr r)), (1, .int (nI k))] (by decide) rfl dX4_relocate_57 ?_
        have L58 : ∀ (fu i2 : Nat) (cm : Nat → va_E) , i2 ≤ k → k < i2 + fu → (g4 : cm r = .inr (4, [.ref (adr (r + 1)), .ref (adr (r + 2)), .ref (adr (r + 3)), .int (nI n)])) → (g5 : cm (r + 1) = .inl (kc 0, 40, .inl (fill (rlF W T U n) W i2))) → (g6 : cm (r + 2) = .inl (kc 0, 40, .inl T)) → (g7 : cm (r + 3) = .inl (kc 0, 40, .inl (rlF W T U n))) → (frl58 : ∀ j : Nat, (j < r ∨ r + 4 ≤ j) → cm j = cell j) → G p l e (headSpec wsX4_relocate { frames := 1, cells := 0, slots := 0, locals := 21 }).room s m args below meth c D N adr A s.heap 4 0 0 (MQ below (va_Qv (fun (cell1 : Nat → va_E) => RowAt cell1 adr kc r (fill (rlF W T U n) W k) T (rlF W T U n) k ∧ ∀ j : Nat, (j < r ∨ r + 4 ≤ j) → cell1 j = cell j) (fun (cell1 : Nat → va_E) (t : State) => va_P D vwCl (wld N adr cell1) t.heap) A) args s 0 0 A) cm 58 [(0, .ref (adr r)), (1, .int (nI k)), (2, .int (nI i2))] ([] : List Value) := by
          intro fu
          induction fu with
          | zero => intro i2 cm  hle hfu; exact absurd hfu (by omega)
          | succ fu ih =>
            intro i2 cm  hle58 hfu58 g4 g5 g6 g7 frl58 
            have tn_i2 : (nI i2).toInt = ((i2 : Nat) : Int) := nI_toInt (by omega)
            refine g_iload_n C 2 rfl dX4_relocate_58 ?_
            refine g_iload_n C 1 rfl dX4_relocate_59 ?_
            refine g_icmp_ge C 90 (by decide) dX4_relocate_60 (fun c60 => ?_) (fun c60 => ?_)
            · -- taken at 60
              have c60' := i_le c60
              obtain rfl : k = i2 := by omega
              refine g_aload_n C 0 rfl dX4_relocate_90 ?_
              refine g_iload_n C 1 rfl dX4_relocate_91 ?_
              refine g_put C r 4 3 (by omega) g4 rfl in4 tyX4 tyX4_ok nmX4 (by decide) f21 (fun _ h9 => h9) rfl (ty := .int) (by decide +kernel) rfl rfl (Nat.le_of_ble_eq_true rfl) dX4_relocate_92 ?_
              refine g_cell (fun cell1 ec1 => ?_)
              have h2 : cell1 r = .inr (4, [.ref (adr (r + 1)), .ref (adr (r + 2)), .ref (adr (r + 3)), .int (nI k)]) := by rw [ec1]; exact va_up_self _ _ _
              have h3 : cell1 (r + 1) = .inl (kc 0, 40, .inl (fill (rlF W T U n) W k)) := by rw [ec1, va_up_ne _ _ (by omega)]; exact g5
              have h4 : cell1 (r + 2) = .inl (kc 0, 40, .inl T) := by rw [ec1, va_up_ne _ _ (by omega)]; exact g6
              have h5 : cell1 (r + 3) = .inl (kc 0, 40, .inl (rlF W T U n)) := by rw [ec1, va_up_ne _ _ (by omega)]; exact g7
              have fr6 : ∀ j : Nat, (j < r ∨ r + 4 ≤ j) → cell1 j = cell j := fun j hj => by rw [ec1, va_up_ne _ _ (by omega)]; exact frl58 j hj
              refine g_vret C hr hlk dX4_relocate_95 ?_
              exact ⟨⟨h2, h3 , h4, h5, by omega⟩, fr6⟩
            · -- not taken at 60
              have c60' := i_nle c60
              refine g_iload_n C 2 rfl dX4_relocate_63 ?_
              refine g_aload_n C 0 rfl dX4_relocate_64 ?_
              refine g_get C r 4 0 (by omega) g4 rfl in4 (by decide) f9 (fun _ h9 => h9) rfl dX4_relocate_65 ?_
              refine g_alen C (r + 1) 0 (by omega) g5 rfl 40 rfl dX4_relocate_68 ?_
              refine g_icmp_ge C 90 (by decide) dX4_relocate_69 (fun c69 => ?_) (fun c69 => ?_)
              · -- taken at 69
                have c69' := i_le c69
                exfalso; omega
              · -- not taken at 69
                have c69' := i_nle c69
                refine g_aload_n C 0 rfl dX4_relocate_72 ?_
                refine g_get C r 4 0 (by omega) g4 rfl in4 (by decide) f9 (fun _ h9 => h9) rfl dX4_relocate_73 ?_
                refine g_iload_n C 2 rfl dX4_relocate_76 ?_
                refine g_aload_n C 0 rfl dX4_relocate_77 ?_
                refine g_get C r 4 2 (by omega) g4 rfl in4 (by decide) f18 (fun _ h9 => h9) rfl dX4_relocate_78 ?_
                refine g_iload_n C 2 rfl dX4_relocate_81 ?_
                refine g_iald C (r + 3) (by omega) g7 (vp_in_nI (by omega) (by omega)) dX4_relocate_82 ?_
                refine g_eqst (show ([.int ((rlF W T U n) (nI i2).toNatClampNeg), .int (nI i2), .ref (adr (r + 1))] : List Value) = ([.int ((rlF W T U n) i2), .int (nI i2), .ref (adr (r + 1))] : List Value) from by rw [nI_clamp (by omega)]) ?_
                refine g_iast C (r + 1) (by omega) g5 (vp_in_nI (by omega) (by omega)) dX4_relocate_83 ?_
                refine g_cell (fun cell7 ec7 => ?_)
                have h8 : cell7 r = .inr (4, [.ref (adr (r + 1)), .ref (adr (r + 2)), .ref (adr (r + 3)), .int (nI n)]) := by rw [ec7, va_up_ne _ _ (by omega)]; exact g4
                have h9 : cell7 (r + 1) = .inl (kc 0, 40, .inl (upd (fill (rlF W T U n) W i2) (nI i2).toNatClampNeg ((rlF W T U n) i2))) := by rw [ec7]; exact va_up_self _ _ _
                have h10 : cell7 (r + 2) = .inl (kc 0, 40, .inl T) := by rw [ec7, va_up_ne _ _ (by omega)]; exact g6
                have h11 : cell7 (r + 3) = .inl (kc 0, 40, .inl (rlF W T U n)) := by rw [ec7, va_up_ne _ _ (by omega)]; exact g7
                have fr12 : ∀ j : Nat, (j < r ∨ r + 4 ≤ j) → cell7 j = cell j := fun j hj => by rw [ec7, va_up_ne _ _ (by omega)]; exact frl58 j hj
                have h13 : cell7 (r + 1) = .inl (kc 0, 40, .inl (upd (fill (rlF W T U n) W i2) i2 ((rlF W T U n) i2))) := by rw [h9, nI_clamp (by omega)]
                refine g_iinc C 2 [(2, .int (nI (i2 + 1))), (0, .ref (adr r)), (1, .int (nI k))] rfl (iinc_nI i2) (by decide) rfl dX4_relocate_84 ?_
                refine g_goto C 58 (by decide) dX4_relocate_87 ?_
                refine g_sub [1, 2, 0] rfl ?_
                have hx14 : cell7 (r + 1) = .inl (kc 0, 40, .inl (fill (rlF W T U n) W (i2 + 1))) := h13.trans (congrArg (fun f0 : Nat → Int32 => (.inl (kc 0, 40, .inl f0) : va_E)) (show (upd (fill (rlF W T U n) W i2) i2 ((rlF W T U n) i2)) = (fill (rlF W T U n) W (i2 + 1)) from by exact fill_upd rfl))
                have hx15 : cell7 (r + 3) = .inl (kc 0, 40, .inl (rlF W T U n)) := h11.trans (congrArg (fun f0 : Nat → Int32 => (.inl (kc 0, 40, .inl f0) : va_E)) (show (rlF W T U n) = (rlF W T U n) from by rfl))
                exact ih (i2 + 1) _ (by omega) (by omega) h8 hx14 h10 hx15 fr12 
        refine g_sub [1, 2, 0] rfl ?_
        have hx16 : cl (r + 1) = .inl (kc 0, 40, .inl (fill (rlF W T U n) W 0)) := g1.trans (congrArg (fun f0 : Nat → Int32 => (.inl (kc 0, 40, .inl f0) : va_E)) (show W = (fill (rlF W T U n) W 0) from by exact fill_0))
        have hx17 : cl (r + 3) = .inl (kc 0, 40, .inl (rlF W T U n)) := g3.trans (congrArg (fun f0 : Nat → Int32 => (.inl (kc 0, 40, .inl f0) : va_E)) (show (rlF W T U i) = (rlF W T U n) from by rw [show i = n by omega]))
        exact L58 (k + 1) 0 _ (by omega) (by omega) g0 hx16 g2 hx17 frl2 
      · -- not taken at 7
        have c7' := i_nle c7
        refine g_iload_n C 2 rfl dX4_relocate_10 ?_
        refine g_aload_n C 0 rfl dX4_relocate_11 ?_
        refine g_get C r 4 0 (by omega) g0 rfl in4 (by decide) f9 (fun _ h9 => h9) rfl dX4_relocate_12 ?_
        refine g_alen C (r + 1) 0 (by omega) g1 rfl 40 rfl dX4_relocate_15 ?_
        refine g_icmp_ge C 56 (by decide) dX4_relocate_16 (fun c16 => ?_) (fun c16 => ?_)
        · -- taken at 16
          have c16' := i_le c16
          exfalso; omega
        · -- not taken at 16
          have c16' := i_nle c16
          refine g_aload_n C 0 rfl dX4_relocate_19 ?_
          refine g_iload_n C 2 rfl dX4_relocate_20 ?_
          refine g_Vi C [.int (nI i)] r 4 (by omega) g0 rfl (c_X4_targetOf l D kc N adr cl r W T (rlF W T U i) n (nI i) ⟨g0, g1, g2, g3, by omega⟩ (by omega)) (cwV 1 C.2.2.2.2.1 gX4_relocate_X4_targetOf rfl rfl rfl (by decide +kernel) ⟨Nat.le_of_ble_eq_true rfl, Nat.le_of_ble_eq_true rfl⟩) rfl rfl (Nat.le_of_ble_eq_true rfl) (Nat.zero_le _) (Nat.zero_le _) dX4_relocate_21 (fun v18 cell18 q18 => ?_)
          obtain ⟨rfl, rfl⟩ := q18
          refine g_eqst (st1 := ([.int (T i)] : List Value)) (by rw [atF_nI (by omega) (by omega)]) ?_
          refine g_istore_n C [(3, .int (T i)), (0, .ref (adr r)), (1, .int (nI k)), (2, .int (nI i))] (by decide) rfl dX4_relocate_24 ?_
          refine g_iload_n C 0 rfl dX4_relocate_25 ?_
          refine g_if_lt C 50 (by decide) dX4_relocate_26 (fun c26 => ?_) (fun c26 => ?_)
          · -- taken at 26
            have c26' := i_lt c26
            refine g_iinc C 3 [(2, .int (nI (i + 1))), (3, .int (T i)), (0, .ref (adr r)), (1, .int (nI k))] rfl (iinc_nI i) (by decide) rfl dX4_relocate_50 ?_
            refine g_goto C 2 (by decide) dX4_relocate_53 ?_
            refine g_sub [2, 3, 0] rfl ?_
            have hx20 : cl (r + 3) = .inl (kc 0, 40, .inl (rlF W T U (i + 1))) := g3.trans (congrArg (fun f0 : Nat → Int32 => (.inl (kc 0, 40, .inl f0) : va_E)) (show (rlF W T U i) = (rlF W T U (i + 1)) from by first | exact (if_pos (by omega)).symm | exact (if_neg (by omega)).symm))
            exact ih (i + 1) _ (by omega) (by omega) g0 g1 g2 hx20 frl2 
          · -- not taken at 26
            have c26' := i_nlt c26
            refine g_iload_n C 0 rfl dX4_relocate_29 ?_
            refine g_aload_n C 1 rfl dX4_relocate_30 ?_
            refine g_get C r 4 2 (by omega) g0 rfl in4 (by decide) f18 (fun _ h9 => h9) rfl dX4_relocate_31 ?_
            refine g_alen C (r + 3) 0 (by omega) g3 rfl 40 rfl dX4_relocate_34 ?_
            refine g_icmp_ge C 50 (by decide) dX4_relocate_35 (fun c35 => ?_) (fun c35 => ?_)
            · -- taken at 35
              have c35' := i_le c35
              refine g_iinc C 3 [(2, .int (nI (i + 1))), (3, .int (T i)), (0, .ref (adr r)), (1, .int (nI k))] rfl (iinc_nI i) (by decide) rfl dX4_relocate_50 ?_
              refine g_goto C 2 (by decide) dX4_relocate_53 ?_
              refine g_sub [2, 3, 0] rfl ?_
              have hx21 : cl (r + 3) = .inl (kc 0, 40, .inl (rlF W T U (i + 1))) := g3.trans (congrArg (fun f0 : Nat → Int32 => (.inl (kc 0, 40, .inl f0) : va_E)) (show (rlF W T U i) = (rlF W T U (i + 1)) from by first | exact (if_pos (by omega)).symm | exact (if_neg (by omega)).symm))
              exact ih (i + 1) _ (by omega) (by omega) g0 g1 g2 hx21 frl2 
            · -- not taken at 35
              have c35' := i_nle c35
              refine g_aload_n C 1 rfl dX4_relocate_38 ?_
              refine g_get C r 4 2 (by omega) g0 rfl in4 (by decide) f18 (fun _ h9 => h9) rfl dX4_relocate_39 ?_
              refine g_iload_n C 0 rfl dX4_relocate_42 ?_
              refine g_aload_n C 1 rfl dX4_relocate_43 ?_
              refine g_get C r 4 0 (by omega) g0 rfl in4 (by decide) f9 (fun _ h9 => h9) rfl dX4_relocate_44 ?_
              refine g_iload_n C 3 rfl dX4_relocate_47 ?_
              refine g_iald C (r + 1) (by omega) g1 (vp_in_nI (by omega) (by omega)) dX4_relocate_48 ?_
              refine g_eqst (show ([.int (W (nI i).toNatClampNeg), .int (T i), .ref (adr (r + 3))] : List Value) = ([.int (W i), .int (T i), .ref (adr (r + 3))] : List Value) from by rw [nI_clamp (by omega)]) ?_
              refine g_iast C (r + 3) (by omega) g3 (vp_in_iff.mpr (by omega)) dX4_relocate_49 ?_
              refine g_cell (fun cell22 ec22 => ?_)
              have h23 : cell22 r = .inr (4, [.ref (adr (r + 1)), .ref (adr (r + 2)), .ref (adr (r + 3)), .int (nI n)]) := by rw [ec22, va_up_ne _ _ (by omega)]; exact g0
              have h24 : cell22 (r + 1) = .inl (kc 0, 40, .inl W) := by rw [ec22, va_up_ne _ _ (by omega)]; exact g1
              have h25 : cell22 (r + 2) = .inl (kc 0, 40, .inl T) := by rw [ec22, va_up_ne _ _ (by omega)]; exact g2
              have h26 : cell22 (r + 3) = .inl (kc 0, 40, .inl (upd (rlF W T U i) (T i).toNatClampNeg (W i))) := by rw [ec22]; exact va_up_self _ _ _
              have fr27 : ∀ j : Nat, (j < r ∨ r + 4 ≤ j) → cell22 j = cell j := fun j hj => by rw [ec22, va_up_ne _ _ (by omega)]; exact frl2 j hj
              refine g_iinc C 3 [(2, .int (nI (i + 1))), (3, .int (T i)), (0, .ref (adr r)), (1, .int (nI k))] rfl (iinc_nI i) (by decide) rfl dX4_relocate_50 ?_
              refine g_goto C 2 (by decide) dX4_relocate_53 ?_
              refine g_sub [2, 3, 0] rfl ?_
              have hx28 : cell22 (r + 3) = .inl (kc 0, 40, .inl (rlF W T U (i + 1))) := h26.trans (congrArg (fun f0 : Nat → Int32 => (.inl (kc 0, 40, .inl f0) : va_E)) (show (upd (rlF W T U i) (T i).toNatClampNeg (W i)) = (rlF W T U (i + 1)) from by first | exact (if_pos (by omega)).symm | exact (if_neg (by omega)).symm))
              exact ih (i + 1) _ (by omega) (by omega) h23 h24 h25 hx28 fr27 
  refine g_sub [1, 2, 0] rfl ?_
  have hx29 : cell (r + 3) = .inl (kc 0, 40, .inl (rlF W T U 0)) := h3.trans (congrArg (fun f0 : Nat → Int32 => (.inl (kc 0, 40, .inl f0) : va_E)) (show U = (rlF W T U 0) from by rfl))
  exact L2 (n + 1) 0 _ (by omega) (by omega) h0 h1 h2 hx29 (fun _ _ => rfl) 
end
