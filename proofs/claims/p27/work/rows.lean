section
/-! ===== BEGIN words of one list among another's, by their places ===== -/
theorem goodIn_r {big : List Cond} (ws : List Cond) (ps : List Nat) (hp : ws = ps.filterMap (fun i => big[i]?)) (h : ws.all goodWord = true) : GoodIn big ws := by
  intro w hw
  have h1 := List.all_eq_true.mp h w hw
  rw [hp] at hw
  obtain ⟨i, -, hi⟩ := List.mem_filterMap.mp hw
  have hm : w ∈ big := by first | exact List.mem_of_getElem? hi | exact List.getElem?_mem hi
  exact ⟨hm, good_of_word h1⟩
theorem goodIn_app {big a b : List Cond} (ha : GoodIn big a) (hb : GoodIn big b) : GoodIn big (a ++ b) := fun w h => (List.mem_append.mp h).elim (ha w) (hb w)
theorem goodIn_ca {big a b : List Cond} {c : Cond} (ha : GoodIn big (c :: a)) (hb : GoodIn big b) : GoodIn big (c :: (a ++ b)) := fun w h => (List.mem_cons.mp h).elim (fun e => ha w (List.mem_cons.mpr (Or.inl e))) (fun h => (List.mem_append.mp h).elim (fun h => ha w (List.mem_cons.mpr (Or.inr h))) (hb w))
theorem goodIn_sub {big ws : List Cond} (hm : ∀ w ∈ ws, w ∈ big) (h : ws.all goodWord = true) : GoodIn big ws := fun w hw => ⟨hm w hw, good_of_word (List.all_eq_true.mp h w hw)⟩
/-! ===== END ===== -/

/-! ===== BEGIN printed: names, fields, word lists, decode rows ===== -/
def RX0 : String := "WordAnchors$Anchor"
def TX0 : u_T := fun k => match k with
  | 0 => ("WordAnchors$Anchor", "things", "[I", true)
  | 1 => ("WordAnchors$Anchor", "place", "I", false)
  | _ => ("WordAnchors$Anchor", "truePlace", "I", false)
def tyX0 : Nat → FieldType := fun k => match k with
  | 0 => .array .int
  | 1 => .int
  | _ => .int
abbrev wsX00 : List Cond := u_ws RX0 TX0 3
theorem nmX0 : ∀ a, a < 3 → ∀ b, b < 3 → a ≠ b → (TX0 a).2.1 ≠ (TX0 b).2.1 := by decide +kernel
theorem tyX0_ok : ∀ k, k < 3 → parseFieldDescriptor (TX0 k).2.2.1 = some (tyX0 k) := by decide +kernel
abbrev cX0_init : ByteArray := prog_2_method_1_code
def yX0_init : MethodName := ⟨RX0, "<init>", "()V"⟩
abbrev cX0_place : ByteArray := prog_2_method_2_code
def yX0_place : MethodName := ⟨RX0, "place", "()I"⟩
abbrev cX0_truePlace : ByteArray := prog_2_method_3_code
def yX0_truePlace : MethodName := ⟨RX0, "truePlace", "()I"⟩
abbrev cX0_thing : ByteArray := prog_2_method_4_code
def yX0_thing : MethodName := ⟨RX0, "thing", "(I)I"⟩
abbrev cX0_goTo : ByteArray := prog_2_method_5_code
def yX0_goTo : MethodName := ⟨RX0, "goTo", "(I)V"⟩
abbrev cX0_setAt : ByteArray := prog_2_method_6_code
def yX0_setAt : MethodName := ⟨RX0, "setAt", "(LWordAnchors$Row;I)V"⟩
abbrev cX0_look : ByteArray := prog_2_method_7_code
def yX0_look : MethodName := ⟨RX0, "look", "(LWordAnchors$Row;)I"⟩
abbrev cX0_followWord : ByteArray := prog_2_method_8_code
def yX0_followWord : MethodName := ⟨RX0, "followWord", "(LWordAnchors$Row;)V"⟩
abbrev cX0_copyFrom : ByteArray := prog_2_method_9_code
def yX0_copyFrom : MethodName := ⟨RX0, "copyFrom", "(LWordAnchors$Anchor;)V"⟩
def RX1 : String := "WordAnchors$Blocks"
def TX1 : u_T := fun k => match k with
  | 0 => ("WordAnchors$Blocks", "shifts", "[I", true)
  | 1 => ("WordAnchors$Blocks", "members", "[I", true)
  | _ => ("WordAnchors$Blocks", "size", "I", false)
def tyX1 : Nat → FieldType := fun k => match k with
  | 0 => .array .int
  | 1 => .array .int
  | _ => .int
abbrev wsX10 : List Cond := u_ws RX1 TX1 3
theorem nmX1 : ∀ a, a < 3 → ∀ b, b < 3 → a ≠ b → (TX1 a).2.1 ≠ (TX1 b).2.1 := by decide +kernel
theorem tyX1_ok : ∀ k, k < 3 → parseFieldDescriptor (TX1 k).2.2.1 = some (tyX1 k) := by decide +kernel
abbrev cX1_init : ByteArray := prog_3_method_1_code
def yX1_init : MethodName := ⟨RX1, "<init>", "()V"⟩
abbrev cX1_membersOf : ByteArray := prog_3_method_2_code
def yX1_membersOf : MethodName := ⟨RX1, "membersOf", "(I)I"⟩
abbrev cX1_shiftOf : ByteArray := prog_3_method_3_code
def yX1_shiftOf : MethodName := ⟨RX1, "shiftOf", "(I)I"⟩
abbrev cX1_gather : ByteArray := prog_3_method_4_code
def yX1_gather : MethodName := ⟨RX1, "gather", "(LWordAnchors$State;)V"⟩
abbrev cX1_enter : ByteArray := prog_3_method_5_code
def yX1_enter : MethodName := ⟨RX1, "enter", "(II)V"⟩
abbrev cX1_inOrder : ByteArray := prog_3_method_6_code
def yX1_inOrder : MethodName := ⟨RX1, "inOrder", "(I)I"⟩
abbrev cX1_blocksAheadOf : ByteArray := prog_3_method_7_code
def yX1_blocksAheadOf : MethodName := ⟨RX1, "blocksAheadOf", "(I)I"⟩
abbrev cX1_isAhead : ByteArray := prog_3_method_8_code
def yX1_isAhead : MethodName := ⟨RX1, "isAhead", "(II)Z"⟩
def RX2 : String := "WordAnchors$EditText"
def TX2 : u_T := fun k => match k with
  | 0 => ("WordAnchors$EditText", "characters", "[C", true)
  | 1 => ("WordAnchors$EditText", "numbers", "[I", true)
  | 2 => ("WordAnchors$EditText", "length", "I", false)
  | 3 => ("WordAnchors$EditText", "start", "I", false)
  | 4 => ("WordAnchors$EditText", "next", "I", false)
  | _ => ("WordAnchors$EditText", "sign", "C", false)
def tyX2 : Nat → FieldType := fun k => match k with
  | 0 => .array .char
  | 1 => .array .int
  | 2 => .int
  | 3 => .int
  | 4 => .int
  | _ => .char
abbrev wsX20 : List Cond := u_ws RX2 TX2 6
theorem nmX2 : ∀ a, a < 6 → ∀ b, b < 6 → a ≠ b → (TX2 a).2.1 ≠ (TX2 b).2.1 := by decide +kernel
theorem tyX2_ok : ∀ k, k < 6 → parseFieldDescriptor (TX2 k).2.2.1 = some (tyX2 k) := by decide +kernel
abbrev cX2_init : ByteArray := prog_4_method_1_code
def yX2_init : MethodName := ⟨RX2, "<init>", "()V"⟩
abbrev cX2_length : ByteArray := prog_4_method_2_code
def yX2_length : MethodName := ⟨RX2, "length", "()I"⟩
def RX3 : String := "WordAnchors$History"
def TX3 : u_T := fun k => match k with
  | 0 => ("WordAnchors$History", "states", "[LWordAnchors$State;", true)
  | 1 => ("WordAnchors$History", "oldest", "I", false)
  | _ => ("WordAnchors$History", "size", "I", false)
def tyX3 : Nat → FieldType := fun k => match k with
  | 0 => .array (.object "WordAnchors$State")
  | 1 => .int
  | _ => .int
abbrev wsX30 : List Cond := u_ws RX3 TX3 3
theorem nmX3 : ∀ a, a < 3 → ∀ b, b < 3 → a ≠ b → (TX3 a).2.1 ≠ (TX3 b).2.1 := by decide +kernel
theorem tyX3_ok : ∀ k, k < 3 → parseFieldDescriptor (TX3 k).2.2.1 = some (tyX3 k) := by decide +kernel
abbrev cX3_init : ByteArray := prog_5_method_1_code
def yX3_init : MethodName := ⟨RX3, "<init>", "()V"⟩
abbrev cX3_size : ByteArray := prog_5_method_2_code
def yX3_size : MethodName := ⟨RX3, "size", "()I"⟩
abbrev cX3_fromOldest : ByteArray := prog_5_method_3_code
def yX3_fromOldest : MethodName := ⟨RX3, "fromOldest", "(I)LWordAnchors$State;"⟩
abbrev cX3_record : ByteArray := prog_5_method_4_code
def yX3_record : MethodName := ⟨RX3, "record", "(LWordAnchors$State;)V"⟩
abbrev cX3_latest : ByteArray := prog_5_method_5_code
def yX3_latest : MethodName := ⟨RX3, "latest", "()LWordAnchors$State;"⟩
abbrev cX3_forgetLatest : ByteArray := prog_5_method_6_code
def yX3_forgetLatest : MethodName := ⟨RX3, "forgetLatest", "()V"⟩
def RX4 : String := "WordAnchors$Row"
def TX4 : u_T := fun k => match k with
  | 0 => ("WordAnchors$Row", "words", "[I", true)
  | 1 => ("WordAnchors$Row", "targets", "[I", true)
  | 2 => ("WordAnchors$Row", "relocated", "[I", true)
  | _ => ("WordAnchors$Row", "size", "I", false)
def tyX4 : Nat → FieldType := fun k => match k with
  | 0 => .array .int
  | 1 => .array .int
  | 2 => .array .int
  | _ => .int
abbrev wsX40 : List Cond := u_ws RX4 TX4 4
theorem nmX4 : ∀ a, a < 4 → ∀ b, b < 4 → a ≠ b → (TX4 a).2.1 ≠ (TX4 b).2.1 := by decide +kernel
theorem tyX4_ok : ∀ k, k < 4 → parseFieldDescriptor (TX4 k).2.2.1 = some (tyX4 k) := by decide +kernel
abbrev cX4_init : ByteArray := prog_6_method_1_code
def yX4_init : MethodName := ⟨RX4, "<init>", "()V"⟩
abbrev cX4_size : ByteArray := prog_6_method_2_code
def yX4_size : MethodName := ⟨RX4, "size", "()I"⟩
abbrev cX4_isFull : ByteArray := prog_6_method_3_code
def yX4_isFull : MethodName := ⟨RX4, "isFull", "()Z"⟩
abbrev cX4_holds : ByteArray := prog_6_method_4_code
def yX4_holds : MethodName := ⟨RX4, "holds", "(I)Z"⟩
abbrev cX4_takesAt : ByteArray := prog_6_method_5_code
def yX4_takesAt : MethodName := ⟨RX4, "takesAt", "(I)Z"⟩
abbrev cX4_canShift : ByteArray := prog_6_method_6_code
def yX4_canShift : MethodName := ⟨RX4, "canShift", "(III)Z"⟩
abbrev cX4_at : ByteArray := prog_6_method_7_code
def yX4_at : MethodName := ⟨RX4, "at", "(I)I"⟩
abbrev cX4_insert : ByteArray := prog_6_method_8_code
def yX4_insert : MethodName := ⟨RX4, "insert", "(II)V"⟩
abbrev cX4_remove : ByteArray := prog_6_method_9_code
def yX4_remove : MethodName := ⟨RX4, "remove", "(I)V"⟩
abbrev cX4_replace : ByteArray := prog_6_method_10_code
def yX4_replace : MethodName := ⟨RX4, "replace", "(II)V"⟩
abbrev cX4_shift : ByteArray := prog_6_method_11_code
def yX4_shift : MethodName := ⟨RX4, "shift", "(III)V"⟩
abbrev cX4_placeAfterShift : ByteArray := prog_6_method_12_code
def yX4_placeAfterShift : MethodName := ⟨RX4, "placeAfterShift", "(IIII)I"⟩
abbrev cX4_relocate : ByteArray := prog_6_method_13_code
def yX4_relocate : MethodName := ⟨RX4, "relocate", "(I)V"⟩
abbrev cX4_write : ByteArray := prog_6_method_14_code
def yX4_write : MethodName := ⟨RX4, "write", "(II)V"⟩
abbrev cX4_targetOf : ByteArray := prog_6_method_15_code
def yX4_targetOf : MethodName := ⟨RX4, "targetOf", "(I)I"⟩
abbrev cX4_wordsElsewhere : ByteArray := prog_6_method_16_code
def yX4_wordsElsewhere : MethodName := ⟨RX4, "wordsElsewhere", "()I"⟩
abbrev cX4_unlikeWords : ByteArray := prog_6_method_17_code
def yX4_unlikeWords : MethodName := ⟨RX4, "unlikeWords", "()I"⟩
abbrev cX4_standsAhead : ByteArray := prog_6_method_18_code
def yX4_standsAhead : MethodName := ⟨RX4, "standsAhead", "(I)Z"⟩
abbrev cX4_copyFrom : ByteArray := prog_6_method_19_code
def yX4_copyFrom : MethodName := ⟨RX4, "copyFrom", "(LWordAnchors$Row;)V"⟩
def RX5 : String := "WordAnchors$State"
def TX5 : u_T := fun k => match k with
  | 0 => ("WordAnchors$State", "row", "LWordAnchors$Row;", true)
  | 1 => ("WordAnchors$State", "anchors", "[LWordAnchors$Anchor;", true)
  | 2 => ("WordAnchors$State", "settings", "[I", true)
  | 3 => ("WordAnchors$State", "anchorCount", "I", false)
  | _ => ("WordAnchors$State", "edits", "I", false)
def tyX5 : Nat → FieldType := fun k => match k with
  | 0 => .object "WordAnchors$Row"
  | 1 => .array (.object "WordAnchors$Anchor")
  | 2 => .array .int
  | 3 => .int
  | _ => .int
abbrev wsX50 : List Cond := u_ws RX5 TX5 5
theorem nmX5 : ∀ a, a < 5 → ∀ b, b < 5 → a ≠ b → (TX5 a).2.1 ≠ (TX5 b).2.1 := by decide +kernel
theorem tyX5_ok : ∀ k, k < 5 → parseFieldDescriptor (TX5 k).2.2.1 = some (tyX5 k) := by decide +kernel
abbrev cX5_init : ByteArray := prog_7_method_1_code
def yX5_init : MethodName := ⟨RX5, "<init>", "()V"⟩
abbrev cX5_anchorCount : ByteArray := prog_7_method_2_code
def yX5_anchorCount : MethodName := ⟨RX5, "anchorCount", "()I"⟩
abbrev cX5_edits : ByteArray := prog_7_method_3_code
def yX5_edits : MethodName := ⟨RX5, "edits", "()I"⟩
abbrev cX5_setting : ByteArray := prog_7_method_4_code
def yX5_setting : MethodName := ⟨RX5, "setting", "(I)I"⟩
abbrev cX5_anchorNumbered : ByteArray := prog_7_method_6_code
def yX5_anchorNumbered : MethodName := ⟨RX5, "anchorNumbered", "(I)LWordAnchors$Anchor;"⟩
abbrev cX5_addAnchor : ByteArray := prog_7_method_7_code
def yX5_addAnchor : MethodName := ⟨RX5, "addAnchor", "(I)V"⟩
abbrev cX5_insertWord : ByteArray := prog_7_method_9_code
def yX5_insertWord : MethodName := ⟨RX5, "insertWord", "(II)V"⟩
abbrev cX5_removeWord : ByteArray := prog_7_method_10_code
def yX5_removeWord : MethodName := ⟨RX5, "removeWord", "(I)V"⟩
abbrev cX5_replaceWord : ByteArray := prog_7_method_11_code
def yX5_replaceWord : MethodName := ⟨RX5, "replaceWord", "(II)V"⟩
abbrev cX5_shiftWords : ByteArray := prog_7_method_12_code
def yX5_shiftWords : MethodName := ⟨RX5, "shiftWords", "(III)V"⟩
abbrev cX5_followWords : ByteArray := prog_7_method_13_code
def yX5_followWords : MethodName := ⟨RX5, "followWords", "()V"⟩
abbrev cX5_scoreOf : ByteArray := prog_7_method_14_code
def yX5_scoreOf : MethodName := ⟨RX5, "scoreOf", "(LWordAnchors$Anchor;I)I"⟩
abbrev cX5_bestPlace : ByteArray := prog_7_method_15_code
def yX5_bestPlace : MethodName := ⟨RX5, "bestPlace", "(LWordAnchors$Anchor;)I"⟩
abbrev cX5_nextBestPlace : ByteArray := prog_7_method_16_code
def yX5_nextBestPlace : MethodName := ⟨RX5, "nextBestPlace", "(LWordAnchors$Anchor;)I"⟩
abbrev cX5_bestPlaceBut : ByteArray := prog_7_method_17_code
def yX5_bestPlaceBut : MethodName := ⟨RX5, "bestPlaceBut", "(LWordAnchors$Anchor;I)I"⟩
abbrev cX5_isLost : ByteArray := prog_7_method_18_code
def yX5_isLost : MethodName := ⟨RX5, "isLost", "(LWordAnchors$Anchor;I)Z"⟩
abbrev cX5_standingOf : ByteArray := prog_7_method_19_code
def yX5_standingOf : MethodName := ⟨RX5, "standingOf", "(LWordAnchors$Anchor;)I"⟩
abbrev cX5_shiftOf : ByteArray := prog_7_method_20_code
def yX5_shiftOf : MethodName := ⟨RX5, "shiftOf", "(LWordAnchors$Anchor;)I"⟩
abbrev cX5_isOfKind : ByteArray := prog_7_method_21_code
def yX5_isOfKind : MethodName := ⟨RX5, "isOfKind", "(LWordAnchors$Anchor;I)Z"⟩
abbrev cX5_anchorsOfKind : ByteArray := prog_7_method_22_code
def yX5_anchorsOfKind : MethodName := ⟨RX5, "anchorsOfKind", "(I)I"⟩
abbrev cX5_copyFrom : ByteArray := prog_7_method_25_code
def yX5_copyFrom : MethodName := ⟨RX5, "copyFrom", "(LWordAnchors$State;)V"⟩
def RX6 : String := "WordAnchors"
def TX6 : u_T := fun k => match k with
  | 0 => ("WordAnchors", "now", "LWordAnchors$State;", true)
  | 1 => ("WordAnchors", "trial", "LWordAnchors$State;", true)
  | 2 => ("WordAnchors", "history", "LWordAnchors$History;", true)
  | 3 => ("WordAnchors", "text", "LWordAnchors$EditText;", true)
  | 4 => ("WordAnchors", "blocks", "LWordAnchors$Blocks;", true)
  | _ => ("WordAnchors", "probe", "LWordAnchors$Anchor;", true)
def tyX6 : Nat → FieldType := fun k => match k with
  | 0 => .object "WordAnchors$State"
  | 1 => .object "WordAnchors$State"
  | 2 => .object "WordAnchors$History"
  | 3 => .object "WordAnchors$EditText"
  | 4 => .object "WordAnchors$Blocks"
  | _ => .object "WordAnchors$Anchor"
abbrev wsX60 : List Cond := u_ws RX6 TX6 6
theorem nmX6 : ∀ a, a < 6 → ∀ b, b < 6 → a ≠ b → (TX6 a).2.1 ≠ (TX6 b).2.1 := by decide +kernel
theorem tyX6_ok : ∀ k, k < 6 → parseFieldDescriptor (TX6 k).2.2.1 = some (tyX6 k) := by decide +kernel
abbrev cX6_init : ByteArray := prog_1_method_1_code
def yX6_init : MethodName := ⟨RX6, "<init>", "()V"⟩
abbrev cX6_put : ByteArray := prog_1_method_2_code
def yX6_put : MethodName := ⟨RX6, "put", "(II)I"⟩
abbrev cX6_take : ByteArray := prog_1_method_3_code
def yX6_take : MethodName := ⟨RX6, "take", "(I)I"⟩
abbrev cX6_change : ByteArray := prog_1_method_4_code
def yX6_change : MethodName := ⟨RX6, "change", "(II)I"⟩
abbrev cX6_move : ByteArray := prog_1_method_5_code
def yX6_move : MethodName := ⟨RX6, "move", "(III)I"⟩
abbrev cX6_anchor : ByteArray := prog_1_method_6_code
def yX6_anchor : MethodName := ⟨RX6, "anchor", "(I)I"⟩
abbrev cX6_findAll : ByteArray := prog_1_method_9_code
def yX6_findAll : MethodName := ⟨RX6, "findAll", "()I"⟩
abbrev cX6_remember : ByteArray := prog_1_method_10_code
def yX6_remember : MethodName := ⟨RX6, "remember", "(I)I"⟩
abbrev cX6_wordAt : ByteArray := prog_1_method_12_code
def yX6_wordAt : MethodName := ⟨RX6, "wordAt", "(I)I"⟩
abbrev cX6_anchorOf : ByteArray := prog_1_method_13_code
def yX6_anchorOf : MethodName := ⟨RX6, "anchorOf", "(II)I"⟩
abbrev cX6_score : ByteArray := prog_1_method_14_code
def yX6_score : MethodName := ⟨RX6, "score", "(II)I"⟩
abbrev cX6_anchors : ByteArray := prog_1_method_15_code
def yX6_anchors : MethodName := ⟨RX6, "anchors", "(I)I"⟩
abbrev cX6_blockOf : ByteArray := prog_1_method_16_code
def yX6_blockOf : MethodName := ⟨RX6, "blockOf", "(II)I"⟩
abbrev cX6_count : ByteArray := prog_1_method_20_code
def yX6_count : MethodName := ⟨RX6, "count", "(I)I"⟩
abbrev cX6_undo : ByteArray := prog_1_method_21_code
def yX6_undo : MethodName := ⟨RX6, "undo", "()I"⟩
abbrev cX6_isWord : ByteArray := prog_1_method_26_code
def yX6_isWord : MethodName := ⟨RX6, "isWord", "(I)Z"⟩
abbrev cX6_orNotFound : ByteArray := prog_1_method_27_code
def yX6_orNotFound : MethodName := ⟨RX6, "orNotFound", "(I)I"⟩
abbrev cX6_scoreOrNotFound : ByteArray := prog_1_method_28_code
def yX6_scoreOrNotFound : MethodName := ⟨RX6, "scoreOrNotFound", "(LWordAnchors$Anchor;I)I"⟩
def RX7 : String := "WordAnchorsModel"
def TX7 : u_T := fun k => match k with
  | _ => ("", "", "", false)
def tyX7 : Nat → FieldType := fun k => match k with
  | _ => .int
abbrev wsX70 : List Cond := u_ws RX7 TX7 0
theorem nmX7 : ∀ a, a < 0 → ∀ b, b < 0 → a ≠ b → (TX7 a).2.1 ≠ (TX7 b).2.1 := by decide +kernel
theorem tyX7_ok : ∀ k, k < 0 → parseFieldDescriptor (TX7 k).2.2.1 = some (tyX7 k) := by decide +kernel
def RJ6 : String := "java/lang/Integer"
def TJ6 : u_T := fun k => match k with
  | _ => ("", "", "", false)
def tyJ6 : Nat → FieldType := fun k => match k with
  | _ => .int
abbrev wsJ60 : List Cond := u_ws RJ6 TJ6 0
theorem nmJ6 : ∀ a, a < 0 → ∀ b, b < 0 → a ≠ b → (TJ6 a).2.1 ≠ (TJ6 b).2.1 := by decide +kernel
theorem tyJ6_ok : ∀ k, k < 0 → parseFieldDescriptor (TJ6 k).2.2.1 = some (tyJ6 k) := by decide +kernel
abbrev cJ6_bitCount_0f7a4 : ByteArray := prog_10_method_49_code
def yJ6_bitCount_0f7a4 : MethodName := ⟨RJ6, "bitCount", "(I)I"⟩
def RJ9 : String := "java/lang/Math"
def TJ9 : u_T := fun k => match k with
  | _ => ("", "", "", false)
def tyJ9 : Nat → FieldType := fun k => match k with
  | _ => .int
abbrev wsJ90 : List Cond := u_ws RJ9 TJ9 0
theorem nmJ9 : ∀ a, a < 0 → ∀ b, b < 0 → a ≠ b → (TJ9 a).2.1 ≠ (TJ9 b).2.1 := by decide +kernel
theorem tyJ9_ok : ∀ k, k < 0 → parseFieldDescriptor (TJ9 k).2.2.1 = some (tyJ9 k) := by decide +kernel
abbrev cJ9_abs_0f7a4 : ByteArray := prog_11_method_59_code
def yJ9_abs_0f7a4 : MethodName := ⟨RJ9, "abs", "(I)I"⟩
def RL : String := "WordAnchorsLaw"
abbrev cL_cell : ByteArray := method_2_code
def yL_cell : MethodName := ⟨RL, "cell", "([II)I"⟩
abbrev cL_holds : ByteArray := method_3_code
def yL_holds : MethodName := ⟨RL, "holds", "(LWordAnchors;)Z"⟩
abbrev cL_moves : ByteArray := method_4_code
def yL_moves : MethodName := ⟨RL, "moves", "(LWordAnchors;III)Z"⟩
abbrev cL_acts : ByteArray := method_5_code
def yL_acts : MethodName := ⟨RL, "acts", "(LWordAnchors;I)Z"⟩
abbrev cL_law : ByteArray := code
def yL_law : MethodName := ⟨RL, "law", "([I)Z"⟩
def wsX0_init : List Cond := .code yX0_init cX0_init 1 none :: ([.methodLink RX0 3 objectInit, .instanceMethod objectInit, .code objectInit ⟨#[0xb1]⟩ 1 none, .arrayClass .int, .fieldLink RX0 9 "WordAnchors$Anchor" "things" "[I"] ++ wsX00)
def wsX0_place : List Cond := .code yX0_place cX0_place 1 (some .int) :: ([.fieldLink RX0 15 "WordAnchors$Anchor" "place" "I"] ++ wsX00)
def wsX0_truePlace : List Cond := .code yX0_truePlace cX0_truePlace 1 (some .int) :: ([.fieldLink RX0 19 "WordAnchors$Anchor" "truePlace" "I"] ++ wsX00)
def wsX0_thing : List Cond := .code yX0_thing cX0_thing 2 (some .int) :: ([.fieldLink RX0 9 "WordAnchors$Anchor" "things" "[I"] ++ wsX00)
def wsX0_goTo : List Cond := .code yX0_goTo cX0_goTo 2 none :: ([.fieldLink RX0 15 "WordAnchors$Anchor" "place" "I"] ++ wsX00)
def wsX4_at : List Cond := .code yX4_at cX4_at 2 (some .int) :: ([.fieldLink RX4 21 "WordAnchors$Row" "size" "I", .fieldLink RX4 9 "WordAnchors$Row" "words" "[I"] ++ wsX40)
def wsX0_look : List Cond := .code yX0_look cX0_look 5 (some .int) :: ([.fieldLink RX0 9 "WordAnchors$Anchor" "things" "[I", .fieldLink RX0 15 "WordAnchors$Anchor" "place" "I", .fieldLink RX0 19 "WordAnchors$Anchor" "truePlace" "I", .methodLink RX0 30 yX4_at, .instanceMethod yX4_at, .selects RX4 yX4_at yX4_at, .initialized RX4, .code yX4_at cX4_at 2 (some .int), .fieldLink RX4 21 "WordAnchors$Row" "size" "I", .fieldLink RX4 9 "WordAnchors$Row" "words" "[I"] ++ wsX00 ++ wsX40)
def wsX0_setAt : List Cond := .code yX0_setAt cX0_setAt 3 none :: ([.methodLink RX0 22 yX0_goTo, .instanceMethod yX0_goTo, .selects RX0 yX0_goTo yX0_goTo, .initialized RX0, .code yX0_goTo cX0_goTo 2 none, .fieldLink RX0 15 "WordAnchors$Anchor" "place" "I", .methodLink RX0 26 yX0_look, .instanceMethod yX0_look, .selects RX0 yX0_look yX0_look, .code yX0_look cX0_look 5 (some .int), .fieldLink RX0 9 "WordAnchors$Anchor" "things" "[I", .fieldLink RX0 19 "WordAnchors$Anchor" "truePlace" "I", .methodLink RX0 30 yX4_at, .instanceMethod yX4_at, .selects RX4 yX4_at yX4_at, .initialized RX4, .code yX4_at cX4_at 2 (some .int), .fieldLink RX4 21 "WordAnchors$Row" "size" "I", .fieldLink RX4 9 "WordAnchors$Row" "words" "[I"] ++ wsX00 ++ wsX40)
def wsX4_targetOf : List Cond := .code yX4_targetOf cX4_targetOf 2 (some .int) :: ([.fieldLink RX4 15 "WordAnchors$Row" "targets" "[I"] ++ wsX40)
def wsX0_followWord : List Cond := .code yX0_followWord cX0_followWord 2 none :: ([.fieldLink RX0 19 "WordAnchors$Anchor" "truePlace" "I", .methodLink RX0 36 yX4_targetOf, .instanceMethod yX4_targetOf, .selects RX4 yX4_targetOf yX4_targetOf, .initialized RX4, .code yX4_targetOf cX4_targetOf 2 (some .int), .fieldLink RX4 15 "WordAnchors$Row" "targets" "[I"] ++ wsX00 ++ wsX40)
def wsX0_copyFrom : List Cond := .code yX0_copyFrom cX0_copyFrom 3 none :: ([.fieldLink RX0 15 "WordAnchors$Anchor" "place" "I", .fieldLink RX0 19 "WordAnchors$Anchor" "truePlace" "I", .fieldLink RX0 9 "WordAnchors$Anchor" "things" "[I", .methodLink RX0 39 yX0_thing, .instanceMethod yX0_thing, .selects RX0 yX0_thing yX0_thing, .initialized RX0, .code yX0_thing cX0_thing 2 (some .int)] ++ wsX00)
def wsX1_init : List Cond := .code yX1_init cX1_init 1 none :: ([.methodLink RX1 3 objectInit, .instanceMethod objectInit, .code objectInit ⟨#[0xb1]⟩ 1 none, .arrayClass .int, .fieldLink RX1 9 "WordAnchors$Blocks" "shifts" "[I", .fieldLink RX1 15 "WordAnchors$Blocks" "members" "[I"] ++ wsX10)
def wsX1_membersOf : List Cond := .code yX1_membersOf cX1_membersOf 2 (some .int) :: ([.fieldLink RX1 18 "WordAnchors$Blocks" "size" "I", .fieldLink RX1 15 "WordAnchors$Blocks" "members" "[I"] ++ wsX10)
def wsX1_shiftOf : List Cond := .code yX1_shiftOf cX1_shiftOf 2 (some .int) :: ([.fieldLink RX1 18 "WordAnchors$Blocks" "size" "I", .fieldLink RX1 9 "WordAnchors$Blocks" "shifts" "[I"] ++ wsX10)
def wsX5_anchorCount : List Cond := .code yX5_anchorCount cX5_anchorCount 1 (some .int) :: ([.fieldLink RX5 29 "WordAnchors$State" "anchorCount" "I"] ++ wsX50)
def wsX5_anchorNumbered : List Cond := .code yX5_anchorNumbered cX5_anchorNumbered 2 (some (.object "WordAnchors$Anchor")) :: ([.fieldLink RX5 29 "WordAnchors$State" "anchorCount" "I", .fieldLink RX5 20 "WordAnchors$State" "anchors" "[LWordAnchors$Anchor;"] ++ wsX50)
def wsX4_size : List Cond := .code yX4_size cX4_size 1 (some .int) :: ([.fieldLink RX4 21 "WordAnchors$Row" "size" "I"] ++ wsX40)
def wsX5_setting : List Cond := .code yX5_setting cX5_setting 2 (some .int) :: ([.fieldLink RX5 24 "WordAnchors$State" "settings" "[I"] ++ wsX50)
def wsX5_scoreOf : List Cond := .code yX5_scoreOf cX5_scoreOf 6 (some .int) :: ([.fieldLink RX5 12 "WordAnchors$State" "row" "LWordAnchors$Row;", .methodLink RX5 77 Lib.Math.abs.name, .static Lib.Math.abs.name, .initialized "java/lang/Math", .code Lib.Math.abs.name Lib.Math.abs.code 1 (some .int), .methodLink RX5 70 yX0_thing, .instanceMethod yX0_thing, .selects RX0 yX0_thing yX0_thing, .initialized RX0, .code yX0_thing cX0_thing 2 (some .int), .fieldLink RX0 9 "WordAnchors$Anchor" "things" "[I", .methodLink RX5 74 yX4_at, .instanceMethod yX4_at, .selects RX4 yX4_at yX4_at, .initialized RX4, .code yX4_at cX4_at 2 (some .int), .fieldLink RX4 21 "WordAnchors$Row" "size" "I", .fieldLink RX4 9 "WordAnchors$Row" "words" "[I", .methodLink RX5 82 yX5_setting, .instanceMethod yX5_setting, .selects RX5 yX5_setting yX5_setting, .initialized RX5, .code yX5_setting cX5_setting 2 (some .int), .fieldLink RX5 24 "WordAnchors$State" "settings" "[I"] ++ wsX50 ++ wsX00 ++ wsX40)
def wsX5_bestPlaceBut_r1 : List Cond := [Cond.fieldLink RX5 12 "WordAnchors$State" "row" "LWordAnchors$Row;", Cond.methodLink RX5 77 Lib.Math.abs.name, Cond.static Lib.Math.abs.name, Cond.initialized "java/lang/Math", Cond.code Lib.Math.abs.name Lib.Math.abs.code 1 (some .int), Cond.methodLink RX5 93 yX4_size, Cond.instanceMethod yX4_size, Cond.selects RX4 yX4_size yX4_size, Cond.initialized RX4, Cond.code yX4_size cX4_size 1 (some .int), Cond.fieldLink RX4 21 "WordAnchors$Row" "size" "I", Cond.methodLink RX5 97 yX5_scoreOf, Cond.instanceMethod yX5_scoreOf, Cond.selects RX5 yX5_scoreOf yX5_scoreOf, Cond.initialized RX5, Cond.code yX5_scoreOf cX5_scoreOf 6 (some .int), Cond.methodLink RX5 70 yX0_thing, Cond.instanceMethod yX0_thing, Cond.selects RX0 yX0_thing yX0_thing, Cond.initialized RX0, Cond.code yX0_thing cX0_thing 2 (some .int), Cond.fieldLink RX0 9 "WordAnchors$Anchor" "things" "[I", Cond.methodLink RX5 74 yX4_at, Cond.instanceMethod yX4_at]
def wsX5_bestPlaceBut_r2 : List Cond := [Cond.selects RX4 yX4_at yX4_at, Cond.code yX4_at cX4_at 2 (some .int), Cond.fieldLink RX4 9 "WordAnchors$Row" "words" "[I", Cond.methodLink RX5 82 yX5_setting, Cond.instanceMethod yX5_setting, Cond.selects RX5 yX5_setting yX5_setting, Cond.code yX5_setting cX5_setting 2 (some .int), Cond.fieldLink RX5 24 "WordAnchors$State" "settings" "[I", Cond.methodLink RX5 100 yX0_place, Cond.instanceMethod yX0_place, Cond.selects RX0 yX0_place yX0_place, Cond.code yX0_place cX0_place 1 (some .int), Cond.fieldLink RX0 15 "WordAnchors$Anchor" "place" "I"]
def wsX5_bestPlaceBut : List Cond := .code yX5_bestPlaceBut cX5_bestPlaceBut 10 (some .int) :: ((wsX5_bestPlaceBut_r1 ++ wsX5_bestPlaceBut_r2) ++ wsX50 ++ wsX40 ++ wsX00)
def wsX5_bestPlace_r1 : List Cond := [Cond.methodLink RX5 85 yX5_bestPlaceBut, Cond.instanceMethod yX5_bestPlaceBut, Cond.selects RX5 yX5_bestPlaceBut yX5_bestPlaceBut, Cond.initialized RX5, Cond.code yX5_bestPlaceBut cX5_bestPlaceBut 10 (some .int), Cond.fieldLink RX5 12 "WordAnchors$State" "row" "LWordAnchors$Row;", Cond.methodLink RX5 77 Lib.Math.abs.name, Cond.static Lib.Math.abs.name, Cond.initialized "java/lang/Math", Cond.code Lib.Math.abs.name Lib.Math.abs.code 1 (some .int), Cond.methodLink RX5 93 yX4_size, Cond.instanceMethod yX4_size, Cond.selects RX4 yX4_size yX4_size, Cond.initialized RX4, Cond.code yX4_size cX4_size 1 (some .int), Cond.fieldLink RX4 21 "WordAnchors$Row" "size" "I", Cond.methodLink RX5 97 yX5_scoreOf, Cond.instanceMethod yX5_scoreOf, Cond.selects RX5 yX5_scoreOf yX5_scoreOf, Cond.code yX5_scoreOf cX5_scoreOf 6 (some .int), Cond.methodLink RX5 70 yX0_thing, Cond.instanceMethod yX0_thing, Cond.selects RX0 yX0_thing yX0_thing, Cond.initialized RX0]
def wsX5_bestPlace_r2 : List Cond := [Cond.code yX0_thing cX0_thing 2 (some .int), Cond.fieldLink RX0 9 "WordAnchors$Anchor" "things" "[I", Cond.methodLink RX5 74 yX4_at, Cond.instanceMethod yX4_at, Cond.selects RX4 yX4_at yX4_at, Cond.code yX4_at cX4_at 2 (some .int), Cond.fieldLink RX4 9 "WordAnchors$Row" "words" "[I", Cond.methodLink RX5 82 yX5_setting, Cond.instanceMethod yX5_setting, Cond.selects RX5 yX5_setting yX5_setting, Cond.code yX5_setting cX5_setting 2 (some .int), Cond.fieldLink RX5 24 "WordAnchors$State" "settings" "[I", Cond.methodLink RX5 100 yX0_place, Cond.instanceMethod yX0_place, Cond.selects RX0 yX0_place yX0_place, Cond.code yX0_place cX0_place 1 (some .int), Cond.fieldLink RX0 15 "WordAnchors$Anchor" "place" "I"]
def wsX5_bestPlace : List Cond := .code yX5_bestPlace cX5_bestPlace 2 (some .int) :: ((wsX5_bestPlace_r1 ++ wsX5_bestPlace_r2) ++ wsX50 ++ wsX40 ++ wsX00)
def wsX5_isLost_r1 : List Cond := [Cond.methodLink RX5 97 yX5_scoreOf, Cond.instanceMethod yX5_scoreOf, Cond.selects RX5 yX5_scoreOf yX5_scoreOf, Cond.initialized RX5, Cond.code yX5_scoreOf cX5_scoreOf 6 (some .int), Cond.fieldLink RX5 12 "WordAnchors$State" "row" "LWordAnchors$Row;", Cond.methodLink RX5 77 Lib.Math.abs.name, Cond.static Lib.Math.abs.name, Cond.initialized "java/lang/Math", Cond.code Lib.Math.abs.name Lib.Math.abs.code 1 (some .int), Cond.methodLink RX5 70 yX0_thing, Cond.instanceMethod yX0_thing, Cond.selects RX0 yX0_thing yX0_thing, Cond.initialized RX0, Cond.code yX0_thing cX0_thing 2 (some .int), Cond.fieldLink RX0 9 "WordAnchors$Anchor" "things" "[I", Cond.methodLink RX5 74 yX4_at, Cond.instanceMethod yX4_at, Cond.selects RX4 yX4_at yX4_at, Cond.initialized RX4, Cond.code yX4_at cX4_at 2 (some .int), Cond.fieldLink RX4 21 "WordAnchors$Row" "size" "I", Cond.fieldLink RX4 9 "WordAnchors$Row" "words" "[I", Cond.methodLink RX5 82 yX5_setting]
def wsX5_isLost_r2 : List Cond := [Cond.instanceMethod yX5_setting, Cond.selects RX5 yX5_setting yX5_setting, Cond.code yX5_setting cX5_setting 2 (some .int), Cond.fieldLink RX5 24 "WordAnchors$State" "settings" "[I"]
def wsX5_isLost : List Cond := .code yX5_isLost cX5_isLost 3 (some .boolean) :: ((wsX5_isLost_r1 ++ wsX5_isLost_r2) ++ wsX50 ++ wsX00 ++ wsX40)
def wsX5_shiftOf_r1 : List Cond := [Cond.methodLink RX5 89 yX5_bestPlace, Cond.instanceMethod yX5_bestPlace, Cond.selects RX5 yX5_bestPlace yX5_bestPlace, Cond.initialized RX5, Cond.code yX5_bestPlace cX5_bestPlace 2 (some .int), Cond.methodLink RX5 85 yX5_bestPlaceBut, Cond.instanceMethod yX5_bestPlaceBut, Cond.selects RX5 yX5_bestPlaceBut yX5_bestPlaceBut, Cond.code yX5_bestPlaceBut cX5_bestPlaceBut 10 (some .int), Cond.fieldLink RX5 12 "WordAnchors$State" "row" "LWordAnchors$Row;", Cond.methodLink RX5 77 Lib.Math.abs.name, Cond.static Lib.Math.abs.name, Cond.initialized "java/lang/Math", Cond.code Lib.Math.abs.name Lib.Math.abs.code 1 (some .int), Cond.methodLink RX5 93 yX4_size, Cond.instanceMethod yX4_size, Cond.selects RX4 yX4_size yX4_size, Cond.initialized RX4, Cond.code yX4_size cX4_size 1 (some .int), Cond.fieldLink RX4 21 "WordAnchors$Row" "size" "I", Cond.methodLink RX5 97 yX5_scoreOf, Cond.instanceMethod yX5_scoreOf, Cond.selects RX5 yX5_scoreOf yX5_scoreOf, Cond.code yX5_scoreOf cX5_scoreOf 6 (some .int)]
def wsX5_shiftOf_r2 : List Cond := [Cond.methodLink RX5 70 yX0_thing, Cond.instanceMethod yX0_thing, Cond.selects RX0 yX0_thing yX0_thing, Cond.initialized RX0, Cond.code yX0_thing cX0_thing 2 (some .int), Cond.fieldLink RX0 9 "WordAnchors$Anchor" "things" "[I", Cond.methodLink RX5 74 yX4_at, Cond.instanceMethod yX4_at, Cond.selects RX4 yX4_at yX4_at, Cond.code yX4_at cX4_at 2 (some .int), Cond.fieldLink RX4 9 "WordAnchors$Row" "words" "[I", Cond.methodLink RX5 82 yX5_setting, Cond.instanceMethod yX5_setting, Cond.selects RX5 yX5_setting yX5_setting, Cond.code yX5_setting cX5_setting 2 (some .int), Cond.fieldLink RX5 24 "WordAnchors$State" "settings" "[I", Cond.methodLink RX5 100 yX0_place, Cond.instanceMethod yX0_place, Cond.selects RX0 yX0_place yX0_place, Cond.code yX0_place cX0_place 1 (some .int), Cond.fieldLink RX0 15 "WordAnchors$Anchor" "place" "I", Cond.methodLink RX5 103 yX5_isLost, Cond.instanceMethod yX5_isLost, Cond.selects RX5 yX5_isLost yX5_isLost]
def wsX5_shiftOf_r3 : List Cond := [Cond.code yX5_isLost cX5_isLost 3 (some .boolean)]
def wsX5_shiftOf : List Cond := .code yX5_shiftOf cX5_shiftOf 3 (some .int) :: ((wsX5_shiftOf_r1 ++ (wsX5_shiftOf_r2 ++ wsX5_shiftOf_r3)) ++ wsX50 ++ wsX40 ++ wsX00)
def wsX1_enter : List Cond := .code yX1_enter cX1_enter 4 none :: ([.fieldLink RX1 18 "WordAnchors$Blocks" "size" "I", .fieldLink RX1 9 "WordAnchors$Blocks" "shifts" "[I", .fieldLink RX1 15 "WordAnchors$Blocks" "members" "[I", .methodLink RX1 40 yX1_shiftOf, .instanceMethod yX1_shiftOf, .selects RX1 yX1_shiftOf yX1_shiftOf, .initialized RX1, .code yX1_shiftOf cX1_shiftOf 2 (some .int)] ++ wsX10)
def wsX1_gather_r1 : List Cond := [Cond.fieldLink RX1 18 "WordAnchors$Blocks" "size" "I", Cond.methodLink RX1 22 yX5_anchorCount, Cond.instanceMethod yX5_anchorCount, Cond.selects RX5 yX5_anchorCount yX5_anchorCount, Cond.initialized RX5, Cond.code yX5_anchorCount cX5_anchorCount 1 (some .int), Cond.fieldLink RX5 29 "WordAnchors$State" "anchorCount" "I", Cond.methodLink RX1 28 yX5_anchorNumbered, Cond.instanceMethod yX5_anchorNumbered, Cond.selects RX5 yX5_anchorNumbered yX5_anchorNumbered, Cond.code yX5_anchorNumbered cX5_anchorNumbered 2 (some (.object "WordAnchors$Anchor")), Cond.fieldLink RX5 20 "WordAnchors$State" "anchors" "[LWordAnchors$Anchor;", Cond.methodLink RX1 32 yX5_shiftOf, Cond.instanceMethod yX5_shiftOf, Cond.selects RX5 yX5_shiftOf yX5_shiftOf, Cond.code yX5_shiftOf cX5_shiftOf 3 (some .int), Cond.methodLink RX5 89 yX5_bestPlace, Cond.instanceMethod yX5_bestPlace, Cond.selects RX5 yX5_bestPlace yX5_bestPlace, Cond.code yX5_bestPlace cX5_bestPlace 2 (some .int), Cond.methodLink RX5 85 yX5_bestPlaceBut, Cond.instanceMethod yX5_bestPlaceBut, Cond.selects RX5 yX5_bestPlaceBut yX5_bestPlaceBut, Cond.code yX5_bestPlaceBut cX5_bestPlaceBut 10 (some .int)]
def wsX1_gather_r2 : List Cond := [Cond.fieldLink RX5 12 "WordAnchors$State" "row" "LWordAnchors$Row;", Cond.methodLink RX5 77 Lib.Math.abs.name, Cond.static Lib.Math.abs.name, Cond.initialized "java/lang/Math", Cond.code Lib.Math.abs.name Lib.Math.abs.code 1 (some .int), Cond.methodLink RX5 93 yX4_size, Cond.instanceMethod yX4_size, Cond.selects RX4 yX4_size yX4_size, Cond.initialized RX4, Cond.code yX4_size cX4_size 1 (some .int), Cond.fieldLink RX4 21 "WordAnchors$Row" "size" "I", Cond.methodLink RX5 97 yX5_scoreOf, Cond.instanceMethod yX5_scoreOf, Cond.selects RX5 yX5_scoreOf yX5_scoreOf, Cond.code yX5_scoreOf cX5_scoreOf 6 (some .int), Cond.methodLink RX5 70 yX0_thing, Cond.instanceMethod yX0_thing, Cond.selects RX0 yX0_thing yX0_thing, Cond.initialized RX0, Cond.code yX0_thing cX0_thing 2 (some .int), Cond.fieldLink RX0 9 "WordAnchors$Anchor" "things" "[I", Cond.methodLink RX5 74 yX4_at, Cond.instanceMethod yX4_at, Cond.selects RX4 yX4_at yX4_at]
def wsX1_gather_r3 : List Cond := [Cond.code yX4_at cX4_at 2 (some .int), Cond.fieldLink RX4 9 "WordAnchors$Row" "words" "[I", Cond.methodLink RX5 82 yX5_setting, Cond.instanceMethod yX5_setting, Cond.selects RX5 yX5_setting yX5_setting, Cond.code yX5_setting cX5_setting 2 (some .int), Cond.fieldLink RX5 24 "WordAnchors$State" "settings" "[I", Cond.methodLink RX5 100 yX0_place, Cond.instanceMethod yX0_place, Cond.selects RX0 yX0_place yX0_place, Cond.code yX0_place cX0_place 1 (some .int), Cond.fieldLink RX0 15 "WordAnchors$Anchor" "place" "I", Cond.methodLink RX5 103 yX5_isLost, Cond.instanceMethod yX5_isLost, Cond.selects RX5 yX5_isLost yX5_isLost, Cond.code yX5_isLost cX5_isLost 3 (some .boolean), Cond.methodLink RX1 36 yX1_enter, Cond.instanceMethod yX1_enter, Cond.selects RX1 yX1_enter yX1_enter, Cond.initialized RX1, Cond.code yX1_enter cX1_enter 4 none, Cond.fieldLink RX1 9 "WordAnchors$Blocks" "shifts" "[I", Cond.fieldLink RX1 15 "WordAnchors$Blocks" "members" "[I", Cond.methodLink RX1 40 yX1_shiftOf]
def wsX1_gather_r4 : List Cond := [Cond.instanceMethod yX1_shiftOf, Cond.selects RX1 yX1_shiftOf yX1_shiftOf, Cond.code yX1_shiftOf cX1_shiftOf 2 (some .int)]
def wsX1_gather : List Cond := .code yX1_gather cX1_gather 4 none :: ((wsX1_gather_r1 ++ (wsX1_gather_r2 ++ (wsX1_gather_r3 ++ wsX1_gather_r4))) ++ wsX10 ++ wsX50 ++ wsX40 ++ wsX00)
def wsJ6_bitCount_0f7a4 : List Cond := .code yJ6_bitCount_0f7a4 cJ6_bitCount_0f7a4 1 (some .int) :: ([.constant RJ6 265 (1431655765), .constant RJ6 266 (858993459), .constant RJ6 267 (252645135)])
def wsX1_isAhead : List Cond := .code yX1_isAhead cX1_isAhead 4 (some .boolean) :: ([.methodLink RX1 50 yX1_membersOf, .instanceMethod yX1_membersOf, .selects RX1 yX1_membersOf yX1_membersOf, .initialized RX1, .code yX1_membersOf cX1_membersOf 2 (some .int), .fieldLink RX1 18 "WordAnchors$Blocks" "size" "I", .fieldLink RX1 15 "WordAnchors$Blocks" "members" "[I", .methodLink RX1 53 yJ6_bitCount_0f7a4, .static yJ6_bitCount_0f7a4, .initialized RJ6, .code yJ6_bitCount_0f7a4 cJ6_bitCount_0f7a4 1 (some .int), .constant RJ6 265 (1431655765), .constant RJ6 266 (858993459), .constant RJ6 267 (252645135), .methodLink RX1 40 yX1_shiftOf, .instanceMethod yX1_shiftOf, .selects RX1 yX1_shiftOf yX1_shiftOf, .code yX1_shiftOf cX1_shiftOf 2 (some .int), .fieldLink RX1 9 "WordAnchors$Blocks" "shifts" "[I"] ++ wsX10)
def wsX1_blocksAheadOf : List Cond := .code yX1_blocksAheadOf cX1_blocksAheadOf 4 (some .int) :: ([.fieldLink RX1 18 "WordAnchors$Blocks" "size" "I", .methodLink RX1 46 yX1_isAhead, .instanceMethod yX1_isAhead, .selects RX1 yX1_isAhead yX1_isAhead, .initialized RX1, .code yX1_isAhead cX1_isAhead 4 (some .boolean), .methodLink RX1 50 yX1_membersOf, .instanceMethod yX1_membersOf, .selects RX1 yX1_membersOf yX1_membersOf, .code yX1_membersOf cX1_membersOf 2 (some .int), .fieldLink RX1 15 "WordAnchors$Blocks" "members" "[I", .methodLink RX1 53 yJ6_bitCount_0f7a4, .static yJ6_bitCount_0f7a4, .initialized RJ6, .code yJ6_bitCount_0f7a4 cJ6_bitCount_0f7a4 1 (some .int), .constant RJ6 265 (1431655765), .constant RJ6 266 (858993459), .constant RJ6 267 (252645135), .methodLink RX1 40 yX1_shiftOf, .instanceMethod yX1_shiftOf, .selects RX1 yX1_shiftOf yX1_shiftOf, .code yX1_shiftOf cX1_shiftOf 2 (some .int), .fieldLink RX1 9 "WordAnchors$Blocks" "shifts" "[I"] ++ wsX10)
def wsX1_inOrder_r1 : List Cond := [Cond.fieldLink RX1 18 "WordAnchors$Blocks" "size" "I", Cond.methodLink RX1 43 yX1_blocksAheadOf, Cond.instanceMethod yX1_blocksAheadOf, Cond.selects RX1 yX1_blocksAheadOf yX1_blocksAheadOf, Cond.initialized RX1, Cond.code yX1_blocksAheadOf cX1_blocksAheadOf 4 (some .int), Cond.methodLink RX1 46 yX1_isAhead, Cond.instanceMethod yX1_isAhead, Cond.selects RX1 yX1_isAhead yX1_isAhead, Cond.code yX1_isAhead cX1_isAhead 4 (some .boolean), Cond.methodLink RX1 50 yX1_membersOf, Cond.instanceMethod yX1_membersOf, Cond.selects RX1 yX1_membersOf yX1_membersOf, Cond.code yX1_membersOf cX1_membersOf 2 (some .int), Cond.fieldLink RX1 15 "WordAnchors$Blocks" "members" "[I", Cond.methodLink RX1 53 yJ6_bitCount_0f7a4, Cond.static yJ6_bitCount_0f7a4, Cond.initialized RJ6, Cond.code yJ6_bitCount_0f7a4 cJ6_bitCount_0f7a4 1 (some .int), Cond.constant RJ6 265 (1431655765), Cond.constant RJ6 266 (858993459), Cond.constant RJ6 267 (252645135), Cond.methodLink RX1 40 yX1_shiftOf, Cond.instanceMethod yX1_shiftOf]
def wsX1_inOrder_r2 : List Cond := [Cond.selects RX1 yX1_shiftOf yX1_shiftOf, Cond.code yX1_shiftOf cX1_shiftOf 2 (some .int), Cond.fieldLink RX1 9 "WordAnchors$Blocks" "shifts" "[I"]
def wsX1_inOrder : List Cond := .code yX1_inOrder cX1_inOrder 3 (some .int) :: ((wsX1_inOrder_r1 ++ wsX1_inOrder_r2) ++ wsX10)
def wsX2_init : List Cond := .code yX2_init cX2_init 1 none :: ([.methodLink RX2 3 objectInit, .instanceMethod objectInit, .code objectInit ⟨#[0xb1]⟩ 1 none, .arrayClass .char, .fieldLink RX2 9 "WordAnchors$EditText" "characters" "[C", .arrayClass .int, .fieldLink RX2 15 "WordAnchors$EditText" "numbers" "[I"] ++ wsX20)
def wsX2_length : List Cond := .code yX2_length cX2_length 1 (some .int) :: ([.fieldLink RX2 19 "WordAnchors$EditText" "length" "I"] ++ wsX20)
def wsX4_init : List Cond := .code yX4_init cX4_init 1 none :: ([.methodLink RX4 3 objectInit, .instanceMethod objectInit, .code objectInit ⟨#[0xb1]⟩ 1 none, .arrayClass .int, .fieldLink RX4 9 "WordAnchors$Row" "words" "[I", .fieldLink RX4 15 "WordAnchors$Row" "targets" "[I", .fieldLink RX4 18 "WordAnchors$Row" "relocated" "[I"] ++ wsX40)
def wsX5_init : List Cond := .code yX5_init cX5_init 2 none :: ([.methodLink RX5 3 objectInit, .instanceMethod objectInit, .code objectInit ⟨#[0xb1]⟩ 1 none, .classLink RX5 9 RX4, .instantiable RX4 4, .initialized RX4, .fieldLink RX5 12 "WordAnchors$State" "row" "LWordAnchors$Row;", .classLink RX5 18 RX0, .fieldLink RX5 20 "WordAnchors$State" "anchors" "[LWordAnchors$Anchor;", .arrayClass .int, .fieldLink RX5 24 "WordAnchors$State" "settings" "[I", .instantiable RX0 3, .initialized RX0, .instanceMethod yX4_init, .code yX4_init cX4_init 1 none, .methodLink RX4 3 objectInit, .fieldLink RX4 9 "WordAnchors$Row" "words" "[I", .fieldLink RX4 15 "WordAnchors$Row" "targets" "[I", .fieldLink RX4 18 "WordAnchors$Row" "relocated" "[I", .instanceMethod yX0_init, .code yX0_init cX0_init 1 none, .methodLink RX0 3 objectInit, .fieldLink RX0 9 "WordAnchors$Anchor" "things" "[I"] ++ wsX40 ++ wsX50 ++ wsX00)
def wsX3_init_r1 : List Cond := [Cond.methodLink RX3 3 objectInit, Cond.instanceMethod objectInit, Cond.code objectInit ⟨#[0xb1]⟩ 1 none, Cond.classLink RX3 9 RX5, Cond.fieldLink RX3 11 "WordAnchors$History" "states" "[LWordAnchors$State;", Cond.instantiable RX5 5, Cond.initialized RX5, Cond.methodLink RX3 17 yX5_init, Cond.instanceMethod yX5_init, Cond.code yX5_init cX5_init 2 none, Cond.methodLink RX5 3 objectInit, Cond.classLink RX5 9 RX4, Cond.instantiable RX4 4, Cond.initialized RX4, Cond.fieldLink RX5 12 "WordAnchors$State" "row" "LWordAnchors$Row;", Cond.classLink RX5 18 RX0, Cond.fieldLink RX5 20 "WordAnchors$State" "anchors" "[LWordAnchors$Anchor;", Cond.arrayClass .int, Cond.fieldLink RX5 24 "WordAnchors$State" "settings" "[I", Cond.instantiable RX0 3, Cond.initialized RX0, Cond.instanceMethod yX4_init, Cond.code yX4_init cX4_init 1 none, Cond.methodLink RX4 3 objectInit]
def wsX3_init_r2 : List Cond := [Cond.fieldLink RX4 9 "WordAnchors$Row" "words" "[I", Cond.fieldLink RX4 15 "WordAnchors$Row" "targets" "[I", Cond.fieldLink RX4 18 "WordAnchors$Row" "relocated" "[I", Cond.instanceMethod yX0_init, Cond.code yX0_init cX0_init 1 none, Cond.methodLink RX0 3 objectInit, Cond.fieldLink RX0 9 "WordAnchors$Anchor" "things" "[I"]
def wsX3_init : List Cond := .code yX3_init cX3_init 2 none :: ((wsX3_init_r1 ++ wsX3_init_r2) ++ wsX30 ++ wsX50 ++ wsX40 ++ wsX00)
def wsX3_size : List Cond := .code yX3_size cX3_size 1 (some .int) :: ([.fieldLink RX3 18 "WordAnchors$History" "size" "I"] ++ wsX30)
def wsX3_fromOldest : List Cond := .code yX3_fromOldest cX3_fromOldest 3 (some (.object "WordAnchors$State")) :: ([.fieldLink RX3 22 "WordAnchors$History" "oldest" "I", .fieldLink RX3 11 "WordAnchors$History" "states" "[LWordAnchors$State;"] ++ wsX30)
def wsX4_copyFrom : List Cond := .code yX4_copyFrom cX4_copyFrom 3 none :: ([.fieldLink RX4 9 "WordAnchors$Row" "words" "[I", .fieldLink RX4 21 "WordAnchors$Row" "size" "I", .methodLink RX4 59 yX4_at, .instanceMethod yX4_at, .selects RX4 yX4_at yX4_at, .initialized RX4, .code yX4_at cX4_at 2 (some .int)] ++ wsX40)
def wsX5_copyFrom_r1 : List Cond := [Cond.fieldLink RX5 12 "WordAnchors$State" "row" "LWordAnchors$Row;", Cond.fieldLink RX5 29 "WordAnchors$State" "anchorCount" "I", Cond.fieldLink RX5 24 "WordAnchors$State" "settings" "[I", Cond.fieldLink RX5 33 "WordAnchors$State" "edits" "I", Cond.methodLink RX5 152 yX4_copyFrom, Cond.instanceMethod yX4_copyFrom, Cond.selects RX4 yX4_copyFrom yX4_copyFrom, Cond.initialized RX4, Cond.code yX4_copyFrom cX4_copyFrom 3 none, Cond.fieldLink RX4 9 "WordAnchors$Row" "words" "[I", Cond.fieldLink RX4 21 "WordAnchors$Row" "size" "I", Cond.methodLink RX4 59 yX4_at, Cond.instanceMethod yX4_at, Cond.selects RX4 yX4_at yX4_at, Cond.code yX4_at cX4_at 2 (some .int), Cond.methodLink RX5 36 yX5_anchorNumbered, Cond.instanceMethod yX5_anchorNumbered, Cond.selects RX5 yX5_anchorNumbered yX5_anchorNumbered, Cond.initialized RX5, Cond.code yX5_anchorNumbered cX5_anchorNumbered 2 (some (.object "WordAnchors$Anchor")), Cond.fieldLink RX5 20 "WordAnchors$State" "anchors" "[LWordAnchors$Anchor;", Cond.methodLink RX5 44 yX0_copyFrom, Cond.instanceMethod yX0_copyFrom, Cond.selects RX0 yX0_copyFrom yX0_copyFrom]
def wsX5_copyFrom_r2 : List Cond := [Cond.initialized RX0, Cond.code yX0_copyFrom cX0_copyFrom 3 none, Cond.fieldLink RX0 15 "WordAnchors$Anchor" "place" "I", Cond.fieldLink RX0 19 "WordAnchors$Anchor" "truePlace" "I", Cond.fieldLink RX0 9 "WordAnchors$Anchor" "things" "[I", Cond.methodLink RX0 39 yX0_thing, Cond.instanceMethod yX0_thing, Cond.selects RX0 yX0_thing yX0_thing, Cond.code yX0_thing cX0_thing 2 (some .int), Cond.methodLink RX5 82 yX5_setting, Cond.instanceMethod yX5_setting, Cond.selects RX5 yX5_setting yX5_setting, Cond.code yX5_setting cX5_setting 2 (some .int)]
def wsX5_copyFrom : List Cond := .code yX5_copyFrom cX5_copyFrom 5 none :: ((wsX5_copyFrom_r1 ++ wsX5_copyFrom_r2) ++ wsX50 ++ wsX40 ++ wsX00)
def wsX3_record_r1 : List Cond := [Cond.fieldLink RX3 18 "WordAnchors$History" "size" "I", Cond.fieldLink RX3 22 "WordAnchors$History" "oldest" "I", Cond.methodLink RX3 25 yX3_fromOldest, Cond.instanceMethod yX3_fromOldest, Cond.selects RX3 yX3_fromOldest yX3_fromOldest, Cond.initialized RX3, Cond.code yX3_fromOldest cX3_fromOldest 3 (some (.object "WordAnchors$State")), Cond.fieldLink RX3 11 "WordAnchors$History" "states" "[LWordAnchors$State;", Cond.methodLink RX3 29 yX5_copyFrom, Cond.instanceMethod yX5_copyFrom, Cond.selects RX5 yX5_copyFrom yX5_copyFrom, Cond.initialized RX5, Cond.code yX5_copyFrom cX5_copyFrom 5 none, Cond.fieldLink RX5 12 "WordAnchors$State" "row" "LWordAnchors$Row;", Cond.fieldLink RX5 29 "WordAnchors$State" "anchorCount" "I", Cond.fieldLink RX5 24 "WordAnchors$State" "settings" "[I", Cond.fieldLink RX5 33 "WordAnchors$State" "edits" "I", Cond.methodLink RX5 152 yX4_copyFrom, Cond.instanceMethod yX4_copyFrom, Cond.selects RX4 yX4_copyFrom yX4_copyFrom, Cond.initialized RX4, Cond.code yX4_copyFrom cX4_copyFrom 3 none, Cond.fieldLink RX4 9 "WordAnchors$Row" "words" "[I", Cond.fieldLink RX4 21 "WordAnchors$Row" "size" "I"]
def wsX3_record_r2 : List Cond := [Cond.methodLink RX4 59 yX4_at, Cond.instanceMethod yX4_at, Cond.selects RX4 yX4_at yX4_at, Cond.code yX4_at cX4_at 2 (some .int), Cond.methodLink RX5 36 yX5_anchorNumbered, Cond.instanceMethod yX5_anchorNumbered, Cond.selects RX5 yX5_anchorNumbered yX5_anchorNumbered, Cond.code yX5_anchorNumbered cX5_anchorNumbered 2 (some (.object "WordAnchors$Anchor")), Cond.fieldLink RX5 20 "WordAnchors$State" "anchors" "[LWordAnchors$Anchor;", Cond.methodLink RX5 44 yX0_copyFrom, Cond.instanceMethod yX0_copyFrom, Cond.selects RX0 yX0_copyFrom yX0_copyFrom, Cond.initialized RX0, Cond.code yX0_copyFrom cX0_copyFrom 3 none, Cond.fieldLink RX0 15 "WordAnchors$Anchor" "place" "I", Cond.fieldLink RX0 19 "WordAnchors$Anchor" "truePlace" "I", Cond.fieldLink RX0 9 "WordAnchors$Anchor" "things" "[I", Cond.methodLink RX0 39 yX0_thing, Cond.instanceMethod yX0_thing, Cond.selects RX0 yX0_thing yX0_thing, Cond.code yX0_thing cX0_thing 2 (some .int), Cond.methodLink RX5 82 yX5_setting, Cond.instanceMethod yX5_setting, Cond.selects RX5 yX5_setting yX5_setting]
def wsX3_record_r3 : List Cond := [Cond.code yX5_setting cX5_setting 2 (some .int)]
def wsX3_record : List Cond := .code yX3_record cX3_record 3 none :: ((wsX3_record_r1 ++ (wsX3_record_r2 ++ wsX3_record_r3)) ++ wsX30 ++ wsX50 ++ wsX40 ++ wsX00)
def wsX3_latest : List Cond := .code yX3_latest cX3_latest 1 (some (.object "WordAnchors$State")) :: ([.fieldLink RX3 18 "WordAnchors$History" "size" "I", .methodLink RX3 25 yX3_fromOldest, .instanceMethod yX3_fromOldest, .selects RX3 yX3_fromOldest yX3_fromOldest, .initialized RX3, .code yX3_fromOldest cX3_fromOldest 3 (some (.object "WordAnchors$State")), .fieldLink RX3 22 "WordAnchors$History" "oldest" "I", .fieldLink RX3 11 "WordAnchors$History" "states" "[LWordAnchors$State;"] ++ wsX30)
def wsX3_forgetLatest : List Cond := .code yX3_forgetLatest cX3_forgetLatest 1 none :: ([.fieldLink RX3 18 "WordAnchors$History" "size" "I"] ++ wsX30)
def wsX4_isFull : List Cond := .code yX4_isFull cX4_isFull 1 (some .boolean) :: ([.fieldLink RX4 21 "WordAnchors$Row" "size" "I", .fieldLink RX4 9 "WordAnchors$Row" "words" "[I"] ++ wsX40)
def wsX4_holds : List Cond := .code yX4_holds cX4_holds 2 (some .boolean) :: ([.fieldLink RX4 21 "WordAnchors$Row" "size" "I", .fieldLink RX4 9 "WordAnchors$Row" "words" "[I"] ++ wsX40)
def wsX4_takesAt : List Cond := .code yX4_takesAt cX4_takesAt 2 (some .boolean) :: ([.fieldLink RX4 21 "WordAnchors$Row" "size" "I"] ++ wsX40)
def wsX4_canShift : List Cond := .code yX4_canShift cX4_canShift 4 (some .boolean) :: ([.fieldLink RX4 21 "WordAnchors$Row" "size" "I", .methodLink RX4 25 yX4_holds, .instanceMethod yX4_holds, .selects RX4 yX4_holds yX4_holds, .initialized RX4, .code yX4_holds cX4_holds 2 (some .boolean), .fieldLink RX4 9 "WordAnchors$Row" "words" "[I"] ++ wsX40)
def wsX4_write : List Cond := .code yX4_write cX4_write 3 none :: ([.fieldLink RX4 9 "WordAnchors$Row" "words" "[I"] ++ wsX40)
def wsX4_relocate : List Cond := .code yX4_relocate cX4_relocate 4 none :: ([.fieldLink RX4 21 "WordAnchors$Row" "size" "I", .fieldLink RX4 9 "WordAnchors$Row" "words" "[I", .fieldLink RX4 18 "WordAnchors$Row" "relocated" "[I", .methodLink RX4 52 yX4_targetOf, .instanceMethod yX4_targetOf, .selects RX4 yX4_targetOf yX4_targetOf, .initialized RX4, .code yX4_targetOf cX4_targetOf 2 (some .int), .fieldLink RX4 15 "WordAnchors$Row" "targets" "[I", .methodLink RX4 40 yX4_write, .instanceMethod yX4_write, .selects RX4 yX4_write yX4_write, .code yX4_write cX4_write 3 none] ++ wsX40)
def wsX4_insert_r1 : List Cond := [Cond.fieldLink RX4 15 "WordAnchors$Row" "targets" "[I", Cond.fieldLink RX4 21 "WordAnchors$Row" "size" "I", Cond.methodLink RX4 29 yX4_takesAt, Cond.instanceMethod yX4_takesAt, Cond.selects RX4 yX4_takesAt yX4_takesAt, Cond.initialized RX4, Cond.code yX4_takesAt cX4_takesAt 2 (some .boolean), Cond.methodLink RX4 32 yX4_isFull, Cond.instanceMethod yX4_isFull, Cond.selects RX4 yX4_isFull yX4_isFull, Cond.code yX4_isFull cX4_isFull 1 (some .boolean), Cond.fieldLink RX4 9 "WordAnchors$Row" "words" "[I", Cond.methodLink RX4 36 yX4_relocate, Cond.instanceMethod yX4_relocate, Cond.selects RX4 yX4_relocate yX4_relocate, Cond.code yX4_relocate cX4_relocate 4 none, Cond.fieldLink RX4 18 "WordAnchors$Row" "relocated" "[I", Cond.methodLink RX4 52 yX4_targetOf, Cond.instanceMethod yX4_targetOf, Cond.selects RX4 yX4_targetOf yX4_targetOf, Cond.code yX4_targetOf cX4_targetOf 2 (some .int), Cond.methodLink RX4 40 yX4_write, Cond.instanceMethod yX4_write, Cond.selects RX4 yX4_write yX4_write]
def wsX4_insert_r2 : List Cond := [Cond.code yX4_write cX4_write 3 none]
def wsX4_insert : List Cond := .code yX4_insert cX4_insert 4 none :: ((wsX4_insert_r1 ++ wsX4_insert_r2) ++ wsX40)
def wsX4_remove : List Cond := .code yX4_remove cX4_remove 4 none :: ([.fieldLink RX4 15 "WordAnchors$Row" "targets" "[I", .fieldLink RX4 21 "WordAnchors$Row" "size" "I", .methodLink RX4 25 yX4_holds, .instanceMethod yX4_holds, .selects RX4 yX4_holds yX4_holds, .initialized RX4, .code yX4_holds cX4_holds 2 (some .boolean), .fieldLink RX4 9 "WordAnchors$Row" "words" "[I", .methodLink RX4 36 yX4_relocate, .instanceMethod yX4_relocate, .selects RX4 yX4_relocate yX4_relocate, .code yX4_relocate cX4_relocate 4 none, .fieldLink RX4 18 "WordAnchors$Row" "relocated" "[I", .methodLink RX4 52 yX4_targetOf, .instanceMethod yX4_targetOf, .selects RX4 yX4_targetOf yX4_targetOf, .code yX4_targetOf cX4_targetOf 2 (some .int), .methodLink RX4 40 yX4_write, .instanceMethod yX4_write, .selects RX4 yX4_write yX4_write, .code yX4_write cX4_write 3 none] ++ wsX40)
def wsX4_replace : List Cond := .code yX4_replace cX4_replace 4 none :: ([.fieldLink RX4 15 "WordAnchors$Row" "targets" "[I", .methodLink RX4 25 yX4_holds, .instanceMethod yX4_holds, .selects RX4 yX4_holds yX4_holds, .initialized RX4, .code yX4_holds cX4_holds 2 (some .boolean), .fieldLink RX4 21 "WordAnchors$Row" "size" "I", .fieldLink RX4 9 "WordAnchors$Row" "words" "[I", .methodLink RX4 40 yX4_write, .instanceMethod yX4_write, .selects RX4 yX4_write yX4_write, .code yX4_write cX4_write 3 none] ++ wsX40)
def wsX4_placeAfterShift : List Cond := .code yX4_placeAfterShift cX4_placeAfterShift 5 (some .int) :: ([])
def wsX4_shift_r1 : List Cond := [Cond.fieldLink RX4 15 "WordAnchors$Row" "targets" "[I", Cond.fieldLink RX4 21 "WordAnchors$Row" "size" "I", Cond.methodLink RX4 44 yX4_canShift, Cond.instanceMethod yX4_canShift, Cond.selects RX4 yX4_canShift yX4_canShift, Cond.initialized RX4, Cond.code yX4_canShift cX4_canShift 4 (some .boolean), Cond.methodLink RX4 25 yX4_holds, Cond.instanceMethod yX4_holds, Cond.selects RX4 yX4_holds yX4_holds, Cond.code yX4_holds cX4_holds 2 (some .boolean), Cond.fieldLink RX4 9 "WordAnchors$Row" "words" "[I", Cond.methodLink RX4 48 yX4_placeAfterShift, Cond.static yX4_placeAfterShift, Cond.code yX4_placeAfterShift cX4_placeAfterShift 5 (some .int), Cond.methodLink RX4 36 yX4_relocate, Cond.instanceMethod yX4_relocate, Cond.selects RX4 yX4_relocate yX4_relocate, Cond.code yX4_relocate cX4_relocate 4 none, Cond.fieldLink RX4 18 "WordAnchors$Row" "relocated" "[I", Cond.methodLink RX4 52 yX4_targetOf, Cond.instanceMethod yX4_targetOf, Cond.selects RX4 yX4_targetOf yX4_targetOf, Cond.code yX4_targetOf cX4_targetOf 2 (some .int)]
def wsX4_shift_r2 : List Cond := [Cond.methodLink RX4 40 yX4_write, Cond.instanceMethod yX4_write, Cond.selects RX4 yX4_write yX4_write, Cond.code yX4_write cX4_write 3 none]
def wsX4_shift : List Cond := .code yX4_shift cX4_shift 5 none :: ((wsX4_shift_r1 ++ wsX4_shift_r2) ++ wsX40)
def wsX4_wordsElsewhere : List Cond := .code yX4_wordsElsewhere cX4_wordsElsewhere 3 (some .int) :: ([.fieldLink RX4 21 "WordAnchors$Row" "size" "I", .methodLink RX4 52 yX4_targetOf, .instanceMethod yX4_targetOf, .selects RX4 yX4_targetOf yX4_targetOf, .initialized RX4, .code yX4_targetOf cX4_targetOf 2 (some .int), .fieldLink RX4 15 "WordAnchors$Row" "targets" "[I"] ++ wsX40)
def wsX4_standsAhead : List Cond := .code yX4_standsAhead cX4_standsAhead 3 (some .boolean) :: ([.methodLink RX4 59 yX4_at, .instanceMethod yX4_at, .selects RX4 yX4_at yX4_at, .initialized RX4, .code yX4_at cX4_at 2 (some .int), .fieldLink RX4 21 "WordAnchors$Row" "size" "I", .fieldLink RX4 9 "WordAnchors$Row" "words" "[I"] ++ wsX40)
def wsX4_unlikeWords : List Cond := .code yX4_unlikeWords cX4_unlikeWords 3 (some .int) :: ([.fieldLink RX4 21 "WordAnchors$Row" "size" "I", .methodLink RX4 56 yX4_standsAhead, .instanceMethod yX4_standsAhead, .selects RX4 yX4_standsAhead yX4_standsAhead, .initialized RX4, .code yX4_standsAhead cX4_standsAhead 3 (some .boolean), .methodLink RX4 59 yX4_at, .instanceMethod yX4_at, .selects RX4 yX4_at yX4_at, .code yX4_at cX4_at 2 (some .int), .fieldLink RX4 9 "WordAnchors$Row" "words" "[I"] ++ wsX40)
def wsX5_edits : List Cond := .code yX5_edits cX5_edits 1 (some .int) :: ([.fieldLink RX5 33 "WordAnchors$State" "edits" "I"] ++ wsX50)
def wsX5_addAnchor_r1 : List Cond := [Cond.fieldLink RX5 29 "WordAnchors$State" "anchorCount" "I", Cond.fieldLink RX5 20 "WordAnchors$State" "anchors" "[LWordAnchors$Anchor;", Cond.fieldLink RX5 12 "WordAnchors$State" "row" "LWordAnchors$Row;", Cond.methodLink RX5 36 yX5_anchorNumbered, Cond.instanceMethod yX5_anchorNumbered, Cond.selects RX5 yX5_anchorNumbered yX5_anchorNumbered, Cond.initialized RX5, Cond.code yX5_anchorNumbered cX5_anchorNumbered 2 (some (.object "WordAnchors$Anchor")), Cond.methodLink RX5 40 yX0_setAt, Cond.instanceMethod yX0_setAt, Cond.selects RX0 yX0_setAt yX0_setAt, Cond.initialized RX0, Cond.code yX0_setAt cX0_setAt 3 none, Cond.methodLink RX0 22 yX0_goTo, Cond.instanceMethod yX0_goTo, Cond.selects RX0 yX0_goTo yX0_goTo, Cond.code yX0_goTo cX0_goTo 2 none, Cond.fieldLink RX0 15 "WordAnchors$Anchor" "place" "I", Cond.methodLink RX0 26 yX0_look, Cond.instanceMethod yX0_look, Cond.selects RX0 yX0_look yX0_look, Cond.code yX0_look cX0_look 5 (some .int), Cond.fieldLink RX0 9 "WordAnchors$Anchor" "things" "[I", Cond.fieldLink RX0 19 "WordAnchors$Anchor" "truePlace" "I"]
def wsX5_addAnchor_r2 : List Cond := [Cond.methodLink RX0 30 yX4_at, Cond.instanceMethod yX4_at, Cond.selects RX4 yX4_at yX4_at, Cond.initialized RX4, Cond.code yX4_at cX4_at 2 (some .int), Cond.fieldLink RX4 21 "WordAnchors$Row" "size" "I", Cond.fieldLink RX4 9 "WordAnchors$Row" "words" "[I"]
def wsX5_addAnchor : List Cond := .code yX5_addAnchor cX5_addAnchor 3 none :: ((wsX5_addAnchor_r1 ++ wsX5_addAnchor_r2) ++ wsX50 ++ wsX00 ++ wsX40)
def wsX5_followWords : List Cond := .code yX5_followWords cX5_followWords 3 none :: ([.fieldLink RX5 33 "WordAnchors$State" "edits" "I", .fieldLink RX5 29 "WordAnchors$State" "anchorCount" "I", .fieldLink RX5 12 "WordAnchors$State" "row" "LWordAnchors$Row;", .methodLink RX5 36 yX5_anchorNumbered, .instanceMethod yX5_anchorNumbered, .selects RX5 yX5_anchorNumbered yX5_anchorNumbered, .initialized RX5, .code yX5_anchorNumbered cX5_anchorNumbered 2 (some (.object "WordAnchors$Anchor")), .fieldLink RX5 20 "WordAnchors$State" "anchors" "[LWordAnchors$Anchor;", .methodLink RX5 66 yX0_followWord, .instanceMethod yX0_followWord, .selects RX0 yX0_followWord yX0_followWord, .initialized RX0, .code yX0_followWord cX0_followWord 2 none, .fieldLink RX0 19 "WordAnchors$Anchor" "truePlace" "I", .methodLink RX0 36 yX4_targetOf, .instanceMethod yX4_targetOf, .selects RX4 yX4_targetOf yX4_targetOf, .initialized RX4, .code yX4_targetOf cX4_targetOf 2 (some .int), .fieldLink RX4 15 "WordAnchors$Row" "targets" "[I"] ++ wsX50 ++ wsX00 ++ wsX40)
def wsX5_insertWord_r1 : List Cond := [Cond.fieldLink RX5 12 "WordAnchors$State" "row" "LWordAnchors$Row;", Cond.methodLink RX5 48 yX4_insert, Cond.instanceMethod yX4_insert, Cond.selects RX4 yX4_insert yX4_insert, Cond.initialized RX4, Cond.code yX4_insert cX4_insert 4 none, Cond.fieldLink RX4 15 "WordAnchors$Row" "targets" "[I", Cond.fieldLink RX4 21 "WordAnchors$Row" "size" "I", Cond.methodLink RX4 29 yX4_takesAt, Cond.instanceMethod yX4_takesAt, Cond.selects RX4 yX4_takesAt yX4_takesAt, Cond.code yX4_takesAt cX4_takesAt 2 (some .boolean), Cond.methodLink RX4 32 yX4_isFull, Cond.instanceMethod yX4_isFull, Cond.selects RX4 yX4_isFull yX4_isFull, Cond.code yX4_isFull cX4_isFull 1 (some .boolean), Cond.fieldLink RX4 9 "WordAnchors$Row" "words" "[I", Cond.methodLink RX4 36 yX4_relocate, Cond.instanceMethod yX4_relocate, Cond.selects RX4 yX4_relocate yX4_relocate, Cond.code yX4_relocate cX4_relocate 4 none, Cond.fieldLink RX4 18 "WordAnchors$Row" "relocated" "[I", Cond.methodLink RX4 52 yX4_targetOf, Cond.instanceMethod yX4_targetOf]
def wsX5_insertWord_r2 : List Cond := [Cond.selects RX4 yX4_targetOf yX4_targetOf, Cond.code yX4_targetOf cX4_targetOf 2 (some .int), Cond.methodLink RX4 40 yX4_write, Cond.instanceMethod yX4_write, Cond.selects RX4 yX4_write yX4_write, Cond.code yX4_write cX4_write 3 none, Cond.methodLink RX5 52 yX5_followWords, Cond.instanceMethod yX5_followWords, Cond.selects RX5 yX5_followWords yX5_followWords, Cond.initialized RX5, Cond.code yX5_followWords cX5_followWords 3 none, Cond.fieldLink RX5 33 "WordAnchors$State" "edits" "I", Cond.fieldLink RX5 29 "WordAnchors$State" "anchorCount" "I", Cond.methodLink RX5 36 yX5_anchorNumbered, Cond.instanceMethod yX5_anchorNumbered, Cond.selects RX5 yX5_anchorNumbered yX5_anchorNumbered, Cond.code yX5_anchorNumbered cX5_anchorNumbered 2 (some (.object "WordAnchors$Anchor")), Cond.fieldLink RX5 20 "WordAnchors$State" "anchors" "[LWordAnchors$Anchor;", Cond.methodLink RX5 66 yX0_followWord, Cond.instanceMethod yX0_followWord, Cond.selects RX0 yX0_followWord yX0_followWord, Cond.initialized RX0, Cond.code yX0_followWord cX0_followWord 2 none, Cond.fieldLink RX0 19 "WordAnchors$Anchor" "truePlace" "I"]
def wsX5_insertWord_r3 : List Cond := [Cond.methodLink RX0 36 yX4_targetOf]
def wsX5_insertWord : List Cond := .code yX5_insertWord cX5_insertWord 3 none :: ((wsX5_insertWord_r1 ++ (wsX5_insertWord_r2 ++ wsX5_insertWord_r3)) ++ wsX50 ++ wsX40 ++ wsX00)
def wsX5_removeWord_r1 : List Cond := [Cond.fieldLink RX5 12 "WordAnchors$State" "row" "LWordAnchors$Row;", Cond.methodLink RX5 55 yX4_remove, Cond.instanceMethod yX4_remove, Cond.selects RX4 yX4_remove yX4_remove, Cond.initialized RX4, Cond.code yX4_remove cX4_remove 4 none, Cond.fieldLink RX4 15 "WordAnchors$Row" "targets" "[I", Cond.fieldLink RX4 21 "WordAnchors$Row" "size" "I", Cond.methodLink RX4 25 yX4_holds, Cond.instanceMethod yX4_holds, Cond.selects RX4 yX4_holds yX4_holds, Cond.code yX4_holds cX4_holds 2 (some .boolean), Cond.fieldLink RX4 9 "WordAnchors$Row" "words" "[I", Cond.methodLink RX4 36 yX4_relocate, Cond.instanceMethod yX4_relocate, Cond.selects RX4 yX4_relocate yX4_relocate, Cond.code yX4_relocate cX4_relocate 4 none, Cond.fieldLink RX4 18 "WordAnchors$Row" "relocated" "[I", Cond.methodLink RX4 52 yX4_targetOf, Cond.instanceMethod yX4_targetOf, Cond.selects RX4 yX4_targetOf yX4_targetOf, Cond.code yX4_targetOf cX4_targetOf 2 (some .int), Cond.methodLink RX4 40 yX4_write, Cond.instanceMethod yX4_write]
def wsX5_removeWord_r2 : List Cond := [Cond.selects RX4 yX4_write yX4_write, Cond.code yX4_write cX4_write 3 none, Cond.methodLink RX5 52 yX5_followWords, Cond.instanceMethod yX5_followWords, Cond.selects RX5 yX5_followWords yX5_followWords, Cond.initialized RX5, Cond.code yX5_followWords cX5_followWords 3 none, Cond.fieldLink RX5 33 "WordAnchors$State" "edits" "I", Cond.fieldLink RX5 29 "WordAnchors$State" "anchorCount" "I", Cond.methodLink RX5 36 yX5_anchorNumbered, Cond.instanceMethod yX5_anchorNumbered, Cond.selects RX5 yX5_anchorNumbered yX5_anchorNumbered, Cond.code yX5_anchorNumbered cX5_anchorNumbered 2 (some (.object "WordAnchors$Anchor")), Cond.fieldLink RX5 20 "WordAnchors$State" "anchors" "[LWordAnchors$Anchor;", Cond.methodLink RX5 66 yX0_followWord, Cond.instanceMethod yX0_followWord, Cond.selects RX0 yX0_followWord yX0_followWord, Cond.initialized RX0, Cond.code yX0_followWord cX0_followWord 2 none, Cond.fieldLink RX0 19 "WordAnchors$Anchor" "truePlace" "I", Cond.methodLink RX0 36 yX4_targetOf]
def wsX5_removeWord : List Cond := .code yX5_removeWord cX5_removeWord 2 none :: ((wsX5_removeWord_r1 ++ wsX5_removeWord_r2) ++ wsX50 ++ wsX40 ++ wsX00)
def wsX5_replaceWord_r1 : List Cond := [Cond.fieldLink RX5 12 "WordAnchors$State" "row" "LWordAnchors$Row;", Cond.methodLink RX5 59 yX4_replace, Cond.instanceMethod yX4_replace, Cond.selects RX4 yX4_replace yX4_replace, Cond.initialized RX4, Cond.code yX4_replace cX4_replace 4 none, Cond.fieldLink RX4 15 "WordAnchors$Row" "targets" "[I", Cond.methodLink RX4 25 yX4_holds, Cond.instanceMethod yX4_holds, Cond.selects RX4 yX4_holds yX4_holds, Cond.code yX4_holds cX4_holds 2 (some .boolean), Cond.fieldLink RX4 21 "WordAnchors$Row" "size" "I", Cond.fieldLink RX4 9 "WordAnchors$Row" "words" "[I", Cond.methodLink RX4 40 yX4_write, Cond.instanceMethod yX4_write, Cond.selects RX4 yX4_write yX4_write, Cond.code yX4_write cX4_write 3 none, Cond.methodLink RX5 52 yX5_followWords, Cond.instanceMethod yX5_followWords, Cond.selects RX5 yX5_followWords yX5_followWords, Cond.initialized RX5, Cond.code yX5_followWords cX5_followWords 3 none, Cond.fieldLink RX5 33 "WordAnchors$State" "edits" "I", Cond.fieldLink RX5 29 "WordAnchors$State" "anchorCount" "I"]
def wsX5_replaceWord_r2 : List Cond := [Cond.methodLink RX5 36 yX5_anchorNumbered, Cond.instanceMethod yX5_anchorNumbered, Cond.selects RX5 yX5_anchorNumbered yX5_anchorNumbered, Cond.code yX5_anchorNumbered cX5_anchorNumbered 2 (some (.object "WordAnchors$Anchor")), Cond.fieldLink RX5 20 "WordAnchors$State" "anchors" "[LWordAnchors$Anchor;", Cond.methodLink RX5 66 yX0_followWord, Cond.instanceMethod yX0_followWord, Cond.selects RX0 yX0_followWord yX0_followWord, Cond.initialized RX0, Cond.code yX0_followWord cX0_followWord 2 none, Cond.fieldLink RX0 19 "WordAnchors$Anchor" "truePlace" "I", Cond.methodLink RX0 36 yX4_targetOf, Cond.instanceMethod yX4_targetOf, Cond.selects RX4 yX4_targetOf yX4_targetOf, Cond.code yX4_targetOf cX4_targetOf 2 (some .int)]
def wsX5_replaceWord : List Cond := .code yX5_replaceWord cX5_replaceWord 3 none :: ((wsX5_replaceWord_r1 ++ wsX5_replaceWord_r2) ++ wsX50 ++ wsX40 ++ wsX00)
def wsX5_shiftWords_r1 : List Cond := [Cond.fieldLink RX5 12 "WordAnchors$State" "row" "LWordAnchors$Row;", Cond.methodLink RX5 62 yX4_shift, Cond.instanceMethod yX4_shift, Cond.selects RX4 yX4_shift yX4_shift, Cond.initialized RX4, Cond.code yX4_shift cX4_shift 5 none, Cond.fieldLink RX4 15 "WordAnchors$Row" "targets" "[I", Cond.fieldLink RX4 21 "WordAnchors$Row" "size" "I", Cond.methodLink RX4 44 yX4_canShift, Cond.instanceMethod yX4_canShift, Cond.selects RX4 yX4_canShift yX4_canShift, Cond.code yX4_canShift cX4_canShift 4 (some .boolean), Cond.methodLink RX4 25 yX4_holds, Cond.instanceMethod yX4_holds, Cond.selects RX4 yX4_holds yX4_holds, Cond.code yX4_holds cX4_holds 2 (some .boolean), Cond.fieldLink RX4 9 "WordAnchors$Row" "words" "[I", Cond.methodLink RX4 48 yX4_placeAfterShift, Cond.static yX4_placeAfterShift, Cond.code yX4_placeAfterShift cX4_placeAfterShift 5 (some .int), Cond.methodLink RX4 36 yX4_relocate, Cond.instanceMethod yX4_relocate, Cond.selects RX4 yX4_relocate yX4_relocate, Cond.code yX4_relocate cX4_relocate 4 none]
def wsX5_shiftWords_r2 : List Cond := [Cond.fieldLink RX4 18 "WordAnchors$Row" "relocated" "[I", Cond.methodLink RX4 52 yX4_targetOf, Cond.instanceMethod yX4_targetOf, Cond.selects RX4 yX4_targetOf yX4_targetOf, Cond.code yX4_targetOf cX4_targetOf 2 (some .int), Cond.methodLink RX4 40 yX4_write, Cond.instanceMethod yX4_write, Cond.selects RX4 yX4_write yX4_write, Cond.code yX4_write cX4_write 3 none, Cond.methodLink RX5 52 yX5_followWords, Cond.instanceMethod yX5_followWords, Cond.selects RX5 yX5_followWords yX5_followWords, Cond.initialized RX5, Cond.code yX5_followWords cX5_followWords 3 none, Cond.fieldLink RX5 33 "WordAnchors$State" "edits" "I", Cond.fieldLink RX5 29 "WordAnchors$State" "anchorCount" "I", Cond.methodLink RX5 36 yX5_anchorNumbered, Cond.instanceMethod yX5_anchorNumbered, Cond.selects RX5 yX5_anchorNumbered yX5_anchorNumbered, Cond.code yX5_anchorNumbered cX5_anchorNumbered 2 (some (.object "WordAnchors$Anchor")), Cond.fieldLink RX5 20 "WordAnchors$State" "anchors" "[LWordAnchors$Anchor;", Cond.methodLink RX5 66 yX0_followWord, Cond.instanceMethod yX0_followWord, Cond.selects RX0 yX0_followWord yX0_followWord]
def wsX5_shiftWords_r3 : List Cond := [Cond.initialized RX0, Cond.code yX0_followWord cX0_followWord 2 none, Cond.fieldLink RX0 19 "WordAnchors$Anchor" "truePlace" "I", Cond.methodLink RX0 36 yX4_targetOf]
def wsX5_shiftWords : List Cond := .code yX5_shiftWords cX5_shiftWords 4 none :: ((wsX5_shiftWords_r1 ++ (wsX5_shiftWords_r2 ++ wsX5_shiftWords_r3)) ++ wsX50 ++ wsX40 ++ wsX00)
def wsX5_nextBestPlace_r1 : List Cond := [Cond.methodLink RX5 89 yX5_bestPlace, Cond.instanceMethod yX5_bestPlace, Cond.selects RX5 yX5_bestPlace yX5_bestPlace, Cond.initialized RX5, Cond.code yX5_bestPlace cX5_bestPlace 2 (some .int), Cond.methodLink RX5 85 yX5_bestPlaceBut, Cond.instanceMethod yX5_bestPlaceBut, Cond.selects RX5 yX5_bestPlaceBut yX5_bestPlaceBut, Cond.code yX5_bestPlaceBut cX5_bestPlaceBut 10 (some .int), Cond.fieldLink RX5 12 "WordAnchors$State" "row" "LWordAnchors$Row;", Cond.methodLink RX5 77 Lib.Math.abs.name, Cond.static Lib.Math.abs.name, Cond.initialized "java/lang/Math", Cond.code Lib.Math.abs.name Lib.Math.abs.code 1 (some .int), Cond.methodLink RX5 93 yX4_size, Cond.instanceMethod yX4_size, Cond.selects RX4 yX4_size yX4_size, Cond.initialized RX4, Cond.code yX4_size cX4_size 1 (some .int), Cond.fieldLink RX4 21 "WordAnchors$Row" "size" "I", Cond.methodLink RX5 97 yX5_scoreOf, Cond.instanceMethod yX5_scoreOf, Cond.selects RX5 yX5_scoreOf yX5_scoreOf, Cond.code yX5_scoreOf cX5_scoreOf 6 (some .int)]
def wsX5_nextBestPlace_r2 : List Cond := [Cond.methodLink RX5 70 yX0_thing, Cond.instanceMethod yX0_thing, Cond.selects RX0 yX0_thing yX0_thing, Cond.initialized RX0, Cond.code yX0_thing cX0_thing 2 (some .int), Cond.fieldLink RX0 9 "WordAnchors$Anchor" "things" "[I", Cond.methodLink RX5 74 yX4_at, Cond.instanceMethod yX4_at, Cond.selects RX4 yX4_at yX4_at, Cond.code yX4_at cX4_at 2 (some .int), Cond.fieldLink RX4 9 "WordAnchors$Row" "words" "[I", Cond.methodLink RX5 82 yX5_setting, Cond.instanceMethod yX5_setting, Cond.selects RX5 yX5_setting yX5_setting, Cond.code yX5_setting cX5_setting 2 (some .int), Cond.fieldLink RX5 24 "WordAnchors$State" "settings" "[I", Cond.methodLink RX5 100 yX0_place, Cond.instanceMethod yX0_place, Cond.selects RX0 yX0_place yX0_place, Cond.code yX0_place cX0_place 1 (some .int), Cond.fieldLink RX0 15 "WordAnchors$Anchor" "place" "I"]
def wsX5_nextBestPlace : List Cond := .code yX5_nextBestPlace cX5_nextBestPlace 2 (some .int) :: ((wsX5_nextBestPlace_r1 ++ wsX5_nextBestPlace_r2) ++ wsX50 ++ wsX40 ++ wsX00)
def wsX5_standingOf_r1 : List Cond := [Cond.methodLink RX5 85 yX5_bestPlaceBut, Cond.instanceMethod yX5_bestPlaceBut, Cond.selects RX5 yX5_bestPlaceBut yX5_bestPlaceBut, Cond.initialized RX5, Cond.code yX5_bestPlaceBut cX5_bestPlaceBut 10 (some .int), Cond.fieldLink RX5 12 "WordAnchors$State" "row" "LWordAnchors$Row;", Cond.methodLink RX5 77 Lib.Math.abs.name, Cond.static Lib.Math.abs.name, Cond.initialized "java/lang/Math", Cond.code Lib.Math.abs.name Lib.Math.abs.code 1 (some .int), Cond.methodLink RX5 93 yX4_size, Cond.instanceMethod yX4_size, Cond.selects RX4 yX4_size yX4_size, Cond.initialized RX4, Cond.code yX4_size cX4_size 1 (some .int), Cond.fieldLink RX4 21 "WordAnchors$Row" "size" "I", Cond.methodLink RX5 97 yX5_scoreOf, Cond.instanceMethod yX5_scoreOf, Cond.selects RX5 yX5_scoreOf yX5_scoreOf, Cond.code yX5_scoreOf cX5_scoreOf 6 (some .int), Cond.methodLink RX5 70 yX0_thing, Cond.instanceMethod yX0_thing, Cond.selects RX0 yX0_thing yX0_thing, Cond.initialized RX0]
def wsX5_standingOf_r2 : List Cond := [Cond.code yX0_thing cX0_thing 2 (some .int), Cond.fieldLink RX0 9 "WordAnchors$Anchor" "things" "[I", Cond.methodLink RX5 74 yX4_at, Cond.instanceMethod yX4_at, Cond.selects RX4 yX4_at yX4_at, Cond.code yX4_at cX4_at 2 (some .int), Cond.fieldLink RX4 9 "WordAnchors$Row" "words" "[I", Cond.methodLink RX5 82 yX5_setting, Cond.instanceMethod yX5_setting, Cond.selects RX5 yX5_setting yX5_setting, Cond.code yX5_setting cX5_setting 2 (some .int), Cond.fieldLink RX5 24 "WordAnchors$State" "settings" "[I", Cond.methodLink RX5 100 yX0_place, Cond.instanceMethod yX0_place, Cond.selects RX0 yX0_place yX0_place, Cond.code yX0_place cX0_place 1 (some .int), Cond.fieldLink RX0 15 "WordAnchors$Anchor" "place" "I", Cond.methodLink RX5 103 yX5_isLost, Cond.instanceMethod yX5_isLost, Cond.selects RX5 yX5_isLost yX5_isLost, Cond.code yX5_isLost cX5_isLost 3 (some .boolean)]
def wsX5_standingOf : List Cond := .code yX5_standingOf cX5_standingOf 5 (some .int) :: ((wsX5_standingOf_r1 ++ wsX5_standingOf_r2) ++ wsX50 ++ wsX40 ++ wsX00)
def wsX5_isOfKind_r1 : List Cond := [Cond.methodLink RX5 89 yX5_bestPlace, Cond.instanceMethod yX5_bestPlace, Cond.selects RX5 yX5_bestPlace yX5_bestPlace, Cond.initialized RX5, Cond.code yX5_bestPlace cX5_bestPlace 2 (some .int), Cond.methodLink RX5 85 yX5_bestPlaceBut, Cond.instanceMethod yX5_bestPlaceBut, Cond.selects RX5 yX5_bestPlaceBut yX5_bestPlaceBut, Cond.code yX5_bestPlaceBut cX5_bestPlaceBut 10 (some .int), Cond.fieldLink RX5 12 "WordAnchors$State" "row" "LWordAnchors$Row;", Cond.methodLink RX5 77 Lib.Math.abs.name, Cond.static Lib.Math.abs.name, Cond.initialized "java/lang/Math", Cond.code Lib.Math.abs.name Lib.Math.abs.code 1 (some .int), Cond.methodLink RX5 93 yX4_size, Cond.instanceMethod yX4_size, Cond.selects RX4 yX4_size yX4_size, Cond.initialized RX4, Cond.code yX4_size cX4_size 1 (some .int), Cond.fieldLink RX4 21 "WordAnchors$Row" "size" "I", Cond.methodLink RX5 97 yX5_scoreOf, Cond.instanceMethod yX5_scoreOf, Cond.selects RX5 yX5_scoreOf yX5_scoreOf, Cond.code yX5_scoreOf cX5_scoreOf 6 (some .int)]
def wsX5_isOfKind_r2 : List Cond := [Cond.methodLink RX5 70 yX0_thing, Cond.instanceMethod yX0_thing, Cond.selects RX0 yX0_thing yX0_thing, Cond.initialized RX0, Cond.code yX0_thing cX0_thing 2 (some .int), Cond.fieldLink RX0 9 "WordAnchors$Anchor" "things" "[I", Cond.methodLink RX5 74 yX4_at, Cond.instanceMethod yX4_at, Cond.selects RX4 yX4_at yX4_at, Cond.code yX4_at cX4_at 2 (some .int), Cond.fieldLink RX4 9 "WordAnchors$Row" "words" "[I", Cond.methodLink RX5 82 yX5_setting, Cond.instanceMethod yX5_setting, Cond.selects RX5 yX5_setting yX5_setting, Cond.code yX5_setting cX5_setting 2 (some .int), Cond.fieldLink RX5 24 "WordAnchors$State" "settings" "[I", Cond.methodLink RX5 100 yX0_place, Cond.instanceMethod yX0_place, Cond.selects RX0 yX0_place yX0_place, Cond.code yX0_place cX0_place 1 (some .int), Cond.fieldLink RX0 15 "WordAnchors$Anchor" "place" "I", Cond.methodLink RX5 103 yX5_isLost, Cond.instanceMethod yX5_isLost, Cond.selects RX5 yX5_isLost yX5_isLost]
def wsX5_isOfKind_r3 : List Cond := [Cond.code yX5_isLost cX5_isLost 3 (some .boolean), Cond.methodLink RX5 107 yX0_truePlace, Cond.instanceMethod yX0_truePlace, Cond.selects RX0 yX0_truePlace yX0_truePlace, Cond.code yX0_truePlace cX0_truePlace 1 (some .int), Cond.fieldLink RX0 19 "WordAnchors$Anchor" "truePlace" "I", Cond.methodLink RX5 110 yX5_standingOf, Cond.instanceMethod yX5_standingOf, Cond.selects RX5 yX5_standingOf yX5_standingOf, Cond.code yX5_standingOf cX5_standingOf 5 (some .int)]
def wsX5_isOfKind : List Cond := .code yX5_isOfKind cX5_isOfKind 3 (some .boolean) :: ((wsX5_isOfKind_r1 ++ (wsX5_isOfKind_r2 ++ wsX5_isOfKind_r3)) ++ wsX50 ++ wsX40 ++ wsX00)
def wsX5_anchorsOfKind_r1 : List Cond := [Cond.fieldLink RX5 29 "WordAnchors$State" "anchorCount" "I", Cond.methodLink RX5 36 yX5_anchorNumbered, Cond.instanceMethod yX5_anchorNumbered, Cond.selects RX5 yX5_anchorNumbered yX5_anchorNumbered, Cond.initialized RX5, Cond.code yX5_anchorNumbered cX5_anchorNumbered 2 (some (.object "WordAnchors$Anchor")), Cond.fieldLink RX5 20 "WordAnchors$State" "anchors" "[LWordAnchors$Anchor;", Cond.methodLink RX5 113 yX5_isOfKind, Cond.instanceMethod yX5_isOfKind, Cond.selects RX5 yX5_isOfKind yX5_isOfKind, Cond.code yX5_isOfKind cX5_isOfKind 3 (some .boolean), Cond.methodLink RX5 89 yX5_bestPlace, Cond.instanceMethod yX5_bestPlace, Cond.selects RX5 yX5_bestPlace yX5_bestPlace, Cond.code yX5_bestPlace cX5_bestPlace 2 (some .int), Cond.methodLink RX5 85 yX5_bestPlaceBut, Cond.instanceMethod yX5_bestPlaceBut, Cond.selects RX5 yX5_bestPlaceBut yX5_bestPlaceBut, Cond.code yX5_bestPlaceBut cX5_bestPlaceBut 10 (some .int), Cond.fieldLink RX5 12 "WordAnchors$State" "row" "LWordAnchors$Row;", Cond.methodLink RX5 77 Lib.Math.abs.name, Cond.static Lib.Math.abs.name, Cond.initialized "java/lang/Math", Cond.code Lib.Math.abs.name Lib.Math.abs.code 1 (some .int)]
def wsX5_anchorsOfKind_r2 : List Cond := [Cond.methodLink RX5 93 yX4_size, Cond.instanceMethod yX4_size, Cond.selects RX4 yX4_size yX4_size, Cond.initialized RX4, Cond.code yX4_size cX4_size 1 (some .int), Cond.fieldLink RX4 21 "WordAnchors$Row" "size" "I", Cond.methodLink RX5 97 yX5_scoreOf, Cond.instanceMethod yX5_scoreOf, Cond.selects RX5 yX5_scoreOf yX5_scoreOf, Cond.code yX5_scoreOf cX5_scoreOf 6 (some .int), Cond.methodLink RX5 70 yX0_thing, Cond.instanceMethod yX0_thing, Cond.selects RX0 yX0_thing yX0_thing, Cond.initialized RX0, Cond.code yX0_thing cX0_thing 2 (some .int), Cond.fieldLink RX0 9 "WordAnchors$Anchor" "things" "[I", Cond.methodLink RX5 74 yX4_at, Cond.instanceMethod yX4_at, Cond.selects RX4 yX4_at yX4_at, Cond.code yX4_at cX4_at 2 (some .int), Cond.fieldLink RX4 9 "WordAnchors$Row" "words" "[I", Cond.methodLink RX5 82 yX5_setting, Cond.instanceMethod yX5_setting, Cond.selects RX5 yX5_setting yX5_setting]
def wsX5_anchorsOfKind_r3 : List Cond := [Cond.code yX5_setting cX5_setting 2 (some .int), Cond.fieldLink RX5 24 "WordAnchors$State" "settings" "[I", Cond.methodLink RX5 100 yX0_place, Cond.instanceMethod yX0_place, Cond.selects RX0 yX0_place yX0_place, Cond.code yX0_place cX0_place 1 (some .int), Cond.fieldLink RX0 15 "WordAnchors$Anchor" "place" "I", Cond.methodLink RX5 103 yX5_isLost, Cond.instanceMethod yX5_isLost, Cond.selects RX5 yX5_isLost yX5_isLost, Cond.code yX5_isLost cX5_isLost 3 (some .boolean), Cond.methodLink RX5 107 yX0_truePlace, Cond.instanceMethod yX0_truePlace, Cond.selects RX0 yX0_truePlace yX0_truePlace, Cond.code yX0_truePlace cX0_truePlace 1 (some .int), Cond.fieldLink RX0 19 "WordAnchors$Anchor" "truePlace" "I", Cond.methodLink RX5 110 yX5_standingOf, Cond.instanceMethod yX5_standingOf, Cond.selects RX5 yX5_standingOf yX5_standingOf, Cond.code yX5_standingOf cX5_standingOf 5 (some .int)]
def wsX5_anchorsOfKind : List Cond := .code yX5_anchorsOfKind cX5_anchorsOfKind 5 (some .int) :: ((wsX5_anchorsOfKind_r1 ++ (wsX5_anchorsOfKind_r2 ++ wsX5_anchorsOfKind_r3)) ++ wsX50 ++ wsX40 ++ wsX00)
def wsX6_init_r1 : List Cond := [Cond.methodLink RX6 1 objectInit, Cond.instanceMethod objectInit, Cond.code objectInit ⟨#[0xb1]⟩ 1 none, Cond.classLink RX6 7 RX5, Cond.instantiable RX5 5, Cond.initialized RX5, Cond.fieldLink RX6 10 "WordAnchors" "now" "LWordAnchors$State;", Cond.fieldLink RX6 16 "WordAnchors" "trial" "LWordAnchors$State;", Cond.classLink RX6 19 RX3, Cond.instantiable RX3 3, Cond.initialized RX3, Cond.fieldLink RX6 22 "WordAnchors" "history" "LWordAnchors$History;", Cond.classLink RX6 26 RX2, Cond.instantiable RX2 6, Cond.initialized RX2, Cond.fieldLink RX6 29 "WordAnchors" "text" "LWordAnchors$EditText;", Cond.classLink RX6 33 RX1, Cond.instantiable RX1 3, Cond.initialized RX1, Cond.fieldLink RX6 36 "WordAnchors" "blocks" "LWordAnchors$Blocks;", Cond.classLink RX6 40 RX0, Cond.instantiable RX0 3, Cond.initialized RX0, Cond.fieldLink RX6 43 "WordAnchors" "probe" "LWordAnchors$Anchor;"]
def wsX6_init_r2 : List Cond := [Cond.methodLink RX6 9 yX5_init, Cond.instanceMethod yX5_init, Cond.code yX5_init cX5_init 2 none, Cond.methodLink RX5 3 objectInit, Cond.classLink RX5 9 RX4, Cond.instantiable RX4 4, Cond.initialized RX4, Cond.fieldLink RX5 12 "WordAnchors$State" "row" "LWordAnchors$Row;", Cond.classLink RX5 18 RX0, Cond.fieldLink RX5 20 "WordAnchors$State" "anchors" "[LWordAnchors$Anchor;", Cond.arrayClass .int, Cond.fieldLink RX5 24 "WordAnchors$State" "settings" "[I", Cond.instanceMethod yX4_init, Cond.code yX4_init cX4_init 1 none, Cond.methodLink RX4 3 objectInit, Cond.fieldLink RX4 9 "WordAnchors$Row" "words" "[I", Cond.fieldLink RX4 15 "WordAnchors$Row" "targets" "[I", Cond.fieldLink RX4 18 "WordAnchors$Row" "relocated" "[I", Cond.instanceMethod yX0_init, Cond.code yX0_init cX0_init 1 none, Cond.methodLink RX0 3 objectInit, Cond.fieldLink RX0 9 "WordAnchors$Anchor" "things" "[I", Cond.methodLink RX6 21 yX3_init, Cond.instanceMethod yX3_init]
def wsX6_init_r3 : List Cond := [Cond.code yX3_init cX3_init 2 none, Cond.methodLink RX3 3 objectInit, Cond.classLink RX3 9 RX5, Cond.fieldLink RX3 11 "WordAnchors$History" "states" "[LWordAnchors$State;", Cond.methodLink RX3 17 yX5_init, Cond.instanceMethod yX2_init, Cond.code yX2_init cX2_init 1 none, Cond.methodLink RX2 3 objectInit, Cond.arrayClass .char, Cond.fieldLink RX2 9 "WordAnchors$EditText" "characters" "[C", Cond.fieldLink RX2 15 "WordAnchors$EditText" "numbers" "[I", Cond.instanceMethod yX1_init, Cond.code yX1_init cX1_init 1 none, Cond.methodLink RX1 3 objectInit, Cond.fieldLink RX1 9 "WordAnchors$Blocks" "shifts" "[I", Cond.fieldLink RX1 15 "WordAnchors$Blocks" "members" "[I"]
def wsX6_init : List Cond := .code yX6_init cX6_init 1 none :: ((wsX6_init_r1 ++ (wsX6_init_r2 ++ wsX6_init_r3)) ++ wsX50 ++ wsX60 ++ wsX30 ++ wsX20 ++ wsX10 ++ wsX00 ++ wsX40)
def wsX6_isWord : List Cond := .code yX6_isWord cX6_isWord 1 (some .boolean) :: ([])
def wsX6_put_r1 : List Cond := [Cond.fieldLink RX6 10 "WordAnchors" "now" "LWordAnchors$State;", Cond.fieldLink RX6 47 "WordAnchors$State" "row" "LWordAnchors$Row;", Cond.constant RX6 60 (-1000001), Cond.constant RX6 65 (-1000003), Cond.fieldLink RX6 22 "WordAnchors" "history" "LWordAnchors$History;", Cond.methodLink RX6 51 yX4_takesAt, Cond.instanceMethod yX4_takesAt, Cond.selects RX4 yX4_takesAt yX4_takesAt, Cond.initialized RX4, Cond.code yX4_takesAt cX4_takesAt 2 (some .boolean), Cond.fieldLink RX4 21 "WordAnchors$Row" "size" "I", Cond.methodLink RX6 57 yX6_isWord, Cond.static yX6_isWord, Cond.initialized RX6, Cond.code yX6_isWord cX6_isWord 1 (some .boolean), Cond.methodLink RX6 61 yX4_isFull, Cond.instanceMethod yX4_isFull, Cond.selects RX4 yX4_isFull yX4_isFull, Cond.code yX4_isFull cX4_isFull 1 (some .boolean), Cond.fieldLink RX4 9 "WordAnchors$Row" "words" "[I", Cond.methodLink RX6 66 yX3_record, Cond.instanceMethod yX3_record, Cond.selects RX3 yX3_record yX3_record, Cond.initialized RX3]
def wsX6_put_r2 : List Cond := [Cond.code yX3_record cX3_record 3 none, Cond.fieldLink RX3 18 "WordAnchors$History" "size" "I", Cond.fieldLink RX3 22 "WordAnchors$History" "oldest" "I", Cond.methodLink RX3 25 yX3_fromOldest, Cond.instanceMethod yX3_fromOldest, Cond.selects RX3 yX3_fromOldest yX3_fromOldest, Cond.code yX3_fromOldest cX3_fromOldest 3 (some (.object "WordAnchors$State")), Cond.fieldLink RX3 11 "WordAnchors$History" "states" "[LWordAnchors$State;", Cond.methodLink RX3 29 yX5_copyFrom, Cond.instanceMethod yX5_copyFrom, Cond.selects RX5 yX5_copyFrom yX5_copyFrom, Cond.initialized RX5, Cond.code yX5_copyFrom cX5_copyFrom 5 none, Cond.fieldLink RX5 12 "WordAnchors$State" "row" "LWordAnchors$Row;", Cond.fieldLink RX5 29 "WordAnchors$State" "anchorCount" "I", Cond.fieldLink RX5 24 "WordAnchors$State" "settings" "[I", Cond.fieldLink RX5 33 "WordAnchors$State" "edits" "I", Cond.methodLink RX5 152 yX4_copyFrom, Cond.instanceMethod yX4_copyFrom, Cond.selects RX4 yX4_copyFrom yX4_copyFrom, Cond.code yX4_copyFrom cX4_copyFrom 3 none, Cond.methodLink RX4 59 yX4_at, Cond.instanceMethod yX4_at, Cond.selects RX4 yX4_at yX4_at]
def wsX6_put_r3 : List Cond := [Cond.code yX4_at cX4_at 2 (some .int), Cond.methodLink RX5 36 yX5_anchorNumbered, Cond.instanceMethod yX5_anchorNumbered, Cond.selects RX5 yX5_anchorNumbered yX5_anchorNumbered, Cond.code yX5_anchorNumbered cX5_anchorNumbered 2 (some (.object "WordAnchors$Anchor")), Cond.fieldLink RX5 20 "WordAnchors$State" "anchors" "[LWordAnchors$Anchor;", Cond.methodLink RX5 44 yX0_copyFrom, Cond.instanceMethod yX0_copyFrom, Cond.selects RX0 yX0_copyFrom yX0_copyFrom, Cond.initialized RX0, Cond.code yX0_copyFrom cX0_copyFrom 3 none, Cond.fieldLink RX0 15 "WordAnchors$Anchor" "place" "I", Cond.fieldLink RX0 19 "WordAnchors$Anchor" "truePlace" "I", Cond.fieldLink RX0 9 "WordAnchors$Anchor" "things" "[I", Cond.methodLink RX0 39 yX0_thing, Cond.instanceMethod yX0_thing, Cond.selects RX0 yX0_thing yX0_thing, Cond.code yX0_thing cX0_thing 2 (some .int), Cond.methodLink RX5 82 yX5_setting, Cond.instanceMethod yX5_setting, Cond.selects RX5 yX5_setting yX5_setting, Cond.code yX5_setting cX5_setting 2 (some .int), Cond.methodLink RX6 70 yX5_insertWord, Cond.instanceMethod yX5_insertWord]
def wsX6_put_r4 : List Cond := [Cond.selects RX5 yX5_insertWord yX5_insertWord, Cond.code yX5_insertWord cX5_insertWord 3 none, Cond.methodLink RX5 48 yX4_insert, Cond.instanceMethod yX4_insert, Cond.selects RX4 yX4_insert yX4_insert, Cond.code yX4_insert cX4_insert 4 none, Cond.fieldLink RX4 15 "WordAnchors$Row" "targets" "[I", Cond.methodLink RX4 29 yX4_takesAt, Cond.methodLink RX4 32 yX4_isFull, Cond.methodLink RX4 36 yX4_relocate, Cond.instanceMethod yX4_relocate, Cond.selects RX4 yX4_relocate yX4_relocate, Cond.code yX4_relocate cX4_relocate 4 none, Cond.fieldLink RX4 18 "WordAnchors$Row" "relocated" "[I", Cond.methodLink RX4 52 yX4_targetOf, Cond.instanceMethod yX4_targetOf, Cond.selects RX4 yX4_targetOf yX4_targetOf, Cond.code yX4_targetOf cX4_targetOf 2 (some .int), Cond.methodLink RX4 40 yX4_write, Cond.instanceMethod yX4_write, Cond.selects RX4 yX4_write yX4_write, Cond.code yX4_write cX4_write 3 none, Cond.methodLink RX5 52 yX5_followWords, Cond.instanceMethod yX5_followWords]
def wsX6_put_r5 : List Cond := [Cond.selects RX5 yX5_followWords yX5_followWords, Cond.code yX5_followWords cX5_followWords 3 none, Cond.methodLink RX5 66 yX0_followWord, Cond.instanceMethod yX0_followWord, Cond.selects RX0 yX0_followWord yX0_followWord, Cond.code yX0_followWord cX0_followWord 2 none, Cond.methodLink RX0 36 yX4_targetOf, Cond.methodLink RX6 74 yX4_size, Cond.instanceMethod yX4_size, Cond.selects RX4 yX4_size yX4_size, Cond.code yX4_size cX4_size 1 (some .int)]
def wsX6_put : List Cond := .code yX6_put cX6_put 3 (some .int) :: ((wsX6_put_r1 ++ (wsX6_put_r2 ++ (wsX6_put_r3 ++ (wsX6_put_r4 ++ wsX6_put_r5)))) ++ wsX60 ++ wsX50 ++ wsX40 ++ wsX30 ++ wsX00)
def wsX6_take_r1 : List Cond := [Cond.fieldLink RX6 10 "WordAnchors" "now" "LWordAnchors$State;", Cond.fieldLink RX6 47 "WordAnchors$State" "row" "LWordAnchors$Row;", Cond.constant RX6 60 (-1000001), Cond.fieldLink RX6 22 "WordAnchors" "history" "LWordAnchors$History;", Cond.methodLink RX6 78 yX4_holds, Cond.instanceMethod yX4_holds, Cond.selects RX4 yX4_holds yX4_holds, Cond.initialized RX4, Cond.code yX4_holds cX4_holds 2 (some .boolean), Cond.fieldLink RX4 21 "WordAnchors$Row" "size" "I", Cond.fieldLink RX4 9 "WordAnchors$Row" "words" "[I", Cond.methodLink RX6 81 yX4_at, Cond.instanceMethod yX4_at, Cond.selects RX4 yX4_at yX4_at, Cond.code yX4_at cX4_at 2 (some .int), Cond.methodLink RX6 66 yX3_record, Cond.instanceMethod yX3_record, Cond.selects RX3 yX3_record yX3_record, Cond.initialized RX3, Cond.code yX3_record cX3_record 3 none, Cond.fieldLink RX3 18 "WordAnchors$History" "size" "I", Cond.fieldLink RX3 22 "WordAnchors$History" "oldest" "I", Cond.methodLink RX3 25 yX3_fromOldest, Cond.instanceMethod yX3_fromOldest]
def wsX6_take_r2 : List Cond := [Cond.selects RX3 yX3_fromOldest yX3_fromOldest, Cond.code yX3_fromOldest cX3_fromOldest 3 (some (.object "WordAnchors$State")), Cond.fieldLink RX3 11 "WordAnchors$History" "states" "[LWordAnchors$State;", Cond.methodLink RX3 29 yX5_copyFrom, Cond.instanceMethod yX5_copyFrom, Cond.selects RX5 yX5_copyFrom yX5_copyFrom, Cond.initialized RX5, Cond.code yX5_copyFrom cX5_copyFrom 5 none, Cond.fieldLink RX5 12 "WordAnchors$State" "row" "LWordAnchors$Row;", Cond.fieldLink RX5 29 "WordAnchors$State" "anchorCount" "I", Cond.fieldLink RX5 24 "WordAnchors$State" "settings" "[I", Cond.fieldLink RX5 33 "WordAnchors$State" "edits" "I", Cond.methodLink RX5 152 yX4_copyFrom, Cond.instanceMethod yX4_copyFrom, Cond.selects RX4 yX4_copyFrom yX4_copyFrom, Cond.code yX4_copyFrom cX4_copyFrom 3 none, Cond.methodLink RX4 59 yX4_at, Cond.methodLink RX5 36 yX5_anchorNumbered, Cond.instanceMethod yX5_anchorNumbered, Cond.selects RX5 yX5_anchorNumbered yX5_anchorNumbered, Cond.code yX5_anchorNumbered cX5_anchorNumbered 2 (some (.object "WordAnchors$Anchor")), Cond.fieldLink RX5 20 "WordAnchors$State" "anchors" "[LWordAnchors$Anchor;", Cond.methodLink RX5 44 yX0_copyFrom, Cond.instanceMethod yX0_copyFrom]
def wsX6_take_r3 : List Cond := [Cond.selects RX0 yX0_copyFrom yX0_copyFrom, Cond.initialized RX0, Cond.code yX0_copyFrom cX0_copyFrom 3 none, Cond.fieldLink RX0 15 "WordAnchors$Anchor" "place" "I", Cond.fieldLink RX0 19 "WordAnchors$Anchor" "truePlace" "I", Cond.fieldLink RX0 9 "WordAnchors$Anchor" "things" "[I", Cond.methodLink RX0 39 yX0_thing, Cond.instanceMethod yX0_thing, Cond.selects RX0 yX0_thing yX0_thing, Cond.code yX0_thing cX0_thing 2 (some .int), Cond.methodLink RX5 82 yX5_setting, Cond.instanceMethod yX5_setting, Cond.selects RX5 yX5_setting yX5_setting, Cond.code yX5_setting cX5_setting 2 (some .int), Cond.methodLink RX6 85 yX5_removeWord, Cond.instanceMethod yX5_removeWord, Cond.selects RX5 yX5_removeWord yX5_removeWord, Cond.code yX5_removeWord cX5_removeWord 2 none, Cond.methodLink RX5 55 yX4_remove, Cond.instanceMethod yX4_remove, Cond.selects RX4 yX4_remove yX4_remove, Cond.code yX4_remove cX4_remove 4 none, Cond.fieldLink RX4 15 "WordAnchors$Row" "targets" "[I", Cond.methodLink RX4 25 yX4_holds]
def wsX6_take_r4 : List Cond := [Cond.methodLink RX4 36 yX4_relocate, Cond.instanceMethod yX4_relocate, Cond.selects RX4 yX4_relocate yX4_relocate, Cond.code yX4_relocate cX4_relocate 4 none, Cond.fieldLink RX4 18 "WordAnchors$Row" "relocated" "[I", Cond.methodLink RX4 52 yX4_targetOf, Cond.instanceMethod yX4_targetOf, Cond.selects RX4 yX4_targetOf yX4_targetOf, Cond.code yX4_targetOf cX4_targetOf 2 (some .int), Cond.methodLink RX4 40 yX4_write, Cond.instanceMethod yX4_write, Cond.selects RX4 yX4_write yX4_write, Cond.code yX4_write cX4_write 3 none, Cond.methodLink RX5 52 yX5_followWords, Cond.instanceMethod yX5_followWords, Cond.selects RX5 yX5_followWords yX5_followWords, Cond.code yX5_followWords cX5_followWords 3 none, Cond.methodLink RX5 66 yX0_followWord, Cond.instanceMethod yX0_followWord, Cond.selects RX0 yX0_followWord yX0_followWord, Cond.code yX0_followWord cX0_followWord 2 none, Cond.methodLink RX0 36 yX4_targetOf]
def wsX6_take : List Cond := .code yX6_take cX6_take 3 (some .int) :: ((wsX6_take_r1 ++ (wsX6_take_r2 ++ (wsX6_take_r3 ++ wsX6_take_r4))) ++ wsX60 ++ wsX50 ++ wsX40 ++ wsX30 ++ wsX00)
def wsX6_change_r1 : List Cond := [Cond.fieldLink RX6 10 "WordAnchors" "now" "LWordAnchors$State;", Cond.fieldLink RX6 47 "WordAnchors$State" "row" "LWordAnchors$Row;", Cond.constant RX6 60 (-1000001), Cond.fieldLink RX6 22 "WordAnchors" "history" "LWordAnchors$History;", Cond.methodLink RX6 78 yX4_holds, Cond.instanceMethod yX4_holds, Cond.selects RX4 yX4_holds yX4_holds, Cond.initialized RX4, Cond.code yX4_holds cX4_holds 2 (some .boolean), Cond.fieldLink RX4 21 "WordAnchors$Row" "size" "I", Cond.fieldLink RX4 9 "WordAnchors$Row" "words" "[I", Cond.methodLink RX6 57 yX6_isWord, Cond.static yX6_isWord, Cond.initialized RX6, Cond.code yX6_isWord cX6_isWord 1 (some .boolean), Cond.methodLink RX6 81 yX4_at, Cond.instanceMethod yX4_at, Cond.selects RX4 yX4_at yX4_at, Cond.code yX4_at cX4_at 2 (some .int), Cond.methodLink RX6 66 yX3_record, Cond.instanceMethod yX3_record, Cond.selects RX3 yX3_record yX3_record, Cond.initialized RX3, Cond.code yX3_record cX3_record 3 none]
def wsX6_change_r2 : List Cond := [Cond.fieldLink RX3 18 "WordAnchors$History" "size" "I", Cond.fieldLink RX3 22 "WordAnchors$History" "oldest" "I", Cond.methodLink RX3 25 yX3_fromOldest, Cond.instanceMethod yX3_fromOldest, Cond.selects RX3 yX3_fromOldest yX3_fromOldest, Cond.code yX3_fromOldest cX3_fromOldest 3 (some (.object "WordAnchors$State")), Cond.fieldLink RX3 11 "WordAnchors$History" "states" "[LWordAnchors$State;", Cond.methodLink RX3 29 yX5_copyFrom, Cond.instanceMethod yX5_copyFrom, Cond.selects RX5 yX5_copyFrom yX5_copyFrom, Cond.initialized RX5, Cond.code yX5_copyFrom cX5_copyFrom 5 none, Cond.fieldLink RX5 12 "WordAnchors$State" "row" "LWordAnchors$Row;", Cond.fieldLink RX5 29 "WordAnchors$State" "anchorCount" "I", Cond.fieldLink RX5 24 "WordAnchors$State" "settings" "[I", Cond.fieldLink RX5 33 "WordAnchors$State" "edits" "I", Cond.methodLink RX5 152 yX4_copyFrom, Cond.instanceMethod yX4_copyFrom, Cond.selects RX4 yX4_copyFrom yX4_copyFrom, Cond.code yX4_copyFrom cX4_copyFrom 3 none, Cond.methodLink RX4 59 yX4_at, Cond.methodLink RX5 36 yX5_anchorNumbered, Cond.instanceMethod yX5_anchorNumbered, Cond.selects RX5 yX5_anchorNumbered yX5_anchorNumbered]
def wsX6_change_r3 : List Cond := [Cond.code yX5_anchorNumbered cX5_anchorNumbered 2 (some (.object "WordAnchors$Anchor")), Cond.fieldLink RX5 20 "WordAnchors$State" "anchors" "[LWordAnchors$Anchor;", Cond.methodLink RX5 44 yX0_copyFrom, Cond.instanceMethod yX0_copyFrom, Cond.selects RX0 yX0_copyFrom yX0_copyFrom, Cond.initialized RX0, Cond.code yX0_copyFrom cX0_copyFrom 3 none, Cond.fieldLink RX0 15 "WordAnchors$Anchor" "place" "I", Cond.fieldLink RX0 19 "WordAnchors$Anchor" "truePlace" "I", Cond.fieldLink RX0 9 "WordAnchors$Anchor" "things" "[I", Cond.methodLink RX0 39 yX0_thing, Cond.instanceMethod yX0_thing, Cond.selects RX0 yX0_thing yX0_thing, Cond.code yX0_thing cX0_thing 2 (some .int), Cond.methodLink RX5 82 yX5_setting, Cond.instanceMethod yX5_setting, Cond.selects RX5 yX5_setting yX5_setting, Cond.code yX5_setting cX5_setting 2 (some .int), Cond.methodLink RX6 89 yX5_replaceWord, Cond.instanceMethod yX5_replaceWord, Cond.selects RX5 yX5_replaceWord yX5_replaceWord, Cond.code yX5_replaceWord cX5_replaceWord 3 none, Cond.methodLink RX5 59 yX4_replace, Cond.instanceMethod yX4_replace]
def wsX6_change_r4 : List Cond := [Cond.selects RX4 yX4_replace yX4_replace, Cond.code yX4_replace cX4_replace 4 none, Cond.fieldLink RX4 15 "WordAnchors$Row" "targets" "[I", Cond.methodLink RX4 25 yX4_holds, Cond.methodLink RX4 40 yX4_write, Cond.instanceMethod yX4_write, Cond.selects RX4 yX4_write yX4_write, Cond.code yX4_write cX4_write 3 none, Cond.methodLink RX5 52 yX5_followWords, Cond.instanceMethod yX5_followWords, Cond.selects RX5 yX5_followWords yX5_followWords, Cond.code yX5_followWords cX5_followWords 3 none, Cond.methodLink RX5 66 yX0_followWord, Cond.instanceMethod yX0_followWord, Cond.selects RX0 yX0_followWord yX0_followWord, Cond.code yX0_followWord cX0_followWord 2 none, Cond.methodLink RX0 36 yX4_targetOf, Cond.instanceMethod yX4_targetOf, Cond.selects RX4 yX4_targetOf yX4_targetOf, Cond.code yX4_targetOf cX4_targetOf 2 (some .int)]
def wsX6_change : List Cond := .code yX6_change cX6_change 4 (some .int) :: ((wsX6_change_r1 ++ (wsX6_change_r2 ++ (wsX6_change_r3 ++ wsX6_change_r4))) ++ wsX60 ++ wsX50 ++ wsX40 ++ wsX30 ++ wsX00)
def wsX6_move_r1 : List Cond := [Cond.fieldLink RX6 10 "WordAnchors" "now" "LWordAnchors$State;", Cond.fieldLink RX6 47 "WordAnchors$State" "row" "LWordAnchors$Row;", Cond.constant RX6 60 (-1000001), Cond.fieldLink RX6 22 "WordAnchors" "history" "LWordAnchors$History;", Cond.methodLink RX6 92 yX4_canShift, Cond.instanceMethod yX4_canShift, Cond.selects RX4 yX4_canShift yX4_canShift, Cond.initialized RX4, Cond.code yX4_canShift cX4_canShift 4 (some .boolean), Cond.fieldLink RX4 21 "WordAnchors$Row" "size" "I", Cond.methodLink RX4 25 yX4_holds, Cond.instanceMethod yX4_holds, Cond.selects RX4 yX4_holds yX4_holds, Cond.code yX4_holds cX4_holds 2 (some .boolean), Cond.fieldLink RX4 9 "WordAnchors$Row" "words" "[I", Cond.methodLink RX6 66 yX3_record, Cond.instanceMethod yX3_record, Cond.selects RX3 yX3_record yX3_record, Cond.initialized RX3, Cond.code yX3_record cX3_record 3 none, Cond.fieldLink RX3 18 "WordAnchors$History" "size" "I", Cond.fieldLink RX3 22 "WordAnchors$History" "oldest" "I", Cond.methodLink RX3 25 yX3_fromOldest, Cond.instanceMethod yX3_fromOldest]
def wsX6_move_r2 : List Cond := [Cond.selects RX3 yX3_fromOldest yX3_fromOldest, Cond.code yX3_fromOldest cX3_fromOldest 3 (some (.object "WordAnchors$State")), Cond.fieldLink RX3 11 "WordAnchors$History" "states" "[LWordAnchors$State;", Cond.methodLink RX3 29 yX5_copyFrom, Cond.instanceMethod yX5_copyFrom, Cond.selects RX5 yX5_copyFrom yX5_copyFrom, Cond.initialized RX5, Cond.code yX5_copyFrom cX5_copyFrom 5 none, Cond.fieldLink RX5 12 "WordAnchors$State" "row" "LWordAnchors$Row;", Cond.fieldLink RX5 29 "WordAnchors$State" "anchorCount" "I", Cond.fieldLink RX5 24 "WordAnchors$State" "settings" "[I", Cond.fieldLink RX5 33 "WordAnchors$State" "edits" "I", Cond.methodLink RX5 152 yX4_copyFrom, Cond.instanceMethod yX4_copyFrom, Cond.selects RX4 yX4_copyFrom yX4_copyFrom, Cond.code yX4_copyFrom cX4_copyFrom 3 none, Cond.methodLink RX4 59 yX4_at, Cond.instanceMethod yX4_at, Cond.selects RX4 yX4_at yX4_at, Cond.code yX4_at cX4_at 2 (some .int), Cond.methodLink RX5 36 yX5_anchorNumbered, Cond.instanceMethod yX5_anchorNumbered, Cond.selects RX5 yX5_anchorNumbered yX5_anchorNumbered, Cond.code yX5_anchorNumbered cX5_anchorNumbered 2 (some (.object "WordAnchors$Anchor"))]
def wsX6_move_r3 : List Cond := [Cond.fieldLink RX5 20 "WordAnchors$State" "anchors" "[LWordAnchors$Anchor;", Cond.methodLink RX5 44 yX0_copyFrom, Cond.instanceMethod yX0_copyFrom, Cond.selects RX0 yX0_copyFrom yX0_copyFrom, Cond.initialized RX0, Cond.code yX0_copyFrom cX0_copyFrom 3 none, Cond.fieldLink RX0 15 "WordAnchors$Anchor" "place" "I", Cond.fieldLink RX0 19 "WordAnchors$Anchor" "truePlace" "I", Cond.fieldLink RX0 9 "WordAnchors$Anchor" "things" "[I", Cond.methodLink RX0 39 yX0_thing, Cond.instanceMethod yX0_thing, Cond.selects RX0 yX0_thing yX0_thing, Cond.code yX0_thing cX0_thing 2 (some .int), Cond.methodLink RX5 82 yX5_setting, Cond.instanceMethod yX5_setting, Cond.selects RX5 yX5_setting yX5_setting, Cond.code yX5_setting cX5_setting 2 (some .int), Cond.methodLink RX6 96 yX5_shiftWords, Cond.instanceMethod yX5_shiftWords, Cond.selects RX5 yX5_shiftWords yX5_shiftWords, Cond.code yX5_shiftWords cX5_shiftWords 4 none, Cond.methodLink RX5 62 yX4_shift, Cond.instanceMethod yX4_shift, Cond.selects RX4 yX4_shift yX4_shift]
def wsX6_move_r4 : List Cond := [Cond.code yX4_shift cX4_shift 5 none, Cond.fieldLink RX4 15 "WordAnchors$Row" "targets" "[I", Cond.methodLink RX4 44 yX4_canShift, Cond.methodLink RX4 48 yX4_placeAfterShift, Cond.static yX4_placeAfterShift, Cond.code yX4_placeAfterShift cX4_placeAfterShift 5 (some .int), Cond.methodLink RX4 36 yX4_relocate, Cond.instanceMethod yX4_relocate, Cond.selects RX4 yX4_relocate yX4_relocate, Cond.code yX4_relocate cX4_relocate 4 none, Cond.fieldLink RX4 18 "WordAnchors$Row" "relocated" "[I", Cond.methodLink RX4 52 yX4_targetOf, Cond.instanceMethod yX4_targetOf, Cond.selects RX4 yX4_targetOf yX4_targetOf, Cond.code yX4_targetOf cX4_targetOf 2 (some .int), Cond.methodLink RX4 40 yX4_write, Cond.instanceMethod yX4_write, Cond.selects RX4 yX4_write yX4_write, Cond.code yX4_write cX4_write 3 none, Cond.methodLink RX5 52 yX5_followWords, Cond.instanceMethod yX5_followWords, Cond.selects RX5 yX5_followWords yX5_followWords, Cond.code yX5_followWords cX5_followWords 3 none, Cond.methodLink RX5 66 yX0_followWord]
def wsX6_move_r5 : List Cond := [Cond.instanceMethod yX0_followWord, Cond.selects RX0 yX0_followWord yX0_followWord, Cond.code yX0_followWord cX0_followWord 2 none, Cond.methodLink RX0 36 yX4_targetOf, Cond.methodLink RX6 100 yX4_wordsElsewhere, Cond.instanceMethod yX4_wordsElsewhere, Cond.selects RX4 yX4_wordsElsewhere yX4_wordsElsewhere, Cond.code yX4_wordsElsewhere cX4_wordsElsewhere 3 (some .int)]
def wsX6_move : List Cond := .code yX6_move cX6_move 4 (some .int) :: ((wsX6_move_r1 ++ (wsX6_move_r2 ++ (wsX6_move_r3 ++ (wsX6_move_r4 ++ wsX6_move_r5)))) ++ wsX60 ++ wsX50 ++ wsX40 ++ wsX30 ++ wsX00)
def wsX6_anchor_r1 : List Cond := [Cond.fieldLink RX6 10 "WordAnchors" "now" "LWordAnchors$State;", Cond.fieldLink RX6 47 "WordAnchors$State" "row" "LWordAnchors$Row;", Cond.constant RX6 60 (-1000001), Cond.constant RX6 65 (-1000003), Cond.fieldLink RX6 22 "WordAnchors" "history" "LWordAnchors$History;", Cond.methodLink RX6 78 yX4_holds, Cond.instanceMethod yX4_holds, Cond.selects RX4 yX4_holds yX4_holds, Cond.initialized RX4, Cond.code yX4_holds cX4_holds 2 (some .boolean), Cond.fieldLink RX4 21 "WordAnchors$Row" "size" "I", Cond.fieldLink RX4 9 "WordAnchors$Row" "words" "[I", Cond.methodLink RX6 103 yX5_anchorCount, Cond.instanceMethod yX5_anchorCount, Cond.selects RX5 yX5_anchorCount yX5_anchorCount, Cond.initialized RX5, Cond.code yX5_anchorCount cX5_anchorCount 1 (some .int), Cond.fieldLink RX5 29 "WordAnchors$State" "anchorCount" "I", Cond.methodLink RX6 66 yX3_record, Cond.instanceMethod yX3_record, Cond.selects RX3 yX3_record yX3_record, Cond.initialized RX3, Cond.code yX3_record cX3_record 3 none, Cond.fieldLink RX3 18 "WordAnchors$History" "size" "I"]
def wsX6_anchor_r2 : List Cond := [Cond.fieldLink RX3 22 "WordAnchors$History" "oldest" "I", Cond.methodLink RX3 25 yX3_fromOldest, Cond.instanceMethod yX3_fromOldest, Cond.selects RX3 yX3_fromOldest yX3_fromOldest, Cond.code yX3_fromOldest cX3_fromOldest 3 (some (.object "WordAnchors$State")), Cond.fieldLink RX3 11 "WordAnchors$History" "states" "[LWordAnchors$State;", Cond.methodLink RX3 29 yX5_copyFrom, Cond.instanceMethod yX5_copyFrom, Cond.selects RX5 yX5_copyFrom yX5_copyFrom, Cond.code yX5_copyFrom cX5_copyFrom 5 none, Cond.fieldLink RX5 12 "WordAnchors$State" "row" "LWordAnchors$Row;", Cond.fieldLink RX5 24 "WordAnchors$State" "settings" "[I", Cond.fieldLink RX5 33 "WordAnchors$State" "edits" "I", Cond.methodLink RX5 152 yX4_copyFrom, Cond.instanceMethod yX4_copyFrom, Cond.selects RX4 yX4_copyFrom yX4_copyFrom, Cond.code yX4_copyFrom cX4_copyFrom 3 none, Cond.methodLink RX4 59 yX4_at, Cond.instanceMethod yX4_at, Cond.selects RX4 yX4_at yX4_at, Cond.code yX4_at cX4_at 2 (some .int), Cond.methodLink RX5 36 yX5_anchorNumbered, Cond.instanceMethod yX5_anchorNumbered, Cond.selects RX5 yX5_anchorNumbered yX5_anchorNumbered]
def wsX6_anchor_r3 : List Cond := [Cond.code yX5_anchorNumbered cX5_anchorNumbered 2 (some (.object "WordAnchors$Anchor")), Cond.fieldLink RX5 20 "WordAnchors$State" "anchors" "[LWordAnchors$Anchor;", Cond.methodLink RX5 44 yX0_copyFrom, Cond.instanceMethod yX0_copyFrom, Cond.selects RX0 yX0_copyFrom yX0_copyFrom, Cond.initialized RX0, Cond.code yX0_copyFrom cX0_copyFrom 3 none, Cond.fieldLink RX0 15 "WordAnchors$Anchor" "place" "I", Cond.fieldLink RX0 19 "WordAnchors$Anchor" "truePlace" "I", Cond.fieldLink RX0 9 "WordAnchors$Anchor" "things" "[I", Cond.methodLink RX0 39 yX0_thing, Cond.instanceMethod yX0_thing, Cond.selects RX0 yX0_thing yX0_thing, Cond.code yX0_thing cX0_thing 2 (some .int), Cond.methodLink RX5 82 yX5_setting, Cond.instanceMethod yX5_setting, Cond.selects RX5 yX5_setting yX5_setting, Cond.code yX5_setting cX5_setting 2 (some .int), Cond.methodLink RX6 106 yX5_addAnchor, Cond.instanceMethod yX5_addAnchor, Cond.selects RX5 yX5_addAnchor yX5_addAnchor, Cond.code yX5_addAnchor cX5_addAnchor 3 none, Cond.methodLink RX5 40 yX0_setAt, Cond.instanceMethod yX0_setAt]
def wsX6_anchor_r4 : List Cond := [Cond.selects RX0 yX0_setAt yX0_setAt, Cond.code yX0_setAt cX0_setAt 3 none, Cond.methodLink RX0 22 yX0_goTo, Cond.instanceMethod yX0_goTo, Cond.selects RX0 yX0_goTo yX0_goTo, Cond.code yX0_goTo cX0_goTo 2 none, Cond.methodLink RX0 26 yX0_look, Cond.instanceMethod yX0_look, Cond.selects RX0 yX0_look yX0_look, Cond.code yX0_look cX0_look 5 (some .int), Cond.methodLink RX0 30 yX4_at]
def wsX6_anchor : List Cond := .code yX6_anchor cX6_anchor 2 (some .int) :: ((wsX6_anchor_r1 ++ (wsX6_anchor_r2 ++ (wsX6_anchor_r3 ++ wsX6_anchor_r4))) ++ wsX60 ++ wsX50 ++ wsX40 ++ wsX30 ++ wsX00)
def wsX6_findAll_r1 : List Cond := [Cond.fieldLink RX6 22 "WordAnchors" "history" "LWordAnchors$History;", Cond.fieldLink RX6 10 "WordAnchors" "now" "LWordAnchors$State;", Cond.methodLink RX6 66 yX3_record, Cond.instanceMethod yX3_record, Cond.selects RX3 yX3_record yX3_record, Cond.initialized RX3, Cond.code yX3_record cX3_record 3 none, Cond.fieldLink RX3 18 "WordAnchors$History" "size" "I", Cond.fieldLink RX3 22 "WordAnchors$History" "oldest" "I", Cond.methodLink RX3 25 yX3_fromOldest, Cond.instanceMethod yX3_fromOldest, Cond.selects RX3 yX3_fromOldest yX3_fromOldest, Cond.code yX3_fromOldest cX3_fromOldest 3 (some (.object "WordAnchors$State")), Cond.fieldLink RX3 11 "WordAnchors$History" "states" "[LWordAnchors$State;", Cond.methodLink RX3 29 yX5_copyFrom, Cond.instanceMethod yX5_copyFrom, Cond.selects RX5 yX5_copyFrom yX5_copyFrom, Cond.initialized RX5, Cond.code yX5_copyFrom cX5_copyFrom 5 none, Cond.fieldLink RX5 12 "WordAnchors$State" "row" "LWordAnchors$Row;", Cond.fieldLink RX5 29 "WordAnchors$State" "anchorCount" "I", Cond.fieldLink RX5 24 "WordAnchors$State" "settings" "[I", Cond.fieldLink RX5 33 "WordAnchors$State" "edits" "I", Cond.methodLink RX5 152 yX4_copyFrom]
def wsX6_findAll_r2 : List Cond := [Cond.instanceMethod yX4_copyFrom, Cond.selects RX4 yX4_copyFrom yX4_copyFrom, Cond.initialized RX4, Cond.code yX4_copyFrom cX4_copyFrom 3 none, Cond.fieldLink RX4 9 "WordAnchors$Row" "words" "[I", Cond.fieldLink RX4 21 "WordAnchors$Row" "size" "I", Cond.methodLink RX4 59 yX4_at, Cond.instanceMethod yX4_at, Cond.selects RX4 yX4_at yX4_at, Cond.code yX4_at cX4_at 2 (some .int), Cond.methodLink RX5 36 yX5_anchorNumbered, Cond.instanceMethod yX5_anchorNumbered, Cond.selects RX5 yX5_anchorNumbered yX5_anchorNumbered, Cond.code yX5_anchorNumbered cX5_anchorNumbered 2 (some (.object "WordAnchors$Anchor")), Cond.fieldLink RX5 20 "WordAnchors$State" "anchors" "[LWordAnchors$Anchor;", Cond.methodLink RX5 44 yX0_copyFrom, Cond.instanceMethod yX0_copyFrom, Cond.selects RX0 yX0_copyFrom yX0_copyFrom, Cond.initialized RX0, Cond.code yX0_copyFrom cX0_copyFrom 3 none, Cond.fieldLink RX0 15 "WordAnchors$Anchor" "place" "I", Cond.fieldLink RX0 19 "WordAnchors$Anchor" "truePlace" "I", Cond.fieldLink RX0 9 "WordAnchors$Anchor" "things" "[I", Cond.methodLink RX0 39 yX0_thing]
def wsX6_findAll_r3 : List Cond := [Cond.instanceMethod yX0_thing, Cond.selects RX0 yX0_thing yX0_thing, Cond.code yX0_thing cX0_thing 2 (some .int), Cond.methodLink RX5 82 yX5_setting, Cond.instanceMethod yX5_setting, Cond.selects RX5 yX5_setting yX5_setting, Cond.code yX5_setting cX5_setting 2 (some .int), Cond.methodLink RX6 103 yX5_anchorCount, Cond.instanceMethod yX5_anchorCount, Cond.selects RX5 yX5_anchorCount yX5_anchorCount, Cond.code yX5_anchorCount cX5_anchorCount 1 (some .int), Cond.methodLink RX6 109 yX5_anchorNumbered, Cond.methodLink RX6 131 yX5_shiftOf, Cond.instanceMethod yX5_shiftOf, Cond.selects RX5 yX5_shiftOf yX5_shiftOf, Cond.code yX5_shiftOf cX5_shiftOf 3 (some .int), Cond.methodLink RX5 89 yX5_bestPlace, Cond.instanceMethod yX5_bestPlace, Cond.selects RX5 yX5_bestPlace yX5_bestPlace, Cond.code yX5_bestPlace cX5_bestPlace 2 (some .int), Cond.methodLink RX5 85 yX5_bestPlaceBut, Cond.instanceMethod yX5_bestPlaceBut, Cond.selects RX5 yX5_bestPlaceBut yX5_bestPlaceBut, Cond.code yX5_bestPlaceBut cX5_bestPlaceBut 10 (some .int)]
def wsX6_findAll_r4 : List Cond := [Cond.methodLink RX5 77 Lib.Math.abs.name, Cond.static Lib.Math.abs.name, Cond.initialized "java/lang/Math", Cond.code Lib.Math.abs.name Lib.Math.abs.code 1 (some .int), Cond.methodLink RX5 93 yX4_size, Cond.instanceMethod yX4_size, Cond.selects RX4 yX4_size yX4_size, Cond.code yX4_size cX4_size 1 (some .int), Cond.methodLink RX5 97 yX5_scoreOf, Cond.instanceMethod yX5_scoreOf, Cond.selects RX5 yX5_scoreOf yX5_scoreOf, Cond.code yX5_scoreOf cX5_scoreOf 6 (some .int), Cond.methodLink RX5 70 yX0_thing, Cond.methodLink RX5 74 yX4_at, Cond.methodLink RX5 100 yX0_place, Cond.instanceMethod yX0_place, Cond.selects RX0 yX0_place yX0_place, Cond.code yX0_place cX0_place 1 (some .int), Cond.methodLink RX5 103 yX5_isLost, Cond.instanceMethod yX5_isLost, Cond.selects RX5 yX5_isLost yX5_isLost, Cond.code yX5_isLost cX5_isLost 3 (some .boolean), Cond.methodLink RX6 128 yX0_place, Cond.methodLink RX6 125 yX0_goTo]
def wsX6_findAll_r5 : List Cond := [Cond.instanceMethod yX0_goTo, Cond.selects RX0 yX0_goTo yX0_goTo, Cond.code yX0_goTo cX0_goTo 2 none]
def wsX6_findAll : List Cond := .code yX6_findAll cX6_findAll 5 (some .int) :: ((wsX6_findAll_r1 ++ (wsX6_findAll_r2 ++ (wsX6_findAll_r3 ++ (wsX6_findAll_r4 ++ wsX6_findAll_r5)))) ++ wsX60 ++ wsX30 ++ wsX50 ++ wsX40 ++ wsX00)
def wsX6_remember_r1 : List Cond := [Cond.fieldLink RX6 10 "WordAnchors" "now" "LWordAnchors$State;", Cond.constant RX6 60 (-1000001), Cond.fieldLink RX6 47 "WordAnchors$State" "row" "LWordAnchors$Row;", Cond.constant RX6 124 (-1000002), Cond.fieldLink RX6 22 "WordAnchors" "history" "LWordAnchors$History;", Cond.methodLink RX6 109 yX5_anchorNumbered, Cond.instanceMethod yX5_anchorNumbered, Cond.selects RX5 yX5_anchorNumbered yX5_anchorNumbered, Cond.initialized RX5, Cond.code yX5_anchorNumbered cX5_anchorNumbered 2 (some (.object "WordAnchors$Anchor")), Cond.fieldLink RX5 29 "WordAnchors$State" "anchorCount" "I", Cond.fieldLink RX5 20 "WordAnchors$State" "anchors" "[LWordAnchors$Anchor;", Cond.methodLink RX6 128 yX0_place, Cond.instanceMethod yX0_place, Cond.selects RX0 yX0_place yX0_place, Cond.initialized RX0, Cond.code yX0_place cX0_place 1 (some .int), Cond.fieldLink RX0 15 "WordAnchors$Anchor" "place" "I", Cond.methodLink RX6 78 yX4_holds, Cond.instanceMethod yX4_holds, Cond.selects RX4 yX4_holds yX4_holds, Cond.initialized RX4, Cond.code yX4_holds cX4_holds 2 (some .boolean), Cond.fieldLink RX4 21 "WordAnchors$Row" "size" "I"]
def wsX6_remember_r2 : List Cond := [Cond.fieldLink RX4 9 "WordAnchors$Row" "words" "[I", Cond.methodLink RX6 66 yX3_record, Cond.instanceMethod yX3_record, Cond.selects RX3 yX3_record yX3_record, Cond.initialized RX3, Cond.code yX3_record cX3_record 3 none, Cond.fieldLink RX3 18 "WordAnchors$History" "size" "I", Cond.fieldLink RX3 22 "WordAnchors$History" "oldest" "I", Cond.methodLink RX3 25 yX3_fromOldest, Cond.instanceMethod yX3_fromOldest, Cond.selects RX3 yX3_fromOldest yX3_fromOldest, Cond.code yX3_fromOldest cX3_fromOldest 3 (some (.object "WordAnchors$State")), Cond.fieldLink RX3 11 "WordAnchors$History" "states" "[LWordAnchors$State;", Cond.methodLink RX3 29 yX5_copyFrom, Cond.instanceMethod yX5_copyFrom, Cond.selects RX5 yX5_copyFrom yX5_copyFrom, Cond.code yX5_copyFrom cX5_copyFrom 5 none, Cond.fieldLink RX5 12 "WordAnchors$State" "row" "LWordAnchors$Row;", Cond.fieldLink RX5 24 "WordAnchors$State" "settings" "[I", Cond.fieldLink RX5 33 "WordAnchors$State" "edits" "I", Cond.methodLink RX5 152 yX4_copyFrom, Cond.instanceMethod yX4_copyFrom, Cond.selects RX4 yX4_copyFrom yX4_copyFrom, Cond.code yX4_copyFrom cX4_copyFrom 3 none]
def wsX6_remember_r3 : List Cond := [Cond.methodLink RX4 59 yX4_at, Cond.instanceMethod yX4_at, Cond.selects RX4 yX4_at yX4_at, Cond.code yX4_at cX4_at 2 (some .int), Cond.methodLink RX5 36 yX5_anchorNumbered, Cond.methodLink RX5 44 yX0_copyFrom, Cond.instanceMethod yX0_copyFrom, Cond.selects RX0 yX0_copyFrom yX0_copyFrom, Cond.code yX0_copyFrom cX0_copyFrom 3 none, Cond.fieldLink RX0 19 "WordAnchors$Anchor" "truePlace" "I", Cond.fieldLink RX0 9 "WordAnchors$Anchor" "things" "[I", Cond.methodLink RX0 39 yX0_thing, Cond.instanceMethod yX0_thing, Cond.selects RX0 yX0_thing yX0_thing, Cond.code yX0_thing cX0_thing 2 (some .int), Cond.methodLink RX5 82 yX5_setting, Cond.instanceMethod yX5_setting, Cond.selects RX5 yX5_setting yX5_setting, Cond.code yX5_setting cX5_setting 2 (some .int), Cond.methodLink RX6 134 yX0_look, Cond.instanceMethod yX0_look, Cond.selects RX0 yX0_look yX0_look, Cond.code yX0_look cX0_look 5 (some .int), Cond.methodLink RX0 30 yX4_at]
def wsX6_remember : List Cond := .code yX6_remember cX6_remember 3 (some .int) :: ((wsX6_remember_r1 ++ (wsX6_remember_r2 ++ wsX6_remember_r3)) ++ wsX60 ++ wsX50 ++ wsX00 ++ wsX40 ++ wsX30)
def wsX6_orNotFound : List Cond := .code yX6_orNotFound cX6_orNotFound 1 (some .int) :: ([.constant RX6 182 (-1000004)])
def wsX6_wordAt : List Cond := .code yX6_wordAt cX6_wordAt 2 (some .int) :: ([.constant RX6 60 (-1000001), .fieldLink RX6 10 "WordAnchors" "now" "LWordAnchors$State;", .fieldLink RX6 47 "WordAnchors$State" "row" "LWordAnchors$Row;", .methodLink RX6 81 yX4_at, .instanceMethod yX4_at, .selects RX4 yX4_at yX4_at, .initialized RX4, .code yX4_at cX4_at 2 (some .int), .fieldLink RX4 21 "WordAnchors$Row" "size" "I", .fieldLink RX4 9 "WordAnchors$Row" "words" "[I", .methodLink RX6 148 yX6_orNotFound, .static yX6_orNotFound, .initialized RX6, .code yX6_orNotFound cX6_orNotFound 1 (some .int), .constant RX6 182 (-1000004)] ++ wsX60 ++ wsX50 ++ wsX40)
def wsX6_scoreOrNotFound_r1 : List Cond := [Cond.constant RX6 182 (-1000004), Cond.fieldLink RX6 10 "WordAnchors" "now" "LWordAnchors$State;", Cond.methodLink RX6 170 yX5_scoreOf, Cond.instanceMethod yX5_scoreOf, Cond.selects RX5 yX5_scoreOf yX5_scoreOf, Cond.initialized RX5, Cond.code yX5_scoreOf cX5_scoreOf 6 (some .int), Cond.fieldLink RX5 12 "WordAnchors$State" "row" "LWordAnchors$Row;", Cond.methodLink RX5 77 Lib.Math.abs.name, Cond.static Lib.Math.abs.name, Cond.initialized "java/lang/Math", Cond.code Lib.Math.abs.name Lib.Math.abs.code 1 (some .int), Cond.methodLink RX5 70 yX0_thing, Cond.instanceMethod yX0_thing, Cond.selects RX0 yX0_thing yX0_thing, Cond.initialized RX0, Cond.code yX0_thing cX0_thing 2 (some .int), Cond.fieldLink RX0 9 "WordAnchors$Anchor" "things" "[I", Cond.methodLink RX5 74 yX4_at, Cond.instanceMethod yX4_at, Cond.selects RX4 yX4_at yX4_at, Cond.initialized RX4, Cond.code yX4_at cX4_at 2 (some .int), Cond.fieldLink RX4 21 "WordAnchors$Row" "size" "I"]
def wsX6_scoreOrNotFound_r2 : List Cond := [Cond.fieldLink RX4 9 "WordAnchors$Row" "words" "[I", Cond.methodLink RX5 82 yX5_setting, Cond.instanceMethod yX5_setting, Cond.selects RX5 yX5_setting yX5_setting, Cond.code yX5_setting cX5_setting 2 (some .int), Cond.fieldLink RX5 24 "WordAnchors$State" "settings" "[I"]
def wsX6_scoreOrNotFound : List Cond := .code yX6_scoreOrNotFound cX6_scoreOrNotFound 3 (some .int) :: ((wsX6_scoreOrNotFound_r1 ++ wsX6_scoreOrNotFound_r2) ++ wsX60 ++ wsX50 ++ wsX00 ++ wsX40)
def wsX6_anchorOf_r1 : List Cond := [Cond.fieldLink RX6 10 "WordAnchors" "now" "LWordAnchors$State;", Cond.constant RX6 60 (-1000001), Cond.methodLink RX6 109 yX5_anchorNumbered, Cond.instanceMethod yX5_anchorNumbered, Cond.selects RX5 yX5_anchorNumbered yX5_anchorNumbered, Cond.initialized RX5, Cond.code yX5_anchorNumbered cX5_anchorNumbered 2 (some (.object "WordAnchors$Anchor")), Cond.fieldLink RX5 29 "WordAnchors$State" "anchorCount" "I", Cond.fieldLink RX5 20 "WordAnchors$State" "anchors" "[LWordAnchors$Anchor;", Cond.methodLink RX6 128 yX0_place, Cond.instanceMethod yX0_place, Cond.selects RX0 yX0_place yX0_place, Cond.initialized RX0, Cond.code yX0_place cX0_place 1 (some .int), Cond.fieldLink RX0 15 "WordAnchors$Anchor" "place" "I", Cond.methodLink RX6 151 yX0_truePlace, Cond.instanceMethod yX0_truePlace, Cond.selects RX0 yX0_truePlace yX0_truePlace, Cond.code yX0_truePlace cX0_truePlace 1 (some .int), Cond.fieldLink RX0 19 "WordAnchors$Anchor" "truePlace" "I", Cond.methodLink RX6 148 yX6_orNotFound, Cond.static yX6_orNotFound, Cond.initialized RX6, Cond.code yX6_orNotFound cX6_orNotFound 1 (some .int)]
def wsX6_anchorOf_r2 : List Cond := [Cond.constant RX6 182 (-1000004), Cond.methodLink RX6 154 yX5_standingOf, Cond.instanceMethod yX5_standingOf, Cond.selects RX5 yX5_standingOf yX5_standingOf, Cond.code yX5_standingOf cX5_standingOf 5 (some .int), Cond.methodLink RX5 85 yX5_bestPlaceBut, Cond.instanceMethod yX5_bestPlaceBut, Cond.selects RX5 yX5_bestPlaceBut yX5_bestPlaceBut, Cond.code yX5_bestPlaceBut cX5_bestPlaceBut 10 (some .int), Cond.fieldLink RX5 12 "WordAnchors$State" "row" "LWordAnchors$Row;", Cond.methodLink RX5 77 Lib.Math.abs.name, Cond.static Lib.Math.abs.name, Cond.initialized "java/lang/Math", Cond.code Lib.Math.abs.name Lib.Math.abs.code 1 (some .int), Cond.methodLink RX5 93 yX4_size, Cond.instanceMethod yX4_size, Cond.selects RX4 yX4_size yX4_size, Cond.initialized RX4, Cond.code yX4_size cX4_size 1 (some .int), Cond.fieldLink RX4 21 "WordAnchors$Row" "size" "I", Cond.methodLink RX5 97 yX5_scoreOf, Cond.instanceMethod yX5_scoreOf, Cond.selects RX5 yX5_scoreOf yX5_scoreOf, Cond.code yX5_scoreOf cX5_scoreOf 6 (some .int)]
def wsX6_anchorOf_r3 : List Cond := [Cond.methodLink RX5 70 yX0_thing, Cond.instanceMethod yX0_thing, Cond.selects RX0 yX0_thing yX0_thing, Cond.code yX0_thing cX0_thing 2 (some .int), Cond.fieldLink RX0 9 "WordAnchors$Anchor" "things" "[I", Cond.methodLink RX5 74 yX4_at, Cond.instanceMethod yX4_at, Cond.selects RX4 yX4_at yX4_at, Cond.code yX4_at cX4_at 2 (some .int), Cond.fieldLink RX4 9 "WordAnchors$Row" "words" "[I", Cond.methodLink RX5 82 yX5_setting, Cond.instanceMethod yX5_setting, Cond.selects RX5 yX5_setting yX5_setting, Cond.code yX5_setting cX5_setting 2 (some .int), Cond.fieldLink RX5 24 "WordAnchors$State" "settings" "[I", Cond.methodLink RX5 100 yX0_place, Cond.methodLink RX5 103 yX5_isLost, Cond.instanceMethod yX5_isLost, Cond.selects RX5 yX5_isLost yX5_isLost, Cond.code yX5_isLost cX5_isLost 3 (some .boolean), Cond.methodLink RX6 116 yX5_bestPlace, Cond.instanceMethod yX5_bestPlace, Cond.selects RX5 yX5_bestPlace yX5_bestPlace, Cond.code yX5_bestPlace cX5_bestPlace 2 (some .int)]
def wsX6_anchorOf_r4 : List Cond := [Cond.methodLink RX6 157 yX6_scoreOrNotFound, Cond.instanceMethod yX6_scoreOrNotFound, Cond.selects RX6 yX6_scoreOrNotFound yX6_scoreOrNotFound, Cond.code yX6_scoreOrNotFound cX6_scoreOrNotFound 3 (some .int), Cond.methodLink RX6 170 yX5_scoreOf, Cond.methodLink RX6 161 yX5_nextBestPlace, Cond.instanceMethod yX5_nextBestPlace, Cond.selects RX5 yX5_nextBestPlace yX5_nextBestPlace, Cond.code yX5_nextBestPlace cX5_nextBestPlace 2 (some .int), Cond.methodLink RX5 89 yX5_bestPlace, Cond.methodLink RX6 164 yX5_isOfKind, Cond.instanceMethod yX5_isOfKind, Cond.selects RX5 yX5_isOfKind yX5_isOfKind, Cond.code yX5_isOfKind cX5_isOfKind 3 (some .boolean), Cond.methodLink RX5 107 yX0_truePlace, Cond.methodLink RX5 110 yX5_standingOf, Cond.methodLink RX6 167 yX0_thing]
def wsX6_anchorOf : List Cond := .code yX6_anchorOf cX6_anchorOf 4 (some .int) :: ((wsX6_anchorOf_r1 ++ (wsX6_anchorOf_r2 ++ (wsX6_anchorOf_r3 ++ wsX6_anchorOf_r4))) ++ wsX60 ++ wsX50 ++ wsX00 ++ wsX40)
def wsX6_score_r1 : List Cond := [Cond.fieldLink RX6 10 "WordAnchors" "now" "LWordAnchors$State;", Cond.fieldLink RX6 47 "WordAnchors$State" "row" "LWordAnchors$Row;", Cond.constant RX6 60 (-1000001), Cond.methodLink RX6 109 yX5_anchorNumbered, Cond.instanceMethod yX5_anchorNumbered, Cond.selects RX5 yX5_anchorNumbered yX5_anchorNumbered, Cond.initialized RX5, Cond.code yX5_anchorNumbered cX5_anchorNumbered 2 (some (.object "WordAnchors$Anchor")), Cond.fieldLink RX5 29 "WordAnchors$State" "anchorCount" "I", Cond.fieldLink RX5 20 "WordAnchors$State" "anchors" "[LWordAnchors$Anchor;", Cond.methodLink RX6 78 yX4_holds, Cond.instanceMethod yX4_holds, Cond.selects RX4 yX4_holds yX4_holds, Cond.initialized RX4, Cond.code yX4_holds cX4_holds 2 (some .boolean), Cond.fieldLink RX4 21 "WordAnchors$Row" "size" "I", Cond.fieldLink RX4 9 "WordAnchors$Row" "words" "[I", Cond.methodLink RX6 170 yX5_scoreOf, Cond.instanceMethod yX5_scoreOf, Cond.selects RX5 yX5_scoreOf yX5_scoreOf, Cond.code yX5_scoreOf cX5_scoreOf 6 (some .int), Cond.fieldLink RX5 12 "WordAnchors$State" "row" "LWordAnchors$Row;", Cond.methodLink RX5 77 Lib.Math.abs.name, Cond.static Lib.Math.abs.name]
def wsX6_score_r2 : List Cond := [Cond.initialized "java/lang/Math", Cond.code Lib.Math.abs.name Lib.Math.abs.code 1 (some .int), Cond.methodLink RX5 70 yX0_thing, Cond.instanceMethod yX0_thing, Cond.selects RX0 yX0_thing yX0_thing, Cond.initialized RX0, Cond.code yX0_thing cX0_thing 2 (some .int), Cond.fieldLink RX0 9 "WordAnchors$Anchor" "things" "[I", Cond.methodLink RX5 74 yX4_at, Cond.instanceMethod yX4_at, Cond.selects RX4 yX4_at yX4_at, Cond.code yX4_at cX4_at 2 (some .int), Cond.methodLink RX5 82 yX5_setting, Cond.instanceMethod yX5_setting, Cond.selects RX5 yX5_setting yX5_setting, Cond.code yX5_setting cX5_setting 2 (some .int), Cond.fieldLink RX5 24 "WordAnchors$State" "settings" "[I"]
def wsX6_score : List Cond := .code yX6_score cX6_score 4 (some .int) :: ((wsX6_score_r1 ++ wsX6_score_r2) ++ wsX60 ++ wsX50 ++ wsX40 ++ wsX00)
def wsX6_anchors_r1 : List Cond := [Cond.constant RX6 60 (-1000001), Cond.fieldLink RX6 10 "WordAnchors" "now" "LWordAnchors$State;", Cond.methodLink RX6 173 yX5_anchorsOfKind, Cond.instanceMethod yX5_anchorsOfKind, Cond.selects RX5 yX5_anchorsOfKind yX5_anchorsOfKind, Cond.initialized RX5, Cond.code yX5_anchorsOfKind cX5_anchorsOfKind 5 (some .int), Cond.fieldLink RX5 29 "WordAnchors$State" "anchorCount" "I", Cond.methodLink RX5 36 yX5_anchorNumbered, Cond.instanceMethod yX5_anchorNumbered, Cond.selects RX5 yX5_anchorNumbered yX5_anchorNumbered, Cond.code yX5_anchorNumbered cX5_anchorNumbered 2 (some (.object "WordAnchors$Anchor")), Cond.fieldLink RX5 20 "WordAnchors$State" "anchors" "[LWordAnchors$Anchor;", Cond.methodLink RX5 113 yX5_isOfKind, Cond.instanceMethod yX5_isOfKind, Cond.selects RX5 yX5_isOfKind yX5_isOfKind, Cond.code yX5_isOfKind cX5_isOfKind 3 (some .boolean), Cond.methodLink RX5 89 yX5_bestPlace, Cond.instanceMethod yX5_bestPlace, Cond.selects RX5 yX5_bestPlace yX5_bestPlace, Cond.code yX5_bestPlace cX5_bestPlace 2 (some .int), Cond.methodLink RX5 85 yX5_bestPlaceBut, Cond.instanceMethod yX5_bestPlaceBut, Cond.selects RX5 yX5_bestPlaceBut yX5_bestPlaceBut]
def wsX6_anchors_r2 : List Cond := [Cond.code yX5_bestPlaceBut cX5_bestPlaceBut 10 (some .int), Cond.fieldLink RX5 12 "WordAnchors$State" "row" "LWordAnchors$Row;", Cond.methodLink RX5 77 Lib.Math.abs.name, Cond.static Lib.Math.abs.name, Cond.initialized "java/lang/Math", Cond.code Lib.Math.abs.name Lib.Math.abs.code 1 (some .int), Cond.methodLink RX5 93 yX4_size, Cond.instanceMethod yX4_size, Cond.selects RX4 yX4_size yX4_size, Cond.initialized RX4, Cond.code yX4_size cX4_size 1 (some .int), Cond.fieldLink RX4 21 "WordAnchors$Row" "size" "I", Cond.methodLink RX5 97 yX5_scoreOf, Cond.instanceMethod yX5_scoreOf, Cond.selects RX5 yX5_scoreOf yX5_scoreOf, Cond.code yX5_scoreOf cX5_scoreOf 6 (some .int), Cond.methodLink RX5 70 yX0_thing, Cond.instanceMethod yX0_thing, Cond.selects RX0 yX0_thing yX0_thing, Cond.initialized RX0, Cond.code yX0_thing cX0_thing 2 (some .int), Cond.fieldLink RX0 9 "WordAnchors$Anchor" "things" "[I", Cond.methodLink RX5 74 yX4_at, Cond.instanceMethod yX4_at]
def wsX6_anchors_r3 : List Cond := [Cond.selects RX4 yX4_at yX4_at, Cond.code yX4_at cX4_at 2 (some .int), Cond.fieldLink RX4 9 "WordAnchors$Row" "words" "[I", Cond.methodLink RX5 82 yX5_setting, Cond.instanceMethod yX5_setting, Cond.selects RX5 yX5_setting yX5_setting, Cond.code yX5_setting cX5_setting 2 (some .int), Cond.fieldLink RX5 24 "WordAnchors$State" "settings" "[I", Cond.methodLink RX5 100 yX0_place, Cond.instanceMethod yX0_place, Cond.selects RX0 yX0_place yX0_place, Cond.code yX0_place cX0_place 1 (some .int), Cond.fieldLink RX0 15 "WordAnchors$Anchor" "place" "I", Cond.methodLink RX5 103 yX5_isLost, Cond.instanceMethod yX5_isLost, Cond.selects RX5 yX5_isLost yX5_isLost, Cond.code yX5_isLost cX5_isLost 3 (some .boolean), Cond.methodLink RX5 107 yX0_truePlace, Cond.instanceMethod yX0_truePlace, Cond.selects RX0 yX0_truePlace yX0_truePlace, Cond.code yX0_truePlace cX0_truePlace 1 (some .int), Cond.fieldLink RX0 19 "WordAnchors$Anchor" "truePlace" "I", Cond.methodLink RX5 110 yX5_standingOf, Cond.instanceMethod yX5_standingOf]
def wsX6_anchors_r4 : List Cond := [Cond.selects RX5 yX5_standingOf yX5_standingOf, Cond.code yX5_standingOf cX5_standingOf 5 (some .int)]
def wsX6_anchors : List Cond := .code yX6_anchors cX6_anchors 2 (some .int) :: ((wsX6_anchors_r1 ++ (wsX6_anchors_r2 ++ (wsX6_anchors_r3 ++ wsX6_anchors_r4))) ++ wsX60 ++ wsX50 ++ wsX40 ++ wsX00)
def wsX6_blockOf_r1 : List Cond := [Cond.constant RX6 60 (-1000001), Cond.fieldLink RX6 36 "WordAnchors" "blocks" "LWordAnchors$Blocks;", Cond.fieldLink RX6 10 "WordAnchors" "now" "LWordAnchors$State;", Cond.constant RX6 182 (-1000004), Cond.methodLink RX6 176 yX1_gather, Cond.instanceMethod yX1_gather, Cond.selects RX1 yX1_gather yX1_gather, Cond.initialized RX1, Cond.code yX1_gather cX1_gather 4 none, Cond.fieldLink RX1 18 "WordAnchors$Blocks" "size" "I", Cond.methodLink RX1 22 yX5_anchorCount, Cond.instanceMethod yX5_anchorCount, Cond.selects RX5 yX5_anchorCount yX5_anchorCount, Cond.initialized RX5, Cond.code yX5_anchorCount cX5_anchorCount 1 (some .int), Cond.fieldLink RX5 29 "WordAnchors$State" "anchorCount" "I", Cond.methodLink RX1 28 yX5_anchorNumbered, Cond.instanceMethod yX5_anchorNumbered, Cond.selects RX5 yX5_anchorNumbered yX5_anchorNumbered, Cond.code yX5_anchorNumbered cX5_anchorNumbered 2 (some (.object "WordAnchors$Anchor")), Cond.fieldLink RX5 20 "WordAnchors$State" "anchors" "[LWordAnchors$Anchor;", Cond.methodLink RX1 32 yX5_shiftOf, Cond.instanceMethod yX5_shiftOf, Cond.selects RX5 yX5_shiftOf yX5_shiftOf]
def wsX6_blockOf_r2 : List Cond := [Cond.code yX5_shiftOf cX5_shiftOf 3 (some .int), Cond.methodLink RX5 89 yX5_bestPlace, Cond.instanceMethod yX5_bestPlace, Cond.selects RX5 yX5_bestPlace yX5_bestPlace, Cond.code yX5_bestPlace cX5_bestPlace 2 (some .int), Cond.methodLink RX5 85 yX5_bestPlaceBut, Cond.instanceMethod yX5_bestPlaceBut, Cond.selects RX5 yX5_bestPlaceBut yX5_bestPlaceBut, Cond.code yX5_bestPlaceBut cX5_bestPlaceBut 10 (some .int), Cond.fieldLink RX5 12 "WordAnchors$State" "row" "LWordAnchors$Row;", Cond.methodLink RX5 77 Lib.Math.abs.name, Cond.static Lib.Math.abs.name, Cond.initialized "java/lang/Math", Cond.code Lib.Math.abs.name Lib.Math.abs.code 1 (some .int), Cond.methodLink RX5 93 yX4_size, Cond.instanceMethod yX4_size, Cond.selects RX4 yX4_size yX4_size, Cond.initialized RX4, Cond.code yX4_size cX4_size 1 (some .int), Cond.fieldLink RX4 21 "WordAnchors$Row" "size" "I", Cond.methodLink RX5 97 yX5_scoreOf, Cond.instanceMethod yX5_scoreOf, Cond.selects RX5 yX5_scoreOf yX5_scoreOf, Cond.code yX5_scoreOf cX5_scoreOf 6 (some .int)]
def wsX6_blockOf_r3 : List Cond := [Cond.methodLink RX5 70 yX0_thing, Cond.instanceMethod yX0_thing, Cond.selects RX0 yX0_thing yX0_thing, Cond.initialized RX0, Cond.code yX0_thing cX0_thing 2 (some .int), Cond.fieldLink RX0 9 "WordAnchors$Anchor" "things" "[I", Cond.methodLink RX5 74 yX4_at, Cond.instanceMethod yX4_at, Cond.selects RX4 yX4_at yX4_at, Cond.code yX4_at cX4_at 2 (some .int), Cond.fieldLink RX4 9 "WordAnchors$Row" "words" "[I", Cond.methodLink RX5 82 yX5_setting, Cond.instanceMethod yX5_setting, Cond.selects RX5 yX5_setting yX5_setting, Cond.code yX5_setting cX5_setting 2 (some .int), Cond.fieldLink RX5 24 "WordAnchors$State" "settings" "[I", Cond.methodLink RX5 100 yX0_place, Cond.instanceMethod yX0_place, Cond.selects RX0 yX0_place yX0_place, Cond.code yX0_place cX0_place 1 (some .int), Cond.fieldLink RX0 15 "WordAnchors$Anchor" "place" "I", Cond.methodLink RX5 103 yX5_isLost, Cond.instanceMethod yX5_isLost, Cond.selects RX5 yX5_isLost yX5_isLost]
def wsX6_blockOf_r4 : List Cond := [Cond.code yX5_isLost cX5_isLost 3 (some .boolean), Cond.methodLink RX1 36 yX1_enter, Cond.instanceMethod yX1_enter, Cond.selects RX1 yX1_enter yX1_enter, Cond.code yX1_enter cX1_enter 4 none, Cond.fieldLink RX1 9 "WordAnchors$Blocks" "shifts" "[I", Cond.fieldLink RX1 15 "WordAnchors$Blocks" "members" "[I", Cond.methodLink RX1 40 yX1_shiftOf, Cond.instanceMethod yX1_shiftOf, Cond.selects RX1 yX1_shiftOf yX1_shiftOf, Cond.code yX1_shiftOf cX1_shiftOf 2 (some .int), Cond.methodLink RX6 179 yX1_inOrder, Cond.instanceMethod yX1_inOrder, Cond.selects RX1 yX1_inOrder yX1_inOrder, Cond.code yX1_inOrder cX1_inOrder 3 (some .int), Cond.methodLink RX1 43 yX1_blocksAheadOf, Cond.instanceMethod yX1_blocksAheadOf, Cond.selects RX1 yX1_blocksAheadOf yX1_blocksAheadOf, Cond.code yX1_blocksAheadOf cX1_blocksAheadOf 4 (some .int), Cond.methodLink RX1 46 yX1_isAhead, Cond.instanceMethod yX1_isAhead, Cond.selects RX1 yX1_isAhead yX1_isAhead, Cond.code yX1_isAhead cX1_isAhead 4 (some .boolean), Cond.methodLink RX1 50 yX1_membersOf]
def wsX6_blockOf_r5 : List Cond := [Cond.instanceMethod yX1_membersOf, Cond.selects RX1 yX1_membersOf yX1_membersOf, Cond.code yX1_membersOf cX1_membersOf 2 (some .int), Cond.methodLink RX1 53 yJ6_bitCount_0f7a4, Cond.static yJ6_bitCount_0f7a4, Cond.initialized RJ6, Cond.code yJ6_bitCount_0f7a4 cJ6_bitCount_0f7a4 1 (some .int), Cond.constant RJ6 265 (1431655765), Cond.constant RJ6 266 (858993459), Cond.constant RJ6 267 (252645135), Cond.methodLink RX6 183 yX1_membersOf, Cond.methodLink RX6 186 yX1_shiftOf]
def wsX6_blockOf : List Cond := .code yX6_blockOf cX6_blockOf 4 (some .int) :: ((wsX6_blockOf_r1 ++ (wsX6_blockOf_r2 ++ (wsX6_blockOf_r3 ++ (wsX6_blockOf_r4 ++ wsX6_blockOf_r5)))) ++ wsX60 ++ wsX10 ++ wsX50 ++ wsX40 ++ wsX00)
def wsX6_count_r1 : List Cond := [Cond.fieldLink RX6 10 "WordAnchors" "now" "LWordAnchors$State;", Cond.fieldLink RX6 47 "WordAnchors$State" "row" "LWordAnchors$Row;", Cond.fieldLink RX6 22 "WordAnchors" "history" "LWordAnchors$History;", Cond.fieldLink RX6 29 "WordAnchors" "text" "LWordAnchors$EditText;", Cond.constant RX6 60 (-1000001), Cond.methodLink RX6 74 yX4_size, Cond.instanceMethod yX4_size, Cond.selects RX4 yX4_size yX4_size, Cond.initialized RX4, Cond.code yX4_size cX4_size 1 (some .int), Cond.fieldLink RX4 21 "WordAnchors$Row" "size" "I", Cond.methodLink RX6 103 yX5_anchorCount, Cond.instanceMethod yX5_anchorCount, Cond.selects RX5 yX5_anchorCount yX5_anchorCount, Cond.initialized RX5, Cond.code yX5_anchorCount cX5_anchorCount 1 (some .int), Cond.fieldLink RX5 29 "WordAnchors$State" "anchorCount" "I", Cond.methodLink RX6 199 yX4_unlikeWords, Cond.instanceMethod yX4_unlikeWords, Cond.selects RX4 yX4_unlikeWords yX4_unlikeWords, Cond.code yX4_unlikeWords cX4_unlikeWords 3 (some .int), Cond.methodLink RX4 56 yX4_standsAhead, Cond.instanceMethod yX4_standsAhead, Cond.selects RX4 yX4_standsAhead yX4_standsAhead]
def wsX6_count_r2 : List Cond := [Cond.code yX4_standsAhead cX4_standsAhead 3 (some .boolean), Cond.methodLink RX4 59 yX4_at, Cond.instanceMethod yX4_at, Cond.selects RX4 yX4_at yX4_at, Cond.code yX4_at cX4_at 2 (some .int), Cond.fieldLink RX4 9 "WordAnchors$Row" "words" "[I", Cond.methodLink RX6 202 yX5_edits, Cond.instanceMethod yX5_edits, Cond.selects RX5 yX5_edits yX5_edits, Cond.code yX5_edits cX5_edits 1 (some .int), Cond.fieldLink RX5 33 "WordAnchors$State" "edits" "I", Cond.methodLink RX6 205 yX3_size, Cond.instanceMethod yX3_size, Cond.selects RX3 yX3_size yX3_size, Cond.initialized RX3, Cond.code yX3_size cX3_size 1 (some .int), Cond.fieldLink RX3 18 "WordAnchors$History" "size" "I", Cond.methodLink RX6 206 yX2_length, Cond.instanceMethod yX2_length, Cond.selects RX2 yX2_length yX2_length, Cond.initialized RX2, Cond.code yX2_length cX2_length 1 (some .int), Cond.fieldLink RX2 19 "WordAnchors$EditText" "length" "I", Cond.methodLink RX6 142 yX5_setting]
def wsX6_count_r3 : List Cond := [Cond.instanceMethod yX5_setting, Cond.selects RX5 yX5_setting yX5_setting, Cond.code yX5_setting cX5_setting 2 (some .int), Cond.fieldLink RX5 24 "WordAnchors$State" "settings" "[I"]
def wsX6_count : List Cond := .code yX6_count cX6_count 2 (some .int) :: ((wsX6_count_r1 ++ (wsX6_count_r2 ++ wsX6_count_r3)) ++ wsX60 ++ wsX50 ++ wsX40 ++ wsX30 ++ wsX20)
def wsX6_undo_r1 : List Cond := [Cond.fieldLink RX6 22 "WordAnchors" "history" "LWordAnchors$History;", Cond.constant RX6 124 (-1000002), Cond.fieldLink RX6 10 "WordAnchors" "now" "LWordAnchors$State;", Cond.methodLink RX6 209 yX3_latest, Cond.instanceMethod yX3_latest, Cond.selects RX3 yX3_latest yX3_latest, Cond.initialized RX3, Cond.code yX3_latest cX3_latest 1 (some (.object "WordAnchors$State")), Cond.fieldLink RX3 18 "WordAnchors$History" "size" "I", Cond.methodLink RX3 25 yX3_fromOldest, Cond.instanceMethod yX3_fromOldest, Cond.selects RX3 yX3_fromOldest yX3_fromOldest, Cond.code yX3_fromOldest cX3_fromOldest 3 (some (.object "WordAnchors$State")), Cond.fieldLink RX3 22 "WordAnchors$History" "oldest" "I", Cond.fieldLink RX3 11 "WordAnchors$History" "states" "[LWordAnchors$State;", Cond.methodLink RX6 213 yX5_copyFrom, Cond.instanceMethod yX5_copyFrom, Cond.selects RX5 yX5_copyFrom yX5_copyFrom, Cond.initialized RX5, Cond.code yX5_copyFrom cX5_copyFrom 5 none, Cond.fieldLink RX5 12 "WordAnchors$State" "row" "LWordAnchors$Row;", Cond.fieldLink RX5 29 "WordAnchors$State" "anchorCount" "I", Cond.fieldLink RX5 24 "WordAnchors$State" "settings" "[I", Cond.fieldLink RX5 33 "WordAnchors$State" "edits" "I"]
def wsX6_undo_r2 : List Cond := [Cond.methodLink RX5 152 yX4_copyFrom, Cond.instanceMethod yX4_copyFrom, Cond.selects RX4 yX4_copyFrom yX4_copyFrom, Cond.initialized RX4, Cond.code yX4_copyFrom cX4_copyFrom 3 none, Cond.fieldLink RX4 9 "WordAnchors$Row" "words" "[I", Cond.fieldLink RX4 21 "WordAnchors$Row" "size" "I", Cond.methodLink RX4 59 yX4_at, Cond.instanceMethod yX4_at, Cond.selects RX4 yX4_at yX4_at, Cond.code yX4_at cX4_at 2 (some .int), Cond.methodLink RX5 36 yX5_anchorNumbered, Cond.instanceMethod yX5_anchorNumbered, Cond.selects RX5 yX5_anchorNumbered yX5_anchorNumbered, Cond.code yX5_anchorNumbered cX5_anchorNumbered 2 (some (.object "WordAnchors$Anchor")), Cond.fieldLink RX5 20 "WordAnchors$State" "anchors" "[LWordAnchors$Anchor;", Cond.methodLink RX5 44 yX0_copyFrom, Cond.instanceMethod yX0_copyFrom, Cond.selects RX0 yX0_copyFrom yX0_copyFrom, Cond.initialized RX0, Cond.code yX0_copyFrom cX0_copyFrom 3 none, Cond.fieldLink RX0 15 "WordAnchors$Anchor" "place" "I", Cond.fieldLink RX0 19 "WordAnchors$Anchor" "truePlace" "I", Cond.fieldLink RX0 9 "WordAnchors$Anchor" "things" "[I"]
def wsX6_undo_r3 : List Cond := [Cond.methodLink RX0 39 yX0_thing, Cond.instanceMethod yX0_thing, Cond.selects RX0 yX0_thing yX0_thing, Cond.code yX0_thing cX0_thing 2 (some .int), Cond.methodLink RX5 82 yX5_setting, Cond.instanceMethod yX5_setting, Cond.selects RX5 yX5_setting yX5_setting, Cond.code yX5_setting cX5_setting 2 (some .int), Cond.methodLink RX6 216 yX3_forgetLatest, Cond.instanceMethod yX3_forgetLatest, Cond.selects RX3 yX3_forgetLatest yX3_forgetLatest, Cond.code yX3_forgetLatest cX3_forgetLatest 1 none, Cond.methodLink RX6 205 yX3_size, Cond.instanceMethod yX3_size, Cond.selects RX3 yX3_size yX3_size, Cond.code yX3_size cX3_size 1 (some .int)]
def wsX6_undo : List Cond := .code yX6_undo cX6_undo 2 (some .int) :: ((wsX6_undo_r1 ++ (wsX6_undo_r2 ++ wsX6_undo_r3)) ++ wsX60 ++ wsX30 ++ wsX50 ++ wsX40 ++ wsX00)
def wsJ9_abs_0f7a4 : List Cond := .code yJ9_abs_0f7a4 cJ9_abs_0f7a4 1 (some .int) :: ([])
def wsL_cell : List Cond := .code yL_cell cL_cell 2 (some .int) :: ([.constant RL 7 (2147483647)])
def wsL_holds_r1 : List Cond := [Cond.methodLink RL 8 yX6_count, Cond.instanceMethod yX6_count, Cond.selects RX6 yX6_count yX6_count, Cond.initialized RX6, Cond.code yX6_count cX6_count 2 (some .int), Cond.fieldLink RX6 10 "WordAnchors" "now" "LWordAnchors$State;", Cond.fieldLink RX6 47 "WordAnchors$State" "row" "LWordAnchors$Row;", Cond.fieldLink RX6 22 "WordAnchors" "history" "LWordAnchors$History;", Cond.fieldLink RX6 29 "WordAnchors" "text" "LWordAnchors$EditText;", Cond.constant RX6 60 (-1000001), Cond.methodLink RX6 74 yX4_size, Cond.instanceMethod yX4_size, Cond.selects RX4 yX4_size yX4_size, Cond.initialized RX4, Cond.code yX4_size cX4_size 1 (some .int), Cond.fieldLink RX4 21 "WordAnchors$Row" "size" "I", Cond.methodLink RX6 103 yX5_anchorCount, Cond.instanceMethod yX5_anchorCount, Cond.selects RX5 yX5_anchorCount yX5_anchorCount, Cond.initialized RX5, Cond.code yX5_anchorCount cX5_anchorCount 1 (some .int), Cond.fieldLink RX5 29 "WordAnchors$State" "anchorCount" "I", Cond.methodLink RX6 199 yX4_unlikeWords, Cond.instanceMethod yX4_unlikeWords]
def wsL_holds_r2 : List Cond := [Cond.selects RX4 yX4_unlikeWords yX4_unlikeWords, Cond.code yX4_unlikeWords cX4_unlikeWords 3 (some .int), Cond.methodLink RX4 56 yX4_standsAhead, Cond.instanceMethod yX4_standsAhead, Cond.selects RX4 yX4_standsAhead yX4_standsAhead, Cond.code yX4_standsAhead cX4_standsAhead 3 (some .boolean), Cond.methodLink RX4 59 yX4_at, Cond.instanceMethod yX4_at, Cond.selects RX4 yX4_at yX4_at, Cond.code yX4_at cX4_at 2 (some .int), Cond.fieldLink RX4 9 "WordAnchors$Row" "words" "[I", Cond.methodLink RX6 202 yX5_edits, Cond.instanceMethod yX5_edits, Cond.selects RX5 yX5_edits yX5_edits, Cond.code yX5_edits cX5_edits 1 (some .int), Cond.fieldLink RX5 33 "WordAnchors$State" "edits" "I", Cond.methodLink RX6 205 yX3_size, Cond.instanceMethod yX3_size, Cond.selects RX3 yX3_size yX3_size, Cond.initialized RX3, Cond.code yX3_size cX3_size 1 (some .int), Cond.fieldLink RX3 18 "WordAnchors$History" "size" "I", Cond.methodLink RX6 206 yX2_length, Cond.instanceMethod yX2_length]
def wsL_holds_r3 : List Cond := [Cond.selects RX2 yX2_length yX2_length, Cond.initialized RX2, Cond.code yX2_length cX2_length 1 (some .int), Cond.fieldLink RX2 19 "WordAnchors$EditText" "length" "I", Cond.methodLink RX6 142 yX5_setting, Cond.instanceMethod yX5_setting, Cond.selects RX5 yX5_setting yX5_setting, Cond.code yX5_setting cX5_setting 2 (some .int), Cond.fieldLink RX5 24 "WordAnchors$State" "settings" "[I", Cond.methodLink RL 14 yX6_anchors, Cond.instanceMethod yX6_anchors, Cond.selects RX6 yX6_anchors yX6_anchors, Cond.code yX6_anchors cX6_anchors 2 (some .int), Cond.methodLink RX6 173 yX5_anchorsOfKind, Cond.instanceMethod yX5_anchorsOfKind, Cond.selects RX5 yX5_anchorsOfKind yX5_anchorsOfKind, Cond.code yX5_anchorsOfKind cX5_anchorsOfKind 5 (some .int), Cond.methodLink RX5 36 yX5_anchorNumbered, Cond.instanceMethod yX5_anchorNumbered, Cond.selects RX5 yX5_anchorNumbered yX5_anchorNumbered, Cond.code yX5_anchorNumbered cX5_anchorNumbered 2 (some (.object "WordAnchors$Anchor")), Cond.fieldLink RX5 20 "WordAnchors$State" "anchors" "[LWordAnchors$Anchor;", Cond.methodLink RX5 113 yX5_isOfKind, Cond.instanceMethod yX5_isOfKind]
def wsL_holds_r4 : List Cond := [Cond.selects RX5 yX5_isOfKind yX5_isOfKind, Cond.code yX5_isOfKind cX5_isOfKind 3 (some .boolean), Cond.methodLink RX5 89 yX5_bestPlace, Cond.instanceMethod yX5_bestPlace, Cond.selects RX5 yX5_bestPlace yX5_bestPlace, Cond.code yX5_bestPlace cX5_bestPlace 2 (some .int), Cond.methodLink RX5 85 yX5_bestPlaceBut, Cond.instanceMethod yX5_bestPlaceBut, Cond.selects RX5 yX5_bestPlaceBut yX5_bestPlaceBut, Cond.code yX5_bestPlaceBut cX5_bestPlaceBut 10 (some .int), Cond.fieldLink RX5 12 "WordAnchors$State" "row" "LWordAnchors$Row;", Cond.methodLink RX5 77 Lib.Math.abs.name, Cond.static Lib.Math.abs.name, Cond.initialized "java/lang/Math", Cond.code Lib.Math.abs.name Lib.Math.abs.code 1 (some .int), Cond.methodLink RX5 93 yX4_size, Cond.methodLink RX5 97 yX5_scoreOf, Cond.instanceMethod yX5_scoreOf, Cond.selects RX5 yX5_scoreOf yX5_scoreOf, Cond.code yX5_scoreOf cX5_scoreOf 6 (some .int), Cond.methodLink RX5 70 yX0_thing, Cond.instanceMethod yX0_thing, Cond.selects RX0 yX0_thing yX0_thing, Cond.initialized RX0]
def wsL_holds_r5 : List Cond := [Cond.code yX0_thing cX0_thing 2 (some .int), Cond.fieldLink RX0 9 "WordAnchors$Anchor" "things" "[I", Cond.methodLink RX5 74 yX4_at, Cond.methodLink RX5 82 yX5_setting, Cond.methodLink RX5 100 yX0_place, Cond.instanceMethod yX0_place, Cond.selects RX0 yX0_place yX0_place, Cond.code yX0_place cX0_place 1 (some .int), Cond.fieldLink RX0 15 "WordAnchors$Anchor" "place" "I", Cond.methodLink RX5 103 yX5_isLost, Cond.instanceMethod yX5_isLost, Cond.selects RX5 yX5_isLost yX5_isLost, Cond.code yX5_isLost cX5_isLost 3 (some .boolean), Cond.methodLink RX5 107 yX0_truePlace, Cond.instanceMethod yX0_truePlace, Cond.selects RX0 yX0_truePlace yX0_truePlace, Cond.code yX0_truePlace cX0_truePlace 1 (some .int), Cond.fieldLink RX0 19 "WordAnchors$Anchor" "truePlace" "I", Cond.methodLink RX5 110 yX5_standingOf, Cond.instanceMethod yX5_standingOf, Cond.selects RX5 yX5_standingOf yX5_standingOf, Cond.code yX5_standingOf cX5_standingOf 5 (some .int), Cond.methodLink RL 17 yX6_anchorOf, Cond.instanceMethod yX6_anchorOf]
def wsL_holds_r6 : List Cond := [Cond.selects RX6 yX6_anchorOf yX6_anchorOf, Cond.code yX6_anchorOf cX6_anchorOf 4 (some .int), Cond.methodLink RX6 109 yX5_anchorNumbered, Cond.methodLink RX6 128 yX0_place, Cond.methodLink RX6 151 yX0_truePlace, Cond.methodLink RX6 148 yX6_orNotFound, Cond.static yX6_orNotFound, Cond.code yX6_orNotFound cX6_orNotFound 1 (some .int), Cond.constant RX6 182 (-1000004), Cond.methodLink RX6 154 yX5_standingOf, Cond.methodLink RX6 116 yX5_bestPlace, Cond.methodLink RX6 157 yX6_scoreOrNotFound, Cond.instanceMethod yX6_scoreOrNotFound, Cond.selects RX6 yX6_scoreOrNotFound yX6_scoreOrNotFound, Cond.code yX6_scoreOrNotFound cX6_scoreOrNotFound 3 (some .int), Cond.methodLink RX6 170 yX5_scoreOf, Cond.methodLink RX6 161 yX5_nextBestPlace, Cond.instanceMethod yX5_nextBestPlace, Cond.selects RX5 yX5_nextBestPlace yX5_nextBestPlace, Cond.code yX5_nextBestPlace cX5_nextBestPlace 2 (some .int), Cond.methodLink RX6 164 yX5_isOfKind, Cond.methodLink RX6 167 yX0_thing, Cond.methodLink RL 21 yX6_wordAt, Cond.instanceMethod yX6_wordAt]
def wsL_holds_r7 : List Cond := [Cond.selects RX6 yX6_wordAt yX6_wordAt, Cond.code yX6_wordAt cX6_wordAt 2 (some .int), Cond.methodLink RX6 81 yX4_at, Cond.methodLink RL 24 yX6_score, Cond.instanceMethod yX6_score, Cond.selects RX6 yX6_score yX6_score, Cond.code yX6_score cX6_score 4 (some .int), Cond.methodLink RX6 78 yX4_holds, Cond.instanceMethod yX4_holds, Cond.selects RX4 yX4_holds yX4_holds, Cond.code yX4_holds cX4_holds 2 (some .boolean)]
def wsL_holds : List Cond := .code yL_holds cL_holds 14 (some .boolean) :: ((wsL_holds_r1 ++ (wsL_holds_r2 ++ (wsL_holds_r3 ++ (wsL_holds_r4 ++ (wsL_holds_r5 ++ (wsL_holds_r6 ++ wsL_holds_r7)))))) ++ wsX60 ++ wsX50 ++ wsX40 ++ wsX30 ++ wsX20 ++ wsX00)
def wsL_moves_r1 : List Cond := [Cond.methodLink RL 8 yX6_count, Cond.instanceMethod yX6_count, Cond.selects RX6 yX6_count yX6_count, Cond.initialized RX6, Cond.code yX6_count cX6_count 2 (some .int), Cond.fieldLink RX6 10 "WordAnchors" "now" "LWordAnchors$State;", Cond.fieldLink RX6 47 "WordAnchors$State" "row" "LWordAnchors$Row;", Cond.fieldLink RX6 22 "WordAnchors" "history" "LWordAnchors$History;", Cond.fieldLink RX6 29 "WordAnchors" "text" "LWordAnchors$EditText;", Cond.constant RX6 60 (-1000001), Cond.methodLink RX6 74 yX4_size, Cond.instanceMethod yX4_size, Cond.selects RX4 yX4_size yX4_size, Cond.initialized RX4, Cond.code yX4_size cX4_size 1 (some .int), Cond.fieldLink RX4 21 "WordAnchors$Row" "size" "I", Cond.methodLink RX6 103 yX5_anchorCount, Cond.instanceMethod yX5_anchorCount, Cond.selects RX5 yX5_anchorCount yX5_anchorCount, Cond.initialized RX5, Cond.code yX5_anchorCount cX5_anchorCount 1 (some .int), Cond.fieldLink RX5 29 "WordAnchors$State" "anchorCount" "I", Cond.methodLink RX6 199 yX4_unlikeWords, Cond.instanceMethod yX4_unlikeWords]
def wsL_moves_r2 : List Cond := [Cond.selects RX4 yX4_unlikeWords yX4_unlikeWords, Cond.code yX4_unlikeWords cX4_unlikeWords 3 (some .int), Cond.methodLink RX4 56 yX4_standsAhead, Cond.instanceMethod yX4_standsAhead, Cond.selects RX4 yX4_standsAhead yX4_standsAhead, Cond.code yX4_standsAhead cX4_standsAhead 3 (some .boolean), Cond.methodLink RX4 59 yX4_at, Cond.instanceMethod yX4_at, Cond.selects RX4 yX4_at yX4_at, Cond.code yX4_at cX4_at 2 (some .int), Cond.fieldLink RX4 9 "WordAnchors$Row" "words" "[I", Cond.methodLink RX6 202 yX5_edits, Cond.instanceMethod yX5_edits, Cond.selects RX5 yX5_edits yX5_edits, Cond.code yX5_edits cX5_edits 1 (some .int), Cond.fieldLink RX5 33 "WordAnchors$State" "edits" "I", Cond.methodLink RX6 205 yX3_size, Cond.instanceMethod yX3_size, Cond.selects RX3 yX3_size yX3_size, Cond.initialized RX3, Cond.code yX3_size cX3_size 1 (some .int), Cond.fieldLink RX3 18 "WordAnchors$History" "size" "I", Cond.methodLink RX6 206 yX2_length, Cond.instanceMethod yX2_length]
def wsL_moves_r3 : List Cond := [Cond.selects RX2 yX2_length yX2_length, Cond.initialized RX2, Cond.code yX2_length cX2_length 1 (some .int), Cond.fieldLink RX2 19 "WordAnchors$EditText" "length" "I", Cond.methodLink RX6 142 yX5_setting, Cond.instanceMethod yX5_setting, Cond.selects RX5 yX5_setting yX5_setting, Cond.code yX5_setting cX5_setting 2 (some .int), Cond.fieldLink RX5 24 "WordAnchors$State" "settings" "[I", Cond.methodLink RL 21 yX6_wordAt, Cond.instanceMethod yX6_wordAt, Cond.selects RX6 yX6_wordAt yX6_wordAt, Cond.code yX6_wordAt cX6_wordAt 2 (some .int), Cond.methodLink RX6 81 yX4_at, Cond.methodLink RX6 148 yX6_orNotFound, Cond.static yX6_orNotFound, Cond.code yX6_orNotFound cX6_orNotFound 1 (some .int), Cond.constant RX6 182 (-1000004), Cond.methodLink RL 17 yX6_anchorOf, Cond.instanceMethod yX6_anchorOf, Cond.selects RX6 yX6_anchorOf yX6_anchorOf, Cond.code yX6_anchorOf cX6_anchorOf 4 (some .int), Cond.methodLink RX6 109 yX5_anchorNumbered, Cond.instanceMethod yX5_anchorNumbered]
def wsL_moves_r4 : List Cond := [Cond.selects RX5 yX5_anchorNumbered yX5_anchorNumbered, Cond.code yX5_anchorNumbered cX5_anchorNumbered 2 (some (.object "WordAnchors$Anchor")), Cond.fieldLink RX5 20 "WordAnchors$State" "anchors" "[LWordAnchors$Anchor;", Cond.methodLink RX6 128 yX0_place, Cond.instanceMethod yX0_place, Cond.selects RX0 yX0_place yX0_place, Cond.initialized RX0, Cond.code yX0_place cX0_place 1 (some .int), Cond.fieldLink RX0 15 "WordAnchors$Anchor" "place" "I", Cond.methodLink RX6 151 yX0_truePlace, Cond.instanceMethod yX0_truePlace, Cond.selects RX0 yX0_truePlace yX0_truePlace, Cond.code yX0_truePlace cX0_truePlace 1 (some .int), Cond.fieldLink RX0 19 "WordAnchors$Anchor" "truePlace" "I", Cond.methodLink RX6 154 yX5_standingOf, Cond.instanceMethod yX5_standingOf, Cond.selects RX5 yX5_standingOf yX5_standingOf, Cond.code yX5_standingOf cX5_standingOf 5 (some .int), Cond.methodLink RX5 85 yX5_bestPlaceBut, Cond.instanceMethod yX5_bestPlaceBut, Cond.selects RX5 yX5_bestPlaceBut yX5_bestPlaceBut, Cond.code yX5_bestPlaceBut cX5_bestPlaceBut 10 (some .int), Cond.fieldLink RX5 12 "WordAnchors$State" "row" "LWordAnchors$Row;", Cond.methodLink RX5 77 Lib.Math.abs.name]
def wsL_moves_r5 : List Cond := [Cond.static Lib.Math.abs.name, Cond.initialized "java/lang/Math", Cond.code Lib.Math.abs.name Lib.Math.abs.code 1 (some .int), Cond.methodLink RX5 93 yX4_size, Cond.methodLink RX5 97 yX5_scoreOf, Cond.instanceMethod yX5_scoreOf, Cond.selects RX5 yX5_scoreOf yX5_scoreOf, Cond.code yX5_scoreOf cX5_scoreOf 6 (some .int), Cond.methodLink RX5 70 yX0_thing, Cond.instanceMethod yX0_thing, Cond.selects RX0 yX0_thing yX0_thing, Cond.code yX0_thing cX0_thing 2 (some .int), Cond.fieldLink RX0 9 "WordAnchors$Anchor" "things" "[I", Cond.methodLink RX5 74 yX4_at, Cond.methodLink RX5 82 yX5_setting, Cond.methodLink RX5 100 yX0_place, Cond.methodLink RX5 103 yX5_isLost, Cond.instanceMethod yX5_isLost, Cond.selects RX5 yX5_isLost yX5_isLost, Cond.code yX5_isLost cX5_isLost 3 (some .boolean), Cond.methodLink RX6 116 yX5_bestPlace, Cond.instanceMethod yX5_bestPlace, Cond.selects RX5 yX5_bestPlace yX5_bestPlace, Cond.code yX5_bestPlace cX5_bestPlace 2 (some .int)]
def wsL_moves_r6 : List Cond := [Cond.methodLink RX6 157 yX6_scoreOrNotFound, Cond.instanceMethod yX6_scoreOrNotFound, Cond.selects RX6 yX6_scoreOrNotFound yX6_scoreOrNotFound, Cond.code yX6_scoreOrNotFound cX6_scoreOrNotFound 3 (some .int), Cond.methodLink RX6 170 yX5_scoreOf, Cond.methodLink RX6 161 yX5_nextBestPlace, Cond.instanceMethod yX5_nextBestPlace, Cond.selects RX5 yX5_nextBestPlace yX5_nextBestPlace, Cond.code yX5_nextBestPlace cX5_nextBestPlace 2 (some .int), Cond.methodLink RX5 89 yX5_bestPlace, Cond.methodLink RX6 164 yX5_isOfKind, Cond.instanceMethod yX5_isOfKind, Cond.selects RX5 yX5_isOfKind yX5_isOfKind, Cond.code yX5_isOfKind cX5_isOfKind 3 (some .boolean), Cond.methodLink RX5 107 yX0_truePlace, Cond.methodLink RX5 110 yX5_standingOf, Cond.methodLink RX6 167 yX0_thing, Cond.methodLink RL 27 yX6_move, Cond.instanceMethod yX6_move, Cond.selects RX6 yX6_move yX6_move, Cond.code yX6_move cX6_move 4 (some .int), Cond.methodLink RX6 92 yX4_canShift, Cond.instanceMethod yX4_canShift, Cond.selects RX4 yX4_canShift yX4_canShift]
def wsL_moves_r7 : List Cond := [Cond.code yX4_canShift cX4_canShift 4 (some .boolean), Cond.methodLink RX4 25 yX4_holds, Cond.instanceMethod yX4_holds, Cond.selects RX4 yX4_holds yX4_holds, Cond.code yX4_holds cX4_holds 2 (some .boolean), Cond.methodLink RX6 66 yX3_record, Cond.instanceMethod yX3_record, Cond.selects RX3 yX3_record yX3_record, Cond.code yX3_record cX3_record 3 none, Cond.fieldLink RX3 22 "WordAnchors$History" "oldest" "I", Cond.methodLink RX3 25 yX3_fromOldest, Cond.instanceMethod yX3_fromOldest, Cond.selects RX3 yX3_fromOldest yX3_fromOldest, Cond.code yX3_fromOldest cX3_fromOldest 3 (some (.object "WordAnchors$State")), Cond.fieldLink RX3 11 "WordAnchors$History" "states" "[LWordAnchors$State;", Cond.methodLink RX3 29 yX5_copyFrom, Cond.instanceMethod yX5_copyFrom, Cond.selects RX5 yX5_copyFrom yX5_copyFrom, Cond.code yX5_copyFrom cX5_copyFrom 5 none, Cond.methodLink RX5 152 yX4_copyFrom, Cond.instanceMethod yX4_copyFrom, Cond.selects RX4 yX4_copyFrom yX4_copyFrom, Cond.code yX4_copyFrom cX4_copyFrom 3 none, Cond.methodLink RX5 36 yX5_anchorNumbered]
def wsL_moves_r8 : List Cond := [Cond.methodLink RX5 44 yX0_copyFrom, Cond.instanceMethod yX0_copyFrom, Cond.selects RX0 yX0_copyFrom yX0_copyFrom, Cond.code yX0_copyFrom cX0_copyFrom 3 none, Cond.methodLink RX0 39 yX0_thing, Cond.methodLink RX6 96 yX5_shiftWords, Cond.instanceMethod yX5_shiftWords, Cond.selects RX5 yX5_shiftWords yX5_shiftWords, Cond.code yX5_shiftWords cX5_shiftWords 4 none, Cond.methodLink RX5 62 yX4_shift, Cond.instanceMethod yX4_shift, Cond.selects RX4 yX4_shift yX4_shift, Cond.code yX4_shift cX4_shift 5 none, Cond.fieldLink RX4 15 "WordAnchors$Row" "targets" "[I", Cond.methodLink RX4 44 yX4_canShift, Cond.methodLink RX4 48 yX4_placeAfterShift, Cond.static yX4_placeAfterShift, Cond.code yX4_placeAfterShift cX4_placeAfterShift 5 (some .int), Cond.methodLink RX4 36 yX4_relocate, Cond.instanceMethod yX4_relocate, Cond.selects RX4 yX4_relocate yX4_relocate, Cond.code yX4_relocate cX4_relocate 4 none, Cond.fieldLink RX4 18 "WordAnchors$Row" "relocated" "[I", Cond.methodLink RX4 52 yX4_targetOf]
def wsL_moves_r9 : List Cond := [Cond.instanceMethod yX4_targetOf, Cond.selects RX4 yX4_targetOf yX4_targetOf, Cond.code yX4_targetOf cX4_targetOf 2 (some .int), Cond.methodLink RX4 40 yX4_write, Cond.instanceMethod yX4_write, Cond.selects RX4 yX4_write yX4_write, Cond.code yX4_write cX4_write 3 none, Cond.methodLink RX5 52 yX5_followWords, Cond.instanceMethod yX5_followWords, Cond.selects RX5 yX5_followWords yX5_followWords, Cond.code yX5_followWords cX5_followWords 3 none, Cond.methodLink RX5 66 yX0_followWord, Cond.instanceMethod yX0_followWord, Cond.selects RX0 yX0_followWord yX0_followWord, Cond.code yX0_followWord cX0_followWord 2 none, Cond.methodLink RX0 36 yX4_targetOf, Cond.methodLink RX6 100 yX4_wordsElsewhere, Cond.instanceMethod yX4_wordsElsewhere, Cond.selects RX4 yX4_wordsElsewhere yX4_wordsElsewhere, Cond.code yX4_wordsElsewhere cX4_wordsElsewhere 3 (some .int)]
def wsL_moves : List Cond := .code yL_moves cL_moves 13 (some .boolean) :: ((wsL_moves_r1 ++ (wsL_moves_r2 ++ (wsL_moves_r3 ++ (wsL_moves_r4 ++ (wsL_moves_r5 ++ (wsL_moves_r6 ++ (wsL_moves_r7 ++ (wsL_moves_r8 ++ wsL_moves_r9)))))))) ++ wsX60 ++ wsX50 ++ wsX40 ++ wsX30 ++ wsX20 ++ wsX00)
def wsL_acts_r1 : List Cond := [Cond.constant RL 34 (-1000003), Cond.constant RL 38 (-1000001), Cond.constant RL 58 (-1000004), Cond.constant RL 62 (-1000002), Cond.methodLink RL 8 yX6_count, Cond.instanceMethod yX6_count, Cond.selects RX6 yX6_count yX6_count, Cond.initialized RX6, Cond.code yX6_count cX6_count 2 (some .int), Cond.fieldLink RX6 10 "WordAnchors" "now" "LWordAnchors$State;", Cond.fieldLink RX6 47 "WordAnchors$State" "row" "LWordAnchors$Row;", Cond.fieldLink RX6 22 "WordAnchors" "history" "LWordAnchors$History;", Cond.fieldLink RX6 29 "WordAnchors" "text" "LWordAnchors$EditText;", Cond.constant RX6 60 (-1000001), Cond.methodLink RX6 74 yX4_size, Cond.instanceMethod yX4_size, Cond.selects RX4 yX4_size yX4_size, Cond.initialized RX4, Cond.code yX4_size cX4_size 1 (some .int), Cond.fieldLink RX4 21 "WordAnchors$Row" "size" "I", Cond.methodLink RX6 103 yX5_anchorCount, Cond.instanceMethod yX5_anchorCount, Cond.selects RX5 yX5_anchorCount yX5_anchorCount, Cond.initialized RX5]
def wsL_acts_r2 : List Cond := [Cond.code yX5_anchorCount cX5_anchorCount 1 (some .int), Cond.fieldLink RX5 29 "WordAnchors$State" "anchorCount" "I", Cond.methodLink RX6 199 yX4_unlikeWords, Cond.instanceMethod yX4_unlikeWords, Cond.selects RX4 yX4_unlikeWords yX4_unlikeWords, Cond.code yX4_unlikeWords cX4_unlikeWords 3 (some .int), Cond.methodLink RX4 56 yX4_standsAhead, Cond.instanceMethod yX4_standsAhead, Cond.selects RX4 yX4_standsAhead yX4_standsAhead, Cond.code yX4_standsAhead cX4_standsAhead 3 (some .boolean), Cond.methodLink RX4 59 yX4_at, Cond.instanceMethod yX4_at, Cond.selects RX4 yX4_at yX4_at, Cond.code yX4_at cX4_at 2 (some .int), Cond.fieldLink RX4 9 "WordAnchors$Row" "words" "[I", Cond.methodLink RX6 202 yX5_edits, Cond.instanceMethod yX5_edits, Cond.selects RX5 yX5_edits yX5_edits, Cond.code yX5_edits cX5_edits 1 (some .int), Cond.fieldLink RX5 33 "WordAnchors$State" "edits" "I", Cond.methodLink RX6 205 yX3_size, Cond.instanceMethod yX3_size, Cond.selects RX3 yX3_size yX3_size, Cond.initialized RX3]
def wsL_acts_r3 : List Cond := [Cond.code yX3_size cX3_size 1 (some .int), Cond.fieldLink RX3 18 "WordAnchors$History" "size" "I", Cond.methodLink RX6 206 yX2_length, Cond.instanceMethod yX2_length, Cond.selects RX2 yX2_length yX2_length, Cond.initialized RX2, Cond.code yX2_length cX2_length 1 (some .int), Cond.fieldLink RX2 19 "WordAnchors$EditText" "length" "I", Cond.methodLink RX6 142 yX5_setting, Cond.instanceMethod yX5_setting, Cond.selects RX5 yX5_setting yX5_setting, Cond.code yX5_setting cX5_setting 2 (some .int), Cond.fieldLink RX5 24 "WordAnchors$State" "settings" "[I", Cond.methodLink RL 31 yX6_put, Cond.instanceMethod yX6_put, Cond.selects RX6 yX6_put yX6_put, Cond.code yX6_put cX6_put 3 (some .int), Cond.constant RX6 65 (-1000003), Cond.methodLink RX6 51 yX4_takesAt, Cond.instanceMethod yX4_takesAt, Cond.selects RX4 yX4_takesAt yX4_takesAt, Cond.code yX4_takesAt cX4_takesAt 2 (some .boolean), Cond.methodLink RX6 57 yX6_isWord, Cond.static yX6_isWord]
def wsL_acts_r4 : List Cond := [Cond.code yX6_isWord cX6_isWord 1 (some .boolean), Cond.methodLink RX6 61 yX4_isFull, Cond.instanceMethod yX4_isFull, Cond.selects RX4 yX4_isFull yX4_isFull, Cond.code yX4_isFull cX4_isFull 1 (some .boolean), Cond.methodLink RX6 66 yX3_record, Cond.instanceMethod yX3_record, Cond.selects RX3 yX3_record yX3_record, Cond.code yX3_record cX3_record 3 none, Cond.fieldLink RX3 22 "WordAnchors$History" "oldest" "I", Cond.methodLink RX3 25 yX3_fromOldest, Cond.instanceMethod yX3_fromOldest, Cond.selects RX3 yX3_fromOldest yX3_fromOldest, Cond.code yX3_fromOldest cX3_fromOldest 3 (some (.object "WordAnchors$State")), Cond.fieldLink RX3 11 "WordAnchors$History" "states" "[LWordAnchors$State;", Cond.methodLink RX3 29 yX5_copyFrom, Cond.instanceMethod yX5_copyFrom, Cond.selects RX5 yX5_copyFrom yX5_copyFrom, Cond.code yX5_copyFrom cX5_copyFrom 5 none, Cond.fieldLink RX5 12 "WordAnchors$State" "row" "LWordAnchors$Row;", Cond.methodLink RX5 152 yX4_copyFrom, Cond.instanceMethod yX4_copyFrom, Cond.selects RX4 yX4_copyFrom yX4_copyFrom, Cond.code yX4_copyFrom cX4_copyFrom 3 none]
def wsL_acts_r5 : List Cond := [Cond.methodLink RX5 36 yX5_anchorNumbered, Cond.instanceMethod yX5_anchorNumbered, Cond.selects RX5 yX5_anchorNumbered yX5_anchorNumbered, Cond.code yX5_anchorNumbered cX5_anchorNumbered 2 (some (.object "WordAnchors$Anchor")), Cond.fieldLink RX5 20 "WordAnchors$State" "anchors" "[LWordAnchors$Anchor;", Cond.methodLink RX5 44 yX0_copyFrom, Cond.instanceMethod yX0_copyFrom, Cond.selects RX0 yX0_copyFrom yX0_copyFrom, Cond.initialized RX0, Cond.code yX0_copyFrom cX0_copyFrom 3 none, Cond.fieldLink RX0 15 "WordAnchors$Anchor" "place" "I", Cond.fieldLink RX0 19 "WordAnchors$Anchor" "truePlace" "I", Cond.fieldLink RX0 9 "WordAnchors$Anchor" "things" "[I", Cond.methodLink RX0 39 yX0_thing, Cond.instanceMethod yX0_thing, Cond.selects RX0 yX0_thing yX0_thing, Cond.code yX0_thing cX0_thing 2 (some .int), Cond.methodLink RX5 82 yX5_setting, Cond.methodLink RX6 70 yX5_insertWord, Cond.instanceMethod yX5_insertWord, Cond.selects RX5 yX5_insertWord yX5_insertWord, Cond.code yX5_insertWord cX5_insertWord 3 none, Cond.methodLink RX5 48 yX4_insert, Cond.instanceMethod yX4_insert]
def wsL_acts_r6 : List Cond := [Cond.selects RX4 yX4_insert yX4_insert, Cond.code yX4_insert cX4_insert 4 none, Cond.fieldLink RX4 15 "WordAnchors$Row" "targets" "[I", Cond.methodLink RX4 29 yX4_takesAt, Cond.methodLink RX4 32 yX4_isFull, Cond.methodLink RX4 36 yX4_relocate, Cond.instanceMethod yX4_relocate, Cond.selects RX4 yX4_relocate yX4_relocate, Cond.code yX4_relocate cX4_relocate 4 none, Cond.fieldLink RX4 18 "WordAnchors$Row" "relocated" "[I", Cond.methodLink RX4 52 yX4_targetOf, Cond.instanceMethod yX4_targetOf, Cond.selects RX4 yX4_targetOf yX4_targetOf, Cond.code yX4_targetOf cX4_targetOf 2 (some .int), Cond.methodLink RX4 40 yX4_write, Cond.instanceMethod yX4_write, Cond.selects RX4 yX4_write yX4_write, Cond.code yX4_write cX4_write 3 none, Cond.methodLink RX5 52 yX5_followWords, Cond.instanceMethod yX5_followWords, Cond.selects RX5 yX5_followWords yX5_followWords, Cond.code yX5_followWords cX5_followWords 3 none, Cond.methodLink RX5 66 yX0_followWord, Cond.instanceMethod yX0_followWord]
def wsL_acts_r7 : List Cond := [Cond.selects RX0 yX0_followWord yX0_followWord, Cond.code yX0_followWord cX0_followWord 2 none, Cond.methodLink RX0 36 yX4_targetOf, Cond.methodLink RL 21 yX6_wordAt, Cond.instanceMethod yX6_wordAt, Cond.selects RX6 yX6_wordAt yX6_wordAt, Cond.code yX6_wordAt cX6_wordAt 2 (some .int), Cond.methodLink RX6 81 yX4_at, Cond.methodLink RX6 148 yX6_orNotFound, Cond.static yX6_orNotFound, Cond.code yX6_orNotFound cX6_orNotFound 1 (some .int), Cond.constant RX6 182 (-1000004), Cond.methodLink RL 35 yX6_take, Cond.instanceMethod yX6_take, Cond.selects RX6 yX6_take yX6_take, Cond.code yX6_take cX6_take 3 (some .int), Cond.methodLink RX6 78 yX4_holds, Cond.instanceMethod yX4_holds, Cond.selects RX4 yX4_holds yX4_holds, Cond.code yX4_holds cX4_holds 2 (some .boolean), Cond.methodLink RX6 85 yX5_removeWord, Cond.instanceMethod yX5_removeWord, Cond.selects RX5 yX5_removeWord yX5_removeWord, Cond.code yX5_removeWord cX5_removeWord 2 none]
def wsL_acts_r8 : List Cond := [Cond.methodLink RX5 55 yX4_remove, Cond.instanceMethod yX4_remove, Cond.selects RX4 yX4_remove yX4_remove, Cond.code yX4_remove cX4_remove 4 none, Cond.methodLink RX4 25 yX4_holds, Cond.methodLink RL 27 yX6_move, Cond.instanceMethod yX6_move, Cond.selects RX6 yX6_move yX6_move, Cond.code yX6_move cX6_move 4 (some .int), Cond.methodLink RX6 92 yX4_canShift, Cond.instanceMethod yX4_canShift, Cond.selects RX4 yX4_canShift yX4_canShift, Cond.code yX4_canShift cX4_canShift 4 (some .boolean), Cond.methodLink RX6 96 yX5_shiftWords, Cond.instanceMethod yX5_shiftWords, Cond.selects RX5 yX5_shiftWords yX5_shiftWords, Cond.code yX5_shiftWords cX5_shiftWords 4 none, Cond.methodLink RX5 62 yX4_shift, Cond.instanceMethod yX4_shift, Cond.selects RX4 yX4_shift yX4_shift, Cond.code yX4_shift cX4_shift 5 none, Cond.methodLink RX4 44 yX4_canShift, Cond.methodLink RX4 48 yX4_placeAfterShift, Cond.static yX4_placeAfterShift]
def wsL_acts_r9 : List Cond := [Cond.code yX4_placeAfterShift cX4_placeAfterShift 5 (some .int), Cond.methodLink RX6 100 yX4_wordsElsewhere, Cond.instanceMethod yX4_wordsElsewhere, Cond.selects RX4 yX4_wordsElsewhere yX4_wordsElsewhere, Cond.code yX4_wordsElsewhere cX4_wordsElsewhere 3 (some .int), Cond.methodLink RL 39 yL_moves, Cond.static yL_moves, Cond.initialized RL, Cond.code yL_moves cL_moves 13 (some .boolean), Cond.methodLink RL 17 yX6_anchorOf, Cond.instanceMethod yX6_anchorOf, Cond.selects RX6 yX6_anchorOf yX6_anchorOf, Cond.code yX6_anchorOf cX6_anchorOf 4 (some .int), Cond.methodLink RX6 109 yX5_anchorNumbered, Cond.methodLink RX6 128 yX0_place, Cond.instanceMethod yX0_place, Cond.selects RX0 yX0_place yX0_place, Cond.code yX0_place cX0_place 1 (some .int), Cond.methodLink RX6 151 yX0_truePlace, Cond.instanceMethod yX0_truePlace, Cond.selects RX0 yX0_truePlace yX0_truePlace, Cond.code yX0_truePlace cX0_truePlace 1 (some .int), Cond.methodLink RX6 154 yX5_standingOf, Cond.instanceMethod yX5_standingOf]
def wsL_acts_r10 : List Cond := [Cond.selects RX5 yX5_standingOf yX5_standingOf, Cond.code yX5_standingOf cX5_standingOf 5 (some .int), Cond.methodLink RX5 85 yX5_bestPlaceBut, Cond.instanceMethod yX5_bestPlaceBut, Cond.selects RX5 yX5_bestPlaceBut yX5_bestPlaceBut, Cond.code yX5_bestPlaceBut cX5_bestPlaceBut 10 (some .int), Cond.methodLink RX5 77 Lib.Math.abs.name, Cond.static Lib.Math.abs.name, Cond.initialized "java/lang/Math", Cond.code Lib.Math.abs.name Lib.Math.abs.code 1 (some .int), Cond.methodLink RX5 93 yX4_size, Cond.methodLink RX5 97 yX5_scoreOf, Cond.instanceMethod yX5_scoreOf, Cond.selects RX5 yX5_scoreOf yX5_scoreOf, Cond.code yX5_scoreOf cX5_scoreOf 6 (some .int), Cond.methodLink RX5 70 yX0_thing, Cond.methodLink RX5 74 yX4_at, Cond.methodLink RX5 100 yX0_place, Cond.methodLink RX5 103 yX5_isLost, Cond.instanceMethod yX5_isLost, Cond.selects RX5 yX5_isLost yX5_isLost, Cond.code yX5_isLost cX5_isLost 3 (some .boolean), Cond.methodLink RX6 116 yX5_bestPlace, Cond.instanceMethod yX5_bestPlace]
def wsL_acts_r11 : List Cond := [Cond.selects RX5 yX5_bestPlace yX5_bestPlace, Cond.code yX5_bestPlace cX5_bestPlace 2 (some .int), Cond.methodLink RX6 157 yX6_scoreOrNotFound, Cond.instanceMethod yX6_scoreOrNotFound, Cond.selects RX6 yX6_scoreOrNotFound yX6_scoreOrNotFound, Cond.code yX6_scoreOrNotFound cX6_scoreOrNotFound 3 (some .int), Cond.methodLink RX6 170 yX5_scoreOf, Cond.methodLink RX6 161 yX5_nextBestPlace, Cond.instanceMethod yX5_nextBestPlace, Cond.selects RX5 yX5_nextBestPlace yX5_nextBestPlace, Cond.code yX5_nextBestPlace cX5_nextBestPlace 2 (some .int), Cond.methodLink RX5 89 yX5_bestPlace, Cond.methodLink RX6 164 yX5_isOfKind, Cond.instanceMethod yX5_isOfKind, Cond.selects RX5 yX5_isOfKind yX5_isOfKind, Cond.code yX5_isOfKind cX5_isOfKind 3 (some .boolean), Cond.methodLink RX5 107 yX0_truePlace, Cond.methodLink RX5 110 yX5_standingOf, Cond.methodLink RX6 167 yX0_thing, Cond.methodLink RL 45 yX6_anchor, Cond.instanceMethod yX6_anchor, Cond.selects RX6 yX6_anchor yX6_anchor, Cond.code yX6_anchor cX6_anchor 2 (some .int), Cond.methodLink RX6 106 yX5_addAnchor]
def wsL_acts_r12 : List Cond := [Cond.instanceMethod yX5_addAnchor, Cond.selects RX5 yX5_addAnchor yX5_addAnchor, Cond.code yX5_addAnchor cX5_addAnchor 3 none, Cond.methodLink RX5 40 yX0_setAt, Cond.instanceMethod yX0_setAt, Cond.selects RX0 yX0_setAt yX0_setAt, Cond.code yX0_setAt cX0_setAt 3 none, Cond.methodLink RX0 22 yX0_goTo, Cond.instanceMethod yX0_goTo, Cond.selects RX0 yX0_goTo yX0_goTo, Cond.code yX0_goTo cX0_goTo 2 none, Cond.methodLink RX0 26 yX0_look, Cond.instanceMethod yX0_look, Cond.selects RX0 yX0_look yX0_look, Cond.code yX0_look cX0_look 5 (some .int), Cond.methodLink RX0 30 yX4_at, Cond.methodLink RL 24 yX6_score, Cond.instanceMethod yX6_score, Cond.selects RX6 yX6_score yX6_score, Cond.code yX6_score cX6_score 4 (some .int), Cond.methodLink RL 48 yX6_change, Cond.instanceMethod yX6_change, Cond.selects RX6 yX6_change yX6_change, Cond.code yX6_change cX6_change 4 (some .int)]
def wsL_acts_r13 : List Cond := [Cond.methodLink RX6 89 yX5_replaceWord, Cond.instanceMethod yX5_replaceWord, Cond.selects RX5 yX5_replaceWord yX5_replaceWord, Cond.code yX5_replaceWord cX5_replaceWord 3 none, Cond.methodLink RX5 59 yX4_replace, Cond.instanceMethod yX4_replace, Cond.selects RX4 yX4_replace yX4_replace, Cond.code yX4_replace cX4_replace 4 none, Cond.methodLink RL 14 yX6_anchors, Cond.instanceMethod yX6_anchors, Cond.selects RX6 yX6_anchors yX6_anchors, Cond.code yX6_anchors cX6_anchors 2 (some .int), Cond.methodLink RX6 173 yX5_anchorsOfKind, Cond.instanceMethod yX5_anchorsOfKind, Cond.selects RX5 yX5_anchorsOfKind yX5_anchorsOfKind, Cond.code yX5_anchorsOfKind cX5_anchorsOfKind 5 (some .int), Cond.methodLink RX5 113 yX5_isOfKind, Cond.methodLink RL 51 yX6_findAll, Cond.instanceMethod yX6_findAll, Cond.selects RX6 yX6_findAll yX6_findAll, Cond.code yX6_findAll cX6_findAll 5 (some .int), Cond.methodLink RX6 131 yX5_shiftOf, Cond.instanceMethod yX5_shiftOf, Cond.selects RX5 yX5_shiftOf yX5_shiftOf]
def wsL_acts_r14 : List Cond := [Cond.code yX5_shiftOf cX5_shiftOf 3 (some .int), Cond.methodLink RX6 125 yX0_goTo, Cond.methodLink RL 55 yX6_blockOf, Cond.instanceMethod yX6_blockOf, Cond.selects RX6 yX6_blockOf yX6_blockOf, Cond.code yX6_blockOf cX6_blockOf 4 (some .int), Cond.fieldLink RX6 36 "WordAnchors" "blocks" "LWordAnchors$Blocks;", Cond.methodLink RX6 176 yX1_gather, Cond.instanceMethod yX1_gather, Cond.selects RX1 yX1_gather yX1_gather, Cond.initialized RX1, Cond.code yX1_gather cX1_gather 4 none, Cond.fieldLink RX1 18 "WordAnchors$Blocks" "size" "I", Cond.methodLink RX1 22 yX5_anchorCount, Cond.methodLink RX1 28 yX5_anchorNumbered, Cond.methodLink RX1 32 yX5_shiftOf, Cond.methodLink RX1 36 yX1_enter, Cond.instanceMethod yX1_enter, Cond.selects RX1 yX1_enter yX1_enter, Cond.code yX1_enter cX1_enter 4 none, Cond.fieldLink RX1 9 "WordAnchors$Blocks" "shifts" "[I", Cond.fieldLink RX1 15 "WordAnchors$Blocks" "members" "[I", Cond.methodLink RX1 40 yX1_shiftOf, Cond.instanceMethod yX1_shiftOf]
def wsL_acts_r15 : List Cond := [Cond.selects RX1 yX1_shiftOf yX1_shiftOf, Cond.code yX1_shiftOf cX1_shiftOf 2 (some .int), Cond.methodLink RX6 179 yX1_inOrder, Cond.instanceMethod yX1_inOrder, Cond.selects RX1 yX1_inOrder yX1_inOrder, Cond.code yX1_inOrder cX1_inOrder 3 (some .int), Cond.methodLink RX1 43 yX1_blocksAheadOf, Cond.instanceMethod yX1_blocksAheadOf, Cond.selects RX1 yX1_blocksAheadOf yX1_blocksAheadOf, Cond.code yX1_blocksAheadOf cX1_blocksAheadOf 4 (some .int), Cond.methodLink RX1 46 yX1_isAhead, Cond.instanceMethod yX1_isAhead, Cond.selects RX1 yX1_isAhead yX1_isAhead, Cond.code yX1_isAhead cX1_isAhead 4 (some .boolean), Cond.methodLink RX1 50 yX1_membersOf, Cond.instanceMethod yX1_membersOf, Cond.selects RX1 yX1_membersOf yX1_membersOf, Cond.code yX1_membersOf cX1_membersOf 2 (some .int), Cond.methodLink RX1 53 yJ6_bitCount_0f7a4, Cond.static yJ6_bitCount_0f7a4, Cond.initialized RJ6, Cond.code yJ6_bitCount_0f7a4 cJ6_bitCount_0f7a4 1 (some .int), Cond.constant RJ6 265 (1431655765), Cond.constant RJ6 266 (858993459)]
def wsL_acts_r16 : List Cond := [Cond.constant RJ6 267 (252645135), Cond.methodLink RX6 183 yX1_membersOf, Cond.methodLink RX6 186 yX1_shiftOf, Cond.methodLink RL 59 yX6_remember, Cond.instanceMethod yX6_remember, Cond.selects RX6 yX6_remember yX6_remember, Cond.code yX6_remember cX6_remember 3 (some .int), Cond.constant RX6 124 (-1000002), Cond.methodLink RX6 134 yX0_look]
def wsL_acts : List Cond := .code yL_acts cL_acts 16 (some .boolean) :: ((wsL_acts_r1 ++ (wsL_acts_r2 ++ (wsL_acts_r3 ++ (wsL_acts_r4 ++ (wsL_acts_r5 ++ (wsL_acts_r6 ++ (wsL_acts_r7 ++ (wsL_acts_r8 ++ (wsL_acts_r9 ++ (wsL_acts_r10 ++ (wsL_acts_r11 ++ (wsL_acts_r12 ++ (wsL_acts_r13 ++ (wsL_acts_r14 ++ (wsL_acts_r15 ++ wsL_acts_r16))))))))))))))) ++ wsX60 ++ wsX50 ++ wsX40 ++ wsX30 ++ wsX20 ++ wsX00 ++ wsX10)
abbrev vwCl : List vw_C := [(RX0, TX0, 3), (RX1, TX1, 3), (RX2, TX2, 6), (RX3, TX3, 3), (RX4, TX4, 4), (RX5, TX5, 5), (RX6, TX6, 6)]
end
section
/-! THE INDEXED WORLD: N cells, numbered; adr gives the address of a number, cell what it holds. One judgement G over it, a row an instruction. -/
abbrev tyl (kc : Nat → ClassId) : List (ClassId × FieldType) := [(kc 0, .int), (kc 1, .char), (kc 2, .object "WordAnchors$Anchor"), (kc 3, .object "WordAnchors$State")]
def wld (N : Nat) (adr : Nat → Nat) (cell : Nat → va_E) : va_W := (List.range N).map (fun i => (adr i, cell i))
theorem wld_at {N : Nat} {adr : Nat → Nat} {cell : Nat → va_E} {i : Nat} {e : va_E} (h : i < N) (he : cell i = e) : (wld N adr cell)[i]? = some (adr i, e) := by
  subst he
  simp [wld, h]
theorem wld_of {N : Nat} {adr : Nat → Nat} {cell : Nat → va_E} {i : Nat} {q : Nat × va_E} (h : (wld N adr cell)[i]? = some q) : i < N ∧ q = (adr i, cell i) := by
  have hl : i < N := by
    have := (List.getElem?_eq_some_iff.mp h).1
    simpa [wld] using this
  rw [wld_at hl rfl] at h
  exact ⟨hl, (Option.some.inj h).symm⟩
theorem wld_set {N : Nat} {adr : Nat → Nat} {cell : Nat → va_E} {i : Nat} {e : va_E} : (wld N adr cell).set i (adr i, e) = wld N adr (va_up cell i e) := by
  apply List.ext_getElem?
  intro j
  by_cases hj : j = i
  · subst hj
    by_cases hl : j < N
    · rw [List.getElem?_set_self (by simpa [wld] using hl), wld_at hl (va_up_self _ _ _)]
    · rw [List.getElem?_eq_none (by simpa [wld] using hl), List.getElem?_eq_none (by simpa [wld] using hl)]
  · rw [List.getElem?_set_ne (Ne.symm hj)]
    by_cases hl : j < N
    · rw [wld_at hl rfl, wld_at hl (va_up_ne _ _ hj)]
    · rw [List.getElem?_eq_none (by simpa [wld] using hl), List.getElem?_eq_none (by simpa [wld] using hl)]
theorem wld_D {A : Nat → Prop} {N : Nat} {adr : Nat → Nat} {cell cell' : Nat → va_E} (h : va_D A (wld N adr cell)) : va_D A (wld N adr cell') := by
  refine ⟨fun i j x y hx hy hxy => ?_, fun k q hk => ?_⟩
  · obtain ⟨l1, rfl⟩ := wld_of hx
    obtain ⟨l2, rfl⟩ := wld_of hy
    exact h.1 i j _ _ (wld_at l1 rfl) (wld_at l2 rfl) hxy
  · obtain ⟨l1, rfl⟩ := wld_of hk
    exact h.2 k (adr k, cell k) (wld_at l1 rfl)
theorem wld_push {N : Nat} {adr : Nat → Nat} {cell : Nat → va_E} {q : Nat} {e : va_E} : wld N adr cell ++ [(q, e)] = wld (N + 1) (va_up adr N q) (va_up cell N e) := by
  simp only [wld, List.range_succ, List.map_append, List.map_cons, List.map_nil, va_up_self]
  congr 1
  apply List.map_congr_left
  intro j hj
  have : j ≠ N := Nat.ne_of_lt (List.mem_range.mp hj)
  rw [va_up_ne _ _ this, va_up_ne _ _ this]
/-- what a method may change: the world's cells, and what is made -/
def AA (N : Nat) (adr : Nat → Nat) (sz : Nat) : Nat → Prop := fun q => (∃ i : Nat, i < N ∧ adr i = q) ∨ sz ≤ q
def Pre (D : va_G) (kc : Nat → ClassId) (N : Nat) (adr : Nat → Nat) (cell : Nat → va_E) (sz : Nat) (U : State) : Prop := U.heap.size = sz ∧ va_P D vwCl (wld N adr cell) U.heap ∧ va_K D vwCl (tyl kc) U ∧ va_D (fun _ => True) (wld N adr cell)
/-- contracts: an int, nothing, or an address (or null) comes back; behind it the same cells hold cell' -/
def MI (l : Launch) (y : MethodName) (ws : List Cond) (rm : Room) (D : va_G) (kc : Nat → ClassId) (N : Nat) (adr : Nat → Nat) (cell : Nat → va_E) (av : List Value) (post : Int32 → (Nat → va_E) → Prop) : Prop := ∀ sz : Nat, Met l y ws rm (va_Pc av (Pre D kc N adr cell sz)) (va_Qi post (fun cell' t => va_P D vwCl (wld N adr cell') t.heap) (AA N adr sz)) 0 0 (AA N adr sz)
def MV (l : Launch) (y : MethodName) (ws : List Cond) (rm : Room) (D : va_G) (kc : Nat → ClassId) (N : Nat) (adr : Nat → Nat) (cell : Nat → va_E) (av : List Value) (post : (Nat → va_E) → Prop) : Prop := ∀ sz : Nat, Met l y ws rm (va_Pc av (Pre D kc N adr cell sz)) (va_Qv post (fun cell' t => va_P D vwCl (wld N adr cell') t.heap) (AA N adr sz)) 0 0 (AA N adr sz)
def MR (l : Launch) (y : MethodName) (ws : List Cond) (rm : Room) (D : va_G) (kc : Nat → ClassId) (N : Nat) (adr : Nat → Nat) (cell : Nat → va_E) (av : List Value) (post : Option Nat → (Nat → va_E) → Prop) : Prop := ∀ sz : Nat, Met l y ws rm (va_Pc av (Pre D kc N adr cell sz)) (va_Qq post (fun cell' t => va_P D vwCl (wld N adr cell') t.heap) (AA N adr sz)) 0 0 (AA N adr sz)
theorem blindPre {av : List Value} {D : va_G} {kc : Nat → ClassId} {N : Nat} {adr : Nat → Nat} {cell : Nat → va_E} {sz : Nat} : FrameBlind (va_Pc av (Pre D kc N adr cell sz)) := by
  intro a U g mk q
  obtain ⟨q0, q1, qP, qK, qD⟩ := q
  exact ⟨q0, q1, qP, va_K.moved (u := U) (U := U.calling g mk a) (Vm.Alike.refl U.vm) qK, qD⟩
/-- a method's context: the machine, the code, the words, the classes, the cells apart -/
def CX (p : Program) (s : State) (m : MethodId) (args : Array Value) (c : Code) (cc : ByteArray) (own : String) (Ts : List Cond) (D : va_G) (kc : Nat → ClassId) (N : Nat) (adr : Nat → Nat) (A : Nat → Prop) (H0 : Heap) (nL : Nat) : Prop :=
  p.tables.exec = Jvm.exec ∧ c.code = cc ∧ c.maxLocals = nL ∧ s.vm.findClass own = some m.cls ∧ (∀ w ∈ Ts, w.before args s = true) ∧ va_K D vwCl (tyl kc) s ∧ (∀ cell : Nat → va_E, va_D A (wld N adr cell)) ∧ (∀ q, H0.size ≤ q → A q)
def G (p : Program) (l : Launch) (e : Env) (R : Room) (s : State) (m : MethodId) (args : Array Value) (below : List Frame) (meth : Method) (c : Code) (D : va_G) (N : Nat) (adr : Nat → Nat) (A : Nat → Prop) (H0 : Heap) (nL k n : Nat) (Q : State → Prop) (cell : Nat → va_E) (pc : Nat) (lv : List (Nat × Value)) (st : List Value) : Prop :=
  ∀ (H : Heap) (locs : List Loc) (ls : Array Slot), va_P D vwCl (wld N adr cell) H → va_S A H0 H locs → lv_has ls nL lv → W p l e R s m args below meth c H locs k n Q (F0 m pc ls st)
section GROWS
variable {p : Program} {l : Launch} {e : Env} {R : Room} {s : State} {m : MethodId} {args : Array Value} {below : List Frame} {meth : Method} {c : Code} {D : va_G} {N : Nat} {adr : Nat → Nat} {A : Nat → Prop} {H0 : Heap} {nL ka kn : Nat} {Q : State → Prop} {cell : Nat → va_E} {pc : Nat} {lv lv' : List (Nat × Value)} {st rest : List Value}
variable {cc : ByteArray} {own : String} {Ts : List Cond} {kc : Nat → ClassId}

theorem g_iload_n (C : CX p s m args c cc own Ts D kc N adr A H0 nL) {k : Fin 4} {x : Int32} (q : Nat) (hq : lv[q]? = some ((k : Nat), .int x)) (d : decode cc pc = .ok (.iload_n k, 1)) (kk : G p l e R s m args below meth c D N adr A H0 nL ka kn Q cell (pc + 1) lv (.int x :: st)) : G p l e R s m args below meth c D N adr A H0 nL ka kn Q cell pc lv st := fun H locs ls hP hS hl => lv_iload_n C.1 C.2.1 d rfl (lv_at hl q hq) (kk H locs ls hP hS hl)
theorem g_iload (C : CX p s m args c cc own Ts D kc N adr A H0 nL) {i : Nat} {x : Int32} (q : Nat) (hq : lv[q]? = some (i, .int x)) (d : decode cc pc = .ok (.iload i, 2)) (kk : G p l e R s m args below meth c D N adr A H0 nL ka kn Q cell (pc + 2) lv (.int x :: st)) : G p l e R s m args below meth c D N adr A H0 nL ka kn Q cell pc lv st := fun H locs ls hP hS hl => lv_iload C.1 C.2.1 d (lv_at hl q hq) (kk H locs ls hP hS hl)
theorem g_aload_n (C : CX p s m args c cc own Ts D kc N adr A H0 nL) {k : Fin 4} {x : Nat} (q : Nat) (hq : lv[q]? = some ((k : Nat), .ref x)) (d : decode cc pc = .ok (.aload_n k, 1)) (kk : G p l e R s m args below meth c D N adr A H0 nL ka kn Q cell (pc + 1) lv (.ref x :: st)) : G p l e R s m args below meth c D N adr A H0 nL ka kn Q cell pc lv st := fun H locs ls hP hS hl => lv_aload_n C.1 C.2.1 d rfl (lv_at hl q hq) (kk H locs ls hP hS hl)
theorem g_aload (C : CX p s m args c cc own Ts D kc N adr A H0 nL) {i : Nat} {x : Nat} (q : Nat) (hq : lv[q]? = some (i, .ref x)) (d : decode cc pc = .ok (.aload i, 2)) (kk : G p l e R s m args below meth c D N adr A H0 nL ka kn Q cell (pc + 2) lv (.ref x :: st)) : G p l e R s m args below meth c D N adr A H0 nL ka kn Q cell pc lv st := fun H locs ls hP hS hl => lv_aload C.1 C.2.1 d (lv_at hl q hq) (kk H locs ls hP hS hl)
theorem g_aload_nN (C : CX p s m args c cc own Ts D kc N adr A H0 nL) {k : Fin 4} (q : Nat) (hq : lv[q]? = some ((k : Nat), .null)) (d : decode cc pc = .ok (.aload_n k, 1)) (kk : G p l e R s m args below meth c D N adr A H0 nL ka kn Q cell (pc + 1) lv (.null :: st)) : G p l e R s m args below meth c D N adr A H0 nL ka kn Q cell pc lv st := fun H locs ls hP hS hl => lv_aload_nN C.1 C.2.1 d rfl (lv_at hl q hq) (kk H locs ls hP hS hl)
theorem g_aloadN (C : CX p s m args c cc own Ts D kc N adr A H0 nL) {i : Nat} (q : Nat) (hq : lv[q]? = some (i, .null)) (d : decode cc pc = .ok (.aload i, 2)) (kk : G p l e R s m args below meth c D N adr A H0 nL ka kn Q cell (pc + 2) lv (.null :: st)) : G p l e R s m args below meth c D N adr A H0 nL ka kn Q cell pc lv st := fun H locs ls hP hS hl => lv_aloadN C.1 C.2.1 d (lv_at hl q hq) (kk H locs ls hP hS hl)
theorem g_istore_n (C : CX p s m args c cc own Ts D kc N adr A H0 nL) {k : Fin 4} {x : Int32} (lv' : List (Nat × Value)) (hn : (k : Nat) < nL) (hq : ((k : Nat), Value.int x) :: lv.filter (fun q => !(q.1 == (k : Nat)) && !(q.1 + 1 == (k : Nat) && q.2.category == 2)) = lv') (d : decode cc pc = .ok (.istore_n k, 1)) (kk : G p l e R s m args below meth c D N adr A H0 nL ka kn Q cell (pc + 1) lv' st) : G p l e R s m args below meth c D N adr A H0 nL ka kn Q cell pc lv (.int x :: st) := fun H locs ls hP hS hl => lv_istore_n C.1 C.2.1 d rfl hl hn hq (fun ls1 hl1 => kk H locs ls1 hP hS hl1)
theorem g_istore (C : CX p s m args c cc own Ts D kc N adr A H0 nL) {i : Nat} {x : Int32} (lv' : List (Nat × Value)) (hn : i < nL) (hq : (i, Value.int x) :: lv.filter (fun q => !(q.1 == i) && !(q.1 + 1 == i && q.2.category == 2)) = lv') (d : decode cc pc = .ok (.istore i, 2)) (kk : G p l e R s m args below meth c D N adr A H0 nL ka kn Q cell (pc + 2) lv' st) : G p l e R s m args below meth c D N adr A H0 nL ka kn Q cell pc lv (.int x :: st) := fun H locs ls hP hS hl => lv_istore C.1 C.2.1 d hl hn hq (fun ls1 hl1 => kk H locs ls1 hP hS hl1)
theorem g_astore_n (C : CX p s m args c cc own Ts D kc N adr A H0 nL) {k : Fin 4} {x : Nat} (lv' : List (Nat × Value)) (hn : (k : Nat) < nL) (hq : ((k : Nat), Value.ref x) :: lv.filter (fun q => !(q.1 == (k : Nat)) && !(q.1 + 1 == (k : Nat) && q.2.category == 2)) = lv') (d : decode cc pc = .ok (.astore_n k, 1)) (kk : G p l e R s m args below meth c D N adr A H0 nL ka kn Q cell (pc + 1) lv' st) : G p l e R s m args below meth c D N adr A H0 nL ka kn Q cell pc lv (.ref x :: st) := fun H locs ls hP hS hl => lv_astore_n C.1 C.2.1 d rfl hl hn hq (fun ls1 hl1 => kk H locs ls1 hP hS hl1)
theorem g_astore (C : CX p s m args c cc own Ts D kc N adr A H0 nL) {i : Nat} {x : Nat} (lv' : List (Nat × Value)) (hn : i < nL) (hq : (i, Value.ref x) :: lv.filter (fun q => !(q.1 == i) && !(q.1 + 1 == i && q.2.category == 2)) = lv') (d : decode cc pc = .ok (.astore i, 2)) (kk : G p l e R s m args below meth c D N adr A H0 nL ka kn Q cell (pc + 2) lv' st) : G p l e R s m args below meth c D N adr A H0 nL ka kn Q cell pc lv (.ref x :: st) := fun H locs ls hP hS hl => lv_astore C.1 C.2.1 d hl hn hq (fun ls1 hl1 => kk H locs ls1 hP hS hl1)
theorem g_astore_nN (C : CX p s m args c cc own Ts D kc N adr A H0 nL) {k : Fin 4} (lv' : List (Nat × Value)) (hn : (k : Nat) < nL) (hq : ((k : Nat), Value.null) :: lv.filter (fun q => !(q.1 == (k : Nat)) && !(q.1 + 1 == (k : Nat) && q.2.category == 2)) = lv') (d : decode cc pc = .ok (.astore_n k, 1)) (kk : G p l e R s m args below meth c D N adr A H0 nL ka kn Q cell (pc + 1) lv' st) : G p l e R s m args below meth c D N adr A H0 nL ka kn Q cell pc lv (.null :: st) := fun H locs ls hP hS hl => lv_astore_nN C.1 C.2.1 d rfl hl hn hq (fun ls1 hl1 => kk H locs ls1 hP hS hl1)
theorem g_astoreN (C : CX p s m args c cc own Ts D kc N adr A H0 nL) {i : Nat} (lv' : List (Nat × Value)) (hn : i < nL) (hq : (i, Value.null) :: lv.filter (fun q => !(q.1 == i) && !(q.1 + 1 == i && q.2.category == 2)) = lv') (d : decode cc pc = .ok (.astore i, 2)) (kk : G p l e R s m args below meth c D N adr A H0 nL ka kn Q cell (pc + 2) lv' st) : G p l e R s m args below meth c D N adr A H0 nL ka kn Q cell pc lv (.null :: st) := fun H locs ls hP hS hl => lv_astoreN C.1 C.2.1 d hl hn hq (fun ls1 hl1 => kk H locs ls1 hP hS hl1)
theorem g_iinc (C : CX p s m args c cc own Ts D kc N adr A H0 nL) {i : Nat} {z : Int} {x v : Int32} (q : Nat) (lv' : List (Nat × Value)) (hq : lv[q]? = some (i, .int x)) (hv : x + Int32.ofInt z = v) (hn : i < nL) (hs : (i, Value.int v) :: lv.filter (fun q => !(q.1 == i) && !(q.1 + 1 == i && q.2.category == 2)) = lv') (d : decode cc pc = .ok (.iinc i z, 3)) (kk : G p l e R s m args below meth c D N adr A H0 nL ka kn Q cell (pc + 3) lv' st) : G p l e R s m args below meth c D N adr A H0 nL ka kn Q cell pc lv st := fun H locs ls hP hS hl => lv_iinc C.1 C.2.1 d hl hq hv hn hs (fun ls1 hl1 => kk H locs ls1 hP hS hl1)
theorem g_iconst (C : CX p s m args c cc own Ts D kc N adr A H0 nL) {z : Int} (v : Int32) (hv : Int32.ofInt z = v) (d : decode cc pc = .ok (.iconst z, 1)) (kk : G p l e R s m args below meth c D N adr A H0 nL ka kn Q cell (pc + 1) lv (.int v :: st)) : G p l e R s m args below meth c D N adr A H0 nL ka kn Q cell pc lv st := fun H locs ls hP hS hl => lv_iconst C.1 C.2.1 d hv (kk H locs ls hP hS hl)
theorem g_bipush (C : CX p s m args c cc own Ts D kc N adr A H0 nL) {z : Int} (v : Int32) (hv : (Int8.ofInt z).toInt32 = v) (d : decode cc pc = .ok (.bipush z, 2)) (kk : G p l e R s m args below meth c D N adr A H0 nL ka kn Q cell (pc + 2) lv (.int v :: st)) : G p l e R s m args below meth c D N adr A H0 nL ka kn Q cell pc lv st := fun H locs ls hP hS hl => lv_bipush C.1 C.2.1 d hv (kk H locs ls hP hS hl)
theorem g_sipush (C : CX p s m args c cc own Ts D kc N adr A H0 nL) {z : Int} (v : Int32) (hv : (Int16.ofInt z).toInt32 = v) (d : decode cc pc = .ok (.sipush z, 3)) (kk : G p l e R s m args below meth c D N adr A H0 nL ka kn Q cell (pc + 3) lv (.int v :: st)) : G p l e R s m args below meth c D N adr A H0 nL ka kn Q cell pc lv st := fun H locs ls hP hS hl => lv_sipush C.1 C.2.1 d hv (kk H locs ls hP hS hl)
theorem g_ldc (C : CX p s m args c cc own Ts D kc N adr A H0 nL) {z : Nat} (v : Int32) (hc : (Jvm.Cond.constant own z v).before args s = true) (d : decode cc pc = .ok (.ldc z, 2)) (kk : G p l e R s m args below meth c D N adr A H0 nL ka kn Q cell (pc + 2) lv (.int v :: st)) : G p l e R s m args below meth c D N adr A H0 nL ka kn Q cell pc lv st := fun H locs ls hP hS hl => lv_ldc C.1 C.2.1 C.2.2.2.1 hc d (kk H locs ls hP hS hl)
theorem g_null (C : CX p s m args c cc own Ts D kc N adr A H0 nL)   (d : decode cc pc = .ok (.aconst_null, 1)) (kk : G p l e R s m args below meth c D N adr A H0 nL ka kn Q cell (pc + 1) lv (.null :: st)) : G p l e R s m args below meth c D N adr A H0 nL ka kn Q cell pc lv st := fun H locs ls hP hS hl => lv_null C.1 C.2.1 d (kk H locs ls hP hS hl)
theorem g_iadd (C : CX p s m args c cc own Ts D kc N adr A H0 nL) {x y : Int32}  (d : decode cc pc = .ok (.iadd, 1)) (kk : G p l e R s m args below meth c D N adr A H0 nL ka kn Q cell (pc + 1) lv (.int (x + y) :: st)) : G p l e R s m args below meth c D N adr A H0 nL ka kn Q cell pc lv (.int y :: .int x :: st) := fun H locs ls hP hS hl => lv_iadd C.1 C.2.1 d (kk H locs ls hP hS hl)
theorem g_isub (C : CX p s m args c cc own Ts D kc N adr A H0 nL) {x y : Int32}  (d : decode cc pc = .ok (.isub, 1)) (kk : G p l e R s m args below meth c D N adr A H0 nL ka kn Q cell (pc + 1) lv (.int (x - y) :: st)) : G p l e R s m args below meth c D N adr A H0 nL ka kn Q cell pc lv (.int y :: .int x :: st) := fun H locs ls hP hS hl => lv_isub C.1 C.2.1 d (kk H locs ls hP hS hl)
theorem g_imul (C : CX p s m args c cc own Ts D kc N adr A H0 nL) {x y : Int32}  (d : decode cc pc = .ok (.imul, 1)) (kk : G p l e R s m args below meth c D N adr A H0 nL ka kn Q cell (pc + 1) lv (.int (x * y) :: st)) : G p l e R s m args below meth c D N adr A H0 nL ka kn Q cell pc lv (.int y :: .int x :: st) := fun H locs ls hP hS hl => lv_imul C.1 C.2.1 d (kk H locs ls hP hS hl)
theorem g_iand (C : CX p s m args c cc own Ts D kc N adr A H0 nL) {x y : Int32}  (d : decode cc pc = .ok (.iand, 1)) (kk : G p l e R s m args below meth c D N adr A H0 nL ka kn Q cell (pc + 1) lv (.int (x &&& y) :: st)) : G p l e R s m args below meth c D N adr A H0 nL ka kn Q cell pc lv (.int y :: .int x :: st) := fun H locs ls hP hS hl => lv_iand C.1 C.2.1 d (kk H locs ls hP hS hl)
theorem g_ior (C : CX p s m args c cc own Ts D kc N adr A H0 nL) {x y : Int32}  (d : decode cc pc = .ok (.ior, 1)) (kk : G p l e R s m args below meth c D N adr A H0 nL ka kn Q cell (pc + 1) lv (.int (x ||| y) :: st)) : G p l e R s m args below meth c D N adr A H0 nL ka kn Q cell pc lv (.int y :: .int x :: st) := fun H locs ls hP hS hl => lv_ior C.1 C.2.1 d (kk H locs ls hP hS hl)
theorem g_ishl (C : CX p s m args c cc own Ts D kc N adr A H0 nL) {x y : Int32}  (d : decode cc pc = .ok (.ishl, 1)) (kk : G p l e R s m args below meth c D N adr A H0 nL ka kn Q cell (pc + 1) lv (.int (x <<< (y &&& 31)) :: st)) : G p l e R s m args below meth c D N adr A H0 nL ka kn Q cell pc lv (.int y :: .int x :: st) := fun H locs ls hP hS hl => lv_ishl C.1 C.2.1 d (kk H locs ls hP hS hl)
theorem g_ishr (C : CX p s m args c cc own Ts D kc N adr A H0 nL) {x y : Int32}  (d : decode cc pc = .ok (.ishr, 1)) (kk : G p l e R s m args below meth c D N adr A H0 nL ka kn Q cell (pc + 1) lv (.int (x >>> (y &&& 31)) :: st)) : G p l e R s m args below meth c D N adr A H0 nL ka kn Q cell pc lv (.int y :: .int x :: st) := fun H locs ls hP hS hl => lv_ishr C.1 C.2.1 d (kk H locs ls hP hS hl)
theorem g_iushr (C : CX p s m args c cc own Ts D kc N adr A H0 nL) {x y : Int32} (v : Int32) (hv : (x.toUInt32 >>> (y.toUInt32 &&& Int32.toUInt32 31)).toInt32 = v) (d : decode cc pc = .ok (.iushr, 1)) (kk : G p l e R s m args below meth c D N adr A H0 nL ka kn Q cell (pc + 1) lv (.int v :: st)) : G p l e R s m args below meth c D N adr A H0 nL ka kn Q cell pc lv (.int y :: .int x :: st) := fun H locs ls hP hS hl => lv_iushr C.1 C.2.1 d hv (kk H locs ls hP hS hl)
theorem g_ldcw (C : CX p s m args c cc own Ts D kc N adr A H0 nL) {z : Nat} (v : Int32) (hc : (Jvm.Cond.constant own z v).before args s = true) (d : decode cc pc = .ok (.ldc_w z, 3)) (kk : G p l e R s m args below meth c D N adr A H0 nL ka kn Q cell (pc + 3) lv (.int v :: st)) : G p l e R s m args below meth c D N adr A H0 nL ka kn Q cell pc lv st := fun H locs ls hP hS hl => lv_ldcw C.1 C.2.1 C.2.2.2.1 hc d (kk H locs ls hP hS hl)
theorem g_ineg (C : CX p s m args c cc own Ts D kc N adr A H0 nL) {x : Int32}  (d : decode cc pc = .ok (.ineg, 1)) (kk : G p l e R s m args below meth c D N adr A H0 nL ka kn Q cell (pc + 1) lv (.int (-x) :: st)) : G p l e R s m args below meth c D N adr A H0 nL ka kn Q cell pc lv (.int x :: st) := fun H locs ls hP hS hl => lv_ineg C.1 C.2.1 d (kk H locs ls hP hS hl)
theorem g_irem (C : CX p s m args c cc own Ts D kc N adr A H0 nL) {x y : Int32} (hne : ¬ y = 0) (d : decode cc pc = .ok (.irem, 1)) (kk : G p l e R s m args below meth c D N adr A H0 nL ka kn Q cell (pc + 1) lv (.int (x - x / y * y) :: st)) : G p l e R s m args below meth c D N adr A H0 nL ka kn Q cell pc lv (.int y :: .int x :: st) := fun H locs ls hP hS hl => lv_irem C.1 C.2.1 d hne (kk H locs ls hP hS hl)
theorem g_i2c (C : CX p s m args c cc own Ts D kc N adr A H0 nL) {x : Int32} (v : Int32) (hv : (x.toUInt32 % 65536).toInt32 = v) (d : decode cc pc = .ok (.i2c, 1)) (kk : G p l e R s m args below meth c D N adr A H0 nL ka kn Q cell (pc + 1) lv (.int v :: st)) : G p l e R s m args below meth c D N adr A H0 nL ka kn Q cell pc lv (.int x :: st) := fun H locs ls hP hS hl => lv_i2c C.1 C.2.1 d hv (kk H locs ls hP hS hl)
theorem g_dup (C : CX p s m args c cc own Ts D kc N adr A H0 nL) {a : Value} (hc : a.category = 1) (d : decode cc pc = .ok (.dup, 1)) (kk : G p l e R s m args below meth c D N adr A H0 nL ka kn Q cell (pc + 1) lv (a :: a :: st)) : G p l e R s m args below meth c D N adr A H0 nL ka kn Q cell pc lv (a :: st) := fun H locs ls hP hS hl => lv_dup C.1 C.2.1 d hc (kk H locs ls hP hS hl)
theorem g_dup2 (C : CX p s m args c cc own Ts D kc N adr A H0 nL) {a b : Value} (ha : a.category = 1) (hb : b.category = 1) (d : decode cc pc = .ok (.dup2, 1)) (kk : G p l e R s m args below meth c D N adr A H0 nL ka kn Q cell (pc + 1) lv (a :: b :: a :: b :: st)) : G p l e R s m args below meth c D N adr A H0 nL ka kn Q cell pc lv (a :: b :: st) := fun H locs ls hP hS hl => lv_dup2_11 C.1 C.2.1 d ha hb (kk H locs ls hP hS hl)
theorem g_pop (C : CX p s m args c cc own Ts D kc N adr A H0 nL) {a : Value} (hc : a.category = 1) (d : decode cc pc = .ok (.pop, 1)) (kk : G p l e R s m args below meth c D N adr A H0 nL ka kn Q cell (pc + 1) lv st) : G p l e R s m args below meth c D N adr A H0 nL ka kn Q cell pc lv (a :: st) := fun H locs ls hP hS hl => lv_pop C.1 C.2.1 d hc (kk H locs ls hP hS hl)
theorem g_if_eq (C : CX p s m args c cc own Ts D kc N adr A H0 nL) {x : Int32} {off : Int} (tgt : Nat) (ht : (pc : Int) + off = (tgt : Int)) (d : decode cc pc = .ok (.ifCond .eq off, 3)) (kt : x = 0 → G p l e R s m args below meth c D N adr A H0 nL ka kn Q cell tgt lv st) (kf : ¬ x = 0 → G p l e R s m args below meth c D N adr A H0 nL ka kn Q cell (pc + 3) lv st) : G p l e R s m args below meth c D N adr A H0 nL ka kn Q cell pc lv (.int x :: st) := fun H locs ls hP hS hl => lv_if_eq C.1 C.2.1 d ht (fun h => kt h H locs ls hP hS hl) (fun h => kf h H locs ls hP hS hl)
theorem g_icmp_eq (C : CX p s m args c cc own Ts D kc N adr A H0 nL) {x y : Int32} {off : Int} (tgt : Nat) (ht : (pc : Int) + off = (tgt : Int)) (d : decode cc pc = .ok (.if_icmp .eq off, 3)) (kt : x = y → G p l e R s m args below meth c D N adr A H0 nL ka kn Q cell tgt lv st) (kf : ¬ x = y → G p l e R s m args below meth c D N adr A H0 nL ka kn Q cell (pc + 3) lv st) : G p l e R s m args below meth c D N adr A H0 nL ka kn Q cell pc lv (.int y :: .int x :: st) := fun H locs ls hP hS hl => lv_icmp_eq C.1 C.2.1 d ht (fun h => kt h H locs ls hP hS hl) (fun h => kf h H locs ls hP hS hl)
theorem g_if_ne (C : CX p s m args c cc own Ts D kc N adr A H0 nL) {x : Int32} {off : Int} (tgt : Nat) (ht : (pc : Int) + off = (tgt : Int)) (d : decode cc pc = .ok (.ifCond .ne off, 3)) (kt : ¬ x = 0 → G p l e R s m args below meth c D N adr A H0 nL ka kn Q cell tgt lv st) (kf : x = 0 → G p l e R s m args below meth c D N adr A H0 nL ka kn Q cell (pc + 3) lv st) : G p l e R s m args below meth c D N adr A H0 nL ka kn Q cell pc lv (.int x :: st) := fun H locs ls hP hS hl => lv_if_ne C.1 C.2.1 d ht (fun h => kt h H locs ls hP hS hl) (fun h => kf h H locs ls hP hS hl)
theorem g_icmp_ne (C : CX p s m args c cc own Ts D kc N adr A H0 nL) {x y : Int32} {off : Int} (tgt : Nat) (ht : (pc : Int) + off = (tgt : Int)) (d : decode cc pc = .ok (.if_icmp .ne off, 3)) (kt : ¬ x = y → G p l e R s m args below meth c D N adr A H0 nL ka kn Q cell tgt lv st) (kf : x = y → G p l e R s m args below meth c D N adr A H0 nL ka kn Q cell (pc + 3) lv st) : G p l e R s m args below meth c D N adr A H0 nL ka kn Q cell pc lv (.int y :: .int x :: st) := fun H locs ls hP hS hl => lv_icmp_ne C.1 C.2.1 d ht (fun h => kt h H locs ls hP hS hl) (fun h => kf h H locs ls hP hS hl)
theorem g_if_lt (C : CX p s m args c cc own Ts D kc N adr A H0 nL) {x : Int32} {off : Int} (tgt : Nat) (ht : (pc : Int) + off = (tgt : Int)) (d : decode cc pc = .ok (.ifCond .lt off, 3)) (kt : x < 0 → G p l e R s m args below meth c D N adr A H0 nL ka kn Q cell tgt lv st) (kf : ¬ x < 0 → G p l e R s m args below meth c D N adr A H0 nL ka kn Q cell (pc + 3) lv st) : G p l e R s m args below meth c D N adr A H0 nL ka kn Q cell pc lv (.int x :: st) := fun H locs ls hP hS hl => lv_if_lt C.1 C.2.1 d ht (fun h => kt h H locs ls hP hS hl) (fun h => kf h H locs ls hP hS hl)
theorem g_icmp_lt (C : CX p s m args c cc own Ts D kc N adr A H0 nL) {x y : Int32} {off : Int} (tgt : Nat) (ht : (pc : Int) + off = (tgt : Int)) (d : decode cc pc = .ok (.if_icmp .lt off, 3)) (kt : x < y → G p l e R s m args below meth c D N adr A H0 nL ka kn Q cell tgt lv st) (kf : ¬ x < y → G p l e R s m args below meth c D N adr A H0 nL ka kn Q cell (pc + 3) lv st) : G p l e R s m args below meth c D N adr A H0 nL ka kn Q cell pc lv (.int y :: .int x :: st) := fun H locs ls hP hS hl => lv_icmp_lt C.1 C.2.1 d ht (fun h => kt h H locs ls hP hS hl) (fun h => kf h H locs ls hP hS hl)
theorem g_if_ge (C : CX p s m args c cc own Ts D kc N adr A H0 nL) {x : Int32} {off : Int} (tgt : Nat) (ht : (pc : Int) + off = (tgt : Int)) (d : decode cc pc = .ok (.ifCond .ge off, 3)) (kt : 0 ≤ x → G p l e R s m args below meth c D N adr A H0 nL ka kn Q cell tgt lv st) (kf : ¬ 0 ≤ x → G p l e R s m args below meth c D N adr A H0 nL ka kn Q cell (pc + 3) lv st) : G p l e R s m args below meth c D N adr A H0 nL ka kn Q cell pc lv (.int x :: st) := fun H locs ls hP hS hl => lv_if_ge C.1 C.2.1 d ht (fun h => kt h H locs ls hP hS hl) (fun h => kf h H locs ls hP hS hl)
theorem g_icmp_ge (C : CX p s m args c cc own Ts D kc N adr A H0 nL) {x y : Int32} {off : Int} (tgt : Nat) (ht : (pc : Int) + off = (tgt : Int)) (d : decode cc pc = .ok (.if_icmp .ge off, 3)) (kt : y ≤ x → G p l e R s m args below meth c D N adr A H0 nL ka kn Q cell tgt lv st) (kf : ¬ y ≤ x → G p l e R s m args below meth c D N adr A H0 nL ka kn Q cell (pc + 3) lv st) : G p l e R s m args below meth c D N adr A H0 nL ka kn Q cell pc lv (.int y :: .int x :: st) := fun H locs ls hP hS hl => lv_icmp_ge C.1 C.2.1 d ht (fun h => kt h H locs ls hP hS hl) (fun h => kf h H locs ls hP hS hl)
theorem g_if_gt (C : CX p s m args c cc own Ts D kc N adr A H0 nL) {x : Int32} {off : Int} (tgt : Nat) (ht : (pc : Int) + off = (tgt : Int)) (d : decode cc pc = .ok (.ifCond .gt off, 3)) (kt : 0 < x → G p l e R s m args below meth c D N adr A H0 nL ka kn Q cell tgt lv st) (kf : ¬ 0 < x → G p l e R s m args below meth c D N adr A H0 nL ka kn Q cell (pc + 3) lv st) : G p l e R s m args below meth c D N adr A H0 nL ka kn Q cell pc lv (.int x :: st) := fun H locs ls hP hS hl => lv_if_gt C.1 C.2.1 d ht (fun h => kt h H locs ls hP hS hl) (fun h => kf h H locs ls hP hS hl)
theorem g_icmp_gt (C : CX p s m args c cc own Ts D kc N adr A H0 nL) {x y : Int32} {off : Int} (tgt : Nat) (ht : (pc : Int) + off = (tgt : Int)) (d : decode cc pc = .ok (.if_icmp .gt off, 3)) (kt : y < x → G p l e R s m args below meth c D N adr A H0 nL ka kn Q cell tgt lv st) (kf : ¬ y < x → G p l e R s m args below meth c D N adr A H0 nL ka kn Q cell (pc + 3) lv st) : G p l e R s m args below meth c D N adr A H0 nL ka kn Q cell pc lv (.int y :: .int x :: st) := fun H locs ls hP hS hl => lv_icmp_gt C.1 C.2.1 d ht (fun h => kt h H locs ls hP hS hl) (fun h => kf h H locs ls hP hS hl)
theorem g_if_le (C : CX p s m args c cc own Ts D kc N adr A H0 nL) {x : Int32} {off : Int} (tgt : Nat) (ht : (pc : Int) + off = (tgt : Int)) (d : decode cc pc = .ok (.ifCond .le off, 3)) (kt : x ≤ 0 → G p l e R s m args below meth c D N adr A H0 nL ka kn Q cell tgt lv st) (kf : ¬ x ≤ 0 → G p l e R s m args below meth c D N adr A H0 nL ka kn Q cell (pc + 3) lv st) : G p l e R s m args below meth c D N adr A H0 nL ka kn Q cell pc lv (.int x :: st) := fun H locs ls hP hS hl => lv_if_le C.1 C.2.1 d ht (fun h => kt h H locs ls hP hS hl) (fun h => kf h H locs ls hP hS hl)
theorem g_icmp_le (C : CX p s m args c cc own Ts D kc N adr A H0 nL) {x y : Int32} {off : Int} (tgt : Nat) (ht : (pc : Int) + off = (tgt : Int)) (d : decode cc pc = .ok (.if_icmp .le off, 3)) (kt : x ≤ y → G p l e R s m args below meth c D N adr A H0 nL ka kn Q cell tgt lv st) (kf : ¬ x ≤ y → G p l e R s m args below meth c D N adr A H0 nL ka kn Q cell (pc + 3) lv st) : G p l e R s m args below meth c D N adr A H0 nL ka kn Q cell pc lv (.int y :: .int x :: st) := fun H locs ls hP hS hl => lv_icmp_le C.1 C.2.1 d ht (fun h => kt h H locs ls hP hS hl) (fun h => kf h H locs ls hP hS hl)
theorem g_goto (C : CX p s m args c cc own Ts D kc N adr A H0 nL) {off : Int} (tgt : Nat) (ht : (pc : Int) + off = (tgt : Int)) (d : decode cc pc = .ok (.goto off, 3)) (kk : G p l e R s m args below meth c D N adr A H0 nL ka kn Q cell tgt lv st) : G p l e R s m args below meth c D N adr A H0 nL ka kn Q cell pc lv st := fun H locs ls hP hS hl => lv_goto C.1 C.2.1 d ht (kk H locs ls hP hS hl)
theorem g_ifnull (C : CX p s m args c cc own Ts D kc N adr A H0 nL) {x : Nat} {off : Int}  (d : decode cc pc = .ok (.ifnull off, 3)) (kk : G p l e R s m args below meth c D N adr A H0 nL ka kn Q cell (pc + 3) lv st) : G p l e R s m args below meth c D N adr A H0 nL ka kn Q cell pc lv (.ref x :: st) := fun H locs ls hP hS hl => lv_ifnull C.1 C.2.1 d (kk H locs ls hP hS hl)
theorem g_ifnullN (C : CX p s m args c cc own Ts D kc N adr A H0 nL) {off : Int} (tgt : Nat) (ht : (pc : Int) + off = (tgt : Int)) (d : decode cc pc = .ok (.ifnull off, 3)) (kk : G p l e R s m args below meth c D N adr A H0 nL ka kn Q cell tgt lv st) : G p l e R s m args below meth c D N adr A H0 nL ka kn Q cell pc lv (.null :: st) := fun H locs ls hP hS hl => lv_ifnullN C.1 C.2.1 d ht (kk H locs ls hP hS hl)
theorem g_ifnonnull (C : CX p s m args c cc own Ts D kc N adr A H0 nL) {x : Nat} {off : Int} (tgt : Nat) (ht : (pc : Int) + off = (tgt : Int)) (d : decode cc pc = .ok (.ifnonnull off, 3)) (kk : G p l e R s m args below meth c D N adr A H0 nL ka kn Q cell tgt lv st) : G p l e R s m args below meth c D N adr A H0 nL ka kn Q cell pc lv (.ref x :: st) := fun H locs ls hP hS hl => lv_ifnonnull C.1 C.2.1 d ht (kk H locs ls hP hS hl)
theorem g_ifnonnullN (C : CX p s m args c cc own Ts D kc N adr A H0 nL) {off : Int}  (d : decode cc pc = .ok (.ifnonnull off, 3)) (kk : G p l e R s m args below meth c D N adr A H0 nL ka kn Q cell (pc + 3) lv st) : G p l e R s m args below meth c D N adr A H0 nL ka kn Q cell pc lv (.null :: st) := fun H locs ls hP hS hl => lv_ifnonnullN C.1 C.2.1 d (kk H locs ls hP hS hl)
theorem g_tableOut (C : CX p s m args c cc own Ts D kc N adr A H0 nL) {dflt lo hi : Int} {offs : Array Int} {len : Nat} {x : Int32} (tgt : Nat) (h : x.toInt < lo ∨ hi < x.toInt) (ht : (pc : Int) + dflt = (tgt : Int)) (d : decode cc pc = .ok (.tableswitch dflt lo hi offs, len)) (kk : G p l e R s m args below meth c D N adr A H0 nL ka kn Q cell tgt lv st) : G p l e R s m args below meth c D N adr A H0 nL ka kn Q cell pc lv (.int x :: st) := fun H locs ls hP hS hl => lv_tableOut C.1 C.2.1 d h ht (kk H locs ls hP hS hl)
theorem g_tableIn (C : CX p s m args c cc own Ts D kc N adr A H0 nL) {dflt lo hi : Int} {offs : Array Int} {len : Nat} {x : Int32} (tgt : Nat) {off : Int} (h1 : ¬ x.toInt < lo) (h2 : ¬ hi < x.toInt) (ho : offs[(x.toInt - lo).toNat]? = some off) (ht : (pc : Int) + off = (tgt : Int)) (d : decode cc pc = .ok (.tableswitch dflt lo hi offs, len)) (kk : G p l e R s m args below meth c D N adr A H0 nL ka kn Q cell tgt lv st) : G p l e R s m args below meth c D N adr A H0 nL ka kn Q cell pc lv (.int x :: st) := fun H locs ls hP hS hl => lv_tableIn C.1 C.2.1 d h1 h2 ho ht (kk H locs ls hP hS hl)
theorem g_lookup (C : CX p s m args c cc own Ts D kc N adr A H0 nL) {dflt : Int} {ps : Array (Int × Int)} {len : Nat} {x : Int32} (tgt : Nat) {off : Int} (hp : (ps.toList.zip (ps.toList.drop 1)).all (fun (a, next) => a.1 < next.1) = true) (ho : Op.lookupswitch.offset ps.toList dflt x.toInt = off) (ht : (pc : Int) + off = (tgt : Int)) (d : decode cc pc = .ok (.lookupswitch dflt ps, len)) (kk : G p l e R s m args below meth c D N adr A H0 nL ka kn Q cell tgt lv st) : G p l e R s m args below meth c D N adr A H0 nL ka kn Q cell pc lv (.int x :: st) := fun H locs ls hP hS hl => lv_lookup C.1 C.2.1 d hp ho ht (kk H locs ls hP hS hl)
theorem g_get (C : CX p s m args c cc own Ts D kc N adr A H0 nL) {ref C0 : String} {T : u_T} {M index : Nat} (i ci k : Nat) (hi : i < N) {fs : List Value} (he : cell i = .inr (ci, fs)) (hc : vwCl[ci]? = some (C0, T, M)) (hin : ∀ w ∈ u_ws C0 T M, w ∈ Ts) (hk : k < M) (hlink : (Cond.fieldLink own index ref (T k).2.1 (T k).2.2.1).before args s = true) (hsame : ∀ x, s.fieldFound? (T k).1 (T k).2.1 (T k).2.2.1 = some x → s.fieldFound? ref (T k).2.1 (T k).2.2.1 = some x) {v : Value} (hv : fs[k]? = some v) (d : decode cc pc = .ok (.getfield index, 3)) (kk : G p l e R s m args below meth c D N adr A H0 nL ka kn Q cell (pc + 3) lv (v :: st)) : G p l e R s m args below meth c D N adr A H0 nL ka kn Q cell pc lv (.ref (adr i) :: st) := fun H locs ls hP hS hl => va_get C.1 C.2.1 C.2.2.2.2.1 hin C.2.2.2.1 C.2.2.2.2.2.1 hP i (wld_at hi he) hc k hk hlink hsame hv d (kk H locs ls hP hS hl)
theorem g_put (C : CX p s m args c cc own Ts D kc N adr A H0 nL) {ref C0 : String} {T : u_T} {M index : Nat} {v : Value} (i ci k : Nat) (hi : i < N) {fs : List Value} (he : cell i = .inr (ci, fs)) (hc : vwCl[ci]? = some (C0, T, M)) (hin : ∀ w ∈ u_ws C0 T M, w ∈ Ts) (ty0 : Nat → FieldType) (hty : ∀ k, k < M → parseFieldDescriptor (T k).2.2.1 = some (ty0 k)) (hnm : ∀ a, a < M → ∀ b, b < M → a ≠ b → (T a).2.1 ≠ (T b).2.1) (hk : k < M) (hlink : (Cond.fieldLink own index ref (T k).2.1 (T k).2.2.1).before args s = true) (hsame : ∀ x, s.fieldFound? (T k).1 (T k).2.1 (T k).2.2.1 = some x → s.fieldFound? ref (T k).2.1 (T k).2.2.1 = some x) (hfin : (T k).2.2.2 = false) {ty : FieldType} (hd : parseFieldDescriptor (T k).2.2.1 = some ty) (hn : narrow ty v = v) (hfit : fits ty v = true) (hl0 : k < fs.length) (d : decode cc pc = .ok (.putfield index, 3)) (kk : G p l e R s m args below meth c D N adr A H0 nL ka kn Q (va_up cell i (.inr (ci, fs.set k v))) (pc + 3) lv st) : G p l e R s m args below meth c D N adr A H0 nL ka kn Q cell pc lv (v :: .ref (adr i) :: st) := fun H locs ls hP hS hl => va_put C.1 C.2.1 C.2.2.2.2.1 hin ty0 hty hnm C.2.2.2.1 C.2.2.2.2.2.1 hP (C.2.2.2.2.2.2.1 cell) hS i (wld_at hi he) hc k hk hlink hsame hfin hd hn hfit hl0 d (fun H1 locs1 hP1 _ hS1 => kk H1 locs1 ls (wld_set ▸ hP1) hS1 hl)
theorem g_iald (C : CX p s m args c cc own Ts D kc N adr A H0 nL) {x : Int32} (i : Nat) (hi : i < N) {f : Nat → Int32} {z : Nat} (he : cell i = .inl (kc 0, z, .inl f)) (hin : vp_in x z) (d : decode cc pc = .ok (.iaload, 1)) (kk : G p l e R s m args below meth c D N adr A H0 nL ka kn Q cell (pc + 1) lv (.int (f x.toNatClampNeg) :: st)) : G p l e R s m args below meth c D N adr A H0 nL ka kn Q cell pc lv (.int x :: .ref (adr i) :: st) := fun H locs ls hP hS hl => va_iald C.1 C.2.1 C.2.2.2.2.2.1 hP i 0 (wld_at hi he) rfl hin d (kk H locs ls hP hS hl)
theorem g_cald (C : CX p s m args c cc own Ts D kc N adr A H0 nL) {x : Int32} (i : Nat) (hi : i < N) {f : Nat → Int32} {z : Nat} (he : cell i = .inl (kc 1, z, .inl f)) (hin : vp_in x z) (d : decode cc pc = .ok (.caload, 1)) (kk : G p l e R s m args below meth c D N adr A H0 nL ka kn Q cell (pc + 1) lv (.int (f x.toNatClampNeg) :: st)) : G p l e R s m args below meth c D N adr A H0 nL ka kn Q cell pc lv (.int x :: .ref (adr i) :: st) := fun H locs ls hP hS hl => va_cald C.1 C.2.1 C.2.2.2.2.2.1 hP i 1 (wld_at hi he) rfl hin d (kk H locs ls hP hS hl)
theorem g_iast (C : CX p s m args c cc own Ts D kc N adr A H0 nL) {x v : Int32} (i : Nat) (hi : i < N) {f : Nat → Int32} {z : Nat} (he : cell i = .inl (kc 0, z, .inl f)) (hin : vp_in x z) (d : decode cc pc = .ok (.iastore, 1)) (kk : G p l e R s m args below meth c D N adr A H0 nL ka kn Q (va_up cell i (.inl (kc 0, z, .inl (upd f x.toNatClampNeg v)))) (pc + 1) lv st) : G p l e R s m args below meth c D N adr A H0 nL ka kn Q cell pc lv (.int v :: .int x :: .ref (adr i) :: st) := fun H locs ls hP hS hl => va_iast C.1 C.2.1 C.2.2.2.2.2.1 hP (C.2.2.2.2.2.2.1 cell) hS i 0 (wld_at hi he) rfl hin d (fun H1 locs1 hP1 _ hS1 => kk H1 locs1 ls (wld_set ▸ hP1) hS1 hl)
theorem g_cast (C : CX p s m args c cc own Ts D kc N adr A H0 nL) {x v : Int32} (i : Nat) (hi : i < N) {f : Nat → Int32} {z : Nat} (he : cell i = .inl (kc 1, z, .inl f)) (hin : vp_in x z) (d : decode cc pc = .ok (.castore, 1)) (kk : G p l e R s m args below meth c D N adr A H0 nL ka kn Q (va_up cell i (.inl (kc 1, z, .inl (upd f x.toNatClampNeg (vp_nar .char v))))) (pc + 1) lv st) : G p l e R s m args below meth c D N adr A H0 nL ka kn Q cell pc lv (.int v :: .int x :: .ref (adr i) :: st) := fun H locs ls hP hS hl => va_cast C.1 C.2.1 C.2.2.2.2.2.1 hP (C.2.2.2.2.2.2.1 cell) hS i 1 (wld_at hi he) rfl hin d (fun H1 locs1 hP1 _ hS1 => kk H1 locs1 ls (wld_set ▸ hP1) hS1 hl)
theorem g_ald (C : CX p s m args c cc own Ts D kc N adr A H0 nL) {x : Int32} (i t0 : Nat) (hi : i < N) {f : Nat → Option Nat} {z : Nat} {cA : ClassId} {C1 : String} (he : cell i = .inl (cA, z, .inr (.inr (.inr (.inr f))))) (ht : (tyl kc)[t0]? = some (cA, .object C1)) (hin : vp_in x z) (d : decode cc pc = .ok (.aaload, 1)) (kk : G p l e R s m args below meth c D N adr A H0 nL ka kn Q cell (pc + 1) lv (va_rf (f x.toNatClampNeg) :: st)) : G p l e R s m args below meth c D N adr A H0 nL ka kn Q cell pc lv (.int x :: .ref (adr i) :: st) := fun H locs ls hP hS hl => va_aldq C.1 C.2.1 C.2.2.2.2.2.1 hP i t0 (wld_at hi he) ht hin d (kk H locs ls hP hS hl)
theorem g_alen (C : CX p s m args c cc own Ts D kc N adr A H0 nL)  (i t0 : Nat) (hi : i < N) {y : vp_A} {cA : ClassId} {ty : FieldType} (he : cell i = .inl (cA, y)) (ht : (tyl kc)[t0]? = some (cA, ty)) (v : Int32) (hv : Int32.ofNat y.1 = v) (d : decode cc pc = .ok (.arraylength, 1)) (kk : G p l e R s m args below meth c D N adr A H0 nL ka kn Q cell (pc + 1) lv (.int v :: st)) : G p l e R s m args below meth c D N adr A H0 nL ka kn Q cell pc lv (.ref (adr i) :: st) := fun H locs ls hP hS hl => va_alen C.1 C.2.1 C.2.2.2.2.2.1 hP i t0 (wld_at hi he) ht hv d (kk H locs ls hP hS hl)
theorem g_gets (C : CX p s m args c cc own Ts D kc N adr A H0 nL) {C1 nm1 d1 ref : String} {index : Nat} {v : Value} (hZ : va_Z C1 nm1 d1 v A s s.heap) (hH : H0 = s.heap) (hlink : (Cond.fieldLink own index ref nm1 d1).before args s = true) (hsame : ∀ x, s.fieldFound? C1 nm1 d1 = some x → s.fieldFound? ref nm1 d1 = some x) (d : decode cc pc = .ok (.getstatic index, 3)) (kk : G p l e R s m args below meth c D N adr A H0 nL ka kn Q cell (pc + 3) lv (v :: st)) : G p l e R s m args below meth c D N adr A H0 nL ka kn Q cell pc lv st := fun H locs ls hP hS hl => va_gets C.1 C.2.1 hZ (hH ▸ hS) C.2.2.2.1 hlink hsame d (kk H locs ls hP hS hl)
theorem g_abs (C : CX p s m args c cc own Ts D kc N adr A H0 nL) {index : Nat} {x : Int32} (hlink : (Cond.methodLink own index Lib.Math.abs.name).before args s = true) (hstat : (Cond.static Lib.Math.abs.name).before args s = true) (hini : (Cond.initialized "java/lang/Math").before args s = true) (hcode : (Cond.code Lib.Math.abs.name Lib.Math.abs.code 1 (some .int)).before args s = true) (hfr : 1 ≤ R.frames) (hlo : (st.map fun v => v.category).sum + 13 ≤ R.locals) (h1 : ka ≤ R.cells) (h2 : kn ≤ R.slots) (d : decode cc pc = .ok (.invokestatic index, 3)) (kk : G p l e R s m args below meth c D N adr A H0 nL ka kn Q cell (pc + 3) lv (.int (if 0 ≤ x then x else 0 - x) :: st)) : G p l e R s m args below meth c D N adr A H0 nL ka kn Q cell pc lv (.int x :: st) := fun H locs ls hP hS hl => va_mabs C.1 C.2.1 (C.2.2.1.trans hl.1.symm) C.2.2.2.1 hlink hstat hini hcode hfr hlo h1 h2 d (kk H locs ls hP hS hl)
theorem g_sub {lv1 : List (Nat × Value)} (ks : List Nat) (h : lv_pick lv ks = lv1) (kk : G p l e R s m args below meth c D N adr A H0 nL ka kn Q cell pc lv1 st) : G p l e R s m args below meth c D N adr A H0 nL ka kn Q cell pc lv st := fun H locs ls hP hS hl => kk H locs ls hP hS (lv_sub hl ks h)
theorem g_top {x : Int32} (k : ∀ y : Int32, y = x → G p l e R s m args below meth c D N adr A H0 nL ka kn Q cell pc lv (.int y :: st)) : G p l e R s m args below meth c D N adr A H0 nL ka kn Q cell pc lv (.int x :: st) := k x rfl
theorem g_cell (k : ∀ cell1 : Nat → va_E, cell1 = cell → G p l e R s m args below meth c D N adr A H0 nL ka kn Q cell1 pc lv st) : G p l e R s m args below meth c D N adr A H0 nL ka kn Q cell pc lv st := k cell rfl
theorem g_eqst {st1 : List Value} (h : st = st1) (kk : G p l e R s m args below meth c D N adr A H0 nL ka kn Q cell pc lv st1) : G p l e R s m args below meth c D N adr A H0 nL ka kn Q cell pc lv st := h ▸ kk
theorem g_eqlv {lv1 : List (Nat × Value)} (h : lv = lv1) (kk : G p l e R s m args below meth c D N adr A H0 nL ka kn Q cell pc lv1 st) : G p l e R s m args below meth c D N adr A H0 nL ka kn Q cell pc lv st := h ▸ kk
theorem aaF {H : Heap} {locs : List Loc} (C : CX p s m args c cc own Ts D kc N adr A H0 nL) (hS : va_S A H0 H locs) : ∀ q, AA N adr H.size q → A q := by
  intro q h
  rcases h with ⟨i, hi, rfl⟩ | h
  · exact (C.2.2.2.2.2.2.1 (fun _ => .inr (0, []))).2 i _ (wld_at hi rfl)
  · exact C.2.2.2.2.2.2.2 q (Nat.le_trans hS.1 h)
theorem preP {H : Heap} {U : State} (C : CX p s m args c cc own Ts D kc N adr A H0 nL) (hP : va_P D vwCl (wld N adr cell) H) (hU : U.heap = H) (hW : s.WarmedH U.vm) : Pre D kc N adr cell H.size U := ⟨by rw [hU], by rw [hU]; exact hP, va_K.moved hW.alike C.2.2.2.2.2.1, (C.2.2.2.2.2.2.1 cell).weaken (fun _ _ _ _ => trivial)⟩
theorem g_Vi (C : CX p s m args c cc own Ts D kc N adr A H0 nL) {y : MethodName} {ws : List Cond} {rm : Room} {C0 : String} {T : u_T} {M maxL n index : Nat} {bytes : ByteArray} {ret : Option FieldType} {post : Int32 → (Nat → va_E) → Prop} (As : List Value) (i ci : Nat) (hi : i < N) {fs : List Value} (he : cell i = .inr (ci, fs)) (hc : vwCl[ci]? = some (C0, T, M)) (hM : MI l y ws rm D kc N adr cell (.ref (adr i) :: As) post) (cw : CallW R s args own C0 index y bytes maxL ret ws rm 0 0 n) (hn : As.length = n) (hst : st = As.reverse ++ .ref (adr i) :: rest) (hW : (rest.map fun v => v.category).sum ≤ 8) (h1 : ka ≤ R.cells) (h2 : kn ≤ R.slots) (d : decode cc pc = .ok (.invokevirtual index, 3)) (kk : ∀ (r : Int32) (cell1 : Nat → va_E), post r cell1 → G p l e R s m args below meth c D N adr A H0 nL ka kn Q cell1 (pc + 3) lv (.int r :: rest)) : G p l e R s m args below meth c D N adr A H0 nL ka kn Q cell pc lv st := fun H locs ls hP hS hl => by
  subst hst
  exact va_calli (va_runV (As := As) (rest := rest) ⟨C.1, C.2.1, C.2.2.1, C.2.2.2.1, C.2.2.2.2.1⟩ (hM H.size) cw ⟨blindPre, va_recv C.2.2.2.2.2.1 hP hc (wld_at hi he), fun U hU hW => ⟨rfl, preP C hP hU hW⟩⟩ rfl hn hl.1 rfl (lv_room hW) d ⟨h1, h2⟩) hS (fun q _ h => aaF C hS q h) (aaF C hS) (fun r u t H1 locs1 ht hvm hw hB hz1 hk1 hS1 => kk r u hw H1 locs1 ls (ht ▸ hB) hS1 hl)
theorem g_Si (C : CX p s m args c cc own Ts D kc N adr A H0 nL) {y : MethodName} {ws : List Cond} {rm : Room} {maxL n index : Nat} {bytes : ByteArray} {ret : Option FieldType} {post : Int32 → (Nat → va_E) → Prop} (As : List Value) (hM : MI l y ws rm D kc N adr cell As post) (cw : CallB R s args own index y bytes maxL ret ws rm 0 0 n ∧ (Cond.static y).before args s = true) (hn : As.length = n) (hst : st = As.reverse ++ rest) (hW : (rest.map fun v => v.category).sum ≤ 8) (h1 : ka ≤ R.cells) (h2 : kn ≤ R.slots) (d : decode cc pc = .ok (.invokestatic index, 3)) (kk : ∀ (r : Int32) (cell1 : Nat → va_E), post r cell1 → G p l e R s m args below meth c D N adr A H0 nL ka kn Q cell1 (pc + 3) lv (.int r :: rest)) : G p l e R s m args below meth c D N adr A H0 nL ka kn Q cell pc lv st := fun H locs ls hP hS hl => by
  subst hst
  exact va_calli (va_runS (As := As) (rest := rest) ⟨C.1, C.2.1, C.2.2.1, C.2.2.2.1, C.2.2.2.2.1⟩ (hM H.size) cw ⟨blindPre, fun U hU hW => ⟨rfl, preP C hP hU hW⟩⟩ rfl hn hl.1 rfl (lv_room hW) d ⟨h1, h2⟩) hS (fun q _ h => aaF C hS q h) (aaF C hS) (fun r u t H1 locs1 ht hvm hw hB hz1 hk1 hS1 => kk r u hw H1 locs1 ls (ht ▸ hB) hS1 hl)
theorem g_Vv (C : CX p s m args c cc own Ts D kc N adr A H0 nL) {y : MethodName} {ws : List Cond} {rm : Room} {C0 : String} {T : u_T} {M maxL n index : Nat} {bytes : ByteArray} {ret : Option FieldType} {post : (Nat → va_E) → Prop} (As : List Value) (i ci : Nat) (hi : i < N) {fs : List Value} (he : cell i = .inr (ci, fs)) (hc : vwCl[ci]? = some (C0, T, M)) (hM : MV l y ws rm D kc N adr cell (.ref (adr i) :: As) post) (cw : CallW R s args own C0 index y bytes maxL ret ws rm 0 0 n) (hn : As.length = n) (hst : st = As.reverse ++ .ref (adr i) :: rest) (hW : (rest.map fun v => v.category).sum ≤ 8) (h1 : ka ≤ R.cells) (h2 : kn ≤ R.slots) (d : decode cc pc = .ok (.invokevirtual index, 3)) (kk : ∀ (cell1 : Nat → va_E), post cell1 → G p l e R s m args below meth c D N adr A H0 nL ka kn Q cell1 (pc + 3) lv rest) : G p l e R s m args below meth c D N adr A H0 nL ka kn Q cell pc lv st := fun H locs ls hP hS hl => by
  subst hst
  exact va_callv (va_runV (As := As) (rest := rest) ⟨C.1, C.2.1, C.2.2.1, C.2.2.2.1, C.2.2.2.2.1⟩ (hM H.size) cw ⟨blindPre, va_recv C.2.2.2.2.2.1 hP hc (wld_at hi he), fun U hU hW => ⟨rfl, preP C hP hU hW⟩⟩ rfl hn hl.1 rfl (lv_room hW) d ⟨h1, h2⟩) hS (fun q _ h => aaF C hS q h) (aaF C hS) (fun u t H1 locs1 ht hvm hw hB hz1 hk1 hS1 => kk u hw H1 locs1 ls (ht ▸ hB) hS1 hl)
theorem g_Sv (C : CX p s m args c cc own Ts D kc N adr A H0 nL) {y : MethodName} {ws : List Cond} {rm : Room} {maxL n index : Nat} {bytes : ByteArray} {ret : Option FieldType} {post : (Nat → va_E) → Prop} (As : List Value) (hM : MV l y ws rm D kc N adr cell As post) (cw : CallB R s args own index y bytes maxL ret ws rm 0 0 n ∧ (Cond.static y).before args s = true) (hn : As.length = n) (hst : st = As.reverse ++ rest) (hW : (rest.map fun v => v.category).sum ≤ 8) (h1 : ka ≤ R.cells) (h2 : kn ≤ R.slots) (d : decode cc pc = .ok (.invokestatic index, 3)) (kk : ∀ (cell1 : Nat → va_E), post cell1 → G p l e R s m args below meth c D N adr A H0 nL ka kn Q cell1 (pc + 3) lv rest) : G p l e R s m args below meth c D N adr A H0 nL ka kn Q cell pc lv st := fun H locs ls hP hS hl => by
  subst hst
  exact va_callv (va_runS (As := As) (rest := rest) ⟨C.1, C.2.1, C.2.2.1, C.2.2.2.1, C.2.2.2.2.1⟩ (hM H.size) cw ⟨blindPre, fun U hU hW => ⟨rfl, preP C hP hU hW⟩⟩ rfl hn hl.1 rfl (lv_room hW) d ⟨h1, h2⟩) hS (fun q _ h => aaF C hS q h) (aaF C hS) (fun u t H1 locs1 ht hvm hw hB hz1 hk1 hS1 => kk u hw H1 locs1 ls (ht ▸ hB) hS1 hl)
theorem g_Vq (C : CX p s m args c cc own Ts D kc N adr A H0 nL) {y : MethodName} {ws : List Cond} {rm : Room} {C0 : String} {T : u_T} {M maxL n index : Nat} {bytes : ByteArray} {ret : Option FieldType} {post : Option Nat → (Nat → va_E) → Prop} (As : List Value) (i ci : Nat) (hi : i < N) {fs : List Value} (he : cell i = .inr (ci, fs)) (hc : vwCl[ci]? = some (C0, T, M)) (hM : MR l y ws rm D kc N adr cell (.ref (adr i) :: As) post) (cw : CallW R s args own C0 index y bytes maxL ret ws rm 0 0 n) (hn : As.length = n) (hst : st = As.reverse ++ .ref (adr i) :: rest) (hW : (rest.map fun v => v.category).sum ≤ 8) (h1 : ka ≤ R.cells) (h2 : kn ≤ R.slots) (d : decode cc pc = .ok (.invokevirtual index, 3)) (kk : ∀ (r : Option Nat) (cell1 : Nat → va_E), post r cell1 → G p l e R s m args below meth c D N adr A H0 nL ka kn Q cell1 (pc + 3) lv (va_rf r :: rest)) : G p l e R s m args below meth c D N adr A H0 nL ka kn Q cell pc lv st := fun H locs ls hP hS hl => by
  subst hst
  exact va_callq (va_runV (As := As) (rest := rest) ⟨C.1, C.2.1, C.2.2.1, C.2.2.2.1, C.2.2.2.2.1⟩ (hM H.size) cw ⟨blindPre, va_recv C.2.2.2.2.2.1 hP hc (wld_at hi he), fun U hU hW => ⟨rfl, preP C hP hU hW⟩⟩ rfl hn hl.1 rfl (lv_room hW) d ⟨h1, h2⟩) hS (fun q _ h => aaF C hS q h) (aaF C hS) (fun r u t H1 locs1 ht hvm hw hB hz1 hk1 hS1 => kk r u hw H1 locs1 ls (ht ▸ hB) hS1 hl)
theorem g_Sq (C : CX p s m args c cc own Ts D kc N adr A H0 nL) {y : MethodName} {ws : List Cond} {rm : Room} {maxL n index : Nat} {bytes : ByteArray} {ret : Option FieldType} {post : Option Nat → (Nat → va_E) → Prop} (As : List Value) (hM : MR l y ws rm D kc N adr cell As post) (cw : CallB R s args own index y bytes maxL ret ws rm 0 0 n ∧ (Cond.static y).before args s = true) (hn : As.length = n) (hst : st = As.reverse ++ rest) (hW : (rest.map fun v => v.category).sum ≤ 8) (h1 : ka ≤ R.cells) (h2 : kn ≤ R.slots) (d : decode cc pc = .ok (.invokestatic index, 3)) (kk : ∀ (r : Option Nat) (cell1 : Nat → va_E), post r cell1 → G p l e R s m args below meth c D N adr A H0 nL ka kn Q cell1 (pc + 3) lv (va_rf r :: rest)) : G p l e R s m args below meth c D N adr A H0 nL ka kn Q cell pc lv st := fun H locs ls hP hS hl => by
  subst hst
  exact va_callq (va_runS (As := As) (rest := rest) ⟨C.1, C.2.1, C.2.2.1, C.2.2.2.1, C.2.2.2.2.1⟩ (hM H.size) cw ⟨blindPre, fun U hU hW => ⟨rfl, preP C hP hU hW⟩⟩ rfl hn hl.1 rfl (lv_room hW) d ⟨h1, h2⟩) hS (fun q _ h => aaF C hS q h) (aaF C hS) (fun r u t H1 locs1 ht hvm hw hB hz1 hk1 hS1 => kk r u hw H1 locs1 ls (ht ▸ hB) hS1 hl)
theorem g_iret (C : CX p s m args c cc own Ts D kc N adr A s.heap nL) {post : Int32 → (Nat → va_E) → Prop} {v : Int32} {ty : FieldType} (hr : meth.sig.returnType = some ty) (hnar : narrow ty (.int v) = .int v) (hlk : meth.locks = false) (d : decode cc pc = .ok (.ireturn, 1)) (hp : post v cell) : G p l e R s m args below meth c D N adr A s.heap nL 0 0 (MQ below (va_Qi post (fun cell1 t => va_P D vwCl (wld N adr cell1) t.heap) A) args s 0 0 A) cell pc lv [.int v] := fun H locs ls hP hS hl => W.zret C.1 C.2.1 hr hnar (fun t ht _ => ⟨⟨v, cell, rfl, hp, (show va_P D vwCl (wld N adr cell) t.heap by rw [ht]; exact hP)⟩, hS.F ht⟩) hS.2.2 d hlk
theorem g_vret (C : CX p s m args c cc own Ts D kc N adr A s.heap nL) {post : (Nat → va_E) → Prop} (hr : meth.sig.returnType = none) (hlk : meth.locks = false) (d : decode cc pc = .ok (.return_, 1)) (hp : post cell) : G p l e R s m args below meth c D N adr A s.heap nL 0 0 (MQ below (va_Qv post (fun cell1 t => va_P D vwCl (wld N adr cell1) t.heap) A) args s 0 0 A) cell pc lv [] := fun H locs ls hP hS hl => W.vret C.1 C.2.1 hr (fun t ht _ => ⟨⟨cell, rfl, hp, (show va_P D vwCl (wld N adr cell) t.heap by rw [ht]; exact hP)⟩, hS.F ht⟩) hS.2.2 d hlk
theorem g_aret (C : CX p s m args c cc own Ts D kc N adr A s.heap nL) {post : Option Nat → (Nat → va_E) → Prop} {x : Nat} {nm : String} (hr : meth.sig.returnType = some (.object nm)) (hlk : meth.locks = false) (d : decode cc pc = .ok (.areturn, 1)) (hp : post (some x) cell) : G p l e R s m args below meth c D N adr A s.heap nL 0 0 (MQ below (va_Qq post (fun cell1 t => va_P D vwCl (wld N adr cell1) t.heap) A) args s 0 0 A) cell pc lv [.ref x] := fun H locs ls hP hS hl => W.aret C.1 C.2.1 hr (Or.inl ⟨nm, rfl⟩) (Or.inr ⟨x, rfl⟩) (fun t ht _ => ⟨⟨some x, cell, rfl, hp, (show va_P D vwCl (wld N adr cell) t.heap by rw [ht]; exact hP)⟩, hS.F ht⟩) hS.2.2 d hlk
theorem g_aretN (C : CX p s m args c cc own Ts D kc N adr A s.heap nL) {post : Option Nat → (Nat → va_E) → Prop} {nm : String} (hr : meth.sig.returnType = some (.object nm)) (hlk : meth.locks = false) (d : decode cc pc = .ok (.areturn, 1)) (hp : post none cell) : G p l e R s m args below meth c D N adr A s.heap nL 0 0 (MQ below (va_Qq post (fun cell1 t => va_P D vwCl (wld N adr cell1) t.heap) A) args s 0 0 A) cell pc lv [.null] := fun H locs ls hP hS hl => W.aret C.1 C.2.1 hr (Or.inl ⟨nm, rfl⟩) (Or.inl rfl) (fun t ht _ => ⟨⟨none, cell, rfl, hp, (show va_P D vwCl (wld N adr cell) t.heap by rw [ht]; exact hP)⟩, hS.F ht⟩) hS.2.2 d hlk
end GROWS
theorem met_i {l : Launch} {y : MethodName} {ws ws' : List Cond} {rm : Room} {D : va_G} {kc : Nat → ClassId} {N : Nat} {adr : Nat → Nat} {cell : Nat → va_E} {av : List Value} {post : Int32 → (Nat → va_E) → Prop} {cc : ByteArray} {maxL : Nat} {ret : Option FieldType} {lv : List (Nat × Value)} (hy : plainName y.cls = true) (hw : ws = Cond.code y cc maxL ret :: ws') (hlen : (lg_sl av).length ≤ maxL) (hlv : lv_args 0 av = lv)
    (body : ∀ (p : Program) (e : Env) (s : State) (m : MethodId) (args : Array Value) (below : List Frame) (meth : Method) (c : Code) (A : Nat → Prop), CX p s m args c cc y.cls ws D kc N adr A s.heap maxL → meth.sig.returnType = ret → meth.locks = false → meth.name = y.name →
      G p l e (headSpec ws rm).room s m args below meth c D N adr A s.heap maxL 0 0 (MQ below (va_Qi post (fun cell1 t => va_P D vwCl (wld N adr cell1) t.heap) A) args s 0 0 A) cell 0 lv []) : MI l y ws rm D kc N adr cell av post := by
  intro sz
  refine Met.ofW (cc := cc) (maxL := maxL) (ret := ret) hy hw ?_
  intro p e s m args below meth c s₁ B hml hv
  obtain ⟨rfl, rfl, hP, hK, hD0⟩ := hv
  have hCX : CX p s m av.toArray c cc y.cls ws D kc N adr (AA N adr s.heap.size) s.heap maxL := ⟨B.exec, B.bytes, hml, findClass_of_methodNamed B.named, atoms_spec (ws := ws) B.pre, hK, fun cell' => ⟨(wld_D (cell' := cell') hD0).1, fun k q hk => Or.inl ⟨k, (wld_of hk).1, by rw [(wld_of hk).2]⟩⟩, fun q h => Or.inr h⟩
  have hl := lv_entry av (n := maxL) hlen
  rw [lg_entry_eq]
  exact body p e s m _ below meth c _ hCX B.returns B.notSynchronized (name_of_methodNamed B.named B.method).1 s.heap [] _ hP va_S.rf (hlv ▸ hl)
theorem met_v {l : Launch} {y : MethodName} {ws ws' : List Cond} {rm : Room} {D : va_G} {kc : Nat → ClassId} {N : Nat} {adr : Nat → Nat} {cell : Nat → va_E} {av : List Value} {post : (Nat → va_E) → Prop} {cc : ByteArray} {maxL : Nat} {ret : Option FieldType} {lv : List (Nat × Value)} (hy : plainName y.cls = true) (hw : ws = Cond.code y cc maxL ret :: ws') (hlen : (lg_sl av).length ≤ maxL) (hlv : lv_args 0 av = lv)
    (body : ∀ (p : Program) (e : Env) (s : State) (m : MethodId) (args : Array Value) (below : List Frame) (meth : Method) (c : Code) (A : Nat → Prop), CX p s m args c cc y.cls ws D kc N adr A s.heap maxL → meth.sig.returnType = ret → meth.locks = false → meth.name = y.name →
      G p l e (headSpec ws rm).room s m args below meth c D N adr A s.heap maxL 0 0 (MQ below (va_Qv post (fun cell1 t => va_P D vwCl (wld N adr cell1) t.heap) A) args s 0 0 A) cell 0 lv []) : MV l y ws rm D kc N adr cell av post := by
  intro sz
  refine Met.ofW (cc := cc) (maxL := maxL) (ret := ret) hy hw ?_
  intro p e s m args below meth c s₁ B hml hv
  obtain ⟨rfl, rfl, hP, hK, hD0⟩ := hv
  have hCX : CX p s m av.toArray c cc y.cls ws D kc N adr (AA N adr s.heap.size) s.heap maxL := ⟨B.exec, B.bytes, hml, findClass_of_methodNamed B.named, atoms_spec (ws := ws) B.pre, hK, fun cell' => ⟨(wld_D (cell' := cell') hD0).1, fun k q hk => Or.inl ⟨k, (wld_of hk).1, by rw [(wld_of hk).2]⟩⟩, fun q h => Or.inr h⟩
  have hl := lv_entry av (n := maxL) hlen
  rw [lg_entry_eq]
  exact body p e s m _ below meth c _ hCX B.returns B.notSynchronized (name_of_methodNamed B.named B.method).1 s.heap [] _ hP va_S.rf (hlv ▸ hl)
theorem met_q {l : Launch} {y : MethodName} {ws ws' : List Cond} {rm : Room} {D : va_G} {kc : Nat → ClassId} {N : Nat} {adr : Nat → Nat} {cell : Nat → va_E} {av : List Value} {post : Option Nat → (Nat → va_E) → Prop} {cc : ByteArray} {maxL : Nat} {ret : Option FieldType} {lv : List (Nat × Value)} (hy : plainName y.cls = true) (hw : ws = Cond.code y cc maxL ret :: ws') (hlen : (lg_sl av).length ≤ maxL) (hlv : lv_args 0 av = lv)
    (body : ∀ (p : Program) (e : Env) (s : State) (m : MethodId) (args : Array Value) (below : List Frame) (meth : Method) (c : Code) (A : Nat → Prop), CX p s m args c cc y.cls ws D kc N adr A s.heap maxL → meth.sig.returnType = ret → meth.locks = false → meth.name = y.name →
      G p l e (headSpec ws rm).room s m args below meth c D N adr A s.heap maxL 0 0 (MQ below (va_Qq post (fun cell1 t => va_P D vwCl (wld N adr cell1) t.heap) A) args s 0 0 A) cell 0 lv []) : MR l y ws rm D kc N adr cell av post := by
  intro sz
  refine Met.ofW (cc := cc) (maxL := maxL) (ret := ret) hy hw ?_
  intro p e s m args below meth c s₁ B hml hv
  obtain ⟨rfl, rfl, hP, hK, hD0⟩ := hv
  have hCX : CX p s m av.toArray c cc y.cls ws D kc N adr (AA N adr s.heap.size) s.heap maxL := ⟨B.exec, B.bytes, hml, findClass_of_methodNamed B.named, atoms_spec (ws := ws) B.pre, hK, fun cell' => ⟨(wld_D (cell' := cell') hD0).1, fun k q hk => Or.inl ⟨k, (wld_of hk).1, by rw [(wld_of hk).2]⟩⟩, fun q h => Or.inr h⟩
  have hl := lv_entry av (n := maxL) hlen
  rw [lg_entry_eq]
  exact body p e s m _ below meth c _ hCX B.returns B.notSynchronized (name_of_methodNamed B.named B.method).1 s.heap [] _ hP va_S.rf (hlv ▸ hl)
end
section
/-! NUMBERS, and the cells of a row, an anchor, a state -/
theorem iinc_nI (a : Nat) : nI a + Int32.ofInt 1 = nI (a + 1) := nI_1 a
theorem i_lt {a b : Int32} (h : a < b) : a.toInt < b.toInt := Int32.lt_iff_toInt_lt.mp h
theorem i_nlt {a b : Int32} (h : ¬ a < b) : b.toInt ≤ a.toInt := Int.not_lt.mp (fun q => h (Int32.lt_iff_toInt_lt.mpr q))
theorem i_le {a b : Int32} (h : a ≤ b) : a.toInt ≤ b.toInt := Int32.le_iff_toInt_le.mp h
theorem i_nle {a b : Int32} (h : ¬ a ≤ b) : b.toInt < a.toInt := Int.not_le.mp (fun q => h (Int32.le_iff_toInt_le.mpr q))
theorem i_eq {a b : Int32} (h : a = b) : a.toInt = b.toInt := congrArg _ h
theorem i_ne {a b : Int32} (h : ¬ a = b) : a.toInt ≠ b.toInt := fun q => h (Int32.toInt_inj.mp q)
theorem i_inj {a b : Int32} (h : a.toInt = b.toInt) : a = b := Int32.toInt_inj.mp h
theorem t_rng (x : Int32) : -2147483648 ≤ x.toInt ∧ x.toInt < 2147483648 := ⟨Int32.le_toInt x, Int32.toInt_lt x⟩
theorem t_bmod {z : Int} (h1 : -2147483648 ≤ z) (h2 : z < 2147483648) : z.bmod (2 ^ 32) = z := by
  rw [Int.bmod_eq_of_le] <;> omega
theorem t_add {x y : Int32} (h1 : -2147483648 ≤ x.toInt + y.toInt) (h2 : x.toInt + y.toInt < 2147483648) : (x + y).toInt = x.toInt + y.toInt := by
  rw [Int32.toInt_add]; exact t_bmod h1 h2
theorem t_sub {x y : Int32} (h1 : -2147483648 ≤ x.toInt - y.toInt) (h2 : x.toInt - y.toInt < 2147483648) : (x - y).toInt = x.toInt - y.toInt := by
  rw [Int32.toInt_sub]; exact t_bmod h1 h2
theorem t_neg {x : Int32} (h1 : -2147483648 < x.toInt) : (-x).toInt = -x.toInt := by
  rw [Int32.toInt_neg]; exact t_bmod (by have := t_rng x; omega) (by have := t_rng x; omega)
/-- an int from 0 on is nI of its clamp -/
theorem nI_cl {x : Int32} (h : 0 ≤ x.toInt) : x = nI x.toNatClampNeg := by
  apply i_inj
  rw [nI_toInt]
  · show x.toInt = (x.toInt.toNat : Int); omega
  · have := t_rng x; show x.toInt.toNat < 2 ^ 31; omega
theorem cl_toInt {x : Int32} (h : 0 ≤ x.toInt) : (x.toNatClampNeg : Int) = x.toInt := by
  show (x.toInt.toNat : Int) = x.toInt; omega
def bI (c : Bool) : Int32 := if c then 1 else 0
theorem bI_1 {P : Prop} [Decidable P] (h : P) : bI (decide P) = 1 := by simp [bI, h]
theorem bI_0 {P : Prop} [Decidable P] (h : ¬ P) : bI (decide P) = 0 := by simp [bI, h]
theorem bI_f {P : Prop} [Decidable P] (h : bI (decide P) = 0) : ¬ P := fun q => by rw [bI_1 q] at h; exact absurd h (by decide)
theorem bI_t {P : Prop} [Decidable P] (h : ¬ bI (decide P) = 0) : P := Decidable.byContradiction (fun q => h (bI_0 q))
theorem bI_nar (c : Bool) : narrow .boolean (.int (bI c)) = .int (bI c) := by cases c <;> rfl
/-- what stands at a place of a row of n words; -1: none -/
def atF (n : Nat) (W : Nat → Int32) (x : Int32) : Int32 := if 0 ≤ x.toInt ∧ x.toInt < n then W x.toNatClampNeg else -1
def RowAt (cell : Nat → va_E) (adr : Nat → Nat) (kc : Nat → ClassId) (r : Nat) (W T U : Nat → Int32) (n : Nat) : Prop := cell r = .inr (4, [.ref (adr (r + 1)), .ref (adr (r + 2)), .ref (adr (r + 3)), .int (nI n)]) ∧ cell (r + 1) = .inl (kc 0, 40, .inl W) ∧ cell (r + 2) = .inl (kc 0, 40, .inl T) ∧ cell (r + 3) = .inl (kc 0, 40, .inl U) ∧ n ≤ 40
def AncAt (cell : Nat → va_E) (adr : Nat → Nat) (kc : Nat → ClassId) (a : Nat) (p v : Int32) (f : Nat → Int32) : Prop := cell a = .inr (0, [.ref (adr (a + 1)), .int p, .int v]) ∧ cell (a + 1) = .inl (kc 0, 5, .inl f)
def fill (f g : Nat → Int32) (i : Nat) : Nat → Int32 := fun p => if p < i then f p else g p
theorem fill_0 {f g : Nat → Int32} : g = fill f g 0 := by funext p; simp [fill]
theorem fill_upd {f g : Nat → Int32} {i : Nat} {v : Int32} (h : v = f i) : upd (fill f g i) i v = fill f g (i + 1) := by
  funext p
  subst h
  unfold fill upd
  by_cases h1 : p = i
  · subst h1; simp
  · simp only [if_neg h1]
    by_cases h2 : p < i
    · rw [if_pos h2, if_pos (by omega)]
    · rw [if_neg h2, if_neg (by omega)]
theorem fill_in {f g : Nat → Int32} {i p : Nat} (h : p < i) : fill f g i p = f p := if_pos h
theorem fill_out {f g : Nat → Int32} {i p : Nat} (h : i ≤ p) : fill f g i p = g p := if_neg (by omega)
theorem atF_nI {n : Nat} {W : Nat → Int32} {i : Nat} (h : i < n) (hn : n < 2 ^ 31) : atF n W (nI i) = W i := by
  unfold atF
  rw [nI_toInt (by omega), nI_clamp (by omega), if_pos (by omega)]
theorem upd_s {f : Nat → Int32} {i : Nat} {v : Int32} : upd f i v i = v := by simp [upd]
theorem upd_n {f : Nat → Int32} {i j : Nat} {v : Int32} (h : j ≠ i) : upd f i v j = f j := by simp [upd, h]
/-- the words of a row, brought where the targets say -/
def rlF (W T : Nat → Int32) (U : Nat → Int32) : Nat → Nat → Int32
  | 0 => U
  | i + 1 => if 0 ≤ (T i).toInt ∧ (T i).toInt < 40 then upd (rlF W T U i) (T i).toNatClampNeg (W i) else rlF W T U i
theorem rl_keep {W T U : Nat → Int32} {j p : Nat} : ∀ {m : Nat}, p ≤ m → (∀ k, p ≤ k → k < m → 0 ≤ (T k).toInt → (T k).toNatClampNeg ≠ j) → rlF W T U m j = rlF W T U p j := by
  intro m
  induction m with
  | zero => intro h _; rw [show p = 0 by omega]
  | succ m ih =>
    intro h hk
    by_cases e : p = m + 1
    · rw [e]
    · have h1 := ih (by omega) (fun k a b => hk k a (by omega))
      rw [← h1]
      show (if 0 ≤ (T m).toInt ∧ (T m).toInt < 40 then upd (rlF W T U m) (T m).toNatClampNeg (W m) else rlF W T U m) j = _
      by_cases c : 0 ≤ (T m).toInt ∧ (T m).toInt < 40
      · rw [if_pos c, upd_n (fun q => hk m (by omega) (by omega) c.1 q.symm)]
      · rw [if_neg c]
theorem rl_hit {W T U : Nat → Int32} {j p m : Nat} (hp : p < m) (h0 : 0 ≤ (T p).toInt) (h1 : (T p).toInt < 40) (hj : (T p).toNatClampNeg = j) (hk : ∀ k, p < k → k < m → 0 ≤ (T k).toInt → (T k).toNatClampNeg ≠ j) : rlF W T U m j = W p := by
  rw [rl_keep (p := p + 1) (by omega) (fun k a b => hk k (by omega) b)]
  show (if 0 ≤ (T p).toInt ∧ (T p).toInt < 40 then upd (rlF W T U p) (T p).toNatClampNeg (W p) else rlF W T U p) j = _
  rw [if_pos ⟨h0, h1⟩, ← hj, upd_s]
theorem rl_nI {W T U : Nat → Int32} {t : Nat → Nat} {j p m : Nat} (hp : p < m) (hT : ∀ k, p ≤ k → k < m → T k = nI (t k)) (ht : ∀ k, p ≤ k → k < m → t k < 40) (hj : t p = j) (hk : ∀ k, p < k → k < m → t k ≠ j) : rlF W T U m j = W p := by
  have e0 := hT p (Nat.le_refl _) hp
  have l0 := ht p (Nat.le_refl _) hp
  refine rl_hit hp (by rw [e0, nI_toInt (by omega)]; omega) (by rw [e0, nI_toInt (by omega)]; omega) (by rw [e0, nI_clamp (by omega)]; exact hj) (fun k a b c => ?_)
  rw [hT k (by omega) b, nI_clamp (by have := ht k (by omega) b; omega)]
  exact hk k a b
/-- a word put in -/
def insP (q p : Nat) : Nat := if p < q then p else p + 1
def insW (q : Nat) (w : Int32) (W : Nat → Int32) (p : Nat) : Int32 := if p < q then W p else if p = q then w else W (p - 1)
/-- a word taken out -/
def remW (q : Nat) (W : Nat → Int32) (p : Nat) : Int32 := if p < q then W p else W (p + 1)
def remP (q p : Nat) : Int32 := if p < q then nI p else if p = q then -1 else nI (p - 1)
/-- a block moved -/
def pasF (f k t p : Nat) : Nat := if f ≤ p ∧ p < f + k then p - f + t else if (if p < f then p else p - k) < t then (if p < f then p else p - k) else (if p < f then p else p - k) + k
theorem pas_lt {f k t p n : Nat} (h1 : f + k ≤ n) (h2 : t + k ≤ n) (hp : p < n) : pasF f k t p < n := by
  unfold pasF; (repeat' split) <;> omega
theorem pas_inv {f k t p n : Nat} (h1 : f + k ≤ n) (h2 : t + k ≤ n) (hp : p < n) : pasF f k t (pasF t k f p) = p := by
  unfold pasF; (repeat' split) <;> omega
theorem insW_ok {W T U : Nat → Int32} {q n : Nat} {w : Int32} (hq : q ≤ n) (hn : n < 40) : ∀ p : Nat, p < n + 1 → upd (fill (rlF W (fill (fun k => nI (insP q k)) T 40) U n) W (n + 1)) q w p = insW q w W p := by
  intro p hp
  unfold insW
  by_cases e : p = q
  · subst e; rw [upd_s, if_neg (Nat.lt_irrefl p), if_pos rfl]
  · rw [upd_n e, fill_in hp]
    by_cases l : p < q
    · rw [if_pos l]
      exact rl_nI (t := insP q) (by omega) (fun k a b => fill_in (by omega)) (fun k a b => by unfold insP; split <;> omega) (by unfold insP; rw [if_pos l]) (fun k a b => by unfold insP; split <;> omega)
    · rw [if_neg l, if_neg e]
      exact rl_nI (t := insP q) (p := p - 1) (by omega) (fun k a b => fill_in (by omega)) (fun k a b => by unfold insP; split <;> omega) (by unfold insP; rw [if_neg (by omega)]; omega) (fun k a b => by unfold insP; split <;> omega)
theorem remW_ok {W T U : Nat → Int32} {q n : Nat} (hq : q < n) (hn : n ≤ 40) : ∀ p : Nat, p < n - 1 → fill (rlF W (fill (remP q) T 40) U n) W (n - 1) p = remW q W p := by
  intro p hp
  have tv : ∀ k : Nat, k < 40 → k ≠ q → fill (remP q) T 40 k = nI (if k < q then k else k - 1) := by
    intro k hk e
    rw [fill_in hk]
    unfold remP
    by_cases l : k < q
    · simp only [if_pos l]
    · simp only [if_neg l, if_neg e]
  have tq : fill (remP q) T 40 q = -1 := by
    rw [fill_in (by omega)]
    unfold remP
    rw [if_neg (Nat.lt_irrefl q), if_pos rfl]
  rw [fill_in hp]
  unfold remW
  have key : ∀ s : Nat, s < n → s ≠ q → (if s < q then s else s - 1) = p → rlF W (fill (remP q) T 40) U n p = W s := by
    intro s hs hsq e
    refine rl_hit hs (by rw [tv s (by omega) hsq, nI_toInt (by omega)]; omega) (by rw [tv s (by omega) hsq, nI_toInt (by omega)]; omega) (by rw [tv s (by omega) hsq, nI_clamp (by omega)]; exact e) (fun k a b c => ?_)
    by_cases kq : k = q
    · subst kq; rw [tq] at c; exact absurd c (by decide)
    · rw [tv k (by omega) kq, nI_clamp (by split <;> omega)]
      split at e <;> split <;> omega
  by_cases l : p < q
  · rw [if_pos l]; exact key p (by omega) (by omega) (if_pos l)
  · rw [if_neg l]; exact key (p + 1) (by omega) (by omega) (by rw [if_neg (by omega)]; omega)
theorem remP_lo {q i : Nat} (h : i < q) : nI i = remP q i := by unfold remP; rw [if_pos h]
theorem remP_eq {q i : Nat} (h : i = q) : -1 = remP q i := by subst h; unfold remP; rw [if_neg (Nat.lt_irrefl i), if_pos rfl]
theorem remP_hi {q i : Nat} (h : q < i) (hi : i < 2 ^ 31) : nI i - 1 = remP q i := by
  unfold remP; rw [if_neg (by omega), if_neg (by omega)]; exact pk_sub (b := 1) (by omega)
theorem pas_ok {W T U : Nat → Int32} {f k t n : Nat} (h1 : f + k ≤ n) (h2 : t + k ≤ n) (hn : n ≤ 40) : ∀ p : Nat, p < n → fill (rlF W (fill (fun q => nI (pasF f k t q)) T 40) U n) W n p = W (pasF t k f p) := by
  intro p hp
  rw [fill_in hp]
  refine rl_nI (t := pasF f k t) (pas_lt h2 h1 hp) (fun q a b => fill_in (by omega)) (fun q a b => by have := pas_lt h1 h2 b; omega) (pas_inv h1 h2 hp) (fun q a b e => ?_)
  have := pas_inv h2 h1 b
  rw [e] at this
  omega
/-- how many numbers below n have something -/
def cnt (P : Nat → Bool) : Nat → Nat
  | 0 => 0
  | i + 1 => cnt P i + if P i then 1 else 0
theorem cnt_le (P : Nat → Bool) : ∀ n, cnt P n ≤ n
  | 0 => Nat.le_refl 0
  | n + 1 => by have := cnt_le P n; show cnt P n + (if P n then 1 else 0) ≤ n + 1; split <;> omega
theorem cnt_yes {P : Nat → Bool} {i : Nat} (h : P i = true) : nI (cnt P i + 1) = nI (cnt P (i + 1)) := by
  show _ = nI (cnt P i + if P i then 1 else 0); rw [if_pos h]
theorem cnt_no {P : Nat → Bool} {i : Nat} (h : ¬ P i = true) : nI (cnt P i) = nI (cnt P (i + 1)) := by
  show _ = nI (cnt P i + if P i then 1 else 0); rw [if_neg h]; rfl
theorem cnt_cong {P Q : Nat → Bool} : ∀ {n : Nat}, (∀ i, i < n → P i = Q i) → cnt P n = cnt Q n
  | 0, _ => rfl
  | n + 1, h => by show cnt P n + (if P n then 1 else 0) = cnt Q n + (if Q n then 1 else 0); rw [cnt_cong (fun i hi => h i (by omega)), h n (by omega)]
/-- whether v stands among the first i words -/
def seenF (W : Nat → Int32) (v : Int32) : Nat → Bool
  | 0 => false
  | i + 1 => seenF W v i || decide (W i = v)
theorem seen_hit {W : Nat → Int32} {v : Int32} {i : Nat} (h : W i = v) : ∀ {q : Nat}, i < q → seenF W v q = true
  | 0, hq => absurd hq (Nat.not_lt_zero i)
  | q + 1, hq => by
    show (seenF W v q || decide (W q = v)) = true
    by_cases e : i = q
    · subst e; simp [h]
    · rw [seen_hit h (show i < q by omega)]; rfl
theorem seen_no {W : Nat → Int32} {v : Int32} {i : Nat} (h : ¬ W i = v) (h0 : seenF W v i = false) : seenF W v (i + 1) = false := by
  show (seenF W v i || decide (W i = v)) = false
  rw [h0]; simp [h]
theorem seen_cong {W W' : Nat → Int32} {v : Int32} : ∀ {q : Nat}, (∀ i, i < q → W i = W' i) → seenF W v q = seenF W' v q
  | 0, _ => rfl
  | q + 1, h => by show (seenF W v q || decide (W q = v)) = (seenF W' v q || decide (W' q = v)); rw [seen_cong (fun i hi => h i (by omega)), h q (by omega)]
theorem bI_b1 {b : Bool} (h : b = true) : bI b = 1 := by rw [h]; rfl
theorem bI_b0 {b : Bool} (h : b = false) : bI b = 0 := by rw [h]; rfl
theorem bI_bf {b : Bool} (h : bI b = 0) : b = false := by cases b; rfl; exact absurd h (by decide)
theorem bI_bt {b : Bool} (h : ¬ bI b = 0) : b = true := by cases b; exact absurd rfl h; rfl
/-! ANCHORS -/
theorem addsub (a b c : Int32) : a + (b - c) = a + b - c := by
  rw [Int32.sub_eq_add_neg, Int32.sub_eq_add_neg, Int32.add_assoc]
def lookF (n : Nat) (W : Nat → Int32) (p : Int32) (k : Nat) : Int32 := atF n W (p + nI k - 2)
theorem fill_full {f g : Nat → Int32} {n p : Nat} (h : p < n) : fill f g n p = f p := fill_in h
end
section
/-! A STATE: its cells, and what it says of anchors -/
abbrev SD : Type := Nat × Nat × Int32 × (Nat → Int32) × (Nat → Int32) × (Nat → Int32) × (Nat → Int32) × (Nat → Int32) × (Nat → Int32) × (Nat → Nat → Int32)
def AnsAt (cell : Nat → va_E) (adr : Nat → Nat) (kc : Nat → ClassId) (b : Nat) (P V : Nat → Int32) (F : Nat → Nat → Int32) : Prop := ∀ k : Nat, k < 6 → AncAt cell adr kc (b + 7 + 2 * k) (P k) (V k) (F k)
def StAt (cell : Nat → va_E) (adr : Nat → Nat) (kc : Nat → ClassId) (b : Nat) (d : SD) : Prop :=
  cell b = .inr (5, [.ref (adr (b + 1)), .ref (adr (b + 5)), .ref (adr (b + 6)), .int (nI d.2.1), .int d.2.2.1]) ∧ RowAt cell adr kc (b + 1) d.2.2.2.1 d.2.2.2.2.1 d.2.2.2.2.2.1 d.1 ∧ (∃ g : Nat → Option Nat, cell (b + 5) = .inl (kc 2, 6, .inr (.inr (.inr (.inr g)))) ∧ ∀ k, k < 6 → g k = some (adr (b + 7 + 2 * k))) ∧ cell (b + 6) = .inl (kc 0, 5, .inl d.2.2.2.2.2.2.1) ∧ AnsAt cell adr kc b d.2.2.2.2.2.2.2.1 d.2.2.2.2.2.2.2.2.1 d.2.2.2.2.2.2.2.2.2 ∧ d.2.1 ≤ 6
theorem StAt.frame {cell cell1 : Nat → va_E} {adr : Nat → Nat} {kc : Nat → ClassId} {b : Nat} {d : SD} (h : StAt cell adr kc b d) (hf : ∀ j : Nat, b ≤ j → j < b + 19 → cell1 j = cell j) : StAt cell1 adr kc b d := by
  obtain ⟨h0, ⟨r0, r1, r2, r3, hn⟩, ⟨g, h5, hg⟩, h6, hA, hm⟩ := h
  refine ⟨(hf _ (by omega) (by omega)).trans h0, ⟨(hf _ (by omega) (by omega)).trans r0, (hf _ (by omega) (by omega)).trans r1, (hf _ (by omega) (by omega)).trans r2, (hf _ (by omega) (by omega)).trans r3, hn⟩, ⟨g, (hf _ (by omega) (by omega)).trans h5, hg⟩, (hf _ (by omega) (by omega)).trans h6, fun k hk => ⟨(hf _ (by omega) (by omega)).trans (hA k hk).1, (hf _ (by omega) (by omega)).trans (hA k hk).2⟩, hm⟩
theorem AnsAt.frame {cell cell1 : Nat → va_E} {adr : Nat → Nat} {kc : Nat → ClassId} {b : Nat} {P V : Nat → Int32} {F : Nat → Nat → Int32} (h : AnsAt cell adr kc b P V F) (hf : ∀ j : Nat, b + 7 ≤ j → j < b + 19 → cell1 j = cell j) : AnsAt cell1 adr kc b P V F := fun k hk => ⟨(hf _ (by omega) (by omega)).trans (h k hk).1, (hf _ (by omega) (by omega)).trans (h k hk).2⟩
theorem AnsAt.put {cell cell1 : Nat → va_E} {adr : Nat → Nat} {kc : Nat → ClassId} {b i : Nat} {P V P1 V1 : Nat → Int32} {F F1 : Nat → Nat → Int32} (h : AnsAt cell adr kc b P V F) (hi : AncAt cell1 adr kc (b + 7 + 2 * i) (P1 i) (V1 i) (F1 i)) (hf : ∀ j : Nat, (j ≠ b + 7 + 2 * i ∧ j ≠ b + 7 + 2 * i + 1) → cell1 j = cell j) (ho : ∀ k, k < 6 → k ≠ i → P1 k = P k ∧ V1 k = V k ∧ F1 k = F k) : AnsAt cell1 adr kc b P1 V1 F1 := by
  intro k hk
  by_cases e : k = i
  · subst e; exact hi
  · obtain ⟨e1, e2, e3⟩ := ho k hk e
    rw [e1, e2, e3]
    exact ⟨(hf _ ⟨by omega, by omega⟩).trans (h k hk).1, (hf _ ⟨by omega, by omega⟩).trans (h k hk).2⟩
def setF (E : Nat → Int32) (x : Int32) : Int32 := if 0 ≤ x.toInt ∧ x.toInt < 5 then E x.toNatClampNeg else 0
theorem setF_nI {E : Nat → Int32} {i : Nat} (h : i < 5) : setF E (nI i) = E i := by
  unfold setF; rw [nI_toInt (by omega), nI_clamp (by omega), if_pos (by omega)]
theorem setF_3 (E : Nat → Int32) : setF E 3 = E 3 := setF_nI (i := 3) (by omega)
theorem setF_4 (E : Nat → Int32) : setF E 4 = E 4 := setF_nI (i := 4) (by omega)
def wgt (E : Nat → Int32) (k : Nat) : Int32 := E (if k < 2 then 2 - k else k - 2)
theorem setF_abs {E : Nat → Int32} {k : Nat} (h : k < 5) : setF E (if 0 ≤ nI k - 2 then nI k - 2 else 0 - (nI k - 2)) = wgt E k := by
  rcases (show k = 0 ∨ k = 1 ∨ k = 2 ∨ k = 3 ∨ k = 4 by omega) with rfl | rfl | rfl | rfl | rfl
  · rw [show (if 0 ≤ nI 0 - 2 then nI 0 - 2 else 0 - (nI 0 - 2)) = nI 2 by decide, setF_nI (by omega)]; rfl
  · rw [show (if 0 ≤ nI 1 - 2 then nI 1 - 2 else 0 - (nI 1 - 2)) = nI 1 by decide, setF_nI (by omega)]; rfl
  · rw [show (if 0 ≤ nI 2 - 2 then nI 2 - 2 else 0 - (nI 2 - 2)) = nI 0 by decide, setF_nI (by omega)]; rfl
  · rw [show (if 0 ≤ nI 3 - 2 then nI 3 - 2 else 0 - (nI 3 - 2)) = nI 1 by decide, setF_nI (by omega)]; rfl
  · rw [show (if 0 ≤ nI 4 - 2 then nI 4 - 2 else 0 - (nI 4 - 2)) = nI 2 by decide, setF_nI (by omega)]; rfl
/-- the score of an anchor's five things f at a place -/
def scF (n : Nat) (W E f : Nat → Int32) (x : Int32) : Nat → Int32
  | 0 => 0
  | k + 1 => scF n W E f x k + if f k = atF n W (x + nI k - 2) then wgt E k else 0
def scr (n : Nat) (W E f : Nat → Int32) (x : Int32) : Int32 := scF n W E f x 5
theorem scF_yes {n : Nat} {W E f : Nat → Int32} {x : Int32} {k : Nat} (h : f k = atF n W (x + nI k - 2)) : scF n W E f x k + wgt E k = scF n W E f x (k + 1) := by
  show _ = scF n W E f x k + if _ then _ else _; rw [if_pos h]
theorem scF_no {n : Nat} {W E f : Nat → Int32} {x : Int32} {k : Nat} (h : ¬ f k = atF n W (x + nI k - 2)) : scF n W E f x k = scF n W E f x (k + 1) := by
  show _ = scF n W E f x k + if _ then _ else _; rw [if_neg h, Int32.add_zero]
def absI (x : Int32) : Int32 := if 0 ≤ x then x else 0 - x
/-- the best place but x, its score and its distance, among the first i places -/
def bstF (n : Nat) (W E f : Nat → Int32) (p x : Int32) : Nat → Int32 × Int32 × Int32
  | 0 => (-1, 0, 0)
  | i + 1 => if ¬ nI i = x ∧ ((bstF n W E f p x i).1 = -1 ∨ (bstF n W E f p x i).2.1 < scr n W E f (nI i) ∨ (scr n W E f (nI i) = (bstF n W E f p x i).2.1 ∧ ¬ (bstF n W E f p x i).2.2 ≤ absI (nI i - p))) then (nI i, scr n W E f (nI i), absI (nI i - p)) else bstF n W E f p x i
def bpF (n : Nat) (W E f : Nat → Int32) (p x : Int32) : Int32 := (bstF n W E f p x n).1
def lostF (n : Nat) (W E f : Nat → Int32) (x : Int32) : Bool := decide (x = -1) || decide (scr n W E f x < E 3)
theorem lost_t {n : Nat} {W E f : Nat → Int32} {x : Int32} (h : x = -1 ∨ ¬ E 3 ≤ scr n W E f x) : lostF n W E f x = true := by
  unfold lostF
  rcases h with h | h
  · simp [h]
  · have : scr n W E f x < E 3 := Int32.not_le.mp h
    simp [this]
theorem lost_f {n : Nat} {W E f : Nat → Int32} {x : Int32} (h1 : ¬ x = -1) (h2 : E 3 ≤ scr n W E f x) : lostF n W E f x = false := by
  unfold lostF
  have : ¬ scr n W E f x < E 3 := Int32.not_lt.mpr h2
  simp [h1, this]
def standF (n : Nat) (W E f : Nat → Int32) (p : Int32) : Int32 := if lostF n W E f (bpF n W E f p (-1)) = true then 2 else if ¬ bpF n W E f p (bpF n W E f p (-1)) = -1 ∧ ¬ scr n W E f (bpF n W E f p (bpF n W E f p (-1))) < scr n W E f (bpF n W E f p (-1)) - E 4 then 1 else 0
def shiftF (n : Nat) (W E f : Nat → Int32) (p : Int32) : Int32 := if lostF n W E f (bpF n W E f p (-1)) = true then 0 else bpF n W E f p (-1) - p
def kindF (n : Nat) (W E f : Nat → Int32) (p v x : Int32) : Bool := if x = 2 then lostF n W E f (bpF n W E f p (-1)) else if x = 3 then decide (¬ v = -1 ∧ v = bpF n W E f p (-1)) else if x = 4 then decide (v = -1) else if x = 5 then decide (¬ v = -1 ∧ lostF n W E f (bpF n W E f p (-1)) = true) else decide (standF n W E f p = x)
/-- the first i anchors of a kind, as bits -/
def kndF (n : Nat) (W E P V : Nat → Int32) (F : Nat → Nat → Int32) (x : Int32) : Nat → Int32
  | 0 => 0
  | i + 1 => if kindF n W E (F i) (P i) (V i) x = true then kndF n W E P V F x i ||| ((1 : Int32) <<< (nI i &&& 31)) else kndF n W E P V F x i
def updF (F : Nat → Nat → Int32) (i : Nat) (g : Nat → Int32) : Nat → Nat → Int32 := fun k => if k = i then g else F k
def fillF (G H : Nat → Nat → Int32) (i : Nat) : Nat → Nat → Int32 := fun k => if k < i then G k else H k
/-- anchors behind q come one down, so far as those below i stood -/
def dn (q i : Nat) (P : Nat → Int32) : Nat → Int32 := fun k => if q ≤ k ∧ k + 1 < i then P (k + 1) else P k
def dnF (q i : Nat) (F : Nat → Nat → Int32) : Nat → Nat → Int32 := fun k => if q ≤ k ∧ k + 1 < i then fill (F (k + 1)) (F k) 5 else F k
theorem dn_0 {q : Nat} {P : Nat → Int32} : P = dn q (q + 1) P := by funext k; unfold dn; rw [if_neg (by omega)]
theorem dnF_0 {q : Nat} {F : Nat → Nat → Int32} : F = dnF q (q + 1) F := by funext k; unfold dnF; rw [if_neg (by omega)]
theorem dn_hi {q i : Nat} {P : Nat → Int32} {k : Nat} (h : i ≤ k + 1) : dn q i P k = P k := if_neg (by omega)
theorem dnF_hi {q i : Nat} {F : Nat → Nat → Int32} {k : Nat} (h : i ≤ k + 1) : dnF q i F k = F k := if_neg (by omega)
end
section
/-! THE TEXT -/
def TxAt (cell : Nat → va_E) (adr : Nat → Nat) (kc : Nat → ClassId) (t L : Nat) (sx nx sg : Int32) (ch nu : Nat → Int32) : Prop := cell t = .inr (2, [.ref (adr (t + 1)), .ref (adr (t + 2)), .int (nI L), .int sx, .int nx, .int sg]) ∧ cell (t + 1) = .inl (kc 1, 60, .inl ch) ∧ cell (t + 2) = .inl (kc 0, 3, .inl nu) ∧ L ≤ 60
def isC (v : Int32) : Prop := ∃ q : Nat, q < 127 ∧ v = nI q
theorem isC_n {v : Int32} (h : isC v) : narrow .char (.int v) = .int v := by obtain ⟨q, h1, rfl⟩ := h; exact (pk_charN (by omega)).1
theorem isC_f {v : Int32} (h : isC v) : fits .char (.int v) = true := by obtain ⟨q, h1, rfl⟩ := h; exact (pk_charN (by omega)).2
theorem isC_p {v : Int32} (h : isC v) : vp_nar .char v = v := by unfold vp_nar; rw [isC_n h]
theorem isC_0 : isC 0 := ⟨0, by omega, rfl⟩
def chF (L : Nat) (ch : Nat → Int32) (a : Nat) : Int32 := if a < L then ch a else 0
theorem isC_ch {L : Nat} {ch : Nat → Int32} (h : ∀ j : Nat, j < L → isC (ch j)) (a : Nat) : isC (chF L ch a) := by
  unfold chF; split
  · exact h a (by assumption)
  · exact isC_0
abbrev isD (c : Int32) : Prop := 48 ≤ c.toInt ∧ c.toInt ≤ 57
/-- how many digits stand at a place, two at most, and what they say -/
def numC (L : Nat) (ch : Nat → Int32) (a : Nat) : Nat := if ¬ isD (chF L ch a) then 0 else if ¬ isD (chF L ch (a + 1)) then 1 else 2
def numV (L : Nat) (ch : Nat → Int32) (a : Nat) : Nat → Int32
  | 0 => 0
  | k + 1 => numV L ch a k * 10 + (chF L ch (a + k) - 48)
theorem numC_of {L : Nat} {ch : Nat → Int32} {a i : Nat} (hi : i ≤ 2) (h : ∀ j : Nat, j < i → isD (chF L ch (a + j))) (hs : i = 2 ∨ ¬ isD (chF L ch (a + i))) : numC L ch a = i := by
  unfold numC
  rcases (show i = 0 ∨ i = 1 ∨ i = 2 by omega) with rfl | rfl | rfl
  · rcases hs with h2 | h2
    · omega
    · exact if_pos h2
  · have h0 := h 0 (by omega)
    rw [if_neg (by simpa using h0)]
    rcases hs with h2 | h2
    · omega
    · rw [if_pos h2]
  · have h0 := h 0 (by omega)
    have h1 := h 1 (by omega)
    rw [if_neg (by simpa using h0), if_neg (by simpa using h1)]
theorem numC_le (L : Nat) (ch : Nat → Int32) (a : Nat) : numC L ch a ≤ 2 := by unfold numC; (repeat' split) <;> omega
def dueN (c : Int32) : Nat := if c = 43 then 2 else if c = 45 then 1 else if c = 61 then 2 else if c = 62 then 3 else 0
theorem dueN_le (c : Int32) : dueN c ≤ 3 := by unfold dueN; (repeat' split) <;> omega
/-- where a number begins, and the place behind it -/
def nbg (k q : Nat) : Nat := if k = 0 then q else q + 1
def pstep (L : Nat) (ch : Nat → Int32) (k q : Nat) : Option Nat := if (¬ k = 0 ∧ ¬ chF L ch q = 44) ∨ numC L ch (nbg k q) = 0 then none else some (nbg k q + numC L ch (nbg k q))
def pnF (L : Nat) (ch : Nat → Int32) (a : Nat) : Nat → Option Nat
  | 0 => some a
  | k + 1 => (pnF L ch a k).bind (pstep L ch k)
def nvF (L : Nat) (ch : Nat → Int32) (a k : Nat) : Int32 := match pnF L ch a k with
  | none => 0
  | some q => numV L ch (nbg k q) (numC L ch (nbg k q))
theorem nvF_s {L : Nat} {ch : Nat → Int32} {a k q : Nat} (h : pnF L ch a k = some q) : nvF L ch a k = numV L ch (nbg k q) (numC L ch (nbg k q)) := by unfold nvF; rw [h]
theorem pn_s {L : Nat} {ch : Nat → Int32} {a k q : Nat} (h : pnF L ch a k = some q) : pnF L ch a (k + 1) = pstep L ch k q := by show (pnF L ch a k).bind _ = _; rw [h]; rfl
/-- the place behind an edit that begins at a, if it is of the form -/
def edF (L : Nat) (ch : Nat → Int32) (a : Nat) : Option Nat := if dueN (chF L ch a) = 0 then none else (pnF L ch (a + 1) (dueN (chF L ch a))).bind (fun q => if chF L ch q = 59 then some (q + 1) else none)
/-- what an edit's reading leaves: its sign, where it ends, its numbers -/
theorem ed_none {L : Nat} {ch : Nat → Int32} {a : Nat} (h : dueN (chF L ch a) = 0) : edF L ch a = none := if_pos h
theorem pn_none {L : Nat} {ch : Nat → Int32} {a : Nat} : ∀ {k m : Nat}, k ≤ m → pnF L ch a k = none → pnF L ch a m = none := by
  intro k m
  induction m with
  | zero => intro h h0; rw [show k = 0 by omega] at h0; exact h0
  | succ m ih =>
    intro h h0
    by_cases e : k = m + 1
    · rw [← e]; exact h0
    · show (pnF L ch a m).bind _ = none
      rw [ih (by omega) h0]; rfl
theorem ed_pn {L : Nat} {ch : Nat → Int32} {a k : Nat} (hk : k ≤ dueN (chF L ch a)) (h : pnF L ch (a + 1) k = none) : edF L ch a = none := by
  unfold edF; split
  · rfl
  · rw [pn_none hk h]; rfl
theorem ed_some {L : Nat} {ch : Nat → Int32} {a q : Nat} (h0 : ¬ dueN (chF L ch a) = 0) (h : pnF L ch (a + 1) (dueN (chF L ch a)) = some q) : edF L ch a = if chF L ch q = 59 then some (q + 1) else none := by
  unfold edF; rw [if_neg h0, h]; rfl
end
section
/-! STATES UP TO WHAT NOBODY SEES, and what the calls do to them -/
def Eqv (d σ : SD) : Prop := d.1 = σ.1 ∧ d.2.1 = σ.2.1 ∧ d.2.2.1 = σ.2.2.1 ∧ (∀ p, p < σ.1 → d.2.2.2.1 p = σ.2.2.2.1 p) ∧ (∀ k, k < 5 → d.2.2.2.2.2.2.1 k = σ.2.2.2.2.2.2.1 k) ∧ ∀ k, k < σ.2.1 → d.2.2.2.2.2.2.2.1 k = σ.2.2.2.2.2.2.2.1 k ∧ d.2.2.2.2.2.2.2.2.1 k = σ.2.2.2.2.2.2.2.2.1 k ∧ ∀ j, j < 5 → d.2.2.2.2.2.2.2.2.2 k j = σ.2.2.2.2.2.2.2.2.2 k j
def Good (σ : SD) : Prop := σ.1 ≤ 40 ∧ σ.2.1 ≤ 6 ∧ (∀ p, p < σ.1 → 0 ≤ (σ.2.2.2.1 p).toInt ∧ (σ.2.2.2.1 p).toInt ≤ 99) ∧ (∀ k, k < 3 → 0 ≤ (σ.2.2.2.2.2.2.1 k).toInt ∧ (σ.2.2.2.2.2.2.1 k).toInt ≤ 20) ∧ ∀ k, k < σ.2.1 → (0 ≤ (σ.2.2.2.2.2.2.2.1 k).toInt ∧ (σ.2.2.2.2.2.2.2.1 k).toInt ≤ 39) ∧ (-1 ≤ (σ.2.2.2.2.2.2.2.2.1 k).toInt ∧ (σ.2.2.2.2.2.2.2.2.1 k).toInt < σ.1) ∧ ∀ j, j < 5 → -1 ≤ (σ.2.2.2.2.2.2.2.2.2 k j).toInt ∧ (σ.2.2.2.2.2.2.2.2.2 k j).toInt ≤ 99
theorem Eqv.rf (σ : SD) : Eqv σ σ := ⟨rfl, rfl, rfl, fun _ _ => rfl, fun _ _ => rfl, fun _ _ => ⟨rfl, rfl, fun _ _ => rfl⟩⟩
theorem Eqv.tr {a b c : SD} (h : Eqv a b) (k : Eqv b c) : Eqv a c := by
  obtain ⟨h1, h2, h3, h4, h5, h6⟩ := h
  obtain ⟨k1, k2, k3, k4, k5, k6⟩ := k
  refine ⟨h1.trans k1, h2.trans k2, h3.trans k3, fun p hp => (h4 p (by omega)).trans (k4 p hp), fun j hj => (h5 j hj).trans (k5 j hj), fun i hi => ?_⟩
  obtain ⟨a1, a2, a3⟩ := h6 i (by omega)
  obtain ⟨b1, b2, b3⟩ := k6 i hi
  exact ⟨a1.trans b1, a2.trans b2, fun j hj => (a3 j hj).trans (b3 j hj)⟩
def folV (tp : Nat → Int32) (v : Int32) : Int32 := if v.toInt < 0 then -1 else tp v.toNatClampNeg
def stepD (n1 : Nat) (W1 tp : Nat → Int32) (σ : SD) : SD := (n1, σ.2.1, σ.2.2.1 + 1, W1, σ.2.2.2.2.1, σ.2.2.2.2.2.1, σ.2.2.2.2.2.2.1, σ.2.2.2.2.2.2.2.1, fun k => folV tp (σ.2.2.2.2.2.2.2.2.1 k), σ.2.2.2.2.2.2.2.2.2)
def insD (q : Nat) (w : Int32) (σ : SD) : SD := stepD (σ.1 + 1) (insW q w σ.2.2.2.1) (fun p => nI (insP q p)) σ
def remD (q : Nat) (σ : SD) : SD := stepD (σ.1 - 1) (remW q σ.2.2.2.1) (remP q) σ
def chgD (q : Nat) (w : Int32) (σ : SD) : SD := stepD σ.1 (upd σ.2.2.2.1 q w) (fun p => if p = q then -1 else nI p) σ
def movD (f k t : Nat) (σ : SD) : SD := stepD σ.1 (fun p => σ.2.2.2.1 (pasF t k f p)) (fun p => nI (pasF f k t p)) σ
theorem step_eqv {n m n1 : Nat} {ed : Int32} {W T U E P V W1 T1 U1 W2 tp : Nat → Int32} {F : Nat → Nat → Int32} {σ : SD} (h : Eqv (n, m, ed, W, T, U, E, P, V, F) σ) (hg : Good σ) (hW : ∀ p, p < n1 → W1 p = W2 p) (hT : ∀ p, p < 40 → T1 p = tp p) : Eqv (n1, m, ed + 1, W1, T1, U1, E, P, fill (fun k => atF 40 T1 (V k)) V m, F) (stepD n1 W2 tp σ) := by
  obtain ⟨h1, h2, h3, h4, h5, h6⟩ := h
  have h2' : m = σ.2.1 := h2
  have h3' : ed = σ.2.2.1 := h3
  refine ⟨rfl, h2, by show ed + 1 = _ + 1; rw [h3'], hW, h5, fun k hk => ?_⟩
  have hk' : k < σ.2.1 := hk
  obtain ⟨a1, a2, a3⟩ := h6 k hk'
  refine ⟨a1, ?_, a3⟩
  obtain ⟨-, ⟨g1, g2⟩, -⟩ := hg.2.2.2.2 k hk'
  have hn := hg.1
  show fill (fun k => atF 40 T1 (V k)) V m k = folV tp (σ.2.2.2.2.2.2.2.2.1 k)
  rw [fill_in (by omega)]
  show atF 40 T1 (V k) = _
  rw [show V k = σ.2.2.2.2.2.2.2.2.1 k from a2]
  unfold atF folV
  by_cases c : (σ.2.2.2.2.2.2.2.2.1 k).toInt < 0
  · rw [if_neg (by omega), if_pos c]
  · rw [if_pos (by omega), if_neg c]
    exact hT _ (by have := cl_toInt (x := σ.2.2.2.2.2.2.2.2.1 k) (by omega); omega)
def addD (x : Int32) (σ : SD) : SD := (σ.1, σ.2.1 + 1, σ.2.2.1, σ.2.2.2.1, σ.2.2.2.2.1, σ.2.2.2.2.2.1, σ.2.2.2.2.2.2.1, upd σ.2.2.2.2.2.2.2.1 σ.2.1 x, upd σ.2.2.2.2.2.2.2.2.1 σ.2.1 x, updF σ.2.2.2.2.2.2.2.2.2 σ.2.1 (lookF σ.1 σ.2.2.2.1 x))
def drpP (q : Nat) (P : Nat → Int32) : Nat → Int32 := fun k => if q ≤ k then P (k + 1) else P k
def dropD (q : Nat) (σ : SD) : SD := (σ.1, σ.2.1 - 1, σ.2.2.1, σ.2.2.2.1, σ.2.2.2.2.1, σ.2.2.2.2.2.1, σ.2.2.2.2.2.2.1, drpP q σ.2.2.2.2.2.2.2.1, drpP q σ.2.2.2.2.2.2.2.2.1, fun k => if q ≤ k then σ.2.2.2.2.2.2.2.2.2 (k + 1) else σ.2.2.2.2.2.2.2.2.2 k)
def setD (q : Nat) (x : Int32) (σ : SD) : SD := (σ.1, σ.2.1, σ.2.2.1, σ.2.2.2.1, σ.2.2.2.2.1, σ.2.2.2.2.2.1, upd σ.2.2.2.2.2.2.1 q x, σ.2.2.2.2.2.2.2.1, σ.2.2.2.2.2.2.2.2.1, σ.2.2.2.2.2.2.2.2.2)
def goD (a : Nat) (x : Int32) (σ : SD) : SD := (σ.1, σ.2.1, σ.2.2.1, σ.2.2.2.1, σ.2.2.2.2.1, σ.2.2.2.2.2.1, σ.2.2.2.2.2.2.1, upd σ.2.2.2.2.2.2.2.1 a x, σ.2.2.2.2.2.2.2.2.1, σ.2.2.2.2.2.2.2.2.2)
def remembD (a : Nat) (σ : SD) : SD := (σ.1, σ.2.1, σ.2.2.1, σ.2.2.2.1, σ.2.2.2.2.1, σ.2.2.2.2.2.1, σ.2.2.2.2.2.2.1, σ.2.2.2.2.2.2.2.1, upd σ.2.2.2.2.2.2.2.2.1 a (σ.2.2.2.2.2.2.2.1 a), updF σ.2.2.2.2.2.2.2.2.2 a (lookF σ.1 σ.2.2.2.1 (σ.2.2.2.2.2.2.2.1 a)))
theorem atF_cong {n : Nat} {W W' : Nat → Int32} (h : ∀ p, p < n → W p = W' p) (x : Int32) : atF n W x = atF n W' x := by
  unfold atF
  by_cases c : 0 ≤ x.toInt ∧ x.toInt < n
  · rw [if_pos c, if_pos c]; exact h _ (by have := cl_toInt (x := x) (by omega); omega)
  · rw [if_neg c, if_neg c]
theorem MV.mono {l : Launch} {y : MethodName} {ws : List Cond} {rm : Room} {D : va_G} {kc : Nat → ClassId} {N : Nat} {adr : Nat → Nat} {cell : Nat → va_E} {av : List Value} {post post' : (Nat → va_E) → Prop} (h : MV l y ws rm D kc N adr cell av post) (hp : ∀ cell1, post cell1 → post' cell1) : MV l y ws rm D kc N adr cell av post' := by
  intro sz p e ha hc hk s m args below hf happ hP hK
  obtain ⟨n, o, h1, h2, h3, ⟨⟨u, a1, a2, a3⟩, a4⟩, h5⟩ := h sz p e ha hc hk s m args below hf happ hP hK
  exact ⟨n, o, h1, h2, h3, ⟨⟨u, a1, hp u a2, a3⟩, a4⟩, h5⟩
theorem MI.mono {l : Launch} {y : MethodName} {ws : List Cond} {rm : Room} {D : va_G} {kc : Nat → ClassId} {N : Nat} {adr : Nat → Nat} {cell : Nat → va_E} {av : List Value} {post post' : Int32 → (Nat → va_E) → Prop} (h : MI l y ws rm D kc N adr cell av post) (hp : ∀ r cell1, post r cell1 → post' r cell1) : MI l y ws rm D kc N adr cell av post' := by
  intro sz p e ha hc hk s m args below hf happ hP hK
  obtain ⟨n, o, h1, h2, h3, ⟨⟨r, u, a1, a2, a3⟩, a4⟩, h5⟩ := h sz p e ha hc hk s m args below hf happ hP hK
  exact ⟨n, o, h1, h2, h3, ⟨⟨r, u, a1, hp r u a2, a3⟩, a4⟩, h5⟩
/-- what a call left: another state, that stands for f of what the old one stood for -/
def StNew (cell cell1 : Nat → va_E) (adr : Nat → Nat) (kc : Nat → ClassId) (b : Nat) (d : SD) (f : SD → SD) : Prop := ∃ d1 : SD, StAt cell1 adr kc b d1 ∧ (∀ σ : SD, Eqv d σ → Good σ → Eqv d1 (f σ)) ∧ ∀ j : Nat, (j < b ∨ b + 19 ≤ j) → cell1 j = cell j
theorem ins_new {cell cell1 : Nat → va_E} {adr : Nat → Nat} {kc : Nat → ClassId} {b n m q : Nat} {w ed : Int32} {W T U E P V : Nat → Int32} {F : Nat → Nat → Int32} (hq : q ≤ n) (h : ∃ W1 T1 U1 : Nat → Int32, StAt cell1 adr kc b (n + 1, m, ed + 1, W1, T1, U1, E, P, fill (fun k => atF 40 T1 (V k)) V m, F) ∧ (∀ p : Nat, p < n + 1 → W1 p = insW q w W p) ∧ (∀ p : Nat, p < 40 → T1 p = nI (insP q p)) ∧ ∀ j : Nat, (j < b ∨ b + 19 ≤ j) → cell1 j = cell j) : StNew cell cell1 adr kc b (n, m, ed, W, T, U, E, P, V, F) (insD q w) := by
  obtain ⟨W1, T1, U1, h1, h2, h3, h4⟩ := h
  refine ⟨_, h1, fun σ he hg => ?_, h4⟩
  have e1 : n = σ.1 := he.1
  subst e1
  refine step_eqv he hg (fun p hp => ?_) h3
  rw [h2 p hp]
  have hw := he.2.2.2.1
  unfold insW
  by_cases c1 : p < q
  · rw [if_pos c1, if_pos c1]; exact hw p (by omega)
  · rw [if_neg c1, if_neg c1]
    by_cases c2 : p = q
    · rw [if_pos c2, if_pos c2]
    · rw [if_neg c2, if_neg c2]; exact hw (p - 1) (by omega)
theorem rem_new {cell cell1 : Nat → va_E} {adr : Nat → Nat} {kc : Nat → ClassId} {b n m q : Nat} {ed : Int32} {W T U E P V : Nat → Int32} {F : Nat → Nat → Int32} (hq : q < n) (h : ∃ W1 T1 U1 : Nat → Int32, StAt cell1 adr kc b (n - 1, m, ed + 1, W1, T1, U1, E, P, fill (fun k => atF 40 T1 (V k)) V m, F) ∧ (∀ p : Nat, p < n - 1 → W1 p = remW q W p) ∧ (∀ p : Nat, p < 40 → T1 p = remP q p) ∧ ∀ j : Nat, (j < b ∨ b + 19 ≤ j) → cell1 j = cell j) : StNew cell cell1 adr kc b (n, m, ed, W, T, U, E, P, V, F) (remD q) := by
  obtain ⟨W1, T1, U1, h1, h2, h3, h4⟩ := h
  refine ⟨_, h1, fun σ he hg => ?_, h4⟩
  have e1 : n = σ.1 := he.1
  subst e1
  refine step_eqv he hg (fun p hp => ?_) h3
  rw [h2 p hp]
  have hw := he.2.2.2.1
  unfold remW
  by_cases c1 : p < q
  · rw [if_pos c1, if_pos c1]; exact hw p (by omega)
  · rw [if_neg c1, if_neg c1]; exact hw (p + 1) (by omega)
theorem chg_new {cell cell1 : Nat → va_E} {adr : Nat → Nat} {kc : Nat → ClassId} {b n m q : Nat} {w ed : Int32} {W T U E P V : Nat → Int32} {F : Nat → Nat → Int32} (h : ∃ W1 T1 U1 : Nat → Int32, StAt cell1 adr kc b (n, m, ed + 1, W1, T1, U1, E, P, fill (fun k => atF 40 T1 (V k)) V m, F) ∧ (∀ p : Nat, p < n → W1 p = upd W q w p) ∧ (∀ p : Nat, p < 40 → T1 p = (if p = q then -1 else nI p)) ∧ ∀ j : Nat, (j < b ∨ b + 19 ≤ j) → cell1 j = cell j) : StNew cell cell1 adr kc b (n, m, ed, W, T, U, E, P, V, F) (chgD q w) := by
  obtain ⟨W1, T1, U1, h1, h2, h3, h4⟩ := h
  refine ⟨_, h1, fun σ he hg => ?_, h4⟩
  have e1 : n = σ.1 := he.1
  subst e1
  refine step_eqv he hg (fun p hp => ?_) h3
  rw [h2 p hp]
  have hw := he.2.2.2.1
  by_cases c1 : p = q
  · rw [c1, upd_s, upd_s]
  · rw [upd_n c1, upd_n c1]; exact hw p hp
theorem mov_new {cell cell1 : Nat → va_E} {adr : Nat → Nat} {kc : Nat → ClassId} {b n m f k t : Nat} {ed : Int32} {W T U E P V : Nat → Int32} {F : Nat → Nat → Int32} (hq : f + k ≤ n ∧ t + k ≤ n) (h : ∃ W1 T1 U1 : Nat → Int32, StAt cell1 adr kc b (n, m, ed + 1, W1, T1, U1, E, P, fill (fun k => atF 40 T1 (V k)) V m, F) ∧ (∀ p : Nat, p < n → W1 p = W (pasF t k f p)) ∧ (∀ p : Nat, p < 40 → T1 p = nI (pasF f k t p)) ∧ ∀ j : Nat, (j < b ∨ b + 19 ≤ j) → cell1 j = cell j) : StNew cell cell1 adr kc b (n, m, ed, W, T, U, E, P, V, F) (movD f k t) := by
  obtain ⟨W1, T1, U1, h1, h2, h3, h4⟩ := h
  refine ⟨_, h1, fun σ he hg => ?_, h4⟩
  have e1 : n = σ.1 := he.1
  subst e1
  refine step_eqv he hg (fun p hp => ?_) h3
  rw [h2 p hp]
  exact he.2.2.2.1 _ (pas_lt hq.2 hq.1 hp)
theorem add_eqv {d σ : SD} {x : Int32} (he : Eqv d σ) : Eqv (d.1, d.2.1 + 1, d.2.2.1, d.2.2.2.1, d.2.2.2.2.1, d.2.2.2.2.2.1, d.2.2.2.2.2.2.1, upd d.2.2.2.2.2.2.2.1 d.2.1 x, upd d.2.2.2.2.2.2.2.2.1 d.2.1 x, updF d.2.2.2.2.2.2.2.2.2 d.2.1 (fill (lookF d.1 d.2.2.2.1 x) (d.2.2.2.2.2.2.2.2.2 d.2.1) 5)) (addD x σ) := by
  obtain ⟨h1, h2, h3, h4, h5, h6⟩ := he
  refine ⟨h1, by show d.2.1 + 1 = σ.2.1 + 1; rw [h2], h3, h4, h5, fun k hk => ?_⟩
  have hk' : k < σ.2.1 + 1 := hk
  show upd _ d.2.1 x k = upd _ σ.2.1 x k ∧ upd _ d.2.1 x k = upd _ σ.2.1 x k ∧ ∀ j, j < 5 → updF _ d.2.1 _ k j = updF _ σ.2.1 _ k j
  rw [h2]
  by_cases c : k = σ.2.1
  · subst c
    refine ⟨by rw [upd_s, upd_s], by rw [upd_s, upd_s], fun j hj => ?_⟩
    unfold updF
    rw [if_pos rfl, if_pos rfl, fill_in hj]
    unfold lookF
    rw [h1]
    exact atF_cong h4 _
  · obtain ⟨a1, a2, a3⟩ := h6 k (by omega)
    refine ⟨by rw [upd_n c, upd_n c]; exact a1, by rw [upd_n c, upd_n c]; exact a2, fun j hj => ?_⟩
    unfold updF
    rw [if_neg c, if_neg c]
    exact a3 j hj
theorem drop_eqv {d σ : SD} {q : Nat} (hq : q < d.2.1) (he : Eqv d σ) : Eqv (d.1, d.2.1 - 1, d.2.2.1, d.2.2.2.1, d.2.2.2.2.1, d.2.2.2.2.2.1, d.2.2.2.2.2.2.1, dn q d.2.1 d.2.2.2.2.2.2.2.1, dn q d.2.1 d.2.2.2.2.2.2.2.2.1, dnF q d.2.1 d.2.2.2.2.2.2.2.2.2) (dropD q σ) := by
  obtain ⟨h1, h2, h3, h4, h5, h6⟩ := he
  refine ⟨h1, by show d.2.1 - 1 = σ.2.1 - 1; rw [h2], h3, h4, h5, fun k hk => ?_⟩
  have hk' : k < σ.2.1 - 1 := hk
  show dn q d.2.1 d.2.2.2.2.2.2.2.1 k = drpP q σ.2.2.2.2.2.2.2.1 k ∧ dn q d.2.1 d.2.2.2.2.2.2.2.2.1 k = drpP q σ.2.2.2.2.2.2.2.2.1 k ∧ ∀ j, j < 5 → dnF q d.2.1 d.2.2.2.2.2.2.2.2.2 k j = (if q ≤ k then σ.2.2.2.2.2.2.2.2.2 (k + 1) else σ.2.2.2.2.2.2.2.2.2 k) j
  unfold dn dnF drpP
  by_cases c : q ≤ k
  · obtain ⟨a1, a2, a3⟩ := h6 (k + 1) (by omega)
    simp only [if_pos c, if_pos (show q ≤ k ∧ k + 1 < d.2.1 from by omega)]
    exact ⟨a1, a2, fun j hj => by rw [fill_in hj]; exact a3 j hj⟩
  · obtain ⟨a1, a2, a3⟩ := h6 k (by omega)
    simp only [if_neg c, if_neg (show ¬ (q ≤ k ∧ k + 1 < d.2.1) from by omega)]
    exact ⟨a1, a2, a3⟩
theorem set_eqv {d σ : SD} {q : Nat} {x : Int32} (he : Eqv d σ) : Eqv (d.1, d.2.1, d.2.2.1, d.2.2.2.1, d.2.2.2.2.1, d.2.2.2.2.2.1, upd d.2.2.2.2.2.2.1 q x, d.2.2.2.2.2.2.2.1, d.2.2.2.2.2.2.2.2.1, d.2.2.2.2.2.2.2.2.2) (setD q x σ) := by
  obtain ⟨h1, h2, h3, h4, h5, h6⟩ := he
  refine ⟨h1, h2, h3, h4, fun k hk => ?_, h6⟩
  show upd _ q x k = upd _ q x k
  by_cases c : k = q
  · rw [c, upd_s, upd_s]
  · rw [upd_n c, upd_n c]; exact h5 k hk
theorem cp_eqv {d d2 : SD} (hn : d2.1 ≤ 40) (hm : d2.2.1 ≤ 6) : Eqv (d2.1, d2.2.1, d2.2.2.1, fill (fun p => atF d2.1 d2.2.2.2.1 (nI p)) d.2.2.2.1 40, d.2.2.2.2.1, d.2.2.2.2.2.1, fill d2.2.2.2.2.2.2.1 d.2.2.2.2.2.2.1 5, fill d2.2.2.2.2.2.2.2.1 d.2.2.2.2.2.2.2.1 d2.2.1, fill d2.2.2.2.2.2.2.2.2.1 d.2.2.2.2.2.2.2.2.1 d2.2.1, fillF (fun k => fill (d2.2.2.2.2.2.2.2.2.2 k) (d.2.2.2.2.2.2.2.2.2 k) 5) d.2.2.2.2.2.2.2.2.2 d2.2.1) d2 := by
  refine ⟨rfl, rfl, rfl, fun p hp => ?_, fun k hk => fill_in hk, fun k hk => ⟨fill_in hk, fill_in hk, fun j hj => ?_⟩⟩
  · show fill (fun p => atF d2.1 d2.2.2.2.1 (nI p)) d.2.2.2.1 40 p = d2.2.2.2.1 p
    rw [fill_in (Nat.lt_of_lt_of_le hp hn)]; exact atF_nI hp (by omega)
  have e : fillF (fun k => fill (d2.2.2.2.2.2.2.2.2.2 k) (d.2.2.2.2.2.2.2.2.2 k) 5) d.2.2.2.2.2.2.2.2.2 d2.2.1 k = fill (d2.2.2.2.2.2.2.2.2.2 k) (d.2.2.2.2.2.2.2.2.2 k) 5 := if_pos hk
  exact (congrFun e j).trans (fill_in hj)
end
section
/-! EDITS OF A TEXT -/
abbrev CSh (n : Nat) (f k t : Int32) : Prop := 0 ≤ f.toInt ∧ f.toInt < n ∧ 1 ≤ k.toInt ∧ k.toInt ≤ n - f.toInt ∧ 0 ≤ t.toInt ∧ t.toInt ≤ n - k.toInt
def fltF (n : Nat) (sg p k t : Int32) : Int32 := if sg = 43 then (if 0 ≤ p.toInt ∧ p.toInt ≤ n then (if 40 ≤ n then 3 else 0) else 2) else if sg = 62 then (if CSh n p k t then 0 else 2) else (if 0 ≤ p.toInt ∧ p.toInt < n then 0 else 2)
theorem flt_43 {n : Nat} {sg p k t : Int32} (h : fltF n sg p k t = 0) (e : sg = 43) : 0 ≤ p.toInt ∧ p.toInt ≤ n ∧ n < 40 := by
  unfold fltF at h; rw [if_pos e] at h
  by_cases c : 0 ≤ p.toInt ∧ p.toInt ≤ n
  · rw [if_pos c] at h
    by_cases c2 : 40 ≤ n
    · rw [if_pos c2] at h; exact absurd h (by decide)
    · omega
  · rw [if_neg c] at h; exact absurd h (by decide)
theorem flt_62 {n : Nat} {sg p k t : Int32} (h : fltF n sg p k t = 0) (e : sg = 62) : CSh n p k t := by
  unfold fltF at h; rw [if_neg (by rw [e]; decide), if_pos e] at h
  by_cases c : CSh n p k t
  · exact c
  · rw [if_neg c] at h; exact absurd h (by decide)
theorem flt_o {n : Nat} {sg p k t : Int32} (h : fltF n sg p k t = 0) (e1 : ¬ sg = 43) (e2 : ¬ sg = 62) : 0 ≤ p.toInt ∧ p.toInt < n := by
  unfold fltF at h; rw [if_neg e1, if_neg e2] at h
  by_cases c : 0 ≤ p.toInt ∧ p.toInt < n
  · exact c
  · rw [if_neg c] at h; exact absurd h (by decide)
def apD (sg p k t : Int32) (σ : SD) : SD := if sg = 43 then insD p.toNatClampNeg k σ else if sg = 45 then remD p.toNatClampNeg σ else if sg = 61 then chgD p.toNatClampNeg k σ else movD p.toNatClampNeg k.toNatClampNeg t.toNatClampNeg σ
end
section
/-! THE HISTORY, THE BLOCKS -/
def HsSt (cell : Nat → va_E) (adr : Nat → Nat) (kc : Nat → ClassId) (h : Nat) (dh : Nat → SD) : Prop := ∀ k : Nat, k < 4 → StAt cell adr kc (h + 2 + 19 * k) (dh k)
theorem HsSt.frame {cell cell1 : Nat → va_E} {adr : Nat → Nat} {kc : Nat → ClassId} {h : Nat} {dh : Nat → SD} (hs : HsSt cell adr kc h dh) (hf : ∀ j : Nat, h + 2 ≤ j → j < h + 78 → cell1 j = cell j) : HsSt cell1 adr kc h dh := fun k hk => StAt.frame (hs k hk) (fun j a b => hf j (by omega) (by omega))
def updS (dh : Nat → SD) (k : Nat) (d : SD) : Nat → SD := fun j => if j = k then d else dh j
theorem HsSt.put {cell cell1 : Nat → va_E} {adr : Nat → Nat} {kc : Nat → ClassId} {h k : Nat} {dh : Nat → SD} {d : SD} (hs : HsSt cell adr kc h dh) (hd : StAt cell1 adr kc (h + 2 + 19 * k) d) (hf : ∀ j : Nat, (j < h + 2 + 19 * k ∨ h + 2 + 19 * k + 19 ≤ j) → cell1 j = cell j) : HsSt cell1 adr kc h (updS dh k d) := by
  intro i hi
  by_cases e : i = k
  · subst e; rw [show updS dh i d i = d from if_pos rfl]; exact hd
  · rw [show updS dh k d i = dh i from if_neg e]
    exact StAt.frame (hs i hi) (fun j a b => hf j (by omega))
def HiAt (cell : Nat → va_E) (adr : Nat → Nat) (kc : Nat → ClassId) (h od sz : Nat) (dh : Nat → SD) : Prop := cell h = .inr (3, [.ref (adr (h + 1)), .int (nI od), .int (nI sz)]) ∧ (∃ g : Nat → Option Nat, cell (h + 1) = .inl (kc 3, 4, .inr (.inr (.inr (.inr g)))) ∧ ∀ k, k < 4 → g k = some (adr (h + 2 + 19 * k))) ∧ HsSt cell adr kc h dh ∧ od < 4 ∧ sz ≤ 4
theorem HiAt.frame {cell cell1 : Nat → va_E} {adr : Nat → Nat} {kc : Nat → ClassId} {h od sz : Nat} {dh : Nat → SD} (hs : HiAt cell adr kc h od sz dh) (hf : ∀ j : Nat, h ≤ j → j < h + 78 → cell1 j = cell j) : HiAt cell1 adr kc h od sz dh := by
  obtain ⟨h0, ⟨g, h1, hg⟩, h2, h3⟩ := hs
  exact ⟨(hf _ (by omega) (by omega)).trans h0, ⟨g, (hf _ (by omega) (by omega)).trans h1, hg⟩, h2.frame (fun j a b => hf j (by omega) b), h3⟩
def BlAt (cell : Nat → va_E) (adr : Nat → Nat) (kc : Nat → ClassId) (z sz : Nat) (Sf Mf : Nat → Int32) : Prop := cell z = .inr (1, [.ref (adr (z + 1)), .ref (adr (z + 2)), .int (nI sz)]) ∧ cell (z + 1) = .inl (kc 0, 6, .inl Sf) ∧ cell (z + 2) = .inl (kc 0, 6, .inl Mf) ∧ sz ≤ 6
theorem BlAt.frame {cell cell1 : Nat → va_E} {adr : Nat → Nat} {kc : Nat → ClassId} {z sz : Nat} {Sf Mf : Nat → Int32} (h : BlAt cell adr kc z sz Sf Mf) (hf : ∀ j : Nat, z ≤ j → j < z + 3 → cell1 j = cell j) : BlAt cell1 adr kc z sz Sf Mf := ⟨(hf _ (by omega) (by omega)).trans h.1, (hf _ (by omega) (by omega)).trans h.2.1, (hf _ (by omega) (by omega)).trans h.2.2.1, h.2.2.2⟩
theorem TxAt.frame {cell cell1 : Nat → va_E} {adr : Nat → Nat} {kc : Nat → ClassId} {t L : Nat} {sx nx sg : Int32} {ch nu : Nat → Int32} (h : TxAt cell adr kc t L sx nx sg ch nu) (hf : ∀ j : Nat, t ≤ j → j < t + 3 → cell1 j = cell j) : TxAt cell1 adr kc t L sx nx sg ch nu := ⟨(hf _ (by omega) (by omega)).trans h.1, (hf _ (by omega) (by omega)).trans h.2.1, (hf _ (by omega) (by omega)).trans h.2.2.1, h.2.2.2⟩
theorem AncAt.frame {cell cell1 : Nat → va_E} {adr : Nat → Nat} {kc : Nat → ClassId} {a : Nat} {p v : Int32} {f : Nat → Int32} (h : AncAt cell adr kc a p v f) (hf : ∀ j : Nat, a ≤ j → j < a + 2 → cell1 j = cell j) : AncAt cell1 adr kc a p v f := ⟨(hf _ (by omega) (by omega)).trans h.1, (hf _ (by omega) (by omega)).trans h.2⟩
/-- Integer.bitCount, as the JDK writes it -/
def bc1 (x : Int32) : Int32 := x - ((x.toUInt32 >>> ((1 : Int32).toUInt32 &&& Int32.toUInt32 31)).toInt32 &&& 1431655765)
def bc2 (x : Int32) : Int32 := (x &&& 858993459) + ((x.toUInt32 >>> ((2 : Int32).toUInt32 &&& Int32.toUInt32 31)).toInt32 &&& 858993459)
def bc3 (x : Int32) : Int32 := (x + (x.toUInt32 >>> ((4 : Int32).toUInt32 &&& Int32.toUInt32 31)).toInt32) &&& 252645135
def bc4 (x : Int32) : Int32 := x + (x.toUInt32 >>> ((8 : Int32).toUInt32 &&& Int32.toUInt32 31)).toInt32
def bc5 (x : Int32) : Int32 := x + (x.toUInt32 >>> ((16 : Int32).toUInt32 &&& Int32.toUInt32 31)).toInt32
def bcF (x : Int32) : Int32 := bc5 (bc4 (bc3 (bc2 (bc1 x)))) &&& 63
def whF (M : Nat → Int32) (sz : Nat) (x : Int32) : Int32 := if 0 ≤ x.toInt ∧ x.toInt < sz then M x.toNatClampNeg else 0
theorem whF_nI {M : Nat → Int32} {sz i : Nat} (h : i < sz) (hn : sz < 2 ^ 31) : whF M sz (nI i) = M i := by
  unfold whF; rw [nI_toInt (by omega), nI_clamp (by omega), if_pos (by omega)]
/-- the first block with a shift, or how many there are -/
def fst (Sf : Nat → Int32) (s : Int32) : Nat → Nat → Nat
  | 0, i => i
  | f + 1, i => if Sf i = s then i else fst Sf s f (i + 1)
theorem fst_is {Sf : Nat → Int32} {s : Int32} {sz i : Nat} : ∀ {f j : Nat}, j + f = sz → j ≤ i → i ≤ sz → (∀ k, j ≤ k → k < i → ¬ Sf k = s) → (i < sz → Sf i = s) → fst Sf s f j = i
  | 0, j, h1, h2, h3, _, _ => by show j = i; omega
  | f + 1, j, h1, h2, h3, h4, h5 => by
    show (if Sf j = s then j else fst Sf s f (j + 1)) = i
    by_cases c : Sf j = s
    · rw [if_pos c]
      rcases Nat.lt_or_ge j i with q | q
      · exact absurd c (h4 j (Nat.le_refl _) q)
      · omega
    · rw [if_neg c]
      have hji : j ≠ i := fun e => c (by rw [e]; exact h5 (by omega))
      exact fst_is (by omega) (by omega) h3 (fun k a b => h4 k (by omega) b) h5
abbrev BL : Type := Nat × (Nat → Int32) × (Nat → Int32)
def enF (k : Nat) (s : Int32) (B : BL) : BL := if fst B.2.1 s B.1 0 = B.1 then (B.1 + 1, upd B.2.1 B.1 s, upd (upd B.2.2 B.1 0) B.1 (0 ||| ((1 : Int32) <<< (nI k &&& 31)))) else (B.1, B.2.1, upd B.2.2 (fst B.2.1 s B.1 0) (B.2.2 (fst B.2.1 s B.1 0) ||| ((1 : Int32) <<< (nI k &&& 31))))
def gaF (sh : Nat → Int32) (Sf Mf : Nat → Int32) : Nat → BL
  | 0 => (0, Sf, Mf)
  | k + 1 => if sh k = 0 then gaF sh Sf Mf k else enF k (sh k) (gaF sh Sf Mf k)
theorem fst_le {Sf : Nat → Int32} {s : Int32} : ∀ (f j : Nat), fst Sf s f j ≤ j + f
  | 0, j => Nat.le_refl _
  | f + 1, j => by show (if Sf j = s then j else fst Sf s f (j + 1)) ≤ _; have := fst_le (Sf := Sf) (s := s) f (j + 1); split <;> omega
theorem gaF_le {sh Sf Mf : Nat → Int32} : ∀ k, (gaF sh Sf Mf k).1 ≤ k
  | 0 => Nat.le_refl _
  | k + 1 => by
    have h := gaF_le (sh := sh) (Sf := Sf) (Mf := Mf) k
    show (if sh k = 0 then gaF sh Sf Mf k else enF k (sh k) (gaF sh Sf Mf k)).1 ≤ k + 1
    split
    · omega
    · unfold enF; split
      · show (gaF sh Sf Mf k).1 + 1 ≤ k + 1; omega
      · show (gaF sh Sf Mf k).1 ≤ k + 1; omega
/-- block a stands ahead of block o -/
def ahF (B : BL) (a o : Nat) : Bool := decide (0 < bcF (B.2.2 a) - bcF (B.2.2 o) ∨ (bcF (B.2.2 a) - bcF (B.2.2 o) = 0 ∧ ¬ B.2.1 o ≤ B.2.1 a))
def abF (B : BL) (o : Nat) : Nat := cnt (fun a => ahF B a o) B.1
/-- the first block with x others ahead; -1: none -/
def ioF (B : BL) (x : Int32) : Nat → Nat → Int32
  | 0, _ => -1
  | f + 1, i => if nI (abF B i) = x then nI i else ioF B x f (i + 1)
theorem io_is {B : BL} {x : Int32} {i : Nat} : ∀ {f j : Nat}, j + f = B.1 → j ≤ i → i < B.1 → (∀ k, j ≤ k → k < i → ¬ nI (abF B k) = x) → nI (abF B i) = x → ioF B x f j = nI i
  | 0, j, h1, h2, h3, _, _ => absurd h3 (by omega)
  | f + 1, j, h1, h2, h3, h4, h5 => by
    show (if nI (abF B j) = x then nI j else ioF B x f (j + 1)) = nI i
    by_cases c : nI (abF B j) = x
    · rw [if_pos c]
      rcases Nat.lt_or_ge j i with q | q
      · exact absurd c (h4 j (Nat.le_refl _) q)
      · rw [show j = i by omega]
    · rw [if_neg c]
      have hji : j ≠ i := fun e => c (by rw [e]; exact h5)
      exact io_is (by omega) (by omega) h3 (fun k a b => h4 k (by omega) b) h5
theorem io_no {B : BL} {x : Int32} : ∀ {f j : Nat}, j + f = B.1 → (∀ k, j ≤ k → k < B.1 → ¬ nI (abF B k) = x) → ioF B x f j = -1
  | 0, j, _, _ => rfl
  | f + 1, j, h1, h4 => by
    show (if nI (abF B j) = x then nI j else ioF B x f (j + 1)) = -1
    rw [if_neg (h4 j (Nat.le_refl _) (by omega))]
    exact io_no (by omega) (fun k a b => h4 k (by omega) b)
end
section
/-! THE OBJECT x: what its cells hold, said of states up to what nobody sees -/
def XAt (cell : Nat → va_E) (adr : Nat → Nat) (kc : Nat → ClassId) (σ : SD) (hn : Nat) (hi : Nat → SD) (L : Nat) (ch : Nat → Int32) : Prop :=
  cell 0 = .inr (6, [.ref (adr 1), .ref (adr 20), .ref (adr 39), .ref (adr 117), .ref (adr 120), .ref (adr 123)]) ∧ (∃ d : SD, StAt cell adr kc 1 d ∧ Eqv d σ) ∧ (∃ d : SD, StAt cell adr kc 20 d) ∧ (∃ (od : Nat) (dh : Nat → SD), HiAt cell adr kc 39 od hn dh ∧ ∀ i : Nat, i < hn → Eqv (dh ((od + i) % 4)) (hi i)) ∧ (∃ (sx : Int32) (nx : Nat) (sg : Int32) (nu : Nat → Int32), TxAt cell adr kc 117 L sx (nI nx) sg ch nu) ∧ (∃ (bz : Nat) (Sf Mf : Nat → Int32), BlAt cell adr kc 120 bz Sf Mf) ∧ (∃ (p v : Int32) (f : Nat → Int32), AncAt cell adr kc 123 p v f) ∧ ∀ j : Nat, j < L → isC (ch j)
def rcN (hn : Nat) : Nat := if hn < 4 then hn + 1 else 4
def rcH (hn : Nat) (hi : Nat → SD) (σ : SD) : Nat → SD := fun i => if hn < 4 then (if i = hn then σ else hi i) else (if i = 3 then σ else hi (i + 1))
theorem ring_rec {od hn : Nat} {dh hi : Nat → SD} {dc σ : SD} (ho : od < 4) (hh : hn ≤ 4) (h : ∀ i : Nat, i < hn → Eqv (dh ((od + i) % 4)) (hi i)) (hc : Eqv dc σ) : ∀ i : Nat, i < rcN hn → Eqv (updS dh ((od + hn) % 4) dc (((if hn < 4 then od else (od + 1) % 4) + i) % 4)) (rcH hn hi σ i) := by
  intro i hi1
  unfold rcN at hi1
  unfold rcH updS
  by_cases c : hn < 4
  · simp only [if_pos c] at hi1 ⊢
    by_cases e : i = hn
    · subst e; rw [if_pos rfl, if_pos rfl]; exact hc
    · rw [if_neg (by omega), if_neg e]; exact h i (by omega)
  · simp only [if_neg c] at hi1 ⊢
    by_cases e : i = 3
    · subst e; rw [if_pos (by omega), if_pos rfl]; exact hc
    · rw [if_neg (by omega), if_neg e, show ((od + 1) % 4 + i) % 4 = (od + (i + 1)) % 4 by omega]; exact h (i + 1) (by omega)
/-- what comes behind a call: the same (none), or a change that the history remembers -/
def nxS (σ : SD) (o : Option SD) : SD := o.getD σ
def nxN (hn : Nat) (o : Option SD) : Nat := if o.isSome then rcN hn else hn
def nxH (σ : SD) (hn : Nat) (hi : Nat → SD) (o : Option SD) : Nat → SD := if o.isSome then rcH hn hi σ else hi
def XNx (cell : Nat → va_E) (adr : Nat → Nat) (kc : Nat → ClassId) (σ : SD) (hn : Nat) (hi : Nat → SD) (o : Option SD) (L : Nat) (ch : Nat → Int32) : Prop := XAt cell adr kc (nxS σ o) (nxN hn o) (nxH σ hn hi o) L ch
theorem XNx.no {cell : Nat → va_E} {adr : Nat → Nat} {kc : Nat → ClassId} {σ : SD} {hn : Nat} {hi : Nat → SD} {o : Option SD} {L : Nat} {ch : Nat → Int32} (ho : o = none) (h : XAt cell adr kc σ hn hi L ch) : XNx cell adr kc σ hn hi o L ch := by subst ho; exact h
theorem XNx.yes {cell : Nat → va_E} {adr : Nat → Nat} {kc : Nat → ClassId} {σ s : SD} {hn : Nat} {hi : Nat → SD} {o : Option SD} {L : Nat} {ch : Nat → Int32} (ho : o = some s) (h : XAt cell adr kc s (rcN hn) (rcH hn hi σ) L ch) : XNx cell adr kc σ hn hi o L ch := by subst ho; exact h
abbrev InR (x : Int32) (lo hi : Int) : Prop := lo ≤ x.toInt ∧ x.toInt ≤ hi
/-- the calls' answers, and what they leave -/
def putR (σ : SD) (p w : Int32) : Int32 := if ¬ (InR p 0 σ.1 ∧ InR w 0 99) then -1000001 else if 40 ≤ σ.1 then -1000003 else nI (σ.1 + 1)
def putO (σ : SD) (p w : Int32) : Option SD := if (InR p 0 σ.1 ∧ InR w 0 99) ∧ ¬ 40 ≤ σ.1 then some (insD p.toNatClampNeg w σ) else none
def takeR (σ : SD) (p : Int32) : Int32 := if ¬ (0 ≤ p.toInt ∧ p.toInt < σ.1) then -1000001 else σ.2.2.2.1 p.toNatClampNeg
def takeO (σ : SD) (p : Int32) : Option SD := if 0 ≤ p.toInt ∧ p.toInt < σ.1 then some (remD p.toNatClampNeg σ) else none
def changeR (σ : SD) (p w : Int32) : Int32 := if ¬ ((0 ≤ p.toInt ∧ p.toInt < σ.1) ∧ InR w 0 99) then -1000001 else σ.2.2.2.1 p.toNatClampNeg
def changeO (σ : SD) (p w : Int32) : Option SD := if (0 ≤ p.toInt ∧ p.toInt < σ.1) ∧ InR w 0 99 then some (chgD p.toNatClampNeg w σ) else none
def moveR (σ : SD) (f k t : Int32) : Int32 := if ¬ CSh σ.1 f k t then -1000001 else nI (cnt (fun p => decide (¬ pasF f.toNatClampNeg k.toNatClampNeg t.toNatClampNeg p = p)) σ.1)
def moveO (σ : SD) (f k t : Int32) : Option SD := if CSh σ.1 f k t then some (movD f.toNatClampNeg k.toNatClampNeg t.toNatClampNeg σ) else none
def wordAtR (σ : SD) (p : Int32) : Int32 := if p.toInt < 0 then -1000001 else if p.toInt < σ.1 then σ.2.2.2.1 p.toNatClampNeg else -1000004
end
section
/-! WHAT IS SAID OF ANCHORS DEPENDS ON WHAT IS SEEN ALONE -/
section CONG
variable {n : Nat} {W W' E E' f f' : Nat → Int32} {p x : Int32}
theorem scF_cong (hW : ∀ q, q < n → W q = W' q) (hE : ∀ k, k < 5 → E k = E' k) (hf : ∀ j, j < 5 → f j = f' j) : ∀ k, k ≤ 5 → scF n W E f x k = scF n W' E' f' x k := by
  intro k
  induction k with
  | zero => intro _; rfl
  | succ k ih =>
    intro hk
    show scF n W E f x k + (if f k = atF n W (x + nI k - 2) then wgt E k else 0) = scF n W' E' f' x k + (if f' k = atF n W' (x + nI k - 2) then wgt E' k else 0)
    rw [ih (by omega), hf k (by omega), atF_cong hW, show wgt E k = wgt E' k from hE _ (by split <;> omega)]
theorem scr_cong (hW : ∀ q, q < n → W q = W' q) (hE : ∀ k, k < 5 → E k = E' k) (hf : ∀ j, j < 5 → f j = f' j) (x : Int32) : scr n W E f x = scr n W' E' f' x := scF_cong hW hE hf 5 (Nat.le_refl 5)
theorem bst_cong (hW : ∀ q, q < n → W q = W' q) (hE : ∀ k, k < 5 → E k = E' k) (hf : ∀ j, j < 5 → f j = f' j) : ∀ i, bstF n W E f p x i = bstF n W' E' f' p x i := by
  intro i
  induction i with
  | zero => rfl
  | succ i ih => simp only [bstF, ih, scr_cong hW hE hf]
theorem bp_cong (hW : ∀ q, q < n → W q = W' q) (hE : ∀ k, k < 5 → E k = E' k) (hf : ∀ j, j < 5 → f j = f' j) (p x : Int32) : bpF n W E f p x = bpF n W' E' f' p x := by unfold bpF; rw [bst_cong hW hE hf]
theorem lost_cong (hW : ∀ q, q < n → W q = W' q) (hE : ∀ k, k < 5 → E k = E' k) (hf : ∀ j, j < 5 → f j = f' j) (x : Int32) : lostF n W E f x = lostF n W' E' f' x := by unfold lostF; rw [scr_cong hW hE hf, hE 3 (by omega)]
theorem stand_cong (hW : ∀ q, q < n → W q = W' q) (hE : ∀ k, k < 5 → E k = E' k) (hf : ∀ j, j < 5 → f j = f' j) (p : Int32) : standF n W E f p = standF n W' E' f' p := by
  unfold standF; simp only [bp_cong hW hE hf, lost_cong hW hE hf, scr_cong hW hE hf, hE 4 (by omega)]
theorem shift_cong (hW : ∀ q, q < n → W q = W' q) (hE : ∀ k, k < 5 → E k = E' k) (hf : ∀ j, j < 5 → f j = f' j) (p : Int32) : shiftF n W E f p = shiftF n W' E' f' p := by
  unfold shiftF; simp only [bp_cong hW hE hf, lost_cong hW hE hf]
theorem kind_cong (hW : ∀ q, q < n → W q = W' q) (hE : ∀ k, k < 5 → E k = E' k) (hf : ∀ j, j < 5 → f j = f' j) (p v x : Int32) : kindF n W E f p v x = kindF n W' E' f' p v x := by
  unfold kindF; simp only [bp_cong hW hE hf, lost_cong hW hE hf, stand_cong hW hE hf]
end CONG
def aS (σ : SD) (a : Nat) (x : Int32) : Int32 := scr σ.1 σ.2.2.2.1 σ.2.2.2.2.2.2.1 (σ.2.2.2.2.2.2.2.2.2 a) x
def aB (σ : SD) (a : Nat) (x : Int32) : Int32 := bpF σ.1 σ.2.2.2.1 σ.2.2.2.2.2.2.1 (σ.2.2.2.2.2.2.2.2.2 a) (σ.2.2.2.2.2.2.2.1 a) x
def aL (σ : SD) (a : Nat) (x : Int32) : Bool := lostF σ.1 σ.2.2.2.1 σ.2.2.2.2.2.2.1 (σ.2.2.2.2.2.2.2.2.2 a) x
def aT (σ : SD) (a : Nat) : Int32 := standF σ.1 σ.2.2.2.1 σ.2.2.2.2.2.2.1 (σ.2.2.2.2.2.2.2.2.2 a) (σ.2.2.2.2.2.2.2.1 a)
def aH (σ : SD) (a : Nat) : Int32 := shiftF σ.1 σ.2.2.2.1 σ.2.2.2.2.2.2.1 (σ.2.2.2.2.2.2.2.2.2 a) (σ.2.2.2.2.2.2.2.1 a)
def aK (σ : SD) (a : Nat) (x : Int32) : Bool := kindF σ.1 σ.2.2.2.1 σ.2.2.2.2.2.2.1 (σ.2.2.2.2.2.2.2.2.2 a) (σ.2.2.2.2.2.2.2.1 a) (σ.2.2.2.2.2.2.2.2.1 a) x
section EQV
variable {d σ : SD} {a : Nat}
theorem eS (h : Eqv d σ) (ha : a < σ.2.1) (x : Int32) : aS d a x = aS σ a x := by
  obtain ⟨h1, h2, h3, h4, h5, h6⟩ := h
  unfold aS; rw [h1]; exact scr_cong h4 h5 (h6 a ha).2.2 x
theorem eB (h : Eqv d σ) (ha : a < σ.2.1) (x : Int32) : aB d a x = aB σ a x := by
  obtain ⟨h1, h2, h3, h4, h5, h6⟩ := h
  unfold aB; rw [h1, (h6 a ha).1]; exact bp_cong h4 h5 (h6 a ha).2.2 _ x
theorem eL (h : Eqv d σ) (ha : a < σ.2.1) (x : Int32) : aL d a x = aL σ a x := by
  obtain ⟨h1, h2, h3, h4, h5, h6⟩ := h
  unfold aL; rw [h1]; exact lost_cong h4 h5 (h6 a ha).2.2 x
theorem eT (h : Eqv d σ) (ha : a < σ.2.1) : aT d a = aT σ a := by
  obtain ⟨h1, h2, h3, h4, h5, h6⟩ := h
  unfold aT; rw [h1, (h6 a ha).1]; exact stand_cong h4 h5 (h6 a ha).2.2 _
theorem eH (h : Eqv d σ) (ha : a < σ.2.1) : aH d a = aH σ a := by
  obtain ⟨h1, h2, h3, h4, h5, h6⟩ := h
  unfold aH; rw [h1, (h6 a ha).1]; exact shift_cong h4 h5 (h6 a ha).2.2 _
theorem eK (h : Eqv d σ) (ha : a < σ.2.1) (x : Int32) : aK d a x = aK σ a x := by
  obtain ⟨h1, h2, h3, h4, h5, h6⟩ := h
  unfold aK; rw [h1, (h6 a ha).1, (h6 a ha).2.1]; exact kind_cong h4 h5 (h6 a ha).2.2 _ _ x
/-- the first i anchors of a kind, as bits -/
def aKs (σ : SD) (x : Int32) : Nat → Int32
  | 0 => 0
  | i + 1 => if aK σ i x = true then aKs σ x i ||| ((1 : Int32) <<< (nI i &&& 31)) else aKs σ x i
theorem knd_aKs (d : SD) (x : Int32) : ∀ i, kndF d.1 d.2.2.2.1 d.2.2.2.2.2.2.1 d.2.2.2.2.2.2.2.1 d.2.2.2.2.2.2.2.2.1 d.2.2.2.2.2.2.2.2.2 x i = aKs d x i
  | 0 => rfl
  | i + 1 => by
    show (if aK d i x = true then kndF d.1 d.2.2.2.1 d.2.2.2.2.2.2.1 d.2.2.2.2.2.2.2.1 d.2.2.2.2.2.2.2.2.1 d.2.2.2.2.2.2.2.2.2 x i ||| ((1 : Int32) <<< (nI i &&& 31)) else kndF d.1 d.2.2.2.1 d.2.2.2.2.2.2.1 d.2.2.2.2.2.2.2.1 d.2.2.2.2.2.2.2.2.1 d.2.2.2.2.2.2.2.2.2 x i) = _
    rw [knd_aKs d x i]; rfl
theorem eKs (h : Eqv d σ) (x : Int32) : ∀ i, i ≤ σ.2.1 → aKs d x i = aKs σ x i
  | 0, _ => rfl
  | i + 1, hi => by
    show (if aK d i x = true then _ else _) = (if aK σ i x = true then _ else _)
    rw [eK h (by omega) x, eKs h x i (by omega)]
end EQV
def orN (v : Int32) : Int32 := if v = -1 then -1000004 else v
def scN (σ : SD) (a : Nat) (x : Int32) : Int32 := if x = -1 then -1000004 else aS σ a x
abbrev InA (σ : SD) (x : Int32) : Prop := 0 ≤ x.toInt ∧ x.toInt < σ.2.1
def anchorR (σ : SD) (x : Int32) : Int32 := if ¬ (0 ≤ x.toInt ∧ x.toInt < σ.1) then -1000001 else if 6 ≤ σ.2.1 then -1000003 else nI σ.2.1
def anchorO (σ : SD) (x : Int32) : Option SD := if (0 ≤ x.toInt ∧ x.toInt < σ.1) ∧ ¬ 6 ≤ σ.2.1 then some (addD x σ) else none
def dropR (σ : SD) (x : Int32) : Int32 := if ¬ InA σ x then -1000001 else nI (σ.2.1 - 1)
def dropO (σ : SD) (x : Int32) : Option SD := if InA σ x then some (dropD x.toNatClampNeg σ) else none
def findR (σ : SD) (x : Int32) : Int32 := if ¬ InA σ x then -1000001 else if aL σ x.toNatClampNeg (aB σ x.toNatClampNeg (-1)) = true then -1000002 else aB σ x.toNatClampNeg (-1)
def findO (σ : SD) (x : Int32) : Option SD := if InA σ x ∧ ¬ aL σ x.toNatClampNeg (aB σ x.toNatClampNeg (-1)) = true then some (goD x.toNatClampNeg (aB σ x.toNatClampNeg (-1)) σ) else none
def faD (σ : SD) (i : Nat) : SD := (σ.1, σ.2.1, σ.2.2.1, σ.2.2.2.1, σ.2.2.2.2.1, σ.2.2.2.2.2.1, σ.2.2.2.2.2.2.1, (fun k => if k < i then σ.2.2.2.2.2.2.2.1 k + aH σ k else σ.2.2.2.2.2.2.2.1 k), σ.2.2.2.2.2.2.2.2.1, σ.2.2.2.2.2.2.2.2.2)
def findAllR (σ : SD) : Int32 := nI (cnt (fun k => decide (¬ aH σ k = 0)) σ.2.1)
def findAllO (σ : SD) : Option SD := some (faD σ σ.2.1)
def rememberR (σ : SD) (x : Int32) : Int32 := if ¬ InA σ x then -1000001 else if ¬ (0 ≤ (σ.2.2.2.2.2.2.2.1 x.toNatClampNeg).toInt ∧ (σ.2.2.2.2.2.2.2.1 x.toNatClampNeg).toInt < σ.1) then -1000002 else nI (cnt (fun j => decide (¬ σ.2.2.2.2.2.2.2.2.2 x.toNatClampNeg j = lookF σ.1 σ.2.2.2.1 (σ.2.2.2.2.2.2.2.1 x.toNatClampNeg) j)) 5)
def rememberO (σ : SD) (x : Int32) : Option SD := if InA σ x ∧ (0 ≤ (σ.2.2.2.2.2.2.2.1 x.toNatClampNeg).toInt ∧ (σ.2.2.2.2.2.2.2.1 x.toNatClampNeg).toInt < σ.1) then some (remembD x.toNatClampNeg σ) else none
def gsF (x : Int32) : Int := if x.toInt < 3 then 20 else 60
abbrev SOk (x v : Int32) : Prop := (0 ≤ x.toInt ∧ x.toInt < 5) ∧ 0 ≤ v.toInt ∧ v.toInt ≤ gsF x
def setR (σ : SD) (x v : Int32) : Int32 := if ¬ SOk x v then -1000001 else σ.2.2.2.2.2.2.1 x.toNatClampNeg
def setO (σ : SD) (x v : Int32) : Option SD := if SOk x v then some (setD x.toNatClampNeg v σ) else none
def anchorOfR (σ : SD) (x y : Int32) : Int32 := if ¬ (InA σ x ∧ 0 ≤ y.toInt ∧ y.toInt ≤ 12) then -1000001 else if y = 0 then σ.2.2.2.2.2.2.2.1 x.toNatClampNeg else if y = 1 then orN (σ.2.2.2.2.2.2.2.2.1 x.toNatClampNeg) else if y = 7 then aT σ x.toNatClampNeg else if y = 8 then orN (aB σ x.toNatClampNeg (-1)) else if y = 9 then scN σ x.toNatClampNeg (aB σ x.toNatClampNeg (-1)) else if y = 10 then orN (aB σ x.toNatClampNeg (aB σ x.toNatClampNeg (-1))) else if y = 11 then scN σ x.toNatClampNeg (aB σ x.toNatClampNeg (aB σ x.toNatClampNeg (-1))) else if y = 12 then bI (aK σ x.toNatClampNeg 3) else orN (atF 5 (σ.2.2.2.2.2.2.2.2.2 x.toNatClampNeg) (y - 2))
def scoreR (σ : SD) (x y : Int32) : Int32 := if ¬ (InA σ x ∧ 0 ≤ y.toInt ∧ y.toInt < σ.1) then -1000001 else aS σ x.toNatClampNeg y
def anchorsR (σ : SD) (x : Int32) : Int32 := if ¬ InR x 0 5 then -1000001 else aKs σ x σ.2.1
def countR (σ : SD) (hn L : Nat) (x : Int32) : Int32 := if x = 0 then nI σ.1 else if x = 1 then nI σ.2.1 else if x = 2 then nI (cnt (fun p => !seenF σ.2.2.2.1 (σ.2.2.2.1 p) p) σ.1) else if x = 3 then σ.2.2.1 else if x = 4 then nI hn else if x = 5 then nI L else if InR x 20 24 then σ.2.2.2.2.2.2.1 (x - 20).toNatClampNeg else -1000001
end
section
/-! MORE OF x: single anchors that change, the text, the history -/
def ancD (k : Nat) (p v : Int32) (f : Nat → Int32) (d : SD) : SD := (d.1, d.2.1, d.2.2.1, d.2.2.2.1, d.2.2.2.2.1, d.2.2.2.2.2.1, d.2.2.2.2.2.2.1, upd d.2.2.2.2.2.2.2.1 k p, upd d.2.2.2.2.2.2.2.2.1 k v, updF d.2.2.2.2.2.2.2.2.2 k f)
theorem StAt.anc {cell cell1 : Nat → va_E} {adr : Nat → Nat} {kc : Nat → ClassId} {b k : Nat} {d : SD} {p v : Int32} {f : Nat → Int32} (h : StAt cell adr kc b d) (hk : k < 6) (ha : AncAt cell1 adr kc (b + 7 + 2 * k) p v f) (hf : ∀ j : Nat, (j ≠ b + 7 + 2 * k ∧ j ≠ b + 7 + 2 * k + 1) → cell1 j = cell j) : StAt cell1 adr kc b (ancD k p v f d) := by
  obtain ⟨h0, ⟨r0, r1, r2, r3, hn⟩, ⟨g, h5, hg⟩, h6, hA, hm⟩ := h
  refine ⟨(hf _ (by omega)).trans h0, ⟨(hf _ (by omega)).trans r0, (hf _ (by omega)).trans r1, (hf _ (by omega)).trans r2, (hf _ (by omega)).trans r3, hn⟩, ⟨g, (hf _ (by omega)).trans h5, hg⟩, (hf _ (by omega)).trans h6, ?_, hm⟩
  refine AnsAt.put (i := k) hA ?_ hf (fun i hi e => ⟨upd_n e, upd_n e, if_neg e⟩)
  show AncAt cell1 adr kc (b + 7 + 2 * k) (upd _ k p k) (upd _ k v k) (updF _ k f k)
  rw [upd_s, upd_s, show updF d.2.2.2.2.2.2.2.2.2 k f k = f from if_pos rfl]
  exact ha
theorem StAt.putP {cell cell1 : Nat → va_E} {adr : Nat → Nat} {kc : Nat → ClassId} {b k : Nat} {d : SD} {P1 : Nat → Int32} (h : StAt cell adr kc b d) (ha : AncAt cell1 adr kc (b + 7 + 2 * k) (P1 k) (d.2.2.2.2.2.2.2.2.1 k) (d.2.2.2.2.2.2.2.2.2 k)) (hk : k < 6) (hf : ∀ j : Nat, (j ≠ b + 7 + 2 * k ∧ j ≠ b + 7 + 2 * k + 1) → cell1 j = cell j) (ho : ∀ i, i < 6 → i ≠ k → P1 i = d.2.2.2.2.2.2.2.1 i) : StAt cell1 adr kc b (d.1, d.2.1, d.2.2.1, d.2.2.2.1, d.2.2.2.2.1, d.2.2.2.2.2.1, d.2.2.2.2.2.2.1, P1, d.2.2.2.2.2.2.2.2.1, d.2.2.2.2.2.2.2.2.2) := by
  obtain ⟨h0, ⟨r0, r1, r2, r3, hn⟩, ⟨g, h5, hg⟩, h6, hA, hm⟩ := h
  refine ⟨(hf _ (by omega)).trans h0, ⟨(hf _ (by omega)).trans r0, (hf _ (by omega)).trans r1, (hf _ (by omega)).trans r2, (hf _ (by omega)).trans r3, hn⟩, ⟨g, (hf _ (by omega)).trans h5, hg⟩, (hf _ (by omega)).trans h6, ?_, hm⟩
  exact AnsAt.put (i := k) hA ha hf (fun i hi e => ⟨ho i hi e, rfl, rfl⟩)
theorem go_eqv {d σ : SD} {k : Nat} {x : Int32} (he : Eqv d σ) : Eqv (ancD k x (d.2.2.2.2.2.2.2.2.1 k) (d.2.2.2.2.2.2.2.2.2 k) d) (goD k x σ) := by
  obtain ⟨h1, h2, h3, h4, h5, h6⟩ := he
  refine ⟨h1, h2, h3, h4, h5, fun i hi => ?_⟩
  have hi' : i < σ.2.1 := hi
  obtain ⟨a1, a2, a3⟩ := h6 i hi'
  show upd _ k x i = upd _ k x i ∧ upd d.2.2.2.2.2.2.2.2.1 k (d.2.2.2.2.2.2.2.2.1 k) i = σ.2.2.2.2.2.2.2.2.1 i ∧ ∀ j, j < 5 → updF d.2.2.2.2.2.2.2.2.2 k (d.2.2.2.2.2.2.2.2.2 k) i j = σ.2.2.2.2.2.2.2.2.2 i j
  by_cases c : i = k
  · subst c; exact ⟨by rw [upd_s, upd_s], by rw [upd_s]; exact a2, fun j hj => by rw [show updF d.2.2.2.2.2.2.2.2.2 i (d.2.2.2.2.2.2.2.2.2 i) i = d.2.2.2.2.2.2.2.2.2 i from if_pos rfl]; exact a3 j hj⟩
  · exact ⟨by rw [upd_n c, upd_n c]; exact a1, by rw [upd_n c]; exact a2, fun j hj => by rw [show updF d.2.2.2.2.2.2.2.2.2 k (d.2.2.2.2.2.2.2.2.2 k) i = d.2.2.2.2.2.2.2.2.2 i from if_neg c]; exact a3 j hj⟩
theorem rememb_eqv {d σ : SD} {k : Nat} (he : Eqv d σ) (hk : k < σ.2.1) : Eqv (ancD k (d.2.2.2.2.2.2.2.1 k) (d.2.2.2.2.2.2.2.1 k) (fill (lookF d.1 d.2.2.2.1 (d.2.2.2.2.2.2.2.1 k)) (d.2.2.2.2.2.2.2.2.2 k) 5) d) (remembD k σ) := by
  obtain ⟨h1, h2, h3, h4, h5, h6⟩ := he
  refine ⟨h1, h2, h3, h4, h5, fun i hi => ?_⟩
  have hi' : i < σ.2.1 := hi
  obtain ⟨a1, a2, a3⟩ := h6 i hi'
  obtain ⟨b1, b2, b3⟩ := h6 k hk
  show upd d.2.2.2.2.2.2.2.1 k (d.2.2.2.2.2.2.2.1 k) i = σ.2.2.2.2.2.2.2.1 i ∧ upd d.2.2.2.2.2.2.2.2.1 k (d.2.2.2.2.2.2.2.1 k) i = upd σ.2.2.2.2.2.2.2.2.1 k (σ.2.2.2.2.2.2.2.1 k) i ∧ ∀ j, j < 5 → updF d.2.2.2.2.2.2.2.2.2 k (fill (lookF d.1 d.2.2.2.1 (d.2.2.2.2.2.2.2.1 k)) (d.2.2.2.2.2.2.2.2.2 k) 5) i j = updF σ.2.2.2.2.2.2.2.2.2 k (lookF σ.1 σ.2.2.2.1 (σ.2.2.2.2.2.2.2.1 k)) i j
  by_cases c : i = k
  · subst c
    refine ⟨by rw [upd_s]; exact a1, by rw [upd_s, upd_s]; exact a1, fun j hj => ?_⟩
    unfold updF; rw [if_pos rfl, if_pos rfl, fill_in hj]
    unfold lookF; rw [h1, a1]; exact atF_cong h4 _
  · refine ⟨by rw [upd_n c]; exact a1, by rw [upd_n c, upd_n c]; exact a2, fun j hj => ?_⟩
    unfold updF; rw [if_neg c, if_neg c]; exact a3 j hj
theorem mov_eqv {n m f k t : Nat} {ed : Int32} {W T U E P V W1 T1 U1 : Nat → Int32} {F : Nat → Nat → Int32} {σ : SD} (hq : f + k ≤ n ∧ t + k ≤ n) (he : Eqv (n, m, ed, W, T, U, E, P, V, F) σ) (hg : Good σ) (h2 : ∀ p : Nat, p < n → W1 p = W (pasF t k f p)) (h3 : ∀ p : Nat, p < 40 → T1 p = nI (pasF f k t p)) : Eqv (n, m, ed + 1, W1, T1, U1, E, P, fill (fun k => atF 40 T1 (V k)) V m, F) (movD f k t σ) := by
  have e1 : n = σ.1 := he.1
  subst e1
  refine step_eqv he hg (fun p hp => ?_) h3
  rw [h2 p hp]
  exact he.2.2.2.1 _ (pas_lt hq.2 hq.1 hp)
theorem fa_eqv {d σ : SD} {i : Nat} (he : Eqv d σ) : Eqv (faD d i) (faD σ i) := by
  have he0 := he
  obtain ⟨h1, h2, h3, h4, h5, h6⟩ := he
  refine ⟨h1, h2, h3, h4, h5, fun k hk => ?_⟩
  have hk' : k < σ.2.1 := hk
  obtain ⟨a1, a2, a3⟩ := h6 k hk'
  refine ⟨?_, a2, a3⟩
  show (if k < i then d.2.2.2.2.2.2.2.1 k + aH d k else d.2.2.2.2.2.2.2.1 k) = (if k < i then σ.2.2.2.2.2.2.2.1 k + aH σ k else σ.2.2.2.2.2.2.2.1 k)
  rw [eH he0 hk', a1]
theorem i2c_id {x : Int32} (h0 : 0 ≤ x.toInt) (h1 : x.toInt < 65536) : (x.toUInt32 % 65536).toInt32 = x := by
  have h := nI_cl h0
  have hc := cl_toInt h0
  generalize x.toNatClampNeg = q at h hc
  subst h
  rw [pk_char]
  congr 1
  rw [pk_tn (by omega)]; omega
def typeR (L : Nat) (x : Int32) : Int32 := if ¬ InR x 32 126 then -1000001 else if 60 ≤ L then -1000003 else nI (L + 1)
abbrev tyOk (L : Nat) (x : Int32) : Prop := InR x 32 126 ∧ ¬ 60 ≤ L
def typeL (L : Nat) (x : Int32) : Nat := if tyOk L x then L + 1 else L
def typeC (L : Nat) (ch : Nat → Int32) (x : Int32) : Nat → Int32 := if tyOk L x then upd ch L x else ch
def undoR (hn : Nat) : Int32 := if hn = 0 then -1000002 else nI (hn - 1)
def undoS (σ : SD) (hn : Nat) (hi : Nat → SD) : SD := if hn = 0 then σ else hi (hn - 1)
end
section
/-! MORE OF x: what would be -/
def wouldTakeR (σ : SD) (x y : Int32) : Int32 := if ¬ ((0 ≤ x.toInt ∧ x.toInt < σ.1) ∧ InR y 0 1) then -1000001 else aKs (remD x.toNatClampNeg σ) (if y = 0 then 2 else 3) σ.2.1
/-- the first i places: the safest so far, and how many are lost then -/
def sfF (σ : SD) : Nat → Int32 × Int32
  | 0 => (-1, 7)
  | i + 1 => if 0 < (sfF σ i).2 ∧ bcF (aKs (remD i σ) 2 σ.2.1) < (sfF σ i).2 then (nI i, bcF (aKs (remD i σ) 2 σ.2.1)) else sfF σ i
theorem sf_end {σ : SD} {i : Nat} (h : (sfF σ i).2 ≤ 0) : ∀ {n : Nat}, i ≤ n → sfF σ n = sfF σ i := by
  intro n
  induction n with
  | zero => intro hi; rw [show i = 0 by omega]
  | succ n ih =>
    intro hi
    by_cases e : i = n + 1
    · rw [e]
    · show (if _ then _ else sfF σ n) = _
      rw [if_neg (fun q => by rw [ih (by omega)] at q; exact absurd q.1 (Int32.not_lt.mpr h))]
      exact ih (by omega)
def safestR (σ : SD) (x : Int32) : Int32 := if ¬ InR x 0 1 then -1000001 else if (sfF σ σ.1).1 = -1 then -1000004 else if x = 0 then (sfF σ σ.1).1 else (sfF σ σ.1).2
/-- how clearly a new anchor would be told from others -/
def dfF (σ : SD) (i : Nat) : Int32 := if bpF σ.1 σ.2.2.2.1 σ.2.2.2.2.2.2.1 (lookF σ.1 σ.2.2.2.1 (nI i)) (nI i) (nI i) = -1 then scr σ.1 σ.2.2.2.1 σ.2.2.2.2.2.2.1 (lookF σ.1 σ.2.2.2.1 (nI i)) (nI i) else scr σ.1 σ.2.2.2.1 σ.2.2.2.2.2.2.1 (lookF σ.1 σ.2.2.2.1 (nI i)) (nI i) - scr σ.1 σ.2.2.2.1 σ.2.2.2.2.2.2.1 (lookF σ.1 σ.2.2.2.1 (nI i)) (bpF σ.1 σ.2.2.2.1 σ.2.2.2.2.2.2.1 (lookF σ.1 σ.2.2.2.1 (nI i)) (nI i) (nI i))
def clF (σ : SD) : Nat → Int32 × Int32
  | 0 => (-1, 0)
  | i + 1 => if (clF σ i).1 = -1 ∨ ¬ dfF σ i ≤ (clF σ i).2 then (nI i, dfF σ i) else clF σ i
def clearestR (σ : SD) (x : Int32) : Int32 := if ¬ InR x 0 1 then -1000001 else if (clF σ σ.1).1 = -1 then -1000004 else if x = 0 then (clF σ σ.1).1 else (clF σ σ.1).2
theorem df_cong {d σ : SD} (h : Eqv d σ) (i : Nat) : dfF d i = dfF σ i := by
  obtain ⟨h1, h2, h3, h4, h5, h6⟩ := h
  have hl : ∀ j, j < 5 → lookF σ.1 d.2.2.2.1 (nI i) j = lookF σ.1 σ.2.2.2.1 (nI i) j := fun j _ => atF_cong h4 _
  unfold dfF
  rw [h1]
  simp only [bp_cong h4 h5 hl, scr_cong h4 h5 hl]
/-- the blocks, whatever stood there before -/
def BEq (B B' : BL) : Prop := B.1 = B'.1 ∧ (∀ i, i < B.1 → B.2.1 i = B'.2.1 i) ∧ ∀ i, i < B.1 → B.2.2 i = B'.2.2 i
theorem fst_cong {S S' : Nat → Int32} {s : Int32} : ∀ {f j : Nat}, (∀ i, i < j + f → S i = S' i) → fst S s f j = fst S' s f j
  | 0, j, _ => rfl
  | f + 1, j, h => by
    show (if S j = s then j else fst S s f (j + 1)) = (if S' j = s then j else fst S' s f (j + 1))
    rw [h j (by omega), fst_cong (f := f) (j := j + 1) (fun i hi => h i (by omega))]
theorem en_cong {B B' : BL} {k : Nat} {s : Int32} (h : BEq B B') : BEq (enF k s B) (enF k s B') := by
  obtain ⟨h1, h2, h3⟩ := h
  have hf : fst B.2.1 s B.1 0 = fst B'.2.1 s B'.1 0 := by rw [← h1]; exact fst_cong (fun i hi => h2 i (by omega))
  have hle := fst_le (Sf := B'.2.1) (s := s) B'.1 0
  unfold enF
  rw [hf]
  by_cases c : fst B'.2.1 s B'.1 0 = B'.1
  · rw [if_pos (by rw [h1]; exact c), if_pos c, h1]
    refine ⟨rfl, fun i hi => ?_, fun i hi => ?_⟩
    · have hi' : i < B'.1 + 1 := hi
      show upd _ _ _ i = upd _ _ _ i
      by_cases e : i = B'.1
      · rw [e, upd_s, upd_s]
      · rw [upd_n e, upd_n e]; exact h2 i (by omega)
    · have hi' : i < B'.1 + 1 := hi
      show upd _ _ _ i = upd _ _ _ i
      by_cases e : i = B'.1
      · rw [e, upd_s, upd_s]
      · rw [upd_n e, upd_n e, upd_n e, upd_n e]; exact h3 i (by omega)
  · rw [if_neg (by rw [h1]; exact c), if_neg c]
    refine ⟨h1, h2, fun i hi => ?_⟩
    have hi' : i < B.1 := hi
    show upd _ _ _ i = upd _ _ _ i
    by_cases e : i = fst B'.2.1 s B'.1 0
    · rw [e, upd_s, upd_s, h3 _ (by omega)]
    · rw [upd_n e, upd_n e]; exact h3 i hi'
theorem ga_cong {sh sh' S M S' M' : Nat → Int32} : ∀ {k : Nat}, (∀ i, i < k → sh i = sh' i) → BEq (gaF sh S M k) (gaF sh' S' M' k)
  | 0, _ => ⟨rfl, fun i hi => absurd hi (Nat.not_lt_zero i), fun i hi => absurd hi (Nat.not_lt_zero i)⟩
  | k + 1, h => by
    have ih := ga_cong (S := S) (M := M) (S' := S') (M' := M') (k := k) (fun i hi => h i (by omega))
    show BEq (if sh k = 0 then gaF sh S M k else enF k (sh k) (gaF sh S M k)) (if sh' k = 0 then gaF sh' S' M' k else enF k (sh' k) (gaF sh' S' M' k))
    rw [h k (by omega)]
    by_cases c : sh' k = 0
    · rw [if_pos c, if_pos c]; exact ih
    · rw [if_neg c, if_neg c]; exact en_cong ih
theorem ab_cong {B B' : BL} (h : BEq B B') {o : Nat} (ho : o < B.1) : abF B o = abF B' o := by
  obtain ⟨h1, h2, h3⟩ := h
  unfold abF
  rw [← h1]
  refine cnt_cong (fun a ha => ?_)
  unfold ahF
  rw [h2 a ha, h2 o ho, h3 a ha, h3 o ho]
theorem io_cong {B B' : BL} (h : BEq B B') {x : Int32} : ∀ {f j : Nat}, j + f ≤ B.1 → ioF B x f j = ioF B' x f j
  | 0, j, _ => rfl
  | f + 1, j, hj => by
    show (if nI (abF B j) = x then nI j else ioF B x f (j + 1)) = (if nI (abF B' j) = x then nI j else ioF B' x f (j + 1))
    rw [ab_cong h (show j < B.1 by omega), io_cong h (show j + 1 + f ≤ B.1 by omega)]
def aBl (σ : SD) : BL := gaF (aH σ) (fun _ => 0) (fun _ => 0) σ.2.1
def aIo (σ : SD) (x : Int32) : Int32 := ioF (aBl σ) x (aBl σ).1 0
theorem io_rng {B : BL} {x : Int32} : ∀ {f j : Nat}, j + f ≤ B.1 → ioF B x f j = -1 ∨ ∃ i, i < B.1 ∧ ioF B x f j = nI i
  | 0, j, _ => Or.inl rfl
  | f + 1, j, hj => by
    show (if nI (abF B j) = x then nI j else ioF B x f (j + 1)) = -1 ∨ ∃ i, i < B.1 ∧ (if nI (abF B j) = x then nI j else ioF B x f (j + 1)) = nI i
    by_cases c : nI (abF B j) = x
    · rw [if_pos c]; exact Or.inr ⟨j, by omega, rfl⟩
    · rw [if_neg c]; exact io_rng (by omega)
theorem wh_cong {M M' : Nat → Int32} {sz : Nat} (h : ∀ i, i < sz → M i = M' i) (x : Int32) : whF M sz x = whF M' sz x := by
  unfold whF
  by_cases c : 0 ≤ x.toInt ∧ x.toInt < sz
  · rw [if_pos c, if_pos c]; exact h _ (by have := cl_toInt (x := x) (by omega); omega)
  · rw [if_neg c, if_neg c]
def blockOfR (σ : SD) (x y : Int32) : Int32 := if ¬ (0 ≤ x.toInt ∧ InR y 0 1) then -1000001 else if aIo σ x = -1 then -1000004 else if y = 0 then whF (aBl σ).2.2 (aBl σ).1 (aIo σ x) else whF (aBl σ).2.1 (aBl σ).1 (aIo σ x) + 100
theorem faQ {d : SD} {i : Nat} : (faD d i).2.2.2.2.2.2.2.1 i = d.2.2.2.2.2.2.2.1 i := if_neg (Nat.lt_irrefl i)
theorem faH {d : SD} {i : Nat} : aH (faD d i) i = aH d i := by
  show shiftF d.1 d.2.2.2.1 d.2.2.2.2.2.2.1 (d.2.2.2.2.2.2.2.2.2 i) ((faD d i).2.2.2.2.2.2.2.1 i) = _
  rw [faQ]; rfl
theorem faN {d : SD} {i k : Nat} (e : k ≠ i) : (faD d (i + 1)).2.2.2.2.2.2.2.1 k = (faD d i).2.2.2.2.2.2.2.1 k := by
  show (if k < i + 1 then d.2.2.2.2.2.2.2.1 k + aH d k else d.2.2.2.2.2.2.2.1 k) = (if k < i then d.2.2.2.2.2.2.2.1 k + aH d k else d.2.2.2.2.2.2.2.1 k)
  by_cases l : k < i
  · rw [if_pos l, if_pos (by omega)]
  · rw [if_neg l, if_neg (by omega)]
theorem faS {cell cell1 : Nat → va_E} {adr : Nat → Nat} {kc : Nat → ClassId} {b i : Nat} {d : SD} (h : StAt cell adr kc b (faD d i)) (hi : i < 6) (ha : AncAt cell1 adr kc (b + 7 + 2 * i) (d.2.2.2.2.2.2.2.1 i + aH d i) (d.2.2.2.2.2.2.2.2.1 i) (d.2.2.2.2.2.2.2.2.2 i)) (hf : ∀ j : Nat, (j ≠ b + 7 + 2 * i ∧ j ≠ b + 7 + 2 * i + 1) → cell1 j = cell j) : StAt cell1 adr kc b (faD d (i + 1)) := by
  refine StAt.putP (d := faD d i) (k := i) (P1 := (faD d (i + 1)).2.2.2.2.2.2.2.1) h ?_ hi hf (fun k _ e => faN e)
  show AncAt cell1 adr kc (b + 7 + 2 * i) (if i < i + 1 then d.2.2.2.2.2.2.2.1 i + aH d i else d.2.2.2.2.2.2.2.1 i) _ _
  rw [if_pos (Nat.lt_succ_self i)]; exact ha
end
section
/-! WHAT THE CALLS LEAVE IS GOOD -/
theorem fol_rng {tp : Nat → Int32} {v : Int32} {n n1 : Nat} (hv : -1 ≤ v.toInt ∧ v.toInt < n) (h : ∀ p, p < n → -1 ≤ (tp p).toInt ∧ (tp p).toInt < n1) : -1 ≤ (folV tp v).toInt ∧ (folV tp v).toInt < n1 := by
  unfold folV
  by_cases c : v.toInt < 0
  · rw [if_pos c]; exact ⟨by decide, by have : (-1 : Int32).toInt = -1 := rfl; omega⟩
  · rw [if_neg c]; exact h _ (by have := cl_toInt (x := v) (by omega); omega)
theorem good_step {n1 : Nat} {W1 tp : Nat → Int32} {σ : SD} (hg : Good σ) (hn : n1 ≤ 40) (hW : ∀ p, p < n1 → 0 ≤ (W1 p).toInt ∧ (W1 p).toInt ≤ 99) (ht : ∀ p, p < σ.1 → -1 ≤ (tp p).toInt ∧ (tp p).toInt < n1) : Good (stepD n1 W1 tp σ) := by
  obtain ⟨g1, g2, g3, g4, g5⟩ := hg
  exact ⟨hn, g2, hW, g4, fun k hk => ⟨(g5 k hk).1, fol_rng (g5 k hk).2.1 ht, (g5 k hk).2.2⟩⟩
theorem good_ins {σ : SD} {q : Nat} {w : Int32} (hg : Good σ) (hq : q ≤ σ.1) (hn : σ.1 < 40) (hw : 0 ≤ w.toInt ∧ w.toInt ≤ 99) : Good (insD q w σ) := by
  refine good_step hg (by omega) (fun p hp => ?_) (fun p hp => ?_)
  · unfold insW
    by_cases c1 : p < q
    · rw [if_pos c1]; exact hg.2.2.1 p (by omega)
    · rw [if_neg c1]
      by_cases c2 : p = q
      · rw [if_pos c2]; exact hw
      · rw [if_neg c2]; exact hg.2.2.1 _ (by omega)
  · show -1 ≤ (nI (insP q p)).toInt ∧ (nI (insP q p)).toInt < (σ.1 + 1 : Nat)
    have : insP q p ≤ p + 1 := by unfold insP; split <;> omega
    rw [nI_toInt (by omega)]; omega
theorem good_rem {σ : SD} {q : Nat} (hg : Good σ) (hq : q < σ.1) : Good (remD q σ) := by
  have hn := hg.1
  refine good_step hg (by omega) (fun p hp => ?_) (fun p hp => ?_)
  · unfold remW
    by_cases c1 : p < q
    · rw [if_pos c1]; exact hg.2.2.1 p (by omega)
    · rw [if_neg c1]; exact hg.2.2.1 _ (by omega)
  · unfold remP
    by_cases c1 : p < q
    · rw [if_pos c1, nI_toInt (by omega)]; omega
    · rw [if_neg c1]
      by_cases c2 : p = q
      · rw [if_pos c2]; have : (-1 : Int32).toInt = -1 := rfl; omega
      · rw [if_neg c2, nI_toInt (by omega)]; omega
theorem good_chg {σ : SD} {q : Nat} {w : Int32} (hg : Good σ) (hw : 0 ≤ w.toInt ∧ w.toInt ≤ 99) : Good (chgD q w σ) := by
  have hn := hg.1
  refine good_step hg hn (fun p hp => ?_) (fun p hp => ?_)
  · by_cases c : p = q
    · rw [c, upd_s]; exact hw
    · rw [upd_n c]; exact hg.2.2.1 p hp
  · by_cases c : p = q
    · show -1 ≤ (if p = q then (-1 : Int32) else nI p).toInt ∧ (if p = q then (-1 : Int32) else nI p).toInt < σ.1
      rw [if_pos c]; have : (-1 : Int32).toInt = -1 := rfl; omega
    · show -1 ≤ (if p = q then (-1 : Int32) else nI p).toInt ∧ (if p = q then (-1 : Int32) else nI p).toInt < σ.1
      rw [if_neg c, nI_toInt (by omega)]; omega
theorem good_mov {σ : SD} {f k t : Nat} (hg : Good σ) (h1 : f + k ≤ σ.1) (h2 : t + k ≤ σ.1) : Good (movD f k t σ) := by
  have hn := hg.1
  refine good_step hg hn (fun p hp => hg.2.2.1 _ (pas_lt h2 h1 hp)) (fun p hp => ?_)
  show -1 ≤ (nI (pasF f k t p)).toInt ∧ (nI (pasF f k t p)).toInt < σ.1
  have := pas_lt h1 h2 hp
  rw [nI_toInt (by omega)]; omega
theorem at_rng {n : Nat} {W : Nat → Int32} (h : ∀ p, p < n → 0 ≤ (W p).toInt ∧ (W p).toInt ≤ 99) (x : Int32) : -1 ≤ (atF n W x).toInt ∧ (atF n W x).toInt ≤ 99 := by
  unfold atF
  by_cases c : 0 ≤ x.toInt ∧ x.toInt < n
  · rw [if_pos c]; have := h x.toNatClampNeg (by have := cl_toInt (x := x) c.1; omega); omega
  · rw [if_neg c]; have : (-1 : Int32).toInt = -1 := rfl; omega
theorem good_anc {σ : SD} {m1 : Nat} {P1 V1 : Nat → Int32} {F1 : Nat → Nat → Int32} (hg : Good σ) (hm : m1 ≤ 6) (h : ∀ k, k < m1 → (0 ≤ (P1 k).toInt ∧ (P1 k).toInt ≤ 39) ∧ (-1 ≤ (V1 k).toInt ∧ (V1 k).toInt < σ.1) ∧ ∀ j, j < 5 → -1 ≤ (F1 k j).toInt ∧ (F1 k j).toInt ≤ 99) : Good (σ.1, m1, σ.2.2.1, σ.2.2.2.1, σ.2.2.2.2.1, σ.2.2.2.2.2.1, σ.2.2.2.2.2.2.1, P1, V1, F1) := ⟨hg.1, hm, hg.2.2.1, hg.2.2.2.1, h⟩
theorem good_add {σ : SD} {x : Int32} (hg : Good σ) (hx : 0 ≤ x.toInt ∧ x.toInt < σ.1) (hm : σ.2.1 < 6) : Good (addD x σ) := by
  have hn := hg.1
  refine good_anc hg (by omega) (fun k hk => ?_)
  by_cases c : k = σ.2.1
  · subst c; rw [upd_s, upd_s]
    exact ⟨by omega, by omega, fun j hj => by rw [show updF σ.2.2.2.2.2.2.2.2.2 σ.2.1 (lookF σ.1 σ.2.2.2.1 x) σ.2.1 = lookF σ.1 σ.2.2.2.1 x from if_pos rfl]; exact at_rng hg.2.2.1 _⟩
  · rw [upd_n c, upd_n c]
    obtain ⟨a1, a2, a3⟩ := hg.2.2.2.2 k (by omega)
    exact ⟨a1, a2, fun j hj => by rw [show updF σ.2.2.2.2.2.2.2.2.2 σ.2.1 (lookF σ.1 σ.2.2.2.1 x) k = σ.2.2.2.2.2.2.2.2.2 k from if_neg c]; exact a3 j hj⟩
theorem good_drop {σ : SD} {q : Nat} (hg : Good σ) : Good (dropD q σ) := by
  have hm := hg.2.1
  refine good_anc hg (by omega) (fun k hk => ?_)
  unfold drpP
  by_cases c : q ≤ k
  · simp only [if_pos c]; exact hg.2.2.2.2 (k + 1) (by omega)
  · simp only [if_neg c]; exact hg.2.2.2.2 k (by omega)
theorem good_go {σ : SD} {a : Nat} {x : Int32} (hg : Good σ) (hx : 0 ≤ x.toInt ∧ x.toInt ≤ 39) : Good (goD a x σ) := by
  refine good_anc hg hg.2.1 (fun k hk => ?_)
  obtain ⟨a1, a2, a3⟩ := hg.2.2.2.2 k hk
  by_cases c : k = a
  · rw [c, upd_s]; exact ⟨hx, by rw [← c]; exact a2, fun j hj => by rw [← c]; exact a3 j hj⟩
  · rw [upd_n c]; exact ⟨a1, a2, a3⟩
theorem good_rememb {σ : SD} {a : Nat} (hg : Good σ) (ha : a < σ.2.1) (hp : (σ.2.2.2.2.2.2.2.1 a).toInt < σ.1) : Good (remembD a σ) := by
  refine good_anc hg hg.2.1 (fun k hk => ?_)
  obtain ⟨a1, a2, a3⟩ := hg.2.2.2.2 k hk
  by_cases c : k = a
  · subst c; rw [upd_s]
    exact ⟨a1, by omega, fun j hj => by rw [show updF σ.2.2.2.2.2.2.2.2.2 k (lookF σ.1 σ.2.2.2.1 (σ.2.2.2.2.2.2.2.1 k)) k = lookF σ.1 σ.2.2.2.1 (σ.2.2.2.2.2.2.2.1 k) from if_pos rfl]; exact at_rng hg.2.2.1 _⟩
  · rw [upd_n c]
    exact ⟨a1, a2, fun j hj => by rw [show updF σ.2.2.2.2.2.2.2.2.2 a (lookF σ.1 σ.2.2.2.1 (σ.2.2.2.2.2.2.2.1 a)) k = σ.2.2.2.2.2.2.2.2.2 k from if_neg c]; exact a3 j hj⟩
theorem good_set {σ : SD} {q : Nat} {x : Int32} (hg : Good σ) (hx : q < 3 → 0 ≤ x.toInt ∧ x.toInt ≤ 20) : Good (setD q x σ) := by
  refine ⟨hg.1, hg.2.1, hg.2.2.1, fun k hk => ?_, hg.2.2.2.2⟩
  show 0 ≤ (upd _ q x k).toInt ∧ (upd _ q x k).toInt ≤ 20
  by_cases c : k = q
  · rw [c, upd_s]; exact hx (by omega)
  · rw [upd_n c]; exact hg.2.2.2.1 k hk
/-- the best place is a place, or none -/
theorem bst_rng {n : Nat} {W E f : Nat → Int32} {p x : Int32} : ∀ i, i < 2 ^ 31 → (bstF n W E f p x i).1 = -1 ∨ ∃ q, q < i ∧ (bstF n W E f p x i).1 = nI q
  | 0, _ => Or.inl rfl
  | i + 1, h => by
    rcases bst_rng (n := n) (W := W) (E := E) (f := f) (p := p) (x := x) i (by omega) with h1 | ⟨q, h1, h2⟩
    · show (if _ then (nI i, _, _) else bstF n W E f p x i).1 = -1 ∨ _
      split
      · exact Or.inr ⟨i, by omega, by simp only [bstF]; rw [if_pos (by assumption)]⟩
      · exact Or.inl h1
    · simp only [bstF]
      split
      · exact Or.inr ⟨i, by omega, rfl⟩
      · exact Or.inr ⟨q, by omega, h2⟩
theorem aB_rng (σ : SD) (hn : σ.1 ≤ 40) (a : Nat) (x : Int32) : aB σ a x = -1 ∨ ∃ q, q < σ.1 ∧ aB σ a x = nI q := bst_rng σ.1 (by omega)
theorem aL_none {σ : SD} {a : Nat} {x : Int32} (h : ¬ aL σ a x = true) : ¬ x = -1 := fun e => h (lost_t (Or.inl e))
theorem aH_go {σ : SD} {a : Nat} (h : ¬ aL σ a (aB σ a (-1)) = true) : aH σ a = aB σ a (-1) - σ.2.2.2.2.2.2.2.1 a := if_neg h
theorem aH_no {σ : SD} {a : Nat} (h : aL σ a (aB σ a (-1)) = true) : aH σ a = 0 := if_pos h
theorem addsub2 (a b : Int32) : a + (b - a) = b := by rw [addsub, Int32.add_comm, Int32.add_sub_cancel]
theorem fa_place (σ : SD) (k : Nat) : σ.2.2.2.2.2.2.2.1 k + aH σ k = if aL σ k (aB σ k (-1)) = true then σ.2.2.2.2.2.2.2.1 k else aB σ k (-1) := by
  by_cases c : aL σ k (aB σ k (-1)) = true
  · rw [if_pos c, aH_no c, Int32.add_zero]
  · rw [if_neg c, aH_go c, addsub2]
theorem good_fa {σ : SD} {i : Nat} (hg : Good σ) : Good (faD σ i) := by
  refine good_anc hg hg.2.1 (fun k hk => ?_)
  obtain ⟨a1, a2, a3⟩ := hg.2.2.2.2 k hk
  refine ⟨?_, a2, a3⟩
  show 0 ≤ (if k < i then σ.2.2.2.2.2.2.2.1 k + aH σ k else σ.2.2.2.2.2.2.2.1 k).toInt ∧ (if k < i then σ.2.2.2.2.2.2.2.1 k + aH σ k else σ.2.2.2.2.2.2.2.1 k).toInt ≤ 39
  by_cases l : k < i
  · rw [if_pos l, fa_place]
    by_cases c : aL σ k (aB σ k (-1)) = true
    · rw [if_pos c]; exact a1
    · rw [if_neg c]
      have hn := hg.1
      rcases aB_rng σ hn k (-1) with h | ⟨q, h1, h2⟩
      · exact absurd h (aL_none c)
      · rw [h2, nI_toInt (by omega)]; omega
  · rw [if_neg l]; exact a1
end
section
/-! THE PROPERTY, SAID OF STATES -/
def Inv (σ : SD) : Prop := Good σ ∧ ∀ k, k < σ.2.1 → 0 ≤ (σ.2.2.2.2.2.2.2.2.2 k 2).toInt ∧ (0 ≤ (σ.2.2.2.2.2.2.2.2.1 k).toInt → σ.2.2.2.1 (σ.2.2.2.2.2.2.2.2.1 k).toNatClampNeg = σ.2.2.2.2.2.2.2.2.2 k 2)
theorem neg1 : ¬ 0 ≤ ((-1 : Int32)).toInt := by decide
theorem inv_step {n1 : Nat} {W1 tp : Nat → Int32} {σ : SD} (hI : Inv σ) (hg : Good (stepD n1 W1 tp σ)) (h : ∀ p, p < σ.1 → 0 ≤ (tp p).toInt → W1 (tp p).toNatClampNeg = σ.2.2.2.1 p) : Inv (stepD n1 W1 tp σ) := by
  refine ⟨hg, fun k hk => ?_⟩
  have hk' : k < σ.2.1 := hk
  obtain ⟨a, b⟩ := hI.2 k hk'
  refine ⟨a, ?_⟩
  show 0 ≤ (folV tp (σ.2.2.2.2.2.2.2.2.1 k)).toInt → W1 (folV tp (σ.2.2.2.2.2.2.2.2.1 k)).toNatClampNeg = σ.2.2.2.2.2.2.2.2.2 k 2
  have hv := (hI.1.2.2.2.2 k hk').2.1
  generalize σ.2.2.2.2.2.2.2.2.1 k = v at b hv ⊢
  unfold folV
  by_cases c : v.toInt < 0
  · rw [if_pos c]; intro h1; exact absurd h1 neg1
  · rw [if_neg c]; intro h1
    have hc := cl_toInt (x := v) (by omega)
    rw [h _ (by omega) h1]; exact b (by omega)
theorem inv_ins {σ : SD} {q : Nat} {w : Int32} (hI : Inv σ) (hq : q ≤ σ.1) (hn : σ.1 < 40) (hw : 0 ≤ w.toInt ∧ w.toInt ≤ 99) : Inv (insD q w σ) := by
  refine inv_step hI (good_ins hI.1 hq hn hw) (fun p hp _ => ?_)
  show insW q w σ.2.2.2.1 (nI (insP q p)).toNatClampNeg = _
  have hle : insP q p ≤ p + 1 := by unfold insP; split <;> omega
  rw [nI_clamp (by omega)]
  by_cases c : p < q
  · rw [show insP q p = p from if_pos c]; exact if_pos c
  · rw [show insP q p = p + 1 from if_neg c]
    unfold insW
    rw [if_neg (by omega), if_neg (by omega)]; rfl
theorem inv_rem {σ : SD} {q : Nat} (hI : Inv σ) (hq : q < σ.1) : Inv (remD q σ) := by
  have hn := hI.1.1
  refine inv_step hI (good_rem hI.1 hq) (fun p hp h0 => ?_)
  have h1 : 0 ≤ (remP q p).toInt := h0
  show remW q σ.2.2.2.1 (remP q p).toNatClampNeg = _
  by_cases c : p < q
  · rw [← remP_lo c, nI_clamp (by omega)]; exact if_pos c
  · by_cases d : p = q
    · rw [← remP_eq d] at h1; exact absurd h1 neg1
    · rw [show remP q p = nI (p - 1) by unfold remP; rw [if_neg c, if_neg d], nI_clamp (by omega)]
      unfold remW
      rw [if_neg (by omega), show p - 1 + 1 = p by omega]
theorem inv_chg {σ : SD} {q : Nat} {w : Int32} (hI : Inv σ) (hw : 0 ≤ w.toInt ∧ w.toInt ≤ 99) : Inv (chgD q w σ) := by
  have hn := hI.1.1
  refine inv_step hI (good_chg hI.1 hw) (fun p hp h0 => ?_)
  have h1 : 0 ≤ (if p = q then (-1 : Int32) else nI p).toInt := h0
  show upd σ.2.2.2.1 q w (if p = q then (-1 : Int32) else nI p).toNatClampNeg = _
  by_cases c : p = q
  · rw [if_pos c] at h1; exact absurd h1 neg1
  · rw [if_neg c, nI_clamp (by omega), upd_n c]
theorem inv_mov {σ : SD} {f k t : Nat} (hI : Inv σ) (h1 : f + k ≤ σ.1) (h2 : t + k ≤ σ.1) : Inv (movD f k t σ) := by
  have hn := hI.1.1
  refine inv_step hI (good_mov hI.1 h1 h2) (fun p hp _ => ?_)
  show σ.2.2.2.1 (pasF t k f (nI (pasF f k t p)).toNatClampNeg) = _
  have hl := pas_lt h1 h2 hp
  rw [nI_clamp (by omega), pas_inv h2 h1 hp]
theorem mid2 (x : Int32) : x + nI 2 - 2 = x := by
  rw [show nI 2 = 2 by decide, Int32.add_sub_cancel]
theorem look2 {n : Nat} {W : Nat → Int32} {x : Int32} (h : 0 ≤ x.toInt ∧ x.toInt < n) : lookF n W x 2 = W x.toNatClampNeg := by
  unfold lookF; rw [mid2]; exact if_pos h
theorem inv_add {σ : SD} {x : Int32} (hI : Inv σ) (hx : 0 ≤ x.toInt ∧ x.toInt < σ.1) (hm : σ.2.1 < 6) : Inv (addD x σ) := by
  refine ⟨good_add hI.1 hx hm, fun k hk => ?_⟩
  have hk' : k < σ.2.1 + 1 := hk
  have hc := cl_toInt (x := x) hx.1
  show 0 ≤ (updF σ.2.2.2.2.2.2.2.2.2 σ.2.1 (lookF σ.1 σ.2.2.2.1 x) k 2).toInt ∧ (0 ≤ (upd σ.2.2.2.2.2.2.2.2.1 σ.2.1 x k).toInt → σ.2.2.2.1 (upd σ.2.2.2.2.2.2.2.2.1 σ.2.1 x k).toNatClampNeg = updF σ.2.2.2.2.2.2.2.2.2 σ.2.1 (lookF σ.1 σ.2.2.2.1 x) k 2)
  by_cases c : k = σ.2.1
  · rw [show updF σ.2.2.2.2.2.2.2.2.2 σ.2.1 (lookF σ.1 σ.2.2.2.1 x) k = lookF σ.1 σ.2.2.2.1 x from if_pos c, look2 hx, c, upd_s]
    exact ⟨(hI.1.2.2.1 _ (by omega)).1, fun _ => rfl⟩
  · rw [upd_n c, show updF σ.2.2.2.2.2.2.2.2.2 σ.2.1 (lookF σ.1 σ.2.2.2.1 x) k = σ.2.2.2.2.2.2.2.2.2 k from if_neg c]
    exact hI.2 k (by omega)
theorem inv_rememb {σ : SD} {a : Nat} (hI : Inv σ) (ha : a < σ.2.1) (hp : (σ.2.2.2.2.2.2.2.1 a).toInt < σ.1) : Inv (remembD a σ) := by
  have h0 := (hI.1.2.2.2.2 a ha).1.1
  have hc := cl_toInt (x := σ.2.2.2.2.2.2.2.1 a) h0
  refine ⟨good_rememb hI.1 ha hp, fun k hk => ?_⟩
  have hk' : k < σ.2.1 := hk
  show 0 ≤ (updF σ.2.2.2.2.2.2.2.2.2 a (lookF σ.1 σ.2.2.2.1 (σ.2.2.2.2.2.2.2.1 a)) k 2).toInt ∧ (0 ≤ (upd σ.2.2.2.2.2.2.2.2.1 a (σ.2.2.2.2.2.2.2.1 a) k).toInt → σ.2.2.2.1 (upd σ.2.2.2.2.2.2.2.2.1 a (σ.2.2.2.2.2.2.2.1 a) k).toNatClampNeg = updF σ.2.2.2.2.2.2.2.2.2 a (lookF σ.1 σ.2.2.2.1 (σ.2.2.2.2.2.2.2.1 a)) k 2)
  by_cases c : k = a
  · rw [show updF σ.2.2.2.2.2.2.2.2.2 a (lookF σ.1 σ.2.2.2.1 (σ.2.2.2.2.2.2.2.1 a)) k = lookF σ.1 σ.2.2.2.1 (σ.2.2.2.2.2.2.2.1 a) from if_pos c, look2 ⟨h0, hp⟩, c, upd_s]
    exact ⟨(hI.1.2.2.1 _ (by omega)).1, fun _ => rfl⟩
  · rw [upd_n c, show updF σ.2.2.2.2.2.2.2.2.2 a (lookF σ.1 σ.2.2.2.1 (σ.2.2.2.2.2.2.2.1 a)) k = σ.2.2.2.2.2.2.2.2.2 k from if_neg c]
    exact hI.2 k hk'
theorem inv_fa {σ : SD} {i : Nat} (hI : Inv σ) : Inv (faD σ i) := ⟨good_fa hI.1, hI.2⟩
/-! bits -/
theorem bit_1 : ∀ i : Fin 6, ∀ j : Fin 32, ((1 : Int32) <<< (nI i.val &&& 31)).toBitVec.getLsbD j.val = decide (j.val = i.val) := by decide +kernel
theorem bit_m : ∀ i : Fin 7, ∀ j : Fin 32, (((1 : Int32) <<< (nI i.val &&& 31)) - 1).toBitVec.getLsbD j.val = decide (j.val < i.val) := by decide +kernel
theorem bit_0 : ∀ j : Fin 32, (0 : Int32).toBitVec.getLsbD j.val = false := by decide +kernel
theorem bit_n : ∀ j : Fin 32, (-1 : Int32).toBitVec.getLsbD j.val = true := by decide +kernel
theorem aKs_bit (σ : SD) (x : Int32) {j : Nat} (hj : j < 32) : ∀ i, i ≤ 6 → (aKs σ x i).toBitVec.getLsbD j = (decide (j < i) && aK σ j x)
  | 0, _ => (bit_0 ⟨j, hj⟩).trans (by simp)
  | i + 1, h => by
    have ih := aKs_bit σ x hj i (by omega)
    have hb : ((1 : Int32) <<< (nI i &&& 31)).toBitVec.getLsbD j = decide (j = i) := bit_1 ⟨i, by omega⟩ ⟨j, hj⟩
    show (if aK σ i x = true then aKs σ x i ||| ((1 : Int32) <<< (nI i &&& 31)) else aKs σ x i).toBitVec.getLsbD j = _
    by_cases e : j = i
    · subst e
      by_cases c : aK σ j x = true
      · rw [if_pos c, Int32.toBitVec_or, BitVec.getLsbD_or, ih, hb, c]; simp
      · rw [if_neg c, ih]; simp [c]
    · have e2 : decide (j < i + 1) = decide (j < i) := decide_eq_decide.mpr (by omega)
      by_cases c : aK σ i x = true
      · rw [if_pos c, Int32.toBitVec_or, BitVec.getLsbD_or, ih, hb, e2]; simp [e]
      · rw [if_neg c, ih, e2]
theorem i32_ext {a b : Int32} (h : ∀ j, j < 32 → a.toBitVec.getLsbD j = b.toBitVec.getLsbD j) : a = b := Int32.toBitVec_inj.mp (BitVec.eq_of_getLsbD_eq (fun j hj => h j hj))
theorem aK_0 (σ : SD) (k : Nat) : aK σ k 0 = decide (aT σ k = 0) := by
  unfold aK kindF; rw [if_neg (by decide), if_neg (by decide), if_neg (by decide), if_neg (by decide)]; rfl
theorem aK_1 (σ : SD) (k : Nat) : aK σ k 1 = decide (aT σ k = 1) := by
  unfold aK kindF; rw [if_neg (by decide), if_neg (by decide), if_neg (by decide), if_neg (by decide)]; rfl
theorem aK_2 (σ : SD) (k : Nat) : aK σ k 2 = aL σ k (aB σ k (-1)) := by
  unfold aK kindF; rw [if_pos rfl]; rfl
theorem aK_3 (σ : SD) (k : Nat) : aK σ k 3 = decide (¬ σ.2.2.2.2.2.2.2.2.1 k = -1 ∧ σ.2.2.2.2.2.2.2.2.1 k = aB σ k (-1)) := by
  unfold aK kindF; rw [if_neg (by decide), if_pos rfl]; rfl
theorem aK_4 (σ : SD) (k : Nat) : aK σ k 4 = decide (σ.2.2.2.2.2.2.2.2.1 k = -1) := by
  unfold aK kindF; rw [if_neg (by decide), if_neg (by decide), if_pos rfl]
theorem aK_5 (σ : SD) (k : Nat) : aK σ k 5 = decide (¬ σ.2.2.2.2.2.2.2.2.1 k = -1 ∧ aL σ k (aB σ k (-1)) = true) := by
  unfold aK kindF; rw [if_neg (by decide), if_neg (by decide), if_neg (by decide), if_pos rfl]; rfl
theorem aT_is (σ : SD) (k : Nat) : aT σ k = if aL σ k (aB σ k (-1)) = true then 2 else if ¬ aB σ k (aB σ k (-1)) = -1 ∧ ¬ aS σ k (aB σ k (aB σ k (-1))) < aS σ k (aB σ k (-1)) - σ.2.2.2.2.2.2.1 4 then 1 else 0 := rfl
theorem kinds (σ : SD) (k : Nat) : ∃ l c t g : Bool, aK σ k 2 = l ∧ aK σ k 0 = (!l && !c) ∧ aK σ k 1 = (!l && c) ∧ aK σ k 3 = (!t && g) ∧ aK σ k 4 = t ∧ aK σ k 5 = (!t && l) := by
  refine ⟨aL σ k (aB σ k (-1)), decide (¬ aB σ k (aB σ k (-1)) = -1 ∧ ¬ aS σ k (aB σ k (aB σ k (-1))) < aS σ k (aB σ k (-1)) - σ.2.2.2.2.2.2.1 4), decide (σ.2.2.2.2.2.2.2.2.1 k = -1), decide (σ.2.2.2.2.2.2.2.2.1 k = aB σ k (-1)), aK_2 σ k, ?_, ?_, ?_, aK_4 σ k, ?_⟩
  · rw [aK_0, aT_is]
    cases aL σ k (aB σ k (-1)) with
    | true => rw [if_pos rfl]; rfl
    | false =>
      rw [if_neg (by decide)]
      by_cases c : ¬ aB σ k (aB σ k (-1)) = -1 ∧ ¬ aS σ k (aB σ k (aB σ k (-1))) < aS σ k (aB σ k (-1)) - σ.2.2.2.2.2.2.1 4
      · rw [if_pos c, decide_eq_true c]; rfl
      · rw [if_neg c, decide_eq_false c]; rfl
  · rw [aK_1, aT_is]
    cases aL σ k (aB σ k (-1)) with
    | true => rw [if_pos rfl]; rfl
    | false =>
      rw [if_neg (by decide)]
      by_cases c : ¬ aB σ k (aB σ k (-1)) = -1 ∧ ¬ aS σ k (aB σ k (aB σ k (-1))) < aS σ k (aB σ k (-1)) - σ.2.2.2.2.2.2.1 4
      · rw [if_pos c, decide_eq_true c]; rfl
      · rw [if_neg c, decide_eq_false c]; rfl
  · rw [aK_3]
    by_cases a : σ.2.2.2.2.2.2.2.2.1 k = -1
    · rw [decide_eq_false (fun h => h.1 a), decide_eq_true a]; rfl
    · rw [decide_eq_false a]
      by_cases b : σ.2.2.2.2.2.2.2.2.1 k = aB σ k (-1)
      · rw [decide_eq_true (p := _ ∧ _) ⟨a, b⟩, decide_eq_true b]; rfl
      · rw [decide_eq_false (fun h => b h.2), decide_eq_false b]; rfl
  · rw [aK_5]
    by_cases a : σ.2.2.2.2.2.2.2.2.1 k = -1
    · rw [decide_eq_false (fun h => h.1 a), decide_eq_true a]; rfl
    · rw [decide_eq_false a]
      by_cases b : aL σ k (aB σ k (-1)) = true
      · rw [decide_eq_true (p := _ ∧ _) ⟨a, b⟩, b]; rfl
      · rw [decide_eq_false (fun h => b h.2), Bool.eq_false_iff.mpr b]; rfl
theorem bits_all {σ : SD} (hm : σ.2.1 ≤ 6) : aKs σ 0 σ.2.1 ||| aKs σ 1 σ.2.1 ||| aKs σ 2 σ.2.1 = ((1 : Int32) <<< (nI σ.2.1 &&& 31)) - 1 := i32_ext (fun j hj => by
  have hb : (((1 : Int32) <<< (nI σ.2.1 &&& 31)) - 1).toBitVec.getLsbD j = decide (j < σ.2.1) := bit_m ⟨σ.2.1, by omega⟩ ⟨j, hj⟩
  obtain ⟨l, c, t, g, e2, e0, e1, e3, e4, e5⟩ := kinds σ j
  rw [hb, Int32.toBitVec_or, Int32.toBitVec_or, BitVec.getLsbD_or, BitVec.getLsbD_or, aKs_bit σ 0 hj _ hm, aKs_bit σ 1 hj _ hm, aKs_bit σ 2 hj _ hm, e0, e1, e2]
  cases decide (j < σ.2.1) <;> cases l <;> cases c <;> rfl)
theorem bits_01 {σ : SD} (hm : σ.2.1 ≤ 6) : aKs σ 0 σ.2.1 &&& aKs σ 1 σ.2.1 = 0 := i32_ext (fun j hj => by
  obtain ⟨l, c, t, g, e2, e0, e1, e3, e4, e5⟩ := kinds σ j
  rw [show (0 : Int32).toBitVec.getLsbD j = false from bit_0 ⟨j, hj⟩, Int32.toBitVec_and, BitVec.getLsbD_and, aKs_bit σ 0 hj _ hm, aKs_bit σ 1 hj _ hm, e0, e1]
  cases decide (j < σ.2.1) <;> cases l <;> cases c <;> rfl)
theorem bits_2 {σ : SD} (hm : σ.2.1 ≤ 6) : aKs σ 2 σ.2.1 &&& (aKs σ 0 σ.2.1 ||| aKs σ 1 σ.2.1) = 0 := i32_ext (fun j hj => by
  obtain ⟨l, c, t, g, e2, e0, e1, e3, e4, e5⟩ := kinds σ j
  rw [show (0 : Int32).toBitVec.getLsbD j = false from bit_0 ⟨j, hj⟩, Int32.toBitVec_and, Int32.toBitVec_or, BitVec.getLsbD_and, BitVec.getLsbD_or, aKs_bit σ 0 hj _ hm, aKs_bit σ 1 hj _ hm, aKs_bit σ 2 hj _ hm, e0, e1, e2]
  cases decide (j < σ.2.1) <;> cases l <;> cases c <;> rfl)
theorem bits_34 {σ : SD} (hm : σ.2.1 ≤ 6) : aKs σ 3 σ.2.1 &&& aKs σ 4 σ.2.1 = 0 := i32_ext (fun j hj => by
  obtain ⟨l, c, t, g, e2, e0, e1, e3, e4, e5⟩ := kinds σ j
  rw [show (0 : Int32).toBitVec.getLsbD j = false from bit_0 ⟨j, hj⟩, Int32.toBitVec_and, BitVec.getLsbD_and, aKs_bit σ 3 hj _ hm, aKs_bit σ 4 hj _ hm, e3, e4]
  cases decide (j < σ.2.1) <;> cases t <;> cases g <;> rfl)
theorem bits_5 {σ : SD} (hm : σ.2.1 ≤ 6) : aKs σ 5 σ.2.1 &&& (aKs σ 2 σ.2.1 ^^^ (-1)) = 0 := i32_ext (fun j hj => by
  obtain ⟨l, c, t, g, e2, e0, e1, e3, e4, e5⟩ := kinds σ j
  rw [show (0 : Int32).toBitVec.getLsbD j = false from bit_0 ⟨j, hj⟩, Int32.toBitVec_and, Int32.toBitVec_xor, BitVec.getLsbD_and, BitVec.getLsbD_xor, aKs_bit σ 5 hj _ hm, aKs_bit σ 2 hj _ hm, show (-1 : Int32).toBitVec.getLsbD j = true from bit_n ⟨j, hj⟩, e5, e2]
  cases decide (j < σ.2.1) <;> cases t <;> cases l <;> rfl)
/-! scores -/
abbrev E3 (E : Nat → Int32) : Prop := ∀ k, k < 3 → 0 ≤ (E k).toInt ∧ (E k).toInt ≤ 20
def fullF (E : Nat → Int32) : Int32 := E 0 + 2 * E 1 + 2 * E 2
theorem t_mul2 {x : Int32} (h : 0 ≤ x.toInt ∧ x.toInt ≤ 20) : (2 * x).toInt = 2 * x.toInt := by
  rw [Int32.toInt_mul, show (2 : Int32).toInt = 2 from rfl]; exact t_bmod (by omega) (by omega)
theorem full_t {E : Nat → Int32} (h : E3 E) : (fullF E).toInt = (E 0).toInt + 2 * (E 1).toInt + 2 * (E 2).toInt := by
  have h0 := h 0 (by omega)
  have h1 := h 1 (by omega)
  have h2 := h 2 (by omega)
  have m1 := t_mul2 h1
  have m2 := t_mul2 h2
  unfold fullF
  have a1 : (E 0 + 2 * E 1).toInt = (E 0).toInt + (2 * E 1).toInt := t_add (by omega) (by omega)
  rw [t_add (by omega) (by omega), a1, m1, m2]
theorem sc_step {n : Nat} {W E f : Nat → Int32} {x : Int32} {k : Nat} {B : Int} (h : 0 ≤ (scF n W E f x k).toInt ∧ (scF n W E f x k).toInt ≤ B) (hB : B ≤ 1000) (hw : 0 ≤ (wgt E k).toInt ∧ (wgt E k).toInt ≤ 20) : 0 ≤ (scF n W E f x (k + 1)).toInt ∧ (scF n W E f x (k + 1)).toInt ≤ B + (wgt E k).toInt := by
  by_cases c : f k = atF n W (x + nI k - 2)
  · rw [← scF_yes c, t_add (by omega) (by omega)]; omega
  · rw [← scF_no c]; omega
theorem scr_le {n : Nat} {W E f : Nat → Int32} {x : Int32} (h : E3 E) : 0 ≤ (scr n W E f x).toInt ∧ (scr n W E f x).toInt ≤ (E 0).toInt + 2 * (E 1).toInt + 2 * (E 2).toInt := by
  have h0 := h 0 (by omega)
  have h1 := h 1 (by omega)
  have h2 := h 2 (by omega)
  have w0 : wgt E 0 = E 2 := rfl
  have w1 : wgt E 1 = E 1 := rfl
  have w2 : wgt E 2 = E 0 := rfl
  have w3 : wgt E 3 = E 1 := rfl
  have w4 : wgt E 4 = E 2 := rfl
  have s0 : 0 ≤ (scF n W E f x 0).toInt ∧ (scF n W E f x 0).toInt ≤ 0 := ⟨Int.le_refl _, Int.le_refl _⟩
  have s1 : 0 ≤ (scF n W E f x 1).toInt ∧ (scF n W E f x 1).toInt ≤ 0 + (wgt E 0).toInt := sc_step s0 (by omega) (by rw [w0]; exact h2)
  have s2 : 0 ≤ (scF n W E f x 2).toInt ∧ (scF n W E f x 2).toInt ≤ 0 + (wgt E 0).toInt + (wgt E 1).toInt := sc_step s1 (by rw [w0]; omega) (by rw [w1]; exact h1)
  have s3 : 0 ≤ (scF n W E f x 3).toInt ∧ (scF n W E f x 3).toInt ≤ 0 + (wgt E 0).toInt + (wgt E 1).toInt + (wgt E 2).toInt := sc_step s2 (by rw [w0, w1]; omega) (by rw [w2]; exact h0)
  have s4 : 0 ≤ (scF n W E f x 4).toInt ∧ (scF n W E f x 4).toInt ≤ 0 + (wgt E 0).toInt + (wgt E 1).toInt + (wgt E 2).toInt + (wgt E 3).toInt := sc_step s3 (by rw [w0, w1, w2]; omega) (by rw [w3]; exact h1)
  have s5 : 0 ≤ (scF n W E f x 5).toInt ∧ (scF n W E f x 5).toInt ≤ 0 + (wgt E 0).toInt + (wgt E 1).toInt + (wgt E 2).toInt + (wgt E 3).toInt + (wgt E 4).toInt := sc_step s4 (by rw [w0, w1, w2, w3]; omega) (by rw [w4]; exact h2)
  rw [w0, w1, w2, w3, w4] at s5
  unfold scr
  omega
theorem scr_full {n : Nat} {W E : Nat → Int32} {x : Int32} (h : E3 E) : scr n W E (lookF n W x) x = fullF E := by
  have h0 := h 0 (by omega)
  have h1 := h 1 (by omega)
  have h2 := h 2 (by omega)
  have st : ∀ k, scF n W E (lookF n W x) x (k + 1) = scF n W E (lookF n W x) x k + wgt E k := fun k => (scF_yes rfl).symm
  have z0 : scF n W E (lookF n W x) x 0 = 0 := rfl
  have w0 : wgt E 0 = E 2 := rfl
  have w1 : wgt E 1 = E 1 := rfl
  have w2 : wgt E 2 = E 0 := rfl
  have w3 : wgt E 3 = E 1 := rfl
  have w4 : wgt E 4 = E 2 := rfl
  apply i_inj
  rw [full_t h]
  unfold scr
  rw [st 4, st 3, st 2, st 1, st 0, z0, w0, w1, w2, w3, w4, Int32.zero_add]
  have a1 : (E 2 + E 1).toInt = (E 2).toInt + (E 1).toInt := t_add (by omega) (by omega)
  have a2 : (E 2 + E 1 + E 0).toInt = (E 2).toInt + (E 1).toInt + (E 0).toInt := by rw [t_add (by omega) (by omega), a1]
  have a3 : (E 2 + E 1 + E 0 + E 1).toInt = (E 2).toInt + (E 1).toInt + (E 0).toInt + (E 1).toInt := by rw [t_add (by omega) (by omega), a2]
  rw [t_add (by omega) (by omega), a3]; omega
/-! the best place -/
def dI (p : Int32) (q : Nat) : Int := (absI (nI q - p)).toInt
def LexI (n : Nat) (W E f : Nat → Int32) (p : Int32) (q r : Nat) : Prop := (scr n W E f (nI r)).toInt < (scr n W E f (nI q)).toInt ∨ ((scr n W E f (nI r)).toInt = (scr n W E f (nI q)).toInt ∧ (dI p q < dI p r ∨ (dI p q = dI p r ∧ q ≤ r)))
theorem dI_is {p : Int32} {q : Nat} (hp : 0 ≤ p.toInt ∧ p.toInt ≤ 39) (hq : q < 40) : (p.toInt ≤ q ∧ dI p q = q - p.toInt) ∨ ((q : Int) < p.toInt ∧ dI p q = p.toInt - q) := by
  have tq : (nI q).toInt = (q : Int) := nI_toInt (by omega)
  have ts : (nI q - p).toInt = q - p.toInt := by rw [t_sub (by omega) (by omega), tq]
  have z : (0 : Int32).toInt = 0 := rfl
  unfold dI absI
  by_cases c : 0 ≤ nI q - p
  · rw [if_pos c, ts]
    have := i_le c
    left; omega
  · rw [if_neg c, t_sub (by omega) (by omega), ts, z]
    have := i_nle c
    right; omega
def BSp (n : Nat) (W E f : Nat → Int32) (p x : Int32) (i : Nat) : Prop := ((bstF n W E f p x i).1 = -1 ∧ ∀ r, r < i → nI r = x) ∨ ∃ q, q < i ∧ ¬ nI q = x ∧ bstF n W E f p x i = (nI q, scr n W E f (nI q), absI (nI q - p)) ∧ ∀ r, r < i → ¬ nI r = x → LexI n W E f p q r
theorem bst_spec {n : Nat} {W E f : Nat → Int32} {p x : Int32} : ∀ i, i ≤ 40 → BSp n W E f p x i
  | 0, _ => Or.inl ⟨rfl, fun r hr => absurd hr (Nat.not_lt_zero r)⟩
  | i + 1, h => by
    have hs : bstF n W E f p x (i + 1) = if ¬ nI i = x ∧ ((bstF n W E f p x i).1 = -1 ∨ (bstF n W E f p x i).2.1 < scr n W E f (nI i) ∨ (scr n W E f (nI i) = (bstF n W E f p x i).2.1 ∧ ¬ (bstF n W E f p x i).2.2 ≤ absI (nI i - p))) then (nI i, scr n W E f (nI i), absI (nI i - p)) else bstF n W E f p x i := rfl
    rcases bst_spec (n := n) (W := W) (E := E) (f := f) (p := p) (x := x) i (by omega) with ⟨h1, h2⟩ | ⟨q, hq, hx, hb, hr⟩
    · by_cases c : nI i = x
      · rw [if_neg (fun k => k.1 c)] at hs
        refine Or.inl ⟨by rw [hs]; exact h1, fun r hr => ?_⟩
        by_cases e : r = i
        · rw [e]; exact c
        · exact h2 r (by omega)
      · rw [if_pos ⟨c, Or.inl h1⟩] at hs
        refine Or.inr ⟨i, by omega, c, hs, fun r hr hx => ?_⟩
        by_cases e : r = i
        · rw [e]; exact Or.inr ⟨rfl, Or.inr ⟨rfl, Nat.le_refl _⟩⟩
        · exact absurd (h2 r (by omega)) hx
    · rw [hb] at hs
      have tq : (nI q).toInt = (q : Int) := nI_toInt (by omega)
      have hn1 : ¬ nI q = -1 := fun e => by
        have := i_eq e
        rw [tq, show (-1 : Int32).toInt = -1 from rfl] at this; omega
      have self : ∀ r, r = i → LexI n W E f p i r := fun r e => by rw [e]; exact Or.inr ⟨rfl, Or.inr ⟨rfl, Nat.le_refl _⟩⟩
      by_cases c : nI i = x
      · rw [if_neg (fun k => k.1 c)] at hs
        refine Or.inr ⟨q, by omega, hx, hs, fun r hr1 hx1 => ?_⟩
        by_cases e : r = i
        · rw [e] at hx1; exact absurd c hx1
        · exact hr r (by omega) hx1
      · by_cases c2 : scr n W E f (nI q) < scr n W E f (nI i)
        · rw [if_pos ⟨c, Or.inr (Or.inl c2)⟩] at hs
          refine Or.inr ⟨i, by omega, c, hs, fun r hr1 hx1 => ?_⟩
          by_cases e : r = i
          · exact self r e
          · have l1 := hr r (by omega) hx1
            have l2 := i_lt c2
            unfold LexI at l1 ⊢
            omega
        · by_cases c3 : scr n W E f (nI i) = scr n W E f (nI q) ∧ ¬ absI (nI q - p) ≤ absI (nI i - p)
          · rw [if_pos ⟨c, Or.inr (Or.inr c3)⟩] at hs
            refine Or.inr ⟨i, by omega, c, hs, fun r hr1 hx1 => ?_⟩
            by_cases e : r = i
            · exact self r e
            · have l1 := hr r (by omega) hx1
              have l2 := i_eq c3.1
              have l3 : dI p i < dI p q := i_nle c3.2
              unfold LexI at l1 ⊢
              omega
          · rw [if_neg (fun k => k.2.elim hn1 (fun k => k.elim c2 c3))] at hs
            refine Or.inr ⟨q, by omega, hx, hs, fun r hr1 hx1 => ?_⟩
            by_cases e : r = i
            · rw [e]
              have l1 := i_nlt c2
              unfold LexI
              by_cases c4 : scr n W E f (nI i) = scr n W E f (nI q)
              · have l2 := i_eq c4
                have l3 : dI p q ≤ dI p i := i_le (Decidable.byContradiction (fun k => c3 ⟨c4, k⟩))
                omega
              · have l2 := i_ne c4
                omega
            · exact hr r (by omega) hx1
theorem aB_spec {σ : SD} (hn : σ.1 ≤ 40) (k : Nat) (x : Int32) : (aB σ k x = -1 ∧ ∀ r, r < σ.1 → nI r = x) ∨ ∃ q, q < σ.1 ∧ ¬ nI q = x ∧ aB σ k x = nI q ∧ ∀ r, r < σ.1 → ¬ nI r = x → LexI σ.1 σ.2.2.2.1 σ.2.2.2.2.2.2.1 (σ.2.2.2.2.2.2.2.2.2 k) (σ.2.2.2.2.2.2.2.1 k) q r := by
  rcases bst_spec (n := σ.1) (W := σ.2.2.2.1) (E := σ.2.2.2.2.2.2.1) (f := σ.2.2.2.2.2.2.2.2.2 k) (p := σ.2.2.2.2.2.2.2.1 k) (x := x) σ.1 hn with ⟨h1, h2⟩ | ⟨q, h1, h2, h3, h4⟩
  · exact Or.inl ⟨h1, h2⟩
  · exact Or.inr ⟨q, h1, h2, by unfold aB bpF; rw [h3], h4⟩
theorem nI_n1 {r : Nat} (h : r < 40) : ¬ nI r = -1 := fun e => by
  have := i_eq e
  rw [nI_toInt (by omega), show (-1 : Int32).toInt = -1 from rfl] at this; omega
end
section
/-! what the calls answer -/
section ANS
variable {σ : SD} {hn L k p : Nat}
theorem count_0 : countR σ hn L 0 = nI σ.1 := if_pos rfl
theorem count_1 : countR σ hn L 1 = nI σ.2.1 := (if_neg (by decide)).trans (if_pos rfl)
theorem count_2 : countR σ hn L 2 = nI (cnt (fun p => !seenF σ.2.2.2.1 (σ.2.2.2.1 p) p) σ.1) := (if_neg (by decide)).trans ((if_neg (by decide)).trans (if_pos rfl))
theorem count_3 : countR σ hn L 3 = σ.2.2.1 := (if_neg (by decide)).trans ((if_neg (by decide)).trans ((if_neg (by decide)).trans (if_pos rfl)))
theorem count_20 : countR σ hn L 20 = σ.2.2.2.2.2.2.1 0 := by
  unfold countR
  rw [if_neg (by decide), if_neg (by decide), if_neg (by decide), if_neg (by decide), if_neg (by decide), if_neg (by decide), if_pos (by decide)]
  exact congrArg _ (show ((20 : Int32) - 20).toNatClampNeg = 0 by decide)
theorem count_21 : countR σ hn L 21 = σ.2.2.2.2.2.2.1 1 := by
  unfold countR
  rw [if_neg (by decide), if_neg (by decide), if_neg (by decide), if_neg (by decide), if_neg (by decide), if_neg (by decide), if_pos (by decide)]
  exact congrArg _ (show ((21 : Int32) - 20).toNatClampNeg = 1 by decide)
theorem count_22 : countR σ hn L 22 = σ.2.2.2.2.2.2.1 2 := by
  unfold countR
  rw [if_neg (by decide), if_neg (by decide), if_neg (by decide), if_neg (by decide), if_neg (by decide), if_neg (by decide), if_pos (by decide)]
  exact congrArg _ (show ((22 : Int32) - 20).toNatClampNeg = 2 by decide)
theorem anchors_x {x : Int32} (h : InR x 0 5) : anchorsR σ x = aKs σ x σ.2.1 := if_neg (fun k => k h)
theorem inA_nI (hk : k < σ.2.1) (hm : σ.2.1 ≤ 6) : InA σ (nI k) := by
  have := nI_toInt (n := k) (by omega)
  exact ⟨by omega, by omega⟩
theorem anc_0 (hk : k < σ.2.1) (hm : σ.2.1 ≤ 6) : anchorOfR σ (nI k) 0 = σ.2.2.2.2.2.2.2.1 k := by
  unfold anchorOfR
  rw [if_neg (fun h => h ⟨inA_nI hk hm, by decide⟩), if_pos rfl, nI_clamp (by omega)]
theorem anc_1 (hk : k < σ.2.1) (hm : σ.2.1 ≤ 6) : anchorOfR σ (nI k) 1 = orN (σ.2.2.2.2.2.2.2.2.1 k) := by
  unfold anchorOfR
  rw [if_neg (fun h => h ⟨inA_nI hk hm, by decide⟩), if_neg (by decide), if_pos rfl, nI_clamp (by omega)]
theorem anc_8 (hk : k < σ.2.1) (hm : σ.2.1 ≤ 6) : anchorOfR σ (nI k) 8 = orN (aB σ k (-1)) := by
  unfold anchorOfR
  rw [if_neg (fun h => h ⟨inA_nI hk hm, by decide⟩), if_neg (by decide), if_neg (by decide), if_neg (by decide), if_pos rfl, nI_clamp (by omega)]
theorem anc_9 (hk : k < σ.2.1) (hm : σ.2.1 ≤ 6) : anchorOfR σ (nI k) 9 = scN σ k (aB σ k (-1)) := by
  unfold anchorOfR
  rw [if_neg (fun h => h ⟨inA_nI hk hm, by decide⟩), if_neg (by decide), if_neg (by decide), if_neg (by decide), if_neg (by decide), if_pos rfl, nI_clamp (by omega)]
theorem anc_11 (hk : k < σ.2.1) (hm : σ.2.1 ≤ 6) : anchorOfR σ (nI k) 11 = scN σ k (aB σ k (aB σ k (-1))) := by
  unfold anchorOfR
  rw [if_neg (fun h => h ⟨inA_nI hk hm, by decide⟩), if_neg (by decide), if_neg (by decide), if_neg (by decide), if_neg (by decide), if_neg (by decide), if_neg (by decide), if_pos rfl, nI_clamp (by omega)]
theorem orN_nn {x : Int32} (h : 0 ≤ x.toInt) : orN x = x := if_neg (fun e => by rw [e] at h; exact absurd h neg1)
theorem orN_n1 : orN (-1) = -1000004 := if_pos rfl
theorem scN_n1 : scN σ k (-1) = -1000004 := if_pos rfl
theorem scN_nI (h : p < 40) : scN σ k (nI p) = aS σ k (nI p) := if_neg (nI_n1 h)
theorem anc_4 (hI : Inv σ) (hk : k < σ.2.1) : anchorOfR σ (nI k) 4 = σ.2.2.2.2.2.2.2.2.2 k 2 := by
  have hm := hI.1.2.1
  unfold anchorOfR
  rw [if_neg (fun h => h ⟨inA_nI hk hm, by decide⟩), if_neg (by decide), if_neg (by decide), if_neg (by decide), if_neg (by decide), if_neg (by decide), if_neg (by decide), if_neg (by decide), if_neg (by decide), nI_clamp (by omega), show (4 : Int32) - 2 = nI 2 by decide, atF_nI (by omega) (by omega)]
  exact orN_nn (hI.2 k hk).1
theorem wordAt_in (hp : p < σ.1) (hn : σ.1 ≤ 40) : wordAtR σ (nI p) = σ.2.2.2.1 p := by
  have := nI_toInt (n := p) (by omega)
  unfold wordAtR
  rw [if_neg (by omega), if_pos (by omega), nI_clamp (by omega)]
theorem score_in (hk : k < σ.2.1) (hm : σ.2.1 ≤ 6) (hp : p < σ.1) (hn : σ.1 ≤ 40) : scoreR σ (nI k) (nI p) = aS σ k (nI p) := by
  have := nI_toInt (n := p) (by omega)
  unfold scoreR
  rw [if_neg (fun h => h ⟨inA_nI hk hm, by omega, by omega⟩), nI_clamp (by omega)]
theorem true_fact (hI : Inv σ) (hk : k < σ.2.1) : (orN (σ.2.2.2.2.2.2.2.2.1 k)).toInt < 0 ∨ ((orN (σ.2.2.2.2.2.2.2.2.1 k)).toInt < σ.1 ∧ wordAtR σ (orN (σ.2.2.2.2.2.2.2.2.1 k)) = σ.2.2.2.2.2.2.2.2.2 k 2) := by
  have hv := (hI.1.2.2.2.2 k hk).2.1
  have ht := (hI.2 k hk).2
  generalize σ.2.2.2.2.2.2.2.2.1 k = v at hv ht ⊢
  by_cases c : v.toInt < 0
  · left
    rw [show v = -1 from i_inj (by rw [show (-1 : Int32).toInt = -1 from rfl]; omega), orN_n1]; decide
  · right
    rw [orN_nn (by omega)]
    refine ⟨hv.2, ?_⟩
    unfold wordAtR
    rw [if_neg c, if_pos hv.2]
    exact ht (by omega)
theorem holds_facts (hI : Inv σ) (hk : k < σ.2.1) : ∃ x6 x7 x8 x9 : Int32, anchorOfR σ (nI k) 1 = x6 ∧ anchorOfR σ (nI k) 8 = x7 ∧ anchorOfR σ (nI k) 9 = x8 ∧ anchorOfR σ (nI k) 11 = x9 ∧ (x6.toInt < 0 ∨ (x6.toInt < σ.1 ∧ wordAtR σ x6 = σ.2.2.2.2.2.2.2.2.2 k 2)) ∧ x8.toInt ≤ (fullF σ.2.2.2.2.2.2.1).toInt ∧ x9.toInt ≤ x8.toInt ∧ ((σ.1 = 0 ∧ x7.toInt < 0 ∧ x9.toInt < 0) ∨ (0 < σ.1 ∧ 0 ≤ x7.toInt ∧ x7.toInt < σ.1 ∧ ((σ.1 < 2 ∧ x9.toInt < 0) ∨ (2 ≤ σ.1 ∧ 0 ≤ x9.toInt)))) ∧ (0 ≤ x7.toInt → scoreR σ (nI k) x7 = x8) ∧ (∀ p, p < σ.1 → ∃ db dp : Int, (((σ.2.2.2.2.2.2.2.1 k).toInt ≤ p ∧ dp = p - (σ.2.2.2.2.2.2.2.1 k).toInt) ∨ ((p : Int) < (σ.2.2.2.2.2.2.2.1 k).toInt ∧ dp = (σ.2.2.2.2.2.2.2.1 k).toInt - p)) ∧ (((σ.2.2.2.2.2.2.2.1 k).toInt ≤ x7.toInt ∧ db = x7.toInt - (σ.2.2.2.2.2.2.2.1 k).toInt) ∨ (x7.toInt < (σ.2.2.2.2.2.2.2.1 k).toInt ∧ db = (σ.2.2.2.2.2.2.2.1 k).toInt - x7.toInt)) ∧ ((aS σ k (nI p)).toInt < x8.toInt ∨ ((aS σ k (nI p)).toInt = x8.toInt ∧ (db < dp ∨ (db = dp ∧ x7.toInt ≤ p))))) ∧ 0 ≤ (σ.2.2.2.2.2.2.2.2.2 k 2).toInt ∧ 0 ≤ (σ.2.2.2.2.2.2.2.1 k).toInt ∧ (σ.2.2.2.2.2.2.2.1 k).toInt ≤ 39 := by
  have hm := hI.1.2.1
  have hn := hI.1.1
  have hP := (hI.1.2.2.2.2 k hk).1
  have hE : E3 σ.2.2.2.2.2.2.1 := hI.1.2.2.2.1
  have hft := full_t hE
  have h4 : (-1000004 : Int32).toInt = -1000004 := rfl
  have hE0 := hE 0 (by omega)
  have hE1 := hE 1 (by omega)
  have hE2 := hE 2 (by omega)
  rcases aB_spec hn k (-1) with ⟨b1, b2⟩ | ⟨q, hq, hx, hb, hr⟩
  · have hz : σ.1 = 0 := by
      rcases Nat.eq_zero_or_pos σ.1 with h | h
      · exact h
      · exact absurd (b2 0 h) (nI_n1 (by omega))
    refine ⟨_, -1000004, -1000004, -1000004, anc_1 hk hm, by rw [anc_8 hk hm, b1, orN_n1], by rw [anc_9 hk hm, b1, scN_n1], by rw [anc_11 hk hm, b1, b1, scN_n1], true_fact hI hk, by omega, Int.le_refl _, Or.inl ⟨hz, by omega, by omega⟩, fun h => absurd h (by omega), fun p hp => absurd hp (by omega), (hI.2 k hk).1, hP⟩
  · have tq : (nI q).toInt = (q : Int) := nI_toInt (by omega)
    have hs := scr_le (n := σ.1) (W := σ.2.2.2.1) (f := σ.2.2.2.2.2.2.2.2.2 k) (x := nI q) hE
    have hnx : ∃ x9 : Int32, scN σ k (aB σ k (nI q)) = x9 ∧ x9.toInt ≤ (aS σ k (nI q)).toInt ∧ ((σ.1 < 2 ∧ x9.toInt < 0) ∨ (2 ≤ σ.1 ∧ 0 ≤ x9.toInt)) := by
      rcases aB_spec hn k (nI q) with ⟨c1, c2⟩ | ⟨r, hr1, hrx, hrb, -⟩
      · refine ⟨-1000004, by rw [c1, scN_n1], ?_, Or.inl ⟨?_, by omega⟩⟩
        · have : 0 ≤ (aS σ k (nI q)).toInt := hs.1
          omega
        · rcases Nat.lt_or_ge σ.1 2 with h | h
          · exact h
          · have e0 := (nI_eq (a := 0) (b := q) (by omega) (by omega)).mp (c2 0 (by omega))
            have e1 := (nI_eq (a := 1) (b := q) (by omega) (by omega)).mp (c2 1 (by omega))
            omega
      · have hrq : r ≠ q := fun e => hrx (by rw [e])
        refine ⟨aS σ k (nI r), by rw [hrb, scN_nI (by omega)], ?_, Or.inr ⟨by omega, (scr_le hE).1⟩⟩
        have l := hr r hr1 (nI_n1 (by omega))
        unfold LexI at l
        show (scr _ _ _ _ _).toInt ≤ (scr _ _ _ _ _).toInt
        omega
    obtain ⟨x9, e9, l9, c9⟩ := hnx
    refine ⟨_, nI q, aS σ k (nI q), x9, anc_1 hk hm, by rw [anc_8 hk hm, hb, orN_nn (by omega)], by rw [anc_9 hk hm, hb, scN_nI (by omega)], by rw [anc_11 hk hm, hb, e9], true_fact hI hk, ?_, l9, Or.inr ⟨by omega, by omega, by omega, c9⟩, fun _ => score_in hk hm hq hn, fun p hp => ?_, (hI.2 k hk).1, hP⟩
    · rw [hft]; exact hs.2
    · have d1 := dI_is hP (show q < 40 by omega)
      have d2 := dI_is hP (show p < 40 by omega)
      have l := hr p hp (nI_n1 (by omega))
      unfold LexI at l
      refine ⟨dI (σ.2.2.2.2.2.2.2.1 k) q, dI (σ.2.2.2.2.2.2.2.1 k) p, d2, by rw [tq]; exact d1, ?_⟩
      rw [tq]
      show (scr σ.1 σ.2.2.2.1 σ.2.2.2.2.2.2.1 (σ.2.2.2.2.2.2.2.2.2 k) (nI p)).toInt < (scr σ.1 σ.2.2.2.1 σ.2.2.2.2.2.2.1 (σ.2.2.2.2.2.2.2.2.2 k) (nI q)).toInt ∨ _
      rcases l with l | ⟨l1, l2⟩
      · exact Or.inl l
      · exact Or.inr ⟨l1, by omega⟩
end ANS
/-! found anew -/
theorem cnt_zero {P : Nat → Bool} : ∀ {n : Nat}, (∀ i, i < n → P i = false) → cnt P n = 0
  | 0, _ => rfl
  | n + 1, h => by show cnt P n + (if P n then 1 else 0) = 0; rw [cnt_zero (fun i hi => h i (by omega)), h n (by omega)]; rfl
theorem cnt_pos {P : Nat → Bool} {i : Nat} (hP : P i = true) : ∀ {n : Nat}, i < n → 0 < cnt P n
  | 0, h => absurd h (Nat.not_lt_zero i)
  | n + 1, h => by
    show 0 < cnt P n + (if P n then 1 else 0)
    by_cases e : i = n
    · rw [← e, if_pos hP]; omega
    · have := cnt_pos hP (n := n) (by omega)
      omega
theorem fa_P {σ : SD} {k : Nat} (hk : k < σ.2.1) : (faD σ σ.2.1).2.2.2.2.2.2.2.1 k = if aL σ k (aB σ k (-1)) = true then σ.2.2.2.2.2.2.2.1 k else aB σ k (-1) := (show (faD σ σ.2.1).2.2.2.2.2.2.2.1 k = σ.2.2.2.2.2.2.2.1 k + aH σ k from if_pos hk).trans (fa_place σ k)
theorem fa_again {σ : SD} {k : Nat} (hn : σ.1 ≤ 40) (hk : k < σ.2.1) : aB (faD σ σ.2.1) k (-1) = aB σ k (-1) ∧ aH (faD σ σ.2.1) k = 0 := by
  have hP := fa_P hk
  have hB : aB (faD σ σ.2.1) k (-1) = bpF σ.1 σ.2.2.2.1 σ.2.2.2.2.2.2.1 (σ.2.2.2.2.2.2.2.2.2 k) ((faD σ σ.2.1).2.2.2.2.2.2.2.1 k) (-1) := rfl
  have hH : aH (faD σ σ.2.1) k = if aL σ k (aB (faD σ σ.2.1) k (-1)) = true then 0 else aB (faD σ σ.2.1) k (-1) - (faD σ σ.2.1).2.2.2.2.2.2.2.1 k := rfl
  by_cases c : aL σ k (aB σ k (-1)) = true
  · rw [if_pos c] at hP
    have h1 : aB (faD σ σ.2.1) k (-1) = aB σ k (-1) := by rw [hB, hP]; rfl
    exact ⟨h1, by rw [hH, h1, if_pos c]⟩
  · rw [if_neg c] at hP
    rcases aB_spec hn k (-1) with ⟨b1, -⟩ | ⟨q, hq, hx, hb, hr⟩
    · exact absurd b1 (aL_none c)
    · have hn' : (faD σ σ.2.1).1 ≤ 40 := hn
      rcases aB_spec hn' k (-1) with ⟨b1, b2⟩ | ⟨q', hq', hx', hb', hr'⟩
      · exact absurd (b2 q hq) hx
      · have hq2 : q' < σ.1 := hq'
        have l1 := hr q' hq2 hx'
        have l2 : LexI σ.1 σ.2.2.2.1 σ.2.2.2.2.2.2.1 (σ.2.2.2.2.2.2.2.2.2 k) ((faD σ σ.2.1).2.2.2.2.2.2.2.1 k) q' q := hr' q hq hx
        rw [hP, hb] at l2
        have tq : (nI q).toInt = (q : Int) := nI_toInt (by omega)
        have d1 := dI_is (p := nI q) (q := q) ⟨by omega, by omega⟩ (by omega)
        have d2 := dI_is (p := nI q) (q := q') ⟨by omega, by omega⟩ (by omega)
        unfold LexI at l1 l2
        have e : q' = q := by omega
        have h1 : aB (faD σ σ.2.1) k (-1) = aB σ k (-1) := by rw [hb', hb, e]
        exact ⟨h1, by rw [hH, h1, if_neg c, hP, Int32.sub_self]⟩
theorem fa_none {σ : SD} (hn : σ.1 ≤ 40) : findAllR (faD σ σ.2.1) = 0 := by
  show nI (cnt (fun k => decide (¬ aH (faD σ σ.2.1) k = 0)) σ.2.1) = 0
  rw [cnt_zero (fun i hi => by simp [(fa_again hn hi).2])]; rfl
theorem fa_lost {σ : SD} (hn : σ.1 ≤ 40) : aKs (faD σ σ.2.1) 2 σ.2.1 = aKs σ 2 σ.2.1 := by
  have h : ∀ i, i ≤ σ.2.1 → aKs (faD σ σ.2.1) 2 i = aKs σ 2 i := by
    intro i
    induction i with
    | zero => intro _; rfl
    | succ i ih =>
      intro hi
      show (if aK (faD σ σ.2.1) i 2 = true then _ else _) = (if aK σ i 2 = true then _ else _)
      rw [aK_2, aK_2, (fa_again hn (show i < σ.2.1 by omega)).1, ih (by omega)]; rfl
  exact h _ (Nat.le_refl _)
theorem ga_zero {sh S M : Nat → Int32} : ∀ {n : Nat}, (∀ i, i < n → sh i = 0) → gaF sh S M n = (0, S, M)
  | 0, _ => rfl
  | n + 1, h => by
    show (if sh n = 0 then gaF sh S M n else enF n (sh n) (gaF sh S M n)) = _
    rw [if_pos (h n (by omega)), ga_zero (fun i hi => h i (by omega))]
theorem fa_block {σ : SD} (hn : σ.1 ≤ 40) : blockOfR (faD σ σ.2.1) 0 0 = -1000004 := by
  have hB : aBl (faD σ σ.2.1) = (0, (fun _ => 0), (fun _ => 0)) := ga_zero (fun i hi => (fa_again hn hi).2)
  unfold blockOfR
  rw [if_neg (fun h => h (by decide)), if_pos]
  unfold aIo
  rw [hB]; rfl
/-! moved there and back -/
def mvc (f k t n : Nat) : Nat := cnt (fun p => decide (¬ pasF f k t p = p)) n
theorem mvc_0 {f k t n : Nat} (h1 : f + k ≤ n) (h2 : t + k ≤ n) (hk : 1 ≤ k) : mvc f k t n = 0 ↔ f = t := by
  constructor
  · intro h
    by_cases e : f = t
    · exact e
    · have hp : pasF f k t f = t := by unfold pasF; rw [if_pos (by omega)]; omega
      have : 0 < mvc f k t n := cnt_pos (i := f) (by rw [hp]; exact decide_eq_true (fun q => e q.symm)) (by omega)
      omega
  · intro e
    subst e
    refine cnt_zero (fun p hp => decide_eq_false (fun h => h ?_))
    unfold pasF; (repeat' split) <;> omega
theorem mvc_sym {f k t n : Nat} (h1 : f + k ≤ n) (h2 : t + k ≤ n) : mvc t k f n = mvc f k t n := by
  refine cnt_cong (fun p hp => decide_eq_decide.mpr (not_congr ⟨fun h => ?_, fun h => ?_⟩))
  · have := pas_inv h1 h2 hp; rw [h] at this; exact this
  · have := pas_inv h2 h1 hp; rw [h] at this; exact this
theorem move_ok {σ : SD} {f k t : Nat} (hn : σ.1 ≤ 40) (hk : 1 ≤ k) (h1 : f + k ≤ σ.1) (h2 : t + k ≤ σ.1) : moveR σ (nI f) (nI k) (nI t) = nI (mvc f k t σ.1) ∧ moveO σ (nI f) (nI k) (nI t) = some (movD f k t σ) := by
  have hc : CSh σ.1 (nI f) (nI k) (nI t) := by
    have a := nI_toInt (n := f) (by omega)
    have b := nI_toInt (n := k) (by omega)
    have c := nI_toInt (n := t) (by omega)
    exact ⟨by omega, by omega, by omega, by omega, by omega, by omega⟩
  unfold moveR moveO
  rw [if_neg (fun h => h hc), if_pos hc, nI_clamp (by omega), nI_clamp (by omega), nI_clamp (by omega)]
  exact ⟨rfl, rfl⟩
theorem mov_word {σ : SD} {f k t : Nat} (hk : 1 ≤ k) : (movD f k t σ).2.2.2.1 t = σ.2.2.2.1 f := by
  show σ.2.2.2.1 (pasF t k f t) = _
  rw [show pasF t k f t = f by unfold pasF; rw [if_pos (by omega)]; omega]
theorem mov_back {σ : SD} {f k t p : Nat} (h1 : f + k ≤ σ.1) (h2 : t + k ≤ σ.1) (hp : p < σ.1) : (movD t k f (movD f k t σ)).2.2.2.1 p = σ.2.2.2.1 p := by
  show σ.2.2.2.1 (pasF t k f (pasF f k t p)) = _
  rw [pas_inv h2 h1 hp]
theorem mov_true {σ : SD} {f k t i : Nat} (hG : Good σ) (h1 : f + k ≤ σ.1) (h2 : t + k ≤ σ.1) (hi : i < σ.2.1) : (movD t k f (movD f k t σ)).2.2.2.2.2.2.2.2.1 i = σ.2.2.2.2.2.2.2.2.1 i := by
  have hn := hG.1
  have hv := (hG.2.2.2.2 i hi).2.1
  show folV (fun p => nI (pasF t k f p)) (folV (fun p => nI (pasF f k t p)) (σ.2.2.2.2.2.2.2.2.1 i)) = _
  generalize σ.2.2.2.2.2.2.2.2.1 i = v at hv ⊢
  have m1 : (-1 : Int32).toInt = -1 := rfl
  by_cases c : v.toInt < 0
  · have e : v = -1 := i_inj (by omega)
    subst e
    rfl
  · have hc := cl_toInt (x := v) (by omega)
    rw [show folV (fun p => nI (pasF f k t p)) v = nI (pasF f k t v.toNatClampNeg) from if_neg c]
    have hl := pas_lt h1 h2 (show v.toNatClampNeg < σ.1 by omega)
    have tl := nI_toInt (n := pasF f k t v.toNatClampNeg) (by omega)
    rw [show folV (fun p => nI (pasF t k f p)) (nI (pasF f k t v.toNatClampNeg)) = nI (pasF t k f (nI (pasF f k t v.toNatClampNeg)).toNatClampNeg) from if_neg (by omega), nI_clamp (by omega), pas_inv h2 h1 (by omega)]
    exact (nI_cl (by omega)).symm
/-- the law's sums -/
def hF (c : Int32) (g : Nat → Int32) : Nat → Int32
  | 0 => 0
  | i + 1 => c * hF c g i + g i
theorem hF_cong {c : Int32} {g g' : Nat → Int32} : ∀ {n : Nat}, (∀ i, i < n → g i = g' i) → hF c g n = hF c g' n
  | 0, _ => rfl
  | n + 1, h => by show c * hF c g n + g n = c * hF c g' n + g' n; rw [hF_cong (fun i hi => h i (by omega)), h n (by omega)]
/-! single calls -/
section CALLS
variable {σ : SD} {hn q : Nat} {hi : Nat → SD} {w : Int32}
theorem put_ok (h40 : σ.1 < 40) (hq : q ≤ σ.1) (hw : 0 ≤ w.toInt ∧ w.toInt ≤ 99) : putR σ (nI q) w = nI (σ.1 + 1) ∧ putO σ (nI q) w = some (insD q w σ) := by
  have tq := nI_toInt (n := q) (by omega)
  have hc : InR (nI q) 0 σ.1 ∧ InR w 0 99 := ⟨⟨by omega, by omega⟩, hw⟩
  unfold putR putO
  rw [if_neg (fun h => h hc), if_neg (by omega), if_pos ⟨hc, by omega⟩, nI_clamp (by omega)]
  exact ⟨rfl, rfl⟩
theorem put_full (h40 : σ.1 = 40) (hq : q ≤ σ.1) (hw : 0 ≤ w.toInt ∧ w.toInt ≤ 99) : putR σ (nI q) w = -1000003 ∧ putO σ (nI q) w = none := by
  have tq := nI_toInt (n := q) (by omega)
  have hc : InR (nI q) 0 σ.1 ∧ InR w 0 99 := ⟨⟨by omega, by omega⟩, hw⟩
  unfold putR putO
  rw [if_neg (fun h => h hc), if_pos (by omega), if_neg (fun h => h.2 (by omega))]
  exact ⟨rfl, rfl⟩
theorem ins_word : (insD q w σ).2.2.2.1 q = w := by
  show insW q w σ.2.2.2.1 q = w
  unfold insW; rw [if_neg (Nat.lt_irrefl q), if_pos rfl]
theorem take_ok (hn : σ.1 ≤ 40) (hq : q < σ.1) : takeR σ (nI q) = σ.2.2.2.1 q ∧ takeO σ (nI q) = some (remD q σ) := by
  have tq := nI_toInt (n := q) (by omega)
  unfold takeR takeO
  rw [if_neg (fun h => h ⟨by omega, by omega⟩), if_pos ⟨by omega, by omega⟩, nI_clamp (by omega)]
  exact ⟨rfl, rfl⟩
theorem take_no (h0 : σ.1 = 0) : takeR σ 0 = -1000001 ∧ takeO σ 0 = none := by
  have z : (0 : Int32).toInt = 0 := rfl
  unfold takeR takeO
  rw [if_pos (by omega), if_neg (by omega)]
  exact ⟨rfl, rfl⟩
theorem move_no (h0 : σ.1 = 0) : moveR σ 0 1 0 = -1000001 ∧ moveO σ 0 1 0 = none := by
  have z : (0 : Int32).toInt = 0 := rfl
  have hc : ¬ CSh σ.1 0 1 0 := fun h => by have := h.2.1; omega
  unfold moveR moveO
  rw [if_pos hc, if_neg hc]
  exact ⟨rfl, rfl⟩
theorem anchor_no (h0 : σ.1 = 0) : anchorR σ 0 = -1000001 ∧ anchorO σ 0 = none := by
  have z : (0 : Int32).toInt = 0 := rfl
  unfold anchorR anchorO
  rw [if_pos (by omega), if_neg (by omega)]
  exact ⟨rfl, rfl⟩
theorem anchor_full (hn : σ.1 ≤ 40) (hq : q < σ.1) (hm : σ.2.1 = 6) : anchorR σ (nI q) = -1000003 ∧ anchorO σ (nI q) = none := by
  have tq := nI_toInt (n := q) (by omega)
  unfold anchorR anchorO
  rw [if_neg (fun h => h ⟨by omega, by omega⟩), if_pos (by omega), if_neg (fun h => h.2 (by omega))]
  exact ⟨rfl, rfl⟩
theorem anchor_ok (hn : σ.1 ≤ 40) (hq : q < σ.1) (hm : σ.2.1 < 6) : anchorR σ (nI q) = nI σ.2.1 ∧ anchorO σ (nI q) = some (addD (nI q) σ) := by
  have tq := nI_toInt (n := q) (by omega)
  unfold anchorR anchorO
  rw [if_neg (fun h => h ⟨by omega, by omega⟩), if_neg (by omega), if_pos ⟨⟨by omega, by omega⟩, by omega⟩]
  exact ⟨rfl, rfl⟩
theorem add_at (hm : σ.2.1 < 6) (hq : q < 40) : anchorOfR (addD (nI q) σ) (nI σ.2.1) 0 = nI q ∧ anchorOfR (addD (nI q) σ) (nI σ.2.1) 1 = nI q := by
  have hk : σ.2.1 < (addD (nI q) σ).2.1 := Nat.lt_succ_self _
  have hm1 : (addD (nI q) σ).2.1 ≤ 6 := hm
  have tq := nI_toInt (n := q) (by omega)
  refine ⟨(anc_0 hk hm1).trans ?_, (anc_1 hk hm1).trans ?_⟩
  · exact upd_s
  · rw [show (addD (nI q) σ).2.2.2.2.2.2.2.2.1 σ.2.1 = nI q from upd_s]
    exact orN_nn (by omega)
theorem add_score (hI : Good σ) (hm : σ.2.1 < 6) (hq : q < σ.1) : scoreR (addD (nI q) σ) (nI σ.2.1) (nI q) = fullF σ.2.2.2.2.2.2.1 := by
  have hk : σ.2.1 < (addD (nI q) σ).2.1 := Nat.lt_succ_self _
  have hm1 : (addD (nI q) σ).2.1 ≤ 6 := hm
  rw [score_in hk hm1 (show q < (addD (nI q) σ).1 from hq) hI.1]
  show scr σ.1 σ.2.2.2.1 σ.2.2.2.2.2.2.1 (updF σ.2.2.2.2.2.2.2.2.2 σ.2.1 (lookF σ.1 σ.2.2.2.1 (nI q)) σ.2.1) (nI q) = _
  rw [show updF σ.2.2.2.2.2.2.2.2.2 σ.2.1 (lookF σ.1 σ.2.2.2.1 (nI q)) σ.2.1 = lookF σ.1 σ.2.2.2.1 (nI q) from if_pos rfl]
  exact scr_full hI.2.2.2.1
theorem change_no (h0 : σ.1 = 0) : changeR σ 0 1 = -1000001 ∧ changeO σ 0 1 = none := by
  have z : (0 : Int32).toInt = 0 := rfl
  unfold changeR changeO
  rw [if_pos (fun h => by have := h.1; omega), if_neg (fun h => by have := h.1; omega)]
  exact ⟨rfl, rfl⟩
theorem change_ok (hn : σ.1 ≤ 40) (hq : q < σ.1) (hw : 0 ≤ w.toInt ∧ w.toInt ≤ 99) : changeR σ (nI q) w = σ.2.2.2.1 q ∧ changeO σ (nI q) w = some (chgD q w σ) := by
  have tq := nI_toInt (n := q) (by omega)
  unfold changeR changeO
  rw [if_neg (fun h => h ⟨⟨by omega, by omega⟩, hw⟩), if_pos ⟨⟨by omega, by omega⟩, hw⟩, nI_clamp (by omega)]
  exact ⟨rfl, rfl⟩
theorem chg_true {k : Nat} (hG : Good σ) (hk : k < σ.2.1) (hq : q < σ.1) : ¬ anchorOfR (chgD q w σ) (nI k) 1 = nI q := by
  have hn := hG.1
  have hv := (hG.2.2.2.2 k hk).2.1
  have tq := nI_toInt (n := q) (by omega)
  rw [anc_1 (σ := chgD q w σ) hk hG.2.1]
  show ¬ orN (folV (fun p => if p = q then -1 else nI p) (σ.2.2.2.2.2.2.2.2.1 k)) = nI q
  generalize σ.2.2.2.2.2.2.2.2.1 k = v at hv ⊢
  have h4 : (-1000004 : Int32).toInt = -1000004 := rfl
  unfold folV
  by_cases c : v.toInt < 0
  · rw [if_pos c, orN_n1]; intro h; have := i_eq h; omega
  · rw [if_neg c]
    have hc := cl_toInt (x := v) (by omega)
    by_cases d : v.toNatClampNeg = q
    · simp only [if_pos d]; rw [orN_n1]; intro h; have := i_eq h; omega
    · simp only [if_neg d]
      have tv := nI_toInt (n := v.toNatClampNeg) (by omega)
      rw [orN_nn (by omega)]; intro h; have := i_eq h; omega
theorem rem_no (h0 : σ.2.1 = 0) : rememberR σ 0 = -1000001 ∧ rememberO σ 0 = none := by
  have z : (0 : Int32).toInt = 0 := rfl
  unfold rememberR rememberO
  rw [if_pos (fun h => by have := h.2; omega), if_neg (fun h => by have := h.1.2; omega)]
  exact ⟨rfl, rfl⟩
theorem rem_out (hG : Good σ) (hq : q < σ.2.1) (hp : (σ.1 : Int) ≤ (σ.2.2.2.2.2.2.2.1 q).toInt) : rememberR σ (nI q) = -1000002 ∧ rememberO σ (nI q) = none := by
  have hm := hG.2.1
  unfold rememberR rememberO
  rw [nI_clamp (by omega), if_neg (fun h => h (inA_nI hq hm)), if_pos (by omega), if_neg (fun h => by have := h.2.2; omega)]
  exact ⟨rfl, rfl⟩
theorem rem_ok (hG : Good σ) (hq : q < σ.2.1) (hp : (σ.2.2.2.2.2.2.2.1 q).toInt < σ.1) : rememberR σ (nI q) = nI (cnt (fun j => decide (¬ σ.2.2.2.2.2.2.2.2.2 q j = lookF σ.1 σ.2.2.2.1 (σ.2.2.2.2.2.2.2.1 q) j)) 5) ∧ rememberO σ (nI q) = some (remembD q σ) := by
  have hm := hG.2.1
  have h0 := (hG.2.2.2.2 q hq).1.1
  unfold rememberR rememberO
  rw [nI_clamp (by omega), if_neg (fun h => h (inA_nI hq hm)), if_neg (fun h => h ⟨h0, hp⟩), if_pos ⟨inA_nI hq hm, h0, hp⟩]
  exact ⟨rfl, rfl⟩
theorem rem_true (hG : Good σ) (hq : q < σ.2.1) : anchorOfR (remembD q σ) (nI q) 1 = σ.2.2.2.2.2.2.2.1 q := by
  rw [anc_1 (σ := remembD q σ) hq hG.2.1, show (remembD q σ).2.2.2.2.2.2.2.2.1 q = σ.2.2.2.2.2.2.2.1 q from upd_s]
  exact orN_nn (hG.2.2.2.2 q hq).1.1
theorem rem_again (hG : Good σ) (hq : q < σ.2.1) (hp : (σ.2.2.2.2.2.2.2.1 q).toInt < σ.1) (hG1 : Good (remembD q σ)) : rememberR (remembD q σ) (nI q) = 0 ∧ rememberO (remembD q σ) (nI q) = some (remembD q (remembD q σ)) := by
  have h := rem_ok (σ := remembD q σ) hG1 hq hp
  refine ⟨h.1.trans ?_, h.2⟩
  have hz : ∀ j, (remembD q σ).2.2.2.2.2.2.2.2.2 q j = lookF (remembD q σ).1 (remembD q σ).2.2.2.1 ((remembD q σ).2.2.2.2.2.2.2.1 q) j := fun j => congrFun (show updF σ.2.2.2.2.2.2.2.2.2 q (lookF σ.1 σ.2.2.2.1 (σ.2.2.2.2.2.2.2.1 q)) q = lookF σ.1 σ.2.2.2.1 (σ.2.2.2.2.2.2.2.1 q) from if_pos rfl) j
  rw [cnt_zero (fun j _ => decide_eq_false (fun k => k (hz j)))]; rfl
theorem rc_back {s : SD} : undoS s (rcN hn) (rcH hn hi σ) = σ := by
  unfold undoS rcN rcH
  by_cases c : hn < 4
  · simp only [if_pos c]
    rw [if_neg (by omega), show hn + 1 - 1 = hn by omega, if_pos rfl]
  · simp only [if_neg c]
    rw [if_neg (by omega)]; simp
theorem rc_undo (h : hn ≤ 4) : 0 ≤ (undoR (rcN hn)).toInt := by
  have h1 : rcN hn ≤ 4 ∧ 1 ≤ rcN hn := by unfold rcN; split <;> omega
  unfold undoR
  rw [if_neg (by omega), nI_toInt (by omega)]; omega
end CALLS
end
