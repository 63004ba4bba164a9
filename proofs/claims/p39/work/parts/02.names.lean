/-! ===== BEGIN printed: names, fields, word lists, decode rows ===== -/
def RX0 : String := "TallowIndex$Document"
def TX0 : u_T := fun k => match k with
  | 0 => ("TallowIndex$Document", "tag", "I", true)
  | 1 => ("TallowIndex$Document", "whole", "I", true)
  | 2 => ("TallowIndex$Document", "text", "LTallowIndex$Text;", true)
  | _ => ("TallowIndex$Document", "clicks", "I", false)
def tyX0 : Nat → FieldType := fun k => match k with
  | 0 => .int
  | 1 => .int
  | 2 => .object "TallowIndex$Text"
  | _ => .int
abbrev wsX00 : List Cond := u_ws RX0 TX0 4
theorem nmX0 : ∀ a, a < 4 → ∀ b, b < 4 → a ≠ b → (TX0 a).2.1 ≠ (TX0 b).2.1 := by decide +kernel
theorem tyX0_ok : ∀ k, k < 4 → parseFieldDescriptor (TX0 k).2.2.1 = some (tyX0 k) := by decide +kernel
abbrev cX0_init : ByteArray := prog_2_method_1_code
def yX0_init : MethodName := ⟨RX0, "<init>", "(II)V"⟩
def RX1 : String := "TallowIndex$Query"
def TX1 : u_T := fun k => match k with
  | 0 => ("TallowIndex$Query", "kind", "C", true)
  | 1 => ("TallowIndex$Query", "first", "I", true)
  | 2 => ("TallowIndex$Query", "second", "I", true)
  | 3 => ("TallowIndex$Query", "distance", "I", true)
  | 4 => ("TallowIndex$Query", "weight", "I", true)
  | _ => ("TallowIndex$Query", "wordQueries", "I", true)
def tyX1 : Nat → FieldType := fun k => match k with
  | 0 => .char
  | 1 => .int
  | 2 => .int
  | 3 => .int
  | 4 => .int
  | _ => .int
abbrev wsX10 : List Cond := u_ws RX1 TX1 6
theorem nmX1 : ∀ a, a < 6 → ∀ b, b < 6 → a ≠ b → (TX1 a).2.1 ≠ (TX1 b).2.1 := by decide +kernel
theorem tyX1_ok : ∀ k, k < 6 → parseFieldDescriptor (TX1 k).2.2.1 = some (tyX1 k) := by decide +kernel
abbrev cX1_init : ByteArray := prog_3_method_1_code
def yX1_init : MethodName := ⟨RX1, "<init>", "(CIIIII)V"⟩
abbrev cX1_canAsk : ByteArray := prog_3_method_2_code
def yX1_canAsk : MethodName := ⟨RX1, "canAsk", "(CIII)Z"⟩
abbrev cX1_canJoin : ByteArray := prog_3_method_3_code
def yX1_canJoin : MethodName := ⟨RX1, "canJoin", "(C)Z"⟩
abbrev cX1_isOfWords : ByteArray := prog_3_method_4_code
def yX1_isOfWords : MethodName := ⟨RX1, "isOfWords", "()Z"⟩
abbrev cX1_nameParts : ByteArray := prog_3_method_5_code
def yX1_nameParts : MethodName := ⟨RX1, "nameParts", "(LTallowIndex$Row;Z)V"⟩
abbrev cX1_timesIn : ByteArray := prog_3_method_6_code
def yX1_timesIn : MethodName := ⟨RX1, "timesIn", "(LTallowIndex$Text;)I"⟩
abbrev cX1_isCouple : ByteArray := prog_3_method_9_code
def yX1_isCouple : MethodName := ⟨RX1, "isCouple", "(LTallowIndex$Text;II)Z"⟩
abbrev cX1_scoreFor : ByteArray := prog_3_method_10_code
def yX1_scoreFor : MethodName := ⟨RX1, "scoreFor", "(IIII)I"⟩
abbrev cX1_joinScores : ByteArray := prog_3_method_11_code
def yX1_joinScores : MethodName := ⟨RX1, "joinScores", "(II)I"⟩
def RX2 : String := "TallowIndex$Row"
def TX2 : u_T := fun k => match k with
  | _ => ("TallowIndex$Row", "cells", "[I", true)
def tyX2 : Nat → FieldType := fun k => match k with
  | _ => .array .int
abbrev wsX20 : List Cond := u_ws RX2 TX2 1
theorem nmX2 : ∀ a, a < 1 → ∀ b, b < 1 → a ≠ b → (TX2 a).2.1 ≠ (TX2 b).2.1 := by decide +kernel
theorem tyX2_ok : ∀ k, k < 1 → parseFieldDescriptor (TX2 k).2.2.1 = some (tyX2 k) := by decide +kernel
abbrev cX2_init : ByteArray := prog_4_method_1_code
def yX2_init : MethodName := ⟨RX2, "<init>", "(I)V"⟩
abbrev cX2_get : ByteArray := prog_4_method_2_code
def yX2_get : MethodName := ⟨RX2, "get", "(I)I"⟩
abbrev cX2_put : ByteArray := prog_4_method_3_code
def yX2_put : MethodName := ⟨RX2, "put", "(II)V"⟩
abbrev cX2_fill : ByteArray := prog_4_method_4_code
def yX2_fill : MethodName := ⟨RX2, "fill", "(I)V"⟩
abbrev cX2_copyFrom : ByteArray := prog_4_method_5_code
def yX2_copyFrom : MethodName := ⟨RX2, "copyFrom", "(LTallowIndex$Row;)V"⟩
def RX3 : String := "TallowIndex$Search"
def TX3 : u_T := fun k => match k with
  | 0 => ("TallowIndex$Search", "parts", "LTallowIndex$Row;", true)
  | 1 => ("TallowIndex$Search", "times", "LTallowIndex$Row;", true)
  | 2 => ("TallowIndex$Search", "scores", "LTallowIndex$Row;", true)
  | 3 => ("TallowIndex$Search", "ranks", "LTallowIndex$Row;", true)
  | 4 => ("TallowIndex$Search", "order", "LTallowIndex$Row;", true)
  | 5 => ("TallowIndex$Search", "marks", "LTallowIndex$Row;", true)
  | 6 => ("TallowIndex$Search", "asked", "I", false)
  | _ => ("TallowIndex$Search", "found", "I", false)
def tyX3 : Nat → FieldType := fun k => match k with
  | 0 => .object "TallowIndex$Row"
  | 1 => .object "TallowIndex$Row"
  | 2 => .object "TallowIndex$Row"
  | 3 => .object "TallowIndex$Row"
  | 4 => .object "TallowIndex$Row"
  | 5 => .object "TallowIndex$Row"
  | 6 => .int
  | _ => .int
abbrev wsX30 : List Cond := u_ws RX3 TX3 8
theorem nmX3 : ∀ a, a < 8 → ∀ b, b < 8 → a ≠ b → (TX3 a).2.1 ≠ (TX3 b).2.1 := by decide +kernel
theorem tyX3_ok : ∀ k, k < 8 → parseFieldDescriptor (TX3 k).2.2.1 = some (tyX3 k) := by decide +kernel
abbrev cX3_init : ByteArray := prog_5_method_1_code
def yX3_init : MethodName := ⟨RX3, "<init>", "()V"⟩
abbrev cX3_run : ByteArray := prog_5_method_2_code
def yX3_run : MethodName := ⟨RX3, "run", "(Ljava/util/ArrayList;Ljava/util/ArrayList;LTallowIndex$View;II)V"⟩
abbrev cX3_scoreOf : ByteArray := prog_5_method_4_code
def yX3_scoreOf : MethodName := ⟨RX3, "scoreOf", "(I)I"⟩
abbrev cX3_gatherParts : ByteArray := prog_5_method_6_code
def yX3_gatherParts : MethodName := ⟨RX3, "gatherParts", "(Ljava/util/ArrayList;IZ)V"⟩
abbrev cX3_scoreWords : ByteArray := prog_5_method_7_code
def yX3_scoreWords : MethodName := ⟨RX3, "scoreWords", "(Ljava/util/ArrayList;LTallowIndex$Query;ILTallowIndex$View;)V"⟩
abbrev cX3_scoreJoined : ByteArray := prog_5_method_8_code
def yX3_scoreJoined : MethodName := ⟨RX3, "scoreJoined", "(ILTallowIndex$Query;I)V"⟩
abbrev cX3_cell : ByteArray := prog_5_method_9_code
def yX3_cell : MethodName := ⟨RX3, "cell", "(II)I"⟩
abbrev cX3_orderHits : ByteArray := prog_5_method_10_code
def yX3_orderHits : MethodName := ⟨RX3, "orderHits", "(Ljava/util/ArrayList;I)V"⟩
abbrev cX3_putInOrder : ByteArray := prog_5_method_11_code
def yX3_putInOrder : MethodName := ⟨RX3, "putInOrder", "(I)V"⟩
def RX4 : String := "TallowIndex$Shelf"
def TX4 : u_T := fun k => match k with
  | 0 => ("TallowIndex$Shelf", "states", "LTallowIndex$Row;", true)
  | 1 => ("TallowIndex$Shelf", "homes", "LTallowIndex$Row;", true)
  | 2 => ("TallowIndex$Shelf", "documentCount", "I", false)
  | _ => ("TallowIndex$Shelf", "segmentCount", "I", false)
def tyX4 : Nat → FieldType := fun k => match k with
  | 0 => .object "TallowIndex$Row"
  | 1 => .object "TallowIndex$Row"
  | 2 => .int
  | _ => .int
abbrev wsX40 : List Cond := u_ws RX4 TX4 4
theorem nmX4 : ∀ a, a < 4 → ∀ b, b < 4 → a ≠ b → (TX4 a).2.1 ≠ (TX4 b).2.1 := by decide +kernel
theorem tyX4_ok : ∀ k, k < 4 → parseFieldDescriptor (TX4 k).2.2.1 = some (tyX4 k) := by decide +kernel
abbrev cX4_init : ByteArray := prog_6_method_1_code
def yX4_init : MethodName := ⟨RX4, "<init>", "()V"⟩
abbrev cX4_addToBuffer : ByteArray := prog_6_method_2_code
def yX4_addToBuffer : MethodName := ⟨RX4, "addToBuffer", "()V"⟩
abbrev cX4_stateOf : ByteArray := prog_6_method_3_code
def yX4_stateOf : MethodName := ⟨RX4, "stateOf", "(I)C"⟩
abbrev cX4_lives : ByteArray := prog_6_method_4_code
def yX4_lives : MethodName := ⟨RX4, "lives", "(I)Z"⟩
abbrev cX4_takeOut : ByteArray := prog_6_method_5_code
def yX4_takeOut : MethodName := ⟨RX4, "takeOut", "(I)V"⟩
abbrev cX4_writeBuffer : ByteArray := prog_6_method_6_code
def yX4_writeBuffer : MethodName := ⟨RX4, "writeBuffer", "()I"⟩
abbrev cX4_hasSegment : ByteArray := prog_6_method_7_code
def yX4_hasSegment : MethodName := ⟨RX4, "hasSegment", "(I)Z"⟩
abbrev cX4_documentsIn : ByteArray := prog_6_method_8_code
def yX4_documentsIn : MethodName := ⟨RX4, "documentsIn", "(I)I"⟩
abbrev cX4_mergeWithNext : ByteArray := prog_6_method_9_code
def yX4_mergeWithNext : MethodName := ⟨RX4, "mergeWithNext", "(I)I"⟩
abbrev cX4_moveUp : ByteArray := prog_6_method_10_code
def yX4_moveUp : MethodName := ⟨RX4, "moveUp", "(II)V"⟩
abbrev cX4_takeOver : ByteArray := prog_6_method_11_code
def yX4_takeOver : MethodName := ⟨RX4, "takeOver", "(LTallowIndex$Shelf;)V"⟩
abbrev cX4_goBackTo : ByteArray := prog_6_method_12_code
def yX4_goBackTo : MethodName := ⟨RX4, "goBackTo", "(LTallowIndex$Shelf;)I"⟩
abbrev cX4_listPresent : ByteArray := prog_6_method_13_code
def yX4_listPresent : MethodName := ⟨RX4, "listPresent", "(LTallowIndex$Row;)I"⟩
abbrev cX4_inSegments : ByteArray := prog_6_method_14_code
def yX4_inSegments : MethodName := ⟨RX4, "inSegments", "()I"⟩
abbrev cX4_removedInSegments : ByteArray := prog_6_method_15_code
def yX4_removedInSegments : MethodName := ⟨RX4, "removedInSegments", "()I"⟩
def RX5 : String := "TallowIndex$Step"
def TX5 : u_T := fun k => match k with
  | _ => ("", "", "", false)
def tyX5 : Nat → FieldType := fun k => match k with
  | _ => .int
abbrev wsX50 : List Cond := u_ws RX5 TX5 0
theorem nmX5 : ∀ a, a < 0 → ∀ b, b < 0 → a ≠ b → (TX5 a).2.1 ≠ (TX5 b).2.1 := by decide +kernel
theorem tyX5_ok : ∀ k, k < 0 → parseFieldDescriptor (TX5 k).2.2.1 = some (tyX5 k) := by decide +kernel
abbrev cX5_change : ByteArray := prog_7_method_3_code
def yX5_change : MethodName := ⟨RX5, "change", "(LTallowIndex$Text;)V"⟩
def RX6 : String := "TallowIndex$Text"
def TX6 : u_T := fun k => match k with
  | 0 => ("TallowIndex$Text", "words", "LTallowIndex$Row;", true)
  | 1 => ("TallowIndex$Text", "places", "LTallowIndex$Row;", true)
  | 2 => ("TallowIndex$Text", "indexes", "LTallowIndex$Row;", true)
  | _ => ("TallowIndex$Text", "count", "I", false)
def tyX6 : Nat → FieldType := fun k => match k with
  | 0 => .object "TallowIndex$Row"
  | 1 => .object "TallowIndex$Row"
  | 2 => .object "TallowIndex$Row"
  | _ => .int
abbrev wsX60 : List Cond := u_ws RX6 TX6 4
theorem nmX6 : ∀ a, a < 4 → ∀ b, b < 4 → a ≠ b → (TX6 a).2.1 ≠ (TX6 b).2.1 := by decide +kernel
theorem tyX6_ok : ∀ k, k < 4 → parseFieldDescriptor (TX6 k).2.2.1 = some (tyX6 k) := by decide +kernel
abbrev cX6_init : ByteArray := prog_8_method_1_code
def yX6_init : MethodName := ⟨RX6, "<init>", "()V"⟩
abbrev cX6_append : ByteArray := prog_8_method_2_code
def yX6_append : MethodName := ⟨RX6, "append", "(III)V"⟩
abbrev cX6_lower : ByteArray := prog_8_method_3_code
def yX6_lower : MethodName := ⟨RX6, "lower", "()V"⟩
abbrev cX6_makeEven : ByteArray := prog_8_method_4_code
def yX6_makeEven : MethodName := ⟨RX6, "makeEven", "()V"⟩
abbrev cX6_takeOut : ByteArray := prog_8_method_5_code
def yX6_takeOut : MethodName := ⟨RX6, "takeOut", "(I)V"⟩
abbrev cX6_closeUp : ByteArray := prog_8_method_6_code
def yX6_closeUp : MethodName := ⟨RX6, "closeUp", "(I)V"⟩
abbrev cX6_putBeside : ByteArray := prog_8_method_7_code
def yX6_putBeside : MethodName := ⟨RX6, "putBeside", "(II)V"⟩
abbrev cX6_times : ByteArray := prog_8_method_8_code
def yX6_times : MethodName := ⟨RX6, "times", "(I)I"⟩
abbrev cX6_timesAt : ByteArray := prog_8_method_9_code
def yX6_timesAt : MethodName := ⟨RX6, "timesAt", "(II)I"⟩
abbrev cX6_isFirstAtPlace : ByteArray := prog_8_method_10_code
def yX6_isFirstAtPlace : MethodName := ⟨RX6, "isFirstAtPlace", "(I)Z"⟩
abbrev cX6_timesAhead : ByteArray := prog_8_method_11_code
def yX6_timesAhead : MethodName := ⟨RX6, "timesAhead", "(II)I"⟩
abbrev cX6_firstIndexAt : ByteArray := prog_8_method_12_code
def yX6_firstIndexAt : MethodName := ⟨RX6, "firstIndexAt", "(II)I"⟩
def RX7 : String := "TallowIndex$View"
def TX7 : u_T := fun k => match k with
  | 0 => ("TallowIndex$View", "number", "I", true)
  | 1 => ("TallowIndex$View", "present", "LTallowIndex$Row;", true)
  | _ => ("TallowIndex$View", "count", "I", true)
def tyX7 : Nat → FieldType := fun k => match k with
  | 0 => .int
  | 1 => .object "TallowIndex$Row"
  | _ => .int
abbrev wsX70 : List Cond := u_ws RX7 TX7 3
theorem nmX7 : ∀ a, a < 3 → ∀ b, b < 3 → a ≠ b → (TX7 a).2.1 ≠ (TX7 b).2.1 := by decide +kernel
theorem tyX7_ok : ∀ k, k < 3 → parseFieldDescriptor (TX7 k).2.2.1 = some (tyX7 k) := by decide +kernel
abbrev cX7_init : ByteArray := prog_9_method_1_code
def yX7_init : MethodName := ⟨RX7, "<init>", "(ILTallowIndex$Row;I)V"⟩
abbrev cX7_sees : ByteArray := prog_9_method_2_code
def yX7_sees : MethodName := ⟨RX7, "sees", "(I)Z"⟩
abbrev cX7_checkSees : ByteArray := prog_9_method_3_code
def yX7_checkSees : MethodName := ⟨RX7, "checkSees", "(I)V"⟩
def RX8 : String := "TallowIndex"
def TX8 : u_T := fun k => match k with
  | 0 => ("TallowIndex", "steps", "Ljava/util/ArrayList;", true)
  | 1 => ("TallowIndex", "documents", "Ljava/util/ArrayList;", true)
  | 2 => ("TallowIndex", "views", "Ljava/util/ArrayList;", true)
  | 3 => ("TallowIndex", "queries", "Ljava/util/ArrayList;", true)
  | 4 => ("TallowIndex", "shelf", "LTallowIndex$Shelf;", true)
  | 5 => ("TallowIndex", "committed", "LTallowIndex$Shelf;", true)
  | 6 => ("TallowIndex", "replica", "LTallowIndex$Row;", true)
  | 7 => ("TallowIndex", "search", "LTallowIndex$Search;", true)
  | 8 => ("TallowIndex", "opened", "LTallowIndex$Document;", false)
  | 9 => ("TallowIndex", "commits", "I", false)
  | 10 => ("TallowIndex", "viewsOpened", "I", false)
  | _ => ("TallowIndex", "bound", "I", false)
def tyX8 : Nat → FieldType := fun k => match k with
  | 0 => .object "java/util/ArrayList"
  | 1 => .object "java/util/ArrayList"
  | 2 => .object "java/util/ArrayList"
  | 3 => .object "java/util/ArrayList"
  | 4 => .object "TallowIndex$Shelf"
  | 5 => .object "TallowIndex$Shelf"
  | 6 => .object "TallowIndex$Row"
  | 7 => .object "TallowIndex$Search"
  | 8 => .object "TallowIndex$Document"
  | 9 => .int
  | 10 => .int
  | _ => .int
abbrev wsX80 : List Cond := u_ws RX8 TX8 12
theorem nmX8 : ∀ a, a < 12 → ∀ b, b < 12 → a ≠ b → (TX8 a).2.1 ≠ (TX8 b).2.1 := by decide +kernel
theorem tyX8_ok : ∀ k, k < 12 → parseFieldDescriptor (TX8 k).2.2.1 = some (tyX8 k) := by decide +kernel
abbrev cX8_init : ByteArray := prog_1_method_1_code
def yX8_init : MethodName := ⟨RX8, "<init>", "()V"⟩
abbrev cX8_open : ByteArray := prog_1_method_4_code
def yX8_open : MethodName := ⟨RX8, "open", "(II)I"⟩
abbrev cX8_addWord : ByteArray := prog_1_method_5_code
def yX8_addWord : MethodName := ⟨RX8, "addWord", "(I)I"⟩
abbrev cX8_close : ByteArray := prog_1_method_6_code
def yX8_close : MethodName := ⟨RX8, "close", "()I"⟩
abbrev cX8_remove : ByteArray := prog_1_method_7_code
def yX8_remove : MethodName := ⟨RX8, "remove", "(I)C"⟩
abbrev cX8_state : ByteArray := prog_1_method_8_code
def yX8_state : MethodName := ⟨RX8, "state", "(I)C"⟩
abbrev cX8_write : ByteArray := prog_1_method_11_code
def yX8_write : MethodName := ⟨RX8, "write", "()I"⟩
abbrev cX8_segments : ByteArray := prog_1_method_12_code
def yX8_segments : MethodName := ⟨RX8, "segments", "()I"⟩
abbrev cX8_size : ByteArray := prog_1_method_13_code
def yX8_size : MethodName := ⟨RX8, "size", "(I)I"⟩
abbrev cX8_merge : ByteArray := prog_1_method_14_code
def yX8_merge : MethodName := ⟨RX8, "merge", "(I)I"⟩
abbrev cX8_commit : ByteArray := prog_1_method_15_code
def yX8_commit : MethodName := ⟨RX8, "commit", "()I"⟩
abbrev cX8_crash : ByteArray := prog_1_method_16_code
def yX8_crash : MethodName := ⟨RX8, "crash", "()I"⟩
abbrev cX8_follow : ByteArray := prog_1_method_17_code
def yX8_follow : MethodName := ⟨RX8, "follow", "()I"⟩
abbrev cX8_isOnReplica : ByteArray := prog_1_method_18_code
def yX8_isOnReplica : MethodName := ⟨RX8, "isOnReplica", "(I)Z"⟩
abbrev cX8_openView : ByteArray := prog_1_method_19_code
def yX8_openView : MethodName := ⟨RX8, "openView", "()I"⟩
abbrev cX8_closeView : ByteArray := prog_1_method_20_code
def yX8_closeView : MethodName := ⟨RX8, "closeView", "(I)I"⟩
abbrev cX8_seen : ByteArray := prog_1_method_21_code
def yX8_seen : MethodName := ⟨RX8, "seen", "(I)I"⟩
abbrev cX8_ask : ByteArray := prog_1_method_22_code
def yX8_ask : MethodName := ⟨RX8, "ask", "(CIIII)I"⟩
abbrev cX8_scoreAlone : ByteArray := prog_1_method_27_code
def yX8_scoreAlone : MethodName := ⟨RX8, "scoreAlone", "(III)J"⟩
abbrev cX8_removedShare : ByteArray := prog_1_method_36_code
def yX8_removedShare : MethodName := ⟨RX8, "removedShare", "()F"⟩
abbrev cX8_isWord : ByteArray := prog_1_method_38_code
def yX8_isWord : MethodName := ⟨RX8, "isWord", "(I)Z"⟩
abbrev cX8_checkTag : ByteArray := prog_1_method_39_code
def yX8_checkTag : MethodName := ⟨RX8, "checkTag", "(I)V"⟩
abbrev cX8_checkDocument : ByteArray := prog_1_method_40_code
def yX8_checkDocument : MethodName := ⟨RX8, "checkDocument", "(I)V"⟩
abbrev cX8_checkQuery : ByteArray := prog_1_method_41_code
def yX8_checkQuery : MethodName := ⟨RX8, "checkQuery", "(I)V"⟩
abbrev cX8_slotOf : ByteArray := prog_1_method_43_code
def yX8_slotOf : MethodName := ⟨RX8, "slotOf", "(I)I"⟩
abbrev cX8_viewNumbered : ByteArray := prog_1_method_44_code
def yX8_viewNumbered : MethodName := ⟨RX8, "viewNumbered", "(I)LTallowIndex$View;"⟩
abbrev cX8_find : ByteArray := prog_1_method_45_code
def yX8_find : MethodName := ⟨RX8, "find", "(II)LTallowIndex$View;"⟩
def RX9 : String := "TallowIndexLaw$Store"
def TX9 : u_T := fun k => match k with
  | 0 => ("TallowIndexLaw$Store", "many", "I", false)
  | 1 => ("TallowIndexLaw$Store", "state", "[C", false)
  | 2 => ("TallowIndexLaw$Store", "segments", "I", false)
  | 3 => ("TallowIndexLaw$Store", "row", "[[I", false)
  | 4 => ("TallowIndexLaw$Store", "keptState", "[C", false)
  | 5 => ("TallowIndexLaw$Store", "kept", "I", false)
  | 6 => ("TallowIndexLaw$Store", "keptSegments", "I", false)
  | 7 => ("TallowIndexLaw$Store", "keptRow", "[[I", false)
  | 8 => ("TallowIndexLaw$Store", "isCommitted", "Z", false)
  | 9 => ("TallowIndexLaw$Store", "commits", "I", false)
  | 10 => ("TallowIndexLaw$Store", "views", "I", false)
  | 11 => ("TallowIndexLaw$Store", "viewNumber", "[I", true)
  | 12 => ("TallowIndexLaw$Store", "view", "[[Z", true)
  | 13 => ("TallowIndexLaw$Store", "numbers", "I", false)
  | _ => ("TallowIndexLaw$Store", "onReplica", "I", false)
def tyX9 : Nat → FieldType := fun k => match k with
  | 0 => .int
  | 1 => .array .char
  | 2 => .int
  | 3 => .array (.array .int)
  | 4 => .array .char
  | 5 => .int
  | 6 => .int
  | 7 => .array (.array .int)
  | 8 => .boolean
  | 9 => .int
  | 10 => .int
  | 11 => .array .int
  | 12 => .array (.array .boolean)
  | 13 => .int
  | _ => .int
abbrev wsX90 : List Cond := u_ws RX9 TX9 15
theorem nmX9 : ∀ a, a < 15 → ∀ b, b < 15 → a ≠ b → (TX9 a).2.1 ≠ (TX9 b).2.1 := by decide +kernel
theorem tyX9_ok : ∀ k, k < 15 → parseFieldDescriptor (TX9 k).2.2.1 = some (tyX9 k) := by decide +kernel
abbrev cX9_init : ByteArray := prog_11_method_1_code
def yX9_init : MethodName := ⟨RX9, "<init>", "()V"⟩
abbrev cX9_live : ByteArray := prog_11_method_2_code
def yX9_live : MethodName := ⟨RX9, "live", "(C)[I"⟩
abbrev cX9_write : ByteArray := prog_11_method_3_code
def yX9_write : MethodName := ⟨RX9, "write", "()I"⟩
abbrev cX9_merge : ByteArray := prog_11_method_4_code
def yX9_merge : MethodName := ⟨RX9, "merge", "(I)I"⟩
abbrev cX9_commit : ByteArray := prog_11_method_5_code
def yX9_commit : MethodName := ⟨RX9, "commit", "()V"⟩
abbrev cX9_crash : ByteArray := prog_11_method_6_code
def yX9_crash : MethodName := ⟨RX9, "crash", "()I"⟩
abbrev cX9_seen : ByteArray := prog_11_method_7_code
def yX9_seen : MethodName := ⟨RX9, "seen", "(I)I"⟩
def RX10 : String := "TallowIndexModel"
def TX10 : u_T := fun k => match k with
  | _ => ("", "", "", false)
def tyX10 : Nat → FieldType := fun k => match k with
  | _ => .int
abbrev wsX100 : List Cond := u_ws RX10 TX10 0
theorem nmX10 : ∀ a, a < 0 → ∀ b, b < 0 → a ≠ b → (TX10 a).2.1 ≠ (TX10 b).2.1 := by decide +kernel
theorem tyX10_ok : ∀ k, k < 0 → parseFieldDescriptor (TX10 k).2.2.1 = some (tyX10 k) := by decide +kernel
def RJx145de : String := "java/io/Serializable"
def TJx145de : u_T := fun k => match k with
  | _ => ("", "", "", false)
def tyJx145de : Nat → FieldType := fun k => match k with
  | _ => .int
abbrev wsJx145de0 : List Cond := u_ws RJx145de TJx145de 0
theorem nmJx145de : ∀ a, a < 0 → ∀ b, b < 0 → a ≠ b → (TJx145de a).2.1 ≠ (TJx145de b).2.1 := by decide +kernel
theorem tyJx145de_ok : ∀ k, k < 0 → parseFieldDescriptor (TJx145de k).2.2.1 = some (tyJx145de k) := by decide +kernel
def RJx00060 : String := "java/lang/ArrayIndexOutOfBoundsException"
def TJx00060 : u_T := fun k => match k with
  | 0 => ("java/lang/Throwable", "backtrace", "Ljava/lang/Object;", false)
  | 1 => ("java/lang/Throwable", "detailMessage", "Ljava/lang/String;", false)
  | 2 => ("java/lang/Throwable", "cause", "Ljava/lang/Throwable;", false)
  | 3 => ("java/lang/Throwable", "stackTrace", "[Ljava/lang/StackTraceElement;", false)
  | 4 => ("java/lang/Throwable", "depth", "I", false)
  | _ => ("java/lang/Throwable", "suppressedExceptions", "Ljava/util/List;", false)
def tyJx00060 : Nat → FieldType := fun k => match k with
  | 0 => .object "java/lang/Object"
  | 1 => .object "java/lang/String"
  | 2 => .object "java/lang/Throwable"
  | 3 => .array (.object "java/lang/StackTraceElement")
  | 4 => .int
  | _ => .object "java/util/List"
abbrev wsJx000600 : List Cond := u_ws RJx00060 TJx00060 6
theorem nmJx00060 : ∀ a, a < 6 → ∀ b, b < 6 → a ≠ b → (TJx00060 a).2.1 ≠ (TJx00060 b).2.1 := by decide +kernel
theorem tyJx00060_ok : ∀ k, k < 6 → parseFieldDescriptor (TJx00060 k).2.2.1 = some (tyJx00060 k) := by decide +kernel
abbrev cJx00060_init_a7421 : ByteArray := prog_15_method_2_code
def yJx00060_init_a7421 : MethodName := ⟨RJx00060, "<init>", "(Ljava/lang/String;)V"⟩
def RJx8e188 : String := "java/lang/Cloneable"
def TJx8e188 : u_T := fun k => match k with
  | _ => ("", "", "", false)
def tyJx8e188 : Nat → FieldType := fun k => match k with
  | _ => .int
abbrev wsJx8e1880 : List Cond := u_ws RJx8e188 TJx8e188 0
theorem nmJx8e188 : ∀ a, a < 0 → ∀ b, b < 0 → a ≠ b → (TJx8e188 a).2.1 ≠ (TJx8e188 b).2.1 := by decide +kernel
theorem tyJx8e188_ok : ∀ k, k < 0 → parseFieldDescriptor (TJx8e188 k).2.2.1 = some (tyJx8e188 k) := by decide +kernel
def RJxab1ab : String := "java/lang/Iterable"
def TJxab1ab : u_T := fun k => match k with
  | _ => ("", "", "", false)
def tyJxab1ab : Nat → FieldType := fun k => match k with
  | _ => .int
abbrev wsJxab1ab0 : List Cond := u_ws RJxab1ab TJxab1ab 0
theorem nmJxab1ab : ∀ a, a < 0 → ∀ b, b < 0 → a ≠ b → (TJxab1ab a).2.1 ≠ (TJxab1ab b).2.1 := by decide +kernel
theorem tyJxab1ab_ok : ∀ k, k < 0 → parseFieldDescriptor (TJxab1ab k).2.2.1 = some (tyJxab1ab k) := by decide +kernel
def RJ9 : String := "java/lang/Math"
def TJ9 : u_T := fun k => match k with
  | _ => ("", "", "", false)
def tyJ9 : Nat → FieldType := fun k => match k with
  | _ => .int
abbrev wsJ90 : List Cond := u_ws RJ9 TJ9 0
theorem nmJ9 : ∀ a, a < 0 → ∀ b, b < 0 → a ≠ b → (TJ9 a).2.1 ≠ (TJ9 b).2.1 := by decide +kernel
theorem tyJ9_ok : ∀ k, k < 0 → parseFieldDescriptor (TJ9 k).2.2.1 = some (tyJ9 k) := by decide +kernel
abbrev cJ9_max_7cf53 : ByteArray := prog_22_method_65_code
def yJ9_max_7cf53 : MethodName := ⟨RJ9, "max", "(II)I"⟩
abbrev cJ9_min_7cf53 : ByteArray := prog_22_method_69_code
def yJ9_min_7cf53 : MethodName := ⟨RJ9, "min", "(II)I"⟩
def RJ0 : String := "java/lang/String"
def TJ0 : u_T := fun k => match k with
  | 0 => ("java/lang/String", "value", "[B", true)
  | _ => ("java/lang/String", "coder", "B", true)
def tyJ0 : Nat → FieldType := fun k => match k with
  | 0 => .array .byte
  | _ => .byte
abbrev wsJ00 : List Cond := u_ws RJ0 TJ0 2
theorem nmJ0 : ∀ a, a < 2 → ∀ b, b < 2 → a ≠ b → (TJ0 a).2.1 ≠ (TJ0 b).2.1 := by decide +kernel
theorem tyJ0_ok : ∀ k, k < 2 → parseFieldDescriptor (TJ0 k).2.2.1 = some (tyJ0 k) := by decide +kernel
def RJ10 : String := "java/lang/System"
def TJ10 : u_T := fun k => match k with
  | _ => ("", "", "", false)
def tyJ10 : Nat → FieldType := fun k => match k with
  | _ => .int
abbrev wsJ100 : List Cond := u_ws RJ10 TJ10 0
theorem nmJ10 : ∀ a, a < 0 → ∀ b, b < 0 → a ≠ b → (TJ10 a).2.1 ≠ (TJ10 b).2.1 := by decide +kernel
theorem tyJ10_ok : ∀ k, k < 0 → parseFieldDescriptor (TJ10 k).2.2.1 = some (tyJ10 k) := by decide +kernel
def RJxa1e45 : String := "java/util/AbstractCollection"
def TJxa1e45 : u_T := fun k => match k with
  | _ => ("", "", "", false)
def tyJxa1e45 : Nat → FieldType := fun k => match k with
  | _ => .int
abbrev wsJxa1e450 : List Cond := u_ws RJxa1e45 TJxa1e45 0
theorem nmJxa1e45 : ∀ a, a < 0 → ∀ b, b < 0 → a ≠ b → (TJxa1e45 a).2.1 ≠ (TJxa1e45 b).2.1 := by decide +kernel
theorem tyJxa1e45_ok : ∀ k, k < 0 → parseFieldDescriptor (TJxa1e45 k).2.2.1 = some (tyJxa1e45 k) := by decide +kernel
abbrev cJxa1e45_init_da8c8 : ByteArray := prog_27_method_1_code
def yJxa1e45_init_da8c8 : MethodName := ⟨RJxa1e45, "<init>", "()V"⟩
def RJxc12de : String := "java/util/AbstractList"
def TJxc12de : u_T := fun k => match k with
  | _ => ("", "", "", false)
def tyJxc12de : Nat → FieldType := fun k => match k with
  | _ => .int
abbrev wsJxc12de0 : List Cond := u_ws RJxc12de TJxc12de 0
theorem nmJxc12de : ∀ a, a < 0 → ∀ b, b < 0 → a ≠ b → (TJxc12de a).2.1 ≠ (TJxc12de b).2.1 := by decide +kernel
theorem tyJxc12de_ok : ∀ k, k < 0 → parseFieldDescriptor (TJxc12de k).2.2.1 = some (tyJxc12de k) := by decide +kernel
abbrev cJxc12de_init_da8c8 : ByteArray := prog_28_method_1_code
def yJxc12de_init_da8c8 : MethodName := ⟨RJxc12de, "<init>", "()V"⟩
def RJx4a65c : String := "java/util/ArrayList"
def TJx4a65c : u_T := fun k => match k with
  | 0 => ("java/util/AbstractList", "modCount", "I", false)
  | 1 => ("java/util/ArrayList", "elementData", "[Ljava/lang/Object;", false)
  | _ => ("java/util/ArrayList", "size", "I", false)
def tyJx4a65c : Nat → FieldType := fun k => match k with
  | 0 => .int
  | 1 => .array (.object "java/lang/Object")
  | _ => .int
abbrev wsJx4a65c0 : List Cond := u_ws RJx4a65c TJx4a65c 3
theorem nmJx4a65c : ∀ a, a < 3 → ∀ b, b < 3 → a ≠ b → (TJx4a65c a).2.1 ≠ (TJx4a65c b).2.1 := by decide +kernel
theorem tyJx4a65c_ok : ∀ k, k < 3 → parseFieldDescriptor (TJx4a65c k).2.2.1 = some (tyJx4a65c k) := by decide +kernel
abbrev cJx4a65c_init_da8c8 : ByteArray := prog_29_method_2_code
def yJx4a65c_init_da8c8 : MethodName := ⟨RJx4a65c, "<init>", "()V"⟩
abbrev cJx4a65c_grow_92f84 : ByteArray := prog_29_method_6_code
def yJx4a65c_grow_92f84 : MethodName := ⟨RJx4a65c, "grow", "(I)[Ljava/lang/Object;"⟩
abbrev cJx4a65c_grow_d5877 : ByteArray := prog_29_method_7_code
def yJx4a65c_grow_d5877 : MethodName := ⟨RJx4a65c, "grow", "()[Ljava/lang/Object;"⟩
abbrev cJx4a65c_size_8abf5 : ByteArray := prog_29_method_8_code
def yJx4a65c_size_8abf5 : MethodName := ⟨RJx4a65c, "size", "()I"⟩
abbrev cJx4a65c_elementData_915e3 : ByteArray := prog_29_method_18_code
def yJx4a65c_elementData_915e3 : MethodName := ⟨RJx4a65c, "elementData", "(I)Ljava/lang/Object;"⟩
abbrev cJx4a65c_get_915e3 : ByteArray := prog_29_method_20_code
def yJx4a65c_get_915e3 : MethodName := ⟨RJx4a65c, "get", "(I)Ljava/lang/Object;"⟩
abbrev cJx4a65c_add_72be8 : ByteArray := prog_29_method_24_code
def yJx4a65c_add_72be8 : MethodName := ⟨RJx4a65c, "add", "(Ljava/lang/Object;[Ljava/lang/Object;I)V"⟩
abbrev cJx4a65c_add_9ea2d : ByteArray := prog_29_method_25_code
def yJx4a65c_add_9ea2d : MethodName := ⟨RJx4a65c, "add", "(Ljava/lang/Object;)Z"⟩
abbrev cJx4a65c_remove_915e3 : ByteArray := prog_29_method_29_code
def yJx4a65c_remove_915e3 : MethodName := ⟨RJx4a65c, "remove", "(I)Ljava/lang/Object;"⟩
abbrev cJx4a65c_fastRemove_b59b0 : ByteArray := prog_29_method_39_code
def yJx4a65c_fastRemove_b59b0 : MethodName := ⟨RJx4a65c, "fastRemove", "([Ljava/lang/Object;I)V"⟩
abbrev cJx4a65c_clear_da8c8 : ByteArray := prog_29_method_40_code
def yJx4a65c_clear_da8c8 : MethodName := ⟨RJx4a65c, "clear", "()V"⟩
def RJ7 : String := "java/util/Arrays"
def TJ7 : u_T := fun k => match k with
  | _ => ("", "", "", false)
def tyJ7 : Nat → FieldType := fun k => match k with
  | _ => .int
abbrev wsJ70 : List Cond := u_ws RJ7 TJ7 0
theorem nmJ7 : ∀ a, a < 0 → ∀ b, b < 0 → a ≠ b → (TJ7 a).2.1 ≠ (TJ7 b).2.1 := by decide +kernel
theorem tyJ7_ok : ∀ k, k < 0 → parseFieldDescriptor (TJ7 k).2.2.1 = some (tyJ7 k) := by decide +kernel
abbrev cJ7_copyOf_1904c : ByteArray := prog_30_method_119_code
def yJ7_copyOf_1904c : MethodName := ⟨RJ7, "copyOf", "([Ljava/lang/Object;I)[Ljava/lang/Object;"⟩
abbrev cJ7_copyOf_6403c : ByteArray := prog_30_method_120_code
def yJ7_copyOf_6403c : MethodName := ⟨RJ7, "copyOf", "([Ljava/lang/Object;ILjava/lang/Class;)[Ljava/lang/Object;"⟩
def RJx5ef63 : String := "java/util/Collection"
def TJx5ef63 : u_T := fun k => match k with
  | _ => ("", "", "", false)
def tyJx5ef63 : Nat → FieldType := fun k => match k with
  | _ => .int
abbrev wsJx5ef630 : List Cond := u_ws RJx5ef63 TJx5ef63 0
theorem nmJx5ef63 : ∀ a, a < 0 → ∀ b, b < 0 → a ≠ b → (TJx5ef63 a).2.1 ≠ (TJx5ef63 b).2.1 := by decide +kernel
theorem tyJx5ef63_ok : ∀ k, k < 0 → parseFieldDescriptor (TJx5ef63 k).2.2.1 = some (tyJx5ef63 k) := by decide +kernel
def RJxbd725 : String := "java/util/List"
def TJxbd725 : u_T := fun k => match k with
  | _ => ("", "", "", false)
def tyJxbd725 : Nat → FieldType := fun k => match k with
  | _ => .int
abbrev wsJxbd7250 : List Cond := u_ws RJxbd725 TJxbd725 0
theorem nmJxbd725 : ∀ a, a < 0 → ∀ b, b < 0 → a ≠ b → (TJxbd725 a).2.1 ≠ (TJxbd725 b).2.1 := by decide +kernel
theorem tyJxbd725_ok : ∀ k, k < 0 → parseFieldDescriptor (TJxbd725 k).2.2.1 = some (tyJxbd725 k) := by decide +kernel
def RJ15 : String := "java/util/Objects"
def TJ15 : u_T := fun k => match k with
  | _ => ("", "", "", false)
def tyJ15 : Nat → FieldType := fun k => match k with
  | _ => .int
abbrev wsJ150 : List Cond := u_ws RJ15 TJ15 0
theorem nmJ15 : ∀ a, a < 0 → ∀ b, b < 0 → a ≠ b → (TJ15 a).2.1 ≠ (TJ15 b).2.1 := by decide +kernel
theorem tyJ15_ok : ∀ k, k < 0 → parseFieldDescriptor (TJ15 k).2.2.1 = some (tyJ15 k) := by decide +kernel
abbrev cJ15_checkIndex_7cf53 : ByteArray := prog_33_method_17_code
def yJ15_checkIndex_7cf53 : MethodName := ⟨RJ15, "checkIndex", "(II)I"⟩
def RJxf0a74 : String := "java/util/RandomAccess"
def TJxf0a74 : u_T := fun k => match k with
  | _ => ("", "", "", false)
def tyJxf0a74 : Nat → FieldType := fun k => match k with
  | _ => .int
abbrev wsJxf0a740 : List Cond := u_ws RJxf0a74 TJxf0a74 0
theorem nmJxf0a74 : ∀ a, a < 0 → ∀ b, b < 0 → a ≠ b → (TJxf0a74 a).2.1 ≠ (TJxf0a74 b).2.1 := by decide +kernel
theorem tyJxf0a74_ok : ∀ k, k < 0 → parseFieldDescriptor (TJxf0a74 k).2.2.1 = some (tyJxf0a74 k) := by decide +kernel
def RJxa66e6 : String := "java/util/SequencedCollection"
def TJxa66e6 : u_T := fun k => match k with
  | _ => ("", "", "", false)
def tyJxa66e6 : Nat → FieldType := fun k => match k with
  | _ => .int
abbrev wsJxa66e60 : List Cond := u_ws RJxa66e6 TJxa66e6 0
theorem nmJxa66e6 : ∀ a, a < 0 → ∀ b, b < 0 → a ≠ b → (TJxa66e6 a).2.1 ≠ (TJxa66e6 b).2.1 := by decide +kernel
theorem tyJxa66e6_ok : ∀ k, k < 0 → parseFieldDescriptor (TJxa66e6 k).2.2.1 = some (tyJxa66e6 k) := by decide +kernel
def RJ8 : String := "jdk/internal/util/ArraysSupport"
def TJ8 : u_T := fun k => match k with
  | _ => ("", "", "", false)
def tyJ8 : Nat → FieldType := fun k => match k with
  | _ => .int
abbrev wsJ80 : List Cond := u_ws RJ8 TJ8 0
theorem nmJ8 : ∀ a, a < 0 → ∀ b, b < 0 → a ≠ b → (TJ8 a).2.1 ≠ (TJ8 b).2.1 := by decide +kernel
theorem tyJ8_ok : ∀ k, k < 0 → parseFieldDescriptor (TJ8 k).2.2.1 = some (tyJ8 k) := by decide +kernel
abbrev cJ8_newLength_cabcc : ByteArray := prog_36_method_27_code
def yJ8_newLength_cabcc : MethodName := ⟨RJ8, "newLength", "(III)I"⟩
abbrev cJ8_hugeLength_7cf53 : ByteArray := prog_36_method_28_code
def yJ8_hugeLength_7cf53 : MethodName := ⟨RJ8, "hugeLength", "(II)I"⟩
def RJ3 : String := "jdk/internal/util/Preconditions"
def TJ3 : u_T := fun k => match k with
  | _ => ("", "", "", false)
def tyJ3 : Nat → FieldType := fun k => match k with
  | _ => .int
abbrev wsJ30 : List Cond := u_ws RJ3 TJ3 0
theorem nmJ3 : ∀ a, a < 0 → ∀ b, b < 0 → a ≠ b → (TJ3 a).2.1 ≠ (TJ3 b).2.1 := by decide +kernel
theorem tyJ3_ok : ∀ k, k < 0 → parseFieldDescriptor (TJ3 k).2.2.1 = some (tyJ3 k) := by decide +kernel
abbrev cJ3_checkIndex_8e157 : ByteArray := prog_37_method_11_code
def yJ3_checkIndex_8e157 : MethodName := ⟨RJ3, "checkIndex", "(IILjava/util/function/BiFunction;)I"⟩
def RL : String := "TallowIndexLaw"
abbrev cL_cell : ByteArray := method_2_code
def yL_cell : MethodName := ⟨RL, "cell", "([II)I"⟩
abbrev cL_low : ByteArray := method_3_code
def yL_low : MethodName := ⟨RL, "low", "(II)I"⟩
abbrev cL_agrees : ByteArray := method_4_code
def yL_agrees : MethodName := ⟨RL, "agrees", "(LTallowIndex;LTallowIndexLaw$Store;)Z"⟩
abbrev cL_isSeen : ByteArray := method_5_code
def yL_isSeen : MethodName := ⟨RL, "isSeen", "(LTallowIndex;II)Z"⟩
abbrev cL_opens : ByteArray := method_6_code
def yL_opens : MethodName := ⟨RL, "opens", "(LTallowIndex;LTallowIndexLaw$Store;)Z"⟩
abbrev cL_closes : ByteArray := method_7_code
def yL_closes : MethodName := ⟨RL, "closes", "(LTallowIndex;LTallowIndexLaw$Store;I)Z"⟩
abbrev cL_closesText : ByteArray := method_8_code
def yL_closesText : MethodName := ⟨RL, "closesText", "(LTallowIndex;LTallowIndexLaw$Store;I)Z"⟩
abbrev cL_follows : ByteArray := method_9_code
def yL_follows : MethodName := ⟨RL, "follows", "(LTallowIndex;LTallowIndexLaw$Store;)Z"⟩
abbrev cL_acts : ByteArray := method_10_code
def yL_acts : MethodName := ⟨RL, "acts", "(LTallowIndex;LTallowIndexLaw$Store;I)Z"⟩
abbrev cL_law : ByteArray := code
def yL_law : MethodName := ⟨RL, "law", "([I)Z"⟩
abbrev vwCl : List vw_C := [(RJ0, TJ0, 2), (RJx00060, TJx00060, 6), (RJx4a65c, TJx4a65c, 3), (RX0, TX0, 4), (RX1, TX1, 6), (RX2, TX2, 1), (RX3, TX3, 8), (RX4, TX4, 4), (RX4, TX4, 4), (RX6, TX6, 4), (RX7, TX7, 3), (RX8, TX8, 12), (RX9, TX9, 15)]
