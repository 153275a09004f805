def RX0 : String := "WindowCards$Game"

def TX0 : u_T := fun k => match k with
  | 0 => ("WindowCards$Game", "table", "[I", true)
  | 1 => ("WindowCards$Game", "lies", "[I", true)
  | 2 => ("WindowCards$Game", "left", "[I", true)
  | 3 => ("WindowCards$Game", "got", "[I", true)
  | 4 => ("WindowCards$Game", "there", "Z", false)
  | 5 => ("WindowCards$Game", "cards", "I", false)
  | 6 => ("WindowCards$Game", "shows", "I", false)
  | 7 => ("WindowCards$Game", "lying", "I", false)
  | 8 => ("WindowCards$Game", "turn", "I", false)
  | _ => ("WindowCards$Game", "taken", "I", false)

def tyX0 : Nat → FieldType := fun k => match k with
  | 0 => .array .int
  | 1 => .array .int
  | 2 => .array .int
  | 3 => .array .int
  | 4 => .boolean
  | 5 => .int
  | 6 => .int
  | 7 => .int
  | 8 => .int
  | _ => .int

theorem nmX0 : ∀ a, a < 10 → ∀ b, b < 10 → a ≠ b → (TX0 a).2.1 ≠ (TX0 b).2.1 := by decide +kernel

theorem tyX0_ok : ∀ k, k < 10 → parseFieldDescriptor (TX0 k).2.2.1 = some (tyX0 k) := by decide +kernel

def RX1 : String := "WindowCards$OpenHands"

def TX1 : u_T := fun k => match k with
  | 0 => ("WindowCards$OpenHands", "cards", "[I", true)
  | 1 => ("WindowCards$OpenHands", "owned", "[I", true)
  | 2 => ("WindowCards$OpenHands", "leads", "[I", true)
  | 3 => ("WindowCards$OpenHands", "size", "I", false)
  | _ => ("WindowCards$OpenHands", "firstBest", "I", false)

def tyX1 : Nat → FieldType := fun k => match k with
  | 0 => .array .int
  | 1 => .array .int
  | 2 => .array .int
  | 3 => .int
  | _ => .int

theorem nmX1 : ∀ a, a < 5 → ∀ b, b < 5 → a ≠ b → (TX1 a).2.1 ≠ (TX1 b).2.1 := by decide +kernel

theorem tyX1_ok : ∀ k, k < 5 → parseFieldDescriptor (TX1 k).2.2.1 = some (tyX1 k) := by decide +kernel

def RX2 : String := "WindowCards$Row"

def TX2 : u_T := fun k => match k with
  | 0 => ("WindowCards$Row", "items", "[I", true)
  | 1 => ("WindowCards$Row", "there", "Z", false)
  | 2 => ("WindowCards$Row", "lane", "I", false)
  | _ => ("WindowCards$Row", "length", "I", false)

def tyX2 : Nat → FieldType := fun k => match k with
  | 0 => .array .int
  | 1 => .boolean
  | 2 => .int
  | _ => .int

theorem nmX2 : ∀ a, a < 4 → ∀ b, b < 4 → a ≠ b → (TX2 a).2.1 ≠ (TX2 b).2.1 := by decide +kernel

theorem tyX2_ok : ∀ k, k < 4 → parseFieldDescriptor (TX2 k).2.2.1 = some (tyX2 k) := by decide +kernel

def RX3 : String := "WindowCards$Tape"

def TX3 : u_T := fun k => match k with
  | 0 => ("WindowCards$Tape", "bytes", "[I", true)
  | 1 => ("WindowCards$Tape", "length", "I", false)
  | 2 => ("WindowCards$Tape", "token", "I", false)
  | 3 => ("WindowCards$Tape", "start", "I", false)
  | 4 => ("WindowCards$Tape", "end", "I", false)
  | _ => ("WindowCards$Tape", "value", "I", false)

def tyX3 : Nat → FieldType := fun k => match k with
  | 0 => .array .int
  | 1 => .int
  | 2 => .int
  | 3 => .int
  | 4 => .int
  | _ => .int

theorem nmX3 : ∀ a, a < 6 → ∀ b, b < 6 → a ≠ b → (TX3 a).2.1 ≠ (TX3 b).2.1 := by decide +kernel

theorem tyX3_ok : ∀ k, k < 6 → parseFieldDescriptor (TX3 k).2.2.1 = some (tyX3 k) := by decide +kernel

def RX4 : String := "WindowCards$Trace"

def TX4 : u_T := fun k => match k with
  | 0 => ("WindowCards$Trace", "numbers", "[I", true)
  | _ => ("WindowCards$Trace", "length", "I", false)

def tyX4 : Nat → FieldType := fun k => match k with
  | 0 => .array .int
  | _ => .int

theorem nmX4 : ∀ a, a < 2 → ∀ b, b < 2 → a ≠ b → (TX4 a).2.1 ≠ (TX4 b).2.1 := by decide +kernel

theorem tyX4_ok : ∀ k, k < 2 → parseFieldDescriptor (TX4 k).2.2.1 = some (tyX4 k) := by decide +kernel

def RX5 : String := "WindowCards"

def TX5 : u_T := fun k => match k with
  | 0 => ("WindowCards", "rows", "[LWindowCards$Row;", true)
  | 1 => ("WindowCards", "tape", "LWindowCards$Tape;", true)
  | 2 => ("WindowCards", "game", "LWindowCards$Game;", true)
  | 3 => ("WindowCards", "trial", "LWindowCards$Game;", true)
  | 4 => ("WindowCards", "images", "[LWindowCards$Game;", true)
  | 5 => ("WindowCards", "openHands", "LWindowCards$OpenHands;", true)
  | 6 => ("WindowCards", "heap", "[I", true)
  | 7 => ("WindowCards", "bodies", "LWindowCards$Trace;", true)
  | 8 => ("WindowCards", "latestFault", "I", false)
  | _ => ("WindowCards", "latestFinding", "I", false)

def tyX5 : Nat → FieldType := fun k => match k with
  | 0 => .array (.object "WindowCards$Row")
  | 1 => .object "WindowCards$Tape"
  | 2 => .object "WindowCards$Game"
  | 3 => .object "WindowCards$Game"
  | 4 => .array (.object "WindowCards$Game")
  | 5 => .object "WindowCards$OpenHands"
  | 6 => .array .int
  | 7 => .object "WindowCards$Trace"
  | 8 => .int
  | _ => .int

theorem nmX5 : ∀ a, a < 10 → ∀ b, b < 10 → a ≠ b → (TX5 a).2.1 ≠ (TX5 b).2.1 := by decide +kernel

theorem tyX5_ok : ∀ k, k < 10 → parseFieldDescriptor (TX5 k).2.2.1 = some (tyX5 k) := by decide +kernel

def RX6 : String := "WindowCardsModel"

def TX6 : u_T := fun k => match k with
  | 0 => ("WindowCardsModel", "row", "[I", true)
  | 1 => ("WindowCardsModel", "tape", "[I", true)
  | 2 => ("WindowCardsModel", "taped", "I", false)
  | 3 => ("WindowCardsModel", "fault", "I", false)
  | 4 => ("WindowCardsModel", "status", "I", false)
  | 5 => ("WindowCardsModel", "lanes", "[I", true)
  | 6 => ("WindowCardsModel", "sizes", "[I", true)
  | 7 => ("WindowCardsModel", "items", "[I", true)
  | 8 => ("WindowCardsModel", "traces", "[I", true)
  | 9 => ("WindowCardsModel", "traceMany", "I", false)
  | 10 => ("WindowCardsModel", "at", "I", false)
  | 11 => ("WindowCardsModel", "place", "I", false)
  | 12 => ("WindowCardsModel", "end", "I", false)
  | 13 => ("WindowCardsModel", "readTable", "[I", true)
  | 14 => ("WindowCardsModel", "readCards", "[I", true)
  | 15 => ("WindowCardsModel", "readHands", "[I", true)
  | 16 => ("WindowCardsModel", "readMany", "I", false)
  | 17 => ("WindowCardsModel", "turned", "[I", true)
  | 18 => ("WindowCardsModel", "tried", "[I", true)
  | 19 => ("WindowCardsModel", "levelShows", "[I", true)
  | 20 => ("WindowCardsModel", "levelHand", "[I", true)
  | 21 => ("WindowCardsModel", "levelLeft", "[I", true)
  | 22 => ("WindowCardsModel", "levelPlay", "[I", true)
  | 23 => ("WindowCardsModel", "levelGot", "[I", true)
  | 24 => ("WindowCardsModel", "levelBest", "[I", true)
  | 25 => ("WindowCardsModel", "bestPlay", "I", false)
  | _ => ("WindowCardsModel", "heap", "[I", true)

def tyX6 : Nat → FieldType := fun k => match k with
  | 0 => .array .int
  | 1 => .array .int
  | 2 => .int
  | 3 => .int
  | 4 => .int
  | 5 => .array .int
  | 6 => .array .int
  | 7 => .array .int
  | 8 => .array .int
  | 9 => .int
  | 10 => .int
  | 11 => .int
  | 12 => .int
  | 13 => .array .int
  | 14 => .array .int
  | 15 => .array .int
  | 16 => .int
  | 17 => .array .int
  | 18 => .array .int
  | 19 => .array .int
  | 20 => .array .int
  | 21 => .array .int
  | 22 => .array .int
  | 23 => .array .int
  | 24 => .array .int
  | 25 => .int
  | _ => .array .int

theorem nmX6 : ∀ a, a < 27 → ∀ b, b < 27 → a ≠ b → (TX6 a).2.1 ≠ (TX6 b).2.1 := by decide +kernel

theorem tyX6_ok : ∀ k, k < 27 → parseFieldDescriptor (TX6 k).2.2.1 = some (tyX6 k) := by decide +kernel

abbrev vwCl : List vw_C := [(RX0, TX0, 10), (RX1, TX1, 5), (RX2, TX2, 4), (RX3, TX3, 6), (RX4, TX4, 2), (RX5, TX5, 10), (RX6, TX6, 27)]

/-! the small machine's tables: classes by number, methods by number, what the constant pools link, each with its place among the words -/
def x_cns : List String := ["WindowCards$Game", "WindowCards$OpenHands", "WindowCards$Row", "WindowCards$Tape", "WindowCards$Trace", "WindowCards", "WindowCardsModel", "WindowCardsLaw", "java/lang/String", "java/lang/StringLatin1", "java/lang/Integer", "java/lang/Math", "java/util/Arrays", "jdk/internal/util/Preconditions"]
def x_cn (c : Nat) : String := x_cns.getD c ""
def x_T : Nat → u_T := fun c => match c with
  | 0 => TX0
  | 1 => TX1
  | 2 => TX2
  | 3 => TX3
  | 4 => TX4
  | 5 => TX5
  | _ => TX6
def x_ty : Nat → Nat → FieldType := fun c => match c with
  | 0 => tyX0
  | 1 => tyX1
  | 2 => tyX2
  | 3 => tyX3
  | 4 => tyX4
  | 5 => tyX5
  | _ => tyX6
def x_N (c : Nat) : Nat := [10, 5, 4, 6, 2, 10, 27].getD c 0
/-- a field, 32 times its class and its place: class, name, type -/
def x_fd (e : Nat) : String × String × String := if e / 32 = 8 then (if e % 32 = 0 then ("java/lang/String", "value", "[B") else ("java/lang/String", "coder", "B")) else ((x_T (e / 32) (e % 32)).1, (x_T (e / 32) (e % 32)).2.1, (x_T (e / 32) (e % 32)).2.2.1)
def x_ff (e : Nat) : Bool := (x_T (e / 32) (e % 32)).2.2.2
def x_mt_0 : List (Nat × MethodName × ByteArray × Nat × Option FieldType) := [(0, ⟨"WindowCards$Game", "<init>", "()V"⟩, prog_2_method_1_code, 1, none), (0, ⟨"WindowCards$Game", "clear", "()V"⟩, prog_2_method_2_code, 1, none), (0, ⟨"WindowCards$Game", "addCard", "(II)V"⟩, prog_2_method_3_code, 5, none), (0, ⟨"WindowCards$Game", "mirrored", "(I)I"⟩, prog_2_method_16_code, 6, (some .int)), (0, ⟨"WindowCards$Game", "turned", "(I)I"⟩, prog_2_method_15_code, 6, (some .int)), (0, ⟨"WindowCards$Game", "deal", "()V"⟩, prog_2_method_4_code, 1, none), (0, ⟨"WindowCards$Game", "handAfter", "(I)I"⟩, prog_2_method_14_code, 2, (some .int)), (0, ⟨"WindowCards$Game", "become", "(LWindowCards$Game;)V"⟩, prog_2_method_5_code, 2, none), (0, ⟨"WindowCards$Game", "lie", "(II)I"⟩, prog_2_method_6_code, 4, (some .int)), (0, ⟨"WindowCards$Game", "worthOf", "(I)I"⟩, prog_2_method_8_code, 4, (some .int)), (0, ⟨"WindowCards$Game", "mayLay", "(I)Z"⟩, prog_2_method_12_code, 2, (some .boolean)), (0, ⟨"WindowCards$Game", "playable", "()I"⟩, prog_2_method_10_code, 1, (some .int)), (0, ⟨"WindowCards$Game", "lay", "(II)I"⟩, prog_2_method_13_code, 4, (some .int)), (0, ⟨"WindowCards$Game", "cardsLeft", "()I"⟩, prog_2_method_9_code, 1, (some .int)), (0, ⟨"WindowCards$Game", "waiting", "()I"⟩, prog_2_method_11_code, 1, (some .int)), (0, ⟨"WindowCards$Game", "unlikeWays", "(I)I"⟩, prog_2_method_7_code, 5, (some .int)), (1, ⟨"WindowCards$OpenHands", "<init>", "()V"⟩, prog_3_method_1_code, 1, none), (1, ⟨"WindowCards$OpenHands", "begin", "(LWindowCards$Game;)V"⟩, prog_3_method_2_code, 4, none), (1, ⟨"WindowCards$OpenHands", "firstState", "(LWindowCards$Game;)I"⟩, prog_3_method_3_code, 2, (some .int)), (1, ⟨"WindowCards$OpenHands", "stateOf", "(III)I"⟩, prog_3_method_7_code, 3, (some .int)), (1, ⟨"WindowCards$OpenHands", "handOf", "(I)I"⟩, prog_3_method_6_code, 2, (some .int)), (1, ⟨"WindowCards$OpenHands", "holds", "(III)Z"⟩, prog_3_method_5_code, 4, (some .boolean)), (1, ⟨"WindowCards$OpenHands", "stateAfter", "(III)I"⟩, prog_3_method_4_code, 7, (some .int)), (2, ⟨"WindowCards$Row", "<init>", "()V"⟩, prog_4_method_1_code, 1, none)]
def x_mt_1 : List (Nat × MethodName × ByteArray × Nat × Option FieldType) := [(2, ⟨"WindowCards$Row", "begin", "(II)V"⟩, prog_4_method_2_code, 3, none), (2, ⟨"WindowCards$Row", "holdsRun", "(II)Z"⟩, prog_4_method_3_code, 3, (some .boolean)), (2, ⟨"WindowCards$Row", "narrowed", "(I)I"⟩, prog_4_method_5_code, 2, (some .int)), (2, ⟨"WindowCards$Row", "item", "(I)I"⟩, prog_4_method_4_code, 2, (some .int)), (3, ⟨"WindowCards$Tape", "<init>", "()V"⟩, prog_5_method_1_code, 1, none), (3, ⟨"WindowCards$Tape", "append", "(I)V"⟩, prog_5_method_2_code, 2, none), (3, ⟨"WindowCards$Tape", "rewind", "()V"⟩, prog_5_method_3_code, 1, none), (3, ⟨"WindowCards$Tape", "advance", "()V"⟩, prog_5_method_4_code, 1, none), (3, ⟨"WindowCards$Tape", "byteAt", "(I)I"⟩, prog_5_method_9_code, 2, (some .int)), (3, ⟨"WindowCards$Tape", "isBlank", "(I)Z"⟩, prog_5_method_10_code, 1, (some .boolean)), (3, ⟨"WindowCards$Tape", "isLetter", "(I)Z"⟩, prog_5_method_11_code, 1, (some .boolean)), (3, ⟨"WindowCards$Tape", "takeName", "()V"⟩, prog_5_method_7_code, 1, none), (3, ⟨"WindowCards$Tape", "isFigure", "(I)Z"⟩, prog_5_method_12_code, 1, (some .boolean)), (3, ⟨"WindowCards$Tape", "takeNumber", "()V"⟩, prog_5_method_8_code, 1, none), (3, ⟨"WindowCards$Tape", "isWord", "(Ljava/lang/String;)Z"⟩, prog_5_method_5_code, 3, (some .boolean)), (3, ⟨"WindowCards$Tape", "windows", "()I"⟩, prog_5_method_6_code, 4, (some .int)), (4, ⟨"WindowCards$Trace", "<init>", "()V"⟩, prog_6_method_1_code, 1, none), (4, ⟨"WindowCards$Trace", "leave", "(I)V"⟩, prog_6_method_2_code, 2, none), (5, ⟨"WindowCards", "<init>", "()V"⟩, prog_1_method_1_code, 2, none), (5, ⟨"WindowCards", "row", "(III)I"⟩, prog_1_method_2_code, 4, (some .int)), (5, ⟨"WindowCards", "isRow", "(I)Z"⟩, prog_1_method_31_code, 1, (some .boolean)), (5, ⟨"WindowCards", "found", "(I)I"⟩, prog_1_method_29_code, 2, (some .int)), (5, ⟨"WindowCards", "passed", "(I)I"⟩, prog_1_method_30_code, 2, (some .int)), (5, ⟨"WindowCards", "set", "(III)I"⟩, prog_1_method_3_code, 5, (some .int))]
def x_mt_2 : List (Nat × MethodName × ByteArray × Nat × Option FieldType) := [(5, ⟨"WindowCards", "copy", "(IIIII)I"⟩, prog_1_method_4_code, 8, (some .int)), (5, ⟨"WindowCards", "drop", "(I)I"⟩, prog_1_method_5_code, 3, (some .int)), (5, ⟨"WindowCards", "feed", "(JI)I"⟩, prog_1_method_6_code, 5, (some .int)), (5, ⟨"WindowCards", "game", "()I"⟩, prog_1_method_7_code, 3, (some .int)), (5, ⟨"WindowCards", "readGame", "(LWindowCards$Tape;LWindowCards$Game;)I"⟩, prog_1_method_37_code, 4, (some .int)), (5, ⟨"WindowCards", "readTable", "(LWindowCards$Tape;LWindowCards$Game;)I"⟩, prog_1_method_38_code, 4, (some .int)), (5, ⟨"WindowCards", "numberFault", "(LWindowCards$Tape;I)I"⟩, prog_1_method_41_code, 2, (some .int)), (5, ⟨"WindowCards", "readSign", "(LWindowCards$Tape;)I"⟩, prog_1_method_40_code, 1, (some .int)), (5, ⟨"WindowCards", "readCard", "(LWindowCards$Tape;LWindowCards$Game;)I"⟩, prog_1_method_39_code, 4, (some .int)), (5, ⟨"WindowCards", "fault", "()I"⟩, prog_1_method_8_code, 1, (some .int)), (5, ⟨"WindowCards", "holes", "(II)I"⟩, prog_1_method_9_code, 3, (some .int)), (5, ⟨"WindowCards", "isPlay", "(II)Z"⟩, prog_1_method_33_code, 3, (some .boolean)), (5, ⟨"WindowCards", "isCard", "(I)Z"⟩, prog_1_method_32_code, 2, (some .boolean)), (5, ⟨"WindowCards", "worth", "(I)I"⟩, prog_1_method_10_code, 2, (some .int)), (5, ⟨"WindowCards", "arePlaces", "(I)Z"⟩, prog_1_method_34_code, 1, (some .boolean)), (5, ⟨"WindowCards", "play", "(II)I"⟩, prog_1_method_11_code, 3, (some .int)), (5, ⟨"WindowCards", "plays", "(III)I"⟩, prog_1_method_12_code, 6, (some .int)), (5, ⟨"WindowCards", "arePlays", "(LWindowCards$Row;II)Z"⟩, prog_1_method_35_code, 6, (some .boolean)), (5, ⟨"WindowCards", "layAll", "(LWindowCards$Game;LWindowCards$Row;II)Z"⟩, prog_1_method_42_code, 6, (some .boolean)), (5, ⟨"WindowCards", "lots", "(II)I"⟩, prog_1_method_13_code, 6, (some .int)), (5, ⟨"WindowCards", "layByLot", "(LWindowCards$Game;J)V"⟩, prog_1_method_43_code, 5, none), (5, ⟨"WindowCards", "bitAt", "(II)I"⟩, prog_1_method_44_code, 4, (some .int)), (5, ⟨"WindowCards", "now", "(I)I"⟩, prog_1_method_14_code, 2, (some .int)), (5, ⟨"WindowCards", "best", "(I)I"⟩, prog_1_method_15_code, 4, (some .int))]
def x_mt_3 : List (Nat × MethodName × ByteArray × Nat × Option FieldType) := [(5, ⟨"WindowCards", "leadFrom", "(LWindowCards$Game;LWindowCards$OpenHands;II)I"⟩, prog_1_method_45_code, 13, (some .int)), (5, ⟨"WindowCards", "mean", "(III)I"⟩, prog_1_method_16_code, 10, (some .int)), (5, ⟨"WindowCards", "worthOfAll", "(LWindowCards$Game;II)I"⟩, prog_1_method_46_code, 6, (some .int)), (5, ⟨"WindowCards", "sharedDivisor", "(II)I"⟩, prog_1_method_47_code, 6, (some .int)), (5, ⟨"WindowCards", "fewest", "(II)I"⟩, prog_1_method_17_code, 4, (some .int)), (5, ⟨"WindowCards", "findHeap", "(LWindowCards$Game;[IIIIII)Z"⟩, prog_1_method_48_code, 10, (some .boolean)), (5, ⟨"WindowCards", "triples", "(I)I"⟩, prog_1_method_18_code, 6, (some .int)), (5, ⟨"WindowCards", "canShut", "(LWindowCards$Game;III)Z"⟩, prog_1_method_49_code, 7, (some .boolean)), (5, ⟨"WindowCards", "alike", "(II)I"⟩, prog_1_method_19_code, 3, (some .int)), (5, ⟨"WindowCards", "classOf", "(LWindowCards$Game;I)I"⟩, prog_1_method_50_code, 5, (some .int)), (5, ⟨"WindowCards", "leastAlike", "(LWindowCards$Game;I)I"⟩, prog_1_method_51_code, 4, (some .int)), (5, ⟨"WindowCards", "fit", "(III)I"⟩, prog_1_method_20_code, 6, (some .int)), (5, ⟨"WindowCards", "fittingWay", "(LWindowCards$Game;III)I"⟩, prog_1_method_52_code, 5, (some .int)), (5, ⟨"WindowCards", "image", "(I)I"⟩, prog_1_method_21_code, 2, (some .int)), (5, ⟨"WindowCards", "restore", "(I)I"⟩, prog_1_method_22_code, 2, (some .int)), (5, ⟨"WindowCards", "kind", "(I)I"⟩, prog_1_method_23_code, 2, (some .int)), (5, ⟨"WindowCards", "kindOf", "(LWindowCards$Game;I)I"⟩, prog_1_method_53_code, 2, (some .int)), (5, ⟨"WindowCards", "isOfKind", "(LWindowCards$Game;II)Z"⟩, prog_1_method_54_code, 5, (some .boolean)), (5, ⟨"WindowCards", "as", "(II)I"⟩, prog_1_method_24_code, 3, (some .int)), (5, ⟨"WindowCards", "ask", "(II)I"⟩, prog_1_method_25_code, 3, (some .int)), (5, ⟨"WindowCards", "bodyFor", "(LWindowCards$Game;II)I"⟩, prog_1_method_55_code, 5, (some .int)), (5, ⟨"WindowCards", "body", "(ILWindowCards$Game;ILWindowCards$Trace;I)I"⟩, prog_1_method_56_code, 7, (some .int)), (5, ⟨"WindowCards", "trace", "(I)I"⟩, prog_1_method_26_code, 2, (some .int)), (5, ⟨"WindowCards", "count", "(I)I"⟩, prog_1_method_27_code, 2, (some .int))]
def x_mt_4 : List (Nat × MethodName × ByteArray × Nat × Option FieldType) := [(5, ⟨"WindowCards", "rowsThere", "()I"⟩, prog_1_method_36_code, 3, (some .int)), (5, ⟨"WindowCards", "status", "()I"⟩, prog_1_method_28_code, 1, (some .int)), (6, ⟨"WindowCardsModel", "<init>", "()V"⟩, prog_8_method_1_code, 1, none), (6, ⟨"WindowCardsModel", "row", "(III)I"⟩, prog_8_method_8_code, 5, (some .int)), (6, ⟨"WindowCardsModel", "isRow", "(I)Z"⟩, prog_8_method_7_code, 1, (some .boolean)), (6, ⟨"WindowCardsModel", "in", "(JJJ)Z"⟩, prog_8_method_2_code, 6, (some .boolean)), (6, ⟨"WindowCardsModel", "find", "(I)I"⟩, prog_8_method_5_code, 2, (some .int)), (6, ⟨"WindowCardsModel", "give", "(I)I"⟩, prog_8_method_6_code, 2, (some .int)), (6, ⟨"WindowCardsModel", "set", "(III)I"⟩, prog_8_method_9_code, 4, (some .int)), (6, ⟨"WindowCardsModel", "copy", "(IIIII)I"⟩, prog_8_method_11_code, 8, (some .int)), (6, ⟨"WindowCardsModel", "isSpan", "(III)Z"⟩, prog_8_method_10_code, 4, (some .boolean)), (6, ⟨"WindowCardsModel", "drop", "(I)I"⟩, prog_8_method_12_code, 2, (some .int)), (6, ⟨"WindowCardsModel", "feed", "(JI)I"⟩, prog_8_method_13_code, 5, (some .int)), (6, ⟨"WindowCardsModel", "game", "()I"⟩, prog_8_method_26_code, 4, (some .int)), (6, ⟨"WindowCardsModel", "readsAll", "()Z"⟩, prog_8_method_23_code, 1, (some .boolean)), (6, ⟨"WindowCardsModel", "token", "()V"⟩, prog_8_method_15_code, 1, none), (6, ⟨"WindowCardsModel", "sort", "(I)I"⟩, prog_8_method_14_code, 1, (some .int)), (6, ⟨"WindowCardsModel", "readsTable", "()Z"⟩, prog_8_method_19_code, 3, (some .boolean)), (6, ⟨"WindowCardsModel", "isWord", "(II)Z"⟩, prog_8_method_16_code, 5, (some .boolean)), (6, ⟨"WindowCardsModel", "number", "(I)I"⟩, prog_8_method_18_code, 4, (some .int)), (6, ⟨"WindowCardsModel", "readsSign", "()Z"⟩, prog_8_method_20_code, 1, (some .boolean)), (6, ⟨"WindowCardsModel", "isSign", "()Z"⟩, prog_8_method_17_code, 1, (some .boolean)), (6, ⟨"WindowCardsModel", "readsCard", "()Z"⟩, prog_8_method_22_code, 2, (some .boolean)), (6, ⟨"WindowCardsModel", "readsHoles", "()Z"⟩, prog_8_method_21_code, 4, (some .boolean))]
def x_mt_5 : List (Nat × MethodName × ByteArray × Nat × Option FieldType) := [(6, ⟨"WindowCardsModel", "layTurned", "()V"⟩, prog_8_method_25_code, 2, none), (6, ⟨"WindowCardsModel", "holesOf", "(II)I"⟩, prog_8_method_24_code, 8, (some .int)), (6, ⟨"WindowCardsModel", "has", "(II)Z"⟩, prog_8_method_3_code, 2, (some .boolean)), (6, ⟨"WindowCardsModel", "fault", "()I"⟩, prog_8_method_27_code, 1, (some .int)), (6, ⟨"WindowCardsModel", "holes", "(II)I"⟩, prog_8_method_31_code, 3, (some .int)), (6, ⟨"WindowCardsModel", "isCard", "(I)Z"⟩, prog_8_method_28_code, 2, (some .boolean)), (6, ⟨"WindowCardsModel", "isWay", "(I)Z"⟩, prog_8_method_29_code, 1, (some .boolean)), (6, ⟨"WindowCardsModel", "worth", "(I)I"⟩, prog_8_method_33_code, 2, (some .int)), (6, ⟨"WindowCardsModel", "isPlaces", "(I)Z"⟩, prog_8_method_30_code, 1, (some .boolean)), (6, ⟨"WindowCardsModel", "worthOf", "(I)I"⟩, prog_8_method_32_code, 4, (some .int)), (6, ⟨"WindowCardsModel", "play", "(II)I"⟩, prog_8_method_36_code, 3, (some .int)), (6, ⟨"WindowCardsModel", "isInHand", "(I)Z"⟩, prog_8_method_34_code, 2, (some .boolean)), (6, ⟨"WindowCardsModel", "playOf", "(I)I"⟩, prog_8_method_35_code, 5, (some .int)), (6, ⟨"WindowCardsModel", "plays", "(III)I"⟩, prog_8_method_38_code, 9, (some .int)), (6, ⟨"WindowCardsModel", "refuses", "(II)I"⟩, prog_8_method_37_code, 5, (some .int)), (6, ⟨"WindowCardsModel", "lots", "(II)I"⟩, prog_8_method_39_code, 10, (some .int)), (6, ⟨"WindowCardsModel", "bits", "(I)I"⟩, prog_8_method_4_code, 3, (some .int)), (6, ⟨"WindowCardsModel", "now", "(I)I"⟩, prog_8_method_41_code, 2, (some .int)), (6, ⟨"WindowCardsModel", "isOver", "()Z"⟩, prog_8_method_40_code, 1, (some .boolean)), (6, ⟨"WindowCardsModel", "best", "(I)I"⟩, prog_8_method_45_code, 2, (some .int)), (6, ⟨"WindowCardsModel", "layBest", "()V"⟩, prog_8_method_44_code, 4, none), (6, ⟨"WindowCardsModel", "openLevel", "(III)V"⟩, prog_8_method_42_code, 4, none), (6, ⟨"WindowCardsModel", "goDown", "(I)Z"⟩, prog_8_method_43_code, 5, (some .boolean)), (6, ⟨"WindowCardsModel", "mean", "(III)I"⟩, prog_8_method_47_code, 12, (some .int))]
def x_mt_6 : List (Nat × MethodName × ByteArray × Nat × Option FieldType) := [(6, ⟨"WindowCardsModel", "divisor", "(II)I"⟩, prog_8_method_46_code, 5, (some .int)), (6, ⟨"WindowCardsModel", "fewest", "(II)I"⟩, prog_8_method_50_code, 4, (some .int)), (6, ⟨"WindowCardsModel", "layHeap", "(I)I"⟩, prog_8_method_49_code, 7, (some .int)), (6, ⟨"WindowCardsModel", "least", "(I)I"⟩, prog_8_method_48_code, 1, (some .int)), (6, ⟨"WindowCardsModel", "triples", "(I)I"⟩, prog_8_method_52_code, 6, (some .int)), (6, ⟨"WindowCardsModel", "shuts", "(III)Z"⟩, prog_8_method_51_code, 6, (some .boolean)), (6, ⟨"WindowCardsModel", "alike", "(II)I"⟩, prog_8_method_56_code, 6, (some .int)), (6, ⟨"WindowCardsModel", "waysOf", "(I)I"⟩, prog_8_method_55_code, 6, (some .int)), (6, ⟨"WindowCardsModel", "likeOf", "(I)I"⟩, prog_8_method_54_code, 3, (some .int)), (6, ⟨"WindowCardsModel", "areAlike", "(II)Z"⟩, prog_8_method_53_code, 5, (some .boolean)), (6, ⟨"WindowCardsModel", "fit", "(III)I"⟩, prog_8_method_58_code, 6, (some .int)), (6, ⟨"WindowCardsModel", "fitOf", "(III)I"⟩, prog_8_method_57_code, 5, (some .int)), (6, ⟨"WindowCardsModel", "image", "(I)I"⟩, prog_8_method_60_code, 2, (some .int)), (6, ⟨"WindowCardsModel", "move", "(II)V"⟩, prog_8_method_59_code, 4, none), (6, ⟨"WindowCardsModel", "restore", "(I)I"⟩, prog_8_method_61_code, 2, (some .int)), (6, ⟨"WindowCardsModel", "kind", "(I)I"⟩, prog_8_method_63_code, 2, (some .int)), (6, ⟨"WindowCardsModel", "kindOf", "(I)I"⟩, prog_8_method_62_code, 4, (some .int)), (6, ⟨"WindowCardsModel", "as", "(II)I"⟩, prog_8_method_64_code, 5, (some .int)), (6, ⟨"WindowCardsModel", "ask", "(II)I"⟩, prog_8_method_72_code, 3, (some .int)), (6, ⟨"WindowCardsModel", "sizeOf", "(I)I"⟩, prog_8_method_71_code, 3, (some .int)), (6, ⟨"WindowCardsModel", "leave", "(I)V"⟩, prog_8_method_65_code, 2, none), (6, ⟨"WindowCardsModel", "piercedSize", "(I)I"⟩, prog_8_method_70_code, 3, (some .int)), (6, ⟨"WindowCardsModel", "lentSize", "(I)I"⟩, prog_8_method_66_code, 2, (some .int)), (6, ⟨"WindowCardsModel", "markOf", "(I)I"⟩, prog_8_method_69_code, 4, (some .int))]
def x_mt_7 : List (Nat × MethodName × ByteArray × Nat × Option FieldType) := [(6, ⟨"WindowCardsModel", "piercedMark", "(I)I"⟩, prog_8_method_68_code, 3, (some .int)), (6, ⟨"WindowCardsModel", "lentMark", "(I)I"⟩, prog_8_method_67_code, 2, (some .int)), (6, ⟨"WindowCardsModel", "trace", "(I)I"⟩, prog_8_method_73_code, 2, (some .int)), (6, ⟨"WindowCardsModel", "count", "(I)I"⟩, prog_8_method_74_code, 4, (some .int)), (6, ⟨"WindowCardsModel", "status", "()I"⟩, prog_8_method_75_code, 1, (some .int)), (8, ⟨"java/lang/String", "length", "()I"⟩, prog_11_method_54_code, 1, (some .int)), (8, ⟨"java/lang/String", "coder", "()B"⟩, prog_11_method_152_code, 1, (some .byte)), (8, ⟨"java/lang/String", "charAt", "(I)C"⟩, prog_11_method_56_code, 2, (some .char)), (8, ⟨"java/lang/String", "isLatin1", "()Z"⟩, prog_11_method_154_code, 1, (some .boolean)), (8, ⟨"java/lang/String", "checkIndex", "(II)V"⟩, prog_11_method_155_code, 2, none), (9, ⟨"java/lang/StringLatin1", "charAt", "([BI)C"⟩, prog_12_method_2_code, 2, (some .char)), (10, ⟨"java/lang/Integer", "bitCount", "(I)I"⟩, prog_9_method_49_code, 1, (some .int)), (11, ⟨"java/lang/Math", "abs", "(I)I"⟩, prog_10_method_59_code, 1, (some .int)), (11, ⟨"java/lang/Math", "max", "(II)I"⟩, prog_10_method_65_code, 2, (some .int)), (12, ⟨"java/util/Arrays", "fill", "([II)V"⟩, prog_15_method_103_code, 4, none), (13, ⟨"jdk/internal/util/Preconditions", "checkIndex", "(IILjava/util/function/BiFunction;)I"⟩, prog_16_method_11_code, 3, (some .int)), (7, x, code, 4, ret)]
def x_mt : List (Nat × MethodName × ByteArray × Nat × Option FieldType) := x_mt_0 ++ (x_mt_1 ++ (x_mt_2 ++ (x_mt_3 ++ (x_mt_4 ++ (x_mt_5 ++ (x_mt_6 ++ (x_mt_7)))))))
def x_mw_0 : List (Nat × Nat × Nat × Nat × Nat × Nat) := [(1, 2, 107, 106, 0, 50), (1, 1, 313, 311, 312, 50), (3, 1, 419, 417, 418, 50), (1, 0, 422, 421, 0, 50), (1, 0, 425, 424, 0, 50), (1, 1, 430, 428, 429, 50), (2, 1, 434, 433, 5, 50), (2, 1, 439, 437, 438, 50), (3, 1, 461, 459, 460, 50), (2, 1, 473, 471, 472, 50), (2, 1, 481, 479, 480, 50), (1, 1, 485, 483, 484, 50), (3, 1, 489, 487, 488, 50), (1, 1, 540, 538, 539, 50), (1, 1, 579, 577, 578, 50), (2, 1, 619, 617, 618, 50), (1, 2, 158, 157, 0, 51), (2, 1, 545, 543, 544, 51), (2, 1, 551, 549, 550, 51), (3, 0, 554, 553, 0, 51), (2, 1, 562, 560, 561, 51), (4, 1, 566, 564, 565, 51), (4, 1, 570, 568, 569, 51), (1, 2, 197, 196, 0, 53)]
def x_mw_1 : List (Nat × Nat × Nat × Nat × Nat × Nat) := [(3, 1, 263, 261, 262, 53), (3, 1, 278, 276, 277, 53), (2, 1, 282, 280, 281, 53), (2, 1, 504, 502, 503, 53), (1, 2, 77, 76, 0, 49), (2, 1, 302, 300, 301, 49), (1, 1, 317, 315, 316, 49), (1, 1, 321, 319, 320, 49), (2, 1, 325, 324, 2, 49), (1, 0, 328, 327, 0, 49), (1, 0, 331, 330, 0, 49), (1, 1, 335, 334, 3, 49), (1, 0, 338, 337, 0, 49), (1, 1, 342, 341, 4, 49), (2, 1, 350, 348, 349, 49), (1, 1, 413, 411, 412, 49), (1, 2, 183, 182, 0, 52), (2, 1, 666, 664, 665, 52), (1, 2, 67, 66, 0, 48), (4, 1, 250, 248, 249, 48), (1, 0, 253, 252, 0, 48), (2, 1, 258, 257, 0, 48), (2, 1, 270, 269, 1, 48), (4, 1, 274, 272, 273, 48)]
def x_mw_2 : List (Nat × Nat × Nat × Nat × Nat × Nat) := [(6, 1, 286, 284, 285, 48), (2, 1, 293, 291, 292, 48), (3, 1, 297, 295, 296, 48), (1, 1, 306, 304, 305, 48), (2, 0, 309, 308, 0, 48), (2, 0, 345, 344, 0, 48), (2, 0, 402, 401, 0, 48), (1, 0, 405, 404, 0, 48), (2, 0, 408, 407, 0, 48), (1, 1, 445, 443, 444, 48), (3, 1, 449, 447, 448, 48), (3, 1, 453, 452, 6, 48), (2, 1, 457, 456, 7, 48), (2, 1, 465, 463, 464, 48), (1, 0, 469, 468, 0, 48), (3, 1, 477, 475, 476, 48), (4, 1, 496, 494, 495, 48), (4, 1, 500, 499, 8, 48), (4, 0, 508, 507, 0, 48), (3, 1, 512, 510, 511, 48), (2, 0, 519, 518, 0, 48), (2, 0, 528, 527, 0, 48), (2, 1, 532, 530, 531, 48), (2, 1, 536, 534, 535, 48)]
def x_mw_3 : List (Nat × Nat × Nat × Nat × Nat × Nat) := [(4, 0, 557, 556, 0, 48), (4, 1, 575, 573, 574, 48), (3, 0, 582, 581, 0, 48), (2, 0, 588, 587, 0, 48), (3, 1, 595, 593, 594, 48), (7, 0, 598, 597, 0, 48), (2, 1, 602, 600, 601, 48), (4, 0, 605, 604, 0, 48), (3, 1, 609, 607, 608, 48), (2, 0, 612, 611, 0, 48), (2, 0, 615, 614, 0, 48), (4, 1, 623, 621, 622, 48), (4, 0, 626, 625, 0, 48), (2, 1, 630, 628, 629, 48), (2, 1, 634, 632, 633, 48), (2, 1, 638, 636, 637, 48), (2, 0, 641, 640, 0, 48), (3, 0, 644, 643, 0, 48), (3, 1, 648, 646, 647, 48), (3, 1, 652, 650, 651, 48), (3, 0, 655, 654, 0, 48), (5, 0, 662, 661, 0, 48), (2, 1, 670, 668, 669, 48), (2, 1, 674, 672, 673, 48)]
def x_mw_4 : List (Nat × Nat × Nat × Nat × Nat × Nat) := [(1, 1, 678, 677, 9, 48), (1, 1, 682, 680, 681, 48), (1, 2, 687, 686, 0, 54), (4, 1, 775, 773, 774, 54), (1, 0, 778, 777, 0, 54), (3, 0, 782, 781, 0, 54), (2, 1, 788, 787, 10, 54), (2, 1, 793, 792, 11, 54), (4, 1, 797, 795, 796, 54), (6, 1, 801, 799, 800, 54), (4, 1, 805, 804, 12, 54), (2, 1, 809, 807, 808, 54), (3, 1, 813, 811, 812, 54), (1, 1, 820, 818, 819, 54), (1, 1, 824, 823, 13, 54), (1, 1, 828, 827, 14, 54), (1, 0, 831, 830, 0, 54), (1, 1, 835, 834, 15, 54), (3, 1, 840, 839, 16, 54), (2, 1, 844, 843, 17, 54), (1, 1, 848, 847, 18, 54), (1, 1, 852, 851, 19, 54), (1, 1, 856, 855, 20, 54), (1, 1, 861, 860, 21, 54)]
def x_mw_5 : List (Nat × Nat × Nat × Nat × Nat × Nat) := [(1, 1, 866, 865, 22, 54), (2, 0, 869, 868, 0, 54), (2, 0, 872, 871, 0, 54), (1, 1, 876, 874, 875, 54), (3, 1, 880, 878, 879, 54), (2, 1, 884, 883, 23, 54), (1, 0, 887, 886, 0, 54), (2, 1, 891, 889, 890, 54), (1, 0, 895, 894, 0, 54), (2, 1, 900, 899, 24, 54), (3, 1, 904, 902, 903, 54), (2, 1, 908, 907, 25, 54), (2, 1, 912, 911, 26, 54), (4, 1, 916, 914, 915, 54), (3, 1, 921, 920, 27, 54), (3, 1, 925, 923, 924, 54), (1, 0, 931, 930, 0, 54), (2, 1, 935, 933, 934, 54), (1, 1, 939, 938, 28, 54), (2, 1, 943, 941, 942, 54), (1, 1, 947, 946, 29, 54), (4, 1, 951, 950, 30, 54), (2, 1, 956, 955, 31, 54), (4, 1, 960, 958, 959, 54)]
def x_mw_6 : List (Nat × Nat × Nat × Nat × Nat × Nat) := [(2, 0, 963, 962, 0, 54), (3, 1, 967, 965, 966, 54), (2, 1, 971, 970, 32, 54), (1, 0, 974, 973, 0, 54), (2, 1, 978, 976, 977, 54), (4, 1, 982, 981, 33, 54), (3, 1, 986, 984, 985, 54), (2, 1, 990, 989, 34, 54), (2, 1, 994, 993, 35, 54), (3, 1, 998, 997, 36, 54), (4, 1, 1002, 1000, 1001, 54), (4, 1, 1006, 1005, 37, 54), (2, 1, 1010, 1008, 1009, 54), (3, 1, 1014, 1013, 38, 54), (2, 1, 1018, 1016, 1017, 54), (2, 1, 1022, 1020, 1021, 54), (2, 1, 1026, 1025, 39, 54), (3, 1, 1030, 1028, 1029, 54), (3, 1, 1035, 1033, 1034, 54), (2, 1, 1039, 1038, 40, 54), (2, 1, 1043, 1042, 41, 54), (2, 1, 1047, 1046, 42, 54), (2, 1, 1051, 1050, 43, 54), (2, 1, 1055, 1054, 44, 54)]
def x_mw_7 : List (Nat × Nat × Nat × Nat × Nat × Nat) := [(2, 1, 1059, 1058, 45, 54), (2, 1, 1063, 1062, 46, 54), (2, 1, 1067, 1065, 1066, 54), (2, 1, 1071, 1069, 1070, 54), (1, 1, 1075, 1073, 1074, 54), (1, 1, 354, 352, 353, 57), (1, 1, 358, 356, 357, 57), (2, 1, 364, 362, 363, 57), (1, 1, 368, 366, 367, 57), (2, 0, 374, 373, 0, 57), (2, 0, 371, 370, 0, 58), (1, 0, 522, 521, 0, 61), (1, 0, 585, 584, 0, 62), (2, 0, 591, 590, 0, 62), (2, 0, 266, 265, 0, 55), (3, 0, 379, 378, 0, 59), (1, 0, 0, 0, 0, 0)]
def x_mw : List (Nat × Nat × Nat × Nat × Nat × Nat) := x_mw_0 ++ (x_mw_1 ++ (x_mw_2 ++ (x_mw_3 ++ (x_mw_4 ++ (x_mw_5 ++ (x_mw_6 ++ (x_mw_7)))))))
def x_m0 : Nat × MethodName × ByteArray × Nat × Option FieldType := (0, x, code, 0, none)
def x_me (y : Nat) : Nat × MethodName × ByteArray × Nat × Option FieldType := x_mt.getD y x_m0
def x_cy (y : Nat) : Nat := (x_me y).1
def x_nm (y : Nat) : MethodName := (x_me y).2.1
def x_by (y : Nat) : ByteArray := (x_me y).2.2.1
def x_ml (y : Nat) : Nat := (x_me y).2.2.2.1
def x_rt (y : Nat) : Option FieldType := (x_me y).2.2.2.2
def x_wo (y : Nat) : Nat × Nat × Nat × Nat × Nat × Nat := x_mw.getD y (0, 0, 0, 0, 0, 0)
def x_na (y : Nat) : Nat := (x_wo y).1
/-- 0 static, 1 virtual, 2 a constructor -/
def x_kd (y : Nat) : Nat := (x_wo y).2.1
def x_ft : List (Nat × Nat × Nat × Nat) := [(3, 9, 96, 79), (3, 15, 97, 80), (5, 98, 97, 81), (3, 36, 98, 82), (5, 281, 98, 83), (3, 25, 99, 84), (5, 108, 99, 85), (3, 19, 100, 86), (3, 61, 101, 87), (5, 302, 101, 88), (0, 9, 0, 109), (5, 300, 0, 110), (0, 15, 1, 111), (0, 18, 2, 112), (1, 29, 2, 113), (5, 179, 2, 114), (0, 21, 3, 115), (5, 154, 3, 116), (0, 35, 4, 117), (5, 132, 4, 118), (0, 24, 5, 119), (1, 25, 5, 120), (5, 122, 5, 121), (1, 42, 6, 122), (0, 39, 6, 123), (5, 170, 6, 124), (0, 42, 7, 125), (5, 173, 7, 126), (1, 39, 8, 127), (0, 51, 8, 128), (5, 176, 8, 129), (0, 45, 9, 130), (5, 182, 9, 131), (1, 9, 32, 160), (5, 334, 32, 161), (1, 15, 33, 162), (1, 18, 34, 163), (5, 320, 34, 164), (1, 21, 35, 165), (5, 327, 35, 166), (5, 199, 36, 167), (4, 9, 128, 185), (5, 259, 128, 186), (4, 15, 129, 187), (5, 251, 129, 188), (2, 9, 64, 199), (5, 79, 64, 200), (2, 15, 65, 201), (5, 71, 65, 202), (2, 19, 66, 203), (5, 85, 66, 204), (2, 23, 67, 205), (5, 95, 67, 206), (5, 11, 160, 216), (5, 18, 161, 217), (5, 25, 162, 218), (5, 29, 163, 219), (5, 32, 164, 220), (5, 39, 165, 221), (5, 43, 166, 222), (5, 50, 167, 223), (5, 111, 168, 224), (5, 265, 169, 225), (6, 7, 192, 690), (6, 13, 193, 691), (6, 96, 194, 692), (6, 114, 195, 693), (6, 65, 196, 694), (6, 17, 197, 695), (6, 20, 198, 696), (6, 23, 199, 697), (6, 26, 200, 698), (6, 248, 201, 699), (6, 102, 202, 700), (6, 105, 203, 701), (6, 111, 204, 702), (6, 29, 205, 703), (6, 32, 206, 704), (6, 35, 207, 705), (6, 135, 208, 706), (6, 38, 209, 707), (6, 41, 210, 708), (6, 44, 211, 709), (6, 47, 212, 710), (6, 50, 213, 711), (6, 53, 214, 712), (6, 56, 215, 713), (6, 59, 216, 714), (6, 205, 217, 715), (6, 62, 218, 716), (8, 9, 256, 1077), (8, 15, 257, 1078)]
def x_sf : List (Nat × Nat × Nat × Nat) := [(8, 38, 2, 359), (8, 1053, 3, 375), (5, 346, 0, 656), (5, 349, 1, 658)]
def x_ct : List (Nat × Nat × Nat × Nat × Nat) := [(7, 9, 42, 2, 65), (5, 17, 28, 3, 75), (5, 24, 0, 3, 105), (5, 38, 16, 3, 156), (5, 49, 40, 3, 181), (5, 54, 23, 3, 195), (7, 13, 43, 1, 247), (5, 55, 44, 0, 251), (5, 60, 45, 1, 255), (5, 64, 24, 1, 260), (2, 26, 182, 0, 264), (5, 68, 46, 1, 267), (7, 18, 47, 1, 271), (5, 75, 25, 1, 275), (5, 82, 26, 1, 279), (7, 22, 48, 1, 283), (7, 27, 49, 1, 290), (7, 34, 50, 1, 294), (5, 100, 29, 1, 299), (7, 39, 51, 1, 303), (5, 104, 52, 0, 307), (5, 272, 1, 1, 310), (5, 275, 30, 1, 314), (3, 22, 31, 1, 318), (3, 28, 32, 1, 322), (3, 32, 33, 0, 326), (3, 39, 34, 0, 329), (3, 42, 35, 1, 332), (3, 45, 36, 0, 336), (3, 48, 37, 1, 339), (5, 278, 53, 0, 343), (5, 289, 38, 1, 347), (3, 51, 173, 1, 351), (8, 335, 174, 1, 355), (3, 56, 175, 1, 361), (8, 492, 176, 1, 365), (8, 495, 178, 0, 369), (9, 9, 177, 0, 372), (8, 1059, 183, 0, 377), (5, 293, 31, 1, 399), (5, 296, 54, 0, 400), (5, 305, 55, 0, 403), (5, 284, 56, 0, 406), (5, 311, 39, 1, 410), (5, 314, 2, 1, 416), (0, 28, 3, 0, 420), (0, 32, 4, 0, 423), (5, 115, 5, 1, 427), (0, 48, 6, 1, 431), (5, 118, 7, 1, 436), (7, 44, 57, 1, 442), (7, 48, 58, 1, 446), (5, 125, 59, 1, 450), (5, 230, 60, 1, 454), (5, 128, 8, 1, 458), (7, 53, 61, 1, 462), (5, 134, 62, 0, 467), (5, 137, 9, 1, 470), (7, 57, 63, 1, 474), (5, 140, 10, 1, 478), (0, 69, 11, 1, 482), (5, 143, 12, 1, 486), (0, 73, 10, 1, 490), (0, 60, 8, 1, 491), (0, 77, 9, 1, 492), (7, 61, 64, 1, 493), (5, 146, 65, 1, 497), (5, 269, 27, 1, 501), (5, 150, 66, 0, 506), (7, 65, 67, 1, 509), (5, 158, 11, 1, 514), (5, 166, 68, 0, 517), (5, 205, 179, 0, 520), (5, 317, 69, 0, 526), (7, 69, 70, 1, 529), (7, 73, 71, 1, 533), (5, 185, 13, 1, 537), (0, 64, 179, 0, 541), (5, 189, 17, 1, 542), (1, 33, 182, 0, 547), (5, 191, 18, 1, 548), (1, 45, 19, 0, 552), (5, 195, 72, 0, 555), (5, 324, 20, 1, 559), (5, 330, 21, 1, 563), (5, 336, 22, 1, 567), (1, 49, 20, 1, 571), (7, 77, 73, 1, 572), (5, 202, 14, 1, 576), (5, 210, 74, 0, 580), (5, 214, 180, 0, 583), (5, 219, 75, 0, 586), (5, 340, 181, 0, 589), (7, 81, 76, 1, 592), (5, 222, 77, 0, 596), (7, 85, 78, 1, 599), (5, 226, 79, 0, 603), (7, 89, 80, 1, 606), (5, 233, 81, 0, 610), (5, 343, 82, 0, 613), (5, 237, 15, 1, 616), (7, 93, 83, 1, 620), (5, 240, 84, 0, 624), (7, 97, 85, 1, 627), (7, 101, 86, 1, 631), (7, 105, 87, 1, 635), (5, 244, 88, 0, 639), (5, 247, 89, 0, 642), (7, 109, 90, 1, 645), (7, 113, 91, 1, 649), (5, 252, 92, 0, 653), (5, 255, 93, 0, 660), (5, 352, 41, 1, 663), (7, 117, 94, 1, 667), (7, 121, 95, 1, 671), (5, 262, 96, 1, 675), (7, 125, 97, 1, 679), (7, 12, 98, 2, 685), (7, 17, 99, 1, 772), (6, 76, 100, 0, 776), (6, 72, 101, 0, 780), (6, 83, 102, 1, 785), (6, 87, 103, 1, 790), (7, 21, 104, 1, 794), (7, 26, 105, 1, 798), (6, 90, 106, 1, 802), (7, 31, 107, 1, 806), (7, 38, 108, 1, 810), (7, 43, 109, 1, 817), (6, 155, 110, 1, 821), (6, 117, 111, 1, 825), (6, 108, 112, 0, 829), (6, 142, 113, 1, 832), (6, 121, 114, 1, 837), (6, 125, 115, 1, 841), (6, 128, 116, 1, 845), (6, 132, 117, 1, 849), (6, 145, 118, 1, 853), (6, 139, 119, 1, 858), (6, 159, 120, 1, 863), (6, 151, 121, 0, 867), (6, 148, 122, 0, 870), (7, 47, 123, 1, 873), (7, 52, 124, 1, 877), (6, 164, 125, 1, 881), (6, 167, 126, 0, 885), (7, 56, 127, 1, 888), (6, 171, 128, 0, 893), (6, 174, 129, 1, 897), (7, 60, 130, 1, 901), (6, 177, 131, 1, 905), (6, 180, 132, 1, 909), (7, 64, 133, 1, 913), (6, 185, 134, 1, 918), (7, 68, 135, 1, 922), (6, 194, 136, 0, 929), (7, 72, 137, 1, 932), (6, 197, 138, 1, 936), (7, 76, 139, 1, 940), (6, 211, 140, 1, 944), (6, 201, 141, 1, 948), (6, 208, 142, 1, 953), (7, 80, 143, 1, 957), (6, 214, 144, 0, 961), (7, 84, 145, 1, 964), (6, 220, 146, 1, 968), (6, 217, 147, 0, 972), (7, 88, 148, 1, 975), (6, 223, 149, 1, 979), (7, 92, 150, 1, 983), (6, 229, 151, 1, 987), (6, 232, 152, 1, 991), (6, 226, 153, 1, 995), (7, 96, 154, 1, 999), (6, 235, 155, 1, 1003), (7, 100, 156, 1, 1007), (6, 239, 157, 1, 1011), (7, 104, 158, 1, 1015), (7, 108, 159, 1, 1019), (6, 243, 160, 1, 1023), (7, 112, 161, 1, 1027), (7, 116, 162, 1, 1032), (6, 270, 163, 1, 1036), (6, 251, 164, 1, 1040), (6, 267, 165, 1, 1044), (6, 261, 166, 1, 1048), (6, 264, 167, 1, 1052), (6, 258, 168, 1, 1056), (6, 255, 169, 1, 1060), (7, 120, 170, 1, 1064), (7, 124, 171, 1, 1068), (7, 128, 172, 1, 1072)]
def x_oi : List (Nat × Nat × Nat) := [(5, 1, 68), (3, 3, 78), (0, 3, 108), (1, 3, 159), (4, 3, 184), (2, 3, 198), (6, 1, 688)]
def x_ac : List (Nat × Nat × Nat) := [(5, 89, 287), (0, 54, 440)]
def x_kl : List (Nat × Nat × Nat × Nat) := [(5, 162, 16807, 515), (5, 164, 2147483647, 516), (6, 70, 7, 779), (6, 80, 2, 783), (6, 94, 8, 814), (6, 100, 255, 816), (6, 162, 511, 896), (6, 183, 14, 917), (6, 188, 999999, 926), (6, 190, 16807, 927), (6, 192, 2147483647, 928), (6, 246, 5, 1031), (7, 32, 4294967295, 1076)]
def x_nt : List (Nat × Nat × Nat × Nat × Nat × Nat) := [(7, 7, 5, 63, 64, 48), (5, 9, 2, 71, 194, 53), (5, 15, 3, 73, 74, 49), (5, 22, 0, 103, 104, 50), (5, 36, 1, 154, 155, 51), (5, 47, 4, 179, 180, 52), (7, 10, 6, 683, 684, 54)]
def x_kt : List (Nat × Nat × Int32 × Nat) := [(5, 59, (-1000001), 254), (5, 268, (-1000010), 259), (5, 99, (-1000003), 298), (3, 60, (-1000000), 414), (5, 188, (-1000000), 415), (5, 114, (-1000100), 426), (0, 80, (-1000000), 435), (5, 133, (-1000002), 466), (2, 32, (-1000000), 505), (5, 157, 999999, 513), (10, 265, 1431655765, 523), (10, 266, 858993459, 524), (10, 267, 252645135, 525), (1, 32, (-1000000000), 546), (5, 323, (-1000000000), 558), (6, 16, (-1000000), 689), (6, 82, (-1000001), 784), (6, 69, (-1000010), 789), (6, 99, (-1000003), 815), (6, 120, 5638196, 836), (6, 138, 149539, 857), (6, 158, (-1000100), 862), (6, 170, (-1000002), 892), (6, 200, (-268435456), 952)]
def x_sd (j : Nat) : String × String × String := [("WindowCards", "SIZE_BODIES", "[I"), ("WindowCards", "MARK_BODIES", "[I"), ("java/lang/String", "COMPACT_STRINGS", "Z"), ("jdk/internal/util/Preconditions", "SIOOBE_FORMATTER", "Ljava/util/function/BiFunction;")].getD j ("", "", "")
def x_aoR : Nat := 72
def x_aoG : Nat := 153
def x_aci : Nat := 102
def x_oiI : Nat := 69
def x_oiC : Nat := 70
def x_acN : Nat := 289
def x_acS : Nat := 288
def x_acI : Nat := 56
def x_nm_all : Nat := 185
def x_abs : Nat := 180
def x_max : Nat := 181
/-- a word stands at a place, and may be handed on to a callee -/
def x_at (i : Nat) (w : Jvm.Cond) : Bool := decide (lw_tbl[i]? = some w) && goodWord w
def x_TB : List Jvm.Cond := lw_tbl.filter goodWord
theorem x_at_in {i : Nat} {w : Jvm.Cond} (h : x_at i w = true) : w ∈ x_TB := by
  simp only [x_at, Bool.and_eq_true, decide_eq_true_eq] at h
  exact List.mem_filter.mpr ⟨List.mem_of_getElem? h.1, h.2⟩
theorem x_TB_good : GoodIn x_TB x_TB := fun w hw => ⟨hw, good_of_word (List.mem_filter.mp hw).2⟩
