/-! tables, printed by wip/whole/gen/emit04.py out of the Statement's words: classes, fields, methods, links, the shape of the cells -/
def es_ownL : List String := ["HeadServo", "HeadServo$All", "HeadServo$Head", "HeadServo$Machine", "HeadServo$Reader", "HeadServo$Route", "HeadServo$Steps", "HeadServo$Text", "HeadServoModel", "HeadServoLaw", "java/lang/Math", "java/lang/Integer", "java/lang/String", "java/lang/StringLatin1", "java/lang/StringUTF16", "jdk/internal/util/Preconditions", "java/lang/System"]
def es_own (o : Nat) : String := es_ownL.getD o ""
def es_T0 : u_T := fun k => match k with
  | 0 => ("HeadServo", "now", "LHeadServo$All;", true)
  | 1 => ("HeadServo", "kept", "LHeadServo$All;", true)
  | 2 => ("HeadServo", "texts", "[LHeadServo$Text;", true)
  | 3 => ("HeadServo", "trial", "LHeadServo$Head;", true)
  | 4 => ("HeadServo", "reader", "LHeadServo$Reader;", true)
  | 5 => ("HeadServo", "machine", "LHeadServo$Machine;", true)
  | 6 => ("HeadServo", "route", "LHeadServo$Route;", true)
  | 7 => ("HeadServo", "fewestFrom", "[I", true)
  | 8 => ("HeadServo", "tape", "[I", true)
  | 9 => ("HeadServo", "tapeLength", "I", false)
  | _ => ("HeadServo", "everRead", "Z", false)
def es_T1 : u_T := fun k => match k with
  | 0 => ("HeadServo$All", "head", "LHeadServo$Head;", true)
  | 1 => ("HeadServo$All", "steps", "LHeadServo$Steps;", true)
  | 2 => ("HeadServo$All", "wobble", "[I", true)
  | 3 => ("HeadServo$All", "lostBits", "I", false)
  | 4 => ("HeadServo$All", "textCount", "I", false)
  | 5 => ("HeadServo$All", "ruling", "I", false)
  | 6 => ("HeadServo$All", "requests", "[I", true)
  | 7 => ("HeadServo$All", "requestCount", "I", false)
  | 8 => ("HeadServo$All", "saidErrors", "[I", true)
  | 9 => ("HeadServo$All", "saidPulls", "[I", true)
  | _ => ("HeadServo$All", "saidCount", "I", false)
def es_T2 : u_T := fun k => match k with
  | 0 => ("HeadServo$Head", "place", "I", false)
  | 1 => ("HeadServo$Head", "speed", "I", false)
  | 2 => ("HeadServo$Head", "target", "I", false)
  | 3 => ("HeadServo$Head", "error", "I", false)
  | 4 => ("HeadServo$Head", "settled", "I", false)
  | 5 => ("HeadServo$Head", "written", "I", false)
  | 6 => ("HeadServo$Head", "struck", "I", false)
  | 7 => ("HeadServo$Head", "clock", "I", false)
  | 8 => ("HeadServo$Head", "x", "I", false)
  | 9 => ("HeadServo$Head", "lineCount", "I", false)
  | 10 => ("HeadServo$Head", "learnt", "[I", true)
  | _ => ("HeadServo$Head", "lines", "[I", true)
def es_T3 : u_T := fun k => match k with
  | 0 => ("HeadServo$Machine", "stack", "[I", true)
  | _ => ("HeadServo$Machine", "top", "I", false)
def es_T4 : u_T := fun k => match k with
  | 0 => ("HeadServo$Reader", "kinds", "[I", true)
  | 1 => ("HeadServo$Reader", "starts", "[I", true)
  | 2 => ("HeadServo$Reader", "values", "[I", true)
  | 3 => ("HeadServo$Reader", "count", "I", false)
  | 4 => ("HeadServo$Reader", "at", "I", false)
  | 5 => ("HeadServo$Reader", "law", "I", false)
  | 6 => ("HeadServo$Reader", "fault", "I", false)
  | _ => ("HeadServo$Reader", "faultPlace", "I", false)
def es_T5 : u_T := fun k => match k with
  | 0 => ("HeadServo$Route", "asked", "[I", true)
  | 1 => ("HeadServo$Route", "row", "[I", true)
  | 2 => ("HeadServo$Route", "count", "I", false)
  | _ => ("HeadServo$Route", "leastFar", "I", false)
def es_T6 : u_T := fun k => match k with
  | 0 => ("HeadServo$Steps", "rows", "[LHeadServo$Head;", true)
  | 1 => ("HeadServo$Steps", "first", "I", false)
  | _ => ("HeadServo$Steps", "count", "I", false)
def es_T7 : u_T := fun k => match k with
  | 0 => ("HeadServo$Text", "kinds", "[I", true)
  | 1 => ("HeadServo$Text", "firsts", "[I", true)
  | 2 => ("HeadServo$Text", "seconds", "[I", true)
  | 3 => ("HeadServo$Text", "clauses", "I", false)
  | 4 => ("HeadServo$Text", "code", "[I", true)
  | 5 => ("HeadServo$Text", "length", "I", false)
  | 6 => ("HeadServo$Text", "pullsFrom", "I", false)
  | 7 => ("HeadServo$Text", "pullsTo", "I", false)
  | 8 => ("HeadServo$Text", "learnsFrom", "I", false)
  | _ => ("HeadServo$Text", "learnsTo", "I", false)
def es_T8 : u_T := fun k => match k with
  | 0 => ("HeadServoModel", "a", "[I", true)
  | 1 => ("HeadServoModel", "image", "[I", true)
  | 2 => ("HeadServoModel", "texts", "[I", true)
  | 3 => ("HeadServoModel", "tape", "[I", true)
  | 4 => ("HeadServoModel", "taped", "I", false)
  | 5 => ("HeadServoModel", "fault", "I", false)
  | 6 => ("HeadServoModel", "faultPlace", "I", false)
  | 7 => ("HeadServoModel", "at", "I", false)
  | 8 => ("HeadServoModel", "place", "I", false)
  | 9 => ("HeadServoModel", "token", "I", false)
  | 10 => ("HeadServoModel", "number", "I", false)
  | 11 => ("HeadServoModel", "word", "J", false)
  | 12 => ("HeadServoModel", "text0", "I", false)
  | 13 => ("HeadServoModel", "written", "I", false)
  | 14 => ("HeadServoModel", "sort0", "I", false)
  | 15 => ("HeadServoModel", "pile", "[I", true)
  | 16 => ("HeadServoModel", "piled", "I", false)
  | 17 => ("HeadServoModel", "opens", "I", false)
  | 18 => ("HeadServoModel", "isWhole", "Z", false)
  | 19 => ("HeadServoModel", "once", "I", false)
  | 20 => ("HeadServoModel", "named", "[I", true)
  | 21 => ("HeadServoModel", "values", "[J", true)
  | 22 => ("HeadServoModel", "truth", "[Z", true)
  | 23 => ("HeadServoModel", "isWritten", "Z", false)
  | 24 => ("HeadServoModel", "aside", "[I", true)
  | 25 => ("HeadServoModel", "can", "[Z", true)
  | 26 => ("HeadServoModel", "most0", "I", false)
  | 27 => ("HeadServoModel", "row", "[I", true)
  | _ => ("HeadServoModel", "bestRow", "[I", true)
abbrev es_cl : List vw_C := [("HeadServo", es_T0, 11), ("HeadServo$All", es_T1, 11), ("HeadServo$Head", es_T2, 12), ("HeadServo$Machine", es_T3, 2), ("HeadServo$Reader", es_T4, 8), ("HeadServo$Route", es_T5, 4), ("HeadServo$Steps", es_T6, 3), ("HeadServo$Text", es_T7, 10), ("HeadServoModel", es_T8, 29)]
def es_ftyL : List (List Nat) := [[2, 2, 2, 2, 2, 2, 2, 2, 2, 0, 3], [2, 2, 2, 0, 0, 0, 2, 0, 2, 2, 0], [0, 0, 0, 0, 0, 0, 0, 0, 0, 0, 2, 2], [2, 0], [2, 2, 2, 0, 0, 0, 0, 0], [2, 2, 0, 0], [2, 0, 0], [2, 2, 2, 0, 2, 0, 0, 0, 0, 0], [2, 2, 2, 2, 0, 0, 0, 0, 0, 0, 0, 1, 0, 0, 0, 2, 0, 0, 3, 0, 2, 2, 2, 3, 2, 2, 0, 2, 2]]
def es_fty (c k : Nat) : Nat := (es_ftyL.getD c []).getD k 9
def es_nf (c : Nat) : Nat := (es_ftyL.getD c []).length
def es_ty0 : Nat → FieldType := fun k => match k with
  | 0 => .object "HeadServo$All"
  | 1 => .object "HeadServo$All"
  | 2 => .array (.object "HeadServo$Text")
  | 3 => .object "HeadServo$Head"
  | 4 => .object "HeadServo$Reader"
  | 5 => .object "HeadServo$Machine"
  | 6 => .object "HeadServo$Route"
  | 7 => .array .int
  | 8 => .array .int
  | 9 => .int
  | _ => .boolean
def es_ty1 : Nat → FieldType := fun k => match k with
  | 0 => .object "HeadServo$Head"
  | 1 => .object "HeadServo$Steps"
  | 2 => .array .int
  | 3 => .int
  | 4 => .int
  | 5 => .int
  | 6 => .array .int
  | 7 => .int
  | 8 => .array .int
  | 9 => .array .int
  | _ => .int
def es_ty2 : Nat → FieldType := fun k => match k with
  | 0 => .int
  | 1 => .int
  | 2 => .int
  | 3 => .int
  | 4 => .int
  | 5 => .int
  | 6 => .int
  | 7 => .int
  | 8 => .int
  | 9 => .int
  | 10 => .array .int
  | _ => .array .int
def es_ty3 : Nat → FieldType := fun k => match k with
  | 0 => .array .int
  | _ => .int
def es_ty4 : Nat → FieldType := fun k => match k with
  | 0 => .array .int
  | 1 => .array .int
  | 2 => .array .int
  | 3 => .int
  | 4 => .int
  | 5 => .int
  | 6 => .int
  | _ => .int
def es_ty5 : Nat → FieldType := fun k => match k with
  | 0 => .array .int
  | 1 => .array .int
  | 2 => .int
  | _ => .int
def es_ty6 : Nat → FieldType := fun k => match k with
  | 0 => .array (.object "HeadServo$Head")
  | 1 => .int
  | _ => .int
def es_ty7 : Nat → FieldType := fun k => match k with
  | 0 => .array .int
  | 1 => .array .int
  | 2 => .array .int
  | 3 => .int
  | 4 => .array .int
  | 5 => .int
  | 6 => .int
  | 7 => .int
  | 8 => .int
  | _ => .int
def es_ty8 : Nat → FieldType := fun k => match k with
  | 0 => .array .int
  | 1 => .array .int
  | 2 => .array .int
  | 3 => .array .int
  | 4 => .int
  | 5 => .int
  | 6 => .int
  | 7 => .int
  | 8 => .int
  | 9 => .int
  | 10 => .int
  | 11 => .long
  | 12 => .int
  | 13 => .int
  | 14 => .int
  | 15 => .array .int
  | 16 => .int
  | 17 => .int
  | 18 => .boolean
  | 19 => .int
  | 20 => .array .int
  | 21 => .array .long
  | 22 => .array .boolean
  | 23 => .boolean
  | 24 => .array .int
  | 25 => .array .boolean
  | 26 => .int
  | 27 => .array .int
  | _ => .array .int
abbrev es_Mt : Type := MethodName × Nat × Option FieldType × Bool × Nat
def es_M_0 : List es_Mt := [(⟨"HeadServo", "<init>", "()V"⟩, 2, (Option.none : Option Jvm.ClassFile.FieldType), false, 21),
  (⟨"java/lang/Object", "<init>", "()V"⟩, 1, (Option.none : Option Jvm.ClassFile.FieldType), false, 24),
  (⟨"HeadServo$All", "<init>", "()V"⟩, 1, (Option.none : Option Jvm.ClassFile.FieldType), false, 29),
  (⟨"HeadServo$Head", "<init>", "()V"⟩, 1, (Option.none : Option Jvm.ClassFile.FieldType), false, 35),
  (⟨"HeadServo$Steps", "<init>", "()V"⟩, 2, (Option.none : Option Jvm.ClassFile.FieldType), false, 94),
  (⟨"HeadServo$Reader", "<init>", "()V"⟩, 1, (Option.none : Option Jvm.ClassFile.FieldType), false, 163),
  (⟨"HeadServo$Machine", "<init>", "()V"⟩, 1, (Option.none : Option Jvm.ClassFile.FieldType), false, 196),
  (⟨"HeadServo$Route", "<init>", "()V"⟩, 1, (Option.none : Option Jvm.ClassFile.FieldType), false, 209),
  (⟨"HeadServo$Text", "<init>", "()V"⟩, 1, (Option.none : Option Jvm.ClassFile.FieldType), false, 228),
  (⟨"HeadServo", "wobble", "(II)Z"⟩, 3, (Option.some Jvm.ClassFile.FieldType.boolean), false, 313),
  (⟨"HeadServo", "within", "(III)Z"⟩, 3, (Option.some Jvm.ClassFile.FieldType.boolean), true, 316),
  (⟨"HeadServo", "lose", "(I)Z"⟩, 2, (Option.some Jvm.ClassFile.FieldType.boolean), false, 320),
  (⟨"HeadServo", "feed", "(IIIII)I"⟩, 6, (Option.some Jvm.ClassFile.FieldType.int), false, 324),
  (⟨"HeadServo", "feedFour", "(I)V"⟩, 3, (Option.none : Option Jvm.ClassFile.FieldType), false, 328),
  (⟨"HeadServo", "end", "(I)I"⟩, 2, (Option.some Jvm.ClassFile.FieldType.int), false, 332),
  (⟨"HeadServo", "text", "()I"⟩, 3, (Option.some Jvm.ClassFile.FieldType.int), false, 336),
  (⟨"HeadServo$Reader", "readTape", "([IILHeadServo$Text;)Z"⟩, 5, (Option.some Jvm.ClassFile.FieldType.boolean), false, 340),
  (⟨"HeadServo$Text", "empty", "()V"⟩, 1, (Option.none : Option Jvm.ClassFile.FieldType), false, 344),
  (⟨"java/lang/Math", "min", "(II)I"⟩, 2, (Option.some Jvm.ClassFile.FieldType.int), true, 347),
  (⟨"HeadServo$Reader", "cut", "([II)V"⟩, 6, (Option.none : Option Jvm.ClassFile.FieldType), false, 351),
  (⟨"HeadServo$Reader", "isLetter", "(I)Z"⟩, 1, (Option.some Jvm.ClassFile.FieldType.boolean), true, 354),
  (⟨"HeadServo$Reader", "cutWord", "([III)I"⟩, 6, (Option.some Jvm.ClassFile.FieldType.int), false, 359),
  (⟨"HeadServo$Reader", "wordNumber", "([III)I"⟩, 8, (Option.some Jvm.ClassFile.FieldType.int), true, 362),
  (⟨"java/lang/String", "length", "()I"⟩, 1, (Option.some Jvm.ClassFile.FieldType.int), false, 367),
  (⟨"java/lang/String", "coder", "()B"⟩, 1, (Option.some Jvm.ClassFile.FieldType.byte), false, 371),
  (⟨"java/lang/String", "charAt", "(I)C"⟩, 2, (Option.some Jvm.ClassFile.FieldType.char), false, 377),
  (⟨"java/lang/String", "isLatin1", "()Z"⟩, 1, (Option.some Jvm.ClassFile.FieldType.boolean), false, 381),
  (⟨"java/lang/StringLatin1", "charAt", "([BI)C"⟩, 2, (Option.some Jvm.ClassFile.FieldType.char), true, 384),
  (⟨"java/lang/String", "checkIndex", "(II)V"⟩, 2, (Option.none : Option Jvm.ClassFile.FieldType), true, 387),
  (⟨"jdk/internal/util/Preconditions", "checkIndex", "(IILjava/util/function/BiFunction;)I"⟩, 3, (Option.some Jvm.ClassFile.FieldType.int), true, 392),
  (⟨"java/lang/StringUTF16", "charAt", "([BI)C"⟩, 2, (Option.some Jvm.ClassFile.FieldType.char), true, 395),
  (⟨"java/lang/StringUTF16", "checkIndex", "(I[B)V"⟩, 2, (Option.none : Option Jvm.ClassFile.FieldType), true, 398),
  (⟨"java/lang/StringUTF16", "length", "([B)I"⟩, 1, (Option.some Jvm.ClassFile.FieldType.int), true, 401),
  (⟨"java/lang/StringUTF16", "getChar", "([BI)C"⟩, 2, (Option.some Jvm.ClassFile.FieldType.char), true, 405),
  (⟨"HeadServo$Reader", "add", "(III)V"⟩, 4, (Option.none : Option Jvm.ClassFile.FieldType), false, 415),
  (⟨"HeadServo$Reader", "isDigit", "(I)Z"⟩, 1, (Option.some Jvm.ClassFile.FieldType.boolean), true, 418),
  (⟨"HeadServo$Reader", "cutNumber", "([III)I"⟩, 6, (Option.some Jvm.ClassFile.FieldType.int), false, 422),
  (⟨"HeadServo$Reader", "cutSign", "([III)I"⟩, 6, (Option.some Jvm.ClassFile.FieldType.int), false, 426),
  (⟨"HeadServo$Reader", "signKind", "(I)I"⟩, 1, (Option.some Jvm.ClassFile.FieldType.int), true, 429),
  (⟨"HeadServo$Reader", "kind", "()I"⟩, 1, (Option.some Jvm.ClassFile.FieldType.int), false, 433),
  (⟨"HeadServo$Reader", "clause", "(LHeadServo$Text;)Z"⟩, 3, (Option.some Jvm.ClassFile.FieldType.boolean), false, 437),
  (⟨"HeadServo$Reader", "refuse", "(I)Z"⟩, 2, (Option.some Jvm.ClassFile.FieldType.boolean), false, 441),
  (⟨"HeadServo$Reader", "lawClause", "(ILHeadServo$Text;)Z"⟩, 4, (Option.some Jvm.ClassFile.FieldType.boolean), false, 445),
  (⟨"HeadServo$Text", "addClause", "(III)V"⟩, 4, (Option.none : Option Jvm.ClassFile.FieldType), false, 449),
  (⟨"HeadServo$Reader", "sum", "(LHeadServo$Text;I)Z"⟩, 5, (Option.some Jvm.ClassFile.FieldType.boolean), false, 454),
  (⟨"HeadServo$Reader", "product", "(LHeadServo$Text;I)Z"⟩, 5, (Option.some Jvm.ClassFile.FieldType.boolean), false, 458),
  (⟨"HeadServo$Reader", "one", "(LHeadServo$Text;I)Z"⟩, 5, (Option.some Jvm.ClassFile.FieldType.boolean), false, 462),
  (⟨"HeadServo$Reader", "value", "()I"⟩, 1, (Option.some Jvm.ClassFile.FieldType.int), false, 466),
  (⟨"HeadServo$Reader", "number", "(II)Z"⟩, 3, (Option.some Jvm.ClassFile.FieldType.boolean), false, 470),
  (⟨"HeadServo$Text", "emit", "(II)I"⟩, 4, (Option.some Jvm.ClassFile.FieldType.int), false, 474),
  (⟨"HeadServo$Reader", "open", "(I)Z"⟩, 2, (Option.some Jvm.ClassFile.FieldType.boolean), false, 478),
  (⟨"HeadServo$Reader", "take", "(I)Z"⟩, 2, (Option.some Jvm.ClassFile.FieldType.boolean), false, 482),
  (⟨"HeadServo$Reader", "choice", "(LHeadServo$Text;I)Z"⟩, 5, (Option.some Jvm.ClassFile.FieldType.boolean), false, 486),
  (⟨"HeadServo$Reader", "either", "(LHeadServo$Text;I)Z"⟩, 4, (Option.some Jvm.ClassFile.FieldType.boolean), false, 490),
  (⟨"HeadServo$Reader", "both", "(LHeadServo$Text;I)Z"⟩, 4, (Option.some Jvm.ClassFile.FieldType.boolean), false, 494),
  (⟨"HeadServo$Reader", "ask", "(LHeadServo$Text;I)Z"⟩, 4, (Option.some Jvm.ClassFile.FieldType.boolean), false, 498),
  (⟨"HeadServo$Text", "leadHere", "(II)V"⟩, 3, (Option.none : Option Jvm.ClassFile.FieldType), false, 502),
  (⟨"HeadServo$Reader", "name", "(LHeadServo$Text;)Z"⟩, 3, (Option.some Jvm.ClassFile.FieldType.boolean), false, 506),
  (⟨"HeadServo$Reader", "scriptClause", "(ILHeadServo$Text;)Z"⟩, 6, (Option.some Jvm.ClassFile.FieldType.boolean), false, 510),
  (⟨"HeadServo$Reader", "wobbleClause", "(LHeadServo$Text;)Z"⟩, 4, (Option.some Jvm.ClassFile.FieldType.boolean), false, 514)]
def es_M_1 : List es_Mt := [(⟨"HeadServo", "fault", "(I)I"⟩, 2, (Option.some Jvm.ClassFile.FieldType.int), false, 519),
  (⟨"HeadServo", "by", "(I)Z"⟩, 2, (Option.some Jvm.ClassFile.FieldType.boolean), false, 523),
  (⟨"HeadServo", "textAt", "(I)LHeadServo$Text;"⟩, 2, (Option.some (Jvm.ClassFile.FieldType.object "HeadServo$Text")), false, 527),
  (⟨"HeadServo", "seek", "(I)Z"⟩, 2, (Option.some Jvm.ClassFile.FieldType.boolean), false, 531),
  (⟨"HeadServo", "isTrack", "(I)Z"⟩, 1, (Option.some Jvm.ClassFile.FieldType.boolean), true, 534),
  (⟨"HeadServo$Steps", "keep", "(LHeadServo$Head;)V"⟩, 3, (Option.none : Option Jvm.ClassFile.FieldType), false, 538),
  (⟨"HeadServo$Steps", "rowAt", "(I)LHeadServo$Head;"⟩, 2, (Option.some (Jvm.ClassFile.FieldType.object "HeadServo$Head")), false, 542),
  (⟨"java/lang/Math", "floorMod", "(II)I"⟩, 3, (Option.some Jvm.ClassFile.FieldType.int), true, 545),
  (⟨"HeadServo$Head", "copyFrom", "(LHeadServo$Head;)V"⟩, 2, (Option.none : Option Jvm.ClassFile.FieldType), false, 549),
  (⟨"HeadServo$Head", "aim", "(I)V"⟩, 2, (Option.none : Option Jvm.ClassFile.FieldType), false, 556),
  (⟨"HeadServo$Head", "note", "(II)V"⟩, 4, (Option.none : Option Jvm.ClassFile.FieldType), false, 560),
  (⟨"HeadServo", "shake", "(I)I"⟩, 2, (Option.some Jvm.ClassFile.FieldType.int), false, 565),
  (⟨"HeadServo$Head", "nudge", "(I)V"⟩, 2, (Option.none : Option Jvm.ClassFile.FieldType), false, 569),
  (⟨"HeadServo", "hold", "(III)I"⟩, 3, (Option.some Jvm.ClassFile.FieldType.int), true, 572),
  (⟨"java/lang/Math", "max", "(II)I"⟩, 2, (Option.some Jvm.ClassFile.FieldType.int), true, 576),
  (⟨"HeadServo", "write", "()I"⟩, 1, (Option.some Jvm.ClassFile.FieldType.int), false, 580),
  (⟨"HeadServo$Head", "gateOpen", "()Z"⟩, 1, (Option.some Jvm.ClassFile.FieldType.boolean), false, 584),
  (⟨"HeadServo$Head", "mark", "()V"⟩, 1, (Option.none : Option Jvm.ClassFile.FieldType), false, 588),
  (⟨"HeadServo", "day", "(I)I"⟩, 2, (Option.some Jvm.ClassFile.FieldType.int), false, 593),
  (⟨"HeadServo", "pass", "(I)V"⟩, 3, (Option.none : Option Jvm.ClassFile.FieldType), false, 597),
  (⟨"HeadServo", "sample", "(LHeadServo$Head;)V"⟩, 7, (Option.none : Option Jvm.ClassFile.FieldType), false, 601),
  (⟨"HeadServo$Head", "sectorNow", "()I"⟩, 1, (Option.some Jvm.ClassFile.FieldType.int), false, 605),
  (⟨"HeadServo", "isLost", "(I)Z"⟩, 2, (Option.some Jvm.ClassFile.FieldType.boolean), false, 610),
  (⟨"HeadServo$Head", "draw", "()I"⟩, 2, (Option.some Jvm.ClassFile.FieldType.int), false, 614),
  (⟨"HeadServo", "wobbleOf", "(I)I"⟩, 2, (Option.some Jvm.ClassFile.FieldType.int), false, 618),
  (⟨"HeadServo", "middle", "(I)I"⟩, 1, (Option.some Jvm.ClassFile.FieldType.int), true, 622),
  (⟨"HeadServo$Head", "learntOf", "(I)I"⟩, 2, (Option.some Jvm.ClassFile.FieldType.int), false, 626),
  (⟨"HeadServo", "gainOf", "(LHeadServo$Text;LHeadServo$Head;I)I"⟩, 4, (Option.some Jvm.ClassFile.FieldType.int), false, 630),
  (⟨"HeadServo$Machine", "work", "(LHeadServo$Text;IILHeadServo$Head;I)I"⟩, 11, (Option.some Jvm.ClassFile.FieldType.int), false, 634),
  (⟨"HeadServo$Machine", "push", "(I)V"⟩, 2, (Option.none : Option Jvm.ClassFile.FieldType), false, 639),
  (⟨"HeadServo$Machine", "pop", "()I"⟩, 1, (Option.some Jvm.ClassFile.FieldType.int), false, 643),
  (⟨"HeadServo", "speedOver", "(II)I"⟩, 5, (Option.some Jvm.ClassFile.FieldType.int), true, 646),
  (⟨"java/lang/Math", "abs", "(I)I"⟩, 1, (Option.some Jvm.ClassFile.FieldType.int), true, 649),
  (⟨"HeadServo", "wayToStop", "(II)I"⟩, 3, (Option.some Jvm.ClassFile.FieldType.int), true, 652),
  (⟨"HeadServo$Machine", "join", "(III)I"⟩, 3, (Option.some Jvm.ClassFile.FieldType.int), true, 657),
  (⟨"HeadServo$Machine", "bound", "(J)I"⟩, 2, (Option.some Jvm.ClassFile.FieldType.int), true, 660),
  (⟨"java/lang/Math", "min", "(JJ)J"⟩, 4, (Option.some Jvm.ClassFile.FieldType.long), true, 665),
  (⟨"java/lang/Math", "max", "(JJ)J"⟩, 4, (Option.some Jvm.ClassFile.FieldType.long), true, 668),
  (⟨"HeadServo$Head", "addLearnt", "(II)V"⟩, 3, (Option.none : Option Jvm.ClassFile.FieldType), false, 672),
  (⟨"HeadServo", "pullOf", "(LHeadServo$Text;LHeadServo$Head;)I"⟩, 3, (Option.some Jvm.ClassFile.FieldType.int), false, 676),
  (⟨"HeadServo$Head", "move", "(I)V"⟩, 5, (Option.none : Option Jvm.ClassFile.FieldType), false, 681),
  (⟨"HeadServo", "played", "(I)I"⟩, 4, (Option.some Jvm.ClassFile.FieldType.int), false, 685),
  (⟨"HeadServo", "playClause", "(III)Z"⟩, 5, (Option.some Jvm.ClassFile.FieldType.boolean), false, 689),
  (⟨"HeadServo", "years", "(II)I"⟩, 4, (Option.some Jvm.ClassFile.FieldType.int), false, 698),
  (⟨"HeadServo", "happen", "(LHeadServo$Head;I)V"⟩, 3, (Option.none : Option Jvm.ClassFile.FieldType), false, 702),
  (⟨"HeadServo", "undo", "()I"⟩, 1, (Option.some Jvm.ClassFile.FieldType.int), false, 706),
  (⟨"HeadServo$Steps", "giveBack", "(LHeadServo$Head;)Z"⟩, 3, (Option.some Jvm.ClassFile.FieldType.boolean), false, 710),
  (⟨"HeadServo", "of", "(II)I"⟩, 3, (Option.some Jvm.ClassFile.FieldType.int), false, 714),
  (⟨"HeadServo", "is", "(I)I"⟩, 3, (Option.some Jvm.ClassFile.FieldType.int), false, 718),
  (⟨"HeadServo", "pulls", "()I"⟩, 1, (Option.some Jvm.ClassFile.FieldType.int), false, 722),
  (⟨"HeadServo", "book", "(II)I"⟩, 3, (Option.some Jvm.ClassFile.FieldType.int), false, 726),
  (⟨"HeadServo$Head", "inLine", "(II)I"⟩, 3, (Option.some Jvm.ClassFile.FieldType.int), false, 730),
  (⟨"HeadServo", "foretold", "(II)I"⟩, 4, (Option.some Jvm.ClassFile.FieldType.int), false, 734),
  (⟨"HeadServo", "till", "(I)I"⟩, 3, (Option.some Jvm.ClassFile.FieldType.int), false, 739),
  (⟨"HeadServo", "gray", "(I)I"⟩, 2, (Option.some Jvm.ClassFile.FieldType.int), false, 743),
  (⟨"HeadServo", "codeOf", "(I)I"⟩, 1, (Option.some Jvm.ClassFile.FieldType.int), true, 746),
  (⟨"HeadServo", "track", "(I)I"⟩, 2, (Option.some Jvm.ClassFile.FieldType.int), false, 750),
  (⟨"HeadServo", "trackOf", "(I)I"⟩, 3, (Option.some Jvm.ClassFile.FieldType.int), true, 753),
  (⟨"HeadServo", "burst", "(II)I"⟩, 3, (Option.some Jvm.ClassFile.FieldType.int), false, 757),
  (⟨"HeadServo", "burstAt", "(II)I"⟩, 3, (Option.some Jvm.ClassFile.FieldType.int), true, 760)]
def es_M_2 : List es_Mt := [(⟨"HeadServo", "reads", "(IZ)I"⟩, 4, (Option.some Jvm.ClassFile.FieldType.int), false, 764),
  (⟨"HeadServo", "besideOf", "(I)I"⟩, 2, (Option.some Jvm.ClassFile.FieldType.int), true, 767),
  (⟨"HeadServo", "fit", "(IIIII)I"⟩, 8, (Option.some Jvm.ClassFile.FieldType.int), false, 771),
  (⟨"HeadServo", "areBursts", "(IIII)Z"⟩, 4, (Option.some Jvm.ClassFile.FieldType.boolean), true, 774),
  (⟨"HeadServo", "lowRim", "(I)I"⟩, 1, (Option.some Jvm.ClassFile.FieldType.int), true, 777),
  (⟨"HeadServo", "highRim", "(I)I"⟩, 1, (Option.some Jvm.ClassFile.FieldType.int), true, 780),
  (⟨"HeadServo", "bearsBursts", "(IIIII)Z"⟩, 5, (Option.some Jvm.ClassFile.FieldType.boolean), true, 783),
  (⟨"HeadServo", "fits", "(IIIII)I"⟩, 7, (Option.some Jvm.ClassFile.FieldType.int), false, 787),
  (⟨"HeadServo", "countBearing", "(IIIIII)I"⟩, 8, (Option.some Jvm.ClassFile.FieldType.int), true, 790),
  (⟨"HeadServo", "unlike", "(II)I"⟩, 3, (Option.some Jvm.ClassFile.FieldType.int), false, 794),
  (⟨"java/lang/Integer", "bitCount", "(I)I"⟩, 1, (Option.some Jvm.ClassFile.FieldType.int), true, 797),
  (⟨"HeadServo", "rim", "(IZ)I"⟩, 3, (Option.some Jvm.ClassFile.FieldType.int), false, 804),
  (⟨"HeadServo", "blind", "(IIII)I"⟩, 5, (Option.some Jvm.ClassFile.FieldType.int), false, 808),
  (⟨"HeadServo", "curve", "(II)I"⟩, 3, (Option.some Jvm.ClassFile.FieldType.int), false, 812),
  (⟨"HeadServo", "stop", "(II)I"⟩, 3, (Option.some Jvm.ClassFile.FieldType.int), false, 816),
  (⟨"HeadServo", "needs", "(II)I"⟩, 4, (Option.some Jvm.ClassFile.FieldType.int), false, 820),
  (⟨"HeadServo", "fewest", "(II)I"⟩, 3, (Option.some Jvm.ClassFile.FieldType.int), false, 824),
  (⟨"HeadServo", "findFewest", "(II)V"⟩, 6, (Option.none : Option Jvm.ClassFile.FieldType), false, 828),
  (⟨"HeadServo", "fewestPlace", "(II)I"⟩, 2, (Option.some Jvm.ClassFile.FieldType.int), true, 831),
  (⟨"HeadServo", "leastOfNext", "(III)I"⟩, 7, (Option.some Jvm.ClassFile.FieldType.int), false, 835),
  (⟨"HeadServo", "fewestOf", "(II)I"⟩, 4, (Option.some Jvm.ClassFile.FieldType.int), false, 839),
  (⟨"HeadServo", "plan", "(III)I"⟩, 8, (Option.some Jvm.ClassFile.FieldType.int), false, 843),
  (⟨"HeadServo", "lowestNext", "(III)I"⟩, 6, (Option.some Jvm.ClassFile.FieldType.int), false, 848),
  (⟨"HeadServo", "learn", "(III)I"⟩, 4, (Option.some Jvm.ClassFile.FieldType.int), false, 852),
  (⟨"HeadServo", "areOffAndGain", "(II)Z"⟩, 2, (Option.some Jvm.ClassFile.FieldType.boolean), true, 855),
  (⟨"HeadServo", "learntBehind", "(III)I"⟩, 5, (Option.some Jvm.ClassFile.FieldType.int), true, 858),
  (⟨"HeadServo", "rests", "(II)I"⟩, 3, (Option.some Jvm.ClassFile.FieldType.int), false, 862),
  (⟨"HeadServo", "restOf", "(II)I"⟩, 5, (Option.some Jvm.ClassFile.FieldType.int), true, 865),
  (⟨"HeadServo", "gain", "(I)I"⟩, 6, (Option.some Jvm.ClassFile.FieldType.int), false, 869),
  (⟨"HeadServo", "leftAtLast", "(II)I"⟩, 2, (Option.some Jvm.ClassFile.FieldType.int), true, 872),
  (⟨"HeadServo", "request", "(I)I"⟩, 2, (Option.some Jvm.ClassFile.FieldType.int), false, 876),
  (⟨"HeadServo", "order", "(I)I"⟩, 2, (Option.some Jvm.ClassFile.FieldType.int), false, 880),
  (⟨"HeadServo$Route", "find", "(I[II)V"⟩, 8, (Option.none : Option Jvm.ClassFile.FieldType), false, 884),
  (⟨"HeadServo$Route", "insert", "(I)V"⟩, 3, (Option.none : Option Jvm.ClassFile.FieldType), false, 888),
  (⟨"HeadServo$Route", "leastFrom", "(II)I"⟩, 6, (Option.some Jvm.ClassFile.FieldType.int), false, 893),
  (⟨"HeadServo$Route", "lowestNext", "(II)I"⟩, 6, (Option.some Jvm.ClassFile.FieldType.int), false, 899),
  (⟨"HeadServo$Route", "rowAt", "(I)I"⟩, 2, (Option.some Jvm.ClassFile.FieldType.int), false, 903),
  (⟨"HeadServo", "sweep", "(Z)I"⟩, 7, (Option.some Jvm.ClassFile.FieldType.int), false, 907),
  (⟨"HeadServo", "nearest", "()I"⟩, 6, (Option.some Jvm.ClassFile.FieldType.int), false, 911),
  (⟨"HeadServo", "nearestOf", "(II)I"⟩, 5, (Option.some Jvm.ClassFile.FieldType.int), false, 915),
  (⟨"HeadServo", "isNearer", "(III)Z"⟩, 5, (Option.some Jvm.ClassFile.FieldType.boolean), true, 918),
  (⟨"HeadServo", "steady", "()I"⟩, 3, (Option.some Jvm.ClassFile.FieldType.int), false, 922),
  (⟨"HeadServo", "isSteady", "(I)Z"⟩, 2, (Option.some Jvm.ClassFile.FieldType.boolean), false, 926),
  (⟨"HeadServo", "leftOf", "(I)I"⟩, 2, (Option.some Jvm.ClassFile.FieldType.int), false, 930),
  (⟨"HeadServo", "spread", "(Z)I"⟩, 7, (Option.some Jvm.ClassFile.FieldType.int), false, 934),
  (⟨"HeadServo", "mean", "(Z)J"⟩, 5, (Option.some Jvm.ClassFile.FieldType.long), false, 938),
  (⟨"HeadServo", "commonDivisor", "(II)I"⟩, 6, (Option.some Jvm.ClassFile.FieldType.int), true, 941),
  (⟨"HeadServo", "window", "(I)I"⟩, 6, (Option.some Jvm.ClassFile.FieldType.int), false, 946),
  (⟨"HeadServo", "farthestIn", "(II)I"⟩, 6, (Option.some Jvm.ClassFile.FieldType.int), false, 950),
  (⟨"HeadServo", "longest", "()I"⟩, 4, (Option.some Jvm.ClassFile.FieldType.int), false, 954),
  (⟨"HeadServo", "lost", "()I"⟩, 1, (Option.some Jvm.ClassFile.FieldType.int), false, 958),
  (⟨"HeadServo", "far", "(I)I"⟩, 2, (Option.some Jvm.ClassFile.FieldType.int), false, 962),
  (⟨"HeadServo", "worst", "()I"⟩, 3, (Option.some Jvm.ClassFile.FieldType.int), false, 966),
  (⟨"HeadServo", "said", "(II)I"⟩, 3, (Option.some Jvm.ClassFile.FieldType.int), false, 970),
  (⟨"HeadServo", "whose", "()I"⟩, 3, (Option.some Jvm.ClassFile.FieldType.int), false, 974),
  (⟨"HeadServo", "saysAll", "(LHeadServo$Text;)Z"⟩, 3, (Option.some Jvm.ClassFile.FieldType.boolean), false, 978),
  (⟨"HeadServo", "most", "(I)I"⟩, 7, (Option.some Jvm.ClassFile.FieldType.int), false, 982),
  (⟨"HeadServo$Head", "linesWith", "(II)I"⟩, 5, (Option.some Jvm.ClassFile.FieldType.int), false, 986),
  (⟨"HeadServo", "ledger", "(I)I"⟩, 4, (Option.some Jvm.ClassFile.FieldType.int), false, 991),
  (⟨"HeadServo", "image", "()I"⟩, 1, (Option.some Jvm.ClassFile.FieldType.int), false, 995)]
def es_M_3 : List es_Mt := [(⟨"HeadServo$All", "copyFrom", "(LHeadServo$All;)V"⟩, 2, (Option.none : Option Jvm.ClassFile.FieldType), false, 999),
  (⟨"HeadServo$Steps", "copyFrom", "(LHeadServo$Steps;)V"⟩, 5, (Option.none : Option Jvm.ClassFile.FieldType), false, 1004),
  (⟨"HeadServo", "back", "()I"⟩, 1, (Option.some Jvm.ClassFile.FieldType.int), false, 1010),
  (⟨"HeadServo", "about", "(I)I"⟩, 2, (Option.some Jvm.ClassFile.FieldType.int), false, 1014),
  (⟨"HeadServoModel", "<init>", "()V"⟩, 1, (Option.none : Option Jvm.ClassFile.FieldType), false, 1019),
  (⟨"HeadServoModel", "copy", "([I[I)V"⟩, 3, (Option.none : Option Jvm.ClassFile.FieldType), true, 1024),
  (⟨"HeadServoModel", "wobble", "(II)Z"⟩, 3, (Option.some Jvm.ClassFile.FieldType.boolean), false, 1118),
  (⟨"HeadServoModel", "isSector", "(I)Z"⟩, 1, (Option.some Jvm.ClassFile.FieldType.boolean), true, 1121),
  (⟨"HeadServoModel", "isIn", "(III)Z"⟩, 3, (Option.some Jvm.ClassFile.FieldType.boolean), true, 1124),
  (⟨"HeadServoModel", "lose", "(I)Z"⟩, 2, (Option.some Jvm.ClassFile.FieldType.boolean), false, 1128),
  (⟨"HeadServoModel", "feed", "(IIIII)I"⟩, 6, (Option.some Jvm.ClassFile.FieldType.int), false, 1132),
  (⟨"HeadServoModel", "four", "(I)V"⟩, 3, (Option.none : Option Jvm.ClassFile.FieldType), false, 1136),
  (⟨"HeadServoModel", "end", "(I)I"⟩, 2, (Option.some Jvm.ClassFile.FieldType.int), false, 1140),
  (⟨"HeadServoModel", "text", "()I"⟩, 1, (Option.some Jvm.ClassFile.FieldType.int), false, 1144),
  (⟨"HeadServoModel", "readText", "()I"⟩, 2, (Option.some Jvm.ClassFile.FieldType.int), false, 1148),
  (⟨"HeadServoModel", "nextToken", "()V"⟩, 2, (Option.none : Option Jvm.ClassFile.FieldType), false, 1152),
  (⟨"HeadServoModel", "byteAt", "(I)I"⟩, 2, (Option.some Jvm.ClassFile.FieldType.int), false, 1156),
  (⟨"HeadServoModel", "isFigure", "(I)Z"⟩, 1, (Option.some Jvm.ClassFile.FieldType.boolean), true, 1159),
  (⟨"HeadServoModel", "isLetterByte", "(I)Z"⟩, 1, (Option.some Jvm.ClassFile.FieldType.boolean), true, 1163),
  (⟨"HeadServoModel", "isSign", "(I)Z"⟩, 1, (Option.some Jvm.ClassFile.FieldType.boolean), true, 1167),
  (⟨"HeadServoModel", "clause", "()I"⟩, 5, (Option.some Jvm.ClassFile.FieldType.int), false, 1171),
  (⟨"HeadServoModel", "sortOf", "()I"⟩, 1, (Option.some Jvm.ClassFile.FieldType.int), false, 1175),
  (⟨"HeadServoModel", "w5", "(IIIII)J"⟩, 5, (Option.some Jvm.ClassFile.FieldType.long), true, 1178),
  (⟨"HeadServoModel", "w4", "(IIII)J"⟩, 4, (Option.some Jvm.ClassFile.FieldType.long), true, 1181),
  (⟨"HeadServoModel", "w3", "(III)J"⟩, 3, (Option.some Jvm.ClassFile.FieldType.long), true, 1184),
  (⟨"HeadServoModel", "w2", "(II)J"⟩, 2, (Option.some Jvm.ClassFile.FieldType.long), true, 1187),
  (⟨"HeadServoModel", "isWord", "(J)Z"⟩, 3, (Option.some Jvm.ClassFile.FieldType.boolean), false, 1191),
  (⟨"HeadServoModel", "w6", "(IIIIII)J"⟩, 6, (Option.some Jvm.ClassFile.FieldType.long), true, 1194),
  (⟨"HeadServoModel", "has", "(II)Z"⟩, 2, (Option.some Jvm.ClassFile.FieldType.boolean), true, 1197),
  (⟨"HeadServoModel", "body", "(II)I"⟩, 3, (Option.some Jvm.ClassFile.FieldType.int), false, 1201),
  (⟨"HeadServoModel", "wobbleClause", "(I)I"⟩, 3, (Option.some Jvm.ClassFile.FieldType.int), false, 1205),
  (⟨"HeadServoModel", "figure", "(III)I"⟩, 4, (Option.some Jvm.ClassFile.FieldType.int), false, 1209),
  (⟨"HeadServoModel", "lawClause", "(I)I"⟩, 3, (Option.some Jvm.ClassFile.FieldType.int), false, 1213),
  (⟨"HeadServoModel", "summed", "()I"⟩, 2, (Option.some Jvm.ClassFile.FieldType.int), false, 1217),
  (⟨"HeadServoModel", "behindOne", "()Z"⟩, 4, (Option.some Jvm.ClassFile.FieldType.boolean), false, 1221),
  (⟨"HeadServoModel", "betweenOf", "()I"⟩, 1, (Option.some Jvm.ClassFile.FieldType.int), false, 1225),
  (⟨"HeadServoModel", "openNow", "()I"⟩, 1, (Option.some Jvm.ClassFile.FieldType.int), false, 1229),
  (⟨"HeadServoModel", "openAt", "()I"⟩, 2, (Option.some Jvm.ClassFile.FieldType.int), false, 1233),
  (⟨"HeadServoModel", "isCompared", "()Z"⟩, 2, (Option.some Jvm.ClassFile.FieldType.boolean), false, 1237),
  (⟨"HeadServoModel", "rank", "(I)I"⟩, 1, (Option.some Jvm.ClassFile.FieldType.int), true, 1240),
  (⟨"HeadServoModel", "compareOf", "()I"⟩, 1, (Option.some Jvm.ClassFile.FieldType.int), false, 1244),
  (⟨"HeadServoModel", "settle", "(I)V"⟩, 2, (Option.none : Option Jvm.ClassFile.FieldType), false, 1248),
  (⟨"HeadServoModel", "emit", "(II)V"⟩, 3, (Option.none : Option Jvm.ClassFile.FieldType), false, 1252),
  (⟨"HeadServoModel", "partOf", "(I)I"⟩, 2, (Option.some Jvm.ClassFile.FieldType.int), false, 1256),
  (⟨"HeadServoModel", "beginOne", "()I"⟩, 2, (Option.some Jvm.ClassFile.FieldType.int), false, 1260),
  (⟨"HeadServoModel", "nameOf", "()I"⟩, 1, (Option.some Jvm.ClassFile.FieldType.int), false, 1264),
  (⟨"HeadServoModel", "isSettledWord", "()Z"⟩, 1, (Option.some Jvm.ClassFile.FieldType.boolean), false, 1268),
  (⟨"HeadServoModel", "isOf", "(I)Z"⟩, 2, (Option.some Jvm.ClassFile.FieldType.boolean), false, 1272),
  (⟨"HeadServoModel", "opened", "(I)I"⟩, 2, (Option.some Jvm.ClassFile.FieldType.int), false, 1276),
  (⟨"HeadServoModel", "isAskAhead", "()Z"⟩, 1, (Option.some Jvm.ClassFile.FieldType.boolean), false, 1280),
  (⟨"HeadServoModel", "fault", "(I)I"⟩, 2, (Option.some Jvm.ClassFile.FieldType.int), false, 1284),
  (⟨"HeadServoModel", "by", "(I)Z"⟩, 2, (Option.some Jvm.ClassFile.FieldType.boolean), false, 1288),
  (⟨"HeadServoModel", "undo", "()I"⟩, 3, (Option.some Jvm.ClassFile.FieldType.int), false, 1292),
  (⟨"HeadServoModel", "seek", "(I)Z"⟩, 2, (Option.some Jvm.ClassFile.FieldType.boolean), false, 1296),
  (⟨"HeadServoModel", "canSeek", "(I)Z"⟩, 2, (Option.some Jvm.ClassFile.FieldType.boolean), false, 1300),
  (⟨"HeadServoModel", "isTrack", "(I)Z"⟩, 1, (Option.some Jvm.ClassFile.FieldType.boolean), true, 1303),
  (⟨"HeadServoModel", "keep", "()V"⟩, 3, (Option.none : Option Jvm.ClassFile.FieldType), false, 1307),
  (⟨"HeadServoModel", "seekNow", "(I)V"⟩, 2, (Option.none : Option Jvm.ClassFile.FieldType), false, 1311),
  (⟨"HeadServoModel", "writeDown", "(II)V"⟩, 4, (Option.none : Option Jvm.ClassFile.FieldType), false, 1315),
  (⟨"HeadServoModel", "shake", "(I)I"⟩, 2, (Option.some Jvm.ClassFile.FieldType.int), false, 1319)]
def es_M_4 : List es_Mt := [(⟨"HeadServoModel", "shakeNow", "(I)V"⟩, 2, (Option.none : Option Jvm.ClassFile.FieldType), false, 1323),
  (⟨"HeadServoModel", "held", "(JII)I"⟩, 4, (Option.some Jvm.ClassFile.FieldType.int), true, 1326),
  (⟨"HeadServoModel", "write", "()I"⟩, 1, (Option.some Jvm.ClassFile.FieldType.int), false, 1330),
  (⟨"HeadServoModel", "canWrite", "()Z"⟩, 1, (Option.some Jvm.ClassFile.FieldType.boolean), false, 1334),
  (⟨"HeadServoModel", "writeNow", "()V"⟩, 1, (Option.none : Option Jvm.ClassFile.FieldType), false, 1338),
  (⟨"HeadServoModel", "day", "(I)I"⟩, 2, (Option.some Jvm.ClassFile.FieldType.int), false, 1342),
  (⟨"HeadServoModel", "arePassed", "(I)Z"⟩, 3, (Option.some Jvm.ClassFile.FieldType.boolean), false, 1346),
  (⟨"HeadServoModel", "sample", "()V"⟩, 2, (Option.none : Option Jvm.ClassFile.FieldType), false, 1350),
  (⟨"HeadServoModel", "isLost", "(I)Z"⟩, 2, (Option.some Jvm.ClassFile.FieldType.boolean), false, 1354),
  (⟨"HeadServoModel", "readNow", "(I)V"⟩, 4, (Option.none : Option Jvm.ClassFile.FieldType), false, 1358),
  (⟨"HeadServoModel", "drawnBy", "(I)I"⟩, 3, (Option.some Jvm.ClassFile.FieldType.int), false, 1362),
  (⟨"HeadServoModel", "anew", "()V"⟩, 1, (Option.none : Option Jvm.ClassFile.FieldType), false, 1366),
  (⟨"HeadServoModel", "learnsOf", "(I)I"⟩, 2, (Option.some Jvm.ClassFile.FieldType.int), false, 1373),
  (⟨"HeadServoModel", "name", "(I)V"⟩, 2, (Option.none : Option Jvm.ClassFile.FieldType), false, 1377),
  (⟨"HeadServoModel", "says", "(IIIII)I"⟩, 7, (Option.some Jvm.ClassFile.FieldType.int), false, 1381),
  (⟨"HeadServoModel", "summedUp", "(II)J"⟩, 10, (Option.some Jvm.ClassFile.FieldType.long), false, 1385),
  (⟨"HeadServoModel", "ofOne", "(IJ)J"⟩, 4, (Option.some Jvm.ClassFile.FieldType.long), false, 1389),
  (⟨"HeadServoModel", "curveBoth", "(J)I"⟩, 2, (Option.some Jvm.ClassFile.FieldType.int), true, 1392),
  (⟨"HeadServoModel", "curveOf", "(II)I"⟩, 3, (Option.some Jvm.ClassFile.FieldType.int), true, 1395),
  (⟨"HeadServoModel", "wayOf", "(II)I"⟩, 4, (Option.some Jvm.ClassFile.FieldType.int), true, 1398),
  (⟨"HeadServoModel", "two", "(IJJ)J"⟩, 5, (Option.some Jvm.ClassFile.FieldType.long), true, 1402),
  (⟨"HeadServoModel", "clip", "(J)J"⟩, 2, (Option.some Jvm.ClassFile.FieldType.long), true, 1405),
  (⟨"HeadServoModel", "isAsked", "(IJJ)Z"⟩, 5, (Option.some Jvm.ClassFile.FieldType.boolean), true, 1410),
  (⟨"HeadServoModel", "joined", "(IZZ)Z"⟩, 3, (Option.some Jvm.ClassFile.FieldType.boolean), true, 1413),
  (⟨"HeadServoModel", "moveNow", "()V"⟩, 2, (Option.none : Option Jvm.ClassFile.FieldType), false, 1417),
  (⟨"HeadServoModel", "pullsOf", "(II)I"⟩, 3, (Option.some Jvm.ClassFile.FieldType.int), false, 1421),
  (⟨"HeadServoModel", "played", "(I)I"⟩, 3, (Option.some Jvm.ClassFile.FieldType.int), false, 1425),
  (⟨"HeadServoModel", "isPlayed", "(I)Z"⟩, 3, (Option.some Jvm.ClassFile.FieldType.boolean), false, 1429),
  (⟨"HeadServoModel", "years", "(II)I"⟩, 5, (Option.some Jvm.ClassFile.FieldType.int), false, 1438),
  (⟨"HeadServoModel", "happens", "(I)V"⟩, 2, (Option.none : Option Jvm.ClassFile.FieldType), false, 1442),
  (⟨"HeadServoModel", "of", "(II)I"⟩, 3, (Option.some Jvm.ClassFile.FieldType.int), false, 1446),
  (⟨"HeadServoModel", "is", "(I)I"⟩, 2, (Option.some Jvm.ClassFile.FieldType.int), false, 1450),
  (⟨"HeadServoModel", "lost", "()I"⟩, 1, (Option.some Jvm.ClassFile.FieldType.int), false, 1454),
  (⟨"HeadServoModel", "far", "(I)I"⟩, 2, (Option.some Jvm.ClassFile.FieldType.int), false, 1458),
  (⟨"HeadServoModel", "pulls", "()I"⟩, 1, (Option.some Jvm.ClassFile.FieldType.int), false, 1462),
  (⟨"HeadServoModel", "book", "(II)I"⟩, 3, (Option.some Jvm.ClassFile.FieldType.int), false, 1466),
  (⟨"HeadServoModel", "lineOf", "(II)I"⟩, 4, (Option.some Jvm.ClassFile.FieldType.int), false, 1470),
  (⟨"HeadServoModel", "ledger", "(I)I"⟩, 2, (Option.some Jvm.ClassFile.FieldType.int), false, 1474),
  (⟨"HeadServoModel", "linesOf", "(I)I"⟩, 4, (Option.some Jvm.ClassFile.FieldType.int), false, 1478),
  (⟨"HeadServoModel", "most", "(I)I"⟩, 5, (Option.some Jvm.ClassFile.FieldType.int), false, 1482),
  (⟨"HeadServoModel", "linesWith", "(II)I"⟩, 5, (Option.some Jvm.ClassFile.FieldType.int), false, 1486),
  (⟨"HeadServoModel", "foretold", "(II)I"⟩, 4, (Option.some Jvm.ClassFile.FieldType.int), false, 1490),
  (⟨"HeadServoModel", "putAside", "()V"⟩, 2, (Option.none : Option Jvm.ClassFile.FieldType), false, 1494),
  (⟨"HeadServoModel", "bringBack", "()V"⟩, 2, (Option.none : Option Jvm.ClassFile.FieldType), false, 1498),
  (⟨"HeadServoModel", "till", "(I)I"⟩, 4, (Option.some Jvm.ClassFile.FieldType.int), false, 1502),
  (⟨"HeadServoModel", "gray", "(I)I"⟩, 2, (Option.some Jvm.ClassFile.FieldType.int), false, 1506),
  (⟨"HeadServoModel", "codeOf", "(I)I"⟩, 1, (Option.some Jvm.ClassFile.FieldType.int), true, 1509),
  (⟨"HeadServoModel", "track", "(I)I"⟩, 3, (Option.some Jvm.ClassFile.FieldType.int), false, 1513),
  (⟨"HeadServoModel", "burst", "(II)I"⟩, 3, (Option.some Jvm.ClassFile.FieldType.int), false, 1517),
  (⟨"HeadServoModel", "isPlace", "(I)Z"⟩, 1, (Option.some Jvm.ClassFile.FieldType.boolean), true, 1520),
  (⟨"HeadServoModel", "burstOf", "(II)I"⟩, 3, (Option.some Jvm.ClassFile.FieldType.int), true, 1523),
  (⟨"HeadServoModel", "apartBy", "(II)I"⟩, 2, (Option.some Jvm.ClassFile.FieldType.int), true, 1526),
  (⟨"HeadServoModel", "reads", "(IZ)I"⟩, 3, (Option.some Jvm.ClassFile.FieldType.int), false, 1530),
  (⟨"HeadServoModel", "otherAt", "(I)I"⟩, 3, (Option.some Jvm.ClassFile.FieldType.int), true, 1533),
  (⟨"HeadServoModel", "fit", "(IIIII)I"⟩, 7, (Option.some Jvm.ClassFile.FieldType.int), false, 1537),
  (⟨"HeadServoModel", "areRead", "(IIIII)Z"⟩, 6, (Option.some Jvm.ClassFile.FieldType.boolean), false, 1541),
  (⟨"HeadServoModel", "isBurst", "(I)Z"⟩, 1, (Option.some Jvm.ClassFile.FieldType.boolean), true, 1544),
  (⟨"HeadServoModel", "canBe", "(IIIIII)Z"⟩, 7, (Option.some Jvm.ClassFile.FieldType.boolean), false, 1548),
  (⟨"HeadServoModel", "isReadAt", "(II)Z"⟩, 2, (Option.some Jvm.ClassFile.FieldType.boolean), true, 1551),
  (⟨"HeadServoModel", "isLike", "(III)Z"⟩, 3, (Option.some Jvm.ClassFile.FieldType.boolean), true, 1554)]
def es_M_5 : List es_Mt := [(⟨"HeadServoModel", "fits", "(IIIII)I"⟩, 8, (Option.some Jvm.ClassFile.FieldType.int), false, 1558),
  (⟨"HeadServoModel", "unlike", "(II)I"⟩, 5, (Option.some Jvm.ClassFile.FieldType.int), false, 1562),
  (⟨"HeadServoModel", "rim", "(IZ)I"⟩, 4, (Option.some Jvm.ClassFile.FieldType.int), false, 1566),
  (⟨"HeadServoModel", "blind", "(IIII)I"⟩, 7, (Option.some Jvm.ClassFile.FieldType.int), false, 1570),
  (⟨"HeadServoModel", "curve", "(II)I"⟩, 3, (Option.some Jvm.ClassFile.FieldType.int), false, 1574),
  (⟨"HeadServoModel", "isPull", "(I)Z"⟩, 1, (Option.some Jvm.ClassFile.FieldType.boolean), true, 1577),
  (⟨"HeadServoModel", "stop", "(II)I"⟩, 3, (Option.some Jvm.ClassFile.FieldType.int), false, 1581),
  (⟨"HeadServoModel", "needs", "(II)I"⟩, 4, (Option.some Jvm.ClassFile.FieldType.int), false, 1585),
  (⟨"HeadServoModel", "fewest", "(II)I"⟩, 3, (Option.some Jvm.ClassFile.FieldType.int), false, 1589),
  (⟨"HeadServoModel", "isWay", "(II)Z"⟩, 2, (Option.some Jvm.ClassFile.FieldType.boolean), true, 1592),
  (⟨"HeadServoModel", "layPlans", "(II)I"⟩, 7, (Option.some Jvm.ClassFile.FieldType.int), false, 1596),
  (⟨"HeadServoModel", "canGo", "(III)Z"⟩, 4, (Option.some Jvm.ClassFile.FieldType.boolean), false, 1600),
  (⟨"HeadServoModel", "cell", "(III)I"⟩, 3, (Option.some Jvm.ClassFile.FieldType.int), true, 1603),
  (⟨"HeadServoModel", "plan", "(III)I"⟩, 9, (Option.some Jvm.ClassFile.FieldType.int), false, 1607),
  (⟨"HeadServoModel", "learn", "(III)I"⟩, 4, (Option.some Jvm.ClassFile.FieldType.int), false, 1611),
  (⟨"HeadServoModel", "isOff", "(II)Z"⟩, 2, (Option.some Jvm.ClassFile.FieldType.boolean), true, 1614),
  (⟨"HeadServoModel", "learntBy", "(III)I"⟩, 5, (Option.some Jvm.ClassFile.FieldType.int), true, 1617),
  (⟨"HeadServoModel", "oneTurn", "(III)I"⟩, 3, (Option.some Jvm.ClassFile.FieldType.int), true, 1620),
  (⟨"HeadServoModel", "rests", "(II)I"⟩, 3, (Option.some Jvm.ClassFile.FieldType.int), false, 1624),
  (⟨"HeadServoModel", "restsBy", "(II)I"⟩, 4, (Option.some Jvm.ClassFile.FieldType.int), true, 1627),
  (⟨"HeadServoModel", "gain", "(I)I"⟩, 7, (Option.some Jvm.ClassFile.FieldType.int), false, 1631),
  (⟨"HeadServoModel", "request", "(I)I"⟩, 2, (Option.some Jvm.ClassFile.FieldType.int), false, 1636),
  (⟨"HeadServoModel", "order", "(I)I"⟩, 5, (Option.some Jvm.ClassFile.FieldType.int), false, 1640),
  (⟨"HeadServoModel", "layRow", "()V"⟩, 3, (Option.none : Option Jvm.ClassFile.FieldType), false, 1644),
  (⟨"HeadServoModel", "swap", "(II)V"⟩, 4, (Option.none : Option Jvm.ClassFile.FieldType), false, 1648),
  (⟨"HeadServoModel", "rowLength", "()I"⟩, 4, (Option.some Jvm.ClassFile.FieldType.int), false, 1652),
  (⟨"HeadServoModel", "trackNow", "()I"⟩, 1, (Option.some Jvm.ClassFile.FieldType.int), false, 1656),
  (⟨"HeadServoModel", "isNextRow", "(I)Z"⟩, 6, (Option.some Jvm.ClassFile.FieldType.boolean), false, 1660),
  (⟨"HeadServoModel", "sweep", "(Z)I"⟩, 7, (Option.some Jvm.ClassFile.FieldType.int), false, 1664),
  (⟨"HeadServoModel", "nearest", "()I"⟩, 7, (Option.some Jvm.ClassFile.FieldType.int), false, 1668),
  (⟨"HeadServoModel", "steady", "()I"⟩, 3, (Option.some Jvm.ClassFile.FieldType.int), false, 1672),
  (⟨"HeadServoModel", "leftOf", "(I)I"⟩, 2, (Option.some Jvm.ClassFile.FieldType.int), false, 1676),
  (⟨"HeadServoModel", "spread", "(Z)I"⟩, 6, (Option.some Jvm.ClassFile.FieldType.int), false, 1680),
  (⟨"HeadServoModel", "worst", "()I"⟩, 3, (Option.some Jvm.ClassFile.FieldType.int), false, 1684),
  (⟨"HeadServoModel", "mean", "(Z)J"⟩, 7, (Option.some Jvm.ClassFile.FieldType.long), false, 1688),
  (⟨"HeadServoModel", "divisor", "(JJ)J"⟩, 10, (Option.some Jvm.ClassFile.FieldType.long), true, 1691),
  (⟨"HeadServoModel", "window", "(I)I"⟩, 5, (Option.some Jvm.ClassFile.FieldType.int), false, 1695),
  (⟨"HeadServoModel", "farthestFrom", "(II)I"⟩, 7, (Option.some Jvm.ClassFile.FieldType.int), false, 1699),
  (⟨"HeadServoModel", "longest", "()I"⟩, 5, (Option.some Jvm.ClassFile.FieldType.int), false, 1703),
  (⟨"HeadServoModel", "said", "(II)I"⟩, 3, (Option.some Jvm.ClassFile.FieldType.int), false, 1708),
  (⟨"HeadServoModel", "whose", "()I"⟩, 5, (Option.some Jvm.ClassFile.FieldType.int), false, 1712),
  (⟨"HeadServoModel", "image", "()I"⟩, 1, (Option.some Jvm.ClassFile.FieldType.int), false, 1716),
  (⟨"HeadServoModel", "back", "()I"⟩, 1, (Option.some Jvm.ClassFile.FieldType.int), false, 1720),
  (⟨"HeadServoModel", "about", "(I)I"⟩, 2, (Option.some Jvm.ClassFile.FieldType.int), false, 1724)]
def es_M : List es_Mt := es_M_0 ++ (es_M_1 ++ (es_M_2 ++ (es_M_3 ++ (es_M_4 ++ (es_M_5)))))
def es_m (m : Nat) : es_Mt := es_M.getD m (⟨"", "", ""⟩, 0, none, false, 0)
/-- links of fields: own, place, (class, field, type), of a nest mate, where the word stands -/
def es_FL : List (Nat × Nat × (Nat × Nat × Nat) × Bool × Nat) := [(2, 9, (2, 0, 0), false, 37), (0, 129, (2, 0, 0), true, 38), (2, 15, (2, 1, 0), false, 39), (3, 52, (2, 1, 0), true, 40), (0, 249, (2, 1, 0), true, 41), (2, 18, (2, 2, 0), false, 42), (3, 58, (2, 2, 0), true, 43), (0, 110, (2, 2, 0), true, 44), (2, 21, (2, 3, 0), false, 45), (3, 55, (2, 3, 0), true, 46), (0, 225, (2, 3, 0), true, 47), (2, 24, (2, 4, 0), false, 48), (3, 61, (2, 4, 0), true, 49), (0, 145, (2, 4, 0), true, 50), (2, 27, (2, 5, 0), false, 51), (0, 265, (2, 5, 0), true, 52), (2, 30, (2, 6, 0), false, 53), (0, 268, (2, 6, 0), true, 54), (2, 33, (2, 7, 0), false, 55), (3, 46, (2, 7, 0), true, 56), (0, 139, (2, 7, 0), true, 57), (2, 36, (2, 8, 0), false, 58), (0, 189, (2, 8, 0), true, 59), (2, 39, (2, 9, 0), false, 60), (0, 271, (2, 9, 0), true, 61), (2, 42, (2, 10, 2), false, 62), (2, 46, (2, 11, 2), false, 63), (6, 11, (6, 0, 2), false, 99), (6, 17, (6, 1, 0), false, 100), (6, 21, (6, 2, 0), false, 101), (0, 203, (6, 2, 0), true, 102), (1, 12, (1, 0, 2), false, 110), (0, 107, (1, 0, 2), true, 111), (1, 21, (1, 1, 2), false, 112), (0, 113, (1, 1, 2), true, 113), (1, 25, (1, 2, 2), false, 114), (0, 73, (1, 2, 2), true, 115), (1, 29, (1, 3, 0), false, 116), (0, 76, (1, 3, 0), true, 117), (1, 33, (1, 4, 0), false, 118), (0, 83, (1, 4, 0), true, 119), (1, 36, (1, 5, 0), false, 120), (0, 100, (1, 5, 0), true, 121), (1, 39, (1, 6, 2), false, 122), (0, 357, (1, 6, 2), true, 123), (1, 42, (1, 7, 0), false, 124), (0, 354, (1, 7, 0), true, 125), (1, 45, (1, 8, 2), false, 126), (0, 393, (1, 8, 2), true, 127), (1, 48, (1, 9, 2), false, 128), (0, 396, (1, 9, 2), true, 129), (1, 51, (1, 10, 0), false, 130), (0, 390, (1, 10, 0), true, 131), (4, 9, (4, 0, 2), false, 165), (4, 15, (4, 1, 2), false, 166), (4, 18, (4, 2, 2), false, 167), (4, 21, (4, 3, 0), false, 168), (4, 25, (4, 4, 0), false, 169), (4, 28, (4, 5, 0), false, 170), (4, 31, (4, 6, 0), false, 171), (0, 90, (4, 6, 0), true, 172), (4, 34, (4, 7, 0), false, 173), (0, 93, (4, 7, 0), true, 174), (3, 9, (3, 0, 2), false, 198), (3, 15, (3, 1, 0), false, 199), (5, 9, (5, 0, 2), false, 211), (5, 15, (5, 1, 2), false, 212), (5, 18, (5, 2, 0), false, 213), (5, 22, (5, 3, 0), false, 214), (0, 364, (5, 3, 0), true, 215), (7, 9, (7, 0, 2), false, 230), (0, 154, (7, 0, 2), true, 231), (7, 15, (7, 1, 2), false, 232), (0, 157, (7, 1, 2), true, 233), (7, 18, (7, 2, 2), false, 234), (0, 160, (7, 2, 2), true, 235), (7, 21, (7, 3, 0), false, 236), (0, 151, (7, 3, 0), true, 237), (4, 112, (7, 3, 0), true, 238), (7, 25, (7, 4, 2), false, 239), (3, 23, (7, 4, 2), true, 240), (7, 28, (7, 5, 0), false, 241), (4, 128, (7, 5, 0), true, 242), (7, 31, (7, 6, 0), false, 243), (4, 106, (7, 6, 0), true, 244), (0, 243, (7, 6, 0), true, 245), (7, 34, (7, 7, 0), false, 246), (4, 134, (7, 7, 0), true, 247), (0, 252, (7, 7, 0), true, 248), (7, 37, (7, 8, 0), false, 249), (4, 109, (7, 8, 0), true, 250), (0, 259, (7, 8, 0), true, 251), (7, 40, (7, 9, 0), false, 252), (4, 137, (7, 9, 0), true, 253), (0, 262, (7, 9, 0), true, 254), (0, 10, (0, 0, 2), false, 276), (0, 16, (0, 1, 2), false, 277), (0, 21, (0, 2, 2), false, 278), (0, 28, (0, 3, 2), false, 279), (0, 35, (0, 4, 2), false, 280), (0, 42, (0, 5, 2), false, 281), (0, 49, (0, 6, 2), false, 282), (0, 53, (0, 7, 2), false, 283), (0, 57, (0, 8, 2), false, 284), (0, 60, (0, 9, 0), false, 285), (0, 64, (0, 10, 3), false, 286), (8, 7, (8, 0, 2), false, 1025), (8, 13, (8, 1, 2), false, 1026), (8, 16, (8, 2, 2), false, 1027), (8, 19, (8, 3, 2), false, 1028), (8, 87, (8, 4, 0), false, 1029), (8, 22, (8, 5, 0), false, 1030), (8, 26, (8, 6, 0), false, 1031), (8, 94, (8, 7, 0), false, 1032), (8, 101, (8, 8, 0), false, 1033), (8, 104, (8, 9, 0), false, 1034), (8, 110, (8, 10, 0), false, 1035), (8, 117, (8, 11, 1), false, 1036), (8, 142, (8, 12, 0), false, 1037), (8, 145, (8, 13, 0), false, 1038), (8, 156, (8, 14, 0), false, 1039), (8, 29, (8, 15, 2), false, 1040), (8, 159, (8, 16, 0), false, 1041), (8, 169, (8, 17, 0), false, 1042), (8, 188, (8, 18, 3), false, 1043), (8, 238, (8, 19, 0), false, 1044), (8, 32, (8, 20, 2), false, 1045), (8, 35, (8, 21, 2), false, 1046), (8, 39, (8, 22, 2), false, 1047), (8, 43, (8, 23, 3), false, 1048), (8, 47, (8, 24, 2), false, 1049), (8, 51, (8, 25, 2), false, 1050), (8, 418, (8, 26, 0), false, 1051), (8, 54, (8, 27, 2), false, 1052), (8, 57, (8, 28, 2), false, 1053)]
def es_ML : List (Nat × Nat × Nat × Bool × Nat) := [(9, 9, 0, false, 19), (0, 1, 1, false, 22), (0, 9, 2, true, 27), (1, 3, 1, false, 30), (1, 11, 3, true, 33), (2, 3, 1, false, 36), (1, 20, 4, true, 92), (6, 3, 1, false, 95), (6, 24, 3, true, 98), (0, 27, 3, true, 158), (0, 34, 5, true, 161), (4, 3, 1, false, 164), (0, 41, 6, true, 194), (3, 3, 1, false, 197), (0, 48, 7, true, 207), (5, 3, 1, false, 210), (0, 68, 8, true, 226), (7, 3, 1, false, 229), (9, 13, 9, false, 310), (0, 69, 10, false, 314), (9, 18, 11, false, 317), (9, 23, 12, false, 321), (0, 79, 13, false, 325), (9, 28, 14, false, 329), (9, 33, 15, false, 333), (0, 86, 16, true, 337), (4, 37, 17, true, 341), (4, 42, 18, false, 345), (4, 48, 19, false, 348), (4, 60, 20, false, 352), (4, 81, 10, true, 355), (4, 64, 21, false, 356), (4, 85, 22, false, 360), (4, 90, 23, false, 364), (12, 335, 24, false, 368), (4, 95, 25, false, 374), (12, 492, 26, false, 378), (12, 495, 27, false, 382), (13, 9, 28, false, 385), (12, 1059, 29, false, 390), (12, 498, 30, false, 393), (14, 67, 31, false, 396), (14, 48, 32, false, 399), (14, 414, 28, false, 402), (14, 71, 33, false, 403), (4, 77, 34, false, 412), (4, 68, 35, false, 416), (4, 71, 36, false, 419), (4, 74, 37, false, 423), (4, 99, 38, false, 427), (4, 52, 39, false, 430), (4, 56, 40, false, 434), (4, 103, 41, false, 438), (4, 115, 42, false, 442), (4, 125, 43, true, 446), (7, 43, 10, true, 450), (4, 130, 44, false, 451), (4, 150, 45, false, 455), (4, 156, 46, false, 459), (4, 143, 47, false, 463), (4, 146, 48, false, 467), (4, 153, 49, true, 471), (4, 159, 50, false, 475), (4, 122, 51, false, 479), (4, 162, 52, false, 483), (4, 168, 53, false, 487), (4, 175, 54, false, 491), (4, 178, 55, false, 495), (4, 171, 56, true, 499), (4, 165, 57, false, 503), (4, 119, 58, false, 507), (4, 140, 59, false, 511), (9, 38, 60, false, 516), (9, 42, 61, false, 520), (0, 96, 62, false, 524), (9, 46, 63, false, 528), (0, 103, 64, false, 532), (0, 117, 65, true, 535), (6, 31, 66, false, 539), (6, 25, 67, false, 543), (6, 35, 68, true, 546), (0, 123, 69, true, 553), (2, 69, 70, false, 557), (2, 61, 10, true, 561), (9, 50, 71, false, 562), (0, 126, 72, true, 566), (2, 65, 73, true, 570), (0, 183, 18, false, 573), (0, 318, 74, false, 574), (9, 54, 75, false, 577), (0, 132, 76, true, 581), (0, 136, 77, true, 585), (2, 73, 18, false, 589), (9, 58, 78, false, 590), (0, 142, 79, false, 594), (0, 148, 80, false, 598), (0, 206, 81, true, 602), (2, 55, 67, false, 606), (0, 209, 82, false, 607), (0, 192, 83, true, 611), (0, 212, 84, false, 615), (0, 215, 73, false, 619), (0, 219, 85, false, 620), (0, 222, 86, true, 623), (0, 228, 87, false, 627), (0, 255, 88, true, 631), (3, 19, 10, true, 635), (3, 28, 89, false, 636), (3, 32, 90, false, 640), (3, 36, 91, true, 644), (0, 315, 92, false, 647), (0, 321, 93, false, 650), (3, 40, 86, true, 653), (3, 49, 81, true, 654), (3, 64, 94, false, 655), (3, 68, 95, false, 658), (3, 76, 96, false, 663), (3, 82, 97, false, 666), (0, 232, 98, true, 669), (0, 236, 99, false, 673), (0, 246, 91, false, 677), (0, 240, 100, true, 678), (9, 62, 101, false, 682), (0, 163, 102, false, 686), (0, 166, 9, false, 690), (0, 169, 11, false, 691), (0, 172, 63, false, 692), (0, 175, 71, false, 693), (0, 179, 75, false, 694), (9, 66, 103, false, 695), (0, 195, 104, false, 699), (9, 71, 105, false, 703), (0, 199, 106, true, 707), (9, 75, 107, false, 711), (9, 79, 108, false, 715), (9, 83, 109, false, 719), (9, 87, 110, false, 723), (0, 274, 111, true, 727), (9, 91, 112, false, 731), (0, 277, 68, true, 735), (9, 95, 113, false, 736), (9, 99, 114, false, 740), (0, 280, 115, false, 744), (9, 103, 116, false, 747), (0, 283, 117, false, 751), (9, 107, 118, false, 754), (0, 286, 119, false, 758), (9, 111, 120, false, 761), (0, 289, 121, false, 765), (9, 116, 122, false, 768), (0, 292, 123, false, 772), (0, 296, 124, false, 775), (0, 299, 125, false, 778), (0, 302, 126, false, 781), (9, 120, 127, false, 784), (0, 306, 128, false, 788), (9, 124, 129, false, 791), (0, 310, 130, false, 795), (9, 128, 131, false, 801), (9, 132, 132, false, 805), (9, 137, 133, false, 809), (9, 141, 134, false, 813), (9, 145, 135, false, 817), (9, 149, 136, false, 821), (0, 324, 137, false, 825), (0, 336, 138, false, 829), (0, 339, 139, false, 832), (0, 327, 140, false, 836), (9, 153, 141, false, 840), (0, 330, 136, false, 844), (0, 333, 142, false, 845), (9, 158, 143, false, 849), (0, 342, 144, false, 853), (0, 345, 145, false, 856), (9, 162, 146, false, 859), (0, 348, 147, false, 863), (9, 166, 148, false, 866), (0, 351, 149, false, 870), (9, 170, 150, false, 873), (9, 174, 151, false, 877), (0, 360, 152, true, 881), (5, 25, 153, false, 885), (5, 36, 10, true, 889), (5, 29, 154, false, 890), (5, 40, 92, false, 894), (5, 46, 18, false, 895), (5, 33, 155, false, 896), (0, 367, 156, true, 900), (9, 178, 157, false, 904), (9, 183, 158, false, 908), (0, 370, 159, false, 912), (0, 373, 160, false, 916), (9, 187, 161, false, 919), (0, 376, 162, false, 923), (0, 379, 163, false, 927), (9, 191, 164, false, 931), (9, 195, 165, false, 935), (0, 382, 166, false, 939), (9, 200, 167, false, 943), (0, 387, 168, false, 947), (9, 204, 169, false, 951), (9, 216, 170, false, 955), (9, 220, 171, false, 959), (9, 224, 172, false, 963), (9, 208, 173, false, 967), (9, 212, 174, false, 971), (0, 399, 175, false, 975), (9, 228, 176, false, 979), (0, 403, 177, true, 983), (2, 76, 111, false, 987), (9, 232, 178, false, 988), (9, 236, 179, false, 992), (0, 406, 180, true, 996), (1, 54, 68, true, 1000), (1, 58, 181, true, 1001), (6, 39, 18, false, 1005), (9, 240, 182, false, 1007), (9, 244, 183, false, 1011), (9, 12, 184, false, 1017), (8, 1, 1, false, 1020), (8, 60, 185, false, 1022), (9, 17, 186, false, 1115), (8, 72, 187, false, 1119), (8, 64, 188, false, 1122), (9, 22, 189, false, 1125), (9, 27, 190, false, 1129), (8, 90, 191, false, 1133), (9, 32, 192, false, 1137), (9, 37, 193, false, 1141), (8, 247, 194, false, 1145), (8, 179, 195, false, 1149), (8, 97, 196, false, 1153), (8, 107, 197, false, 1157), (8, 114, 198, false, 1161), (8, 123, 199, false, 1165), (8, 244, 200, false, 1168), (8, 235, 201, false, 1172), (8, 138, 202, false, 1176), (8, 134, 203, false, 1179), (8, 130, 204, false, 1182), (8, 126, 205, false, 1185), (8, 197, 206, false, 1188), (8, 148, 207, false, 1192), (8, 68, 208, false, 1195), (8, 241, 209, false, 1198), (8, 229, 210, false, 1202), (8, 225, 211, false, 1206), (8, 232, 212, false, 1210), (8, 222, 213, false, 1214), (8, 216, 214, false, 1218), (8, 210, 215, false, 1222), (8, 176, 216, false, 1226), (8, 172, 217, false, 1230), (8, 204, 218, false, 1234), (8, 162, 219, false, 1238), (8, 207, 220, false, 1241), (8, 191, 221, false, 1245), (8, 165, 222, false, 1249), (8, 213, 223, false, 1253), (8, 219, 224, false, 1257), (8, 182, 225, false, 1261), (8, 152, 226, false, 1265), (8, 185, 227, false, 1269), (8, 194, 228, false, 1273), (8, 201, 229, false, 1277), (9, 41, 230, false, 1281), (9, 45, 231, false, 1285), (9, 74, 232, false, 1289), (9, 49, 233, false, 1293), (8, 323, 234, false, 1297), (8, 320, 235, false, 1301), (8, 326, 236, false, 1304), (8, 329, 237, false, 1308), (8, 308, 238, false, 1312), (9, 53, 239, false, 1316), (8, 332, 240, false, 1320), (8, 80, 241, false, 1324), (9, 57, 242, false, 1327), (8, 335, 243, false, 1331), (8, 338, 244, false, 1335), (9, 61, 245, false, 1339), (8, 344, 246, false, 1343), (8, 341, 247, false, 1347), (8, 311, 248, false, 1351), (8, 314, 249, false, 1355), (8, 299, 250, false, 1359), (8, 290, 251, false, 1363), (8, 302, 252, false, 1370), (8, 283, 253, false, 1374), (8, 286, 254, false, 1378), (8, 280, 255, false, 1382), (8, 264, 256, false, 1386), (8, 258, 257, false, 1390), (8, 84, 258, false, 1393), (8, 76, 259, false, 1396), (8, 268, 260, false, 1400), (8, 254, 261, false, 1403), (8, 272, 262, false, 1408), (8, 276, 263, false, 1411), (8, 317, 264, false, 1414), (8, 305, 265, false, 1418), (9, 65, 266, false, 1422), (8, 362, 267, false, 1426), (8, 347, 186, false, 1430), (8, 350, 189, false, 1431), (8, 353, 233, false, 1432), (8, 356, 239, false, 1433), (8, 359, 242, false, 1434), (9, 70, 268, false, 1435), (8, 365, 269, false, 1439), (9, 78, 270, false, 1443), (9, 82, 271, false, 1447), (9, 219, 272, false, 1451), (9, 223, 273, false, 1455), (9, 86, 274, false, 1459), (9, 90, 275, false, 1463), (8, 368, 276, false, 1467), (9, 235, 277, false, 1471), (8, 371, 278, false, 1475), (9, 231, 279, false, 1479), (8, 374, 280, false, 1483), (9, 94, 281, false, 1487), (8, 377, 282, false, 1491), (8, 380, 283, false, 1495), (9, 98, 284, false, 1499), (9, 102, 285, false, 1503), (8, 383, 286, false, 1507), (9, 106, 287, false, 1510), (9, 110, 288, false, 1514), (8, 389, 289, false, 1518), (8, 392, 290, false, 1521), (8, 386, 291, false, 1524), (9, 115, 292, false, 1527), (8, 395, 293, false, 1531), (9, 119, 294, false, 1534), (8, 407, 295, false, 1538), (8, 398, 296, false, 1542), (8, 411, 297, false, 1545), (8, 401, 298, false, 1549), (8, 404, 299, false, 1552), (9, 123, 300, false, 1555), (9, 127, 301, false, 1559), (9, 131, 302, false, 1563), (9, 136, 303, false, 1567), (9, 140, 304, false, 1571), (8, 415, 305, false, 1575), (9, 144, 306, false, 1578), (9, 148, 307, false, 1582), (9, 152, 308, false, 1586), (8, 427, 309, false, 1590), (8, 430, 310, false, 1593), (8, 424, 311, false, 1597), (8, 421, 312, false, 1601), (9, 157, 313, false, 1604), (9, 161, 314, false, 1608), (8, 436, 315, false, 1612), (8, 439, 316, false, 1615), (8, 433, 317, false, 1618), (9, 165, 318, false, 1621), (8, 442, 319, false, 1625), (9, 169, 320, false, 1628), (9, 173, 321, false, 1633), (9, 177, 322, false, 1637), (8, 452, 323, false, 1641), (8, 446, 324, false, 1645), (8, 455, 325, false, 1649), (8, 449, 326, false, 1653), (8, 458, 327, false, 1657), (9, 182, 328, false, 1661), (9, 186, 329, false, 1665), (9, 190, 330, false, 1669), (8, 461, 331, false, 1673), (9, 194, 332, false, 1677), (9, 227, 333, false, 1681), (9, 199, 334, false, 1685), (8, 464, 335, false, 1689), (9, 203, 336, false, 1692), (8, 468, 337, false, 1696), (9, 207, 338, false, 1700), (8, 471, 330, false, 1704), (9, 211, 339, false, 1705), (9, 215, 340, false, 1709), (9, 239, 341, false, 1713), (9, 243, 342, false, 1717), (9, 247, 343, false, 1721)]
def es_KI : List (Nat × Nat × Int32 × Nat) := [(11, 265, 1431655765, 798), (11, 266, 858993459, 799), (11, 267, 252645135, 800), (8, 50, 37210, 1021), (8, 113, 99999, 1160), (8, 445, 1000000, 1632)]
def es_KL : List (Nat × Nat × Int64 × Nat) := [(3, 72, -1000000, 661), (3, 74, 1000000, 662), (0, 385, -1, 942), (8, 121, 1152921504606846976, 1164), (8, 293, 739, 1367), (8, 295, 601, 1368), (8, 297, 31069, 1369), (8, 262, 8, 1399), (8, 250, 1000000, 1406), (8, 252, -1000000, 1407)]
/-- links of System.arraycopy: own, place, where the word stands -/
def es_AC : List (Nat × Nat × Nat) := [(2, 49, 550), (1, 61, 1006)]
/-- methods that are called: the method, where its class stands as initialised, as static or of instances, as selected (in lw_tbl) -/
def es_CM : List (Nat × Nat × Nat × Nat) := [(9, 1, 311, 450), (10, 1, 315, 0), (11, 1, 318, 457), (12, 1, 322, 461), (13, 1, 327, 0), (14, 1, 330, 469), (15, 1, 334, 473), (16, 5, 339, 1), (17, 8, 343, 2), (18, 10, 346, 0), (19, 5, 350, 3), (20, 5, 353, 0), (21, 5, 358, 4), (22, 5, 361, 0), (23, 11, 365, 504), (24, 11, 369, 508), (25, 11, 375, 514), (26, 11, 379, 518), (27, 12, 383, 0), (28, 11, 386, 0), (29, 13, 391, 0), (30, 14, 394, 0), (31, 14, 397, 0), (32, 14, 400, 0), (33, 14, 404, 0), (34, 5, 414, 5), (35, 5, 417, 0), (36, 5, 421, 6), (37, 5, 425, 7), (38, 5, 428, 0), (39, 5, 432, 8), (40, 5, 436, 9), (41, 5, 440, 10), (42, 5, 444, 11), (43, 8, 448, 12), (44, 5, 453, 13), (45, 5, 457, 14), (46, 5, 461, 15), (47, 5, 465, 16), (48, 5, 469, 17), (49, 8, 473, 18), (50, 5, 477, 19), (51, 5, 481, 20), (52, 5, 485, 21), (53, 5, 489, 22), (54, 5, 493, 23), (55, 5, 497, 24), (56, 8, 501, 25), (57, 5, 505, 26), (58, 5, 509, 27), (59, 5, 513, 28), (60, 1, 517, 656), (61, 1, 521, 660), (62, 1, 526, 29), (63, 1, 529, 668), (64, 1, 533, 0), (65, 4, 537, 30), (66, 4, 541, 31), (67, 10, 544, 0), (68, 3, 548, 32), (69, 3, 555, 33), (70, 3, 559, 34), (71, 1, 563, 702), (72, 3, 568, 35), (73, 1, 571, 0), (74, 10, 575, 0), (75, 1, 578, 717), (76, 3, 583, 36), (77, 3, 587, 37), (78, 1, 591, 730), (79, 1, 596, 38), (80, 1, 600, 39), (81, 3, 604, 40), (82, 1, 609, 41), (83, 3, 613, 42), (84, 1, 617, 43), (85, 1, 621, 0), (86, 3, 625, 44), (87, 1, 629, 45), (88, 6, 633, 46), (89, 6, 638, 47), (90, 6, 642, 48), (91, 1, 645, 0), (92, 10, 648, 0), (93, 1, 651, 0), (94, 6, 656, 0), (95, 6, 659, 0), (96, 10, 664, 0), (97, 10, 667, 0), (98, 3, 671, 49), (99, 1, 675, 50), (100, 3, 680, 51), (101, 1, 683, 822), (102, 1, 688, 52), (103, 1, 696, 835), (104, 1, 701, 53), (105, 1, 704, 843), (106, 4, 709, 54), (107, 1, 712, 851), (108, 1, 716, 855), (109, 1, 720, 859), (110, 1, 724, 863), (111, 3, 729, 55), (112, 1, 732, 871), (113, 1, 737, 876), (114, 1, 741, 880), (115, 1, 745, 0), (116, 1, 748, 887), (117, 1, 752, 0), (118, 1, 755, 894), (119, 1, 759, 0), (120, 1, 762, 901), (121, 1, 766, 0), (122, 1, 769, 908), (123, 1, 773, 0), (124, 1, 776, 0), (125, 1, 779, 0), (126, 1, 782, 0), (127, 1, 785, 924), (128, 1, 789, 0), (129, 1, 792, 931), (130, 16, 796, 0), (131, 1, 802, 941), (132, 1, 806, 945), (133, 1, 810, 949), (134, 1, 814, 953), (135, 1, 818, 957), (136, 1, 822, 961), (137, 1, 827, 56), (138, 1, 830, 0), (139, 1, 834, 57), (140, 1, 838, 58), (141, 1, 841, 980), (142, 1, 847, 59), (143, 1, 850, 989), (144, 1, 854, 0), (145, 1, 857, 0), (146, 1, 860, 999), (147, 1, 864, 0), (148, 1, 867, 1006), (149, 1, 871, 0), (150, 1, 874, 1013), (151, 1, 878, 1017), (152, 7, 883, 60), (153, 7, 887, 61), (154, 7, 892, 62), (155, 7, 898, 63), (156, 7, 902, 64), (157, 1, 905, 1044), (158, 1, 909, 1048), (159, 1, 914, 65), (160, 1, 917, 0), (161, 1, 920, 1059), (162, 1, 925, 66), (163, 1, 929, 67), (164, 1, 932, 1071), (165, 1, 936, 1075), (166, 1, 940, 0), (167, 1, 944, 1083), (168, 1, 949, 68), (169, 1, 952, 1091), (170, 1, 956, 1095), (171, 1, 960, 1099), (172, 1, 964, 1103), (173, 1, 968, 1107), (174, 1, 972, 1111), (175, 1, 977, 69), (176, 1, 980, 1119), (177, 3, 985, 70), (178, 1, 989, 1128), (179, 1, 993, 1132), (180, 2, 998, 71), (181, 4, 1003, 72), (182, 1, 1008, 1147), (183, 1, 1012, 1151), (185, 9, 1023, 0), (186, 9, 1116, 1255), (187, 9, 1120, 0), (188, 9, 1123, 0), (189, 9, 1126, 1265), (190, 9, 1130, 1269), (191, 9, 1135, 73), (192, 9, 1138, 1277), (193, 9, 1142, 1281), (194, 9, 1147, 74), (195, 9, 1151, 75), (196, 9, 1155, 76), (197, 9, 1158, 0), (198, 9, 1162, 0), (199, 9, 1166, 0), (200, 9, 1170, 77), (201, 9, 1174, 78), (202, 9, 1177, 0), (203, 9, 1180, 0), (204, 9, 1183, 0), (205, 9, 1186, 0), (206, 9, 1190, 79), (207, 9, 1193, 0), (208, 9, 1196, 0), (209, 9, 1200, 80), (210, 9, 1204, 81), (211, 9, 1208, 82), (212, 9, 1212, 83), (213, 9, 1216, 84), (214, 9, 1220, 85), (215, 9, 1224, 86), (216, 9, 1228, 87), (217, 9, 1232, 88), (218, 9, 1236, 89), (219, 9, 1239, 0), (220, 9, 1243, 90), (221, 9, 1247, 91), (222, 9, 1251, 92), (223, 9, 1255, 93), (224, 9, 1259, 94), (225, 9, 1263, 95), (226, 9, 1267, 96), (227, 9, 1271, 97), (228, 9, 1275, 98), (229, 9, 1279, 99), (230, 9, 1282, 1421), (231, 9, 1286, 1425), (232, 9, 1290, 1429), (233, 9, 1294, 1433), (234, 9, 1299, 100), (235, 9, 1302, 0), (236, 9, 1306, 101), (237, 9, 1310, 102), (238, 9, 1314, 103), (239, 9, 1317, 1456), (240, 9, 1322, 104), (241, 9, 1325, 0), (242, 9, 1328, 1467), (243, 9, 1333, 105), (244, 9, 1337, 106), (245, 9, 1340, 1479), (246, 9, 1345, 107), (247, 9, 1349, 108), (248, 9, 1353, 109), (249, 9, 1357, 110), (250, 9, 1361, 111), (251, 9, 1365, 112), (252, 9, 1372, 113), (253, 9, 1376, 114), (254, 9, 1380, 115), (255, 9, 1384, 116), (256, 9, 1388, 117), (257, 9, 1391, 0), (258, 9, 1394, 0), (259, 9, 1397, 0), (260, 9, 1401, 0), (261, 9, 1404, 0), (262, 9, 1409, 0), (263, 9, 1412, 0), (264, 9, 1416, 118), (265, 9, 1420, 119), (266, 9, 1423, 1562), (267, 9, 1428, 120), (268, 9, 1436, 1575), (269, 9, 1441, 121), (270, 9, 1444, 1583), (271, 9, 1448, 1587), (272, 9, 1452, 1591), (273, 9, 1456, 1595), (274, 9, 1460, 1599), (275, 9, 1464, 1603), (276, 9, 1469, 122), (277, 9, 1472, 1611), (278, 9, 1477, 123), (279, 9, 1480, 1619), (280, 9, 1485, 124), (281, 9, 1488, 1627), (282, 9, 1493, 125), (283, 9, 1497, 126), (284, 9, 1500, 1639), (285, 9, 1504, 1643), (286, 9, 1508, 0), (287, 9, 1511, 1650), (288, 9, 1515, 1654), (289, 9, 1519, 0), (290, 9, 1522, 0), (291, 9, 1525, 0), (292, 9, 1528, 1667), (293, 9, 1532, 0), (294, 9, 1535, 1674), (295, 9, 1540, 127), (296, 9, 1543, 0), (297, 9, 1547, 128), (298, 9, 1550, 0), (299, 9, 1553, 0), (300, 9, 1556, 1695), (301, 9, 1560, 1699), (302, 9, 1564, 1703), (303, 9, 1568, 1707), (304, 9, 1572, 1711), (305, 9, 1576, 0), (306, 9, 1579, 1718), (307, 9, 1583, 1722), (308, 9, 1587, 1726), (309, 9, 1591, 0), (310, 9, 1595, 129), (311, 9, 1599, 130), (312, 9, 1602, 0), (313, 9, 1605, 1744), (314, 9, 1609, 1748), (315, 9, 1613, 0), (316, 9, 1616, 0), (317, 9, 1619, 0), (318, 9, 1622, 1761), (319, 9, 1626, 0), (320, 9, 1629, 1768), (321, 9, 1634, 1773), (322, 9, 1638, 1777), (323, 9, 1643, 131), (324, 9, 1647, 132), (325, 9, 1651, 133), (326, 9, 1655, 134), (327, 9, 1659, 135), (328, 9, 1662, 1801), (329, 9, 1666, 1805), (330, 9, 1670, 1809), (331, 9, 1675, 136), (332, 9, 1678, 1817), (333, 9, 1682, 1821), (334, 9, 1686, 1825), (335, 9, 1690, 0), (336, 9, 1693, 1832), (337, 9, 1698, 137), (338, 9, 1701, 1840), (339, 9, 1706, 1845), (340, 9, 1710, 1849), (341, 9, 1714, 1853), (342, 9, 1718, 1857), (343, 9, 1722, 1861)]
/-- the one text constant: own, place, the text, where the word stands -/
def es_str : Nat × Nat × String × Nat := (4, 88, "pulls learns wobble lose seek shake write day by curve learnt if then else end not and or clock sector speed error target settled off ", 363)
def es_sl : List Nat := [134]
def es_sb : List (List Int32) := [[112, 117, 108, 108, 115, 32, 108, 101, 97, 114, 110, 115, 32, 119, 111, 98, 98, 108, 101, 32, 108, 111, 115, 101, 32, 115, 101, 101, 107, 32, 115, 104, 97, 107, 101, 32, 119, 114, 105, 116, 101, 32, 100, 97, 121, 32, 98, 121, 32, 99, 117, 114, 118, 101, 32, 108, 101, 97, 114, 110, 116, 32, 105, 102, 32, 116, 104, 101, 110, 32, 101, 108, 115, 101, 32, 101, 110, 100, 32, 110, 111, 116, 32, 97, 110, 100, 32, 111, 114, 32, 99, 108, 111, 99, 107, 32, 115, 101, 99, 116, 111, 114, 32, 115, 112, 101, 101, 100, 32, 101, 114, 114, 111, 114, 32, 116, 97, 114, 103, 101, 116, 32, 115, 101, 116, 116, 108, 101, 100, 32, 111, 102, 102, 32]]
def es_shL : List (Nat × Nat) := [(10, 0), (11, 0), (12, 0), (0, 8), (0, 75), (16, 0), (3, 30), (12, 0), (0, 8), (0, 75), (12, 0), (0, 8), (0, 75), (12, 0), (0, 8), (0, 75), (12, 0), (0, 8), (0, 75), (12, 0), (0, 8), (0, 75), (12, 0), (0, 8), (0, 75), (12, 0), (0, 8), (0, 75), (12, 0), (0, 8), (0, 75), (12, 0), (0, 8), (0, 75), (12, 0), (0, 8), (0, 75), (12, 0), (0, 8), (0, 75), (12, 0), (0, 8), (0, 75), (12, 0), (0, 8), (0, 75), (12, 0), (0, 8), (0, 75), (12, 0), (0, 8), (0, 75), (12, 0), (0, 8), (0, 75), (12, 0), (0, 8), (0, 75), (12, 0), (0, 8), (0, 75), (12, 0), (0, 8), (0, 75), (12, 0), (0, 8), (0, 75), (12, 0), (0, 8), (0, 75), (12, 0), (0, 8), (0, 75), (12, 0), (0, 8), (0, 75), (12, 0), (0, 8), (0, 75), (12, 0), (0, 8), (0, 75), (12, 0), (0, 8), (0, 75), (12, 0), (0, 8), (0, 75), (12, 0), (0, 8), (0, 75), (12, 0), (0, 8), (0, 75), (12, 0), (0, 8), (0, 75), (0, 8), (0, 6), (0, 8), (0, 8), (11, 0), (12, 0), (0, 8), (0, 75), (16, 0), (3, 30), (12, 0), (0, 8), (0, 75), (12, 0), (0, 8), (0, 75), (12, 0), (0, 8), (0, 75), (12, 0), (0, 8), (0, 75), (12, 0), (0, 8), (0, 75), (12, 0), (0, 8), (0, 75), (12, 0), (0, 8), (0, 75), (12, 0), (0, 8), (0, 75), (12, 0), (0, 8), (0, 75), (12, 0), (0, 8), (0, 75), (12, 0), (0, 8), (0, 75), (12, 0), (0, 8), (0, 75), (12, 0), (0, 8), (0, 75), (12, 0), (0, 8), (0, 75), (12, 0), (0, 8), (0, 75), (12, 0), (0, 8), (0, 75), (12, 0), (0, 8), (0, 75), (12, 0), (0, 8), (0, 75), (12, 0), (0, 8), (0, 75), (12, 0), (0, 8), (0, 75), (12, 0), (0, 8), (0, 75), (12, 0), (0, 8), (0, 75), (12, 0), (0, 8), (0, 75), (12, 0), (0, 8), (0, 75), (12, 0), (0, 8), (0, 75), (12, 0), (0, 8), (0, 75), (12, 0), (0, 8), (0, 75), (12, 0), (0, 8), (0, 75), (12, 0), (0, 8), (0, 75), (12, 0), (0, 8), (0, 75), (0, 8), (0, 6), (0, 8), (0, 8), (4, 4), (17, 0), (0, 24), (0, 24), (0, 24), (0, 300), (17, 0), (0, 24), (0, 24), (0, 24), (0, 300), (17, 0), (0, 24), (0, 24), (0, 24), (0, 300), (17, 0), (0, 24), (0, 24), (0, 24), (0, 300), (12, 0), (0, 8), (0, 75), (14, 0), (0, 301), (0, 301), (0, 301), (13, 0), (0, 64), (15, 0), (0, 6), (0, 6), (0, 610), (0, 300), (18, 0), (0, 1369), (0, 1369), (0, 2724), (0, 300), (0, 160), (0, 7), (2, 330), (1, 330), (0, 18), (1, 37210), (0, 6), (0, 6)]
/-- the shape of a cell: (k, n) an array of kind k (0 int, 1 boolean, 2 long, 3 Head, 4 Text) of n; (10 + c, _) an object of class c; (8, _) the script; (9, _) nothing -/
def es_sh (h : Nat) : Nat × Nat := if h = 250 then (8, 0) else es_shL.getD h (9, 0)
def es_rfL : List (List (Nat × Nat)) := [[(0, 1), (1, 101), (2, 201), (3, 222), (4, 225), (5, 229), (6, 231), (7, 234), (8, 235)], [(0, 2), (1, 5), (2, 97), (6, 98), (8, 99), (9, 100)], [(10, 3), (11, 4)], [], [], [(0, 6)], [(0, 7), (1, 10), (2, 13), (3, 16), (4, 19), (5, 22), (6, 25), (7, 28), (8, 31), (9, 34), (10, 37), (11, 40), (12, 43), (13, 46), (14, 49), (15, 52), (16, 55), (17, 58), (18, 61), (19, 64), (20, 67), (21, 70), (22, 73), (23, 76), (24, 79), (25, 82), (26, 85), (27, 88), (28, 91), (29, 94)], [(10, 8), (11, 9)], [], [], [(10, 11), (11, 12)], [], [], [(10, 14), (11, 15)], [], [], [(10, 17), (11, 18)], [], [], [(10, 20), (11, 21)], [], [], [(10, 23), (11, 24)], [], [], [(10, 26), (11, 27)], [], [], [(10, 29), (11, 30)], [], [], [(10, 32), (11, 33)], [], [], [(10, 35), (11, 36)], [], [], [(10, 38), (11, 39)], [], [], [(10, 41), (11, 42)], [], [], [(10, 44), (11, 45)], [], [], [(10, 47), (11, 48)], [], [], [(10, 50), (11, 51)], [], [], [(10, 53), (11, 54)], [], [], [(10, 56), (11, 57)], [], [], [(10, 59), (11, 60)], [], [], [(10, 62), (11, 63)], [], [], [(10, 65), (11, 66)], [], [], [(10, 68), (11, 69)], [], [], [(10, 71), (11, 72)], [], [], [(10, 74), (11, 75)], [], [], [(10, 77), (11, 78)], [], [], [(10, 80), (11, 81)], [], [], [(10, 83), (11, 84)], [], [], [(10, 86), (11, 87)], [], [], [(10, 89), (11, 90)], [], [], [(10, 92), (11, 93)], [], [], [(10, 95), (11, 96)], [], [], [], [], [], [], [(0, 102), (1, 105), (2, 197), (6, 198), (8, 199), (9, 200)], [(10, 103), (11, 104)], [], [], [(0, 106)], [(0, 107), (1, 110), (2, 113), (3, 116), (4, 119), (5, 122), (6, 125), (7, 128), (8, 131), (9, 134), (10, 137), (11, 140), (12, 143), (13, 146), (14, 149), (15, 152), (16, 155), (17, 158), (18, 161), (19, 164), (20, 167), (21, 170), (22, 173), (23, 176), (24, 179), (25, 182), (26, 185), (27, 188), (28, 191), (29, 194)], [(10, 108), (11, 109)], [], [], [(10, 111), (11, 112)], [], [], [(10, 114), (11, 115)], [], [], [(10, 117), (11, 118)], [], [], [(10, 120), (11, 121)], [], [], [(10, 123), (11, 124)], [], [], [(10, 126), (11, 127)], [], [], [(10, 129), (11, 130)], [], [], [(10, 132), (11, 133)], [], [], [(10, 135), (11, 136)], [], [], [(10, 138), (11, 139)], [], [], [(10, 141), (11, 142)], [], [], [(10, 144), (11, 145)], [], [], [(10, 147), (11, 148)], [], [], [(10, 150), (11, 151)], [], [], [(10, 153), (11, 154)], [], [], [(10, 156), (11, 157)], [], [], [(10, 159), (11, 160)], [], [], [(10, 162), (11, 163)], [], [], [(10, 165), (11, 166)], [], [], [(10, 168), (11, 169)], [], [], [(10, 171), (11, 172)], [], [], [(10, 174), (11, 175)], [], [], [(10, 177), (11, 178)], [], [], [(10, 180), (11, 181)], [], [], [(10, 183), (11, 184)], [], [], [(10, 186), (11, 187)], [], [], [(10, 189), (11, 190)], [], [], [(10, 192), (11, 193)], [], [], [(10, 195), (11, 196)], [], [], [], [], [], [], [(0, 202), (1, 207), (2, 212), (3, 217)], [(0, 203), (1, 204), (2, 205), (4, 206)], [], [], [], [], [(0, 208), (1, 209), (2, 210), (4, 211)], [], [], [], [], [(0, 213), (1, 214), (2, 215), (4, 216)], [], [], [], [], [(0, 218), (1, 219), (2, 220), (4, 221)], [], [], [], [], [(10, 223), (11, 224)], [], [], [(0, 226), (1, 227), (2, 228)], [], [], [], [(0, 230)], [], [(0, 232), (1, 233)], [], [], [], [], [(0, 237), (1, 238), (2, 239), (3, 240), (15, 241), (20, 242), (21, 243), (22, 244), (24, 245), (25, 246), (27, 247), (28, 248)], [], [], [], [], [], [], [], [], [], [], [], []]
def es_rf (h k : Nat) : Option Nat := ((es_rfL.getD h []).find? (fun q => q.1 == k)).map (fun q => q.2)
def es_NC : Nat := 249
/-- a word stands at a place of the tables -/
def es_at (pos : Nat) (w : Cond) : Bool := match tables_1[pos]? with
  | some v => decide (v = w)
  | none => false
theorem es_at_mem {pos : Nat} {w : Cond} (h : es_at pos w = true) : w ∈ tables_1 := by
  unfold es_at at h
  split at h
  · rename_i v hv
    rw [← of_decide_eq_true h]
    exact List.mem_of_getElem? hv
  · cases h
def es_big : List Cond := lw_tbl.filter goodWord
theorem es_big_of {w : Cond} (h : w ∈ lw_tbl) (hg : goodWord w = true) : w ∈ es_big := List.mem_filter.mpr ⟨h, hg⟩
theorem es_big_t {w : Cond} (h : w ∈ tables_1) (hg : goodWord w = true) : w ∈ es_big := es_big_of (List.mem_append_right _ h) hg
theorem es_big_good : GoodIn es_big es_big := fun w hw => ⟨hw, good_of_word (List.mem_filter.mp hw).2⟩
def es_flw (q : Nat × Nat × (Nat × Nat × Nat) × Bool × Nat) : Cond :=
  let T := (es_cl.getD q.2.2.1.1 ("", es_T0, 0)).2.1
  let f := T q.2.2.1.2.1
  if q.2.2.2.1 then .fieldLinkNest (es_own q.1) q.2.1 f.1 f.2.1 f.2.2.1 "HeadServo" else .fieldLink (es_own q.1) q.2.1 f.1 f.2.1 f.2.2.1
set_option maxRecDepth 100000 in
theorem es_FL_ok : es_FL.all (fun q => es_at q.2.2.2.2 (es_flw q) && decide (es_fty q.2.2.1.1 q.2.2.1.2.1 = q.2.2.1.2.2) && decide (q.2.2.1.2.1 < es_nf q.2.2.1.1)) = true := by decide +kernel
def es_mlw (q : Nat × Nat × Nat × Bool × Nat) : Cond :=
  if q.2.2.2.1 then .methodLinkNest (es_own q.1) q.2.1 (es_m q.2.2.1).1 "HeadServo" else .methodLink (es_own q.1) q.2.1 (es_m q.2.2.1).1
set_option maxRecDepth 100000 in
theorem es_ML_ok : es_ML.all (fun q => es_at q.2.2.2.2 (es_mlw q)) = true := by decide +kernel
set_option maxRecDepth 100000 in
theorem es_KI_ok : es_KI.all (fun q => es_at q.2.2.2 (.constant (es_own q.1) q.2.1 q.2.2.1)) = true := by decide +kernel
set_option maxRecDepth 100000 in
theorem es_AC_ok : es_AC.all (fun q => es_at q.2.2 (.methodLink (es_own q.1) q.2.1 arraycopyName)) = true := by decide +kernel
set_option maxRecDepth 100000 in
theorem es_KL_ok : es_KL.all (fun q => es_at q.2.2.2 (.constantLong (es_own q.1) q.2.1 q.2.2.1)) = true := by decide +kernel
/-- the bytes of the method whose code word stands at a place -/
def es_bytes (pos : Nat) : ByteArray := match tables_1[pos]? with
  | some (.code _ b _ _) => b
  | _ => ByteArray.empty
def es_isCode (a : es_Mt) : Bool := match tables_1[a.2.2.2.2]? with
  | some (.code x _ n r) => decide (x = a.1) && decide (n = a.2.1) && decide (r = a.2.2.1)
  | _ => false
set_option maxRecDepth 100000 in
theorem es_M_ok : es_M.all (fun a => es_isCode a && (if a.2.2.2.1 then true else true)) = true := by decide +kernel
theorem es_code {a : es_Mt} (h : es_isCode a = true) : Cond.code a.1 (es_bytes a.2.2.2.2) a.2.1 a.2.2.1 ∈ tables_1 := by
  unfold es_isCode at h
  unfold es_bytes
  split at h
  · rename_i x b n r hv
    simp only [Bool.and_eq_true, decide_eq_true_eq] at h
    obtain ⟨⟨rfl, rfl⟩, rfl⟩ := h
    exact List.mem_of_getElem? hv
  · cases h
/-- a word stands at a place of lw_tbl -/
def es_atl (pos : Nat) (w : Cond) : Bool := match lw_tbl[pos]? with
  | some v => decide (v = w)
  | none => false
theorem es_atl_mem {pos : Nat} {w : Cond} (h : es_atl pos w = true) : w ∈ lw_tbl := by
  unfold es_atl at h
  split at h
  · rename_i v hv
    rw [← of_decide_eq_true h]
    exact List.mem_of_getElem? hv
  · cases h
def es_cmw (q : Nat × Nat × Nat × Nat) : Bool :=
  let y := (es_m q.1).1
  es_at q.2.1 (.initialized y.cls) && (if (es_m q.1).2.2.2.1 then es_at q.2.2.1 (.static y) else es_at q.2.2.1 (.instanceMethod y) && es_atl q.2.2.2 (.selects y.cls y y)) && decide ((es_m q.1).2.1 ≤ 40) && decide (y.cls ≠ "java/lang/invoke/MethodHandle") && decide (y.cls ≠ "java/lang/invoke/VarHandle")
set_option maxRecDepth 100000 in
theorem es_CM_ok : es_CM.all es_cmw = true := by decide +kernel

