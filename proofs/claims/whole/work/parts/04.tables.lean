/-! tables, printed by wip/whole/gen/emit04.py out of the Statement's words: classes, fields, methods, links, the shape of the cells -/
def es_ownL : List String := ["HeadServo", "HeadServo$All", "HeadServo$Head", "HeadServo$Machine", "HeadServo$Reader", "HeadServo$Route", "HeadServo$Steps", "HeadServo$Text", "HeadServoModel", "HeadServoLaw", "java/lang/Math", "java/lang/Integer", "java/lang/String", "java/lang/StringLatin1", "java/lang/StringUTF16", "jdk/internal/util/Preconditions", "java/lang/System"]
def es_own (o : Nat) : String := es_ownL.getD o ""
def es_T0 : u_T := fun k => match k with
  | 0 => ("HeadServo", "now", "LHeadServo$All;", true)
  | 1 => ("HeadServo", "kept", "LHeadServo$All;", true)
  | 2 => ("HeadServo", "texts", "[LHeadServo$Text;", true)
  | 3 => ("HeadServo", "trial", "LHeadServo$Head;", true)
  | 4 => ("HeadServo", "reader", "LHeadServo$Reader;", true)
  | 5 => ("HeadServo", "machine", "LHeadServo$Machine;", true)
  | 6 => ("HeadServo", "route", "LHeadServo$Route;", true)
  | 7 => ("HeadServo", "fewestFrom", "[I", true)
  | 8 => ("HeadServo", "tape", "[I", true)
  | 9 => ("HeadServo", "tapeLength", "I", false)
  | _ => ("HeadServo", "everRead", "Z", false)
def es_T1 : u_T := fun k => match k with
  | 0 => ("HeadServo$All", "head", "LHeadServo$Head;", true)
  | 1 => ("HeadServo$All", "steps", "LHeadServo$Steps;", true)
  | 2 => ("HeadServo$All", "wobble", "[I", true)
  | 3 => ("HeadServo$All", "lostBits", "I", false)
  | 4 => ("HeadServo$All", "textCount", "I", false)
  | 5 => ("HeadServo$All", "ruling", "I", false)
  | 6 => ("HeadServo$All", "requests", "[I", true)
  | 7 => ("HeadServo$All", "requestCount", "I", false)
  | 8 => ("HeadServo$All", "saidErrors", "[I", true)
  | 9 => ("HeadServo$All", "saidPulls", "[I", true)
  | _ => ("HeadServo$All", "saidCount", "I", false)
def es_T2 : u_T := fun k => match k with
  | 0 => ("HeadServo$Head", "place", "I", false)
  | 1 => ("HeadServo$Head", "speed", "I", false)
  | 2 => ("HeadServo$Head", "target", "I", false)
  | 3 => ("HeadServo$Head", "error", "I", false)
  | 4 => ("HeadServo$Head", "settled", "I", false)
  | 5 => ("HeadServo$Head", "written", "I", false)
  | 6 => ("HeadServo$Head", "struck", "I", false)
  | 7 => ("HeadServo$Head", "clock", "I", false)
  | 8 => ("HeadServo$Head", "x", "I", false)
  | 9 => ("HeadServo$Head", "lineCount", "I", false)
  | 10 => ("HeadServo$Head", "learnt", "[I", true)
  | _ => ("HeadServo$Head", "lines", "[I", true)
def es_T3 : u_T := fun k => match k with
  | 0 => ("HeadServo$Machine", "stack", "[I", true)
  | _ => ("HeadServo$Machine", "top", "I", false)
def es_T4 : u_T := fun k => match k with
  | 0 => ("HeadServo$Reader", "kinds", "[I", true)
  | 1 => ("HeadServo$Reader", "starts", "[I", true)
  | 2 => ("HeadServo$Reader", "values", "[I", true)
  | 3 => ("HeadServo$Reader", "count", "I", false)
  | 4 => ("HeadServo$Reader", "at", "I", false)
  | 5 => ("HeadServo$Reader", "law", "I", false)
  | 6 => ("HeadServo$Reader", "fault", "I", false)
  | _ => ("HeadServo$Reader", "faultPlace", "I", false)
def es_T5 : u_T := fun k => match k with
  | 0 => ("HeadServo$Route", "asked", "[I", true)
  | 1 => ("HeadServo$Route", "row", "[I", true)
  | 2 => ("HeadServo$Route", "count", "I", false)
  | _ => ("HeadServo$Route", "leastFar", "I", false)
def es_T6 : u_T := fun k => match k with
  | 0 => ("HeadServo$Steps", "rows", "[LHeadServo$Head;", true)
  | 1 => ("HeadServo$Steps", "first", "I", false)
  | _ => ("HeadServo$Steps", "count", "I", false)
def es_T7 : u_T := fun k => match k with
  | 0 => ("HeadServo$Text", "kinds", "[I", true)
  | 1 => ("HeadServo$Text", "firsts", "[I", true)
  | 2 => ("HeadServo$Text", "seconds", "[I", true)
  | 3 => ("HeadServo$Text", "clauses", "I", false)
  | 4 => ("HeadServo$Text", "code", "[I", true)
  | 5 => ("HeadServo$Text", "length", "I", false)
  | 6 => ("HeadServo$Text", "pullsFrom", "I", false)
  | 7 => ("HeadServo$Text", "pullsTo", "I", false)
  | 8 => ("HeadServo$Text", "learnsFrom", "I", false)
  | _ => ("HeadServo$Text", "learnsTo", "I", false)
def es_T8 : u_T := fun k => match k with
  | 0 => ("HeadServoModel", "a", "[I", true)
  | 1 => ("HeadServoModel", "image", "[I", true)
  | 2 => ("HeadServoModel", "texts", "[I", true)
  | 3 => ("HeadServoModel", "tape", "[I", true)
  | 4 => ("HeadServoModel", "taped", "I", false)
  | 5 => ("HeadServoModel", "fault", "I", false)
  | 6 => ("HeadServoModel", "faultPlace", "I", false)
  | 7 => ("HeadServoModel", "at", "I", false)
  | 8 => ("HeadServoModel", "place", "I", false)
  | 9 => ("HeadServoModel", "token", "I", false)
  | 10 => ("HeadServoModel", "number", "I", false)
  | 11 => ("HeadServoModel", "word", "J", false)
  | 12 => ("HeadServoModel", "text0", "I", false)
  | 13 => ("HeadServoModel", "written", "I", false)
  | 14 => ("HeadServoModel", "sort0", "I", false)
  | 15 => ("HeadServoModel", "pile", "[I", true)
  | 16 => ("HeadServoModel", "piled", "I", false)
  | 17 => ("HeadServoModel", "opens", "I", false)
  | 18 => ("HeadServoModel", "isWhole", "Z", false)
  | 19 => ("HeadServoModel", "once", "I", false)
  | 20 => ("HeadServoModel", "named", "[I", true)
  | 21 => ("HeadServoModel", "values", "[J", true)
  | 22 => ("HeadServoModel", "truth", "[Z", true)
  | 23 => ("HeadServoModel", "isWritten", "Z", false)
  | 24 => ("HeadServoModel", "aside", "[I", true)
  | 25 => ("HeadServoModel", "can", "[Z", true)
  | 26 => ("HeadServoModel", "most0", "I", false)
  | 27 => ("HeadServoModel", "row", "[I", true)
  | _ => ("HeadServoModel", "bestRow", "[I", true)
abbrev es_cl : List vw_C := [("HeadServo", es_T0, 11), ("HeadServo$All", es_T1, 11), ("HeadServo$Head", es_T2, 12), ("HeadServo$Machine", es_T3, 2), ("HeadServo$Reader", es_T4, 8), ("HeadServo$Route", es_T5, 4), ("HeadServo$Steps", es_T6, 3), ("HeadServo$Text", es_T7, 10), ("HeadServoModel", es_T8, 29)]
def es_ftyL : List (List Nat) := [[2, 2, 2, 2, 2, 2, 2, 2, 2, 0, 3], [2, 2, 2, 0, 0, 0, 2, 0, 2, 2, 0], [0, 0, 0, 0, 0, 0, 0, 0, 0, 0, 2, 2], [2, 0], [2, 2, 2, 0, 0, 0, 0, 0], [2, 2, 0, 0], [2, 0, 0], [2, 2, 2, 0, 2, 0, 0, 0, 0, 0], [2, 2, 2, 2, 0, 0, 0, 0, 0, 0, 0, 1, 0, 0, 0, 2, 0, 0, 3, 0, 2, 2, 2, 3, 2, 2, 0, 2, 2]]
def es_fty (c k : Nat) : Nat := (es_ftyL.getD c []).getD k 9
def es_nf (c : Nat) : Nat := (es_ftyL.getD c []).length
def es_ty0 : Nat → FieldType := fun k => match k with
  | 0 => .object "HeadServo$All"
  | 1 => .object "HeadServo$All"
  | 2 => .array (.object "HeadServo$Text")
  | 3 => .object "HeadServo$Head"
  | 4 => .object "HeadServo$Reader"
  | 5 => .object "HeadServo$Machine"
  | 6 => .object "HeadServo$Route"
  | 7 => .array .int
  | 8 => .array .int
  | 9 => .int
  | _ => .boolean
def es_ty1 : Nat → FieldType := fun k => match k with
  | 0 => .object "HeadServo$Head"
  | 1 => .object "HeadServo$Steps"
  | 2 => .array .int
  | 3 => .int
  | 4 => .int
  | 5 => .int
  | 6 => .array .int
  | 7 => .int
  | 8 => .array .int
  | 9 => .array .int
  | _ => .int
def es_ty2 : Nat → FieldType := fun k => match k with
  | 0 => .int
  | 1 => .int
  | 2 => .int
  | 3 => .int
  | 4 => .int
  | 5 => .int
  | 6 => .int
  | 7 => .int
  | 8 => .int
  | 9 => .int
  | 10 => .array .int
  | _ => .array .int
def es_ty3 : Nat → FieldType := fun k => match k with
  | 0 => .array .int
  | _ => .int
def es_ty4 : Nat → FieldType := fun k => match k with
  | 0 => .array .int
  | 1 => .array .int
  | 2 => .array .int
  | 3 => .int
  | 4 => .int
  | 5 => .int
  | 6 => .int
  | _ => .int
def es_ty5 : Nat → FieldType := fun k => match k with
  | 0 => .array .int
  | 1 => .array .int
  | 2 => .int
  | _ => .int
def es_ty6 : Nat → FieldType := fun k => match k with
  | 0 => .array (.object "HeadServo$Head")
  | 1 => .int
  | _ => .int
def es_ty7 : Nat → FieldType := fun k => match k with
  | 0 => .array .int
  | 1 => .array .int
  | 2 => .array .int
  | 3 => .int
  | 4 => .array .int
  | 5 => .int
  | 6 => .int
  | 7 => .int
  | 8 => .int
  | _ => .int
def es_ty8 : Nat → FieldType := fun k => match k with
  | 0 => .array .int
  | 1 => .array .int
  | 2 => .array .int
  | 3 => .array .int
  | 4 => .int
  | 5 => .int
  | 6 => .int
  | 7 => .int
  | 8 => .int
  | 9 => .int
  | 10 => .int
  | 11 => .long
  | 12 => .int
  | 13 => .int
  | 14 => .int
  | 15 => .array .int
  | 16 => .int
  | 17 => .int
  | 18 => .boolean
  | 19 => .int
  | 20 => .array .int
  | 21 => .array .long
  | 22 => .array .boolean
  | 23 => .boolean
  | 24 => .array .int
  | 25 => .array .boolean
  | 26 => .int
  | 27 => .array .int
  | _ => .array .int
abbrev es_Mt : Type := MethodName × Nat × Option FieldType × Bool × Nat
def es_M_0 : List es_Mt := [(⟨"HeadServo", "<init>", "()V"⟩, 2, (Option.none : Option Jvm.ClassFile.FieldType), false, 1021),
  (⟨"java/lang/Object", "<init>", "()V"⟩, 1, (Option.none : Option Jvm.ClassFile.FieldType), false, 1024),
  (⟨"HeadServo$All", "<init>", "()V"⟩, 1, (Option.none : Option Jvm.ClassFile.FieldType), false, 1029),
  (⟨"HeadServo$Head", "<init>", "()V"⟩, 1, (Option.none : Option Jvm.ClassFile.FieldType), false, 1035),
  (⟨"HeadServo$Steps", "<init>", "()V"⟩, 2, (Option.none : Option Jvm.ClassFile.FieldType), false, 1094),
  (⟨"HeadServo$Reader", "<init>", "()V"⟩, 1, (Option.none : Option Jvm.ClassFile.FieldType), false, 1163),
  (⟨"HeadServo$Machine", "<init>", "()V"⟩, 1, (Option.none : Option Jvm.ClassFile.FieldType), false, 1196),
  (⟨"HeadServo$Route", "<init>", "()V"⟩, 1, (Option.none : Option Jvm.ClassFile.FieldType), false, 1209),
  (⟨"HeadServo$Text", "<init>", "()V"⟩, 1, (Option.none : Option Jvm.ClassFile.FieldType), false, 1228),
  (⟨"HeadServo", "wobble", "(II)Z"⟩, 3, (Option.some Jvm.ClassFile.FieldType.boolean), false, 2073),
  (⟨"HeadServo", "within", "(III)Z"⟩, 3, (Option.some Jvm.ClassFile.FieldType.boolean), true, 2076),
  (⟨"HeadServo", "lose", "(I)Z"⟩, 2, (Option.some Jvm.ClassFile.FieldType.boolean), false, 2080),
  (⟨"HeadServo", "feed", "(IIIII)I"⟩, 6, (Option.some Jvm.ClassFile.FieldType.int), false, 2084),
  (⟨"HeadServo", "feedFour", "(I)V"⟩, 3, (Option.none : Option Jvm.ClassFile.FieldType), false, 2088),
  (⟨"HeadServo", "end", "(I)I"⟩, 2, (Option.some Jvm.ClassFile.FieldType.int), false, 2092),
  (⟨"HeadServo", "text", "()I"⟩, 3, (Option.some Jvm.ClassFile.FieldType.int), false, 2096),
  (⟨"HeadServo$Reader", "readTape", "([IILHeadServo$Text;)Z"⟩, 5, (Option.some Jvm.ClassFile.FieldType.boolean), false, 2100),
  (⟨"HeadServo$Text", "empty", "()V"⟩, 1, (Option.none : Option Jvm.ClassFile.FieldType), false, 2104),
  (⟨"java/lang/Math", "min", "(II)I"⟩, 2, (Option.some Jvm.ClassFile.FieldType.int), true, 2107),
  (⟨"HeadServo$Reader", "cut", "([II)V"⟩, 6, (Option.none : Option Jvm.ClassFile.FieldType), false, 2111),
  (⟨"HeadServo$Reader", "isLetter", "(I)Z"⟩, 1, (Option.some Jvm.ClassFile.FieldType.boolean), true, 2114),
  (⟨"HeadServo$Reader", "cutWord", "([III)I"⟩, 6, (Option.some Jvm.ClassFile.FieldType.int), false, 2119),
  (⟨"HeadServo$Reader", "wordNumber", "([III)I"⟩, 8, (Option.some Jvm.ClassFile.FieldType.int), true, 2122),
  (⟨"java/lang/String", "length", "()I"⟩, 1, (Option.some Jvm.ClassFile.FieldType.int), false, 2127),
  (⟨"java/lang/String", "coder", "()B"⟩, 1, (Option.some Jvm.ClassFile.FieldType.byte), false, 2131),
  (⟨"java/lang/String", "charAt", "(I)C"⟩, 2, (Option.some Jvm.ClassFile.FieldType.char), false, 2137),
  (⟨"java/lang/String", "isLatin1", "()Z"⟩, 1, (Option.some Jvm.ClassFile.FieldType.boolean), false, 2141),
  (⟨"java/lang/StringLatin1", "charAt", "([BI)C"⟩, 2, (Option.some Jvm.ClassFile.FieldType.char), true, 2144),
  (⟨"java/lang/String", "checkIndex", "(II)V"⟩, 2, (Option.none : Option Jvm.ClassFile.FieldType), true, 2147),
  (⟨"jdk/internal/util/Preconditions", "checkIndex", "(IILjava/util/function/BiFunction;)I"⟩, 3, (Option.some Jvm.ClassFile.FieldType.int), true, 2152),
  (⟨"java/lang/StringUTF16", "charAt", "([BI)C"⟩, 2, (Option.some Jvm.ClassFile.FieldType.char), true, 2155),
  (⟨"java/lang/StringUTF16", "checkIndex", "(I[B)V"⟩, 2, (Option.none : Option Jvm.ClassFile.FieldType), true, 2158),
  (⟨"java/lang/StringUTF16", "length", "([B)I"⟩, 1, (Option.some Jvm.ClassFile.FieldType.int), true, 2161),
  (⟨"java/lang/StringUTF16", "getChar", "([BI)C"⟩, 2, (Option.some Jvm.ClassFile.FieldType.char), true, 2165),
  (⟨"HeadServo$Reader", "add", "(III)V"⟩, 4, (Option.none : Option Jvm.ClassFile.FieldType), false, 2175),
  (⟨"HeadServo$Reader", "isDigit", "(I)Z"⟩, 1, (Option.some Jvm.ClassFile.FieldType.boolean), true, 2178),
  (⟨"HeadServo$Reader", "cutNumber", "([III)I"⟩, 6, (Option.some Jvm.ClassFile.FieldType.int), false, 2182),
  (⟨"HeadServo$Reader", "cutSign", "([III)I"⟩, 6, (Option.some Jvm.ClassFile.FieldType.int), false, 2186),
  (⟨"HeadServo$Reader", "signKind", "(I)I"⟩, 1, (Option.some Jvm.ClassFile.FieldType.int), true, 2189),
  (⟨"HeadServo$Reader", "kind", "()I"⟩, 1, (Option.some Jvm.ClassFile.FieldType.int), false, 2193),
  (⟨"HeadServo$Reader", "clause", "(LHeadServo$Text;)Z"⟩, 3, (Option.some Jvm.ClassFile.FieldType.boolean), false, 2197),
  (⟨"HeadServo$Reader", "refuse", "(I)Z"⟩, 2, (Option.some Jvm.ClassFile.FieldType.boolean), false, 2201),
  (⟨"HeadServo$Reader", "lawClause", "(ILHeadServo$Text;)Z"⟩, 4, (Option.some Jvm.ClassFile.FieldType.boolean), false, 2205),
  (⟨"HeadServo$Text", "addClause", "(III)V"⟩, 4, (Option.none : Option Jvm.ClassFile.FieldType), false, 2209),
  (⟨"HeadServo$Reader", "sum", "(LHeadServo$Text;I)Z"⟩, 5, (Option.some Jvm.ClassFile.FieldType.boolean), false, 2214),
  (⟨"HeadServo$Reader", "product", "(LHeadServo$Text;I)Z"⟩, 5, (Option.some Jvm.ClassFile.FieldType.boolean), false, 2218),
  (⟨"HeadServo$Reader", "one", "(LHeadServo$Text;I)Z"⟩, 5, (Option.some Jvm.ClassFile.FieldType.boolean), false, 2222),
  (⟨"HeadServo$Reader", "value", "()I"⟩, 1, (Option.some Jvm.ClassFile.FieldType.int), false, 2226),
  (⟨"HeadServo$Reader", "number", "(II)Z"⟩, 3, (Option.some Jvm.ClassFile.FieldType.boolean), false, 2230),
  (⟨"HeadServo$Text", "emit", "(II)I"⟩, 4, (Option.some Jvm.ClassFile.FieldType.int), false, 2234),
  (⟨"HeadServo$Reader", "open", "(I)Z"⟩, 2, (Option.some Jvm.ClassFile.FieldType.boolean), false, 2238),
  (⟨"HeadServo$Reader", "take", "(I)Z"⟩, 2, (Option.some Jvm.ClassFile.FieldType.boolean), false, 3002),
  (⟨"HeadServo$Reader", "choice", "(LHeadServo$Text;I)Z"⟩, 5, (Option.some Jvm.ClassFile.FieldType.boolean), false, 3006),
  (⟨"HeadServo$Reader", "either", "(LHeadServo$Text;I)Z"⟩, 4, (Option.some Jvm.ClassFile.FieldType.boolean), false, 3010),
  (⟨"HeadServo$Reader", "both", "(LHeadServo$Text;I)Z"⟩, 4, (Option.some Jvm.ClassFile.FieldType.boolean), false, 3014),
  (⟨"HeadServo$Reader", "ask", "(LHeadServo$Text;I)Z"⟩, 4, (Option.some Jvm.ClassFile.FieldType.boolean), false, 3018),
  (⟨"HeadServo$Text", "leadHere", "(II)V"⟩, 3, (Option.none : Option Jvm.ClassFile.FieldType), false, 3022),
  (⟨"HeadServo$Reader", "name", "(LHeadServo$Text;)Z"⟩, 3, (Option.some Jvm.ClassFile.FieldType.boolean), false, 3026),
  (⟨"HeadServo$Reader", "scriptClause", "(ILHeadServo$Text;)Z"⟩, 6, (Option.some Jvm.ClassFile.FieldType.boolean), false, 3030),
  (⟨"HeadServo$Reader", "wobbleClause", "(LHeadServo$Text;)Z"⟩, 4, (Option.some Jvm.ClassFile.FieldType.boolean), false, 3034)]
def es_M_1 : List es_Mt := [(⟨"HeadServo", "fault", "(I)I"⟩, 2, (Option.some Jvm.ClassFile.FieldType.int), false, 3039),
  (⟨"HeadServo", "by", "(I)Z"⟩, 2, (Option.some Jvm.ClassFile.FieldType.boolean), false, 3043),
  (⟨"HeadServo", "textAt", "(I)LHeadServo$Text;"⟩, 2, (Option.some (Jvm.ClassFile.FieldType.object "HeadServo$Text")), false, 3047),
  (⟨"HeadServo", "seek", "(I)Z"⟩, 2, (Option.some Jvm.ClassFile.FieldType.boolean), false, 3051),
  (⟨"HeadServo", "isTrack", "(I)Z"⟩, 1, (Option.some Jvm.ClassFile.FieldType.boolean), true, 3054),
  (⟨"HeadServo$Steps", "keep", "(LHeadServo$Head;)V"⟩, 3, (Option.none : Option Jvm.ClassFile.FieldType), false, 3058),
  (⟨"HeadServo$Steps", "rowAt", "(I)LHeadServo$Head;"⟩, 2, (Option.some (Jvm.ClassFile.FieldType.object "HeadServo$Head")), false, 3062),
  (⟨"java/lang/Math", "floorMod", "(II)I"⟩, 3, (Option.some Jvm.ClassFile.FieldType.int), true, 3065),
  (⟨"HeadServo$Head", "copyFrom", "(LHeadServo$Head;)V"⟩, 2, (Option.none : Option Jvm.ClassFile.FieldType), false, 3069),
  (⟨"HeadServo$Head", "aim", "(I)V"⟩, 2, (Option.none : Option Jvm.ClassFile.FieldType), false, 3076),
  (⟨"HeadServo$Head", "note", "(II)V"⟩, 4, (Option.none : Option Jvm.ClassFile.FieldType), false, 3080),
  (⟨"HeadServo", "shake", "(I)I"⟩, 2, (Option.some Jvm.ClassFile.FieldType.int), false, 3085),
  (⟨"HeadServo$Head", "nudge", "(I)V"⟩, 2, (Option.none : Option Jvm.ClassFile.FieldType), false, 3089),
  (⟨"HeadServo", "hold", "(III)I"⟩, 3, (Option.some Jvm.ClassFile.FieldType.int), true, 3092),
  (⟨"java/lang/Math", "max", "(II)I"⟩, 2, (Option.some Jvm.ClassFile.FieldType.int), true, 3096),
  (⟨"HeadServo", "write", "()I"⟩, 1, (Option.some Jvm.ClassFile.FieldType.int), false, 3100),
  (⟨"HeadServo$Head", "gateOpen", "()Z"⟩, 1, (Option.some Jvm.ClassFile.FieldType.boolean), false, 3104),
  (⟨"HeadServo$Head", "mark", "()V"⟩, 1, (Option.none : Option Jvm.ClassFile.FieldType), false, 3108),
  (⟨"HeadServo", "day", "(I)I"⟩, 2, (Option.some Jvm.ClassFile.FieldType.int), false, 3113),
  (⟨"HeadServo", "pass", "(I)V"⟩, 3, (Option.none : Option Jvm.ClassFile.FieldType), false, 3117),
  (⟨"HeadServo", "sample", "(LHeadServo$Head;)V"⟩, 7, (Option.none : Option Jvm.ClassFile.FieldType), false, 3121),
  (⟨"HeadServo$Head", "sectorNow", "()I"⟩, 1, (Option.some Jvm.ClassFile.FieldType.int), false, 3125),
  (⟨"HeadServo", "isLost", "(I)Z"⟩, 2, (Option.some Jvm.ClassFile.FieldType.boolean), false, 3130),
  (⟨"HeadServo$Head", "draw", "()I"⟩, 2, (Option.some Jvm.ClassFile.FieldType.int), false, 3134),
  (⟨"HeadServo", "wobbleOf", "(I)I"⟩, 2, (Option.some Jvm.ClassFile.FieldType.int), false, 3138),
  (⟨"HeadServo", "middle", "(I)I"⟩, 1, (Option.some Jvm.ClassFile.FieldType.int), true, 3142),
  (⟨"HeadServo$Head", "learntOf", "(I)I"⟩, 2, (Option.some Jvm.ClassFile.FieldType.int), false, 3146),
  (⟨"HeadServo", "gainOf", "(LHeadServo$Text;LHeadServo$Head;I)I"⟩, 4, (Option.some Jvm.ClassFile.FieldType.int), false, 3150),
  (⟨"HeadServo$Machine", "work", "(LHeadServo$Text;IILHeadServo$Head;I)I"⟩, 11, (Option.some Jvm.ClassFile.FieldType.int), false, 3154),
  (⟨"HeadServo$Machine", "push", "(I)V"⟩, 2, (Option.none : Option Jvm.ClassFile.FieldType), false, 3159),
  (⟨"HeadServo$Machine", "pop", "()I"⟩, 1, (Option.some Jvm.ClassFile.FieldType.int), false, 3163),
  (⟨"HeadServo", "speedOver", "(II)I"⟩, 5, (Option.some Jvm.ClassFile.FieldType.int), true, 3166),
  (⟨"java/lang/Math", "abs", "(I)I"⟩, 1, (Option.some Jvm.ClassFile.FieldType.int), true, 3169),
  (⟨"HeadServo", "wayToStop", "(II)I"⟩, 3, (Option.some Jvm.ClassFile.FieldType.int), true, 3172),
  (⟨"HeadServo$Machine", "join", "(III)I"⟩, 3, (Option.some Jvm.ClassFile.FieldType.int), true, 3177),
  (⟨"HeadServo$Machine", "bound", "(J)I"⟩, 2, (Option.some Jvm.ClassFile.FieldType.int), true, 3180),
  (⟨"java/lang/Math", "min", "(JJ)J"⟩, 4, (Option.some Jvm.ClassFile.FieldType.long), true, 3185),
  (⟨"java/lang/Math", "max", "(JJ)J"⟩, 4, (Option.some Jvm.ClassFile.FieldType.long), true, 3188),
  (⟨"HeadServo$Head", "addLearnt", "(II)V"⟩, 3, (Option.none : Option Jvm.ClassFile.FieldType), false, 3192),
  (⟨"HeadServo", "pullOf", "(LHeadServo$Text;LHeadServo$Head;)I"⟩, 3, (Option.some Jvm.ClassFile.FieldType.int), false, 3196),
  (⟨"HeadServo$Head", "move", "(I)V"⟩, 5, (Option.none : Option Jvm.ClassFile.FieldType), false, 3201),
  (⟨"HeadServo", "played", "(I)I"⟩, 4, (Option.some Jvm.ClassFile.FieldType.int), false, 3205),
  (⟨"HeadServo", "playClause", "(III)Z"⟩, 5, (Option.some Jvm.ClassFile.FieldType.boolean), false, 3209),
  (⟨"HeadServo", "years", "(II)I"⟩, 4, (Option.some Jvm.ClassFile.FieldType.int), false, 3218),
  (⟨"HeadServo", "happen", "(LHeadServo$Head;I)V"⟩, 3, (Option.none : Option Jvm.ClassFile.FieldType), false, 3222),
  (⟨"HeadServo", "undo", "()I"⟩, 1, (Option.some Jvm.ClassFile.FieldType.int), false, 3226),
  (⟨"HeadServo$Steps", "giveBack", "(LHeadServo$Head;)Z"⟩, 3, (Option.some Jvm.ClassFile.FieldType.boolean), false, 3230),
  (⟨"HeadServo", "of", "(II)I"⟩, 3, (Option.some Jvm.ClassFile.FieldType.int), false, 3234),
  (⟨"HeadServo", "is", "(I)I"⟩, 3, (Option.some Jvm.ClassFile.FieldType.int), false, 3238),
  (⟨"HeadServo", "pulls", "()I"⟩, 1, (Option.some Jvm.ClassFile.FieldType.int), false, 4002),
  (⟨"HeadServo", "book", "(II)I"⟩, 3, (Option.some Jvm.ClassFile.FieldType.int), false, 4006),
  (⟨"HeadServo$Head", "inLine", "(II)I"⟩, 3, (Option.some Jvm.ClassFile.FieldType.int), false, 4010),
  (⟨"HeadServo", "foretold", "(II)I"⟩, 4, (Option.some Jvm.ClassFile.FieldType.int), false, 4014),
  (⟨"HeadServo", "till", "(I)I"⟩, 3, (Option.some Jvm.ClassFile.FieldType.int), false, 4019),
  (⟨"HeadServo", "gray", "(I)I"⟩, 2, (Option.some Jvm.ClassFile.FieldType.int), false, 4023),
  (⟨"HeadServo", "codeOf", "(I)I"⟩, 1, (Option.some Jvm.ClassFile.FieldType.int), true, 4026),
  (⟨"HeadServo", "track", "(I)I"⟩, 2, (Option.some Jvm.ClassFile.FieldType.int), false, 4030),
  (⟨"HeadServo", "trackOf", "(I)I"⟩, 3, (Option.some Jvm.ClassFile.FieldType.int), true, 4033),
  (⟨"HeadServo", "burst", "(II)I"⟩, 3, (Option.some Jvm.ClassFile.FieldType.int), false, 4037),
  (⟨"HeadServo", "burstAt", "(II)I"⟩, 3, (Option.some Jvm.ClassFile.FieldType.int), true, 4040)]
def es_M_2 : List es_Mt := [(⟨"HeadServo", "reads", "(IZ)I"⟩, 4, (Option.some Jvm.ClassFile.FieldType.int), false, 4044),
  (⟨"HeadServo", "besideOf", "(I)I"⟩, 2, (Option.some Jvm.ClassFile.FieldType.int), true, 4047),
  (⟨"HeadServo", "fit", "(IIIII)I"⟩, 8, (Option.some Jvm.ClassFile.FieldType.int), false, 4051),
  (⟨"HeadServo", "areBursts", "(IIII)Z"⟩, 4, (Option.some Jvm.ClassFile.FieldType.boolean), true, 4054),
  (⟨"HeadServo", "lowRim", "(I)I"⟩, 1, (Option.some Jvm.ClassFile.FieldType.int), true, 4057),
  (⟨"HeadServo", "highRim", "(I)I"⟩, 1, (Option.some Jvm.ClassFile.FieldType.int), true, 4060),
  (⟨"HeadServo", "bearsBursts", "(IIIII)Z"⟩, 5, (Option.some Jvm.ClassFile.FieldType.boolean), true, 4063),
  (⟨"HeadServo", "fits", "(IIIII)I"⟩, 7, (Option.some Jvm.ClassFile.FieldType.int), false, 4067),
  (⟨"HeadServo", "countBearing", "(IIIIII)I"⟩, 8, (Option.some Jvm.ClassFile.FieldType.int), true, 4070),
  (⟨"HeadServo", "unlike", "(II)I"⟩, 3, (Option.some Jvm.ClassFile.FieldType.int), false, 4074),
  (⟨"java/lang/Integer", "bitCount", "(I)I"⟩, 1, (Option.some Jvm.ClassFile.FieldType.int), true, 4077),
  (⟨"HeadServo", "rim", "(IZ)I"⟩, 3, (Option.some Jvm.ClassFile.FieldType.int), false, 4084),
  (⟨"HeadServo", "blind", "(IIII)I"⟩, 5, (Option.some Jvm.ClassFile.FieldType.int), false, 4088),
  (⟨"HeadServo", "curve", "(II)I"⟩, 3, (Option.some Jvm.ClassFile.FieldType.int), false, 4092),
  (⟨"HeadServo", "stop", "(II)I"⟩, 3, (Option.some Jvm.ClassFile.FieldType.int), false, 4096),
  (⟨"HeadServo", "needs", "(II)I"⟩, 4, (Option.some Jvm.ClassFile.FieldType.int), false, 4100),
  (⟨"HeadServo", "fewest", "(II)I"⟩, 3, (Option.some Jvm.ClassFile.FieldType.int), false, 4104),
  (⟨"HeadServo", "findFewest", "(II)V"⟩, 6, (Option.none : Option Jvm.ClassFile.FieldType), false, 4108),
  (⟨"HeadServo", "fewestPlace", "(II)I"⟩, 2, (Option.some Jvm.ClassFile.FieldType.int), true, 4111),
  (⟨"HeadServo", "leastOfNext", "(III)I"⟩, 7, (Option.some Jvm.ClassFile.FieldType.int), false, 4115),
  (⟨"HeadServo", "fewestOf", "(II)I"⟩, 4, (Option.some Jvm.ClassFile.FieldType.int), false, 4119),
  (⟨"HeadServo", "plan", "(III)I"⟩, 8, (Option.some Jvm.ClassFile.FieldType.int), false, 4123),
  (⟨"HeadServo", "lowestNext", "(III)I"⟩, 6, (Option.some Jvm.ClassFile.FieldType.int), false, 4128),
  (⟨"HeadServo", "learn", "(III)I"⟩, 4, (Option.some Jvm.ClassFile.FieldType.int), false, 4132),
  (⟨"HeadServo", "areOffAndGain", "(II)Z"⟩, 2, (Option.some Jvm.ClassFile.FieldType.boolean), true, 4135),
  (⟨"HeadServo", "learntBehind", "(III)I"⟩, 5, (Option.some Jvm.ClassFile.FieldType.int), true, 4138),
  (⟨"HeadServo", "rests", "(II)I"⟩, 3, (Option.some Jvm.ClassFile.FieldType.int), false, 4142),
  (⟨"HeadServo", "restOf", "(II)I"⟩, 5, (Option.some Jvm.ClassFile.FieldType.int), true, 4145),
  (⟨"HeadServo", "gain", "(I)I"⟩, 6, (Option.some Jvm.ClassFile.FieldType.int), false, 4149),
  (⟨"HeadServo", "leftAtLast", "(II)I"⟩, 2, (Option.some Jvm.ClassFile.FieldType.int), true, 4152),
  (⟨"HeadServo", "request", "(I)I"⟩, 2, (Option.some Jvm.ClassFile.FieldType.int), false, 4156),
  (⟨"HeadServo", "order", "(I)I"⟩, 2, (Option.some Jvm.ClassFile.FieldType.int), false, 4160),
  (⟨"HeadServo$Route", "find", "(I[II)V"⟩, 8, (Option.none : Option Jvm.ClassFile.FieldType), false, 4164),
  (⟨"HeadServo$Route", "insert", "(I)V"⟩, 3, (Option.none : Option Jvm.ClassFile.FieldType), false, 4168),
  (⟨"HeadServo$Route", "leastFrom", "(II)I"⟩, 6, (Option.some Jvm.ClassFile.FieldType.int), false, 4173),
  (⟨"HeadServo$Route", "lowestNext", "(II)I"⟩, 6, (Option.some Jvm.ClassFile.FieldType.int), false, 4179),
  (⟨"HeadServo$Route", "rowAt", "(I)I"⟩, 2, (Option.some Jvm.ClassFile.FieldType.int), false, 4183),
  (⟨"HeadServo", "sweep", "(Z)I"⟩, 7, (Option.some Jvm.ClassFile.FieldType.int), false, 4187),
  (⟨"HeadServo", "nearest", "()I"⟩, 6, (Option.some Jvm.ClassFile.FieldType.int), false, 4191),
  (⟨"HeadServo", "nearestOf", "(II)I"⟩, 5, (Option.some Jvm.ClassFile.FieldType.int), false, 4195),
  (⟨"HeadServo", "isNearer", "(III)Z"⟩, 5, (Option.some Jvm.ClassFile.FieldType.boolean), true, 4198),
  (⟨"HeadServo", "steady", "()I"⟩, 3, (Option.some Jvm.ClassFile.FieldType.int), false, 4202),
  (⟨"HeadServo", "isSteady", "(I)Z"⟩, 2, (Option.some Jvm.ClassFile.FieldType.boolean), false, 4206),
  (⟨"HeadServo", "leftOf", "(I)I"⟩, 2, (Option.some Jvm.ClassFile.FieldType.int), false, 4210),
  (⟨"HeadServo", "spread", "(Z)I"⟩, 7, (Option.some Jvm.ClassFile.FieldType.int), false, 4214),
  (⟨"HeadServo", "mean", "(Z)J"⟩, 5, (Option.some Jvm.ClassFile.FieldType.long), false, 4218),
  (⟨"HeadServo", "commonDivisor", "(II)I"⟩, 6, (Option.some Jvm.ClassFile.FieldType.int), true, 4221),
  (⟨"HeadServo", "window", "(I)I"⟩, 6, (Option.some Jvm.ClassFile.FieldType.int), false, 4226),
  (⟨"HeadServo", "farthestIn", "(II)I"⟩, 6, (Option.some Jvm.ClassFile.FieldType.int), false, 4230),
  (⟨"HeadServo", "longest", "()I"⟩, 4, (Option.some Jvm.ClassFile.FieldType.int), false, 4234),
  (⟨"HeadServo", "lost", "()I"⟩, 1, (Option.some Jvm.ClassFile.FieldType.int), false, 4238),
  (⟨"HeadServo", "far", "(I)I"⟩, 2, (Option.some Jvm.ClassFile.FieldType.int), false, 5002),
  (⟨"HeadServo", "worst", "()I"⟩, 3, (Option.some Jvm.ClassFile.FieldType.int), false, 5006),
  (⟨"HeadServo", "said", "(II)I"⟩, 3, (Option.some Jvm.ClassFile.FieldType.int), false, 5010),
  (⟨"HeadServo", "whose", "()I"⟩, 3, (Option.some Jvm.ClassFile.FieldType.int), false, 5014),
  (⟨"HeadServo", "saysAll", "(LHeadServo$Text;)Z"⟩, 3, (Option.some Jvm.ClassFile.FieldType.boolean), false, 5018),
  (⟨"HeadServo", "most", "(I)I"⟩, 7, (Option.some Jvm.ClassFile.FieldType.int), false, 5022),
  (⟨"HeadServo$Head", "linesWith", "(II)I"⟩, 5, (Option.some Jvm.ClassFile.FieldType.int), false, 5026),
  (⟨"HeadServo", "ledger", "(I)I"⟩, 4, (Option.some Jvm.ClassFile.FieldType.int), false, 5031),
  (⟨"HeadServo", "image", "()I"⟩, 1, (Option.some Jvm.ClassFile.FieldType.int), false, 5035)]
def es_M_3 : List es_Mt := [(⟨"HeadServo$All", "copyFrom", "(LHeadServo$All;)V"⟩, 2, (Option.none : Option Jvm.ClassFile.FieldType), false, 5039),
  (⟨"HeadServo$Steps", "copyFrom", "(LHeadServo$Steps;)V"⟩, 5, (Option.none : Option Jvm.ClassFile.FieldType), false, 5044),
  (⟨"HeadServo", "back", "()I"⟩, 1, (Option.some Jvm.ClassFile.FieldType.int), false, 5050),
  (⟨"HeadServo", "about", "(I)I"⟩, 2, (Option.some Jvm.ClassFile.FieldType.int), false, 5054),
  (⟨"HeadServoModel", "<init>", "()V"⟩, 1, (Option.none : Option Jvm.ClassFile.FieldType), false, 5059),
  (⟨"HeadServoModel", "copy", "([I[I)V"⟩, 3, (Option.none : Option Jvm.ClassFile.FieldType), true, 5064),
  (⟨"HeadServoModel", "wobble", "(II)Z"⟩, 3, (Option.some Jvm.ClassFile.FieldType.boolean), false, 5158),
  (⟨"HeadServoModel", "isSector", "(I)Z"⟩, 1, (Option.some Jvm.ClassFile.FieldType.boolean), true, 5161),
  (⟨"HeadServoModel", "isIn", "(III)Z"⟩, 3, (Option.some Jvm.ClassFile.FieldType.boolean), true, 5164),
  (⟨"HeadServoModel", "lose", "(I)Z"⟩, 2, (Option.some Jvm.ClassFile.FieldType.boolean), false, 5168),
  (⟨"HeadServoModel", "feed", "(IIIII)I"⟩, 6, (Option.some Jvm.ClassFile.FieldType.int), false, 5172),
  (⟨"HeadServoModel", "four", "(I)V"⟩, 3, (Option.none : Option Jvm.ClassFile.FieldType), false, 5176),
  (⟨"HeadServoModel", "end", "(I)I"⟩, 2, (Option.some Jvm.ClassFile.FieldType.int), false, 5180),
  (⟨"HeadServoModel", "text", "()I"⟩, 1, (Option.some Jvm.ClassFile.FieldType.int), false, 5184),
  (⟨"HeadServoModel", "readText", "()I"⟩, 2, (Option.some Jvm.ClassFile.FieldType.int), false, 5188),
  (⟨"HeadServoModel", "nextToken", "()V"⟩, 2, (Option.none : Option Jvm.ClassFile.FieldType), false, 5192),
  (⟨"HeadServoModel", "byteAt", "(I)I"⟩, 2, (Option.some Jvm.ClassFile.FieldType.int), false, 5196),
  (⟨"HeadServoModel", "isFigure", "(I)Z"⟩, 1, (Option.some Jvm.ClassFile.FieldType.boolean), true, 5199),
  (⟨"HeadServoModel", "isLetterByte", "(I)Z"⟩, 1, (Option.some Jvm.ClassFile.FieldType.boolean), true, 5203),
  (⟨"HeadServoModel", "isSign", "(I)Z"⟩, 1, (Option.some Jvm.ClassFile.FieldType.boolean), true, 5207),
  (⟨"HeadServoModel", "clause", "()I"⟩, 5, (Option.some Jvm.ClassFile.FieldType.int), false, 5211),
  (⟨"HeadServoModel", "sortOf", "()I"⟩, 1, (Option.some Jvm.ClassFile.FieldType.int), false, 5215),
  (⟨"HeadServoModel", "w5", "(IIIII)J"⟩, 5, (Option.some Jvm.ClassFile.FieldType.long), true, 5218),
  (⟨"HeadServoModel", "w4", "(IIII)J"⟩, 4, (Option.some Jvm.ClassFile.FieldType.long), true, 5221),
  (⟨"HeadServoModel", "w3", "(III)J"⟩, 3, (Option.some Jvm.ClassFile.FieldType.long), true, 5224),
  (⟨"HeadServoModel", "w2", "(II)J"⟩, 2, (Option.some Jvm.ClassFile.FieldType.long), true, 5227),
  (⟨"HeadServoModel", "isWord", "(J)Z"⟩, 3, (Option.some Jvm.ClassFile.FieldType.boolean), false, 5231),
  (⟨"HeadServoModel", "w6", "(IIIIII)J"⟩, 6, (Option.some Jvm.ClassFile.FieldType.long), true, 5234),
  (⟨"HeadServoModel", "has", "(II)Z"⟩, 2, (Option.some Jvm.ClassFile.FieldType.boolean), true, 5237),
  (⟨"HeadServoModel", "body", "(II)I"⟩, 3, (Option.some Jvm.ClassFile.FieldType.int), false, 6001),
  (⟨"HeadServoModel", "wobbleClause", "(I)I"⟩, 3, (Option.some Jvm.ClassFile.FieldType.int), false, 6005),
  (⟨"HeadServoModel", "figure", "(III)I"⟩, 4, (Option.some Jvm.ClassFile.FieldType.int), false, 6009),
  (⟨"HeadServoModel", "lawClause", "(I)I"⟩, 3, (Option.some Jvm.ClassFile.FieldType.int), false, 6013),
  (⟨"HeadServoModel", "summed", "()I"⟩, 2, (Option.some Jvm.ClassFile.FieldType.int), false, 6017),
  (⟨"HeadServoModel", "behindOne", "()Z"⟩, 4, (Option.some Jvm.ClassFile.FieldType.boolean), false, 6021),
  (⟨"HeadServoModel", "betweenOf", "()I"⟩, 1, (Option.some Jvm.ClassFile.FieldType.int), false, 6025),
  (⟨"HeadServoModel", "openNow", "()I"⟩, 1, (Option.some Jvm.ClassFile.FieldType.int), false, 6029),
  (⟨"HeadServoModel", "openAt", "()I"⟩, 2, (Option.some Jvm.ClassFile.FieldType.int), false, 6033),
  (⟨"HeadServoModel", "isCompared", "()Z"⟩, 2, (Option.some Jvm.ClassFile.FieldType.boolean), false, 6037),
  (⟨"HeadServoModel", "rank", "(I)I"⟩, 1, (Option.some Jvm.ClassFile.FieldType.int), true, 6040),
  (⟨"HeadServoModel", "compareOf", "()I"⟩, 1, (Option.some Jvm.ClassFile.FieldType.int), false, 6044),
  (⟨"HeadServoModel", "settle", "(I)V"⟩, 2, (Option.none : Option Jvm.ClassFile.FieldType), false, 6048),
  (⟨"HeadServoModel", "emit", "(II)V"⟩, 3, (Option.none : Option Jvm.ClassFile.FieldType), false, 6052),
  (⟨"HeadServoModel", "partOf", "(I)I"⟩, 2, (Option.some Jvm.ClassFile.FieldType.int), false, 6056),
  (⟨"HeadServoModel", "beginOne", "()I"⟩, 2, (Option.some Jvm.ClassFile.FieldType.int), false, 6060),
  (⟨"HeadServoModel", "nameOf", "()I"⟩, 1, (Option.some Jvm.ClassFile.FieldType.int), false, 6064),
  (⟨"HeadServoModel", "isSettledWord", "()Z"⟩, 1, (Option.some Jvm.ClassFile.FieldType.boolean), false, 6068),
  (⟨"HeadServoModel", "isOf", "(I)Z"⟩, 2, (Option.some Jvm.ClassFile.FieldType.boolean), false, 6072),
  (⟨"HeadServoModel", "opened", "(I)I"⟩, 2, (Option.some Jvm.ClassFile.FieldType.int), false, 6076),
  (⟨"HeadServoModel", "isAskAhead", "()Z"⟩, 1, (Option.some Jvm.ClassFile.FieldType.boolean), false, 6080),
  (⟨"HeadServoModel", "fault", "(I)I"⟩, 2, (Option.some Jvm.ClassFile.FieldType.int), false, 6084),
  (⟨"HeadServoModel", "by", "(I)Z"⟩, 2, (Option.some Jvm.ClassFile.FieldType.boolean), false, 6088),
  (⟨"HeadServoModel", "undo", "()I"⟩, 3, (Option.some Jvm.ClassFile.FieldType.int), false, 6092),
  (⟨"HeadServoModel", "seek", "(I)Z"⟩, 2, (Option.some Jvm.ClassFile.FieldType.boolean), false, 6096),
  (⟨"HeadServoModel", "canSeek", "(I)Z"⟩, 2, (Option.some Jvm.ClassFile.FieldType.boolean), false, 6100),
  (⟨"HeadServoModel", "isTrack", "(I)Z"⟩, 1, (Option.some Jvm.ClassFile.FieldType.boolean), true, 6103),
  (⟨"HeadServoModel", "keep", "()V"⟩, 3, (Option.none : Option Jvm.ClassFile.FieldType), false, 6107),
  (⟨"HeadServoModel", "seekNow", "(I)V"⟩, 2, (Option.none : Option Jvm.ClassFile.FieldType), false, 6111),
  (⟨"HeadServoModel", "writeDown", "(II)V"⟩, 4, (Option.none : Option Jvm.ClassFile.FieldType), false, 6115),
  (⟨"HeadServoModel", "shake", "(I)I"⟩, 2, (Option.some Jvm.ClassFile.FieldType.int), false, 6119)]
def es_M_4 : List es_Mt := [(⟨"HeadServoModel", "shakeNow", "(I)V"⟩, 2, (Option.none : Option Jvm.ClassFile.FieldType), false, 6123),
  (⟨"HeadServoModel", "held", "(JII)I"⟩, 4, (Option.some Jvm.ClassFile.FieldType.int), true, 6126),
  (⟨"HeadServoModel", "write", "()I"⟩, 1, (Option.some Jvm.ClassFile.FieldType.int), false, 6130),
  (⟨"HeadServoModel", "canWrite", "()Z"⟩, 1, (Option.some Jvm.ClassFile.FieldType.boolean), false, 6134),
  (⟨"HeadServoModel", "writeNow", "()V"⟩, 1, (Option.none : Option Jvm.ClassFile.FieldType), false, 6138),
  (⟨"HeadServoModel", "day", "(I)I"⟩, 2, (Option.some Jvm.ClassFile.FieldType.int), false, 6142),
  (⟨"HeadServoModel", "arePassed", "(I)Z"⟩, 3, (Option.some Jvm.ClassFile.FieldType.boolean), false, 6146),
  (⟨"HeadServoModel", "sample", "()V"⟩, 2, (Option.none : Option Jvm.ClassFile.FieldType), false, 6150),
  (⟨"HeadServoModel", "isLost", "(I)Z"⟩, 2, (Option.some Jvm.ClassFile.FieldType.boolean), false, 6154),
  (⟨"HeadServoModel", "readNow", "(I)V"⟩, 4, (Option.none : Option Jvm.ClassFile.FieldType), false, 6158),
  (⟨"HeadServoModel", "drawnBy", "(I)I"⟩, 3, (Option.some Jvm.ClassFile.FieldType.int), false, 6162),
  (⟨"HeadServoModel", "anew", "()V"⟩, 1, (Option.none : Option Jvm.ClassFile.FieldType), false, 6166),
  (⟨"HeadServoModel", "learnsOf", "(I)I"⟩, 2, (Option.some Jvm.ClassFile.FieldType.int), false, 6173),
  (⟨"HeadServoModel", "name", "(I)V"⟩, 2, (Option.none : Option Jvm.ClassFile.FieldType), false, 6177),
  (⟨"HeadServoModel", "says", "(IIIII)I"⟩, 7, (Option.some Jvm.ClassFile.FieldType.int), false, 6181),
  (⟨"HeadServoModel", "summedUp", "(II)J"⟩, 10, (Option.some Jvm.ClassFile.FieldType.long), false, 6185),
  (⟨"HeadServoModel", "ofOne", "(IJ)J"⟩, 4, (Option.some Jvm.ClassFile.FieldType.long), false, 6189),
  (⟨"HeadServoModel", "curveBoth", "(J)I"⟩, 2, (Option.some Jvm.ClassFile.FieldType.int), true, 6192),
  (⟨"HeadServoModel", "curveOf", "(II)I"⟩, 3, (Option.some Jvm.ClassFile.FieldType.int), true, 6195),
  (⟨"HeadServoModel", "wayOf", "(II)I"⟩, 4, (Option.some Jvm.ClassFile.FieldType.int), true, 6198),
  (⟨"HeadServoModel", "two", "(IJJ)J"⟩, 5, (Option.some Jvm.ClassFile.FieldType.long), true, 6202),
  (⟨"HeadServoModel", "clip", "(J)J"⟩, 2, (Option.some Jvm.ClassFile.FieldType.long), true, 6205),
  (⟨"HeadServoModel", "isAsked", "(IJJ)Z"⟩, 5, (Option.some Jvm.ClassFile.FieldType.boolean), true, 6210),
  (⟨"HeadServoModel", "joined", "(IZZ)Z"⟩, 3, (Option.some Jvm.ClassFile.FieldType.boolean), true, 6213),
  (⟨"HeadServoModel", "moveNow", "()V"⟩, 2, (Option.none : Option Jvm.ClassFile.FieldType), false, 6217),
  (⟨"HeadServoModel", "pullsOf", "(II)I"⟩, 3, (Option.some Jvm.ClassFile.FieldType.int), false, 6221),
  (⟨"HeadServoModel", "played", "(I)I"⟩, 3, (Option.some Jvm.ClassFile.FieldType.int), false, 6225),
  (⟨"HeadServoModel", "isPlayed", "(I)Z"⟩, 3, (Option.some Jvm.ClassFile.FieldType.boolean), false, 6229),
  (⟨"HeadServoModel", "years", "(II)I"⟩, 5, (Option.some Jvm.ClassFile.FieldType.int), false, 6238),
  (⟨"HeadServoModel", "happens", "(I)V"⟩, 2, (Option.none : Option Jvm.ClassFile.FieldType), false, 7002),
  (⟨"HeadServoModel", "of", "(II)I"⟩, 3, (Option.some Jvm.ClassFile.FieldType.int), false, 7006),
  (⟨"HeadServoModel", "is", "(I)I"⟩, 2, (Option.some Jvm.ClassFile.FieldType.int), false, 7010),
  (⟨"HeadServoModel", "lost", "()I"⟩, 1, (Option.some Jvm.ClassFile.FieldType.int), false, 7014),
  (⟨"HeadServoModel", "far", "(I)I"⟩, 2, (Option.some Jvm.ClassFile.FieldType.int), false, 7018),
  (⟨"HeadServoModel", "pulls", "()I"⟩, 1, (Option.some Jvm.ClassFile.FieldType.int), false, 7022),
  (⟨"HeadServoModel", "book", "(II)I"⟩, 3, (Option.some Jvm.ClassFile.FieldType.int), false, 7026),
  (⟨"HeadServoModel", "lineOf", "(II)I"⟩, 4, (Option.some Jvm.ClassFile.FieldType.int), false, 7030),
  (⟨"HeadServoModel", "ledger", "(I)I"⟩, 2, (Option.some Jvm.ClassFile.FieldType.int), false, 7034),
  (⟨"HeadServoModel", "linesOf", "(I)I"⟩, 4, (Option.some Jvm.ClassFile.FieldType.int), false, 7038),
  (⟨"HeadServoModel", "most", "(I)I"⟩, 5, (Option.some Jvm.ClassFile.FieldType.int), false, 7042),
  (⟨"HeadServoModel", "linesWith", "(II)I"⟩, 5, (Option.some Jvm.ClassFile.FieldType.int), false, 7046),
  (⟨"HeadServoModel", "foretold", "(II)I"⟩, 4, (Option.some Jvm.ClassFile.FieldType.int), false, 7050),
  (⟨"HeadServoModel", "putAside", "()V"⟩, 2, (Option.none : Option Jvm.ClassFile.FieldType), false, 7054),
  (⟨"HeadServoModel", "bringBack", "()V"⟩, 2, (Option.none : Option Jvm.ClassFile.FieldType), false, 7058),
  (⟨"HeadServoModel", "till", "(I)I"⟩, 4, (Option.some Jvm.ClassFile.FieldType.int), false, 7062),
  (⟨"HeadServoModel", "gray", "(I)I"⟩, 2, (Option.some Jvm.ClassFile.FieldType.int), false, 7066),
  (⟨"HeadServoModel", "codeOf", "(I)I"⟩, 1, (Option.some Jvm.ClassFile.FieldType.int), true, 7069),
  (⟨"HeadServoModel", "track", "(I)I"⟩, 3, (Option.some Jvm.ClassFile.FieldType.int), false, 7073),
  (⟨"HeadServoModel", "burst", "(II)I"⟩, 3, (Option.some Jvm.ClassFile.FieldType.int), false, 7077),
  (⟨"HeadServoModel", "isPlace", "(I)Z"⟩, 1, (Option.some Jvm.ClassFile.FieldType.boolean), true, 7080),
  (⟨"HeadServoModel", "burstOf", "(II)I"⟩, 3, (Option.some Jvm.ClassFile.FieldType.int), true, 7083),
  (⟨"HeadServoModel", "apartBy", "(II)I"⟩, 2, (Option.some Jvm.ClassFile.FieldType.int), true, 7086),
  (⟨"HeadServoModel", "reads", "(IZ)I"⟩, 3, (Option.some Jvm.ClassFile.FieldType.int), false, 7090),
  (⟨"HeadServoModel", "otherAt", "(I)I"⟩, 3, (Option.some Jvm.ClassFile.FieldType.int), true, 7093),
  (⟨"HeadServoModel", "fit", "(IIIII)I"⟩, 7, (Option.some Jvm.ClassFile.FieldType.int), false, 7097),
  (⟨"HeadServoModel", "areRead", "(IIIII)Z"⟩, 6, (Option.some Jvm.ClassFile.FieldType.boolean), false, 7101),
  (⟨"HeadServoModel", "isBurst", "(I)Z"⟩, 1, (Option.some Jvm.ClassFile.FieldType.boolean), true, 7104),
  (⟨"HeadServoModel", "canBe", "(IIIIII)Z"⟩, 7, (Option.some Jvm.ClassFile.FieldType.boolean), false, 7108),
  (⟨"HeadServoModel", "isReadAt", "(II)Z"⟩, 2, (Option.some Jvm.ClassFile.FieldType.boolean), true, 7111),
  (⟨"HeadServoModel", "isLike", "(III)Z"⟩, 3, (Option.some Jvm.ClassFile.FieldType.boolean), true, 7114)]
def es_M_5 : List es_Mt := [(⟨"HeadServoModel", "fits", "(IIIII)I"⟩, 8, (Option.some Jvm.ClassFile.FieldType.int), false, 7118),
  (⟨"HeadServoModel", "unlike", "(II)I"⟩, 5, (Option.some Jvm.ClassFile.FieldType.int), false, 7122),
  (⟨"HeadServoModel", "rim", "(IZ)I"⟩, 4, (Option.some Jvm.ClassFile.FieldType.int), false, 7126),
  (⟨"HeadServoModel", "blind", "(IIII)I"⟩, 7, (Option.some Jvm.ClassFile.FieldType.int), false, 7130),
  (⟨"HeadServoModel", "curve", "(II)I"⟩, 3, (Option.some Jvm.ClassFile.FieldType.int), false, 7134),
  (⟨"HeadServoModel", "isPull", "(I)Z"⟩, 1, (Option.some Jvm.ClassFile.FieldType.boolean), true, 7137),
  (⟨"HeadServoModel", "stop", "(II)I"⟩, 3, (Option.some Jvm.ClassFile.FieldType.int), false, 7141),
  (⟨"HeadServoModel", "needs", "(II)I"⟩, 4, (Option.some Jvm.ClassFile.FieldType.int), false, 7145),
  (⟨"HeadServoModel", "fewest", "(II)I"⟩, 3, (Option.some Jvm.ClassFile.FieldType.int), false, 7149),
  (⟨"HeadServoModel", "isWay", "(II)Z"⟩, 2, (Option.some Jvm.ClassFile.FieldType.boolean), true, 7152),
  (⟨"HeadServoModel", "layPlans", "(II)I"⟩, 7, (Option.some Jvm.ClassFile.FieldType.int), false, 7156),
  (⟨"HeadServoModel", "canGo", "(III)Z"⟩, 4, (Option.some Jvm.ClassFile.FieldType.boolean), false, 7160),
  (⟨"HeadServoModel", "cell", "(III)I"⟩, 3, (Option.some Jvm.ClassFile.FieldType.int), true, 7163),
  (⟨"HeadServoModel", "plan", "(III)I"⟩, 9, (Option.some Jvm.ClassFile.FieldType.int), false, 7167),
  (⟨"HeadServoModel", "learn", "(III)I"⟩, 4, (Option.some Jvm.ClassFile.FieldType.int), false, 7171),
  (⟨"HeadServoModel", "isOff", "(II)Z"⟩, 2, (Option.some Jvm.ClassFile.FieldType.boolean), true, 7174),
  (⟨"HeadServoModel", "learntBy", "(III)I"⟩, 5, (Option.some Jvm.ClassFile.FieldType.int), true, 7177),
  (⟨"HeadServoModel", "oneTurn", "(III)I"⟩, 3, (Option.some Jvm.ClassFile.FieldType.int), true, 7180),
  (⟨"HeadServoModel", "rests", "(II)I"⟩, 3, (Option.some Jvm.ClassFile.FieldType.int), false, 7184),
  (⟨"HeadServoModel", "restsBy", "(II)I"⟩, 4, (Option.some Jvm.ClassFile.FieldType.int), true, 7187),
  (⟨"HeadServoModel", "gain", "(I)I"⟩, 7, (Option.some Jvm.ClassFile.FieldType.int), false, 7191),
  (⟨"HeadServoModel", "request", "(I)I"⟩, 2, (Option.some Jvm.ClassFile.FieldType.int), false, 7196),
  (⟨"HeadServoModel", "order", "(I)I"⟩, 5, (Option.some Jvm.ClassFile.FieldType.int), false, 7200),
  (⟨"HeadServoModel", "layRow", "()V"⟩, 3, (Option.none : Option Jvm.ClassFile.FieldType), false, 7204),
  (⟨"HeadServoModel", "swap", "(II)V"⟩, 4, (Option.none : Option Jvm.ClassFile.FieldType), false, 7208),
  (⟨"HeadServoModel", "rowLength", "()I"⟩, 4, (Option.some Jvm.ClassFile.FieldType.int), false, 7212),
  (⟨"HeadServoModel", "trackNow", "()I"⟩, 1, (Option.some Jvm.ClassFile.FieldType.int), false, 7216),
  (⟨"HeadServoModel", "isNextRow", "(I)Z"⟩, 6, (Option.some Jvm.ClassFile.FieldType.boolean), false, 7220),
  (⟨"HeadServoModel", "sweep", "(Z)I"⟩, 7, (Option.some Jvm.ClassFile.FieldType.int), false, 7224),
  (⟨"HeadServoModel", "nearest", "()I"⟩, 7, (Option.some Jvm.ClassFile.FieldType.int), false, 7228),
  (⟨"HeadServoModel", "steady", "()I"⟩, 3, (Option.some Jvm.ClassFile.FieldType.int), false, 7232),
  (⟨"HeadServoModel", "leftOf", "(I)I"⟩, 2, (Option.some Jvm.ClassFile.FieldType.int), false, 7236),
  (⟨"HeadServoModel", "spread", "(Z)I"⟩, 6, (Option.some Jvm.ClassFile.FieldType.int), false, 8000),
  (⟨"HeadServoModel", "worst", "()I"⟩, 3, (Option.some Jvm.ClassFile.FieldType.int), false, 8004),
  (⟨"HeadServoModel", "mean", "(Z)J"⟩, 7, (Option.some Jvm.ClassFile.FieldType.long), false, 8008),
  (⟨"HeadServoModel", "divisor", "(JJ)J"⟩, 10, (Option.some Jvm.ClassFile.FieldType.long), true, 8011),
  (⟨"HeadServoModel", "window", "(I)I"⟩, 5, (Option.some Jvm.ClassFile.FieldType.int), false, 8015),
  (⟨"HeadServoModel", "farthestFrom", "(II)I"⟩, 7, (Option.some Jvm.ClassFile.FieldType.int), false, 8019),
  (⟨"HeadServoModel", "longest", "()I"⟩, 5, (Option.some Jvm.ClassFile.FieldType.int), false, 8023),
  (⟨"HeadServoModel", "said", "(II)I"⟩, 3, (Option.some Jvm.ClassFile.FieldType.int), false, 8028),
  (⟨"HeadServoModel", "whose", "()I"⟩, 5, (Option.some Jvm.ClassFile.FieldType.int), false, 8032),
  (⟨"HeadServoModel", "image", "()I"⟩, 1, (Option.some Jvm.ClassFile.FieldType.int), false, 8036),
  (⟨"HeadServoModel", "back", "()I"⟩, 1, (Option.some Jvm.ClassFile.FieldType.int), false, 8040),
  (⟨"HeadServoModel", "about", "(I)I"⟩, 2, (Option.some Jvm.ClassFile.FieldType.int), false, 8044)]
def es_M : List es_Mt := es_M_0 ++ (es_M_1 ++ (es_M_2 ++ (es_M_3 ++ (es_M_4 ++ (es_M_5)))))
def es_m (m : Nat) : es_Mt := es_M.getD m (⟨"", "", ""⟩, 0, none, false, 0)
/-- links of fields: own, place, (class, field, type), of a nest mate, where the word stands -/
def es_FL : List (Nat × Nat × (Nat × Nat × Nat) × Bool × Nat) := [(2, 9, (2, 0, 0), false, 1037), (0, 129, (2, 0, 0), true, 1038), (2, 15, (2, 1, 0), false, 1039), (3, 52, (2, 1, 0), true, 1040), (0, 249, (2, 1, 0), true, 1041), (2, 18, (2, 2, 0), false, 1042), (3, 58, (2, 2, 0), true, 1043), (0, 110, (2, 2, 0), true, 1044), (2, 21, (2, 3, 0), false, 1045), (3, 55, (2, 3, 0), true, 1046), (0, 225, (2, 3, 0), true, 1047), (2, 24, (2, 4, 0), false, 1048), (3, 61, (2, 4, 0), true, 1049), (0, 145, (2, 4, 0), true, 1050), (2, 27, (2, 5, 0), false, 1051), (0, 265, (2, 5, 0), true, 1052), (2, 30, (2, 6, 0), false, 1053), (0, 268, (2, 6, 0), true, 1054), (2, 33, (2, 7, 0), false, 1055), (3, 46, (2, 7, 0), true, 1056), (0, 139, (2, 7, 0), true, 1057), (2, 36, (2, 8, 0), false, 1058), (0, 189, (2, 8, 0), true, 1059), (2, 39, (2, 9, 0), false, 1060), (0, 271, (2, 9, 0), true, 1061), (2, 42, (2, 10, 2), false, 1062), (2, 46, (2, 11, 2), false, 1063), (6, 11, (6, 0, 2), false, 1099), (6, 17, (6, 1, 0), false, 1100), (6, 21, (6, 2, 0), false, 1101), (0, 203, (6, 2, 0), true, 1102), (1, 12, (1, 0, 2), false, 1110), (0, 107, (1, 0, 2), true, 1111), (1, 21, (1, 1, 2), false, 1112), (0, 113, (1, 1, 2), true, 1113), (1, 25, (1, 2, 2), false, 1114), (0, 73, (1, 2, 2), true, 1115), (1, 29, (1, 3, 0), false, 1116), (0, 76, (1, 3, 0), true, 1117), (1, 33, (1, 4, 0), false, 1118), (0, 83, (1, 4, 0), true, 1119), (1, 36, (1, 5, 0), false, 1120), (0, 100, (1, 5, 0), true, 1121), (1, 39, (1, 6, 2), false, 1122), (0, 357, (1, 6, 2), true, 1123), (1, 42, (1, 7, 0), false, 1124), (0, 354, (1, 7, 0), true, 1125), (1, 45, (1, 8, 2), false, 1126), (0, 393, (1, 8, 2), true, 1127), (1, 48, (1, 9, 2), false, 1128), (0, 396, (1, 9, 2), true, 1129), (1, 51, (1, 10, 0), false, 1130), (0, 390, (1, 10, 0), true, 1131), (4, 9, (4, 0, 2), false, 1165), (4, 15, (4, 1, 2), false, 1166), (4, 18, (4, 2, 2), false, 1167), (4, 21, (4, 3, 0), false, 1168), (4, 25, (4, 4, 0), false, 1169), (4, 28, (4, 5, 0), false, 1170), (4, 31, (4, 6, 0), false, 1171), (0, 90, (4, 6, 0), true, 1172), (4, 34, (4, 7, 0), false, 1173), (0, 93, (4, 7, 0), true, 1174), (3, 9, (3, 0, 2), false, 1198), (3, 15, (3, 1, 0), false, 1199), (5, 9, (5, 0, 2), false, 1211), (5, 15, (5, 1, 2), false, 1212), (5, 18, (5, 2, 0), false, 1213), (5, 22, (5, 3, 0), false, 1214), (0, 364, (5, 3, 0), true, 1215), (7, 9, (7, 0, 2), false, 1230), (0, 154, (7, 0, 2), true, 1231), (7, 15, (7, 1, 2), false, 1232), (0, 157, (7, 1, 2), true, 1233), (7, 18, (7, 2, 2), false, 1234), (0, 160, (7, 2, 2), true, 1235), (7, 21, (7, 3, 0), false, 1236), (0, 151, (7, 3, 0), true, 1237), (4, 112, (7, 3, 0), true, 1238), (7, 25, (7, 4, 2), false, 1239), (3, 23, (7, 4, 2), true, 2000), (7, 28, (7, 5, 0), false, 2001), (4, 128, (7, 5, 0), true, 2002), (7, 31, (7, 6, 0), false, 2003), (4, 106, (7, 6, 0), true, 2004), (0, 243, (7, 6, 0), true, 2005), (7, 34, (7, 7, 0), false, 2006), (4, 134, (7, 7, 0), true, 2007), (0, 252, (7, 7, 0), true, 2008), (7, 37, (7, 8, 0), false, 2009), (4, 109, (7, 8, 0), true, 2010), (0, 259, (7, 8, 0), true, 2011), (7, 40, (7, 9, 0), false, 2012), (4, 137, (7, 9, 0), true, 2013), (0, 262, (7, 9, 0), true, 2014), (0, 10, (0, 0, 2), false, 2036), (0, 16, (0, 1, 2), false, 2037), (0, 21, (0, 2, 2), false, 2038), (0, 28, (0, 3, 2), false, 2039), (0, 35, (0, 4, 2), false, 2040), (0, 42, (0, 5, 2), false, 2041), (0, 49, (0, 6, 2), false, 2042), (0, 53, (0, 7, 2), false, 2043), (0, 57, (0, 8, 2), false, 2044), (0, 60, (0, 9, 0), false, 2045), (0, 64, (0, 10, 3), false, 2046), (8, 7, (8, 0, 2), false, 5065), (8, 13, (8, 1, 2), false, 5066), (8, 16, (8, 2, 2), false, 5067), (8, 19, (8, 3, 2), false, 5068), (8, 87, (8, 4, 0), false, 5069), (8, 22, (8, 5, 0), false, 5070), (8, 26, (8, 6, 0), false, 5071), (8, 94, (8, 7, 0), false, 5072), (8, 101, (8, 8, 0), false, 5073), (8, 104, (8, 9, 0), false, 5074), (8, 110, (8, 10, 0), false, 5075), (8, 117, (8, 11, 1), false, 5076), (8, 142, (8, 12, 0), false, 5077), (8, 145, (8, 13, 0), false, 5078), (8, 156, (8, 14, 0), false, 5079), (8, 29, (8, 15, 2), false, 5080), (8, 159, (8, 16, 0), false, 5081), (8, 169, (8, 17, 0), false, 5082), (8, 188, (8, 18, 3), false, 5083), (8, 238, (8, 19, 0), false, 5084), (8, 32, (8, 20, 2), false, 5085), (8, 35, (8, 21, 2), false, 5086), (8, 39, (8, 22, 2), false, 5087), (8, 43, (8, 23, 3), false, 5088), (8, 47, (8, 24, 2), false, 5089), (8, 51, (8, 25, 2), false, 5090), (8, 418, (8, 26, 0), false, 5091), (8, 54, (8, 27, 2), false, 5092), (8, 57, (8, 28, 2), false, 5093)]
def es_KI : List (Nat × Nat × Int32 × Nat) := [(11, 265, 1431655765, 4078), (11, 266, 858993459, 4079), (11, 267, 252645135, 4080), (8, 50, 37210, 5061), (8, 113, 99999, 5200), (8, 445, 1000000, 7192)]
def es_KL : List (Nat × Nat × Int64 × Nat) := [(3, 72, -1000000, 3181), (3, 74, 1000000, 3182), (0, 385, -1, 4222), (8, 121, 1152921504606846976, 5204), (8, 293, 739, 6167), (8, 295, 601, 6168), (8, 297, 31069, 6169), (8, 262, 8, 6199), (8, 250, 1000000, 6206), (8, 252, -1000000, 6207)]
/-- links of System.arraycopy: own, place, where the word stands -/
def es_AC : List (Nat × Nat × Nat) := [(2, 49, 3070), (1, 61, 5046)]
/-- methods that are called: the method, where its class stands as initialised, as static or of instances, as selected (in lw_tbl) -/
def es_ML_0 : List (Nat × Nat × Nat × Bool × Nat) := [(9, 9, 0, false, 1019), (0, 1, 1, false, 1022), (0, 9, 2, true, 1027), (1, 3, 1, false, 1030), (1, 11, 3, true, 1033), (2, 3, 1, false, 1036), (1, 20, 4, true, 1092), (6, 3, 1, false, 1095), (6, 24, 3, true, 1098), (0, 27, 3, true, 1158), (0, 34, 5, true, 1161), (4, 3, 1, false, 1164), (0, 41, 6, true, 1194), (3, 3, 1, false, 1197), (0, 48, 7, true, 1207), (5, 3, 1, false, 1210), (0, 68, 8, true, 1226), (7, 3, 1, false, 1229), (9, 13, 9, false, 2070), (0, 69, 10, false, 2074), (9, 18, 11, false, 2077), (9, 23, 12, false, 2081), (0, 79, 13, false, 2085), (9, 28, 14, false, 2089), (9, 33, 15, false, 2093), (0, 86, 16, true, 2097), (4, 37, 17, true, 2101), (4, 42, 18, false, 2105), (4, 48, 19, false, 2108), (4, 60, 20, false, 2112), (4, 81, 10, true, 2115), (4, 64, 21, false, 2116), (4, 85, 22, false, 2120), (4, 90, 23, false, 2124), (12, 335, 24, false, 2128), (4, 95, 25, false, 2134), (12, 492, 26, false, 2138), (12, 495, 27, false, 2142), (13, 9, 28, false, 2145), (12, 1059, 29, false, 2150), (12, 498, 30, false, 2153), (14, 67, 31, false, 2156), (14, 48, 32, false, 2159), (14, 414, 28, false, 2162), (14, 71, 33, false, 2163), (4, 77, 34, false, 2172), (4, 68, 35, false, 2176), (4, 71, 36, false, 2179), (4, 74, 37, false, 2183), (4, 99, 38, false, 2187), (4, 52, 39, false, 2190), (4, 56, 40, false, 2194), (4, 103, 41, false, 2198), (4, 115, 42, false, 2202), (4, 125, 43, true, 2206), (7, 43, 10, true, 2210), (4, 130, 44, false, 2211), (4, 150, 45, false, 2215), (4, 156, 46, false, 2219), (4, 143, 47, false, 2223)]
def es_ML_1 : List (Nat × Nat × Nat × Bool × Nat) := [(4, 146, 48, false, 2227), (4, 153, 49, true, 2231), (4, 159, 50, false, 2235), (4, 122, 51, false, 2239), (4, 162, 52, false, 3003), (4, 168, 53, false, 3007), (4, 175, 54, false, 3011), (4, 178, 55, false, 3015), (4, 171, 56, true, 3019), (4, 165, 57, false, 3023), (4, 119, 58, false, 3027), (4, 140, 59, false, 3031), (9, 38, 60, false, 3036), (9, 42, 61, false, 3040), (0, 96, 62, false, 3044), (9, 46, 63, false, 3048), (0, 103, 64, false, 3052), (0, 117, 65, true, 3055), (6, 31, 66, false, 3059), (6, 25, 67, false, 3063), (6, 35, 68, true, 3066), (0, 123, 69, true, 3073), (2, 69, 70, false, 3077), (2, 61, 10, true, 3081), (9, 50, 71, false, 3082), (0, 126, 72, true, 3086), (2, 65, 73, true, 3090), (0, 183, 18, false, 3093), (0, 318, 74, false, 3094), (9, 54, 75, false, 3097), (0, 132, 76, true, 3101), (0, 136, 77, true, 3105), (2, 73, 18, false, 3109), (9, 58, 78, false, 3110), (0, 142, 79, false, 3114), (0, 148, 80, false, 3118), (0, 206, 81, true, 3122), (2, 55, 67, false, 3126), (0, 209, 82, false, 3127), (0, 192, 83, true, 3131), (0, 212, 84, false, 3135), (0, 215, 73, false, 3139), (0, 219, 85, false, 3140), (0, 222, 86, true, 3143), (0, 228, 87, false, 3147), (0, 255, 88, true, 3151), (3, 19, 10, true, 3155), (3, 28, 89, false, 3156), (3, 32, 90, false, 3160), (3, 36, 91, true, 3164), (0, 315, 92, false, 3167), (0, 321, 93, false, 3170), (3, 40, 86, true, 3173), (3, 49, 81, true, 3174), (3, 64, 94, false, 3175), (3, 68, 95, false, 3178), (3, 76, 96, false, 3183), (3, 82, 97, false, 3186), (0, 232, 98, true, 3189), (0, 236, 99, false, 3193)]
def es_ML_2 : List (Nat × Nat × Nat × Bool × Nat) := [(0, 246, 91, false, 3197), (0, 240, 100, true, 3198), (9, 62, 101, false, 3202), (0, 163, 102, false, 3206), (0, 166, 9, false, 3210), (0, 169, 11, false, 3211), (0, 172, 63, false, 3212), (0, 175, 71, false, 3213), (0, 179, 75, false, 3214), (9, 66, 103, false, 3215), (0, 195, 104, false, 3219), (9, 71, 105, false, 3223), (0, 199, 106, true, 3227), (9, 75, 107, false, 3231), (9, 79, 108, false, 3235), (9, 83, 109, false, 3239), (9, 87, 110, false, 4003), (0, 274, 111, true, 4007), (9, 91, 112, false, 4011), (0, 277, 68, true, 4015), (9, 95, 113, false, 4016), (9, 99, 114, false, 4020), (0, 280, 115, false, 4024), (9, 103, 116, false, 4027), (0, 283, 117, false, 4031), (9, 107, 118, false, 4034), (0, 286, 119, false, 4038), (9, 111, 120, false, 4041), (0, 289, 121, false, 4045), (9, 116, 122, false, 4048), (0, 292, 123, false, 4052), (0, 296, 124, false, 4055), (0, 299, 125, false, 4058), (0, 302, 126, false, 4061), (9, 120, 127, false, 4064), (0, 306, 128, false, 4068), (9, 124, 129, false, 4071), (0, 310, 130, false, 4075), (9, 128, 131, false, 4081), (9, 132, 132, false, 4085), (9, 137, 133, false, 4089), (9, 141, 134, false, 4093), (9, 145, 135, false, 4097), (9, 149, 136, false, 4101), (0, 324, 137, false, 4105), (0, 336, 138, false, 4109), (0, 339, 139, false, 4112), (0, 327, 140, false, 4116), (9, 153, 141, false, 4120), (0, 330, 136, false, 4124), (0, 333, 142, false, 4125), (9, 158, 143, false, 4129), (0, 342, 144, false, 4133), (0, 345, 145, false, 4136), (9, 162, 146, false, 4139), (0, 348, 147, false, 4143), (9, 166, 148, false, 4146), (0, 351, 149, false, 4150), (9, 170, 150, false, 4153), (9, 174, 151, false, 4157)]
def es_ML_3 : List (Nat × Nat × Nat × Bool × Nat) := [(0, 360, 152, true, 4161), (5, 25, 153, false, 4165), (5, 36, 10, true, 4169), (5, 29, 154, false, 4170), (5, 40, 92, false, 4174), (5, 46, 18, false, 4175), (5, 33, 155, false, 4176), (0, 367, 156, true, 4180), (9, 178, 157, false, 4184), (9, 183, 158, false, 4188), (0, 370, 159, false, 4192), (0, 373, 160, false, 4196), (9, 187, 161, false, 4199), (0, 376, 162, false, 4203), (0, 379, 163, false, 4207), (9, 191, 164, false, 4211), (9, 195, 165, false, 4215), (0, 382, 166, false, 4219), (9, 200, 167, false, 4223), (0, 387, 168, false, 4227), (9, 204, 169, false, 4231), (9, 216, 170, false, 4235), (9, 220, 171, false, 4239), (9, 224, 172, false, 5003), (9, 208, 173, false, 5007), (9, 212, 174, false, 5011), (0, 399, 175, false, 5015), (9, 228, 176, false, 5019), (0, 403, 177, true, 5023), (2, 76, 111, false, 5027), (9, 232, 178, false, 5028), (9, 236, 179, false, 5032), (0, 406, 180, true, 5036), (1, 54, 68, true, 5040), (1, 58, 181, true, 5041), (6, 39, 18, false, 5045), (9, 240, 182, false, 5047), (9, 244, 183, false, 5051), (9, 12, 184, false, 5057), (8, 1, 1, false, 5060), (8, 60, 185, false, 5062), (9, 17, 186, false, 5155), (8, 72, 187, false, 5159), (8, 64, 188, false, 5162), (9, 22, 189, false, 5165), (9, 27, 190, false, 5169), (8, 90, 191, false, 5173), (9, 32, 192, false, 5177), (9, 37, 193, false, 5181), (8, 247, 194, false, 5185), (8, 179, 195, false, 5189), (8, 97, 196, false, 5193), (8, 107, 197, false, 5197), (8, 114, 198, false, 5201), (8, 123, 199, false, 5205), (8, 244, 200, false, 5208), (8, 235, 201, false, 5212), (8, 138, 202, false, 5216), (8, 134, 203, false, 5219), (8, 130, 204, false, 5222)]
def es_ML_4 : List (Nat × Nat × Nat × Bool × Nat) := [(8, 126, 205, false, 5225), (8, 197, 206, false, 5228), (8, 148, 207, false, 5232), (8, 68, 208, false, 5235), (8, 241, 209, false, 5238), (8, 229, 210, false, 6002), (8, 225, 211, false, 6006), (8, 232, 212, false, 6010), (8, 222, 213, false, 6014), (8, 216, 214, false, 6018), (8, 210, 215, false, 6022), (8, 176, 216, false, 6026), (8, 172, 217, false, 6030), (8, 204, 218, false, 6034), (8, 162, 219, false, 6038), (8, 207, 220, false, 6041), (8, 191, 221, false, 6045), (8, 165, 222, false, 6049), (8, 213, 223, false, 6053), (8, 219, 224, false, 6057), (8, 182, 225, false, 6061), (8, 152, 226, false, 6065), (8, 185, 227, false, 6069), (8, 194, 228, false, 6073), (8, 201, 229, false, 6077), (9, 41, 230, false, 6081), (9, 45, 231, false, 6085), (9, 74, 232, false, 6089), (9, 49, 233, false, 6093), (8, 323, 234, false, 6097), (8, 320, 235, false, 6101), (8, 326, 236, false, 6104), (8, 329, 237, false, 6108), (8, 308, 238, false, 6112), (9, 53, 239, false, 6116), (8, 332, 240, false, 6120), (8, 80, 241, false, 6124), (9, 57, 242, false, 6127), (8, 335, 243, false, 6131), (8, 338, 244, false, 6135), (9, 61, 245, false, 6139), (8, 344, 246, false, 6143), (8, 341, 247, false, 6147), (8, 311, 248, false, 6151), (8, 314, 249, false, 6155), (8, 299, 250, false, 6159), (8, 290, 251, false, 6163), (8, 302, 252, false, 6170), (8, 283, 253, false, 6174), (8, 286, 254, false, 6178), (8, 280, 255, false, 6182), (8, 264, 256, false, 6186), (8, 258, 257, false, 6190), (8, 84, 258, false, 6193), (8, 76, 259, false, 6196), (8, 268, 260, false, 6200), (8, 254, 261, false, 6203), (8, 272, 262, false, 6208), (8, 276, 263, false, 6211), (8, 317, 264, false, 6214)]
def es_ML_5 : List (Nat × Nat × Nat × Bool × Nat) := [(8, 305, 265, false, 6218), (9, 65, 266, false, 6222), (8, 362, 267, false, 6226), (8, 347, 186, false, 6230), (8, 350, 189, false, 6231), (8, 353, 233, false, 6232), (8, 356, 239, false, 6233), (8, 359, 242, false, 6234), (9, 70, 268, false, 6235), (8, 365, 269, false, 6239), (9, 78, 270, false, 7003), (9, 82, 271, false, 7007), (9, 219, 272, false, 7011), (9, 223, 273, false, 7015), (9, 86, 274, false, 7019), (9, 90, 275, false, 7023), (8, 368, 276, false, 7027), (9, 235, 277, false, 7031), (8, 371, 278, false, 7035), (9, 231, 279, false, 7039), (8, 374, 280, false, 7043), (9, 94, 281, false, 7047), (8, 377, 282, false, 7051), (8, 380, 283, false, 7055), (9, 98, 284, false, 7059), (9, 102, 285, false, 7063), (8, 383, 286, false, 7067), (9, 106, 287, false, 7070), (9, 110, 288, false, 7074), (8, 389, 289, false, 7078), (8, 392, 290, false, 7081), (8, 386, 291, false, 7084), (9, 115, 292, false, 7087), (8, 395, 293, false, 7091), (9, 119, 294, false, 7094), (8, 407, 295, false, 7098), (8, 398, 296, false, 7102), (8, 411, 297, false, 7105), (8, 401, 298, false, 7109), (8, 404, 299, false, 7112), (9, 123, 300, false, 7115), (9, 127, 301, false, 7119), (9, 131, 302, false, 7123), (9, 136, 303, false, 7127), (9, 140, 304, false, 7131), (8, 415, 305, false, 7135), (9, 144, 306, false, 7138), (9, 148, 307, false, 7142), (9, 152, 308, false, 7146), (8, 427, 309, false, 7150), (8, 430, 310, false, 7153), (8, 424, 311, false, 7157), (8, 421, 312, false, 7161), (9, 157, 313, false, 7164), (9, 161, 314, false, 7168), (8, 436, 315, false, 7172), (8, 439, 316, false, 7175), (8, 433, 317, false, 7178), (9, 165, 318, false, 7181), (8, 442, 319, false, 7185)]
def es_ML_6 : List (Nat × Nat × Nat × Bool × Nat) := [(9, 169, 320, false, 7188), (9, 173, 321, false, 7193), (9, 177, 322, false, 7197), (8, 452, 323, false, 7201), (8, 446, 324, false, 7205), (8, 455, 325, false, 7209), (8, 449, 326, false, 7213), (8, 458, 327, false, 7217), (9, 182, 328, false, 7221), (9, 186, 329, false, 7225), (9, 190, 330, false, 7229), (8, 461, 331, false, 7233), (9, 194, 332, false, 7237), (9, 227, 333, false, 8001), (9, 199, 334, false, 8005), (8, 464, 335, false, 8009), (9, 203, 336, false, 8012), (8, 468, 337, false, 8016), (9, 207, 338, false, 8020), (8, 471, 330, false, 8024), (9, 211, 339, false, 8025), (9, 215, 340, false, 8029), (9, 239, 341, false, 8033), (9, 243, 342, false, 8037), (9, 247, 343, false, 8041)]
def es_ML : List (Nat × Nat × Nat × Bool × Nat) := es_ML_0 ++ (es_ML_1 ++ (es_ML_2 ++ (es_ML_3 ++ (es_ML_4 ++ (es_ML_5 ++ (es_ML_6))))))
def es_CM_0 : List (Nat × Nat × Nat × Nat) := [(9, 1001, 2071, 2072), (10, 1001, 2075, 0), (11, 1001, 2078, 2079), (12, 1001, 2082, 2083), (13, 1001, 2087, 0), (14, 1001, 2090, 2091), (15, 1001, 2094, 2095), (16, 1005, 2099, 1), (17, 1008, 2103, 2), (18, 1010, 2106, 0), (19, 1005, 2110, 3), (20, 1005, 2113, 0), (21, 1005, 2118, 4), (22, 1005, 2121, 0), (23, 1011, 2125, 2126), (24, 1011, 2129, 2130), (25, 1011, 2135, 2136), (26, 1011, 2139, 2140), (27, 1012, 2143, 0), (28, 1011, 2146, 0), (29, 1013, 2151, 0), (30, 1014, 2154, 0), (31, 1014, 2157, 0), (32, 1014, 2160, 0), (33, 1014, 2164, 0), (34, 1005, 2174, 5), (35, 1005, 2177, 0), (36, 1005, 2181, 6), (37, 1005, 2185, 7), (38, 1005, 2188, 0), (39, 1005, 2192, 8), (40, 1005, 2196, 9), (41, 1005, 2200, 10), (42, 1005, 2204, 11), (43, 1008, 2208, 12), (44, 1005, 2213, 13), (45, 1005, 2217, 14), (46, 1005, 2221, 15), (47, 1005, 2225, 16), (48, 1005, 2229, 17), (49, 1008, 2233, 18), (50, 1005, 2237, 19), (51, 1005, 3001, 20), (52, 1005, 3005, 21), (53, 1005, 3009, 22), (54, 1005, 3013, 23), (55, 1005, 3017, 24), (56, 1008, 3021, 25), (57, 1005, 3025, 26), (58, 1005, 3029, 27), (59, 1005, 3033, 28), (60, 1001, 3037, 3038), (61, 1001, 3041, 3042), (62, 1001, 3046, 29), (63, 1001, 3049, 3050), (64, 1001, 3053, 0), (65, 1004, 3057, 30), (66, 1004, 3061, 31), (67, 1010, 3064, 0), (68, 1003, 3068, 32)]
def es_CM_1 : List (Nat × Nat × Nat × Nat) := [(69, 1003, 3075, 33), (70, 1003, 3079, 34), (71, 1001, 3083, 3084), (72, 1003, 3088, 35), (73, 1001, 3091, 0), (74, 1010, 3095, 0), (75, 1001, 3098, 3099), (76, 1003, 3103, 36), (77, 1003, 3107, 37), (78, 1001, 3111, 3112), (79, 1001, 3116, 38), (80, 1001, 3120, 39), (81, 1003, 3124, 40), (82, 1001, 3129, 41), (83, 1003, 3133, 42), (84, 1001, 3137, 43), (85, 1001, 3141, 0), (86, 1003, 3145, 44), (87, 1001, 3149, 45), (88, 1006, 3153, 46), (89, 1006, 3158, 47), (90, 1006, 3162, 48), (91, 1001, 3165, 0), (92, 1010, 3168, 0), (93, 1001, 3171, 0), (94, 1006, 3176, 0), (95, 1006, 3179, 0), (96, 1010, 3184, 0), (97, 1010, 3187, 0), (98, 1003, 3191, 49), (99, 1001, 3195, 50), (100, 1003, 3200, 51), (101, 1001, 3203, 3204), (102, 1001, 3208, 52), (103, 1001, 3216, 3217), (104, 1001, 3221, 53), (105, 1001, 3224, 3225), (106, 1004, 3229, 54), (107, 1001, 3232, 3233), (108, 1001, 3236, 3237), (109, 1001, 4000, 4001), (110, 1001, 4004, 4005), (111, 1003, 4009, 55), (112, 1001, 4012, 4013), (113, 1001, 4017, 4018), (114, 1001, 4021, 4022), (115, 1001, 4025, 0), (116, 1001, 4028, 4029), (117, 1001, 4032, 0), (118, 1001, 4035, 4036), (119, 1001, 4039, 0), (120, 1001, 4042, 4043), (121, 1001, 4046, 0), (122, 1001, 4049, 4050), (123, 1001, 4053, 0), (124, 1001, 4056, 0), (125, 1001, 4059, 0), (126, 1001, 4062, 0), (127, 1001, 4065, 4066), (128, 1001, 4069, 0)]
def es_CM_2 : List (Nat × Nat × Nat × Nat) := [(129, 1001, 4072, 4073), (130, 1016, 4076, 0), (131, 1001, 4082, 4083), (132, 1001, 4086, 4087), (133, 1001, 4090, 4091), (134, 1001, 4094, 4095), (135, 1001, 4098, 4099), (136, 1001, 4102, 4103), (137, 1001, 4107, 56), (138, 1001, 4110, 0), (139, 1001, 4114, 57), (140, 1001, 4118, 58), (141, 1001, 4121, 4122), (142, 1001, 4127, 59), (143, 1001, 4130, 4131), (144, 1001, 4134, 0), (145, 1001, 4137, 0), (146, 1001, 4140, 4141), (147, 1001, 4144, 0), (148, 1001, 4147, 4148), (149, 1001, 4151, 0), (150, 1001, 4154, 4155), (151, 1001, 4158, 4159), (152, 1007, 4163, 60), (153, 1007, 4167, 61), (154, 1007, 4172, 62), (155, 1007, 4178, 63), (156, 1007, 4182, 64), (157, 1001, 4185, 4186), (158, 1001, 4189, 4190), (159, 1001, 4194, 65), (160, 1001, 4197, 0), (161, 1001, 4200, 4201), (162, 1001, 4205, 66), (163, 1001, 4209, 67), (164, 1001, 4212, 4213), (165, 1001, 4216, 4217), (166, 1001, 4220, 0), (167, 1001, 4224, 4225), (168, 1001, 4229, 68), (169, 1001, 4232, 4233), (170, 1001, 4236, 4237), (171, 1001, 5000, 5001), (172, 1001, 5004, 5005), (173, 1001, 5008, 5009), (174, 1001, 5012, 5013), (175, 1001, 5017, 69), (176, 1001, 5020, 5021), (177, 1003, 5025, 70), (178, 1001, 5029, 5030), (179, 1001, 5033, 5034), (180, 1002, 5038, 71), (181, 1004, 5043, 72), (182, 1001, 5048, 5049), (183, 1001, 5052, 5053), (185, 1009, 5063, 0), (186, 1009, 5156, 5157), (187, 1009, 5160, 0), (188, 1009, 5163, 0), (189, 1009, 5166, 5167)]
def es_CM_3 : List (Nat × Nat × Nat × Nat) := [(190, 1009, 5170, 5171), (191, 1009, 5175, 73), (192, 1009, 5178, 5179), (193, 1009, 5182, 5183), (194, 1009, 5187, 74), (195, 1009, 5191, 75), (196, 1009, 5195, 76), (197, 1009, 5198, 0), (198, 1009, 5202, 0), (199, 1009, 5206, 0), (200, 1009, 5210, 77), (201, 1009, 5214, 78), (202, 1009, 5217, 0), (203, 1009, 5220, 0), (204, 1009, 5223, 0), (205, 1009, 5226, 0), (206, 1009, 5230, 79), (207, 1009, 5233, 0), (208, 1009, 5236, 0), (209, 1009, 6000, 80), (210, 1009, 6004, 81), (211, 1009, 6008, 82), (212, 1009, 6012, 83), (213, 1009, 6016, 84), (214, 1009, 6020, 85), (215, 1009, 6024, 86), (216, 1009, 6028, 87), (217, 1009, 6032, 88), (218, 1009, 6036, 89), (219, 1009, 6039, 0), (220, 1009, 6043, 90), (221, 1009, 6047, 91), (222, 1009, 6051, 92), (223, 1009, 6055, 93), (224, 1009, 6059, 94), (225, 1009, 6063, 95), (226, 1009, 6067, 96), (227, 1009, 6071, 97), (228, 1009, 6075, 98), (229, 1009, 6079, 99), (230, 1009, 6082, 6083), (231, 1009, 6086, 6087), (232, 1009, 6090, 6091), (233, 1009, 6094, 6095), (234, 1009, 6099, 100), (235, 1009, 6102, 0), (236, 1009, 6106, 101), (237, 1009, 6110, 102), (238, 1009, 6114, 103), (239, 1009, 6117, 6118), (240, 1009, 6122, 104), (241, 1009, 6125, 0), (242, 1009, 6128, 6129), (243, 1009, 6133, 105), (244, 1009, 6137, 106), (245, 1009, 6140, 6141), (246, 1009, 6145, 107), (247, 1009, 6149, 108), (248, 1009, 6153, 109), (249, 1009, 6157, 110)]
def es_CM_4 : List (Nat × Nat × Nat × Nat) := [(250, 1009, 6161, 111), (251, 1009, 6165, 112), (252, 1009, 6172, 113), (253, 1009, 6176, 114), (254, 1009, 6180, 115), (255, 1009, 6184, 116), (256, 1009, 6188, 117), (257, 1009, 6191, 0), (258, 1009, 6194, 0), (259, 1009, 6197, 0), (260, 1009, 6201, 0), (261, 1009, 6204, 0), (262, 1009, 6209, 0), (263, 1009, 6212, 0), (264, 1009, 6216, 118), (265, 1009, 6220, 119), (266, 1009, 6223, 6224), (267, 1009, 6228, 120), (268, 1009, 6236, 6237), (269, 1009, 7001, 121), (270, 1009, 7004, 7005), (271, 1009, 7008, 7009), (272, 1009, 7012, 7013), (273, 1009, 7016, 7017), (274, 1009, 7020, 7021), (275, 1009, 7024, 7025), (276, 1009, 7029, 122), (277, 1009, 7032, 7033), (278, 1009, 7037, 123), (279, 1009, 7040, 7041), (280, 1009, 7045, 124), (281, 1009, 7048, 7049), (282, 1009, 7053, 125), (283, 1009, 7057, 126), (284, 1009, 7060, 7061), (285, 1009, 7064, 7065), (286, 1009, 7068, 0), (287, 1009, 7071, 7072), (288, 1009, 7075, 7076), (289, 1009, 7079, 0), (290, 1009, 7082, 0), (291, 1009, 7085, 0), (292, 1009, 7088, 7089), (293, 1009, 7092, 0), (294, 1009, 7095, 7096), (295, 1009, 7100, 127), (296, 1009, 7103, 0), (297, 1009, 7107, 128), (298, 1009, 7110, 0), (299, 1009, 7113, 0), (300, 1009, 7116, 7117), (301, 1009, 7120, 7121), (302, 1009, 7124, 7125), (303, 1009, 7128, 7129), (304, 1009, 7132, 7133), (305, 1009, 7136, 0), (306, 1009, 7139, 7140), (307, 1009, 7143, 7144), (308, 1009, 7147, 7148), (309, 1009, 7151, 0)]
def es_CM_5 : List (Nat × Nat × Nat × Nat) := [(310, 1009, 7155, 129), (311, 1009, 7159, 130), (312, 1009, 7162, 0), (313, 1009, 7165, 7166), (314, 1009, 7169, 7170), (315, 1009, 7173, 0), (316, 1009, 7176, 0), (317, 1009, 7179, 0), (318, 1009, 7182, 7183), (319, 1009, 7186, 0), (320, 1009, 7189, 7190), (321, 1009, 7194, 7195), (322, 1009, 7198, 7199), (323, 1009, 7203, 131), (324, 1009, 7207, 132), (325, 1009, 7211, 133), (326, 1009, 7215, 134), (327, 1009, 7219, 135), (328, 1009, 7222, 7223), (329, 1009, 7226, 7227), (330, 1009, 7230, 7231), (331, 1009, 7235, 136), (332, 1009, 7238, 7239), (333, 1009, 8002, 8003), (334, 1009, 8006, 8007), (335, 1009, 8010, 0), (336, 1009, 8013, 8014), (337, 1009, 8018, 137), (338, 1009, 8021, 8022), (339, 1009, 8026, 8027), (340, 1009, 8030, 8031), (341, 1009, 8034, 8035), (342, 1009, 8038, 8039), (343, 1009, 8042, 8043)]
def es_CM : List (Nat × Nat × Nat × Nat) := es_CM_0 ++ (es_CM_1 ++ (es_CM_2 ++ (es_CM_3 ++ (es_CM_4 ++ (es_CM_5)))))
/-- the one text constant: own, place, the text, where the word stands -/
def es_str : Nat × Nat × String × Nat := (4, 88, "pulls learns wobble lose seek shake write day by curve learnt if then else end not and or clock sector speed error target settled off ", 2123)
def es_sl : List Nat := [134]
def es_sb : List (List Int32) := [[112, 117, 108, 108, 115, 32, 108, 101, 97, 114, 110, 115, 32, 119, 111, 98, 98, 108, 101, 32, 108, 111, 115, 101, 32, 115, 101, 101, 107, 32, 115, 104, 97, 107, 101, 32, 119, 114, 105, 116, 101, 32, 100, 97, 121, 32, 98, 121, 32, 99, 117, 114, 118, 101, 32, 108, 101, 97, 114, 110, 116, 32, 105, 102, 32, 116, 104, 101, 110, 32, 101, 108, 115, 101, 32, 101, 110, 100, 32, 110, 111, 116, 32, 97, 110, 100, 32, 111, 114, 32, 99, 108, 111, 99, 107, 32, 115, 101, 99, 116, 111, 114, 32, 115, 112, 101, 101, 100, 32, 101, 114, 114, 111, 114, 32, 116, 97, 114, 103, 101, 116, 32, 115, 101, 116, 116, 108, 101, 100, 32, 111, 102, 102, 32]]
def es_shL : List (Nat × Nat) := [(10, 0), (11, 0), (12, 0), (0, 8), (0, 75), (16, 0), (3, 30), (12, 0), (0, 8), (0, 75), (12, 0), (0, 8), (0, 75), (12, 0), (0, 8), (0, 75), (12, 0), (0, 8), (0, 75), (12, 0), (0, 8), (0, 75), (12, 0), (0, 8), (0, 75), (12, 0), (0, 8), (0, 75), (12, 0), (0, 8), (0, 75), (12, 0), (0, 8), (0, 75), (12, 0), (0, 8), (0, 75), (12, 0), (0, 8), (0, 75), (12, 0), (0, 8), (0, 75), (12, 0), (0, 8), (0, 75), (12, 0), (0, 8), (0, 75), (12, 0), (0, 8), (0, 75), (12, 0), (0, 8), (0, 75), (12, 0), (0, 8), (0, 75), (12, 0), (0, 8), (0, 75), (12, 0), (0, 8), (0, 75), (12, 0), (0, 8), (0, 75), (12, 0), (0, 8), (0, 75), (12, 0), (0, 8), (0, 75), (12, 0), (0, 8), (0, 75), (12, 0), (0, 8), (0, 75), (12, 0), (0, 8), (0, 75), (12, 0), (0, 8), (0, 75), (12, 0), (0, 8), (0, 75), (12, 0), (0, 8), (0, 75), (12, 0), (0, 8), (0, 75), (12, 0), (0, 8), (0, 75), (0, 8), (0, 6), (0, 8), (0, 8), (11, 0), (12, 0), (0, 8), (0, 75), (16, 0), (3, 30), (12, 0), (0, 8), (0, 75), (12, 0), (0, 8), (0, 75), (12, 0), (0, 8), (0, 75), (12, 0), (0, 8), (0, 75), (12, 0), (0, 8), (0, 75), (12, 0), (0, 8), (0, 75), (12, 0), (0, 8), (0, 75), (12, 0), (0, 8), (0, 75), (12, 0), (0, 8), (0, 75), (12, 0), (0, 8), (0, 75), (12, 0), (0, 8), (0, 75), (12, 0), (0, 8), (0, 75), (12, 0), (0, 8), (0, 75), (12, 0), (0, 8), (0, 75), (12, 0), (0, 8), (0, 75), (12, 0), (0, 8), (0, 75), (12, 0), (0, 8), (0, 75), (12, 0), (0, 8), (0, 75), (12, 0), (0, 8), (0, 75), (12, 0), (0, 8), (0, 75), (12, 0), (0, 8), (0, 75), (12, 0), (0, 8), (0, 75), (12, 0), (0, 8), (0, 75), (12, 0), (0, 8), (0, 75), (12, 0), (0, 8), (0, 75), (12, 0), (0, 8), (0, 75), (12, 0), (0, 8), (0, 75), (12, 0), (0, 8), (0, 75), (12, 0), (0, 8), (0, 75), (12, 0), (0, 8), (0, 75), (0, 8), (0, 6), (0, 8), (0, 8), (4, 4), (17, 0), (0, 24), (0, 24), (0, 24), (0, 300), (17, 0), (0, 24), (0, 24), (0, 24), (0, 300), (17, 0), (0, 24), (0, 24), (0, 24), (0, 300), (17, 0), (0, 24), (0, 24), (0, 24), (0, 300), (12, 0), (0, 8), (0, 75), (14, 0), (0, 301), (0, 301), (0, 301), (13, 0), (0, 64), (15, 0), (0, 6), (0, 6), (0, 610), (0, 300), (18, 0), (0, 1369), (0, 1369), (0, 2724), (0, 300), (0, 160), (0, 7), (2, 330), (1, 330), (0, 18), (1, 37210), (0, 6), (0, 6)]
/-- the shape of a cell: (k, n) an array of kind k (0 int, 1 boolean, 2 long, 3 Head, 4 Text) of n; (10 + c, _) an object of class c; (8, _) the script; (9, _) nothing -/
def es_sh (h : Nat) : Nat × Nat := if h = 250 then (8, 0) else es_shL.getD h (9, 0)
def es_rfL : List (List (Nat × Nat)) := [[(0, 1), (1, 101), (2, 201), (3, 222), (4, 225), (5, 229), (6, 231), (7, 234), (8, 235)], [(0, 2), (1, 5), (2, 97), (6, 98), (8, 99), (9, 100)], [(10, 3), (11, 4)], [], [], [(0, 6)], [(0, 7), (1, 10), (2, 13), (3, 16), (4, 19), (5, 22), (6, 25), (7, 28), (8, 31), (9, 34), (10, 37), (11, 40), (12, 43), (13, 46), (14, 49), (15, 52), (16, 55), (17, 58), (18, 61), (19, 64), (20, 67), (21, 70), (22, 73), (23, 76), (24, 79), (25, 82), (26, 85), (27, 88), (28, 91), (29, 94)], [(10, 8), (11, 9)], [], [], [(10, 11), (11, 12)], [], [], [(10, 14), (11, 15)], [], [], [(10, 17), (11, 18)], [], [], [(10, 20), (11, 21)], [], [], [(10, 23), (11, 24)], [], [], [(10, 26), (11, 27)], [], [], [(10, 29), (11, 30)], [], [], [(10, 32), (11, 33)], [], [], [(10, 35), (11, 36)], [], [], [(10, 38), (11, 39)], [], [], [(10, 41), (11, 42)], [], [], [(10, 44), (11, 45)], [], [], [(10, 47), (11, 48)], [], [], [(10, 50), (11, 51)], [], [], [(10, 53), (11, 54)], [], [], [(10, 56), (11, 57)], [], [], [(10, 59), (11, 60)], [], [], [(10, 62), (11, 63)], [], [], [(10, 65), (11, 66)], [], [], [(10, 68), (11, 69)], [], [], [(10, 71), (11, 72)], [], [], [(10, 74), (11, 75)], [], [], [(10, 77), (11, 78)], [], [], [(10, 80), (11, 81)], [], [], [(10, 83), (11, 84)], [], [], [(10, 86), (11, 87)], [], [], [(10, 89), (11, 90)], [], [], [(10, 92), (11, 93)], [], [], [(10, 95), (11, 96)], [], [], [], [], [], [], [(0, 102), (1, 105), (2, 197), (6, 198), (8, 199), (9, 200)], [(10, 103), (11, 104)], [], [], [(0, 106)], [(0, 107), (1, 110), (2, 113), (3, 116), (4, 119), (5, 122), (6, 125), (7, 128), (8, 131), (9, 134), (10, 137), (11, 140), (12, 143), (13, 146), (14, 149), (15, 152), (16, 155), (17, 158), (18, 161), (19, 164), (20, 167), (21, 170), (22, 173), (23, 176), (24, 179), (25, 182), (26, 185), (27, 188), (28, 191), (29, 194)], [(10, 108), (11, 109)], [], [], [(10, 111), (11, 112)], [], [], [(10, 114), (11, 115)], [], [], [(10, 117), (11, 118)], [], [], [(10, 120), (11, 121)], [], [], [(10, 123), (11, 124)], [], [], [(10, 126), (11, 127)], [], [], [(10, 129), (11, 130)], [], [], [(10, 132), (11, 133)], [], [], [(10, 135), (11, 136)], [], [], [(10, 138), (11, 139)], [], [], [(10, 141), (11, 142)], [], [], [(10, 144), (11, 145)], [], [], [(10, 147), (11, 148)], [], [], [(10, 150), (11, 151)], [], [], [(10, 153), (11, 154)], [], [], [(10, 156), (11, 157)], [], [], [(10, 159), (11, 160)], [], [], [(10, 162), (11, 163)], [], [], [(10, 165), (11, 166)], [], [], [(10, 168), (11, 169)], [], [], [(10, 171), (11, 172)], [], [], [(10, 174), (11, 175)], [], [], [(10, 177), (11, 178)], [], [], [(10, 180), (11, 181)], [], [], [(10, 183), (11, 184)], [], [], [(10, 186), (11, 187)], [], [], [(10, 189), (11, 190)], [], [], [(10, 192), (11, 193)], [], [], [(10, 195), (11, 196)], [], [], [], [], [], [], [(0, 202), (1, 207), (2, 212), (3, 217)], [(0, 203), (1, 204), (2, 205), (4, 206)], [], [], [], [], [(0, 208), (1, 209), (2, 210), (4, 211)], [], [], [], [], [(0, 213), (1, 214), (2, 215), (4, 216)], [], [], [], [], [(0, 218), (1, 219), (2, 220), (4, 221)], [], [], [], [], [(10, 223), (11, 224)], [], [], [(0, 226), (1, 227), (2, 228)], [], [], [], [(0, 230)], [], [(0, 232), (1, 233)], [], [], [], [], [(0, 237), (1, 238), (2, 239), (3, 240), (15, 241), (20, 242), (21, 243), (22, 244), (24, 245), (25, 246), (27, 247), (28, 248)], [], [], [], [], [], [], [], [], [], [], [], []]
def es_rf (h k : Nat) : Option Nat := ((es_rfL.getD h []).find? (fun q => q.1 == k)).map (fun q => q.2)
def es_NC : Nat := 249
/-- the tables by their chunks: a place is 1000 * chunk + the place in it -/
def es_tb (c : Nat) : List Cond := match c with
  | 1 => tables_1_1
  | 2 => tables_1_2
  | 3 => tables_1_3
  | 4 => tables_1_4
  | 5 => tables_1_5
  | 6 => tables_1_6
  | 7 => tables_1_7
  | 8 => tables_1_8
  | _ => []
theorem es_tb_mem {c : Nat} {w : Cond} (h : w ∈ es_tb c) : w ∈ tables_1 := by
  unfold es_tb at h
  unfold tables_1
  split at h
  · exact List.mem_append_left _ h
  · exact List.mem_append_right _ (List.mem_append_left _ h)
  · exact List.mem_append_right _ (List.mem_append_right _ (List.mem_append_left _ h))
  · exact List.mem_append_right _ (List.mem_append_right _ (List.mem_append_right _ (List.mem_append_left _ h)))
  · exact List.mem_append_right _ (List.mem_append_right _ (List.mem_append_right _ (List.mem_append_right _ (List.mem_append_left _ h))))
  · exact List.mem_append_right _ (List.mem_append_right _ (List.mem_append_right _ (List.mem_append_right _ (List.mem_append_right _ (List.mem_append_left _ h)))))
  · exact List.mem_append_right _ (List.mem_append_right _ (List.mem_append_right _ (List.mem_append_right _ (List.mem_append_right _ (List.mem_append_right _ (List.mem_append_left _ h))))))
  · exact List.mem_append_right _ (List.mem_append_right _ (List.mem_append_right _ (List.mem_append_right _ (List.mem_append_right _ (List.mem_append_right _ (List.mem_append_right _ (h)))))))
  · cases h
def es_at (pos : Nat) (w : Cond) : Bool := match (es_tb (pos / 1000))[pos % 1000]? with
  | some v => decide (v = w)
  | none => false
theorem es_at_mem {pos : Nat} {w : Cond} (h : es_at pos w = true) : w ∈ tables_1 := by
  unfold es_at at h
  split at h
  · rename_i v hv
    rw [← of_decide_eq_true h]
    exact es_tb_mem (List.mem_of_getElem? hv)
  · cases h
def es_big : List Cond := lw_tbl.filter goodWord
theorem es_big_of {w : Cond} (h : w ∈ lw_tbl) (hg : goodWord w = true) : w ∈ es_big := List.mem_filter.mpr ⟨h, hg⟩
theorem es_big_t {w : Cond} (h : w ∈ tables_1) (hg : goodWord w = true) : w ∈ es_big := es_big_of (List.mem_append_right _ h) hg
theorem es_big_good : GoodIn es_big es_big := fun w hw => ⟨hw, good_of_word (List.mem_filter.mp hw).2⟩
def es_flw (q : Nat × Nat × (Nat × Nat × Nat) × Bool × Nat) : Cond :=
  let T := (es_cl.getD q.2.2.1.1 ("", es_T0, 0)).2.1
  let f := T q.2.2.1.2.1
  if q.2.2.2.1 then .fieldLinkNest (es_own q.1) q.2.1 f.1 f.2.1 f.2.2.1 "HeadServo" else .fieldLink (es_own q.1) q.2.1 f.1 f.2.1 f.2.2.1
set_option maxRecDepth 100000 in
theorem es_FL_ok : es_FL.all (fun q => es_at q.2.2.2.2 (es_flw q) && decide (es_fty q.2.2.1.1 q.2.2.1.2.1 = q.2.2.1.2.2) && decide (q.2.2.1.2.1 < es_nf q.2.2.1.1)) = true := by decide +kernel
def es_mlw (q : Nat × Nat × Nat × Bool × Nat) : Cond :=
  if q.2.2.2.1 then .methodLinkNest (es_own q.1) q.2.1 (es_m q.2.2.1).1 "HeadServo" else .methodLink (es_own q.1) q.2.1 (es_m q.2.2.1).1
set_option maxRecDepth 100000 in
theorem es_ML_ok_0 : es_ML_0.all (fun q => es_at q.2.2.2.2 (es_mlw q)) = true := by decide +kernel
set_option maxRecDepth 100000 in
theorem es_ML_ok_1 : es_ML_1.all (fun q => es_at q.2.2.2.2 (es_mlw q)) = true := by decide +kernel
set_option maxRecDepth 100000 in
theorem es_ML_ok_2 : es_ML_2.all (fun q => es_at q.2.2.2.2 (es_mlw q)) = true := by decide +kernel
set_option maxRecDepth 100000 in
theorem es_ML_ok_3 : es_ML_3.all (fun q => es_at q.2.2.2.2 (es_mlw q)) = true := by decide +kernel
set_option maxRecDepth 100000 in
theorem es_ML_ok_4 : es_ML_4.all (fun q => es_at q.2.2.2.2 (es_mlw q)) = true := by decide +kernel
set_option maxRecDepth 100000 in
theorem es_ML_ok_5 : es_ML_5.all (fun q => es_at q.2.2.2.2 (es_mlw q)) = true := by decide +kernel
set_option maxRecDepth 100000 in
theorem es_ML_ok_6 : es_ML_6.all (fun q => es_at q.2.2.2.2 (es_mlw q)) = true := by decide +kernel
theorem es_ML_ok : es_ML.all (fun q => es_at q.2.2.2.2 (es_mlw q)) = true := by
  unfold es_ML
  simp only [List.all_append, Bool.and_eq_true]
  exact ⟨es_ML_ok_0, ⟨es_ML_ok_1, ⟨es_ML_ok_2, ⟨es_ML_ok_3, ⟨es_ML_ok_4, ⟨es_ML_ok_5, es_ML_ok_6⟩⟩⟩⟩⟩⟩
set_option maxRecDepth 100000 in
theorem es_KI_ok : es_KI.all (fun q => es_at q.2.2.2 (.constant (es_own q.1) q.2.1 q.2.2.1)) = true := by decide +kernel
set_option maxRecDepth 100000 in
theorem es_AC_ok : es_AC.all (fun q => es_at q.2.2 (.methodLink (es_own q.1) q.2.1 arraycopyName)) = true := by decide +kernel
set_option maxRecDepth 100000 in
theorem es_KL_ok : es_KL.all (fun q => es_at q.2.2.2 (.constantLong (es_own q.1) q.2.1 q.2.2.1)) = true := by decide +kernel
/-- the bytes of the method whose code word stands at a place -/
def es_bytes (pos : Nat) : ByteArray := match (es_tb (pos / 1000))[pos % 1000]? with
  | some (.code _ b _ _) => b
  | _ => ByteArray.empty
def es_isCode (a : es_Mt) : Bool := match (es_tb (a.2.2.2.2 / 1000))[a.2.2.2.2 % 1000]? with
  | some (.code x _ n r) => decide (x = a.1) && decide (n = a.2.1) && decide (r = a.2.2.1)
  | _ => false
set_option maxRecDepth 100000 in
theorem es_M_ok_0 : es_M_0.all (fun a => es_isCode a && (if a.2.2.2.1 then true else true)) = true := by decide +kernel
set_option maxRecDepth 100000 in
theorem es_M_ok_1 : es_M_1.all (fun a => es_isCode a && (if a.2.2.2.1 then true else true)) = true := by decide +kernel
set_option maxRecDepth 100000 in
theorem es_M_ok_2 : es_M_2.all (fun a => es_isCode a && (if a.2.2.2.1 then true else true)) = true := by decide +kernel
set_option maxRecDepth 100000 in
theorem es_M_ok_3 : es_M_3.all (fun a => es_isCode a && (if a.2.2.2.1 then true else true)) = true := by decide +kernel
set_option maxRecDepth 100000 in
theorem es_M_ok_4 : es_M_4.all (fun a => es_isCode a && (if a.2.2.2.1 then true else true)) = true := by decide +kernel
set_option maxRecDepth 100000 in
theorem es_M_ok_5 : es_M_5.all (fun a => es_isCode a && (if a.2.2.2.1 then true else true)) = true := by decide +kernel
theorem es_M_ok : es_M.all (fun a => es_isCode a && (if a.2.2.2.1 then true else true)) = true := by
  unfold es_M
  simp only [List.all_append, Bool.and_eq_true]
  exact ⟨es_M_ok_0, ⟨es_M_ok_1, ⟨es_M_ok_2, ⟨es_M_ok_3, ⟨es_M_ok_4, es_M_ok_5⟩⟩⟩⟩⟩
theorem es_code {a : es_Mt} (h : es_isCode a = true) : Cond.code a.1 (es_bytes a.2.2.2.2) a.2.1 a.2.2.1 ∈ tables_1 := by
  unfold es_isCode at h
  unfold es_bytes
  split at h
  · rename_i x b n r hv
    simp only [Bool.and_eq_true, decide_eq_true_eq] at h
    obtain ⟨⟨rfl, rfl⟩, rfl⟩ := h
    exact es_tb_mem (List.mem_of_getElem? hv)
  · cases h
/-- the word that a method is selected stands, among the private ones (a place under 1000) or in the tables -/
def es_sel (pos : Nat) (y : MethodName) : Bool := if pos < 1000 then (match lw_privs[pos]? with
  | some q => decide (q.1 = y)
  | none => false) else es_at pos (.selects y.cls y y)
theorem es_sel_mem {pos : Nat} {y : MethodName} (h : es_sel pos y = true) : Cond.selects y.cls y y ∈ lw_tbl := by
  unfold es_sel at h
  split at h
  · split at h
    · rename_i q hq
      rw [← of_decide_eq_true h]
      exact List.mem_append_left _ (List.mem_map.mpr ⟨q, List.mem_of_getElem? hq, rfl⟩)
    · cases h
  · exact List.mem_append_right _ (es_at_mem h)
def es_cmw (q : Nat × Nat × Nat × Nat) : Bool :=
  let y := (es_m q.1).1
  es_at q.2.1 (.initialized y.cls) && (if (es_m q.1).2.2.2.1 then es_at q.2.2.1 (.static y) else es_at q.2.2.1 (.instanceMethod y) && es_sel q.2.2.2 y) && decide ((es_m q.1).2.1 ≤ 40) && decide (y.cls ≠ "java/lang/invoke/MethodHandle") && decide (y.cls ≠ "java/lang/invoke/VarHandle")
set_option maxRecDepth 100000 in
theorem es_CM_ok_0 : es_CM_0.all (es_cmw) = true := by decide +kernel
set_option maxRecDepth 100000 in
theorem es_CM_ok_1 : es_CM_1.all (es_cmw) = true := by decide +kernel
set_option maxRecDepth 100000 in
theorem es_CM_ok_2 : es_CM_2.all (es_cmw) = true := by decide +kernel
set_option maxRecDepth 100000 in
theorem es_CM_ok_3 : es_CM_3.all (es_cmw) = true := by decide +kernel
set_option maxRecDepth 100000 in
theorem es_CM_ok_4 : es_CM_4.all (es_cmw) = true := by decide +kernel
set_option maxRecDepth 100000 in
theorem es_CM_ok_5 : es_CM_5.all (es_cmw) = true := by decide +kernel
theorem es_CM_ok : es_CM.all (es_cmw) = true := by
  unfold es_CM
  simp only [List.all_append, Bool.and_eq_true]
  exact ⟨es_CM_ok_0, ⟨es_CM_ok_1, ⟨es_CM_ok_2, ⟨es_CM_ok_3, ⟨es_CM_ok_4, es_CM_ok_5⟩⟩⟩⟩⟩

