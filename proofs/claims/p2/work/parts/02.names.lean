-- names: classes, fields, methods
def L_MM : List (String × String × String × Bool) := [("MacroMill", "tape", "[B", true), ("MacroMill", "tapeSize", "I", false), ("MacroMill", "canBeCut", "Z", false), ("MacroMill", "files", "LMacroMill$Files;", true), ("MacroMill", "outcome", "LMacroMill$Outcome;", true), ("MacroMill", "first", "LMacroMill$First;", true), ("MacroMill", "second", "LMacroMill$Second;", true)]
def F_MM : u_T := fun k => L_MM.getD k ("", "", "", false)
def LT_MM : List FieldType := [.array .byte, .int, .boolean, .object "MacroMill$Files", .object "MacroMill$Outcome", .object "MacroMill$First", .object "MacroMill$Second"]
def t_MM : Nat → FieldType := fun k => LT_MM.getD k .int
set_option maxRecDepth 100000 in
theorem n_MM : ∀ a, a < 7 → ∀ b, b < 7 → a ≠ b → (F_MM a).2.1 ≠ (F_MM b).2.1 := by decide +kernel
set_option maxRecDepth 100000 in
theorem t_MM_ok : ∀ k, k < 7 → parseFieldDescriptor (F_MM k).2.2.1 = some (t_MM k) := by decide +kernel
set_option maxRecDepth 100000 in
theorem z_MM : ∀ j, j < 7 → defaultValue (t_MM j) = vp_V [.null, .int 0, .int 0, .null, .null, .null, .null] j := by decide +kernel
def L_Files : List (String × String × String × Bool) := [("MacroMill$Files", "bytes", "[B", true), ("MacroMill$Files", "titles", "[B", true), ("MacroMill$Files", "titleLength", "[I", true), ("MacroMill$Files", "start", "[I", true), ("MacroMill$Files", "count", "I", false)]
def F_Files : u_T := fun k => L_Files.getD k ("", "", "", false)
def LT_Files : List FieldType := [.array .byte, .array .byte, .array .int, .array .int, .int]
def t_Files : Nat → FieldType := fun k => LT_Files.getD k .int
set_option maxRecDepth 100000 in
theorem n_Files : ∀ a, a < 5 → ∀ b, b < 5 → a ≠ b → (F_Files a).2.1 ≠ (F_Files b).2.1 := by decide +kernel
set_option maxRecDepth 100000 in
theorem t_Files_ok : ∀ k, k < 5 → parseFieldDescriptor (F_Files k).2.2.1 = some (t_Files k) := by decide +kernel
set_option maxRecDepth 100000 in
theorem z_Files : ∀ j, j < 5 → defaultValue (t_Files j) = vp_V [.null, .null, .null, .null, .int 0] j := by decide +kernel
def L_Outcome : List (String × String × String × Bool) := [("MacroMill$Outcome", "out", "[B", true), ("MacroMill$Outcome", "size", "I", false), ("MacroMill$Outcome", "error", "I", false), ("MacroMill$Outcome", "file", "I", false), ("MacroMill$Outcome", "line", "I", false), ("MacroMill$Outcome", "fileAtHand", "I", false), ("MacroMill$Outcome", "taken", "I", false), ("MacroMill$Outcome", "putOut", "I", false), ("MacroMill$Outcome", "substituted", "I", false), ("MacroMill$Outcome", "astray", "I", false)]
def F_Outcome : u_T := fun k => L_Outcome.getD k ("", "", "", false)
def LT_Outcome : List FieldType := [.array .byte, .int, .int, .int, .int, .int, .int, .int, .int, .int]
def t_Outcome : Nat → FieldType := fun k => LT_Outcome.getD k .int
set_option maxRecDepth 100000 in
theorem n_Outcome : ∀ a, a < 10 → ∀ b, b < 10 → a ≠ b → (F_Outcome a).2.1 ≠ (F_Outcome b).2.1 := by decide +kernel
set_option maxRecDepth 100000 in
theorem t_Outcome_ok : ∀ k, k < 10 → parseFieldDescriptor (F_Outcome k).2.2.1 = some (t_Outcome k) := by decide +kernel
set_option maxRecDepth 100000 in
theorem z_Outcome : ∀ j, j < 10 → defaultValue (t_Outcome j) = vp_V [.null, .int 0, .int 0, .int 0, .int 0, .int 0, .int 0, .int 0, .int 0, .int 0] j := by decide +kernel
def L_Reckoner : List (String × String × String × Bool) := [("MacroMill$Reckoner", "values", "[J", true), ("MacroMill$Reckoner", "unsigned", "[Z", true), ("MacroMill$Reckoner", "valueCount", "I", false), ("MacroMill$Reckoner", "signs", "[I", true), ("MacroMill$Reckoner", "ranks", "[I", true), ("MacroMill$Reckoner", "idleBefore", "[Z", true), ("MacroMill$Reckoner", "signCount", "I", false), ("MacroMill$Reckoner", "nesting", "I", false), ("MacroMill$Reckoner", "wide", "Z", false), ("MacroMill$Reckoner", "wantsValue", "Z", false), ("MacroMill$Reckoner", "idle", "Z", false), ("MacroMill$Reckoner", "malformed", "Z", false), ("MacroMill$Reckoner", "dividedByZero", "Z", false)]
def F_Reckoner : u_T := fun k => L_Reckoner.getD k ("", "", "", false)
def LT_Reckoner : List FieldType := [.array .long, .array .boolean, .int, .array .int, .array .int, .array .boolean, .int, .int, .boolean, .boolean, .boolean, .boolean, .boolean]
def t_Reckoner : Nat → FieldType := fun k => LT_Reckoner.getD k .int
set_option maxRecDepth 100000 in
theorem n_Reckoner : ∀ a, a < 13 → ∀ b, b < 13 → a ≠ b → (F_Reckoner a).2.1 ≠ (F_Reckoner b).2.1 := by decide +kernel
set_option maxRecDepth 100000 in
theorem t_Reckoner_ok : ∀ k, k < 13 → parseFieldDescriptor (F_Reckoner k).2.2.1 = some (t_Reckoner k) := by decide +kernel
set_option maxRecDepth 100000 in
theorem z_Reckoner : ∀ j, j < 13 → defaultValue (t_Reckoner j) = vp_V [.null, .null, .int 0, .null, .null, .null, .int 0, .int 0, .int 0, .int 0, .int 0, .int 0, .int 0] j := by decide +kernel
def L_First : List (String × String × String × Bool) := [("MacroMill$First", "outcome", "LMacroMill$Outcome;", true), ("MacroMill$First", "reckoner", "LMacroMill$Reckoner;", true), ("MacroMill$First", "input", "LMacroMill$Input;", true), ("MacroMill$First", "calls", "LMacroMill$Calls;", true), ("MacroMill$First", "meanings", "LMacroMill$Meanings;", true), ("MacroMill$First", "result", "[B", true), ("MacroMill$First", "resultSize", "I", false), ("MacroMill$First", "diverted", "[B", true), ("MacroMill$First", "chain", "[I", true), ("MacroMill$First", "head", "[I", true), ("MacroMill$First", "tail", "[I", true), ("MacroMill$First", "free", "I", false), ("MacroMill$First", "fresh", "I", false), ("MacroMill$First", "divertedCount", "I", false), ("MacroMill$First", "current", "I", false)]
def F_First : u_T := fun k => L_First.getD k ("", "", "", false)
def LT_First : List FieldType := [.object "MacroMill$Outcome", .object "MacroMill$Reckoner", .object "MacroMill$Input", .object "MacroMill$Calls", .object "MacroMill$Meanings", .array .byte, .int, .array .byte, .array .int, .array .int, .array .int, .int, .int, .int, .int]
def t_First : Nat → FieldType := fun k => LT_First.getD k .int
set_option maxRecDepth 100000 in
theorem n_First : ∀ a, a < 15 → ∀ b, b < 15 → a ≠ b → (F_First a).2.1 ≠ (F_First b).2.1 := by decide +kernel
set_option maxRecDepth 100000 in
theorem t_First_ok : ∀ k, k < 15 → parseFieldDescriptor (F_First k).2.2.1 = some (t_First k) := by decide +kernel
set_option maxRecDepth 100000 in
theorem z_First : ∀ j, j < 15 → defaultValue (t_First j) = vp_V [.null, .null, .null, .null, .null, .null, .int 0, .null, .null, .null, .null, .int 0, .int 0, .int 0, .int 0] j := by decide +kernel
def L_Input : List (String × String × String × Bool) := [("MacroMill$Input", "bytes", "[B", true), ("MacroMill$Input", "outcome", "LMacroMill$Outcome;", true), ("MacroMill$Input", "at", "I", false), ("MacroMill$Input", "mainAt", "I", false), ("MacroMill$Input", "line", "I", false), ("MacroMill$Input", "fuel", "I", false), ("MacroMill$Input", "quotes", "[B", true), ("MacroMill$Input", "openingLength", "I", false), ("MacroMill$Input", "closingLength", "I", false), ("MacroMill$Input", "kind", "I", false), ("MacroMill$Input", "from", "I", false), ("MacroMill$Input", "to", "I", false)]
def F_Input : u_T := fun k => L_Input.getD k ("", "", "", false)
def LT_Input : List FieldType := [.array .byte, .object "MacroMill$Outcome", .int, .int, .int, .int, .array .byte, .int, .int, .int, .int, .int]
def t_Input : Nat → FieldType := fun k => LT_Input.getD k .int
set_option maxRecDepth 100000 in
theorem n_Input : ∀ a, a < 12 → ∀ b, b < 12 → a ≠ b → (F_Input a).2.1 ≠ (F_Input b).2.1 := by decide +kernel
set_option maxRecDepth 100000 in
theorem t_Input_ok : ∀ k, k < 12 → parseFieldDescriptor (F_Input k).2.2.1 = some (t_Input k) := by decide +kernel
set_option maxRecDepth 100000 in
theorem z_Input : ∀ j, j < 12 → defaultValue (t_Input j) = vp_V [.null, .null, .int 0, .int 0, .int 0, .int 0, .null, .int 0, .int 0, .int 0, .int 0, .int 0] j := by decide +kernel
def L_Calls : List (String × String × String × Bool) := [("MacroMill$Calls", "bytes", "[B", true), ("MacroMill$Calls", "used", "I", false), ("MacroMill$Calls", "argumentAt", "[I", true), ("MacroMill$Calls", "argumentCount", "I", false), ("MacroMill$Calls", "nameAt", "[I", true), ("MacroMill$Calls", "nameLength", "[I", true), ("MacroMill$Calls", "firstArgument", "[I", true), ("MacroMill$Calls", "nesting", "[I", true), ("MacroMill$Calls", "begun", "[Z", true), ("MacroMill$Calls", "open", "I", false)]
def F_Calls : u_T := fun k => L_Calls.getD k ("", "", "", false)
def LT_Calls : List FieldType := [.array .byte, .int, .array .int, .int, .array .int, .array .int, .array .int, .array .int, .array .boolean, .int]
def t_Calls : Nat → FieldType := fun k => LT_Calls.getD k .int
set_option maxRecDepth 100000 in
theorem n_Calls : ∀ a, a < 10 → ∀ b, b < 10 → a ≠ b → (F_Calls a).2.1 ≠ (F_Calls b).2.1 := by decide +kernel
set_option maxRecDepth 100000 in
theorem t_Calls_ok : ∀ k, k < 10 → parseFieldDescriptor (F_Calls k).2.2.1 = some (t_Calls k) := by decide +kernel
set_option maxRecDepth 100000 in
theorem z_Calls : ∀ j, j < 10 → defaultValue (t_Calls j) = vp_V [.null, .int 0, .null, .int 0, .null, .null, .null, .null, .null, .int 0] j := by decide +kernel
def L_Meanings : List (String × String × String × Bool) := [("MacroMill$Meanings", "pool", "[B", true), ("MacroMill$Meanings", "poolUsed", "I", false), ("MacroMill$Meanings", "bucket", "[I", true), ("MacroMill$Meanings", "chain", "[I", true), ("MacroMill$Meanings", "free", "I", false), ("MacroMill$Meanings", "nameAt", "[I", true), ("MacroMill$Meanings", "nameLength", "[I", true), ("MacroMill$Meanings", "textLength", "[I", true), ("MacroMill$Meanings", "kind", "[I", true), ("MacroMill$Meanings", "defined", "I", false), ("MacroMill$Meanings", "definedBytes", "I", false)]
def F_Meanings : u_T := fun k => L_Meanings.getD k ("", "", "", false)
def LT_Meanings : List FieldType := [.array .byte, .int, .array .int, .array .int, .int, .array .int, .array .int, .array .int, .array .int, .int, .int]
def t_Meanings : Nat → FieldType := fun k => LT_Meanings.getD k .int
set_option maxRecDepth 100000 in
theorem n_Meanings : ∀ a, a < 11 → ∀ b, b < 11 → a ≠ b → (F_Meanings a).2.1 ≠ (F_Meanings b).2.1 := by decide +kernel
set_option maxRecDepth 100000 in
theorem t_Meanings_ok : ∀ k, k < 11 → parseFieldDescriptor (F_Meanings k).2.2.1 = some (t_Meanings k) := by decide +kernel
set_option maxRecDepth 100000 in
theorem z_Meanings : ∀ j, j < 11 → defaultValue (t_Meanings j) = vp_V [.null, .int 0, .null, .null, .int 0, .null, .null, .null, .null, .int 0, .int 0] j := by decide +kernel
def L_Second : List (String × String × String × Bool) := [("MacroMill$Second", "files", "LMacroMill$Files;", true), ("MacroMill$Second", "outcome", "LMacroMill$Outcome;", true), ("MacroMill$Second", "reckoner", "LMacroMill$Reckoner;", true), ("MacroMill$Second", "tokens", "LMacroMill$Tokens;", true), ("MacroMill$Second", "macros", "LMacroMill$Macros;", true), ("MacroMill$Second", "lines", "LMacroMill$Lines;", true), ("MacroMill$Second", "replacer", "LMacroMill$Replacer;", true), ("MacroMill$Second", "conditionLine", "[I", true), ("MacroMill$Second", "condition", "[I", true), ("MacroMill$Second", "conditions", "I", false), ("MacroMill$Second", "conditionsBefore", "[I", true), ("MacroMill$Second", "depthLimit", "I", false), ("MacroMill$Second", "from", "I", false), ("MacroMill$Second", "to", "I", false), ("MacroMill$Second", "line", "I", false), ("MacroMill$Second", "waiting", "I", false), ("MacroMill$Second", "waitingFirst", "I", false), ("MacroMill$Second", "parameterTokens", "[I", true), ("MacroMill$Second", "parameterCount", "I", false), ("MacroMill$Second", "takesMore", "Z", false), ("MacroMill$Second", "title", "[B", true), ("MacroMill$Second", "titleLength", "I", false)]
def F_Second : u_T := fun k => L_Second.getD k ("", "", "", false)
def LT_Second : List FieldType := [.object "MacroMill$Files", .object "MacroMill$Outcome", .object "MacroMill$Reckoner", .object "MacroMill$Tokens", .object "MacroMill$Macros", .object "MacroMill$Lines", .object "MacroMill$Replacer", .array .int, .array .int, .int, .array .int, .int, .int, .int, .int, .int, .int, .array .int, .int, .boolean, .array .byte, .int]
def t_Second : Nat → FieldType := fun k => LT_Second.getD k .int
set_option maxRecDepth 100000 in
theorem n_Second : ∀ a, a < 22 → ∀ b, b < 22 → a ≠ b → (F_Second a).2.1 ≠ (F_Second b).2.1 := by decide +kernel
set_option maxRecDepth 100000 in
theorem t_Second_ok : ∀ k, k < 22 → parseFieldDescriptor (F_Second k).2.2.1 = some (t_Second k) := by decide +kernel
set_option maxRecDepth 100000 in
theorem z_Second : ∀ j, j < 22 → defaultValue (t_Second j) = vp_V [.null, .null, .null, .null, .null, .null, .null, .null, .null, .int 0, .null, .int 0, .int 0, .int 0, .int 0, .int 0, .int 0, .null, .int 0, .int 0, .null, .int 0] j := by decide +kernel
def L_Tokens : List (String × String × String × Bool) := [("MacroMill$Tokens", "bytes", "[B", true), ("MacroMill$Tokens", "lines", "[C", true), ("MacroMill$Tokens", "made", "I", false), ("MacroMill$Tokens", "overfull", "Z", false), ("MacroMill$Tokens", "textEnd", "I", false), ("MacroMill$Tokens", "spelling", "[J", true), ("MacroMill$Tokens", "look", "[I", true), ("MacroMill$Tokens", "next", "[I", true), ("MacroMill$Tokens", "used", "I", false), ("MacroMill$Tokens", "scanned", "I", false)]
def F_Tokens : u_T := fun k => L_Tokens.getD k ("", "", "", false)
def LT_Tokens : List FieldType := [.array .byte, .array .char, .int, .boolean, .int, .array .long, .array .int, .array .int, .int, .int]
def t_Tokens : Nat → FieldType := fun k => LT_Tokens.getD k .int
set_option maxRecDepth 100000 in
theorem n_Tokens : ∀ a, a < 10 → ∀ b, b < 10 → a ≠ b → (F_Tokens a).2.1 ≠ (F_Tokens b).2.1 := by decide +kernel
set_option maxRecDepth 100000 in
theorem t_Tokens_ok : ∀ k, k < 10 → parseFieldDescriptor (F_Tokens k).2.2.1 = some (t_Tokens k) := by decide +kernel
set_option maxRecDepth 100000 in
theorem z_Tokens : ∀ j, j < 10 → defaultValue (t_Tokens j) = vp_V [.null, .null, .int 0, .int 0, .int 0, .null, .null, .null, .int 0, .int 0] j := by decide +kernel
def L_Macros : List (String × String × String × Bool) := [("MacroMill$Macros", "tokens", "LMacroMill$Tokens;", true), ("MacroMill$Macros", "name", "[J", true), ("MacroMill$Macros", "bucket", "[I", true), ("MacroMill$Macros", "chain", "[I", true), ("MacroMill$Macros", "names", "I", false), ("MacroMill$Macros", "there", "I", false), ("MacroMill$Macros", "parameters", "[I", true), ("MacroMill$Macros", "takesMore", "[Z", true), ("MacroMill$Macros", "start", "[I", true), ("MacroMill$Macros", "end", "[I", true), ("MacroMill$Macros", "spelling", "[J", true), ("MacroMill$Macros", "look", "[I", true), ("MacroMill$Macros", "used", "I", false), ("MacroMill$Macros", "bits", "[J", true), ("MacroMill$Macros", "setBucket", "[I", true), ("MacroMill$Macros", "setChain", "[I", true), ("MacroMill$Macros", "sets", "I", false), ("MacroMill$Macros", "common", "[J", true), ("MacroMill$Macros", "wanted", "[J", true)]
def F_Macros : u_T := fun k => L_Macros.getD k ("", "", "", false)
def LT_Macros : List FieldType := [.object "MacroMill$Tokens", .array .long, .array .int, .array .int, .int, .int, .array .int, .array .boolean, .array .int, .array .int, .array .long, .array .int, .int, .array .long, .array .int, .array .int, .int, .array .long, .array .long]
def t_Macros : Nat → FieldType := fun k => LT_Macros.getD k .int
set_option maxRecDepth 100000 in
theorem n_Macros : ∀ a, a < 19 → ∀ b, b < 19 → a ≠ b → (F_Macros a).2.1 ≠ (F_Macros b).2.1 := by decide +kernel
set_option maxRecDepth 100000 in
theorem t_Macros_ok : ∀ k, k < 19 → parseFieldDescriptor (F_Macros k).2.2.1 = some (t_Macros k) := by decide +kernel
set_option maxRecDepth 100000 in
theorem z_Macros : ∀ j, j < 19 → defaultValue (t_Macros j) = vp_V [.null, .null, .null, .null, .int 0, .int 0, .null, .null, .null, .null, .null, .null, .int 0, .null, .null, .null, .int 0, .null, .null] j := by decide +kernel
def L_Lines : List (String × String × String × Bool) := [("MacroMill$Lines", "files", "LMacroMill$Files;", true), ("MacroMill$Lines", "tokens", "LMacroMill$Tokens;", true), ("MacroMill$Lines", "outcome", "LMacroMill$Outcome;", true), ("MacroMill$Lines", "textFrom", "[I", true), ("MacroMill$Lines", "textTo", "[I", true), ("MacroMill$Lines", "rawLength", "[I", true), ("MacroMill$Lines", "file", "[I", true), ("MacroMill$Lines", "at", "[I", true), ("MacroMill$Lines", "shift", "[I", true), ("MacroMill$Lines", "titles", "[B", true), ("MacroMill$Lines", "titleLength", "[I", true), ("MacroMill$Lines", "depth", "I", false), ("MacroMill$Lines", "begun", "I", false), ("MacroMill$Lines", "begunBytes", "I", false), ("MacroMill$Lines", "lines", "I", false), ("MacroMill$Lines", "loneQuotes", "I", false), ("MacroMill$Lines", "row", "I", false), ("MacroMill$Lines", "count", "I", false), ("MacroMill$Lines", "lineBehind", "I", false)]
def F_Lines : u_T := fun k => L_Lines.getD k ("", "", "", false)
def LT_Lines : List FieldType := [.object "MacroMill$Files", .object "MacroMill$Tokens", .object "MacroMill$Outcome", .array .int, .array .int, .array .int, .array .int, .array .int, .array .int, .array .byte, .array .int, .int, .int, .int, .int, .int, .int, .int, .int]
def t_Lines : Nat → FieldType := fun k => LT_Lines.getD k .int
set_option maxRecDepth 100000 in
theorem n_Lines : ∀ a, a < 19 → ∀ b, b < 19 → a ≠ b → (F_Lines a).2.1 ≠ (F_Lines b).2.1 := by decide +kernel
set_option maxRecDepth 100000 in
theorem t_Lines_ok : ∀ k, k < 19 → parseFieldDescriptor (F_Lines k).2.2.1 = some (t_Lines k) := by decide +kernel
set_option maxRecDepth 100000 in
theorem z_Lines : ∀ j, j < 19 → defaultValue (t_Lines j) = vp_V [.null, .null, .null, .null, .null, .null, .null, .null, .null, .null, .null, .int 0, .int 0, .int 0, .int 0, .int 0, .int 0, .int 0, .int 0] j := by decide +kernel
def L_Replacer : List (String × String × String × Bool) := [("MacroMill$Replacer", "tokens", "LMacroMill$Tokens;", true), ("MacroMill$Replacer", "macros", "LMacroMill$Macros;", true), ("MacroMill$Replacer", "lines", "LMacroMill$Lines;", true), ("MacroMill$Replacer", "outcome", "LMacroMill$Outcome;", true), ("MacroMill$Replacer", "argumentFirst", "[I", true), ("MacroMill$Replacer", "argumentStop", "[I", true), ("MacroMill$Replacer", "keptFirst", "[I", true), ("MacroMill$Replacer", "keptLast", "[I", true), ("MacroMill$Replacer", "keptCount", "[I", true), ("MacroMill$Replacer", "keptSubstituted", "[I", true), ("MacroMill$Replacer", "keptMade", "[I", true), ("MacroMill$Replacer", "head", "[I", true), ("MacroMill$Replacer", "tail", "[I", true), ("MacroMill$Replacer", "count", "[I", true), ("MacroMill$Replacer", "printing", "Z", false), ("MacroMill$Replacer", "directiveLine", "I", false)]
def F_Replacer : u_T := fun k => L_Replacer.getD k ("", "", "", false)
def LT_Replacer : List FieldType := [.object "MacroMill$Tokens", .object "MacroMill$Macros", .object "MacroMill$Lines", .object "MacroMill$Outcome", .array .int, .array .int, .array .int, .array .int, .array .int, .array .int, .array .int, .array .int, .array .int, .array .int, .boolean, .int]
def t_Replacer : Nat → FieldType := fun k => LT_Replacer.getD k .int
set_option maxRecDepth 100000 in
theorem n_Replacer : ∀ a, a < 16 → ∀ b, b < 16 → a ≠ b → (F_Replacer a).2.1 ≠ (F_Replacer b).2.1 := by decide +kernel
set_option maxRecDepth 100000 in
theorem t_Replacer_ok : ∀ k, k < 16 → parseFieldDescriptor (F_Replacer k).2.2.1 = some (t_Replacer k) := by decide +kernel
set_option maxRecDepth 100000 in
theorem z_Replacer : ∀ j, j < 16 → defaultValue (t_Replacer j) = vp_V [.null, .null, .null, .null, .null, .null, .null, .null, .null, .null, .null, .null, .null, .null, .int 0, .int 0] j := by decide +kernel
def L_Mod : List (String × String × String × Bool) := [("MacroMillModel", "tape", "[B", true), ("MacroMillModel", "tapeSize", "I", false), ("MacroMillModel", "fed", "Z", false), ("MacroMillModel", "files", "I", false), ("MacroMillModel", "titles", "[B", true), ("MacroMillModel", "titleSize", "[I", true), ("MacroMillModel", "bytes", "[B", true), ("MacroMillModel", "at", "[I", true), ("MacroMillModel", "size", "[I", true), ("MacroMillModel", "allBytes", "I", false), ("MacroMillModel", "error", "I", false), ("MacroMillModel", "errorFile", "I", false), ("MacroMillModel", "errorLine", "I", false), ("MacroMillModel", "tokensRead", "I", false), ("MacroMillModel", "tokensOut", "I", false), ("MacroMillModel", "substituted", "I", false), ("MacroMillModel", "astray", "I", false), ("MacroMillModel", "out", "[B", true), ("MacroMillModel", "outSize", "I", false), ("MacroMillModel", "input", "[B", true), ("MacroMillModel", "inputAt", "I", false), ("MacroMillModel", "mainLeft", "I", false), ("MacroMillModel", "mainFile", "I", false), ("MacroMillModel", "line", "I", false), ("MacroMillModel", "fuel", "I", false), ("MacroMillModel", "open", "[I", true), ("MacroMillModel", "openSize", "I", false), ("MacroMillModel", "close", "[I", true), ("MacroMillModel", "closeSize", "I", false), ("MacroMillModel", "kind", "I", false), ("MacroMillModel", "token", "[B", true), ("MacroMillModel", "tokenSize", "I", false), ("MacroMillModel", "given", "[B", true), ("MacroMillModel", "givenSize", "I", false), ("MacroMillModel", "meanings", "I", false), ("MacroMillModel", "meaningAt", "[I", true), ("MacroMillModel", "meaningName", "[I", true), ("MacroMillModel", "meaningText", "[I", true), ("MacroMillModel", "builtIn", "[I", true), ("MacroMillModel", "texts", "[B", true), ("MacroMillModel", "textsSize", "I", false), ("MacroMillModel", "defined", "I", false), ("MacroMillModel", "definedBytes", "I", false), ("MacroMillModel", "diverted", "[B", true), ("MacroMillModel", "divertedSize", "[I", true), ("MacroMillModel", "divertedAll", "I", false), ("MacroMillModel", "current", "I", false), ("MacroMillModel", "calls", "I", false), ("MacroMillModel", "arguments", "[B", true), ("MacroMillModel", "argumentsSize", "I", false), ("MacroMillModel", "starts", "I", false), ("MacroMillModel", "start", "[I", true), ("MacroMillModel", "place", "I", false), ("MacroMillModel", "stop", "I", false), ("MacroMillModel", "wrong", "Z", false), ("MacroMillModel", "divided", "Z", false), ("MacroMillModel", "nested", "I", false), ("MacroMillModel", "waiting", "I", false), ("MacroMillModel", "waitingSign", "[I", true), ("MacroMillModel", "waitingValue", "[I", true), ("MacroMillModel", "store", "[B", true), ("MacroMillModel", "lineOf", "[I", true), ("MacroMillModel", "sourceAt", "[I", true), ("MacroMillModel", "sourceSize", "[I", true), ("MacroMillModel", "stored", "I", false), ("MacroMillModel", "made", "I", false), ("MacroMillModel", "counted", "I", false), ("MacroMillModel", "cells", "I", false), ("MacroMillModel", "cellAt", "[I", true), ("MacroMillModel", "cellSize", "[I", true), ("MacroMillModel", "cellLine", "[I", true), ("MacroMillModel", "cellSet", "[I", true), ("MacroMillModel", "cellNext", "[I", true), ("MacroMillModel", "isBefore", "[Z", true), ("MacroMillModel", "isFirst", "[Z", true), ("MacroMillModel", "names", "I", false), ("MacroMillModel", "nameAt", "[I", true), ("MacroMillModel", "nameLength", "[I", true), ("MacroMillModel", "isMacro", "[Z", true), ("MacroMillModel", "parameterCount", "[I", true), ("MacroMillModel", "takesRest", "[Z", true), ("MacroMillModel", "parameterAt", "[I", true), ("MacroMillModel", "parameterSize", "[I", true), ("MacroMillModel", "bodyCells", "I", false), ("MacroMillModel", "bodyAt", "[I", true), ("MacroMillModel", "bodySize", "[I", true), ("MacroMillModel", "bodyBefore", "[Z", true), ("MacroMillModel", "bodyFrom", "[I", true), ("MacroMillModel", "bodyCount", "[I", true), ("MacroMillModel", "sets", "I", false), ("MacroMillModel", "members", "[J", true), ("MacroMillModel", "some", "[J", true), ("MacroMillModel", "deep", "I", false), ("MacroMillModel", "mostDeep", "I", false), ("MacroMillModel", "fileOf", "[I", true), ("MacroMillModel", "shiftOf", "[I", true), ("MacroMillModel", "titleAt", "[I", true), ("MacroMillModel", "titleLength", "[I", true), ("MacroMillModel", "lines", "I", false), ("MacroMillModel", "hide", "[J", true), ("MacroMillModel", "argumentFrom", "[I", true), ("MacroMillModel", "argumentEnd", "[I", true), ("MacroMillModel", "listed", "I", false), ("MacroMillModel", "headOf", "[I", true), ("MacroMillModel", "tailOf", "[I", true), ("MacroMillModel", "madeHead", "[I", true), ("MacroMillModel", "madeTail", "[I", true), ("MacroMillModel", "placeOf", "[I", true), ("MacroMillModel", "lineHead", "I", false), ("MacroMillModel", "lineTail", "I", false), ("MacroMillModel", "lineCount", "I", false), ("MacroMillModel", "noEnds", "I", false), ("MacroMillModel", "rowHead", "I", false), ("MacroMillModel", "rowTail", "I", false), ("MacroMillModel", "rowCount", "I", false), ("MacroMillModel", "ifs", "I", false), ("MacroMillModel", "ifLine", "[I", true), ("MacroMillModel", "outside", "[Z", true), ("MacroMillModel", "done", "[Z", true), ("MacroMillModel", "counts", "[Z", true), ("MacroMillModel", "hasElse", "[Z", true), ("MacroMillModel", "hashLine", "I", false), ("MacroMillModel", "newCount", "I", false), ("MacroMillModel", "newRest", "Z", false), ("MacroMillModel", "newAt", "[I", true), ("MacroMillModel", "newSize", "[I", true), ("MacroMillModel", "newBody", "I", false), ("MacroMillModel", "restAt", "I", false), ("MacroMillModel", "wanted", "[B", true), ("MacroMillModel", "wantedSize", "I", false), ("MacroMillModel", "begun", "I", false), ("MacroMillModel", "begunBytes", "I", false), ("MacroMillModel", "mainFileNow", "I", false), ("MacroMillModel", "mainSize", "I", false), ("MacroMillModel", "look", "I", false), ("MacroMillModel", "bad", "Z", false), ("MacroMillModel", "byZero", "Z", false), ("MacroMillModel", "inner", "I", false), ("MacroMillModel", "plain", "Z", false), ("MacroMillModel", "held", "I", false), ("MacroMillModel", "heldSign", "[I", true), ("MacroMillModel", "heldValue", "[J", true), ("MacroMillModel", "heldPlain", "[Z", true), ("MacroMillModel", "first", "[B", true)]
def F_Mod : u_T := fun k => L_Mod.getD k ("", "", "", false)
def LT_Mod : List FieldType := [.array .byte, .int, .boolean, .int, .array .byte, .array .int, .array .byte, .array .int, .array .int, .int, .int, .int, .int, .int, .int, .int, .int, .array .byte, .int, .array .byte, .int, .int, .int, .int, .int, .array .int, .int, .array .int, .int, .int, .array .byte, .int, .array .byte, .int, .int, .array .int, .array .int, .array .int, .array .int, .array .byte, .int, .int, .int, .array .byte, .array .int, .int, .int, .int, .array .byte, .int, .int, .array .int, .int, .int, .boolean, .boolean, .int, .int, .array .int, .array .int, .array .byte, .array .int, .array .int, .array .int, .int, .int, .int, .int, .array .int, .array .int, .array .int, .array .int, .array .int, .array .boolean, .array .boolean, .int, .array .int, .array .int, .array .boolean, .array .int, .array .boolean, .array .int, .array .int, .int, .array .int, .array .int, .array .boolean, .array .int, .array .int, .int, .array .long, .array .long, .int, .int, .array .int, .array .int, .array .int, .array .int, .int, .array .long, .array .int, .array .int, .int, .array .int, .array .int, .array .int, .array .int, .array .int, .int, .int, .int, .int, .int, .int, .int, .int, .array .int, .array .boolean, .array .boolean, .array .boolean, .array .boolean, .int, .int, .boolean, .array .int, .array .int, .int, .int, .array .byte, .int, .int, .int, .int, .int, .int, .boolean, .boolean, .int, .boolean, .int, .array .int, .array .long, .array .boolean, .array .byte]
def t_Mod : Nat → FieldType := fun k => LT_Mod.getD k .int
set_option maxRecDepth 100000 in
theorem n_Mod : ∀ a, a < 144 → ∀ b, b < 144 → a ≠ b → (F_Mod a).2.1 ≠ (F_Mod b).2.1 := by decide +kernel
set_option maxRecDepth 100000 in
theorem t_Mod_ok : ∀ k, k < 144 → parseFieldDescriptor (F_Mod k).2.2.1 = some (t_Mod k) := by decide +kernel
set_option maxRecDepth 100000 in
theorem z_Mod : ∀ j, j < 144 → defaultValue (t_Mod j) = vp_V [.null, .int 0, .int 0, .int 0, .null, .null, .null, .null, .null, .int 0, .int 0, .int 0, .int 0, .int 0, .int 0, .int 0, .int 0, .null, .int 0, .null, .int 0, .int 0, .int 0, .int 0, .int 0, .null, .int 0, .null, .int 0, .int 0, .null, .int 0, .null, .int 0, .int 0, .null, .null, .null, .null, .null, .int 0, .int 0, .int 0, .null, .null, .int 0, .int 0, .int 0, .null, .int 0, .int 0, .null, .int 0, .int 0, .int 0, .int 0, .int 0, .int 0, .null, .null, .null, .null, .null, .null, .int 0, .int 0, .int 0, .int 0, .null, .null, .null, .null, .null, .null, .null, .int 0, .null, .null, .null, .null, .null, .null, .null, .int 0, .null, .null, .null, .null, .null, .int 0, .null, .null, .int 0, .int 0, .null, .null, .null, .null, .int 0, .null, .null, .null, .int 0, .null, .null, .null, .null, .null, .int 0, .int 0, .int 0, .int 0, .int 0, .int 0, .int 0, .int 0, .null, .null, .null, .null, .null, .int 0, .int 0, .int 0, .null, .null, .int 0, .int 0, .null, .int 0, .int 0, .int 0, .int 0, .int 0, .int 0, .int 0, .int 0, .int 0, .int 0, .int 0, .null, .null, .null, .null] j := by decide +kernel
abbrev classes : List vw_C := [("MacroMill", F_MM, 7), ("MacroMill$Files", F_Files, 5), ("MacroMill$Outcome", F_Outcome, 10), ("MacroMill$Reckoner", F_Reckoner, 13), ("MacroMill$First", F_First, 15), ("MacroMill$Input", F_Input, 12), ("MacroMill$Calls", F_Calls, 10), ("MacroMill$Meanings", F_Meanings, 11), ("MacroMill$Second", F_Second, 22), ("MacroMill$Tokens", F_Tokens, 10), ("MacroMill$Macros", F_Macros, 19), ("MacroMill$Lines", F_Lines, 19), ("MacroMill$Replacer", F_Replacer, 16), ("MacroMillModel", F_Mod, 144)]
abbrev y_MM_init : MethodName := ⟨"MacroMill", "<init>", "()V"⟩
abbrev b_MM_init : ByteArray := prog_1_method_1_code
theorem hd_MM_init : y_MM_init.cls ≠ "java/lang/invoke/MethodHandle" ∧ y_MM_init.cls ≠ "java/lang/invoke/VarHandle" ∧ (parseMethodDescriptor y_MM_init.desc).map (fun d => d.parameters.length) = some 0 := by decide +kernel
abbrev y_MM_areSame : MethodName := ⟨"MacroMill", "areSame", "([BI[BII)Z"⟩
abbrev b_MM_areSame : ByteArray := prog_1_method_18_code
theorem hd_MM_areSame : y_MM_areSame.cls ≠ "java/lang/invoke/MethodHandle" ∧ y_MM_areSame.cls ≠ "java/lang/invoke/VarHandle" ∧ (parseMethodDescriptor y_MM_areSame.desc).map (fun d => d.parameters.length) = some 5 := by decide +kernel
abbrev y_MM_astray : MethodName := ⟨"MacroMill", "astray", "()I"⟩
abbrev b_MM_astray : ByteArray := prog_1_method_12_code
theorem hd_MM_astray : y_MM_astray.cls ≠ "java/lang/invoke/MethodHandle" ∧ y_MM_astray.cls ≠ "java/lang/invoke/VarHandle" ∧ (parseMethodDescriptor y_MM_astray.desc).map (fun d => d.parameters.length) = some 0 := by decide +kernel
abbrev y_MM_clear : MethodName := ⟨"MacroMill", "clear", "()I"⟩
abbrev b_MM_clear : ByteArray := prog_1_method_6_code
theorem hd_MM_clear : y_MM_clear.cls ≠ "java/lang/invoke/MethodHandle" ∧ y_MM_clear.cls ≠ "java/lang/invoke/VarHandle" ∧ (parseMethodDescriptor y_MM_clear.desc).map (fun d => d.parameters.length) = some 0 := by decide +kernel
abbrev y_MM_end : MethodName := ⟨"MacroMill", "end", "(I)I"⟩
abbrev b_MM_end : ByteArray := prog_1_method_3_code
theorem hd_MM_end : y_MM_end.cls ≠ "java/lang/invoke/MethodHandle" ∧ y_MM_end.cls ≠ "java/lang/invoke/VarHandle" ∧ (parseMethodDescriptor y_MM_end.desc).map (fun d => d.parameters.length) = some 1 := by decide +kernel
abbrev y_MM_feed : MethodName := ⟨"MacroMill", "feed", "(IIIII)I"⟩
abbrev b_MM_feed : ByteArray := prog_1_method_2_code
theorem hd_MM_feed : y_MM_feed.cls ≠ "java/lang/invoke/MethodHandle" ∧ y_MM_feed.cls ≠ "java/lang/invoke/VarHandle" ∧ (parseMethodDescriptor y_MM_feed.desc).map (fun d => d.parameters.length) = some 5 := by decide +kernel
abbrev y_MM_file : MethodName := ⟨"MacroMill", "file", "(I)I"⟩
abbrev b_MM_file : ByteArray := prog_1_method_4_code
theorem hd_MM_file : y_MM_file.cls ≠ "java/lang/invoke/MethodHandle" ∧ y_MM_file.cls ≠ "java/lang/invoke/VarHandle" ∧ (parseMethodDescriptor y_MM_file.desc).map (fun d => d.parameters.length) = some 1 := by decide +kernel
abbrev y_MM_hashOf : MethodName := ⟨"MacroMill", "hashOf", "([BII)I"⟩
abbrev b_MM_hashOf : ByteArray := prog_1_method_19_code
theorem hd_MM_hashOf : y_MM_hashOf.cls ≠ "java/lang/invoke/MethodHandle" ∧ y_MM_hashOf.cls ≠ "java/lang/invoke/VarHandle" ∧ (parseMethodDescriptor y_MM_hashOf.desc).map (fun d => d.parameters.length) = some 3 := by decide +kernel
abbrev y_MM_isBlank : MethodName := ⟨"MacroMill", "isBlank", "(I)Z"⟩
abbrev b_MM_isBlank : ByteArray := prog_1_method_17_code
theorem hd_MM_isBlank : y_MM_isBlank.cls ≠ "java/lang/invoke/MethodHandle" ∧ y_MM_isBlank.cls ≠ "java/lang/invoke/VarHandle" ∧ (parseMethodDescriptor y_MM_isBlank.desc).map (fun d => d.parameters.length) = some 1 := by decide +kernel
abbrev y_MM_isDigit : MethodName := ⟨"MacroMill", "isDigit", "(I)Z"⟩
abbrev b_MM_isDigit : ByteArray := prog_1_method_16_code
theorem hd_MM_isDigit : y_MM_isDigit.cls ≠ "java/lang/invoke/MethodHandle" ∧ y_MM_isDigit.cls ≠ "java/lang/invoke/VarHandle" ∧ (parseMethodDescriptor y_MM_isDigit.desc).map (fun d => d.parameters.length) = some 1 := by decide +kernel
abbrev y_MM_isLetter : MethodName := ⟨"MacroMill", "isLetter", "(I)Z"⟩
abbrev b_MM_isLetter : ByteArray := prog_1_method_15_code
theorem hd_MM_isLetter : y_MM_isLetter.cls ≠ "java/lang/invoke/MethodHandle" ∧ y_MM_isLetter.cls ≠ "java/lang/invoke/VarHandle" ∧ (parseMethodDescriptor y_MM_isLetter.desc).map (fun d => d.parameters.length) = some 1 := by decide +kernel
abbrev y_MM_layNumber : MethodName := ⟨"MacroMill", "layNumber", "(I)V"⟩
abbrev b_MM_layNumber : ByteArray := prog_1_method_13_code
theorem hd_MM_layNumber : y_MM_layNumber.cls ≠ "java/lang/invoke/MethodHandle" ∧ y_MM_layNumber.cls ≠ "java/lang/invoke/VarHandle" ∧ (parseMethodDescriptor y_MM_layNumber.desc).map (fun d => d.parameters.length) = some 1 := by decide +kernel
abbrev y_MM_parameters : MethodName := ⟨"MacroMill", "parameters", "()I"⟩
abbrev b_MM_parameters : ByteArray := prog_1_method_11_code
theorem hd_MM_parameters : y_MM_parameters.cls ≠ "java/lang/invoke/MethodHandle" ∧ y_MM_parameters.cls ≠ "java/lang/invoke/VarHandle" ∧ (parseMethodDescriptor y_MM_parameters.desc).map (fun d => d.parameters.length) = some 0 := by decide +kernel
abbrev y_MM_run : MethodName := ⟨"MacroMill", "run", "(IIII)I"⟩
abbrev b_MM_run : ByteArray := prog_1_method_7_code
theorem hd_MM_run : y_MM_run.cls ≠ "java/lang/invoke/MethodHandle" ∧ y_MM_run.cls ≠ "java/lang/invoke/VarHandle" ∧ (parseMethodDescriptor y_MM_run.desc).map (fun d => d.parameters.length) = some 4 := by decide +kernel
abbrev y_MM_size : MethodName := ⟨"MacroMill", "size", "()I"⟩
abbrev b_MM_size : ByteArray := prog_1_method_9_code
theorem hd_MM_size : y_MM_size.cls ≠ "java/lang/invoke/MethodHandle" ∧ y_MM_size.cls ≠ "java/lang/invoke/VarHandle" ∧ (parseMethodDescriptor y_MM_size.desc).map (fun d => d.parameters.length) = some 0 := by decide +kernel
abbrev y_MM_told : MethodName := ⟨"MacroMill", "told", "(I)I"⟩
abbrev b_MM_told : ByteArray := prog_1_method_8_code
theorem hd_MM_told : y_MM_told.cls ≠ "java/lang/invoke/MethodHandle" ∧ y_MM_told.cls ≠ "java/lang/invoke/VarHandle" ∧ (parseMethodDescriptor y_MM_told.desc).map (fun d => d.parameters.length) = some 1 := by decide +kernel
abbrev y_MM_useTape : MethodName := ⟨"MacroMill", "useTape", "()I"⟩
abbrev b_MM_useTape : ByteArray := prog_1_method_14_code
theorem hd_MM_useTape : y_MM_useTape.cls ≠ "java/lang/invoke/MethodHandle" ∧ y_MM_useTape.cls ≠ "java/lang/invoke/VarHandle" ∧ (parseMethodDescriptor y_MM_useTape.desc).map (fun d => d.parameters.length) = some 0 := by decide +kernel
abbrev y_MM_word : MethodName := ⟨"MacroMill", "word", "(I)J"⟩
abbrev b_MM_word : ByteArray := prog_1_method_10_code
theorem hd_MM_word : y_MM_word.cls ≠ "java/lang/invoke/MethodHandle" ∧ y_MM_word.cls ≠ "java/lang/invoke/VarHandle" ∧ (parseMethodDescriptor y_MM_word.desc).map (fun d => d.parameters.length) = some 1 := by decide +kernel
abbrev y_MM_write : MethodName := ⟨"MacroMill", "write", "(I)I"⟩
abbrev b_MM_write : ByteArray := prog_1_method_5_code
theorem hd_MM_write : y_MM_write.cls ≠ "java/lang/invoke/MethodHandle" ∧ y_MM_write.cls ≠ "java/lang/invoke/VarHandle" ∧ (parseMethodDescriptor y_MM_write.desc).map (fun d => d.parameters.length) = some 1 := by decide +kernel
abbrev y_Files_init : MethodName := ⟨"MacroMill$Files", "<init>", "()V"⟩
abbrev b_Files_init : ByteArray := prog_3_method_1_code
theorem hd_Files_init : y_Files_init.cls ≠ "java/lang/invoke/MethodHandle" ∧ y_Files_init.cls ≠ "java/lang/invoke/VarHandle" ∧ (parseMethodDescriptor y_Files_init.desc).map (fun d => d.parameters.length) = some 0 := by decide +kernel
abbrev y_Files_add : MethodName := ⟨"MacroMill$Files", "add", "([BII)Z"⟩
abbrev b_Files_add : ByteArray := prog_3_method_4_code
theorem hd_Files_add : y_Files_add.cls ≠ "java/lang/invoke/MethodHandle" ∧ y_Files_add.cls ≠ "java/lang/invoke/VarHandle" ∧ (parseMethodDescriptor y_Files_add.desc).map (fun d => d.parameters.length) = some 3 := by decide +kernel
abbrev y_Files_append : MethodName := ⟨"MacroMill$Files", "append", "(I[BI)Z"⟩
abbrev b_Files_append : ByteArray := prog_3_method_5_code
theorem hd_Files_append : y_Files_append.cls ≠ "java/lang/invoke/MethodHandle" ∧ y_Files_append.cls ≠ "java/lang/invoke/VarHandle" ∧ (parseMethodDescriptor y_Files_append.desc).map (fun d => d.parameters.length) = some 3 := by decide +kernel
abbrev y_Files_find : MethodName := ⟨"MacroMill$Files", "find", "([BI)I"⟩
abbrev b_Files_find : ByteArray := prog_3_method_3_code
theorem hd_Files_find : y_Files_find.cls ≠ "java/lang/invoke/MethodHandle" ∧ y_Files_find.cls ≠ "java/lang/invoke/VarHandle" ∧ (parseMethodDescriptor y_Files_find.desc).map (fun d => d.parameters.length) = some 2 := by decide +kernel
abbrev y_Files_lengthOf : MethodName := ⟨"MacroMill$Files", "lengthOf", "(I)I"⟩
abbrev b_Files_lengthOf : ByteArray := prog_3_method_2_code
theorem hd_Files_lengthOf : y_Files_lengthOf.cls ≠ "java/lang/invoke/MethodHandle" ∧ y_Files_lengthOf.cls ≠ "java/lang/invoke/VarHandle" ∧ (parseMethodDescriptor y_Files_lengthOf.desc).map (fun d => d.parameters.length) = some 1 := by decide +kernel
abbrev y_Outcome_init : MethodName := ⟨"MacroMill$Outcome", "<init>", "()V"⟩
abbrev b_Outcome_init : ByteArray := prog_9_method_1_code
theorem hd_Outcome_init : y_Outcome_init.cls ≠ "java/lang/invoke/MethodHandle" ∧ y_Outcome_init.cls ≠ "java/lang/invoke/VarHandle" ∧ (parseMethodDescriptor y_Outcome_init.desc).map (fun d => d.parameters.length) = some 0 := by decide +kernel
abbrev y_Outcome_begin : MethodName := ⟨"MacroMill$Outcome", "begin", "(I)V"⟩
abbrev b_Outcome_begin : ByteArray := prog_9_method_2_code
theorem hd_Outcome_begin : y_Outcome_begin.cls ≠ "java/lang/invoke/MethodHandle" ∧ y_Outcome_begin.cls ≠ "java/lang/invoke/VarHandle" ∧ (parseMethodDescriptor y_Outcome_begin.desc).map (fun d => d.parameters.length) = some 1 := by decide +kernel
abbrev y_Outcome_fail : MethodName := ⟨"MacroMill$Outcome", "fail", "(II)V"⟩
abbrev b_Outcome_fail : ByteArray := prog_9_method_4_code
theorem hd_Outcome_fail : y_Outcome_fail.cls ≠ "java/lang/invoke/MethodHandle" ∧ y_Outcome_fail.cls ≠ "java/lang/invoke/VarHandle" ∧ (parseMethodDescriptor y_Outcome_fail.desc).map (fun d => d.parameters.length) = some 2 := by decide +kernel
abbrev y_Outcome_isFine : MethodName := ⟨"MacroMill$Outcome", "isFine", "()Z"⟩
abbrev b_Outcome_isFine : ByteArray := prog_9_method_3_code
theorem hd_Outcome_isFine : y_Outcome_isFine.cls ≠ "java/lang/invoke/MethodHandle" ∧ y_Outcome_isFine.cls ≠ "java/lang/invoke/VarHandle" ∧ (parseMethodDescriptor y_Outcome_isFine.desc).map (fun d => d.parameters.length) = some 0 := by decide +kernel
abbrev y_Reckoner_init : MethodName := ⟨"MacroMill$Reckoner", "<init>", "()V"⟩
abbrev b_Reckoner_init : ByteArray := prog_10_method_1_code
theorem hd_Reckoner_init : y_Reckoner_init.cls ≠ "java/lang/invoke/MethodHandle" ∧ y_Reckoner_init.cls ≠ "java/lang/invoke/VarHandle" ∧ (parseMethodDescriptor y_Reckoner_init.desc).map (fun d => d.parameters.length) = some 0 := by decide +kernel
abbrev y_Reckoner_beIdleBehind : MethodName := ⟨"MacroMill$Reckoner", "beIdleBehind", "(I)V"⟩
abbrev b_Reckoner_beIdleBehind : ByteArray := prog_10_method_14_code
theorem hd_Reckoner_beIdleBehind : y_Reckoner_beIdleBehind.cls ≠ "java/lang/invoke/MethodHandle" ∧ y_Reckoner_beIdleBehind.cls ≠ "java/lang/invoke/VarHandle" ∧ (parseMethodDescriptor y_Reckoner_beIdleBehind.desc).map (fun d => d.parameters.length) = some 1 := by decide +kernel
abbrev y_Reckoner_begin : MethodName := ⟨"MacroMill$Reckoner", "begin", "(Z)V"⟩
abbrev b_Reckoner_begin : ByteArray := prog_10_method_2_code
theorem hd_Reckoner_begin : y_Reckoner_begin.cls ≠ "java/lang/invoke/MethodHandle" ∧ y_Reckoner_begin.cls ≠ "java/lang/invoke/VarHandle" ∧ (parseMethodDescriptor y_Reckoner_begin.desc).map (fun d => d.parameters.length) = some 1 := by decide +kernel
abbrev y_Reckoner_choose : MethodName := ⟨"MacroMill$Reckoner", "choose", "()V"⟩
abbrev b_Reckoner_choose : ByteArray := prog_10_method_18_code
theorem hd_Reckoner_choose : y_Reckoner_choose.cls ≠ "java/lang/invoke/MethodHandle" ∧ y_Reckoner_choose.cls ≠ "java/lang/invoke/VarHandle" ∧ (parseMethodDescriptor y_Reckoner_choose.desc).map (fun d => d.parameters.length) = some 0 := by decide +kernel
abbrev y_Reckoner_closeParenthesis : MethodName := ⟨"MacroMill$Reckoner", "closeParenthesis", "()V"⟩
abbrev b_Reckoner_closeParenthesis : ByteArray := prog_10_method_12_code
theorem hd_Reckoner_closeParenthesis : y_Reckoner_closeParenthesis.cls ≠ "java/lang/invoke/MethodHandle" ∧ y_Reckoner_closeParenthesis.cls ≠ "java/lang/invoke/VarHandle" ∧ (parseMethodDescriptor y_Reckoner_closeParenthesis.desc).map (fun d => d.parameters.length) = some 0 := by decide +kernel
abbrev y_Reckoner_compare : MethodName := ⟨"MacroMill$Reckoner", "compare", "(I)V"⟩
abbrev b_Reckoner_compare : ByteArray := prog_10_method_19_code
theorem hd_Reckoner_compare : y_Reckoner_compare.cls ≠ "java/lang/invoke/MethodHandle" ∧ y_Reckoner_compare.cls ≠ "java/lang/invoke/VarHandle" ∧ (parseMethodDescriptor y_Reckoner_compare.desc).map (fun d => d.parameters.length) = some 1 := by decide +kernel
abbrev y_Reckoner_divide : MethodName := ⟨"MacroMill$Reckoner", "divide", "(JJZZ)J"⟩
abbrev b_Reckoner_divide : ByteArray := prog_10_method_21_code
theorem hd_Reckoner_divide : y_Reckoner_divide.cls ≠ "java/lang/invoke/MethodHandle" ∧ y_Reckoner_divide.cls ≠ "java/lang/invoke/VarHandle" ∧ (parseMethodDescriptor y_Reckoner_divide.desc).map (fun d => d.parameters.length) = some 4 := by decide +kernel
abbrev y_Reckoner_endOperand : MethodName := ⟨"MacroMill$Reckoner", "endOperand", "()V"⟩
abbrev b_Reckoner_endOperand : ByteArray := prog_10_method_16_code
theorem hd_Reckoner_endOperand : y_Reckoner_endOperand.cls ≠ "java/lang/invoke/MethodHandle" ∧ y_Reckoner_endOperand.cls ≠ "java/lang/invoke/VarHandle" ∧ (parseMethodDescriptor y_Reckoner_endOperand.desc).map (fun d => d.parameters.length) = some 0 := by decide +kernel
abbrev y_Reckoner_finish : MethodName := ⟨"MacroMill$Reckoner", "finish", "()Z"⟩
abbrev b_Reckoner_finish : ByteArray := prog_10_method_6_code
theorem hd_Reckoner_finish : y_Reckoner_finish.cls ≠ "java/lang/invoke/MethodHandle" ∧ y_Reckoner_finish.cls ≠ "java/lang/invoke/VarHandle" ∧ (parseMethodDescriptor y_Reckoner_finish.desc).map (fun d => d.parameters.length) = some 0 := by decide +kernel
abbrev y_Reckoner_hasDividedByZero : MethodName := ⟨"MacroMill$Reckoner", "hasDividedByZero", "()Z"⟩
abbrev b_Reckoner_hasDividedByZero : ByteArray := prog_10_method_7_code
theorem hd_Reckoner_hasDividedByZero : y_Reckoner_hasDividedByZero.cls ≠ "java/lang/invoke/MethodHandle" ∧ y_Reckoner_hasDividedByZero.cls ≠ "java/lang/invoke/VarHandle" ∧ (parseMethodDescriptor y_Reckoner_hasDividedByZero.desc).map (fun d => d.parameters.length) = some 0 := by decide +kernel
abbrev y_Reckoner_isTop : MethodName := ⟨"MacroMill$Reckoner", "isTop", "(I)Z"⟩
abbrev b_Reckoner_isTop : ByteArray := prog_10_method_11_code
theorem hd_Reckoner_isTop : y_Reckoner_isTop.cls ≠ "java/lang/invoke/MethodHandle" ∧ y_Reckoner_isTop.cls ≠ "java/lang/invoke/VarHandle" ∧ (parseMethodDescriptor y_Reckoner_isTop.desc).map (fun d => d.parameters.length) = some 1 := by decide +kernel
abbrev y_Reckoner_push : MethodName := ⟨"MacroMill$Reckoner", "push", "(II)V"⟩
abbrev b_Reckoner_push : ByteArray := prog_10_method_10_code
theorem hd_Reckoner_push : y_Reckoner_push.cls ≠ "java/lang/invoke/MethodHandle" ∧ y_Reckoner_push.cls ≠ "java/lang/invoke/VarHandle" ∧ (parseMethodDescriptor y_Reckoner_push.desc).map (fun d => d.parameters.length) = some 2 := by decide +kernel
abbrev y_Reckoner_rankOf : MethodName := ⟨"MacroMill$Reckoner", "rankOf", "(I)I"⟩
abbrev b_Reckoner_rankOf : ByteArray := prog_10_method_15_code
theorem hd_Reckoner_rankOf : y_Reckoner_rankOf.cls ≠ "java/lang/invoke/MethodHandle" ∧ y_Reckoner_rankOf.cls ≠ "java/lang/invoke/VarHandle" ∧ (parseMethodDescriptor y_Reckoner_rankOf.desc).map (fun d => d.parameters.length) = some 1 := by decide +kernel
abbrev y_Reckoner_reckon : MethodName := ⟨"MacroMill$Reckoner", "reckon", "(I)V"⟩
abbrev b_Reckoner_reckon : ByteArray := prog_10_method_20_code
theorem hd_Reckoner_reckon : y_Reckoner_reckon.cls ≠ "java/lang/invoke/MethodHandle" ∧ y_Reckoner_reckon.cls ≠ "java/lang/invoke/VarHandle" ∧ (parseMethodDescriptor y_Reckoner_reckon.desc).map (fun d => d.parameters.length) = some 1 := by decide +kernel
abbrev y_Reckoner_reduceDownTo : MethodName := ⟨"MacroMill$Reckoner", "reduceDownTo", "(I)V"⟩
abbrev b_Reckoner_reduceDownTo : ByteArray := prog_10_method_17_code
theorem hd_Reckoner_reduceDownTo : y_Reckoner_reduceDownTo.cls ≠ "java/lang/invoke/MethodHandle" ∧ y_Reckoner_reduceDownTo.cls ≠ "java/lang/invoke/VarHandle" ∧ (parseMethodDescriptor y_Reckoner_reduceDownTo.desc).map (fun d => d.parameters.length) = some 1 := by decide +kernel
abbrev y_Reckoner_spoil : MethodName := ⟨"MacroMill$Reckoner", "spoil", "()V"⟩
abbrev b_Reckoner_spoil : ByteArray := prog_10_method_3_code
theorem hd_Reckoner_spoil : y_Reckoner_spoil.cls ≠ "java/lang/invoke/MethodHandle" ∧ y_Reckoner_spoil.cls ≠ "java/lang/invoke/VarHandle" ∧ (parseMethodDescriptor y_Reckoner_spoil.desc).map (fun d => d.parameters.length) = some 0 := by decide +kernel
abbrev y_Reckoner_takeColon : MethodName := ⟨"MacroMill$Reckoner", "takeColon", "()V"⟩
abbrev b_Reckoner_takeColon : ByteArray := prog_10_method_13_code
theorem hd_Reckoner_takeColon : y_Reckoner_takeColon.cls ≠ "java/lang/invoke/MethodHandle" ∧ y_Reckoner_takeColon.cls ≠ "java/lang/invoke/VarHandle" ∧ (parseMethodDescriptor y_Reckoner_takeColon.desc).map (fun d => d.parameters.length) = some 0 := by decide +kernel
abbrev y_Reckoner_takeNumber : MethodName := ⟨"MacroMill$Reckoner", "takeNumber", "(JZ)V"⟩
abbrev b_Reckoner_takeNumber : ByteArray := prog_10_method_4_code
theorem hd_Reckoner_takeNumber : y_Reckoner_takeNumber.cls ≠ "java/lang/invoke/MethodHandle" ∧ y_Reckoner_takeNumber.cls ≠ "java/lang/invoke/VarHandle" ∧ (parseMethodDescriptor y_Reckoner_takeNumber.desc).map (fun d => d.parameters.length) = some 2 := by decide +kernel
abbrev y_Reckoner_takeSign : MethodName := ⟨"MacroMill$Reckoner", "takeSign", "(I)V"⟩
abbrev b_Reckoner_takeSign : ByteArray := prog_10_method_5_code
theorem hd_Reckoner_takeSign : y_Reckoner_takeSign.cls ≠ "java/lang/invoke/MethodHandle" ∧ y_Reckoner_takeSign.cls ≠ "java/lang/invoke/VarHandle" ∧ (parseMethodDescriptor y_Reckoner_takeSign.desc).map (fun d => d.parameters.length) = some 1 := by decide +kernel
abbrev y_Reckoner_takeSignInFront : MethodName := ⟨"MacroMill$Reckoner", "takeSignInFront", "(I)V"⟩
abbrev b_Reckoner_takeSignInFront : ByteArray := prog_10_method_9_code
theorem hd_Reckoner_takeSignInFront : y_Reckoner_takeSignInFront.cls ≠ "java/lang/invoke/MethodHandle" ∧ y_Reckoner_takeSignInFront.cls ≠ "java/lang/invoke/VarHandle" ∧ (parseMethodDescriptor y_Reckoner_takeSignInFront.desc).map (fun d => d.parameters.length) = some 1 := by decide +kernel
abbrev y_Reckoner_value : MethodName := ⟨"MacroMill$Reckoner", "value", "()J"⟩
abbrev b_Reckoner_value : ByteArray := prog_10_method_8_code
theorem hd_Reckoner_value : y_Reckoner_value.cls ≠ "java/lang/invoke/MethodHandle" ∧ y_Reckoner_value.cls ≠ "java/lang/invoke/VarHandle" ∧ (parseMethodDescriptor y_Reckoner_value.desc).map (fun d => d.parameters.length) = some 0 := by decide +kernel
abbrev y_First_init : MethodName := ⟨"MacroMill$First", "<init>", "(LMacroMill$Outcome;LMacroMill$Reckoner;)V"⟩
abbrev b_First_init : ByteArray := prog_4_method_1_code
theorem hd_First_init : y_First_init.cls ≠ "java/lang/invoke/MethodHandle" ∧ y_First_init.cls ≠ "java/lang/invoke/VarHandle" ∧ (parseMethodDescriptor y_First_init.desc).map (fun d => d.parameters.length) = some 2 := by decide +kernel
abbrev y_First_answer : MethodName := ⟨"MacroMill$First", "answer", "()V"⟩
abbrev b_First_answer : ByteArray := prog_4_method_9_code
theorem hd_First_answer : y_First_answer.cls ≠ "java/lang/invoke/MethodHandle" ∧ y_First_answer.cls ≠ "java/lang/invoke/VarHandle" ∧ (parseMethodDescriptor y_First_answer.desc).map (fun d => d.parameters.length) = some 0 := by decide +kernel
abbrev y_First_answerMacros : MethodName := ⟨"MacroMill$First", "answerMacros", "(I)V"⟩
abbrev b_First_answerMacros : ByteArray := prog_4_method_17_code
theorem hd_First_answerMacros : y_First_answerMacros.cls ≠ "java/lang/invoke/MethodHandle" ∧ y_First_answerMacros.cls ≠ "java/lang/invoke/VarHandle" ∧ (parseMethodDescriptor y_First_answerMacros.desc).map (fun d => d.parameters.length) = some 1 := by decide +kernel
abbrev y_First_answerOthers : MethodName := ⟨"MacroMill$First", "answerOthers", "(I)V"⟩
abbrev b_First_answerOthers : ByteArray := prog_4_method_26_code
theorem hd_First_answerOthers : y_First_answerOthers.cls ≠ "java/lang/invoke/MethodHandle" ∧ y_First_answerOthers.cls ≠ "java/lang/invoke/VarHandle" ∧ (parseMethodDescriptor y_First_answerOthers.desc).map (fun d => d.parameters.length) = some 1 := by decide +kernel
abbrev y_First_answerValues : MethodName := ⟨"MacroMill$First", "answerValues", "(I)V"⟩
abbrev b_First_answerValues : ByteArray := prog_4_method_19_code
theorem hd_First_answerValues : y_First_answerValues.cls ≠ "java/lang/invoke/MethodHandle" ∧ y_First_answerValues.cls ≠ "java/lang/invoke/VarHandle" ∧ (parseMethodDescriptor y_First_answerValues.desc).map (fun d => d.parameters.length) = some 1 := by decide +kernel
abbrev y_First_changeQuotes : MethodName := ⟨"MacroMill$First", "changeQuotes", "()V"⟩
abbrev b_First_changeQuotes : ByteArray := prog_4_method_27_code
theorem hd_First_changeQuotes : y_First_changeQuotes.cls ≠ "java/lang/invoke/MethodHandle" ∧ y_First_changeQuotes.cls ≠ "java/lang/invoke/VarHandle" ∧ (parseMethodDescriptor y_First_changeQuotes.desc).map (fun d => d.parameters.length) = some 0 := by decide +kernel
abbrev y_First_chooseSame : MethodName := ⟨"MacroMill$First", "chooseSame", "()V"⟩
abbrev b_First_chooseSame : ByteArray := prog_4_method_18_code
theorem hd_First_chooseSame : y_First_chooseSame.cls ≠ "java/lang/invoke/MethodHandle" ∧ y_First_chooseSame.cls ≠ "java/lang/invoke/VarHandle" ∧ (parseMethodDescriptor y_First_chooseSame.desc).map (fun d => d.parameters.length) = some 0 := by decide +kernel
abbrev y_First_clearDiversions : MethodName := ⟨"MacroMill$First", "clearDiversions", "()V"⟩
abbrev b_First_clearDiversions : ByteArray := prog_4_method_28_code
theorem hd_First_clearDiversions : y_First_clearDiversions.cls ≠ "java/lang/invoke/MethodHandle" ∧ y_First_clearDiversions.cls ≠ "java/lang/invoke/VarHandle" ∧ (parseMethodDescriptor y_First_clearDiversions.desc).map (fun d => d.parameters.length) = some 0 := by decide +kernel
abbrev y_First_divert : MethodName := ⟨"MacroMill$First", "divert", "([BII)V"⟩
abbrev b_First_divert : ByteArray := prog_4_method_30_code
theorem hd_First_divert : y_First_divert.cls ≠ "java/lang/invoke/MethodHandle" ∧ y_First_divert.cls ≠ "java/lang/invoke/VarHandle" ∧ (parseMethodDescriptor y_First_divert.desc).map (fun d => d.parameters.length) = some 3 := by decide +kernel
abbrev y_First_evaluate : MethodName := ⟨"MacroMill$First", "evaluate", "()V"⟩
abbrev b_First_evaluate : ByteArray := prog_4_method_23_code
theorem hd_First_evaluate : y_First_evaluate.cls ≠ "java/lang/invoke/MethodHandle" ∧ y_First_evaluate.cls ≠ "java/lang/invoke/VarHandle" ∧ (parseMethodDescriptor y_First_evaluate.desc).map (fun d => d.parameters.length) = some 0 := by decide +kernel
abbrev y_First_fail : MethodName := ⟨"MacroMill$First", "fail", "(I)V"⟩
abbrev b_First_fail : ByteArray := prog_4_method_4_code
theorem hd_First_fail : y_First_fail.cls ≠ "java/lang/invoke/MethodHandle" ∧ y_First_fail.cls ≠ "java/lang/invoke/VarHandle" ∧ (parseMethodDescriptor y_First_fail.desc).map (fun d => d.parameters.length) = some 1 := by decide +kernel
abbrev y_First_finish : MethodName := ⟨"MacroMill$First", "finish", "()V"⟩
abbrev b_First_finish : ByteArray := prog_4_method_3_code
theorem hd_First_finish : y_First_finish.cls ≠ "java/lang/invoke/MethodHandle" ∧ y_First_finish.cls ≠ "java/lang/invoke/VarHandle" ∧ (parseMethodDescriptor y_First_finish.desc).map (fun d => d.parameters.length) = some 0 := by decide +kernel
abbrev y_First_giveArgument : MethodName := ⟨"MacroMill$First", "giveArgument", "(I)V"⟩
abbrev b_First_giveArgument : ByteArray := prog_4_method_12_code
theorem hd_First_giveArgument : y_First_giveArgument.cls ≠ "java/lang/invoke/MethodHandle" ∧ y_First_giveArgument.cls ≠ "java/lang/invoke/VarHandle" ∧ (parseMethodDescriptor y_First_giveArgument.desc).map (fun d => d.parameters.length) = some 1 := by decide +kernel
abbrev y_First_giveArguments : MethodName := ⟨"MacroMill$First", "giveArguments", "(IZ)V"⟩
abbrev b_First_giveArguments : ByteArray := prog_4_method_14_code
theorem hd_First_giveArguments : y_First_giveArguments.cls ≠ "java/lang/invoke/MethodHandle" ∧ y_First_giveArguments.cls ≠ "java/lang/invoke/VarHandle" ∧ (parseMethodDescriptor y_First_giveArguments.desc).map (fun d => d.parameters.length) = some 2 := by decide +kernel
abbrev y_First_giveByte : MethodName := ⟨"MacroMill$First", "giveByte", "(I)V"⟩
abbrev b_First_giveByte : ByteArray := prog_4_method_10_code
theorem hd_First_giveByte : y_First_giveByte.cls ≠ "java/lang/invoke/MethodHandle" ∧ y_First_giveByte.cls ≠ "java/lang/invoke/VarHandle" ∧ (parseMethodDescriptor y_First_giveByte.desc).map (fun d => d.parameters.length) = some 1 := by decide +kernel
abbrev y_First_giveBytes : MethodName := ⟨"MacroMill$First", "giveBytes", "(II)V"⟩
abbrev b_First_giveBytes : ByteArray := prog_4_method_11_code
theorem hd_First_giveBytes : y_First_giveBytes.cls ≠ "java/lang/invoke/MethodHandle" ∧ y_First_giveBytes.cls ≠ "java/lang/invoke/VarHandle" ∧ (parseMethodDescriptor y_First_giveBytes.desc).map (fun d => d.parameters.length) = some 2 := by decide +kernel
abbrev y_First_giveNumber : MethodName := ⟨"MacroMill$First", "giveNumber", "(I)V"⟩
abbrev b_First_giveNumber : ByteArray := prog_4_method_15_code
theorem hd_First_giveNumber : y_First_giveNumber.cls ≠ "java/lang/invoke/MethodHandle" ∧ y_First_giveNumber.cls ≠ "java/lang/invoke/VarHandle" ∧ (parseMethodDescriptor y_First_giveNumber.desc).map (fun d => d.parameters.length) = some 1 := by decide +kernel
abbrev y_First_givePart : MethodName := ⟨"MacroMill$First", "givePart", "()V"⟩
abbrev b_First_givePart : ByteArray := prog_4_method_21_code
theorem hd_First_givePart : y_First_givePart.cls ≠ "java/lang/invoke/MethodHandle" ∧ y_First_givePart.cls ≠ "java/lang/invoke/VarHandle" ∧ (parseMethodDescriptor y_First_givePart.desc).map (fun d => d.parameters.length) = some 0 := by decide +kernel
abbrev y_First_giveQuote : MethodName := ⟨"MacroMill$First", "giveQuote", "(Z)V"⟩
abbrev b_First_giveQuote : ByteArray := prog_4_method_13_code
theorem hd_First_giveQuote : y_First_giveQuote.cls ≠ "java/lang/invoke/MethodHandle" ∧ y_First_giveQuote.cls ≠ "java/lang/invoke/VarHandle" ∧ (parseMethodDescriptor y_First_giveQuote.desc).map (fun d => d.parameters.length) = some 1 := by decide +kernel
abbrev y_First_giveText : MethodName := ⟨"MacroMill$First", "giveText", "(I)V"⟩
abbrev b_First_giveText : ByteArray := prog_4_method_16_code
theorem hd_First_giveText : y_First_giveText.cls ≠ "java/lang/invoke/MethodHandle" ∧ y_First_giveText.cls ≠ "java/lang/invoke/VarHandle" ∧ (parseMethodDescriptor y_First_giveText.desc).map (fun d => d.parameters.length) = some 1 := by decide +kernel
abbrev y_First_isCallComplete : MethodName := ⟨"MacroMill$First", "isCallComplete", "()Z"⟩
abbrev b_First_isCallComplete : ByteArray := prog_4_method_5_code
theorem hd_First_isCallComplete : y_First_isCallComplete.cls ≠ "java/lang/invoke/MethodHandle" ∧ y_First_isCallComplete.cls ≠ "java/lang/invoke/VarHandle" ∧ (parseMethodDescriptor y_First_isCallComplete.desc).map (fun d => d.parameters.length) = some 0 := by decide +kernel
abbrev y_First_isCalled : MethodName := ⟨"MacroMill$First", "isCalled", "()Z"⟩
abbrev b_First_isCalled : ByteArray := prog_4_method_6_code
theorem hd_First_isCalled : y_First_isCalled.cls ≠ "java/lang/invoke/MethodHandle" ∧ y_First_isCalled.cls ≠ "java/lang/invoke/VarHandle" ∧ (parseMethodDescriptor y_First_isCalled.desc).map (fun d => d.parameters.length) = some 0 := by decide +kernel
abbrev y_First_isOperatorOfTwo : MethodName := ⟨"MacroMill$First", "isOperatorOfTwo", "(II)Z"⟩
abbrev b_First_isOperatorOfTwo : ByteArray := prog_4_method_24_code
theorem hd_First_isOperatorOfTwo : y_First_isOperatorOfTwo.cls ≠ "java/lang/invoke/MethodHandle" ∧ y_First_isOperatorOfTwo.cls ≠ "java/lang/invoke/VarHandle" ∧ (parseMethodDescriptor y_First_isOperatorOfTwo.desc).map (fun d => d.parameters.length) = some 2 := by decide +kernel
abbrev y_First_join : MethodName := ⟨"MacroMill$First", "join", "(III)V"⟩
abbrev b_First_join : ByteArray := prog_4_method_32_code
theorem hd_First_join : y_First_join.cls ≠ "java/lang/invoke/MethodHandle" ∧ y_First_join.cls ≠ "java/lang/invoke/VarHandle" ∧ (parseMethodDescriptor y_First_join.desc).map (fun d => d.parameters.length) = some 3 := by decide +kernel
abbrev y_First_number : MethodName := ⟨"MacroMill$First", "number", "(I)I"⟩
abbrev b_First_number : ByteArray := prog_4_method_22_code
theorem hd_First_number : y_First_number.cls ≠ "java/lang/invoke/MethodHandle" ∧ y_First_number.cls ≠ "java/lang/invoke/VarHandle" ∧ (parseMethodDescriptor y_First_number.desc).map (fun d => d.parameters.length) = some 1 := by decide +kernel
abbrev y_First_openCall : MethodName := ⟨"MacroMill$First", "openCall", "()Z"⟩
abbrev b_First_openCall : ByteArray := prog_4_method_7_code
theorem hd_First_openCall : y_First_openCall.cls ≠ "java/lang/invoke/MethodHandle" ∧ y_First_openCall.cls ≠ "java/lang/invoke/VarHandle" ∧ (parseMethodDescriptor y_First_openCall.desc).map (fun d => d.parameters.length) = some 0 := by decide +kernel
abbrev y_First_place : MethodName := ⟨"MacroMill$First", "place", "()I"⟩
abbrev b_First_place : ByteArray := prog_4_method_20_code
theorem hd_First_place : y_First_place.cls ≠ "java/lang/invoke/MethodHandle" ∧ y_First_place.cls ≠ "java/lang/invoke/VarHandle" ∧ (parseMethodDescriptor y_First_place.desc).map (fun d => d.parameters.length) = some 0 := by decide +kernel
abbrev y_First_process : MethodName := ⟨"MacroMill$First", "process", "(LMacroMill$Files;II)V"⟩
abbrev b_First_process : ByteArray := prog_4_method_2_code
theorem hd_First_process : y_First_process.cls ≠ "java/lang/invoke/MethodHandle" ∧ y_First_process.cls ≠ "java/lang/invoke/VarHandle" ∧ (parseMethodDescriptor y_First_process.desc).map (fun d => d.parameters.length) = some 3 := by decide +kernel
abbrev y_First_release : MethodName := ⟨"MacroMill$First", "release", "(I)V"⟩
abbrev b_First_release : ByteArray := prog_4_method_35_code
theorem hd_First_release : y_First_release.cls ≠ "java/lang/invoke/MethodHandle" ∧ y_First_release.cls ≠ "java/lang/invoke/VarHandle" ∧ (parseMethodDescriptor y_First_release.desc).map (fun d => d.parameters.length) = some 1 := by decide +kernel
abbrev y_First_setCurrent : MethodName := ⟨"MacroMill$First", "setCurrent", "(I)V"⟩
abbrev b_First_setCurrent : ByteArray := prog_4_method_29_code
theorem hd_First_setCurrent : y_First_setCurrent.cls ≠ "java/lang/invoke/MethodHandle" ∧ y_First_setCurrent.cls ≠ "java/lang/invoke/VarHandle" ∧ (parseMethodDescriptor y_First_setCurrent.desc).map (fun d => d.parameters.length) = some 1 := by decide +kernel
abbrev y_First_takeNumber : MethodName := ⟨"MacroMill$First", "takeNumber", "(II)I"⟩
abbrev b_First_takeNumber : ByteArray := prog_4_method_25_code
theorem hd_First_takeNumber : y_First_takeNumber.cls ≠ "java/lang/invoke/MethodHandle" ∧ y_First_takeNumber.cls ≠ "java/lang/invoke/VarHandle" ∧ (parseMethodDescriptor y_First_takeNumber.desc).map (fun d => d.parameters.length) = some 2 := by decide +kernel
abbrev y_First_takePlace : MethodName := ⟨"MacroMill$First", "takePlace", "()I"⟩
abbrev b_First_takePlace : ByteArray := prog_4_method_31_code
theorem hd_First_takePlace : y_First_takePlace.cls ≠ "java/lang/invoke/MethodHandle" ∧ y_First_takePlace.cls ≠ "java/lang/invoke/VarHandle" ∧ (parseMethodDescriptor y_First_takePlace.desc).map (fun d => d.parameters.length) = some 0 := by decide +kernel
abbrev y_First_undivert : MethodName := ⟨"MacroMill$First", "undivert", "()V"⟩
abbrev b_First_undivert : ByteArray := prog_4_method_33_code
theorem hd_First_undivert : y_First_undivert.cls ≠ "java/lang/invoke/MethodHandle" ∧ y_First_undivert.cls ≠ "java/lang/invoke/VarHandle" ∧ (parseMethodDescriptor y_First_undivert.desc).map (fun d => d.parameters.length) = some 0 := by decide +kernel
abbrev y_First_undivertOne : MethodName := ⟨"MacroMill$First", "undivertOne", "(I)V"⟩
abbrev b_First_undivertOne : ByteArray := prog_4_method_34_code
theorem hd_First_undivertOne : y_First_undivertOne.cls ≠ "java/lang/invoke/MethodHandle" ∧ y_First_undivertOne.cls ≠ "java/lang/invoke/VarHandle" ∧ (parseMethodDescriptor y_First_undivertOne.desc).map (fun d => d.parameters.length) = some 1 := by decide +kernel
abbrev y_First_useInArgument : MethodName := ⟨"MacroMill$First", "useInArgument", "()Z"⟩
abbrev b_First_useInArgument : ByteArray := prog_4_method_8_code
theorem hd_First_useInArgument : y_First_useInArgument.cls ≠ "java/lang/invoke/MethodHandle" ∧ y_First_useInArgument.cls ≠ "java/lang/invoke/VarHandle" ∧ (parseMethodDescriptor y_First_useInArgument.desc).map (fun d => d.parameters.length) = some 0 := by decide +kernel
abbrev y_Input_init : MethodName := ⟨"MacroMill$Input", "<init>", "(LMacroMill$Outcome;)V"⟩
abbrev b_Input_init : ByteArray := prog_5_method_1_code
theorem hd_Input_init : y_Input_init.cls ≠ "java/lang/invoke/MethodHandle" ∧ y_Input_init.cls ≠ "java/lang/invoke/VarHandle" ∧ (parseMethodDescriptor y_Input_init.desc).map (fun d => d.parameters.length) = some 1 := by decide +kernel
abbrev y_Input_begin : MethodName := ⟨"MacroMill$Input", "begin", "([BIII)V"⟩
abbrev b_Input_begin : ByteArray := prog_5_method_2_code
theorem hd_Input_begin : y_Input_begin.cls ≠ "java/lang/invoke/MethodHandle" ∧ y_Input_begin.cls ≠ "java/lang/invoke/VarHandle" ∧ (parseMethodDescriptor y_Input_begin.desc).map (fun d => d.parameters.length) = some 4 := by decide +kernel
abbrev y_Input_isAt : MethodName := ⟨"MacroMill$Input", "isAt", "(Z)Z"⟩
abbrev b_Input_isAt : ByteArray := prog_5_method_14_code
theorem hd_Input_isAt : y_Input_isAt.cls ≠ "java/lang/invoke/MethodHandle" ∧ y_Input_isAt.cls ≠ "java/lang/invoke/VarHandle" ∧ (parseMethodDescriptor y_Input_isAt.desc).map (fun d => d.parameters.length) = some 1 := by decide +kernel
abbrev y_Input_isAtParenthesis : MethodName := ⟨"MacroMill$Input", "isAtParenthesis", "()Z"⟩
abbrev b_Input_isAtParenthesis : ByteArray := prog_5_method_7_code
theorem hd_Input_isAtParenthesis : y_Input_isAtParenthesis.cls ≠ "java/lang/invoke/MethodHandle" ∧ y_Input_isAtParenthesis.cls ≠ "java/lang/invoke/VarHandle" ∧ (parseMethodDescriptor y_Input_isAtParenthesis.desc).map (fun d => d.parameters.length) = some 0 := by decide +kernel
abbrev y_Input_putBack : MethodName := ⟨"MacroMill$Input", "putBack", "([BI)Z"⟩
abbrev b_Input_putBack : ByteArray := prog_5_method_9_code
theorem hd_Input_putBack : y_Input_putBack.cls ≠ "java/lang/invoke/MethodHandle" ∧ y_Input_putBack.cls ≠ "java/lang/invoke/VarHandle" ∧ (parseMethodDescriptor y_Input_putBack.desc).map (fun d => d.parameters.length) = some 2 := by decide +kernel
abbrev y_Input_quoteByte : MethodName := ⟨"MacroMill$Input", "quoteByte", "(ZI)I"⟩
abbrev b_Input_quoteByte : ByteArray := prog_5_method_6_code
theorem hd_Input_quoteByte : y_Input_quoteByte.cls ≠ "java/lang/invoke/MethodHandle" ∧ y_Input_quoteByte.cls ≠ "java/lang/invoke/VarHandle" ∧ (parseMethodDescriptor y_Input_quoteByte.desc).map (fun d => d.parameters.length) = some 2 := by decide +kernel
abbrev y_Input_quoteLength : MethodName := ⟨"MacroMill$Input", "quoteLength", "(Z)I"⟩
abbrev b_Input_quoteLength : ByteArray := prog_5_method_5_code
theorem hd_Input_quoteLength : y_Input_quoteLength.cls ≠ "java/lang/invoke/MethodHandle" ∧ y_Input_quoteLength.cls ≠ "java/lang/invoke/VarHandle" ∧ (parseMethodDescriptor y_Input_quoteLength.desc).map (fun d => d.parameters.length) = some 1 := by decide +kernel
abbrev y_Input_readName : MethodName := ⟨"MacroMill$Input", "readName", "()V"⟩
abbrev b_Input_readName : ByteArray := prog_5_method_12_code
theorem hd_Input_readName : y_Input_readName.cls ≠ "java/lang/invoke/MethodHandle" ∧ y_Input_readName.cls ≠ "java/lang/invoke/VarHandle" ∧ (parseMethodDescriptor y_Input_readName.desc).map (fun d => d.parameters.length) = some 0 := by decide +kernel
abbrev y_Input_readQuoted : MethodName := ⟨"MacroMill$Input", "readQuoted", "()V"⟩
abbrev b_Input_readQuoted : ByteArray := prog_5_method_13_code
theorem hd_Input_readQuoted : y_Input_readQuoted.cls ≠ "java/lang/invoke/MethodHandle" ∧ y_Input_readQuoted.cls ≠ "java/lang/invoke/VarHandle" ∧ (parseMethodDescriptor y_Input_readQuoted.desc).map (fun d => d.parameters.length) = some 0 := by decide +kernel
abbrev y_Input_readToken : MethodName := ⟨"MacroMill$Input", "readToken", "()V"⟩
abbrev b_Input_readToken : ByteArray := prog_5_method_11_code
theorem hd_Input_readToken : y_Input_readToken.cls ≠ "java/lang/invoke/MethodHandle" ∧ y_Input_readToken.cls ≠ "java/lang/invoke/VarHandle" ∧ (parseMethodDescriptor y_Input_readToken.desc).map (fun d => d.parameters.length) = some 0 := by decide +kernel
abbrev y_Input_setFirstQuotes : MethodName := ⟨"MacroMill$Input", "setFirstQuotes", "()V"⟩
abbrev b_Input_setFirstQuotes : ByteArray := prog_5_method_3_code
theorem hd_Input_setFirstQuotes : y_Input_setFirstQuotes.cls ≠ "java/lang/invoke/MethodHandle" ∧ y_Input_setFirstQuotes.cls ≠ "java/lang/invoke/VarHandle" ∧ (parseMethodDescriptor y_Input_setFirstQuotes.desc).map (fun d => d.parameters.length) = some 0 := by decide +kernel
abbrev y_Input_setQuotes : MethodName := ⟨"MacroMill$Input", "setQuotes", "([BIIII)V"⟩
abbrev b_Input_setQuotes : ByteArray := prog_5_method_4_code
theorem hd_Input_setQuotes : y_Input_setQuotes.cls ≠ "java/lang/invoke/MethodHandle" ∧ y_Input_setQuotes.cls ≠ "java/lang/invoke/VarHandle" ∧ (parseMethodDescriptor y_Input_setQuotes.desc).map (fun d => d.parameters.length) = some 5 := by decide +kernel
abbrev y_Input_take : MethodName := ⟨"MacroMill$Input", "take", "()Z"⟩
abbrev b_Input_take : ByteArray := prog_5_method_8_code
theorem hd_Input_take : y_Input_take.cls ≠ "java/lang/invoke/MethodHandle" ∧ y_Input_take.cls ≠ "java/lang/invoke/VarHandle" ∧ (parseMethodDescriptor y_Input_take.desc).map (fun d => d.parameters.length) = some 0 := by decide +kernel
abbrev y_Input_takeLine : MethodName := ⟨"MacroMill$Input", "takeLine", "()V"⟩
abbrev b_Input_takeLine : ByteArray := prog_5_method_10_code
theorem hd_Input_takeLine : y_Input_takeLine.cls ≠ "java/lang/invoke/MethodHandle" ∧ y_Input_takeLine.cls ≠ "java/lang/invoke/VarHandle" ∧ (parseMethodDescriptor y_Input_takeLine.desc).map (fun d => d.parameters.length) = some 0 := by decide +kernel
abbrev y_Input_takeQuote : MethodName := ⟨"MacroMill$Input", "takeQuote", "(Z)Z"⟩
abbrev b_Input_takeQuote : ByteArray := prog_5_method_15_code
theorem hd_Input_takeQuote : y_Input_takeQuote.cls ≠ "java/lang/invoke/MethodHandle" ∧ y_Input_takeQuote.cls ≠ "java/lang/invoke/VarHandle" ∧ (parseMethodDescriptor y_Input_takeQuote.desc).map (fun d => d.parameters.length) = some 1 := by decide +kernel
abbrev y_Calls_init : MethodName := ⟨"MacroMill$Calls", "<init>", "()V"⟩
abbrev b_Calls_init : ByteArray := prog_2_method_1_code
theorem hd_Calls_init : y_Calls_init.cls ≠ "java/lang/invoke/MethodHandle" ∧ y_Calls_init.cls ≠ "java/lang/invoke/VarHandle" ∧ (parseMethodDescriptor y_Calls_init.desc).map (fun d => d.parameters.length) = some 0 := by decide +kernel
abbrev y_Calls_append : MethodName := ⟨"MacroMill$Calls", "append", "([BII)Z"⟩
abbrev b_Calls_append : ByteArray := prog_2_method_7_code
theorem hd_Calls_append : y_Calls_append.cls ≠ "java/lang/invoke/MethodHandle" ∧ y_Calls_append.cls ≠ "java/lang/invoke/VarHandle" ∧ (parseMethodDescriptor y_Calls_append.desc).map (fun d => d.parameters.length) = some 3 := by decide +kernel
abbrev y_Calls_areSameArguments : MethodName := ⟨"MacroMill$Calls", "areSameArguments", "(II)Z"⟩
abbrev b_Calls_areSameArguments : ByteArray := prog_2_method_17_code
theorem hd_Calls_areSameArguments : y_Calls_areSameArguments.cls ≠ "java/lang/invoke/MethodHandle" ∧ y_Calls_areSameArguments.cls ≠ "java/lang/invoke/VarHandle" ∧ (parseMethodDescriptor y_Calls_areSameArguments.desc).map (fun d => d.parameters.length) = some 2 := by decide +kernel
abbrev y_Calls_argumentFrom : MethodName := ⟨"MacroMill$Calls", "argumentFrom", "(I)I"⟩
abbrev b_Calls_argumentFrom : ByteArray := prog_2_method_15_code
theorem hd_Calls_argumentFrom : y_Calls_argumentFrom.cls ≠ "java/lang/invoke/MethodHandle" ∧ y_Calls_argumentFrom.cls ≠ "java/lang/invoke/VarHandle" ∧ (parseMethodDescriptor y_Calls_argumentFrom.desc).map (fun d => d.parameters.length) = some 1 := by decide +kernel
abbrev y_Calls_argumentSize : MethodName := ⟨"MacroMill$Calls", "argumentSize", "(I)I"⟩
abbrev b_Calls_argumentSize : ByteArray := prog_2_method_16_code
theorem hd_Calls_argumentSize : y_Calls_argumentSize.cls ≠ "java/lang/invoke/MethodHandle" ∧ y_Calls_argumentSize.cls ≠ "java/lang/invoke/VarHandle" ∧ (parseMethodDescriptor y_Calls_argumentSize.desc).map (fun d => d.parameters.length) = some 1 := by decide +kernel
abbrev y_Calls_arguments : MethodName := ⟨"MacroMill$Calls", "arguments", "()I"⟩
abbrev b_Calls_arguments : ByteArray := prog_2_method_14_code
theorem hd_Calls_arguments : y_Calls_arguments.cls ≠ "java/lang/invoke/MethodHandle" ∧ y_Calls_arguments.cls ≠ "java/lang/invoke/VarHandle" ∧ (parseMethodDescriptor y_Calls_arguments.desc).map (fun d => d.parameters.length) = some 0 := by decide +kernel
abbrev y_Calls_beginArgument : MethodName := ⟨"MacroMill$Calls", "beginArgument", "()Z"⟩
abbrev b_Calls_beginArgument : ByteArray := prog_2_method_6_code
theorem hd_Calls_beginArgument : y_Calls_beginArgument.cls ≠ "java/lang/invoke/MethodHandle" ∧ y_Calls_beginArgument.cls ≠ "java/lang/invoke/VarHandle" ∧ (parseMethodDescriptor y_Calls_beginArgument.desc).map (fun d => d.parameters.length) = some 0 := by decide +kernel
abbrev y_Calls_clearAll : MethodName := ⟨"MacroMill$Calls", "clearAll", "()V"⟩
abbrev b_Calls_clearAll : ByteArray := prog_2_method_2_code
theorem hd_Calls_clearAll : y_Calls_clearAll.cls ≠ "java/lang/invoke/MethodHandle" ∧ y_Calls_clearAll.cls ≠ "java/lang/invoke/VarHandle" ∧ (parseMethodDescriptor y_Calls_clearAll.desc).map (fun d => d.parameters.length) = some 0 := by decide +kernel
abbrev y_Calls_closeOne : MethodName := ⟨"MacroMill$Calls", "closeOne", "()V"⟩
abbrev b_Calls_closeOne : ByteArray := prog_2_method_5_code
theorem hd_Calls_closeOne : y_Calls_closeOne.cls ≠ "java/lang/invoke/MethodHandle" ∧ y_Calls_closeOne.cls ≠ "java/lang/invoke/VarHandle" ∧ (parseMethodDescriptor y_Calls_closeOne.desc).map (fun d => d.parameters.length) = some 0 := by decide +kernel
abbrev y_Calls_hasBegun : MethodName := ⟨"MacroMill$Calls", "hasBegun", "()Z"⟩
abbrev b_Calls_hasBegun : ByteArray := prog_2_method_8_code
theorem hd_Calls_hasBegun : y_Calls_hasBegun.cls ≠ "java/lang/invoke/MethodHandle" ∧ y_Calls_hasBegun.cls ≠ "java/lang/invoke/VarHandle" ∧ (parseMethodDescriptor y_Calls_hasBegun.desc).map (fun d => d.parameters.length) = some 0 := by decide +kernel
abbrev y_Calls_isFull : MethodName := ⟨"MacroMill$Calls", "isFull", "()Z"⟩
abbrev b_Calls_isFull : ByteArray := prog_2_method_3_code
theorem hd_Calls_isFull : y_Calls_isFull.cls ≠ "java/lang/invoke/MethodHandle" ∧ y_Calls_isFull.cls ≠ "java/lang/invoke/VarHandle" ∧ (parseMethodDescriptor y_Calls_isFull.desc).map (fun d => d.parameters.length) = some 0 := by decide +kernel
abbrev y_Calls_isName : MethodName := ⟨"MacroMill$Calls", "isName", "(I)Z"⟩
abbrev b_Calls_isName : ByteArray := prog_2_method_18_code
theorem hd_Calls_isName : y_Calls_isName.cls ≠ "java/lang/invoke/MethodHandle" ∧ y_Calls_isName.cls ≠ "java/lang/invoke/VarHandle" ∧ (parseMethodDescriptor y_Calls_isName.desc).map (fun d => d.parameters.length) = some 1 := by decide +kernel
abbrev y_Calls_isQuote : MethodName := ⟨"MacroMill$Calls", "isQuote", "(I)Z"⟩
abbrev b_Calls_isQuote : ByteArray := prog_2_method_19_code
theorem hd_Calls_isQuote : y_Calls_isQuote.cls ≠ "java/lang/invoke/MethodHandle" ∧ y_Calls_isQuote.cls ≠ "java/lang/invoke/VarHandle" ∧ (parseMethodDescriptor y_Calls_isQuote.desc).map (fun d => d.parameters.length) = some 1 := by decide +kernel
abbrev y_Calls_markBegun : MethodName := ⟨"MacroMill$Calls", "markBegun", "()V"⟩
abbrev b_Calls_markBegun : ByteArray := prog_2_method_9_code
theorem hd_Calls_markBegun : y_Calls_markBegun.cls ≠ "java/lang/invoke/MethodHandle" ∧ y_Calls_markBegun.cls ≠ "java/lang/invoke/VarHandle" ∧ (parseMethodDescriptor y_Calls_markBegun.desc).map (fun d => d.parameters.length) = some 0 := by decide +kernel
abbrev y_Calls_nameFrom : MethodName := ⟨"MacroMill$Calls", "nameFrom", "()I"⟩
abbrev b_Calls_nameFrom : ByteArray := prog_2_method_12_code
theorem hd_Calls_nameFrom : y_Calls_nameFrom.cls ≠ "java/lang/invoke/MethodHandle" ∧ y_Calls_nameFrom.cls ≠ "java/lang/invoke/VarHandle" ∧ (parseMethodDescriptor y_Calls_nameFrom.desc).map (fun d => d.parameters.length) = some 0 := by decide +kernel
abbrev y_Calls_nameSize : MethodName := ⟨"MacroMill$Calls", "nameSize", "()I"⟩
abbrev b_Calls_nameSize : ByteArray := prog_2_method_13_code
theorem hd_Calls_nameSize : y_Calls_nameSize.cls ≠ "java/lang/invoke/MethodHandle" ∧ y_Calls_nameSize.cls ≠ "java/lang/invoke/VarHandle" ∧ (parseMethodDescriptor y_Calls_nameSize.desc).map (fun d => d.parameters.length) = some 0 := by decide +kernel
abbrev y_Calls_nestBy : MethodName := ⟨"MacroMill$Calls", "nestBy", "(I)V"⟩
abbrev b_Calls_nestBy : ByteArray := prog_2_method_11_code
theorem hd_Calls_nestBy : y_Calls_nestBy.cls ≠ "java/lang/invoke/MethodHandle" ∧ y_Calls_nestBy.cls ≠ "java/lang/invoke/VarHandle" ∧ (parseMethodDescriptor y_Calls_nestBy.desc).map (fun d => d.parameters.length) = some 1 := by decide +kernel
abbrev y_Calls_nestingNow : MethodName := ⟨"MacroMill$Calls", "nestingNow", "()I"⟩
abbrev b_Calls_nestingNow : ByteArray := prog_2_method_10_code
theorem hd_Calls_nestingNow : y_Calls_nestingNow.cls ≠ "java/lang/invoke/MethodHandle" ∧ y_Calls_nestingNow.cls ≠ "java/lang/invoke/VarHandle" ∧ (parseMethodDescriptor y_Calls_nestingNow.desc).map (fun d => d.parameters.length) = some 0 := by decide +kernel
abbrev y_Calls_openOne : MethodName := ⟨"MacroMill$Calls", "openOne", "([BII)Z"⟩
abbrev b_Calls_openOne : ByteArray := prog_2_method_4_code
theorem hd_Calls_openOne : y_Calls_openOne.cls ≠ "java/lang/invoke/MethodHandle" ∧ y_Calls_openOne.cls ≠ "java/lang/invoke/VarHandle" ∧ (parseMethodDescriptor y_Calls_openOne.desc).map (fun d => d.parameters.length) = some 3 := by decide +kernel
abbrev y_Meanings_init : MethodName := ⟨"MacroMill$Meanings", "<init>", "()V"⟩
abbrev b_Meanings_init : ByteArray := prog_8_method_1_code
theorem hd_Meanings_init : y_Meanings_init.cls ≠ "java/lang/invoke/MethodHandle" ∧ y_Meanings_init.cls ≠ "java/lang/invoke/VarHandle" ∧ (parseMethodDescriptor y_Meanings_init.desc).map (fun d => d.parameters.length) = some 0 := by decide +kernel
abbrev y_Meanings_closeGaps : MethodName := ⟨"MacroMill$Meanings", "closeGaps", "()V"⟩
abbrev b_Meanings_closeGaps : ByteArray := prog_8_method_15_code
theorem hd_Meanings_closeGaps : y_Meanings_closeGaps.cls ≠ "java/lang/invoke/MethodHandle" ∧ y_Meanings_closeGaps.cls ≠ "java/lang/invoke/VarHandle" ∧ (parseMethodDescriptor y_Meanings_closeGaps.desc).map (fun d => d.parameters.length) = some 0 := by decide +kernel
abbrev y_Meanings_define : MethodName := ⟨"MacroMill$Meanings", "define", "([BIIIIZ)Z"⟩
abbrev b_Meanings_define : ByteArray := prog_8_method_9_code
theorem hd_Meanings_define : y_Meanings_define.cls ≠ "java/lang/invoke/MethodHandle" ∧ y_Meanings_define.cls ≠ "java/lang/invoke/VarHandle" ∧ (parseMethodDescriptor y_Meanings_define.desc).map (fun d => d.parameters.length) = some 6 := by decide +kernel
abbrev y_Meanings_find : MethodName := ⟨"MacroMill$Meanings", "find", "([BII)I"⟩
abbrev b_Meanings_find : ByteArray := prog_8_method_4_code
theorem hd_Meanings_find : y_Meanings_find.cls ≠ "java/lang/invoke/MethodHandle" ∧ y_Meanings_find.cls ≠ "java/lang/invoke/VarHandle" ∧ (parseMethodDescriptor y_Meanings_find.desc).map (fun d => d.parameters.length) = some 3 := by decide +kernel
abbrev y_Meanings_isNamed : MethodName := ⟨"MacroMill$Meanings", "isNamed", "(I[BII)Z"⟩
abbrev b_Meanings_isNamed : ByteArray := prog_8_method_11_code
theorem hd_Meanings_isNamed : y_Meanings_isNamed.cls ≠ "java/lang/invoke/MethodHandle" ∧ y_Meanings_isNamed.cls ≠ "java/lang/invoke/VarHandle" ∧ (parseMethodDescriptor y_Meanings_isNamed.desc).map (fun d => d.parameters.length) = some 4 := by decide +kernel
abbrev y_Meanings_kindOf : MethodName := ⟨"MacroMill$Meanings", "kindOf", "(I)I"⟩
abbrev b_Meanings_kindOf : ByteArray := prog_8_method_5_code
theorem hd_Meanings_kindOf : y_Meanings_kindOf.cls ≠ "java/lang/invoke/MethodHandle" ∧ y_Meanings_kindOf.cls ≠ "java/lang/invoke/VarHandle" ∧ (parseMethodDescriptor y_Meanings_kindOf.desc).map (fun d => d.parameters.length) = some 1 := by decide +kernel
abbrev y_Meanings_layBuiltIn : MethodName := ⟨"MacroMill$Meanings", "layBuiltIn", "()V"⟩
abbrev b_Meanings_layBuiltIn : ByteArray := prog_8_method_3_code
theorem hd_Meanings_layBuiltIn : y_Meanings_layBuiltIn.cls ≠ "java/lang/invoke/MethodHandle" ∧ y_Meanings_layBuiltIn.cls ≠ "java/lang/invoke/VarHandle" ∧ (parseMethodDescriptor y_Meanings_layBuiltIn.desc).map (fun d => d.parameters.length) = some 0 := by decide +kernel
abbrev y_Meanings_makeRoom : MethodName := ⟨"MacroMill$Meanings", "makeRoom", "(I)I"⟩
abbrev b_Meanings_makeRoom : ByteArray := prog_8_method_14_code
theorem hd_Meanings_makeRoom : y_Meanings_makeRoom.cls ≠ "java/lang/invoke/MethodHandle" ∧ y_Meanings_makeRoom.cls ≠ "java/lang/invoke/VarHandle" ∧ (parseMethodDescriptor y_Meanings_makeRoom.desc).map (fun d => d.parameters.length) = some 1 := by decide +kernel
abbrev y_Meanings_release : MethodName := ⟨"MacroMill$Meanings", "release", "(I)V"⟩
abbrev b_Meanings_release : ByteArray := prog_8_method_13_code
theorem hd_Meanings_release : y_Meanings_release.cls ≠ "java/lang/invoke/MethodHandle" ∧ y_Meanings_release.cls ≠ "java/lang/invoke/VarHandle" ∧ (parseMethodDescriptor y_Meanings_release.desc).map (fun d => d.parameters.length) = some 1 := by decide +kernel
abbrev y_Meanings_remove : MethodName := ⟨"MacroMill$Meanings", "remove", "([BIIZ)V"⟩
abbrev b_Meanings_remove : ByteArray := prog_8_method_10_code
theorem hd_Meanings_remove : y_Meanings_remove.cls ≠ "java/lang/invoke/MethodHandle" ∧ y_Meanings_remove.cls ≠ "java/lang/invoke/VarHandle" ∧ (parseMethodDescriptor y_Meanings_remove.desc).map (fun d => d.parameters.length) = some 4 := by decide +kernel
abbrev y_Meanings_reset : MethodName := ⟨"MacroMill$Meanings", "reset", "()V"⟩
abbrev b_Meanings_reset : ByteArray := prog_8_method_2_code
theorem hd_Meanings_reset : y_Meanings_reset.cls ≠ "java/lang/invoke/MethodHandle" ∧ y_Meanings_reset.cls ≠ "java/lang/invoke/VarHandle" ∧ (parseMethodDescriptor y_Meanings_reset.desc).map (fun d => d.parameters.length) = some 0 := by decide +kernel
abbrev y_Meanings_takeNode : MethodName := ⟨"MacroMill$Meanings", "takeNode", "(I)I"⟩
abbrev b_Meanings_takeNode : ByteArray := prog_8_method_12_code
theorem hd_Meanings_takeNode : y_Meanings_takeNode.cls ≠ "java/lang/invoke/MethodHandle" ∧ y_Meanings_takeNode.cls ≠ "java/lang/invoke/VarHandle" ∧ (parseMethodDescriptor y_Meanings_takeNode.desc).map (fun d => d.parameters.length) = some 1 := by decide +kernel
abbrev y_Meanings_textFrom : MethodName := ⟨"MacroMill$Meanings", "textFrom", "(I)I"⟩
abbrev b_Meanings_textFrom : ByteArray := prog_8_method_7_code
theorem hd_Meanings_textFrom : y_Meanings_textFrom.cls ≠ "java/lang/invoke/MethodHandle" ∧ y_Meanings_textFrom.cls ≠ "java/lang/invoke/VarHandle" ∧ (parseMethodDescriptor y_Meanings_textFrom.desc).map (fun d => d.parameters.length) = some 1 := by decide +kernel
abbrev y_Meanings_textSize : MethodName := ⟨"MacroMill$Meanings", "textSize", "(I)I"⟩
abbrev b_Meanings_textSize : ByteArray := prog_8_method_8_code
theorem hd_Meanings_textSize : y_Meanings_textSize.cls ≠ "java/lang/invoke/MethodHandle" ∧ y_Meanings_textSize.cls ≠ "java/lang/invoke/VarHandle" ∧ (parseMethodDescriptor y_Meanings_textSize.desc).map (fun d => d.parameters.length) = some 1 := by decide +kernel
abbrev y_Meanings_wantsParenthesis : MethodName := ⟨"MacroMill$Meanings", "wantsParenthesis", "(I)Z"⟩
abbrev b_Meanings_wantsParenthesis : ByteArray := prog_8_method_6_code
theorem hd_Meanings_wantsParenthesis : y_Meanings_wantsParenthesis.cls ≠ "java/lang/invoke/MethodHandle" ∧ y_Meanings_wantsParenthesis.cls ≠ "java/lang/invoke/VarHandle" ∧ (parseMethodDescriptor y_Meanings_wantsParenthesis.desc).map (fun d => d.parameters.length) = some 1 := by decide +kernel
abbrev y_Second_init : MethodName := ⟨"MacroMill$Second", "<init>", "(LMacroMill$Files;LMacroMill$Outcome;LMacroMill$Reckoner;)V"⟩
abbrev b_Second_init : ByteArray := prog_12_method_1_code
theorem hd_Second_init : y_Second_init.cls ≠ "java/lang/invoke/MethodHandle" ∧ y_Second_init.cls ≠ "java/lang/invoke/VarHandle" ∧ (parseMethodDescriptor y_Second_init.desc).map (fun d => d.parameters.length) = some 3 := by decide +kernel
abbrev y_Second_addBlankToTitle : MethodName := ⟨"MacroMill$Second", "addBlankToTitle", "()V"⟩
abbrev b_Second_addBlankToTitle : ByteArray := prog_12_method_30_code
theorem hd_Second_addBlankToTitle : y_Second_addBlankToTitle.cls ≠ "java/lang/invoke/MethodHandle" ∧ y_Second_addBlankToTitle.cls ≠ "java/lang/invoke/VarHandle" ∧ (parseMethodDescriptor y_Second_addBlankToTitle.desc).map (fun d => d.parameters.length) = some 0 := by decide +kernel
abbrev y_Second_addToTitle : MethodName := ⟨"MacroMill$Second", "addToTitle", "(II)V"⟩
abbrev b_Second_addToTitle : ByteArray := prog_12_method_31_code
theorem hd_Second_addToTitle : y_Second_addToTitle.cls ≠ "java/lang/invoke/MethodHandle" ∧ y_Second_addToTitle.cls ≠ "java/lang/invoke/VarHandle" ∧ (parseMethodDescriptor y_Second_addToTitle.desc).map (fun d => d.parameters.length) = some 2 := by decide +kernel
abbrev y_Second_areHashesFine : MethodName := ⟨"MacroMill$Second", "areHashesFine", "(I)Z"⟩
abbrev b_Second_areHashesFine : ByteArray := prog_12_method_37_code
theorem hd_Second_areHashesFine : y_Second_areHashesFine.cls ≠ "java/lang/invoke/MethodHandle" ∧ y_Second_areHashesFine.cls ≠ "java/lang/invoke/VarHandle" ∧ (parseMethodDescriptor y_Second_areHashesFine.desc).map (fun d => d.parameters.length) = some 1 := by decide +kernel
abbrev y_Second_beginTitled : MethodName := ⟨"MacroMill$Second", "beginTitled", "(I)V"⟩
abbrev b_Second_beginTitled : ByteArray := prog_12_method_32_code
theorem hd_Second_beginTitled : y_Second_beginTitled.cls ≠ "java/lang/invoke/MethodHandle" ∧ y_Second_beginTitled.cls ≠ "java/lang/invoke/VarHandle" ∧ (parseMethodDescriptor y_Second_beginTitled.desc).map (fun d => d.parameters.length) = some 1 := by decide +kernel
abbrev y_Second_continueCondition : MethodName := ⟨"MacroMill$Second", "continueCondition", "(I)Z"⟩
abbrev b_Second_continueCondition : ByteArray := prog_12_method_18_code
theorem hd_Second_continueCondition : y_Second_continueCondition.cls ≠ "java/lang/invoke/MethodHandle" ∧ y_Second_continueCondition.cls ≠ "java/lang/invoke/VarHandle" ∧ (parseMethodDescriptor y_Second_continueCondition.desc).map (fun d => d.parameters.length) = some 1 := by decide +kernel
abbrev y_Second_define : MethodName := ⟨"MacroMill$Second", "define", "()V"⟩
abbrev b_Second_define : ByteArray := prog_12_method_33_code
theorem hd_Second_define : y_Second_define.cls ≠ "java/lang/invoke/MethodHandle" ∧ y_Second_define.cls ≠ "java/lang/invoke/VarHandle" ∧ (parseMethodDescriptor y_Second_define.desc).map (fun d => d.parameters.length) = some 0 := by decide +kernel
abbrev y_Second_digitOf : MethodName := ⟨"MacroMill$Second", "digitOf", "(I)I"⟩
abbrev b_Second_digitOf : ByteArray := prog_12_method_23_code
theorem hd_Second_digitOf : y_Second_digitOf.cls ≠ "java/lang/invoke/MethodHandle" ∧ y_Second_digitOf.cls ≠ "java/lang/invoke/VarHandle" ∧ (parseMethodDescriptor y_Second_digitOf.desc).map (fun d => d.parameters.length) = some 1 := by decide +kernel
abbrev y_Second_endFile : MethodName := ⟨"MacroMill$Second", "endFile", "()V"⟩
abbrev b_Second_endFile : ByteArray := prog_12_method_6_code
theorem hd_Second_endFile : y_Second_endFile.cls ≠ "java/lang/invoke/MethodHandle" ∧ y_Second_endFile.cls ≠ "java/lang/invoke/VarHandle" ∧ (parseMethodDescriptor y_Second_endFile.desc).map (fun d => d.parameters.length) = some 0 := by decide +kernel
abbrev y_Second_evaluate : MethodName := ⟨"MacroMill$Second", "evaluate", "(I)Z"⟩
abbrev b_Second_evaluate : ByteArray := prog_12_method_21_code
theorem hd_Second_evaluate : y_Second_evaluate.cls ≠ "java/lang/invoke/MethodHandle" ∧ y_Second_evaluate.cls ≠ "java/lang/invoke/VarHandle" ∧ (parseMethodDescriptor y_Second_evaluate.desc).map (fun d => d.parameters.length) = some 1 := by decide +kernel
abbrev y_Second_fail : MethodName := ⟨"MacroMill$Second", "fail", "(I)V"⟩
abbrev b_Second_fail : ByteArray := prog_12_method_4_code
theorem hd_Second_fail : y_Second_fail.cls ≠ "java/lang/invoke/MethodHandle" ∧ y_Second_fail.cls ≠ "java/lang/invoke/VarHandle" ∧ (parseMethodDescriptor y_Second_fail.desc).map (fun d => d.parameters.length) = some 1 := by decide +kernel
abbrev y_Second_failIfTooLong : MethodName := ⟨"MacroMill$Second", "failIfTooLong", "()V"⟩
abbrev b_Second_failIfTooLong : ByteArray := prog_12_method_11_code
theorem hd_Second_failIfTooLong : y_Second_failIfTooLong.cls ≠ "java/lang/invoke/MethodHandle" ∧ y_Second_failIfTooLong.cls ≠ "java/lang/invoke/VarHandle" ∧ (parseMethodDescriptor y_Second_failIfTooLong.desc).map (fun d => d.parameters.length) = some 0 := by decide +kernel
abbrev y_Second_findMacro : MethodName := ⟨"MacroMill$Second", "findMacro", "(I)I"⟩
abbrev b_Second_findMacro : ByteArray := prog_12_method_15_code
theorem hd_Second_findMacro : y_Second_findMacro.cls ≠ "java/lang/invoke/MethodHandle" ∧ y_Second_findMacro.cls ≠ "java/lang/invoke/VarHandle" ∧ (parseMethodDescriptor y_Second_findMacro.desc).map (fun d => d.parameters.length) = some 1 := by decide +kernel
abbrev y_Second_finishDirective : MethodName := ⟨"MacroMill$Second", "finishDirective", "(I)V"⟩
abbrev b_Second_finishDirective : ByteArray := prog_12_method_20_code
theorem hd_Second_finishDirective : y_Second_finishDirective.cls ≠ "java/lang/invoke/MethodHandle" ∧ y_Second_finishDirective.cls ≠ "java/lang/invoke/VarHandle" ∧ (parseMethodDescriptor y_Second_finishDirective.desc).map (fun d => d.parameters.length) = some 1 := by decide +kernel
abbrev y_Second_forget : MethodName := ⟨"MacroMill$Second", "forget", "()V"⟩
abbrev b_Second_forget : ByteArray := prog_12_method_2_code
theorem hd_Second_forget : y_Second_forget.cls ≠ "java/lang/invoke/MethodHandle" ∧ y_Second_forget.cls ≠ "java/lang/invoke/VarHandle" ∧ (parseMethodDescriptor y_Second_forget.desc).map (fun d => d.parameters.length) = some 0 := by decide +kernel
abbrev y_Second_include : MethodName := ⟨"MacroMill$Second", "include", "()V"⟩
abbrev b_Second_include : ByteArray := prog_12_method_28_code
theorem hd_Second_include : y_Second_include.cls ≠ "java/lang/invoke/MethodHandle" ∧ y_Second_include.cls ≠ "java/lang/invoke/VarHandle" ∧ (parseMethodDescriptor y_Second_include.desc).map (fun d => d.parameters.length) = some 0 := by decide +kernel
abbrev y_Second_isCounting : MethodName := ⟨"MacroMill$Second", "isCounting", "()Z"⟩
abbrev b_Second_isCounting : ByteArray := prog_12_method_7_code
theorem hd_Second_isCounting : y_Second_isCounting.cls ≠ "java/lang/invoke/MethodHandle" ∧ y_Second_isCounting.cls ≠ "java/lang/invoke/VarHandle" ∧ (parseMethodDescriptor y_Second_isCounting.desc).map (fun d => d.parameters.length) = some 0 := by decide +kernel
abbrev y_Second_isMacro : MethodName := ⟨"MacroMill$Second", "isMacro", "(I)Z"⟩
abbrev b_Second_isMacro : ByteArray := prog_12_method_16_code
theorem hd_Second_isMacro : y_Second_isMacro.cls ≠ "java/lang/invoke/MethodHandle" ∧ y_Second_isMacro.cls ≠ "java/lang/invoke/VarHandle" ∧ (parseMethodDescriptor y_Second_isMacro.desc).map (fun d => d.parameters.length) = some 1 := by decide +kernel
abbrev y_Second_isName : MethodName := ⟨"MacroMill$Second", "isName", "(I)Z"⟩
abbrev b_Second_isName : ByteArray := prog_12_method_13_code
theorem hd_Second_isName : y_Second_isName.cls ≠ "java/lang/invoke/MethodHandle" ∧ y_Second_isName.cls ≠ "java/lang/invoke/VarHandle" ∧ (parseMethodDescriptor y_Second_isName.desc).map (fun d => d.parameters.length) = some 1 := by decide +kernel
abbrev y_Second_isNameAlone : MethodName := ⟨"MacroMill$Second", "isNameAlone", "()Z"⟩
abbrev b_Second_isNameAlone : ByteArray := prog_12_method_14_code
theorem hd_Second_isNameAlone : y_Second_isNameAlone.cls ≠ "java/lang/invoke/MethodHandle" ∧ y_Second_isNameAlone.cls ≠ "java/lang/invoke/VarHandle" ∧ (parseMethodDescriptor y_Second_isNameAlone.desc).map (fun d => d.parameters.length) = some 0 := by decide +kernel
abbrev y_Second_isTooLarge : MethodName := ⟨"MacroMill$Second", "isTooLarge", "(JII)Z"⟩
abbrev b_Second_isTooLarge : ByteArray := prog_12_method_24_code
theorem hd_Second_isTooLarge : y_Second_isTooLarge.cls ≠ "java/lang/invoke/MethodHandle" ∧ y_Second_isTooLarge.cls ≠ "java/lang/invoke/VarHandle" ∧ (parseMethodDescriptor y_Second_isTooLarge.desc).map (fun d => d.parameters.length) = some 3 := by decide +kernel
abbrev y_Second_keepText : MethodName := ⟨"MacroMill$Second", "keepText", "()V"⟩
abbrev b_Second_keepText : ByteArray := prog_12_method_5_code
theorem hd_Second_keepText : y_Second_keepText.cls ≠ "java/lang/invoke/MethodHandle" ∧ y_Second_keepText.cls ≠ "java/lang/invoke/VarHandle" ∧ (parseMethodDescriptor y_Second_keepText.desc).map (fun d => d.parameters.length) = some 0 := by decide +kernel
abbrev y_Second_markParameters : MethodName := ⟨"MacroMill$Second", "markParameters", "(I)Z"⟩
abbrev b_Second_markParameters : ByteArray := prog_12_method_36_code
theorem hd_Second_markParameters : y_Second_markParameters.cls ≠ "java/lang/invoke/MethodHandle" ∧ y_Second_markParameters.cls ≠ "java/lang/invoke/VarHandle" ∧ (parseMethodDescriptor y_Second_markParameters.desc).map (fun d => d.parameters.length) = some 1 := by decide +kernel
abbrev y_Second_obey : MethodName := ⟨"MacroMill$Second", "obey", "(I)V"⟩
abbrev b_Second_obey : ByteArray := prog_12_method_8_code
theorem hd_Second_obey : y_Second_obey.cls ≠ "java/lang/invoke/MethodHandle" ∧ y_Second_obey.cls ≠ "java/lang/invoke/VarHandle" ∧ (parseMethodDescriptor y_Second_obey.desc).map (fun d => d.parameters.length) = some 1 := by decide +kernel
abbrev y_Second_obeyOther : MethodName := ⟨"MacroMill$Second", "obeyOther", "(I)V"⟩
abbrev b_Second_obeyOther : ByteArray := prog_12_method_10_code
theorem hd_Second_obeyOther : y_Second_obeyOther.cls ≠ "java/lang/invoke/MethodHandle" ∧ y_Second_obeyOther.cls ≠ "java/lang/invoke/VarHandle" ∧ (parseMethodDescriptor y_Second_obeyOther.desc).map (fun d => d.parameters.length) = some 1 := by decide +kernel
abbrev y_Second_openCondition : MethodName := ⟨"MacroMill$Second", "openCondition", "(I)V"⟩
abbrev b_Second_openCondition : ByteArray := prog_12_method_17_code
theorem hd_Second_openCondition : y_Second_openCondition.cls ≠ "java/lang/invoke/MethodHandle" ∧ y_Second_openCondition.cls ≠ "java/lang/invoke/VarHandle" ∧ (parseMethodDescriptor y_Second_openCondition.desc).map (fun d => d.parameters.length) = some 1 := by decide +kernel
abbrev y_Second_parameterOf : MethodName := ⟨"MacroMill$Second", "parameterOf", "(I)I"⟩
abbrev b_Second_parameterOf : ByteArray := prog_12_method_35_code
theorem hd_Second_parameterOf : y_Second_parameterOf.cls ≠ "java/lang/invoke/MethodHandle" ∧ y_Second_parameterOf.cls ≠ "java/lang/invoke/VarHandle" ∧ (parseMethodDescriptor y_Second_parameterOf.desc).map (fun d => d.parameters.length) = some 1 := by decide +kernel
abbrev y_Second_process : MethodName := ⟨"MacroMill$Second", "process", "(IZI)V"⟩
abbrev b_Second_process : ByteArray := prog_12_method_3_code
theorem hd_Second_process : y_Second_process.cls ≠ "java/lang/invoke/MethodHandle" ∧ y_Second_process.cls ≠ "java/lang/invoke/VarHandle" ∧ (parseMethodDescriptor y_Second_process.desc).map (fun d => d.parameters.length) = some 3 := by decide +kernel
abbrev y_Second_readParameters : MethodName := ⟨"MacroMill$Second", "readParameters", "(I)I"⟩
abbrev b_Second_readParameters : ByteArray := prog_12_method_34_code
theorem hd_Second_readParameters : y_Second_readParameters.cls ≠ "java/lang/invoke/MethodHandle" ∧ y_Second_readParameters.cls ≠ "java/lang/invoke/VarHandle" ∧ (parseMethodDescriptor y_Second_readParameters.desc).map (fun d => d.parameters.length) = some 1 := by decide +kernel
abbrev y_Second_readTitle : MethodName := ⟨"MacroMill$Second", "readTitle", "(I)I"⟩
abbrev b_Second_readTitle : ByteArray := prog_12_method_29_code
theorem hd_Second_readTitle : y_Second_readTitle.cls ≠ "java/lang/invoke/MethodHandle" ∧ y_Second_readTitle.cls ≠ "java/lang/invoke/VarHandle" ∧ (parseMethodDescriptor y_Second_readTitle.desc).map (fun d => d.parameters.length) = some 1 := by decide +kernel
abbrev y_Second_setLine : MethodName := ⟨"MacroMill$Second", "setLine", "(I)V"⟩
abbrev b_Second_setLine : ByteArray := prog_12_method_27_code
theorem hd_Second_setLine : y_Second_setLine.cls ≠ "java/lang/invoke/MethodHandle" ∧ y_Second_setLine.cls ≠ "java/lang/invoke/VarHandle" ∧ (parseMethodDescriptor y_Second_setLine.desc).map (fun d => d.parameters.length) = some 1 := by decide +kernel
abbrev y_Second_suffixOf : MethodName := ⟨"MacroMill$Second", "suffixOf", "(II)I"⟩
abbrev b_Second_suffixOf : ByteArray := prog_12_method_25_code
theorem hd_Second_suffixOf : y_Second_suffixOf.cls ≠ "java/lang/invoke/MethodHandle" ∧ y_Second_suffixOf.cls ≠ "java/lang/invoke/VarHandle" ∧ (parseMethodDescriptor y_Second_suffixOf.desc).map (fun d => d.parameters.length) = some 2 := by decide +kernel
abbrev y_Second_takeCharacter : MethodName := ⟨"MacroMill$Second", "takeCharacter", "(II)V"⟩
abbrev b_Second_takeCharacter : ByteArray := prog_12_method_26_code
theorem hd_Second_takeCharacter : y_Second_takeCharacter.cls ≠ "java/lang/invoke/MethodHandle" ∧ y_Second_takeCharacter.cls ≠ "java/lang/invoke/VarHandle" ∧ (parseMethodDescriptor y_Second_takeCharacter.desc).map (fun d => d.parameters.length) = some 2 := by decide +kernel
abbrev y_Second_takeNumber : MethodName := ⟨"MacroMill$Second", "takeNumber", "(II)V"⟩
abbrev b_Second_takeNumber : ByteArray := prog_12_method_22_code
theorem hd_Second_takeNumber : y_Second_takeNumber.cls ≠ "java/lang/invoke/MethodHandle" ∧ y_Second_takeNumber.cls ≠ "java/lang/invoke/VarHandle" ∧ (parseMethodDescriptor y_Second_takeNumber.desc).map (fun d => d.parameters.length) = some 2 := by decide +kernel
abbrev y_Second_waitForCondition : MethodName := ⟨"MacroMill$Second", "waitForCondition", "(I)V"⟩
abbrev b_Second_waitForCondition : ByteArray := prog_12_method_19_code
theorem hd_Second_waitForCondition : y_Second_waitForCondition.cls ≠ "java/lang/invoke/MethodHandle" ∧ y_Second_waitForCondition.cls ≠ "java/lang/invoke/VarHandle" ∧ (parseMethodDescriptor y_Second_waitForCondition.desc).map (fun d => d.parameters.length) = some 1 := by decide +kernel
abbrev y_Second_waitForTokens : MethodName := ⟨"MacroMill$Second", "waitForTokens", "(I)V"⟩
abbrev b_Second_waitForTokens : ByteArray := prog_12_method_12_code
theorem hd_Second_waitForTokens : y_Second_waitForTokens.cls ≠ "java/lang/invoke/MethodHandle" ∧ y_Second_waitForTokens.cls ≠ "java/lang/invoke/VarHandle" ∧ (parseMethodDescriptor y_Second_waitForTokens.desc).map (fun d => d.parameters.length) = some 1 := by decide +kernel
abbrev y_Second_wordOf : MethodName := ⟨"MacroMill$Second", "wordOf", "(I)I"⟩
abbrev b_Second_wordOf : ByteArray := prog_12_method_9_code
theorem hd_Second_wordOf : y_Second_wordOf.cls ≠ "java/lang/invoke/MethodHandle" ∧ y_Second_wordOf.cls ≠ "java/lang/invoke/VarHandle" ∧ (parseMethodDescriptor y_Second_wordOf.desc).map (fun d => d.parameters.length) = some 1 := by decide +kernel
abbrev y_Tokens_init : MethodName := ⟨"MacroMill$Tokens", "<init>", "()V"⟩
abbrev b_Tokens_init : ByteArray := prog_13_method_1_code
theorem hd_Tokens_init : y_Tokens_init.cls ≠ "java/lang/invoke/MethodHandle" ∧ y_Tokens_init.cls ≠ "java/lang/invoke/VarHandle" ∧ (parseMethodDescriptor y_Tokens_init.desc).map (fun d => d.parameters.length) = some 0 := by decide +kernel
abbrev y_Tokens_add : MethodName := ⟨"MacroMill$Tokens", "add", "(JI)I"⟩
abbrev b_Tokens_add : ByteArray := prog_13_method_25_code
theorem hd_Tokens_add : y_Tokens_add.cls ≠ "java/lang/invoke/MethodHandle" ∧ y_Tokens_add.cls ≠ "java/lang/invoke/VarHandle" ∧ (parseMethodDescriptor y_Tokens_add.desc).map (fun d => d.parameters.length) = some 2 := by decide +kernel
abbrev y_Tokens_areSpelledSame : MethodName := ⟨"MacroMill$Tokens", "areSpelledSame", "(JJ)Z"⟩
abbrev b_Tokens_areSpelledSame : ByteArray := prog_13_method_23_code
theorem hd_Tokens_areSpelledSame : y_Tokens_areSpelledSame.cls ≠ "java/lang/invoke/MethodHandle" ∧ y_Tokens_areSpelledSame.cls ≠ "java/lang/invoke/VarHandle" ∧ (parseMethodDescriptor y_Tokens_areSpelledSame.desc).map (fun d => d.parameters.length) = some 2 := by decide +kernel
abbrev y_Tokens_becomeTruth : MethodName := ⟨"MacroMill$Tokens", "becomeTruth", "(IZ)V"⟩
abbrev b_Tokens_becomeTruth : ByteArray := prog_13_method_26_code
theorem hd_Tokens_becomeTruth : y_Tokens_becomeTruth.cls ≠ "java/lang/invoke/MethodHandle" ∧ y_Tokens_becomeTruth.cls ≠ "java/lang/invoke/VarHandle" ∧ (parseMethodDescriptor y_Tokens_becomeTruth.desc).map (fun d => d.parameters.length) = some 2 := by decide +kernel
abbrev y_Tokens_clearAll : MethodName := ⟨"MacroMill$Tokens", "clearAll", "()V"⟩
abbrev b_Tokens_clearAll : ByteArray := prog_13_method_2_code
theorem hd_Tokens_clearAll : y_Tokens_clearAll.cls ≠ "java/lang/invoke/MethodHandle" ∧ y_Tokens_clearAll.cls ≠ "java/lang/invoke/VarHandle" ∧ (parseMethodDescriptor y_Tokens_clearAll.desc).map (fun d => d.parameters.length) = some 0 := by decide +kernel
abbrev y_Tokens_from : MethodName := ⟨"MacroMill$Tokens", "from", "(I)I"⟩
abbrev b_Tokens_from : ByteArray := prog_13_method_19_code
theorem hd_Tokens_from : y_Tokens_from.cls ≠ "java/lang/invoke/MethodHandle" ∧ y_Tokens_from.cls ≠ "java/lang/invoke/VarHandle" ∧ (parseMethodDescriptor y_Tokens_from.desc).map (fun d => d.parameters.length) = some 1 := by decide +kernel
abbrev y_Tokens_fromOf : MethodName := ⟨"MacroMill$Tokens", "fromOf", "(J)I"⟩
abbrev b_Tokens_fromOf : ByteArray := prog_13_method_4_code
theorem hd_Tokens_fromOf : y_Tokens_fromOf.cls ≠ "java/lang/invoke/MethodHandle" ∧ y_Tokens_fromOf.cls ≠ "java/lang/invoke/VarHandle" ∧ (parseMethodDescriptor y_Tokens_fromOf.desc).map (fun d => d.parameters.length) = some 1 := by decide +kernel
abbrev y_Tokens_isBehindBlank : MethodName := ⟨"MacroMill$Tokens", "isBehindBlank", "(I)Z"⟩
abbrev b_Tokens_isBehindBlank : ByteArray := prog_13_method_13_code
theorem hd_Tokens_isBehindBlank : y_Tokens_isBehindBlank.cls ≠ "java/lang/invoke/MethodHandle" ∧ y_Tokens_isBehindBlank.cls ≠ "java/lang/invoke/VarHandle" ∧ (parseMethodDescriptor y_Tokens_isBehindBlank.desc).map (fun d => d.parameters.length) = some 1 := by decide +kernel
abbrev y_Tokens_isFirstLook : MethodName := ⟨"MacroMill$Tokens", "isFirstLook", "(I)Z"⟩
abbrev b_Tokens_isFirstLook : ByteArray := prog_13_method_14_code
theorem hd_Tokens_isFirstLook : y_Tokens_isFirstLook.cls ≠ "java/lang/invoke/MethodHandle" ∧ y_Tokens_isFirstLook.cls ≠ "java/lang/invoke/VarHandle" ∧ (parseMethodDescriptor y_Tokens_isFirstLook.desc).map (fun d => d.parameters.length) = some 1 := by decide +kernel
abbrev y_Tokens_isNarrow : MethodName := ⟨"MacroMill$Tokens", "isNarrow", "(II)Z"⟩
abbrev b_Tokens_isNarrow : ByteArray := prog_13_method_24_code
theorem hd_Tokens_isNarrow : y_Tokens_isNarrow.cls ≠ "java/lang/invoke/MethodHandle" ∧ y_Tokens_isNarrow.cls ≠ "java/lang/invoke/VarHandle" ∧ (parseMethodDescriptor y_Tokens_isNarrow.desc).map (fun d => d.parameters.length) = some 2 := by decide +kernel
abbrev y_Tokens_isOverfull : MethodName := ⟨"MacroMill$Tokens", "isOverfull", "()Z"⟩
abbrev b_Tokens_isOverfull : ByteArray := prog_13_method_30_code
theorem hd_Tokens_isOverfull : y_Tokens_isOverfull.cls ≠ "java/lang/invoke/MethodHandle" ∧ y_Tokens_isOverfull.cls ≠ "java/lang/invoke/VarHandle" ∧ (parseMethodDescriptor y_Tokens_isOverfull.desc).map (fun d => d.parameters.length) = some 0 := by decide +kernel
abbrev y_Tokens_isSign : MethodName := ⟨"MacroMill$Tokens", "isSign", "(II)Z"⟩
abbrev b_Tokens_isSign : ByteArray := prog_13_method_21_code
theorem hd_Tokens_isSign : y_Tokens_isSign.cls ≠ "java/lang/invoke/MethodHandle" ∧ y_Tokens_isSign.cls ≠ "java/lang/invoke/VarHandle" ∧ (parseMethodDescriptor y_Tokens_isSign.desc).map (fun d => d.parameters.length) = some 2 := by decide +kernel
abbrev y_Tokens_isSignOfTwo : MethodName := ⟨"MacroMill$Tokens", "isSignOfTwo", "(II)Z"⟩
abbrev b_Tokens_isSignOfTwo : ByteArray := prog_13_method_39_code
theorem hd_Tokens_isSignOfTwo : y_Tokens_isSignOfTwo.cls ≠ "java/lang/invoke/MethodHandle" ∧ y_Tokens_isSignOfTwo.cls ≠ "java/lang/invoke/VarHandle" ∧ (parseMethodDescriptor y_Tokens_isSignOfTwo.desc).map (fun d => d.parameters.length) = some 2 := by decide +kernel
abbrev y_Tokens_isSpelled : MethodName := ⟨"MacroMill$Tokens", "isSpelled", "(ILjava/lang/String;)Z"⟩
abbrev b_Tokens_isSpelled : ByteArray := prog_13_method_22_code
theorem hd_Tokens_isSpelled : y_Tokens_isSpelled.cls ≠ "java/lang/invoke/MethodHandle" ∧ y_Tokens_isSpelled.cls ≠ "java/lang/invoke/VarHandle" ∧ (parseMethodDescriptor y_Tokens_isSpelled.desc).map (fun d => d.parameters.length) = some 2 := by decide +kernel
abbrev y_Tokens_kind : MethodName := ⟨"MacroMill$Tokens", "kind", "(I)I"⟩
abbrev b_Tokens_kind : ByteArray := prog_13_method_18_code
theorem hd_Tokens_kind : y_Tokens_kind.cls ≠ "java/lang/invoke/MethodHandle" ∧ y_Tokens_kind.cls ≠ "java/lang/invoke/VarHandle" ∧ (parseMethodDescriptor y_Tokens_kind.desc).map (fun d => d.parameters.length) = some 1 := by decide +kernel
abbrev y_Tokens_kindOf : MethodName := ⟨"MacroMill$Tokens", "kindOf", "(I)I"⟩
abbrev b_Tokens_kindOf : ByteArray := prog_13_method_12_code
theorem hd_Tokens_kindOf : y_Tokens_kindOf.cls ≠ "java/lang/invoke/MethodHandle" ∧ y_Tokens_kindOf.cls ≠ "java/lang/invoke/VarHandle" ∧ (parseMethodDescriptor y_Tokens_kindOf.desc).map (fun d => d.parameters.length) = some 1 := by decide +kernel
abbrev y_Tokens_layText : MethodName := ⟨"MacroMill$Tokens", "layText", "([BII)V"⟩
abbrev b_Tokens_layText : ByteArray := prog_13_method_31_code
theorem hd_Tokens_layText : y_Tokens_layText.cls ≠ "java/lang/invoke/MethodHandle" ∧ y_Tokens_layText.cls ≠ "java/lang/invoke/VarHandle" ∧ (parseMethodDescriptor y_Tokens_layText.desc).map (fun d => d.parameters.length) = some 3 := by decide +kernel
abbrev y_Tokens_length : MethodName := ⟨"MacroMill$Tokens", "length", "(I)I"⟩
abbrev b_Tokens_length : ByteArray := prog_13_method_20_code
theorem hd_Tokens_length : y_Tokens_length.cls ≠ "java/lang/invoke/MethodHandle" ∧ y_Tokens_length.cls ≠ "java/lang/invoke/VarHandle" ∧ (parseMethodDescriptor y_Tokens_length.desc).map (fun d => d.parameters.length) = some 1 := by decide +kernel
abbrev y_Tokens_lengthOf : MethodName := ⟨"MacroMill$Tokens", "lengthOf", "(J)I"⟩
abbrev b_Tokens_lengthOf : ByteArray := prog_13_method_5_code
theorem hd_Tokens_lengthOf : y_Tokens_lengthOf.cls ≠ "java/lang/invoke/MethodHandle" ∧ y_Tokens_lengthOf.cls ≠ "java/lang/invoke/VarHandle" ∧ (parseMethodDescriptor y_Tokens_lengthOf.desc).map (fun d => d.parameters.length) = some 1 := by decide +kernel
abbrev y_Tokens_line : MethodName := ⟨"MacroMill$Tokens", "line", "(I)I"⟩
abbrev b_Tokens_line : ByteArray := prog_13_method_17_code
theorem hd_Tokens_line : y_Tokens_line.cls ≠ "java/lang/invoke/MethodHandle" ∧ y_Tokens_line.cls ≠ "java/lang/invoke/VarHandle" ∧ (parseMethodDescriptor y_Tokens_line.desc).map (fun d => d.parameters.length) = some 1 := by decide +kernel
abbrev y_Tokens_lineAt : MethodName := ⟨"MacroMill$Tokens", "lineAt", "(I)I"⟩
abbrev b_Tokens_lineAt : ByteArray := prog_13_method_32_code
theorem hd_Tokens_lineAt : y_Tokens_lineAt.cls ≠ "java/lang/invoke/MethodHandle" ∧ y_Tokens_lineAt.cls ≠ "java/lang/invoke/VarHandle" ∧ (parseMethodDescriptor y_Tokens_lineAt.desc).map (fun d => d.parameters.length) = some 1 := by decide +kernel
abbrev y_Tokens_lineOf : MethodName := ⟨"MacroMill$Tokens", "lineOf", "(I)I"⟩
abbrev b_Tokens_lineOf : ByteArray := prog_13_method_16_code
theorem hd_Tokens_lineOf : y_Tokens_lineOf.cls ≠ "java/lang/invoke/MethodHandle" ∧ y_Tokens_lineOf.cls ≠ "java/lang/invoke/VarHandle" ∧ (parseMethodDescriptor y_Tokens_lineOf.desc).map (fun d => d.parameters.length) = some 1 := by decide +kernel
abbrev y_Tokens_looking : MethodName := ⟨"MacroMill$Tokens", "looking", "(IZZI)I"⟩
abbrev b_Tokens_looking : ByteArray := prog_13_method_6_code
theorem hd_Tokens_looking : y_Tokens_looking.cls ≠ "java/lang/invoke/MethodHandle" ∧ y_Tokens_looking.cls ≠ "java/lang/invoke/VarHandle" ∧ (parseMethodDescriptor y_Tokens_looking.desc).map (fun d => d.parameters.length) = some 4 := by decide +kernel
abbrev y_Tokens_make : MethodName := ⟨"MacroMill$Tokens", "make", "(I)V"⟩
abbrev b_Tokens_make : ByteArray := prog_13_method_27_code
theorem hd_Tokens_make : y_Tokens_make.cls ≠ "java/lang/invoke/MethodHandle" ∧ y_Tokens_make.cls ≠ "java/lang/invoke/VarHandle" ∧ (parseMethodDescriptor y_Tokens_make.desc).map (fun d => d.parameters.length) = some 1 := by decide +kernel
abbrev y_Tokens_makeCopy : MethodName := ⟨"MacroMill$Tokens", "makeCopy", "(J)J"⟩
abbrev b_Tokens_makeCopy : ByteArray := prog_13_method_28_code
theorem hd_Tokens_makeCopy : y_Tokens_makeCopy.cls ≠ "java/lang/invoke/MethodHandle" ∧ y_Tokens_makeCopy.cls ≠ "java/lang/invoke/VarHandle" ∧ (parseMethodDescriptor y_Tokens_makeCopy.desc).map (fun d => d.parameters.length) = some 1 := by decide +kernel
abbrev y_Tokens_makeNumber : MethodName := ⟨"MacroMill$Tokens", "makeNumber", "(I)V"⟩
abbrev b_Tokens_makeNumber : ByteArray := prog_13_method_29_code
theorem hd_Tokens_makeNumber : y_Tokens_makeNumber.cls ≠ "java/lang/invoke/MethodHandle" ∧ y_Tokens_makeNumber.cls ≠ "java/lang/invoke/VarHandle" ∧ (parseMethodDescriptor y_Tokens_makeNumber.desc).map (fun d => d.parameters.length) = some 1 := by decide +kernel
abbrev y_Tokens_moved : MethodName := ⟨"MacroMill$Tokens", "moved", "(I)I"⟩
abbrev b_Tokens_moved : ByteArray := prog_13_method_10_code
theorem hd_Tokens_moved : y_Tokens_moved.cls ≠ "java/lang/invoke/MethodHandle" ∧ y_Tokens_moved.cls ≠ "java/lang/invoke/VarHandle" ∧ (parseMethodDescriptor y_Tokens_moved.desc).map (fun d => d.parameters.length) = some 1 := by decide +kernel
abbrev y_Tokens_nameEnd : MethodName := ⟨"MacroMill$Tokens", "nameEnd", "(II)I"⟩
abbrev b_Tokens_nameEnd : ByteArray := prog_13_method_36_code
theorem hd_Tokens_nameEnd : y_Tokens_nameEnd.cls ≠ "java/lang/invoke/MethodHandle" ∧ y_Tokens_nameEnd.cls ≠ "java/lang/invoke/VarHandle" ∧ (parseMethodDescriptor y_Tokens_nameEnd.desc).map (fun d => d.parameters.length) = some 2 := by decide +kernel
abbrev y_Tokens_numberEnd : MethodName := ⟨"MacroMill$Tokens", "numberEnd", "(II)I"⟩
abbrev b_Tokens_numberEnd : ByteArray := prog_13_method_37_code
theorem hd_Tokens_numberEnd : y_Tokens_numberEnd.cls ≠ "java/lang/invoke/MethodHandle" ∧ y_Tokens_numberEnd.cls ≠ "java/lang/invoke/VarHandle" ∧ (parseMethodDescriptor y_Tokens_numberEnd.desc).map (fun d => d.parameters.length) = some 2 := by decide +kernel
abbrev y_Tokens_placedAs : MethodName := ⟨"MacroMill$Tokens", "placedAs", "(II)I"⟩
abbrev b_Tokens_placedAs : ByteArray := prog_13_method_11_code
theorem hd_Tokens_placedAs : y_Tokens_placedAs.cls ≠ "java/lang/invoke/MethodHandle" ∧ y_Tokens_placedAs.cls ≠ "java/lang/invoke/VarHandle" ∧ (parseMethodDescriptor y_Tokens_placedAs.desc).map (fun d => d.parameters.length) = some 2 := by decide +kernel
abbrev y_Tokens_quoteEnd : MethodName := ⟨"MacroMill$Tokens", "quoteEnd", "(II)I"⟩
abbrev b_Tokens_quoteEnd : ByteArray := prog_13_method_35_code
theorem hd_Tokens_quoteEnd : y_Tokens_quoteEnd.cls ≠ "java/lang/invoke/MethodHandle" ∧ y_Tokens_quoteEnd.cls ≠ "java/lang/invoke/VarHandle" ∧ (parseMethodDescriptor y_Tokens_quoteEnd.desc).map (fun d => d.parameters.length) = some 2 := by decide +kernel
abbrev y_Tokens_scan : MethodName := ⟨"MacroMill$Tokens", "scan", "(II)I"⟩
abbrev b_Tokens_scan : ByteArray := prog_13_method_33_code
theorem hd_Tokens_scan : y_Tokens_scan.cls ≠ "java/lang/invoke/MethodHandle" ∧ y_Tokens_scan.cls ≠ "java/lang/invoke/VarHandle" ∧ (parseMethodDescriptor y_Tokens_scan.desc).map (fun d => d.parameters.length) = some 2 := by decide +kernel
abbrev y_Tokens_scannedKind : MethodName := ⟨"MacroMill$Tokens", "scannedKind", "()I"⟩
abbrev b_Tokens_scannedKind : ByteArray := prog_13_method_34_code
theorem hd_Tokens_scannedKind : y_Tokens_scannedKind.cls ≠ "java/lang/invoke/MethodHandle" ∧ y_Tokens_scannedKind.cls ≠ "java/lang/invoke/VarHandle" ∧ (parseMethodDescriptor y_Tokens_scannedKind.desc).map (fun d => d.parameters.length) = some 0 := by decide +kernel
abbrev y_Tokens_setOf : MethodName := ⟨"MacroMill$Tokens", "setOf", "(I)I"⟩
abbrev b_Tokens_setOf : ByteArray := prog_13_method_15_code
theorem hd_Tokens_setOf : y_Tokens_setOf.cls ≠ "java/lang/invoke/MethodHandle" ∧ y_Tokens_setOf.cls ≠ "java/lang/invoke/VarHandle" ∧ (parseMethodDescriptor y_Tokens_setOf.desc).map (fun d => d.parameters.length) = some 1 := by decide +kernel
abbrev y_Tokens_signEnd : MethodName := ⟨"MacroMill$Tokens", "signEnd", "(II)I"⟩
abbrev b_Tokens_signEnd : ByteArray := prog_13_method_38_code
theorem hd_Tokens_signEnd : y_Tokens_signEnd.cls ≠ "java/lang/invoke/MethodHandle" ∧ y_Tokens_signEnd.cls ≠ "java/lang/invoke/VarHandle" ∧ (parseMethodDescriptor y_Tokens_signEnd.desc).map (fun d => d.parameters.length) = some 2 := by decide +kernel
abbrev y_Tokens_spelled : MethodName := ⟨"MacroMill$Tokens", "spelled", "(II)J"⟩
abbrev b_Tokens_spelled : ByteArray := prog_13_method_3_code
theorem hd_Tokens_spelled : y_Tokens_spelled.cls ≠ "java/lang/invoke/MethodHandle" ∧ y_Tokens_spelled.cls ≠ "java/lang/invoke/VarHandle" ∧ (parseMethodDescriptor y_Tokens_spelled.desc).map (fun d => d.parameters.length) = some 2 := by decide +kernel
abbrev y_Tokens_withKind : MethodName := ⟨"MacroMill$Tokens", "withKind", "(II)I"⟩
abbrev b_Tokens_withKind : ByteArray := prog_13_method_7_code
theorem hd_Tokens_withKind : y_Tokens_withKind.cls ≠ "java/lang/invoke/MethodHandle" ∧ y_Tokens_withKind.cls ≠ "java/lang/invoke/VarHandle" ∧ (parseMethodDescriptor y_Tokens_withKind.desc).map (fun d => d.parameters.length) = some 2 := by decide +kernel
abbrev y_Tokens_withLine : MethodName := ⟨"MacroMill$Tokens", "withLine", "(II)I"⟩
abbrev b_Tokens_withLine : ByteArray := prog_13_method_9_code
theorem hd_Tokens_withLine : y_Tokens_withLine.cls ≠ "java/lang/invoke/MethodHandle" ∧ y_Tokens_withLine.cls ≠ "java/lang/invoke/VarHandle" ∧ (parseMethodDescriptor y_Tokens_withLine.desc).map (fun d => d.parameters.length) = some 2 := by decide +kernel
abbrev y_Tokens_withSet : MethodName := ⟨"MacroMill$Tokens", "withSet", "(II)I"⟩
abbrev b_Tokens_withSet : ByteArray := prog_13_method_8_code
theorem hd_Tokens_withSet : y_Tokens_withSet.cls ≠ "java/lang/invoke/MethodHandle" ∧ y_Tokens_withSet.cls ≠ "java/lang/invoke/VarHandle" ∧ (parseMethodDescriptor y_Tokens_withSet.desc).map (fun d => d.parameters.length) = some 2 := by decide +kernel
abbrev y_Macros_init : MethodName := ⟨"MacroMill$Macros", "<init>", "(LMacroMill$Tokens;)V"⟩
abbrev b_Macros_init : ByteArray := prog_7_method_1_code
theorem hd_Macros_init : y_Macros_init.cls ≠ "java/lang/invoke/MethodHandle" ∧ y_Macros_init.cls ≠ "java/lang/invoke/VarHandle" ∧ (parseMethodDescriptor y_Macros_init.desc).map (fun d => d.parameters.length) = some 1 := by decide +kernel
abbrev y_Macros_addEntry : MethodName := ⟨"MacroMill$Macros", "addEntry", "(I)V"⟩
abbrev b_Macros_addEntry : ByteArray := prog_7_method_12_code
theorem hd_Macros_addEntry : y_Macros_addEntry.cls ≠ "java/lang/invoke/MethodHandle" ∧ y_Macros_addEntry.cls ≠ "java/lang/invoke/VarHandle" ∧ (parseMethodDescriptor y_Macros_addEntry.desc).map (fun d => d.parameters.length) = some 1 := by decide +kernel
abbrev y_Macros_addName : MethodName := ⟨"MacroMill$Macros", "addName", "(I)I"⟩
abbrev b_Macros_addName : ByteArray := prog_7_method_11_code
theorem hd_Macros_addName : y_Macros_addName.cls ≠ "java/lang/invoke/MethodHandle" ∧ y_Macros_addName.cls ≠ "java/lang/invoke/VarHandle" ∧ (parseMethodDescriptor y_Macros_addName.desc).map (fun d => d.parameters.length) = some 1 := by decide +kernel
abbrev y_Macros_bodyEnd : MethodName := ⟨"MacroMill$Macros", "bodyEnd", "(I)I"⟩
abbrev b_Macros_bodyEnd : ByteArray := prog_7_method_7_code
theorem hd_Macros_bodyEnd : y_Macros_bodyEnd.cls ≠ "java/lang/invoke/MethodHandle" ∧ y_Macros_bodyEnd.cls ≠ "java/lang/invoke/VarHandle" ∧ (parseMethodDescriptor y_Macros_bodyEnd.desc).map (fun d => d.parameters.length) = some 1 := by decide +kernel
abbrev y_Macros_bodyFrom : MethodName := ⟨"MacroMill$Macros", "bodyFrom", "(I)I"⟩
abbrev b_Macros_bodyFrom : ByteArray := prog_7_method_6_code
theorem hd_Macros_bodyFrom : y_Macros_bodyFrom.cls ≠ "java/lang/invoke/MethodHandle" ∧ y_Macros_bodyFrom.cls ≠ "java/lang/invoke/VarHandle" ∧ (parseMethodDescriptor y_Macros_bodyFrom.desc).map (fun d => d.parameters.length) = some 1 := by decide +kernel
abbrev y_Macros_clearAll : MethodName := ⟨"MacroMill$Macros", "clearAll", "()V"⟩
abbrev b_Macros_clearAll : ByteArray := prog_7_method_2_code
theorem hd_Macros_clearAll : y_Macros_clearAll.cls ≠ "java/lang/invoke/MethodHandle" ∧ y_Macros_clearAll.cls ≠ "java/lang/invoke/VarHandle" ∧ (parseMethodDescriptor y_Macros_clearAll.desc).map (fun d => d.parameters.length) = some 0 := by decide +kernel
abbrev y_Macros_define : MethodName := ⟨"MacroMill$Macros", "define", "(I[IIZII)Z"⟩
abbrev b_Macros_define : ByteArray := prog_7_method_9_code
theorem hd_Macros_define : y_Macros_define.cls ≠ "java/lang/invoke/MethodHandle" ∧ y_Macros_define.cls ≠ "java/lang/invoke/VarHandle" ∧ (parseMethodDescriptor y_Macros_define.desc).map (fun d => d.parameters.length) = some 6 := by decide +kernel
abbrev y_Macros_find : MethodName := ⟨"MacroMill$Macros", "find", "([BII)I"⟩
abbrev b_Macros_find : ByteArray := prog_7_method_3_code
theorem hd_Macros_find : y_Macros_find.cls ≠ "java/lang/invoke/MethodHandle" ∧ y_Macros_find.cls ≠ "java/lang/invoke/VarHandle" ∧ (parseMethodDescriptor y_Macros_find.desc).map (fun d => d.parameters.length) = some 3 := by decide +kernel
abbrev y_Macros_findSet : MethodName := ⟨"MacroMill$Macros", "findSet", "()I"⟩
abbrev b_Macros_findSet : ByteArray := prog_7_method_17_code
theorem hd_Macros_findSet : y_Macros_findSet.cls ≠ "java/lang/invoke/MethodHandle" ∧ y_Macros_findSet.cls ≠ "java/lang/invoke/VarHandle" ∧ (parseMethodDescriptor y_Macros_findSet.desc).map (fun d => d.parameters.length) = some 0 := by decide +kernel
abbrev y_Macros_hasParameters : MethodName := ⟨"MacroMill$Macros", "hasParameters", "(I)Z"⟩
abbrev b_Macros_hasParameters : ByteArray := prog_7_method_5_code
theorem hd_Macros_hasParameters : y_Macros_hasParameters.cls ≠ "java/lang/invoke/MethodHandle" ∧ y_Macros_hasParameters.cls ≠ "java/lang/invoke/VarHandle" ∧ (parseMethodDescriptor y_Macros_hasParameters.desc).map (fun d => d.parameters.length) = some 1 := by decide +kernel
abbrev y_Macros_isHidden : MethodName := ⟨"MacroMill$Macros", "isHidden", "(II)Z"⟩
abbrev b_Macros_isHidden : ByteArray := prog_7_method_13_code
theorem hd_Macros_isHidden : y_Macros_isHidden.cls ≠ "java/lang/invoke/MethodHandle" ∧ y_Macros_isHidden.cls ≠ "java/lang/invoke/VarHandle" ∧ (parseMethodDescriptor y_Macros_isHidden.desc).map (fun d => d.parameters.length) = some 2 := by decide +kernel
abbrev y_Macros_isSame : MethodName := ⟨"MacroMill$Macros", "isSame", "(I[IIZII)Z"⟩
abbrev b_Macros_isSame : ByteArray := prog_7_method_8_code
theorem hd_Macros_isSame : y_Macros_isSame.cls ≠ "java/lang/invoke/MethodHandle" ∧ y_Macros_isSame.cls ≠ "java/lang/invoke/VarHandle" ∧ (parseMethodDescriptor y_Macros_isSame.desc).map (fun d => d.parameters.length) = some 6 := by decide +kernel
abbrev y_Macros_isThere : MethodName := ⟨"MacroMill$Macros", "isThere", "(I)Z"⟩
abbrev b_Macros_isThere : ByteArray := prog_7_method_4_code
theorem hd_Macros_isThere : y_Macros_isThere.cls ≠ "java/lang/invoke/MethodHandle" ∧ y_Macros_isThere.cls ≠ "java/lang/invoke/VarHandle" ∧ (parseMethodDescriptor y_Macros_isThere.desc).map (fun d => d.parameters.length) = some 1 := by decide +kernel
abbrev y_Macros_isWanted : MethodName := ⟨"MacroMill$Macros", "isWanted", "(I)Z"⟩
abbrev b_Macros_isWanted : ByteArray := prog_7_method_18_code
theorem hd_Macros_isWanted : y_Macros_isWanted.cls ≠ "java/lang/invoke/MethodHandle" ∧ y_Macros_isWanted.cls ≠ "java/lang/invoke/VarHandle" ∧ (parseMethodDescriptor y_Macros_isWanted.desc).map (fun d => d.parameters.length) = some 1 := by decide +kernel
abbrev y_Macros_joined : MethodName := ⟨"MacroMill$Macros", "joined", "(I)I"⟩
abbrev b_Macros_joined : ByteArray := prog_7_method_15_code
theorem hd_Macros_joined : y_Macros_joined.cls ≠ "java/lang/invoke/MethodHandle" ∧ y_Macros_joined.cls ≠ "java/lang/invoke/VarHandle" ∧ (parseMethodDescriptor y_Macros_joined.desc).map (fun d => d.parameters.length) = some 1 := by decide +kernel
abbrev y_Macros_keepCommon : MethodName := ⟨"MacroMill$Macros", "keepCommon", "(III)V"⟩
abbrev b_Macros_keepCommon : ByteArray := prog_7_method_14_code
theorem hd_Macros_keepCommon : y_Macros_keepCommon.cls ≠ "java/lang/invoke/MethodHandle" ∧ y_Macros_keepCommon.cls ≠ "java/lang/invoke/VarHandle" ∧ (parseMethodDescriptor y_Macros_keepCommon.desc).map (fun d => d.parameters.length) = some 3 := by decide +kernel
abbrev y_Macros_shared : MethodName := ⟨"MacroMill$Macros", "shared", "(II)I"⟩
abbrev b_Macros_shared : ByteArray := prog_7_method_16_code
theorem hd_Macros_shared : y_Macros_shared.cls ≠ "java/lang/invoke/MethodHandle" ∧ y_Macros_shared.cls ≠ "java/lang/invoke/VarHandle" ∧ (parseMethodDescriptor y_Macros_shared.desc).map (fun d => d.parameters.length) = some 2 := by decide +kernel
abbrev y_Macros_undefine : MethodName := ⟨"MacroMill$Macros", "undefine", "(I)V"⟩
abbrev b_Macros_undefine : ByteArray := prog_7_method_10_code
theorem hd_Macros_undefine : y_Macros_undefine.cls ≠ "java/lang/invoke/MethodHandle" ∧ y_Macros_undefine.cls ≠ "java/lang/invoke/VarHandle" ∧ (parseMethodDescriptor y_Macros_undefine.desc).map (fun d => d.parameters.length) = some 1 := by decide +kernel
abbrev y_Lines_init : MethodName := ⟨"MacroMill$Lines", "<init>", "(LMacroMill$Files;LMacroMill$Tokens;LMacroMill$Outcome;)V"⟩
abbrev b_Lines_init : ByteArray := prog_6_method_1_code
theorem hd_Lines_init : y_Lines_init.cls ≠ "java/lang/invoke/MethodHandle" ∧ y_Lines_init.cls ≠ "java/lang/invoke/VarHandle" ∧ (parseMethodDescriptor y_Lines_init.desc).map (fun d => d.parameters.length) = some 3 := by decide +kernel
abbrev y_Lines_begin : MethodName := ⟨"MacroMill$Lines", "begin", "(II)V"⟩
abbrev b_Lines_begin : ByteArray := prog_6_method_4_code
theorem hd_Lines_begin : y_Lines_begin.cls ≠ "java/lang/invoke/MethodHandle" ∧ y_Lines_begin.cls ≠ "java/lang/invoke/VarHandle" ∧ (parseMethodDescriptor y_Lines_begin.desc).map (fun d => d.parameters.length) = some 2 := by decide +kernel
abbrev y_Lines_clearAll : MethodName := ⟨"MacroMill$Lines", "clearAll", "()V"⟩
abbrev b_Lines_clearAll : ByteArray := prog_6_method_2_code
theorem hd_Lines_clearAll : y_Lines_clearAll.cls ≠ "java/lang/invoke/MethodHandle" ∧ y_Lines_clearAll.cls ≠ "java/lang/invoke/VarHandle" ∧ (parseMethodDescriptor y_Lines_clearAll.desc).map (fun d => d.parameters.length) = some 0 := by decide +kernel
abbrev y_Lines_commentEnd : MethodName := ⟨"MacroMill$Lines", "commentEnd", "(II)I"⟩
abbrev b_Lines_commentEnd : ByteArray := prog_6_method_13_code
theorem hd_Lines_commentEnd : y_Lines_commentEnd.cls ≠ "java/lang/invoke/MethodHandle" ∧ y_Lines_commentEnd.cls ≠ "java/lang/invoke/VarHandle" ∧ (parseMethodDescriptor y_Lines_commentEnd.desc).map (fun d => d.parameters.length) = some 2 := by decide +kernel
abbrev y_Lines_endFile : MethodName := ⟨"MacroMill$Lines", "endFile", "()V"⟩
abbrev b_Lines_endFile : ByteArray := prog_6_method_5_code
theorem hd_Lines_endFile : y_Lines_endFile.cls ≠ "java/lang/invoke/MethodHandle" ∧ y_Lines_endFile.cls ≠ "java/lang/invoke/VarHandle" ∧ (parseMethodDescriptor y_Lines_endFile.desc).map (fun d => d.parameters.length) = some 0 := by decide +kernel
abbrev y_Lines_lay : MethodName := ⟨"MacroMill$Lines", "lay", "(I[BII)V"⟩
abbrev b_Lines_lay : ByteArray := prog_6_method_3_code
theorem hd_Lines_lay : y_Lines_lay.cls ≠ "java/lang/invoke/MethodHandle" ∧ y_Lines_lay.cls ≠ "java/lang/invoke/VarHandle" ∧ (parseMethodDescriptor y_Lines_lay.desc).map (fun d => d.parameters.length) = some 4 := by decide +kernel
abbrev y_Lines_setLine : MethodName := ⟨"MacroMill$Lines", "setLine", "(I)V"⟩
abbrev b_Lines_setLine : ByteArray := prog_6_method_7_code
theorem hd_Lines_setLine : y_Lines_setLine.cls ≠ "java/lang/invoke/MethodHandle" ∧ y_Lines_setLine.cls ≠ "java/lang/invoke/VarHandle" ∧ (parseMethodDescriptor y_Lines_setLine.desc).map (fun d => d.parameters.length) = some 1 := by decide +kernel
abbrev y_Lines_setTitle : MethodName := ⟨"MacroMill$Lines", "setTitle", "([BII)V"⟩
abbrev b_Lines_setTitle : ByteArray := prog_6_method_6_code
theorem hd_Lines_setTitle : y_Lines_setTitle.cls ≠ "java/lang/invoke/MethodHandle" ∧ y_Lines_setTitle.cls ≠ "java/lang/invoke/VarHandle" ∧ (parseMethodDescriptor y_Lines_setTitle.desc).map (fun d => d.parameters.length) = some 3 := by decide +kernel
abbrev y_Lines_takeLine : MethodName := ⟨"MacroMill$Lines", "takeLine", "()Z"⟩
abbrev b_Lines_takeLine : ByteArray := prog_6_method_10_code
theorem hd_Lines_takeLine : y_Lines_takeLine.cls ≠ "java/lang/invoke/MethodHandle" ∧ y_Lines_takeLine.cls ≠ "java/lang/invoke/VarHandle" ∧ (parseMethodDescriptor y_Lines_takeLine.desc).map (fun d => d.parameters.length) = some 0 := by decide +kernel
abbrev y_Lines_takeToken : MethodName := ⟨"MacroMill$Lines", "takeToken", "(IIZ)I"⟩
abbrev b_Lines_takeToken : ByteArray := prog_6_method_12_code
theorem hd_Lines_takeToken : y_Lines_takeToken.cls ≠ "java/lang/invoke/MethodHandle" ∧ y_Lines_takeToken.cls ≠ "java/lang/invoke/VarHandle" ∧ (parseMethodDescriptor y_Lines_takeToken.desc).map (fun d => d.parameters.length) = some 3 := by decide +kernel
abbrev y_Lines_takeTokens : MethodName := ⟨"MacroMill$Lines", "takeTokens", "(II)I"⟩
abbrev b_Lines_takeTokens : ByteArray := prog_6_method_11_code
theorem hd_Lines_takeTokens : y_Lines_takeTokens.cls ≠ "java/lang/invoke/MethodHandle" ∧ y_Lines_takeTokens.cls ≠ "java/lang/invoke/VarHandle" ∧ (parseMethodDescriptor y_Lines_takeTokens.desc).map (fun d => d.parameters.length) = some 2 := by decide +kernel
abbrev y_Lines_titleByte : MethodName := ⟨"MacroMill$Lines", "titleByte", "(I)I"⟩
abbrev b_Lines_titleByte : ByteArray := prog_6_method_9_code
theorem hd_Lines_titleByte : y_Lines_titleByte.cls ≠ "java/lang/invoke/MethodHandle" ∧ y_Lines_titleByte.cls ≠ "java/lang/invoke/VarHandle" ∧ (parseMethodDescriptor y_Lines_titleByte.desc).map (fun d => d.parameters.length) = some 1 := by decide +kernel
abbrev y_Lines_toldLine : MethodName := ⟨"MacroMill$Lines", "toldLine", "(I)I"⟩
abbrev b_Lines_toldLine : ByteArray := prog_6_method_8_code
theorem hd_Lines_toldLine : y_Lines_toldLine.cls ≠ "java/lang/invoke/MethodHandle" ∧ y_Lines_toldLine.cls ≠ "java/lang/invoke/VarHandle" ∧ (parseMethodDescriptor y_Lines_toldLine.desc).map (fun d => d.parameters.length) = some 1 := by decide +kernel
abbrev y_Replacer_init : MethodName := ⟨"MacroMill$Replacer", "<init>", "(LMacroMill$Tokens;LMacroMill$Macros;LMacroMill$Lines;LMacroMill$Outcome;)V"⟩
abbrev b_Replacer_init : ByteArray := prog_11_method_1_code
theorem hd_Replacer_init : y_Replacer_init.cls ≠ "java/lang/invoke/MethodHandle" ∧ y_Replacer_init.cls ≠ "java/lang/invoke/VarHandle" ∧ (parseMethodDescriptor y_Replacer_init.desc).map (fun d => d.parameters.length) = some 4 := by decide +kernel
abbrev y_Replacer_append : MethodName := ⟨"MacroMill$Replacer", "append", "(IJI)V"⟩
abbrev b_Replacer_append : ByteArray := prog_11_method_13_code
theorem hd_Replacer_append : y_Replacer_append.cls ≠ "java/lang/invoke/MethodHandle" ∧ y_Replacer_append.cls ≠ "java/lang/invoke/VarHandle" ∧ (parseMethodDescriptor y_Replacer_append.desc).map (fun d => d.parameters.length) = some 3 := by decide +kernel
abbrev y_Replacer_call : MethodName := ⟨"MacroMill$Replacer", "call", "(IIII)I"⟩
abbrev b_Replacer_call : ByteArray := prog_11_method_15_code
theorem hd_Replacer_call : y_Replacer_call.cls ≠ "java/lang/invoke/MethodHandle" ∧ y_Replacer_call.cls ≠ "java/lang/invoke/VarHandle" ∧ (parseMethodDescriptor y_Replacer_call.desc).map (fun d => d.parameters.length) = some 4 := by decide +kernel
abbrev y_Replacer_clearRow : MethodName := ⟨"MacroMill$Replacer", "clearRow", "(I)V"⟩
abbrev b_Replacer_clearRow : ByteArray := prog_11_method_12_code
theorem hd_Replacer_clearRow : y_Replacer_clearRow.cls ≠ "java/lang/invoke/MethodHandle" ∧ y_Replacer_clearRow.cls ≠ "java/lang/invoke/VarHandle" ∧ (parseMethodDescriptor y_Replacer_clearRow.desc).map (fun d => d.parameters.length) = some 1 := by decide +kernel
abbrev y_Replacer_endArgument : MethodName := ⟨"MacroMill$Replacer", "endArgument", "(III)V"⟩
abbrev b_Replacer_endArgument : ByteArray := prog_11_method_21_code
theorem hd_Replacer_endArgument : y_Replacer_endArgument.cls ≠ "java/lang/invoke/MethodHandle" ∧ y_Replacer_endArgument.cls ≠ "java/lang/invoke/VarHandle" ∧ (parseMethodDescriptor y_Replacer_endArgument.desc).map (fun d => d.parameters.length) = some 3 := by decide +kernel
abbrev y_Replacer_finishCall : MethodName := ⟨"MacroMill$Replacer", "finishCall", "(IIII)I"⟩
abbrev b_Replacer_finishCall : ByteArray := prog_11_method_30_code
theorem hd_Replacer_finishCall : y_Replacer_finishCall.cls ≠ "java/lang/invoke/MethodHandle" ∧ y_Replacer_finishCall.cls ≠ "java/lang/invoke/VarHandle" ∧ (parseMethodDescriptor y_Replacer_finishCall.desc).map (fun d => d.parameters.length) = some 4 := by decide +kernel
abbrev y_Replacer_forgetKept : MethodName := ⟨"MacroMill$Replacer", "forgetKept", "(II)V"⟩
abbrev b_Replacer_forgetKept : ByteArray := prog_11_method_29_code
theorem hd_Replacer_forgetKept : y_Replacer_forgetKept.cls ≠ "java/lang/invoke/MethodHandle" ∧ y_Replacer_forgetKept.cls ≠ "java/lang/invoke/VarHandle" ∧ (parseMethodDescriptor y_Replacer_forgetKept.desc).map (fun d => d.parameters.length) = some 2 := by decide +kernel
abbrev y_Replacer_gatherArguments : MethodName := ⟨"MacroMill$Replacer", "gatherArguments", "(IIII)I"⟩
abbrev b_Replacer_gatherArguments : ByteArray := prog_11_method_20_code
theorem hd_Replacer_gatherArguments : y_Replacer_gatherArguments.cls ≠ "java/lang/invoke/MethodHandle" ∧ y_Replacer_gatherArguments.cls ≠ "java/lang/invoke/VarHandle" ∧ (parseMethodDescriptor y_Replacer_gatherArguments.desc).map (fun d => d.parameters.length) = some 4 := by decide +kernel
abbrev y_Replacer_hasRoomForKept : MethodName := ⟨"MacroMill$Replacer", "hasRoomForKept", "(I)Z"⟩
abbrev b_Replacer_hasRoomForKept : ByteArray := prog_11_method_24_code
theorem hd_Replacer_hasRoomForKept : y_Replacer_hasRoomForKept.cls ≠ "java/lang/invoke/MethodHandle" ∧ y_Replacer_hasRoomForKept.cls ≠ "java/lang/invoke/VarHandle" ∧ (parseMethodDescriptor y_Replacer_hasRoomForKept.desc).map (fun d => d.parameters.length) = some 1 := by decide +kernel
abbrev y_Replacer_isEmpty : MethodName := ⟨"MacroMill$Replacer", "isEmpty", "(II)Z"⟩
abbrev b_Replacer_isEmpty : ByteArray := prog_11_method_19_code
theorem hd_Replacer_isEmpty : y_Replacer_isEmpty.cls ≠ "java/lang/invoke/MethodHandle" ∧ y_Replacer_isEmpty.cls ≠ "java/lang/invoke/VarHandle" ∧ (parseMethodDescriptor y_Replacer_isEmpty.desc).map (fun d => d.parameters.length) = some 2 := by decide +kernel
abbrev y_Replacer_isHash : MethodName := ⟨"MacroMill$Replacer", "isHash", "(I)Z"⟩
abbrev b_Replacer_isHash : ByteArray := prog_11_method_17_code
theorem hd_Replacer_isHash : y_Replacer_isHash.cls ≠ "java/lang/invoke/MethodHandle" ∧ y_Replacer_isHash.cls ≠ "java/lang/invoke/VarHandle" ∧ (parseMethodDescriptor y_Replacer_isHash.desc).map (fun d => d.parameters.length) = some 1 := by decide +kernel
abbrev y_Replacer_isPasting : MethodName := ⟨"MacroMill$Replacer", "isPasting", "(II)Z"⟩
abbrev b_Replacer_isPasting : ByteArray := prog_11_method_18_code
theorem hd_Replacer_isPasting : y_Replacer_isPasting.cls ≠ "java/lang/invoke/MethodHandle" ∧ y_Replacer_isPasting.cls ≠ "java/lang/invoke/VarHandle" ∧ (parseMethodDescriptor y_Replacer_isPasting.desc).map (fun d => d.parameters.length) = some 2 := by decide +kernel
abbrev y_Replacer_keepForDirective : MethodName := ⟨"MacroMill$Replacer", "keepForDirective", "(JI)V"⟩
abbrev b_Replacer_keepForDirective : ByteArray := prog_11_method_11_code
theorem hd_Replacer_keepForDirective : y_Replacer_keepForDirective.cls ≠ "java/lang/invoke/MethodHandle" ∧ y_Replacer_keepForDirective.cls ≠ "java/lang/invoke/VarHandle" ∧ (parseMethodDescriptor y_Replacer_keepForDirective.desc).map (fun d => d.parameters.length) = some 2 := by decide +kernel
abbrev y_Replacer_leave : MethodName := ⟨"MacroMill$Replacer", "leave", "(III)V"⟩
abbrev b_Replacer_leave : ByteArray := prog_11_method_6_code
theorem hd_Replacer_leave : y_Replacer_leave.cls ≠ "java/lang/invoke/MethodHandle" ∧ y_Replacer_leave.cls ≠ "java/lang/invoke/VarHandle" ∧ (parseMethodDescriptor y_Replacer_leave.desc).map (fun d => d.parameters.length) = some 3 := by decide +kernel
abbrev y_Replacer_macroAt : MethodName := ⟨"MacroMill$Replacer", "macroAt", "(II)I"⟩
abbrev b_Replacer_macroAt : ByteArray := prog_11_method_5_code
theorem hd_Replacer_macroAt : y_Replacer_macroAt.cls ≠ "java/lang/invoke/MethodHandle" ∧ y_Replacer_macroAt.cls ≠ "java/lang/invoke/VarHandle" ∧ (parseMethodDescriptor y_Replacer_macroAt.desc).map (fun d => d.parameters.length) = some 2 := by decide +kernel
abbrev y_Replacer_parameterAt : MethodName := ⟨"MacroMill$Replacer", "parameterAt", "(II)I"⟩
abbrev b_Replacer_parameterAt : ByteArray := prog_11_method_16_code
theorem hd_Replacer_parameterAt : y_Replacer_parameterAt.cls ≠ "java/lang/invoke/MethodHandle" ∧ y_Replacer_parameterAt.cls ≠ "java/lang/invoke/VarHandle" ∧ (parseMethodDescriptor y_Replacer_parameterAt.desc).map (fun d => d.parameters.length) = some 2 := by decide +kernel
abbrev y_Replacer_paste : MethodName := ⟨"MacroMill$Replacer", "paste", "(IJII)V"⟩
abbrev b_Replacer_paste : ByteArray := prog_11_method_28_code
theorem hd_Replacer_paste : y_Replacer_paste.cls ≠ "java/lang/invoke/MethodHandle" ∧ y_Replacer_paste.cls ≠ "java/lang/invoke/VarHandle" ∧ (parseMethodDescriptor y_Replacer_paste.desc).map (fun d => d.parameters.length) = some 4 := by decide +kernel
abbrev y_Replacer_put : MethodName := ⟨"MacroMill$Replacer", "put", "(IJII)V"⟩
abbrev b_Replacer_put : ByteArray := prog_11_method_14_code
theorem hd_Replacer_put : y_Replacer_put.cls ≠ "java/lang/invoke/MethodHandle" ∧ y_Replacer_put.cls ≠ "java/lang/invoke/VarHandle" ∧ (parseMethodDescriptor y_Replacer_put.desc).map (fun d => d.parameters.length) = some 4 := by decide +kernel
abbrev y_Replacer_putArgument : MethodName := ⟨"MacroMill$Replacer", "putArgument", "(IIII)V"⟩
abbrev b_Replacer_putArgument : ByteArray := prog_11_method_22_code
theorem hd_Replacer_putArgument : y_Replacer_putArgument.cls ≠ "java/lang/invoke/MethodHandle" ∧ y_Replacer_putArgument.cls ≠ "java/lang/invoke/VarHandle" ∧ (parseMethodDescriptor y_Replacer_putArgument.desc).map (fun d => d.parameters.length) = some 4 := by decide +kernel
abbrev y_Replacer_putKept : MethodName := ⟨"MacroMill$Replacer", "putKept", "(III)V"⟩
abbrev b_Replacer_putKept : ByteArray := prog_11_method_25_code
theorem hd_Replacer_putKept : y_Replacer_putKept.cls ≠ "java/lang/invoke/MethodHandle" ∧ y_Replacer_putKept.cls ≠ "java/lang/invoke/VarHandle" ∧ (parseMethodDescriptor y_Replacer_putKept.desc).map (fun d => d.parameters.length) = some 3 := by decide +kernel
abbrev y_Replacer_putOut : MethodName := ⟨"MacroMill$Replacer", "putOut", "(JI)V"⟩
abbrev b_Replacer_putOut : ByteArray := prog_11_method_10_code
theorem hd_Replacer_putOut : y_Replacer_putOut.cls ≠ "java/lang/invoke/MethodHandle" ∧ y_Replacer_putOut.cls ≠ "java/lang/invoke/VarHandle" ∧ (parseMethodDescriptor y_Replacer_putOut.desc).map (fun d => d.parameters.length) = some 2 := by decide +kernel
abbrev y_Replacer_putReplaced : MethodName := ⟨"MacroMill$Replacer", "putReplaced", "(III)V"⟩
abbrev b_Replacer_putReplaced : ByteArray := prog_11_method_23_code
theorem hd_Replacer_putReplaced : y_Replacer_putReplaced.cls ≠ "java/lang/invoke/MethodHandle" ∧ y_Replacer_putReplaced.cls ≠ "java/lang/invoke/VarHandle" ∧ (parseMethodDescriptor y_Replacer_putReplaced.desc).map (fun d => d.parameters.length) = some 3 := by decide +kernel
abbrev y_Replacer_putText : MethodName := ⟨"MacroMill$Replacer", "putText", "(IIII)V"⟩
abbrev b_Replacer_putText : ByteArray := prog_11_method_26_code
theorem hd_Replacer_putText : y_Replacer_putText.cls ≠ "java/lang/invoke/MethodHandle" ∧ y_Replacer_putText.cls ≠ "java/lang/invoke/VarHandle" ∧ (parseMethodDescriptor y_Replacer_putText.desc).map (fun d => d.parameters.length) = some 4 := by decide +kernel
abbrev y_Replacer_replace : MethodName := ⟨"MacroMill$Replacer", "replace", "(III)V"⟩
abbrev b_Replacer_replace : ByteArray := prog_11_method_4_code
theorem hd_Replacer_replace : y_Replacer_replace.cls ≠ "java/lang/invoke/MethodHandle" ∧ y_Replacer_replace.cls ≠ "java/lang/invoke/VarHandle" ∧ (parseMethodDescriptor y_Replacer_replace.desc).map (fun d => d.parameters.length) = some 3 := by decide +kernel
abbrev y_Replacer_replaceDirective : MethodName := ⟨"MacroMill$Replacer", "replaceDirective", "(II)I"⟩
abbrev b_Replacer_replaceDirective : ByteArray := prog_11_method_3_code
theorem hd_Replacer_replaceDirective : y_Replacer_replaceDirective.cls ≠ "java/lang/invoke/MethodHandle" ∧ y_Replacer_replaceDirective.cls ≠ "java/lang/invoke/VarHandle" ∧ (parseMethodDescriptor y_Replacer_replaceDirective.desc).map (fun d => d.parameters.length) = some 2 := by decide +kernel
abbrev y_Replacer_replaceText : MethodName := ⟨"MacroMill$Replacer", "replaceText", "(I)V"⟩
abbrev b_Replacer_replaceText : ByteArray := prog_11_method_2_code
theorem hd_Replacer_replaceText : y_Replacer_replaceText.cls ≠ "java/lang/invoke/MethodHandle" ∧ y_Replacer_replaceText.cls ≠ "java/lang/invoke/VarHandle" ∧ (parseMethodDescriptor y_Replacer_replaceText.desc).map (fun d => d.parameters.length) = some 1 := by decide +kernel
abbrev y_Replacer_spellFile : MethodName := ⟨"MacroMill$Replacer", "spellFile", "(I)J"⟩
abbrev b_Replacer_spellFile : ByteArray := prog_11_method_8_code
theorem hd_Replacer_spellFile : y_Replacer_spellFile.cls ≠ "java/lang/invoke/MethodHandle" ∧ y_Replacer_spellFile.cls ≠ "java/lang/invoke/VarHandle" ∧ (parseMethodDescriptor y_Replacer_spellFile.desc).map (fun d => d.parameters.length) = some 1 := by decide +kernel
abbrev y_Replacer_spellLine : MethodName := ⟨"MacroMill$Replacer", "spellLine", "(I)J"⟩
abbrev b_Replacer_spellLine : ByteArray := prog_11_method_7_code
theorem hd_Replacer_spellLine : y_Replacer_spellLine.cls ≠ "java/lang/invoke/MethodHandle" ∧ y_Replacer_spellLine.cls ≠ "java/lang/invoke/VarHandle" ∧ (parseMethodDescriptor y_Replacer_spellLine.desc).map (fun d => d.parameters.length) = some 1 := by decide +kernel
abbrev y_Replacer_spellWithin : MethodName := ⟨"MacroMill$Replacer", "spellWithin", "(I)V"⟩
abbrev b_Replacer_spellWithin : ByteArray := prog_11_method_27_code
theorem hd_Replacer_spellWithin : y_Replacer_spellWithin.cls ≠ "java/lang/invoke/MethodHandle" ∧ y_Replacer_spellWithin.cls ≠ "java/lang/invoke/VarHandle" ∧ (parseMethodDescriptor y_Replacer_spellWithin.desc).map (fun d => d.parameters.length) = some 1 := by decide +kernel
abbrev y_Replacer_spelledSince : MethodName := ⟨"MacroMill$Replacer", "spelledSince", "(II)J"⟩
abbrev b_Replacer_spelledSince : ByteArray := prog_11_method_9_code
theorem hd_Replacer_spelledSince : y_Replacer_spelledSince.cls ≠ "java/lang/invoke/MethodHandle" ∧ y_Replacer_spelledSince.cls ≠ "java/lang/invoke/VarHandle" ∧ (parseMethodDescriptor y_Replacer_spelledSince.desc).map (fun d => d.parameters.length) = some 2 := by decide +kernel
abbrev y_Mod_init : MethodName := ⟨"MacroMillModel", "<init>", "()V"⟩
abbrev b_Mod_init : ByteArray := prog_15_method_1_code
theorem hd_Mod_init : y_Mod_init.cls ≠ "java/lang/invoke/MethodHandle" ∧ y_Mod_init.cls ≠ "java/lang/invoke/VarHandle" ∧ (parseMethodDescriptor y_Mod_init.desc).map (fun d => d.parameters.length) = some 0 := by decide +kernel
abbrev y_Mod_act : MethodName := ⟨"MacroMillModel", "act", "(IIII)V"⟩
abbrev b_Mod_act : ByteArray := prog_15_method_46_code
theorem hd_Mod_act : y_Mod_act.cls ≠ "java/lang/invoke/MethodHandle" ∧ y_Mod_act.cls ≠ "java/lang/invoke/VarHandle" ∧ (parseMethodDescriptor y_Mod_act.desc).map (fun d => d.parameters.length) = some 4 := by decide +kernel
abbrev y_Mod_actOnInput : MethodName := ⟨"MacroMillModel", "actOnInput", "(III)V"⟩
abbrev b_Mod_actOnInput : ByteArray := prog_15_method_52_code
theorem hd_Mod_actOnInput : y_Mod_actOnInput.cls ≠ "java/lang/invoke/MethodHandle" ∧ y_Mod_actOnInput.cls ≠ "java/lang/invoke/VarHandle" ∧ (parseMethodDescriptor y_Mod_actOnInput.desc).map (fun d => d.parameters.length) = some 3 := by decide +kernel
abbrev y_Mod_addMeaning : MethodName := ⟨"MacroMillModel", "addMeaning", "(IIII)V"⟩
abbrev b_Mod_addMeaning : ByteArray := prog_15_method_30_code
theorem hd_Mod_addMeaning : y_Mod_addMeaning.cls ≠ "java/lang/invoke/MethodHandle" ∧ y_Mod_addMeaning.cls ≠ "java/lang/invoke/VarHandle" ∧ (parseMethodDescriptor y_Mod_addMeaning.desc).map (fun d => d.parameters.length) = some 4 := by decide +kernel
abbrev y_Mod_addToRow : MethodName := ⟨"MacroMillModel", "addToRow", "()V"⟩
abbrev b_Mod_addToRow : ByteArray := prog_15_method_108_code
theorem hd_Mod_addToRow : y_Mod_addToRow.cls ≠ "java/lang/invoke/MethodHandle" ∧ y_Mod_addToRow.cls ≠ "java/lang/invoke/VarHandle" ∧ (parseMethodDescriptor y_Mod_addToRow.desc).map (fun d => d.parameters.length) = some 0 := by decide +kernel
abbrev y_Mod_apply : MethodName := ⟨"MacroMillModel", "apply", "(III)I"⟩
abbrev b_Mod_apply : ByteArray := prog_15_method_62_code
theorem hd_Mod_apply : y_Mod_apply.cls ≠ "java/lang/invoke/MethodHandle" ∧ y_Mod_apply.cls ≠ "java/lang/invoke/VarHandle" ∧ (parseMethodDescriptor y_Mod_apply.desc).map (fun d => d.parameters.length) = some 3 := by decide +kernel
abbrev y_Mod_argumentAt : MethodName := ⟨"MacroMillModel", "argumentAt", "(II)I"⟩
abbrev b_Mod_argumentAt : ByteArray := prog_15_method_38_code
theorem hd_Mod_argumentAt : y_Mod_argumentAt.cls ≠ "java/lang/invoke/MethodHandle" ∧ y_Mod_argumentAt.cls ≠ "java/lang/invoke/VarHandle" ∧ (parseMethodDescriptor y_Mod_argumentAt.desc).map (fun d => d.parameters.length) = some 2 := by decide +kernel
abbrev y_Mod_argumentSize : MethodName := ⟨"MacroMillModel", "argumentSize", "(II)I"⟩
abbrev b_Mod_argumentSize : ByteArray := prog_15_method_39_code
theorem hd_Mod_argumentSize : y_Mod_argumentSize.cls ≠ "java/lang/invoke/MethodHandle" ∧ y_Mod_argumentSize.cls ≠ "java/lang/invoke/VarHandle" ∧ (parseMethodDescriptor y_Mod_argumentSize.desc).map (fun d => d.parameters.length) = some 2 := by decide +kernel
abbrev y_Mod_astray : MethodName := ⟨"MacroMillModel", "astray", "()I"⟩
abbrev b_Mod_astray : ByteArray := prog_15_method_158_code
theorem hd_Mod_astray : y_Mod_astray.cls ≠ "java/lang/invoke/MethodHandle" ∧ y_Mod_astray.cls ≠ "java/lang/invoke/VarHandle" ∧ (parseMethodDescriptor y_Mod_astray.desc).map (fun d => d.parameters.length) = some 0 := by decide +kernel
abbrev y_Mod_beginArgument : MethodName := ⟨"MacroMillModel", "beginArgument", "()V"⟩
abbrev b_Mod_beginArgument : ByteArray := prog_15_method_36_code
theorem hd_Mod_beginArgument : y_Mod_beginArgument.cls ≠ "java/lang/invoke/MethodHandle" ∧ y_Mod_beginArgument.cls ≠ "java/lang/invoke/VarHandle" ∧ (parseMethodDescriptor y_Mod_beginArgument.desc).map (fun d => d.parameters.length) = some 0 := by decide +kernel
abbrev y_Mod_beginIf : MethodName := ⟨"MacroMillModel", "beginIf", "(ZZI)V"⟩
abbrev b_Mod_beginIf : ByteArray := prog_15_method_111_code
theorem hd_Mod_beginIf : y_Mod_beginIf.cls ≠ "java/lang/invoke/MethodHandle" ∧ y_Mod_beginIf.cls ≠ "java/lang/invoke/VarHandle" ∧ (parseMethodDescriptor y_Mod_beginIf.desc).map (fun d => d.parameters.length) = some 3 := by decide +kernel
abbrev y_Mod_beginMeanings : MethodName := ⟨"MacroMillModel", "beginMeanings", "()V"⟩
abbrev b_Mod_beginMeanings : ByteArray := prog_15_method_26_code
theorem hd_Mod_beginMeanings : y_Mod_beginMeanings.cls ≠ "java/lang/invoke/MethodHandle" ∧ y_Mod_beginMeanings.cls ≠ "java/lang/invoke/VarHandle" ∧ (parseMethodDescriptor y_Mod_beginMeanings.desc).map (fun d => d.parameters.length) = some 0 := by decide +kernel
abbrev y_Mod_bodyCell : MethodName := ⟨"MacroMillModel", "bodyCell", "(II)I"⟩
abbrev b_Mod_bodyCell : ByteArray := prog_15_method_98_code
theorem hd_Mod_bodyCell : y_Mod_bodyCell.cls ≠ "java/lang/invoke/MethodHandle" ∧ y_Mod_bodyCell.cls ≠ "java/lang/invoke/VarHandle" ∧ (parseMethodDescriptor y_Mod_bodyCell.desc).map (fun d => d.parameters.length) = some 2 := by decide +kernel
abbrev y_Mod_byteAt : MethodName := ⟨"MacroMillModel", "byteAt", "([BII)I"⟩
abbrev b_Mod_byteAt : ByteArray := prog_15_method_74_code
theorem hd_Mod_byteAt : y_Mod_byteAt.cls ≠ "java/lang/invoke/MethodHandle" ∧ y_Mod_byteAt.cls ≠ "java/lang/invoke/VarHandle" ∧ (parseMethodDescriptor y_Mod_byteAt.desc).map (fun d => d.parameters.length) = some 3 := by decide +kernel
abbrev y_Mod_byteOf : MethodName := ⟨"MacroMillModel", "byteOf", "(II)I"⟩
abbrev b_Mod_byteOf : ByteArray := prog_15_method_69_code
theorem hd_Mod_byteOf : y_Mod_byteOf.cls ≠ "java/lang/invoke/MethodHandle" ∧ y_Mod_byteOf.cls ≠ "java/lang/invoke/VarHandle" ∧ (parseMethodDescriptor y_Mod_byteOf.desc).map (fun d => d.parameters.length) = some 2 := by decide +kernel
abbrev y_Mod_call : MethodName := ⟨"MacroMillModel", "call", "(IIIII)I"⟩
abbrev b_Mod_call : ByteArray := prog_15_method_94_code
theorem hd_Mod_call : y_Mod_call.cls ≠ "java/lang/invoke/MethodHandle" ∧ y_Mod_call.cls ≠ "java/lang/invoke/VarHandle" ∧ (parseMethodDescriptor y_Mod_call.desc).map (fun d => d.parameters.length) = some 5 := by decide +kernel
abbrev y_Mod_cell : MethodName := ⟨"MacroMillModel", "cell", "(IIIZZ)I"⟩
abbrev b_Mod_cell : ByteArray := prog_15_method_67_code
theorem hd_Mod_cell : y_Mod_cell.cls ≠ "java/lang/invoke/MethodHandle" ∧ y_Mod_cell.cls ≠ "java/lang/invoke/VarHandle" ∧ (parseMethodDescriptor y_Mod_cell.desc).map (fun d => d.parameters.length) = some 5 := by decide +kernel
abbrev y_Mod_changeQuotes : MethodName := ⟨"MacroMillModel", "changeQuotes", "(II)V"⟩
abbrev b_Mod_changeQuotes : ByteArray := prog_15_method_54_code
theorem hd_Mod_changeQuotes : y_Mod_changeQuotes.cls ≠ "java/lang/invoke/MethodHandle" ∧ y_Mod_changeQuotes.cls ≠ "java/lang/invoke/VarHandle" ∧ (parseMethodDescriptor y_Mod_changeQuotes.desc).map (fun d => d.parameters.length) = some 2 := by decide +kernel
abbrev y_Mod_characterOf : MethodName := ⟨"MacroMillModel", "characterOf", "(I)J"⟩
abbrev b_Mod_characterOf : ByteArray := prog_15_method_150_code
theorem hd_Mod_characterOf : y_Mod_characterOf.cls ≠ "java/lang/invoke/MethodHandle" ∧ y_Mod_characterOf.cls ≠ "java/lang/invoke/VarHandle" ∧ (parseMethodDescriptor y_Mod_characterOf.desc).map (fun d => d.parameters.length) = some 1 := by decide +kernel
abbrev y_Mod_choice : MethodName := ⟨"MacroMillModel", "choice", "(Z)J"⟩
abbrev b_Mod_choice : ByteArray := prog_15_method_138_code
theorem hd_Mod_choice : y_Mod_choice.cls ≠ "java/lang/invoke/MethodHandle" ∧ y_Mod_choice.cls ≠ "java/lang/invoke/VarHandle" ∧ (parseMethodDescriptor y_Mod_choice.desc).map (fun d => d.parameters.length) = some 1 := by decide +kernel
abbrev y_Mod_choose : MethodName := ⟨"MacroMillModel", "choose", "(II)V"⟩
abbrev b_Mod_choose : ByteArray := prog_15_method_49_code
theorem hd_Mod_choose : y_Mod_choose.cls ≠ "java/lang/invoke/MethodHandle" ∧ y_Mod_choose.cls ≠ "java/lang/invoke/VarHandle" ∧ (parseMethodDescriptor y_Mod_choose.desc).map (fun d => d.parameters.length) = some 2 := by decide +kernel
abbrev y_Mod_clear : MethodName := ⟨"MacroMillModel", "clear", "()I"⟩
abbrev b_Mod_clear : ByteArray := prog_15_method_9_code
theorem hd_Mod_clear : y_Mod_clear.cls ≠ "java/lang/invoke/MethodHandle" ∧ y_Mod_clear.cls ≠ "java/lang/invoke/VarHandle" ∧ (parseMethodDescriptor y_Mod_clear.desc).map (fun d => d.parameters.length) = some 0 := by decide +kernel
abbrev y_Mod_commentEnd : MethodName := ⟨"MacroMillModel", "commentEnd", "(II)I"⟩
abbrev b_Mod_commentEnd : ByteArray := prog_15_method_107_code
theorem hd_Mod_commentEnd : y_Mod_commentEnd.cls ≠ "java/lang/invoke/MethodHandle" ∧ y_Mod_commentEnd.cls ≠ "java/lang/invoke/VarHandle" ∧ (parseMethodDescriptor y_Mod_commentEnd.desc).map (fun d => d.parameters.length) = some 2 := by decide +kernel
abbrev y_Mod_condition : MethodName := ⟨"MacroMillModel", "condition", "(I)Z"⟩
abbrev b_Mod_condition : ByteArray := prog_15_method_135_code
theorem hd_Mod_condition : y_Mod_condition.cls ≠ "java/lang/invoke/MethodHandle" ∧ y_Mod_condition.cls ≠ "java/lang/invoke/VarHandle" ∧ (parseMethodDescriptor y_Mod_condition.desc).map (fun d => d.parameters.length) = some 1 := by decide +kernel
abbrev y_Mod_copy : MethodName := ⟨"MacroMillModel", "copy", "(I)I"⟩
abbrev b_Mod_copy : ByteArray := prog_15_method_68_code
theorem hd_Mod_copy : y_Mod_copy.cls ≠ "java/lang/invoke/MethodHandle" ∧ y_Mod_copy.cls ≠ "java/lang/invoke/VarHandle" ∧ (parseMethodDescriptor y_Mod_copy.desc).map (fun d => d.parameters.length) = some 1 := by decide +kernel
abbrev y_Mod_countsNow : MethodName := ⟨"MacroMillModel", "countsNow", "()Z"⟩
abbrev b_Mod_countsNow : ByteArray := prog_15_method_110_code
theorem hd_Mod_countsNow : y_Mod_countsNow.cls ≠ "java/lang/invoke/MethodHandle" ∧ y_Mod_countsNow.cls ≠ "java/lang/invoke/VarHandle" ∧ (parseMethodDescriptor y_Mod_countsNow.desc).map (fun d => d.parameters.length) = some 0 := by decide +kernel
abbrev y_Mod_define : MethodName := ⟨"MacroMillModel", "define", "(IZ)V"⟩
abbrev b_Mod_define : ByteArray := prog_15_method_48_code
theorem hd_Mod_define : y_Mod_define.cls ≠ "java/lang/invoke/MethodHandle" ∧ y_Mod_define.cls ≠ "java/lang/invoke/VarHandle" ∧ (parseMethodDescriptor y_Mod_define.desc).map (fun d => d.parameters.length) = some 2 := by decide +kernel
abbrev y_Mod_defineMacro : MethodName := ⟨"MacroMillModel", "defineMacro", "(I)V"⟩
abbrev b_Mod_defineMacro : ByteArray := prog_15_method_123_code
theorem hd_Mod_defineMacro : y_Mod_defineMacro.cls ≠ "java/lang/invoke/MethodHandle" ∧ y_Mod_defineMacro.cls ≠ "java/lang/invoke/VarHandle" ∧ (parseMethodDescriptor y_Mod_defineMacro.desc).map (fun d => d.parameters.length) = some 1 := by decide +kernel
abbrev y_Mod_deliver : MethodName := ⟨"MacroMillModel", "deliver", "(IIZI)V"⟩
abbrev b_Mod_deliver : ByteArray := prog_15_method_91_code
theorem hd_Mod_deliver : y_Mod_deliver.cls ≠ "java/lang/invoke/MethodHandle" ∧ y_Mod_deliver.cls ≠ "java/lang/invoke/VarHandle" ∧ (parseMethodDescriptor y_Mod_deliver.desc).map (fun d => d.parameters.length) = some 4 := by decide +kernel
abbrev y_Mod_digitOf : MethodName := ⟨"MacroMillModel", "digitOf", "(I)I"⟩
abbrev b_Mod_digitOf : ByteArray := prog_15_method_148_code
theorem hd_Mod_digitOf : y_Mod_digitOf.cls ≠ "java/lang/invoke/MethodHandle" ∧ y_Mod_digitOf.cls ≠ "java/lang/invoke/VarHandle" ∧ (parseMethodDescriptor y_Mod_digitOf.desc).map (fun d => d.parameters.length) = some 1 := by decide +kernel
abbrev y_Mod_direct : MethodName := ⟨"MacroMillModel", "direct", "(I)V"⟩
abbrev b_Mod_direct : ByteArray := prog_15_method_114_code
theorem hd_Mod_direct : y_Mod_direct.cls ≠ "java/lang/invoke/MethodHandle" ∧ y_Mod_direct.cls ≠ "java/lang/invoke/VarHandle" ∧ (parseMethodDescriptor y_Mod_direct.desc).map (fun d => d.parameters.length) = some 1 := by decide +kernel
abbrev y_Mod_directOther : MethodName := ⟨"MacroMillModel", "directOther", "(II)V"⟩
abbrev b_Mod_directOther : ByteArray := prog_15_method_118_code
theorem hd_Mod_directOther : y_Mod_directOther.cls ≠ "java/lang/invoke/MethodHandle" ∧ y_Mod_directOther.cls ≠ "java/lang/invoke/VarHandle" ∧ (parseMethodDescriptor y_Mod_directOther.desc).map (fun d => d.parameters.length) = some 2 := by decide +kernel
abbrev y_Mod_divertByte : MethodName := ⟨"MacroMillModel", "divertByte", "(II)V"⟩
abbrev b_Mod_divertByte : ByteArray := prog_15_method_31_code
theorem hd_Mod_divertByte : y_Mod_divertByte.cls ≠ "java/lang/invoke/MethodHandle" ∧ y_Mod_divertByte.cls ≠ "java/lang/invoke/VarHandle" ∧ (parseMethodDescriptor y_Mod_divertByte.desc).map (fun d => d.parameters.length) = some 2 := by decide +kernel
abbrev y_Mod_either : MethodName := ⟨"MacroMillModel", "either", "(Z)J"⟩
abbrev b_Mod_either : ByteArray := prog_15_method_144_code
theorem hd_Mod_either : y_Mod_either.cls ≠ "java/lang/invoke/MethodHandle" ∧ y_Mod_either.cls ≠ "java/lang/invoke/VarHandle" ∧ (parseMethodDescriptor y_Mod_either.desc).map (fun d => d.parameters.length) = some 1 := by decide +kernel
abbrev y_Mod_end : MethodName := ⟨"MacroMillModel", "end", "(I)I"⟩
abbrev b_Mod_end : ByteArray := prog_15_method_4_code
theorem hd_Mod_end : y_Mod_end.cls ≠ "java/lang/invoke/MethodHandle" ∧ y_Mod_end.cls ≠ "java/lang/invoke/VarHandle" ∧ (parseMethodDescriptor y_Mod_end.desc).map (fun d => d.parameters.length) = some 1 := by decide +kernel
abbrev y_Mod_endRow : MethodName := ⟨"MacroMillModel", "endRow", "()V"⟩
abbrev b_Mod_endRow : ByteArray := prog_15_method_109_code
theorem hd_Mod_endRow : y_Mod_endRow.cls ≠ "java/lang/invoke/MethodHandle" ∧ y_Mod_endRow.cls ≠ "java/lang/invoke/VarHandle" ∧ (parseMethodDescriptor y_Mod_endRow.desc).map (fun d => d.parameters.length) = some 0 := by decide +kernel
abbrev y_Mod_enter : MethodName := ⟨"MacroMillModel", "enter", "(IZI)V"⟩
abbrev b_Mod_enter : ByteArray := prog_15_method_126_code
theorem hd_Mod_enter : y_Mod_enter.cls ≠ "java/lang/invoke/MethodHandle" ∧ y_Mod_enter.cls ≠ "java/lang/invoke/VarHandle" ∧ (parseMethodDescriptor y_Mod_enter.desc).map (fun d => d.parameters.length) = some 3 := by decide +kernel
abbrev y_Mod_enterFile : MethodName := ⟨"MacroMillModel", "enterFile", "(I)V"⟩
abbrev b_Mod_enterFile : ByteArray := prog_15_method_133_code
theorem hd_Mod_enterFile : y_Mod_enterFile.cls ≠ "java/lang/invoke/MethodHandle" ∧ y_Mod_enterFile.cls ≠ "java/lang/invoke/VarHandle" ∧ (parseMethodDescriptor y_Mod_enterFile.desc).map (fun d => d.parameters.length) = some 1 := by decide +kernel
abbrev y_Mod_evaluate : MethodName := ⟨"MacroMillModel", "evaluate", "(I)V"⟩
abbrev b_Mod_evaluate : ByteArray := prog_15_method_57_code
theorem hd_Mod_evaluate : y_Mod_evaluate.cls ≠ "java/lang/invoke/MethodHandle" ∧ y_Mod_evaluate.cls ≠ "java/lang/invoke/VarHandle" ∧ (parseMethodDescriptor y_Mod_evaluate.desc).map (fun d => d.parameters.length) = some 1 := by decide +kernel
abbrev y_Mod_fail : MethodName := ⟨"MacroMillModel", "fail", "(III)V"⟩
abbrev b_Mod_fail : ByteArray := prog_15_method_13_code
theorem hd_Mod_fail : y_Mod_fail.cls ≠ "java/lang/invoke/MethodHandle" ∧ y_Mod_fail.cls ≠ "java/lang/invoke/VarHandle" ∧ (parseMethodDescriptor y_Mod_fail.desc).map (fun d => d.parameters.length) = some 3 := by decide +kernel
abbrev y_Mod_fail1 : MethodName := ⟨"MacroMillModel", "fail1", "(I)V"⟩
abbrev b_Mod_fail1 : ByteArray := prog_15_method_17_code
theorem hd_Mod_fail1 : y_Mod_fail1.cls ≠ "java/lang/invoke/MethodHandle" ∧ y_Mod_fail1.cls ≠ "java/lang/invoke/VarHandle" ∧ (parseMethodDescriptor y_Mod_fail1.desc).map (fun d => d.parameters.length) = some 1 := by decide +kernel
abbrev y_Mod_fail2 : MethodName := ⟨"MacroMillModel", "fail2", "(II)V"⟩
abbrev b_Mod_fail2 : ByteArray := prog_15_method_84_code
theorem hd_Mod_fail2 : y_Mod_fail2.cls ≠ "java/lang/invoke/MethodHandle" ∧ y_Mod_fail2.cls ≠ "java/lang/invoke/VarHandle" ∧ (parseMethodDescriptor y_Mod_fail2.desc).map (fun d => d.parameters.length) = some 2 := by decide +kernel
abbrev y_Mod_fault : MethodName := ⟨"MacroMillModel", "fault", "(I)V"⟩
abbrev b_Mod_fault : ByteArray := prog_15_method_113_code
theorem hd_Mod_fault : y_Mod_fault.cls ≠ "java/lang/invoke/MethodHandle" ∧ y_Mod_fault.cls ≠ "java/lang/invoke/VarHandle" ∧ (parseMethodDescriptor y_Mod_fault.desc).map (fun d => d.parameters.length) = some 1 := by decide +kernel
abbrev y_Mod_feed : MethodName := ⟨"MacroMillModel", "feed", "(IIIII)I"⟩
abbrev b_Mod_feed : ByteArray := prog_15_method_3_code
theorem hd_Mod_feed : y_Mod_feed.cls ≠ "java/lang/invoke/MethodHandle" ∧ y_Mod_feed.cls ≠ "java/lang/invoke/VarHandle" ∧ (parseMethodDescriptor y_Mod_feed.desc).map (fun d => d.parameters.length) = some 5 := by decide +kernel
abbrev y_Mod_feedInt : MethodName := ⟨"MacroMillModel", "feedInt", "(I)V"⟩
abbrev b_Mod_feedInt : ByteArray := prog_15_method_2_code
theorem hd_Mod_feedInt : y_Mod_feedInt.cls ≠ "java/lang/invoke/MethodHandle" ∧ y_Mod_feedInt.cls ≠ "java/lang/invoke/VarHandle" ∧ (parseMethodDescriptor y_Mod_feedInt.desc).map (fun d => d.parameters.length) = some 1 := by decide +kernel
abbrev y_Mod_file : MethodName := ⟨"MacroMillModel", "file", "(I)I"⟩
abbrev b_Mod_file : ByteArray := prog_15_method_7_code
theorem hd_Mod_file : y_Mod_file.cls ≠ "java/lang/invoke/MethodHandle" ∧ y_Mod_file.cls ≠ "java/lang/invoke/VarHandle" ∧ (parseMethodDescriptor y_Mod_file.desc).map (fun d => d.parameters.length) = some 1 := by decide +kernel
abbrev y_Mod_finish : MethodName := ⟨"MacroMillModel", "finish", "(IIII)I"⟩
abbrev b_Mod_finish : ByteArray := prog_15_method_105_code
theorem hd_Mod_finish : y_Mod_finish.cls ≠ "java/lang/invoke/MethodHandle" ∧ y_Mod_finish.cls ≠ "java/lang/invoke/VarHandle" ∧ (parseMethodDescriptor y_Mod_finish.desc).map (fun d => d.parameters.length) = some 4 := by decide +kernel
abbrev y_Mod_forget : MethodName := ⟨"MacroMillModel", "forget", "(I)V"⟩
abbrev b_Mod_forget : ByteArray := prog_15_method_29_code
theorem hd_Mod_forget : y_Mod_forget.cls ≠ "java/lang/invoke/MethodHandle" ∧ y_Mod_forget.cls ≠ "java/lang/invoke/VarHandle" ∧ (parseMethodDescriptor y_Mod_forget.desc).map (fun d => d.parameters.length) = some 1 := by decide +kernel
abbrev y_Mod_front : MethodName := ⟨"MacroMillModel", "front", "(Z)J"⟩
abbrev b_Mod_front : ByteArray := prog_15_method_147_code
theorem hd_Mod_front : y_Mod_front.cls ≠ "java/lang/invoke/MethodHandle" ∧ y_Mod_front.cls ≠ "java/lang/invoke/VarHandle" ∧ (parseMethodDescriptor y_Mod_front.desc).map (fun d => d.parameters.length) = some 1 := by decide +kernel
abbrev y_Mod_give : MethodName := ⟨"MacroMillModel", "give", "(I)V"⟩
abbrev b_Mod_give : ByteArray := prog_15_method_22_code
theorem hd_Mod_give : y_Mod_give.cls ≠ "java/lang/invoke/MethodHandle" ∧ y_Mod_give.cls ≠ "java/lang/invoke/VarHandle" ∧ (parseMethodDescriptor y_Mod_give.desc).map (fun d => d.parameters.length) = some 1 := by decide +kernel
abbrev y_Mod_giveArgument : MethodName := ⟨"MacroMillModel", "giveArgument", "(II)V"⟩
abbrev b_Mod_giveArgument : ByteArray := prog_15_method_40_code
theorem hd_Mod_giveArgument : y_Mod_giveArgument.cls ≠ "java/lang/invoke/MethodHandle" ∧ y_Mod_giveArgument.cls ≠ "java/lang/invoke/VarHandle" ∧ (parseMethodDescriptor y_Mod_giveArgument.desc).map (fun d => d.parameters.length) = some 2 := by decide +kernel
abbrev y_Mod_giveIfRight : MethodName := ⟨"MacroMillModel", "giveIfRight", "(J)V"⟩
abbrev b_Mod_giveIfRight : ByteArray := prog_15_method_47_code
theorem hd_Mod_giveIfRight : y_Mod_giveIfRight.cls ≠ "java/lang/invoke/MethodHandle" ∧ y_Mod_giveIfRight.cls ≠ "java/lang/invoke/VarHandle" ∧ (parseMethodDescriptor y_Mod_giveIfRight.desc).map (fun d => d.parameters.length) = some 1 := by decide +kernel
abbrev y_Mod_giveNumber : MethodName := ⟨"MacroMillModel", "giveNumber", "(J)V"⟩
abbrev b_Mod_giveNumber : ByteArray := prog_15_method_23_code
theorem hd_Mod_giveNumber : y_Mod_giveNumber.cls ≠ "java/lang/invoke/MethodHandle" ∧ y_Mod_giveNumber.cls ≠ "java/lang/invoke/VarHandle" ∧ (parseMethodDescriptor y_Mod_giveNumber.desc).map (fun d => d.parameters.length) = some 1 := by decide +kernel
abbrev y_Mod_giveQuotedArgument : MethodName := ⟨"MacroMillModel", "giveQuotedArgument", "(II)V"⟩
abbrev b_Mod_giveQuotedArgument : ByteArray := prog_15_method_41_code
theorem hd_Mod_giveQuotedArgument : y_Mod_giveQuotedArgument.cls ≠ "java/lang/invoke/MethodHandle" ∧ y_Mod_giveQuotedArgument.cls ≠ "java/lang/invoke/VarHandle" ∧ (parseMethodDescriptor y_Mod_giveQuotedArgument.desc).map (fun d => d.parameters.length) = some 2 := by decide +kernel
abbrev y_Mod_giveSome : MethodName := ⟨"MacroMillModel", "giveSome", "(II)V"⟩
abbrev b_Mod_giveSome : ByteArray := prog_15_method_51_code
theorem hd_Mod_giveSome : y_Mod_giveSome.cls ≠ "java/lang/invoke/MethodHandle" ∧ y_Mod_giveSome.cls ≠ "java/lang/invoke/VarHandle" ∧ (parseMethodDescriptor y_Mod_giveSome.desc).map (fun d => d.parameters.length) = some 2 := by decide +kernel
abbrev y_Mod_giveText : MethodName := ⟨"MacroMillModel", "giveText", "(IIII)V"⟩
abbrev b_Mod_giveText : ByteArray := prog_15_method_42_code
theorem hd_Mod_giveText : y_Mod_giveText.cls ≠ "java/lang/invoke/MethodHandle" ∧ y_Mod_giveText.cls ≠ "java/lang/invoke/VarHandle" ∧ (parseMethodDescriptor y_Mod_giveText.desc).map (fun d => d.parameters.length) = some 4 := by decide +kernel
abbrev y_Mod_goOn : MethodName := ⟨"MacroMillModel", "goOn", "()V"⟩
abbrev b_Mod_goOn : ByteArray := prog_15_method_137_code
theorem hd_Mod_goOn : y_Mod_goOn.cls ≠ "java/lang/invoke/MethodHandle" ∧ y_Mod_goOn.cls ≠ "java/lang/invoke/VarHandle" ∧ (parseMethodDescriptor y_Mod_goOn.desc).map (fun d => d.parameters.length) = some 0 := by decide +kernel
abbrev y_Mod_handle : MethodName := ⟨"MacroMillModel", "handle", "(Z)V"⟩
abbrev b_Mod_handle : ByteArray := prog_15_method_35_code
theorem hd_Mod_handle : y_Mod_handle.cls ≠ "java/lang/invoke/MethodHandle" ∧ y_Mod_handle.cls ≠ "java/lang/invoke/VarHandle" ∧ (parseMethodDescriptor y_Mod_handle.desc).map (fun d => d.parameters.length) = some 1 := by decide +kernel
abbrev y_Mod_hides : MethodName := ⟨"MacroMillModel", "hides", "(II)Z"⟩
abbrev b_Mod_hides : ByteArray := prog_15_method_82_code
theorem hd_Mod_hides : y_Mod_hides.cls ≠ "java/lang/invoke/MethodHandle" ∧ y_Mod_hides.cls ≠ "java/lang/invoke/VarHandle" ∧ (parseMethodDescriptor y_Mod_hides.desc).map (fun d => d.parameters.length) = some 2 := by decide +kernel
abbrev y_Mod_include : MethodName := ⟨"MacroMillModel", "include", "(I)V"⟩
abbrev b_Mod_include : ByteArray := prog_15_method_131_code
theorem hd_Mod_include : y_Mod_include.cls ≠ "java/lang/invoke/MethodHandle" ∧ y_Mod_include.cls ≠ "java/lang/invoke/VarHandle" ∧ (parseMethodDescriptor y_Mod_include.desc).map (fun d => d.parameters.length) = some 1 := by decide +kernel
abbrev y_Mod_inputLeft : MethodName := ⟨"MacroMillModel", "inputLeft", "()I"⟩
abbrev b_Mod_inputLeft : ByteArray := prog_15_method_14_code
theorem hd_Mod_inputLeft : y_Mod_inputLeft.cls ≠ "java/lang/invoke/MethodHandle" ∧ y_Mod_inputLeft.cls ≠ "java/lang/invoke/VarHandle" ∧ (parseMethodDescriptor y_Mod_inputLeft.desc).map (fun d => d.parameters.length) = some 0 := by decide +kernel
abbrev y_Mod_is : MethodName := ⟨"MacroMillModel", "is", "(ILjava/lang/String;)Z"⟩
abbrev b_Mod_is : ByteArray := prog_15_method_70_code
theorem hd_Mod_is : y_Mod_is.cls ≠ "java/lang/invoke/MethodHandle" ∧ y_Mod_is.cls ≠ "java/lang/invoke/VarHandle" ∧ (parseMethodDescriptor y_Mod_is.desc).map (fun d => d.parameters.length) = some 2 := by decide +kernel
abbrev y_Mod_isAgain : MethodName := ⟨"MacroMillModel", "isAgain", "(IZI)Z"⟩
abbrev b_Mod_isAgain : ByteArray := prog_15_method_124_code
theorem hd_Mod_isAgain : y_Mod_isAgain.cls ≠ "java/lang/invoke/MethodHandle" ∧ y_Mod_isAgain.cls ≠ "java/lang/invoke/VarHandle" ∧ (parseMethodDescriptor y_Mod_isAgain.desc).map (fun d => d.parameters.length) = some 3 := by decide +kernel
abbrev y_Mod_isAhead : MethodName := ⟨"MacroMillModel", "isAhead", "([II)Z"⟩
abbrev b_Mod_isAhead : ByteArray := prog_15_method_18_code
theorem hd_Mod_isAhead : y_Mod_isAhead.cls ≠ "java/lang/invoke/MethodHandle" ∧ y_Mod_isAhead.cls ≠ "java/lang/invoke/VarHandle" ∧ (parseMethodDescriptor y_Mod_isAhead.desc).map (fun d => d.parameters.length) = some 2 := by decide +kernel
abbrev y_Mod_isBlank : MethodName := ⟨"MacroMillModel", "isBlank", "(I)Z"⟩
abbrev b_Mod_isBlank : ByteArray := prog_15_method_12_code
theorem hd_Mod_isBlank : y_Mod_isBlank.cls ≠ "java/lang/invoke/MethodHandle" ∧ y_Mod_isBlank.cls ≠ "java/lang/invoke/VarHandle" ∧ (parseMethodDescriptor y_Mod_isBlank.desc).map (fun d => d.parameters.length) = some 1 := by decide +kernel
abbrev y_Mod_isBody : MethodName := ⟨"MacroMillModel", "isBody", "(ILjava/lang/String;)Z"⟩
abbrev b_Mod_isBody : ByteArray := prog_15_method_97_code
theorem hd_Mod_isBody : y_Mod_isBody.cls ≠ "java/lang/invoke/MethodHandle" ∧ y_Mod_isBody.cls ≠ "java/lang/invoke/VarHandle" ∧ (parseMethodDescriptor y_Mod_isBody.desc).map (fun d => d.parameters.length) = some 2 := by decide +kernel
abbrev y_Mod_isDigit : MethodName := ⟨"MacroMillModel", "isDigit", "(I)Z"⟩
abbrev b_Mod_isDigit : ByteArray := prog_15_method_11_code
theorem hd_Mod_isDigit : y_Mod_isDigit.cls ≠ "java/lang/invoke/MethodHandle" ∧ y_Mod_isDigit.cls ≠ "java/lang/invoke/VarHandle" ∧ (parseMethodDescriptor y_Mod_isDigit.desc).map (fun d => d.parameters.length) = some 1 := by decide +kernel
abbrev y_Mod_isLetter : MethodName := ⟨"MacroMillModel", "isLetter", "(I)Z"⟩
abbrev b_Mod_isLetter : ByteArray := prog_15_method_10_code
theorem hd_Mod_isLetter : y_Mod_isLetter.cls ≠ "java/lang/invoke/MethodHandle" ∧ y_Mod_isLetter.cls ≠ "java/lang/invoke/VarHandle" ∧ (parseMethodDescriptor y_Mod_isLetter.desc).map (fun d => d.parameters.length) = some 1 := by decide +kernel
abbrev y_Mod_isLong : MethodName := ⟨"MacroMillModel", "isLong", "(I)Z"⟩
abbrev b_Mod_isLong : ByteArray := prog_15_method_59_code
theorem hd_Mod_isLong : y_Mod_isLong.cls ≠ "java/lang/invoke/MethodHandle" ∧ y_Mod_isLong.cls ≠ "java/lang/invoke/VarHandle" ∧ (parseMethodDescriptor y_Mod_isLong.desc).map (fun d => d.parameters.length) = some 1 := by decide +kernel
abbrev y_Mod_isMacroName : MethodName := ⟨"MacroMillModel", "isMacroName", "(I)Z"⟩
abbrev b_Mod_isMacroName : ByteArray := prog_15_method_117_code
theorem hd_Mod_isMacroName : y_Mod_isMacroName.cls ≠ "java/lang/invoke/MethodHandle" ∧ y_Mod_isMacroName.cls ≠ "java/lang/invoke/VarHandle" ∧ (parseMethodDescriptor y_Mod_isMacroName.desc).map (fun d => d.parameters.length) = some 1 := by decide +kernel
abbrev y_Mod_isMarked : MethodName := ⟨"MacroMillModel", "isMarked", "(II)Z"⟩
abbrev b_Mod_isMarked : ByteArray := prog_15_method_102_code
theorem hd_Mod_isMarked : y_Mod_isMarked.cls ≠ "java/lang/invoke/MethodHandle" ∧ y_Mod_isMarked.cls ≠ "java/lang/invoke/VarHandle" ∧ (parseMethodDescriptor y_Mod_isMarked.desc).map (fun d => d.parameters.length) = some 2 := by decide +kernel
abbrev y_Mod_isName : MethodName := ⟨"MacroMillModel", "isName", "(I)Z"⟩
abbrev b_Mod_isName : ByteArray := prog_15_method_73_code
theorem hd_Mod_isName : y_Mod_isName.cls ≠ "java/lang/invoke/MethodHandle" ∧ y_Mod_isName.cls ≠ "java/lang/invoke/VarHandle" ∧ (parseMethodDescriptor y_Mod_isName.desc).map (fun d => d.parameters.length) = some 1 := by decide +kernel
abbrev y_Mod_isNameArgument : MethodName := ⟨"MacroMillModel", "isNameArgument", "(I)Z"⟩
abbrev b_Mod_isNameArgument : ByteArray := prog_15_method_43_code
theorem hd_Mod_isNameArgument : y_Mod_isNameArgument.cls ≠ "java/lang/invoke/MethodHandle" ∧ y_Mod_isNameArgument.cls ≠ "java/lang/invoke/VarHandle" ∧ (parseMethodDescriptor y_Mod_isNameArgument.desc).map (fun d => d.parameters.length) = some 1 := by decide +kernel
abbrev y_Mod_isNamed : MethodName := ⟨"MacroMillModel", "isNamed", "(I[BII)Z"⟩
abbrev b_Mod_isNamed : ByteArray := prog_15_method_27_code
theorem hd_Mod_isNamed : y_Mod_isNamed.cls ≠ "java/lang/invoke/MethodHandle" ∧ y_Mod_isNamed.cls ≠ "java/lang/invoke/VarHandle" ∧ (parseMethodDescriptor y_Mod_isNamed.desc).map (fun d => d.parameters.length) = some 4 := by decide +kernel
abbrev y_Mod_isNeeded : MethodName := ⟨"MacroMillModel", "isNeeded", "(IZ)Z"⟩
abbrev b_Mod_isNeeded : ByteArray := prog_15_method_142_code
theorem hd_Mod_isNeeded : y_Mod_isNeeded.cls ≠ "java/lang/invoke/MethodHandle" ∧ y_Mod_isNeeded.cls ≠ "java/lang/invoke/VarHandle" ∧ (parseMethodDescriptor y_Mod_isNeeded.desc).map (fun d => d.parameters.length) = some 2 := by decide +kernel
abbrev y_Mod_isNewNamed : MethodName := ⟨"MacroMillModel", "isNewNamed", "(I)Z"⟩
abbrev b_Mod_isNewNamed : ByteArray := prog_15_method_122_code
theorem hd_Mod_isNewNamed : y_Mod_isNewNamed.cls ≠ "java/lang/invoke/MethodHandle" ∧ y_Mod_isNewNamed.cls ≠ "java/lang/invoke/VarHandle" ∧ (parseMethodDescriptor y_Mod_isNewNamed.desc).map (fun d => d.parameters.length) = some 1 := by decide +kernel
abbrev y_Mod_isNewParameter : MethodName := ⟨"MacroMillModel", "isNewParameter", "(I)Z"⟩
abbrev b_Mod_isNewParameter : ByteArray := prog_15_method_119_code
theorem hd_Mod_isNewParameter : y_Mod_isNewParameter.cls ≠ "java/lang/invoke/MethodHandle" ∧ y_Mod_isNewParameter.cls ≠ "java/lang/invoke/VarHandle" ∧ (parseMethodDescriptor y_Mod_isNewParameter.desc).map (fun d => d.parameters.length) = some 1 := by decide +kernel
abbrev y_Mod_isNewUse : MethodName := ⟨"MacroMillModel", "isNewUse", "(I)Z"⟩
abbrev b_Mod_isNewUse : ByteArray := prog_15_method_121_code
theorem hd_Mod_isNewUse : y_Mod_isNewUse.cls ≠ "java/lang/invoke/MethodHandle" ∧ y_Mod_isNewUse.cls ≠ "java/lang/invoke/VarHandle" ∧ (parseMethodDescriptor y_Mod_isNewUse.desc).map (fun d => d.parameters.length) = some 1 := by decide +kernel
abbrev y_Mod_isOneOf : MethodName := ⟨"MacroMillModel", "isOneOf", "(ILjava/lang/String;)Z"⟩
abbrev b_Mod_isOneOf : ByteArray := prog_15_method_76_code
theorem hd_Mod_isOneOf : y_Mod_isOneOf.cls ≠ "java/lang/invoke/MethodHandle" ∧ y_Mod_isOneOf.cls ≠ "java/lang/invoke/VarHandle" ∧ (parseMethodDescriptor y_Mod_isOneOf.desc).map (fun d => d.parameters.length) = some 2 := by decide +kernel
abbrev y_Mod_isOneToken : MethodName := ⟨"MacroMillModel", "isOneToken", "(II)Z"⟩
abbrev b_Mod_isOneToken : ByteArray := prog_15_method_79_code
theorem hd_Mod_isOneToken : y_Mod_isOneToken.cls ≠ "java/lang/invoke/MethodHandle" ∧ y_Mod_isOneToken.cls ≠ "java/lang/invoke/VarHandle" ∧ (parseMethodDescriptor y_Mod_isOneToken.desc).map (fun d => d.parameters.length) = some 2 := by decide +kernel
abbrev y_Mod_isPlainText : MethodName := ⟨"MacroMillModel", "isPlainText", "(I)Z"⟩
abbrev b_Mod_isPlainText : ByteArray := prog_15_method_129_code
theorem hd_Mod_isPlainText : y_Mod_isPlainText.cls ≠ "java/lang/invoke/MethodHandle" ∧ y_Mod_isPlainText.cls ≠ "java/lang/invoke/VarHandle" ∧ (parseMethodDescriptor y_Mod_isPlainText.desc).map (fun d => d.parameters.length) = some 1 := by decide +kernel
abbrev y_Mod_isQuote : MethodName := ⟨"MacroMillModel", "isQuote", "(II)Z"⟩
abbrev b_Mod_isQuote : ByteArray := prog_15_method_53_code
theorem hd_Mod_isQuote : y_Mod_isQuote.cls ≠ "java/lang/invoke/MethodHandle" ∧ y_Mod_isQuote.cls ≠ "java/lang/invoke/VarHandle" ∧ (parseMethodDescriptor y_Mod_isQuote.desc).map (fun d => d.parameters.length) = some 2 := by decide +kernel
abbrev y_Mod_isSpelledAs : MethodName := ⟨"MacroMillModel", "isSpelledAs", "(III)Z"⟩
abbrev b_Mod_isSpelledAs : ByteArray := prog_15_method_71_code
theorem hd_Mod_isSpelledAs : y_Mod_isSpelledAs.cls ≠ "java/lang/invoke/MethodHandle" ∧ y_Mod_isSpelledAs.cls ≠ "java/lang/invoke/VarHandle" ∧ (parseMethodDescriptor y_Mod_isSpelledAs.desc).map (fun d => d.parameters.length) = some 3 := by decide +kernel
abbrev y_Mod_isTitle : MethodName := ⟨"MacroMillModel", "isTitle", "(I[BII)Z"⟩
abbrev b_Mod_isTitle : ByteArray := prog_15_method_6_code
theorem hd_Mod_isTitle : y_Mod_isTitle.cls ≠ "java/lang/invoke/MethodHandle" ∧ y_Mod_isTitle.cls ≠ "java/lang/invoke/VarHandle" ∧ (parseMethodDescriptor y_Mod_isTitle.desc).map (fun d => d.parameters.length) = some 4 := by decide +kernel
abbrev y_Mod_join : MethodName := ⟨"MacroMillModel", "join", "(IJJZZ)J"⟩
abbrev b_Mod_join : ByteArray := prog_15_method_145_code
theorem hd_Mod_join : y_Mod_join.cls ≠ "java/lang/invoke/MethodHandle" ∧ y_Mod_join.cls ≠ "java/lang/invoke/VarHandle" ∧ (parseMethodDescriptor y_Mod_join.desc).map (fun d => d.parameters.length) = some 5 := by decide +kernel
abbrev y_Mod_kindOf : MethodName := ⟨"MacroMillModel", "kindOf", "(I)I"⟩
abbrev b_Mod_kindOf : ByteArray := prog_15_method_72_code
theorem hd_Mod_kindOf : y_Mod_kindOf.cls ≠ "java/lang/invoke/MethodHandle" ∧ y_Mod_kindOf.cls ≠ "java/lang/invoke/VarHandle" ∧ (parseMethodDescriptor y_Mod_kindOf.desc).map (fun d => d.parameters.length) = some 1 := by decide +kernel
abbrev y_Mod_lineNumber : MethodName := ⟨"MacroMillModel", "lineNumber", "(I)I"⟩
abbrev b_Mod_lineNumber : ByteArray := prog_15_method_87_code
theorem hd_Mod_lineNumber : y_Mod_lineNumber.cls ≠ "java/lang/invoke/MethodHandle" ∧ y_Mod_lineNumber.cls ≠ "java/lang/invoke/VarHandle" ∧ (parseMethodDescriptor y_Mod_lineNumber.desc).map (fun d => d.parameters.length) = some 1 := by decide +kernel
abbrev y_Mod_macroOf : MethodName := ⟨"MacroMillModel", "macroOf", "(I)I"⟩
abbrev b_Mod_macroOf : ByteArray := prog_15_method_81_code
theorem hd_Mod_macroOf : y_Mod_macroOf.cls ≠ "java/lang/invoke/MethodHandle" ∧ y_Mod_macroOf.cls ≠ "java/lang/invoke/VarHandle" ∧ (parseMethodDescriptor y_Mod_macroOf.desc).map (fun d => d.parameters.length) = some 1 := by decide +kernel
abbrev y_Mod_macrosEnd : MethodName := ⟨"MacroMillModel", "macrosEnd", "()V"⟩
abbrev b_Mod_macrosEnd : ByteArray := prog_15_method_152_code
theorem hd_Mod_macrosEnd : y_Mod_macrosEnd.cls ≠ "java/lang/invoke/MethodHandle" ∧ y_Mod_macrosEnd.cls ≠ "java/lang/invoke/VarHandle" ∧ (parseMethodDescriptor y_Mod_macrosEnd.desc).map (fun d => d.parameters.length) = some 0 := by decide +kernel
abbrev y_Mod_markDefined : MethodName := ⟨"MacroMillModel", "markDefined", "(I)I"⟩
abbrev b_Mod_markDefined : ByteArray := prog_15_method_136_code
theorem hd_Mod_markDefined : y_Mod_markDefined.cls ≠ "java/lang/invoke/MethodHandle" ∧ y_Mod_markDefined.cls ≠ "java/lang/invoke/VarHandle" ∧ (parseMethodDescriptor y_Mod_markDefined.desc).map (fun d => d.parameters.length) = some 1 := by decide +kernel
abbrev y_Mod_nameOf : MethodName := ⟨"MacroMillModel", "nameOf", "(I)Ljava/lang/String;"⟩
abbrev b_Mod_nameOf : ByteArray := prog_15_method_25_code
theorem hd_Mod_nameOf : y_Mod_nameOf.cls ≠ "java/lang/invoke/MethodHandle" ∧ y_Mod_nameOf.cls ≠ "java/lang/invoke/VarHandle" ∧ (parseMethodDescriptor y_Mod_nameOf.desc).map (fun d => d.parameters.length) = some 1 := by decide +kernel
abbrev y_Mod_nameOfCell : MethodName := ⟨"MacroMillModel", "nameOfCell", "(I)I"⟩
abbrev b_Mod_nameOfCell : ByteArray := prog_15_method_80_code
theorem hd_Mod_nameOfCell : y_Mod_nameOfCell.cls ≠ "java/lang/invoke/MethodHandle" ∧ y_Mod_nameOfCell.cls ≠ "java/lang/invoke/VarHandle" ∧ (parseMethodDescriptor y_Mod_nameOfCell.desc).map (fun d => d.parameters.length) = some 1 := by decide +kernel
abbrev y_Mod_number : MethodName := ⟨"MacroMillModel", "number", "(II)I"⟩
abbrev b_Mod_number : ByteArray := prog_15_method_45_code
theorem hd_Mod_number : y_Mod_number.cls ≠ "java/lang/invoke/MethodHandle" ∧ y_Mod_number.cls ≠ "java/lang/invoke/VarHandle" ∧ (parseMethodDescriptor y_Mod_number.desc).map (fun d => d.parameters.length) = some 2 := by decide +kernel
abbrev y_Mod_numberOf : MethodName := ⟨"MacroMillModel", "numberOf", "(I)J"⟩
abbrev b_Mod_numberOf : ByteArray := prog_15_method_149_code
theorem hd_Mod_numberOf : y_Mod_numberOf.cls ≠ "java/lang/invoke/MethodHandle" ∧ y_Mod_numberOf.cls ≠ "java/lang/invoke/VarHandle" ∧ (parseMethodDescriptor y_Mod_numberOf.desc).map (fun d => d.parameters.length) = some 1 := by decide +kernel
abbrev y_Mod_numeral : MethodName := ⟨"MacroMillModel", "numeral", "()I"⟩
abbrev b_Mod_numeral : ByteArray := prog_15_method_64_code
theorem hd_Mod_numeral : y_Mod_numeral.cls ≠ "java/lang/invoke/MethodHandle" ∧ y_Mod_numeral.cls ≠ "java/lang/invoke/VarHandle" ∧ (parseMethodDescriptor y_Mod_numeral.desc).map (fun d => d.parameters.length) = some 0 := by decide +kernel
abbrev y_Mod_openIf : MethodName := ⟨"MacroMillModel", "openIf", "(II)V"⟩
abbrev b_Mod_openIf : ByteArray := prog_15_method_115_code
theorem hd_Mod_openIf : y_Mod_openIf.cls ≠ "java/lang/invoke/MethodHandle" ∧ y_Mod_openIf.cls ≠ "java/lang/invoke/VarHandle" ∧ (parseMethodDescriptor y_Mod_openIf.desc).map (fun d => d.parameters.length) = some 2 := by decide +kernel
abbrev y_Mod_operands : MethodName := ⟨"MacroMillModel", "operands", "()I"⟩
abbrev b_Mod_operands : ByteArray := prog_15_method_61_code
theorem hd_Mod_operands : y_Mod_operands.cls ≠ "java/lang/invoke/MethodHandle" ∧ y_Mod_operands.cls ≠ "java/lang/invoke/VarHandle" ∧ (parseMethodDescriptor y_Mod_operands.desc).map (fun d => d.parameters.length) = some 0 := by decide +kernel
abbrev y_Mod_operator : MethodName := ⟨"MacroMillModel", "operator", "()I"⟩
abbrev b_Mod_operator : ByteArray := prog_15_method_58_code
theorem hd_Mod_operator : y_Mod_operator.cls ≠ "java/lang/invoke/MethodHandle" ∧ y_Mod_operator.cls ≠ "java/lang/invoke/VarHandle" ∧ (parseMethodDescriptor y_Mod_operator.desc).map (fun d => d.parameters.length) = some 0 := by decide +kernel
abbrev y_Mod_operatorHere : MethodName := ⟨"MacroMillModel", "operatorHere", "()I"⟩
abbrev b_Mod_operatorHere : ByteArray := prog_15_method_141_code
theorem hd_Mod_operatorHere : y_Mod_operatorHere.cls ≠ "java/lang/invoke/MethodHandle" ∧ y_Mod_operatorHere.cls ≠ "java/lang/invoke/VarHandle" ∧ (parseMethodDescriptor y_Mod_operatorHere.desc).map (fun d => d.parameters.length) = some 0 := by decide +kernel
abbrev y_Mod_parameterOf : MethodName := ⟨"MacroMillModel", "parameterOf", "(II)I"⟩
abbrev b_Mod_parameterOf : ByteArray := prog_15_method_96_code
theorem hd_Mod_parameterOf : y_Mod_parameterOf.cls ≠ "java/lang/invoke/MethodHandle" ∧ y_Mod_parameterOf.cls ≠ "java/lang/invoke/VarHandle" ∧ (parseMethodDescriptor y_Mod_parameterOf.desc).map (fun d => d.parameters.length) = some 2 := by decide +kernel
abbrev y_Mod_parameters : MethodName := ⟨"MacroMillModel", "parameters", "()I"⟩
abbrev b_Mod_parameters : ByteArray := prog_15_method_157_code
theorem hd_Mod_parameters : y_Mod_parameters.cls ≠ "java/lang/invoke/MethodHandle" ∧ y_Mod_parameters.cls ≠ "java/lang/invoke/VarHandle" ∧ (parseMethodDescriptor y_Mod_parameters.desc).map (fun d => d.parameters.length) = some 0 := by decide +kernel
abbrev y_Mod_parametersNow : MethodName := ⟨"MacroMillModel", "parametersNow", "()I"⟩
abbrev b_Mod_parametersNow : ByteArray := prog_15_method_125_code
theorem hd_Mod_parametersNow : y_Mod_parametersNow.cls ≠ "java/lang/invoke/MethodHandle" ∧ y_Mod_parametersNow.cls ≠ "java/lang/invoke/VarHandle" ∧ (parseMethodDescriptor y_Mod_parametersNow.desc).map (fun d => d.parameters.length) = some 0 := by decide +kernel
abbrev y_Mod_partOf : MethodName := ⟨"MacroMillModel", "partOf", "(III)V"⟩
abbrev b_Mod_partOf : ByteArray := prog_15_method_116_code
theorem hd_Mod_partOf : y_Mod_partOf.cls ≠ "java/lang/invoke/MethodHandle" ∧ y_Mod_partOf.cls ≠ "java/lang/invoke/VarHandle" ∧ (parseMethodDescriptor y_Mod_partOf.desc).map (fun d => d.parameters.length) = some 3 := by decide +kernel
abbrev y_Mod_pass : MethodName := ⟨"MacroMillModel", "pass", "(IZ)V"⟩
abbrev b_Mod_pass : ByteArray := prog_15_method_19_code
theorem hd_Mod_pass : y_Mod_pass.cls ≠ "java/lang/invoke/MethodHandle" ∧ y_Mod_pass.cls ≠ "java/lang/invoke/VarHandle" ∧ (parseMethodDescriptor y_Mod_pass.desc).map (fun d => d.parameters.length) = some 2 := by decide +kernel
abbrev y_Mod_paste : MethodName := ⟨"MacroMillModel", "paste", "(III)V"⟩
abbrev b_Mod_paste : ByteArray := prog_15_method_100_code
theorem hd_Mod_paste : y_Mod_paste.cls ≠ "java/lang/invoke/MethodHandle" ∧ y_Mod_paste.cls ≠ "java/lang/invoke/VarHandle" ∧ (parseMethodDescriptor y_Mod_paste.desc).map (fun d => d.parameters.length) = some 3 := by decide +kernel
abbrev y_Mod_peek : MethodName := ⟨"MacroMillModel", "peek", "(I)I"⟩
abbrev b_Mod_peek : ByteArray := prog_15_method_15_code
theorem hd_Mod_peek : y_Mod_peek.cls ≠ "java/lang/invoke/MethodHandle" ∧ y_Mod_peek.cls ≠ "java/lang/invoke/VarHandle" ∧ (parseMethodDescriptor y_Mod_peek.desc).map (fun d => d.parameters.length) = some 1 := by decide +kernel
abbrev y_Mod_placeOf : MethodName := ⟨"MacroMillModel", "placeOf", "(I)I"⟩
abbrev b_Mod_placeOf : ByteArray := prog_15_method_50_code
theorem hd_Mod_placeOf : y_Mod_placeOf.cls ≠ "java/lang/invoke/MethodHandle" ∧ y_Mod_placeOf.cls ≠ "java/lang/invoke/VarHandle" ∧ (parseMethodDescriptor y_Mod_placeOf.desc).map (fun d => d.parameters.length) = some 1 := by decide +kernel
abbrev y_Mod_put : MethodName := ⟨"MacroMillModel", "put", "(III)V"⟩
abbrev b_Mod_put : ByteArray := prog_15_method_95_code
theorem hd_Mod_put : y_Mod_put.cls ≠ "java/lang/invoke/MethodHandle" ∧ y_Mod_put.cls ≠ "java/lang/invoke/VarHandle" ∧ (parseMethodDescriptor y_Mod_put.desc).map (fun d => d.parameters.length) = some 3 := by decide +kernel
abbrev y_Mod_putArgument : MethodName := ⟨"MacroMillModel", "putArgument", "(I)V"⟩
abbrev b_Mod_putArgument : ByteArray := prog_15_method_33_code
theorem hd_Mod_putArgument : y_Mod_putArgument.cls ≠ "java/lang/invoke/MethodHandle" ∧ y_Mod_putArgument.cls ≠ "java/lang/invoke/VarHandle" ∧ (parseMethodDescriptor y_Mod_putArgument.desc).map (fun d => d.parameters.length) = some 1 := by decide +kernel
abbrev y_Mod_putBack : MethodName := ⟨"MacroMillModel", "putBack", "()V"⟩
abbrev b_Mod_putBack : ByteArray := prog_15_method_24_code
theorem hd_Mod_putBack : y_Mod_putBack.cls ≠ "java/lang/invoke/MethodHandle" ∧ y_Mod_putBack.cls ≠ "java/lang/invoke/VarHandle" ∧ (parseMethodDescriptor y_Mod_putBack.desc).map (fun d => d.parameters.length) = some 0 := by decide +kernel
abbrev y_Mod_putRaw : MethodName := ⟨"MacroMillModel", "putRaw", "(IIII)V"⟩
abbrev b_Mod_putRaw : ByteArray := prog_15_method_99_code
theorem hd_Mod_putRaw : y_Mod_putRaw.cls ≠ "java/lang/invoke/MethodHandle" ∧ y_Mod_putRaw.cls ≠ "java/lang/invoke/VarHandle" ∧ (parseMethodDescriptor y_Mod_putRaw.desc).map (fun d => d.parameters.length) = some 4 := by decide +kernel
abbrev y_Mod_putReplaced : MethodName := ⟨"MacroMillModel", "putReplaced", "(IIII)V"⟩
abbrev b_Mod_putReplaced : ByteArray := prog_15_method_104_code
theorem hd_Mod_putReplaced : y_Mod_putReplaced.cls ≠ "java/lang/invoke/MethodHandle" ∧ y_Mod_putReplaced.cls ≠ "java/lang/invoke/VarHandle" ∧ (parseMethodDescriptor y_Mod_putReplaced.desc).map (fun d => d.parameters.length) = some 4 := by decide +kernel
abbrev y_Mod_putToken : MethodName := ⟨"MacroMillModel", "putToken", "(Z)V"⟩
abbrev b_Mod_putToken : ByteArray := prog_15_method_34_code
theorem hd_Mod_putToken : y_Mod_putToken.cls ≠ "java/lang/invoke/MethodHandle" ∧ y_Mod_putToken.cls ≠ "java/lang/invoke/VarHandle" ∧ (parseMethodDescriptor y_Mod_putToken.desc).map (fun d => d.parameters.length) = some 1 := by decide +kernel
abbrev y_Mod_quotedEnd : MethodName := ⟨"MacroMillModel", "quotedEnd", "(II)I"⟩
abbrev b_Mod_quotedEnd : ByteArray := prog_15_method_75_code
theorem hd_Mod_quotedEnd : y_Mod_quotedEnd.cls ≠ "java/lang/invoke/MethodHandle" ∧ y_Mod_quotedEnd.cls ≠ "java/lang/invoke/VarHandle" ∧ (parseMethodDescriptor y_Mod_quotedEnd.desc).map (fun d => d.parameters.length) = some 2 := by decide +kernel
abbrev y_Mod_quotient : MethodName := ⟨"MacroMillModel", "quotient", "(JJZ)J"⟩
abbrev b_Mod_quotient : ByteArray := prog_15_method_146_code
theorem hd_Mod_quotient : y_Mod_quotient.cls ≠ "java/lang/invoke/MethodHandle" ∧ y_Mod_quotient.cls ≠ "java/lang/invoke/VarHandle" ∧ (parseMethodDescriptor y_Mod_quotient.desc).map (fun d => d.parameters.length) = some 3 := by decide +kernel
abbrev y_Mod_readArguments : MethodName := ⟨"MacroMillModel", "readArguments", "()V"⟩
abbrev b_Mod_readArguments : ByteArray := prog_15_method_37_code
theorem hd_Mod_readArguments : y_Mod_readArguments.cls ≠ "java/lang/invoke/MethodHandle" ∧ y_Mod_readArguments.cls ≠ "java/lang/invoke/VarHandle" ∧ (parseMethodDescriptor y_Mod_readArguments.desc).map (fun d => d.parameters.length) = some 0 := by decide +kernel
abbrev y_Mod_readParameters : MethodName := ⟨"MacroMillModel", "readParameters", "(I)Z"⟩
abbrev b_Mod_readParameters : ByteArray := prog_15_method_120_code
theorem hd_Mod_readParameters : y_Mod_readParameters.cls ≠ "java/lang/invoke/MethodHandle" ∧ y_Mod_readParameters.cls ≠ "java/lang/invoke/VarHandle" ∧ (parseMethodDescriptor y_Mod_readParameters.desc).map (fun d => d.parameters.length) = some 1 := by decide +kernel
abbrev y_Mod_readQuoted : MethodName := ⟨"MacroMillModel", "readQuoted", "()V"⟩
abbrev b_Mod_readQuoted : ByteArray := prog_15_method_20_code
theorem hd_Mod_readQuoted : y_Mod_readQuoted.cls ≠ "java/lang/invoke/MethodHandle" ∧ y_Mod_readQuoted.cls ≠ "java/lang/invoke/VarHandle" ∧ (parseMethodDescriptor y_Mod_readQuoted.desc).map (fun d => d.parameters.length) = some 0 := by decide +kernel
abbrev y_Mod_readTitle : MethodName := ⟨"MacroMillModel", "readTitle", "(I)I"⟩
abbrev b_Mod_readTitle : ByteArray := prog_15_method_130_code
theorem hd_Mod_readTitle : y_Mod_readTitle.cls ≠ "java/lang/invoke/MethodHandle" ∧ y_Mod_readTitle.cls ≠ "java/lang/invoke/VarHandle" ∧ (parseMethodDescriptor y_Mod_readTitle.desc).map (fun d => d.parameters.length) = some 1 := by decide +kernel
abbrev y_Mod_readToken : MethodName := ⟨"MacroMillModel", "readToken", "()V"⟩
abbrev b_Mod_readToken : ByteArray := prog_15_method_21_code
theorem hd_Mod_readToken : y_Mod_readToken.cls ≠ "java/lang/invoke/MethodHandle" ∧ y_Mod_readToken.cls ≠ "java/lang/invoke/VarHandle" ∧ (parseMethodDescriptor y_Mod_readToken.desc).map (fun d => d.parameters.length) = some 0 := by decide +kernel
abbrev y_Mod_replace : MethodName := ⟨"MacroMillModel", "replace", "(IIIZ)I"⟩
abbrev b_Mod_replace : ByteArray := prog_15_method_90_code
theorem hd_Mod_replace : y_Mod_replace.cls ≠ "java/lang/invoke/MethodHandle" ∧ y_Mod_replace.cls ≠ "java/lang/invoke/VarHandle" ∧ (parseMethodDescriptor y_Mod_replace.desc).map (fun d => d.parameters.length) = some 4 := by decide +kernel
abbrev y_Mod_run : MethodName := ⟨"MacroMillModel", "run", "(IIII)I"⟩
abbrev b_Mod_run : ByteArray := prog_15_method_151_code
theorem hd_Mod_run : y_Mod_run.cls ≠ "java/lang/invoke/MethodHandle" ∧ y_Mod_run.cls ≠ "java/lang/invoke/VarHandle" ∧ (parseMethodDescriptor y_Mod_run.desc).map (fun d => d.parameters.length) = some 4 := by decide +kernel
abbrev y_Mod_runFirst : MethodName := ⟨"MacroMillModel", "runFirst", "(II)V"⟩
abbrev b_Mod_runFirst : ByteArray := prog_15_method_65_code
theorem hd_Mod_runFirst : y_Mod_runFirst.cls ≠ "java/lang/invoke/MethodHandle" ∧ y_Mod_runFirst.cls ≠ "java/lang/invoke/VarHandle" ∧ (parseMethodDescriptor y_Mod_runFirst.desc).map (fun d => d.parameters.length) = some 2 := by decide +kernel
abbrev y_Mod_runSecond : MethodName := ⟨"MacroMillModel", "runSecond", "(IZI)V"⟩
abbrev b_Mod_runSecond : ByteArray := prog_15_method_153_code
theorem hd_Mod_runSecond : y_Mod_runSecond.cls ≠ "java/lang/invoke/MethodHandle" ∧ y_Mod_runSecond.cls ≠ "java/lang/invoke/VarHandle" ∧ (parseMethodDescriptor y_Mod_runSecond.desc).map (fun d => d.parameters.length) = some 3 := by decide +kernel
abbrev y_Mod_same : MethodName := ⟨"MacroMillModel", "same", "(III)Z"⟩
abbrev b_Mod_same : ByteArray := prog_15_method_44_code
theorem hd_Mod_same : y_Mod_same.cls ≠ "java/lang/invoke/MethodHandle" ∧ y_Mod_same.cls ≠ "java/lang/invoke/VarHandle" ∧ (parseMethodDescriptor y_Mod_same.desc).map (fun d => d.parameters.length) = some 3 := by decide +kernel
abbrev y_Mod_setHide : MethodName := ⟨"MacroMillModel", "setHide", "(IIII)V"⟩
abbrev b_Mod_setHide : ByteArray := prog_15_method_93_code
theorem hd_Mod_setHide : y_Mod_setHide.cls ≠ "java/lang/invoke/MethodHandle" ∧ y_Mod_setHide.cls ≠ "java/lang/invoke/VarHandle" ∧ (parseMethodDescriptor y_Mod_setHide.desc).map (fun d => d.parameters.length) = some 4 := by decide +kernel
abbrev y_Mod_setLine : MethodName := ⟨"MacroMillModel", "setLine", "(I)V"⟩
abbrev b_Mod_setLine : ByteArray := prog_15_method_134_code
theorem hd_Mod_setLine : y_Mod_setLine.cls ≠ "java/lang/invoke/MethodHandle" ∧ y_Mod_setLine.cls ≠ "java/lang/invoke/VarHandle" ∧ (parseMethodDescriptor y_Mod_setLine.desc).map (fun d => d.parameters.length) = some 1 := by decide +kernel
abbrev y_Mod_setOfSome : MethodName := ⟨"MacroMillModel", "setOfSome", "(I)I"⟩
abbrev b_Mod_setOfSome : ByteArray := prog_15_method_83_code
theorem hd_Mod_setOfSome : y_Mod_setOfSome.cls ≠ "java/lang/invoke/MethodHandle" ∧ y_Mod_setOfSome.cls ≠ "java/lang/invoke/VarHandle" ∧ (parseMethodDescriptor y_Mod_setOfSome.desc).map (fun d => d.parameters.length) = some 1 := by decide +kernel
abbrev y_Mod_settle_II : MethodName := ⟨"MacroMillModel", "settle", "(I)I"⟩
abbrev b_Mod_settle_II : ByteArray := prog_15_method_60_code
theorem hd_Mod_settle_II : y_Mod_settle_II.cls ≠ "java/lang/invoke/MethodHandle" ∧ y_Mod_settle_II.cls ≠ "java/lang/invoke/VarHandle" ∧ (parseMethodDescriptor y_Mod_settle_II.desc).map (fun d => d.parameters.length) = some 1 := by decide +kernel
abbrev y_Mod_settle_JIZJ : MethodName := ⟨"MacroMillModel", "settle", "(JIZ)J"⟩
abbrev b_Mod_settle_JIZJ : ByteArray := prog_15_method_143_code
theorem hd_Mod_settle_JIZJ : y_Mod_settle_JIZJ.cls ≠ "java/lang/invoke/MethodHandle" ∧ y_Mod_settle_JIZJ.cls ≠ "java/lang/invoke/VarHandle" ∧ (parseMethodDescriptor y_Mod_settle_JIZJ.desc).map (fun d => d.parameters.length) = some 3 := by decide +kernel
abbrev y_Mod_show : MethodName := ⟨"MacroMillModel", "show", "(II)V"⟩
abbrev b_Mod_show : ByteArray := prog_15_method_92_code
theorem hd_Mod_show : y_Mod_show.cls ≠ "java/lang/invoke/MethodHandle" ∧ y_Mod_show.cls ≠ "java/lang/invoke/VarHandle" ∧ (parseMethodDescriptor y_Mod_show.desc).map (fun d => d.parameters.length) = some 2 := by decide +kernel
abbrev y_Mod_sign : MethodName := ⟨"MacroMillModel", "sign", "(I)I"⟩
abbrev b_Mod_sign : ByteArray := prog_15_method_55_code
theorem hd_Mod_sign : y_Mod_sign.cls ≠ "java/lang/invoke/MethodHandle" ∧ y_Mod_sign.cls ≠ "java/lang/invoke/VarHandle" ∧ (parseMethodDescriptor y_Mod_sign.desc).map (fun d => d.parameters.length) = some 1 := by decide +kernel
abbrev y_Mod_signOf : MethodName := ⟨"MacroMillModel", "signOf", "(I)Ljava/lang/String;"⟩
abbrev b_Mod_signOf : ByteArray := prog_15_method_140_code
theorem hd_Mod_signOf : y_Mod_signOf.cls ≠ "java/lang/invoke/MethodHandle" ∧ y_Mod_signOf.cls ≠ "java/lang/invoke/VarHandle" ∧ (parseMethodDescriptor y_Mod_signOf.desc).map (fun d => d.parameters.length) = some 1 := by decide +kernel
abbrev y_Mod_signSize : MethodName := ⟨"MacroMillModel", "signSize", "(II)I"⟩
abbrev b_Mod_signSize : ByteArray := prog_15_method_77_code
theorem hd_Mod_signSize : y_Mod_signSize.cls ≠ "java/lang/invoke/MethodHandle" ∧ y_Mod_signSize.cls ≠ "java/lang/invoke/VarHandle" ∧ (parseMethodDescriptor y_Mod_signSize.desc).map (fun d => d.parameters.length) = some 2 := by decide +kernel
abbrev y_Mod_size : MethodName := ⟨"MacroMillModel", "size", "()I"⟩
abbrev b_Mod_size : ByteArray := prog_15_method_155_code
theorem hd_Mod_size : y_Mod_size.cls ≠ "java/lang/invoke/MethodHandle" ∧ y_Mod_size.cls ≠ "java/lang/invoke/VarHandle" ∧ (parseMethodDescriptor y_Mod_size.desc).map (fun d => d.parameters.length) = some 0 := by decide +kernel
abbrev y_Mod_sizeNow : MethodName := ⟨"MacroMillModel", "sizeNow", "(I)I"⟩
abbrev b_Mod_sizeNow : ByteArray := prog_15_method_132_code
theorem hd_Mod_sizeNow : y_Mod_sizeNow.cls ≠ "java/lang/invoke/MethodHandle" ∧ y_Mod_sizeNow.cls ≠ "java/lang/invoke/VarHandle" ∧ (parseMethodDescriptor y_Mod_sizeNow.desc).map (fun d => d.parameters.length) = some 1 := by decide +kernel
abbrev y_Mod_skipBlanks : MethodName := ⟨"MacroMillModel", "skipBlanks", "()V"⟩
abbrev b_Mod_skipBlanks : ByteArray := prog_15_method_56_code
theorem hd_Mod_skipBlanks : y_Mod_skipBlanks.cls ≠ "java/lang/invoke/MethodHandle" ∧ y_Mod_skipBlanks.cls ≠ "java/lang/invoke/VarHandle" ∧ (parseMethodDescriptor y_Mod_skipBlanks.desc).map (fun d => d.parameters.length) = some 0 := by decide +kernel
abbrev y_Mod_special : MethodName := ⟨"MacroMillModel", "special", "(I)I"⟩
abbrev b_Mod_special : ByteArray := prog_15_method_88_code
theorem hd_Mod_special : y_Mod_special.cls ≠ "java/lang/invoke/MethodHandle" ∧ y_Mod_special.cls ≠ "java/lang/invoke/VarHandle" ∧ (parseMethodDescriptor y_Mod_special.desc).map (fun d => d.parameters.length) = some 1 := by decide +kernel
abbrev y_Mod_spell : MethodName := ⟨"MacroMillModel", "spell", "(I)V"⟩
abbrev b_Mod_spell : ByteArray := prog_15_method_86_code
theorem hd_Mod_spell : y_Mod_spell.cls ≠ "java/lang/invoke/MethodHandle" ∧ y_Mod_spell.cls ≠ "java/lang/invoke/VarHandle" ∧ (parseMethodDescriptor y_Mod_spell.desc).map (fun d => d.parameters.length) = some 1 := by decide +kernel
abbrev y_Mod_spelled : MethodName := ⟨"MacroMillModel", "spelled", "(IIIZ)I"⟩
abbrev b_Mod_spelled : ByteArray := prog_15_method_101_code
theorem hd_Mod_spelled : y_Mod_spelled.cls ≠ "java/lang/invoke/MethodHandle" ∧ y_Mod_spelled.cls ≠ "java/lang/invoke/VarHandle" ∧ (parseMethodDescriptor y_Mod_spelled.desc).map (fun d => d.parameters.length) = some 4 := by decide +kernel
abbrev y_Mod_spend : MethodName := ⟨"MacroMillModel", "spend", "(II)Z"⟩
abbrev b_Mod_spend : ByteArray := prog_15_method_85_code
theorem hd_Mod_spend : y_Mod_spend.cls ≠ "java/lang/invoke/MethodHandle" ∧ y_Mod_spend.cls ≠ "java/lang/invoke/VarHandle" ∧ (parseMethodDescriptor y_Mod_spend.desc).map (fun d => d.parameters.length) = some 2 := by decide +kernel
abbrev y_Mod_storeFile : MethodName := ⟨"MacroMillModel", "storeFile", "(I[BII)V"⟩
abbrev b_Mod_storeFile : ByteArray := prog_15_method_66_code
theorem hd_Mod_storeFile : y_Mod_storeFile.cls ≠ "java/lang/invoke/MethodHandle" ∧ y_Mod_storeFile.cls ≠ "java/lang/invoke/VarHandle" ∧ (parseMethodDescriptor y_Mod_storeFile.desc).map (fun d => d.parameters.length) = some 4 := by decide +kernel
abbrev y_Mod_strengthOf : MethodName := ⟨"MacroMillModel", "strengthOf", "(Ljava/lang/String;)I"⟩
abbrev b_Mod_strengthOf : ByteArray := prog_15_method_139_code
theorem hd_Mod_strengthOf : y_Mod_strengthOf.cls ≠ "java/lang/invoke/MethodHandle" ∧ y_Mod_strengthOf.cls ≠ "java/lang/invoke/VarHandle" ∧ (parseMethodDescriptor y_Mod_strengthOf.desc).map (fun d => d.parameters.length) = some 1 := by decide +kernel
abbrev y_Mod_substitute : MethodName := ⟨"MacroMillModel", "substitute", "(IIIII)I"⟩
abbrev b_Mod_substitute : ByteArray := prog_15_method_103_code
theorem hd_Mod_substitute : y_Mod_substitute.cls ≠ "java/lang/invoke/MethodHandle" ∧ y_Mod_substitute.cls ≠ "java/lang/invoke/VarHandle" ∧ (parseMethodDescriptor y_Mod_substitute.desc).map (fun d => d.parameters.length) = some 5 := by decide +kernel
abbrev y_Mod_take : MethodName := ⟨"MacroMillModel", "take", "()I"⟩
abbrev b_Mod_take : ByteArray := prog_15_method_16_code
theorem hd_Mod_take : y_Mod_take.cls ≠ "java/lang/invoke/MethodHandle" ∧ y_Mod_take.cls ≠ "java/lang/invoke/VarHandle" ∧ (parseMethodDescriptor y_Mod_take.desc).map (fun d => d.parameters.length) = some 0 := by decide +kernel
abbrev y_Mod_takeFile : MethodName := ⟨"MacroMillModel", "takeFile", "()V"⟩
abbrev b_Mod_takeFile : ByteArray := prog_15_method_112_code
theorem hd_Mod_takeFile : y_Mod_takeFile.cls ≠ "java/lang/invoke/MethodHandle" ∧ y_Mod_takeFile.cls ≠ "java/lang/invoke/VarHandle" ∧ (parseMethodDescriptor y_Mod_takeFile.desc).map (fun d => d.parameters.length) = some 0 := by decide +kernel
abbrev y_Mod_takeLine : MethodName := ⟨"MacroMillModel", "takeLine", "()Z"⟩
abbrev b_Mod_takeLine : ByteArray := prog_15_method_106_code
theorem hd_Mod_takeLine : y_Mod_takeLine.cls ≠ "java/lang/invoke/MethodHandle" ∧ y_Mod_takeLine.cls ≠ "java/lang/invoke/VarHandle" ∧ (parseMethodDescriptor y_Mod_takeLine.desc).map (fun d => d.parameters.length) = some 0 := by decide +kernel
abbrev y_Mod_titleByte : MethodName := ⟨"MacroMillModel", "titleByte", "(I)I"⟩
abbrev b_Mod_titleByte : ByteArray := prog_15_method_89_code
theorem hd_Mod_titleByte : y_Mod_titleByte.cls ≠ "java/lang/invoke/MethodHandle" ∧ y_Mod_titleByte.cls ≠ "java/lang/invoke/VarHandle" ∧ (parseMethodDescriptor y_Mod_titleByte.desc).map (fun d => d.parameters.length) = some 1 := by decide +kernel
abbrev y_Mod_tokenSizeAt : MethodName := ⟨"MacroMillModel", "tokenSizeAt", "(II)I"⟩
abbrev b_Mod_tokenSizeAt : ByteArray := prog_15_method_78_code
theorem hd_Mod_tokenSizeAt : y_Mod_tokenSizeAt.cls ≠ "java/lang/invoke/MethodHandle" ∧ y_Mod_tokenSizeAt.cls ≠ "java/lang/invoke/VarHandle" ∧ (parseMethodDescriptor y_Mod_tokenSizeAt.desc).map (fun d => d.parameters.length) = some 2 := by decide +kernel
abbrev y_Mod_told : MethodName := ⟨"MacroMillModel", "told", "(I)I"⟩
abbrev b_Mod_told : ByteArray := prog_15_method_154_code
theorem hd_Mod_told : y_Mod_told.cls ≠ "java/lang/invoke/MethodHandle" ∧ y_Mod_told.cls ≠ "java/lang/invoke/VarHandle" ∧ (parseMethodDescriptor y_Mod_told.desc).map (fun d => d.parameters.length) = some 1 := by decide +kernel
abbrev y_Mod_top : MethodName := ⟨"MacroMillModel", "top", "([BII)I"⟩
abbrev b_Mod_top : ByteArray := prog_15_method_28_code
theorem hd_Mod_top : y_Mod_top.cls ≠ "java/lang/invoke/MethodHandle" ∧ y_Mod_top.cls ≠ "java/lang/invoke/VarHandle" ∧ (parseMethodDescriptor y_Mod_top.desc).map (fun d => d.parameters.length) = some 3 := by decide +kernel
abbrev y_Mod_unary : MethodName := ⟨"MacroMillModel", "unary", "()I"⟩
abbrev b_Mod_unary : ByteArray := prog_15_method_63_code
theorem hd_Mod_unary : y_Mod_unary.cls ≠ "java/lang/invoke/MethodHandle" ∧ y_Mod_unary.cls ≠ "java/lang/invoke/VarHandle" ∧ (parseMethodDescriptor y_Mod_unary.desc).map (fun d => d.parameters.length) = some 0 := by decide +kernel
abbrev y_Mod_undefine : MethodName := ⟨"MacroMillModel", "undefine", "(I)V"⟩
abbrev b_Mod_undefine : ByteArray := prog_15_method_127_code
theorem hd_Mod_undefine : y_Mod_undefine.cls ≠ "java/lang/invoke/MethodHandle" ∧ y_Mod_undefine.cls ≠ "java/lang/invoke/VarHandle" ∧ (parseMethodDescriptor y_Mod_undefine.desc).map (fun d => d.parameters.length) = some 1 := by decide +kernel
abbrev y_Mod_undivert : MethodName := ⟨"MacroMillModel", "undivert", "(I)V"⟩
abbrev b_Mod_undivert : ByteArray := prog_15_method_32_code
theorem hd_Mod_undivert : y_Mod_undivert.cls ≠ "java/lang/invoke/MethodHandle" ∧ y_Mod_undivert.cls ≠ "java/lang/invoke/VarHandle" ∧ (parseMethodDescriptor y_Mod_undivert.desc).map (fun d => d.parameters.length) = some 1 := by decide +kernel
abbrev y_Mod_use : MethodName := ⟨"MacroMillModel", "use", "()I"⟩
abbrev b_Mod_use : ByteArray := prog_15_method_5_code
theorem hd_Mod_use : y_Mod_use.cls ≠ "java/lang/invoke/MethodHandle" ∧ y_Mod_use.cls ≠ "java/lang/invoke/VarHandle" ∧ (parseMethodDescriptor y_Mod_use.desc).map (fun d => d.parameters.length) = some 0 := by decide +kernel
abbrev y_Mod_want : MethodName := ⟨"MacroMillModel", "want", "(I)V"⟩
abbrev b_Mod_want : ByteArray := prog_15_method_128_code
theorem hd_Mod_want : y_Mod_want.cls ≠ "java/lang/invoke/MethodHandle" ∧ y_Mod_want.cls ≠ "java/lang/invoke/VarHandle" ∧ (parseMethodDescriptor y_Mod_want.desc).map (fun d => d.parameters.length) = some 1 := by decide +kernel
abbrev y_Mod_word : MethodName := ⟨"MacroMillModel", "word", "(I)J"⟩
abbrev b_Mod_word : ByteArray := prog_15_method_156_code
theorem hd_Mod_word : y_Mod_word.cls ≠ "java/lang/invoke/MethodHandle" ∧ y_Mod_word.cls ≠ "java/lang/invoke/VarHandle" ∧ (parseMethodDescriptor y_Mod_word.desc).map (fun d => d.parameters.length) = some 1 := by decide +kernel
abbrev y_Mod_write : MethodName := ⟨"MacroMillModel", "write", "(I)I"⟩
abbrev b_Mod_write : ByteArray := prog_15_method_8_code
theorem hd_Mod_write : y_Mod_write.cls ≠ "java/lang/invoke/MethodHandle" ∧ y_Mod_write.cls ≠ "java/lang/invoke/VarHandle" ∧ (parseMethodDescriptor y_Mod_write.desc).map (fun d => d.parameters.length) = some 1 := by decide +kernel
abbrev y_Arrays_fill : MethodName := ⟨"java/util/Arrays", "fill", "([II)V"⟩
abbrev b_Arrays_fill : ByteArray := prog_23_method_103_code
theorem hd_Arrays_fill : y_Arrays_fill.cls ≠ "java/lang/invoke/MethodHandle" ∧ y_Arrays_fill.cls ≠ "java/lang/invoke/VarHandle" ∧ (parseMethodDescriptor y_Arrays_fill.desc).map (fun d => d.parameters.length) = some 2 := by decide +kernel
abbrev b_Law_law : ByteArray := code
