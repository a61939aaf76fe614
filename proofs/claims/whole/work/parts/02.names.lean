-- names: classes, fields, methods; written by wip/gen/make.py out of the Statement
def L_MM : List (String × String × String × Bool) := [("MacroMill", "tape", "[B", true), ("MacroMill", "tapeSize", "I", false), ("MacroMill", "canBeCut", "Z", false), ("MacroMill", "files", "LMacroMill$Files;", true), ("MacroMill", "outcome", "LMacroMill$Outcome;", true), ("MacroMill", "first", "LMacroMill$First;", true), ("MacroMill", "second", "LMacroMill$Second;", true)]
def F_MM : u_T := fun k => L_MM.getD k ("", "", "", false)
def LT_MM : List FieldType := [.array .byte, .int, .boolean, .object "MacroMill$Files", .object "MacroMill$Outcome", .object "MacroMill$First", .object "MacroMill$Second"]
def t_MM : Nat → FieldType := fun k => LT_MM.getD k .int
set_option maxRecDepth 100000 in
theorem n_MM : ∀ a, a < 7 → ∀ b, b < 7 → a ≠ b → (F_MM a).2.1 ≠ (F_MM b).2.1 := by decide +kernel
set_option maxRecDepth 100000 in
theorem t_MM_ok : ∀ k, k < 7 → parseFieldDescriptor (F_MM k).2.2.1 = some (t_MM k) := by decide +kernel
set_option maxRecDepth 100000 in
theorem z_MM : ∀ j, j < 7 → defaultValue (t_MM j) = vp_V [.null, .int 0, .int 0, .null, .null, .null, .null] j := by decide +kernel
def L_Files : List (String × String × String × Bool) := [("MacroMill$Files", "bytes", "[B", true), ("MacroMill$Files", "titles", "[B", true), ("MacroMill$Files", "titleLength", "[I", true), ("MacroMill$Files", "start", "[I", true), ("MacroMill$Files", "count", "I", false)]
def F_Files : u_T := fun k => L_Files.getD k ("", "", "", false)
def LT_Files : List FieldType := [.array .byte, .array .byte, .array .int, .array .int, .int]
def t_Files : Nat → FieldType := fun k => LT_Files.getD k .int
set_option maxRecDepth 100000 in
theorem n_Files : ∀ a, a < 5 → ∀ b, b < 5 → a ≠ b → (F_Files a).2.1 ≠ (F_Files b).2.1 := by decide +kernel
set_option maxRecDepth 100000 in
theorem t_Files_ok : ∀ k, k < 5 → parseFieldDescriptor (F_Files k).2.2.1 = some (t_Files k) := by decide +kernel
set_option maxRecDepth 100000 in
theorem z_Files : ∀ j, j < 5 → defaultValue (t_Files j) = vp_V [.null, .null, .null, .null, .int 0] j := by decide +kernel
def L_Outcome : List (String × String × String × Bool) := [("MacroMill$Outcome", "out", "[B", true), ("MacroMill$Outcome", "size", "I", false), ("MacroMill$Outcome", "error", "I", false), ("MacroMill$Outcome", "file", "I", false), ("MacroMill$Outcome", "line", "I", false), ("MacroMill$Outcome", "fileAtHand", "I", false), ("MacroMill$Outcome", "taken", "I", false), ("MacroMill$Outcome", "putOut", "I", false), ("MacroMill$Outcome", "substituted", "I", false), ("MacroMill$Outcome", "astray", "I", false)]
def F_Outcome : u_T := fun k => L_Outcome.getD k ("", "", "", false)
def LT_Outcome : List FieldType := [.array .byte, .int, .int, .int, .int, .int, .int, .int, .int, .int]
def t_Outcome : Nat → FieldType := fun k => LT_Outcome.getD k .int
set_option maxRecDepth 100000 in
theorem n_Outcome : ∀ a, a < 10 → ∀ b, b < 10 → a ≠ b → (F_Outcome a).2.1 ≠ (F_Outcome b).2.1 := by decide +kernel
set_option maxRecDepth 100000 in
theorem t_Outcome_ok : ∀ k, k < 10 → parseFieldDescriptor (F_Outcome k).2.2.1 = some (t_Outcome k) := by decide +kernel
set_option maxRecDepth 100000 in
theorem z_Outcome : ∀ j, j < 10 → defaultValue (t_Outcome j) = vp_V [.null, .int 0, .int 0, .int 0, .int 0, .int 0, .int 0, .int 0, .int 0, .int 0] j := by decide +kernel
def L_Reckoner : List (String × String × String × Bool) := [("MacroMill$Reckoner", "values", "[J", true), ("MacroMill$Reckoner", "unsigned", "[Z", true), ("MacroMill$Reckoner", "valueCount", "I", false), ("MacroMill$Reckoner", "signs", "[I", true), ("MacroMill$Reckoner", "ranks", "[I", true), ("MacroMill$Reckoner", "idleBefore", "[Z", true), ("MacroMill$Reckoner", "signCount", "I", false), ("MacroMill$Reckoner", "nesting", "I", false), ("MacroMill$Reckoner", "wide", "Z", false), ("MacroMill$Reckoner", "wantsValue", "Z", false), ("MacroMill$Reckoner", "idle", "Z", false), ("MacroMill$Reckoner", "malformed", "Z", false), ("MacroMill$Reckoner", "dividedByZero", "Z", false)]
def F_Reckoner : u_T := fun k => L_Reckoner.getD k ("", "", "", false)
def LT_Reckoner : List FieldType := [.array .long, .array .boolean, .int, .array .int, .array .int, .array .boolean, .int, .int, .boolean, .boolean, .boolean, .boolean, .boolean]
def t_Reckoner : Nat → FieldType := fun k => LT_Reckoner.getD k .int
set_option maxRecDepth 100000 in
theorem n_Reckoner : ∀ a, a < 13 → ∀ b, b < 13 → a ≠ b → (F_Reckoner a).2.1 ≠ (F_Reckoner b).2.1 := by decide +kernel
set_option maxRecDepth 100000 in
theorem t_Reckoner_ok : ∀ k, k < 13 → parseFieldDescriptor (F_Reckoner k).2.2.1 = some (t_Reckoner k) := by decide +kernel
set_option maxRecDepth 100000 in
theorem z_Reckoner : ∀ j, j < 13 → defaultValue (t_Reckoner j) = vp_V [.null, .null, .int 0, .null, .null, .null, .int 0, .int 0, .int 0, .int 0, .int 0, .int 0, .int 0] j := by decide +kernel
def L_First : List (String × String × String × Bool) := [("MacroMill$First", "outcome", "LMacroMill$Outcome;", true), ("MacroMill$First", "reckoner", "LMacroMill$Reckoner;", true), ("MacroMill$First", "input", "LMacroMill$Input;", true), ("MacroMill$First", "calls", "LMacroMill$Calls;", true), ("MacroMill$First", "meanings", "LMacroMill$Meanings;", true), ("MacroMill$First", "result", "[B", true), ("MacroMill$First", "resultSize", "I", false), ("MacroMill$First", "diverted", "[B", true), ("MacroMill$First", "chain", "[I", true), ("MacroMill$First", "head", "[I", true), ("MacroMill$First", "tail", "[I", true), ("MacroMill$First", "free", "I", false), ("MacroMill$First", "fresh", "I", false), ("MacroMill$First", "divertedCount", "I", false), ("MacroMill$First", "current", "I", false)]
def F_First : u_T := fun k => L_First.getD k ("", "", "", false)
def LT_First : List FieldType := [.object "MacroMill$Outcome", .object "MacroMill$Reckoner", .object "MacroMill$Input", .object "MacroMill$Calls", .object "MacroMill$Meanings", .array .byte, .int, .array .byte, .array .int, .array .int, .array .int, .int, .int, .int, .int]
def t_First : Nat → FieldType := fun k => LT_First.getD k .int
set_option maxRecDepth 100000 in
theorem n_First : ∀ a, a < 15 → ∀ b, b < 15 → a ≠ b → (F_First a).2.1 ≠ (F_First b).2.1 := by decide +kernel
set_option maxRecDepth 100000 in
theorem t_First_ok : ∀ k, k < 15 → parseFieldDescriptor (F_First k).2.2.1 = some (t_First k) := by decide +kernel
set_option maxRecDepth 100000 in
theorem z_First : ∀ j, j < 15 → defaultValue (t_First j) = vp_V [.null, .null, .null, .null, .null, .null, .int 0, .null, .null, .null, .null, .int 0, .int 0, .int 0, .int 0] j := by decide +kernel
def L_Input : List (String × String × String × Bool) := [("MacroMill$Input", "bytes", "[B", true), ("MacroMill$Input", "outcome", "LMacroMill$Outcome;", true), ("MacroMill$Input", "at", "I", false), ("MacroMill$Input", "mainAt", "I", false), ("MacroMill$Input", "line", "I", false), ("MacroMill$Input", "fuel", "I", false), ("MacroMill$Input", "quotes", "[B", true), ("MacroMill$Input", "openingLength", "I", false), ("MacroMill$Input", "closingLength", "I", false), ("MacroMill$Input", "kind", "I", false), ("MacroMill$Input", "from", "I", false), ("MacroMill$Input", "to", "I", false)]
def F_Input : u_T := fun k => L_Input.getD k ("", "", "", false)
def LT_Input : List FieldType := [.array .byte, .object "MacroMill$Outcome", .int, .int, .int, .int, .array .byte, .int, .int, .int, .int, .int]
def t_Input : Nat → FieldType := fun k => LT_Input.getD k .int
set_option maxRecDepth 100000 in
theorem n_Input : ∀ a, a < 12 → ∀ b, b < 12 → a ≠ b → (F_Input a).2.1 ≠ (F_Input b).2.1 := by decide +kernel
set_option maxRecDepth 100000 in
theorem t_Input_ok : ∀ k, k < 12 → parseFieldDescriptor (F_Input k).2.2.1 = some (t_Input k) := by decide +kernel
set_option maxRecDepth 100000 in
theorem z_Input : ∀ j, j < 12 → defaultValue (t_Input j) = vp_V [.null, .null, .int 0, .int 0, .int 0, .int 0, .null, .int 0, .int 0, .int 0, .int 0, .int 0] j := by decide +kernel
def L_Calls : List (String × String × String × Bool) := [("MacroMill$Calls", "bytes", "[B", true), ("MacroMill$Calls", "used", "I", false), ("MacroMill$Calls", "argumentAt", "[I", true), ("MacroMill$Calls", "argumentCount", "I", false), ("MacroMill$Calls", "nameAt", "[I", true), ("MacroMill$Calls", "nameLength", "[I", true), ("MacroMill$Calls", "firstArgument", "[I", true), ("MacroMill$Calls", "nesting", "[I", true), ("MacroMill$Calls", "begun", "[Z", true), ("MacroMill$Calls", "open", "I", false)]
def F_Calls : u_T := fun k => L_Calls.getD k ("", "", "", false)
def LT_Calls : List FieldType := [.array .byte, .int, .array .int, .int, .array .int, .array .int, .array .int, .array .int, .array .boolean, .int]
def t_Calls : Nat → FieldType := fun k => LT_Calls.getD k .int
set_option maxRecDepth 100000 in
theorem n_Calls : ∀ a, a < 10 → ∀ b, b < 10 → a ≠ b → (F_Calls a).2.1 ≠ (F_Calls b).2.1 := by decide +kernel
set_option maxRecDepth 100000 in
theorem t_Calls_ok : ∀ k, k < 10 → parseFieldDescriptor (F_Calls k).2.2.1 = some (t_Calls k) := by decide +kernel
set_option maxRecDepth 100000 in
theorem z_Calls : ∀ j, j < 10 → defaultValue (t_Calls j) = vp_V [.null, .int 0, .null, .int 0, .null, .null, .null, .null, .null, .int 0] j := by decide +kernel
def L_Meanings : List (String × String × String × Bool) := [("MacroMill$Meanings", "pool", "[B", true), ("MacroMill$Meanings", "poolUsed", "I", false), ("MacroMill$Meanings", "bucket", "[I", true), ("MacroMill$Meanings", "chain", "[I", true), ("MacroMill$Meanings", "free", "I", false), ("MacroMill$Meanings", "nameAt", "[I", true), ("MacroMill$Meanings", "nameLength", "[I", true), ("MacroMill$Meanings", "textLength", "[I", true), ("MacroMill$Meanings", "kind", "[I", true), ("MacroMill$Meanings", "defined", "I", false), ("MacroMill$Meanings", "definedBytes", "I", false)]
def F_Meanings : u_T := fun k => L_Meanings.getD k ("", "", "", false)
def LT_Meanings : List FieldType := [.array .byte, .int, .array .int, .array .int, .int, .array .int, .array .int, .array .int, .array .int, .int, .int]
def t_Meanings : Nat → FieldType := fun k => LT_Meanings.getD k .int
set_option maxRecDepth 100000 in
theorem n_Meanings : ∀ a, a < 11 → ∀ b, b < 11 → a ≠ b → (F_Meanings a).2.1 ≠ (F_Meanings b).2.1 := by decide +kernel
set_option maxRecDepth 100000 in
theorem t_Meanings_ok : ∀ k, k < 11 → parseFieldDescriptor (F_Meanings k).2.2.1 = some (t_Meanings k) := by decide +kernel
set_option maxRecDepth 100000 in
theorem z_Meanings : ∀ j, j < 11 → defaultValue (t_Meanings j) = vp_V [.null, .int 0, .null, .null, .int 0, .null, .null, .null, .null, .int 0, .int 0] j := by decide +kernel
def L_Second : List (String × String × String × Bool) := [("MacroMill$Second", "files", "LMacroMill$Files;", true), ("MacroMill$Second", "outcome", "LMacroMill$Outcome;", true), ("MacroMill$Second", "reckoner", "LMacroMill$Reckoner;", true), ("MacroMill$Second", "tokens", "LMacroMill$Tokens;", true), ("MacroMill$Second", "macros", "LMacroMill$Macros;", true), ("MacroMill$Second", "lines", "LMacroMill$Lines;", true), ("MacroMill$Second", "replacer", "LMacroMill$Replacer;", true), ("MacroMill$Second", "conditionLine", "[I", true), ("MacroMill$Second", "condition", "[I", true), ("MacroMill$Second", "conditions", "I", false), ("MacroMill$Second", "conditionsBefore", "[I", true), ("MacroMill$Second", "depthLimit", "I", false), ("MacroMill$Second", "from", "I", false), ("MacroMill$Second", "to", "I", false), ("MacroMill$Second", "line", "I", false), ("MacroMill$Second", "waiting", "I", false), ("MacroMill$Second", "waitingFirst", "I", false), ("MacroMill$Second", "parameterTokens", "[I", true), ("MacroMill$Second", "parameterCount", "I", false), ("MacroMill$Second", "takesMore", "Z", false), ("MacroMill$Second", "title", "[B", true), ("MacroMill$Second", "titleLength", "I", false)]
def F_Second : u_T := fun k => L_Second.getD k ("", "", "", false)
def LT_Second : List FieldType := [.object "MacroMill$Files", .object "MacroMill$Outcome", .object "MacroMill$Reckoner", .object "MacroMill$Tokens", .object "MacroMill$Macros", .object "MacroMill$Lines", .object "MacroMill$Replacer", .array .int, .array .int, .int, .array .int, .int, .int, .int, .int, .int, .int, .array .int, .int, .boolean, .array .byte, .int]
def t_Second : Nat → FieldType := fun k => LT_Second.getD k .int
set_option maxRecDepth 100000 in
theorem n_Second : ∀ a, a < 22 → ∀ b, b < 22 → a ≠ b → (F_Second a).2.1 ≠ (F_Second b).2.1 := by decide +kernel
set_option maxRecDepth 100000 in
theorem t_Second_ok : ∀ k, k < 22 → parseFieldDescriptor (F_Second k).2.2.1 = some (t_Second k) := by decide +kernel
set_option maxRecDepth 100000 in
theorem z_Second : ∀ j, j < 22 → defaultValue (t_Second j) = vp_V [.null, .null, .null, .null, .null, .null, .null, .null, .null, .int 0, .null, .int 0, .int 0, .int 0, .int 0, .int 0, .int 0, .null, .int 0, .int 0, .null, .int 0] j := by decide +kernel
def L_Tokens : List (String × String × String × Bool) := [("MacroMill$Tokens", "bytes", "[B", true), ("MacroMill$Tokens", "lines", "[C", true), ("MacroMill$Tokens", "made", "I", false), ("MacroMill$Tokens", "overfull", "Z", false), ("MacroMill$Tokens", "textEnd", "I", false), ("MacroMill$Tokens", "spelling", "[J", true), ("MacroMill$Tokens", "look", "[I", true), ("MacroMill$Tokens", "next", "[I", true), ("MacroMill$Tokens", "used", "I", false), ("MacroMill$Tokens", "scanned", "I", false)]
def F_Tokens : u_T := fun k => L_Tokens.getD k ("", "", "", false)
def LT_Tokens : List FieldType := [.array .byte, .array .char, .int, .boolean, .int, .array .long, .array .int, .array .int, .int, .int]
def t_Tokens : Nat → FieldType := fun k => LT_Tokens.getD k .int
set_option maxRecDepth 100000 in
theorem n_Tokens : ∀ a, a < 10 → ∀ b, b < 10 → a ≠ b → (F_Tokens a).2.1 ≠ (F_Tokens b).2.1 := by decide +kernel
set_option maxRecDepth 100000 in
theorem t_Tokens_ok : ∀ k, k < 10 → parseFieldDescriptor (F_Tokens k).2.2.1 = some (t_Tokens k) := by decide +kernel
set_option maxRecDepth 100000 in
theorem z_Tokens : ∀ j, j < 10 → defaultValue (t_Tokens j) = vp_V [.null, .null, .int 0, .int 0, .int 0, .null, .null, .null, .int 0, .int 0] j := by decide +kernel
def L_Macros : List (String × String × String × Bool) := [("MacroMill$Macros", "tokens", "LMacroMill$Tokens;", true), ("MacroMill$Macros", "name", "[J", true), ("MacroMill$Macros", "bucket", "[I", true), ("MacroMill$Macros", "chain", "[I", true), ("MacroMill$Macros", "names", "I", false), ("MacroMill$Macros", "there", "I", false), ("MacroMill$Macros", "parameters", "[I", true), ("MacroMill$Macros", "takesMore", "[Z", true), ("MacroMill$Macros", "start", "[I", true), ("MacroMill$Macros", "end", "[I", true), ("MacroMill$Macros", "spelling", "[J", true), ("MacroMill$Macros", "look", "[I", true), ("MacroMill$Macros", "used", "I", false), ("MacroMill$Macros", "bits", "[J", true), ("MacroMill$Macros", "setBucket", "[I", true), ("MacroMill$Macros", "setChain", "[I", true), ("MacroMill$Macros", "sets", "I", false), ("MacroMill$Macros", "common", "[J", true), ("MacroMill$Macros", "wanted", "[J", true)]
def F_Macros : u_T := fun k => L_Macros.getD k ("", "", "", false)
def LT_Macros : List FieldType := [.object "MacroMill$Tokens", .array .long, .array .int, .array .int, .int, .int, .array .int, .array .boolean, .array .int, .array .int, .array .long, .array .int, .int, .array .long, .array .int, .array .int, .int, .array .long, .array .long]
def t_Macros : Nat → FieldType := fun k => LT_Macros.getD k .int
set_option maxRecDepth 100000 in
theorem n_Macros : ∀ a, a < 19 → ∀ b, b < 19 → a ≠ b → (F_Macros a).2.1 ≠ (F_Macros b).2.1 := by decide +kernel
set_option maxRecDepth 100000 in
theorem t_Macros_ok : ∀ k, k < 19 → parseFieldDescriptor (F_Macros k).2.2.1 = some (t_Macros k) := by decide +kernel
set_option maxRecDepth 100000 in
theorem z_Macros : ∀ j, j < 19 → defaultValue (t_Macros j) = vp_V [.null, .null, .null, .null, .int 0, .int 0, .null, .null, .null, .null, .null, .null, .int 0, .null, .null, .null, .int 0, .null, .null] j := by decide +kernel
def L_Lines : List (String × String × String × Bool) := [("MacroMill$Lines", "files", "LMacroMill$Files;", true), ("MacroMill$Lines", "tokens", "LMacroMill$Tokens;", true), ("MacroMill$Lines", "outcome", "LMacroMill$Outcome;", true), ("MacroMill$Lines", "textFrom", "[I", true), ("MacroMill$Lines", "textTo", "[I", true), ("MacroMill$Lines", "rawLength", "[I", true), ("MacroMill$Lines", "file", "[I", true), ("MacroMill$Lines", "at", "[I", true), ("MacroMill$Lines", "shift", "[I", true), ("MacroMill$Lines", "titles", "[B", true), ("MacroMill$Lines", "titleLength", "[I", true), ("MacroMill$Lines", "depth", "I", false), ("MacroMill$Lines", "begun", "I", false), ("MacroMill$Lines", "begunBytes", "I", false), ("MacroMill$Lines", "lines", "I", false), ("MacroMill$Lines", "loneQuotes", "I", false), ("MacroMill$Lines", "row", "I", false), ("MacroMill$Lines", "count", "I", false), ("MacroMill$Lines", "lineBehind", "I", false)]
def F_Lines : u_T := fun k => L_Lines.getD k ("", "", "", false)
def LT_Lines : List FieldType := [.object "MacroMill$Files", .object "MacroMill$Tokens", .object "MacroMill$Outcome", .array .int, .array .int, .array .int, .array .int, .array .int, .array .int, .array .byte, .array .int, .int, .int, .int, .int, .int, .int, .int, .int]
def t_Lines : Nat → FieldType := fun k => LT_Lines.getD k .int
set_option maxRecDepth 100000 in
theorem n_Lines : ∀ a, a < 19 → ∀ b, b < 19 → a ≠ b → (F_Lines a).2.1 ≠ (F_Lines b).2.1 := by decide +kernel
set_option maxRecDepth 100000 in
theorem t_Lines_ok : ∀ k, k < 19 → parseFieldDescriptor (F_Lines k).2.2.1 = some (t_Lines k) := by decide +kernel
set_option maxRecDepth 100000 in
theorem z_Lines : ∀ j, j < 19 → defaultValue (t_Lines j) = vp_V [.null, .null, .null, .null, .null, .null, .null, .null, .null, .null, .null, .int 0, .int 0, .int 0, .int 0, .int 0, .int 0, .int 0, .int 0] j := by decide +kernel
def L_Replacer : List (String × String × String × Bool) := [("MacroMill$Replacer", "tokens", "LMacroMill$Tokens;", true), ("MacroMill$Replacer", "macros", "LMacroMill$Macros;", true), ("MacroMill$Replacer", "lines", "LMacroMill$Lines;", true), ("MacroMill$Replacer", "outcome", "LMacroMill$Outcome;", true), ("MacroMill$Replacer", "argumentFirst", "[I", true), ("MacroMill$Replacer", "argumentStop", "[I", true), ("MacroMill$Replacer", "keptFirst", "[I", true), ("MacroMill$Replacer", "keptLast", "[I", true), ("MacroMill$Replacer", "keptCount", "[I", true), ("MacroMill$Replacer", "keptSubstituted", "[I", true), ("MacroMill$Replacer", "keptMade", "[I", true), ("MacroMill$Replacer", "head", "[I", true), ("MacroMill$Replacer", "tail", "[I", true), ("MacroMill$Replacer", "count", "[I", true), ("MacroMill$Replacer", "printing", "Z", false), ("MacroMill$Replacer", "directiveLine", "I", false)]
def F_Replacer : u_T := fun k => L_Replacer.getD k ("", "", "", false)
def LT_Replacer : List FieldType := [.object "MacroMill$Tokens", .object "MacroMill$Macros", .object "MacroMill$Lines", .object "MacroMill$Outcome", .array .int, .array .int, .array .int, .array .int, .array .int, .array .int, .array .int, .array .int, .array .int, .array .int, .boolean, .int]
def t_Replacer : Nat → FieldType := fun k => LT_Replacer.getD k .int
set_option maxRecDepth 100000 in
theorem n_Replacer : ∀ a, a < 16 → ∀ b, b < 16 → a ≠ b → (F_Replacer a).2.1 ≠ (F_Replacer b).2.1 := by decide +kernel
set_option maxRecDepth 100000 in
theorem t_Replacer_ok : ∀ k, k < 16 → parseFieldDescriptor (F_Replacer k).2.2.1 = some (t_Replacer k) := by decide +kernel
set_option maxRecDepth 100000 in
theorem z_Replacer : ∀ j, j < 16 → defaultValue (t_Replacer j) = vp_V [.null, .null, .null, .null, .null, .null, .null, .null, .null, .null, .null, .null, .null, .null, .int 0, .int 0] j := by decide +kernel
def L_Mod : List (String × String × String × Bool) := [("MacroMillModel", "tape", "[B", true), ("MacroMillModel", "tapeSize", "I", false), ("MacroMillModel", "fed", "Z", false), ("MacroMillModel", "files", "I", false), ("MacroMillModel", "titles", "[B", true), ("MacroMillModel", "titleSize", "[I", true), ("MacroMillModel", "bytes", "[B", true), ("MacroMillModel", "at", "[I", true), ("MacroMillModel", "size", "[I", true), ("MacroMillModel", "allBytes", "I", false), ("MacroMillModel", "error", "I", false), ("MacroMillModel", "errorFile", "I", false), ("MacroMillModel", "errorLine", "I", false), ("MacroMillModel", "tokensRead", "I", false), ("MacroMillModel", "tokensOut", "I", false), ("MacroMillModel", "substituted", "I", false), ("MacroMillModel", "astray", "I", false), ("MacroMillModel", "out", "[B", true), ("MacroMillModel", "outSize", "I", false), ("MacroMillModel", "input", "[B", true), ("MacroMillModel", "inputAt", "I", false), ("MacroMillModel", "mainLeft", "I", false), ("MacroMillModel", "mainFile", "I", false), ("MacroMillModel", "line", "I", false), ("MacroMillModel", "fuel", "I", false), ("MacroMillModel", "open", "[I", true), ("MacroMillModel", "openSize", "I", false), ("MacroMillModel", "close", "[I", true), ("MacroMillModel", "closeSize", "I", false), ("MacroMillModel", "kind", "I", false), ("MacroMillModel", "token", "[B", true), ("MacroMillModel", "tokenSize", "I", false), ("MacroMillModel", "given", "[B", true), ("MacroMillModel", "givenSize", "I", false), ("MacroMillModel", "meanings", "I", false), ("MacroMillModel", "meaningAt", "[I", true), ("MacroMillModel", "meaningName", "[I", true), ("MacroMillModel", "meaningText", "[I", true), ("MacroMillModel", "builtIn", "[I", true), ("MacroMillModel", "texts", "[B", true), ("MacroMillModel", "textsSize", "I", false), ("MacroMillModel", "defined", "I", false), ("MacroMillModel", "definedBytes", "I", false), ("MacroMillModel", "diverted", "[B", true), ("MacroMillModel", "divertedSize", "[I", true), ("MacroMillModel", "divertedAll", "I", false), ("MacroMillModel", "current", "I", false), ("MacroMillModel", "calls", "I", false), ("MacroMillModel", "arguments", "[B", true), ("MacroMillModel", "argumentsSize", "I", false), ("MacroMillModel", "starts", "I", false), ("MacroMillModel", "start", "[I", true), ("MacroMillModel", "place", "I", false), ("MacroMillModel", "stop", "I", false), ("MacroMillModel", "wrong", "Z", false), ("MacroMillModel", "divided", "Z", false), ("MacroMillModel", "nested", "I", false), ("MacroMillModel", "waiting", "I", false), ("MacroMillModel", "waitingSign", "[I", true), ("MacroMillModel", "waitingValue", "[I", true), ("MacroMillModel", "store", "[B", true), ("MacroMillModel", "lineOf", "[I", true), ("MacroMillModel", "sourceAt", "[I", true), ("MacroMillModel", "sourceSize", "[I", true), ("MacroMillModel", "stored", "I", false), ("MacroMillModel", "made", "I", false), ("MacroMillModel", "counted", "I", false), ("MacroMillModel", "cells", "I", false), ("MacroMillModel", "cellAt", "[I", true), ("MacroMillModel", "cellSize", "[I", true), ("MacroMillModel", "cellLine", "[I", true), ("MacroMillModel", "cellSet", "[I", true), ("MacroMillModel", "cellNext", "[I", true), ("MacroMillModel", "isBefore", "[Z", true), ("MacroMillModel", "isFirst", "[Z", true), ("MacroMillModel", "names", "I", false), ("MacroMillModel", "nameAt", "[I", true), ("MacroMillModel", "nameLength", "[I", true), ("MacroMillModel", "isMacro", "[Z", true), ("MacroMillModel", "parameterCount", "[I", true), ("MacroMillModel", "takesRest", "[Z", true), ("MacroMillModel", "parameterAt", "[I", true), ("MacroMillModel", "parameterSize", "[I", true), ("MacroMillModel", "bodyCells", "I", false), ("MacroMillModel", "bodyAt", "[I", true), ("MacroMillModel", "bodySize", "[I", true), ("MacroMillModel", "bodyBefore", "[Z", true), ("MacroMillModel", "bodyFrom", "[I", true), ("MacroMillModel", "bodyCount", "[I", true), ("MacroMillModel", "sets", "I", false), ("MacroMillModel", "members", "[J", true), ("MacroMillModel", "some", "[J", true), ("MacroMillModel", "deep", "I", false), ("MacroMillModel", "mostDeep", "I", false), ("MacroMillModel", "fileOf", "[I", true), ("MacroMillModel", "shiftOf", "[I", true), ("MacroMillModel", "titleAt", "[I", true), ("MacroMillModel", "titleLength", "[I", true), ("MacroMillModel", "lines", "I", false), ("MacroMillModel", "hide", "[J", true), ("MacroMillModel", "argumentFrom", "[I", true), ("MacroMillModel", "argumentEnd", "[I", true), ("MacroMillModel", "listed", "I", false), ("MacroMillModel", "headOf", "[I", true), ("MacroMillModel", "tailOf", "[I", true), ("MacroMillModel", "madeHead", "[I", true), ("MacroMillModel", "madeTail", "[I", true), ("MacroMillModel", "placeOf", "[I", true), ("MacroMillModel", "lineHead", "I", false), ("MacroMillModel", "lineTail", "I", false), ("MacroMillModel", "lineCount", "I", false), ("MacroMillModel", "noEnds", "I", false), ("MacroMillModel", "rowHead", "I", false), ("MacroMillModel", "rowTail", "I", false), ("MacroMillModel", "rowCount", "I", false), ("MacroMillModel", "ifs", "I", false), ("MacroMillModel", "ifLine", "[I", true), ("MacroMillModel", "outside", "[Z", true), ("MacroMillModel", "done", "[Z", true), ("MacroMillModel", "counts", "[Z", true), ("MacroMillModel", "hasElse", "[Z", true), ("MacroMillModel", "hashLine", "I", false), ("MacroMillModel", "newCount", "I", false), ("MacroMillModel", "newRest", "Z", false), ("MacroMillModel", "newAt", "[I", true), ("MacroMillModel", "newSize", "[I", true), ("MacroMillModel", "newBody", "I", false), ("MacroMillModel", "restAt", "I", false), ("MacroMillModel", "wanted", "[B", true), ("MacroMillModel", "wantedSize", "I", false), ("MacroMillModel", "begun", "I", false), ("MacroMillModel", "begunBytes", "I", false), ("MacroMillModel", "mainFileNow", "I", false), ("MacroMillModel", "mainSize", "I", false), ("MacroMillModel", "look", "I", false), ("MacroMillModel", "bad", "Z", false), ("MacroMillModel", "byZero", "Z", false), ("MacroMillModel", "inner", "I", false), ("MacroMillModel", "plain", "Z", false), ("MacroMillModel", "held", "I", false), ("MacroMillModel", "heldSign", "[I", true), ("MacroMillModel", "heldValue", "[J", true), ("MacroMillModel", "heldPlain", "[Z", true), ("MacroMillModel", "first", "[B", true)]
def F_Mod : u_T := fun k => L_Mod.getD k ("", "", "", false)
def LT_Mod : List FieldType := [.array .byte, .int, .boolean, .int, .array .byte, .array .int, .array .byte, .array .int, .array .int, .int, .int, .int, .int, .int, .int, .int, .int, .array .byte, .int, .array .byte, .int, .int, .int, .int, .int, .array .int, .int, .array .int, .int, .int, .array .byte, .int, .array .byte, .int, .int, .array .int, .array .int, .array .int, .array .int, .array .byte, .int, .int, .int, .array .byte, .array .int, .int, .int, .int, .array .byte, .int, .int, .array .int, .int, .int, .boolean, .boolean, .int, .int, .array .int, .array .int, .array .byte, .array .int, .array .int, .array .int, .int, .int, .int, .int, .array .int, .array .int, .array .int, .array .int, .array .int, .array .boolean, .array .boolean, .int, .array .int, .array .int, .array .boolean, .array .int, .array .boolean, .array .int, .array .int, .int, .array .int, .array .int, .array .boolean, .array .int, .array .int, .int, .array .long, .array .long, .int, .int, .array .int, .array .int, .array .int, .array .int, .int, .array .long, .array .int, .array .int, .int, .array .int, .array .int, .array .int, .array .int, .array .int, .int, .int, .int, .int, .int, .int, .int, .int, .array .int, .array .boolean, .array .boolean, .array .boolean, .array .boolean, .int, .int, .boolean, .array .int, .array .int, .int, .int, .array .byte, .int, .int, .int, .int, .int, .int, .boolean, .boolean, .int, .boolean, .int, .array .int, .array .long, .array .boolean, .array .byte]
def t_Mod : Nat → FieldType := fun k => LT_Mod.getD k .int
set_option maxRecDepth 100000 in
theorem n_Mod : ∀ a, a < 144 → ∀ b, b < 144 → a ≠ b → (F_Mod a).2.1 ≠ (F_Mod b).2.1 := by decide +kernel
set_option maxRecDepth 100000 in
theorem t_Mod_ok : ∀ k, k < 144 → parseFieldDescriptor (F_Mod k).2.2.1 = some (t_Mod k) := by decide +kernel
set_option maxRecDepth 100000 in
theorem z_Mod : ∀ j, j < 144 → defaultValue (t_Mod j) = vp_V [.null, .int 0, .int 0, .int 0, .null, .null, .null, .null, .null, .int 0, .int 0, .int 0, .int 0, .int 0, .int 0, .int 0, .int 0, .null, .int 0, .null, .int 0, .int 0, .int 0, .int 0, .int 0, .null, .int 0, .null, .int 0, .int 0, .null, .int 0, .null, .int 0, .int 0, .null, .null, .null, .null, .null, .int 0, .int 0, .int 0, .null, .null, .int 0, .int 0, .int 0, .null, .int 0, .int 0, .null, .int 0, .int 0, .int 0, .int 0, .int 0, .int 0, .null, .null, .null, .null, .null, .null, .int 0, .int 0, .int 0, .int 0, .null, .null, .null, .null, .null, .null, .null, .int 0, .null, .null, .null, .null, .null, .null, .null, .int 0, .null, .null, .null, .null, .null, .int 0, .null, .null, .int 0, .int 0, .null, .null, .null, .null, .int 0, .null, .null, .null, .int 0, .null, .null, .null, .null, .null, .int 0, .int 0, .int 0, .int 0, .int 0, .int 0, .int 0, .int 0, .null, .null, .null, .null, .null, .int 0, .int 0, .int 0, .null, .null, .int 0, .int 0, .null, .int 0, .int 0, .int 0, .int 0, .int 0, .int 0, .int 0, .int 0, .int 0, .int 0, .int 0, .null, .null, .null, .null] j := by decide +kernel
abbrev classes : List vw_C := [("MacroMill", F_MM, 7), ("MacroMill$Files", F_Files, 5), ("MacroMill$Outcome", F_Outcome, 10), ("MacroMill$Reckoner", F_Reckoner, 13), ("MacroMill$First", F_First, 15), ("MacroMill$Input", F_Input, 12), ("MacroMill$Calls", F_Calls, 10), ("MacroMill$Meanings", F_Meanings, 11), ("MacroMill$Second", F_Second, 22), ("MacroMill$Tokens", F_Tokens, 10), ("MacroMill$Macros", F_Macros, 19), ("MacroMill$Lines", F_Lines, 19), ("MacroMill$Replacer", F_Replacer, 16), ("MacroMillModel", F_Mod, 144)]
abbrev y_Arrays_fill : MethodName := ⟨"java/util/Arrays", "fill", "([II)V"⟩
abbrev b_Arrays_fill : ByteArray := prog_23_method_103_code
abbrev y_MM_astray : MethodName := ⟨"MacroMill", "astray", "()I"⟩
abbrev b_MM_astray : ByteArray := prog_1_method_12_code
abbrev y_MM_clear : MethodName := ⟨"MacroMill", "clear", "()I"⟩
abbrev b_MM_clear : ByteArray := prog_1_method_6_code
abbrev y_MM_end : MethodName := ⟨"MacroMill", "end", "(I)I"⟩
abbrev b_MM_end : ByteArray := prog_1_method_3_code
abbrev y_MM_feed : MethodName := ⟨"MacroMill", "feed", "(IIIII)I"⟩
abbrev b_MM_feed : ByteArray := prog_1_method_2_code
abbrev y_MM_layNumber : MethodName := ⟨"MacroMill", "layNumber", "(I)V"⟩
abbrev b_MM_layNumber : ByteArray := prog_1_method_13_code
abbrev y_MM_size : MethodName := ⟨"MacroMill", "size", "()I"⟩
abbrev b_MM_size : ByteArray := prog_1_method_9_code
abbrev y_MM_told : MethodName := ⟨"MacroMill", "told", "(I)I"⟩
abbrev b_MM_told : ByteArray := prog_1_method_8_code
abbrev y_MM_useTape : MethodName := ⟨"MacroMill", "useTape", "()I"⟩
abbrev b_MM_useTape : ByteArray := prog_1_method_14_code
abbrev y_Mod_astray : MethodName := ⟨"MacroMillModel", "astray", "()I"⟩
abbrev b_Mod_astray : ByteArray := prog_15_method_158_code
abbrev y_Mod_clear : MethodName := ⟨"MacroMillModel", "clear", "()I"⟩
abbrev b_Mod_clear : ByteArray := prog_15_method_9_code
abbrev y_Mod_end : MethodName := ⟨"MacroMillModel", "end", "(I)I"⟩
abbrev b_Mod_end : ByteArray := prog_15_method_4_code
abbrev y_Mod_feed : MethodName := ⟨"MacroMillModel", "feed", "(IIIII)I"⟩
abbrev b_Mod_feed : ByteArray := prog_15_method_3_code
abbrev y_Mod_feedInt : MethodName := ⟨"MacroMillModel", "feedInt", "(I)V"⟩
abbrev b_Mod_feedInt : ByteArray := prog_15_method_2_code
abbrev y_Mod_size : MethodName := ⟨"MacroMillModel", "size", "()I"⟩
abbrev b_Mod_size : ByteArray := prog_15_method_155_code
abbrev y_Mod_told : MethodName := ⟨"MacroMillModel", "told", "(I)I"⟩
abbrev b_Mod_told : ByteArray := prog_15_method_154_code
abbrev y_Mod_use : MethodName := ⟨"MacroMillModel", "use", "()I"⟩
abbrev b_Mod_use : ByteArray := prog_15_method_5_code
theorem hd_MM_layNumber : y_MM_layNumber.cls ≠ "java/lang/invoke/MethodHandle" ∧ y_MM_layNumber.cls ≠ "java/lang/invoke/VarHandle" ∧ (parseMethodDescriptor y_MM_layNumber.desc).map (fun d => d.parameters.length) = some 1 := by decide +kernel
theorem hd_Mod_feedInt : y_Mod_feedInt.cls ≠ "java/lang/invoke/MethodHandle" ∧ y_Mod_feedInt.cls ≠ "java/lang/invoke/VarHandle" ∧ (parseMethodDescriptor y_Mod_feedInt.desc).map (fun d => d.parameters.length) = some 1 := by decide +kernel
theorem hd_Arrays_fill : y_Arrays_fill.cls ≠ "java/lang/invoke/MethodHandle" ∧ y_Arrays_fill.cls ≠ "java/lang/invoke/VarHandle" ∧ (parseMethodDescriptor y_Arrays_fill.desc).map (fun d => d.parameters.length) = some 2 := by decide +kernel
