def zT : List Cond := lw_tbl.filter goodWord
theorem z_m {w : Cond} (i : Nat) (h : lw_tbl[i]? = some w) (g : goodWord w = true) : w ∈ zT := List.mem_filter.mpr ⟨List.mem_of_getElem? h, g⟩
theorem z_ms {ws : List Cond} (ps : List Nat) (hp : ws = ps.filterMap (fun i => lw_tbl[i]?)) (hg : ws.all goodWord = true) : ∀ w ∈ ws, w ∈ zT := by
  intro w hw
  have h1 := List.all_eq_true.mp hg w hw
  rw [hp] at hw
  obtain ⟨i, -, hi⟩ := List.mem_filterMap.mp hw
  exact z_m i hi h1
theorem z_good {w : Cond} (h : w ∈ zT) : (w.onTables && w.keeps) = true ∨ ∃ ty, w = .arrayClass ty := good_of_word (List.mem_filter.mp h).2
theorem z_zin {w : Cond} (h : w ∈ zT) : w ∈ lw_tbl := (List.mem_filter.mp h).1
def R_Addr : String := "StreamForge$Address"
def T_Addr : u_T := fun k => match k with
  | 0 => ("StreamForge$Address", "pattern", "LStreamForge$Pattern;", true)
  | 1 => ("StreamForge$Address", "kind", "I", false)
  | _ => ("StreamForge$Address", "number", "I", false)
def t_Addr : Nat → FieldType := fun k => match k with
  | 0 => .object "StreamForge$Pattern"
  | 1 => .int
  | _ => .int
theorem n_Addr : ∀ a, a < 3 → ∀ b, b < 3 → a ≠ b → (T_Addr a).2.1 ≠ (T_Addr b).2.1 := by decide +kernel
theorem t_Addr_ok : ∀ k, k < 3 → parseFieldDescriptor (T_Addr k).2.2.1 = some (t_Addr k) := by decide +kernel
theorem i_Addr : ∀ w ∈ u_ws R_Addr T_Addr 3, w ∈ zT := z_ms [445, 447, 449] (by decide +kernel) (by decide +kernel)
def R_Cmd : String := "StreamForge$Command"
def T_Cmd : u_T := fun k => match k with
  | 0 => ("StreamForge$Command", "first", "LStreamForge$Address;", true)
  | 1 => ("StreamForge$Command", "second", "LStreamForge$Address;", true)
  | 2 => ("StreamForge$Command", "pattern", "LStreamForge$Pattern;", true)
  | 3 => ("StreamForge$Command", "kind", "I", false)
  | 4 => ("StreamForge$Command", "at", "I", false)
  | 5 => ("StreamForge$Command", "addresses", "I", false)
  | 6 => ("StreamForge$Command", "inverted", "Z", false)
  | 7 => ("StreamForge$Command", "target", "I", false)
  | 8 => ("StreamForge$Command", "label", "I", false)
  | 9 => ("StreamForge$Command", "textFrom", "I", false)
  | 10 => ("StreamForge$Command", "textTo", "I", false)
  | 11 => ("StreamForge$Command", "counterpart", "I", false)
  | 12 => ("StreamForge$Command", "all", "Z", false)
  | 13 => ("StreamForge$Command", "print", "Z", false)
  | 14 => ("StreamForge$Command", "digit", "I", false)
  | _ => ("StreamForge$Command", "inRange", "Z", false)
def t_Cmd : Nat → FieldType := fun k => match k with
  | 0 => .object "StreamForge$Address"
  | 1 => .object "StreamForge$Address"
  | 2 => .object "StreamForge$Pattern"
  | 3 => .int
  | 4 => .int
  | 5 => .int
  | 6 => .boolean
  | 7 => .int
  | 8 => .int
  | 9 => .int
  | 10 => .int
  | 11 => .int
  | 12 => .boolean
  | 13 => .boolean
  | 14 => .int
  | _ => .boolean
theorem n_Cmd : ∀ a, a < 16 → ∀ b, b < 16 → a ≠ b → (T_Cmd a).2.1 ≠ (T_Cmd b).2.1 := by decide +kernel
theorem t_Cmd_ok : ∀ k, k < 16 → parseFieldDescriptor (T_Cmd k).2.2.1 = some (t_Cmd k) := by decide +kernel
theorem i_Cmd : ∀ w ∈ u_ws R_Cmd T_Cmd 16, w ∈ zT := z_ms [493, 495, 497, 499, 501, 503, 505, 507, 509, 511, 513, 515, 517, 519, 521, 523] (by decide +kernel) (by decide +kernel)
def R_Cur : String := "StreamForge$Cursor"
def T_Cur : u_T := fun k => match k with
  | 0 => ("StreamForge$Cursor", "text", "LStreamForge$Row;", false)
  | 1 => ("StreamForge$Cursor", "at", "I", false)
  | _ => ("StreamForge$Cursor", "refusedAt", "I", false)
def t_Cur : Nat → FieldType := fun k => match k with
  | 0 => .object "StreamForge$Row"
  | 1 => .int
  | _ => .int
theorem n_Cur : ∀ a, a < 3 → ∀ b, b < 3 → a ≠ b → (T_Cur a).2.1 ≠ (T_Cur b).2.1 := by decide +kernel
theorem t_Cur_ok : ∀ k, k < 3 → parseFieldDescriptor (T_Cur k).2.2.1 = some (t_Cur k) := by decide +kernel
theorem i_Cur : ∀ w ∈ u_ws R_Cur T_Cur 3, w ∈ zT := z_ms [191, 193, 195] (by decide +kernel) (by decide +kernel)
def R_Ed : String := "StreamForge$Editor"
def T_Ed : u_T := fun k => match k with
  | 0 => ("StreamForge$Editor", "output", "LStreamForge$Row;", true)
  | 1 => ("StreamForge$Editor", "space", "LStreamForge$Row;", false)
  | 2 => ("StreamForge$Editor", "hold", "LStreamForge$Row;", false)
  | 3 => ("StreamForge$Editor", "linesRead", "I", false)
  | 4 => ("StreamForge$Editor", "begun", "I", false)
  | 5 => ("StreamForge$Editor", "cycles", "I", false)
  | 6 => ("StreamForge$Editor", "replacements", "I", false)
  | 7 => ("StreamForge$Editor", "appended", "LStreamForge$Row;", true)
  | 8 => ("StreamForge$Editor", "matcher", "LStreamForge$Matcher;", true)
  | 9 => ("StreamForge$Editor", "draft", "LStreamForge$Row;", false)
  | 10 => ("StreamForge$Editor", "program", "LStreamForge$Program;", false)
  | 11 => ("StreamForge$Editor", "lines", "[LStreamForge$Row;", false)
  | 12 => ("StreamForge$Editor", "lineCount", "I", false)
  | 13 => ("StreamForge$Editor", "next", "I", false)
  | 14 => ("StreamForge$Editor", "over", "Z", false)
  | 15 => ("StreamForge$Editor", "replaced", "Z", false)
  | _ => ("StreamForge$Editor", "rangeEnds", "Z", false)
def t_Ed : Nat → FieldType := fun k => match k with
  | 0 => .object "StreamForge$Row"
  | 1 => .object "StreamForge$Row"
  | 2 => .object "StreamForge$Row"
  | 3 => .int
  | 4 => .int
  | 5 => .int
  | 6 => .int
  | 7 => .object "StreamForge$Row"
  | 8 => .object "StreamForge$Matcher"
  | 9 => .object "StreamForge$Row"
  | 10 => .object "StreamForge$Program"
  | 11 => .array (.object "StreamForge$Row")
  | 12 => .int
  | 13 => .int
  | 14 => .boolean
  | 15 => .boolean
  | _ => .boolean
theorem n_Ed : ∀ a, a < 17 → ∀ b, b < 17 → a ≠ b → (T_Ed a).2.1 ≠ (T_Ed b).2.1 := by decide +kernel
theorem t_Ed_ok : ∀ k, k < 17 → parseFieldDescriptor (T_Ed k).2.2.1 = some (t_Ed k) := by decide +kernel
theorem i_Ed : ∀ w ∈ u_ws R_Ed T_Ed 17, w ∈ zT := z_ms [317, 319, 321, 323, 325, 327, 329, 331, 333, 335, 337, 339, 341, 343, 345, 347, 349] (by decide +kernel) (by decide +kernel)
def R_It : String := "StreamForge$Items"
def T_It : u_T := fun k => match k with
  | 0 => ("StreamForge$Items", "kind", "[I", true)
  | 1 => ("StreamForge$Items", "group", "[I", true)
  | 2 => ("StreamForge$Items", "low", "[J", true)
  | 3 => ("StreamForge$Items", "high", "[J", true)
  | _ => ("StreamForge$Items", "size", "I", false)
def t_It : Nat → FieldType := fun k => match k with
  | 0 => .array (.int)
  | 1 => .array (.int)
  | 2 => .array (.long)
  | 3 => .array (.long)
  | _ => .int
theorem n_It : ∀ a, a < 5 → ∀ b, b < 5 → a ≠ b → (T_It a).2.1 ≠ (T_It b).2.1 := by decide +kernel
theorem t_It_ok : ∀ k, k < 5 → parseFieldDescriptor (T_It k).2.2.1 = some (t_It k) := by decide +kernel
theorem i_It : ∀ w ∈ u_ws R_It T_It 5, w ∈ zT := z_ms [377, 379, 381, 383, 385] (by decide +kernel) (by decide +kernel)
def R_Ma : String := "StreamForge$Matcher"
def T_Ma : u_T := fun k => match k with
  | 0 => ("StreamForge$Matcher", "begin", "I", false)
  | 1 => ("StreamForge$Matcher", "end", "I", false)
  | 2 => ("StreamForge$Matcher", "items", "LStreamForge$Items;", false)
  | 3 => ("StreamForge$Matcher", "pattern", "LStreamForge$Pattern;", false)
  | 4 => ("StreamForge$Matcher", "text", "LStreamForge$Row;", false)
  | 5 => ("StreamForge$Matcher", "groupBegin", "[I", true)
  | 6 => ("StreamForge$Matcher", "groupEnd", "[I", true)
  | 7 => ("StreamForge$Matcher", "triedBegin", "[I", true)
  | _ => ("StreamForge$Matcher", "triedEnd", "[I", true)
def t_Ma : Nat → FieldType := fun k => match k with
  | 0 => .int
  | 1 => .int
  | 2 => .object "StreamForge$Items"
  | 3 => .object "StreamForge$Pattern"
  | 4 => .object "StreamForge$Row"
  | 5 => .array (.int)
  | 6 => .array (.int)
  | 7 => .array (.int)
  | _ => .array (.int)
theorem n_Ma : ∀ a, a < 9 → ∀ b, b < 9 → a ≠ b → (T_Ma a).2.1 ≠ (T_Ma b).2.1 := by decide +kernel
theorem t_Ma_ok : ∀ k, k < 9 → parseFieldDescriptor (T_Ma k).2.2.1 = some (t_Ma k) := by decide +kernel
theorem i_Ma : ∀ w ∈ u_ws R_Ma T_Ma 9, w ∈ zT := z_ms [274, 276, 278, 280, 282, 284, 286, 288, 290] (by decide +kernel) (by decide +kernel)
def R_Pa : String := "StreamForge$Parser"
def T_Pa : u_T := fun k => match k with
  | 0 => ("StreamForge$Parser", "cursor", "LStreamForge$Cursor;", true)
  | 1 => ("StreamForge$Parser", "patterns", "LStreamForge$PatternReader;", true)
  | 2 => ("StreamForge$Parser", "openBlocks", "[I", true)
  | 3 => ("StreamForge$Parser", "behindLabel", "[I", true)
  | 4 => ("StreamForge$Parser", "depth", "I", false)
  | 5 => ("StreamForge$Parser", "program", "LStreamForge$Program;", false)
  | _ => ("StreamForge$Parser", "command", "LStreamForge$Command;", false)
def t_Pa : Nat → FieldType := fun k => match k with
  | 0 => .object "StreamForge$Cursor"
  | 1 => .object "StreamForge$PatternReader"
  | 2 => .array (.int)
  | 3 => .array (.int)
  | 4 => .int
  | 5 => .object "StreamForge$Program"
  | _ => .object "StreamForge$Command"
theorem n_Pa : ∀ a, a < 7 → ∀ b, b < 7 → a ≠ b → (T_Pa a).2.1 ≠ (T_Pa b).2.1 := by decide +kernel
theorem t_Pa_ok : ∀ k, k < 7 → parseFieldDescriptor (T_Pa k).2.2.1 = some (t_Pa k) := by decide +kernel
theorem i_Pa : ∀ w ∈ u_ws R_Pa T_Pa 7, w ∈ zT := z_ms [233, 235, 237, 239, 241, 243, 245] (by decide +kernel) (by decide +kernel)
def R_Pt : String := "StreamForge$Pattern"
def T_Pt : u_T := fun k => match k with
  | 0 => ("StreamForge$Pattern", "atBeginning", "Z", false)
  | 1 => ("StreamForge$Pattern", "atEnd", "Z", false)
  | 2 => ("StreamForge$Pattern", "from", "I", false)
  | 3 => ("StreamForge$Pattern", "to", "I", false)
  | 4 => ("StreamForge$Pattern", "firstStar", "I", false)
  | 5 => ("StreamForge$Pattern", "secondStar", "I", false)
  | _ => ("StreamForge$Pattern", "groups", "I", false)
def t_Pt : Nat → FieldType := fun k => match k with
  | 0 => .boolean
  | 1 => .boolean
  | 2 => .int
  | 3 => .int
  | 4 => .int
  | 5 => .int
  | _ => .int
theorem n_Pt : ∀ a, a < 7 → ∀ b, b < 7 → a ≠ b → (T_Pt a).2.1 ≠ (T_Pt b).2.1 := by decide +kernel
theorem t_Pt_ok : ∀ k, k < 7 → parseFieldDescriptor (T_Pt k).2.2.1 = some (t_Pt k) := by decide +kernel
theorem i_Pt : ∀ w ∈ u_ws R_Pt T_Pt 7, w ∈ zT := z_ms [423, 425, 427, 429, 431, 433, 435] (by decide +kernel) (by decide +kernel)
def R_Pr : String := "StreamForge$PatternReader"
def T_Pr : u_T := fun k => match k with
  | 0 => ("StreamForge$PatternReader", "cursor", "LStreamForge$Cursor;", true)
  | 1 => ("StreamForge$PatternReader", "items", "LStreamForge$Items;", false)
  | 2 => ("StreamForge$PatternReader", "pattern", "LStreamForge$Pattern;", false)
  | 3 => ("StreamForge$PatternReader", "itemCount", "I", false)
  | 4 => ("StreamForge$PatternReader", "starCount", "I", false)
  | 5 => ("StreamForge$PatternReader", "groupOpen", "Z", false)
  | _ => ("StreamForge$PatternReader", "repeatable", "Z", false)
def t_Pr : Nat → FieldType := fun k => match k with
  | 0 => .object "StreamForge$Cursor"
  | 1 => .object "StreamForge$Items"
  | 2 => .object "StreamForge$Pattern"
  | 3 => .int
  | 4 => .int
  | 5 => .boolean
  | _ => .boolean
theorem n_Pr : ∀ a, a < 7 → ∀ b, b < 7 → a ≠ b → (T_Pr a).2.1 ≠ (T_Pr b).2.1 := by decide +kernel
theorem t_Pr_ok : ∀ k, k < 7 → parseFieldDescriptor (T_Pr k).2.2.1 = some (t_Pr k) := by decide +kernel
theorem i_Pr : ∀ w ∈ u_ws R_Pr T_Pr 7, w ∈ zT := z_ms [211, 213, 215, 217, 219, 221, 223] (by decide +kernel) (by decide +kernel)
def R_Prog : String := "StreamForge$Program"
def T_Prog : u_T := fun k => match k with
  | 0 => ("StreamForge$Program", "text", "LStreamForge$Row;", true)
  | 1 => ("StreamForge$Program", "items", "LStreamForge$Items;", true)
  | 2 => ("StreamForge$Program", "commands", "[LStreamForge$Command;", true)
  | _ => ("StreamForge$Program", "size", "I", false)
def t_Prog : Nat → FieldType := fun k => match k with
  | 0 => .object "StreamForge$Row"
  | 1 => .object "StreamForge$Items"
  | 2 => .array (.object "StreamForge$Command")
  | _ => .int
theorem n_Prog : ∀ a, a < 4 → ∀ b, b < 4 → a ≠ b → (T_Prog a).2.1 ≠ (T_Prog b).2.1 := by decide +kernel
theorem t_Prog_ok : ∀ k, k < 4 → parseFieldDescriptor (T_Prog k).2.2.1 = some (t_Prog k) := by decide +kernel
theorem i_Prog : ∀ w ∈ u_ws R_Prog T_Prog 4, w ∈ zT := z_ms [540, 542, 544, 546] (by decide +kernel) (by decide +kernel)
def R_Row : String := "StreamForge$Row"
def T_Row : u_T := fun k => match k with
  | 0 => ("StreamForge$Row", "chars", "[C", true)
  | _ => ("StreamForge$Row", "length", "I", false)
def t_Row : Nat → FieldType := fun k => match k with
  | 0 => .array (.char)
  | _ => .int
theorem n_Row : ∀ a, a < 2 → ∀ b, b < 2 → a ≠ b → (T_Row a).2.1 ≠ (T_Row b).2.1 := by decide +kernel
theorem t_Row_ok : ∀ k, k < 2 → parseFieldDescriptor (T_Row k).2.2.1 = some (t_Row k) := by decide +kernel
theorem i_Row : ∀ w ∈ u_ws R_Row T_Row 2, w ∈ zT := z_ms [165, 167] (by decide +kernel) (by decide +kernel)
def R_SF : String := "StreamForge"
def T_SF : u_T := fun k => match k with
  | 0 => ("StreamForge", "script", "LStreamForge$Row;", true)
  | 1 => ("StreamForge", "lines", "[LStreamForge$Row;", true)
  | 2 => ("StreamForge", "parser", "LStreamForge$Parser;", true)
  | 3 => ("StreamForge", "editor", "LStreamForge$Editor;", true)
  | 4 => ("StreamForge", "matcher", "LStreamForge$Matcher;", true)
  | 5 => ("StreamForge", "lineCount", "I", false)
  | 6 => ("StreamForge", "program", "LStreamForge$Program;", false)
  | 7 => ("StreamForge", "spare", "LStreamForge$Program;", false)
  | 8 => ("StreamForge", "parsed", "Z", false)
  | _ => ("StreamForge", "refusedAt", "I", false)
def t_SF : Nat → FieldType := fun k => match k with
  | 0 => .object "StreamForge$Row"
  | 1 => .array (.object "StreamForge$Row")
  | 2 => .object "StreamForge$Parser"
  | 3 => .object "StreamForge$Editor"
  | 4 => .object "StreamForge$Matcher"
  | 5 => .int
  | 6 => .object "StreamForge$Program"
  | 7 => .object "StreamForge$Program"
  | 8 => .boolean
  | _ => .int
theorem n_SF : ∀ a, a < 10 → ∀ b, b < 10 → a ≠ b → (T_SF a).2.1 ≠ (T_SF b).2.1 := by decide +kernel
theorem t_SF_ok : ∀ k, k < 10 → parseFieldDescriptor (T_SF k).2.2.1 = some (t_SF k) := by decide +kernel
theorem i_SF : ∀ w ∈ u_ws R_SF T_SF 10, w ∈ zT := z_ms [559, 561, 563, 565, 567, 569, 571, 573, 575, 577] (by decide +kernel) (by decide +kernel)
def R_Mod : String := "StreamForgeModel"
def T_Mod : u_T := fun k => match k with
  | 0 => ("StreamForgeModel", "text", "[I", true)
  | 1 => ("StreamForgeModel", "lineLength", "[I", true)
  | 2 => ("StreamForgeModel", "lines", "[I", true)
  | 3 => ("StreamForgeModel", "length", "I", false)
  | 4 => ("StreamForgeModel", "lineMany", "I", false)
  | 5 => ("StreamForgeModel", "where", "I", false)
  | 6 => ("StreamForgeModel", "thrown", "I", false)
  | 7 => ("StreamForgeModel", "live", "I", false)
  | 8 => ("StreamForgeModel", "parsed", "Z", false)
  | 9 => ("StreamForgeModel", "name", "[I", true)
  | 10 => ("StreamForgeModel", "one", "[I", true)
  | 11 => ("StreamForgeModel", "oneValue", "[I", true)
  | 12 => ("StreamForgeModel", "two", "[I", true)
  | 13 => ("StreamForgeModel", "twoValue", "[I", true)
  | 14 => ("StreamForgeModel", "pattern", "[I", true)
  | 15 => ("StreamForgeModel", "from", "[I", true)
  | 16 => ("StreamForgeModel", "to", "[I", true)
  | 17 => ("StreamForgeModel", "more", "[I", true)
  | 18 => ("StreamForgeModel", "goal", "[I", true)
  | 19 => ("StreamForgeModel", "which", "[I", true)
  | 20 => ("StreamForgeModel", "placeOf", "[I", true)
  | 21 => ("StreamForgeModel", "not", "[Z", true)
  | 22 => ("StreamForgeModel", "all", "[Z", true)
  | 23 => ("StreamForgeModel", "tells", "[Z", true)
  | 24 => ("StreamForgeModel", "commands", "[I", true)
  | 25 => ("StreamForgeModel", "patterns", "[I", true)
  | 26 => ("StreamForgeModel", "items", "[I", true)
  | 27 => ("StreamForgeModel", "chars", "[I", true)
  | 28 => ("StreamForgeModel", "itemFrom", "[I", true)
  | 29 => ("StreamForgeModel", "itemEnd", "[I", true)
  | 30 => ("StreamForgeModel", "groups", "[I", true)
  | 31 => ("StreamForgeModel", "item", "[I", true)
  | 32 => ("StreamForgeModel", "value", "[I", true)
  | 33 => ("StreamForgeModel", "store", "[I", true)
  | 34 => ("StreamForgeModel", "starred", "[Z", true)
  | 35 => ("StreamForgeModel", "atBegin", "[Z", true)
  | 36 => ("StreamForgeModel", "atEnd", "[Z", true)
  | 37 => ("StreamForgeModel", "low", "[J", true)
  | 38 => ("StreamForgeModel", "high", "[J", true)
  | 39 => ("StreamForgeModel", "labels", "[I", true)
  | 40 => ("StreamForgeModel", "open", "[I", true)
  | 41 => ("StreamForgeModel", "at", "I", false)
  | 42 => ("StreamForgeModel", "half", "I", false)
  | 43 => ("StreamForgeModel", "deep", "I", false)
  | 44 => ("StreamForgeModel", "group", "I", false)
  | 45 => ("StreamForgeModel", "stars", "I", false)
  | 46 => ("StreamForgeModel", "counted", "I", false)
  | 47 => ("StreamForgeModel", "number", "I", false)
  | 48 => ("StreamForgeModel", "bad", "Z", false)
  | 49 => ("StreamForgeModel", "inGroup", "Z", false)
  | 50 => ("StreamForgeModel", "may", "Z", false)
  | 51 => ("StreamForgeModel", "subject", "[I", true)
  | 52 => ("StreamForgeModel", "groupFrom", "[I", true)
  | 53 => ("StreamForgeModel", "groupLong", "[I", true)
  | 54 => ("StreamForgeModel", "subjectLong", "I", false)
  | 55 => ("StreamForgeModel", "stuck", "I", false)
  | 56 => ("StreamForgeModel", "foundAt", "I", false)
  | 57 => ("StreamForgeModel", "foundEnd", "I", false)
  | 58 => ("StreamForgeModel", "space", "[I", true)
  | 59 => ("StreamForgeModel", "hold", "[I", true)
  | 60 => ("StreamForgeModel", "work", "[I", true)
  | 61 => ("StreamForgeModel", "appended", "[I", true)
  | 62 => ("StreamForgeModel", "out", "[I", true)
  | 63 => ("StreamForgeModel", "began", "[I", true)
  | 64 => ("StreamForgeModel", "active", "[Z", true)
  | 65 => ("StreamForgeModel", "spaceLong", "I", false)
  | 66 => ("StreamForgeModel", "holdLong", "I", false)
  | 67 => ("StreamForgeModel", "workLong", "I", false)
  | 68 => ("StreamForgeModel", "appendedLong", "I", false)
  | 69 => ("StreamForgeModel", "outLong", "I", false)
  | 70 => ("StreamForgeModel", "read", "I", false)
  | 71 => ("StreamForgeModel", "begun", "I", false)
  | 72 => ("StreamForgeModel", "cycles", "I", false)
  | 73 => ("StreamForgeModel", "replaced", "I", false)
  | 74 => ("StreamForgeModel", "some", "Z", false)
  | 75 => ("StreamForgeModel", "ended", "Z", false)
  | _ => ("StreamForgeModel", "over", "Z", false)
def t_Mod : Nat → FieldType := fun k => match k with
  | 0 => .array (.int)
  | 1 => .array (.int)
  | 2 => .array (.int)
  | 3 => .int
  | 4 => .int
  | 5 => .int
  | 6 => .int
  | 7 => .int
  | 8 => .boolean
  | 9 => .array (.int)
  | 10 => .array (.int)
  | 11 => .array (.int)
  | 12 => .array (.int)
  | 13 => .array (.int)
  | 14 => .array (.int)
  | 15 => .array (.int)
  | 16 => .array (.int)
  | 17 => .array (.int)
  | 18 => .array (.int)
  | 19 => .array (.int)
  | 20 => .array (.int)
  | 21 => .array (.boolean)
  | 22 => .array (.boolean)
  | 23 => .array (.boolean)
  | 24 => .array (.int)
  | 25 => .array (.int)
  | 26 => .array (.int)
  | 27 => .array (.int)
  | 28 => .array (.int)
  | 29 => .array (.int)
  | 30 => .array (.int)
  | 31 => .array (.int)
  | 32 => .array (.int)
  | 33 => .array (.int)
  | 34 => .array (.boolean)
  | 35 => .array (.boolean)
  | 36 => .array (.boolean)
  | 37 => .array (.long)
  | 38 => .array (.long)
  | 39 => .array (.int)
  | 40 => .array (.int)
  | 41 => .int
  | 42 => .int
  | 43 => .int
  | 44 => .int
  | 45 => .int
  | 46 => .int
  | 47 => .int
  | 48 => .boolean
  | 49 => .boolean
  | 50 => .boolean
  | 51 => .array (.int)
  | 52 => .array (.int)
  | 53 => .array (.int)
  | 54 => .int
  | 55 => .int
  | 56 => .int
  | 57 => .int
  | 58 => .array (.int)
  | 59 => .array (.int)
  | 60 => .array (.int)
  | 61 => .array (.int)
  | 62 => .array (.int)
  | 63 => .array (.int)
  | 64 => .array (.boolean)
  | 65 => .int
  | 66 => .int
  | 67 => .int
  | 68 => .int
  | 69 => .int
  | 70 => .int
  | 71 => .int
  | 72 => .int
  | 73 => .int
  | 74 => .boolean
  | 75 => .boolean
  | _ => .boolean
theorem n_Mod : ∀ a, a < 77 → ∀ b, b < 77 → a ≠ b → (T_Mod a).2.1 ≠ (T_Mod b).2.1 := by decide +kernel
theorem t_Mod_ok : ∀ k, k < 77 → parseFieldDescriptor (T_Mod k).2.2.1 = some (t_Mod k) := by decide +kernel
theorem i_Mod : ∀ w ∈ u_ws R_Mod T_Mod 77, w ∈ zT := z_ms [1254, 1256, 1258, 1260, 1262, 1264, 1266, 1268, 1270, 1272, 1274, 1276, 1278, 1280, 1282, 1284, 1286, 1288, 1290, 1292, 1294, 1296, 1298, 1300, 1302, 1304, 1306, 1308, 1310, 1312, 1314, 1316, 1318, 1320, 1322, 1324, 1326, 1328, 1330, 1332, 1334, 1336, 1338, 1340, 1342, 1344, 1346, 1348, 1350, 1352, 1354, 1356, 1358, 1360, 1362, 1364, 1366, 1368, 1370, 1372, 1374, 1376, 1378, 1380, 1382, 1384, 1386, 1388, 1390, 1392, 1394, 1396, 1398, 1400, 1402, 1404, 1406] (by decide +kernel) (by decide +kernel)
abbrev zcl : List vw_C := [(R_Addr, T_Addr, 3), (R_Cmd, T_Cmd, 16), (R_Cur, T_Cur, 3), (R_Ed, T_Ed, 17), (R_It, T_It, 5), (R_Ma, T_Ma, 9), (R_Pa, T_Pa, 7), (R_Pt, T_Pt, 7), (R_Pr, T_Pr, 7), (R_Prog, T_Prog, 4), (R_Row, T_Row, 2), (R_SF, T_SF, 10), (R_Mod, T_Mod, 77)]
abbrev z_ty (dA : Nat → ClassId) : List (ClassId × FieldType) := [(dA 0, .int), (dA 1, .char), (dA 2, .long), (dA 3, .boolean), (dA 4, .object "StreamForge$Row"), (dA 5, .object "StreamForge$Command")]
