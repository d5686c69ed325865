def R_Ly : String := "LinkYard"
def F_Ly : u_T := fun k => match k with
  | 0 => ("LinkYard", "units", "LLinkYard$Units;", true)
  | 1 => ("LinkYard", "sections", "LLinkYard$Sections;", true)
  | 2 => ("LinkYard", "symbols", "LLinkYard$Symbols;", true)
  | 3 => ("LinkYard", "relocations", "LLinkYard$Relocations;", true)
  | 4 => ("LinkYard", "arrivals", "LLinkYard$Arrivals;", true)
  | 5 => ("LinkYard", "names", "LLinkYard$Names;", true)
  | 6 => ("LinkYard", "reach", "LLinkYard$Reach;", true)
  | 7 => ("LinkYard", "folding", "LLinkYard$Folding;", true)
  | 8 => ("LinkYard", "layout", "LLinkYard$Layout;", true)
  | 9 => ("LinkYard", "islands", "LLinkYard$Islands;", true)
  | 10 => ("LinkYard", "mending", "LLinkYard$Mending;", true)
  | 11 => ("LinkYard", "entryName", "I", false)
  | 12 => ("LinkYard", "folds", "Z", false)
  | 13 => ("LinkYard", "groups", "Z", false)
  | 14 => ("LinkYard", "linked", "Z", false)
  | 15 => ("LinkYard", "faultKind", "I", false)
  | 16 => ("LinkYard", "faultName", "I", false)
  | _ => ("LinkYard", "faultRelocation", "I", false)
def t_Ly : Nat → FieldType := fun k => match k with
  | 0 => .object "LinkYard$Units"
  | 1 => .object "LinkYard$Sections"
  | 2 => .object "LinkYard$Symbols"
  | 3 => .object "LinkYard$Relocations"
  | 4 => .object "LinkYard$Arrivals"
  | 5 => .object "LinkYard$Names"
  | 6 => .object "LinkYard$Reach"
  | 7 => .object "LinkYard$Folding"
  | 8 => .object "LinkYard$Layout"
  | 9 => .object "LinkYard$Islands"
  | 10 => .object "LinkYard$Mending"
  | 11 => .int
  | 12 => .boolean
  | 13 => .boolean
  | 14 => .boolean
  | 15 => .int
  | 16 => .int
  | _ => .int
abbrev N_Ly : Nat := 18
def R_Un : String := "LinkYard$Units"
def F_Un : u_T := fun k => match k with
  | 0 => ("LinkYard$Units", "count", "I", false)
  | 1 => ("LinkYard$Units", "archive", "[I", true)
  | _ => ("LinkYard$Units", "in", "[Z", true)
def t_Un : Nat → FieldType := fun k => match k with
  | 0 => .int
  | 1 => .array .int
  | _ => .array .boolean
abbrev N_Un : Nat := 3
def R_Se : String := "LinkYard$Sections"
def F_Se : u_T := fun k => match k with
  | 0 => ("LinkYard$Sections", "count", "I", false)
  | 1 => ("LinkYard$Sections", "bytes", "I", false)
  | 2 => ("LinkYard$Sections", "stored", "I", false)
  | 3 => ("LinkYard$Sections", "words", "[I", false)
  | 4 => ("LinkYard$Sections", "unit", "[I", true)
  | 5 => ("LinkYard$Sections", "kind", "[I", true)
  | 6 => ("LinkYard$Sections", "size", "[I", true)
  | 7 => ("LinkYard$Sections", "alignment", "[I", true)
  | 8 => ("LinkYard$Sections", "firstWord", "[I", true)
  | _ => ("LinkYard$Sections", "kept", "[Z", true)
def t_Se : Nat → FieldType := fun k => match k with
  | 0 => .int
  | 1 => .int
  | 2 => .int
  | 3 => .array .int
  | 4 => .array .int
  | 5 => .array .int
  | 6 => .array .int
  | 7 => .array .int
  | 8 => .array .int
  | _ => .array .boolean
abbrev N_Se : Nat := 10
def R_Sy : String := "LinkYard$Symbols"
def F_Sy : u_T := fun k => match k with
  | 0 => ("LinkYard$Symbols", "count", "I", false)
  | 1 => ("LinkYard$Symbols", "unit", "[I", true)
  | 2 => ("LinkYard$Symbols", "name", "[I", true)
  | 3 => ("LinkYard$Symbols", "binding", "[I", true)
  | 4 => ("LinkYard$Symbols", "form", "[I", true)
  | 5 => ("LinkYard$Symbols", "section", "[I", true)
  | _ => ("LinkYard$Symbols", "value", "[I", true)
def t_Sy : Nat → FieldType := fun k => match k with
  | 0 => .int
  | 1 => .array .int
  | 2 => .array .int
  | 3 => .array .int
  | 4 => .array .int
  | 5 => .array .int
  | _ => .array .int
abbrev N_Sy : Nat := 7
def R_Re : String := "LinkYard$Relocations"
def F_Re : u_T := fun k => match k with
  | 0 => ("LinkYard$Relocations", "count", "I", false)
  | 1 => ("LinkYard$Relocations", "section", "[I", true)
  | 2 => ("LinkYard$Relocations", "place", "[I", true)
  | 3 => ("LinkYard$Relocations", "sort", "[I", true)
  | 4 => ("LinkYard$Relocations", "symbol", "[I", true)
  | 5 => ("LinkYard$Relocations", "addend", "[I", true)
  | 6 => ("LinkYard$Relocations", "sorted", "[I", true)
  | 7 => ("LinkYard$Relocations", "start", "[I", true)
  | _ => ("LinkYard$Relocations", "filled", "[I", true)
def t_Re : Nat → FieldType := fun k => match k with
  | 0 => .int
  | 1 => .array .int
  | 2 => .array .int
  | 3 => .array .int
  | 4 => .array .int
  | 5 => .array .int
  | 6 => .array .int
  | 7 => .array .int
  | _ => .array .int
abbrev N_Re : Nat := 9
def R_Ar : String := "LinkYard$Arrivals"
def F_Ar : u_T := fun k => match k with
  | 0 => ("LinkYard$Arrivals", "units", "LLinkYard$Units;", true)
  | 1 => ("LinkYard$Arrivals", "symbols", "LLinkYard$Symbols;", true)
  | 2 => ("LinkYard$Arrivals", "asked", "[Z", true)
  | _ => ("LinkYard$Arrivals", "given", "[Z", true)
def t_Ar : Nat → FieldType := fun k => match k with
  | 0 => .object "LinkYard$Units"
  | 1 => .object "LinkYard$Symbols"
  | 2 => .array .boolean
  | _ => .array .boolean
abbrev N_Ar : Nat := 4
def R_Na : String := "LinkYard$Names"
def F_Na : u_T := fun k => match k with
  | 0 => ("LinkYard$Names", "units", "LLinkYard$Units;", true)
  | 1 => ("LinkYard$Names", "symbols", "LLinkYard$Symbols;", true)
  | 2 => ("LinkYard$Names", "global", "[I", true)
  | 3 => ("LinkYard$Names", "weak", "[I", true)
  | 4 => ("LinkYard$Names", "commonSize", "[I", true)
  | 5 => ("LinkYard$Names", "twice", "I", false)
  | 6 => ("LinkYard$Names", "meant", "[I", true)
  | 7 => ("LinkYard$Names", "where", "[I", true)
  | _ => ("LinkYard$Names", "value", "[I", true)
def t_Na : Nat → FieldType := fun k => match k with
  | 0 => .object "LinkYard$Units"
  | 1 => .object "LinkYard$Symbols"
  | 2 => .array .int
  | 3 => .array .int
  | 4 => .array .int
  | 5 => .int
  | 6 => .array .int
  | 7 => .array .int
  | _ => .array .int
abbrev N_Na : Nat := 9
def R_Rc : String := "LinkYard$Reach"
def F_Rc : u_T := fun k => match k with
  | 0 => ("LinkYard$Reach", "units", "LLinkYard$Units;", true)
  | 1 => ("LinkYard$Reach", "sections", "LLinkYard$Sections;", true)
  | 2 => ("LinkYard$Reach", "relocations", "LLinkYard$Relocations;", true)
  | 3 => ("LinkYard$Reach", "names", "LLinkYard$Names;", true)
  | 4 => ("LinkYard$Reach", "reached", "[Z", true)
  | 5 => ("LinkYard$Reach", "commonReached", "[Z", true)
  | 6 => ("LinkYard$Reach", "found", "I", false)
  | _ => ("LinkYard$Reach", "queue", "[I", true)
def t_Rc : Nat → FieldType := fun k => match k with
  | 0 => .object "LinkYard$Units"
  | 1 => .object "LinkYard$Sections"
  | 2 => .object "LinkYard$Relocations"
  | 3 => .object "LinkYard$Names"
  | 4 => .array .boolean
  | 5 => .array .boolean
  | 6 => .int
  | _ => .array .int
abbrev N_Rc : Nat := 8
def R_Fo : String := "LinkYard$Folding"
def F_Fo : u_T := fun k => match k with
  | 0 => ("LinkYard$Folding", "sections", "LLinkYard$Sections;", true)
  | 1 => ("LinkYard$Folding", "relocations", "LLinkYard$Relocations;", true)
  | 2 => ("LinkYard$Folding", "names", "LLinkYard$Names;", true)
  | 3 => ("LinkYard$Folding", "reach", "LLinkYard$Reach;", true)
  | 4 => ("LinkYard$Folding", "leader", "[I", true)
  | _ => ("LinkYard$Folding", "finer", "[I", true)
def t_Fo : Nat → FieldType := fun k => match k with
  | 0 => .object "LinkYard$Sections"
  | 1 => .object "LinkYard$Relocations"
  | 2 => .object "LinkYard$Names"
  | 3 => .object "LinkYard$Reach"
  | 4 => .array .int
  | _ => .array .int
abbrev N_Fo : Nat := 6
def R_La : String := "LinkYard$Layout"
def F_La : u_T := fun k => match k with
  | 0 => ("LinkYard$Layout", "sections", "LLinkYard$Sections;", true)
  | 1 => ("LinkYard$Layout", "names", "LLinkYard$Names;", true)
  | 2 => ("LinkYard$Layout", "reach", "LLinkYard$Reach;", true)
  | 3 => ("LinkYard$Layout", "folding", "LLinkYard$Folding;", true)
  | 4 => ("LinkYard$Layout", "base", "I", false)
  | 5 => ("LinkYard$Layout", "end", "I", false)
  | 6 => ("LinkYard$Layout", "times", "I", false)
  | 7 => ("LinkYard$Layout", "islandsAt", "I", false)
  | 8 => ("LinkYard$Layout", "address", "[I", true)
  | _ => ("LinkYard$Layout", "commonAddress", "[I", true)
def t_La : Nat → FieldType := fun k => match k with
  | 0 => .object "LinkYard$Sections"
  | 1 => .object "LinkYard$Names"
  | 2 => .object "LinkYard$Reach"
  | 3 => .object "LinkYard$Folding"
  | 4 => .int
  | 5 => .int
  | 6 => .int
  | 7 => .int
  | 8 => .array .int
  | _ => .array .int
abbrev N_La : Nat := 10
def R_Is : String := "LinkYard$Islands"
def F_Is : u_T := fun k => match k with
  | 0 => ("LinkYard$Islands", "sections", "LLinkYard$Sections;", true)
  | 1 => ("LinkYard$Islands", "relocations", "LLinkYard$Relocations;", true)
  | 2 => ("LinkYard$Islands", "names", "LLinkYard$Names;", true)
  | 3 => ("LinkYard$Islands", "folding", "LLinkYard$Folding;", true)
  | 4 => ("LinkYard$Islands", "layout", "LLinkYard$Layout;", true)
  | 5 => ("LinkYard$Islands", "count", "I", false)
  | 6 => ("LinkYard$Islands", "goers", "I", false)
  | 7 => ("LinkYard$Islands", "meant", "[I", true)
  | 8 => ("LinkYard$Islands", "where", "[I", true)
  | 9 => ("LinkYard$Islands", "sum", "[I", true)
  | _ => ("LinkYard$Islands", "islandOf", "[I", true)
def t_Is : Nat → FieldType := fun k => match k with
  | 0 => .object "LinkYard$Sections"
  | 1 => .object "LinkYard$Relocations"
  | 2 => .object "LinkYard$Names"
  | 3 => .object "LinkYard$Folding"
  | 4 => .object "LinkYard$Layout"
  | 5 => .int
  | 6 => .int
  | 7 => .array .int
  | 8 => .array .int
  | 9 => .array .int
  | _ => .array .int
abbrev N_Is : Nat := 11
def R_Me : String := "LinkYard$Mending"
def F_Me : u_T := fun k => match k with
  | 0 => ("LinkYard$Mending", "sections", "LLinkYard$Sections;", true)
  | 1 => ("LinkYard$Mending", "relocations", "LLinkYard$Relocations;", true)
  | 2 => ("LinkYard$Mending", "layout", "LLinkYard$Layout;", true)
  | _ => ("LinkYard$Mending", "islands", "LLinkYard$Islands;", true)
def t_Me : Nat → FieldType := fun k => match k with
  | 0 => .object "LinkYard$Sections"
  | 1 => .object "LinkYard$Relocations"
  | 2 => .object "LinkYard$Layout"
  | _ => .object "LinkYard$Islands"
abbrev N_Me : Nat := 4
def R_Mo : String := "LinkYardModel"
def F_Mo : u_T := fun k => match k with
  | 0 => ("LinkYardModel", "thrown", "I", false)
  | 1 => ("LinkYardModel", "units", "I", false)
  | 2 => ("LinkYardModel", "archive", "[I", true)
  | 3 => ("LinkYardModel", "sections", "I", false)
  | 4 => ("LinkYardModel", "unitOf", "[I", true)
  | 5 => ("LinkYardModel", "kind", "[I", true)
  | 6 => ("LinkYardModel", "size", "[I", true)
  | 7 => ("LinkYardModel", "alignment", "[I", true)
  | 8 => ("LinkYardModel", "firstWord", "[I", true)
  | 9 => ("LinkYardModel", "kept", "[Z", true)
  | 10 => ("LinkYardModel", "bytes", "I", false)
  | 11 => ("LinkYardModel", "words", "I", false)
  | 12 => ("LinkYardModel", "word", "[I", true)
  | 13 => ("LinkYardModel", "symbols", "I", false)
  | 14 => ("LinkYardModel", "syUnit", "[I", true)
  | 15 => ("LinkYardModel", "sySort", "[I", true)
  | 16 => ("LinkYardModel", "sySection", "[I", true)
  | 17 => ("LinkYardModel", "syValue", "[I", true)
  | 18 => ("LinkYardModel", "syName", "[I", true)
  | 19 => ("LinkYardModel", "syBinding", "[I", true)
  | 20 => ("LinkYardModel", "relocations", "I", false)
  | 21 => ("LinkYardModel", "reSection", "[I", true)
  | 22 => ("LinkYardModel", "rePlace", "[I", true)
  | 23 => ("LinkYardModel", "reSort", "[I", true)
  | 24 => ("LinkYardModel", "reSymbol", "[I", true)
  | 25 => ("LinkYardModel", "reAddend", "[I", true)
  | 26 => ("LinkYardModel", "entry", "I", false)
  | 27 => ("LinkYardModel", "folds", "Z", false)
  | 28 => ("LinkYardModel", "groups", "Z", false)
  | 29 => ("LinkYardModel", "linked", "Z", false)
  | 30 => ("LinkYardModel", "faultKind", "I", false)
  | 31 => ("LinkYardModel", "faultName", "I", false)
  | 32 => ("LinkYardModel", "faultRelocation", "I", false)
  | 33 => ("LinkYardModel", "base", "I", false)
  | 34 => ("LinkYardModel", "end", "I", false)
  | 35 => ("LinkYardModel", "laid", "I", false)
  | 36 => ("LinkYardModel", "in", "[Z", true)
  | 37 => ("LinkYardModel", "defines", "[I", true)
  | 38 => ("LinkYardModel", "commonSize", "[I", true)
  | 39 => ("LinkYardModel", "commonReached", "[Z", true)
  | 40 => ("LinkYardModel", "commonAt", "[I", true)
  | 41 => ("LinkYardModel", "reached", "[Z", true)
  | 42 => ("LinkYardModel", "like", "[I", true)
  | 43 => ("LinkYardModel", "sectionAt", "[I", true)
  | 44 => ("LinkYardModel", "alike", "[Z", true)
  | 45 => ("LinkYardModel", "mended", "[I", true)
  | 46 => ("LinkYardModel", "island", "[I", true)
  | 47 => ("LinkYardModel", "islands", "I", false)
  | 48 => ("LinkYardModel", "islandOf", "[I", true)
  | _ => ("LinkYardModel", "islandsAt", "I", false)
def t_Mo : Nat → FieldType := fun k => match k with
  | 0 => .int
  | 1 => .int
  | 2 => .array .int
  | 3 => .int
  | 4 => .array .int
  | 5 => .array .int
  | 6 => .array .int
  | 7 => .array .int
  | 8 => .array .int
  | 9 => .array .boolean
  | 10 => .int
  | 11 => .int
  | 12 => .array .int
  | 13 => .int
  | 14 => .array .int
  | 15 => .array .int
  | 16 => .array .int
  | 17 => .array .int
  | 18 => .array .int
  | 19 => .array .int
  | 20 => .int
  | 21 => .array .int
  | 22 => .array .int
  | 23 => .array .int
  | 24 => .array .int
  | 25 => .array .int
  | 26 => .int
  | 27 => .boolean
  | 28 => .boolean
  | 29 => .boolean
  | 30 => .int
  | 31 => .int
  | 32 => .int
  | 33 => .int
  | 34 => .int
  | 35 => .int
  | 36 => .array .boolean
  | 37 => .array .int
  | 38 => .array .int
  | 39 => .array .boolean
  | 40 => .array .int
  | 41 => .array .boolean
  | 42 => .array .int
  | 43 => .array .int
  | 44 => .array .boolean
  | 45 => .array .int
  | 46 => .array .int
  | 47 => .int
  | 48 => .array .int
  | _ => .int
abbrev N_Mo : Nat := 50
abbrev classes : List vw_C := [(R_Ly, F_Ly, N_Ly), (R_Un, F_Un, N_Un), (R_Se, F_Se, N_Se), (R_Sy, F_Sy, N_Sy), (R_Re, F_Re, N_Re), (R_Ar, F_Ar, N_Ar), (R_Na, F_Na, N_Na), (R_Rc, F_Rc, N_Rc), (R_Fo, F_Fo, N_Fo), (R_La, F_La, N_La), (R_Is, F_Is, N_Is), (R_Me, F_Me, N_Me), (R_Mo, F_Mo, N_Mo)]
set_option maxRecDepth 100000 in
theorem i_Ly : ∀ w ∈ u_ws R_Ly F_Ly N_Ly, w ∈ ALLW := mwAll (by decide +kernel)
theorem n_Ly : ∀ a, a < N_Ly → ∀ b, b < N_Ly → a ≠ b → (F_Ly a).2.1 ≠ (F_Ly b).2.1 := by decide +kernel
theorem t_Ly_ok : ∀ k, k < N_Ly → parseFieldDescriptor (F_Ly k).2.2.1 = some (t_Ly k) := by decide +kernel
theorem cls_Ly : classes[0]? = some (R_Ly, F_Ly, N_Ly) := rfl
set_option maxRecDepth 100000 in
theorem i_Un : ∀ w ∈ u_ws R_Un F_Un N_Un, w ∈ ALLW := mwAll (by decide +kernel)
theorem n_Un : ∀ a, a < N_Un → ∀ b, b < N_Un → a ≠ b → (F_Un a).2.1 ≠ (F_Un b).2.1 := by decide +kernel
theorem t_Un_ok : ∀ k, k < N_Un → parseFieldDescriptor (F_Un k).2.2.1 = some (t_Un k) := by decide +kernel
theorem cls_Un : classes[1]? = some (R_Un, F_Un, N_Un) := rfl
set_option maxRecDepth 100000 in
theorem i_Se : ∀ w ∈ u_ws R_Se F_Se N_Se, w ∈ ALLW := mwAll (by decide +kernel)
theorem n_Se : ∀ a, a < N_Se → ∀ b, b < N_Se → a ≠ b → (F_Se a).2.1 ≠ (F_Se b).2.1 := by decide +kernel
theorem t_Se_ok : ∀ k, k < N_Se → parseFieldDescriptor (F_Se k).2.2.1 = some (t_Se k) := by decide +kernel
theorem cls_Se : classes[2]? = some (R_Se, F_Se, N_Se) := rfl
set_option maxRecDepth 100000 in
theorem i_Sy : ∀ w ∈ u_ws R_Sy F_Sy N_Sy, w ∈ ALLW := mwAll (by decide +kernel)
theorem n_Sy : ∀ a, a < N_Sy → ∀ b, b < N_Sy → a ≠ b → (F_Sy a).2.1 ≠ (F_Sy b).2.1 := by decide +kernel
theorem t_Sy_ok : ∀ k, k < N_Sy → parseFieldDescriptor (F_Sy k).2.2.1 = some (t_Sy k) := by decide +kernel
theorem cls_Sy : classes[3]? = some (R_Sy, F_Sy, N_Sy) := rfl
set_option maxRecDepth 100000 in
theorem i_Re : ∀ w ∈ u_ws R_Re F_Re N_Re, w ∈ ALLW := mwAll (by decide +kernel)
theorem n_Re : ∀ a, a < N_Re → ∀ b, b < N_Re → a ≠ b → (F_Re a).2.1 ≠ (F_Re b).2.1 := by decide +kernel
theorem t_Re_ok : ∀ k, k < N_Re → parseFieldDescriptor (F_Re k).2.2.1 = some (t_Re k) := by decide +kernel
theorem cls_Re : classes[4]? = some (R_Re, F_Re, N_Re) := rfl
set_option maxRecDepth 100000 in
theorem i_Ar : ∀ w ∈ u_ws R_Ar F_Ar N_Ar, w ∈ ALLW := mwAll (by decide +kernel)
theorem n_Ar : ∀ a, a < N_Ar → ∀ b, b < N_Ar → a ≠ b → (F_Ar a).2.1 ≠ (F_Ar b).2.1 := by decide +kernel
theorem t_Ar_ok : ∀ k, k < N_Ar → parseFieldDescriptor (F_Ar k).2.2.1 = some (t_Ar k) := by decide +kernel
theorem cls_Ar : classes[5]? = some (R_Ar, F_Ar, N_Ar) := rfl
set_option maxRecDepth 100000 in
theorem i_Na : ∀ w ∈ u_ws R_Na F_Na N_Na, w ∈ ALLW := mwAll (by decide +kernel)
theorem n_Na : ∀ a, a < N_Na → ∀ b, b < N_Na → a ≠ b → (F_Na a).2.1 ≠ (F_Na b).2.1 := by decide +kernel
theorem t_Na_ok : ∀ k, k < N_Na → parseFieldDescriptor (F_Na k).2.2.1 = some (t_Na k) := by decide +kernel
theorem cls_Na : classes[6]? = some (R_Na, F_Na, N_Na) := rfl
set_option maxRecDepth 100000 in
theorem i_Rc : ∀ w ∈ u_ws R_Rc F_Rc N_Rc, w ∈ ALLW := mwAll (by decide +kernel)
theorem n_Rc : ∀ a, a < N_Rc → ∀ b, b < N_Rc → a ≠ b → (F_Rc a).2.1 ≠ (F_Rc b).2.1 := by decide +kernel
theorem t_Rc_ok : ∀ k, k < N_Rc → parseFieldDescriptor (F_Rc k).2.2.1 = some (t_Rc k) := by decide +kernel
theorem cls_Rc : classes[7]? = some (R_Rc, F_Rc, N_Rc) := rfl
set_option maxRecDepth 100000 in
theorem i_Fo : ∀ w ∈ u_ws R_Fo F_Fo N_Fo, w ∈ ALLW := mwAll (by decide +kernel)
theorem n_Fo : ∀ a, a < N_Fo → ∀ b, b < N_Fo → a ≠ b → (F_Fo a).2.1 ≠ (F_Fo b).2.1 := by decide +kernel
theorem t_Fo_ok : ∀ k, k < N_Fo → parseFieldDescriptor (F_Fo k).2.2.1 = some (t_Fo k) := by decide +kernel
theorem cls_Fo : classes[8]? = some (R_Fo, F_Fo, N_Fo) := rfl
set_option maxRecDepth 100000 in
theorem i_La : ∀ w ∈ u_ws R_La F_La N_La, w ∈ ALLW := mwAll (by decide +kernel)
theorem n_La : ∀ a, a < N_La → ∀ b, b < N_La → a ≠ b → (F_La a).2.1 ≠ (F_La b).2.1 := by decide +kernel
theorem t_La_ok : ∀ k, k < N_La → parseFieldDescriptor (F_La k).2.2.1 = some (t_La k) := by decide +kernel
theorem cls_La : classes[9]? = some (R_La, F_La, N_La) := rfl
set_option maxRecDepth 100000 in
theorem i_Is : ∀ w ∈ u_ws R_Is F_Is N_Is, w ∈ ALLW := mwAll (by decide +kernel)
theorem n_Is : ∀ a, a < N_Is → ∀ b, b < N_Is → a ≠ b → (F_Is a).2.1 ≠ (F_Is b).2.1 := by decide +kernel
theorem t_Is_ok : ∀ k, k < N_Is → parseFieldDescriptor (F_Is k).2.2.1 = some (t_Is k) := by decide +kernel
theorem cls_Is : classes[10]? = some (R_Is, F_Is, N_Is) := rfl
set_option maxRecDepth 100000 in
theorem i_Me : ∀ w ∈ u_ws R_Me F_Me N_Me, w ∈ ALLW := mwAll (by decide +kernel)
theorem n_Me : ∀ a, a < N_Me → ∀ b, b < N_Me → a ≠ b → (F_Me a).2.1 ≠ (F_Me b).2.1 := by decide +kernel
theorem t_Me_ok : ∀ k, k < N_Me → parseFieldDescriptor (F_Me k).2.2.1 = some (t_Me k) := by decide +kernel
theorem cls_Me : classes[11]? = some (R_Me, F_Me, N_Me) := rfl
set_option maxRecDepth 100000 in
theorem i_Mo : ∀ w ∈ u_ws R_Mo F_Mo N_Mo, w ∈ ALLW := mwAll (by decide +kernel)
theorem n_Mo : ∀ a, a < N_Mo → ∀ b, b < N_Mo → a ≠ b → (F_Mo a).2.1 ≠ (F_Mo b).2.1 := by decide +kernel
theorem t_Mo_ok : ∀ k, k < N_Mo → parseFieldDescriptor (F_Mo k).2.2.1 = some (t_Mo k) := by decide +kernel
theorem cls_Mo : classes[12]? = some (R_Mo, F_Mo, N_Mo) := rfl
theorem sysN : Cond.native arraycopyName ∈ ALLW := (mw 767 (by decide +kernel))
theorem sysS : Cond.static arraycopyName ∈ ALLW := (mw 766 (by decide +kernel))
theorem sysI : Cond.initialized "java/lang/System" ∈ ALLW := (mw 104 (by decide +kernel))
theorem mathmaxS : Cond.static Lib.Math.max.name ∈ ALLW := (mw 752 (by decide +kernel))
theorem mathmaxC : Cond.code Lib.Math.max.name Lib.Math.max.code 2 (some .int) ∈ ALLW := (mw 753 (by decide +kernel))
theorem mathminS : Cond.static Lib.Math.min.name ∈ ALLW := (mw 749 (by decide +kernel))
theorem mathminC : Cond.code Lib.Math.min.name Lib.Math.min.code 2 (some .int) ∈ ALLW := (mw 750 (by decide +kernel))
theorem mathI : Cond.initialized "java/lang/Math" ∈ ALLW := (mw 102 (by decide +kernel))
