def GW : List Cond := lw_tbl.filter goodWord
def isNestW : Cond → Bool
  | .fieldLinkNest .. => true
  | .methodLinkNest .. => true
  | .declares .. => true
  | .castable .. => true
  | _ => false
def NW : List Cond := lw_tbl.filter isNestW
def R_PAT : String := "PatternNodes$Pattern"
def F_PAT : u_T := fun k => match k with
  | 0 => ("PatternNodes$Pattern", "bytes", "[I", true)
  | _ => ("PatternNodes$Pattern", "length", "I", false)
def ty_PAT : Nat → FieldType := fun k => match k with
  | 0 => .array .int
  | _ => .int
abbrev N_PAT : Nat := 2
theorem n_PAT : ∀ a, a < N_PAT → ∀ b, b < N_PAT → a ≠ b → (F_PAT a).2.1 ≠ (F_PAT b).2.1 := by decide +kernel
theorem ty_PAT_ok : ∀ k, k < N_PAT → parseFieldDescriptor (F_PAT k).2.2.1 = some (ty_PAT k) := by decide +kernel
theorem i_PAT : ∀ w ∈ u_ws R_PAT F_PAT N_PAT, w ∈ GW := by decide +kernel
theorem df_PAT : ∀ j, j < N_PAT → defaultValue (ty_PAT j) = vp_V [.null, .int 0] j := by
  intro j hj
  rcases (show j = 0 ∨ j = 1 by unfold N_PAT at hj; omega) with rfl | rfl <;> rfl
def R_MIS : String := "PatternNodes$Mistake"
def F_MIS : u_T := fun k => match k with
  | 0 => ("PatternNodes$Mistake", "number", "I", false)
  | _ => ("PatternNodes$Mistake", "place", "I", false)
def ty_MIS : Nat → FieldType := fun k => match k with
  | 0 => .int
  | _ => .int
abbrev N_MIS : Nat := 2
theorem n_MIS : ∀ a, a < N_MIS → ∀ b, b < N_MIS → a ≠ b → (F_MIS a).2.1 ≠ (F_MIS b).2.1 := by decide +kernel
theorem ty_MIS_ok : ∀ k, k < N_MIS → parseFieldDescriptor (F_MIS k).2.2.1 = some (ty_MIS k) := by decide +kernel
theorem i_MIS : ∀ w ∈ u_ws R_MIS F_MIS N_MIS, w ∈ GW := by decide +kernel
theorem df_MIS : ∀ j, j < N_MIS → defaultValue (ty_MIS j) = vp_V [.int 0, .int 0] j := by
  intro j hj
  rcases (show j = 0 ∨ j = 1 by unfold N_MIS at hj; omega) with rfl | rfl <;> rfl
def R_SET : String := "PatternNodes$CharacterSet"
def F_SET : u_T := fun k => match k with
  | 0 => ("PatternNodes$CharacterSet", "begins", "[I", true)
  | 1 => ("PatternNodes$CharacterSet", "ends", "[I", true)
  | _ => ("PatternNodes$CharacterSet", "pieces", "I", false)
def ty_SET : Nat → FieldType := fun k => match k with
  | 0 => .array .int
  | 1 => .array .int
  | _ => .int
abbrev N_SET : Nat := 3
theorem n_SET : ∀ a, a < N_SET → ∀ b, b < N_SET → a ≠ b → (F_SET a).2.1 ≠ (F_SET b).2.1 := by decide +kernel
theorem ty_SET_ok : ∀ k, k < N_SET → parseFieldDescriptor (F_SET k).2.2.1 = some (ty_SET k) := by decide +kernel
theorem i_SET : ∀ w ∈ u_ws R_SET F_SET N_SET, w ∈ GW := by decide +kernel
theorem df_SET : ∀ j, j < N_SET → defaultValue (ty_SET j) = vp_V [.null, .null, .int 0] j := by
  intro j hj
  rcases (show j = 0 ∨ j = 1 ∨ j = 2 by unfold N_SET at hj; omega) with rfl | rfl | rfl <;> rfl
def R_TRE : String := "PatternNodes$Tree"
def F_TRE : u_T := fun k => match k with
  | 0 => ("PatternNodes$Tree", "kinds", "[I", true)
  | 1 => ("PatternNodes$Tree", "values", "[I", true)
  | 2 => ("PatternNodes$Tree", "mosts", "[I", true)
  | 3 => ("PatternNodes$Tree", "owners", "[I", true)
  | 4 => ("PatternNodes$Tree", "sizes", "[I", true)
  | 5 => ("PatternNodes$Tree", "firstRanges", "[I", true)
  | 6 => ("PatternNodes$Tree", "rangeCounts", "[I", true)
  | 7 => ("PatternNodes$Tree", "begins", "[I", true)
  | 8 => ("PatternNodes$Tree", "ends", "[I", true)
  | 9 => ("PatternNodes$Tree", "waiting", "[I", true)
  | 10 => ("PatternNodes$Tree", "nodes", "I", false)
  | 11 => ("PatternNodes$Tree", "ranges", "I", false)
  | _ => ("PatternNodes$Tree", "waits", "I", false)
def ty_TRE : Nat → FieldType := fun k => match k with
  | 0 => .array .int
  | 1 => .array .int
  | 2 => .array .int
  | 3 => .array .int
  | 4 => .array .int
  | 5 => .array .int
  | 6 => .array .int
  | 7 => .array .int
  | 8 => .array .int
  | 9 => .array .int
  | 10 => .int
  | 11 => .int
  | _ => .int
abbrev N_TRE : Nat := 13
theorem n_TRE : ∀ a, a < N_TRE → ∀ b, b < N_TRE → a ≠ b → (F_TRE a).2.1 ≠ (F_TRE b).2.1 := by decide +kernel
theorem ty_TRE_ok : ∀ k, k < N_TRE → parseFieldDescriptor (F_TRE k).2.2.1 = some (ty_TRE k) := by decide +kernel
theorem i_TRE : ∀ w ∈ u_ws R_TRE F_TRE N_TRE, w ∈ GW := by decide +kernel
theorem df_TRE : ∀ j, j < N_TRE → defaultValue (ty_TRE j) = vp_V [.null, .null, .null, .null, .null, .null, .null, .null, .null, .null, .int 0, .int 0, .int 0] j := by
  intro j hj
  rcases (show j = 0 ∨ j = 1 ∨ j = 2 ∨ j = 3 ∨ j = 4 ∨ j = 5 ∨ j = 6 ∨ j = 7 ∨ j = 8 ∨ j = 9 ∨ j = 10 ∨ j = 11 ∨ j = 12 by unfold N_TRE at hj; omega) with rfl | rfl | rfl | rfl | rfl | rfl | rfl | rfl | rfl | rfl | rfl | rfl | rfl <;> rfl
def R_GRP : String := "PatternNodes$NumberedGroups"
def F_GRP : u_T := fun k => match k with
  | 0 => ("PatternNodes$NumberedGroups", "lengths", "[I", true)
  | 1 => ("PatternNodes$NumberedGroups", "letters", "[I", true)
  | _ => ("PatternNodes$NumberedGroups", "howMany", "I", false)
def ty_GRP : Nat → FieldType := fun k => match k with
  | 0 => .array .int
  | 1 => .array .int
  | _ => .int
abbrev N_GRP : Nat := 3
theorem n_GRP : ∀ a, a < N_GRP → ∀ b, b < N_GRP → a ≠ b → (F_GRP a).2.1 ≠ (F_GRP b).2.1 := by decide +kernel
theorem ty_GRP_ok : ∀ k, k < N_GRP → parseFieldDescriptor (F_GRP k).2.2.1 = some (ty_GRP k) := by decide +kernel
theorem i_GRP : ∀ w ∈ u_ws R_GRP F_GRP N_GRP, w ∈ GW := by decide +kernel
theorem df_GRP : ∀ j, j < N_GRP → defaultValue (ty_GRP j) = vp_V [.null, .null, .int 0] j := by
  intro j hj
  rcases (show j = 0 ∨ j = 1 ∨ j = 2 by unfold N_GRP at hj; omega) with rfl | rfl | rfl <;> rfl
def R_OPN : String := "PatternNodes$OpenGroups"
def F_OPN : u_T := fun k => match k with
  | 0 => ("PatternNodes$OpenGroups", "places", "[I", true)
  | 1 => ("PatternNodes$OpenGroups", "numbers", "[I", true)
  | 2 => ("PatternNodes$OpenGroups", "flagsAround", "[I", true)
  | 3 => ("PatternNodes$OpenGroups", "rows", "[I", true)
  | 4 => ("PatternNodes$OpenGroups", "parts", "[I", true)
  | _ => ("PatternNodes$OpenGroups", "depth", "I", false)
def ty_OPN : Nat → FieldType := fun k => match k with
  | 0 => .array .int
  | 1 => .array .int
  | 2 => .array .int
  | 3 => .array .int
  | 4 => .array .int
  | _ => .int
abbrev N_OPN : Nat := 6
theorem n_OPN : ∀ a, a < N_OPN → ∀ b, b < N_OPN → a ≠ b → (F_OPN a).2.1 ≠ (F_OPN b).2.1 := by decide +kernel
theorem ty_OPN_ok : ∀ k, k < N_OPN → parseFieldDescriptor (F_OPN k).2.2.1 = some (ty_OPN k) := by decide +kernel
theorem i_OPN : ∀ w ∈ u_ws R_OPN F_OPN N_OPN, w ∈ GW := by decide +kernel
theorem df_OPN : ∀ j, j < N_OPN → defaultValue (ty_OPN j) = vp_V [.null, .null, .null, .null, .null, .int 0] j := by
  intro j hj
  rcases (show j = 0 ∨ j = 1 ∨ j = 2 ∨ j = 3 ∨ j = 4 ∨ j = 5 by unfold N_OPN at hj; omega) with rfl | rfl | rfl | rfl | rfl | rfl <;> rfl
def R_ESC : String := "PatternNodes$EscapeReader"
def F_ESC : u_T := fun k => match k with
  | 0 => ("PatternNodes$EscapeReader", "pattern", "LPatternNodes$Pattern;", true)
  | 1 => ("PatternNodes$EscapeReader", "kind", "I", false)
  | 2 => ("PatternNodes$EscapeReader", "value", "I", false)
  | 3 => ("PatternNodes$EscapeReader", "set", "[I", false)
  | 4 => ("PatternNodes$EscapeReader", "others", "Z", false)
  | _ => ("PatternNodes$EscapeReader", "after", "I", false)
def ty_ESC : Nat → FieldType := fun k => match k with
  | 0 => .object "PatternNodes$Pattern"
  | 1 => .int
  | 2 => .int
  | 3 => .array .int
  | 4 => .boolean
  | _ => .int
abbrev N_ESC : Nat := 6
theorem n_ESC : ∀ a, a < N_ESC → ∀ b, b < N_ESC → a ≠ b → (F_ESC a).2.1 ≠ (F_ESC b).2.1 := by decide +kernel
theorem ty_ESC_ok : ∀ k, k < N_ESC → parseFieldDescriptor (F_ESC k).2.2.1 = some (ty_ESC k) := by decide +kernel
theorem i_ESC : ∀ w ∈ u_ws R_ESC F_ESC N_ESC, w ∈ GW := by decide +kernel
theorem df_ESC : ∀ j, j < N_ESC → defaultValue (ty_ESC j) = vp_V [.null, .int 0, .int 0, .null, .int 0, .int 0] j := by
  intro j hj
  rcases (show j = 0 ∨ j = 1 ∨ j = 2 ∨ j = 3 ∨ j = 4 ∨ j = 5 by unfold N_ESC at hj; omega) with rfl | rfl | rfl | rfl | rfl | rfl <;> rfl
def R_CLS : String := "PatternNodes$ClassReader"
def F_CLS : u_T := fun k => match k with
  | 0 => ("PatternNodes$ClassReader", "pattern", "LPatternNodes$Pattern;", true)
  | 1 => ("PatternNodes$ClassReader", "mistake", "LPatternNodes$Mistake;", true)
  | 2 => ("PatternNodes$ClassReader", "escapes", "LPatternNodes$EscapeReader;", true)
  | 3 => ("PatternNodes$ClassReader", "set", "LPatternNodes$CharacterSet;", true)
  | _ => ("PatternNodes$ClassReader", "single", "I", false)
def ty_CLS : Nat → FieldType := fun k => match k with
  | 0 => .object "PatternNodes$Pattern"
  | 1 => .object "PatternNodes$Mistake"
  | 2 => .object "PatternNodes$EscapeReader"
  | 3 => .object "PatternNodes$CharacterSet"
  | _ => .int
abbrev N_CLS : Nat := 5
theorem n_CLS : ∀ a, a < N_CLS → ∀ b, b < N_CLS → a ≠ b → (F_CLS a).2.1 ≠ (F_CLS b).2.1 := by decide +kernel
theorem ty_CLS_ok : ∀ k, k < N_CLS → parseFieldDescriptor (F_CLS k).2.2.1 = some (ty_CLS k) := by decide +kernel
theorem i_CLS : ∀ w ∈ u_ws R_CLS F_CLS N_CLS, w ∈ GW := by decide +kernel
theorem df_CLS : ∀ j, j < N_CLS → defaultValue (ty_CLS j) = vp_V [.null, .null, .null, .null, .int 0] j := by
  intro j hj
  rcases (show j = 0 ∨ j = 1 ∨ j = 2 ∨ j = 3 ∨ j = 4 by unfold N_CLS at hj; omega) with rfl | rfl | rfl | rfl | rfl <;> rfl
def R_OPG : String := "PatternNodes$OpeningReader"
def F_OPG : u_T := fun k => match k with
  | 0 => ("PatternNodes$OpeningReader", "pattern", "LPatternNodes$Pattern;", true)
  | 1 => ("PatternNodes$OpeningReader", "numbered", "Z", false)
  | 2 => ("PatternNodes$OpeningReader", "flagsAlone", "Z", false)
  | 3 => ("PatternNodes$OpeningReader", "nameAt", "I", false)
  | 4 => ("PatternNodes$OpeningReader", "nameLength", "I", false)
  | 5 => ("PatternNodes$OpeningReader", "flags", "I", false)
  | _ => ("PatternNodes$OpeningReader", "after", "I", false)
def ty_OPG : Nat → FieldType := fun k => match k with
  | 0 => .object "PatternNodes$Pattern"
  | 1 => .boolean
  | 2 => .boolean
  | 3 => .int
  | 4 => .int
  | 5 => .int
  | _ => .int
abbrev N_OPG : Nat := 7
theorem n_OPG : ∀ a, a < N_OPG → ∀ b, b < N_OPG → a ≠ b → (F_OPG a).2.1 ≠ (F_OPG b).2.1 := by decide +kernel
theorem ty_OPG_ok : ∀ k, k < N_OPG → parseFieldDescriptor (F_OPG k).2.2.1 = some (ty_OPG k) := by decide +kernel
theorem i_OPG : ∀ w ∈ u_ws R_OPG F_OPG N_OPG, w ∈ GW := by decide +kernel
theorem df_OPG : ∀ j, j < N_OPG → defaultValue (ty_OPG j) = vp_V [.null, .int 0, .int 0, .int 0, .int 0, .int 0, .int 0] j := by
  intro j hj
  rcases (show j = 0 ∨ j = 1 ∨ j = 2 ∨ j = 3 ∨ j = 4 ∨ j = 5 ∨ j = 6 by unfold N_OPG at hj; omega) with rfl | rfl | rfl | rfl | rfl | rfl | rfl <;> rfl
def R_REP : String := "PatternNodes$RepeatReader"
def F_REP : u_T := fun k => match k with
  | 0 => ("PatternNodes$RepeatReader", "pattern", "LPatternNodes$Pattern;", true)
  | 1 => ("PatternNodes$RepeatReader", "least", "I", false)
  | 2 => ("PatternNodes$RepeatReader", "most", "I", false)
  | 3 => ("PatternNodes$RepeatReader", "marked", "Z", false)
  | 4 => ("PatternNodes$RepeatReader", "after", "I", false)
  | _ => ("PatternNodes$RepeatReader", "number", "I", false)
def ty_REP : Nat → FieldType := fun k => match k with
  | 0 => .object "PatternNodes$Pattern"
  | 1 => .int
  | 2 => .int
  | 3 => .boolean
  | 4 => .int
  | _ => .int
abbrev N_REP : Nat := 6
theorem n_REP : ∀ a, a < N_REP → ∀ b, b < N_REP → a ≠ b → (F_REP a).2.1 ≠ (F_REP b).2.1 := by decide +kernel
theorem ty_REP_ok : ∀ k, k < N_REP → parseFieldDescriptor (F_REP k).2.2.1 = some (ty_REP k) := by decide +kernel
theorem i_REP : ∀ w ∈ u_ws R_REP F_REP N_REP, w ∈ GW := by decide +kernel
theorem df_REP : ∀ j, j < N_REP → defaultValue (ty_REP j) = vp_V [.null, .int 0, .int 0, .int 0, .int 0, .int 0] j := by
  intro j hj
  rcases (show j = 0 ∨ j = 1 ∨ j = 2 ∨ j = 3 ∨ j = 4 ∨ j = 5 by unfold N_REP at hj; omega) with rfl | rfl | rfl | rfl | rfl | rfl <;> rfl
def R_RDR : String := "PatternNodes$TreeReader"
def F_RDR : u_T := fun k => match k with
  | 0 => ("PatternNodes$TreeReader", "pattern", "LPatternNodes$Pattern;", true)
  | 1 => ("PatternNodes$TreeReader", "mistake", "LPatternNodes$Mistake;", true)
  | 2 => ("PatternNodes$TreeReader", "tree", "LPatternNodes$Tree;", true)
  | 3 => ("PatternNodes$TreeReader", "groups", "LPatternNodes$NumberedGroups;", true)
  | 4 => ("PatternNodes$TreeReader", "open", "LPatternNodes$OpenGroups;", true)
  | 5 => ("PatternNodes$TreeReader", "set", "LPatternNodes$CharacterSet;", true)
  | 6 => ("PatternNodes$TreeReader", "escapes", "LPatternNodes$EscapeReader;", true)
  | 7 => ("PatternNodes$TreeReader", "classes", "LPatternNodes$ClassReader;", true)
  | 8 => ("PatternNodes$TreeReader", "openings", "LPatternNodes$OpeningReader;", true)
  | 9 => ("PatternNodes$TreeReader", "repeats", "LPatternNodes$RepeatReader;", true)
  | 10 => ("PatternNodes$TreeReader", "place", "I", false)
  | 11 => ("PatternNodes$TreeReader", "flags", "I", false)
  | _ => ("PatternNodes$TreeReader", "repeatable", "Z", false)
def ty_RDR : Nat → FieldType := fun k => match k with
  | 0 => .object "PatternNodes$Pattern"
  | 1 => .object "PatternNodes$Mistake"
  | 2 => .object "PatternNodes$Tree"
  | 3 => .object "PatternNodes$NumberedGroups"
  | 4 => .object "PatternNodes$OpenGroups"
  | 5 => .object "PatternNodes$CharacterSet"
  | 6 => .object "PatternNodes$EscapeReader"
  | 7 => .object "PatternNodes$ClassReader"
  | 8 => .object "PatternNodes$OpeningReader"
  | 9 => .object "PatternNodes$RepeatReader"
  | 10 => .int
  | 11 => .int
  | _ => .boolean
abbrev N_RDR : Nat := 13
theorem n_RDR : ∀ a, a < N_RDR → ∀ b, b < N_RDR → a ≠ b → (F_RDR a).2.1 ≠ (F_RDR b).2.1 := by decide +kernel
theorem ty_RDR_ok : ∀ k, k < N_RDR → parseFieldDescriptor (F_RDR k).2.2.1 = some (ty_RDR k) := by decide +kernel
theorem i_RDR : ∀ w ∈ u_ws R_RDR F_RDR N_RDR, w ∈ GW := by decide +kernel
theorem df_RDR : ∀ j, j < N_RDR → defaultValue (ty_RDR j) = vp_V [.null, .null, .null, .null, .null, .null, .null, .null, .null, .null, .int 0, .int 0, .int 0] j := by
  intro j hj
  rcases (show j = 0 ∨ j = 1 ∨ j = 2 ∨ j = 3 ∨ j = 4 ∨ j = 5 ∨ j = 6 ∨ j = 7 ∨ j = 8 ∨ j = 9 ∨ j = 10 ∨ j = 11 ∨ j = 12 by unfold N_RDR at hj; omega) with rfl | rfl | rfl | rfl | rfl | rfl | rfl | rfl | rfl | rfl | rfl | rfl | rfl <;> rfl
def R_PN : String := "PatternNodes"
def F_PN : u_T := fun k => match k with
  | 0 => ("PatternNodes", "pattern", "LPatternNodes$Pattern;", true)
  | 1 => ("PatternNodes", "mistake", "LPatternNodes$Mistake;", true)
  | 2 => ("PatternNodes", "tree", "LPatternNodes$Tree;", true)
  | 3 => ("PatternNodes", "groups", "LPatternNodes$NumberedGroups;", true)
  | _ => ("PatternNodes", "reader", "LPatternNodes$TreeReader;", true)
def ty_PN : Nat → FieldType := fun k => match k with
  | 0 => .object "PatternNodes$Pattern"
  | 1 => .object "PatternNodes$Mistake"
  | 2 => .object "PatternNodes$Tree"
  | 3 => .object "PatternNodes$NumberedGroups"
  | _ => .object "PatternNodes$TreeReader"
abbrev N_PN : Nat := 5
theorem n_PN : ∀ a, a < N_PN → ∀ b, b < N_PN → a ≠ b → (F_PN a).2.1 ≠ (F_PN b).2.1 := by decide +kernel
theorem ty_PN_ok : ∀ k, k < N_PN → parseFieldDescriptor (F_PN k).2.2.1 = some (ty_PN k) := by decide +kernel
theorem i_PN : ∀ w ∈ u_ws R_PN F_PN N_PN, w ∈ GW := by decide +kernel
theorem df_PN : ∀ j, j < N_PN → defaultValue (ty_PN j) = vp_V [.null, .null, .null, .null, .null] j := by
  intro j hj
  rcases (show j = 0 ∨ j = 1 ∨ j = 2 ∨ j = 3 ∨ j = 4 by unfold N_PN at hj; omega) with rfl | rfl | rfl | rfl | rfl <;> rfl
def R_MOD : String := "PatternNodesModel"
def F_MOD : u_T := fun k => match k with
  | 0 => ("PatternNodesModel", "thrown", "I", false)
  | 1 => ("PatternNodesModel", "hand", "[I", true)
  | 2 => ("PatternNodesModel", "inHand", "I", false)
  | 3 => ("PatternNodesModel", "text", "[I", true)
  | 4 => ("PatternNodesModel", "n", "I", false)
  | 5 => ("PatternNodesModel", "at", "I", false)
  | 6 => ("PatternNodesModel", "fault", "I", false)
  | 7 => ("PatternNodesModel", "place", "I", false)
  | 8 => ("PatternNodesModel", "nodes", "I", false)
  | 9 => ("PatternNodesModel", "kind", "[I", true)
  | 10 => ("PatternNodesModel", "value", "[I", true)
  | 11 => ("PatternNodesModel", "most", "[I", true)
  | 12 => ("PatternNodesModel", "span", "[I", true)
  | 13 => ("PatternNodesModel", "size", "[I", true)
  | 14 => ("PatternNodesModel", "whose", "[I", true)
  | 15 => ("PatternNodesModel", "rangeFrom", "[I", true)
  | 16 => ("PatternNodesModel", "rangeMany", "[I", true)
  | 17 => ("PatternNodesModel", "begins", "[I", true)
  | 18 => ("PatternNodesModel", "ends", "[I", true)
  | 19 => ("PatternNodesModel", "ranges", "I", false)
  | 20 => ("PatternNodesModel", "numbered", "I", false)
  | 21 => ("PatternNodesModel", "names", "[I", true)
  | 22 => ("PatternNodesModel", "nameSize", "[I", true)
  | 23 => ("PatternNodesModel", "depth", "I", false)
  | 24 => ("PatternNodesModel", "opened", "[I", true)
  | 25 => ("PatternNodesModel", "number", "[I", true)
  | 26 => ("PatternNodesModel", "flagsBefore", "[I", true)
  | 27 => ("PatternNodesModel", "rows", "[I", true)
  | 28 => ("PatternNodesModel", "parts", "[I", true)
  | 29 => ("PatternNodesModel", "flags", "I", false)
  | 30 => ("PatternNodesModel", "repeatable", "Z", false)
  | 31 => ("PatternNodesModel", "low", "[I", true)
  | 32 => ("PatternNodesModel", "high", "[I", true)
  | 33 => ("PatternNodesModel", "many", "[I", true)
  | 34 => ("PatternNodesModel", "like", "[I", true)
  | 35 => ("PatternNodesModel", "sets", "[I", true)
  | 36 => ("PatternNodesModel", "large", "[I", true)
  | 37 => ("PatternNodesModel", "named", "[I", true)
  | 38 => ("PatternNodesModel", "behind", "I", false)
  | 39 => ("PatternNodesModel", "notSet", "Z", false)
  | 40 => ("PatternNodesModel", "least", "I", false)
  | _ => ("PatternNodesModel", "greatest", "I", false)
def ty_MOD : Nat → FieldType := fun k => match k with
  | 0 => .int
  | 1 => .array .int
  | 2 => .int
  | 3 => .array .int
  | 4 => .int
  | 5 => .int
  | 6 => .int
  | 7 => .int
  | 8 => .int
  | 9 => .array .int
  | 10 => .array .int
  | 11 => .array .int
  | 12 => .array .int
  | 13 => .array .int
  | 14 => .array .int
  | 15 => .array .int
  | 16 => .array .int
  | 17 => .array .int
  | 18 => .array .int
  | 19 => .int
  | 20 => .int
  | 21 => .array .int
  | 22 => .array .int
  | 23 => .int
  | 24 => .array .int
  | 25 => .array .int
  | 26 => .array .int
  | 27 => .array .int
  | 28 => .array .int
  | 29 => .int
  | 30 => .boolean
  | 31 => .array .int
  | 32 => .array .int
  | 33 => .array .int
  | 34 => .array .int
  | 35 => .array .int
  | 36 => .array .int
  | 37 => .array .int
  | 38 => .int
  | 39 => .boolean
  | 40 => .int
  | _ => .int
abbrev N_MOD : Nat := 42
theorem n_MOD : ∀ a, a < N_MOD → ∀ b, b < N_MOD → a ≠ b → (F_MOD a).2.1 ≠ (F_MOD b).2.1 := by decide +kernel
theorem ty_MOD_ok : ∀ k, k < N_MOD → parseFieldDescriptor (F_MOD k).2.2.1 = some (ty_MOD k) := by decide +kernel
theorem i_MOD : ∀ w ∈ u_ws R_MOD F_MOD N_MOD, w ∈ GW := by decide +kernel
theorem df_MOD : ∀ j, j < N_MOD → defaultValue (ty_MOD j) = vp_V [.int 0, .null, .int 0, .null, .int 0, .int 0, .int 0, .int 0, .int 0, .null, .null, .null, .null, .null, .null, .null, .null, .null, .null, .int 0, .int 0, .null, .null, .int 0, .null, .null, .null, .null, .null, .int 0, .int 0, .null, .null, .null, .null, .null, .null, .null, .int 0, .int 0, .int 0, .int 0] j := by
  intro j hj
  rcases (show j = 0 ∨ j = 1 ∨ j = 2 ∨ j = 3 ∨ j = 4 ∨ j = 5 ∨ j = 6 ∨ j = 7 ∨ j = 8 ∨ j = 9 ∨ j = 10 ∨ j = 11 ∨ j = 12 ∨ j = 13 ∨ j = 14 ∨ j = 15 ∨ j = 16 ∨ j = 17 ∨ j = 18 ∨ j = 19 ∨ j = 20 ∨ j = 21 ∨ j = 22 ∨ j = 23 ∨ j = 24 ∨ j = 25 ∨ j = 26 ∨ j = 27 ∨ j = 28 ∨ j = 29 ∨ j = 30 ∨ j = 31 ∨ j = 32 ∨ j = 33 ∨ j = 34 ∨ j = 35 ∨ j = 36 ∨ j = 37 ∨ j = 38 ∨ j = 39 ∨ j = 40 ∨ j = 41 by unfold N_MOD at hj; omega) with rfl | rfl | rfl | rfl | rfl | rfl | rfl | rfl | rfl | rfl | rfl | rfl | rfl | rfl | rfl | rfl | rfl | rfl | rfl | rfl | rfl | rfl | rfl | rfl | rfl | rfl | rfl | rfl | rfl | rfl | rfl | rfl | rfl | rfl | rfl | rfl | rfl | rfl | rfl | rfl | rfl | rfl <;> rfl
abbrev b_PAT_append : ByteArray := prog_9_method_3_code
def y_PAT_append : MethodName := ⟨R_PAT, "append", "(JI)Z"⟩
theorem hd_PAT_append : y_PAT_append.cls ≠ "java/lang/invoke/MethodHandle" ∧ y_PAT_append.cls ≠ "java/lang/invoke/VarHandle" ∧ (parseMethodDescriptor y_PAT_append.desc).map (fun d => d.parameters.length) = some 2 := by decide +kernel
abbrev ws_PAT_append : List Cond := Cond.code y_PAT_append b_PAT_append 5 (some .boolean) :: GW
abbrev b_PN_put : ByteArray := prog_1_method_2_code
def y_PN_put : MethodName := ⟨R_PN, "put", "(JI)Z"⟩
theorem hd_PN_put : y_PN_put.cls ≠ "java/lang/invoke/MethodHandle" ∧ y_PN_put.cls ≠ "java/lang/invoke/VarHandle" ∧ (parseMethodDescriptor y_PN_put.desc).map (fun d => d.parameters.length) = some 2 := by decide +kernel
abbrev ws_PN_put : List Cond := Cond.code y_PN_put b_PN_put 4 (some .boolean) :: GW
abbrev b_MIS_clear : ByteArray := prog_5_method_2_code
def y_MIS_clear : MethodName := ⟨R_MIS, "clear", "()V"⟩
theorem hd_MIS_clear : y_MIS_clear.cls ≠ "java/lang/invoke/MethodHandle" ∧ y_MIS_clear.cls ≠ "java/lang/invoke/VarHandle" ∧ (parseMethodDescriptor y_MIS_clear.desc).map (fun d => d.parameters.length) = some 0 := by decide +kernel
abbrev ws_MIS_clear : List Cond := Cond.code y_MIS_clear b_MIS_clear 1 none :: GW
abbrev b_TRE_clear : ByteArray := prog_11_method_2_code
def y_TRE_clear : MethodName := ⟨R_TRE, "clear", "()V"⟩
theorem hd_TRE_clear : y_TRE_clear.cls ≠ "java/lang/invoke/MethodHandle" ∧ y_TRE_clear.cls ≠ "java/lang/invoke/VarHandle" ∧ (parseMethodDescriptor y_TRE_clear.desc).map (fun d => d.parameters.length) = some 0 := by decide +kernel
abbrev ws_TRE_clear : List Cond := Cond.code y_TRE_clear b_TRE_clear 1 none :: GW
abbrev b_GRP_clear : ByteArray := prog_6_method_2_code
def y_GRP_clear : MethodName := ⟨R_GRP, "clear", "()V"⟩
theorem hd_GRP_clear : y_GRP_clear.cls ≠ "java/lang/invoke/MethodHandle" ∧ y_GRP_clear.cls ≠ "java/lang/invoke/VarHandle" ∧ (parseMethodDescriptor y_GRP_clear.desc).map (fun d => d.parameters.length) = some 0 := by decide +kernel
abbrev ws_GRP_clear : List Cond := Cond.code y_GRP_clear b_GRP_clear 1 none :: GW
abbrev b_OPN_begin : ByteArray := prog_7_method_2_code
def y_OPN_begin : MethodName := ⟨R_OPN, "begin", "()V"⟩
theorem hd_OPN_begin : y_OPN_begin.cls ≠ "java/lang/invoke/MethodHandle" ∧ y_OPN_begin.cls ≠ "java/lang/invoke/VarHandle" ∧ (parseMethodDescriptor y_OPN_begin.desc).map (fun d => d.parameters.length) = some 0 := by decide +kernel
abbrev ws_OPN_begin : List Cond := Cond.code y_OPN_begin b_OPN_begin 1 none :: GW
abbrev b_RDR_begin : ByteArray := prog_12_method_2_code
def y_RDR_begin : MethodName := ⟨R_RDR, "begin", "(I)V"⟩
theorem hd_RDR_begin : y_RDR_begin.cls ≠ "java/lang/invoke/MethodHandle" ∧ y_RDR_begin.cls ≠ "java/lang/invoke/VarHandle" ∧ (parseMethodDescriptor y_RDR_begin.desc).map (fun d => d.parameters.length) = some 1 := by decide +kernel
abbrev ws_RDR_begin : List Cond := Cond.code y_RDR_begin b_RDR_begin 2 none :: GW
abbrev b_RDR_hasMore : ByteArray := prog_12_method_3_code
def y_RDR_hasMore : MethodName := ⟨R_RDR, "hasMore", "()Z"⟩
theorem hd_RDR_hasMore : y_RDR_hasMore.cls ≠ "java/lang/invoke/MethodHandle" ∧ y_RDR_hasMore.cls ≠ "java/lang/invoke/VarHandle" ∧ (parseMethodDescriptor y_RDR_hasMore.desc).map (fun d => d.parameters.length) = some 0 := by decide +kernel
abbrev ws_RDR_hasMore : List Cond := Cond.code y_RDR_hasMore b_RDR_hasMore 1 (some .boolean) :: GW
abbrev b_PAT_at : ByteArray := prog_9_method_4_code
def y_PAT_at : MethodName := ⟨R_PAT, "at", "(I)I"⟩
theorem hd_PAT_at : y_PAT_at.cls ≠ "java/lang/invoke/MethodHandle" ∧ y_PAT_at.cls ≠ "java/lang/invoke/VarHandle" ∧ (parseMethodDescriptor y_PAT_at.desc).map (fun d => d.parameters.length) = some 1 := by decide +kernel
abbrev ws_PAT_at : List Cond := Cond.code y_PAT_at b_PAT_at 2 (some .int) :: GW
abbrev b_TRE_waitingSize : ByteArray := prog_11_method_6_code
def y_TRE_waitingSize : MethodName := ⟨R_TRE, "waitingSize", "(I)I"⟩
theorem hd_TRE_waitingSize : y_TRE_waitingSize.cls ≠ "java/lang/invoke/MethodHandle" ∧ y_TRE_waitingSize.cls ≠ "java/lang/invoke/VarHandle" ∧ (parseMethodDescriptor y_TRE_waitingSize.desc).map (fun d => d.parameters.length) = some 1 := by decide +kernel
abbrev ws_TRE_waitingSize : List Cond := Cond.code y_TRE_waitingSize b_TRE_waitingSize 4 (some .int) :: GW
abbrev b_TRE_addOver : ByteArray := prog_11_method_4_code
def y_TRE_addOver : MethodName := ⟨R_TRE, "addOver", "(IIIII)V"⟩
theorem hd_TRE_addOver : y_TRE_addOver.cls ≠ "java/lang/invoke/MethodHandle" ∧ y_TRE_addOver.cls ≠ "java/lang/invoke/VarHandle" ∧ (parseMethodDescriptor y_TRE_addOver.desc).map (fun d => d.parameters.length) = some 5 := by decide +kernel
abbrev ws_TRE_addOver : List Cond := Cond.code y_TRE_addOver b_TRE_addOver 7 none :: GW
abbrev b_RDR_endRow : ByteArray := prog_12_method_8_code
def y_RDR_endRow : MethodName := ⟨R_RDR, "endRow", "()V"⟩
theorem hd_RDR_endRow : y_RDR_endRow.cls ≠ "java/lang/invoke/MethodHandle" ∧ y_RDR_endRow.cls ≠ "java/lang/invoke/VarHandle" ∧ (parseMethodDescriptor y_RDR_endRow.desc).map (fun d => d.parameters.length) = some 0 := by decide +kernel
abbrev ws_RDR_endRow : List Cond := Cond.code y_RDR_endRow b_RDR_endRow 2 none :: GW
abbrev b_PN_isDigit : ByteArray := prog_1_method_11_code
def y_PN_isDigit : MethodName := ⟨R_PN, "isDigit", "(I)Z"⟩
theorem hd_PN_isDigit : y_PN_isDigit.cls ≠ "java/lang/invoke/MethodHandle" ∧ y_PN_isDigit.cls ≠ "java/lang/invoke/VarHandle" ∧ (parseMethodDescriptor y_PN_isDigit.desc).map (fun d => d.parameters.length) = some 1 := by decide +kernel
abbrev ws_PN_isDigit : List Cond := Cond.code y_PN_isDigit b_PN_isDigit 1 (some .boolean) :: GW
abbrev b_PN_isWord : ByteArray := prog_1_method_12_code
def y_PN_isWord : MethodName := ⟨R_PN, "isWord", "(I)Z"⟩
theorem hd_PN_isWord : y_PN_isWord.cls ≠ "java/lang/invoke/MethodHandle" ∧ y_PN_isWord.cls ≠ "java/lang/invoke/VarHandle" ∧ (parseMethodDescriptor y_PN_isWord.desc).map (fun d => d.parameters.length) = some 1 := by decide +kernel
abbrev ws_PN_isWord : List Cond := Cond.code y_PN_isWord b_PN_isWord 1 (some .boolean) :: GW
abbrev b_OPG_readName : ByteArray := prog_8_method_3_code
def y_OPG_readName : MethodName := ⟨R_OPG, "readName", "(I)Z"⟩
theorem hd_OPG_readName : y_OPG_readName.cls ≠ "java/lang/invoke/MethodHandle" ∧ y_OPG_readName.cls ≠ "java/lang/invoke/VarHandle" ∧ (parseMethodDescriptor y_OPG_readName.desc).map (fun d => d.parameters.length) = some 1 := by decide +kernel
abbrev ws_OPG_readName : List Cond := Cond.code y_OPG_readName b_OPG_readName 2 (some .boolean) :: GW
abbrev b_OPG_flagOf : ByteArray := prog_8_method_6_code
def y_OPG_flagOf : MethodName := ⟨R_OPG, "flagOf", "(I)I"⟩
theorem hd_OPG_flagOf : y_OPG_flagOf.cls ≠ "java/lang/invoke/MethodHandle" ∧ y_OPG_flagOf.cls ≠ "java/lang/invoke/VarHandle" ∧ (parseMethodDescriptor y_OPG_flagOf.desc).map (fun d => d.parameters.length) = some 1 := by decide +kernel
abbrev ws_OPG_flagOf : List Cond := Cond.code y_OPG_flagOf b_OPG_flagOf 1 (some .int) :: GW
abbrev b_OPG_takeFlags : ByteArray := prog_8_method_5_code
def y_OPG_takeFlags : MethodName := ⟨R_OPG, "takeFlags", "()I"⟩
theorem hd_OPG_takeFlags : y_OPG_takeFlags.cls ≠ "java/lang/invoke/MethodHandle" ∧ y_OPG_takeFlags.cls ≠ "java/lang/invoke/VarHandle" ∧ (parseMethodDescriptor y_OPG_takeFlags.desc).map (fun d => d.parameters.length) = some 0 := by decide +kernel
abbrev ws_OPG_takeFlags : List Cond := Cond.code y_OPG_takeFlags b_OPG_takeFlags 4 (some .int) :: GW
abbrev b_OPG_readFlags : ByteArray := prog_8_method_4_code
def y_OPG_readFlags : MethodName := ⟨R_OPG, "readFlags", "(I)Z"⟩
theorem hd_OPG_readFlags : y_OPG_readFlags.cls ≠ "java/lang/invoke/MethodHandle" ∧ y_OPG_readFlags.cls ≠ "java/lang/invoke/VarHandle" ∧ (parseMethodDescriptor y_OPG_readFlags.desc).map (fun d => d.parameters.length) = some 1 := by decide +kernel
abbrev ws_OPG_readFlags : List Cond := Cond.code y_OPG_readFlags b_OPG_readFlags 3 (some .boolean) :: GW
abbrev b_OPG_readOpening : ByteArray := prog_8_method_2_code
def y_OPG_readOpening : MethodName := ⟨R_OPG, "readOpening", "(II)Z"⟩
theorem hd_OPG_readOpening : y_OPG_readOpening.cls ≠ "java/lang/invoke/MethodHandle" ∧ y_OPG_readOpening.cls ≠ "java/lang/invoke/VarHandle" ∧ (parseMethodDescriptor y_OPG_readOpening.desc).map (fun d => d.parameters.length) = some 2 := by decide +kernel
abbrev ws_OPG_readOpening : List Cond := Cond.code y_OPG_readOpening b_OPG_readOpening 3 (some .boolean) :: GW
abbrev b_MIS_tell : ByteArray := prog_5_method_3_code
def y_MIS_tell : MethodName := ⟨R_MIS, "tell", "(II)V"⟩
theorem hd_MIS_tell : y_MIS_tell.cls ≠ "java/lang/invoke/MethodHandle" ∧ y_MIS_tell.cls ≠ "java/lang/invoke/VarHandle" ∧ (parseMethodDescriptor y_MIS_tell.desc).map (fun d => d.parameters.length) = some 2 := by decide +kernel
abbrev ws_MIS_tell : List Cond := Cond.code y_MIS_tell b_MIS_tell 3 none :: GW
abbrev b_TRE_addLeaf : ByteArray := prog_11_method_3_code
def y_TRE_addLeaf : MethodName := ⟨R_TRE, "addLeaf", "(III)V"⟩
theorem hd_TRE_addLeaf : y_TRE_addLeaf.cls ≠ "java/lang/invoke/MethodHandle" ∧ y_TRE_addLeaf.cls ≠ "java/lang/invoke/VarHandle" ∧ (parseMethodDescriptor y_TRE_addLeaf.desc).map (fun d => d.parameters.length) = some 3 := by decide +kernel
abbrev ws_TRE_addLeaf : List Cond := Cond.code y_TRE_addLeaf b_TRE_addLeaf 4 none :: GW
abbrev b_RDR_partDone : ByteArray := prog_12_method_7_code
def y_RDR_partDone : MethodName := ⟨R_RDR, "partDone", "(IZ)V"⟩
theorem hd_RDR_partDone : y_RDR_partDone.cls ≠ "java/lang/invoke/MethodHandle" ∧ y_RDR_partDone.cls ≠ "java/lang/invoke/VarHandle" ∧ (parseMethodDescriptor y_RDR_partDone.desc).map (fun d => d.parameters.length) = some 2 := by decide +kernel
abbrev ws_RDR_partDone : List Cond := Cond.code y_RDR_partDone b_RDR_partDone 3 none :: GW
abbrev b_GRP_isNamed : ByteArray := prog_6_method_6_code
def y_GRP_isNamed : MethodName := ⟨R_GRP, "isNamed", "(ILPatternNodes$Pattern;I)Z"⟩
theorem hd_GRP_isNamed : y_GRP_isNamed.cls ≠ "java/lang/invoke/MethodHandle" ∧ y_GRP_isNamed.cls ≠ "java/lang/invoke/VarHandle" ∧ (parseMethodDescriptor y_GRP_isNamed.desc).map (fun d => d.parameters.length) = some 3 := by decide +kernel
abbrev ws_GRP_isNamed : List Cond := Cond.code y_GRP_isNamed b_GRP_isNamed 5 (some .boolean) :: GW
abbrev b_GRP_hasName : ByteArray := prog_6_method_5_code
def y_GRP_hasName : MethodName := ⟨R_GRP, "hasName", "(LPatternNodes$Pattern;II)Z"⟩
theorem hd_GRP_hasName : y_GRP_hasName.cls ≠ "java/lang/invoke/MethodHandle" ∧ y_GRP_hasName.cls ≠ "java/lang/invoke/VarHandle" ∧ (parseMethodDescriptor y_GRP_hasName.desc).map (fun d => d.parameters.length) = some 3 := by decide +kernel
abbrev ws_GRP_hasName : List Cond := Cond.code y_GRP_hasName b_GRP_hasName 5 (some .boolean) :: GW
abbrev b_GRP_isFull : ByteArray := prog_6_method_3_code
def y_GRP_isFull : MethodName := ⟨R_GRP, "isFull", "()Z"⟩
theorem hd_GRP_isFull : y_GRP_isFull.cls ≠ "java/lang/invoke/MethodHandle" ∧ y_GRP_isFull.cls ≠ "java/lang/invoke/VarHandle" ∧ (parseMethodDescriptor y_GRP_isFull.desc).map (fun d => d.parameters.length) = some 0 := by decide +kernel
abbrev ws_GRP_isFull : List Cond := Cond.code y_GRP_isFull b_GRP_isFull 1 (some .boolean) :: GW
abbrev b_GRP_addGroup : ByteArray := prog_6_method_4_code
def y_GRP_addGroup : MethodName := ⟨R_GRP, "addGroup", "(LPatternNodes$Pattern;II)I"⟩
theorem hd_GRP_addGroup : y_GRP_addGroup.cls ≠ "java/lang/invoke/MethodHandle" ∧ y_GRP_addGroup.cls ≠ "java/lang/invoke/VarHandle" ∧ (parseMethodDescriptor y_GRP_addGroup.desc).map (fun d => d.parameters.length) = some 3 := by decide +kernel
abbrev ws_GRP_addGroup : List Cond := Cond.code y_GRP_addGroup b_GRP_addGroup 5 (some .int) :: GW
abbrev b_OPN_enter : ByteArray := prog_7_method_3_code
def y_OPN_enter : MethodName := ⟨R_OPN, "enter", "(III)V"⟩
theorem hd_OPN_enter : y_OPN_enter.cls ≠ "java/lang/invoke/MethodHandle" ∧ y_OPN_enter.cls ≠ "java/lang/invoke/VarHandle" ∧ (parseMethodDescriptor y_OPN_enter.desc).map (fun d => d.parameters.length) = some 3 := by decide +kernel
abbrev ws_OPN_enter : List Cond := Cond.code y_OPN_enter b_OPN_enter 4 none :: GW
abbrev b_RDR_enterGroup : ByteArray := prog_12_method_11_code
def y_RDR_enterGroup : MethodName := ⟨R_RDR, "enterGroup", "()V"⟩
theorem hd_RDR_enterGroup : y_RDR_enterGroup.cls ≠ "java/lang/invoke/MethodHandle" ∧ y_RDR_enterGroup.cls ≠ "java/lang/invoke/VarHandle" ∧ (parseMethodDescriptor y_RDR_enterGroup.desc).map (fun d => d.parameters.length) = some 0 := by decide +kernel
abbrev ws_RDR_enterGroup : List Cond := Cond.code y_RDR_enterGroup b_RDR_enterGroup 2 none :: GW
abbrev b_RDR_openGroup : ByteArray := prog_12_method_10_code
def y_RDR_openGroup : MethodName := ⟨R_RDR, "openGroup", "()V"⟩
theorem hd_RDR_openGroup : y_RDR_openGroup.cls ≠ "java/lang/invoke/MethodHandle" ∧ y_RDR_openGroup.cls ≠ "java/lang/invoke/VarHandle" ∧ (parseMethodDescriptor y_RDR_openGroup.desc).map (fun d => d.parameters.length) = some 0 := by decide +kernel
abbrev ws_RDR_openGroup : List Cond := Cond.code y_RDR_openGroup b_RDR_openGroup 1 none :: GW
abbrev b_RDR_endAlternatives : ByteArray := prog_12_method_9_code
def y_RDR_endAlternatives : MethodName := ⟨R_RDR, "endAlternatives", "()V"⟩
theorem hd_RDR_endAlternatives : y_RDR_endAlternatives.cls ≠ "java/lang/invoke/MethodHandle" ∧ y_RDR_endAlternatives.cls ≠ "java/lang/invoke/VarHandle" ∧ (parseMethodDescriptor y_RDR_endAlternatives.desc).map (fun d => d.parameters.length) = some 0 := by decide +kernel
abbrev ws_RDR_endAlternatives : List Cond := Cond.code y_RDR_endAlternatives b_RDR_endAlternatives 2 none :: GW
abbrev b_OPN_leave : ByteArray := prog_7_method_4_code
def y_OPN_leave : MethodName := ⟨R_OPN, "leave", "()V"⟩
theorem hd_OPN_leave : y_OPN_leave.cls ≠ "java/lang/invoke/MethodHandle" ∧ y_OPN_leave.cls ≠ "java/lang/invoke/VarHandle" ∧ (parseMethodDescriptor y_OPN_leave.desc).map (fun d => d.parameters.length) = some 0 := by decide +kernel
abbrev ws_OPN_leave : List Cond := Cond.code y_OPN_leave b_OPN_leave 1 none :: GW
abbrev b_RDR_closeGroup : ByteArray := prog_12_method_12_code
def y_RDR_closeGroup : MethodName := ⟨R_RDR, "closeGroup", "()V"⟩
theorem hd_RDR_closeGroup : y_RDR_closeGroup.cls ≠ "java/lang/invoke/MethodHandle" ∧ y_RDR_closeGroup.cls ≠ "java/lang/invoke/VarHandle" ∧ (parseMethodDescriptor y_RDR_closeGroup.desc).map (fun d => d.parameters.length) = some 0 := by decide +kernel
abbrev ws_RDR_closeGroup : List Cond := Cond.code y_RDR_closeGroup b_RDR_closeGroup 3 none :: GW
abbrev b_RDR_isOn : ByteArray := prog_12_method_6_code
def y_RDR_isOn : MethodName := ⟨R_RDR, "isOn", "(I)Z"⟩
theorem hd_RDR_isOn : y_RDR_isOn.cls ≠ "java/lang/invoke/MethodHandle" ∧ y_RDR_isOn.cls ≠ "java/lang/invoke/VarHandle" ∧ (parseMethodDescriptor y_RDR_isOn.desc).map (fun d => d.parameters.length) = some 1 := by decide +kernel
abbrev ws_RDR_isOn : List Cond := Cond.code y_RDR_isOn b_RDR_isOn 2 (some .boolean) :: GW
abbrev b_SET_clear : ByteArray := prog_2_method_2_code
def y_SET_clear : MethodName := ⟨R_SET, "clear", "()V"⟩
theorem hd_SET_clear : y_SET_clear.cls ≠ "java/lang/invoke/MethodHandle" ∧ y_SET_clear.cls ≠ "java/lang/invoke/VarHandle" ∧ (parseMethodDescriptor y_SET_clear.desc).map (fun d => d.parameters.length) = some 0 := by decide +kernel
abbrev ws_SET_clear : List Cond := Cond.code y_SET_clear b_SET_clear 1 none :: GW
abbrev b_SET_turnRound : ByteArray := prog_2_method_8_code
def y_SET_turnRound : MethodName := ⟨R_SET, "turnRound", "()V"⟩
theorem hd_SET_turnRound : y_SET_turnRound.cls ≠ "java/lang/invoke/MethodHandle" ∧ y_SET_turnRound.cls ≠ "java/lang/invoke/VarHandle" ∧ (parseMethodDescriptor y_SET_turnRound.desc).map (fun d => d.parameters.length) = some 0 := by decide +kernel
abbrev ws_SET_turnRound : List Cond := Cond.code y_SET_turnRound b_SET_turnRound 6 none :: GW
abbrev b_SET_add : ByteArray := prog_2_method_3_code
def y_SET_add : MethodName := ⟨R_SET, "add", "(II)V"⟩
theorem hd_SET_add : y_SET_add.cls ≠ "java/lang/invoke/MethodHandle" ∧ y_SET_add.cls ≠ "java/lang/invoke/VarHandle" ∧ (parseMethodDescriptor y_SET_add.desc).map (fun d => d.parameters.length) = some 2 := by decide +kernel
abbrev ws_SET_add : List Cond := Cond.code y_SET_add b_SET_add 8 none :: GW
abbrev b_SET_finish : ByteArray := prog_2_method_7_code
def y_SET_finish : MethodName := ⟨R_SET, "finish", "(Z)V"⟩
theorem hd_SET_finish : y_SET_finish.cls ≠ "java/lang/invoke/MethodHandle" ∧ y_SET_finish.cls ≠ "java/lang/invoke/VarHandle" ∧ (parseMethodDescriptor y_SET_finish.desc).map (fun d => d.parameters.length) = some 1 := by decide +kernel
abbrev ws_SET_finish : List Cond := Cond.code y_SET_finish b_SET_finish 2 none :: GW
abbrev b_ESC_setOf : ByteArray := prog_4_method_3_code
def y_ESC_setOf : MethodName := ⟨R_ESC, "setOf", "(I)[I"⟩
theorem hd_ESC_setOf : y_ESC_setOf.cls ≠ "java/lang/invoke/MethodHandle" ∧ y_ESC_setOf.cls ≠ "java/lang/invoke/VarHandle" ∧ (parseMethodDescriptor y_ESC_setOf.desc).map (fun d => d.parameters.length) = some 1 := by decide +kernel
abbrev ws_ESC_setOf : List Cond := Cond.code y_ESC_setOf b_ESC_setOf 1 (some (.array .int)) :: GW
abbrev b_ESC_isSetLetter : ByteArray := prog_4_method_2_code
def y_ESC_isSetLetter : MethodName := ⟨R_ESC, "isSetLetter", "(I)Z"⟩
theorem hd_ESC_isSetLetter : y_ESC_isSetLetter.cls ≠ "java/lang/invoke/MethodHandle" ∧ y_ESC_isSetLetter.cls ≠ "java/lang/invoke/VarHandle" ∧ (parseMethodDescriptor y_ESC_isSetLetter.desc).map (fun d => d.parameters.length) = some 1 := by decide +kernel
abbrev ws_ESC_isSetLetter : List Cond := Cond.code y_ESC_isSetLetter b_ESC_isSetLetter 1 (some .boolean) :: GW
abbrev b_CLS_isSetItem : ByteArray := prog_3_method_3_code
def y_CLS_isSetItem : MethodName := ⟨R_CLS, "isSetItem", "(I)Z"⟩
theorem hd_CLS_isSetItem : y_CLS_isSetItem.cls ≠ "java/lang/invoke/MethodHandle" ∧ y_CLS_isSetItem.cls ≠ "java/lang/invoke/VarHandle" ∧ (parseMethodDescriptor y_CLS_isSetItem.desc).map (fun d => d.parameters.length) = some 1 := by decide +kernel
abbrev ws_CLS_isSetItem : List Cond := Cond.code y_CLS_isSetItem b_CLS_isSetItem 3 (some .boolean) :: GW
abbrev b_ESC_found : ByteArray := prog_4_method_8_code
def y_ESC_found : MethodName := ⟨R_ESC, "found", "(II)I"⟩
theorem hd_ESC_found : y_ESC_found.cls ≠ "java/lang/invoke/MethodHandle" ∧ y_ESC_found.cls ≠ "java/lang/invoke/VarHandle" ∧ (parseMethodDescriptor y_ESC_found.desc).map (fun d => d.parameters.length) = some 2 := by decide +kernel
abbrev ws_ESC_found : List Cond := Cond.code y_ESC_found b_ESC_found 3 (some .int) :: GW
abbrev b_PN_hexadecimal : ByteArray := prog_1_method_13_code
def y_PN_hexadecimal : MethodName := ⟨R_PN, "hexadecimal", "(I)I"⟩
theorem hd_PN_hexadecimal : y_PN_hexadecimal.cls ≠ "java/lang/invoke/MethodHandle" ∧ y_PN_hexadecimal.cls ≠ "java/lang/invoke/VarHandle" ∧ (parseMethodDescriptor y_PN_hexadecimal.desc).map (fun d => d.parameters.length) = some 1 := by decide +kernel
abbrev ws_PN_hexadecimal : List Cond := Cond.code y_PN_hexadecimal b_PN_hexadecimal 1 (some .int) :: GW
abbrev b_PN_isCharacter : ByteArray := prog_1_method_9_code
def y_PN_isCharacter : MethodName := ⟨R_PN, "isCharacter", "(I)Z"⟩
theorem hd_PN_isCharacter : y_PN_isCharacter.cls ≠ "java/lang/invoke/MethodHandle" ∧ y_PN_isCharacter.cls ≠ "java/lang/invoke/VarHandle" ∧ (parseMethodDescriptor y_PN_isCharacter.desc).map (fun d => d.parameters.length) = some 1 := by decide +kernel
abbrev ws_PN_isCharacter : List Cond := Cond.code y_PN_isCharacter b_PN_isCharacter 1 (some .boolean) :: GW
abbrev b_ESC_readNumbered : ByteArray := prog_4_method_6_code
def y_ESC_readNumbered : MethodName := ⟨R_ESC, "readNumbered", "(I)I"⟩
theorem hd_ESC_readNumbered : y_ESC_readNumbered.cls ≠ "java/lang/invoke/MethodHandle" ∧ y_ESC_readNumbered.cls ≠ "java/lang/invoke/VarHandle" ∧ (parseMethodDescriptor y_ESC_readNumbered.desc).map (fun d => d.parameters.length) = some 1 := by decide +kernel
abbrev ws_ESC_readNumbered : List Cond := Cond.code y_ESC_readNumbered b_ESC_readNumbered 8 (some .int) :: GW
abbrev b_ESC_foundSet : ByteArray := prog_4_method_9_code
def y_ESC_foundSet : MethodName := ⟨R_ESC, "foundSet", "([IZ)I"⟩
theorem hd_ESC_foundSet : y_ESC_foundSet.cls ≠ "java/lang/invoke/MethodHandle" ∧ y_ESC_foundSet.cls ≠ "java/lang/invoke/VarHandle" ∧ (parseMethodDescriptor y_ESC_foundSet.desc).map (fun d => d.parameters.length) = some 2 := by decide +kernel
abbrev ws_ESC_foundSet : List Cond := Cond.code y_ESC_foundSet b_ESC_foundSet 3 (some .int) :: GW
abbrev b_ESC_propertyOf : ByteArray := prog_4_method_4_code
def y_ESC_propertyOf : MethodName := ⟨R_ESC, "propertyOf", "(I)[I"⟩
theorem hd_ESC_propertyOf : y_ESC_propertyOf.cls ≠ "java/lang/invoke/MethodHandle" ∧ y_ESC_propertyOf.cls ≠ "java/lang/invoke/VarHandle" ∧ (parseMethodDescriptor y_ESC_propertyOf.desc).map (fun d => d.parameters.length) = some 1 := by decide +kernel
abbrev ws_ESC_propertyOf : List Cond := Cond.code y_ESC_propertyOf b_ESC_propertyOf 1 (some (.array .int)) :: GW
abbrev b_ESC_readProperty : ByteArray := prog_4_method_7_code
def y_ESC_readProperty : MethodName := ⟨R_ESC, "readProperty", "(IZ)I"⟩
theorem hd_ESC_readProperty : y_ESC_readProperty.cls ≠ "java/lang/invoke/MethodHandle" ∧ y_ESC_readProperty.cls ≠ "java/lang/invoke/VarHandle" ∧ (parseMethodDescriptor y_ESC_readProperty.desc).map (fun d => d.parameters.length) = some 2 := by decide +kernel
abbrev ws_ESC_readProperty : List Cond := Cond.code y_ESC_readProperty b_ESC_readProperty 4 (some .int) :: GW
abbrev b_ESC_readEscape : ByteArray := prog_4_method_5_code
def y_ESC_readEscape : MethodName := ⟨R_ESC, "readEscape", "(I)I"⟩
theorem hd_ESC_readEscape : y_ESC_readEscape.cls ≠ "java/lang/invoke/MethodHandle" ∧ y_ESC_readEscape.cls ≠ "java/lang/invoke/VarHandle" ∧ (parseMethodDescriptor y_ESC_readEscape.desc).map (fun d => d.parameters.length) = some 1 := by decide +kernel
abbrev ws_ESC_readEscape : List Cond := Cond.code y_ESC_readEscape b_ESC_readEscape 3 (some .int) :: GW
abbrev b_CLS_refused : ByteArray := prog_3_method_9_code
def y_CLS_refused : MethodName := ⟨R_CLS, "refused", "(II)I"⟩
theorem hd_CLS_refused : y_CLS_refused.cls ≠ "java/lang/invoke/MethodHandle" ∧ y_CLS_refused.cls ≠ "java/lang/invoke/VarHandle" ∧ (parseMethodDescriptor y_CLS_refused.desc).map (fun d => d.parameters.length) = some 2 := by decide +kernel
abbrev ws_CLS_refused : List Cond := Cond.code y_CLS_refused b_CLS_refused 3 (some .int) :: GW
abbrev b_SET_addSet : ByteArray := prog_2_method_6_code
def y_SET_addSet : MethodName := ⟨R_SET, "addSet", "([IZ)V"⟩
theorem hd_SET_addSet : y_SET_addSet.cls ≠ "java/lang/invoke/MethodHandle" ∧ y_SET_addSet.cls ≠ "java/lang/invoke/VarHandle" ∧ (parseMethodDescriptor y_SET_addSet.desc).map (fun d => d.parameters.length) = some 2 := by decide +kernel
abbrev ws_SET_addSet : List Cond := Cond.code y_SET_addSet b_SET_addSet 5 none :: GW
abbrev b_CLS_readSetEscape : ByteArray := prog_3_method_5_code
def y_CLS_readSetEscape : MethodName := ⟨R_CLS, "readSetEscape", "(I)I"⟩
theorem hd_CLS_readSetEscape : y_CLS_readSetEscape.cls ≠ "java/lang/invoke/MethodHandle" ∧ y_CLS_readSetEscape.cls ≠ "java/lang/invoke/VarHandle" ∧ (parseMethodDescriptor y_CLS_readSetEscape.desc).map (fun d => d.parameters.length) = some 1 := by decide +kernel
abbrev ws_CLS_readSetEscape : List Cond := Cond.code y_CLS_readSetEscape b_CLS_readSetEscape 3 (some .int) :: GW
abbrev b_PAT_hasText : ByteArray := prog_9_method_6_code
def y_PAT_hasText : MethodName := ⟨R_PAT, "hasText", "(ILjava/lang/String;)Z"⟩
theorem hd_PAT_hasText : y_PAT_hasText.cls ≠ "java/lang/invoke/MethodHandle" ∧ y_PAT_hasText.cls ≠ "java/lang/invoke/VarHandle" ∧ (parseMethodDescriptor y_PAT_hasText.desc).map (fun d => d.parameters.length) = some 2 := by decide +kernel
abbrev ws_PAT_hasText : List Cond := Cond.code y_PAT_hasText b_PAT_hasText 4 (some .boolean) :: GW
abbrev b_CLS_setNamedAt : ByteArray := prog_3_method_6_code
def y_CLS_setNamedAt : MethodName := ⟨R_CLS, "setNamedAt", "(I)[I"⟩
theorem hd_CLS_setNamedAt : y_CLS_setNamedAt.cls ≠ "java/lang/invoke/MethodHandle" ∧ y_CLS_setNamedAt.cls ≠ "java/lang/invoke/VarHandle" ∧ (parseMethodDescriptor y_CLS_setNamedAt.desc).map (fun d => d.parameters.length) = some 1 := by decide +kernel
abbrev ws_CLS_setNamedAt : List Cond := Cond.code y_CLS_setNamedAt b_CLS_setNamedAt 2 (some (.array .int)) :: GW
abbrev b_CLS_readSetItem : ByteArray := prog_3_method_4_code
def y_CLS_readSetItem : MethodName := ⟨R_CLS, "readSetItem", "(I)I"⟩
theorem hd_CLS_readSetItem : y_CLS_readSetItem.cls ≠ "java/lang/invoke/MethodHandle" ∧ y_CLS_readSetItem.cls ≠ "java/lang/invoke/VarHandle" ∧ (parseMethodDescriptor y_CLS_readSetItem.desc).map (fun d => d.parameters.length) = some 1 := by decide +kernel
abbrev ws_CLS_readSetItem : List Cond := Cond.code y_CLS_readSetItem b_CLS_readSetItem 5 (some .int) :: GW
abbrev b_PN_widthOf : ByteArray := prog_1_method_10_code
def y_PN_widthOf : MethodName := ⟨R_PN, "widthOf", "(I)I"⟩
theorem hd_PN_widthOf : y_PN_widthOf.cls ≠ "java/lang/invoke/MethodHandle" ∧ y_PN_widthOf.cls ≠ "java/lang/invoke/VarHandle" ∧ (parseMethodDescriptor y_PN_widthOf.desc).map (fun d => d.parameters.length) = some 1 := by decide +kernel
abbrev ws_PN_widthOf : List Cond := Cond.code y_PN_widthOf b_PN_widthOf 1 (some .int) :: GW
abbrev b_PAT_characterAt : ByteArray := prog_9_method_5_code
def y_PAT_characterAt : MethodName := ⟨R_PAT, "characterAt", "(I)I"⟩
theorem hd_PAT_characterAt : y_PAT_characterAt.cls ≠ "java/lang/invoke/MethodHandle" ∧ y_PAT_characterAt.cls ≠ "java/lang/invoke/VarHandle" ∧ (parseMethodDescriptor y_PAT_characterAt.desc).map (fun d => d.parameters.length) = some 1 := by decide +kernel
abbrev ws_PAT_characterAt : List Cond := Cond.code y_PAT_characterAt b_PAT_characterAt 7 (some .int) :: GW
abbrev b_CLS_readSingle : ByteArray := prog_3_method_8_code
def y_CLS_readSingle : MethodName := ⟨R_CLS, "readSingle", "(I)I"⟩
theorem hd_CLS_readSingle : y_CLS_readSingle.cls ≠ "java/lang/invoke/MethodHandle" ∧ y_CLS_readSingle.cls ≠ "java/lang/invoke/VarHandle" ∧ (parseMethodDescriptor y_CLS_readSingle.desc).map (fun d => d.parameters.length) = some 1 := by decide +kernel
abbrev ws_CLS_readSingle : List Cond := Cond.code y_CLS_readSingle b_CLS_readSingle 3 (some .int) :: GW
abbrev b_SET_addKin : ByteArray := prog_2_method_5_code
def y_SET_addKin : MethodName := ⟨R_SET, "addKin", "(III)V"⟩
theorem hd_SET_addKin : y_SET_addKin.cls ≠ "java/lang/invoke/MethodHandle" ∧ y_SET_addKin.cls ≠ "java/lang/invoke/VarHandle" ∧ (parseMethodDescriptor y_SET_addKin.desc).map (fun d => d.parameters.length) = some 3 := by decide +kernel
abbrev ws_SET_addKin : List Cond := Cond.code y_SET_addKin b_SET_addKin 6 none :: GW
abbrev b_SET_addWithAlike : ByteArray := prog_2_method_4_code
def y_SET_addWithAlike : MethodName := ⟨R_SET, "addWithAlike", "(II)V"⟩
theorem hd_SET_addWithAlike : y_SET_addWithAlike.cls ≠ "java/lang/invoke/MethodHandle" ∧ y_SET_addWithAlike.cls ≠ "java/lang/invoke/VarHandle" ∧ (parseMethodDescriptor y_SET_addWithAlike.desc).map (fun d => d.parameters.length) = some 2 := by decide +kernel
abbrev ws_SET_addWithAlike : List Cond := Cond.code y_SET_addWithAlike b_SET_addWithAlike 5 none :: GW
abbrev b_CLS_readRange : ByteArray := prog_3_method_7_code
def y_CLS_readRange : MethodName := ⟨R_CLS, "readRange", "(IZ)I"⟩
theorem hd_CLS_readRange : y_CLS_readRange.cls ≠ "java/lang/invoke/MethodHandle" ∧ y_CLS_readRange.cls ≠ "java/lang/invoke/VarHandle" ∧ (parseMethodDescriptor y_CLS_readRange.desc).map (fun d => d.parameters.length) = some 2 := by decide +kernel
abbrev ws_CLS_readRange : List Cond := Cond.code y_CLS_readRange b_CLS_readRange 6 (some .int) :: GW
abbrev b_CLS_readClass : ByteArray := prog_3_method_2_code
def y_CLS_readClass : MethodName := ⟨R_CLS, "readClass", "(IZ)I"⟩
theorem hd_CLS_readClass : y_CLS_readClass.cls ≠ "java/lang/invoke/MethodHandle" ∧ y_CLS_readClass.cls ≠ "java/lang/invoke/VarHandle" ∧ (parseMethodDescriptor y_CLS_readClass.desc).map (fun d => d.parameters.length) = some 2 := by decide +kernel
abbrev ws_CLS_readClass : List Cond := Cond.code y_CLS_readClass b_CLS_readClass 7 (some .int) :: GW
abbrev b_TRE_addClass : ByteArray := prog_11_method_5_code
def y_TRE_addClass : MethodName := ⟨R_TRE, "addClass", "(LPatternNodes$CharacterSet;)V"⟩
theorem hd_TRE_addClass : y_TRE_addClass.cls ≠ "java/lang/invoke/MethodHandle" ∧ y_TRE_addClass.cls ≠ "java/lang/invoke/VarHandle" ∧ (parseMethodDescriptor y_TRE_addClass.desc).map (fun d => d.parameters.length) = some 1 := by decide +kernel
abbrev ws_TRE_addClass : List Cond := Cond.code y_TRE_addClass b_TRE_addClass 3 none :: GW
abbrev b_RDR_addClassPart : ByteArray := prog_12_method_13_code
def y_RDR_addClassPart : MethodName := ⟨R_RDR, "addClassPart", "(I)V"⟩
theorem hd_RDR_addClassPart : y_RDR_addClassPart.cls ≠ "java/lang/invoke/MethodHandle" ∧ y_RDR_addClassPart.cls ≠ "java/lang/invoke/VarHandle" ∧ (parseMethodDescriptor y_RDR_addClassPart.desc).map (fun d => d.parameters.length) = some 1 := by decide +kernel
abbrev ws_RDR_addClassPart : List Cond := Cond.code y_RDR_addClassPart b_RDR_addClassPart 2 none :: GW
abbrev b_SET_isOneCharacter : ByteArray := prog_2_method_9_code
def y_SET_isOneCharacter : MethodName := ⟨R_SET, "isOneCharacter", "()Z"⟩
theorem hd_SET_isOneCharacter : y_SET_isOneCharacter.cls ≠ "java/lang/invoke/MethodHandle" ∧ y_SET_isOneCharacter.cls ≠ "java/lang/invoke/VarHandle" ∧ (parseMethodDescriptor y_SET_isOneCharacter.desc).map (fun d => d.parameters.length) = some 0 := by decide +kernel
abbrev ws_SET_isOneCharacter : List Cond := Cond.code y_SET_isOneCharacter b_SET_isOneCharacter 1 (some .boolean) :: GW
abbrev b_RDR_addCharacter : ByteArray := prog_12_method_20_code
def y_RDR_addCharacter : MethodName := ⟨R_RDR, "addCharacter", "(I)V"⟩
theorem hd_RDR_addCharacter : y_RDR_addCharacter.cls ≠ "java/lang/invoke/MethodHandle" ∧ y_RDR_addCharacter.cls ≠ "java/lang/invoke/VarHandle" ∧ (parseMethodDescriptor y_RDR_addCharacter.desc).map (fun d => d.parameters.length) = some 1 := by decide +kernel
abbrev ws_RDR_addCharacter : List Cond := Cond.code y_RDR_addCharacter b_RDR_addCharacter 2 none :: GW
abbrev b_RDR_addFixedSet : ByteArray := prog_12_method_16_code
def y_RDR_addFixedSet : MethodName := ⟨R_RDR, "addFixedSet", "([IZ)V"⟩
theorem hd_RDR_addFixedSet : y_RDR_addFixedSet.cls ≠ "java/lang/invoke/MethodHandle" ∧ y_RDR_addFixedSet.cls ≠ "java/lang/invoke/VarHandle" ∧ (parseMethodDescriptor y_RDR_addFixedSet.desc).map (fun d => d.parameters.length) = some 2 := by decide +kernel
abbrev ws_RDR_addFixedSet : List Cond := Cond.code y_RDR_addFixedSet b_RDR_addFixedSet 3 none :: GW
abbrev b_RDR_readEscapePart : ByteArray := prog_12_method_14_code
def y_RDR_readEscapePart : MethodName := ⟨R_RDR, "readEscapePart", "()V"⟩
theorem hd_RDR_readEscapePart : y_RDR_readEscapePart.cls ≠ "java/lang/invoke/MethodHandle" ∧ y_RDR_readEscapePart.cls ≠ "java/lang/invoke/VarHandle" ∧ (parseMethodDescriptor y_RDR_readEscapePart.desc).map (fun d => d.parameters.length) = some 0 := by decide +kernel
abbrev ws_RDR_readEscapePart : List Cond := Cond.code y_RDR_readEscapePart b_RDR_readEscapePart 2 none :: GW
abbrev b_RDR_readAny : ByteArray := prog_12_method_15_code
def y_RDR_readAny : MethodName := ⟨R_RDR, "readAny", "()V"⟩
theorem hd_RDR_readAny : y_RDR_readAny.cls ≠ "java/lang/invoke/MethodHandle" ∧ y_RDR_readAny.cls ≠ "java/lang/invoke/VarHandle" ∧ (parseMethodDescriptor y_RDR_readAny.desc).map (fun d => d.parameters.length) = some 0 := by decide +kernel
abbrev ws_RDR_readAny : List Cond := Cond.code y_RDR_readAny b_RDR_readAny 1 none :: GW
abbrev b_RDR_addAssertion : ByteArray := prog_12_method_17_code
def y_RDR_addAssertion : MethodName := ⟨R_RDR, "addAssertion", "(I)V"⟩
theorem hd_RDR_addAssertion : y_RDR_addAssertion.cls ≠ "java/lang/invoke/MethodHandle" ∧ y_RDR_addAssertion.cls ≠ "java/lang/invoke/VarHandle" ∧ (parseMethodDescriptor y_RDR_addAssertion.desc).map (fun d => d.parameters.length) = some 1 := by decide +kernel
abbrev ws_RDR_addAssertion : List Cond := Cond.code y_RDR_addAssertion b_RDR_addAssertion 2 none :: GW
abbrev b_REP_readNumber : ByteArray := prog_10_method_4_code
def y_REP_readNumber : MethodName := ⟨R_REP, "readNumber", "()Z"⟩
theorem hd_REP_readNumber : y_REP_readNumber.cls ≠ "java/lang/invoke/MethodHandle" ∧ y_REP_readNumber.cls ≠ "java/lang/invoke/VarHandle" ∧ (parseMethodDescriptor y_REP_readNumber.desc).map (fun d => d.parameters.length) = some 0 := by decide +kernel
abbrev ws_REP_readNumber : List Cond := Cond.code y_REP_readNumber b_REP_readNumber 2 (some .boolean) :: GW
abbrev b_REP_readBounds : ByteArray := prog_10_method_3_code
def y_REP_readBounds : MethodName := ⟨R_REP, "readBounds", "()Z"⟩
theorem hd_REP_readBounds : y_REP_readBounds.cls ≠ "java/lang/invoke/MethodHandle" ∧ y_REP_readBounds.cls ≠ "java/lang/invoke/VarHandle" ∧ (parseMethodDescriptor y_REP_readBounds.desc).map (fun d => d.parameters.length) = some 0 := by decide +kernel
abbrev ws_REP_readBounds : List Cond := Cond.code y_REP_readBounds b_REP_readBounds 1 (some .boolean) :: GW
abbrev b_REP_readRepeat : ByteArray := prog_10_method_2_code
def y_REP_readRepeat : MethodName := ⟨R_REP, "readRepeat", "(I)Z"⟩
theorem hd_REP_readRepeat : y_REP_readRepeat.cls ≠ "java/lang/invoke/MethodHandle" ∧ y_REP_readRepeat.cls ≠ "java/lang/invoke/VarHandle" ∧ (parseMethodDescriptor y_REP_readRepeat.desc).map (fun d => d.parameters.length) = some 1 := by decide +kernel
abbrev ws_REP_readRepeat : List Cond := Cond.code y_REP_readRepeat b_REP_readRepeat 3 (some .boolean) :: GW
abbrev b_REP_hasBadTimes : ByteArray := prog_10_method_5_code
def y_REP_hasBadTimes : MethodName := ⟨R_REP, "hasBadTimes", "()Z"⟩
theorem hd_REP_hasBadTimes : y_REP_hasBadTimes.cls ≠ "java/lang/invoke/MethodHandle" ∧ y_REP_hasBadTimes.cls ≠ "java/lang/invoke/VarHandle" ∧ (parseMethodDescriptor y_REP_hasBadTimes.desc).map (fun d => d.parameters.length) = some 0 := by decide +kernel
abbrev ws_REP_hasBadTimes : List Cond := Cond.code y_REP_hasBadTimes b_REP_hasBadTimes 1 (some .boolean) :: GW
abbrev b_REP_sizeOver : ByteArray := prog_10_method_6_code
def y_REP_sizeOver : MethodName := ⟨R_REP, "sizeOver", "(I)I"⟩
theorem hd_REP_sizeOver : y_REP_sizeOver.cls ≠ "java/lang/invoke/MethodHandle" ∧ y_REP_sizeOver.cls ≠ "java/lang/invoke/VarHandle" ∧ (parseMethodDescriptor y_REP_sizeOver.desc).map (fun d => d.parameters.length) = some 1 := by decide +kernel
abbrev ws_REP_sizeOver : List Cond := Cond.code y_REP_sizeOver b_REP_sizeOver 2 (some .int) :: GW
abbrev b_RDR_addRepeat : ByteArray := prog_12_method_18_code
def y_RDR_addRepeat : MethodName := ⟨R_RDR, "addRepeat", "()V"⟩
theorem hd_RDR_addRepeat : y_RDR_addRepeat.cls ≠ "java/lang/invoke/MethodHandle" ∧ y_RDR_addRepeat.cls ≠ "java/lang/invoke/VarHandle" ∧ (parseMethodDescriptor y_RDR_addRepeat.desc).map (fun d => d.parameters.length) = some 0 := by decide +kernel
abbrev ws_RDR_addRepeat : List Cond := Cond.code y_RDR_addRepeat b_RDR_addRepeat 3 none :: GW
abbrev b_RDR_readCharacter : ByteArray := prog_12_method_19_code
def y_RDR_readCharacter : MethodName := ⟨R_RDR, "readCharacter", "()V"⟩
theorem hd_RDR_readCharacter : y_RDR_readCharacter.cls ≠ "java/lang/invoke/MethodHandle" ∧ y_RDR_readCharacter.cls ≠ "java/lang/invoke/VarHandle" ∧ (parseMethodDescriptor y_RDR_readCharacter.desc).map (fun d => d.parameters.length) = some 0 := by decide +kernel
abbrev ws_RDR_readCharacter : List Cond := Cond.code y_RDR_readCharacter b_RDR_readCharacter 2 none :: GW
abbrev b_RDR_readNext : ByteArray := prog_12_method_5_code
def y_RDR_readNext : MethodName := ⟨R_RDR, "readNext", "()V"⟩
theorem hd_RDR_readNext : y_RDR_readNext.cls ≠ "java/lang/invoke/MethodHandle" ∧ y_RDR_readNext.cls ≠ "java/lang/invoke/VarHandle" ∧ (parseMethodDescriptor y_RDR_readNext.desc).map (fun d => d.parameters.length) = some 0 := by decide +kernel
abbrev ws_RDR_readNext : List Cond := Cond.code y_RDR_readNext b_RDR_readNext 1 none :: GW
abbrev b_RDR_end : ByteArray := prog_12_method_4_code
def y_RDR_end : MethodName := ⟨R_RDR, "end", "()V"⟩
theorem hd_RDR_end : y_RDR_end.cls ≠ "java/lang/invoke/MethodHandle" ∧ y_RDR_end.cls ≠ "java/lang/invoke/VarHandle" ∧ (parseMethodDescriptor y_RDR_end.desc).map (fun d => d.parameters.length) = some 0 := by decide +kernel
abbrev ws_RDR_end : List Cond := Cond.code y_RDR_end b_RDR_end 1 none :: GW
abbrev b_PAT_clear : ByteArray := prog_9_method_2_code
def y_PAT_clear : MethodName := ⟨R_PAT, "clear", "()V"⟩
theorem hd_PAT_clear : y_PAT_clear.cls ≠ "java/lang/invoke/MethodHandle" ∧ y_PAT_clear.cls ≠ "java/lang/invoke/VarHandle" ∧ (parseMethodDescriptor y_PAT_clear.desc).map (fun d => d.parameters.length) = some 0 := by decide +kernel
abbrev ws_PAT_clear : List Cond := Cond.code y_PAT_clear b_PAT_clear 1 none :: GW
abbrev b_PN_read : ByteArray := prog_1_method_3_code
def y_PN_read : MethodName := ⟨R_PN, "read", "(I)I"⟩
theorem hd_PN_read : y_PN_read.cls ≠ "java/lang/invoke/MethodHandle" ∧ y_PN_read.cls ≠ "java/lang/invoke/VarHandle" ∧ (parseMethodDescriptor y_PN_read.desc).map (fun d => d.parameters.length) = some 1 := by decide +kernel
abbrev ws_PN_read : List Cond := Cond.code y_PN_read b_PN_read 3 (some .int) :: GW
abbrev b_PN_fault : ByteArray := prog_1_method_4_code
def y_PN_fault : MethodName := ⟨R_PN, "fault", "(I)I"⟩
theorem hd_PN_fault : y_PN_fault.cls ≠ "java/lang/invoke/MethodHandle" ∧ y_PN_fault.cls ≠ "java/lang/invoke/VarHandle" ∧ (parseMethodDescriptor y_PN_fault.desc).map (fun d => d.parameters.length) = some 1 := by decide +kernel
abbrev ws_PN_fault : List Cond := Cond.code y_PN_fault b_PN_fault 2 (some .int) :: GW
abbrev b_PN_count : ByteArray := prog_1_method_5_code
def y_PN_count : MethodName := ⟨R_PN, "count", "(I)I"⟩
theorem hd_PN_count : y_PN_count.cls ≠ "java/lang/invoke/MethodHandle" ∧ y_PN_count.cls ≠ "java/lang/invoke/VarHandle" ∧ (parseMethodDescriptor y_PN_count.desc).map (fun d => d.parameters.length) = some 1 := by decide +kernel
abbrev ws_PN_count : List Cond := Cond.code y_PN_count b_PN_count 2 (some .int) :: GW
abbrev b_TRE_told : ByteArray := prog_11_method_7_code
def y_TRE_told : MethodName := ⟨R_TRE, "told", "(II)I"⟩
theorem hd_TRE_told : y_TRE_told.cls ≠ "java/lang/invoke/MethodHandle" ∧ y_TRE_told.cls ≠ "java/lang/invoke/VarHandle" ∧ (parseMethodDescriptor y_TRE_told.desc).map (fun d => d.parameters.length) = some 2 := by decide +kernel
abbrev ws_TRE_told : List Cond := Cond.code y_TRE_told b_TRE_told 3 (some .int) :: GW
abbrev b_PN_node : ByteArray := prog_1_method_6_code
def y_PN_node : MethodName := ⟨R_PN, "node", "(II)I"⟩
theorem hd_PN_node : y_PN_node.cls ≠ "java/lang/invoke/MethodHandle" ∧ y_PN_node.cls ≠ "java/lang/invoke/VarHandle" ∧ (parseMethodDescriptor y_PN_node.desc).map (fun d => d.parameters.length) = some 2 := by decide +kernel
abbrev ws_PN_node : List Cond := Cond.code y_PN_node b_PN_node 3 (some .int) :: GW
abbrev b_TRE_rangeEdge : ByteArray := prog_11_method_8_code
def y_TRE_rangeEdge : MethodName := ⟨R_TRE, "rangeEdge", "(III)I"⟩
theorem hd_TRE_rangeEdge : y_TRE_rangeEdge.cls ≠ "java/lang/invoke/MethodHandle" ∧ y_TRE_rangeEdge.cls ≠ "java/lang/invoke/VarHandle" ∧ (parseMethodDescriptor y_TRE_rangeEdge.desc).map (fun d => d.parameters.length) = some 3 := by decide +kernel
abbrev ws_TRE_rangeEdge : List Cond := Cond.code y_TRE_rangeEdge b_TRE_rangeEdge 4 (some .int) :: GW
abbrev b_PN_range : ByteArray := prog_1_method_7_code
def y_PN_range : MethodName := ⟨R_PN, "range", "(III)I"⟩
theorem hd_PN_range : y_PN_range.cls ≠ "java/lang/invoke/MethodHandle" ∧ y_PN_range.cls ≠ "java/lang/invoke/VarHandle" ∧ (parseMethodDescriptor y_PN_range.desc).map (fun d => d.parameters.length) = some 3 := by decide +kernel
abbrev ws_PN_range : List Cond := Cond.code y_PN_range b_PN_range 4 (some .int) :: GW
abbrev b_GRP_nameByte : ByteArray := prog_6_method_7_code
def y_GRP_nameByte : MethodName := ⟨R_GRP, "nameByte", "(II)I"⟩
theorem hd_GRP_nameByte : y_GRP_nameByte.cls ≠ "java/lang/invoke/MethodHandle" ∧ y_GRP_nameByte.cls ≠ "java/lang/invoke/VarHandle" ∧ (parseMethodDescriptor y_GRP_nameByte.desc).map (fun d => d.parameters.length) = some 2 := by decide +kernel
abbrev ws_GRP_nameByte : List Cond := Cond.code y_GRP_nameByte b_GRP_nameByte 3 (some .int) :: GW
abbrev b_PN_name : ByteArray := prog_1_method_8_code
def y_PN_name : MethodName := ⟨R_PN, "name", "(II)I"⟩
theorem hd_PN_name : y_PN_name.cls ≠ "java/lang/invoke/MethodHandle" ∧ y_PN_name.cls ≠ "java/lang/invoke/VarHandle" ∧ (parseMethodDescriptor y_PN_name.desc).map (fun d => d.parameters.length) = some 2 := by decide +kernel
abbrev ws_PN_name : List Cond := Cond.code y_PN_name b_PN_name 3 (some .int) :: GW
abbrev b_MOD_put : ByteArray := prog_14_method_3_code
def y_MOD_put : MethodName := ⟨R_MOD, "put", "(JI)Z"⟩
theorem hd_MOD_put : y_MOD_put.cls ≠ "java/lang/invoke/MethodHandle" ∧ y_MOD_put.cls ≠ "java/lang/invoke/VarHandle" ∧ (parseMethodDescriptor y_MOD_put.desc).map (fun d => d.parameters.length) = some 2 := by decide +kernel
abbrev ws_MOD_put : List Cond := Cond.code y_MOD_put b_MOD_put 5 (some .boolean) :: GW
abbrev b_MOD_empty : ByteArray := prog_14_method_4_code
def y_MOD_empty : MethodName := ⟨R_MOD, "empty", "(I)V"⟩
theorem hd_MOD_empty : y_MOD_empty.cls ≠ "java/lang/invoke/MethodHandle" ∧ y_MOD_empty.cls ≠ "java/lang/invoke/VarHandle" ∧ (parseMethodDescriptor y_MOD_empty.desc).map (fun d => d.parameters.length) = some 1 := by decide +kernel
abbrev ws_MOD_empty : List Cond := Cond.code y_MOD_empty b_MOD_empty 2 none :: GW
abbrev b_MOD_add : ByteArray := prog_14_method_5_code
def y_MOD_add : MethodName := ⟨R_MOD, "add", "(III)V"⟩
theorem hd_MOD_add : y_MOD_add.cls ≠ "java/lang/invoke/MethodHandle" ∧ y_MOD_add.cls ≠ "java/lang/invoke/VarHandle" ∧ (parseMethodDescriptor y_MOD_add.desc).map (fun d => d.parameters.length) = some 3 := by decide +kernel
abbrev ws_MOD_add : List Cond := Cond.code y_MOD_add b_MOD_add 11 none :: GW
abbrev b_MOD_has : ByteArray := prog_14_method_6_code
def y_MOD_has : MethodName := ⟨R_MOD, "has", "(III)Z"⟩
theorem hd_MOD_has : y_MOD_has.cls ≠ "java/lang/invoke/MethodHandle" ∧ y_MOD_has.cls ≠ "java/lang/invoke/VarHandle" ∧ (parseMethodDescriptor y_MOD_has.desc).map (fun d => d.parameters.length) = some 3 := by decide +kernel
abbrev ws_MOD_has : List Cond := Cond.code y_MOD_has b_MOD_has 6 (some .boolean) :: GW
abbrev b_MOD_give : ByteArray := prog_14_method_7_code
def y_MOD_give : MethodName := ⟨R_MOD, "give", "(Z)V"⟩
theorem hd_MOD_give : y_MOD_give.cls ≠ "java/lang/invoke/MethodHandle" ∧ y_MOD_give.cls ≠ "java/lang/invoke/VarHandle" ∧ (parseMethodDescriptor y_MOD_give.desc).map (fun d => d.parameters.length) = some 1 := by decide +kernel
abbrev ws_MOD_give : List Cond := Cond.code y_MOD_give b_MOD_give 6 none :: GW
abbrev b_MOD_negate : ByteArray := prog_14_method_8_code
def y_MOD_negate : MethodName := ⟨R_MOD, "negate", "()V"⟩
theorem hd_MOD_negate : y_MOD_negate.cls ≠ "java/lang/invoke/MethodHandle" ∧ y_MOD_negate.cls ≠ "java/lang/invoke/VarHandle" ∧ (parseMethodDescriptor y_MOD_negate.desc).map (fun d => d.parameters.length) = some 0 := by decide +kernel
abbrev ws_MOD_negate : List Cond := Cond.code y_MOD_negate b_MOD_negate 2 none :: GW
abbrev b_MOD_shift : ByteArray := prog_14_method_9_code
def y_MOD_shift : MethodName := ⟨R_MOD, "shift", "(III)Z"⟩
theorem hd_MOD_shift : y_MOD_shift.cls ≠ "java/lang/invoke/MethodHandle" ∧ y_MOD_shift.cls ≠ "java/lang/invoke/VarHandle" ∧ (parseMethodDescriptor y_MOD_shift.desc).map (fun d => d.parameters.length) = some 3 := by decide +kernel
abbrev ws_MOD_shift : List Cond := Cond.code y_MOD_shift b_MOD_shift 7 (some .boolean) :: GW
abbrev b_MOD_take : ByteArray := prog_14_method_10_code
def y_MOD_take : MethodName := ⟨R_MOD, "take", "(II)V"⟩
theorem hd_MOD_take : y_MOD_take.cls ≠ "java/lang/invoke/MethodHandle" ∧ y_MOD_take.cls ≠ "java/lang/invoke/VarHandle" ∧ (parseMethodDescriptor y_MOD_take.desc).map (fun d => d.parameters.length) = some 2 := by decide +kernel
abbrev ws_MOD_take : List Cond := Cond.code y_MOD_take b_MOD_take 5 none :: GW
abbrev b_MOD_keepRange : ByteArray := prog_14_method_13_code
def y_MOD_keepRange : MethodName := ⟨R_MOD, "keepRange", "(II)V"⟩
theorem hd_MOD_keepRange : y_MOD_keepRange.cls ≠ "java/lang/invoke/MethodHandle" ∧ y_MOD_keepRange.cls ≠ "java/lang/invoke/VarHandle" ∧ (parseMethodDescriptor y_MOD_keepRange.desc).map (fun d => d.parameters.length) = some 2 := by decide +kernel
abbrev ws_MOD_keepRange : List Cond := Cond.code y_MOD_keepRange b_MOD_keepRange 3 none :: GW
abbrev b_MOD_keep : ByteArray := prog_14_method_12_code
def y_MOD_keep : MethodName := ⟨R_MOD, "keep", "()I"⟩
theorem hd_MOD_keep : y_MOD_keep.cls ≠ "java/lang/invoke/MethodHandle" ∧ y_MOD_keep.cls ≠ "java/lang/invoke/VarHandle" ∧ (parseMethodDescriptor y_MOD_keep.desc).map (fun d => d.parameters.length) = some 0 := by decide +kernel
abbrev ws_MOD_keep : List Cond := Cond.code y_MOD_keep b_MOD_keep 3 (some .int) :: GW
abbrev b_MOD_atMost : ByteArray := prog_14_method_14_code
def y_MOD_atMost : MethodName := ⟨R_MOD, "atMost", "(J)I"⟩
theorem hd_MOD_atMost : y_MOD_atMost.cls ≠ "java/lang/invoke/MethodHandle" ∧ y_MOD_atMost.cls ≠ "java/lang/invoke/VarHandle" ∧ (parseMethodDescriptor y_MOD_atMost.desc).map (fun d => d.parameters.length) = some 1 := by decide +kernel
abbrev ws_MOD_atMost : List Cond := Cond.code y_MOD_atMost b_MOD_atMost 2 (some .int) :: GW
abbrev b_MOD_sizeOf : ByteArray := prog_14_method_16_code
def y_MOD_sizeOf : MethodName := ⟨R_MOD, "sizeOf", "(IIIJ)J"⟩
theorem hd_MOD_sizeOf : y_MOD_sizeOf.cls ≠ "java/lang/invoke/MethodHandle" ∧ y_MOD_sizeOf.cls ≠ "java/lang/invoke/VarHandle" ∧ (parseMethodDescriptor y_MOD_sizeOf.desc).map (fun d => d.parameters.length) = some 4 := by decide +kernel
abbrev ws_MOD_sizeOf : List Cond := Cond.code y_MOD_sizeOf b_MOD_sizeOf 5 (some .long) :: GW
abbrev b_MOD_make : ByteArray := prog_14_method_15_code
def y_MOD_make : MethodName := ⟨R_MOD, "make", "(IIII)V"⟩
theorem hd_MOD_make : y_MOD_make.cls ≠ "java/lang/invoke/MethodHandle" ∧ y_MOD_make.cls ≠ "java/lang/invoke/VarHandle" ∧ (parseMethodDescriptor y_MOD_make.desc).map (fun d => d.parameters.length) = some 4 := by decide +kernel
abbrev ws_MOD_make : List Cond := Cond.code y_MOD_make b_MOD_make 9 none :: GW
abbrev b_MOD_part : ByteArray := prog_14_method_17_code
def y_MOD_part : MethodName := ⟨R_MOD, "part", "()V"⟩
theorem hd_MOD_part : y_MOD_part.cls ≠ "java/lang/invoke/MethodHandle" ∧ y_MOD_part.cls ≠ "java/lang/invoke/VarHandle" ∧ (parseMethodDescriptor y_MOD_part.desc).map (fun d => d.parameters.length) = some 0 := by decide +kernel
abbrev ws_MOD_part : List Cond := Cond.code y_MOD_part b_MOD_part 1 none :: GW
abbrev b_MOD_classNode : ByteArray := prog_14_method_18_code
def y_MOD_classNode : MethodName := ⟨R_MOD, "classNode", "()V"⟩
theorem hd_MOD_classNode : y_MOD_classNode.cls ≠ "java/lang/invoke/MethodHandle" ∧ y_MOD_classNode.cls ≠ "java/lang/invoke/VarHandle" ∧ (parseMethodDescriptor y_MOD_classNode.desc).map (fun d => d.parameters.length) = some 0 := by decide +kernel
abbrev ws_MOD_classNode : List Cond := Cond.code y_MOD_classNode b_MOD_classNode 3 none :: GW
abbrev b_MOD_character : ByteArray := prog_14_method_19_code
def y_MOD_character : MethodName := ⟨R_MOD, "character", "(I)V"⟩
theorem hd_MOD_character : y_MOD_character.cls ≠ "java/lang/invoke/MethodHandle" ∧ y_MOD_character.cls ≠ "java/lang/invoke/VarHandle" ∧ (parseMethodDescriptor y_MOD_character.desc).map (fun d => d.parameters.length) = some 1 := by decide +kernel
abbrev ws_MOD_character : List Cond := Cond.code y_MOD_character b_MOD_character 2 none :: GW
abbrev b_MOD_assertion : ByteArray := prog_14_method_20_code
def y_MOD_assertion : MethodName := ⟨R_MOD, "assertion", "(I)V"⟩
theorem hd_MOD_assertion : y_MOD_assertion.cls ≠ "java/lang/invoke/MethodHandle" ∧ y_MOD_assertion.cls ≠ "java/lang/invoke/VarHandle" ∧ (parseMethodDescriptor y_MOD_assertion.desc).map (fun d => d.parameters.length) = some 1 := by decide +kernel
abbrev ws_MOD_assertion : List Cond := Cond.code y_MOD_assertion b_MOD_assertion 2 none :: GW
abbrev b_MOD_endRow : ByteArray := prog_14_method_21_code
def y_MOD_endRow : MethodName := ⟨R_MOD, "endRow", "()V"⟩
theorem hd_MOD_endRow : y_MOD_endRow.cls ≠ "java/lang/invoke/MethodHandle" ∧ y_MOD_endRow.cls ≠ "java/lang/invoke/VarHandle" ∧ (parseMethodDescriptor y_MOD_endRow.desc).map (fun d => d.parameters.length) = some 0 := by decide +kernel
abbrev ws_MOD_endRow : List Cond := Cond.code y_MOD_endRow b_MOD_endRow 1 none :: GW
abbrev b_MOD_endAlternatives : ByteArray := prog_14_method_22_code
def y_MOD_endAlternatives : MethodName := ⟨R_MOD, "endAlternatives", "()V"⟩
theorem hd_MOD_endAlternatives : y_MOD_endAlternatives.cls ≠ "java/lang/invoke/MethodHandle" ∧ y_MOD_endAlternatives.cls ≠ "java/lang/invoke/VarHandle" ∧ (parseMethodDescriptor y_MOD_endAlternatives.desc).map (fun d => d.parameters.length) = some 0 := by decide +kernel
abbrev ws_MOD_endAlternatives : List Cond := Cond.code y_MOD_endAlternatives b_MOD_endAlternatives 1 none :: GW
abbrev b_MOD_fail : ByteArray := prog_14_method_23_code
def y_MOD_fail : MethodName := ⟨R_MOD, "fail", "(II)V"⟩
theorem hd_MOD_fail : y_MOD_fail.cls ≠ "java/lang/invoke/MethodHandle" ∧ y_MOD_fail.cls ≠ "java/lang/invoke/VarHandle" ∧ (parseMethodDescriptor y_MOD_fail.desc).map (fun d => d.parameters.length) = some 2 := by decide +kernel
abbrev ws_MOD_fail : List Cond := Cond.code y_MOD_fail b_MOD_fail 3 none :: GW
abbrev b_MOD_byteAt : ByteArray := prog_14_method_24_code
def y_MOD_byteAt : MethodName := ⟨R_MOD, "byteAt", "(I)I"⟩
theorem hd_MOD_byteAt : y_MOD_byteAt.cls ≠ "java/lang/invoke/MethodHandle" ∧ y_MOD_byteAt.cls ≠ "java/lang/invoke/VarHandle" ∧ (parseMethodDescriptor y_MOD_byteAt.desc).map (fun d => d.parameters.length) = some 1 := by decide +kernel
abbrev ws_MOD_byteAt : List Cond := Cond.code y_MOD_byteAt b_MOD_byteAt 2 (some .int) :: GW
abbrev b_MOD_isLetter : ByteArray := prog_14_method_25_code
def y_MOD_isLetter : MethodName := ⟨R_MOD, "isLetter", "(I)Z"⟩
theorem hd_MOD_isLetter : y_MOD_isLetter.cls ≠ "java/lang/invoke/MethodHandle" ∧ y_MOD_isLetter.cls ≠ "java/lang/invoke/VarHandle" ∧ (parseMethodDescriptor y_MOD_isLetter.desc).map (fun d => d.parameters.length) = some 1 := by decide +kernel
abbrev ws_MOD_isLetter : List Cond := Cond.code y_MOD_isLetter b_MOD_isLetter 1 (some .boolean) :: GW
abbrev b_MOD_isDigit : ByteArray := prog_14_method_26_code
def y_MOD_isDigit : MethodName := ⟨R_MOD, "isDigit", "(I)Z"⟩
theorem hd_MOD_isDigit : y_MOD_isDigit.cls ≠ "java/lang/invoke/MethodHandle" ∧ y_MOD_isDigit.cls ≠ "java/lang/invoke/VarHandle" ∧ (parseMethodDescriptor y_MOD_isDigit.desc).map (fun d => d.parameters.length) = some 1 := by decide +kernel
abbrev ws_MOD_isDigit : List Cond := Cond.code y_MOD_isDigit b_MOD_isDigit 1 (some .boolean) :: GW
abbrev b_MOD_hexadecimal : ByteArray := prog_14_method_27_code
def y_MOD_hexadecimal : MethodName := ⟨R_MOD, "hexadecimal", "(I)I"⟩
theorem hd_MOD_hexadecimal : y_MOD_hexadecimal.cls ≠ "java/lang/invoke/MethodHandle" ∧ y_MOD_hexadecimal.cls ≠ "java/lang/invoke/VarHandle" ∧ (parseMethodDescriptor y_MOD_hexadecimal.desc).map (fun d => d.parameters.length) = some 1 := by decide +kernel
abbrev ws_MOD_hexadecimal : List Cond := Cond.code y_MOD_hexadecimal b_MOD_hexadecimal 1 (some .int) :: GW
abbrev b_MOD_isMore : ByteArray := prog_14_method_28_code
def y_MOD_isMore : MethodName := ⟨R_MOD, "isMore", "(I)Z"⟩
theorem hd_MOD_isMore : y_MOD_isMore.cls ≠ "java/lang/invoke/MethodHandle" ∧ y_MOD_isMore.cls ≠ "java/lang/invoke/VarHandle" ∧ (parseMethodDescriptor y_MOD_isMore.desc).map (fun d => d.parameters.length) = some 1 := by decide +kernel
abbrev ws_MOD_isMore : List Cond := Cond.code y_MOD_isMore b_MOD_isMore 2 (some .boolean) :: GW
abbrev b_MOD_isCharacter : ByteArray := prog_14_method_29_code
def y_MOD_isCharacter : MethodName := ⟨R_MOD, "isCharacter", "(I)Z"⟩
theorem hd_MOD_isCharacter : y_MOD_isCharacter.cls ≠ "java/lang/invoke/MethodHandle" ∧ y_MOD_isCharacter.cls ≠ "java/lang/invoke/VarHandle" ∧ (parseMethodDescriptor y_MOD_isCharacter.desc).map (fun d => d.parameters.length) = some 1 := by decide +kernel
abbrev ws_MOD_isCharacter : List Cond := Cond.code y_MOD_isCharacter b_MOD_isCharacter 1 (some .boolean) :: GW
abbrev b_MOD_characterAt : ByteArray := prog_14_method_30_code
def y_MOD_characterAt : MethodName := ⟨R_MOD, "characterAt", "(I)I"⟩
theorem hd_MOD_characterAt : y_MOD_characterAt.cls ≠ "java/lang/invoke/MethodHandle" ∧ y_MOD_characterAt.cls ≠ "java/lang/invoke/VarHandle" ∧ (parseMethodDescriptor y_MOD_characterAt.desc).map (fun d => d.parameters.length) = some 1 := by decide +kernel
abbrev ws_MOD_characterAt : List Cond := Cond.code y_MOD_characterAt b_MOD_characterAt 6 (some .int) :: GW
abbrev b_MOD_hexadecimalAt : ByteArray := prog_14_method_32_code
def y_MOD_hexadecimalAt : MethodName := ⟨R_MOD, "hexadecimalAt", "(I)I"⟩
theorem hd_MOD_hexadecimalAt : y_MOD_hexadecimalAt.cls ≠ "java/lang/invoke/MethodHandle" ∧ y_MOD_hexadecimalAt.cls ≠ "java/lang/invoke/VarHandle" ∧ (parseMethodDescriptor y_MOD_hexadecimalAt.desc).map (fun d => d.parameters.length) = some 1 := by decide +kernel
abbrev ws_MOD_hexadecimalAt : List Cond := Cond.code y_MOD_hexadecimalAt b_MOD_hexadecimalAt 8 (some .int) :: GW
abbrev b_MOD_escaped : ByteArray := prog_14_method_31_code
def y_MOD_escaped : MethodName := ⟨R_MOD, "escaped", "(I)I"⟩
theorem hd_MOD_escaped : y_MOD_escaped.cls ≠ "java/lang/invoke/MethodHandle" ∧ y_MOD_escaped.cls ≠ "java/lang/invoke/VarHandle" ∧ (parseMethodDescriptor y_MOD_escaped.desc).map (fun d => d.parameters.length) = some 1 := by decide +kernel
abbrev ws_MOD_escaped : List Cond := Cond.code y_MOD_escaped b_MOD_escaped 3 (some .int) :: GW
abbrev b_MOD_fill : ByteArray := prog_14_method_11_code
def y_MOD_fill : MethodName := ⟨R_MOD, "fill", "([III)V"⟩
theorem hd_MOD_fill : y_MOD_fill.cls ≠ "java/lang/invoke/MethodHandle" ∧ y_MOD_fill.cls ≠ "java/lang/invoke/VarHandle" ∧ (parseMethodDescriptor y_MOD_fill.desc).map (fun d => d.parameters.length) = some 3 := by decide +kernel
abbrev ws_MOD_fill : List Cond := Cond.code y_MOD_fill b_MOD_fill 5 none :: GW
abbrev b_MOD_largeAt : ByteArray := prog_14_method_34_code
def y_MOD_largeAt : MethodName := ⟨R_MOD, "largeAt", "(I)I"⟩
theorem hd_MOD_largeAt : y_MOD_largeAt.cls ≠ "java/lang/invoke/MethodHandle" ∧ y_MOD_largeAt.cls ≠ "java/lang/invoke/VarHandle" ∧ (parseMethodDescriptor y_MOD_largeAt.desc).map (fun d => d.parameters.length) = some 1 := by decide +kernel
abbrev ws_MOD_largeAt : List Cond := Cond.code y_MOD_largeAt b_MOD_largeAt 3 (some .int) :: GW
abbrev b_MOD_setAt : ByteArray := prog_14_method_33_code
def y_MOD_setAt : MethodName := ⟨R_MOD, "setAt", "(I)I"⟩
theorem hd_MOD_setAt : y_MOD_setAt.cls ≠ "java/lang/invoke/MethodHandle" ∧ y_MOD_setAt.cls ≠ "java/lang/invoke/VarHandle" ∧ (parseMethodDescriptor y_MOD_setAt.desc).map (fun d => d.parameters.length) = some 1 := by decide +kernel
abbrev ws_MOD_setAt : List Cond := Cond.code y_MOD_setAt b_MOD_setAt 4 (some .int) :: GW
abbrev b_MOD_escapeOfCharacters : ByteArray := prog_14_method_36_code
def y_MOD_escapeOfCharacters : MethodName := ⟨R_MOD, "escapeOfCharacters", "(I)V"⟩
theorem hd_MOD_escapeOfCharacters : y_MOD_escapeOfCharacters.cls ≠ "java/lang/invoke/MethodHandle" ∧ y_MOD_escapeOfCharacters.cls ≠ "java/lang/invoke/VarHandle" ∧ (parseMethodDescriptor y_MOD_escapeOfCharacters.desc).map (fun d => d.parameters.length) = some 1 := by decide +kernel
abbrev ws_MOD_escapeOfCharacters : List Cond := Cond.code y_MOD_escapeOfCharacters b_MOD_escapeOfCharacters 4 none :: GW
abbrev b_MOD_escape : ByteArray := prog_14_method_35_code
def y_MOD_escape : MethodName := ⟨R_MOD, "escape", "()V"⟩
theorem hd_MOD_escape : y_MOD_escape.cls ≠ "java/lang/invoke/MethodHandle" ∧ y_MOD_escape.cls ≠ "java/lang/invoke/VarHandle" ∧ (parseMethodDescriptor y_MOD_escape.desc).map (fun d => d.parameters.length) = some 0 := by decide +kernel
abbrev ws_MOD_escape : List Cond := Cond.code y_MOD_escape b_MOD_escape 3 none :: GW
abbrev b_MOD_isWord : ByteArray := prog_14_method_37_code
def y_MOD_isWord : MethodName := ⟨R_MOD, "isWord", "(IIIIII)Z"⟩
theorem hd_MOD_isWord : y_MOD_isWord.cls ≠ "java/lang/invoke/MethodHandle" ∧ y_MOD_isWord.cls ≠ "java/lang/invoke/VarHandle" ∧ (parseMethodDescriptor y_MOD_isWord.desc).map (fun d => d.parameters.length) = some 6 := by decide +kernel
abbrev ws_MOD_isWord : List Cond := Cond.code y_MOD_isWord b_MOD_isWord 7 (some .boolean) :: GW
abbrev b_MOD_isName : ByteArray := prog_14_method_38_code
def y_MOD_isName : MethodName := ⟨R_MOD, "isName", "(I)Z"⟩
theorem hd_MOD_isName : y_MOD_isName.cls ≠ "java/lang/invoke/MethodHandle" ∧ y_MOD_isName.cls ≠ "java/lang/invoke/VarHandle" ∧ (parseMethodDescriptor y_MOD_isName.desc).map (fun d => d.parameters.length) = some 1 := by decide +kernel
abbrev ws_MOD_isName : List Cond := Cond.code y_MOD_isName b_MOD_isName 3 (some .boolean) :: GW
abbrev b_MOD_end : ByteArray := prog_14_method_41_code
def y_MOD_end : MethodName := ⟨R_MOD, "end", "(I)I"⟩
theorem hd_MOD_end : y_MOD_end.cls ≠ "java/lang/invoke/MethodHandle" ∧ y_MOD_end.cls ≠ "java/lang/invoke/VarHandle" ∧ (parseMethodDescriptor y_MOD_end.desc).map (fun d => d.parameters.length) = some 1 := by decide +kernel
abbrev ws_MOD_end : List Cond := Cond.code y_MOD_end b_MOD_end 3 (some .int) :: GW
abbrev b_MOD_rangeFrom : ByteArray := prog_14_method_42_code
def y_MOD_rangeFrom : MethodName := ⟨R_MOD, "rangeFrom", "(II)V"⟩
theorem hd_MOD_rangeFrom : y_MOD_rangeFrom.cls ≠ "java/lang/invoke/MethodHandle" ∧ y_MOD_rangeFrom.cls ≠ "java/lang/invoke/VarHandle" ∧ (parseMethodDescriptor y_MOD_rangeFrom.desc).map (fun d => d.parameters.length) = some 2 := by decide +kernel
abbrev ws_MOD_rangeFrom : List Cond := Cond.code y_MOD_rangeFrom b_MOD_rangeFrom 6 none :: GW
abbrev b_MOD_item : ByteArray := prog_14_method_40_code
def y_MOD_item : MethodName := ⟨R_MOD, "item", "()V"⟩
theorem hd_MOD_item : y_MOD_item.cls ≠ "java/lang/invoke/MethodHandle" ∧ y_MOD_item.cls ≠ "java/lang/invoke/VarHandle" ∧ (parseMethodDescriptor y_MOD_item.desc).map (fun d => d.parameters.length) = some 0 := by decide +kernel
abbrev ws_MOD_item : List Cond := Cond.code y_MOD_item b_MOD_item 5 none :: GW
abbrev b_MOD_readClass : ByteArray := prog_14_method_39_code
def y_MOD_readClass : MethodName := ⟨R_MOD, "readClass", "()V"⟩
theorem hd_MOD_readClass : y_MOD_readClass.cls ≠ "java/lang/invoke/MethodHandle" ∧ y_MOD_readClass.cls ≠ "java/lang/invoke/VarHandle" ∧ (parseMethodDescriptor y_MOD_readClass.desc).map (fun d => d.parameters.length) = some 0 := by decide +kernel
abbrev ws_MOD_readClass : List Cond := Cond.code y_MOD_readClass b_MOD_readClass 4 none :: GW
abbrev b_MOD_isRepeat : ByteArray := prog_14_method_43_code
def y_MOD_isRepeat : MethodName := ⟨R_MOD, "isRepeat", "(I)Z"⟩
theorem hd_MOD_isRepeat : y_MOD_isRepeat.cls ≠ "java/lang/invoke/MethodHandle" ∧ y_MOD_isRepeat.cls ≠ "java/lang/invoke/VarHandle" ∧ (parseMethodDescriptor y_MOD_isRepeat.desc).map (fun d => d.parameters.length) = some 1 := by decide +kernel
abbrev ws_MOD_isRepeat : List Cond := Cond.code y_MOD_isRepeat b_MOD_isRepeat 5 (some .boolean) :: GW
abbrev b_MOD_repeat : ByteArray := prog_14_method_44_code
def y_MOD_repeat : MethodName := ⟨R_MOD, "repeat", "(I)V"⟩
theorem hd_MOD_repeat : y_MOD_repeat.cls ≠ "java/lang/invoke/MethodHandle" ∧ y_MOD_repeat.cls ≠ "java/lang/invoke/VarHandle" ∧ (parseMethodDescriptor y_MOD_repeat.desc).map (fun d => d.parameters.length) = some 1 := by decide +kernel
abbrev ws_MOD_repeat : List Cond := Cond.code y_MOD_repeat b_MOD_repeat 3 none :: GW
abbrev b_MOD_isNamed : ByteArray := prog_14_method_48_code
def y_MOD_isNamed : MethodName := ⟨R_MOD, "isNamed", "(III)Z"⟩
theorem hd_MOD_isNamed : y_MOD_isNamed.cls ≠ "java/lang/invoke/MethodHandle" ∧ y_MOD_isNamed.cls ≠ "java/lang/invoke/VarHandle" ∧ (parseMethodDescriptor y_MOD_isNamed.desc).map (fun d => d.parameters.length) = some 3 := by decide +kernel
abbrev ws_MOD_isNamed : List Cond := Cond.code y_MOD_isNamed b_MOD_isNamed 6 (some .boolean) :: GW
abbrev b_MOD_enter : ByteArray := prog_14_method_46_code
def y_MOD_enter : MethodName := ⟨R_MOD, "enter", "(IZ)V"⟩
theorem hd_MOD_enter : y_MOD_enter.cls ≠ "java/lang/invoke/MethodHandle" ∧ y_MOD_enter.cls ≠ "java/lang/invoke/VarHandle" ∧ (parseMethodDescriptor y_MOD_enter.desc).map (fun d => d.parameters.length) = some 2 := by decide +kernel
abbrev ws_MOD_enter : List Cond := Cond.code y_MOD_enter b_MOD_enter 3 none :: GW
abbrev b_MOD_openNamed : ByteArray := prog_14_method_47_code
def y_MOD_openNamed : MethodName := ⟨R_MOD, "openNamed", "(I)V"⟩
theorem hd_MOD_openNamed : y_MOD_openNamed.cls ≠ "java/lang/invoke/MethodHandle" ∧ y_MOD_openNamed.cls ≠ "java/lang/invoke/VarHandle" ∧ (parseMethodDescriptor y_MOD_openNamed.desc).map (fun d => d.parameters.length) = some 1 := by decide +kernel
abbrev ws_MOD_openNamed : List Cond := Cond.code y_MOD_openNamed b_MOD_openNamed 6 none :: GW
abbrev b_MOD_flagOf : ByteArray := prog_14_method_49_code
def y_MOD_flagOf : MethodName := ⟨R_MOD, "flagOf", "(I)I"⟩
theorem hd_MOD_flagOf : y_MOD_flagOf.cls ≠ "java/lang/invoke/MethodHandle" ∧ y_MOD_flagOf.cls ≠ "java/lang/invoke/VarHandle" ∧ (parseMethodDescriptor y_MOD_flagOf.desc).map (fun d => d.parameters.length) = some 1 := by decide +kernel
abbrev ws_MOD_flagOf : List Cond := Cond.code y_MOD_flagOf b_MOD_flagOf 1 (some .int) :: GW
abbrev b_MOD_openFlagged : ByteArray := prog_14_method_50_code
def y_MOD_openFlagged : MethodName := ⟨R_MOD, "openFlagged", "(I)V"⟩
theorem hd_MOD_openFlagged : y_MOD_openFlagged.cls ≠ "java/lang/invoke/MethodHandle" ∧ y_MOD_openFlagged.cls ≠ "java/lang/invoke/VarHandle" ∧ (parseMethodDescriptor y_MOD_openFlagged.desc).map (fun d => d.parameters.length) = some 1 := by decide +kernel
abbrev ws_MOD_openFlagged : List Cond := Cond.code y_MOD_openFlagged b_MOD_openFlagged 6 none :: GW
abbrev b_MOD_open : ByteArray := prog_14_method_45_code
def y_MOD_open : MethodName := ⟨R_MOD, "open", "()V"⟩
theorem hd_MOD_open : y_MOD_open.cls ≠ "java/lang/invoke/MethodHandle" ∧ y_MOD_open.cls ≠ "java/lang/invoke/VarHandle" ∧ (parseMethodDescriptor y_MOD_open.desc).map (fun d => d.parameters.length) = some 0 := by decide +kernel
abbrev ws_MOD_open : List Cond := Cond.code y_MOD_open b_MOD_open 2 none :: GW
abbrev b_MOD_close : ByteArray := prog_14_method_51_code
def y_MOD_close : MethodName := ⟨R_MOD, "close", "()V"⟩
theorem hd_MOD_close : y_MOD_close.cls ≠ "java/lang/invoke/MethodHandle" ∧ y_MOD_close.cls ≠ "java/lang/invoke/VarHandle" ∧ (parseMethodDescriptor y_MOD_close.desc).map (fun d => d.parameters.length) = some 0 := by decide +kernel
abbrev ws_MOD_close : List Cond := Cond.code y_MOD_close b_MOD_close 1 none :: GW
abbrev b_MOD_plain : ByteArray := prog_14_method_53_code
def y_MOD_plain : MethodName := ⟨R_MOD, "plain", "(I)V"⟩
theorem hd_MOD_plain : y_MOD_plain.cls ≠ "java/lang/invoke/MethodHandle" ∧ y_MOD_plain.cls ≠ "java/lang/invoke/VarHandle" ∧ (parseMethodDescriptor y_MOD_plain.desc).map (fun d => d.parameters.length) = some 1 := by decide +kernel
abbrev ws_MOD_plain : List Cond := Cond.code y_MOD_plain b_MOD_plain 4 none :: GW
abbrev b_MOD_step : ByteArray := prog_14_method_52_code
def y_MOD_step : MethodName := ⟨R_MOD, "step", "()V"⟩
theorem hd_MOD_step : y_MOD_step.cls ≠ "java/lang/invoke/MethodHandle" ∧ y_MOD_step.cls ≠ "java/lang/invoke/VarHandle" ∧ (parseMethodDescriptor y_MOD_step.desc).map (fun d => d.parameters.length) = some 0 := by decide +kernel
abbrev ws_MOD_step : List Cond := Cond.code y_MOD_step b_MOD_step 2 none :: GW
abbrev b_MOD_read : ByteArray := prog_14_method_54_code
def y_MOD_read : MethodName := ⟨R_MOD, "read", "(I)I"⟩
theorem hd_MOD_read : y_MOD_read.cls ≠ "java/lang/invoke/MethodHandle" ∧ y_MOD_read.cls ≠ "java/lang/invoke/VarHandle" ∧ (parseMethodDescriptor y_MOD_read.desc).map (fun d => d.parameters.length) = some 1 := by decide +kernel
abbrev ws_MOD_read : List Cond := Cond.code y_MOD_read b_MOD_read 3 (some .int) :: GW
abbrev b_MOD_fault : ByteArray := prog_14_method_55_code
def y_MOD_fault : MethodName := ⟨R_MOD, "fault", "(I)I"⟩
theorem hd_MOD_fault : y_MOD_fault.cls ≠ "java/lang/invoke/MethodHandle" ∧ y_MOD_fault.cls ≠ "java/lang/invoke/VarHandle" ∧ (parseMethodDescriptor y_MOD_fault.desc).map (fun d => d.parameters.length) = some 1 := by decide +kernel
abbrev ws_MOD_fault : List Cond := Cond.code y_MOD_fault b_MOD_fault 2 (some .int) :: GW
abbrev b_MOD_count : ByteArray := prog_14_method_56_code
def y_MOD_count : MethodName := ⟨R_MOD, "count", "(I)I"⟩
theorem hd_MOD_count : y_MOD_count.cls ≠ "java/lang/invoke/MethodHandle" ∧ y_MOD_count.cls ≠ "java/lang/invoke/VarHandle" ∧ (parseMethodDescriptor y_MOD_count.desc).map (fun d => d.parameters.length) = some 1 := by decide +kernel
abbrev ws_MOD_count : List Cond := Cond.code y_MOD_count b_MOD_count 2 (some .int) :: GW
abbrev b_MOD_node : ByteArray := prog_14_method_57_code
def y_MOD_node : MethodName := ⟨R_MOD, "node", "(II)I"⟩
theorem hd_MOD_node : y_MOD_node.cls ≠ "java/lang/invoke/MethodHandle" ∧ y_MOD_node.cls ≠ "java/lang/invoke/VarHandle" ∧ (parseMethodDescriptor y_MOD_node.desc).map (fun d => d.parameters.length) = some 2 := by decide +kernel
abbrev ws_MOD_node : List Cond := Cond.code y_MOD_node b_MOD_node 3 (some .int) :: GW
abbrev b_MOD_range : ByteArray := prog_14_method_58_code
def y_MOD_range : MethodName := ⟨R_MOD, "range", "(III)I"⟩
theorem hd_MOD_range : y_MOD_range.cls ≠ "java/lang/invoke/MethodHandle" ∧ y_MOD_range.cls ≠ "java/lang/invoke/VarHandle" ∧ (parseMethodDescriptor y_MOD_range.desc).map (fun d => d.parameters.length) = some 3 := by decide +kernel
abbrev ws_MOD_range : List Cond := Cond.code y_MOD_range b_MOD_range 4 (some .int) :: GW
abbrev b_MOD_name : ByteArray := prog_14_method_59_code
def y_MOD_name : MethodName := ⟨R_MOD, "name", "(II)I"⟩
theorem hd_MOD_name : y_MOD_name.cls ≠ "java/lang/invoke/MethodHandle" ∧ y_MOD_name.cls ≠ "java/lang/invoke/VarHandle" ∧ (parseMethodDescriptor y_MOD_name.desc).map (fun d => d.parameters.length) = some 2 := by decide +kernel
abbrev ws_MOD_name : List Cond := Cond.code y_MOD_name b_MOD_name 3 (some .int) :: GW
abbrev b_PAT_init : ByteArray := prog_9_method_1_code
def y_PAT_init : MethodName := ⟨R_PAT, "<init>", "()V"⟩
theorem hd_PAT_init : y_PAT_init.cls ≠ "java/lang/invoke/MethodHandle" ∧ y_PAT_init.cls ≠ "java/lang/invoke/VarHandle" ∧ (parseMethodDescriptor y_PAT_init.desc).map (fun d => d.parameters.length) = some 0 := by decide +kernel
abbrev ws_PAT_init : List Cond := Cond.code y_PAT_init b_PAT_init 1 none :: GW
abbrev b_MIS_init : ByteArray := prog_5_method_1_code
def y_MIS_init : MethodName := ⟨R_MIS, "<init>", "()V"⟩
theorem hd_MIS_init : y_MIS_init.cls ≠ "java/lang/invoke/MethodHandle" ∧ y_MIS_init.cls ≠ "java/lang/invoke/VarHandle" ∧ (parseMethodDescriptor y_MIS_init.desc).map (fun d => d.parameters.length) = some 0 := by decide +kernel
abbrev ws_MIS_init : List Cond := Cond.code y_MIS_init b_MIS_init 1 none :: GW
abbrev b_TRE_init : ByteArray := prog_11_method_1_code
def y_TRE_init : MethodName := ⟨R_TRE, "<init>", "()V"⟩
theorem hd_TRE_init : y_TRE_init.cls ≠ "java/lang/invoke/MethodHandle" ∧ y_TRE_init.cls ≠ "java/lang/invoke/VarHandle" ∧ (parseMethodDescriptor y_TRE_init.desc).map (fun d => d.parameters.length) = some 0 := by decide +kernel
abbrev ws_TRE_init : List Cond := Cond.code y_TRE_init b_TRE_init 1 none :: GW
abbrev b_GRP_init : ByteArray := prog_6_method_1_code
def y_GRP_init : MethodName := ⟨R_GRP, "<init>", "()V"⟩
theorem hd_GRP_init : y_GRP_init.cls ≠ "java/lang/invoke/MethodHandle" ∧ y_GRP_init.cls ≠ "java/lang/invoke/VarHandle" ∧ (parseMethodDescriptor y_GRP_init.desc).map (fun d => d.parameters.length) = some 0 := by decide +kernel
abbrev ws_GRP_init : List Cond := Cond.code y_GRP_init b_GRP_init 1 none :: GW
abbrev b_OPN_init : ByteArray := prog_7_method_1_code
def y_OPN_init : MethodName := ⟨R_OPN, "<init>", "()V"⟩
theorem hd_OPN_init : y_OPN_init.cls ≠ "java/lang/invoke/MethodHandle" ∧ y_OPN_init.cls ≠ "java/lang/invoke/VarHandle" ∧ (parseMethodDescriptor y_OPN_init.desc).map (fun d => d.parameters.length) = some 0 := by decide +kernel
abbrev ws_OPN_init : List Cond := Cond.code y_OPN_init b_OPN_init 1 none :: GW
abbrev b_SET_init : ByteArray := prog_2_method_1_code
def y_SET_init : MethodName := ⟨R_SET, "<init>", "()V"⟩
theorem hd_SET_init : y_SET_init.cls ≠ "java/lang/invoke/MethodHandle" ∧ y_SET_init.cls ≠ "java/lang/invoke/VarHandle" ∧ (parseMethodDescriptor y_SET_init.desc).map (fun d => d.parameters.length) = some 0 := by decide +kernel
abbrev ws_SET_init : List Cond := Cond.code y_SET_init b_SET_init 1 none :: GW
abbrev b_ESC_init : ByteArray := prog_4_method_1_code
def y_ESC_init : MethodName := ⟨R_ESC, "<init>", "(LPatternNodes$Pattern;)V"⟩
theorem hd_ESC_init : y_ESC_init.cls ≠ "java/lang/invoke/MethodHandle" ∧ y_ESC_init.cls ≠ "java/lang/invoke/VarHandle" ∧ (parseMethodDescriptor y_ESC_init.desc).map (fun d => d.parameters.length) = some 1 := by decide +kernel
abbrev ws_ESC_init : List Cond := Cond.code y_ESC_init b_ESC_init 2 none :: GW
abbrev b_CLS_init : ByteArray := prog_3_method_1_code
def y_CLS_init : MethodName := ⟨R_CLS, "<init>", "(LPatternNodes$Pattern;LPatternNodes$Mistake;LPatternNodes$EscapeReader;LPatternNodes$CharacterSet;)V"⟩
theorem hd_CLS_init : y_CLS_init.cls ≠ "java/lang/invoke/MethodHandle" ∧ y_CLS_init.cls ≠ "java/lang/invoke/VarHandle" ∧ (parseMethodDescriptor y_CLS_init.desc).map (fun d => d.parameters.length) = some 4 := by decide +kernel
abbrev ws_CLS_init : List Cond := Cond.code y_CLS_init b_CLS_init 5 none :: GW
abbrev b_OPG_init : ByteArray := prog_8_method_1_code
def y_OPG_init : MethodName := ⟨R_OPG, "<init>", "(LPatternNodes$Pattern;)V"⟩
theorem hd_OPG_init : y_OPG_init.cls ≠ "java/lang/invoke/MethodHandle" ∧ y_OPG_init.cls ≠ "java/lang/invoke/VarHandle" ∧ (parseMethodDescriptor y_OPG_init.desc).map (fun d => d.parameters.length) = some 1 := by decide +kernel
abbrev ws_OPG_init : List Cond := Cond.code y_OPG_init b_OPG_init 2 none :: GW
abbrev b_REP_init : ByteArray := prog_10_method_1_code
def y_REP_init : MethodName := ⟨R_REP, "<init>", "(LPatternNodes$Pattern;)V"⟩
theorem hd_REP_init : y_REP_init.cls ≠ "java/lang/invoke/MethodHandle" ∧ y_REP_init.cls ≠ "java/lang/invoke/VarHandle" ∧ (parseMethodDescriptor y_REP_init.desc).map (fun d => d.parameters.length) = some 1 := by decide +kernel
abbrev ws_REP_init : List Cond := Cond.code y_REP_init b_REP_init 2 none :: GW
abbrev b_RDR_init : ByteArray := prog_12_method_1_code
def y_RDR_init : MethodName := ⟨R_RDR, "<init>", "(LPatternNodes$Pattern;LPatternNodes$Mistake;LPatternNodes$Tree;LPatternNodes$NumberedGroups;)V"⟩
theorem hd_RDR_init : y_RDR_init.cls ≠ "java/lang/invoke/MethodHandle" ∧ y_RDR_init.cls ≠ "java/lang/invoke/VarHandle" ∧ (parseMethodDescriptor y_RDR_init.desc).map (fun d => d.parameters.length) = some 4 := by decide +kernel
abbrev ws_RDR_init : List Cond := Cond.code y_RDR_init b_RDR_init 5 none :: GW
abbrev b_PN_init : ByteArray := prog_1_method_1_code
def y_PN_init : MethodName := ⟨R_PN, "<init>", "()V"⟩
theorem hd_PN_init : y_PN_init.cls ≠ "java/lang/invoke/MethodHandle" ∧ y_PN_init.cls ≠ "java/lang/invoke/VarHandle" ∧ (parseMethodDescriptor y_PN_init.desc).map (fun d => d.parameters.length) = some 0 := by decide +kernel
abbrev ws_PN_init : List Cond := Cond.code y_PN_init b_PN_init 1 none :: GW
abbrev b_MOD_init : ByteArray := prog_14_method_1_code
def y_MOD_init : MethodName := ⟨R_MOD, "<init>", "()V"⟩
theorem hd_MOD_init : y_MOD_init.cls ≠ "java/lang/invoke/MethodHandle" ∧ y_MOD_init.cls ≠ "java/lang/invoke/VarHandle" ∧ (parseMethodDescriptor y_MOD_init.desc).map (fun d => d.parameters.length) = some 0 := by decide +kernel
abbrev ws_MOD_init : List Cond := Cond.code y_MOD_init b_MOD_init 1 none :: GW
def R_STR : String := "java/lang/String"
def R_SL1 : String := "java/lang/StringLatin1"
def R_PRC : String := "jdk/internal/util/Preconditions"
abbrev b_STR_coder : ByteArray := prog_19_method_152_code
def y_STR_coder : MethodName := ⟨R_STR, "coder", "()B"⟩
theorem hd_STR_coder : y_STR_coder.cls ≠ "java/lang/invoke/MethodHandle" ∧ y_STR_coder.cls ≠ "java/lang/invoke/VarHandle" ∧ (parseMethodDescriptor y_STR_coder.desc).map (fun d => d.parameters.length) = some 0 := by decide +kernel
abbrev ws_STR_coder : List Cond := Cond.code y_STR_coder b_STR_coder 1 (some .byte) :: GW
theorem d_STR_coder_0 : decode b_STR_coder 0 = .ok (.getstatic 38, 3) := by decide +kernel
theorem d_STR_coder_3 : decode b_STR_coder 3 = .ok (.ifCond .eq 10, 3) := by decide +kernel
theorem d_STR_coder_6 : decode b_STR_coder 6 = .ok (.aload_n 0, 1) := by decide +kernel
theorem d_STR_coder_7 : decode b_STR_coder 7 = .ok (.getfield 15, 3) := by decide +kernel
theorem d_STR_coder_10 : decode b_STR_coder 10 = .ok (.goto 4, 3) := by decide +kernel
theorem d_STR_coder_14 : decode b_STR_coder 14 = .ok (.ireturn, 1) := by decide +kernel
abbrev b_STR_isLatin1 : ByteArray := prog_19_method_154_code
def y_STR_isLatin1 : MethodName := ⟨R_STR, "isLatin1", "()Z"⟩
theorem hd_STR_isLatin1 : y_STR_isLatin1.cls ≠ "java/lang/invoke/MethodHandle" ∧ y_STR_isLatin1.cls ≠ "java/lang/invoke/VarHandle" ∧ (parseMethodDescriptor y_STR_isLatin1.desc).map (fun d => d.parameters.length) = some 0 := by decide +kernel
abbrev ws_STR_isLatin1 : List Cond := Cond.code y_STR_isLatin1 b_STR_isLatin1 1 (some .boolean) :: GW
theorem d_STR_isLatin1_0 : decode b_STR_isLatin1 0 = .ok (.getstatic 38, 3) := by decide +kernel
theorem d_STR_isLatin1_3 : decode b_STR_isLatin1 3 = .ok (.ifCond .eq 14, 3) := by decide +kernel
theorem d_STR_isLatin1_6 : decode b_STR_isLatin1 6 = .ok (.aload_n 0, 1) := by decide +kernel
theorem d_STR_isLatin1_7 : decode b_STR_isLatin1 7 = .ok (.getfield 15, 3) := by decide +kernel
theorem d_STR_isLatin1_10 : decode b_STR_isLatin1 10 = .ok (.ifCond .ne 7, 3) := by decide +kernel
theorem d_STR_isLatin1_13 : decode b_STR_isLatin1 13 = .ok (.iconst 1, 1) := by decide +kernel
theorem d_STR_isLatin1_14 : decode b_STR_isLatin1 14 = .ok (.goto 4, 3) := by decide +kernel
theorem d_STR_isLatin1_18 : decode b_STR_isLatin1 18 = .ok (.ireturn, 1) := by decide +kernel
abbrev b_STR_length : ByteArray := prog_19_method_54_code
def y_STR_length : MethodName := ⟨R_STR, "length", "()I"⟩
theorem hd_STR_length : y_STR_length.cls ≠ "java/lang/invoke/MethodHandle" ∧ y_STR_length.cls ≠ "java/lang/invoke/VarHandle" ∧ (parseMethodDescriptor y_STR_length.desc).map (fun d => d.parameters.length) = some 0 := by decide +kernel
abbrev ws_STR_length : List Cond := Cond.code y_STR_length b_STR_length 1 (some .int) :: GW
theorem d_STR_length_0 : decode b_STR_length 0 = .ok (.aload_n 0, 1) := by decide +kernel
theorem d_STR_length_1 : decode b_STR_length 1 = .ok (.getfield 9, 3) := by decide +kernel
theorem d_STR_length_4 : decode b_STR_length 4 = .ok (.arraylength, 1) := by decide +kernel
theorem d_STR_length_5 : decode b_STR_length 5 = .ok (.aload_n 0, 1) := by decide +kernel
theorem d_STR_length_6 : decode b_STR_length 6 = .ok (.invokevirtual 335, 3) := by decide +kernel
theorem d_STR_length_9 : decode b_STR_length 9 = .ok (.ishr, 1) := by decide +kernel
theorem d_STR_length_10 : decode b_STR_length 10 = .ok (.ireturn, 1) := by decide +kernel
abbrev b_STR_charAt : ByteArray := prog_19_method_56_code
def y_STR_charAt : MethodName := ⟨R_STR, "charAt", "(I)C"⟩
theorem hd_STR_charAt : y_STR_charAt.cls ≠ "java/lang/invoke/MethodHandle" ∧ y_STR_charAt.cls ≠ "java/lang/invoke/VarHandle" ∧ (parseMethodDescriptor y_STR_charAt.desc).map (fun d => d.parameters.length) = some 1 := by decide +kernel
abbrev ws_STR_charAt : List Cond := Cond.code y_STR_charAt b_STR_charAt 2 (some .char) :: GW
theorem d_STR_charAt_0 : decode b_STR_charAt 0 = .ok (.aload_n 0, 1) := by decide +kernel
theorem d_STR_charAt_1 : decode b_STR_charAt 1 = .ok (.invokevirtual 492, 3) := by decide +kernel
theorem d_STR_charAt_4 : decode b_STR_charAt 4 = .ok (.ifCond .eq 12, 3) := by decide +kernel
theorem d_STR_charAt_7 : decode b_STR_charAt 7 = .ok (.aload_n 0, 1) := by decide +kernel
theorem d_STR_charAt_8 : decode b_STR_charAt 8 = .ok (.getfield 9, 3) := by decide +kernel
theorem d_STR_charAt_11 : decode b_STR_charAt 11 = .ok (.iload_n 1, 1) := by decide +kernel
theorem d_STR_charAt_12 : decode b_STR_charAt 12 = .ok (.invokestatic 495, 3) := by decide +kernel
theorem d_STR_charAt_15 : decode b_STR_charAt 15 = .ok (.ireturn, 1) := by decide +kernel
abbrev b_SL1_charAt : ByteArray := prog_20_method_2_code
def y_SL1_charAt : MethodName := ⟨R_SL1, "charAt", "([BI)C"⟩
theorem hd_SL1_charAt : y_SL1_charAt.cls ≠ "java/lang/invoke/MethodHandle" ∧ y_SL1_charAt.cls ≠ "java/lang/invoke/VarHandle" ∧ (parseMethodDescriptor y_SL1_charAt.desc).map (fun d => d.parameters.length) = some 2 := by decide +kernel
abbrev ws_SL1_charAt : List Cond := Cond.code y_SL1_charAt b_SL1_charAt 2 (some .char) :: GW
theorem d_SL1_charAt_0 : decode b_SL1_charAt 0 = .ok (.iload_n 1, 1) := by decide +kernel
theorem d_SL1_charAt_1 : decode b_SL1_charAt 1 = .ok (.aload_n 0, 1) := by decide +kernel
theorem d_SL1_charAt_2 : decode b_SL1_charAt 2 = .ok (.arraylength, 1) := by decide +kernel
theorem d_SL1_charAt_3 : decode b_SL1_charAt 3 = .ok (.invokestatic 9, 3) := by decide +kernel
theorem d_SL1_charAt_6 : decode b_SL1_charAt 6 = .ok (.aload_n 0, 1) := by decide +kernel
theorem d_SL1_charAt_7 : decode b_SL1_charAt 7 = .ok (.iload_n 1, 1) := by decide +kernel
theorem d_SL1_charAt_8 : decode b_SL1_charAt 8 = .ok (.baload, 1) := by decide +kernel
theorem d_SL1_charAt_9 : decode b_SL1_charAt 9 = .ok (.sipush 255, 3) := by decide +kernel
theorem d_SL1_charAt_12 : decode b_SL1_charAt 12 = .ok (.iand, 1) := by decide +kernel
theorem d_SL1_charAt_13 : decode b_SL1_charAt 13 = .ok (.i2c, 1) := by decide +kernel
theorem d_SL1_charAt_14 : decode b_SL1_charAt 14 = .ok (.ireturn, 1) := by decide +kernel
abbrev b_STR_checkIndex : ByteArray := prog_19_method_155_code
def y_STR_checkIndex : MethodName := ⟨R_STR, "checkIndex", "(II)V"⟩
theorem hd_STR_checkIndex : y_STR_checkIndex.cls ≠ "java/lang/invoke/MethodHandle" ∧ y_STR_checkIndex.cls ≠ "java/lang/invoke/VarHandle" ∧ (parseMethodDescriptor y_STR_checkIndex.desc).map (fun d => d.parameters.length) = some 2 := by decide +kernel
abbrev ws_STR_checkIndex : List Cond := Cond.code y_STR_checkIndex b_STR_checkIndex 2 none :: GW
theorem d_STR_checkIndex_0 : decode b_STR_checkIndex 0 = .ok (.iload_n 0, 1) := by decide +kernel
theorem d_STR_checkIndex_1 : decode b_STR_checkIndex 1 = .ok (.iload_n 1, 1) := by decide +kernel
theorem d_STR_checkIndex_2 : decode b_STR_checkIndex 2 = .ok (.getstatic 1053, 3) := by decide +kernel
theorem d_STR_checkIndex_5 : decode b_STR_checkIndex 5 = .ok (.invokestatic 1059, 3) := by decide +kernel
theorem d_STR_checkIndex_8 : decode b_STR_checkIndex 8 = .ok (.pop, 1) := by decide +kernel
theorem d_STR_checkIndex_9 : decode b_STR_checkIndex 9 = .ok (.return_, 1) := by decide +kernel
abbrev b_PRC_checkIndex : ByteArray := prog_24_method_11_code
def y_PRC_checkIndex : MethodName := ⟨R_PRC, "checkIndex", "(IILjava/util/function/BiFunction;)I"⟩
theorem hd_PRC_checkIndex : y_PRC_checkIndex.cls ≠ "java/lang/invoke/MethodHandle" ∧ y_PRC_checkIndex.cls ≠ "java/lang/invoke/VarHandle" ∧ (parseMethodDescriptor y_PRC_checkIndex.desc).map (fun d => d.parameters.length) = some 3 := by decide +kernel
abbrev ws_PRC_checkIndex : List Cond := Cond.code y_PRC_checkIndex b_PRC_checkIndex 3 (some .int) :: GW
theorem d_PRC_checkIndex_0 : decode b_PRC_checkIndex 0 = .ok (.iload_n 0, 1) := by decide +kernel
theorem d_PRC_checkIndex_1 : decode b_PRC_checkIndex 1 = .ok (.ifCond .lt 8, 3) := by decide +kernel
theorem d_PRC_checkIndex_4 : decode b_PRC_checkIndex 4 = .ok (.iload_n 0, 1) := by decide +kernel
theorem d_PRC_checkIndex_5 : decode b_PRC_checkIndex 5 = .ok (.iload_n 1, 1) := by decide +kernel
theorem d_PRC_checkIndex_6 : decode b_PRC_checkIndex 6 = .ok (.if_icmp .lt 10, 3) := by decide +kernel
theorem d_PRC_checkIndex_16 : decode b_PRC_checkIndex 16 = .ok (.iload_n 0, 1) := by decide +kernel
theorem d_PRC_checkIndex_17 : decode b_PRC_checkIndex 17 = .ok (.ireturn, 1) := by decide +kernel
