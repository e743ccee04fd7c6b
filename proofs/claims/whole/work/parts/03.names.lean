def GW : List Cond := lw_tbl.filter goodWord
def isNestW : Cond → Bool
  | .fieldLinkNest .. => true
  | .methodLinkNest .. => true
  | _ => false
def NW : List Cond := lw_tbl.filter isNestW
def R_PAT : String := "PatternNodes$Pattern"
def F_PAT : u_T := fun k => match k with
  | 0 => ("PatternNodes$Pattern", "bytes", "[I", true)
  | _ => ("PatternNodes$Pattern", "length", "I", false)
def ty_PAT : Nat → FieldType := fun k => match k with
  | 0 => .array .int
  | _ => .int
abbrev N_PAT : Nat := 2
theorem n_PAT : ∀ a, a < N_PAT → ∀ b, b < N_PAT → a ≠ b → (F_PAT a).2.1 ≠ (F_PAT b).2.1 := by decide +kernel
theorem ty_PAT_ok : ∀ k, k < N_PAT → parseFieldDescriptor (F_PAT k).2.2.1 = some (ty_PAT k) := by decide +kernel
theorem i_PAT : ∀ w ∈ u_ws R_PAT F_PAT N_PAT, w ∈ GW := by decide +kernel
theorem df_PAT : ∀ j, j < N_PAT → defaultValue (ty_PAT j) = vp_V [.null, .int 0] j := by
  intro j hj
  rcases (show j = 0 ∨ j = 1 by unfold N_PAT at hj; omega) with rfl | rfl <;> rfl
def R_MIS : String := "PatternNodes$Mistake"
def F_MIS : u_T := fun k => match k with
  | 0 => ("PatternNodes$Mistake", "number", "I", false)
  | _ => ("PatternNodes$Mistake", "place", "I", false)
def ty_MIS : Nat → FieldType := fun k => match k with
  | 0 => .int
  | _ => .int
abbrev N_MIS : Nat := 2
theorem n_MIS : ∀ a, a < N_MIS → ∀ b, b < N_MIS → a ≠ b → (F_MIS a).2.1 ≠ (F_MIS b).2.1 := by decide +kernel
theorem ty_MIS_ok : ∀ k, k < N_MIS → parseFieldDescriptor (F_MIS k).2.2.1 = some (ty_MIS k) := by decide +kernel
theorem i_MIS : ∀ w ∈ u_ws R_MIS F_MIS N_MIS, w ∈ GW := by decide +kernel
theorem df_MIS : ∀ j, j < N_MIS → defaultValue (ty_MIS j) = vp_V [.int 0, .int 0] j := by
  intro j hj
  rcases (show j = 0 ∨ j = 1 by unfold N_MIS at hj; omega) with rfl | rfl <;> rfl
def R_SET : String := "PatternNodes$CharacterSet"
def F_SET : u_T := fun k => match k with
  | 0 => ("PatternNodes$CharacterSet", "begins", "[I", true)
  | 1 => ("PatternNodes$CharacterSet", "ends", "[I", true)
  | _ => ("PatternNodes$CharacterSet", "pieces", "I", false)
def ty_SET : Nat → FieldType := fun k => match k with
  | 0 => .array .int
  | 1 => .array .int
  | _ => .int
abbrev N_SET : Nat := 3
theorem n_SET : ∀ a, a < N_SET → ∀ b, b < N_SET → a ≠ b → (F_SET a).2.1 ≠ (F_SET b).2.1 := by decide +kernel
theorem ty_SET_ok : ∀ k, k < N_SET → parseFieldDescriptor (F_SET k).2.2.1 = some (ty_SET k) := by decide +kernel
theorem i_SET : ∀ w ∈ u_ws R_SET F_SET N_SET, w ∈ GW := by decide +kernel
theorem df_SET : ∀ j, j < N_SET → defaultValue (ty_SET j) = vp_V [.null, .null, .int 0] j := by
  intro j hj
  rcases (show j = 0 ∨ j = 1 ∨ j = 2 by unfold N_SET at hj; omega) with rfl | rfl | rfl <;> rfl
def R_TRE : String := "PatternNodes$Tree"
def F_TRE : u_T := fun k => match k with
  | 0 => ("PatternNodes$Tree", "kinds", "[I", true)
  | 1 => ("PatternNodes$Tree", "values", "[I", true)
  | 2 => ("PatternNodes$Tree", "mosts", "[I", true)
  | 3 => ("PatternNodes$Tree", "owners", "[I", true)
  | 4 => ("PatternNodes$Tree", "sizes", "[I", true)
  | 5 => ("PatternNodes$Tree", "firstRanges", "[I", true)
  | 6 => ("PatternNodes$Tree", "rangeCounts", "[I", true)
  | 7 => ("PatternNodes$Tree", "begins", "[I", true)
  | 8 => ("PatternNodes$Tree", "ends", "[I", true)
  | 9 => ("PatternNodes$Tree", "waiting", "[I", true)
  | 10 => ("PatternNodes$Tree", "nodes", "I", false)
  | 11 => ("PatternNodes$Tree", "ranges", "I", false)
  | _ => ("PatternNodes$Tree", "waits", "I", false)
def ty_TRE : Nat → FieldType := fun k => match k with
  | 0 => .array .int
  | 1 => .array .int
  | 2 => .array .int
  | 3 => .array .int
  | 4 => .array .int
  | 5 => .array .int
  | 6 => .array .int
  | 7 => .array .int
  | 8 => .array .int
  | 9 => .array .int
  | 10 => .int
  | 11 => .int
  | _ => .int
abbrev N_TRE : Nat := 13
theorem n_TRE : ∀ a, a < N_TRE → ∀ b, b < N_TRE → a ≠ b → (F_TRE a).2.1 ≠ (F_TRE b).2.1 := by decide +kernel
theorem ty_TRE_ok : ∀ k, k < N_TRE → parseFieldDescriptor (F_TRE k).2.2.1 = some (ty_TRE k) := by decide +kernel
theorem i_TRE : ∀ w ∈ u_ws R_TRE F_TRE N_TRE, w ∈ GW := by decide +kernel
theorem df_TRE : ∀ j, j < N_TRE → defaultValue (ty_TRE j) = vp_V [.null, .null, .null, .null, .null, .null, .null, .null, .null, .null, .int 0, .int 0, .int 0] j := by
  intro j hj
  rcases (show j = 0 ∨ j = 1 ∨ j = 2 ∨ j = 3 ∨ j = 4 ∨ j = 5 ∨ j = 6 ∨ j = 7 ∨ j = 8 ∨ j = 9 ∨ j = 10 ∨ j = 11 ∨ j = 12 by unfold N_TRE at hj; omega) with rfl | rfl | rfl | rfl | rfl | rfl | rfl | rfl | rfl | rfl | rfl | rfl | rfl <;> rfl
def R_GRP : String := "PatternNodes$NumberedGroups"
def F_GRP : u_T := fun k => match k with
  | 0 => ("PatternNodes$NumberedGroups", "lengths", "[I", true)
  | 1 => ("PatternNodes$NumberedGroups", "letters", "[I", true)
  | _ => ("PatternNodes$NumberedGroups", "howMany", "I", false)
def ty_GRP : Nat → FieldType := fun k => match k with
  | 0 => .array .int
  | 1 => .array .int
  | _ => .int
abbrev N_GRP : Nat := 3
theorem n_GRP : ∀ a, a < N_GRP → ∀ b, b < N_GRP → a ≠ b → (F_GRP a).2.1 ≠ (F_GRP b).2.1 := by decide +kernel
theorem ty_GRP_ok : ∀ k, k < N_GRP → parseFieldDescriptor (F_GRP k).2.2.1 = some (ty_GRP k) := by decide +kernel
theorem i_GRP : ∀ w ∈ u_ws R_GRP F_GRP N_GRP, w ∈ GW := by decide +kernel
theorem df_GRP : ∀ j, j < N_GRP → defaultValue (ty_GRP j) = vp_V [.null, .null, .int 0] j := by
  intro j hj
  rcases (show j = 0 ∨ j = 1 ∨ j = 2 by unfold N_GRP at hj; omega) with rfl | rfl | rfl <;> rfl
def R_OPN : String := "PatternNodes$OpenGroups"
def F_OPN : u_T := fun k => match k with
  | 0 => ("PatternNodes$OpenGroups", "places", "[I", true)
  | 1 => ("PatternNodes$OpenGroups", "numbers", "[I", true)
  | 2 => ("PatternNodes$OpenGroups", "flagsAround", "[I", true)
  | 3 => ("PatternNodes$OpenGroups", "rows", "[I", true)
  | 4 => ("PatternNodes$OpenGroups", "parts", "[I", true)
  | _ => ("PatternNodes$OpenGroups", "depth", "I", false)
def ty_OPN : Nat → FieldType := fun k => match k with
  | 0 => .array .int
  | 1 => .array .int
  | 2 => .array .int
  | 3 => .array .int
  | 4 => .array .int
  | _ => .int
abbrev N_OPN : Nat := 6
theorem n_OPN : ∀ a, a < N_OPN → ∀ b, b < N_OPN → a ≠ b → (F_OPN a).2.1 ≠ (F_OPN b).2.1 := by decide +kernel
theorem ty_OPN_ok : ∀ k, k < N_OPN → parseFieldDescriptor (F_OPN k).2.2.1 = some (ty_OPN k) := by decide +kernel
theorem i_OPN : ∀ w ∈ u_ws R_OPN F_OPN N_OPN, w ∈ GW := by decide +kernel
theorem df_OPN : ∀ j, j < N_OPN → defaultValue (ty_OPN j) = vp_V [.null, .null, .null, .null, .null, .int 0] j := by
  intro j hj
  rcases (show j = 0 ∨ j = 1 ∨ j = 2 ∨ j = 3 ∨ j = 4 ∨ j = 5 by unfold N_OPN at hj; omega) with rfl | rfl | rfl | rfl | rfl | rfl <;> rfl
def R_ESC : String := "PatternNodes$EscapeReader"
def F_ESC : u_T := fun k => match k with
  | 0 => ("PatternNodes$EscapeReader", "pattern", "LPatternNodes$Pattern;", true)
  | 1 => ("PatternNodes$EscapeReader", "kind", "I", false)
  | 2 => ("PatternNodes$EscapeReader", "value", "I", false)
  | 3 => ("PatternNodes$EscapeReader", "set", "[I", false)
  | 4 => ("PatternNodes$EscapeReader", "others", "Z", false)
  | _ => ("PatternNodes$EscapeReader", "after", "I", false)
def ty_ESC : Nat → FieldType := fun k => match k with
  | 0 => .object "PatternNodes$Pattern"
  | 1 => .int
  | 2 => .int
  | 3 => .array .int
  | 4 => .boolean
  | _ => .int
abbrev N_ESC : Nat := 6
theorem n_ESC : ∀ a, a < N_ESC → ∀ b, b < N_ESC → a ≠ b → (F_ESC a).2.1 ≠ (F_ESC b).2.1 := by decide +kernel
theorem ty_ESC_ok : ∀ k, k < N_ESC → parseFieldDescriptor (F_ESC k).2.2.1 = some (ty_ESC k) := by decide +kernel
theorem i_ESC : ∀ w ∈ u_ws R_ESC F_ESC N_ESC, w ∈ GW := by decide +kernel
theorem df_ESC : ∀ j, j < N_ESC → defaultValue (ty_ESC j) = vp_V [.null, .int 0, .int 0, .null, .int 0, .int 0] j := by
  intro j hj
  rcases (show j = 0 ∨ j = 1 ∨ j = 2 ∨ j = 3 ∨ j = 4 ∨ j = 5 by unfold N_ESC at hj; omega) with rfl | rfl | rfl | rfl | rfl | rfl <;> rfl
def R_CLS : String := "PatternNodes$ClassReader"
def F_CLS : u_T := fun k => match k with
  | 0 => ("PatternNodes$ClassReader", "pattern", "LPatternNodes$Pattern;", true)
  | 1 => ("PatternNodes$ClassReader", "mistake", "LPatternNodes$Mistake;", true)
  | 2 => ("PatternNodes$ClassReader", "escapes", "LPatternNodes$EscapeReader;", true)
  | 3 => ("PatternNodes$ClassReader", "set", "LPatternNodes$CharacterSet;", true)
  | _ => ("PatternNodes$ClassReader", "single", "I", false)
def ty_CLS : Nat → FieldType := fun k => match k with
  | 0 => .object "PatternNodes$Pattern"
  | 1 => .object "PatternNodes$Mistake"
  | 2 => .object "PatternNodes$EscapeReader"
  | 3 => .object "PatternNodes$CharacterSet"
  | _ => .int
abbrev N_CLS : Nat := 5
theorem n_CLS : ∀ a, a < N_CLS → ∀ b, b < N_CLS → a ≠ b → (F_CLS a).2.1 ≠ (F_CLS b).2.1 := by decide +kernel
theorem ty_CLS_ok : ∀ k, k < N_CLS → parseFieldDescriptor (F_CLS k).2.2.1 = some (ty_CLS k) := by decide +kernel
theorem i_CLS : ∀ w ∈ u_ws R_CLS F_CLS N_CLS, w ∈ GW := by decide +kernel
theorem df_CLS : ∀ j, j < N_CLS → defaultValue (ty_CLS j) = vp_V [.null, .null, .null, .null, .int 0] j := by
  intro j hj
  rcases (show j = 0 ∨ j = 1 ∨ j = 2 ∨ j = 3 ∨ j = 4 by unfold N_CLS at hj; omega) with rfl | rfl | rfl | rfl | rfl <;> rfl
def R_OPG : String := "PatternNodes$OpeningReader"
def F_OPG : u_T := fun k => match k with
  | 0 => ("PatternNodes$OpeningReader", "pattern", "LPatternNodes$Pattern;", true)
  | 1 => ("PatternNodes$OpeningReader", "numbered", "Z", false)
  | 2 => ("PatternNodes$OpeningReader", "flagsAlone", "Z", false)
  | 3 => ("PatternNodes$OpeningReader", "nameAt", "I", false)
  | 4 => ("PatternNodes$OpeningReader", "nameLength", "I", false)
  | 5 => ("PatternNodes$OpeningReader", "flags", "I", false)
  | _ => ("PatternNodes$OpeningReader", "after", "I", false)
def ty_OPG : Nat → FieldType := fun k => match k with
  | 0 => .object "PatternNodes$Pattern"
  | 1 => .boolean
  | 2 => .boolean
  | 3 => .int
  | 4 => .int
  | 5 => .int
  | _ => .int
abbrev N_OPG : Nat := 7
theorem n_OPG : ∀ a, a < N_OPG → ∀ b, b < N_OPG → a ≠ b → (F_OPG a).2.1 ≠ (F_OPG b).2.1 := by decide +kernel
theorem ty_OPG_ok : ∀ k, k < N_OPG → parseFieldDescriptor (F_OPG k).2.2.1 = some (ty_OPG k) := by decide +kernel
theorem i_OPG : ∀ w ∈ u_ws R_OPG F_OPG N_OPG, w ∈ GW := by decide +kernel
theorem df_OPG : ∀ j, j < N_OPG → defaultValue (ty_OPG j) = vp_V [.null, .int 0, .int 0, .int 0, .int 0, .int 0, .int 0] j := by
  intro j hj
  rcases (show j = 0 ∨ j = 1 ∨ j = 2 ∨ j = 3 ∨ j = 4 ∨ j = 5 ∨ j = 6 by unfold N_OPG at hj; omega) with rfl | rfl | rfl | rfl | rfl | rfl | rfl <;> rfl
def R_REP : String := "PatternNodes$RepeatReader"
def F_REP : u_T := fun k => match k with
  | 0 => ("PatternNodes$RepeatReader", "pattern", "LPatternNodes$Pattern;", true)
  | 1 => ("PatternNodes$RepeatReader", "least", "I", false)
  | 2 => ("PatternNodes$RepeatReader", "most", "I", false)
  | 3 => ("PatternNodes$RepeatReader", "marked", "Z", false)
  | 4 => ("PatternNodes$RepeatReader", "after", "I", false)
  | _ => ("PatternNodes$RepeatReader", "number", "I", false)
def ty_REP : Nat → FieldType := fun k => match k with
  | 0 => .object "PatternNodes$Pattern"
  | 1 => .int
  | 2 => .int
  | 3 => .boolean
  | 4 => .int
  | _ => .int
abbrev N_REP : Nat := 6
theorem n_REP : ∀ a, a < N_REP → ∀ b, b < N_REP → a ≠ b → (F_REP a).2.1 ≠ (F_REP b).2.1 := by decide +kernel
theorem ty_REP_ok : ∀ k, k < N_REP → parseFieldDescriptor (F_REP k).2.2.1 = some (ty_REP k) := by decide +kernel
theorem i_REP : ∀ w ∈ u_ws R_REP F_REP N_REP, w ∈ GW := by decide +kernel
theorem df_REP : ∀ j, j < N_REP → defaultValue (ty_REP j) = vp_V [.null, .int 0, .int 0, .int 0, .int 0, .int 0] j := by
  intro j hj
  rcases (show j = 0 ∨ j = 1 ∨ j = 2 ∨ j = 3 ∨ j = 4 ∨ j = 5 by unfold N_REP at hj; omega) with rfl | rfl | rfl | rfl | rfl | rfl <;> rfl
def R_RDR : String := "PatternNodes$TreeReader"
def F_RDR : u_T := fun k => match k with
  | 0 => ("PatternNodes$TreeReader", "pattern", "LPatternNodes$Pattern;", true)
  | 1 => ("PatternNodes$TreeReader", "mistake", "LPatternNodes$Mistake;", true)
  | 2 => ("PatternNodes$TreeReader", "tree", "LPatternNodes$Tree;", true)
  | 3 => ("PatternNodes$TreeReader", "groups", "LPatternNodes$NumberedGroups;", true)
  | 4 => ("PatternNodes$TreeReader", "open", "LPatternNodes$OpenGroups;", true)
  | 5 => ("PatternNodes$TreeReader", "set", "LPatternNodes$CharacterSet;", true)
  | 6 => ("PatternNodes$TreeReader", "escapes", "LPatternNodes$EscapeReader;", true)
  | 7 => ("PatternNodes$TreeReader", "classes", "LPatternNodes$ClassReader;", true)
  | 8 => ("PatternNodes$TreeReader", "openings", "LPatternNodes$OpeningReader;", true)
  | 9 => ("PatternNodes$TreeReader", "repeats", "LPatternNodes$RepeatReader;", true)
  | 10 => ("PatternNodes$TreeReader", "place", "I", false)
  | 11 => ("PatternNodes$TreeReader", "flags", "I", false)
  | _ => ("PatternNodes$TreeReader", "repeatable", "Z", false)
def ty_RDR : Nat → FieldType := fun k => match k with
  | 0 => .object "PatternNodes$Pattern"
  | 1 => .object "PatternNodes$Mistake"
  | 2 => .object "PatternNodes$Tree"
  | 3 => .object "PatternNodes$NumberedGroups"
  | 4 => .object "PatternNodes$OpenGroups"
  | 5 => .object "PatternNodes$CharacterSet"
  | 6 => .object "PatternNodes$EscapeReader"
  | 7 => .object "PatternNodes$ClassReader"
  | 8 => .object "PatternNodes$OpeningReader"
  | 9 => .object "PatternNodes$RepeatReader"
  | 10 => .int
  | 11 => .int
  | _ => .boolean
abbrev N_RDR : Nat := 13
theorem n_RDR : ∀ a, a < N_RDR → ∀ b, b < N_RDR → a ≠ b → (F_RDR a).2.1 ≠ (F_RDR b).2.1 := by decide +kernel
theorem ty_RDR_ok : ∀ k, k < N_RDR → parseFieldDescriptor (F_RDR k).2.2.1 = some (ty_RDR k) := by decide +kernel
theorem i_RDR : ∀ w ∈ u_ws R_RDR F_RDR N_RDR, w ∈ GW := by decide +kernel
theorem df_RDR : ∀ j, j < N_RDR → defaultValue (ty_RDR j) = vp_V [.null, .null, .null, .null, .null, .null, .null, .null, .null, .null, .int 0, .int 0, .int 0] j := by
  intro j hj
  rcases (show j = 0 ∨ j = 1 ∨ j = 2 ∨ j = 3 ∨ j = 4 ∨ j = 5 ∨ j = 6 ∨ j = 7 ∨ j = 8 ∨ j = 9 ∨ j = 10 ∨ j = 11 ∨ j = 12 by unfold N_RDR at hj; omega) with rfl | rfl | rfl | rfl | rfl | rfl | rfl | rfl | rfl | rfl | rfl | rfl | rfl <;> rfl
def R_PN : String := "PatternNodes"
def F_PN : u_T := fun k => match k with
  | 0 => ("PatternNodes", "pattern", "LPatternNodes$Pattern;", true)
  | 1 => ("PatternNodes", "mistake", "LPatternNodes$Mistake;", true)
  | 2 => ("PatternNodes", "tree", "LPatternNodes$Tree;", true)
  | 3 => ("PatternNodes", "groups", "LPatternNodes$NumberedGroups;", true)
  | _ => ("PatternNodes", "reader", "LPatternNodes$TreeReader;", true)
def ty_PN : Nat → FieldType := fun k => match k with
  | 0 => .object "PatternNodes$Pattern"
  | 1 => .object "PatternNodes$Mistake"
  | 2 => .object "PatternNodes$Tree"
  | 3 => .object "PatternNodes$NumberedGroups"
  | _ => .object "PatternNodes$TreeReader"
abbrev N_PN : Nat := 5
theorem n_PN : ∀ a, a < N_PN → ∀ b, b < N_PN → a ≠ b → (F_PN a).2.1 ≠ (F_PN b).2.1 := by decide +kernel
theorem ty_PN_ok : ∀ k, k < N_PN → parseFieldDescriptor (F_PN k).2.2.1 = some (ty_PN k) := by decide +kernel
theorem i_PN : ∀ w ∈ u_ws R_PN F_PN N_PN, w ∈ GW := by decide +kernel
theorem df_PN : ∀ j, j < N_PN → defaultValue (ty_PN j) = vp_V [.null, .null, .null, .null, .null] j := by
  intro j hj
  rcases (show j = 0 ∨ j = 1 ∨ j = 2 ∨ j = 3 ∨ j = 4 by unfold N_PN at hj; omega) with rfl | rfl | rfl | rfl | rfl <;> rfl
abbrev classes : List vw_C := [(R_PAT, F_PAT, N_PAT), (R_MIS, F_MIS, N_MIS), (R_SET, F_SET, N_SET), (R_TRE, F_TRE, N_TRE), (R_GRP, F_GRP, N_GRP), (R_OPN, F_OPN, N_OPN), (R_ESC, F_ESC, N_ESC), (R_CLS, F_CLS, N_CLS), (R_OPG, F_OPG, N_OPG), (R_REP, F_REP, N_REP), (R_RDR, F_RDR, N_RDR), (R_PN, F_PN, N_PN)]
abbrev b_PAT_append : ByteArray := prog_9_method_3_code
def y_PAT_append : MethodName := ⟨R_PAT, "append", "(JI)Z"⟩
theorem hd_PAT_append : y_PAT_append.cls ≠ "java/lang/invoke/MethodHandle" ∧ y_PAT_append.cls ≠ "java/lang/invoke/VarHandle" ∧ (parseMethodDescriptor y_PAT_append.desc).map (fun d => d.parameters.length) = some 2 := by decide +kernel
abbrev ws_PAT_append : List Cond := Cond.code y_PAT_append b_PAT_append 5 (some .boolean) :: GW
abbrev b_PN_put : ByteArray := prog_1_method_2_code
def y_PN_put : MethodName := ⟨R_PN, "put", "(JI)Z"⟩
theorem hd_PN_put : y_PN_put.cls ≠ "java/lang/invoke/MethodHandle" ∧ y_PN_put.cls ≠ "java/lang/invoke/VarHandle" ∧ (parseMethodDescriptor y_PN_put.desc).map (fun d => d.parameters.length) = some 2 := by decide +kernel
abbrev ws_PN_put : List Cond := Cond.code y_PN_put b_PN_put 4 (some .boolean) :: GW
abbrev b_MIS_clear : ByteArray := prog_5_method_2_code
def y_MIS_clear : MethodName := ⟨R_MIS, "clear", "()V"⟩
theorem hd_MIS_clear : y_MIS_clear.cls ≠ "java/lang/invoke/MethodHandle" ∧ y_MIS_clear.cls ≠ "java/lang/invoke/VarHandle" ∧ (parseMethodDescriptor y_MIS_clear.desc).map (fun d => d.parameters.length) = some 0 := by decide +kernel
abbrev ws_MIS_clear : List Cond := Cond.code y_MIS_clear b_MIS_clear 1 none :: GW
abbrev b_TRE_clear : ByteArray := prog_11_method_2_code
def y_TRE_clear : MethodName := ⟨R_TRE, "clear", "()V"⟩
theorem hd_TRE_clear : y_TRE_clear.cls ≠ "java/lang/invoke/MethodHandle" ∧ y_TRE_clear.cls ≠ "java/lang/invoke/VarHandle" ∧ (parseMethodDescriptor y_TRE_clear.desc).map (fun d => d.parameters.length) = some 0 := by decide +kernel
abbrev ws_TRE_clear : List Cond := Cond.code y_TRE_clear b_TRE_clear 1 none :: GW
abbrev b_GRP_clear : ByteArray := prog_6_method_2_code
def y_GRP_clear : MethodName := ⟨R_GRP, "clear", "()V"⟩
theorem hd_GRP_clear : y_GRP_clear.cls ≠ "java/lang/invoke/MethodHandle" ∧ y_GRP_clear.cls ≠ "java/lang/invoke/VarHandle" ∧ (parseMethodDescriptor y_GRP_clear.desc).map (fun d => d.parameters.length) = some 0 := by decide +kernel
abbrev ws_GRP_clear : List Cond := Cond.code y_GRP_clear b_GRP_clear 1 none :: GW
abbrev b_OPN_begin : ByteArray := prog_7_method_2_code
def y_OPN_begin : MethodName := ⟨R_OPN, "begin", "()V"⟩
theorem hd_OPN_begin : y_OPN_begin.cls ≠ "java/lang/invoke/MethodHandle" ∧ y_OPN_begin.cls ≠ "java/lang/invoke/VarHandle" ∧ (parseMethodDescriptor y_OPN_begin.desc).map (fun d => d.parameters.length) = some 0 := by decide +kernel
abbrev ws_OPN_begin : List Cond := Cond.code y_OPN_begin b_OPN_begin 1 none :: GW
abbrev b_RDR_begin : ByteArray := prog_12_method_2_code
def y_RDR_begin : MethodName := ⟨R_RDR, "begin", "(I)V"⟩
theorem hd_RDR_begin : y_RDR_begin.cls ≠ "java/lang/invoke/MethodHandle" ∧ y_RDR_begin.cls ≠ "java/lang/invoke/VarHandle" ∧ (parseMethodDescriptor y_RDR_begin.desc).map (fun d => d.parameters.length) = some 1 := by decide +kernel
abbrev ws_RDR_begin : List Cond := Cond.code y_RDR_begin b_RDR_begin 2 none :: GW
abbrev b_RDR_hasMore : ByteArray := prog_12_method_3_code
def y_RDR_hasMore : MethodName := ⟨R_RDR, "hasMore", "()Z"⟩
theorem hd_RDR_hasMore : y_RDR_hasMore.cls ≠ "java/lang/invoke/MethodHandle" ∧ y_RDR_hasMore.cls ≠ "java/lang/invoke/VarHandle" ∧ (parseMethodDescriptor y_RDR_hasMore.desc).map (fun d => d.parameters.length) = some 0 := by decide +kernel
abbrev ws_RDR_hasMore : List Cond := Cond.code y_RDR_hasMore b_RDR_hasMore 1 (some .boolean) :: GW
abbrev b_PAT_at : ByteArray := prog_9_method_4_code
def y_PAT_at : MethodName := ⟨R_PAT, "at", "(I)I"⟩
theorem hd_PAT_at : y_PAT_at.cls ≠ "java/lang/invoke/MethodHandle" ∧ y_PAT_at.cls ≠ "java/lang/invoke/VarHandle" ∧ (parseMethodDescriptor y_PAT_at.desc).map (fun d => d.parameters.length) = some 1 := by decide +kernel
abbrev ws_PAT_at : List Cond := Cond.code y_PAT_at b_PAT_at 2 (some .int) :: GW
abbrev b_TRE_waitingSize : ByteArray := prog_11_method_6_code
def y_TRE_waitingSize : MethodName := ⟨R_TRE, "waitingSize", "(I)I"⟩
theorem hd_TRE_waitingSize : y_TRE_waitingSize.cls ≠ "java/lang/invoke/MethodHandle" ∧ y_TRE_waitingSize.cls ≠ "java/lang/invoke/VarHandle" ∧ (parseMethodDescriptor y_TRE_waitingSize.desc).map (fun d => d.parameters.length) = some 1 := by decide +kernel
abbrev ws_TRE_waitingSize : List Cond := Cond.code y_TRE_waitingSize b_TRE_waitingSize 4 (some .int) :: GW
abbrev b_TRE_addOver : ByteArray := prog_11_method_4_code
def y_TRE_addOver : MethodName := ⟨R_TRE, "addOver", "(IIIII)V"⟩
theorem hd_TRE_addOver : y_TRE_addOver.cls ≠ "java/lang/invoke/MethodHandle" ∧ y_TRE_addOver.cls ≠ "java/lang/invoke/VarHandle" ∧ (parseMethodDescriptor y_TRE_addOver.desc).map (fun d => d.parameters.length) = some 5 := by decide +kernel
abbrev ws_TRE_addOver : List Cond := Cond.code y_TRE_addOver b_TRE_addOver 7 none :: GW
abbrev b_RDR_endRow : ByteArray := prog_12_method_8_code
def y_RDR_endRow : MethodName := ⟨R_RDR, "endRow", "()V"⟩
theorem hd_RDR_endRow : y_RDR_endRow.cls ≠ "java/lang/invoke/MethodHandle" ∧ y_RDR_endRow.cls ≠ "java/lang/invoke/VarHandle" ∧ (parseMethodDescriptor y_RDR_endRow.desc).map (fun d => d.parameters.length) = some 0 := by decide +kernel
abbrev ws_RDR_endRow : List Cond := Cond.code y_RDR_endRow b_RDR_endRow 2 none :: GW
abbrev b_PN_isDigit : ByteArray := prog_1_method_11_code
def y_PN_isDigit : MethodName := ⟨R_PN, "isDigit", "(I)Z"⟩
theorem hd_PN_isDigit : y_PN_isDigit.cls ≠ "java/lang/invoke/MethodHandle" ∧ y_PN_isDigit.cls ≠ "java/lang/invoke/VarHandle" ∧ (parseMethodDescriptor y_PN_isDigit.desc).map (fun d => d.parameters.length) = some 1 := by decide +kernel
abbrev ws_PN_isDigit : List Cond := Cond.code y_PN_isDigit b_PN_isDigit 1 (some .boolean) :: GW
abbrev b_PN_isWord : ByteArray := prog_1_method_12_code
def y_PN_isWord : MethodName := ⟨R_PN, "isWord", "(I)Z"⟩
theorem hd_PN_isWord : y_PN_isWord.cls ≠ "java/lang/invoke/MethodHandle" ∧ y_PN_isWord.cls ≠ "java/lang/invoke/VarHandle" ∧ (parseMethodDescriptor y_PN_isWord.desc).map (fun d => d.parameters.length) = some 1 := by decide +kernel
abbrev ws_PN_isWord : List Cond := Cond.code y_PN_isWord b_PN_isWord 1 (some .boolean) :: GW
abbrev b_OPG_readName : ByteArray := prog_8_method_3_code
def y_OPG_readName : MethodName := ⟨R_OPG, "readName", "(I)Z"⟩
theorem hd_OPG_readName : y_OPG_readName.cls ≠ "java/lang/invoke/MethodHandle" ∧ y_OPG_readName.cls ≠ "java/lang/invoke/VarHandle" ∧ (parseMethodDescriptor y_OPG_readName.desc).map (fun d => d.parameters.length) = some 1 := by decide +kernel
abbrev ws_OPG_readName : List Cond := Cond.code y_OPG_readName b_OPG_readName 2 (some .boolean) :: GW
abbrev b_OPG_flagOf : ByteArray := prog_8_method_6_code
def y_OPG_flagOf : MethodName := ⟨R_OPG, "flagOf", "(I)I"⟩
theorem hd_OPG_flagOf : y_OPG_flagOf.cls ≠ "java/lang/invoke/MethodHandle" ∧ y_OPG_flagOf.cls ≠ "java/lang/invoke/VarHandle" ∧ (parseMethodDescriptor y_OPG_flagOf.desc).map (fun d => d.parameters.length) = some 1 := by decide +kernel
abbrev ws_OPG_flagOf : List Cond := Cond.code y_OPG_flagOf b_OPG_flagOf 1 (some .int) :: GW
abbrev b_OPG_takeFlags : ByteArray := prog_8_method_5_code
def y_OPG_takeFlags : MethodName := ⟨R_OPG, "takeFlags", "()I"⟩
theorem hd_OPG_takeFlags : y_OPG_takeFlags.cls ≠ "java/lang/invoke/MethodHandle" ∧ y_OPG_takeFlags.cls ≠ "java/lang/invoke/VarHandle" ∧ (parseMethodDescriptor y_OPG_takeFlags.desc).map (fun d => d.parameters.length) = some 0 := by decide +kernel
abbrev ws_OPG_takeFlags : List Cond := Cond.code y_OPG_takeFlags b_OPG_takeFlags 4 (some .int) :: GW
abbrev b_OPG_readFlags : ByteArray := prog_8_method_4_code
def y_OPG_readFlags : MethodName := ⟨R_OPG, "readFlags", "(I)Z"⟩
theorem hd_OPG_readFlags : y_OPG_readFlags.cls ≠ "java/lang/invoke/MethodHandle" ∧ y_OPG_readFlags.cls ≠ "java/lang/invoke/VarHandle" ∧ (parseMethodDescriptor y_OPG_readFlags.desc).map (fun d => d.parameters.length) = some 1 := by decide +kernel
abbrev ws_OPG_readFlags : List Cond := Cond.code y_OPG_readFlags b_OPG_readFlags 3 (some .boolean) :: GW
abbrev b_OPG_readOpening : ByteArray := prog_8_method_2_code
def y_OPG_readOpening : MethodName := ⟨R_OPG, "readOpening", "(II)Z"⟩
theorem hd_OPG_readOpening : y_OPG_readOpening.cls ≠ "java/lang/invoke/MethodHandle" ∧ y_OPG_readOpening.cls ≠ "java/lang/invoke/VarHandle" ∧ (parseMethodDescriptor y_OPG_readOpening.desc).map (fun d => d.parameters.length) = some 2 := by decide +kernel
abbrev ws_OPG_readOpening : List Cond := Cond.code y_OPG_readOpening b_OPG_readOpening 3 (some .boolean) :: GW
abbrev b_MIS_tell : ByteArray := prog_5_method_3_code
def y_MIS_tell : MethodName := ⟨R_MIS, "tell", "(II)V"⟩
theorem hd_MIS_tell : y_MIS_tell.cls ≠ "java/lang/invoke/MethodHandle" ∧ y_MIS_tell.cls ≠ "java/lang/invoke/VarHandle" ∧ (parseMethodDescriptor y_MIS_tell.desc).map (fun d => d.parameters.length) = some 2 := by decide +kernel
abbrev ws_MIS_tell : List Cond := Cond.code y_MIS_tell b_MIS_tell 3 none :: GW
abbrev b_TRE_addLeaf : ByteArray := prog_11_method_3_code
def y_TRE_addLeaf : MethodName := ⟨R_TRE, "addLeaf", "(III)V"⟩
theorem hd_TRE_addLeaf : y_TRE_addLeaf.cls ≠ "java/lang/invoke/MethodHandle" ∧ y_TRE_addLeaf.cls ≠ "java/lang/invoke/VarHandle" ∧ (parseMethodDescriptor y_TRE_addLeaf.desc).map (fun d => d.parameters.length) = some 3 := by decide +kernel
abbrev ws_TRE_addLeaf : List Cond := Cond.code y_TRE_addLeaf b_TRE_addLeaf 4 none :: GW
abbrev b_RDR_partDone : ByteArray := prog_12_method_7_code
def y_RDR_partDone : MethodName := ⟨R_RDR, "partDone", "(IZ)V"⟩
theorem hd_RDR_partDone : y_RDR_partDone.cls ≠ "java/lang/invoke/MethodHandle" ∧ y_RDR_partDone.cls ≠ "java/lang/invoke/VarHandle" ∧ (parseMethodDescriptor y_RDR_partDone.desc).map (fun d => d.parameters.length) = some 2 := by decide +kernel
abbrev ws_RDR_partDone : List Cond := Cond.code y_RDR_partDone b_RDR_partDone 3 none :: GW
abbrev b_GRP_isNamed : ByteArray := prog_6_method_6_code
def y_GRP_isNamed : MethodName := ⟨R_GRP, "isNamed", "(ILPatternNodes$Pattern;I)Z"⟩
theorem hd_GRP_isNamed : y_GRP_isNamed.cls ≠ "java/lang/invoke/MethodHandle" ∧ y_GRP_isNamed.cls ≠ "java/lang/invoke/VarHandle" ∧ (parseMethodDescriptor y_GRP_isNamed.desc).map (fun d => d.parameters.length) = some 3 := by decide +kernel
abbrev ws_GRP_isNamed : List Cond := Cond.code y_GRP_isNamed b_GRP_isNamed 5 (some .boolean) :: GW
abbrev b_GRP_hasName : ByteArray := prog_6_method_5_code
def y_GRP_hasName : MethodName := ⟨R_GRP, "hasName", "(LPatternNodes$Pattern;II)Z"⟩
theorem hd_GRP_hasName : y_GRP_hasName.cls ≠ "java/lang/invoke/MethodHandle" ∧ y_GRP_hasName.cls ≠ "java/lang/invoke/VarHandle" ∧ (parseMethodDescriptor y_GRP_hasName.desc).map (fun d => d.parameters.length) = some 3 := by decide +kernel
abbrev ws_GRP_hasName : List Cond := Cond.code y_GRP_hasName b_GRP_hasName 5 (some .boolean) :: GW
abbrev b_GRP_isFull : ByteArray := prog_6_method_3_code
def y_GRP_isFull : MethodName := ⟨R_GRP, "isFull", "()Z"⟩
theorem hd_GRP_isFull : y_GRP_isFull.cls ≠ "java/lang/invoke/MethodHandle" ∧ y_GRP_isFull.cls ≠ "java/lang/invoke/VarHandle" ∧ (parseMethodDescriptor y_GRP_isFull.desc).map (fun d => d.parameters.length) = some 0 := by decide +kernel
abbrev ws_GRP_isFull : List Cond := Cond.code y_GRP_isFull b_GRP_isFull 1 (some .boolean) :: GW
abbrev b_GRP_addGroup : ByteArray := prog_6_method_4_code
def y_GRP_addGroup : MethodName := ⟨R_GRP, "addGroup", "(LPatternNodes$Pattern;II)I"⟩
theorem hd_GRP_addGroup : y_GRP_addGroup.cls ≠ "java/lang/invoke/MethodHandle" ∧ y_GRP_addGroup.cls ≠ "java/lang/invoke/VarHandle" ∧ (parseMethodDescriptor y_GRP_addGroup.desc).map (fun d => d.parameters.length) = some 3 := by decide +kernel
abbrev ws_GRP_addGroup : List Cond := Cond.code y_GRP_addGroup b_GRP_addGroup 5 (some .int) :: GW
abbrev b_OPN_enter : ByteArray := prog_7_method_3_code
def y_OPN_enter : MethodName := ⟨R_OPN, "enter", "(III)V"⟩
theorem hd_OPN_enter : y_OPN_enter.cls ≠ "java/lang/invoke/MethodHandle" ∧ y_OPN_enter.cls ≠ "java/lang/invoke/VarHandle" ∧ (parseMethodDescriptor y_OPN_enter.desc).map (fun d => d.parameters.length) = some 3 := by decide +kernel
abbrev ws_OPN_enter : List Cond := Cond.code y_OPN_enter b_OPN_enter 4 none :: GW
abbrev b_RDR_enterGroup : ByteArray := prog_12_method_11_code
def y_RDR_enterGroup : MethodName := ⟨R_RDR, "enterGroup", "()V"⟩
theorem hd_RDR_enterGroup : y_RDR_enterGroup.cls ≠ "java/lang/invoke/MethodHandle" ∧ y_RDR_enterGroup.cls ≠ "java/lang/invoke/VarHandle" ∧ (parseMethodDescriptor y_RDR_enterGroup.desc).map (fun d => d.parameters.length) = some 0 := by decide +kernel
abbrev ws_RDR_enterGroup : List Cond := Cond.code y_RDR_enterGroup b_RDR_enterGroup 2 none :: GW
abbrev b_RDR_openGroup : ByteArray := prog_12_method_10_code
def y_RDR_openGroup : MethodName := ⟨R_RDR, "openGroup", "()V"⟩
theorem hd_RDR_openGroup : y_RDR_openGroup.cls ≠ "java/lang/invoke/MethodHandle" ∧ y_RDR_openGroup.cls ≠ "java/lang/invoke/VarHandle" ∧ (parseMethodDescriptor y_RDR_openGroup.desc).map (fun d => d.parameters.length) = some 0 := by decide +kernel
abbrev ws_RDR_openGroup : List Cond := Cond.code y_RDR_openGroup b_RDR_openGroup 1 none :: GW
abbrev b_RDR_endAlternatives : ByteArray := prog_12_method_9_code
def y_RDR_endAlternatives : MethodName := ⟨R_RDR, "endAlternatives", "()V"⟩
theorem hd_RDR_endAlternatives : y_RDR_endAlternatives.cls ≠ "java/lang/invoke/MethodHandle" ∧ y_RDR_endAlternatives.cls ≠ "java/lang/invoke/VarHandle" ∧ (parseMethodDescriptor y_RDR_endAlternatives.desc).map (fun d => d.parameters.length) = some 0 := by decide +kernel
abbrev ws_RDR_endAlternatives : List Cond := Cond.code y_RDR_endAlternatives b_RDR_endAlternatives 2 none :: GW
abbrev b_OPN_leave : ByteArray := prog_7_method_4_code
def y_OPN_leave : MethodName := ⟨R_OPN, "leave", "()V"⟩
theorem hd_OPN_leave : y_OPN_leave.cls ≠ "java/lang/invoke/MethodHandle" ∧ y_OPN_leave.cls ≠ "java/lang/invoke/VarHandle" ∧ (parseMethodDescriptor y_OPN_leave.desc).map (fun d => d.parameters.length) = some 0 := by decide +kernel
abbrev ws_OPN_leave : List Cond := Cond.code y_OPN_leave b_OPN_leave 1 none :: GW
abbrev b_RDR_closeGroup : ByteArray := prog_12_method_12_code
def y_RDR_closeGroup : MethodName := ⟨R_RDR, "closeGroup", "()V"⟩
theorem hd_RDR_closeGroup : y_RDR_closeGroup.cls ≠ "java/lang/invoke/MethodHandle" ∧ y_RDR_closeGroup.cls ≠ "java/lang/invoke/VarHandle" ∧ (parseMethodDescriptor y_RDR_closeGroup.desc).map (fun d => d.parameters.length) = some 0 := by decide +kernel
abbrev ws_RDR_closeGroup : List Cond := Cond.code y_RDR_closeGroup b_RDR_closeGroup 3 none :: GW
abbrev b_RDR_isOn : ByteArray := prog_12_method_6_code
def y_RDR_isOn : MethodName := ⟨R_RDR, "isOn", "(I)Z"⟩
theorem hd_RDR_isOn : y_RDR_isOn.cls ≠ "java/lang/invoke/MethodHandle" ∧ y_RDR_isOn.cls ≠ "java/lang/invoke/VarHandle" ∧ (parseMethodDescriptor y_RDR_isOn.desc).map (fun d => d.parameters.length) = some 1 := by decide +kernel
abbrev ws_RDR_isOn : List Cond := Cond.code y_RDR_isOn b_RDR_isOn 2 (some .boolean) :: GW
abbrev b_SET_clear : ByteArray := prog_2_method_2_code
def y_SET_clear : MethodName := ⟨R_SET, "clear", "()V"⟩
theorem hd_SET_clear : y_SET_clear.cls ≠ "java/lang/invoke/MethodHandle" ∧ y_SET_clear.cls ≠ "java/lang/invoke/VarHandle" ∧ (parseMethodDescriptor y_SET_clear.desc).map (fun d => d.parameters.length) = some 0 := by decide +kernel
abbrev ws_SET_clear : List Cond := Cond.code y_SET_clear b_SET_clear 1 none :: GW
abbrev b_SET_turnRound : ByteArray := prog_2_method_8_code
def y_SET_turnRound : MethodName := ⟨R_SET, "turnRound", "()V"⟩
theorem hd_SET_turnRound : y_SET_turnRound.cls ≠ "java/lang/invoke/MethodHandle" ∧ y_SET_turnRound.cls ≠ "java/lang/invoke/VarHandle" ∧ (parseMethodDescriptor y_SET_turnRound.desc).map (fun d => d.parameters.length) = some 0 := by decide +kernel
abbrev ws_SET_turnRound : List Cond := Cond.code y_SET_turnRound b_SET_turnRound 6 none :: GW
abbrev b_SET_add : ByteArray := prog_2_method_3_code
def y_SET_add : MethodName := ⟨R_SET, "add", "(II)V"⟩
theorem hd_SET_add : y_SET_add.cls ≠ "java/lang/invoke/MethodHandle" ∧ y_SET_add.cls ≠ "java/lang/invoke/VarHandle" ∧ (parseMethodDescriptor y_SET_add.desc).map (fun d => d.parameters.length) = some 2 := by decide +kernel
abbrev ws_SET_add : List Cond := Cond.code y_SET_add b_SET_add 8 none :: GW
abbrev b_SET_finish : ByteArray := prog_2_method_7_code
def y_SET_finish : MethodName := ⟨R_SET, "finish", "(Z)V"⟩
theorem hd_SET_finish : y_SET_finish.cls ≠ "java/lang/invoke/MethodHandle" ∧ y_SET_finish.cls ≠ "java/lang/invoke/VarHandle" ∧ (parseMethodDescriptor y_SET_finish.desc).map (fun d => d.parameters.length) = some 1 := by decide +kernel
abbrev ws_SET_finish : List Cond := Cond.code y_SET_finish b_SET_finish 2 none :: GW
abbrev b_ESC_setOf : ByteArray := prog_4_method_3_code
def y_ESC_setOf : MethodName := ⟨R_ESC, "setOf", "(I)[I"⟩
theorem hd_ESC_setOf : y_ESC_setOf.cls ≠ "java/lang/invoke/MethodHandle" ∧ y_ESC_setOf.cls ≠ "java/lang/invoke/VarHandle" ∧ (parseMethodDescriptor y_ESC_setOf.desc).map (fun d => d.parameters.length) = some 1 := by decide +kernel
abbrev ws_ESC_setOf : List Cond := Cond.code y_ESC_setOf b_ESC_setOf 1 (some (.array .int)) :: GW
abbrev b_ESC_isSetLetter : ByteArray := prog_4_method_2_code
def y_ESC_isSetLetter : MethodName := ⟨R_ESC, "isSetLetter", "(I)Z"⟩
theorem hd_ESC_isSetLetter : y_ESC_isSetLetter.cls ≠ "java/lang/invoke/MethodHandle" ∧ y_ESC_isSetLetter.cls ≠ "java/lang/invoke/VarHandle" ∧ (parseMethodDescriptor y_ESC_isSetLetter.desc).map (fun d => d.parameters.length) = some 1 := by decide +kernel
abbrev ws_ESC_isSetLetter : List Cond := Cond.code y_ESC_isSetLetter b_ESC_isSetLetter 1 (some .boolean) :: GW
abbrev b_CLS_isSetItem : ByteArray := prog_3_method_3_code
def y_CLS_isSetItem : MethodName := ⟨R_CLS, "isSetItem", "(I)Z"⟩
theorem hd_CLS_isSetItem : y_CLS_isSetItem.cls ≠ "java/lang/invoke/MethodHandle" ∧ y_CLS_isSetItem.cls ≠ "java/lang/invoke/VarHandle" ∧ (parseMethodDescriptor y_CLS_isSetItem.desc).map (fun d => d.parameters.length) = some 1 := by decide +kernel
abbrev ws_CLS_isSetItem : List Cond := Cond.code y_CLS_isSetItem b_CLS_isSetItem 3 (some .boolean) :: GW
abbrev b_ESC_found : ByteArray := prog_4_method_8_code
def y_ESC_found : MethodName := ⟨R_ESC, "found", "(II)I"⟩
theorem hd_ESC_found : y_ESC_found.cls ≠ "java/lang/invoke/MethodHandle" ∧ y_ESC_found.cls ≠ "java/lang/invoke/VarHandle" ∧ (parseMethodDescriptor y_ESC_found.desc).map (fun d => d.parameters.length) = some 2 := by decide +kernel
abbrev ws_ESC_found : List Cond := Cond.code y_ESC_found b_ESC_found 3 (some .int) :: GW
abbrev b_PN_hexadecimal : ByteArray := prog_1_method_13_code
def y_PN_hexadecimal : MethodName := ⟨R_PN, "hexadecimal", "(I)I"⟩
theorem hd_PN_hexadecimal : y_PN_hexadecimal.cls ≠ "java/lang/invoke/MethodHandle" ∧ y_PN_hexadecimal.cls ≠ "java/lang/invoke/VarHandle" ∧ (parseMethodDescriptor y_PN_hexadecimal.desc).map (fun d => d.parameters.length) = some 1 := by decide +kernel
abbrev ws_PN_hexadecimal : List Cond := Cond.code y_PN_hexadecimal b_PN_hexadecimal 1 (some .int) :: GW
abbrev b_PN_isCharacter : ByteArray := prog_1_method_9_code
def y_PN_isCharacter : MethodName := ⟨R_PN, "isCharacter", "(I)Z"⟩
theorem hd_PN_isCharacter : y_PN_isCharacter.cls ≠ "java/lang/invoke/MethodHandle" ∧ y_PN_isCharacter.cls ≠ "java/lang/invoke/VarHandle" ∧ (parseMethodDescriptor y_PN_isCharacter.desc).map (fun d => d.parameters.length) = some 1 := by decide +kernel
abbrev ws_PN_isCharacter : List Cond := Cond.code y_PN_isCharacter b_PN_isCharacter 1 (some .boolean) :: GW
abbrev b_ESC_readNumbered : ByteArray := prog_4_method_6_code
def y_ESC_readNumbered : MethodName := ⟨R_ESC, "readNumbered", "(I)I"⟩
theorem hd_ESC_readNumbered : y_ESC_readNumbered.cls ≠ "java/lang/invoke/MethodHandle" ∧ y_ESC_readNumbered.cls ≠ "java/lang/invoke/VarHandle" ∧ (parseMethodDescriptor y_ESC_readNumbered.desc).map (fun d => d.parameters.length) = some 1 := by decide +kernel
abbrev ws_ESC_readNumbered : List Cond := Cond.code y_ESC_readNumbered b_ESC_readNumbered 8 (some .int) :: GW
abbrev b_ESC_foundSet : ByteArray := prog_4_method_9_code
def y_ESC_foundSet : MethodName := ⟨R_ESC, "foundSet", "([IZ)I"⟩
theorem hd_ESC_foundSet : y_ESC_foundSet.cls ≠ "java/lang/invoke/MethodHandle" ∧ y_ESC_foundSet.cls ≠ "java/lang/invoke/VarHandle" ∧ (parseMethodDescriptor y_ESC_foundSet.desc).map (fun d => d.parameters.length) = some 2 := by decide +kernel
abbrev ws_ESC_foundSet : List Cond := Cond.code y_ESC_foundSet b_ESC_foundSet 3 (some .int) :: GW
abbrev b_ESC_propertyOf : ByteArray := prog_4_method_4_code
def y_ESC_propertyOf : MethodName := ⟨R_ESC, "propertyOf", "(I)[I"⟩
theorem hd_ESC_propertyOf : y_ESC_propertyOf.cls ≠ "java/lang/invoke/MethodHandle" ∧ y_ESC_propertyOf.cls ≠ "java/lang/invoke/VarHandle" ∧ (parseMethodDescriptor y_ESC_propertyOf.desc).map (fun d => d.parameters.length) = some 1 := by decide +kernel
abbrev ws_ESC_propertyOf : List Cond := Cond.code y_ESC_propertyOf b_ESC_propertyOf 1 (some (.array .int)) :: GW
abbrev b_ESC_readProperty : ByteArray := prog_4_method_7_code
def y_ESC_readProperty : MethodName := ⟨R_ESC, "readProperty", "(IZ)I"⟩
theorem hd_ESC_readProperty : y_ESC_readProperty.cls ≠ "java/lang/invoke/MethodHandle" ∧ y_ESC_readProperty.cls ≠ "java/lang/invoke/VarHandle" ∧ (parseMethodDescriptor y_ESC_readProperty.desc).map (fun d => d.parameters.length) = some 2 := by decide +kernel
abbrev ws_ESC_readProperty : List Cond := Cond.code y_ESC_readProperty b_ESC_readProperty 4 (some .int) :: GW
abbrev b_ESC_readEscape : ByteArray := prog_4_method_5_code
def y_ESC_readEscape : MethodName := ⟨R_ESC, "readEscape", "(I)I"⟩
theorem hd_ESC_readEscape : y_ESC_readEscape.cls ≠ "java/lang/invoke/MethodHandle" ∧ y_ESC_readEscape.cls ≠ "java/lang/invoke/VarHandle" ∧ (parseMethodDescriptor y_ESC_readEscape.desc).map (fun d => d.parameters.length) = some 1 := by decide +kernel
abbrev ws_ESC_readEscape : List Cond := Cond.code y_ESC_readEscape b_ESC_readEscape 3 (some .int) :: GW
abbrev b_CLS_refused : ByteArray := prog_3_method_9_code
def y_CLS_refused : MethodName := ⟨R_CLS, "refused", "(II)I"⟩
theorem hd_CLS_refused : y_CLS_refused.cls ≠ "java/lang/invoke/MethodHandle" ∧ y_CLS_refused.cls ≠ "java/lang/invoke/VarHandle" ∧ (parseMethodDescriptor y_CLS_refused.desc).map (fun d => d.parameters.length) = some 2 := by decide +kernel
abbrev ws_CLS_refused : List Cond := Cond.code y_CLS_refused b_CLS_refused 3 (some .int) :: GW
abbrev b_SET_addSet : ByteArray := prog_2_method_6_code
def y_SET_addSet : MethodName := ⟨R_SET, "addSet", "([IZ)V"⟩
theorem hd_SET_addSet : y_SET_addSet.cls ≠ "java/lang/invoke/MethodHandle" ∧ y_SET_addSet.cls ≠ "java/lang/invoke/VarHandle" ∧ (parseMethodDescriptor y_SET_addSet.desc).map (fun d => d.parameters.length) = some 2 := by decide +kernel
abbrev ws_SET_addSet : List Cond := Cond.code y_SET_addSet b_SET_addSet 5 none :: GW
abbrev b_CLS_readSetEscape : ByteArray := prog_3_method_5_code
def y_CLS_readSetEscape : MethodName := ⟨R_CLS, "readSetEscape", "(I)I"⟩
theorem hd_CLS_readSetEscape : y_CLS_readSetEscape.cls ≠ "java/lang/invoke/MethodHandle" ∧ y_CLS_readSetEscape.cls ≠ "java/lang/invoke/VarHandle" ∧ (parseMethodDescriptor y_CLS_readSetEscape.desc).map (fun d => d.parameters.length) = some 1 := by decide +kernel
abbrev ws_CLS_readSetEscape : List Cond := Cond.code y_CLS_readSetEscape b_CLS_readSetEscape 3 (some .int) :: GW
abbrev b_PN_widthOf : ByteArray := prog_1_method_10_code
def y_PN_widthOf : MethodName := ⟨R_PN, "widthOf", "(I)I"⟩
theorem hd_PN_widthOf : y_PN_widthOf.cls ≠ "java/lang/invoke/MethodHandle" ∧ y_PN_widthOf.cls ≠ "java/lang/invoke/VarHandle" ∧ (parseMethodDescriptor y_PN_widthOf.desc).map (fun d => d.parameters.length) = some 1 := by decide +kernel
abbrev ws_PN_widthOf : List Cond := Cond.code y_PN_widthOf b_PN_widthOf 1 (some .int) :: GW
abbrev b_PAT_characterAt : ByteArray := prog_9_method_5_code
def y_PAT_characterAt : MethodName := ⟨R_PAT, "characterAt", "(I)I"⟩
theorem hd_PAT_characterAt : y_PAT_characterAt.cls ≠ "java/lang/invoke/MethodHandle" ∧ y_PAT_characterAt.cls ≠ "java/lang/invoke/VarHandle" ∧ (parseMethodDescriptor y_PAT_characterAt.desc).map (fun d => d.parameters.length) = some 1 := by decide +kernel
abbrev ws_PAT_characterAt : List Cond := Cond.code y_PAT_characterAt b_PAT_characterAt 7 (some .int) :: GW
abbrev b_CLS_readSingle : ByteArray := prog_3_method_8_code
def y_CLS_readSingle : MethodName := ⟨R_CLS, "readSingle", "(I)I"⟩
theorem hd_CLS_readSingle : y_CLS_readSingle.cls ≠ "java/lang/invoke/MethodHandle" ∧ y_CLS_readSingle.cls ≠ "java/lang/invoke/VarHandle" ∧ (parseMethodDescriptor y_CLS_readSingle.desc).map (fun d => d.parameters.length) = some 1 := by decide +kernel
abbrev ws_CLS_readSingle : List Cond := Cond.code y_CLS_readSingle b_CLS_readSingle 3 (some .int) :: GW
abbrev b_SET_addKin : ByteArray := prog_2_method_5_code
def y_SET_addKin : MethodName := ⟨R_SET, "addKin", "(III)V"⟩
theorem hd_SET_addKin : y_SET_addKin.cls ≠ "java/lang/invoke/MethodHandle" ∧ y_SET_addKin.cls ≠ "java/lang/invoke/VarHandle" ∧ (parseMethodDescriptor y_SET_addKin.desc).map (fun d => d.parameters.length) = some 3 := by decide +kernel
abbrev ws_SET_addKin : List Cond := Cond.code y_SET_addKin b_SET_addKin 6 none :: GW
abbrev b_SET_addWithAlike : ByteArray := prog_2_method_4_code
def y_SET_addWithAlike : MethodName := ⟨R_SET, "addWithAlike", "(II)V"⟩
theorem hd_SET_addWithAlike : y_SET_addWithAlike.cls ≠ "java/lang/invoke/MethodHandle" ∧ y_SET_addWithAlike.cls ≠ "java/lang/invoke/VarHandle" ∧ (parseMethodDescriptor y_SET_addWithAlike.desc).map (fun d => d.parameters.length) = some 2 := by decide +kernel
abbrev ws_SET_addWithAlike : List Cond := Cond.code y_SET_addWithAlike b_SET_addWithAlike 5 none :: GW
abbrev b_CLS_readRange : ByteArray := prog_3_method_7_code
def y_CLS_readRange : MethodName := ⟨R_CLS, "readRange", "(IZ)I"⟩
theorem hd_CLS_readRange : y_CLS_readRange.cls ≠ "java/lang/invoke/MethodHandle" ∧ y_CLS_readRange.cls ≠ "java/lang/invoke/VarHandle" ∧ (parseMethodDescriptor y_CLS_readRange.desc).map (fun d => d.parameters.length) = some 2 := by decide +kernel
abbrev ws_CLS_readRange : List Cond := Cond.code y_CLS_readRange b_CLS_readRange 6 (some .int) :: GW
abbrev b_TRE_addClass : ByteArray := prog_11_method_5_code
def y_TRE_addClass : MethodName := ⟨R_TRE, "addClass", "(LPatternNodes$CharacterSet;)V"⟩
theorem hd_TRE_addClass : y_TRE_addClass.cls ≠ "java/lang/invoke/MethodHandle" ∧ y_TRE_addClass.cls ≠ "java/lang/invoke/VarHandle" ∧ (parseMethodDescriptor y_TRE_addClass.desc).map (fun d => d.parameters.length) = some 1 := by decide +kernel
abbrev ws_TRE_addClass : List Cond := Cond.code y_TRE_addClass b_TRE_addClass 3 none :: GW
abbrev b_RDR_addClassPart : ByteArray := prog_12_method_13_code
def y_RDR_addClassPart : MethodName := ⟨R_RDR, "addClassPart", "(I)V"⟩
theorem hd_RDR_addClassPart : y_RDR_addClassPart.cls ≠ "java/lang/invoke/MethodHandle" ∧ y_RDR_addClassPart.cls ≠ "java/lang/invoke/VarHandle" ∧ (parseMethodDescriptor y_RDR_addClassPart.desc).map (fun d => d.parameters.length) = some 1 := by decide +kernel
abbrev ws_RDR_addClassPart : List Cond := Cond.code y_RDR_addClassPart b_RDR_addClassPart 2 none :: GW
abbrev b_SET_isOneCharacter : ByteArray := prog_2_method_9_code
def y_SET_isOneCharacter : MethodName := ⟨R_SET, "isOneCharacter", "()Z"⟩
theorem hd_SET_isOneCharacter : y_SET_isOneCharacter.cls ≠ "java/lang/invoke/MethodHandle" ∧ y_SET_isOneCharacter.cls ≠ "java/lang/invoke/VarHandle" ∧ (parseMethodDescriptor y_SET_isOneCharacter.desc).map (fun d => d.parameters.length) = some 0 := by decide +kernel
abbrev ws_SET_isOneCharacter : List Cond := Cond.code y_SET_isOneCharacter b_SET_isOneCharacter 1 (some .boolean) :: GW
abbrev b_RDR_addCharacter : ByteArray := prog_12_method_20_code
def y_RDR_addCharacter : MethodName := ⟨R_RDR, "addCharacter", "(I)V"⟩
theorem hd_RDR_addCharacter : y_RDR_addCharacter.cls ≠ "java/lang/invoke/MethodHandle" ∧ y_RDR_addCharacter.cls ≠ "java/lang/invoke/VarHandle" ∧ (parseMethodDescriptor y_RDR_addCharacter.desc).map (fun d => d.parameters.length) = some 1 := by decide +kernel
abbrev ws_RDR_addCharacter : List Cond := Cond.code y_RDR_addCharacter b_RDR_addCharacter 2 none :: GW
abbrev b_RDR_addFixedSet : ByteArray := prog_12_method_16_code
def y_RDR_addFixedSet : MethodName := ⟨R_RDR, "addFixedSet", "([IZ)V"⟩
theorem hd_RDR_addFixedSet : y_RDR_addFixedSet.cls ≠ "java/lang/invoke/MethodHandle" ∧ y_RDR_addFixedSet.cls ≠ "java/lang/invoke/VarHandle" ∧ (parseMethodDescriptor y_RDR_addFixedSet.desc).map (fun d => d.parameters.length) = some 2 := by decide +kernel
abbrev ws_RDR_addFixedSet : List Cond := Cond.code y_RDR_addFixedSet b_RDR_addFixedSet 3 none :: GW
abbrev b_RDR_readEscapePart : ByteArray := prog_12_method_14_code
def y_RDR_readEscapePart : MethodName := ⟨R_RDR, "readEscapePart", "()V"⟩
theorem hd_RDR_readEscapePart : y_RDR_readEscapePart.cls ≠ "java/lang/invoke/MethodHandle" ∧ y_RDR_readEscapePart.cls ≠ "java/lang/invoke/VarHandle" ∧ (parseMethodDescriptor y_RDR_readEscapePart.desc).map (fun d => d.parameters.length) = some 0 := by decide +kernel
abbrev ws_RDR_readEscapePart : List Cond := Cond.code y_RDR_readEscapePart b_RDR_readEscapePart 2 none :: GW
abbrev b_RDR_readAny : ByteArray := prog_12_method_15_code
def y_RDR_readAny : MethodName := ⟨R_RDR, "readAny", "()V"⟩
theorem hd_RDR_readAny : y_RDR_readAny.cls ≠ "java/lang/invoke/MethodHandle" ∧ y_RDR_readAny.cls ≠ "java/lang/invoke/VarHandle" ∧ (parseMethodDescriptor y_RDR_readAny.desc).map (fun d => d.parameters.length) = some 0 := by decide +kernel
abbrev ws_RDR_readAny : List Cond := Cond.code y_RDR_readAny b_RDR_readAny 1 none :: GW
abbrev b_RDR_addAssertion : ByteArray := prog_12_method_17_code
def y_RDR_addAssertion : MethodName := ⟨R_RDR, "addAssertion", "(I)V"⟩
theorem hd_RDR_addAssertion : y_RDR_addAssertion.cls ≠ "java/lang/invoke/MethodHandle" ∧ y_RDR_addAssertion.cls ≠ "java/lang/invoke/VarHandle" ∧ (parseMethodDescriptor y_RDR_addAssertion.desc).map (fun d => d.parameters.length) = some 1 := by decide +kernel
abbrev ws_RDR_addAssertion : List Cond := Cond.code y_RDR_addAssertion b_RDR_addAssertion 2 none :: GW
abbrev b_REP_readNumber : ByteArray := prog_10_method_4_code
def y_REP_readNumber : MethodName := ⟨R_REP, "readNumber", "()Z"⟩
theorem hd_REP_readNumber : y_REP_readNumber.cls ≠ "java/lang/invoke/MethodHandle" ∧ y_REP_readNumber.cls ≠ "java/lang/invoke/VarHandle" ∧ (parseMethodDescriptor y_REP_readNumber.desc).map (fun d => d.parameters.length) = some 0 := by decide +kernel
abbrev ws_REP_readNumber : List Cond := Cond.code y_REP_readNumber b_REP_readNumber 2 (some .boolean) :: GW
abbrev b_REP_readBounds : ByteArray := prog_10_method_3_code
def y_REP_readBounds : MethodName := ⟨R_REP, "readBounds", "()Z"⟩
theorem hd_REP_readBounds : y_REP_readBounds.cls ≠ "java/lang/invoke/MethodHandle" ∧ y_REP_readBounds.cls ≠ "java/lang/invoke/VarHandle" ∧ (parseMethodDescriptor y_REP_readBounds.desc).map (fun d => d.parameters.length) = some 0 := by decide +kernel
abbrev ws_REP_readBounds : List Cond := Cond.code y_REP_readBounds b_REP_readBounds 1 (some .boolean) :: GW
abbrev b_REP_readRepeat : ByteArray := prog_10_method_2_code
def y_REP_readRepeat : MethodName := ⟨R_REP, "readRepeat", "(I)Z"⟩
theorem hd_REP_readRepeat : y_REP_readRepeat.cls ≠ "java/lang/invoke/MethodHandle" ∧ y_REP_readRepeat.cls ≠ "java/lang/invoke/VarHandle" ∧ (parseMethodDescriptor y_REP_readRepeat.desc).map (fun d => d.parameters.length) = some 1 := by decide +kernel
abbrev ws_REP_readRepeat : List Cond := Cond.code y_REP_readRepeat b_REP_readRepeat 3 (some .boolean) :: GW
abbrev b_REP_hasBadTimes : ByteArray := prog_10_method_5_code
def y_REP_hasBadTimes : MethodName := ⟨R_REP, "hasBadTimes", "()Z"⟩
theorem hd_REP_hasBadTimes : y_REP_hasBadTimes.cls ≠ "java/lang/invoke/MethodHandle" ∧ y_REP_hasBadTimes.cls ≠ "java/lang/invoke/VarHandle" ∧ (parseMethodDescriptor y_REP_hasBadTimes.desc).map (fun d => d.parameters.length) = some 0 := by decide +kernel
abbrev ws_REP_hasBadTimes : List Cond := Cond.code y_REP_hasBadTimes b_REP_hasBadTimes 1 (some .boolean) :: GW
abbrev b_REP_sizeOver : ByteArray := prog_10_method_6_code
def y_REP_sizeOver : MethodName := ⟨R_REP, "sizeOver", "(I)I"⟩
theorem hd_REP_sizeOver : y_REP_sizeOver.cls ≠ "java/lang/invoke/MethodHandle" ∧ y_REP_sizeOver.cls ≠ "java/lang/invoke/VarHandle" ∧ (parseMethodDescriptor y_REP_sizeOver.desc).map (fun d => d.parameters.length) = some 1 := by decide +kernel
abbrev ws_REP_sizeOver : List Cond := Cond.code y_REP_sizeOver b_REP_sizeOver 2 (some .int) :: GW
abbrev b_RDR_addRepeat : ByteArray := prog_12_method_18_code
def y_RDR_addRepeat : MethodName := ⟨R_RDR, "addRepeat", "()V"⟩
theorem hd_RDR_addRepeat : y_RDR_addRepeat.cls ≠ "java/lang/invoke/MethodHandle" ∧ y_RDR_addRepeat.cls ≠ "java/lang/invoke/VarHandle" ∧ (parseMethodDescriptor y_RDR_addRepeat.desc).map (fun d => d.parameters.length) = some 0 := by decide +kernel
abbrev ws_RDR_addRepeat : List Cond := Cond.code y_RDR_addRepeat b_RDR_addRepeat 3 none :: GW
abbrev b_RDR_readCharacter : ByteArray := prog_12_method_19_code
def y_RDR_readCharacter : MethodName := ⟨R_RDR, "readCharacter", "()V"⟩
theorem hd_RDR_readCharacter : y_RDR_readCharacter.cls ≠ "java/lang/invoke/MethodHandle" ∧ y_RDR_readCharacter.cls ≠ "java/lang/invoke/VarHandle" ∧ (parseMethodDescriptor y_RDR_readCharacter.desc).map (fun d => d.parameters.length) = some 0 := by decide +kernel
abbrev ws_RDR_readCharacter : List Cond := Cond.code y_RDR_readCharacter b_RDR_readCharacter 2 none :: GW
abbrev b_RDR_end : ByteArray := prog_12_method_4_code
def y_RDR_end : MethodName := ⟨R_RDR, "end", "()V"⟩
theorem hd_RDR_end : y_RDR_end.cls ≠ "java/lang/invoke/MethodHandle" ∧ y_RDR_end.cls ≠ "java/lang/invoke/VarHandle" ∧ (parseMethodDescriptor y_RDR_end.desc).map (fun d => d.parameters.length) = some 0 := by decide +kernel
abbrev ws_RDR_end : List Cond := Cond.code y_RDR_end b_RDR_end 1 none :: GW
abbrev b_PAT_clear : ByteArray := prog_9_method_2_code
def y_PAT_clear : MethodName := ⟨R_PAT, "clear", "()V"⟩
theorem hd_PAT_clear : y_PAT_clear.cls ≠ "java/lang/invoke/MethodHandle" ∧ y_PAT_clear.cls ≠ "java/lang/invoke/VarHandle" ∧ (parseMethodDescriptor y_PAT_clear.desc).map (fun d => d.parameters.length) = some 0 := by decide +kernel
abbrev ws_PAT_clear : List Cond := Cond.code y_PAT_clear b_PAT_clear 1 none :: GW
abbrev b_PN_fault : ByteArray := prog_1_method_4_code
def y_PN_fault : MethodName := ⟨R_PN, "fault", "(I)I"⟩
theorem hd_PN_fault : y_PN_fault.cls ≠ "java/lang/invoke/MethodHandle" ∧ y_PN_fault.cls ≠ "java/lang/invoke/VarHandle" ∧ (parseMethodDescriptor y_PN_fault.desc).map (fun d => d.parameters.length) = some 1 := by decide +kernel
abbrev ws_PN_fault : List Cond := Cond.code y_PN_fault b_PN_fault 2 (some .int) :: GW
abbrev b_PN_count : ByteArray := prog_1_method_5_code
def y_PN_count : MethodName := ⟨R_PN, "count", "(I)I"⟩
theorem hd_PN_count : y_PN_count.cls ≠ "java/lang/invoke/MethodHandle" ∧ y_PN_count.cls ≠ "java/lang/invoke/VarHandle" ∧ (parseMethodDescriptor y_PN_count.desc).map (fun d => d.parameters.length) = some 1 := by decide +kernel
abbrev ws_PN_count : List Cond := Cond.code y_PN_count b_PN_count 2 (some .int) :: GW
abbrev b_TRE_told : ByteArray := prog_11_method_7_code
def y_TRE_told : MethodName := ⟨R_TRE, "told", "(II)I"⟩
theorem hd_TRE_told : y_TRE_told.cls ≠ "java/lang/invoke/MethodHandle" ∧ y_TRE_told.cls ≠ "java/lang/invoke/VarHandle" ∧ (parseMethodDescriptor y_TRE_told.desc).map (fun d => d.parameters.length) = some 2 := by decide +kernel
abbrev ws_TRE_told : List Cond := Cond.code y_TRE_told b_TRE_told 3 (some .int) :: GW
abbrev b_PN_node : ByteArray := prog_1_method_6_code
def y_PN_node : MethodName := ⟨R_PN, "node", "(II)I"⟩
theorem hd_PN_node : y_PN_node.cls ≠ "java/lang/invoke/MethodHandle" ∧ y_PN_node.cls ≠ "java/lang/invoke/VarHandle" ∧ (parseMethodDescriptor y_PN_node.desc).map (fun d => d.parameters.length) = some 2 := by decide +kernel
abbrev ws_PN_node : List Cond := Cond.code y_PN_node b_PN_node 3 (some .int) :: GW
abbrev b_TRE_rangeEdge : ByteArray := prog_11_method_8_code
def y_TRE_rangeEdge : MethodName := ⟨R_TRE, "rangeEdge", "(III)I"⟩
theorem hd_TRE_rangeEdge : y_TRE_rangeEdge.cls ≠ "java/lang/invoke/MethodHandle" ∧ y_TRE_rangeEdge.cls ≠ "java/lang/invoke/VarHandle" ∧ (parseMethodDescriptor y_TRE_rangeEdge.desc).map (fun d => d.parameters.length) = some 3 := by decide +kernel
abbrev ws_TRE_rangeEdge : List Cond := Cond.code y_TRE_rangeEdge b_TRE_rangeEdge 4 (some .int) :: GW
abbrev b_PN_range : ByteArray := prog_1_method_7_code
def y_PN_range : MethodName := ⟨R_PN, "range", "(III)I"⟩
theorem hd_PN_range : y_PN_range.cls ≠ "java/lang/invoke/MethodHandle" ∧ y_PN_range.cls ≠ "java/lang/invoke/VarHandle" ∧ (parseMethodDescriptor y_PN_range.desc).map (fun d => d.parameters.length) = some 3 := by decide +kernel
abbrev ws_PN_range : List Cond := Cond.code y_PN_range b_PN_range 4 (some .int) :: GW
abbrev b_GRP_nameByte : ByteArray := prog_6_method_7_code
def y_GRP_nameByte : MethodName := ⟨R_GRP, "nameByte", "(II)I"⟩
theorem hd_GRP_nameByte : y_GRP_nameByte.cls ≠ "java/lang/invoke/MethodHandle" ∧ y_GRP_nameByte.cls ≠ "java/lang/invoke/VarHandle" ∧ (parseMethodDescriptor y_GRP_nameByte.desc).map (fun d => d.parameters.length) = some 2 := by decide +kernel
abbrev ws_GRP_nameByte : List Cond := Cond.code y_GRP_nameByte b_GRP_nameByte 3 (some .int) :: GW
abbrev b_PN_name : ByteArray := prog_1_method_8_code
def y_PN_name : MethodName := ⟨R_PN, "name", "(II)I"⟩
theorem hd_PN_name : y_PN_name.cls ≠ "java/lang/invoke/MethodHandle" ∧ y_PN_name.cls ≠ "java/lang/invoke/VarHandle" ∧ (parseMethodDescriptor y_PN_name.desc).map (fun d => d.parameters.length) = some 2 := by decide +kernel
abbrev ws_PN_name : List Cond := Cond.code y_PN_name b_PN_name 3 (some .int) :: GW
abbrev b_PAT_init : ByteArray := prog_9_method_1_code
def y_PAT_init : MethodName := ⟨R_PAT, "<init>", "()V"⟩
theorem hd_PAT_init : y_PAT_init.cls ≠ "java/lang/invoke/MethodHandle" ∧ y_PAT_init.cls ≠ "java/lang/invoke/VarHandle" ∧ (parseMethodDescriptor y_PAT_init.desc).map (fun d => d.parameters.length) = some 0 := by decide +kernel
abbrev ws_PAT_init : List Cond := Cond.code y_PAT_init b_PAT_init 1 none :: GW
abbrev b_MIS_init : ByteArray := prog_5_method_1_code
def y_MIS_init : MethodName := ⟨R_MIS, "<init>", "()V"⟩
theorem hd_MIS_init : y_MIS_init.cls ≠ "java/lang/invoke/MethodHandle" ∧ y_MIS_init.cls ≠ "java/lang/invoke/VarHandle" ∧ (parseMethodDescriptor y_MIS_init.desc).map (fun d => d.parameters.length) = some 0 := by decide +kernel
abbrev ws_MIS_init : List Cond := Cond.code y_MIS_init b_MIS_init 1 none :: GW
abbrev b_TRE_init : ByteArray := prog_11_method_1_code
def y_TRE_init : MethodName := ⟨R_TRE, "<init>", "()V"⟩
theorem hd_TRE_init : y_TRE_init.cls ≠ "java/lang/invoke/MethodHandle" ∧ y_TRE_init.cls ≠ "java/lang/invoke/VarHandle" ∧ (parseMethodDescriptor y_TRE_init.desc).map (fun d => d.parameters.length) = some 0 := by decide +kernel
abbrev ws_TRE_init : List Cond := Cond.code y_TRE_init b_TRE_init 1 none :: GW
abbrev b_GRP_init : ByteArray := prog_6_method_1_code
def y_GRP_init : MethodName := ⟨R_GRP, "<init>", "()V"⟩
theorem hd_GRP_init : y_GRP_init.cls ≠ "java/lang/invoke/MethodHandle" ∧ y_GRP_init.cls ≠ "java/lang/invoke/VarHandle" ∧ (parseMethodDescriptor y_GRP_init.desc).map (fun d => d.parameters.length) = some 0 := by decide +kernel
abbrev ws_GRP_init : List Cond := Cond.code y_GRP_init b_GRP_init 1 none :: GW
abbrev b_OPN_init : ByteArray := prog_7_method_1_code
def y_OPN_init : MethodName := ⟨R_OPN, "<init>", "()V"⟩
theorem hd_OPN_init : y_OPN_init.cls ≠ "java/lang/invoke/MethodHandle" ∧ y_OPN_init.cls ≠ "java/lang/invoke/VarHandle" ∧ (parseMethodDescriptor y_OPN_init.desc).map (fun d => d.parameters.length) = some 0 := by decide +kernel
abbrev ws_OPN_init : List Cond := Cond.code y_OPN_init b_OPN_init 1 none :: GW
abbrev b_SET_init : ByteArray := prog_2_method_1_code
def y_SET_init : MethodName := ⟨R_SET, "<init>", "()V"⟩
theorem hd_SET_init : y_SET_init.cls ≠ "java/lang/invoke/MethodHandle" ∧ y_SET_init.cls ≠ "java/lang/invoke/VarHandle" ∧ (parseMethodDescriptor y_SET_init.desc).map (fun d => d.parameters.length) = some 0 := by decide +kernel
abbrev ws_SET_init : List Cond := Cond.code y_SET_init b_SET_init 1 none :: GW
abbrev b_ESC_init : ByteArray := prog_4_method_1_code
def y_ESC_init : MethodName := ⟨R_ESC, "<init>", "(LPatternNodes$Pattern;)V"⟩
theorem hd_ESC_init : y_ESC_init.cls ≠ "java/lang/invoke/MethodHandle" ∧ y_ESC_init.cls ≠ "java/lang/invoke/VarHandle" ∧ (parseMethodDescriptor y_ESC_init.desc).map (fun d => d.parameters.length) = some 1 := by decide +kernel
abbrev ws_ESC_init : List Cond := Cond.code y_ESC_init b_ESC_init 2 none :: GW
abbrev b_CLS_init : ByteArray := prog_3_method_1_code
def y_CLS_init : MethodName := ⟨R_CLS, "<init>", "(LPatternNodes$Pattern;LPatternNodes$Mistake;LPatternNodes$EscapeReader;LPatternNodes$CharacterSet;)V"⟩
theorem hd_CLS_init : y_CLS_init.cls ≠ "java/lang/invoke/MethodHandle" ∧ y_CLS_init.cls ≠ "java/lang/invoke/VarHandle" ∧ (parseMethodDescriptor y_CLS_init.desc).map (fun d => d.parameters.length) = some 4 := by decide +kernel
abbrev ws_CLS_init : List Cond := Cond.code y_CLS_init b_CLS_init 5 none :: GW
abbrev b_OPG_init : ByteArray := prog_8_method_1_code
def y_OPG_init : MethodName := ⟨R_OPG, "<init>", "(LPatternNodes$Pattern;)V"⟩
theorem hd_OPG_init : y_OPG_init.cls ≠ "java/lang/invoke/MethodHandle" ∧ y_OPG_init.cls ≠ "java/lang/invoke/VarHandle" ∧ (parseMethodDescriptor y_OPG_init.desc).map (fun d => d.parameters.length) = some 1 := by decide +kernel
abbrev ws_OPG_init : List Cond := Cond.code y_OPG_init b_OPG_init 2 none :: GW
abbrev b_REP_init : ByteArray := prog_10_method_1_code
def y_REP_init : MethodName := ⟨R_REP, "<init>", "(LPatternNodes$Pattern;)V"⟩
theorem hd_REP_init : y_REP_init.cls ≠ "java/lang/invoke/MethodHandle" ∧ y_REP_init.cls ≠ "java/lang/invoke/VarHandle" ∧ (parseMethodDescriptor y_REP_init.desc).map (fun d => d.parameters.length) = some 1 := by decide +kernel
abbrev ws_REP_init : List Cond := Cond.code y_REP_init b_REP_init 2 none :: GW
abbrev b_RDR_init : ByteArray := prog_12_method_1_code
def y_RDR_init : MethodName := ⟨R_RDR, "<init>", "(LPatternNodes$Pattern;LPatternNodes$Mistake;LPatternNodes$Tree;LPatternNodes$NumberedGroups;)V"⟩
theorem hd_RDR_init : y_RDR_init.cls ≠ "java/lang/invoke/MethodHandle" ∧ y_RDR_init.cls ≠ "java/lang/invoke/VarHandle" ∧ (parseMethodDescriptor y_RDR_init.desc).map (fun d => d.parameters.length) = some 4 := by decide +kernel
abbrev ws_RDR_init : List Cond := Cond.code y_RDR_init b_RDR_init 5 none :: GW
abbrev b_PN_init : ByteArray := prog_1_method_1_code
def y_PN_init : MethodName := ⟨R_PN, "<init>", "()V"⟩
theorem hd_PN_init : y_PN_init.cls ≠ "java/lang/invoke/MethodHandle" ∧ y_PN_init.cls ≠ "java/lang/invoke/VarHandle" ∧ (parseMethodDescriptor y_PN_init.desc).map (fun d => d.parameters.length) = some 0 := by decide +kernel
abbrev ws_PN_init : List Cond := Cond.code y_PN_init b_PN_init 1 none :: GW
abbrev o_pat (tS : Nat → Nat) (a_pat a_pat_bytes : Nat) (pat_length : Int32) : Nat × va_E := (a_pat, .inr (0, [.ref a_pat_bytes, .int pat_length]))
abbrev o_mis (tS : Nat → Nat) (a_mis : Nat) (mis_number : Int32) (mis_place : Int32) : Nat × va_E := (a_mis, .inr (1, [.int mis_number, .int mis_place]))
abbrev o_set (tS : Nat → Nat) (a_set a_set_begins a_set_ends : Nat) (set_pieces : Int32) : Nat × va_E := (a_set, .inr (2, [.ref a_set_begins, .ref a_set_ends, .int set_pieces]))
abbrev o_tre (tS : Nat → Nat) (a_tre a_tre_kinds a_tre_values a_tre_mosts a_tre_owners a_tre_sizes a_tre_firstRanges a_tre_rangeCounts a_tre_begins a_tre_ends a_tre_waiting : Nat) (tre_nodes : Int32) (tre_ranges : Int32) (tre_waits : Int32) : Nat × va_E := (a_tre, .inr (3, [.ref a_tre_kinds, .ref a_tre_values, .ref a_tre_mosts, .ref a_tre_owners, .ref a_tre_sizes, .ref a_tre_firstRanges, .ref a_tre_rangeCounts, .ref a_tre_begins, .ref a_tre_ends, .ref a_tre_waiting, .int tre_nodes, .int tre_ranges, .int tre_waits]))
abbrev o_grp (tS : Nat → Nat) (a_grp a_grp_lengths a_grp_letters : Nat) (grp_howMany : Int32) : Nat × va_E := (a_grp, .inr (4, [.ref a_grp_lengths, .ref a_grp_letters, .int grp_howMany]))
abbrev o_opn (tS : Nat → Nat) (a_opn a_opn_places a_opn_numbers a_opn_flagsAround a_opn_rows a_opn_parts : Nat) (opn_depth : Int32) : Nat × va_E := (a_opn, .inr (5, [.ref a_opn_places, .ref a_opn_numbers, .ref a_opn_flagsAround, .ref a_opn_rows, .ref a_opn_parts, .int opn_depth]))
abbrev o_esc (tS : Nat → Nat) (a_esc a_pat : Nat) (esc_kind : Int32) (esc_value : Int32) (esc_set : Nat) (esc_others : Bool) (esc_after : Int32) : Nat × va_E := (a_esc, .inr (6, [.ref a_pat, .int esc_kind, .int esc_value, .ref (tS esc_set), .int (b2i esc_others), .int esc_after]))
abbrev o_cls (tS : Nat → Nat) (a_cls a_pat a_mis a_esc a_set : Nat) (cls_single : Int32) : Nat × va_E := (a_cls, .inr (7, [.ref a_pat, .ref a_mis, .ref a_esc, .ref a_set, .int cls_single]))
abbrev o_opg (tS : Nat → Nat) (a_opg a_pat : Nat) (opg_numbered : Bool) (opg_flagsAlone : Bool) (opg_nameAt : Int32) (opg_nameLength : Int32) (opg_flags : Int32) (opg_after : Int32) : Nat × va_E := (a_opg, .inr (8, [.ref a_pat, .int (b2i opg_numbered), .int (b2i opg_flagsAlone), .int opg_nameAt, .int opg_nameLength, .int opg_flags, .int opg_after]))
abbrev o_rep (tS : Nat → Nat) (a_rep a_pat : Nat) (rep_least : Int32) (rep_most : Int32) (rep_marked : Bool) (rep_after : Int32) (rep_number : Int32) : Nat × va_E := (a_rep, .inr (9, [.ref a_pat, .int rep_least, .int rep_most, .int (b2i rep_marked), .int rep_after, .int rep_number]))
abbrev o_rdr (tS : Nat → Nat) (a_rdr a_pat a_mis a_tre a_grp a_opn a_set a_esc a_cls a_opg a_rep : Nat) (rdr_place : Int32) (rdr_flags : Int32) (rdr_repeatable : Bool) : Nat × va_E := (a_rdr, .inr (10, [.ref a_pat, .ref a_mis, .ref a_tre, .ref a_grp, .ref a_opn, .ref a_set, .ref a_esc, .ref a_cls, .ref a_opg, .ref a_rep, .int rdr_place, .int rdr_flags, .int (b2i rdr_repeatable)]))
abbrev o_pn (tS : Nat → Nat) (a_pn a_pat a_mis a_tre a_grp a_rdr : Nat)  : Nat × va_E := (a_pn, .inr (11, [.ref a_pat, .ref a_mis, .ref a_tre, .ref a_grp, .ref a_rdr]))
abbrev r_pat_bytes (cI : ClassId) (a_pat_bytes : Nat) (pat_bytes : Nat → Int32) : Nat × va_E := (a_pat_bytes, .inl (cI, 400, .inl pat_bytes))
abbrev r_set_begins (cI : ClassId) (a_set_begins : Nat) (set_begins : Nat → Int32) : Nat × va_E := (a_set_begins, .inl (cI, 1024, .inl set_begins))
abbrev r_set_ends (cI : ClassId) (a_set_ends : Nat) (set_ends : Nat → Int32) : Nat × va_E := (a_set_ends, .inl (cI, 1024, .inl set_ends))
abbrev r_tre_kinds (cI : ClassId) (a_tre_kinds : Nat) (tre_kinds : Nat → Int32) : Nat × va_E := (a_tre_kinds, .inl (cI, 512, .inl tre_kinds))
abbrev r_tre_values (cI : ClassId) (a_tre_values : Nat) (tre_values : Nat → Int32) : Nat × va_E := (a_tre_values, .inl (cI, 512, .inl tre_values))
abbrev r_tre_mosts (cI : ClassId) (a_tre_mosts : Nat) (tre_mosts : Nat → Int32) : Nat × va_E := (a_tre_mosts, .inl (cI, 512, .inl tre_mosts))
abbrev r_tre_owners (cI : ClassId) (a_tre_owners : Nat) (tre_owners : Nat → Int32) : Nat × va_E := (a_tre_owners, .inl (cI, 512, .inl tre_owners))
abbrev r_tre_sizes (cI : ClassId) (a_tre_sizes : Nat) (tre_sizes : Nat → Int32) : Nat × va_E := (a_tre_sizes, .inl (cI, 512, .inl tre_sizes))
abbrev r_tre_firstRanges (cI : ClassId) (a_tre_firstRanges : Nat) (tre_firstRanges : Nat → Int32) : Nat × va_E := (a_tre_firstRanges, .inl (cI, 512, .inl tre_firstRanges))
abbrev r_tre_rangeCounts (cI : ClassId) (a_tre_rangeCounts : Nat) (tre_rangeCounts : Nat → Int32) : Nat × va_E := (a_tre_rangeCounts, .inl (cI, 512, .inl tre_rangeCounts))
abbrev r_tre_begins (cI : ClassId) (a_tre_begins : Nat) (tre_begins : Nat → Int32) : Nat × va_E := (a_tre_begins, .inl (cI, 1600, .inl tre_begins))
abbrev r_tre_ends (cI : ClassId) (a_tre_ends : Nat) (tre_ends : Nat → Int32) : Nat × va_E := (a_tre_ends, .inl (cI, 1600, .inl tre_ends))
abbrev r_tre_waiting (cI : ClassId) (a_tre_waiting : Nat) (tre_waiting : Nat → Int32) : Nat × va_E := (a_tre_waiting, .inl (cI, 512, .inl tre_waiting))
abbrev r_grp_lengths (cI : ClassId) (a_grp_lengths : Nat) (grp_lengths : Nat → Int32) : Nat × va_E := (a_grp_lengths, .inl (cI, 10, .inl grp_lengths))
abbrev r_grp_letters (cI : ClassId) (a_grp_letters : Nat) (grp_letters : Nat → Int32) : Nat × va_E := (a_grp_letters, .inl (cI, 120, .inl grp_letters))
abbrev r_opn_places (cI : ClassId) (a_opn_places : Nat) (opn_places : Nat → Int32) : Nat × va_E := (a_opn_places, .inl (cI, 31, .inl opn_places))
abbrev r_opn_numbers (cI : ClassId) (a_opn_numbers : Nat) (opn_numbers : Nat → Int32) : Nat × va_E := (a_opn_numbers, .inl (cI, 31, .inl opn_numbers))
abbrev r_opn_flagsAround (cI : ClassId) (a_opn_flagsAround : Nat) (opn_flagsAround : Nat → Int32) : Nat × va_E := (a_opn_flagsAround, .inl (cI, 31, .inl opn_flagsAround))
abbrev r_opn_rows (cI : ClassId) (a_opn_rows : Nat) (opn_rows : Nat → Int32) : Nat × va_E := (a_opn_rows, .inl (cI, 31, .inl opn_rows))
abbrev r_opn_parts (cI : ClassId) (a_opn_parts : Nat) (opn_parts : Nat → Int32) : Nat × va_E := (a_opn_parts, .inl (cI, 31, .inl opn_parts))
abbrev w_0 (cI : ClassId) (tS : Nat → Nat) (a_pat a_pat_bytes : Nat) (pat_length : Int32) (pat_bytes : Nat → Int32) : va_W := [o_pat tS a_pat a_pat_bytes pat_length, r_pat_bytes cI a_pat_bytes pat_bytes]
abbrev w_1 (cI : ClassId) (tS : Nat → Nat) (a_pat a_pat_bytes a_pn a_mis a_tre a_grp a_rdr : Nat) (pat_length : Int32) (pat_bytes : Nat → Int32) : va_W := [o_pat tS a_pat a_pat_bytes pat_length, o_pn tS a_pn a_pat a_mis a_tre a_grp a_rdr , r_pat_bytes cI a_pat_bytes pat_bytes]
abbrev w_2 (cI : ClassId) (tS : Nat → Nat) (a_mis : Nat) (mis_number : Int32) (mis_place : Int32) : va_W := [o_mis tS a_mis mis_number mis_place]
abbrev w_3 (cI : ClassId) (tS : Nat → Nat) (a_tre a_tre_kinds a_tre_values a_tre_mosts a_tre_owners a_tre_sizes a_tre_firstRanges a_tre_rangeCounts a_tre_begins a_tre_ends a_tre_waiting : Nat) (tre_nodes : Int32) (tre_ranges : Int32) (tre_waits : Int32) : va_W := [o_tre tS a_tre a_tre_kinds a_tre_values a_tre_mosts a_tre_owners a_tre_sizes a_tre_firstRanges a_tre_rangeCounts a_tre_begins a_tre_ends a_tre_waiting tre_nodes tre_ranges tre_waits]
abbrev w_4 (cI : ClassId) (tS : Nat → Nat) (a_grp a_grp_lengths a_grp_letters : Nat) (grp_howMany : Int32) : va_W := [o_grp tS a_grp a_grp_lengths a_grp_letters grp_howMany]
abbrev w_5 (cI : ClassId) (tS : Nat → Nat) (a_opn a_opn_places a_opn_numbers a_opn_flagsAround a_opn_rows a_opn_parts : Nat) (opn_depth : Int32) (opn_rows : Nat → Int32) (opn_parts : Nat → Int32) : va_W := [o_opn tS a_opn a_opn_places a_opn_numbers a_opn_flagsAround a_opn_rows a_opn_parts opn_depth, r_opn_rows cI a_opn_rows opn_rows, r_opn_parts cI a_opn_parts opn_parts]
abbrev w_6 (cI : ClassId) (tS : Nat → Nat) (a_mis a_tre a_tre_kinds a_tre_values a_tre_mosts a_tre_owners a_tre_sizes a_tre_firstRanges a_tre_rangeCounts a_tre_begins a_tre_ends a_tre_waiting a_grp a_grp_lengths a_grp_letters a_opn a_opn_places a_opn_numbers a_opn_flagsAround a_opn_rows a_opn_parts a_rdr a_pat a_set a_esc a_cls a_opg a_rep : Nat) (mis_number : Int32) (mis_place : Int32) (tre_nodes : Int32) (tre_ranges : Int32) (tre_waits : Int32) (grp_howMany : Int32) (opn_depth : Int32) (rdr_place : Int32) (rdr_flags : Int32) (rdr_repeatable : Bool) (opn_rows : Nat → Int32) (opn_parts : Nat → Int32) : va_W := [o_mis tS a_mis mis_number mis_place, o_tre tS a_tre a_tre_kinds a_tre_values a_tre_mosts a_tre_owners a_tre_sizes a_tre_firstRanges a_tre_rangeCounts a_tre_begins a_tre_ends a_tre_waiting tre_nodes tre_ranges tre_waits, o_grp tS a_grp a_grp_lengths a_grp_letters grp_howMany, o_opn tS a_opn a_opn_places a_opn_numbers a_opn_flagsAround a_opn_rows a_opn_parts opn_depth, o_rdr tS a_rdr a_pat a_mis a_tre a_grp a_opn a_set a_esc a_cls a_opg a_rep rdr_place rdr_flags rdr_repeatable, r_opn_rows cI a_opn_rows opn_rows, r_opn_parts cI a_opn_parts opn_parts]
abbrev w_7 (cI : ClassId) (tS : Nat → Nat) (a_pat a_pat_bytes a_mis a_rdr a_tre a_grp a_opn a_set a_esc a_cls a_opg a_rep : Nat) (pat_length : Int32) (mis_number : Int32) (mis_place : Int32) (rdr_place : Int32) (rdr_flags : Int32) (rdr_repeatable : Bool) : va_W := [o_pat tS a_pat a_pat_bytes pat_length, o_mis tS a_mis mis_number mis_place, o_rdr tS a_rdr a_pat a_mis a_tre a_grp a_opn a_set a_esc a_cls a_opg a_rep rdr_place rdr_flags rdr_repeatable]
abbrev w_8 (cI : ClassId) (tS : Nat → Nat) (a_tre a_tre_kinds a_tre_values a_tre_mosts a_tre_owners a_tre_sizes a_tre_firstRanges a_tre_rangeCounts a_tre_begins a_tre_ends a_tre_waiting : Nat) (tre_nodes : Int32) (tre_ranges : Int32) (tre_waits : Int32) (tre_sizes : Nat → Int32) (tre_waiting : Nat → Int32) : va_W := [o_tre tS a_tre a_tre_kinds a_tre_values a_tre_mosts a_tre_owners a_tre_sizes a_tre_firstRanges a_tre_rangeCounts a_tre_begins a_tre_ends a_tre_waiting tre_nodes tre_ranges tre_waits, r_tre_sizes cI a_tre_sizes tre_sizes, r_tre_waiting cI a_tre_waiting tre_waiting]
abbrev w_9 (cI : ClassId) (tS : Nat → Nat) (a_tre a_tre_kinds a_tre_values a_tre_mosts a_tre_owners a_tre_sizes a_tre_firstRanges a_tre_rangeCounts a_tre_begins a_tre_ends a_tre_waiting : Nat) (tre_nodes : Int32) (tre_ranges : Int32) (tre_waits : Int32) (tre_kinds : Nat → Int32) (tre_values : Nat → Int32) (tre_mosts : Nat → Int32) (tre_owners : Nat → Int32) (tre_sizes : Nat → Int32) (tre_firstRanges : Nat → Int32) (tre_rangeCounts : Nat → Int32) (tre_waiting : Nat → Int32) : va_W := [o_tre tS a_tre a_tre_kinds a_tre_values a_tre_mosts a_tre_owners a_tre_sizes a_tre_firstRanges a_tre_rangeCounts a_tre_begins a_tre_ends a_tre_waiting tre_nodes tre_ranges tre_waits, r_tre_kinds cI a_tre_kinds tre_kinds, r_tre_values cI a_tre_values tre_values, r_tre_mosts cI a_tre_mosts tre_mosts, r_tre_owners cI a_tre_owners tre_owners, r_tre_sizes cI a_tre_sizes tre_sizes, r_tre_firstRanges cI a_tre_firstRanges tre_firstRanges, r_tre_rangeCounts cI a_tre_rangeCounts tre_rangeCounts, r_tre_waiting cI a_tre_waiting tre_waiting]
abbrev w_10 (cI : ClassId) (tS : Nat → Nat) (a_tre a_tre_kinds a_tre_values a_tre_mosts a_tre_owners a_tre_sizes a_tre_firstRanges a_tre_rangeCounts a_tre_begins a_tre_ends a_tre_waiting a_opn a_opn_places a_opn_numbers a_opn_flagsAround a_opn_rows a_opn_parts a_rdr a_pat a_mis a_grp a_set a_esc a_cls a_opg a_rep : Nat) (tre_nodes : Int32) (tre_ranges : Int32) (tre_waits : Int32) (opn_depth : Int32) (rdr_place : Int32) (rdr_flags : Int32) (rdr_repeatable : Bool) (tre_kinds : Nat → Int32) (tre_values : Nat → Int32) (tre_mosts : Nat → Int32) (tre_owners : Nat → Int32) (tre_sizes : Nat → Int32) (tre_firstRanges : Nat → Int32) (tre_rangeCounts : Nat → Int32) (tre_waiting : Nat → Int32) (opn_rows : Nat → Int32) (opn_parts : Nat → Int32) : va_W := [o_tre tS a_tre a_tre_kinds a_tre_values a_tre_mosts a_tre_owners a_tre_sizes a_tre_firstRanges a_tre_rangeCounts a_tre_begins a_tre_ends a_tre_waiting tre_nodes tre_ranges tre_waits, o_opn tS a_opn a_opn_places a_opn_numbers a_opn_flagsAround a_opn_rows a_opn_parts opn_depth, o_rdr tS a_rdr a_pat a_mis a_tre a_grp a_opn a_set a_esc a_cls a_opg a_rep rdr_place rdr_flags rdr_repeatable, r_tre_kinds cI a_tre_kinds tre_kinds, r_tre_values cI a_tre_values tre_values, r_tre_mosts cI a_tre_mosts tre_mosts, r_tre_owners cI a_tre_owners tre_owners, r_tre_sizes cI a_tre_sizes tre_sizes, r_tre_firstRanges cI a_tre_firstRanges tre_firstRanges, r_tre_rangeCounts cI a_tre_rangeCounts tre_rangeCounts, r_tre_waiting cI a_tre_waiting tre_waiting, r_opn_rows cI a_opn_rows opn_rows, r_opn_parts cI a_opn_parts opn_parts]
abbrev w_11 (cI : ClassId) (tS : Nat → Nat)  : va_W := []
abbrev w_12 (cI : ClassId) (tS : Nat → Nat) (a_pat a_pat_bytes a_opg : Nat) (pat_length : Int32) (opg_numbered : Bool) (opg_flagsAlone : Bool) (opg_nameAt : Int32) (opg_nameLength : Int32) (opg_flags : Int32) (opg_after : Int32) (pat_bytes : Nat → Int32) : va_W := [o_pat tS a_pat a_pat_bytes pat_length, o_opg tS a_opg a_pat opg_numbered opg_flagsAlone opg_nameAt opg_nameLength opg_flags opg_after, r_pat_bytes cI a_pat_bytes pat_bytes]
abbrev w_13 (cI : ClassId) (tS : Nat → Nat) (a_opn a_opn_places a_opn_numbers a_opn_flagsAround a_opn_rows a_opn_parts a_rdr a_pat a_mis a_tre a_grp a_set a_esc a_cls a_opg a_rep : Nat) (opn_depth : Int32) (rdr_place : Int32) (rdr_flags : Int32) (rdr_repeatable : Bool) (opn_parts : Nat → Int32) : va_W := [o_opn tS a_opn a_opn_places a_opn_numbers a_opn_flagsAround a_opn_rows a_opn_parts opn_depth, o_rdr tS a_rdr a_pat a_mis a_tre a_grp a_opn a_set a_esc a_cls a_opg a_rep rdr_place rdr_flags rdr_repeatable, r_opn_parts cI a_opn_parts opn_parts]
abbrev w_14 (cI : ClassId) (tS : Nat → Nat) (a_pat a_pat_bytes a_grp a_grp_lengths a_grp_letters : Nat) (pat_length : Int32) (grp_howMany : Int32) (pat_bytes : Nat → Int32) (grp_lengths : Nat → Int32) (grp_letters : Nat → Int32) : va_W := [o_pat tS a_pat a_pat_bytes pat_length, o_grp tS a_grp a_grp_lengths a_grp_letters grp_howMany, r_pat_bytes cI a_pat_bytes pat_bytes, r_grp_lengths cI a_grp_lengths grp_lengths, r_grp_letters cI a_grp_letters grp_letters]
abbrev w_15 (cI : ClassId) (tS : Nat → Nat) (a_opn a_opn_places a_opn_numbers a_opn_flagsAround a_opn_rows a_opn_parts : Nat) (opn_depth : Int32) (opn_places : Nat → Int32) (opn_numbers : Nat → Int32) (opn_flagsAround : Nat → Int32) (opn_rows : Nat → Int32) (opn_parts : Nat → Int32) : va_W := [o_opn tS a_opn a_opn_places a_opn_numbers a_opn_flagsAround a_opn_rows a_opn_parts opn_depth, r_opn_places cI a_opn_places opn_places, r_opn_numbers cI a_opn_numbers opn_numbers, r_opn_flagsAround cI a_opn_flagsAround opn_flagsAround, r_opn_rows cI a_opn_rows opn_rows, r_opn_parts cI a_opn_parts opn_parts]
abbrev w_16 (cI : ClassId) (tS : Nat → Nat) (a_pat a_pat_bytes a_grp a_grp_lengths a_grp_letters a_opn a_opn_places a_opn_numbers a_opn_flagsAround a_opn_rows a_opn_parts a_opg a_rdr a_mis a_tre a_set a_esc a_cls a_rep : Nat) (pat_length : Int32) (grp_howMany : Int32) (opn_depth : Int32) (opg_numbered : Bool) (opg_flagsAlone : Bool) (opg_nameAt : Int32) (opg_nameLength : Int32) (opg_flags : Int32) (opg_after : Int32) (rdr_place : Int32) (rdr_flags : Int32) (rdr_repeatable : Bool) (pat_bytes : Nat → Int32) (grp_lengths : Nat → Int32) (grp_letters : Nat → Int32) (opn_places : Nat → Int32) (opn_numbers : Nat → Int32) (opn_flagsAround : Nat → Int32) (opn_rows : Nat → Int32) (opn_parts : Nat → Int32) : va_W := [o_pat tS a_pat a_pat_bytes pat_length, o_grp tS a_grp a_grp_lengths a_grp_letters grp_howMany, o_opn tS a_opn a_opn_places a_opn_numbers a_opn_flagsAround a_opn_rows a_opn_parts opn_depth, o_opg tS a_opg a_pat opg_numbered opg_flagsAlone opg_nameAt opg_nameLength opg_flags opg_after, o_rdr tS a_rdr a_pat a_mis a_tre a_grp a_opn a_set a_esc a_cls a_opg a_rep rdr_place rdr_flags rdr_repeatable, r_pat_bytes cI a_pat_bytes pat_bytes, r_grp_lengths cI a_grp_lengths grp_lengths, r_grp_letters cI a_grp_letters grp_letters, r_opn_places cI a_opn_places opn_places, r_opn_numbers cI a_opn_numbers opn_numbers, r_opn_flagsAround cI a_opn_flagsAround opn_flagsAround, r_opn_rows cI a_opn_rows opn_rows, r_opn_parts cI a_opn_parts opn_parts]
abbrev w_17 (cI : ClassId) (tS : Nat → Nat) (a_pat a_pat_bytes a_mis a_tre a_tre_kinds a_tre_values a_tre_mosts a_tre_owners a_tre_sizes a_tre_firstRanges a_tre_rangeCounts a_tre_begins a_tre_ends a_tre_waiting a_grp a_grp_lengths a_grp_letters a_opn a_opn_places a_opn_numbers a_opn_flagsAround a_opn_rows a_opn_parts a_opg a_rdr a_set a_esc a_cls a_rep : Nat) (pat_length : Int32) (mis_number : Int32) (mis_place : Int32) (tre_nodes : Int32) (tre_ranges : Int32) (tre_waits : Int32) (grp_howMany : Int32) (opn_depth : Int32) (opg_numbered : Bool) (opg_flagsAlone : Bool) (opg_nameAt : Int32) (opg_nameLength : Int32) (opg_flags : Int32) (opg_after : Int32) (rdr_place : Int32) (rdr_flags : Int32) (rdr_repeatable : Bool) (pat_bytes : Nat → Int32) (tre_kinds : Nat → Int32) (tre_values : Nat → Int32) (tre_mosts : Nat → Int32) (tre_owners : Nat → Int32) (tre_sizes : Nat → Int32) (tre_firstRanges : Nat → Int32) (tre_rangeCounts : Nat → Int32) (tre_waiting : Nat → Int32) (grp_lengths : Nat → Int32) (grp_letters : Nat → Int32) (opn_places : Nat → Int32) (opn_numbers : Nat → Int32) (opn_flagsAround : Nat → Int32) (opn_rows : Nat → Int32) (opn_parts : Nat → Int32) : va_W := [o_pat tS a_pat a_pat_bytes pat_length, o_mis tS a_mis mis_number mis_place, o_tre tS a_tre a_tre_kinds a_tre_values a_tre_mosts a_tre_owners a_tre_sizes a_tre_firstRanges a_tre_rangeCounts a_tre_begins a_tre_ends a_tre_waiting tre_nodes tre_ranges tre_waits, o_grp tS a_grp a_grp_lengths a_grp_letters grp_howMany, o_opn tS a_opn a_opn_places a_opn_numbers a_opn_flagsAround a_opn_rows a_opn_parts opn_depth, o_opg tS a_opg a_pat opg_numbered opg_flagsAlone opg_nameAt opg_nameLength opg_flags opg_after, o_rdr tS a_rdr a_pat a_mis a_tre a_grp a_opn a_set a_esc a_cls a_opg a_rep rdr_place rdr_flags rdr_repeatable, r_pat_bytes cI a_pat_bytes pat_bytes, r_tre_kinds cI a_tre_kinds tre_kinds, r_tre_values cI a_tre_values tre_values, r_tre_mosts cI a_tre_mosts tre_mosts, r_tre_owners cI a_tre_owners tre_owners, r_tre_sizes cI a_tre_sizes tre_sizes, r_tre_firstRanges cI a_tre_firstRanges tre_firstRanges, r_tre_rangeCounts cI a_tre_rangeCounts tre_rangeCounts, r_tre_waiting cI a_tre_waiting tre_waiting, r_grp_lengths cI a_grp_lengths grp_lengths, r_grp_letters cI a_grp_letters grp_letters, r_opn_places cI a_opn_places opn_places, r_opn_numbers cI a_opn_numbers opn_numbers, r_opn_flagsAround cI a_opn_flagsAround opn_flagsAround, r_opn_rows cI a_opn_rows opn_rows, r_opn_parts cI a_opn_parts opn_parts]
abbrev w_18 (cI : ClassId) (tS : Nat → Nat) (a_opn a_opn_places a_opn_numbers a_opn_flagsAround a_opn_rows a_opn_parts : Nat) (opn_depth : Int32) : va_W := [o_opn tS a_opn a_opn_places a_opn_numbers a_opn_flagsAround a_opn_rows a_opn_parts opn_depth]
abbrev w_19 (cI : ClassId) (tS : Nat → Nat) (a_mis a_tre a_tre_kinds a_tre_values a_tre_mosts a_tre_owners a_tre_sizes a_tre_firstRanges a_tre_rangeCounts a_tre_begins a_tre_ends a_tre_waiting a_opn a_opn_places a_opn_numbers a_opn_flagsAround a_opn_rows a_opn_parts a_rdr a_pat a_grp a_set a_esc a_cls a_opg a_rep : Nat) (mis_number : Int32) (mis_place : Int32) (tre_nodes : Int32) (tre_ranges : Int32) (tre_waits : Int32) (opn_depth : Int32) (rdr_place : Int32) (rdr_flags : Int32) (rdr_repeatable : Bool) (tre_kinds : Nat → Int32) (tre_values : Nat → Int32) (tre_mosts : Nat → Int32) (tre_owners : Nat → Int32) (tre_sizes : Nat → Int32) (tre_firstRanges : Nat → Int32) (tre_rangeCounts : Nat → Int32) (tre_waiting : Nat → Int32) (opn_numbers : Nat → Int32) (opn_flagsAround : Nat → Int32) (opn_rows : Nat → Int32) (opn_parts : Nat → Int32) : va_W := [o_mis tS a_mis mis_number mis_place, o_tre tS a_tre a_tre_kinds a_tre_values a_tre_mosts a_tre_owners a_tre_sizes a_tre_firstRanges a_tre_rangeCounts a_tre_begins a_tre_ends a_tre_waiting tre_nodes tre_ranges tre_waits, o_opn tS a_opn a_opn_places a_opn_numbers a_opn_flagsAround a_opn_rows a_opn_parts opn_depth, o_rdr tS a_rdr a_pat a_mis a_tre a_grp a_opn a_set a_esc a_cls a_opg a_rep rdr_place rdr_flags rdr_repeatable, r_tre_kinds cI a_tre_kinds tre_kinds, r_tre_values cI a_tre_values tre_values, r_tre_mosts cI a_tre_mosts tre_mosts, r_tre_owners cI a_tre_owners tre_owners, r_tre_sizes cI a_tre_sizes tre_sizes, r_tre_firstRanges cI a_tre_firstRanges tre_firstRanges, r_tre_rangeCounts cI a_tre_rangeCounts tre_rangeCounts, r_tre_waiting cI a_tre_waiting tre_waiting, r_opn_numbers cI a_opn_numbers opn_numbers, r_opn_flagsAround cI a_opn_flagsAround opn_flagsAround, r_opn_rows cI a_opn_rows opn_rows, r_opn_parts cI a_opn_parts opn_parts]
abbrev w_20 (cI : ClassId) (tS : Nat → Nat) (a_rdr a_pat a_mis a_tre a_grp a_opn a_set a_esc a_cls a_opg a_rep : Nat) (rdr_place : Int32) (rdr_flags : Int32) (rdr_repeatable : Bool) : va_W := [o_rdr tS a_rdr a_pat a_mis a_tre a_grp a_opn a_set a_esc a_cls a_opg a_rep rdr_place rdr_flags rdr_repeatable]
abbrev w_21 (cI : ClassId) (tS : Nat → Nat) (a_set a_set_begins a_set_ends : Nat) (set_pieces : Int32) : va_W := [o_set tS a_set a_set_begins a_set_ends set_pieces]
abbrev w_22 (cI : ClassId) (tS : Nat → Nat) (a_set a_set_begins a_set_ends : Nat) (set_pieces : Int32) (set_begins : Nat → Int32) (set_ends : Nat → Int32) : va_W := [o_set tS a_set a_set_begins a_set_ends set_pieces, r_set_begins cI a_set_begins set_begins, r_set_ends cI a_set_ends set_ends]
abbrev w_23 (cI : ClassId) (tS : Nat → Nat) (a_pat a_pat_bytes a_cls a_mis a_esc a_set : Nat) (pat_length : Int32) (cls_single : Int32) (pat_bytes : Nat → Int32) : va_W := [o_pat tS a_pat a_pat_bytes pat_length, o_cls tS a_cls a_pat a_mis a_esc a_set cls_single, r_pat_bytes cI a_pat_bytes pat_bytes]
abbrev w_24 (cI : ClassId) (tS : Nat → Nat) (a_esc a_pat : Nat) (esc_kind : Int32) (esc_value : Int32) (esc_set : Nat) (esc_others : Bool) (esc_after : Int32) : va_W := [o_esc tS a_esc a_pat esc_kind esc_value esc_set esc_others esc_after]
abbrev w_25 (cI : ClassId) (tS : Nat → Nat) (a_pat a_pat_bytes a_esc : Nat) (pat_length : Int32) (esc_kind : Int32) (esc_value : Int32) (esc_set : Nat) (esc_others : Bool) (esc_after : Int32) (pat_bytes : Nat → Int32) : va_W := [o_pat tS a_pat a_pat_bytes pat_length, o_esc tS a_esc a_pat esc_kind esc_value esc_set esc_others esc_after, r_pat_bytes cI a_pat_bytes pat_bytes]
abbrev w_26 (cI : ClassId) (tS : Nat → Nat) (a_mis a_cls a_pat a_esc a_set : Nat) (mis_number : Int32) (mis_place : Int32) (cls_single : Int32) : va_W := [o_mis tS a_mis mis_number mis_place, o_cls tS a_cls a_pat a_mis a_esc a_set cls_single]
abbrev w_27 (cI : ClassId) (tS : Nat → Nat) (a_pat a_pat_bytes a_mis a_set a_set_begins a_set_ends a_esc a_cls : Nat) (pat_length : Int32) (mis_number : Int32) (mis_place : Int32) (set_pieces : Int32) (esc_kind : Int32) (esc_value : Int32) (esc_set : Nat) (esc_others : Bool) (esc_after : Int32) (cls_single : Int32) (pat_bytes : Nat → Int32) (set_begins : Nat → Int32) (set_ends : Nat → Int32) : va_W := [o_pat tS a_pat a_pat_bytes pat_length, o_mis tS a_mis mis_number mis_place, o_set tS a_set a_set_begins a_set_ends set_pieces, o_esc tS a_esc a_pat esc_kind esc_value esc_set esc_others esc_after, o_cls tS a_cls a_pat a_mis a_esc a_set cls_single, r_pat_bytes cI a_pat_bytes pat_bytes, r_set_begins cI a_set_begins set_begins, r_set_ends cI a_set_ends set_ends]
abbrev w_28 (cI : ClassId) (tS : Nat → Nat) (a_pat a_pat_bytes a_mis a_esc a_cls a_set : Nat) (pat_length : Int32) (mis_number : Int32) (mis_place : Int32) (esc_kind : Int32) (esc_value : Int32) (esc_set : Nat) (esc_others : Bool) (esc_after : Int32) (cls_single : Int32) (pat_bytes : Nat → Int32) : va_W := [o_pat tS a_pat a_pat_bytes pat_length, o_mis tS a_mis mis_number mis_place, o_esc tS a_esc a_pat esc_kind esc_value esc_set esc_others esc_after, o_cls tS a_cls a_pat a_mis a_esc a_set cls_single, r_pat_bytes cI a_pat_bytes pat_bytes]
abbrev w_29 (cI : ClassId) (tS : Nat → Nat) (a_set a_set_begins a_set_ends a_tre a_tre_kinds a_tre_values a_tre_mosts a_tre_owners a_tre_sizes a_tre_firstRanges a_tre_rangeCounts a_tre_begins a_tre_ends a_tre_waiting : Nat) (set_pieces : Int32) (tre_nodes : Int32) (tre_ranges : Int32) (tre_waits : Int32) (set_begins : Nat → Int32) (set_ends : Nat → Int32) (tre_kinds : Nat → Int32) (tre_values : Nat → Int32) (tre_mosts : Nat → Int32) (tre_owners : Nat → Int32) (tre_sizes : Nat → Int32) (tre_firstRanges : Nat → Int32) (tre_rangeCounts : Nat → Int32) (tre_begins : Nat → Int32) (tre_ends : Nat → Int32) (tre_waiting : Nat → Int32) : va_W := [o_set tS a_set a_set_begins a_set_ends set_pieces, o_tre tS a_tre a_tre_kinds a_tre_values a_tre_mosts a_tre_owners a_tre_sizes a_tre_firstRanges a_tre_rangeCounts a_tre_begins a_tre_ends a_tre_waiting tre_nodes tre_ranges tre_waits, r_set_begins cI a_set_begins set_begins, r_set_ends cI a_set_ends set_ends, r_tre_kinds cI a_tre_kinds tre_kinds, r_tre_values cI a_tre_values tre_values, r_tre_mosts cI a_tre_mosts tre_mosts, r_tre_owners cI a_tre_owners tre_owners, r_tre_sizes cI a_tre_sizes tre_sizes, r_tre_firstRanges cI a_tre_firstRanges tre_firstRanges, r_tre_rangeCounts cI a_tre_rangeCounts tre_rangeCounts, r_tre_begins cI a_tre_begins tre_begins, r_tre_ends cI a_tre_ends tre_ends, r_tre_waiting cI a_tre_waiting tre_waiting]
abbrev w_30 (cI : ClassId) (tS : Nat → Nat) (a_set a_set_begins a_set_ends a_tre a_tre_kinds a_tre_values a_tre_mosts a_tre_owners a_tre_sizes a_tre_firstRanges a_tre_rangeCounts a_tre_begins a_tre_ends a_tre_waiting a_opn a_opn_places a_opn_numbers a_opn_flagsAround a_opn_rows a_opn_parts a_rdr a_pat a_mis a_grp a_esc a_cls a_opg a_rep : Nat) (set_pieces : Int32) (tre_nodes : Int32) (tre_ranges : Int32) (tre_waits : Int32) (opn_depth : Int32) (rdr_place : Int32) (rdr_flags : Int32) (rdr_repeatable : Bool) (set_begins : Nat → Int32) (set_ends : Nat → Int32) (tre_kinds : Nat → Int32) (tre_values : Nat → Int32) (tre_mosts : Nat → Int32) (tre_owners : Nat → Int32) (tre_sizes : Nat → Int32) (tre_firstRanges : Nat → Int32) (tre_rangeCounts : Nat → Int32) (tre_begins : Nat → Int32) (tre_ends : Nat → Int32) (tre_waiting : Nat → Int32) (opn_parts : Nat → Int32) : va_W := [o_set tS a_set a_set_begins a_set_ends set_pieces, o_tre tS a_tre a_tre_kinds a_tre_values a_tre_mosts a_tre_owners a_tre_sizes a_tre_firstRanges a_tre_rangeCounts a_tre_begins a_tre_ends a_tre_waiting tre_nodes tre_ranges tre_waits, o_opn tS a_opn a_opn_places a_opn_numbers a_opn_flagsAround a_opn_rows a_opn_parts opn_depth, o_rdr tS a_rdr a_pat a_mis a_tre a_grp a_opn a_set a_esc a_cls a_opg a_rep rdr_place rdr_flags rdr_repeatable, r_set_begins cI a_set_begins set_begins, r_set_ends cI a_set_ends set_ends, r_tre_kinds cI a_tre_kinds tre_kinds, r_tre_values cI a_tre_values tre_values, r_tre_mosts cI a_tre_mosts tre_mosts, r_tre_owners cI a_tre_owners tre_owners, r_tre_sizes cI a_tre_sizes tre_sizes, r_tre_firstRanges cI a_tre_firstRanges tre_firstRanges, r_tre_rangeCounts cI a_tre_rangeCounts tre_rangeCounts, r_tre_begins cI a_tre_begins tre_begins, r_tre_ends cI a_tre_ends tre_ends, r_tre_waiting cI a_tre_waiting tre_waiting, r_opn_parts cI a_opn_parts opn_parts]
abbrev w_31 (cI : ClassId) (tS : Nat → Nat) (a_set a_set_begins a_set_ends a_tre a_tre_kinds a_tre_values a_tre_mosts a_tre_owners a_tre_sizes a_tre_firstRanges a_tre_rangeCounts a_tre_begins a_tre_ends a_tre_waiting a_rdr a_pat a_mis a_grp a_opn a_esc a_cls a_opg a_rep : Nat) (set_pieces : Int32) (tre_nodes : Int32) (tre_ranges : Int32) (tre_waits : Int32) (rdr_place : Int32) (rdr_flags : Int32) (rdr_repeatable : Bool) (set_begins : Nat → Int32) (set_ends : Nat → Int32) (tre_kinds : Nat → Int32) (tre_values : Nat → Int32) (tre_mosts : Nat → Int32) (tre_owners : Nat → Int32) (tre_sizes : Nat → Int32) (tre_firstRanges : Nat → Int32) (tre_rangeCounts : Nat → Int32) (tre_begins : Nat → Int32) (tre_ends : Nat → Int32) (tre_waiting : Nat → Int32) : va_W := [o_set tS a_set a_set_begins a_set_ends set_pieces, o_tre tS a_tre a_tre_kinds a_tre_values a_tre_mosts a_tre_owners a_tre_sizes a_tre_firstRanges a_tre_rangeCounts a_tre_begins a_tre_ends a_tre_waiting tre_nodes tre_ranges tre_waits, o_rdr tS a_rdr a_pat a_mis a_tre a_grp a_opn a_set a_esc a_cls a_opg a_rep rdr_place rdr_flags rdr_repeatable, r_set_begins cI a_set_begins set_begins, r_set_ends cI a_set_ends set_ends, r_tre_kinds cI a_tre_kinds tre_kinds, r_tre_values cI a_tre_values tre_values, r_tre_mosts cI a_tre_mosts tre_mosts, r_tre_owners cI a_tre_owners tre_owners, r_tre_sizes cI a_tre_sizes tre_sizes, r_tre_firstRanges cI a_tre_firstRanges tre_firstRanges, r_tre_rangeCounts cI a_tre_rangeCounts tre_rangeCounts, r_tre_begins cI a_tre_begins tre_begins, r_tre_ends cI a_tre_ends tre_ends, r_tre_waiting cI a_tre_waiting tre_waiting]
abbrev w_32 (cI : ClassId) (tS : Nat → Nat) (a_pat a_pat_bytes a_mis a_set a_set_begins a_set_ends a_tre a_tre_kinds a_tre_values a_tre_mosts a_tre_owners a_tre_sizes a_tre_firstRanges a_tre_rangeCounts a_tre_begins a_tre_ends a_tre_waiting a_opn a_opn_places a_opn_numbers a_opn_flagsAround a_opn_rows a_opn_parts a_esc a_rdr a_grp a_cls a_opg a_rep : Nat) (pat_length : Int32) (mis_number : Int32) (mis_place : Int32) (set_pieces : Int32) (tre_nodes : Int32) (tre_ranges : Int32) (tre_waits : Int32) (opn_depth : Int32) (esc_kind : Int32) (esc_value : Int32) (esc_set : Nat) (esc_others : Bool) (esc_after : Int32) (rdr_place : Int32) (rdr_flags : Int32) (rdr_repeatable : Bool) (pat_bytes : Nat → Int32) (set_begins : Nat → Int32) (set_ends : Nat → Int32) (tre_kinds : Nat → Int32) (tre_values : Nat → Int32) (tre_mosts : Nat → Int32) (tre_owners : Nat → Int32) (tre_sizes : Nat → Int32) (tre_firstRanges : Nat → Int32) (tre_rangeCounts : Nat → Int32) (tre_begins : Nat → Int32) (tre_ends : Nat → Int32) (tre_waiting : Nat → Int32) (opn_parts : Nat → Int32) : va_W := [o_pat tS a_pat a_pat_bytes pat_length, o_mis tS a_mis mis_number mis_place, o_set tS a_set a_set_begins a_set_ends set_pieces, o_tre tS a_tre a_tre_kinds a_tre_values a_tre_mosts a_tre_owners a_tre_sizes a_tre_firstRanges a_tre_rangeCounts a_tre_begins a_tre_ends a_tre_waiting tre_nodes tre_ranges tre_waits, o_opn tS a_opn a_opn_places a_opn_numbers a_opn_flagsAround a_opn_rows a_opn_parts opn_depth, o_esc tS a_esc a_pat esc_kind esc_value esc_set esc_others esc_after, o_rdr tS a_rdr a_pat a_mis a_tre a_grp a_opn a_set a_esc a_cls a_opg a_rep rdr_place rdr_flags rdr_repeatable, r_pat_bytes cI a_pat_bytes pat_bytes, r_set_begins cI a_set_begins set_begins, r_set_ends cI a_set_ends set_ends, r_tre_kinds cI a_tre_kinds tre_kinds, r_tre_values cI a_tre_values tre_values, r_tre_mosts cI a_tre_mosts tre_mosts, r_tre_owners cI a_tre_owners tre_owners, r_tre_sizes cI a_tre_sizes tre_sizes, r_tre_firstRanges cI a_tre_firstRanges tre_firstRanges, r_tre_rangeCounts cI a_tre_rangeCounts tre_rangeCounts, r_tre_begins cI a_tre_begins tre_begins, r_tre_ends cI a_tre_ends tre_ends, r_tre_waiting cI a_tre_waiting tre_waiting, r_opn_parts cI a_opn_parts opn_parts]
abbrev w_33 (cI : ClassId) (tS : Nat → Nat) (a_tre a_tre_kinds a_tre_values a_tre_mosts a_tre_owners a_tre_sizes a_tre_firstRanges a_tre_rangeCounts a_tre_begins a_tre_ends a_tre_waiting a_opn a_opn_places a_opn_numbers a_opn_flagsAround a_opn_rows a_opn_parts a_rdr a_pat a_mis a_grp a_set a_esc a_cls a_opg a_rep : Nat) (tre_nodes : Int32) (tre_ranges : Int32) (tre_waits : Int32) (opn_depth : Int32) (rdr_place : Int32) (rdr_flags : Int32) (rdr_repeatable : Bool) (tre_kinds : Nat → Int32) (tre_values : Nat → Int32) (tre_mosts : Nat → Int32) (tre_owners : Nat → Int32) (tre_sizes : Nat → Int32) (tre_firstRanges : Nat → Int32) (tre_rangeCounts : Nat → Int32) (tre_waiting : Nat → Int32) (opn_parts : Nat → Int32) : va_W := [o_tre tS a_tre a_tre_kinds a_tre_values a_tre_mosts a_tre_owners a_tre_sizes a_tre_firstRanges a_tre_rangeCounts a_tre_begins a_tre_ends a_tre_waiting tre_nodes tre_ranges tre_waits, o_opn tS a_opn a_opn_places a_opn_numbers a_opn_flagsAround a_opn_rows a_opn_parts opn_depth, o_rdr tS a_rdr a_pat a_mis a_tre a_grp a_opn a_set a_esc a_cls a_opg a_rep rdr_place rdr_flags rdr_repeatable, r_tre_kinds cI a_tre_kinds tre_kinds, r_tre_values cI a_tre_values tre_values, r_tre_mosts cI a_tre_mosts tre_mosts, r_tre_owners cI a_tre_owners tre_owners, r_tre_sizes cI a_tre_sizes tre_sizes, r_tre_firstRanges cI a_tre_firstRanges tre_firstRanges, r_tre_rangeCounts cI a_tre_rangeCounts tre_rangeCounts, r_tre_waiting cI a_tre_waiting tre_waiting, r_opn_parts cI a_opn_parts opn_parts]
abbrev w_34 (cI : ClassId) (tS : Nat → Nat) (a_pat a_pat_bytes a_rep : Nat) (pat_length : Int32) (rep_least : Int32) (rep_most : Int32) (rep_marked : Bool) (rep_after : Int32) (rep_number : Int32) (pat_bytes : Nat → Int32) : va_W := [o_pat tS a_pat a_pat_bytes pat_length, o_rep tS a_rep a_pat rep_least rep_most rep_marked rep_after rep_number, r_pat_bytes cI a_pat_bytes pat_bytes]
abbrev w_35 (cI : ClassId) (tS : Nat → Nat) (a_rep a_pat : Nat) (rep_least : Int32) (rep_most : Int32) (rep_marked : Bool) (rep_after : Int32) (rep_number : Int32) : va_W := [o_rep tS a_rep a_pat rep_least rep_most rep_marked rep_after rep_number]
abbrev w_36 (cI : ClassId) (tS : Nat → Nat) (a_mis a_tre a_tre_kinds a_tre_values a_tre_mosts a_tre_owners a_tre_sizes a_tre_firstRanges a_tre_rangeCounts a_tre_begins a_tre_ends a_tre_waiting a_rep a_pat a_rdr a_grp a_opn a_set a_esc a_cls a_opg : Nat) (mis_number : Int32) (mis_place : Int32) (tre_nodes : Int32) (tre_ranges : Int32) (tre_waits : Int32) (rep_least : Int32) (rep_most : Int32) (rep_marked : Bool) (rep_after : Int32) (rep_number : Int32) (rdr_place : Int32) (rdr_flags : Int32) (rdr_repeatable : Bool) (tre_kinds : Nat → Int32) (tre_values : Nat → Int32) (tre_mosts : Nat → Int32) (tre_owners : Nat → Int32) (tre_sizes : Nat → Int32) (tre_firstRanges : Nat → Int32) (tre_rangeCounts : Nat → Int32) (tre_waiting : Nat → Int32) : va_W := [o_mis tS a_mis mis_number mis_place, o_tre tS a_tre a_tre_kinds a_tre_values a_tre_mosts a_tre_owners a_tre_sizes a_tre_firstRanges a_tre_rangeCounts a_tre_begins a_tre_ends a_tre_waiting tre_nodes tre_ranges tre_waits, o_rep tS a_rep a_pat rep_least rep_most rep_marked rep_after rep_number, o_rdr tS a_rdr a_pat a_mis a_tre a_grp a_opn a_set a_esc a_cls a_opg a_rep rdr_place rdr_flags rdr_repeatable, r_tre_kinds cI a_tre_kinds tre_kinds, r_tre_values cI a_tre_values tre_values, r_tre_mosts cI a_tre_mosts tre_mosts, r_tre_owners cI a_tre_owners tre_owners, r_tre_sizes cI a_tre_sizes tre_sizes, r_tre_firstRanges cI a_tre_firstRanges tre_firstRanges, r_tre_rangeCounts cI a_tre_rangeCounts tre_rangeCounts, r_tre_waiting cI a_tre_waiting tre_waiting]
abbrev w_37 (cI : ClassId) (tS : Nat → Nat) (a_pat a_pat_bytes a_mis a_set a_set_begins a_set_ends a_tre a_tre_kinds a_tre_values a_tre_mosts a_tre_owners a_tre_sizes a_tre_firstRanges a_tre_rangeCounts a_tre_begins a_tre_ends a_tre_waiting a_opn a_opn_places a_opn_numbers a_opn_flagsAround a_opn_rows a_opn_parts a_rdr a_grp a_esc a_cls a_opg a_rep : Nat) (pat_length : Int32) (mis_number : Int32) (mis_place : Int32) (set_pieces : Int32) (tre_nodes : Int32) (tre_ranges : Int32) (tre_waits : Int32) (opn_depth : Int32) (rdr_place : Int32) (rdr_flags : Int32) (rdr_repeatable : Bool) (pat_bytes : Nat → Int32) (set_begins : Nat → Int32) (set_ends : Nat → Int32) (tre_kinds : Nat → Int32) (tre_values : Nat → Int32) (tre_mosts : Nat → Int32) (tre_owners : Nat → Int32) (tre_sizes : Nat → Int32) (tre_firstRanges : Nat → Int32) (tre_rangeCounts : Nat → Int32) (tre_begins : Nat → Int32) (tre_ends : Nat → Int32) (tre_waiting : Nat → Int32) (opn_parts : Nat → Int32) : va_W := [o_pat tS a_pat a_pat_bytes pat_length, o_mis tS a_mis mis_number mis_place, o_set tS a_set a_set_begins a_set_ends set_pieces, o_tre tS a_tre a_tre_kinds a_tre_values a_tre_mosts a_tre_owners a_tre_sizes a_tre_firstRanges a_tre_rangeCounts a_tre_begins a_tre_ends a_tre_waiting tre_nodes tre_ranges tre_waits, o_opn tS a_opn a_opn_places a_opn_numbers a_opn_flagsAround a_opn_rows a_opn_parts opn_depth, o_rdr tS a_rdr a_pat a_mis a_tre a_grp a_opn a_set a_esc a_cls a_opg a_rep rdr_place rdr_flags rdr_repeatable, r_pat_bytes cI a_pat_bytes pat_bytes, r_set_begins cI a_set_begins set_begins, r_set_ends cI a_set_ends set_ends, r_tre_kinds cI a_tre_kinds tre_kinds, r_tre_values cI a_tre_values tre_values, r_tre_mosts cI a_tre_mosts tre_mosts, r_tre_owners cI a_tre_owners tre_owners, r_tre_sizes cI a_tre_sizes tre_sizes, r_tre_firstRanges cI a_tre_firstRanges tre_firstRanges, r_tre_rangeCounts cI a_tre_rangeCounts tre_rangeCounts, r_tre_begins cI a_tre_begins tre_begins, r_tre_ends cI a_tre_ends tre_ends, r_tre_waiting cI a_tre_waiting tre_waiting, r_opn_parts cI a_opn_parts opn_parts]
abbrev w_38 (cI : ClassId) (tS : Nat → Nat) (a_mis a_tre a_tre_kinds a_tre_values a_tre_mosts a_tre_owners a_tre_sizes a_tre_firstRanges a_tre_rangeCounts a_tre_begins a_tre_ends a_tre_waiting a_opn a_opn_places a_opn_numbers a_opn_flagsAround a_opn_rows a_opn_parts a_rdr a_pat a_grp a_set a_esc a_cls a_opg a_rep : Nat) (mis_number : Int32) (mis_place : Int32) (tre_nodes : Int32) (tre_ranges : Int32) (tre_waits : Int32) (opn_depth : Int32) (rdr_place : Int32) (rdr_flags : Int32) (rdr_repeatable : Bool) (tre_kinds : Nat → Int32) (tre_values : Nat → Int32) (tre_mosts : Nat → Int32) (tre_owners : Nat → Int32) (tre_sizes : Nat → Int32) (tre_firstRanges : Nat → Int32) (tre_rangeCounts : Nat → Int32) (tre_waiting : Nat → Int32) (opn_places : Nat → Int32) (opn_rows : Nat → Int32) (opn_parts : Nat → Int32) : va_W := [o_mis tS a_mis mis_number mis_place, o_tre tS a_tre a_tre_kinds a_tre_values a_tre_mosts a_tre_owners a_tre_sizes a_tre_firstRanges a_tre_rangeCounts a_tre_begins a_tre_ends a_tre_waiting tre_nodes tre_ranges tre_waits, o_opn tS a_opn a_opn_places a_opn_numbers a_opn_flagsAround a_opn_rows a_opn_parts opn_depth, o_rdr tS a_rdr a_pat a_mis a_tre a_grp a_opn a_set a_esc a_cls a_opg a_rep rdr_place rdr_flags rdr_repeatable, r_tre_kinds cI a_tre_kinds tre_kinds, r_tre_values cI a_tre_values tre_values, r_tre_mosts cI a_tre_mosts tre_mosts, r_tre_owners cI a_tre_owners tre_owners, r_tre_sizes cI a_tre_sizes tre_sizes, r_tre_firstRanges cI a_tre_firstRanges tre_firstRanges, r_tre_rangeCounts cI a_tre_rangeCounts tre_rangeCounts, r_tre_waiting cI a_tre_waiting tre_waiting, r_opn_places cI a_opn_places opn_places, r_opn_rows cI a_opn_rows opn_rows, r_opn_parts cI a_opn_parts opn_parts]
abbrev w_39 (cI : ClassId) (tS : Nat → Nat) (a_pat a_pat_bytes : Nat) (pat_length : Int32) : va_W := [o_pat tS a_pat a_pat_bytes pat_length]
abbrev w_40 (cI : ClassId) (tS : Nat → Nat) (a_mis a_pn a_pat a_tre a_grp a_rdr : Nat) (mis_number : Int32) (mis_place : Int32) : va_W := [o_mis tS a_mis mis_number mis_place, o_pn tS a_pn a_pat a_mis a_tre a_grp a_rdr ]
abbrev w_41 (cI : ClassId) (tS : Nat → Nat) (a_pat a_pat_bytes a_tre a_tre_kinds a_tre_values a_tre_mosts a_tre_owners a_tre_sizes a_tre_firstRanges a_tre_rangeCounts a_tre_begins a_tre_ends a_tre_waiting a_grp a_grp_lengths a_grp_letters a_pn a_mis a_rdr : Nat) (pat_length : Int32) (tre_nodes : Int32) (tre_ranges : Int32) (tre_waits : Int32) (grp_howMany : Int32) : va_W := [o_pat tS a_pat a_pat_bytes pat_length, o_tre tS a_tre a_tre_kinds a_tre_values a_tre_mosts a_tre_owners a_tre_sizes a_tre_firstRanges a_tre_rangeCounts a_tre_begins a_tre_ends a_tre_waiting tre_nodes tre_ranges tre_waits, o_grp tS a_grp a_grp_lengths a_grp_letters grp_howMany, o_pn tS a_pn a_pat a_mis a_tre a_grp a_rdr ]
abbrev w_42 (cI : ClassId) (tS : Nat → Nat) (a_tre a_tre_kinds a_tre_values a_tre_mosts a_tre_owners a_tre_sizes a_tre_firstRanges a_tre_rangeCounts a_tre_begins a_tre_ends a_tre_waiting : Nat) (tre_nodes : Int32) (tre_ranges : Int32) (tre_waits : Int32) (tre_kinds : Nat → Int32) (tre_values : Nat → Int32) (tre_mosts : Nat → Int32) (tre_owners : Nat → Int32) (tre_sizes : Nat → Int32) (tre_rangeCounts : Nat → Int32) : va_W := [o_tre tS a_tre a_tre_kinds a_tre_values a_tre_mosts a_tre_owners a_tre_sizes a_tre_firstRanges a_tre_rangeCounts a_tre_begins a_tre_ends a_tre_waiting tre_nodes tre_ranges tre_waits, r_tre_kinds cI a_tre_kinds tre_kinds, r_tre_values cI a_tre_values tre_values, r_tre_mosts cI a_tre_mosts tre_mosts, r_tre_owners cI a_tre_owners tre_owners, r_tre_sizes cI a_tre_sizes tre_sizes, r_tre_rangeCounts cI a_tre_rangeCounts tre_rangeCounts]
abbrev w_43 (cI : ClassId) (tS : Nat → Nat) (a_tre a_tre_kinds a_tre_values a_tre_mosts a_tre_owners a_tre_sizes a_tre_firstRanges a_tre_rangeCounts a_tre_begins a_tre_ends a_tre_waiting a_pn a_pat a_mis a_grp a_rdr : Nat) (tre_nodes : Int32) (tre_ranges : Int32) (tre_waits : Int32) (tre_kinds : Nat → Int32) (tre_values : Nat → Int32) (tre_mosts : Nat → Int32) (tre_owners : Nat → Int32) (tre_sizes : Nat → Int32) (tre_rangeCounts : Nat → Int32) : va_W := [o_tre tS a_tre a_tre_kinds a_tre_values a_tre_mosts a_tre_owners a_tre_sizes a_tre_firstRanges a_tre_rangeCounts a_tre_begins a_tre_ends a_tre_waiting tre_nodes tre_ranges tre_waits, o_pn tS a_pn a_pat a_mis a_tre a_grp a_rdr , r_tre_kinds cI a_tre_kinds tre_kinds, r_tre_values cI a_tre_values tre_values, r_tre_mosts cI a_tre_mosts tre_mosts, r_tre_owners cI a_tre_owners tre_owners, r_tre_sizes cI a_tre_sizes tre_sizes, r_tre_rangeCounts cI a_tre_rangeCounts tre_rangeCounts]
abbrev w_44 (cI : ClassId) (tS : Nat → Nat) (a_tre a_tre_kinds a_tre_values a_tre_mosts a_tre_owners a_tre_sizes a_tre_firstRanges a_tre_rangeCounts a_tre_begins a_tre_ends a_tre_waiting : Nat) (tre_nodes : Int32) (tre_ranges : Int32) (tre_waits : Int32) (tre_firstRanges : Nat → Int32) (tre_rangeCounts : Nat → Int32) (tre_begins : Nat → Int32) (tre_ends : Nat → Int32) : va_W := [o_tre tS a_tre a_tre_kinds a_tre_values a_tre_mosts a_tre_owners a_tre_sizes a_tre_firstRanges a_tre_rangeCounts a_tre_begins a_tre_ends a_tre_waiting tre_nodes tre_ranges tre_waits, r_tre_firstRanges cI a_tre_firstRanges tre_firstRanges, r_tre_rangeCounts cI a_tre_rangeCounts tre_rangeCounts, r_tre_begins cI a_tre_begins tre_begins, r_tre_ends cI a_tre_ends tre_ends]
abbrev w_45 (cI : ClassId) (tS : Nat → Nat) (a_tre a_tre_kinds a_tre_values a_tre_mosts a_tre_owners a_tre_sizes a_tre_firstRanges a_tre_rangeCounts a_tre_begins a_tre_ends a_tre_waiting a_pn a_pat a_mis a_grp a_rdr : Nat) (tre_nodes : Int32) (tre_ranges : Int32) (tre_waits : Int32) (tre_firstRanges : Nat → Int32) (tre_rangeCounts : Nat → Int32) (tre_begins : Nat → Int32) (tre_ends : Nat → Int32) : va_W := [o_tre tS a_tre a_tre_kinds a_tre_values a_tre_mosts a_tre_owners a_tre_sizes a_tre_firstRanges a_tre_rangeCounts a_tre_begins a_tre_ends a_tre_waiting tre_nodes tre_ranges tre_waits, o_pn tS a_pn a_pat a_mis a_tre a_grp a_rdr , r_tre_firstRanges cI a_tre_firstRanges tre_firstRanges, r_tre_rangeCounts cI a_tre_rangeCounts tre_rangeCounts, r_tre_begins cI a_tre_begins tre_begins, r_tre_ends cI a_tre_ends tre_ends]
abbrev w_46 (cI : ClassId) (tS : Nat → Nat) (a_grp a_grp_lengths a_grp_letters : Nat) (grp_howMany : Int32) (grp_lengths : Nat → Int32) (grp_letters : Nat → Int32) : va_W := [o_grp tS a_grp a_grp_lengths a_grp_letters grp_howMany, r_grp_lengths cI a_grp_lengths grp_lengths, r_grp_letters cI a_grp_letters grp_letters]
abbrev w_47 (cI : ClassId) (tS : Nat → Nat) (a_grp a_grp_lengths a_grp_letters a_pn a_pat a_mis a_tre a_rdr : Nat) (grp_howMany : Int32) (grp_lengths : Nat → Int32) (grp_letters : Nat → Int32) : va_W := [o_grp tS a_grp a_grp_lengths a_grp_letters grp_howMany, o_pn tS a_pn a_pat a_mis a_tre a_grp a_rdr , r_grp_lengths cI a_grp_lengths grp_lengths, r_grp_letters cI a_grp_letters grp_letters]
def stL : List (List Int32) := [[], [10, 10], [48, 57], [9, 10, 12, 13, 32, 32], [48, 57, 65, 90, 95, 95, 97, 122], [65, 90, 97, 122, 170, 170, 181, 181, 186, 186, 192, 214, 216, 246, 248, 687, 880, 1279], [48, 57, 178, 179, 185, 185, 188, 190], [880, 1023], [1024, 1279], [65, 90, 97, 122], [65, 90], [97, 122], [33, 47, 58, 64, 91, 96, 123, 126], [9, 13, 32, 32],
  [65, 90, 32, 97, 122, -32, 192, 214, 32, 224, 246, -32, 216, 222, 32, 248, 254, -32, 913, 937, 32, 945, 969, -32, 1040, 1071, 32, 1072, 1103, -32, 1024, 1039, 80, 1104, 1119, -80],
  [75, 107, 8490, 8490, 83, 115, 383, 383, 197, 229, 8491, 8491, 181, 924, 956, 956, 930, 931, 962, 963]]
def stNmL : List String := ["NO_SET", "LINE_FEED", "DIGITS", "SPACES", "WORDS", "PROPERTY_L", "PROPERTY_N", "PROPERTY_G", "PROPERTY_Y", "NAMED_ALPHA", "NAMED_UPPER", "NAMED_LOWER", "NAMED_PUNCT", "NAMED_SPACE", "PAIRED", "KIN"]
def stNm (k : Nat) : String := stNmL.getD k ""
def stC : Nat := 16
def stN (k : Nat) : Nat := (stL.getD k []).length
def stF (k j : Nat) : Int32 := (stL.getD k []).getD j 0

-- behind the names: the statics, the standard contract's start, words for calls
def st_ok (tS : Nat → Nat) (A : Nat → Prop) (U : State) : Prop := stO "PatternNodes" stNm stC stN stF tS A U ∧ ∀ w ∈ NW, va_Nw w U
theorem st_T {tS : Nat → Nat} {A : Nat → Prop} {U : State} (h : st_ok tS A U) (k : Nat) : va_T .int (tS k) (stN k) (fun j => .int (stF k j)) A U U.heap := h.1.2 k
theorem st_Z {tS : Nat → Nat} {A : Nat → Prop} {U : State} (h : st_ok tS A U) (k : Nat) (hk : k < stC) : va_Z "PatternNodes" (stNm k) "[I" (.ref (tS k)) A U U.heap := h.1.1 k hk
theorem nw_warm {s U : State} (hW : s.WarmedH U.vm) (h : ∀ w ∈ NW, va_Nw w s) : ∀ w ∈ NW, va_Nw w U := by
  intro w hw
  have h1 := h w hw
  have h2 := (List.mem_filter.mp hw).2
  cases w <;> first | exact absurd (show false = true from h2) (by decide) | exact va_Nw.warmF hW h1 | exact va_Nw.warmM hW h1
theorem nw_same {s U : State} (hv : s.vm = U.vm) (h : ∀ w ∈ NW, va_Nw w s) : ∀ w ∈ NW, va_Nw w U := by
  intro w hw
  have h1 := h w hw
  have h2 := (List.mem_filter.mp hw).2
  cases w <;> first | exact absurd (show false = true from h2) (by decide) | exact va_Nw.same rfl hv h1
def preS (D : va_G) (cl : List vw_C) (tys : List (ClassId × FieldType)) (tS : Nat → Nat) (w : va_W) (sz : Nat) (U : State) : Prop := U.heap.size = sz ∧ va_P D cl w U.heap ∧ va_K D cl tys U ∧ va_D (fun _ => True) w ∧ st_ok tS (va_A w sz) U
theorem pre_F {D : va_G} {cl : List vw_C} {tys : List (ClassId × FieldType)} {tS : Nat → Nat} {w : va_W} {sz : Nat} {As : List Value} : FrameBlind (va_Pc As (preS D cl tys tS w sz)) := by
  intro a U g mk q
  obtain ⟨q0, q1, qP, qK, qD, qs⟩ := q
  exact ⟨q0, q1, qP, va_K.moved (u := U) (U := U.calling g mk a) (Vm.Alike.refl U.vm) qK, qD, qs.1.pass (U := U.calling g mk a) (va_S.rf (A := va_A w sz)) (fun _ h => h) rfl (Vm.Alike.refl U.vm), nw_same (s := U) (U := U.calling g mk a) rfl qs.2⟩
theorem pre_S {s : State} {H : Heap} {locs : List Loc} {A : Nat → Prop} {D : va_G} {cl : List vw_C} {tys : List (ClassId × FieldType)} {tS : Nat → Nat} {wc : va_W} {As : List Value} (hK : va_K D cl tys s) (hPc : va_P D cl wc H) (hDc : va_D A wc) (hst : st_ok tS A s) (hS : va_S A s.heap H locs) (hFc : ∀ q, va_A wc H.size q → A q) : PreS s H (va_Pc As (preS D cl tys tS wc H.size)) As :=
  ⟨pre_F, fun U hU hW => ⟨rfl, by rw [hU], by rw [hU]; exact hPc, va_K.moved hW.alike hK, hDc.weaken (fun _ _ _ _ => trivial), hst.1.pass hS hFc hU hW.alike, nw_warm hW hst.2⟩⟩
theorem pre_V {s : State} {H : Heap} {locs : List Loc} {A : Nat → Prop} {D : va_G} {cl : List vw_C} {tys : List (ClassId × FieldType)} {tS : Nat → Nat} {wc : va_W} {C : String} {b : Nat} {As : List Value} (hK : va_K D cl tys s) (hPc : va_P D cl wc H) (hDc : va_D A wc) (hst : st_ok tS A s) (hS : va_S A s.heap H locs) (hFc : ∀ q, va_A wc H.size q → A q) (hc : ∃ cell : Cell, H[b]? = some cell ∧ cell.vm.isStatics = false ∧ s.vm.findClass C = some cell.cls) : PreV s H C b (va_Pc (.ref b :: As) (preS D cl tys tS wc H.size)) As :=
  ⟨pre_F, hc, (pre_S (As := .ref b :: As) hK hPc hDc hst hS hFc).2⟩
theorem gw_good : ∀ w ∈ GW, (w.onTables && w.keeps) = true ∨ ∃ ty, w = .arrayClass ty := by
  intro w hw
  have h2 := (List.mem_filter.mp hw).2
  cases w <;> first | exact Or.inl h2 | exact Or.inr ⟨_, rfl⟩
theorem gN {y : MethodName} {b : ByteArray} {n : Nat} {r : Option FieldType} (h5 : Cond.code y b n r ∈ GW) : GoodIn GW (Cond.code y b n r :: GW) := by
  intro w hw
  have hm : w ∈ GW := by
    rcases List.mem_cons.mp hw with rfl | h
    · exact h5
    · exact h
  exact ⟨hm, gw_good w hm⟩

