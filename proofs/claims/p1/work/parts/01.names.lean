def R_En : String := "LinkEngine"
def F_En : u_T := fun k => match k with
  | 0 => ("LinkEngine", "reader", "LLinkEngine$Reader;", true)
  | 1 => ("LinkEngine", "tape", "[I", true)
  | 2 => ("LinkEngine", "lines", "LLinkEngine$Lines;", true)
  | 3 => ("LinkEngine", "paper", "LLinkEngine$Paper;", true)
  | 4 => ("LinkEngine", "moves", "LLinkEngine$Moves;", true)
  | 5 => ("LinkEngine", "stateSum", "LLinkEngine$StateSum;", true)
  | 6 => ("LinkEngine", "minor", "LLinkEngine$Minor;", true)
  | 7 => ("LinkEngine", "polynomial", "LLinkEngine$Polynomial;", true)
  | 8 => ("LinkEngine", "now", "LLinkEngine$Diagram;", false)
  | 9 => ("LinkEngine", "next", "LLinkEngine$Diagram;", false)
  | 10 => ("LinkEngine", "trial", "LLinkEngine$Diagram;", false)
  | 11 => ("LinkEngine", "latest", "LLinkEngine$Braid;", false)
  | 12 => ("LinkEngine", "earlier", "LLinkEngine$Braid;", false)
  | 13 => ("LinkEngine", "spare", "LLinkEngine$Braid;", false)
  | 14 => ("LinkEngine", "onTape", "I", false)
  | 15 => ("LinkEngine", "hasRead", "Z", false)
  | 16 => ("LinkEngine", "linesDone", "I", false)
  | _ => ("LinkEngine", "sumsDone", "I", false)
def t_En : Nat → FieldType := fun k => match k with
  | 0 => (.object "LinkEngine$Reader")
  | 1 => (.array .int)
  | 2 => (.object "LinkEngine$Lines")
  | 3 => (.object "LinkEngine$Paper")
  | 4 => (.object "LinkEngine$Moves")
  | 5 => (.object "LinkEngine$StateSum")
  | 6 => (.object "LinkEngine$Minor")
  | 7 => (.object "LinkEngine$Polynomial")
  | 8 => (.object "LinkEngine$Diagram")
  | 9 => (.object "LinkEngine$Diagram")
  | 10 => (.object "LinkEngine$Diagram")
  | 11 => (.object "LinkEngine$Braid")
  | 12 => (.object "LinkEngine$Braid")
  | 13 => (.object "LinkEngine$Braid")
  | 14 => .int
  | 15 => .boolean
  | 16 => .int
  | _ => .int
abbrev w_En : List Cond := u_ws R_En F_En 18
theorem n_En : ∀ a, a < 18 → ∀ b, b < 18 → a ≠ b → (F_En a).2.1 ≠ (F_En b).2.1 := by decide +kernel
theorem t_En_ok : ∀ k, k < 18 → parseFieldDescriptor (F_En k).2.2.1 = some (t_En k) := by decide +kernel
theorem f_En : ∀ j, j < 18 → defaultValue (t_En j) = vp_V [.null, .null, .null, .null, .null, .null, .null, .null, .null, .null, .null, .null, .null, .null, .int 0, .int 0, .int 0, .int 0] j := fun j hj => by
  rcases (show j = 0 ∨ j = 1 ∨ j = 2 ∨ j = 3 ∨ j = 4 ∨ j = 5 ∨ j = 6 ∨ j = 7 ∨ j = 8 ∨ j = 9 ∨ j = 10 ∨ j = 11 ∨ j = 12 ∨ j = 13 ∨ j = 14 ∨ j = 15 ∨ j = 16 ∨ j = 17 by omega) with rfl | rfl | rfl | rfl | rfl | rfl | rfl | rfl | rfl | rfl | rfl | rfl | rfl | rfl | rfl | rfl | rfl | rfl <;> rfl
def R_Li : String := "LinkEngine$Lines"
def F_Li : u_T := fun k => match k with
  | 0 => ("LinkEngine$Lines", "kind", "[I", true)
  | 1 => ("LinkEngine$Lines", "start", "[I", true)
  | 2 => ("LinkEngine$Lines", "value", "[J", true)
  | 3 => ("LinkEngine$Lines", "count", "I", false)
  | _ => ("LinkEngine$Lines", "done", "I", false)
def t_Li : Nat → FieldType := fun k => match k with
  | 0 => (.array .int)
  | 1 => (.array .int)
  | 2 => (.array .long)
  | 3 => .int
  | _ => .int
abbrev w_Li : List Cond := u_ws R_Li F_Li 5
theorem n_Li : ∀ a, a < 5 → ∀ b, b < 5 → a ≠ b → (F_Li a).2.1 ≠ (F_Li b).2.1 := by decide +kernel
theorem t_Li_ok : ∀ k, k < 5 → parseFieldDescriptor (F_Li k).2.2.1 = some (t_Li k) := by decide +kernel
theorem f_Li : ∀ j, j < 5 → defaultValue (t_Li j) = vp_V [.null, .null, .null, .int 0, .int 0] j := fun j hj => by
  rcases (show j = 0 ∨ j = 1 ∨ j = 2 ∨ j = 3 ∨ j = 4 by omega) with rfl | rfl | rfl | rfl | rfl <;> rfl
def R_Rd : String := "LinkEngine$Reader"
def F_Rd : u_T := fun k => match k with
  | 0 => ("LinkEngine$Reader", "text", "[I", true)
  | 1 => ("LinkEngine$Reader", "lines", "LLinkEngine$Lines;", true)
  | 2 => ("LinkEngine$Reader", "size", "I", false)
  | 3 => ("LinkEngine$Reader", "behind", "I", false)
  | 4 => ("LinkEngine$Reader", "token", "I", false)
  | 5 => ("LinkEngine$Reader", "place", "I", false)
  | 6 => ("LinkEngine$Reader", "value", "J", false)
  | 7 => ("LinkEngine$Reader", "misshapen", "Z", false)
  | 8 => ("LinkEngine$Reader", "faultFound", "I", false)
  | _ => ("LinkEngine$Reader", "faultPlace", "I", false)
def t_Rd : Nat → FieldType := fun k => match k with
  | 0 => (.array .int)
  | 1 => (.object "LinkEngine$Lines")
  | 2 => .int
  | 3 => .int
  | 4 => .int
  | 5 => .int
  | 6 => .long
  | 7 => .boolean
  | 8 => .int
  | _ => .int
abbrev w_Rd : List Cond := u_ws R_Rd F_Rd 10
theorem n_Rd : ∀ a, a < 10 → ∀ b, b < 10 → a ≠ b → (F_Rd a).2.1 ≠ (F_Rd b).2.1 := by decide +kernel
theorem t_Rd_ok : ∀ k, k < 10 → parseFieldDescriptor (F_Rd k).2.2.1 = some (t_Rd k) := by decide +kernel
theorem f_Rd : ∀ j, j < 10 → defaultValue (t_Rd j) = vp_V [.null, .null, .int 0, .int 0, .int 0, .int 0, .long 0, .int 0, .int 0, .int 0] j := fun j hj => by
  rcases (show j = 0 ∨ j = 1 ∨ j = 2 ∨ j = 3 ∨ j = 4 ∨ j = 5 ∨ j = 6 ∨ j = 7 ∨ j = 8 ∨ j = 9 by omega) with rfl | rfl | rfl | rfl | rfl | rfl | rfl | rfl | rfl | rfl <;> rfl
def R_Pa : String := "LinkEngine$Paper"
def F_Pa : u_T := fun k => match k with
  | 0 => ("LinkEngine$Paper", "bytes", "[I", true)
  | 1 => ("LinkEngine$Paper", "digits", "[I", true)
  | 2 => ("LinkEngine$Paper", "size", "I", false)
  | _ => ("LinkEngine$Paper", "overflown", "Z", false)
def t_Pa : Nat → FieldType := fun k => match k with
  | 0 => (.array .int)
  | 1 => (.array .int)
  | 2 => .int
  | _ => .boolean
abbrev w_Pa : List Cond := u_ws R_Pa F_Pa 4
theorem n_Pa : ∀ a, a < 4 → ∀ b, b < 4 → a ≠ b → (F_Pa a).2.1 ≠ (F_Pa b).2.1 := by decide +kernel
theorem t_Pa_ok : ∀ k, k < 4 → parseFieldDescriptor (F_Pa k).2.2.1 = some (t_Pa k) := by decide +kernel
theorem f_Pa : ∀ j, j < 4 → defaultValue (t_Pa j) = vp_V [.null, .null, .int 0, .int 0] j := fun j hj => by
  rcases (show j = 0 ∨ j = 1 ∨ j = 2 ∨ j = 3 by omega) with rfl | rfl | rfl | rfl <;> rfl
def R_Di : String := "LinkEngine$Diagram"
def F_Di : u_T := fun k => match k with
  | 0 => ("LinkEngine$Diagram", "sign", "[I", true)
  | 1 => ("LinkEngine$Diagram", "label", "[I", true)
  | 2 => ("LinkEngine$Diagram", "shape", "LLinkEngine$Shape;", true)
  | 3 => ("LinkEngine$Diagram", "count", "I", false)
  | 4 => ("LinkEngine$Diagram", "circles", "I", false)
  | _ => ("LinkEngine$Diagram", "shapeIsKnown", "Z", false)
def t_Di : Nat → FieldType := fun k => match k with
  | 0 => (.array .int)
  | 1 => (.array .int)
  | 2 => (.object "LinkEngine$Shape")
  | 3 => .int
  | 4 => .int
  | _ => .boolean
abbrev w_Di : List Cond := u_ws R_Di F_Di 6
theorem n_Di : ∀ a, a < 6 → ∀ b, b < 6 → a ≠ b → (F_Di a).2.1 ≠ (F_Di b).2.1 := by decide +kernel
theorem t_Di_ok : ∀ k, k < 6 → parseFieldDescriptor (F_Di k).2.2.1 = some (t_Di k) := by decide +kernel
theorem f_Di : ∀ j, j < 6 → defaultValue (t_Di j) = vp_V [.null, .null, .null, .int 0, .int 0, .int 0] j := fun j hj => by
  rcases (show j = 0 ∨ j = 1 ∨ j = 2 ∨ j = 3 ∨ j = 4 ∨ j = 5 by omega) with rfl | rfl | rfl | rfl | rfl | rfl <;> rfl
def R_Sh : String := "LinkEngine$Shape"
def F_Sh : u_T := fun k => match k with
  | 0 => ("LinkEngine$Shape", "key", "[I", true)
  | 1 => ("LinkEngine$Shape", "name", "[I", true)
  | 2 => ("LinkEngine$Shape", "from", "[I", true)
  | 3 => ("LinkEngine$Shape", "to", "[I", true)
  | 4 => ("LinkEngine$Shape", "edgeAt", "[I", true)
  | 5 => ("LinkEngine$Shape", "componentOf", "[I", true)
  | 6 => ("LinkEngine$Shape", "arcOf", "[I", true)
  | 7 => ("LinkEngine$Shape", "pieceOf", "[I", true)
  | 8 => ("LinkEngine$Shape", "faceOf", "[I", true)
  | 9 => ("LinkEngine$Shape", "faceStart", "[I", true)
  | 10 => ("LinkEngine$Shape", "faceSize", "[I", true)
  | 11 => ("LinkEngine$Shape", "scratch", "[I", true)
  | 12 => ("LinkEngine$Shape", "edges", "I", false)
  | 13 => ("LinkEngine$Shape", "components", "I", false)
  | 14 => ("LinkEngine$Shape", "pieces", "I", false)
  | 15 => ("LinkEngine$Shape", "faces", "I", false)
  | 16 => ("LinkEngine$Shape", "brokenRule", "I", false)
  | _ => ("LinkEngine$Shape", "culprit", "I", false)
def t_Sh : Nat → FieldType := fun k => match k with
  | 0 => (.array .int)
  | 1 => (.array .int)
  | 2 => (.array .int)
  | 3 => (.array .int)
  | 4 => (.array .int)
  | 5 => (.array .int)
  | 6 => (.array .int)
  | 7 => (.array .int)
  | 8 => (.array .int)
  | 9 => (.array .int)
  | 10 => (.array .int)
  | 11 => (.array .int)
  | 12 => .int
  | 13 => .int
  | 14 => .int
  | 15 => .int
  | 16 => .int
  | _ => .int
abbrev w_Sh : List Cond := u_ws R_Sh F_Sh 18
theorem n_Sh : ∀ a, a < 18 → ∀ b, b < 18 → a ≠ b → (F_Sh a).2.1 ≠ (F_Sh b).2.1 := by decide +kernel
theorem t_Sh_ok : ∀ k, k < 18 → parseFieldDescriptor (F_Sh k).2.2.1 = some (t_Sh k) := by decide +kernel
theorem f_Sh : ∀ j, j < 18 → defaultValue (t_Sh j) = vp_V [.null, .null, .null, .null, .null, .null, .null, .null, .null, .null, .null, .null, .int 0, .int 0, .int 0, .int 0, .int 0, .int 0] j := fun j hj => by
  rcases (show j = 0 ∨ j = 1 ∨ j = 2 ∨ j = 3 ∨ j = 4 ∨ j = 5 ∨ j = 6 ∨ j = 7 ∨ j = 8 ∨ j = 9 ∨ j = 10 ∨ j = 11 ∨ j = 12 ∨ j = 13 ∨ j = 14 ∨ j = 15 ∨ j = 16 ∨ j = 17 by omega) with rfl | rfl | rfl | rfl | rfl | rfl | rfl | rfl | rfl | rfl | rfl | rfl | rfl | rfl | rfl | rfl | rfl | rfl <;> rfl
def R_Mo : String := "LinkEngine$Moves"
def F_Mo : u_T := fun k => match k with
  | _ => ("LinkEngine$Moves", "free", "[I", true)
def t_Mo : Nat → FieldType := fun k => match k with
  | _ => (.array .int)
abbrev w_Mo : List Cond := u_ws R_Mo F_Mo 1
theorem n_Mo : ∀ a, a < 1 → ∀ b, b < 1 → a ≠ b → (F_Mo a).2.1 ≠ (F_Mo b).2.1 := by decide +kernel
theorem t_Mo_ok : ∀ k, k < 1 → parseFieldDescriptor (F_Mo k).2.2.1 = some (t_Mo k) := by decide +kernel
theorem f_Mo : ∀ j, j < 1 → defaultValue (t_Mo j) = vp_V [.null] j := fun j hj => by
  rcases (show j = 0 by omega) with rfl <;> rfl
def R_Br : String := "LinkEngine$Braid"
def F_Br : u_T := fun k => match k with
  | 0 => ("LinkEngine$Braid", "letter", "[I", true)
  | 1 => ("LinkEngine$Braid", "image", "[I", true)
  | 2 => ("LinkEngine$Braid", "end", "[I", true)
  | 3 => ("LinkEngine$Braid", "strands", "I", false)
  | 4 => ("LinkEngine$Braid", "letters", "I", false)
  | 5 => ("LinkEngine$Braid", "turns", "I", false)
  | 6 => ("LinkEngine$Braid", "factors", "I", false)
  | _ => ("LinkEngine$Braid", "formIsKnown", "Z", false)
def t_Br : Nat → FieldType := fun k => match k with
  | 0 => (.array .int)
  | 1 => (.array .int)
  | 2 => (.array .int)
  | 3 => .int
  | 4 => .int
  | 5 => .int
  | 6 => .int
  | _ => .boolean
abbrev w_Br : List Cond := u_ws R_Br F_Br 8
theorem n_Br : ∀ a, a < 8 → ∀ b, b < 8 → a ≠ b → (F_Br a).2.1 ≠ (F_Br b).2.1 := by decide +kernel
theorem t_Br_ok : ∀ k, k < 8 → parseFieldDescriptor (F_Br k).2.2.1 = some (t_Br k) := by decide +kernel
theorem f_Br : ∀ j, j < 8 → defaultValue (t_Br j) = vp_V [.null, .null, .null, .int 0, .int 0, .int 0, .int 0, .int 0] j := fun j hj => by
  rcases (show j = 0 ∨ j = 1 ∨ j = 2 ∨ j = 3 ∨ j = 4 ∨ j = 5 ∨ j = 6 ∨ j = 7 by omega) with rfl | rfl | rfl | rfl | rfl | rfl | rfl | rfl <;> rfl
def R_Po : String := "LinkEngine$Polynomial"
def F_Po : u_T := fun k => match k with
  | 0 => ("LinkEngine$Polynomial", "term", "[J", true)
  | 1 => ("LinkEngine$Polynomial", "raise", "I", false)
  | _ => ("LinkEngine$Polynomial", "sign", "I", false)
def t_Po : Nat → FieldType := fun k => match k with
  | 0 => (.array .long)
  | 1 => .int
  | _ => .int
abbrev w_Po : List Cond := u_ws R_Po F_Po 3
theorem n_Po : ∀ a, a < 3 → ∀ b, b < 3 → a ≠ b → (F_Po a).2.1 ≠ (F_Po b).2.1 := by decide +kernel
theorem t_Po_ok : ∀ k, k < 3 → parseFieldDescriptor (F_Po k).2.2.1 = some (t_Po k) := by decide +kernel
theorem f_Po : ∀ j, j < 3 → defaultValue (t_Po j) = vp_V [.null, .int 0, .int 0] j := fun j hj => by
  rcases (show j = 0 ∨ j = 1 ∨ j = 2 by omega) with rfl | rfl | rfl <;> rfl
def R_Ss : String := "LinkEngine$StateSum"
def F_Ss : u_T := fun k => match k with
  | 0 => ("LinkEngine$StateSum", "mate", "[I", true)
  | 1 => ("LinkEngine$StateSum", "states", "[I", true)
  | _ => ("LinkEngine$StateSum", "crossings", "I", false)
def t_Ss : Nat → FieldType := fun k => match k with
  | 0 => (.array .int)
  | 1 => (.array .int)
  | _ => .int
abbrev w_Ss : List Cond := u_ws R_Ss F_Ss 3
theorem n_Ss : ∀ a, a < 3 → ∀ b, b < 3 → a ≠ b → (F_Ss a).2.1 ≠ (F_Ss b).2.1 := by decide +kernel
theorem t_Ss_ok : ∀ k, k < 3 → parseFieldDescriptor (F_Ss k).2.2.1 = some (t_Ss k) := by decide +kernel
theorem f_Ss : ∀ j, j < 3 → defaultValue (t_Ss j) = vp_V [.null, .null, .int 0] j := fun j hj => by
  rcases (show j = 0 ∨ j = 1 ∨ j = 2 by omega) with rfl | rfl | rfl <;> rfl
def R_Mi : String := "LinkEngine$Minor"
def F_Mi : u_T := fun k => match k with
  | 0 => ("LinkEngine$Minor", "sum", "[I", true)
  | 1 => ("LinkEngine$Minor", "reached", "[I", true)
  | _ => ("LinkEngine$Minor", "order", "I", false)
def t_Mi : Nat → FieldType := fun k => match k with
  | 0 => (.array .int)
  | 1 => (.array .int)
  | _ => .int
abbrev w_Mi : List Cond := u_ws R_Mi F_Mi 3
theorem n_Mi : ∀ a, a < 3 → ∀ b, b < 3 → a ≠ b → (F_Mi a).2.1 ≠ (F_Mi b).2.1 := by decide +kernel
theorem t_Mi_ok : ∀ k, k < 3 → parseFieldDescriptor (F_Mi k).2.2.1 = some (t_Mi k) := by decide +kernel
theorem f_Mi : ∀ j, j < 3 → defaultValue (t_Mi j) = vp_V [.null, .null, .int 0] j := fun j hj => by
  rcases (show j = 0 ∨ j = 1 ∨ j = 2 by omega) with rfl | rfl | rfl <;> rfl
def R_Md : String := "LinkEngineModel"
def F_Md : u_T := fun k => match k with
  | 0 => ("LinkEngineModel", "tape", "[B", true)
  | 1 => ("LinkEngineModel", "taped", "I", false)
  | 2 => ("LinkEngineModel", "out", "[B", true)
  | 3 => ("LinkEngineModel", "outSize", "I", false)
  | 4 => ("LinkEngineModel", "text", "[B", true)
  | 5 => ("LinkEngineModel", "size", "I", false)
  | 6 => ("LinkEngineModel", "at", "I", false)
  | 7 => ("LinkEngineModel", "token", "I", false)
  | 8 => ("LinkEngineModel", "from", "I", false)
  | 9 => ("LinkEngineModel", "wasRead", "Z", false)
  | 10 => ("LinkEngineModel", "fault", "I", false)
  | 11 => ("LinkEngineModel", "place", "I", false)
  | 12 => ("LinkEngineModel", "kinds", "[I", true)
  | 13 => ("LinkEngineModel", "begins", "[I", true)
  | 14 => ("LinkEngineModel", "numbers", "[J", true)
  | 15 => ("LinkEngineModel", "lines", "I", false)
  | 16 => ("LinkEngineModel", "next", "I", false)
  | 17 => ("LinkEngineModel", "putAt", "I", false)
  | 18 => ("LinkEngineModel", "d", "LLinkEngineModel$Diagram;", true)
  | 19 => ("LinkEngineModel", "old", "LLinkEngineModel$Diagram;", true)
  | 20 => ("LinkEngineModel", "before", "LLinkEngineModel$Diagram;", true)
  | 21 => ("LinkEngineModel", "latest", "LLinkEngineModel$Word;", true)
  | 22 => ("LinkEngineModel", "earlier", "LLinkEngineModel$Word;", true)
  | 23 => ("LinkEngineModel", "keptLatest", "LLinkEngineModel$Word;", true)
  | 24 => ("LinkEngineModel", "keptEarlier", "LLinkEngineModel$Word;", true)
  | 25 => ("LinkEngineModel", "done", "I", false)
  | 26 => ("LinkEngineModel", "hard", "I", false)
  | 27 => ("LinkEngineModel", "made", "[B", true)
  | 28 => ("LinkEngineModel", "madeSize", "I", false)
  | 29 => ("LinkEngineModel", "edges", "I", false)
  | 30 => ("LinkEngineModel", "labelOf", "[I", true)
  | 31 => ("LinkEngineModel", "begin", "[I", true)
  | 32 => ("LinkEngineModel", "finish", "[I", true)
  | 33 => ("LinkEngineModel", "follow", "[I", true)
  | 34 => ("LinkEngineModel", "compOf", "[I", true)
  | 35 => ("LinkEngineModel", "placed", "[I", true)
  | 36 => ("LinkEngineModel", "comps", "I", false)
  | 37 => ("LinkEngineModel", "faces", "I", false)
  | 38 => ("LinkEngineModel", "faceOf", "[I", true)
  | 39 => ("LinkEngineModel", "firstDart", "[I", true)
  | 40 => ("LinkEngineModel", "pieceOf", "[I", true)
  | 41 => ("LinkEngineModel", "pieces", "I", false)
  | 42 => ("LinkEngineModel", "top", "[I", true)
  | 43 => ("LinkEngineModel", "poly", "[J", true)
  | 44 => ("LinkEngineModel", "other", "[J", true)
  | 45 => ("LinkEngineModel", "root", "[I", true)
  | 46 => ("LinkEngineModel", "ways", "[J", true)
  | 47 => ("LinkEngineModel", "arcs", "I", false)
  | 48 => ("LinkEngineModel", "arcOf", "[I", true)
  | 49 => ("LinkEngineModel", "low", "[J", true)
  | 50 => ("LinkEngineModel", "high", "[J", true)
  | 51 => ("LinkEngineModel", "minor", "[J", true)
  | 52 => ("LinkEngineModel", "gcd", "[J", true)
  | _ => ("LinkEngineModel", "one", "[J", true)
def t_Md : Nat → FieldType := fun k => match k with
  | 0 => (.array .byte)
  | 1 => .int
  | 2 => (.array .byte)
  | 3 => .int
  | 4 => (.array .byte)
  | 5 => .int
  | 6 => .int
  | 7 => .int
  | 8 => .int
  | 9 => .boolean
  | 10 => .int
  | 11 => .int
  | 12 => (.array .int)
  | 13 => (.array .int)
  | 14 => (.array .long)
  | 15 => .int
  | 16 => .int
  | 17 => .int
  | 18 => (.object "LinkEngineModel$Diagram")
  | 19 => (.object "LinkEngineModel$Diagram")
  | 20 => (.object "LinkEngineModel$Diagram")
  | 21 => (.object "LinkEngineModel$Word")
  | 22 => (.object "LinkEngineModel$Word")
  | 23 => (.object "LinkEngineModel$Word")
  | 24 => (.object "LinkEngineModel$Word")
  | 25 => .int
  | 26 => .int
  | 27 => (.array .byte)
  | 28 => .int
  | 29 => .int
  | 30 => (.array .int)
  | 31 => (.array .int)
  | 32 => (.array .int)
  | 33 => (.array .int)
  | 34 => (.array .int)
  | 35 => (.array .int)
  | 36 => .int
  | 37 => .int
  | 38 => (.array .int)
  | 39 => (.array .int)
  | 40 => (.array .int)
  | 41 => .int
  | 42 => (.array .int)
  | 43 => (.array .long)
  | 44 => (.array .long)
  | 45 => (.array .int)
  | 46 => (.array .long)
  | 47 => .int
  | 48 => (.array .int)
  | 49 => (.array .long)
  | 50 => (.array .long)
  | 51 => (.array .long)
  | 52 => (.array .long)
  | _ => (.array .long)
abbrev w_Md : List Cond := u_ws R_Md F_Md 54
theorem n_Md : ∀ a, a < 54 → ∀ b, b < 54 → a ≠ b → (F_Md a).2.1 ≠ (F_Md b).2.1 := by decide +kernel
theorem t_Md_ok : ∀ k, k < 54 → parseFieldDescriptor (F_Md k).2.2.1 = some (t_Md k) := by decide +kernel
theorem f_Md : ∀ j, j < 54 → defaultValue (t_Md j) = vp_V [.null, .int 0, .null, .int 0, .null, .int 0, .int 0, .int 0, .int 0, .int 0, .int 0, .int 0, .null, .null, .null, .int 0, .int 0, .int 0, .null, .null, .null, .null, .null, .null, .null, .int 0, .int 0, .null, .int 0, .int 0, .null, .null, .null, .null, .null, .null, .int 0, .int 0, .null, .null, .null, .int 0, .null, .null, .null, .null, .null, .int 0, .null, .null, .null, .null, .null, .null] j := fun j hj => by
  rcases (show j = 0 ∨ j = 1 ∨ j = 2 ∨ j = 3 ∨ j = 4 ∨ j = 5 ∨ j = 6 ∨ j = 7 ∨ j = 8 ∨ j = 9 ∨ j = 10 ∨ j = 11 ∨ j = 12 ∨ j = 13 ∨ j = 14 ∨ j = 15 ∨ j = 16 ∨ j = 17 ∨ j = 18 ∨ j = 19 ∨ j = 20 ∨ j = 21 ∨ j = 22 ∨ j = 23 ∨ j = 24 ∨ j = 25 ∨ j = 26 ∨ j = 27 ∨ j = 28 ∨ j = 29 ∨ j = 30 ∨ j = 31 ∨ j = 32 ∨ j = 33 ∨ j = 34 ∨ j = 35 ∨ j = 36 ∨ j = 37 ∨ j = 38 ∨ j = 39 ∨ j = 40 ∨ j = 41 ∨ j = 42 ∨ j = 43 ∨ j = 44 ∨ j = 45 ∨ j = 46 ∨ j = 47 ∨ j = 48 ∨ j = 49 ∨ j = 50 ∨ j = 51 ∨ j = 52 ∨ j = 53 by omega) with rfl | rfl | rfl | rfl | rfl | rfl | rfl | rfl | rfl | rfl | rfl | rfl | rfl | rfl | rfl | rfl | rfl | rfl | rfl | rfl | rfl | rfl | rfl | rfl | rfl | rfl | rfl | rfl | rfl | rfl | rfl | rfl | rfl | rfl | rfl | rfl | rfl | rfl | rfl | rfl | rfl | rfl | rfl | rfl | rfl | rfl | rfl | rfl | rfl | rfl | rfl | rfl | rfl | rfl <;> rfl
def R_Md_Di : String := "LinkEngineModel$Diagram"
def F_Md_Di : u_T := fun k => match k with
  | 0 => ("LinkEngineModel$Diagram", "n", "I", false)
  | 1 => ("LinkEngineModel$Diagram", "circles", "I", false)
  | 2 => ("LinkEngineModel$Diagram", "sign", "[I", true)
  | _ => ("LinkEngineModel$Diagram", "label", "[I", true)
def t_Md_Di : Nat → FieldType := fun k => match k with
  | 0 => .int
  | 1 => .int
  | 2 => (.array .int)
  | _ => (.array .int)
abbrev w_Md_Di : List Cond := u_ws R_Md_Di F_Md_Di 4
theorem n_Md_Di : ∀ a, a < 4 → ∀ b, b < 4 → a ≠ b → (F_Md_Di a).2.1 ≠ (F_Md_Di b).2.1 := by decide +kernel
theorem t_Md_Di_ok : ∀ k, k < 4 → parseFieldDescriptor (F_Md_Di k).2.2.1 = some (t_Md_Di k) := by decide +kernel
theorem f_Md_Di : ∀ j, j < 4 → defaultValue (t_Md_Di j) = vp_V [.int 0, .int 0, .null, .null] j := fun j hj => by
  rcases (show j = 0 ∨ j = 1 ∨ j = 2 ∨ j = 3 by omega) with rfl | rfl | rfl | rfl <;> rfl
def R_Md_Wo : String := "LinkEngineModel$Word"
def F_Md_Wo : u_T := fun k => match k with
  | 0 => ("LinkEngineModel$Word", "strands", "I", false)
  | 1 => ("LinkEngineModel$Word", "count", "I", false)
  | 2 => ("LinkEngineModel$Word", "letters", "[I", true)
  | 3 => ("LinkEngineModel$Word", "power", "I", false)
  | 4 => ("LinkEngineModel$Word", "many", "I", false)
  | _ => ("LinkEngineModel$Word", "simple", "[I", true)
def t_Md_Wo : Nat → FieldType := fun k => match k with
  | 0 => .int
  | 1 => .int
  | 2 => (.array .int)
  | 3 => .int
  | 4 => .int
  | _ => (.array .int)
abbrev w_Md_Wo : List Cond := u_ws R_Md_Wo F_Md_Wo 6
theorem n_Md_Wo : ∀ a, a < 6 → ∀ b, b < 6 → a ≠ b → (F_Md_Wo a).2.1 ≠ (F_Md_Wo b).2.1 := by decide +kernel
theorem t_Md_Wo_ok : ∀ k, k < 6 → parseFieldDescriptor (F_Md_Wo k).2.2.1 = some (t_Md_Wo k) := by decide +kernel
theorem f_Md_Wo : ∀ j, j < 6 → defaultValue (t_Md_Wo j) = vp_V [.int 0, .int 0, .null, .int 0, .int 0, .null] j := fun j hj => by
  rcases (show j = 0 ∨ j = 1 ∨ j = 2 ∨ j = 3 ∨ j = 4 ∨ j = 5 by omega) with rfl | rfl | rfl | rfl | rfl | rfl <;> rfl
abbrev classes : List vw_C := [(R_En, F_En, 18), (R_Li, F_Li, 5), (R_Rd, F_Rd, 10), (R_Pa, F_Pa, 4), (R_Di, F_Di, 6), (R_Sh, F_Sh, 18), (R_Mo, F_Mo, 1), (R_Br, F_Br, 8), (R_Po, F_Po, 3), (R_Ss, F_Ss, 3), (R_Mi, F_Mi, 3), (R_Md, F_Md, 54), (R_Md_Di, F_Md_Di, 4), (R_Md_Wo, F_Md_Wo, 6)]
abbrev b_En_init : ByteArray := prog_1_method_1_code
def y_En_init : MethodName := ⟨"LinkEngine", "<init>", "()V"⟩
abbrev b_En_crossing : ByteArray := prog_1_method_7_code
def y_En_crossing : MethodName := ⟨"LinkEngine", "crossing", "(II)I"⟩
abbrev b_En_fault : ByteArray := prog_1_method_4_code
def y_En_fault : MethodName := ⟨"LinkEngine", "fault", "(I)I"⟩
abbrev b_En_feed : ByteArray := prog_1_method_2_code
def y_En_feed : MethodName := ⟨"LinkEngine", "feed", "(IIIII)I"⟩
abbrev b_En_form : ByteArray := prog_1_method_11_code
def y_En_form : MethodName := ⟨"LinkEngine", "form", "(ZII)I"⟩
abbrev b_En_length : ByteArray := prog_1_method_12_code
def y_En_length : MethodName := ⟨"LinkEngine", "length", "(Z)I"⟩
abbrev b_En_mayDoNext : ByteArray := prog_1_method_14_code
def y_En_mayDoNext : MethodName := ⟨"LinkEngine", "mayDoNext", "()Z"⟩
abbrev b_En_printed : ByteArray := prog_1_method_8_code
def y_En_printed : MethodName := ⟨"LinkEngine", "printed", "(I)I"⟩
abbrev b_En_putOnTape : ByteArray := prog_1_method_13_code
def y_En_putOnTape : MethodName := ⟨"LinkEngine", "putOnTape", "(I)V"⟩
abbrev b_En_read : ByteArray := prog_1_method_3_code
def y_En_read : MethodName := ⟨"LinkEngine", "read", "(I)I"⟩
abbrev b_En_run : ByteArray := prog_1_method_5_code
def y_En_run : MethodName := ⟨"LinkEngine", "run", "(I)I"⟩
abbrev b_En_same : ByteArray := prog_1_method_10_code
def y_En_same : MethodName := ⟨"LinkEngine", "same", "()Z"⟩
abbrev b_En_state : ByteArray := prog_1_method_6_code
def y_En_state : MethodName := ⟨"LinkEngine", "state", "(I)I"⟩
abbrev b_En_wipe : ByteArray := prog_1_method_9_code
def y_En_wipe : MethodName := ⟨"LinkEngine", "wipe", "(Z)I"⟩
abbrev b_Br_init : ByteArray := prog_2_method_1_code
def y_Br_init : MethodName := ⟨"LinkEngine$Braid", "<init>", "()V"⟩
abbrev b_Br_findForm : ByteArray := prog_2_method_7_code
def y_Br_findForm : MethodName := ⟨"LinkEngine$Braid", "findForm", "()V"⟩
abbrev b_Br_formAt : ByteArray := prog_2_method_5_code
def y_Br_formAt : MethodName := ⟨"LinkEngine$Braid", "formAt", "(II)I"⟩
abbrev b_Br_isOneBraidWith : ByteArray := prog_2_method_6_code
def y_Br_isOneBraidWith : MethodName := ⟨"LinkEngine$Braid", "isOneBraidWith", "(LLinkEngine$Braid;)Z"⟩
abbrev b_Br_simpleBraids : ByteArray := prog_2_method_4_code
def y_Br_simpleBraids : MethodName := ⟨"LinkEngine$Braid", "simpleBraids", "()I"⟩
abbrev b_Di_init : ByteArray := prog_3_method_1_code
def y_Di_init : MethodName := ⟨"LinkEngine$Diagram", "<init>", "()V"⟩
abbrev b_Di_shape : ByteArray := prog_3_method_2_code
def y_Di_shape : MethodName := ⟨"LinkEngine$Diagram", "shape", "()LLinkEngine$Shape;"⟩
abbrev b_Di_sumOfSigns : ByteArray := prog_3_method_9_code
def y_Di_sumOfSigns : MethodName := ⟨"LinkEngine$Diagram", "sumOfSigns", "()I"⟩
abbrev b_Li_init : ByteArray := prog_4_method_1_code
def y_Li_init : MethodName := ⟨"LinkEngine$Lines", "<init>", "()V"⟩
abbrev b_Li_clear : ByteArray := prog_4_method_2_code
def y_Li_clear : MethodName := ⟨"LinkEngine$Lines", "clear", "()V"⟩
abbrev b_Li_kindOfNext : ByteArray := prog_4_method_8_code
def y_Li_kindOfNext : MethodName := ⟨"LinkEngine$Lines", "kindOfNext", "()I"⟩
abbrev b_Li_waiting : ByteArray := prog_4_method_7_code
def y_Li_waiting : MethodName := ⟨"LinkEngine$Lines", "waiting", "()I"⟩
abbrev b_Mi_init : ByteArray := prog_5_method_1_code
def y_Mi_init : MethodName := ⟨"LinkEngine$Minor", "<init>", "()V"⟩
abbrev b_Mo_init : ByteArray := prog_6_method_1_code
def y_Mo_init : MethodName := ⟨"LinkEngine$Moves", "<init>", "()V"⟩
abbrev b_Pa_init : ByteArray := prog_7_method_1_code
def y_Pa_init : MethodName := ⟨"LinkEngine$Paper", "<init>", "()V"⟩
abbrev b_Po_init : ByteArray := prog_8_method_1_code
def y_Po_init : MethodName := ⟨"LinkEngine$Polynomial", "<init>", "()V"⟩
abbrev b_Rd_init : ByteArray := prog_9_method_1_code
def y_Rd_init : MethodName := ⟨"LinkEngine$Reader", "<init>", "()V"⟩
abbrev b_Rd_begin : ByteArray := prog_9_method_2_code
def y_Rd_begin : MethodName := ⟨"LinkEngine$Reader", "begin", "(I)V"⟩
abbrev b_Sh_init : ByteArray := prog_10_method_1_code
def y_Sh_init : MethodName := ⟨"LinkEngine$Shape", "<init>", "()V"⟩
abbrev b_Sh_checkSpheres : ByteArray := prog_10_method_12_code
def y_Sh_checkSpheres : MethodName := ⟨"LinkEngine$Shape", "checkSpheres", "(I)V"⟩
abbrev b_Sh_clear : ByteArray := prog_10_method_2_code
def y_Sh_clear : MethodName := ⟨"LinkEngine$Shape", "clear", "()V"⟩
abbrev b_Sh_edgesHaveDirections : ByteArray := prog_10_method_7_code
def y_Sh_edgesHaveDirections : MethodName := ⟨"LinkEngine$Shape", "edgesHaveDirections", "(LLinkEngine$Diagram;)Z"⟩
abbrev b_Sh_findComponents : ByteArray := prog_10_method_11_code
def y_Sh_findComponents : MethodName := ⟨"LinkEngine$Shape", "findComponents", "()V"⟩
abbrev b_Sh_findFaces : ByteArray := prog_10_method_10_code
def y_Sh_findFaces : MethodName := ⟨"LinkEngine$Shape", "findFaces", "()V"⟩
abbrev b_Sh_findPieces : ByteArray := prog_10_method_9_code
def y_Sh_findPieces : MethodName := ⟨"LinkEngine$Shape", "findPieces", "(I)V"⟩
abbrev b_Sh_labelsArePaired : ByteArray := prog_10_method_6_code
def y_Sh_labelsArePaired : MethodName := ⟨"LinkEngine$Shape", "labelsArePaired", "(I)Z"⟩
abbrev b_Sh_sortPlaces : ByteArray := prog_10_method_3_code
def y_Sh_sortPlaces : MethodName := ⟨"LinkEngine$Shape", "sortPlaces", "(LLinkEngine$Diagram;)V"⟩
abbrev b_Ss_init : ByteArray := prog_11_method_1_code
def y_Ss_init : MethodName := ⟨"LinkEngine$StateSum", "<init>", "()V"⟩
abbrev b_Md_init : ByteArray := prog_13_method_1_code
def y_Md_init : MethodName := ⟨"LinkEngineModel", "<init>", "()V"⟩
abbrev b_Md_crossing : ByteArray := prog_13_method_127_code
def y_Md_crossing : MethodName := ⟨"LinkEngineModel", "crossing", "(II)I"⟩
abbrev b_Md_fault : ByteArray := prog_13_method_29_code
def y_Md_fault : MethodName := ⟨"LinkEngineModel", "fault", "(I)I"⟩
abbrev b_Md_feed : ByteArray := prog_13_method_124_code
def y_Md_feed : MethodName := ⟨"LinkEngineModel", "feed", "(IIIII)I"⟩
abbrev b_Md_feedOne : ByteArray := prog_13_method_125_code
def y_Md_feedOne : MethodName := ⟨"LinkEngineModel", "feedOne", "(I)V"⟩
abbrev b_Md_findEdges : ByteArray := prog_13_method_33_code
def y_Md_findEdges : MethodName := ⟨"LinkEngineModel", "findEdges", "()V"⟩
abbrev b_Md_findPieces : ByteArray := prog_13_method_37_code
def y_Md_findPieces : MethodName := ⟨"LinkEngineModel", "findPieces", "()V"⟩
abbrev b_Md_findRounds : ByteArray := prog_13_method_36_code
def y_Md_findRounds : MethodName := ⟨"LinkEngineModel", "findRounds", "()V"⟩
abbrev b_Md_form : ByteArray := prog_13_method_73_code
def y_Md_form : MethodName := ⟨"LinkEngineModel", "form", "(ZII)I"⟩
abbrev b_Md_length : ByteArray := prog_13_method_74_code
def y_Md_length : MethodName := ⟨"LinkEngineModel", "length", "(Z)I"⟩
abbrev b_Md_look : ByteArray := prog_13_method_6_code
def y_Md_look : MethodName := ⟨"LinkEngineModel", "look", "()V"⟩
abbrev b_Md_norm : ByteArray := prog_13_method_71_code
def y_Md_norm : MethodName := ⟨"LinkEngineModel", "norm", "(LLinkEngineModel$Word;)V"⟩
abbrev b_Md_printed : ByteArray := prog_13_method_128_code
def y_Md_printed : MethodName := ⟨"LinkEngineModel", "printed", "(I)I"⟩
abbrev b_Md_read : ByteArray := prog_13_method_28_code
def y_Md_read : MethodName := ⟨"LinkEngineModel", "read", "(I)I"⟩
abbrev b_Md_readText : ByteArray := prog_13_method_27_code
def y_Md_readText : MethodName := ⟨"LinkEngineModel", "readText", "()V"⟩
abbrev b_Md_run : ByteArray := prog_13_method_123_code
def y_Md_run : MethodName := ⟨"LinkEngineModel", "run", "(I)I"⟩
abbrev b_Md_same : ByteArray := prog_13_method_72_code
def y_Md_same : MethodName := ⟨"LinkEngineModel", "same", "()Z"⟩
abbrev b_Md_signs : ByteArray := prog_13_method_80_code
def y_Md_signs : MethodName := ⟨"LinkEngineModel", "signs", "()I"⟩
abbrev b_Md_state : ByteArray := prog_13_method_126_code
def y_Md_state : MethodName := ⟨"LinkEngineModel", "state", "(I)I"⟩
abbrev b_Md_survey : ByteArray := prog_13_method_38_code
def y_Md_survey : MethodName := ⟨"LinkEngineModel", "survey", "()V"⟩
abbrev b_Md_wipe : ByteArray := prog_13_method_129_code
def y_Md_wipe : MethodName := ⟨"LinkEngineModel", "wipe", "(Z)I"⟩
abbrev b_Md_Di_init : ByteArray := prog_14_method_1_code
def y_Md_Di_init : MethodName := ⟨"LinkEngineModel$Diagram", "<init>", "()V"⟩
abbrev b_Md_Wo_init : ByteArray := prog_15_method_1_code
def y_Md_Wo_init : MethodName := ⟨"LinkEngineModel$Word", "<init>", "()V"⟩
abbrev b_Arr_fill : ByteArray := prog_22_method_103_code
def y_Arr_fill : MethodName := ⟨"java/util/Arrays", "fill", "([II)V"⟩
