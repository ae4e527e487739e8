-- ===== PART A: goes FIRST, ahead of the names: the tables' words, and 'selects' of the private methods out of them =====
/-- a private method of a class that the tables say can be made, by its rows of tables_1 -/
def lw_okq (q : MethodName × Nat) : Prop := (q.1.cls ≠ "java/lang/invoke/MethodHandle" ∧ q.1.cls ≠ "java/lang/invoke/VarHandle") ∧ Cond.instantiable q.1.cls q.2 ∈ tables_1 ∧ Cond.privateMethod q.1 ∈ tables_1 ∧ Cond.instanceMethod q.1 ∈ tables_1
theorem lw_p0 : lw_okq (⟨"WindowLetters", "newDraft", "()LWindowLetters$Shop;"⟩, 7) := ⟨⟨by decide +kernel, by decide +kernel⟩, List.mem_of_getElem? (i := 16) (by decide +kernel), List.mem_of_getElem? (i := 303) (by decide +kernel), List.mem_of_getElem? (i := 304) (by decide +kernel)⟩
theorem lw_p1 : lw_okq (⟨"WindowLetters", "settle", "(I)I"⟩, 7) := ⟨⟨by decide +kernel, by decide +kernel⟩, List.mem_of_getElem? (i := 16) (by decide +kernel), List.mem_of_getElem? (i := 312) (by decide +kernel), List.mem_of_getElem? (i := 313) (by decide +kernel)⟩
theorem lw_p2 : lw_okq (⟨"WindowLetters$Sheet", "freeColumns", "(III)I"⟩, 4) := ⟨⟨by decide +kernel, by decide +kernel⟩, List.mem_of_getElem? (i := 67) (by decide +kernel), List.mem_of_getElem? (i := 336) (by decide +kernel), List.mem_of_getElem? (i := 337) (by decide +kernel)⟩
theorem lw_p3 : lw_okq (⟨"WindowLetters$Shop", "addPiece", "(IIIII)I"⟩, 6) := ⟨⟨by decide +kernel, by decide +kernel⟩, List.mem_of_getElem? (i := 58) (by decide +kernel), List.mem_of_getElem? (i := 346) (by decide +kernel), List.mem_of_getElem? (i := 347) (by decide +kernel)⟩
theorem lw_p4 : lw_okq (⟨"WindowLetters$Shop", "lowestLoose", "(III)I"⟩, 6) := ⟨⟨by decide +kernel, by decide +kernel⟩, List.mem_of_getElem? (i := 58) (by decide +kernel), List.mem_of_getElem? (i := 516) (by decide +kernel), List.mem_of_getElem? (i := 517) (by decide +kernel)⟩
theorem lw_p5 : lw_okq (⟨"WindowLetters$Shop", "piecesIn", "(I)I"⟩, 6) := ⟨⟨by decide +kernel, by decide +kernel⟩, List.mem_of_getElem? (i := 58) (by decide +kernel), List.mem_of_getElem? (i := 528) (by decide +kernel), List.mem_of_getElem? (i := 529) (by decide +kernel)⟩
def lw_privs_1 : List (MethodName × Nat) := [(⟨"WindowLetters", "newDraft", "()LWindowLetters$Shop;"⟩, 7), (⟨"WindowLetters", "settle", "(I)I"⟩, 7), (⟨"WindowLetters$Sheet", "freeColumns", "(III)I"⟩, 4), (⟨"WindowLetters$Shop", "addPiece", "(IIIII)I"⟩, 6), (⟨"WindowLetters$Shop", "lowestLoose", "(III)I"⟩, 6), (⟨"WindowLetters$Shop", "piecesIn", "(I)I"⟩, 6)]
theorem lw_r1 : ∀ q ∈ lw_privs_1, lw_okq q := List.forall_mem_cons.mpr ⟨lw_p0, List.forall_mem_cons.mpr ⟨lw_p1, List.forall_mem_cons.mpr ⟨lw_p2, List.forall_mem_cons.mpr ⟨lw_p3, List.forall_mem_cons.mpr ⟨lw_p4, List.forall_mem_cons.mpr ⟨lw_p5, fun _ h => absurd h List.not_mem_nil⟩⟩⟩⟩⟩⟩
def lw_privs : List (MethodName × Nat) := lw_privs_1
def lw_tbl : List Cond := k2_sels lw_privs ++ tables_1
theorem lw_privs_ok : ∀ q ∈ lw_privs, lw_okq q := lw_r1
def RX0 : String := "WindowLetters$History"
def TX0 : u_T := fun k => match k with
  | 0 => ("WindowLetters$History", "shapes", "LWindowLetters$Shapes;", true)
  | 1 => ("WindowLetters$History", "states", "[LWindowLetters$Shop;", true)
  | 2 => ("WindowLetters$History", "oldest", "I", false)
  | _ => ("WindowLetters$History", "length", "I", false)
def tyX0 : Nat → FieldType := fun k => match k with
  | 0 => .object "WindowLetters$Shapes"
  | 1 => .array (.object "WindowLetters$Shop")
  | 2 => .int
  | _ => .int
abbrev wsX00 : List Cond := u_ws RX0 TX0 4
theorem nmX0 : ∀ a, a < 4 → ∀ b, b < 4 → a ≠ b → (TX0 a).2.1 ≠ (TX0 b).2.1 := by decide +kernel
theorem tyX0_ok : ∀ k, k < 4 → parseFieldDescriptor (TX0 k).2.2.1 = some (tyX0 k) := by decide +kernel
abbrev cX0_init : ByteArray := prog_2_method_1_code
def yX0_init : MethodName := ⟨RX0, "<init>", "(LWindowLetters$Shapes;)V"⟩
abbrev cX0_record : ByteArray := prog_2_method_2_code
def yX0_record : MethodName := ⟨RX0, "record", "(LWindowLetters$Shop;)V"⟩
abbrev cX0_takeBack : ByteArray := prog_2_method_3_code
def yX0_takeBack : MethodName := ⟨RX0, "takeBack", "(LWindowLetters$Shop;)Z"⟩
def RX1 : String := "WindowLetters$Pad"
def TX1 : u_T := fun k => match k with
  | 0 => ("WindowLetters$Pad", "signs", "[C", true)
  | _ => ("WindowLetters$Pad", "length", "I", false)
def tyX1 : Nat → FieldType := fun k => match k with
  | 0 => .array .char
  | _ => .int
abbrev wsX10 : List Cond := u_ws RX1 TX1 2
theorem nmX1 : ∀ a, a < 2 → ∀ b, b < 2 → a ≠ b → (TX1 a).2.1 ≠ (TX1 b).2.1 := by decide +kernel
theorem tyX1_ok : ∀ k, k < 2 → parseFieldDescriptor (TX1 k).2.2.1 = some (tyX1 k) := by decide +kernel
abbrev cX1_init : ByteArray := prog_3_method_1_code
def yX1_init : MethodName := ⟨RX1, "<init>", "()V"⟩
abbrev cX1_empty : ByteArray := prog_3_method_2_code
def yX1_empty : MethodName := ⟨RX1, "empty", "()V"⟩
abbrev cX1_append : ByteArray := prog_3_method_3_code
def yX1_append : MethodName := ⟨RX1, "append", "(J)I"⟩
abbrev cX1_signsIn : ByteArray := prog_3_method_4_code
def yX1_signsIn : MethodName := ⟨RX1, "signsIn", "(J)I"⟩
abbrev cX1_codeIn : ByteArray := prog_3_method_5_code
def yX1_codeIn : MethodName := ⟨RX1, "codeIn", "(JI)I"⟩
abbrev cX1_letterAt : ByteArray := prog_3_method_6_code
def yX1_letterAt : MethodName := ⟨RX1, "letterAt", "(I)I"⟩
abbrev cX1_faultIndex : ByteArray := prog_3_method_7_code
def yX1_faultIndex : MethodName := ⟨RX1, "faultIndex", "()I"⟩
def RX2 : String := "WindowLetters$Piece"
def TX2 : u_T := fun k => match k with
  | 0 => ("WindowLetters$Piece", "letter", "I", false)
  | 1 => ("WindowLetters$Piece", "colour", "I", false)
  | 2 => ("WindowLetters$Piece", "way", "I", false)
  | 3 => ("WindowLetters$Piece", "sheet", "I", false)
  | 4 => ("WindowLetters$Piece", "corner", "I", false)
  | 5 => ("WindowLetters$Piece", "state", "I", false)
  | _ => ("WindowLetters$Piece", "spot", "I", false)
def tyX2 : Nat → FieldType := fun k => match k with
  | 0 => .int
  | 1 => .int
  | 2 => .int
  | 3 => .int
  | 4 => .int
  | 5 => .int
  | _ => .int
abbrev wsX20 : List Cond := u_ws RX2 TX2 7
theorem nmX2 : ∀ a, a < 7 → ∀ b, b < 7 → a ≠ b → (TX2 a).2.1 ≠ (TX2 b).2.1 := by decide +kernel
theorem tyX2_ok : ∀ k, k < 7 → parseFieldDescriptor (TX2 k).2.2.1 = some (tyX2 k) := by decide +kernel
abbrev cX2_init : ByteArray := prog_4_method_1_code
def yX2_init : MethodName := ⟨RX2, "<init>", "()V"⟩
abbrev cX2_copyFrom : ByteArray := prog_4_method_2_code
def yX2_copyFrom : MethodName := ⟨RX2, "copyFrom", "(LWindowLetters$Piece;)V"⟩
abbrev cX2_becomeLoose : ByteArray := prog_4_method_3_code
def yX2_becomeLoose : MethodName := ⟨RX2, "becomeLoose", "()V"⟩
def RX3 : String := "WindowLetters$Shapes"
def TX3 : u_T := fun k => match k with
  | _ => ("WindowLetters$Shapes", "rows", "[I", true)
def tyX3 : Nat → FieldType := fun k => match k with
  | _ => .array .int
abbrev wsX30 : List Cond := u_ws RX3 TX3 1
theorem nmX3 : ∀ a, a < 1 → ∀ b, b < 1 → a ≠ b → (TX3 a).2.1 ≠ (TX3 b).2.1 := by decide +kernel
theorem tyX3_ok : ∀ k, k < 1 → parseFieldDescriptor (TX3 k).2.2.1 = some (tyX3 k) := by decide +kernel
abbrev cX3_init : ByteArray := prog_5_method_1_code
def yX3_init : MethodName := ⟨RX3, "<init>", "()V"⟩
abbrev cX3_columnsOf : ByteArray := prog_5_method_2_code
def yX3_columnsOf : MethodName := ⟨RX3, "columnsOf", "(III)I"⟩
abbrev cX3_squaresOf : ByteArray := prog_5_method_3_code
def yX3_squaresOf : MethodName := ⟨RX3, "squaresOf", "(I)I"⟩
abbrev cX3_turnedRow : ByteArray := prog_5_method_4_code
def yX3_turnedRow : MethodName := ⟨RX3, "turnedRow", "(III)I"⟩
abbrev cX3_hasSquare : ByteArray := prog_5_method_5_code
def yX3_hasSquare : MethodName := ⟨RX3, "hasSquare", "(IIII)Z"⟩
abbrev cX3_uprightHas : ByteArray := prog_5_method_6_code
def yX3_uprightHas : MethodName := ⟨RX3, "uprightHas", "(III)Z"⟩
def RX4 : String := "WindowLetters$Sheet"
def TX4 : u_T := fun k => match k with
  | 0 => ("WindowLetters$Sheet", "shapes", "LWindowLetters$Shapes;", true)
  | 1 => ("WindowLetters$Sheet", "cutColumns", "[I", true)
  | 2 => ("WindowLetters$Sheet", "colour", "I", false)
  | _ => ("WindowLetters$Sheet", "scrapped", "Z", false)
def tyX4 : Nat → FieldType := fun k => match k with
  | 0 => .object "WindowLetters$Shapes"
  | 1 => .array .int
  | 2 => .int
  | _ => .boolean
abbrev wsX40 : List Cond := u_ws RX4 TX4 4
theorem nmX4 : ∀ a, a < 4 → ∀ b, b < 4 → a ≠ b → (TX4 a).2.1 ≠ (TX4 b).2.1 := by decide +kernel
theorem tyX4_ok : ∀ k, k < 4 → parseFieldDescriptor (TX4 k).2.2.1 = some (tyX4 k) := by decide +kernel
abbrev cX4_init : ByteArray := prog_6_method_1_code
def yX4_init : MethodName := ⟨RX4, "<init>", "(LWindowLetters$Shapes;)V"⟩
abbrev cX4_copyFrom : ByteArray := prog_6_method_2_code
def yX4_copyFrom : MethodName := ⟨RX4, "copyFrom", "(LWindowLetters$Sheet;)V"⟩
abbrev cX4_canCut : ByteArray := prog_6_method_3_code
def yX4_canCut : MethodName := ⟨RX4, "canCut", "(IIII)Z"⟩
abbrev cX4_freeColumns : ByteArray := prog_6_method_4_code
def yX4_freeColumns : MethodName := ⟨RX4, "freeColumns", "(III)I"⟩
abbrev cX4_cutOut : ByteArray := prog_6_method_5_code
def yX4_cutOut : MethodName := ⟨RX4, "cutOut", "(IIII)V"⟩
abbrev cX4_isOnSheet : ByteArray := prog_6_method_6_code
def yX4_isOnSheet : MethodName := ⟨RX4, "isOnSheet", "(III)Z"⟩
abbrev cX4_firstFit : ByteArray := prog_6_method_7_code
def yX4_firstFit : MethodName := ⟨RX4, "firstFit", "(II)I"⟩
abbrev cX4_cutUp : ByteArray := prog_6_method_8_code
def yX4_cutUp : MethodName := ⟨RX4, "cutUp", "(II)I"⟩
abbrev cX4_allFits : ByteArray := prog_6_method_9_code
def yX4_allFits : MethodName := ⟨RX4, "allFits", "(I)I"⟩
abbrev cX4_lettersThatFit : ByteArray := prog_6_method_10_code
def yX4_lettersThatFit : MethodName := ⟨RX4, "lettersThatFit", "()I"⟩
abbrev cX4_squaresLeft : ByteArray := prog_6_method_11_code
def yX4_squaresLeft : MethodName := ⟨RX4, "squaresLeft", "()I"⟩
def RX5 : String := "WindowLetters$Shop"
def TX5 : u_T := fun k => match k with
  | 0 => ("WindowLetters$Shop", "shapes", "LWindowLetters$Shapes;", true)
  | 1 => ("WindowLetters$Shop", "sheets", "[LWindowLetters$Sheet;", true)
  | 2 => ("WindowLetters$Shop", "pieces", "[LWindowLetters$Piece;", true)
  | 3 => ("WindowLetters$Shop", "spots", "[I", true)
  | 4 => ("WindowLetters$Shop", "sheetCount", "I", false)
  | _ => ("WindowLetters$Shop", "pieceCount", "I", false)
def tyX5 : Nat → FieldType := fun k => match k with
  | 0 => .object "WindowLetters$Shapes"
  | 1 => .array (.object "WindowLetters$Sheet")
  | 2 => .array (.object "WindowLetters$Piece")
  | 3 => .array .int
  | 4 => .int
  | _ => .int
abbrev wsX50 : List Cond := u_ws RX5 TX5 6
theorem nmX5 : ∀ a, a < 6 → ∀ b, b < 6 → a ≠ b → (TX5 a).2.1 ≠ (TX5 b).2.1 := by decide +kernel
theorem tyX5_ok : ∀ k, k < 6 → parseFieldDescriptor (TX5 k).2.2.1 = some (tyX5 k) := by decide +kernel
abbrev cX5_init : ByteArray := prog_7_method_1_code
def yX5_init : MethodName := ⟨RX5, "<init>", "(LWindowLetters$Shapes;)V"⟩
abbrev cX5_copyFrom : ByteArray := prog_7_method_2_code
def yX5_copyFrom : MethodName := ⟨RX5, "copyFrom", "(LWindowLetters$Shop;)V"⟩
abbrev cX5_sheetAt : ByteArray := prog_7_method_3_code
def yX5_sheetAt : MethodName := ⟨RX5, "sheetAt", "(I)LWindowLetters$Sheet;"⟩
abbrev cX5_pieceAt : ByteArray := prog_7_method_4_code
def yX5_pieceAt : MethodName := ⟨RX5, "pieceAt", "(I)LWindowLetters$Piece;"⟩
abbrev cX5_addSheet : ByteArray := prog_7_method_5_code
def yX5_addSheet : MethodName := ⟨RX5, "addSheet", "(I)I"⟩
abbrev cX5_cutPiece : ByteArray := prog_7_method_6_code
def yX5_cutPiece : MethodName := ⟨RX5, "cutPiece", "(IIIII)I"⟩
abbrev cX5_addPiece : ByteArray := prog_7_method_7_code
def yX5_addPiece : MethodName := ⟨RX5, "addPiece", "(IIIII)I"⟩
abbrev cX5_makePiece : ByteArray := prog_7_method_8_code
def yX5_makePiece : MethodName := ⟨RX5, "makePiece", "(III)I"⟩
abbrev cX5_writeName : ByteArray := prog_7_method_9_code
def yX5_writeName : MethodName := ⟨RX5, "writeName", "(LWindowLetters$Pad;IIII)I"⟩
abbrev cX5_lowestLoose : ByteArray := prog_7_method_10_code
def yX5_lowestLoose : MethodName := ⟨RX5, "lowestLoose", "(III)I"⟩
abbrev cX5_putIntoPane : ByteArray := prog_7_method_11_code
def yX5_putIntoPane : MethodName := ⟨RX5, "putIntoPane", "(III)I"⟩
abbrev cX5_clearPane : ByteArray := prog_7_method_12_code
def yX5_clearPane : MethodName := ⟨RX5, "clearPane", "(I)I"⟩
abbrev cX5_wastePiece : ByteArray := prog_7_method_13_code
def yX5_wastePiece : MethodName := ⟨RX5, "wastePiece", "(I)I"⟩
abbrev cX5_scrapSheet : ByteArray := prog_7_method_14_code
def yX5_scrapSheet : MethodName := ⟨RX5, "scrapSheet", "(I)I"⟩
abbrev cX5_piecesIn : ByteArray := prog_7_method_15_code
def yX5_piecesIn : MethodName := ⟨RX5, "piecesIn", "(I)I"⟩
abbrev cX5_piecesFrom : ByteArray := prog_7_method_16_code
def yX5_piecesFrom : MethodName := ⟨RX5, "piecesFrom", "(I)I"⟩
abbrev cX5_piecesThatAre : ByteArray := prog_7_method_17_code
def yX5_piecesThatAre : MethodName := ⟨RX5, "piecesThatAre", "(I)I"⟩
abbrev cX5_squaresOfPieces : ByteArray := prog_7_method_18_code
def yX5_squaresOfPieces : MethodName := ⟨RX5, "squaresOfPieces", "(I)I"⟩
abbrev cX5_squaresOfSheets : ByteArray := prog_7_method_19_code
def yX5_squaresOfSheets : MethodName := ⟨RX5, "squaresOfSheets", "(Z)I"⟩
def RX6 : String := "WindowLetters"
def TX6 : u_T := fun k => match k with
  | 0 => ("WindowLetters", "shapes", "LWindowLetters$Shapes;", true)
  | 1 => ("WindowLetters", "shop", "LWindowLetters$Shop;", true)
  | 2 => ("WindowLetters", "draft", "LWindowLetters$Shop;", true)
  | 3 => ("WindowLetters", "trialSheet", "LWindowLetters$Sheet;", true)
  | 4 => ("WindowLetters", "slots", "[LWindowLetters$Shop;", true)
  | 5 => ("WindowLetters", "history", "LWindowLetters$History;", true)
  | _ => ("WindowLetters", "pad", "LWindowLetters$Pad;", true)
def tyX6 : Nat → FieldType := fun k => match k with
  | 0 => .object "WindowLetters$Shapes"
  | 1 => .object "WindowLetters$Shop"
  | 2 => .object "WindowLetters$Shop"
  | 3 => .object "WindowLetters$Sheet"
  | 4 => .array (.object "WindowLetters$Shop")
  | 5 => .object "WindowLetters$History"
  | _ => .object "WindowLetters$Pad"
abbrev wsX60 : List Cond := u_ws RX6 TX6 7
theorem nmX6 : ∀ a, a < 7 → ∀ b, b < 7 → a ≠ b → (TX6 a).2.1 ≠ (TX6 b).2.1 := by decide +kernel
theorem tyX6_ok : ∀ k, k < 7 → parseFieldDescriptor (TX6 k).2.2.1 = some (tyX6 k) := by decide +kernel
abbrev cX6_init : ByteArray := prog_1_method_1_code
def yX6_init : MethodName := ⟨RX6, "<init>", "()V"⟩
abbrev cX6_sheet : ByteArray := prog_1_method_2_code
def yX6_sheet : MethodName := ⟨RX6, "sheet", "(I)I"⟩
abbrev cX6_cut : ByteArray := prog_1_method_3_code
def yX6_cut : MethodName := ⟨RX6, "cut", "(IIIII)I"⟩
abbrev cX6_make : ByteArray := prog_1_method_4_code
def yX6_make : MethodName := ⟨RX6, "make", "(III)I"⟩
abbrev cX6_write : ByteArray := prog_1_method_5_code
def yX6_write : MethodName := ⟨RX6, "write", "(IIII)I"⟩
abbrev cX6_place : ByteArray := prog_1_method_6_code
def yX6_place : MethodName := ⟨RX6, "place", "(III)I"⟩
abbrev cX6_clear : ByteArray := prog_1_method_7_code
def yX6_clear : MethodName := ⟨RX6, "clear", "(I)I"⟩
abbrev cX6_throwAway : ByteArray := prog_1_method_8_code
def yX6_throwAway : MethodName := ⟨RX6, "throwAway", "(I)I"⟩
abbrev cX6_scrap : ByteArray := prog_1_method_9_code
def yX6_scrap : MethodName := ⟨RX6, "scrap", "(I)I"⟩
abbrev cX6_of : ByteArray := prog_1_method_10_code
def yX6_of : MethodName := ⟨RX6, "of", "(II)I"⟩
abbrev cX6_ofSheet : ByteArray := prog_1_method_11_code
def yX6_ofSheet : MethodName := ⟨RX6, "ofSheet", "(II)I"⟩
abbrev cX6_row : ByteArray := prog_1_method_12_code
def yX6_row : MethodName := ⟨RX6, "row", "(II)I"⟩
abbrev cX6_pane : ByteArray := prog_1_method_13_code
def yX6_pane : MethodName := ⟨RX6, "pane", "(II)I"⟩
abbrev cX6_shape : ByteArray := prog_1_method_14_code
def yX6_shape : MethodName := ⟨RX6, "shape", "(III)I"⟩
abbrev cX6_count : ByteArray := prog_1_method_15_code
def yX6_count : MethodName := ⟨RX6, "count", "(I)I"⟩
abbrev cX6_fit : ByteArray := prog_1_method_16_code
def yX6_fit : MethodName := ⟨RX6, "fit", "(IIII)I"⟩
abbrev cX6_manyOf : ByteArray := prog_1_method_17_code
def yX6_manyOf : MethodName := ⟨RX6, "manyOf", "(III)I"⟩
abbrev cX6_fits : ByteArray := prog_1_method_18_code
def yX6_fits : MethodName := ⟨RX6, "fits", "(II)I"⟩
abbrev cX6_colours : ByteArray := prog_1_method_19_code
def yX6_colours : MethodName := ⟨RX6, "colours", "(III)I"⟩
abbrev cX6_put : ByteArray := prog_1_method_20_code
def yX6_put : MethodName := ⟨RX6, "put", "(J)I"⟩
abbrev cX6_wipe : ByteArray := prog_1_method_21_code
def yX6_wipe : MethodName := ⟨RX6, "wipe", "()I"⟩
abbrev cX6_undo : ByteArray := prog_1_method_23_code
def yX6_undo : MethodName := ⟨RX6, "undo", "()I"⟩
abbrev cX6_newDraft : ByteArray := prog_1_method_26_code
def yX6_newDraft : MethodName := ⟨RX6, "newDraft", "()LWindowLetters$Shop;"⟩
abbrev cX6_settle : ByteArray := prog_1_method_27_code
def yX6_settle : MethodName := ⟨RX6, "settle", "(I)I"⟩
abbrev cX6_isColour : ByteArray := prog_1_method_28_code
def yX6_isColour : MethodName := ⟨RX6, "isColour", "(I)Z"⟩
abbrev cX6_isLetter : ByteArray := prog_1_method_29_code
def yX6_isLetter : MethodName := ⟨RX6, "isLetter", "(I)Z"⟩
abbrev cX6_isWay : ByteArray := prog_1_method_30_code
def yX6_isWay : MethodName := ⟨RX6, "isWay", "(I)Z"⟩
abbrev cX6_isMirroring : ByteArray := prog_1_method_31_code
def yX6_isMirroring : MethodName := ⟨RX6, "isMirroring", "(I)Z"⟩
abbrev cX6_isPane : ByteArray := prog_1_method_32_code
def yX6_isPane : MethodName := ⟨RX6, "isPane", "(I)Z"⟩
abbrev cX6_isPlace : ByteArray := prog_1_method_33_code
def yX6_isPlace : MethodName := ⟨RX6, "isPlace", "(I)Z"⟩
abbrev cX6_heightOf : ByteArray := prog_1_method_35_code
def yX6_heightOf : MethodName := ⟨RX6, "heightOf", "(I)I"⟩
abbrev cX6_widthOf : ByteArray := prog_1_method_36_code
def yX6_widthOf : MethodName := ⟨RX6, "widthOf", "(I)I"⟩
abbrev cX6_mirroringOf : ByteArray := prog_1_method_37_code
def yX6_mirroringOf : MethodName := ⟨RX6, "mirroringOf", "(I)I"⟩
abbrev cX6_rowIn : ByteArray := prog_1_method_38_code
def yX6_rowIn : MethodName := ⟨RX6, "rowIn", "(I)I"⟩
abbrev cX6_columnIn : ByteArray := prog_1_method_39_code
def yX6_columnIn : MethodName := ⟨RX6, "columnIn", "(I)I"⟩
abbrev cX6_wayIn : ByteArray := prog_1_method_40_code
def yX6_wayIn : MethodName := ⟨RX6, "wayIn", "(I)I"⟩
abbrev cX6_lowestIn : ByteArray := prog_1_method_41_code
def yX6_lowestIn : MethodName := ⟨RX6, "lowestIn", "(I)I"⟩
def RX7 : String := "WindowLettersModel"
def TX7 : u_T := fun k => match k with
  | _ => ("", "", "", false)
def tyX7 : Nat → FieldType := fun k => match k with
  | _ => .int
abbrev wsX70 : List Cond := u_ws RX7 TX7 0
theorem nmX7 : ∀ a, a < 0 → ∀ b, b < 0 → a ≠ b → (TX7 a).2.1 ≠ (TX7 b).2.1 := by decide +kernel
theorem tyX7_ok : ∀ k, k < 0 → parseFieldDescriptor (TX7 k).2.2.1 = some (tyX7 k) := by decide +kernel
def RJ11 : String := "java/lang/Character"
def TJ11 : u_T := fun k => match k with
  | _ => ("", "", "", false)
def tyJ11 : Nat → FieldType := fun k => match k with
  | _ => .int
abbrev wsJ110 : List Cond := u_ws RJ11 TJ11 0
theorem nmJ11 : ∀ a, a < 0 → ∀ b, b < 0 → a ≠ b → (TJ11 a).2.1 ≠ (TJ11 b).2.1 := by decide +kernel
theorem tyJ11_ok : ∀ k, k < 0 → parseFieldDescriptor (TJ11 k).2.2.1 = some (tyJ11 k) := by decide +kernel
abbrev cJ11_isValidCodePoint_9a6ad : ByteArray := prog_10_method_11_code
def yJ11_isValidCodePoint_9a6ad : MethodName := ⟨RJ11, "isValidCodePoint", "(I)Z"⟩
abbrev cJ11_highSurrogate_5068e : ByteArray := prog_10_method_28_code
def yJ11_highSurrogate_5068e : MethodName := ⟨RJ11, "highSurrogate", "(I)C"⟩
abbrev cJ11_lowSurrogate_5068e : ByteArray := prog_10_method_29_code
def yJ11_lowSurrogate_5068e : MethodName := ⟨RJ11, "lowSurrogate", "(I)C"⟩
def RJ6 : String := "java/lang/Integer"
def TJ6 : u_T := fun k => match k with
  | _ => ("", "", "", false)
def tyJ6 : Nat → FieldType := fun k => match k with
  | _ => .int
abbrev wsJ60 : List Cond := u_ws RJ6 TJ6 0
theorem nmJ6 : ∀ a, a < 0 → ∀ b, b < 0 → a ≠ b → (TJ6 a).2.1 ≠ (TJ6 b).2.1 := by decide +kernel
theorem tyJ6_ok : ∀ k, k < 0 → parseFieldDescriptor (TJ6 k).2.2.1 = some (tyJ6 k) := by decide +kernel
abbrev cJ6_bitCount_0f7a4 : ByteArray := prog_11_method_49_code
def yJ6_bitCount_0f7a4 : MethodName := ⟨RJ6, "bitCount", "(I)I"⟩
def RJ9 : String := "java/lang/Math"
def TJ9 : u_T := fun k => match k with
  | _ => ("", "", "", false)
def tyJ9 : Nat → FieldType := fun k => match k with
  | _ => .int
abbrev wsJ90 : List Cond := u_ws RJ9 TJ9 0
theorem nmJ9 : ∀ a, a < 0 → ∀ b, b < 0 → a ≠ b → (TJ9 a).2.1 ≠ (TJ9 b).2.1 := by decide +kernel
theorem tyJ9_ok : ∀ k, k < 0 → parseFieldDescriptor (TJ9 k).2.2.1 = some (tyJ9 k) := by decide +kernel
abbrev cJ9_floorMod_7cf53 : ByteArray := prog_12_method_50_code
def yJ9_floorMod_7cf53 : MethodName := ⟨RJ9, "floorMod", "(II)I"⟩
abbrev cJ9_max_7cf53 : ByteArray := prog_12_method_65_code
def yJ9_max_7cf53 : MethodName := ⟨RJ9, "max", "(II)I"⟩
abbrev cJ9_min_7cf53 : ByteArray := prog_12_method_69_code
def yJ9_min_7cf53 : MethodName := ⟨RJ9, "min", "(II)I"⟩
def RJ0 : String := "java/lang/String"
def TJ0 : u_T := fun k => match k with
  | _ => ("", "", "", false)
def tyJ0 : Nat → FieldType := fun k => match k with
  | _ => .int
abbrev wsJ00 : List Cond := u_ws RJ0 TJ0 0
theorem nmJ0 : ∀ a, a < 0 → ∀ b, b < 0 → a ≠ b → (TJ0 a).2.1 ≠ (TJ0 b).2.1 := by decide +kernel
theorem tyJ0_ok : ∀ k, k < 0 → parseFieldDescriptor (TJ0 k).2.2.1 = some (tyJ0 k) := by decide +kernel
abbrev cJ0_length_8abf5 : ByteArray := prog_13_method_54_code
def yJ0_length_8abf5 : MethodName := ⟨RJ0, "length", "()I"⟩
abbrev cJ0_indexOf_0f7a4 : ByteArray := prog_13_method_79_code
def yJ0_indexOf_0f7a4 : MethodName := ⟨RJ0, "indexOf", "(I)I"⟩
abbrev cJ0_indexOf_7cf53 : ByteArray := prog_13_method_80_code
def yJ0_indexOf_7cf53 : MethodName := ⟨RJ0, "indexOf", "(II)I"⟩
abbrev cJ0_coder_7d493 : ByteArray := prog_13_method_152_code
def yJ0_coder_7d493 : MethodName := ⟨RJ0, "coder", "()B"⟩
abbrev cJ0_isLatin1_aae02 : ByteArray := prog_13_method_154_code
def yJ0_isLatin1_aae02 : MethodName := ⟨RJ0, "isLatin1", "()Z"⟩
abbrev cJ0_checkBoundsBeginEnd_23922 : ByteArray := prog_13_method_158_code
def yJ0_checkBoundsBeginEnd_23922 : MethodName := ⟨RJ0, "checkBoundsBeginEnd", "(III)V"⟩
def RJ1 : String := "java/lang/StringLatin1"
def TJ1 : u_T := fun k => match k with
  | _ => ("", "", "", false)
def tyJ1 : Nat → FieldType := fun k => match k with
  | _ => .int
abbrev wsJ10 : List Cond := u_ws RJ1 TJ1 0
theorem nmJ1 : ∀ a, a < 0 → ∀ b, b < 0 → a ≠ b → (TJ1 a).2.1 ≠ (TJ1 b).2.1 := by decide +kernel
theorem tyJ1_ok : ∀ k, k < 0 → parseFieldDescriptor (TJ1 k).2.2.1 = some (tyJ1 k) := by decide +kernel
abbrev cJ1_canEncode_9a6ad : ByteArray := prog_14_method_4_code
def yJ1_canEncode_9a6ad : MethodName := ⟨RJ1, "canEncode", "(I)Z"⟩
abbrev cJ1_indexOf_4cfef : ByteArray := prog_14_method_22_code
def yJ1_indexOf_4cfef : MethodName := ⟨RJ1, "indexOf", "([BIII)I"⟩
abbrev cJ1_indexOfChar_4cfef : ByteArray := prog_14_method_23_code
def yJ1_indexOfChar_4cfef : MethodName := ⟨RJ1, "indexOfChar", "([BIII)I"⟩
def RJ2 : String := "java/lang/StringUTF16"
def TJ2 : u_T := fun k => match k with
  | _ => ("", "", "", false)
def tyJ2 : Nat → FieldType := fun k => match k with
  | _ => .int
abbrev wsJ20 : List Cond := u_ws RJ2 TJ2 0
theorem nmJ2 : ∀ a, a < 0 → ∀ b, b < 0 → a ≠ b → (TJ2 a).2.1 ≠ (TJ2 b).2.1 := by decide +kernel
theorem tyJ2_ok : ∀ k, k < 0 → parseFieldDescriptor (TJ2 k).2.2.1 = some (tyJ2 k) := by decide +kernel
abbrev cJ2_getChar_3b067 : ByteArray := prog_15_method_5_code
def yJ2_getChar_3b067 : MethodName := ⟨RJ2, "getChar", "([BI)C"⟩
abbrev cJ2_length_9d52b : ByteArray := prog_15_method_6_code
def yJ2_length_9d52b : MethodName := ⟨RJ2, "length", "([B)I"⟩
abbrev cJ2_indexOf_4cfef : ByteArray := prog_15_method_40_code
def yJ2_indexOf_4cfef : MethodName := ⟨RJ2, "indexOf", "([BIII)I"⟩
abbrev cJ2_indexOfChar_4cfef : ByteArray := prog_15_method_47_code
def yJ2_indexOfChar_4cfef : MethodName := ⟨RJ2, "indexOfChar", "([BIII)I"⟩
abbrev cJ2_indexOfCharUnsafe_4cfef : ByteArray := prog_15_method_48_code
def yJ2_indexOfCharUnsafe_4cfef : MethodName := ⟨RJ2, "indexOfCharUnsafe", "([BIII)I"⟩
abbrev cJ2_indexOfSupplementary_4cfef : ByteArray := prog_15_method_49_code
def yJ2_indexOfSupplementary_4cfef : MethodName := ⟨RJ2, "indexOfSupplementary", "([BIII)I"⟩
abbrev cJ2_checkBoundsBeginEnd_d044e : ByteArray := prog_15_method_93_code
def yJ2_checkBoundsBeginEnd_d044e : MethodName := ⟨RJ2, "checkBoundsBeginEnd", "(II[B)V"⟩
def RJ3 : String := "jdk/internal/util/Preconditions"
def TJ3 : u_T := fun k => match k with
  | _ => ("", "", "", false)
def tyJ3 : Nat → FieldType := fun k => match k with
  | _ => .int
abbrev wsJ30 : List Cond := u_ws RJ3 TJ3 0
theorem nmJ3 : ∀ a, a < 0 → ∀ b, b < 0 → a ≠ b → (TJ3 a).2.1 ≠ (TJ3 b).2.1 := by decide +kernel
theorem tyJ3_ok : ∀ k, k < 0 → parseFieldDescriptor (TJ3 k).2.2.1 = some (tyJ3 k) := by decide +kernel
abbrev cJ3_checkFromToIndex_8c36e : ByteArray := prog_16_method_12_code
def yJ3_checkFromToIndex_8c36e : MethodName := ⟨RJ3, "checkFromToIndex", "(IIILjava/util/function/BiFunction;)I"⟩
def RL : String := "WindowLettersLaw"
abbrev cL_cell : ByteArray := method_2_code
def yL_cell : MethodName := ⟨RL, "cell", "([II)I"⟩
abbrev cL_low : ByteArray := method_3_code
def yL_low : MethodName := ⟨RL, "low", "(II)I"⟩
abbrev cL_squares : ByteArray := method_4_code
def yL_squares : MethodName := ⟨RL, "squares", "(I)I"⟩
abbrev cL_sign : ByteArray := method_5_code
def yL_sign : MethodName := ⟨RL, "sign", "(I)I"⟩
abbrev cL_change : ByteArray := method_6_code
def yL_change : MethodName := ⟨RL, "change", "(LWindowLetters;III)I"⟩
abbrev cL_can : ByteArray := method_7_code
def yL_can : MethodName := ⟨RL, "can", "(LWindowLetters;IIIII)Z"⟩
abbrev cL_isPiece : ByteArray := method_8_code
def yL_isPiece : MethodName := ⟨RL, "isPiece", "(LWindowLetters;I[I)Z"⟩
abbrev cL_isSheet : ByteArray := method_9_code
def yL_isSheet : MethodName := ⟨RL, "isSheet", "(LWindowLetters;I[I)Z"⟩
abbrev cL_isFit : ByteArray := method_10_code
def yL_isFit : MethodName := ⟨RL, "isFit", "(LWindowLetters;III)Z"⟩
abbrev cL_holds : ByteArray := method_11_code
def yL_holds : MethodName := ⟨RL, "holds", "(LWindowLetters;I)Z"⟩
abbrev cL_tries : ByteArray := method_12_code
def yL_tries : MethodName := ⟨RL, "tries", "(LWindowLetters;I)Z"⟩
abbrev cL_law : ByteArray := code
def yL_law : MethodName := ⟨RL, "law", "([I)Z"⟩
abbrev vwCl : List vw_C := [(RX0, TX0, 4), (RX1, TX1, 2), (RX2, TX2, 7), (RX3, TX3, 1), (RX4, TX4, 4), (RX5, TX5, 6), (RX6, TX6, 7)]
def zT : List Cond := lw_tbl.filter goodWord
def zisNest : Cond → Bool
  | .fieldLinkNest .. => true
  | .methodLinkNest .. => true
  | _ => false
def zN : List Cond := lw_tbl.filter zisNest
theorem zT_sub : ∀ w ∈ zT, w ∈ lw_tbl := fun w h => (List.mem_filter.mp h).1
theorem zT_good {w : Cond} (h : w ∈ zT) : goodWord w = true := (List.mem_filter.mp h).2
theorem zmemN1 {w : Cond} {i : Nat} (h : tables_1_1[i]? = some w) (g : zisNest w = true) : w ∈ zN := List.mem_filter.mpr ⟨List.mem_append_right _ (List.mem_append_left _ (List.mem_of_getElem? h)), g⟩
theorem zmem1 {w : Cond} {i : Nat} (h : tables_1_1[i]? = some w) (g : goodWord w = true) : w ∈ zT := List.mem_filter.mpr ⟨List.mem_append_right _ (List.mem_append_left _ (List.mem_of_getElem? h)), g⟩
theorem zmemN2 {w : Cond} {i : Nat} (h : tables_1_2[i]? = some w) (g : zisNest w = true) : w ∈ zN := List.mem_filter.mpr ⟨List.mem_append_right _ (List.mem_append_right _ (List.mem_append_left _ (List.mem_of_getElem? h))), g⟩
theorem zmem2 {w : Cond} {i : Nat} (h : tables_1_2[i]? = some w) (g : goodWord w = true) : w ∈ zT := List.mem_filter.mpr ⟨List.mem_append_right _ (List.mem_append_right _ (List.mem_append_left _ (List.mem_of_getElem? h))), g⟩
theorem zmemN3 {w : Cond} {i : Nat} (h : tables_1_3[i]? = some w) (g : zisNest w = true) : w ∈ zN := List.mem_filter.mpr ⟨List.mem_append_right _ (List.mem_append_right _ (List.mem_append_right _ (List.mem_of_getElem? h))), g⟩
theorem zmem3 {w : Cond} {i : Nat} (h : tables_1_3[i]? = some w) (g : goodWord w = true) : w ∈ zT := List.mem_filter.mpr ⟨List.mem_append_right _ (List.mem_append_right _ (List.mem_append_right _ (List.mem_of_getElem? h))), g⟩
theorem zmemP {w : Cond} {i : Nat} (h : (k2_sels lw_privs)[i]? = some w) (g : goodWord w = true) : w ∈ zT := List.mem_filter.mpr ⟨List.mem_append_left _ (List.mem_of_getElem? h), g⟩
theorem zmp_0 : Cond.selects "WindowLetters" ⟨"WindowLetters", "newDraft", "()LWindowLetters$Shop;"⟩ ⟨"WindowLetters", "newDraft", "()LWindowLetters$Shop;"⟩ ∈ zT := zmemP (i := 0) rfl rfl
theorem zmp_1 : Cond.selects "WindowLetters" ⟨"WindowLetters", "settle", "(I)I"⟩ ⟨"WindowLetters", "settle", "(I)I"⟩ ∈ zT := zmemP (i := 1) rfl rfl
theorem zmp_2 : Cond.selects "WindowLetters$Sheet" ⟨"WindowLetters$Sheet", "freeColumns", "(III)I"⟩ ⟨"WindowLetters$Sheet", "freeColumns", "(III)I"⟩ ∈ zT := zmemP (i := 2) rfl rfl
theorem zmp_3 : Cond.selects "WindowLetters$Shop" ⟨"WindowLetters$Shop", "addPiece", "(IIIII)I"⟩ ⟨"WindowLetters$Shop", "addPiece", "(IIIII)I"⟩ ∈ zT := zmemP (i := 3) rfl rfl
theorem zmp_4 : Cond.selects "WindowLetters$Shop" ⟨"WindowLetters$Shop", "lowestLoose", "(III)I"⟩ ⟨"WindowLetters$Shop", "lowestLoose", "(III)I"⟩ ∈ zT := zmemP (i := 4) rfl rfl
theorem zmp_5 : Cond.selects "WindowLetters$Shop" ⟨"WindowLetters$Shop", "piecesIn", "(I)I"⟩ ⟨"WindowLetters$Shop", "piecesIn", "(I)I"⟩ ∈ zT := zmemP (i := 5) rfl rfl
theorem zm_0 : (Jvm.Cond.initialized "WindowLettersLaw") ∈ zT := zmem1 (i := 0) rfl rfl
theorem zm_1 : (Jvm.Cond.initialized "WindowLetters") ∈ zT := zmem1 (i := 1) rfl rfl
theorem zm_2 : (Jvm.Cond.initialized "WindowLetters$Shapes") ∈ zT := zmem1 (i := 2) rfl rfl
theorem zm_3 : (Jvm.Cond.initialized "WindowLetters$Shop") ∈ zT := zmem1 (i := 3) rfl rfl
theorem zm_4 : (Jvm.Cond.initialized "WindowLetters$Sheet") ∈ zT := zmem1 (i := 4) rfl rfl
theorem zm_5 : (Jvm.Cond.initialized "WindowLetters$Piece") ∈ zT := zmem1 (i := 5) rfl rfl
theorem zm_6 : (Jvm.Cond.initialized "WindowLetters$History") ∈ zT := zmem1 (i := 6) rfl rfl
theorem zm_7 : (Jvm.Cond.initialized "WindowLetters$Pad") ∈ zT := zmem1 (i := 7) rfl rfl
theorem zm_8 : (Jvm.Cond.initialized "java/lang/Integer") ∈ zT := zmem1 (i := 8) rfl rfl
theorem zm_9 : (Jvm.Cond.initialized "java/lang/Math") ∈ zT := zmem1 (i := 9) rfl rfl
theorem zm_10 : (Jvm.Cond.initialized "java/lang/String") ∈ zT := zmem1 (i := 10) rfl rfl
theorem zm_11 : (Jvm.Cond.initialized "java/lang/StringLatin1") ∈ zT := zmem1 (i := 11) rfl rfl
theorem zm_12 : (Jvm.Cond.initialized "java/lang/StringUTF16") ∈ zT := zmem1 (i := 12) rfl rfl
theorem zm_13 : (Jvm.Cond.initialized "jdk/internal/util/Preconditions") ∈ zT := zmem1 (i := 13) rfl rfl
theorem zm_14 : (Jvm.Cond.initialized "java/lang/Character") ∈ zT := zmem1 (i := 14) rfl rfl
theorem zm_15 : (Jvm.Cond.classLink "WindowLettersLaw" (14 : Nat) "WindowLetters") ∈ zT := zmem1 (i := 15) rfl rfl
theorem zm_16 : (Jvm.Cond.instantiable "WindowLetters" (7 : Nat)) ∈ zT := zmem1 (i := 16) rfl rfl
theorem zm_17 : (Jvm.Cond.methodLink "WindowLettersLaw" (111 : Nat) ({ cls := "WindowLetters", name := "<init>", desc := "()V" } : Jvm.MethodName)) ∈ zT := zmem1 (i := 17) rfl rfl
theorem zm_18 : (Jvm.Cond.instanceMethod ({ cls := "WindowLetters", name := "<init>", desc := "()V" } : Jvm.MethodName)) ∈ zT := zmem1 (i := 18) rfl rfl
theorem zm_19 : (Jvm.Cond.code ({ cls := "WindowLetters", name := "<init>", desc := "()V" } : Jvm.MethodName) prog_1_method_1_code (1 : Nat) (Option.none : Option Jvm.ClassFile.FieldType)) ∈ zT := zmem1 (i := 19) rfl rfl
theorem zm_20 : (Jvm.Cond.methodLink "WindowLetters" (1 : Nat) ({ cls := "java/lang/Object", name := "<init>", desc := "()V" } : Jvm.MethodName)) ∈ zT := zmem1 (i := 20) rfl rfl
theorem zm_21 : (Jvm.Cond.instanceMethod ({ cls := "java/lang/Object", name := "<init>", desc := "()V" } : Jvm.MethodName)) ∈ zT := zmem1 (i := 21) rfl rfl
theorem zm_22 : (Jvm.Cond.code ({ cls := "java/lang/Object", name := "<init>", desc := "()V" } : Jvm.MethodName) object_method_1_code (1 : Nat) (Option.none : Option Jvm.ClassFile.FieldType)) ∈ zT := zmem1 (i := 22) rfl rfl
theorem zm_23 : (Jvm.Cond.classLink "WindowLetters" (7 : Nat) "WindowLetters$Shapes") ∈ zT := zmem1 (i := 23) rfl rfl
theorem zm_24 : (Jvm.Cond.instantiable "WindowLetters$Shapes" (1 : Nat)) ∈ zT := zmem1 (i := 24) rfl rfl
theorem zm_25 : (Jvm.Cond.methodLink "WindowLetters" (9 : Nat) ({ cls := "WindowLetters$Shapes", name := "<init>", desc := "()V" } : Jvm.MethodName)) ∈ zT := zmem1 (i := 25) rfl rfl
theorem zm_26 : (Jvm.Cond.instanceMethod ({ cls := "WindowLetters$Shapes", name := "<init>", desc := "()V" } : Jvm.MethodName)) ∈ zT := zmem1 (i := 26) rfl rfl
theorem zm_27 : (Jvm.Cond.code ({ cls := "WindowLetters$Shapes", name := "<init>", desc := "()V" } : Jvm.MethodName) prog_5_method_1_code (4 : Nat) (Option.none : Option Jvm.ClassFile.FieldType)) ∈ zT := zmem1 (i := 27) rfl rfl
theorem zm_28 : (Jvm.Cond.methodLink "WindowLetters$Shapes" (3 : Nat) ({ cls := "java/lang/Object", name := "<init>", desc := "()V" } : Jvm.MethodName)) ∈ zT := zmem1 (i := 28) rfl rfl
theorem zm_29 : (Jvm.Cond.methodLinkNest "WindowLetters$Shapes" (15 : Nat) ({ cls := "WindowLetters", name := "heightOf", desc := "(I)I" } : Jvm.MethodName) "WindowLetters") ∈ zN := zmemN1 (i := 29) rfl rfl
theorem zm_30 : (Jvm.Cond.static ({ cls := "WindowLetters", name := "heightOf", desc := "(I)I" } : Jvm.MethodName)) ∈ zT := zmem1 (i := 30) rfl rfl
theorem zm_31 : (Jvm.Cond.code ({ cls := "WindowLetters", name := "heightOf", desc := "(I)I" } : Jvm.MethodName) prog_1_method_35_code (1 : Nat) (Option.some Jvm.ClassFile.FieldType.int)) ∈ zT := zmem1 (i := 31) rfl rfl
theorem zm_32 : (Jvm.Cond.methodLink "WindowLetters$Shapes" (19 : Nat) ({ cls := "WindowLetters$Shapes", name := "turnedRow", desc := "(III)I" } : Jvm.MethodName)) ∈ zT := zmem1 (i := 32) rfl rfl
theorem zm_33 : (Jvm.Cond.static ({ cls := "WindowLetters$Shapes", name := "turnedRow", desc := "(III)I" } : Jvm.MethodName)) ∈ zT := zmem1 (i := 33) rfl rfl
theorem zm_34 : (Jvm.Cond.code ({ cls := "WindowLetters$Shapes", name := "turnedRow", desc := "(III)I" } : Jvm.MethodName) prog_5_method_4_code (5 : Nat) (Option.some Jvm.ClassFile.FieldType.int)) ∈ zT := zmem1 (i := 34) rfl rfl
theorem zm_35 : (Jvm.Cond.methodLinkNest "WindowLetters$Shapes" (38 : Nat) ({ cls := "WindowLetters", name := "widthOf", desc := "(I)I" } : Jvm.MethodName) "WindowLetters") ∈ zN := zmemN1 (i := 35) rfl rfl
theorem zm_36 : (Jvm.Cond.static ({ cls := "WindowLetters", name := "widthOf", desc := "(I)I" } : Jvm.MethodName)) ∈ zT := zmem1 (i := 36) rfl rfl
theorem zm_37 : (Jvm.Cond.code ({ cls := "WindowLetters", name := "widthOf", desc := "(I)I" } : Jvm.MethodName) prog_1_method_36_code (1 : Nat) (Option.some Jvm.ClassFile.FieldType.int)) ∈ zT := zmem1 (i := 37) rfl rfl
theorem zm_38 : (Jvm.Cond.methodLink "WindowLetters$Shapes" (41 : Nat) ({ cls := "WindowLetters$Shapes", name := "hasSquare", desc := "(IIII)Z" } : Jvm.MethodName)) ∈ zT := zmem1 (i := 38) rfl rfl
theorem zm_39 : (Jvm.Cond.static ({ cls := "WindowLetters$Shapes", name := "hasSquare", desc := "(IIII)Z" } : Jvm.MethodName)) ∈ zT := zmem1 (i := 39) rfl rfl
theorem zm_40 : (Jvm.Cond.code ({ cls := "WindowLetters$Shapes", name := "hasSquare", desc := "(IIII)Z" } : Jvm.MethodName) prog_5_method_5_code (6 : Nat) (Option.some Jvm.ClassFile.FieldType.boolean)) ∈ zT := zmem1 (i := 40) rfl rfl
theorem zm_41 : (Jvm.Cond.methodLinkNest "WindowLetters$Shapes" (45 : Nat) ({ cls := "WindowLetters", name := "mirroringOf", desc := "(I)I" } : Jvm.MethodName) "WindowLetters") ∈ zN := zmemN1 (i := 41) rfl rfl
theorem zm_42 : (Jvm.Cond.static ({ cls := "WindowLetters", name := "mirroringOf", desc := "(I)I" } : Jvm.MethodName)) ∈ zT := zmem1 (i := 42) rfl rfl
theorem zm_43 : (Jvm.Cond.code ({ cls := "WindowLetters", name := "mirroringOf", desc := "(I)I" } : Jvm.MethodName) prog_1_method_37_code (1 : Nat) (Option.some Jvm.ClassFile.FieldType.int)) ∈ zT := zmem1 (i := 43) rfl rfl
theorem zm_44 : (Jvm.Cond.methodLink "WindowLetters$Shapes" (48 : Nat) ({ cls := "WindowLetters$Shapes", name := "uprightHas", desc := "(III)Z" } : Jvm.MethodName)) ∈ zT := zmem1 (i := 44) rfl rfl
theorem zm_45 : (Jvm.Cond.static ({ cls := "WindowLetters$Shapes", name := "uprightHas", desc := "(III)Z" } : Jvm.MethodName)) ∈ zT := zmem1 (i := 45) rfl rfl
theorem zm_46 : (Jvm.Cond.code ({ cls := "WindowLetters$Shapes", name := "uprightHas", desc := "(III)Z" } : Jvm.MethodName) prog_5_method_6_code (4 : Nat) (Option.some Jvm.ClassFile.FieldType.boolean)) ∈ zT := zmem1 (i := 46) rfl rfl
theorem zm_47 : (Jvm.Cond.methodLinkNest "WindowLetters$Shapes" (23 : Nat) ({ cls := "WindowLetters", name := "isLetter", desc := "(I)Z" } : Jvm.MethodName) "WindowLetters") ∈ zN := zmemN1 (i := 47) rfl rfl
theorem zm_48 : (Jvm.Cond.static ({ cls := "WindowLetters", name := "isLetter", desc := "(I)Z" } : Jvm.MethodName)) ∈ zT := zmem1 (i := 48) rfl rfl
theorem zm_49 : (Jvm.Cond.code ({ cls := "WindowLetters", name := "isLetter", desc := "(I)Z" } : Jvm.MethodName) prog_1_method_29_code (1 : Nat) (Option.some Jvm.ClassFile.FieldType.boolean)) ∈ zT := zmem1 (i := 49) rfl rfl
theorem zm_50 : (Jvm.Cond.fieldLinkNest "WindowLetters$Shapes" (52 : Nat) "WindowLetters" "LETTER_ROWS" "[I" "WindowLetters") ∈ zN := zmemN1 (i := 50) rfl rfl
theorem zm_52 : (Jvm.Cond.fieldLink "WindowLetters$Shapes" (9 : Nat) "WindowLetters$Shapes" "rows" "[I") ∈ zT := zmem1 (i := 52) rfl rfl
theorem zm_53 : (Jvm.Cond.laysFinal "WindowLetters$Shapes" "WindowLetters$Shapes" "rows" "[I") ∈ zT := zmem1 (i := 53) rfl rfl
theorem zm_56 : (Jvm.Cond.arrayClass Jvm.ClassFile.FieldType.int) ∈ zT := zmem1 (i := 56) rfl rfl
theorem zm_57 : (Jvm.Cond.classLink "WindowLetters" (16 : Nat) "WindowLetters$Shop") ∈ zT := zmem1 (i := 57) rfl rfl
theorem zm_58 : (Jvm.Cond.instantiable "WindowLetters$Shop" (6 : Nat)) ∈ zT := zmem1 (i := 58) rfl rfl
theorem zm_59 : (Jvm.Cond.methodLink "WindowLetters" (18 : Nat) ({ cls := "WindowLetters$Shop", name := "<init>", desc := "(LWindowLetters$Shapes;)V" } : Jvm.MethodName)) ∈ zT := zmem1 (i := 59) rfl rfl
theorem zm_60 : (Jvm.Cond.instanceMethod ({ cls := "WindowLetters$Shop", name := "<init>", desc := "(LWindowLetters$Shapes;)V" } : Jvm.MethodName)) ∈ zT := zmem1 (i := 60) rfl rfl
theorem zm_61 : (Jvm.Cond.code ({ cls := "WindowLetters$Shop", name := "<init>", desc := "(LWindowLetters$Shapes;)V" } : Jvm.MethodName) prog_7_method_1_code (3 : Nat) (Option.none : Option Jvm.ClassFile.FieldType)) ∈ zT := zmem1 (i := 61) rfl rfl
theorem zm_62 : (Jvm.Cond.methodLink "WindowLetters$Shop" (3 : Nat) ({ cls := "java/lang/Object", name := "<init>", desc := "()V" } : Jvm.MethodName)) ∈ zT := zmem1 (i := 62) rfl rfl
theorem zm_63 : (Jvm.Cond.classLink "WindowLetters$Shop" (9 : Nat) "WindowLetters$Sheet") ∈ zT := zmem1 (i := 63) rfl rfl
theorem zm_65 : (Jvm.Cond.classLink "WindowLetters$Shop" (17 : Nat) "WindowLetters$Piece") ∈ zT := zmem1 (i := 65) rfl rfl
theorem zm_67 : (Jvm.Cond.instantiable "WindowLetters$Sheet" (4 : Nat)) ∈ zT := zmem1 (i := 67) rfl rfl
theorem zm_68 : (Jvm.Cond.methodLink "WindowLetters$Shop" (31 : Nat) ({ cls := "WindowLetters$Sheet", name := "<init>", desc := "(LWindowLetters$Shapes;)V" } : Jvm.MethodName)) ∈ zT := zmem1 (i := 68) rfl rfl
theorem zm_69 : (Jvm.Cond.instanceMethod ({ cls := "WindowLetters$Sheet", name := "<init>", desc := "(LWindowLetters$Shapes;)V" } : Jvm.MethodName)) ∈ zT := zmem1 (i := 69) rfl rfl
theorem zm_70 : (Jvm.Cond.code ({ cls := "WindowLetters$Sheet", name := "<init>", desc := "(LWindowLetters$Shapes;)V" } : Jvm.MethodName) prog_6_method_1_code (2 : Nat) (Option.none : Option Jvm.ClassFile.FieldType)) ∈ zT := zmem1 (i := 70) rfl rfl
theorem zm_71 : (Jvm.Cond.methodLink "WindowLetters$Sheet" (3 : Nat) ({ cls := "java/lang/Object", name := "<init>", desc := "()V" } : Jvm.MethodName)) ∈ zT := zmem1 (i := 71) rfl rfl
theorem zm_72 : (Jvm.Cond.fieldLink "WindowLetters$Sheet" (15 : Nat) "WindowLetters$Sheet" "shapes" "LWindowLetters$Shapes;") ∈ zT := zmem1 (i := 72) rfl rfl
theorem zm_73 : (Jvm.Cond.fieldLink "WindowLetters$Sheet" (9 : Nat) "WindowLetters$Sheet" "cutColumns" "[I") ∈ zT := zmem1 (i := 73) rfl rfl
theorem zm_74 : (Jvm.Cond.fieldLinkNest "WindowLetters" (163 : Nat) "WindowLetters$Sheet" "cutColumns" "[I" "WindowLetters") ∈ zN := zmemN1 (i := 74) rfl rfl
theorem zm_75 : (Jvm.Cond.fieldLink "WindowLetters$Sheet" (19 : Nat) "WindowLetters$Sheet" "colour" "I") ∈ zT := zmem1 (i := 75) rfl rfl
theorem zm_76 : (Jvm.Cond.fieldLinkNest "WindowLetters$Shop" (49 : Nat) "WindowLetters$Sheet" "colour" "I" "WindowLetters") ∈ zN := zmemN1 (i := 76) rfl rfl
theorem zm_77 : (Jvm.Cond.fieldLinkNest "WindowLetters" (149 : Nat) "WindowLetters$Sheet" "colour" "I" "WindowLetters") ∈ zN := zmemN1 (i := 77) rfl rfl
theorem zm_78 : (Jvm.Cond.fieldLink "WindowLetters$Sheet" (23 : Nat) "WindowLetters$Sheet" "scrapped" "Z") ∈ zT := zmem1 (i := 78) rfl rfl
theorem zm_79 : (Jvm.Cond.fieldLinkNest "WindowLetters" (156 : Nat) "WindowLetters$Sheet" "scrapped" "Z" "WindowLetters") ∈ zN := zmemN1 (i := 79) rfl rfl
theorem zm_80 : (Jvm.Cond.fieldLinkNest "WindowLetters$Shop" (144 : Nat) "WindowLetters$Sheet" "scrapped" "Z" "WindowLetters") ∈ zN := zmemN1 (i := 80) rfl rfl
theorem zm_81 : (Jvm.Cond.laysFinal "WindowLetters$Sheet" "WindowLetters$Sheet" "shapes" "LWindowLetters$Shapes;") ∈ zT := zmem1 (i := 81) rfl rfl
theorem zm_83 : (Jvm.Cond.laysFinal "WindowLetters$Sheet" "WindowLetters$Sheet" "cutColumns" "[I") ∈ zT := zmem1 (i := 83) rfl rfl
theorem zm_85 : (Jvm.Cond.lays "WindowLetters$Sheet" "WindowLetters$Sheet" "colour" "I") ∈ zT := zmem1 (i := 85) rfl rfl
theorem zm_87 : (Jvm.Cond.lays "WindowLetters$Sheet" "WindowLetters$Sheet" "scrapped" "Z") ∈ zT := zmem1 (i := 87) rfl rfl
theorem zm_90 : (Jvm.Cond.instantiable "WindowLetters$Piece" (7 : Nat)) ∈ zT := zmem1 (i := 90) rfl rfl
theorem zm_91 : (Jvm.Cond.methodLinkNest "WindowLetters$Shop" (34 : Nat) ({ cls := "WindowLetters$Piece", name := "<init>", desc := "()V" } : Jvm.MethodName) "WindowLetters") ∈ zN := zmemN1 (i := 91) rfl rfl
theorem zm_92 : (Jvm.Cond.instanceMethod ({ cls := "WindowLetters$Piece", name := "<init>", desc := "()V" } : Jvm.MethodName)) ∈ zT := zmem1 (i := 92) rfl rfl
theorem zm_93 : (Jvm.Cond.code ({ cls := "WindowLetters$Piece", name := "<init>", desc := "()V" } : Jvm.MethodName) prog_4_method_1_code (1 : Nat) (Option.none : Option Jvm.ClassFile.FieldType)) ∈ zT := zmem1 (i := 93) rfl rfl
theorem zm_94 : (Jvm.Cond.methodLink "WindowLetters$Piece" (3 : Nat) ({ cls := "java/lang/Object", name := "<init>", desc := "()V" } : Jvm.MethodName)) ∈ zT := zmem1 (i := 94) rfl rfl
theorem zm_95 : (Jvm.Cond.fieldLink "WindowLetters$Piece" (9 : Nat) "WindowLetters$Piece" "letter" "I") ∈ zT := zmem1 (i := 95) rfl rfl
theorem zm_96 : (Jvm.Cond.fieldLinkNest "WindowLetters$Shop" (68 : Nat) "WindowLetters$Piece" "letter" "I" "WindowLetters") ∈ zN := zmemN1 (i := 96) rfl rfl
theorem zm_97 : (Jvm.Cond.fieldLinkNest "WindowLetters" (122 : Nat) "WindowLetters$Piece" "letter" "I" "WindowLetters") ∈ zN := zmemN1 (i := 97) rfl rfl
theorem zm_98 : (Jvm.Cond.fieldLink "WindowLetters$Piece" (15 : Nat) "WindowLetters$Piece" "colour" "I") ∈ zT := zmem1 (i := 98) rfl rfl
theorem zm_99 : (Jvm.Cond.fieldLinkNest "WindowLetters$Shop" (71 : Nat) "WindowLetters$Piece" "colour" "I" "WindowLetters") ∈ zN := zmemN1 (i := 99) rfl rfl
theorem zm_100 : (Jvm.Cond.fieldLinkNest "WindowLetters" (128 : Nat) "WindowLetters$Piece" "colour" "I" "WindowLetters") ∈ zN := zmemN1 (i := 100) rfl rfl
theorem zm_101 : (Jvm.Cond.fieldLink "WindowLetters$Piece" (18 : Nat) "WindowLetters$Piece" "way" "I") ∈ zT := zmem1 (i := 101) rfl rfl
theorem zm_102 : (Jvm.Cond.fieldLinkNest "WindowLetters$Shop" (72 : Nat) "WindowLetters$Piece" "way" "I" "WindowLetters") ∈ zN := zmemN1 (i := 102) rfl rfl
theorem zm_103 : (Jvm.Cond.fieldLinkNest "WindowLetters" (131 : Nat) "WindowLetters$Piece" "way" "I" "WindowLetters") ∈ zN := zmemN1 (i := 103) rfl rfl
theorem zm_104 : (Jvm.Cond.fieldLink "WindowLetters$Piece" (21 : Nat) "WindowLetters$Piece" "sheet" "I") ∈ zT := zmem1 (i := 104) rfl rfl
theorem zm_105 : (Jvm.Cond.fieldLinkNest "WindowLetters$Shop" (75 : Nat) "WindowLetters$Piece" "sheet" "I" "WindowLetters") ∈ zN := zmemN1 (i := 105) rfl rfl
theorem zm_106 : (Jvm.Cond.fieldLinkNest "WindowLetters" (143 : Nat) "WindowLetters$Piece" "sheet" "I" "WindowLetters") ∈ zN := zmemN1 (i := 106) rfl rfl
theorem zm_107 : (Jvm.Cond.fieldLink "WindowLetters$Piece" (24 : Nat) "WindowLetters$Piece" "corner" "I") ∈ zT := zmem1 (i := 107) rfl rfl
theorem zm_108 : (Jvm.Cond.fieldLinkNest "WindowLetters$Shop" (78 : Nat) "WindowLetters$Piece" "corner" "I" "WindowLetters") ∈ zN := zmemN1 (i := 108) rfl rfl
theorem zm_109 : (Jvm.Cond.fieldLinkNest "WindowLetters" (146 : Nat) "WindowLetters$Piece" "corner" "I" "WindowLetters") ∈ zN := zmemN1 (i := 109) rfl rfl
theorem zm_110 : (Jvm.Cond.fieldLink "WindowLetters$Piece" (27 : Nat) "WindowLetters$Piece" "state" "I") ∈ zT := zmem1 (i := 110) rfl rfl
theorem zm_111 : (Jvm.Cond.fieldLinkNest "WindowLetters$Shop" (120 : Nat) "WindowLetters$Piece" "state" "I" "WindowLetters") ∈ zN := zmemN1 (i := 111) rfl rfl
theorem zm_112 : (Jvm.Cond.fieldLinkNest "WindowLetters" (137 : Nat) "WindowLetters$Piece" "state" "I" "WindowLetters") ∈ zN := zmemN1 (i := 112) rfl rfl
theorem zm_113 : (Jvm.Cond.fieldLink "WindowLetters$Piece" (30 : Nat) "WindowLetters$Piece" "spot" "I") ∈ zT := zmem1 (i := 113) rfl rfl
theorem zm_114 : (Jvm.Cond.fieldLinkNest "WindowLetters" (140 : Nat) "WindowLetters$Piece" "spot" "I" "WindowLetters") ∈ zN := zmemN1 (i := 114) rfl rfl
theorem zm_115 : (Jvm.Cond.fieldLinkNest "WindowLetters$Shop" (133 : Nat) "WindowLetters$Piece" "spot" "I" "WindowLetters") ∈ zN := zmemN1 (i := 115) rfl rfl
theorem zm_116 : (Jvm.Cond.lays "WindowLetters$Piece" "WindowLetters$Piece" "letter" "I") ∈ zT := zmem1 (i := 116) rfl rfl
theorem zm_118 : (Jvm.Cond.lays "WindowLetters$Piece" "WindowLetters$Piece" "colour" "I") ∈ zT := zmem1 (i := 118) rfl rfl
theorem zm_120 : (Jvm.Cond.lays "WindowLetters$Piece" "WindowLetters$Piece" "way" "I") ∈ zT := zmem1 (i := 120) rfl rfl
theorem zm_122 : (Jvm.Cond.lays "WindowLetters$Piece" "WindowLetters$Piece" "sheet" "I") ∈ zT := zmem1 (i := 122) rfl rfl
theorem zm_124 : (Jvm.Cond.lays "WindowLetters$Piece" "WindowLetters$Piece" "corner" "I") ∈ zT := zmem1 (i := 124) rfl rfl
theorem zm_126 : (Jvm.Cond.lays "WindowLetters$Piece" "WindowLetters$Piece" "state" "I") ∈ zT := zmem1 (i := 126) rfl rfl
theorem zm_128 : (Jvm.Cond.lays "WindowLetters$Piece" "WindowLetters$Piece" "spot" "I") ∈ zT := zmem1 (i := 128) rfl rfl
theorem zm_131 : (Jvm.Cond.fieldLink "WindowLetters$Shop" (27 : Nat) "WindowLetters$Shop" "shapes" "LWindowLetters$Shapes;") ∈ zT := zmem1 (i := 131) rfl rfl
theorem zm_132 : (Jvm.Cond.fieldLink "WindowLetters$Shop" (11 : Nat) "WindowLetters$Shop" "sheets" "[LWindowLetters$Sheet;") ∈ zT := zmem1 (i := 132) rfl rfl
theorem zm_133 : (Jvm.Cond.fieldLink "WindowLetters$Shop" (19 : Nat) "WindowLetters$Shop" "pieces" "[LWindowLetters$Piece;") ∈ zT := zmem1 (i := 133) rfl rfl
theorem zm_134 : (Jvm.Cond.fieldLink "WindowLetters$Shop" (23 : Nat) "WindowLetters$Shop" "spots" "[I") ∈ zT := zmem1 (i := 134) rfl rfl
theorem zm_135 : (Jvm.Cond.fieldLinkNest "WindowLetters" (167 : Nat) "WindowLetters$Shop" "spots" "[I" "WindowLetters") ∈ zN := zmemN1 (i := 135) rfl rfl
theorem zm_136 : (Jvm.Cond.fieldLink "WindowLetters$Shop" (35 : Nat) "WindowLetters$Shop" "sheetCount" "I") ∈ zT := zmem1 (i := 136) rfl rfl
theorem zm_137 : (Jvm.Cond.fieldLinkNest "WindowLetters" (173 : Nat) "WindowLetters$Shop" "sheetCount" "I" "WindowLetters") ∈ zN := zmemN1 (i := 137) rfl rfl
theorem zm_138 : (Jvm.Cond.fieldLink "WindowLetters$Shop" (39 : Nat) "WindowLetters$Shop" "pieceCount" "I") ∈ zT := zmem1 (i := 138) rfl rfl
theorem zm_139 : (Jvm.Cond.fieldLinkNest "WindowLetters" (176 : Nat) "WindowLetters$Shop" "pieceCount" "I" "WindowLetters") ∈ zN := zmemN1 (i := 139) rfl rfl
theorem zm_140 : (Jvm.Cond.laysFinal "WindowLetters$Shop" "WindowLetters$Shop" "shapes" "LWindowLetters$Shapes;") ∈ zT := zmem1 (i := 140) rfl rfl
theorem zm_142 : (Jvm.Cond.laysFinal "WindowLetters$Shop" "WindowLetters$Shop" "sheets" "[LWindowLetters$Sheet;") ∈ zT := zmem1 (i := 142) rfl rfl
theorem zm_144 : (Jvm.Cond.laysFinal "WindowLetters$Shop" "WindowLetters$Shop" "pieces" "[LWindowLetters$Piece;") ∈ zT := zmem1 (i := 144) rfl rfl
theorem zm_146 : (Jvm.Cond.laysFinal "WindowLetters$Shop" "WindowLetters$Shop" "spots" "[I") ∈ zT := zmem1 (i := 146) rfl rfl
theorem zm_148 : (Jvm.Cond.lays "WindowLetters$Shop" "WindowLetters$Shop" "sheetCount" "I") ∈ zT := zmem1 (i := 148) rfl rfl
theorem zm_150 : (Jvm.Cond.lays "WindowLetters$Shop" "WindowLetters$Shop" "pieceCount" "I") ∈ zT := zmem1 (i := 150) rfl rfl
theorem zm_153 : (Jvm.Cond.classLink "WindowLetters" (28 : Nat) "WindowLetters$Sheet") ∈ zT := zmem1 (i := 153) rfl rfl
theorem zm_154 : (Jvm.Cond.methodLink "WindowLetters" (30 : Nat) ({ cls := "WindowLetters$Sheet", name := "<init>", desc := "(LWindowLetters$Shapes;)V" } : Jvm.MethodName)) ∈ zT := zmem1 (i := 154) rfl rfl
theorem zm_156 : (Jvm.Cond.classLink "WindowLetters" (39 : Nat) "WindowLetters$History") ∈ zT := zmem1 (i := 156) rfl rfl
theorem zm_157 : (Jvm.Cond.instantiable "WindowLetters$History" (4 : Nat)) ∈ zT := zmem1 (i := 157) rfl rfl
theorem zm_158 : (Jvm.Cond.methodLink "WindowLetters" (41 : Nat) ({ cls := "WindowLetters$History", name := "<init>", desc := "(LWindowLetters$Shapes;)V" } : Jvm.MethodName)) ∈ zT := zmem1 (i := 158) rfl rfl
theorem zm_159 : (Jvm.Cond.instanceMethod ({ cls := "WindowLetters$History", name := "<init>", desc := "(LWindowLetters$Shapes;)V" } : Jvm.MethodName)) ∈ zT := zmem1 (i := 159) rfl rfl
theorem zm_160 : (Jvm.Cond.code ({ cls := "WindowLetters$History", name := "<init>", desc := "(LWindowLetters$Shapes;)V" } : Jvm.MethodName) prog_2_method_1_code (2 : Nat) (Option.none : Option Jvm.ClassFile.FieldType)) ∈ zT := zmem1 (i := 160) rfl rfl
theorem zm_161 : (Jvm.Cond.methodLink "WindowLetters$History" (3 : Nat) ({ cls := "java/lang/Object", name := "<init>", desc := "()V" } : Jvm.MethodName)) ∈ zT := zmem1 (i := 161) rfl rfl
theorem zm_162 : (Jvm.Cond.classLink "WindowLetters$History" (9 : Nat) "WindowLetters$Shop") ∈ zT := zmem1 (i := 162) rfl rfl
theorem zm_163 : (Jvm.Cond.fieldLink "WindowLetters$History" (17 : Nat) "WindowLetters$History" "shapes" "LWindowLetters$Shapes;") ∈ zT := zmem1 (i := 163) rfl rfl
theorem zm_164 : (Jvm.Cond.fieldLink "WindowLetters$History" (11 : Nat) "WindowLetters$History" "states" "[LWindowLetters$Shop;") ∈ zT := zmem1 (i := 164) rfl rfl
theorem zm_165 : (Jvm.Cond.fieldLink "WindowLetters$History" (21 : Nat) "WindowLetters$History" "oldest" "I") ∈ zT := zmem1 (i := 165) rfl rfl
theorem zm_166 : (Jvm.Cond.fieldLink "WindowLetters$History" (25 : Nat) "WindowLetters$History" "length" "I") ∈ zT := zmem1 (i := 166) rfl rfl
theorem zm_167 : (Jvm.Cond.fieldLinkNest "WindowLetters" (192 : Nat) "WindowLetters$History" "length" "I" "WindowLetters") ∈ zN := zmemN1 (i := 167) rfl rfl
theorem zm_168 : (Jvm.Cond.laysFinal "WindowLetters$History" "WindowLetters$History" "shapes" "LWindowLetters$Shapes;") ∈ zT := zmem1 (i := 168) rfl rfl
theorem zm_170 : (Jvm.Cond.laysFinal "WindowLetters$History" "WindowLetters$History" "states" "[LWindowLetters$Shop;") ∈ zT := zmem1 (i := 170) rfl rfl
theorem zm_172 : (Jvm.Cond.lays "WindowLetters$History" "WindowLetters$History" "oldest" "I") ∈ zT := zmem1 (i := 172) rfl rfl
theorem zm_174 : (Jvm.Cond.lays "WindowLetters$History" "WindowLetters$History" "length" "I") ∈ zT := zmem1 (i := 174) rfl rfl
theorem zm_177 : (Jvm.Cond.classLink "WindowLetters" (46 : Nat) "WindowLetters$Pad") ∈ zT := zmem1 (i := 177) rfl rfl
theorem zm_178 : (Jvm.Cond.instantiable "WindowLetters$Pad" (2 : Nat)) ∈ zT := zmem1 (i := 178) rfl rfl
theorem zm_179 : (Jvm.Cond.methodLinkNest "WindowLetters" (48 : Nat) ({ cls := "WindowLetters$Pad", name := "<init>", desc := "()V" } : Jvm.MethodName) "WindowLetters") ∈ zN := zmemN1 (i := 179) rfl rfl
theorem zm_180 : (Jvm.Cond.instanceMethod ({ cls := "WindowLetters$Pad", name := "<init>", desc := "()V" } : Jvm.MethodName)) ∈ zT := zmem1 (i := 180) rfl rfl
theorem zm_181 : (Jvm.Cond.code ({ cls := "WindowLetters$Pad", name := "<init>", desc := "()V" } : Jvm.MethodName) prog_3_method_1_code (1 : Nat) (Option.none : Option Jvm.ClassFile.FieldType)) ∈ zT := zmem1 (i := 181) rfl rfl
theorem zm_182 : (Jvm.Cond.methodLink "WindowLetters$Pad" (3 : Nat) ({ cls := "java/lang/Object", name := "<init>", desc := "()V" } : Jvm.MethodName)) ∈ zT := zmem1 (i := 182) rfl rfl
theorem zm_183 : (Jvm.Cond.fieldLink "WindowLetters$Pad" (9 : Nat) "WindowLetters$Pad" "signs" "[C") ∈ zT := zmem1 (i := 183) rfl rfl
theorem zm_184 : (Jvm.Cond.fieldLink "WindowLetters$Pad" (15 : Nat) "WindowLetters$Pad" "length" "I") ∈ zT := zmem1 (i := 184) rfl rfl
theorem zm_185 : (Jvm.Cond.fieldLinkNest "WindowLetters$Shop" (98 : Nat) "WindowLetters$Pad" "length" "I" "WindowLetters") ∈ zN := zmemN1 (i := 185) rfl rfl
theorem zm_186 : (Jvm.Cond.fieldLinkNest "WindowLetters" (189 : Nat) "WindowLetters$Pad" "length" "I" "WindowLetters") ∈ zN := zmemN1 (i := 186) rfl rfl
theorem zm_187 : (Jvm.Cond.laysFinal "WindowLetters$Pad" "WindowLetters$Pad" "signs" "[C") ∈ zT := zmem1 (i := 187) rfl rfl
theorem zm_189 : (Jvm.Cond.lays "WindowLetters$Pad" "WindowLetters$Pad" "length" "I") ∈ zT := zmem1 (i := 189) rfl rfl
theorem zm_192 : (Jvm.Cond.arrayClass Jvm.ClassFile.FieldType.char) ∈ zT := zmem1 (i := 192) rfl rfl
theorem zm_193 : (Jvm.Cond.fieldLink "WindowLetters" (10 : Nat) "WindowLetters" "shapes" "LWindowLetters$Shapes;") ∈ zT := zmem1 (i := 193) rfl rfl
theorem zm_194 : (Jvm.Cond.fieldLink "WindowLetters" (21 : Nat) "WindowLetters" "shop" "LWindowLetters$Shop;") ∈ zT := zmem1 (i := 194) rfl rfl
theorem zm_195 : (Jvm.Cond.fieldLink "WindowLetters" (25 : Nat) "WindowLetters" "draft" "LWindowLetters$Shop;") ∈ zT := zmem1 (i := 195) rfl rfl
theorem zm_196 : (Jvm.Cond.fieldLink "WindowLetters" (31 : Nat) "WindowLetters" "trialSheet" "LWindowLetters$Sheet;") ∈ zT := zmem1 (i := 196) rfl rfl
theorem zm_197 : (Jvm.Cond.fieldLink "WindowLetters" (35 : Nat) "WindowLetters" "slots" "[LWindowLetters$Shop;") ∈ zT := zmem1 (i := 197) rfl rfl
theorem zm_198 : (Jvm.Cond.fieldLink "WindowLetters" (42 : Nat) "WindowLetters" "history" "LWindowLetters$History;") ∈ zT := zmem1 (i := 198) rfl rfl
theorem zm_199 : (Jvm.Cond.fieldLink "WindowLetters" (49 : Nat) "WindowLetters" "pad" "LWindowLetters$Pad;") ∈ zT := zmem1 (i := 199) rfl rfl
theorem zm_200 : (Jvm.Cond.laysFinal "WindowLetters" "WindowLetters" "shapes" "LWindowLetters$Shapes;") ∈ zT := zmem1 (i := 200) rfl rfl
theorem zm_202 : (Jvm.Cond.laysFinal "WindowLetters" "WindowLetters" "shop" "LWindowLetters$Shop;") ∈ zT := zmem1 (i := 202) rfl rfl
theorem zm_204 : (Jvm.Cond.laysFinal "WindowLetters" "WindowLetters" "draft" "LWindowLetters$Shop;") ∈ zT := zmem1 (i := 204) rfl rfl
theorem zm_206 : (Jvm.Cond.laysFinal "WindowLetters" "WindowLetters" "trialSheet" "LWindowLetters$Sheet;") ∈ zT := zmem1 (i := 206) rfl rfl
theorem zm_208 : (Jvm.Cond.laysFinal "WindowLetters" "WindowLetters" "slots" "[LWindowLetters$Shop;") ∈ zT := zmem1 (i := 208) rfl rfl
theorem zm_210 : (Jvm.Cond.laysFinal "WindowLetters" "WindowLetters" "history" "LWindowLetters$History;") ∈ zT := zmem1 (i := 210) rfl rfl
theorem zm_212 : (Jvm.Cond.laysFinal "WindowLetters" "WindowLetters" "pad" "LWindowLetters$Pad;") ∈ zT := zmem1 (i := 212) rfl rfl
theorem zm_215 : (Jvm.Cond.methodLink "WindowLettersLaw" (13 : Nat) ({ cls := "WindowLetters", name := "count", desc := "(I)I" } : Jvm.MethodName)) ∈ zT := zmem1 (i := 215) rfl rfl
theorem zm_216 : (Jvm.Cond.instanceMethod ({ cls := "WindowLetters", name := "count", desc := "(I)I" } : Jvm.MethodName)) ∈ zT := zmem1 (i := 216) rfl rfl
theorem zm_217 : (Jvm.Cond.selects "WindowLetters" ({ cls := "WindowLetters", name := "count", desc := "(I)I" } : Jvm.MethodName) ({ cls := "WindowLetters", name := "count", desc := "(I)I" } : Jvm.MethodName)) ∈ zT := zmem1 (i := 217) rfl rfl
theorem zm_218 : (Jvm.Cond.code ({ cls := "WindowLetters", name := "count", desc := "(I)I" } : Jvm.MethodName) prog_1_method_15_code (2 : Nat) (Option.some Jvm.ClassFile.FieldType.int)) ∈ zT := zmem1 (i := 218) rfl rfl
theorem zm_219 : (Jvm.Cond.methodLink "WindowLetters" (179 : Nat) ({ cls := "WindowLetters$Shop", name := "piecesThatAre", desc := "(I)I" } : Jvm.MethodName)) ∈ zT := zmem1 (i := 219) rfl rfl
theorem zm_220 : (Jvm.Cond.instanceMethod ({ cls := "WindowLetters$Shop", name := "piecesThatAre", desc := "(I)I" } : Jvm.MethodName)) ∈ zT := zmem1 (i := 220) rfl rfl
theorem zm_221 : (Jvm.Cond.selects "WindowLetters$Shop" ({ cls := "WindowLetters$Shop", name := "piecesThatAre", desc := "(I)I" } : Jvm.MethodName) ({ cls := "WindowLetters$Shop", name := "piecesThatAre", desc := "(I)I" } : Jvm.MethodName)) ∈ zT := zmem1 (i := 221) rfl rfl
theorem zm_222 : (Jvm.Cond.code ({ cls := "WindowLetters$Shop", name := "piecesThatAre", desc := "(I)I" } : Jvm.MethodName) prog_7_method_17_code (5 : Nat) (Option.some Jvm.ClassFile.FieldType.int)) ∈ zT := zmem1 (i := 222) rfl rfl
theorem zm_223 : (Jvm.Cond.methodLink "WindowLetters$Shop" (116 : Nat) ({ cls := "WindowLetters$Shop", name := "pieceAt", desc := "(I)LWindowLetters$Piece;" } : Jvm.MethodName)) ∈ zT := zmem1 (i := 223) rfl rfl
theorem zm_224 : (Jvm.Cond.instanceMethod ({ cls := "WindowLetters$Shop", name := "pieceAt", desc := "(I)LWindowLetters$Piece;" } : Jvm.MethodName)) ∈ zT := zmem1 (i := 224) rfl rfl
theorem zm_225 : (Jvm.Cond.selects "WindowLetters$Shop" ({ cls := "WindowLetters$Shop", name := "pieceAt", desc := "(I)LWindowLetters$Piece;" } : Jvm.MethodName) ({ cls := "WindowLetters$Shop", name := "pieceAt", desc := "(I)LWindowLetters$Piece;" } : Jvm.MethodName)) ∈ zT := zmem1 (i := 225) rfl rfl
theorem zm_226 : (Jvm.Cond.code ({ cls := "WindowLetters$Shop", name := "pieceAt", desc := "(I)LWindowLetters$Piece;" } : Jvm.MethodName) prog_7_method_4_code (2 : Nat) (Option.some (Jvm.ClassFile.FieldType.object "WindowLetters$Piece"))) ∈ zT := zmem1 (i := 226) rfl rfl
theorem zm_227 : (Jvm.Cond.methodLink "WindowLetters" (182 : Nat) ({ cls := "WindowLetters$Shop", name := "squaresOfPieces", desc := "(I)I" } : Jvm.MethodName)) ∈ zT := zmem1 (i := 227) rfl rfl
theorem zm_228 : (Jvm.Cond.instanceMethod ({ cls := "WindowLetters$Shop", name := "squaresOfPieces", desc := "(I)I" } : Jvm.MethodName)) ∈ zT := zmem1 (i := 228) rfl rfl
theorem zm_229 : (Jvm.Cond.selects "WindowLetters$Shop" ({ cls := "WindowLetters$Shop", name := "squaresOfPieces", desc := "(I)I" } : Jvm.MethodName) ({ cls := "WindowLetters$Shop", name := "squaresOfPieces", desc := "(I)I" } : Jvm.MethodName)) ∈ zT := zmem1 (i := 229) rfl rfl
theorem zm_230 : (Jvm.Cond.code ({ cls := "WindowLetters$Shop", name := "squaresOfPieces", desc := "(I)I" } : Jvm.MethodName) prog_7_method_18_code (5 : Nat) (Option.some Jvm.ClassFile.FieldType.int)) ∈ zT := zmem1 (i := 230) rfl rfl
theorem zm_231 : (Jvm.Cond.methodLink "WindowLetters$Shop" (139 : Nat) ({ cls := "WindowLetters$Shapes", name := "squaresOf", desc := "(I)I" } : Jvm.MethodName)) ∈ zT := zmem1 (i := 231) rfl rfl
theorem zm_232 : (Jvm.Cond.instanceMethod ({ cls := "WindowLetters$Shapes", name := "squaresOf", desc := "(I)I" } : Jvm.MethodName)) ∈ zT := zmem1 (i := 232) rfl rfl
theorem zm_233 : (Jvm.Cond.selects "WindowLetters$Shapes" ({ cls := "WindowLetters$Shapes", name := "squaresOf", desc := "(I)I" } : Jvm.MethodName) ({ cls := "WindowLetters$Shapes", name := "squaresOf", desc := "(I)I" } : Jvm.MethodName)) ∈ zT := zmem1 (i := 233) rfl rfl
theorem zm_234 : (Jvm.Cond.code ({ cls := "WindowLetters$Shapes", name := "squaresOf", desc := "(I)I" } : Jvm.MethodName) prog_5_method_3_code (4 : Nat) (Option.some Jvm.ClassFile.FieldType.int)) ∈ zT := zmem1 (i := 234) rfl rfl
theorem zm_235 : (Jvm.Cond.methodLink "WindowLetters$Shapes" (30 : Nat) ({ cls := "WindowLetters$Shapes", name := "columnsOf", desc := "(III)I" } : Jvm.MethodName)) ∈ zT := zmem1 (i := 235) rfl rfl
theorem zm_236 : (Jvm.Cond.instanceMethod ({ cls := "WindowLetters$Shapes", name := "columnsOf", desc := "(III)I" } : Jvm.MethodName)) ∈ zT := zmem1 (i := 236) rfl rfl
theorem zm_237 : (Jvm.Cond.selects "WindowLetters$Shapes" ({ cls := "WindowLetters$Shapes", name := "columnsOf", desc := "(III)I" } : Jvm.MethodName) ({ cls := "WindowLetters$Shapes", name := "columnsOf", desc := "(III)I" } : Jvm.MethodName)) ∈ zT := zmem1 (i := 237) rfl rfl
theorem zm_238 : (Jvm.Cond.code ({ cls := "WindowLetters$Shapes", name := "columnsOf", desc := "(III)I" } : Jvm.MethodName) prog_5_method_2_code (4 : Nat) (Option.some Jvm.ClassFile.FieldType.int)) ∈ zT := zmem1 (i := 238) rfl rfl
theorem zm_239 : (Jvm.Cond.methodLinkNest "WindowLetters$Shapes" (27 : Nat) ({ cls := "WindowLetters", name := "isWay", desc := "(I)Z" } : Jvm.MethodName) "WindowLetters") ∈ zN := zmemN1 (i := 239) rfl rfl
theorem zm_240 : (Jvm.Cond.static ({ cls := "WindowLetters", name := "isWay", desc := "(I)Z" } : Jvm.MethodName)) ∈ zT := zmem2 (i := 0) rfl rfl
theorem zm_241 : (Jvm.Cond.code ({ cls := "WindowLetters", name := "isWay", desc := "(I)Z" } : Jvm.MethodName) prog_1_method_30_code (1 : Nat) (Option.some Jvm.ClassFile.FieldType.boolean)) ∈ zT := zmem2 (i := 1) rfl rfl
theorem zm_242 : (Jvm.Cond.methodLink "WindowLetters$Shapes" (33 : Nat) ({ cls := "java/lang/Integer", name := "bitCount", desc := "(I)I" } : Jvm.MethodName)) ∈ zT := zmem2 (i := 2) rfl rfl
theorem zm_243 : (Jvm.Cond.static ({ cls := "java/lang/Integer", name := "bitCount", desc := "(I)I" } : Jvm.MethodName)) ∈ zT := zmem2 (i := 3) rfl rfl
theorem zm_244 : (Jvm.Cond.code ({ cls := "java/lang/Integer", name := "bitCount", desc := "(I)I" } : Jvm.MethodName) prog_11_method_49_code (1 : Nat) (Option.some Jvm.ClassFile.FieldType.int)) ∈ zT := zmem2 (i := 4) rfl rfl
theorem zm_245 : (Jvm.Cond.constant "java/lang/Integer" (265 : Nat) (1431655765 : Int32)) ∈ zT := zmem2 (i := 5) rfl rfl
theorem zm_246 : (Jvm.Cond.constant "java/lang/Integer" (266 : Nat) (858993459 : Int32)) ∈ zT := zmem2 (i := 6) rfl rfl
theorem zm_247 : (Jvm.Cond.constant "java/lang/Integer" (267 : Nat) (252645135 : Int32)) ∈ zT := zmem2 (i := 7) rfl rfl
theorem zm_248 : (Jvm.Cond.methodLink "WindowLetters" (185 : Nat) ({ cls := "WindowLetters$Shop", name := "squaresOfSheets", desc := "(Z)I" } : Jvm.MethodName)) ∈ zT := zmem2 (i := 8) rfl rfl
theorem zm_249 : (Jvm.Cond.instanceMethod ({ cls := "WindowLetters$Shop", name := "squaresOfSheets", desc := "(Z)I" } : Jvm.MethodName)) ∈ zT := zmem2 (i := 9) rfl rfl
theorem zm_250 : (Jvm.Cond.selects "WindowLetters$Shop" ({ cls := "WindowLetters$Shop", name := "squaresOfSheets", desc := "(Z)I" } : Jvm.MethodName) ({ cls := "WindowLetters$Shop", name := "squaresOfSheets", desc := "(Z)I" } : Jvm.MethodName)) ∈ zT := zmem2 (i := 10) rfl rfl
theorem zm_251 : (Jvm.Cond.code ({ cls := "WindowLetters$Shop", name := "squaresOfSheets", desc := "(Z)I" } : Jvm.MethodName) prog_7_method_19_code (5 : Nat) (Option.some Jvm.ClassFile.FieldType.int)) ∈ zT := zmem2 (i := 11) rfl rfl
theorem zm_252 : (Jvm.Cond.methodLink "WindowLetters$Shop" (52 : Nat) ({ cls := "WindowLetters$Shop", name := "sheetAt", desc := "(I)LWindowLetters$Sheet;" } : Jvm.MethodName)) ∈ zT := zmem2 (i := 12) rfl rfl
theorem zm_253 : (Jvm.Cond.instanceMethod ({ cls := "WindowLetters$Shop", name := "sheetAt", desc := "(I)LWindowLetters$Sheet;" } : Jvm.MethodName)) ∈ zT := zmem2 (i := 13) rfl rfl
theorem zm_254 : (Jvm.Cond.selects "WindowLetters$Shop" ({ cls := "WindowLetters$Shop", name := "sheetAt", desc := "(I)LWindowLetters$Sheet;" } : Jvm.MethodName) ({ cls := "WindowLetters$Shop", name := "sheetAt", desc := "(I)LWindowLetters$Sheet;" } : Jvm.MethodName)) ∈ zT := zmem2 (i := 14) rfl rfl
theorem zm_255 : (Jvm.Cond.code ({ cls := "WindowLetters$Shop", name := "sheetAt", desc := "(I)LWindowLetters$Sheet;" } : Jvm.MethodName) prog_7_method_3_code (2 : Nat) (Option.some (Jvm.ClassFile.FieldType.object "WindowLetters$Sheet"))) ∈ zT := zmem2 (i := 15) rfl rfl
theorem zm_256 : (Jvm.Cond.methodLink "WindowLetters$Shop" (148 : Nat) ({ cls := "WindowLetters$Sheet", name := "squaresLeft", desc := "()I" } : Jvm.MethodName)) ∈ zT := zmem2 (i := 16) rfl rfl
theorem zm_257 : (Jvm.Cond.instanceMethod ({ cls := "WindowLetters$Sheet", name := "squaresLeft", desc := "()I" } : Jvm.MethodName)) ∈ zT := zmem2 (i := 17) rfl rfl
theorem zm_258 : (Jvm.Cond.selects "WindowLetters$Sheet" ({ cls := "WindowLetters$Sheet", name := "squaresLeft", desc := "()I" } : Jvm.MethodName) ({ cls := "WindowLetters$Sheet", name := "squaresLeft", desc := "()I" } : Jvm.MethodName)) ∈ zT := zmem2 (i := 18) rfl rfl
theorem zm_259 : (Jvm.Cond.code ({ cls := "WindowLetters$Sheet", name := "squaresLeft", desc := "()I" } : Jvm.MethodName) prog_6_method_11_code (3 : Nat) (Option.some Jvm.ClassFile.FieldType.int)) ∈ zT := zmem2 (i := 19) rfl rfl
theorem zm_260 : (Jvm.Cond.methodLink "WindowLetters$Sheet" (67 : Nat) ({ cls := "java/lang/Integer", name := "bitCount", desc := "(I)I" } : Jvm.MethodName)) ∈ zT := zmem2 (i := 20) rfl rfl
theorem zm_261 : (Jvm.Cond.methodLink "WindowLettersLaw" (105 : Nat) ({ cls := "WindowLetters", name := "undo", desc := "()I" } : Jvm.MethodName)) ∈ zT := zmem2 (i := 21) rfl rfl
theorem zm_262 : (Jvm.Cond.instanceMethod ({ cls := "WindowLetters", name := "undo", desc := "()I" } : Jvm.MethodName)) ∈ zT := zmem2 (i := 22) rfl rfl
theorem zm_263 : (Jvm.Cond.selects "WindowLetters" ({ cls := "WindowLetters", name := "undo", desc := "()I" } : Jvm.MethodName) ({ cls := "WindowLetters", name := "undo", desc := "()I" } : Jvm.MethodName)) ∈ zT := zmem2 (i := 23) rfl rfl
theorem zm_264 : (Jvm.Cond.code ({ cls := "WindowLetters", name := "undo", desc := "()I" } : Jvm.MethodName) prog_1_method_23_code (1 : Nat) (Option.some Jvm.ClassFile.FieldType.int)) ∈ zT := zmem2 (i := 24) rfl rfl
theorem zm_265 : (Jvm.Cond.methodLink "WindowLetters" (220 : Nat) ({ cls := "WindowLetters$History", name := "takeBack", desc := "(LWindowLetters$Shop;)Z" } : Jvm.MethodName)) ∈ zT := zmem2 (i := 25) rfl rfl
theorem zm_266 : (Jvm.Cond.instanceMethod ({ cls := "WindowLetters$History", name := "takeBack", desc := "(LWindowLetters$Shop;)Z" } : Jvm.MethodName)) ∈ zT := zmem2 (i := 26) rfl rfl
theorem zm_267 : (Jvm.Cond.selects "WindowLetters$History" ({ cls := "WindowLetters$History", name := "takeBack", desc := "(LWindowLetters$Shop;)Z" } : Jvm.MethodName) ({ cls := "WindowLetters$History", name := "takeBack", desc := "(LWindowLetters$Shop;)Z" } : Jvm.MethodName)) ∈ zT := zmem2 (i := 27) rfl rfl
theorem zm_268 : (Jvm.Cond.code ({ cls := "WindowLetters$History", name := "takeBack", desc := "(LWindowLetters$Shop;)Z" } : Jvm.MethodName) prog_2_method_3_code (3 : Nat) (Option.some Jvm.ClassFile.FieldType.boolean)) ∈ zT := zmem2 (i := 28) rfl rfl
theorem zm_269 : (Jvm.Cond.methodLink "WindowLetters$History" (28 : Nat) ({ cls := "java/lang/Math", name := "floorMod", desc := "(II)I" } : Jvm.MethodName)) ∈ zT := zmem2 (i := 29) rfl rfl
theorem zm_270 : (Jvm.Cond.static ({ cls := "java/lang/Math", name := "floorMod", desc := "(II)I" } : Jvm.MethodName)) ∈ zT := zmem2 (i := 30) rfl rfl
theorem zm_271 : (Jvm.Cond.code ({ cls := "java/lang/Math", name := "floorMod", desc := "(II)I" } : Jvm.MethodName) prog_12_method_50_code (3 : Nat) (Option.some Jvm.ClassFile.FieldType.int)) ∈ zT := zmem2 (i := 31) rfl rfl
theorem zm_272 : (Jvm.Cond.methodLink "WindowLetters$History" (37 : Nat) ({ cls := "WindowLetters$Shop", name := "copyFrom", desc := "(LWindowLetters$Shop;)V" } : Jvm.MethodName)) ∈ zT := zmem2 (i := 32) rfl rfl
theorem zm_273 : (Jvm.Cond.instanceMethod ({ cls := "WindowLetters$Shop", name := "copyFrom", desc := "(LWindowLetters$Shop;)V" } : Jvm.MethodName)) ∈ zT := zmem2 (i := 33) rfl rfl
theorem zm_274 : (Jvm.Cond.selects "WindowLetters$Shop" ({ cls := "WindowLetters$Shop", name := "copyFrom", desc := "(LWindowLetters$Shop;)V" } : Jvm.MethodName) ({ cls := "WindowLetters$Shop", name := "copyFrom", desc := "(LWindowLetters$Shop;)V" } : Jvm.MethodName)) ∈ zT := zmem2 (i := 34) rfl rfl
theorem zm_275 : (Jvm.Cond.code ({ cls := "WindowLetters$Shop", name := "copyFrom", desc := "(LWindowLetters$Shop;)V" } : Jvm.MethodName) prog_7_method_2_code (3 : Nat) (Option.none : Option Jvm.ClassFile.FieldType)) ∈ zT := zmem2 (i := 35) rfl rfl
theorem zm_276 : (Jvm.Cond.methodLink "WindowLetters$Shop" (42 : Nat) ({ cls := "WindowLetters$Sheet", name := "copyFrom", desc := "(LWindowLetters$Sheet;)V" } : Jvm.MethodName)) ∈ zT := zmem2 (i := 36) rfl rfl
theorem zm_277 : (Jvm.Cond.instanceMethod ({ cls := "WindowLetters$Sheet", name := "copyFrom", desc := "(LWindowLetters$Sheet;)V" } : Jvm.MethodName)) ∈ zT := zmem2 (i := 37) rfl rfl
theorem zm_278 : (Jvm.Cond.selects "WindowLetters$Sheet" ({ cls := "WindowLetters$Sheet", name := "copyFrom", desc := "(LWindowLetters$Sheet;)V" } : Jvm.MethodName) ({ cls := "WindowLetters$Sheet", name := "copyFrom", desc := "(LWindowLetters$Sheet;)V" } : Jvm.MethodName)) ∈ zT := zmem2 (i := 38) rfl rfl
theorem zm_279 : (Jvm.Cond.code ({ cls := "WindowLetters$Sheet", name := "copyFrom", desc := "(LWindowLetters$Sheet;)V" } : Jvm.MethodName) prog_6_method_2_code (3 : Nat) (Option.none : Option Jvm.ClassFile.FieldType)) ∈ zT := zmem2 (i := 39) rfl rfl
theorem zm_280 : (Jvm.Cond.methodLink "WindowLetters$Shop" (46 : Nat) ({ cls := "WindowLetters$Piece", name := "copyFrom", desc := "(LWindowLetters$Piece;)V" } : Jvm.MethodName)) ∈ zT := zmem2 (i := 40) rfl rfl
theorem zm_281 : (Jvm.Cond.instanceMethod ({ cls := "WindowLetters$Piece", name := "copyFrom", desc := "(LWindowLetters$Piece;)V" } : Jvm.MethodName)) ∈ zT := zmem2 (i := 41) rfl rfl
theorem zm_282 : (Jvm.Cond.selects "WindowLetters$Piece" ({ cls := "WindowLetters$Piece", name := "copyFrom", desc := "(LWindowLetters$Piece;)V" } : Jvm.MethodName) ({ cls := "WindowLetters$Piece", name := "copyFrom", desc := "(LWindowLetters$Piece;)V" } : Jvm.MethodName)) ∈ zT := zmem2 (i := 42) rfl rfl
theorem zm_283 : (Jvm.Cond.code ({ cls := "WindowLetters$Piece", name := "copyFrom", desc := "(LWindowLetters$Piece;)V" } : Jvm.MethodName) prog_4_method_2_code (2 : Nat) (Option.none : Option Jvm.ClassFile.FieldType)) ∈ zT := zmem2 (i := 43) rfl rfl
theorem zm_284 : (Jvm.Cond.methodLink "WindowLettersLaw" (116 : Nat) ({ cls := "WindowLettersLaw", name := "cell", desc := "([II)I" } : Jvm.MethodName)) ∈ zT := zmem2 (i := 44) rfl rfl
theorem zm_285 : (Jvm.Cond.static ({ cls := "WindowLettersLaw", name := "cell", desc := "([II)I" } : Jvm.MethodName)) ∈ zT := zmem2 (i := 45) rfl rfl
theorem zm_286 : (Jvm.Cond.code ({ cls := "WindowLettersLaw", name := "cell", desc := "([II)I" } : Jvm.MethodName) method_2_code (2 : Nat) (Option.some Jvm.ClassFile.FieldType.int)) ∈ zT := zmem2 (i := 46) rfl rfl
theorem zm_287 : (Jvm.Cond.constant "WindowLettersLaw" (7 : Nat) (40503 : Int32)) ∈ zT := zmem2 (i := 47) rfl rfl
theorem zm_288 : (Jvm.Cond.methodLink "WindowLettersLaw" (19 : Nat) ({ cls := "WindowLettersLaw", name := "low", desc := "(II)I" } : Jvm.MethodName)) ∈ zT := zmem2 (i := 48) rfl rfl
theorem zm_289 : (Jvm.Cond.static ({ cls := "WindowLettersLaw", name := "low", desc := "(II)I" } : Jvm.MethodName)) ∈ zT := zmem2 (i := 49) rfl rfl
theorem zm_290 : (Jvm.Cond.code ({ cls := "WindowLettersLaw", name := "low", desc := "(II)I" } : Jvm.MethodName) method_3_code (2 : Nat) (Option.some Jvm.ClassFile.FieldType.int)) ∈ zT := zmem2 (i := 50) rfl rfl
theorem zm_291 : (Jvm.Cond.constant "WindowLettersLaw" (8 : Nat) (2147483647 : Int32)) ∈ zT := zmem2 (i := 51) rfl rfl
theorem zm_292 : (Jvm.Cond.methodLink "WindowLettersLaw" (120 : Nat) ({ cls := "WindowLettersLaw", name := "change", desc := "(LWindowLetters;III)I" } : Jvm.MethodName)) ∈ zT := zmem2 (i := 52) rfl rfl
theorem zm_293 : (Jvm.Cond.static ({ cls := "WindowLettersLaw", name := "change", desc := "(LWindowLetters;III)I" } : Jvm.MethodName)) ∈ zT := zmem2 (i := 53) rfl rfl
theorem zm_294 : (Jvm.Cond.code ({ cls := "WindowLettersLaw", name := "change", desc := "(LWindowLetters;III)I" } : Jvm.MethodName) method_6_code (8 : Nat) (Option.some Jvm.ClassFile.FieldType.int)) ∈ zT := zmem2 (i := 54) rfl rfl
theorem zm_295 : (Jvm.Cond.methodLink "WindowLettersLaw" (25 : Nat) ({ cls := "WindowLetters", name := "sheet", desc := "(I)I" } : Jvm.MethodName)) ∈ zT := zmem2 (i := 55) rfl rfl
theorem zm_296 : (Jvm.Cond.instanceMethod ({ cls := "WindowLetters", name := "sheet", desc := "(I)I" } : Jvm.MethodName)) ∈ zT := zmem2 (i := 56) rfl rfl
theorem zm_297 : (Jvm.Cond.selects "WindowLetters" ({ cls := "WindowLetters", name := "sheet", desc := "(I)I" } : Jvm.MethodName) ({ cls := "WindowLetters", name := "sheet", desc := "(I)I" } : Jvm.MethodName)) ∈ zT := zmem2 (i := 57) rfl rfl
theorem zm_298 : (Jvm.Cond.code ({ cls := "WindowLetters", name := "sheet", desc := "(I)I" } : Jvm.MethodName) prog_1_method_2_code (2 : Nat) (Option.some Jvm.ClassFile.FieldType.int)) ∈ zT := zmem2 (i := 58) rfl rfl
theorem zm_299 : (Jvm.Cond.methodLink "WindowLetters" (53 : Nat) ({ cls := "WindowLetters", name := "isColour", desc := "(I)Z" } : Jvm.MethodName)) ∈ zT := zmem2 (i := 59) rfl rfl
theorem zm_300 : (Jvm.Cond.static ({ cls := "WindowLetters", name := "isColour", desc := "(I)Z" } : Jvm.MethodName)) ∈ zT := zmem2 (i := 60) rfl rfl
theorem zm_301 : (Jvm.Cond.code ({ cls := "WindowLetters", name := "isColour", desc := "(I)Z" } : Jvm.MethodName) prog_1_method_28_code (1 : Nat) (Option.some Jvm.ClassFile.FieldType.boolean)) ∈ zT := zmem2 (i := 61) rfl rfl
theorem zm_302 : (Jvm.Cond.methodLink "WindowLetters" (57 : Nat) ({ cls := "WindowLetters", name := "newDraft", desc := "()LWindowLetters$Shop;" } : Jvm.MethodName)) ∈ zT := zmem2 (i := 62) rfl rfl
theorem zm_304 : (Jvm.Cond.instanceMethod ({ cls := "WindowLetters", name := "newDraft", desc := "()LWindowLetters$Shop;" } : Jvm.MethodName)) ∈ zT := zmem2 (i := 64) rfl rfl
theorem zm_305 : (Jvm.Cond.code ({ cls := "WindowLetters", name := "newDraft", desc := "()LWindowLetters$Shop;" } : Jvm.MethodName) prog_1_method_26_code (1 : Nat) (Option.some (Jvm.ClassFile.FieldType.object "WindowLetters$Shop"))) ∈ zT := zmem2 (i := 65) rfl rfl
theorem zm_306 : (Jvm.Cond.methodLink "WindowLetters" (227 : Nat) ({ cls := "WindowLetters$Shop", name := "copyFrom", desc := "(LWindowLetters$Shop;)V" } : Jvm.MethodName)) ∈ zT := zmem2 (i := 66) rfl rfl
theorem zm_307 : (Jvm.Cond.methodLink "WindowLetters" (61 : Nat) ({ cls := "WindowLetters$Shop", name := "addSheet", desc := "(I)I" } : Jvm.MethodName)) ∈ zT := zmem2 (i := 67) rfl rfl
theorem zm_308 : (Jvm.Cond.instanceMethod ({ cls := "WindowLetters$Shop", name := "addSheet", desc := "(I)I" } : Jvm.MethodName)) ∈ zT := zmem2 (i := 68) rfl rfl
theorem zm_309 : (Jvm.Cond.selects "WindowLetters$Shop" ({ cls := "WindowLetters$Shop", name := "addSheet", desc := "(I)I" } : Jvm.MethodName) ({ cls := "WindowLetters$Shop", name := "addSheet", desc := "(I)I" } : Jvm.MethodName)) ∈ zT := zmem2 (i := 69) rfl rfl
theorem zm_310 : (Jvm.Cond.code ({ cls := "WindowLetters$Shop", name := "addSheet", desc := "(I)I" } : Jvm.MethodName) prog_7_method_5_code (3 : Nat) (Option.some Jvm.ClassFile.FieldType.int)) ∈ zT := zmem2 (i := 70) rfl rfl
theorem zm_311 : (Jvm.Cond.methodLink "WindowLetters" (65 : Nat) ({ cls := "WindowLetters", name := "settle", desc := "(I)I" } : Jvm.MethodName)) ∈ zT := zmem2 (i := 71) rfl rfl
theorem zm_313 : (Jvm.Cond.instanceMethod ({ cls := "WindowLetters", name := "settle", desc := "(I)I" } : Jvm.MethodName)) ∈ zT := zmem2 (i := 73) rfl rfl
theorem zm_314 : (Jvm.Cond.code ({ cls := "WindowLetters", name := "settle", desc := "(I)I" } : Jvm.MethodName) prog_1_method_27_code (2 : Nat) (Option.some Jvm.ClassFile.FieldType.int)) ∈ zT := zmem2 (i := 74) rfl rfl
theorem zm_315 : (Jvm.Cond.methodLink "WindowLetters" (230 : Nat) ({ cls := "WindowLetters$History", name := "record", desc := "(LWindowLetters$Shop;)V" } : Jvm.MethodName)) ∈ zT := zmem2 (i := 75) rfl rfl
theorem zm_316 : (Jvm.Cond.instanceMethod ({ cls := "WindowLetters$History", name := "record", desc := "(LWindowLetters$Shop;)V" } : Jvm.MethodName)) ∈ zT := zmem2 (i := 76) rfl rfl
theorem zm_317 : (Jvm.Cond.selects "WindowLetters$History" ({ cls := "WindowLetters$History", name := "record", desc := "(LWindowLetters$Shop;)V" } : Jvm.MethodName) ({ cls := "WindowLetters$History", name := "record", desc := "(LWindowLetters$Shop;)V" } : Jvm.MethodName)) ∈ zT := zmem2 (i := 77) rfl rfl
theorem zm_318 : (Jvm.Cond.code ({ cls := "WindowLetters$History", name := "record", desc := "(LWindowLetters$Shop;)V" } : Jvm.MethodName) prog_2_method_2_code (4 : Nat) (Option.none : Option Jvm.ClassFile.FieldType)) ∈ zT := zmem2 (i := 78) rfl rfl
theorem zm_319 : (Jvm.Cond.methodLink "WindowLetters$History" (34 : Nat) ({ cls := "WindowLetters$Shop", name := "<init>", desc := "(LWindowLetters$Shapes;)V" } : Jvm.MethodName)) ∈ zT := zmem2 (i := 79) rfl rfl
theorem zm_320 : (Jvm.Cond.methodLink "WindowLettersLaw" (28 : Nat) ({ cls := "WindowLetters", name := "cut", desc := "(IIIII)I" } : Jvm.MethodName)) ∈ zT := zmem2 (i := 80) rfl rfl
theorem zm_321 : (Jvm.Cond.instanceMethod ({ cls := "WindowLetters", name := "cut", desc := "(IIIII)I" } : Jvm.MethodName)) ∈ zT := zmem2 (i := 81) rfl rfl
theorem zm_322 : (Jvm.Cond.selects "WindowLetters" ({ cls := "WindowLetters", name := "cut", desc := "(IIIII)I" } : Jvm.MethodName) ({ cls := "WindowLetters", name := "cut", desc := "(IIIII)I" } : Jvm.MethodName)) ∈ zT := zmem2 (i := 82) rfl rfl
theorem zm_323 : (Jvm.Cond.code ({ cls := "WindowLetters", name := "cut", desc := "(IIIII)I" } : Jvm.MethodName) prog_1_method_3_code (6 : Nat) (Option.some Jvm.ClassFile.FieldType.int)) ∈ zT := zmem2 (i := 83) rfl rfl
theorem zm_324 : (Jvm.Cond.methodLink "WindowLetters" (68 : Nat) ({ cls := "WindowLetters$Shop", name := "sheetAt", desc := "(I)LWindowLetters$Sheet;" } : Jvm.MethodName)) ∈ zT := zmem2 (i := 84) rfl rfl
theorem zm_325 : (Jvm.Cond.methodLink "WindowLetters" (72 : Nat) ({ cls := "WindowLetters", name := "isLetter", desc := "(I)Z" } : Jvm.MethodName)) ∈ zT := zmem2 (i := 85) rfl rfl
theorem zm_326 : (Jvm.Cond.methodLink "WindowLetters" (75 : Nat) ({ cls := "WindowLetters", name := "isWay", desc := "(I)Z" } : Jvm.MethodName)) ∈ zT := zmem2 (i := 86) rfl rfl
theorem zm_327 : (Jvm.Cond.methodLink "WindowLetters" (78 : Nat) ({ cls := "WindowLetters$Shop", name := "cutPiece", desc := "(IIIII)I" } : Jvm.MethodName)) ∈ zT := zmem2 (i := 87) rfl rfl
theorem zm_328 : (Jvm.Cond.instanceMethod ({ cls := "WindowLetters$Shop", name := "cutPiece", desc := "(IIIII)I" } : Jvm.MethodName)) ∈ zT := zmem2 (i := 88) rfl rfl
theorem zm_329 : (Jvm.Cond.selects "WindowLetters$Shop" ({ cls := "WindowLetters$Shop", name := "cutPiece", desc := "(IIIII)I" } : Jvm.MethodName) ({ cls := "WindowLetters$Shop", name := "cutPiece", desc := "(IIIII)I" } : Jvm.MethodName)) ∈ zT := zmem2 (i := 89) rfl rfl
theorem zm_330 : (Jvm.Cond.code ({ cls := "WindowLetters$Shop", name := "cutPiece", desc := "(IIIII)I" } : Jvm.MethodName) prog_7_method_6_code (7 : Nat) (Option.some Jvm.ClassFile.FieldType.int)) ∈ zT := zmem2 (i := 90) rfl rfl
theorem zm_331 : (Jvm.Cond.methodLink "WindowLetters$Shop" (56 : Nat) ({ cls := "WindowLetters$Sheet", name := "canCut", desc := "(IIII)Z" } : Jvm.MethodName)) ∈ zT := zmem2 (i := 91) rfl rfl
theorem zm_332 : (Jvm.Cond.instanceMethod ({ cls := "WindowLetters$Sheet", name := "canCut", desc := "(IIII)Z" } : Jvm.MethodName)) ∈ zT := zmem2 (i := 92) rfl rfl
theorem zm_333 : (Jvm.Cond.selects "WindowLetters$Sheet" ({ cls := "WindowLetters$Sheet", name := "canCut", desc := "(IIII)Z" } : Jvm.MethodName) ({ cls := "WindowLetters$Sheet", name := "canCut", desc := "(IIII)Z" } : Jvm.MethodName)) ∈ zT := zmem2 (i := 93) rfl rfl
theorem zm_334 : (Jvm.Cond.code ({ cls := "WindowLetters$Sheet", name := "canCut", desc := "(IIII)Z" } : Jvm.MethodName) prog_6_method_3_code (5 : Nat) (Option.some Jvm.ClassFile.FieldType.boolean)) ∈ zT := zmem2 (i := 94) rfl rfl
theorem zm_335 : (Jvm.Cond.methodLink "WindowLetters$Sheet" (27 : Nat) ({ cls := "WindowLetters$Sheet", name := "freeColumns", desc := "(III)I" } : Jvm.MethodName)) ∈ zT := zmem2 (i := 95) rfl rfl
theorem zm_337 : (Jvm.Cond.instanceMethod ({ cls := "WindowLetters$Sheet", name := "freeColumns", desc := "(III)I" } : Jvm.MethodName)) ∈ zT := zmem2 (i := 97) rfl rfl
theorem zm_338 : (Jvm.Cond.code ({ cls := "WindowLetters$Sheet", name := "freeColumns", desc := "(III)I" } : Jvm.MethodName) prog_6_method_4_code (8 : Nat) (Option.some Jvm.ClassFile.FieldType.int)) ∈ zT := zmem2 (i := 98) rfl rfl
theorem zm_339 : (Jvm.Cond.methodLink "WindowLetters$Sheet" (31 : Nat) ({ cls := "WindowLetters$Sheet", name := "isOnSheet", desc := "(III)Z" } : Jvm.MethodName)) ∈ zT := zmem2 (i := 99) rfl rfl
theorem zm_340 : (Jvm.Cond.static ({ cls := "WindowLetters$Sheet", name := "isOnSheet", desc := "(III)Z" } : Jvm.MethodName)) ∈ zT := zmem2 (i := 100) rfl rfl
theorem zm_341 : (Jvm.Cond.code ({ cls := "WindowLetters$Sheet", name := "isOnSheet", desc := "(III)Z" } : Jvm.MethodName) prog_6_method_6_code (3 : Nat) (Option.some Jvm.ClassFile.FieldType.boolean)) ∈ zT := zmem2 (i := 101) rfl rfl
theorem zm_342 : (Jvm.Cond.methodLinkNest "WindowLetters$Sheet" (39 : Nat) ({ cls := "WindowLetters", name := "heightOf", desc := "(I)I" } : Jvm.MethodName) "WindowLetters") ∈ zN := zmemN2 (i := 102) rfl rfl
theorem zm_343 : (Jvm.Cond.methodLinkNest "WindowLetters$Sheet" (35 : Nat) ({ cls := "WindowLetters", name := "widthOf", desc := "(I)I" } : Jvm.MethodName) "WindowLetters") ∈ zN := zmemN2 (i := 103) rfl rfl
theorem zm_344 : (Jvm.Cond.methodLink "WindowLetters$Sheet" (42 : Nat) ({ cls := "WindowLetters$Shapes", name := "columnsOf", desc := "(III)I" } : Jvm.MethodName)) ∈ zT := zmem2 (i := 104) rfl rfl
theorem zm_345 : (Jvm.Cond.methodLink "WindowLetters$Shop" (60 : Nat) ({ cls := "WindowLetters$Shop", name := "addPiece", desc := "(IIIII)I" } : Jvm.MethodName)) ∈ zT := zmem2 (i := 105) rfl rfl
theorem zm_347 : (Jvm.Cond.instanceMethod ({ cls := "WindowLetters$Shop", name := "addPiece", desc := "(IIIII)I" } : Jvm.MethodName)) ∈ zT := zmem2 (i := 107) rfl rfl
theorem zm_348 : (Jvm.Cond.code ({ cls := "WindowLetters$Shop", name := "addPiece", desc := "(IIIII)I" } : Jvm.MethodName) prog_7_method_7_code (9 : Nat) (Option.some Jvm.ClassFile.FieldType.int)) ∈ zT := zmem2 (i := 108) rfl rfl
theorem zm_349 : (Jvm.Cond.methodLink "WindowLetters$Shop" (64 : Nat) ({ cls := "WindowLetters$Sheet", name := "cutOut", desc := "(IIII)V" } : Jvm.MethodName)) ∈ zT := zmem2 (i := 109) rfl rfl
theorem zm_350 : (Jvm.Cond.instanceMethod ({ cls := "WindowLetters$Sheet", name := "cutOut", desc := "(IIII)V" } : Jvm.MethodName)) ∈ zT := zmem2 (i := 110) rfl rfl
theorem zm_351 : (Jvm.Cond.selects "WindowLetters$Sheet" ({ cls := "WindowLetters$Sheet", name := "cutOut", desc := "(IIII)V" } : Jvm.MethodName) ({ cls := "WindowLetters$Sheet", name := "cutOut", desc := "(IIII)V" } : Jvm.MethodName)) ∈ zT := zmem2 (i := 111) rfl rfl
theorem zm_352 : (Jvm.Cond.code ({ cls := "WindowLetters$Sheet", name := "cutOut", desc := "(IIII)V" } : Jvm.MethodName) prog_6_method_5_code (6 : Nat) (Option.none : Option Jvm.ClassFile.FieldType)) ∈ zT := zmem2 (i := 112) rfl rfl
theorem zm_353 : (Jvm.Cond.methodLink "WindowLetters$Shop" (81 : Nat) ({ cls := "WindowLetters$Piece", name := "becomeLoose", desc := "()V" } : Jvm.MethodName)) ∈ zT := zmem2 (i := 113) rfl rfl
theorem zm_354 : (Jvm.Cond.instanceMethod ({ cls := "WindowLetters$Piece", name := "becomeLoose", desc := "()V" } : Jvm.MethodName)) ∈ zT := zmem2 (i := 114) rfl rfl
theorem zm_355 : (Jvm.Cond.selects "WindowLetters$Piece" ({ cls := "WindowLetters$Piece", name := "becomeLoose", desc := "()V" } : Jvm.MethodName) ({ cls := "WindowLetters$Piece", name := "becomeLoose", desc := "()V" } : Jvm.MethodName)) ∈ zT := zmem2 (i := 115) rfl rfl
theorem zm_356 : (Jvm.Cond.code ({ cls := "WindowLetters$Piece", name := "becomeLoose", desc := "()V" } : Jvm.MethodName) prog_4_method_3_code (1 : Nat) (Option.none : Option Jvm.ClassFile.FieldType)) ∈ zT := zmem2 (i := 116) rfl rfl
theorem zm_357 : (Jvm.Cond.methodLink "WindowLettersLaw" (32 : Nat) ({ cls := "WindowLetters", name := "make", desc := "(III)I" } : Jvm.MethodName)) ∈ zT := zmem2 (i := 117) rfl rfl
theorem zm_358 : (Jvm.Cond.instanceMethod ({ cls := "WindowLetters", name := "make", desc := "(III)I" } : Jvm.MethodName)) ∈ zT := zmem2 (i := 118) rfl rfl
theorem zm_359 : (Jvm.Cond.selects "WindowLetters" ({ cls := "WindowLetters", name := "make", desc := "(III)I" } : Jvm.MethodName) ({ cls := "WindowLetters", name := "make", desc := "(III)I" } : Jvm.MethodName)) ∈ zT := zmem2 (i := 119) rfl rfl
theorem zm_360 : (Jvm.Cond.code ({ cls := "WindowLetters", name := "make", desc := "(III)I" } : Jvm.MethodName) prog_1_method_4_code (4 : Nat) (Option.some Jvm.ClassFile.FieldType.int)) ∈ zT := zmem2 (i := 120) rfl rfl
theorem zm_361 : (Jvm.Cond.methodLink "WindowLetters" (82 : Nat) ({ cls := "WindowLetters", name := "isMirroring", desc := "(I)Z" } : Jvm.MethodName)) ∈ zT := zmem2 (i := 121) rfl rfl
theorem zm_362 : (Jvm.Cond.static ({ cls := "WindowLetters", name := "isMirroring", desc := "(I)Z" } : Jvm.MethodName)) ∈ zT := zmem2 (i := 122) rfl rfl
theorem zm_363 : (Jvm.Cond.code ({ cls := "WindowLetters", name := "isMirroring", desc := "(I)Z" } : Jvm.MethodName) prog_1_method_31_code (1 : Nat) (Option.some Jvm.ClassFile.FieldType.boolean)) ∈ zT := zmem2 (i := 123) rfl rfl
theorem zm_364 : (Jvm.Cond.methodLink "WindowLetters" (85 : Nat) ({ cls := "WindowLetters$Shop", name := "makePiece", desc := "(III)I" } : Jvm.MethodName)) ∈ zT := zmem2 (i := 124) rfl rfl
theorem zm_365 : (Jvm.Cond.instanceMethod ({ cls := "WindowLetters$Shop", name := "makePiece", desc := "(III)I" } : Jvm.MethodName)) ∈ zT := zmem2 (i := 125) rfl rfl
theorem zm_366 : (Jvm.Cond.selects "WindowLetters$Shop" ({ cls := "WindowLetters$Shop", name := "makePiece", desc := "(III)I" } : Jvm.MethodName) ({ cls := "WindowLetters$Shop", name := "makePiece", desc := "(III)I" } : Jvm.MethodName)) ∈ zT := zmem2 (i := 126) rfl rfl
theorem zm_367 : (Jvm.Cond.code ({ cls := "WindowLetters$Shop", name := "makePiece", desc := "(III)I" } : Jvm.MethodName) prog_7_method_8_code (7 : Nat) (Option.some Jvm.ClassFile.FieldType.int)) ∈ zT := zmem2 (i := 127) rfl rfl
theorem zm_368 : (Jvm.Cond.methodLink "WindowLetters$Shop" (84 : Nat) ({ cls := "WindowLetters$Sheet", name := "firstFit", desc := "(II)I" } : Jvm.MethodName)) ∈ zT := zmem2 (i := 128) rfl rfl
theorem zm_369 : (Jvm.Cond.instanceMethod ({ cls := "WindowLetters$Sheet", name := "firstFit", desc := "(II)I" } : Jvm.MethodName)) ∈ zT := zmem2 (i := 129) rfl rfl
theorem zm_370 : (Jvm.Cond.selects "WindowLetters$Sheet" ({ cls := "WindowLetters$Sheet", name := "firstFit", desc := "(II)I" } : Jvm.MethodName) ({ cls := "WindowLetters$Sheet", name := "firstFit", desc := "(II)I" } : Jvm.MethodName)) ∈ zT := zmem2 (i := 130) rfl rfl
theorem zm_371 : (Jvm.Cond.code ({ cls := "WindowLetters$Sheet", name := "firstFit", desc := "(II)I" } : Jvm.MethodName) prog_6_method_7_code (9 : Nat) (Option.some Jvm.ClassFile.FieldType.int)) ∈ zT := zmem2 (i := 131) rfl rfl
theorem zm_372 : (Jvm.Cond.methodLinkNest "WindowLetters$Sheet" (47 : Nat) ({ cls := "WindowLetters", name := "lowestIn", desc := "(I)I" } : Jvm.MethodName) "WindowLetters") ∈ zN := zmemN2 (i := 132) rfl rfl
theorem zm_373 : (Jvm.Cond.static ({ cls := "WindowLetters", name := "lowestIn", desc := "(I)I" } : Jvm.MethodName)) ∈ zT := zmem2 (i := 133) rfl rfl
theorem zm_374 : (Jvm.Cond.code ({ cls := "WindowLetters", name := "lowestIn", desc := "(I)I" } : Jvm.MethodName) prog_1_method_41_code (1 : Nat) (Option.some Jvm.ClassFile.FieldType.int)) ∈ zT := zmem2 (i := 134) rfl rfl
theorem zm_375 : (Jvm.Cond.methodLink "WindowLetters" (233 : Nat) ({ cls := "java/lang/Integer", name := "bitCount", desc := "(I)I" } : Jvm.MethodName)) ∈ zT := zmem2 (i := 135) rfl rfl
theorem zm_376 : (Jvm.Cond.methodLinkNest "WindowLetters$Shop" (88 : Nat) ({ cls := "WindowLetters", name := "wayIn", desc := "(I)I" } : Jvm.MethodName) "WindowLetters") ∈ zN := zmemN2 (i := 136) rfl rfl
theorem zm_377 : (Jvm.Cond.static ({ cls := "WindowLetters", name := "wayIn", desc := "(I)I" } : Jvm.MethodName)) ∈ zT := zmem2 (i := 137) rfl rfl
theorem zm_378 : (Jvm.Cond.code ({ cls := "WindowLetters", name := "wayIn", desc := "(I)I" } : Jvm.MethodName) prog_1_method_40_code (1 : Nat) (Option.some Jvm.ClassFile.FieldType.int)) ∈ zT := zmem2 (i := 138) rfl rfl
theorem zm_379 : (Jvm.Cond.methodLinkNest "WindowLetters$Shop" (92 : Nat) ({ cls := "WindowLetters", name := "rowIn", desc := "(I)I" } : Jvm.MethodName) "WindowLetters") ∈ zN := zmemN2 (i := 139) rfl rfl
theorem zm_380 : (Jvm.Cond.static ({ cls := "WindowLetters", name := "rowIn", desc := "(I)I" } : Jvm.MethodName)) ∈ zT := zmem2 (i := 140) rfl rfl
theorem zm_381 : (Jvm.Cond.code ({ cls := "WindowLetters", name := "rowIn", desc := "(I)I" } : Jvm.MethodName) prog_1_method_38_code (1 : Nat) (Option.some Jvm.ClassFile.FieldType.int)) ∈ zT := zmem2 (i := 141) rfl rfl
theorem zm_382 : (Jvm.Cond.methodLinkNest "WindowLetters$Shop" (95 : Nat) ({ cls := "WindowLetters", name := "columnIn", desc := "(I)I" } : Jvm.MethodName) "WindowLetters") ∈ zN := zmemN2 (i := 142) rfl rfl
theorem zm_383 : (Jvm.Cond.static ({ cls := "WindowLetters", name := "columnIn", desc := "(I)I" } : Jvm.MethodName)) ∈ zT := zmem2 (i := 143) rfl rfl
theorem zm_384 : (Jvm.Cond.code ({ cls := "WindowLetters", name := "columnIn", desc := "(I)I" } : Jvm.MethodName) prog_1_method_39_code (1 : Nat) (Option.some Jvm.ClassFile.FieldType.int)) ∈ zT := zmem2 (i := 144) rfl rfl
theorem zm_385 : (Jvm.Cond.methodLink "WindowLettersLaw" (36 : Nat) ({ cls := "WindowLettersLaw", name := "sign", desc := "(I)I" } : Jvm.MethodName)) ∈ zT := zmem2 (i := 145) rfl rfl
theorem zm_386 : (Jvm.Cond.static ({ cls := "WindowLettersLaw", name := "sign", desc := "(I)I" } : Jvm.MethodName)) ∈ zT := zmem2 (i := 146) rfl rfl
theorem zm_387 : (Jvm.Cond.code ({ cls := "WindowLettersLaw", name := "sign", desc := "(I)I" } : Jvm.MethodName) method_5_code (1 : Nat) (Option.some Jvm.ClassFile.FieldType.int)) ∈ zT := zmem2 (i := 147) rfl rfl
theorem zm_388 : (Jvm.Cond.constantLong "WindowLettersLaw" (9 : Nat) (7596569217443653747 : Int64)) ∈ zT := zmem2 (i := 148) rfl rfl
theorem zm_389 : (Jvm.Cond.constantLong "WindowLettersLaw" (11 : Nat) (255 : Int64)) ∈ zT := zmem2 (i := 149) rfl rfl
theorem zm_390 : (Jvm.Cond.methodLink "WindowLettersLaw" (39 : Nat) ({ cls := "WindowLetters", name := "put", desc := "(J)I" } : Jvm.MethodName)) ∈ zT := zmem2 (i := 150) rfl rfl
theorem zm_391 : (Jvm.Cond.instanceMethod ({ cls := "WindowLetters", name := "put", desc := "(J)I" } : Jvm.MethodName)) ∈ zT := zmem2 (i := 151) rfl rfl
theorem zm_392 : (Jvm.Cond.selects "WindowLetters" ({ cls := "WindowLetters", name := "put", desc := "(J)I" } : Jvm.MethodName) ({ cls := "WindowLetters", name := "put", desc := "(J)I" } : Jvm.MethodName)) ∈ zT := zmem2 (i := 152) rfl rfl
theorem zm_393 : (Jvm.Cond.code ({ cls := "WindowLetters", name := "put", desc := "(J)I" } : Jvm.MethodName) prog_1_method_20_code (3 : Nat) (Option.some Jvm.ClassFile.FieldType.int)) ∈ zT := zmem2 (i := 153) rfl rfl
theorem zm_394 : (Jvm.Cond.methodLink "WindowLetters" (216 : Nat) ({ cls := "WindowLetters$Pad", name := "append", desc := "(J)I" } : Jvm.MethodName)) ∈ zT := zmem2 (i := 154) rfl rfl
theorem zm_395 : (Jvm.Cond.instanceMethod ({ cls := "WindowLetters$Pad", name := "append", desc := "(J)I" } : Jvm.MethodName)) ∈ zT := zmem2 (i := 155) rfl rfl
theorem zm_396 : (Jvm.Cond.selects "WindowLetters$Pad" ({ cls := "WindowLetters$Pad", name := "append", desc := "(J)I" } : Jvm.MethodName) ({ cls := "WindowLetters$Pad", name := "append", desc := "(J)I" } : Jvm.MethodName)) ∈ zT := zmem2 (i := 156) rfl rfl
theorem zm_397 : (Jvm.Cond.code ({ cls := "WindowLetters$Pad", name := "append", desc := "(J)I" } : Jvm.MethodName) prog_3_method_3_code (5 : Nat) (Option.some Jvm.ClassFile.FieldType.int)) ∈ zT := zmem2 (i := 157) rfl rfl
theorem zm_398 : (Jvm.Cond.methodLink "WindowLetters$Pad" (19 : Nat) ({ cls := "WindowLetters$Pad", name := "signsIn", desc := "(J)I" } : Jvm.MethodName)) ∈ zT := zmem2 (i := 158) rfl rfl
theorem zm_399 : (Jvm.Cond.static ({ cls := "WindowLetters$Pad", name := "signsIn", desc := "(J)I" } : Jvm.MethodName)) ∈ zT := zmem2 (i := 159) rfl rfl
theorem zm_400 : (Jvm.Cond.code ({ cls := "WindowLetters$Pad", name := "signsIn", desc := "(J)I" } : Jvm.MethodName) prog_3_method_4_code (4 : Nat) (Option.some Jvm.ClassFile.FieldType.int)) ∈ zT := zmem2 (i := 160) rfl rfl
theorem zm_401 : (Jvm.Cond.methodLink "WindowLetters$Pad" (23 : Nat) ({ cls := "WindowLetters$Pad", name := "codeIn", desc := "(JI)I" } : Jvm.MethodName)) ∈ zT := zmem2 (i := 161) rfl rfl
theorem zm_402 : (Jvm.Cond.static ({ cls := "WindowLetters$Pad", name := "codeIn", desc := "(JI)I" } : Jvm.MethodName)) ∈ zT := zmem2 (i := 162) rfl rfl
theorem zm_403 : (Jvm.Cond.code ({ cls := "WindowLetters$Pad", name := "codeIn", desc := "(JI)I" } : Jvm.MethodName) prog_3_method_5_code (3 : Nat) (Option.some Jvm.ClassFile.FieldType.int)) ∈ zT := zmem2 (i := 163) rfl rfl
theorem zm_404 : (Jvm.Cond.constantLong "WindowLetters$Pad" (27 : Nat) (255 : Int64)) ∈ zT := zmem2 (i := 164) rfl rfl
theorem zm_405 : (Jvm.Cond.methodLink "WindowLettersLaw" (43 : Nat) ({ cls := "WindowLetters", name := "write", desc := "(IIII)I" } : Jvm.MethodName)) ∈ zT := zmem2 (i := 165) rfl rfl
theorem zm_406 : (Jvm.Cond.instanceMethod ({ cls := "WindowLetters", name := "write", desc := "(IIII)I" } : Jvm.MethodName)) ∈ zT := zmem2 (i := 166) rfl rfl
theorem zm_407 : (Jvm.Cond.selects "WindowLetters" ({ cls := "WindowLetters", name := "write", desc := "(IIII)I" } : Jvm.MethodName) ({ cls := "WindowLetters", name := "write", desc := "(IIII)I" } : Jvm.MethodName)) ∈ zT := zmem2 (i := 167) rfl rfl
theorem zm_408 : (Jvm.Cond.code ({ cls := "WindowLetters", name := "write", desc := "(IIII)I" } : Jvm.MethodName) prog_1_method_5_code (6 : Nat) (Option.some Jvm.ClassFile.FieldType.int)) ∈ zT := zmem2 (i := 168) rfl rfl
theorem zm_409 : (Jvm.Cond.methodLink "WindowLetters" (89 : Nat) ({ cls := "WindowLetters", name := "isPane", desc := "(I)Z" } : Jvm.MethodName)) ∈ zT := zmem2 (i := 169) rfl rfl
theorem zm_410 : (Jvm.Cond.static ({ cls := "WindowLetters", name := "isPane", desc := "(I)Z" } : Jvm.MethodName)) ∈ zT := zmem2 (i := 170) rfl rfl
theorem zm_411 : (Jvm.Cond.code ({ cls := "WindowLetters", name := "isPane", desc := "(I)Z" } : Jvm.MethodName) prog_1_method_32_code (1 : Nat) (Option.some Jvm.ClassFile.FieldType.boolean)) ∈ zT := zmem2 (i := 171) rfl rfl
theorem zm_412 : (Jvm.Cond.methodLink "WindowLetters" (92 : Nat) ({ cls := "WindowLetters", name := "isPlace", desc := "(I)Z" } : Jvm.MethodName)) ∈ zT := zmem2 (i := 172) rfl rfl
theorem zm_413 : (Jvm.Cond.static ({ cls := "WindowLetters", name := "isPlace", desc := "(I)Z" } : Jvm.MethodName)) ∈ zT := zmem2 (i := 173) rfl rfl
theorem zm_414 : (Jvm.Cond.code ({ cls := "WindowLetters", name := "isPlace", desc := "(I)Z" } : Jvm.MethodName) prog_1_method_33_code (1 : Nat) (Option.some Jvm.ClassFile.FieldType.boolean)) ∈ zT := zmem2 (i := 174) rfl rfl
theorem zm_415 : (Jvm.Cond.methodLink "WindowLetters" (95 : Nat) ({ cls := "WindowLetters$Pad", name := "faultIndex", desc := "()I" } : Jvm.MethodName)) ∈ zT := zmem2 (i := 175) rfl rfl
theorem zm_416 : (Jvm.Cond.instanceMethod ({ cls := "WindowLetters$Pad", name := "faultIndex", desc := "()I" } : Jvm.MethodName)) ∈ zT := zmem2 (i := 176) rfl rfl
theorem zm_417 : (Jvm.Cond.selects "WindowLetters$Pad" ({ cls := "WindowLetters$Pad", name := "faultIndex", desc := "()I" } : Jvm.MethodName) ({ cls := "WindowLetters$Pad", name := "faultIndex", desc := "()I" } : Jvm.MethodName)) ∈ zT := zmem2 (i := 177) rfl rfl
theorem zm_418 : (Jvm.Cond.code ({ cls := "WindowLetters$Pad", name := "faultIndex", desc := "()I" } : Jvm.MethodName) prog_3_method_7_code (2 : Nat) (Option.some Jvm.ClassFile.FieldType.int)) ∈ zT := zmem2 (i := 178) rfl rfl
theorem zm_419 : (Jvm.Cond.methodLink "WindowLetters$Pad" (37 : Nat) ({ cls := "WindowLetters$Pad", name := "letterAt", desc := "(I)I" } : Jvm.MethodName)) ∈ zT := zmem2 (i := 179) rfl rfl
theorem zm_420 : (Jvm.Cond.instanceMethod ({ cls := "WindowLetters$Pad", name := "letterAt", desc := "(I)I" } : Jvm.MethodName)) ∈ zT := zmem2 (i := 180) rfl rfl
theorem zm_421 : (Jvm.Cond.selects "WindowLetters$Pad" ({ cls := "WindowLetters$Pad", name := "letterAt", desc := "(I)I" } : Jvm.MethodName) ({ cls := "WindowLetters$Pad", name := "letterAt", desc := "(I)I" } : Jvm.MethodName)) ∈ zT := zmem2 (i := 181) rfl rfl
theorem zm_422 : (Jvm.Cond.code ({ cls := "WindowLetters$Pad", name := "letterAt", desc := "(I)I" } : Jvm.MethodName) prog_3_method_6_code (3 : Nat) (Option.some Jvm.ClassFile.FieldType.int)) ∈ zT := zmem2 (i := 182) rfl rfl
theorem zm_424 : (Jvm.Cond.methodLink "WindowLetters$Pad" (31 : Nat) ({ cls := "java/lang/String", name := "indexOf", desc := "(I)I" } : Jvm.MethodName)) ∈ zT := zmem2 (i := 184) rfl rfl
theorem zm_425 : (Jvm.Cond.instanceMethod ({ cls := "java/lang/String", name := "indexOf", desc := "(I)I" } : Jvm.MethodName)) ∈ zT := zmem2 (i := 185) rfl rfl
theorem zm_426 : (Jvm.Cond.selects "java/lang/String" ({ cls := "java/lang/String", name := "indexOf", desc := "(I)I" } : Jvm.MethodName) ({ cls := "java/lang/String", name := "indexOf", desc := "(I)I" } : Jvm.MethodName)) ∈ zT := zmem2 (i := 186) rfl rfl
theorem zm_427 : (Jvm.Cond.code ({ cls := "java/lang/String", name := "indexOf", desc := "(I)I" } : Jvm.MethodName) prog_13_method_79_code (2 : Nat) (Option.some Jvm.ClassFile.FieldType.int)) ∈ zT := zmem2 (i := 187) rfl rfl
theorem zm_428 : (Jvm.Cond.methodLink "java/lang/String" (633 : Nat) ({ cls := "java/lang/String", name := "indexOf", desc := "(II)I" } : Jvm.MethodName)) ∈ zT := zmem2 (i := 188) rfl rfl
theorem zm_429 : (Jvm.Cond.instanceMethod ({ cls := "java/lang/String", name := "indexOf", desc := "(II)I" } : Jvm.MethodName)) ∈ zT := zmem2 (i := 189) rfl rfl
theorem zm_430 : (Jvm.Cond.selects "java/lang/String" ({ cls := "java/lang/String", name := "indexOf", desc := "(II)I" } : Jvm.MethodName) ({ cls := "java/lang/String", name := "indexOf", desc := "(II)I" } : Jvm.MethodName)) ∈ zT := zmem2 (i := 190) rfl rfl
theorem zm_431 : (Jvm.Cond.code ({ cls := "java/lang/String", name := "indexOf", desc := "(II)I" } : Jvm.MethodName) prog_13_method_80_code (3 : Nat) (Option.some Jvm.ClassFile.FieldType.int)) ∈ zT := zmem2 (i := 191) rfl rfl
theorem zm_432 : (Jvm.Cond.methodLink "java/lang/String" (492 : Nat) ({ cls := "java/lang/String", name := "isLatin1", desc := "()Z" } : Jvm.MethodName)) ∈ zT := zmem2 (i := 192) rfl rfl
theorem zm_433 : (Jvm.Cond.instanceMethod ({ cls := "java/lang/String", name := "isLatin1", desc := "()Z" } : Jvm.MethodName)) ∈ zT := zmem2 (i := 193) rfl rfl
theorem zm_434 : (Jvm.Cond.selects "java/lang/String" ({ cls := "java/lang/String", name := "isLatin1", desc := "()Z" } : Jvm.MethodName) ({ cls := "java/lang/String", name := "isLatin1", desc := "()Z" } : Jvm.MethodName)) ∈ zT := zmem2 (i := 194) rfl rfl
theorem zm_435 : (Jvm.Cond.code ({ cls := "java/lang/String", name := "isLatin1", desc := "()Z" } : Jvm.MethodName) prog_13_method_154_code (1 : Nat) (Option.some Jvm.ClassFile.FieldType.boolean)) ∈ zT := zmem2 (i := 195) rfl rfl
theorem zm_436 : (Jvm.Cond.fieldLink "java/lang/String" (38 : Nat) "java/lang/String" "COMPACT_STRINGS" "Z") ∈ zT := zmem2 (i := 196) rfl rfl
theorem zm_438 : (Jvm.Cond.methodLink "java/lang/String" (505 : Nat) ({ cls := "java/lang/String", name := "length", desc := "()I" } : Jvm.MethodName)) ∈ zT := zmem2 (i := 198) rfl rfl
theorem zm_439 : (Jvm.Cond.instanceMethod ({ cls := "java/lang/String", name := "length", desc := "()I" } : Jvm.MethodName)) ∈ zT := zmem2 (i := 199) rfl rfl
theorem zm_440 : (Jvm.Cond.selects "java/lang/String" ({ cls := "java/lang/String", name := "length", desc := "()I" } : Jvm.MethodName) ({ cls := "java/lang/String", name := "length", desc := "()I" } : Jvm.MethodName)) ∈ zT := zmem2 (i := 200) rfl rfl
theorem zm_441 : (Jvm.Cond.code ({ cls := "java/lang/String", name := "length", desc := "()I" } : Jvm.MethodName) prog_13_method_54_code (1 : Nat) (Option.some Jvm.ClassFile.FieldType.int)) ∈ zT := zmem2 (i := 201) rfl rfl
theorem zm_442 : (Jvm.Cond.methodLink "java/lang/String" (335 : Nat) ({ cls := "java/lang/String", name := "coder", desc := "()B" } : Jvm.MethodName)) ∈ zT := zmem2 (i := 202) rfl rfl
theorem zm_443 : (Jvm.Cond.instanceMethod ({ cls := "java/lang/String", name := "coder", desc := "()B" } : Jvm.MethodName)) ∈ zT := zmem2 (i := 203) rfl rfl
theorem zm_444 : (Jvm.Cond.selects "java/lang/String" ({ cls := "java/lang/String", name := "coder", desc := "()B" } : Jvm.MethodName) ({ cls := "java/lang/String", name := "coder", desc := "()B" } : Jvm.MethodName)) ∈ zT := zmem2 (i := 204) rfl rfl
theorem zm_445 : (Jvm.Cond.code ({ cls := "java/lang/String", name := "coder", desc := "()B" } : Jvm.MethodName) prog_13_method_152_code (1 : Nat) (Option.some Jvm.ClassFile.FieldType.byte)) ∈ zT := zmem2 (i := 205) rfl rfl
theorem zm_446 : (Jvm.Cond.methodLink "java/lang/String" (637 : Nat) ({ cls := "java/lang/StringLatin1", name := "indexOf", desc := "([BIII)I" } : Jvm.MethodName)) ∈ zT := zmem2 (i := 206) rfl rfl
theorem zm_447 : (Jvm.Cond.static ({ cls := "java/lang/StringLatin1", name := "indexOf", desc := "([BIII)I" } : Jvm.MethodName)) ∈ zT := zmem2 (i := 207) rfl rfl
theorem zm_448 : (Jvm.Cond.code ({ cls := "java/lang/StringLatin1", name := "indexOf", desc := "([BIII)I" } : Jvm.MethodName) prog_14_method_22_code (4 : Nat) (Option.some Jvm.ClassFile.FieldType.int)) ∈ zT := zmem2 (i := 208) rfl rfl
theorem zm_449 : (Jvm.Cond.methodLink "java/lang/StringLatin1" (88 : Nat) ({ cls := "java/lang/StringLatin1", name := "canEncode", desc := "(I)Z" } : Jvm.MethodName)) ∈ zT := zmem2 (i := 209) rfl rfl
theorem zm_450 : (Jvm.Cond.static ({ cls := "java/lang/StringLatin1", name := "canEncode", desc := "(I)Z" } : Jvm.MethodName)) ∈ zT := zmem2 (i := 210) rfl rfl
theorem zm_451 : (Jvm.Cond.code ({ cls := "java/lang/StringLatin1", name := "canEncode", desc := "(I)Z" } : Jvm.MethodName) prog_14_method_4_code (1 : Nat) (Option.some Jvm.ClassFile.FieldType.boolean)) ∈ zT := zmem2 (i := 211) rfl rfl
theorem zm_452 : (Jvm.Cond.methodLink "java/lang/StringLatin1" (92 : Nat) ({ cls := "java/lang/Math", name := "max", desc := "(II)I" } : Jvm.MethodName)) ∈ zT := zmem2 (i := 212) rfl rfl
theorem zm_453 : (Jvm.Cond.static ({ cls := "java/lang/Math", name := "max", desc := "(II)I" } : Jvm.MethodName)) ∈ zT := zmem2 (i := 213) rfl rfl
theorem zm_454 : (Jvm.Cond.code ({ cls := "java/lang/Math", name := "max", desc := "(II)I" } : Jvm.MethodName) prog_12_method_65_code (2 : Nat) (Option.some Jvm.ClassFile.FieldType.int)) ∈ zT := zmem2 (i := 214) rfl rfl
theorem zm_455 : (Jvm.Cond.methodLink "java/lang/StringLatin1" (38 : Nat) ({ cls := "java/lang/Math", name := "min", desc := "(II)I" } : Jvm.MethodName)) ∈ zT := zmem2 (i := 215) rfl rfl
theorem zm_456 : (Jvm.Cond.static ({ cls := "java/lang/Math", name := "min", desc := "(II)I" } : Jvm.MethodName)) ∈ zT := zmem2 (i := 216) rfl rfl
theorem zm_457 : (Jvm.Cond.code ({ cls := "java/lang/Math", name := "min", desc := "(II)I" } : Jvm.MethodName) prog_12_method_69_code (2 : Nat) (Option.some Jvm.ClassFile.FieldType.int)) ∈ zT := zmem2 (i := 217) rfl rfl
theorem zm_458 : (Jvm.Cond.methodLink "java/lang/StringLatin1" (95 : Nat) ({ cls := "java/lang/StringLatin1", name := "indexOfChar", desc := "([BIII)I" } : Jvm.MethodName)) ∈ zT := zmem2 (i := 218) rfl rfl
theorem zm_459 : (Jvm.Cond.static ({ cls := "java/lang/StringLatin1", name := "indexOfChar", desc := "([BIII)I" } : Jvm.MethodName)) ∈ zT := zmem2 (i := 219) rfl rfl
theorem zm_460 : (Jvm.Cond.code ({ cls := "java/lang/StringLatin1", name := "indexOfChar", desc := "([BIII)I" } : Jvm.MethodName) prog_14_method_23_code (6 : Nat) (Option.some Jvm.ClassFile.FieldType.int)) ∈ zT := zmem2 (i := 220) rfl rfl
theorem zm_461 : (Jvm.Cond.methodLink "java/lang/String" (640 : Nat) ({ cls := "java/lang/StringUTF16", name := "indexOf", desc := "([BIII)I" } : Jvm.MethodName)) ∈ zT := zmem2 (i := 221) rfl rfl
theorem zm_462 : (Jvm.Cond.static ({ cls := "java/lang/StringUTF16", name := "indexOf", desc := "([BIII)I" } : Jvm.MethodName)) ∈ zT := zmem2 (i := 222) rfl rfl
theorem zm_463 : (Jvm.Cond.code ({ cls := "java/lang/StringUTF16", name := "indexOf", desc := "([BIII)I" } : Jvm.MethodName) prog_15_method_40_code (4 : Nat) (Option.some Jvm.ClassFile.FieldType.int)) ∈ zT := zmem2 (i := 223) rfl rfl
theorem zm_464 : (Jvm.Cond.methodLink "java/lang/StringUTF16" (224 : Nat) ({ cls := "java/lang/Math", name := "max", desc := "(II)I" } : Jvm.MethodName)) ∈ zT := zmem2 (i := 224) rfl rfl
theorem zm_465 : (Jvm.Cond.methodLink "java/lang/StringUTF16" (183 : Nat) ({ cls := "java/lang/Math", name := "min", desc := "(II)I" } : Jvm.MethodName)) ∈ zT := zmem2 (i := 225) rfl rfl
theorem zm_466 : (Jvm.Cond.constant "java/lang/StringUTF16" (227 : Nat) (65536 : Int32)) ∈ zT := zmem2 (i := 226) rfl rfl
theorem zm_467 : (Jvm.Cond.methodLink "java/lang/StringUTF16" (228 : Nat) ({ cls := "java/lang/StringUTF16", name := "indexOfChar", desc := "([BIII)I" } : Jvm.MethodName)) ∈ zT := zmem2 (i := 227) rfl rfl
theorem zm_468 : (Jvm.Cond.static ({ cls := "java/lang/StringUTF16", name := "indexOfChar", desc := "([BIII)I" } : Jvm.MethodName)) ∈ zT := zmem2 (i := 228) rfl rfl
theorem zm_469 : (Jvm.Cond.code ({ cls := "java/lang/StringUTF16", name := "indexOfChar", desc := "([BIII)I" } : Jvm.MethodName) prog_15_method_47_code (4 : Nat) (Option.some Jvm.ClassFile.FieldType.int)) ∈ zT := zmem2 (i := 229) rfl rfl
theorem zm_470 : (Jvm.Cond.methodLink "java/lang/StringUTF16" (96 : Nat) ({ cls := "java/lang/StringUTF16", name := "checkBoundsBeginEnd", desc := "(II[B)V" } : Jvm.MethodName)) ∈ zT := zmem2 (i := 230) rfl rfl
theorem zm_471 : (Jvm.Cond.static ({ cls := "java/lang/StringUTF16", name := "checkBoundsBeginEnd", desc := "(II[B)V" } : Jvm.MethodName)) ∈ zT := zmem2 (i := 231) rfl rfl
theorem zm_472 : (Jvm.Cond.code ({ cls := "java/lang/StringUTF16", name := "checkBoundsBeginEnd", desc := "(II[B)V" } : Jvm.MethodName) prog_15_method_93_code (3 : Nat) (Option.none : Option Jvm.ClassFile.FieldType)) ∈ zT := zmem2 (i := 232) rfl rfl
theorem zm_473 : (Jvm.Cond.methodLink "java/lang/StringUTF16" (48 : Nat) ({ cls := "java/lang/StringUTF16", name := "length", desc := "([B)I" } : Jvm.MethodName)) ∈ zT := zmem2 (i := 233) rfl rfl
theorem zm_474 : (Jvm.Cond.static ({ cls := "java/lang/StringUTF16", name := "length", desc := "([B)I" } : Jvm.MethodName)) ∈ zT := zmem2 (i := 234) rfl rfl
theorem zm_475 : (Jvm.Cond.code ({ cls := "java/lang/StringUTF16", name := "length", desc := "([B)I" } : Jvm.MethodName) prog_15_method_6_code (1 : Nat) (Option.some Jvm.ClassFile.FieldType.int)) ∈ zT := zmem2 (i := 235) rfl rfl
theorem zm_476 : (Jvm.Cond.methodLink "java/lang/StringUTF16" (241 : Nat) ({ cls := "java/lang/String", name := "checkBoundsBeginEnd", desc := "(III)V" } : Jvm.MethodName)) ∈ zT := zmem2 (i := 236) rfl rfl
theorem zm_477 : (Jvm.Cond.static ({ cls := "java/lang/String", name := "checkBoundsBeginEnd", desc := "(III)V" } : Jvm.MethodName)) ∈ zT := zmem2 (i := 237) rfl rfl
theorem zm_478 : (Jvm.Cond.code ({ cls := "java/lang/String", name := "checkBoundsBeginEnd", desc := "(III)V" } : Jvm.MethodName) prog_13_method_158_code (3 : Nat) (Option.none : Option Jvm.ClassFile.FieldType)) ∈ zT := zmem2 (i := 238) rfl rfl
theorem zm_479 : (Jvm.Cond.fieldLink "java/lang/String" (1053 : Nat) "jdk/internal/util/Preconditions" "SIOOBE_FORMATTER" "Ljava/util/function/BiFunction;") ∈ zT := zmem2 (i := 239) rfl rfl
theorem zm_481 : (Jvm.Cond.methodLink "java/lang/String" (1062 : Nat) ({ cls := "jdk/internal/util/Preconditions", name := "checkFromToIndex", desc := "(IIILjava/util/function/BiFunction;)I" } : Jvm.MethodName)) ∈ zT := zmem3 (i := 1) rfl rfl
theorem zm_482 : (Jvm.Cond.static ({ cls := "jdk/internal/util/Preconditions", name := "checkFromToIndex", desc := "(IIILjava/util/function/BiFunction;)I" } : Jvm.MethodName)) ∈ zT := zmem3 (i := 2) rfl rfl
theorem zm_483 : (Jvm.Cond.code ({ cls := "jdk/internal/util/Preconditions", name := "checkFromToIndex", desc := "(IIILjava/util/function/BiFunction;)I" } : Jvm.MethodName) prog_16_method_12_code (4 : Nat) (Option.some Jvm.ClassFile.FieldType.int)) ∈ zT := zmem3 (i := 3) rfl rfl
theorem zm_484 : (Jvm.Cond.methodLink "java/lang/StringUTF16" (244 : Nat) ({ cls := "java/lang/StringUTF16", name := "indexOfCharUnsafe", desc := "([BIII)I" } : Jvm.MethodName)) ∈ zT := zmem3 (i := 4) rfl rfl
theorem zm_485 : (Jvm.Cond.static ({ cls := "java/lang/StringUTF16", name := "indexOfCharUnsafe", desc := "([BIII)I" } : Jvm.MethodName)) ∈ zT := zmem3 (i := 5) rfl rfl
theorem zm_486 : (Jvm.Cond.code ({ cls := "java/lang/StringUTF16", name := "indexOfCharUnsafe", desc := "([BIII)I" } : Jvm.MethodName) prog_15_method_48_code (5 : Nat) (Option.some Jvm.ClassFile.FieldType.int)) ∈ zT := zmem3 (i := 6) rfl rfl
theorem zm_487 : (Jvm.Cond.methodLink "java/lang/StringUTF16" (71 : Nat) ({ cls := "java/lang/StringUTF16", name := "getChar", desc := "([BI)C" } : Jvm.MethodName)) ∈ zT := zmem3 (i := 7) rfl rfl
theorem zm_488 : (Jvm.Cond.static ({ cls := "java/lang/StringUTF16", name := "getChar", desc := "([BI)C" } : Jvm.MethodName)) ∈ zT := zmem3 (i := 8) rfl rfl
theorem zm_489 : (Jvm.Cond.code ({ cls := "java/lang/StringUTF16", name := "getChar", desc := "([BI)C" } : Jvm.MethodName) prog_15_method_5_code (2 : Nat) (Option.some Jvm.ClassFile.FieldType.char)) ∈ zT := zmem3 (i := 9) rfl rfl
theorem zm_490 : (Jvm.Cond.fieldLink "java/lang/StringUTF16" (44 : Nat) "java/lang/StringUTF16" "$assertionsDisabled" "Z") ∈ zT := zmem3 (i := 10) rfl rfl
theorem zm_492 : (Jvm.Cond.fieldLink "java/lang/StringUTF16" (59 : Nat) "java/lang/StringUTF16" "HI_BYTE_SHIFT" "I") ∈ zT := zmem3 (i := 12) rfl rfl
theorem zm_494 : (Jvm.Cond.fieldLink "java/lang/StringUTF16" (63 : Nat) "java/lang/StringUTF16" "LO_BYTE_SHIFT" "I") ∈ zT := zmem3 (i := 14) rfl rfl
theorem zm_496 : (Jvm.Cond.methodLink "java/lang/StringUTF16" (232 : Nat) ({ cls := "java/lang/StringUTF16", name := "indexOfSupplementary", desc := "([BIII)I" } : Jvm.MethodName)) ∈ zT := zmem3 (i := 16) rfl rfl
theorem zm_497 : (Jvm.Cond.static ({ cls := "java/lang/StringUTF16", name := "indexOfSupplementary", desc := "([BIII)I" } : Jvm.MethodName)) ∈ zT := zmem3 (i := 17) rfl rfl
theorem zm_498 : (Jvm.Cond.code ({ cls := "java/lang/StringUTF16", name := "indexOfSupplementary", desc := "([BIII)I" } : Jvm.MethodName) prog_15_method_49_code (7 : Nat) (Option.some Jvm.ClassFile.FieldType.int)) ∈ zT := zmem3 (i := 18) rfl rfl
theorem zm_499 : (Jvm.Cond.methodLink "java/lang/StringUTF16" (164 : Nat) ({ cls := "java/lang/Character", name := "isValidCodePoint", desc := "(I)Z" } : Jvm.MethodName)) ∈ zT := zmem3 (i := 19) rfl rfl
theorem zm_500 : (Jvm.Cond.static ({ cls := "java/lang/Character", name := "isValidCodePoint", desc := "(I)Z" } : Jvm.MethodName)) ∈ zT := zmem3 (i := 20) rfl rfl
theorem zm_501 : (Jvm.Cond.code ({ cls := "java/lang/Character", name := "isValidCodePoint", desc := "(I)Z" } : Jvm.MethodName) prog_10_method_11_code (2 : Nat) (Option.some Jvm.ClassFile.FieldType.boolean)) ∈ zT := zmem3 (i := 21) rfl rfl
theorem zm_502 : (Jvm.Cond.methodLink "java/lang/StringUTF16" (157 : Nat) ({ cls := "java/lang/Character", name := "highSurrogate", desc := "(I)C" } : Jvm.MethodName)) ∈ zT := zmem3 (i := 22) rfl rfl
theorem zm_503 : (Jvm.Cond.static ({ cls := "java/lang/Character", name := "highSurrogate", desc := "(I)C" } : Jvm.MethodName)) ∈ zT := zmem3 (i := 23) rfl rfl
theorem zm_504 : (Jvm.Cond.code ({ cls := "java/lang/Character", name := "highSurrogate", desc := "(I)C" } : Jvm.MethodName) prog_10_method_28_code (1 : Nat) (Option.some Jvm.ClassFile.FieldType.char)) ∈ zT := zmem3 (i := 24) rfl rfl
theorem zm_505 : (Jvm.Cond.constant "java/lang/Character" (110 : Nat) (55232 : Int32)) ∈ zT := zmem3 (i := 25) rfl rfl
theorem zm_506 : (Jvm.Cond.methodLink "java/lang/StringUTF16" (161 : Nat) ({ cls := "java/lang/Character", name := "lowSurrogate", desc := "(I)C" } : Jvm.MethodName)) ∈ zT := zmem3 (i := 26) rfl rfl
theorem zm_507 : (Jvm.Cond.static ({ cls := "java/lang/Character", name := "lowSurrogate", desc := "(I)C" } : Jvm.MethodName)) ∈ zT := zmem3 (i := 27) rfl rfl
theorem zm_508 : (Jvm.Cond.code ({ cls := "java/lang/Character", name := "lowSurrogate", desc := "(I)C" } : Jvm.MethodName) prog_10_method_29_code (1 : Nat) (Option.some Jvm.ClassFile.FieldType.char)) ∈ zT := zmem3 (i := 28) rfl rfl
theorem zm_509 : (Jvm.Cond.constant "java/lang/Character" (76 : Nat) (56320 : Int32)) ∈ zT := zmem3 (i := 29) rfl rfl
theorem zm_510 : (Jvm.Cond.methodLink "WindowLetters" (99 : Nat) ({ cls := "WindowLetters$Shop", name := "writeName", desc := "(LWindowLetters$Pad;IIII)I" } : Jvm.MethodName)) ∈ zT := zmem3 (i := 30) rfl rfl
theorem zm_511 : (Jvm.Cond.instanceMethod ({ cls := "WindowLetters$Shop", name := "writeName", desc := "(LWindowLetters$Pad;IIII)I" } : Jvm.MethodName)) ∈ zT := zmem3 (i := 31) rfl rfl
theorem zm_512 : (Jvm.Cond.selects "WindowLetters$Shop" ({ cls := "WindowLetters$Shop", name := "writeName", desc := "(LWindowLetters$Pad;IIII)I" } : Jvm.MethodName) ({ cls := "WindowLetters$Shop", name := "writeName", desc := "(LWindowLetters$Pad;IIII)I" } : Jvm.MethodName)) ∈ zT := zmem3 (i := 32) rfl rfl
theorem zm_513 : (Jvm.Cond.code ({ cls := "WindowLetters$Shop", name := "writeName", desc := "(LWindowLetters$Pad;IIII)I" } : Jvm.MethodName) prog_7_method_9_code (10 : Nat) (Option.some Jvm.ClassFile.FieldType.int)) ∈ zT := zmem3 (i := 33) rfl rfl
theorem zm_514 : (Jvm.Cond.methodLink "WindowLetters$Shop" (103 : Nat) ({ cls := "WindowLetters$Pad", name := "letterAt", desc := "(I)I" } : Jvm.MethodName)) ∈ zT := zmem3 (i := 34) rfl rfl
theorem zm_515 : (Jvm.Cond.methodLink "WindowLetters$Shop" (106 : Nat) ({ cls := "WindowLetters$Shop", name := "lowestLoose", desc := "(III)I" } : Jvm.MethodName)) ∈ zT := zmem3 (i := 35) rfl rfl
theorem zm_517 : (Jvm.Cond.instanceMethod ({ cls := "WindowLetters$Shop", name := "lowestLoose", desc := "(III)I" } : Jvm.MethodName)) ∈ zT := zmem3 (i := 37) rfl rfl
theorem zm_518 : (Jvm.Cond.code ({ cls := "WindowLetters$Shop", name := "lowestLoose", desc := "(III)I" } : Jvm.MethodName) prog_7_method_10_code (6 : Nat) (Option.some Jvm.ClassFile.FieldType.int)) ∈ zT := zmem3 (i := 38) rfl rfl
theorem zm_519 : (Jvm.Cond.methodLinkNest "WindowLetters$Shop" (123 : Nat) ({ cls := "WindowLetters", name := "mirroringOf", desc := "(I)I" } : Jvm.MethodName) "WindowLetters") ∈ zN := zmemN3 (i := 39) rfl rfl
theorem zm_520 : (Jvm.Cond.methodLink "WindowLetters$Shop" (110 : Nat) ({ cls := "WindowLetters$Shop", name := "makePiece", desc := "(III)I" } : Jvm.MethodName)) ∈ zT := zmem3 (i := 40) rfl rfl
theorem zm_521 : (Jvm.Cond.methodLink "WindowLetters$Shop" (113 : Nat) ({ cls := "WindowLetters$Shop", name := "putIntoPane", desc := "(III)I" } : Jvm.MethodName)) ∈ zT := zmem3 (i := 41) rfl rfl
theorem zm_522 : (Jvm.Cond.instanceMethod ({ cls := "WindowLetters$Shop", name := "putIntoPane", desc := "(III)I" } : Jvm.MethodName)) ∈ zT := zmem3 (i := 42) rfl rfl
theorem zm_523 : (Jvm.Cond.selects "WindowLetters$Shop" ({ cls := "WindowLetters$Shop", name := "putIntoPane", desc := "(III)I" } : Jvm.MethodName) ({ cls := "WindowLetters$Shop", name := "putIntoPane", desc := "(III)I" } : Jvm.MethodName)) ∈ zT := zmem3 (i := 43) rfl rfl
theorem zm_524 : (Jvm.Cond.code ({ cls := "WindowLetters$Shop", name := "putIntoPane", desc := "(III)I" } : Jvm.MethodName) prog_7_method_11_code (6 : Nat) (Option.some Jvm.ClassFile.FieldType.int)) ∈ zT := zmem3 (i := 44) rfl rfl
theorem zm_525 : (Jvm.Cond.methodLinkNest "WindowLetters$Shop" (126 : Nat) ({ cls := "WindowLetters", name := "isPane", desc := "(I)Z" } : Jvm.MethodName) "WindowLetters") ∈ zN := zmemN3 (i := 45) rfl rfl
theorem zm_526 : (Jvm.Cond.methodLinkNest "WindowLetters$Shop" (130 : Nat) ({ cls := "WindowLetters", name := "isPlace", desc := "(I)Z" } : Jvm.MethodName) "WindowLetters") ∈ zN := zmemN3 (i := 46) rfl rfl
theorem zm_527 : (Jvm.Cond.methodLink "WindowLetters$Shop" (136 : Nat) ({ cls := "WindowLetters$Shop", name := "piecesIn", desc := "(I)I" } : Jvm.MethodName)) ∈ zT := zmem3 (i := 47) rfl rfl
theorem zm_529 : (Jvm.Cond.instanceMethod ({ cls := "WindowLetters$Shop", name := "piecesIn", desc := "(I)I" } : Jvm.MethodName)) ∈ zT := zmem3 (i := 49) rfl rfl
theorem zm_530 : (Jvm.Cond.code ({ cls := "WindowLetters$Shop", name := "piecesIn", desc := "(I)I" } : Jvm.MethodName) prog_7_method_15_code (5 : Nat) (Option.some Jvm.ClassFile.FieldType.int)) ∈ zT := zmem3 (i := 50) rfl rfl
theorem zm_531 : (Jvm.Cond.methodLink "WindowLetters" (103 : Nat) ({ cls := "WindowLetters$Pad", name := "empty", desc := "()V" } : Jvm.MethodName)) ∈ zT := zmem3 (i := 51) rfl rfl
theorem zm_532 : (Jvm.Cond.instanceMethod ({ cls := "WindowLetters$Pad", name := "empty", desc := "()V" } : Jvm.MethodName)) ∈ zT := zmem3 (i := 52) rfl rfl
theorem zm_533 : (Jvm.Cond.selects "WindowLetters$Pad" ({ cls := "WindowLetters$Pad", name := "empty", desc := "()V" } : Jvm.MethodName) ({ cls := "WindowLetters$Pad", name := "empty", desc := "()V" } : Jvm.MethodName)) ∈ zT := zmem3 (i := 53) rfl rfl
theorem zm_534 : (Jvm.Cond.code ({ cls := "WindowLetters$Pad", name := "empty", desc := "()V" } : Jvm.MethodName) prog_3_method_2_code (1 : Nat) (Option.none : Option Jvm.ClassFile.FieldType)) ∈ zT := zmem3 (i := 54) rfl rfl
theorem zm_535 : (Jvm.Cond.methodLink "WindowLettersLaw" (47 : Nat) ({ cls := "WindowLetters", name := "wipe", desc := "()I" } : Jvm.MethodName)) ∈ zT := zmem3 (i := 55) rfl rfl
theorem zm_536 : (Jvm.Cond.instanceMethod ({ cls := "WindowLetters", name := "wipe", desc := "()I" } : Jvm.MethodName)) ∈ zT := zmem3 (i := 56) rfl rfl
theorem zm_537 : (Jvm.Cond.selects "WindowLetters" ({ cls := "WindowLetters", name := "wipe", desc := "()I" } : Jvm.MethodName) ({ cls := "WindowLetters", name := "wipe", desc := "()I" } : Jvm.MethodName)) ∈ zT := zmem3 (i := 57) rfl rfl
theorem zm_538 : (Jvm.Cond.code ({ cls := "WindowLetters", name := "wipe", desc := "()I" } : Jvm.MethodName) prog_1_method_21_code (2 : Nat) (Option.some Jvm.ClassFile.FieldType.int)) ∈ zT := zmem3 (i := 58) rfl rfl
theorem zm_539 : (Jvm.Cond.methodLink "WindowLettersLaw" (51 : Nat) ({ cls := "WindowLetters", name := "place", desc := "(III)I" } : Jvm.MethodName)) ∈ zT := zmem3 (i := 59) rfl rfl
theorem zm_540 : (Jvm.Cond.instanceMethod ({ cls := "WindowLetters", name := "place", desc := "(III)I" } : Jvm.MethodName)) ∈ zT := zmem3 (i := 60) rfl rfl
theorem zm_541 : (Jvm.Cond.selects "WindowLetters" ({ cls := "WindowLetters", name := "place", desc := "(III)I" } : Jvm.MethodName) ({ cls := "WindowLetters", name := "place", desc := "(III)I" } : Jvm.MethodName)) ∈ zT := zmem3 (i := 61) rfl rfl
theorem zm_542 : (Jvm.Cond.code ({ cls := "WindowLetters", name := "place", desc := "(III)I" } : Jvm.MethodName) prog_1_method_6_code (4 : Nat) (Option.some Jvm.ClassFile.FieldType.int)) ∈ zT := zmem3 (i := 62) rfl rfl
theorem zm_543 : (Jvm.Cond.methodLink "WindowLetters" (106 : Nat) ({ cls := "WindowLetters$Shop", name := "pieceAt", desc := "(I)LWindowLetters$Piece;" } : Jvm.MethodName)) ∈ zT := zmem3 (i := 63) rfl rfl
theorem zm_544 : (Jvm.Cond.methodLink "WindowLetters" (110 : Nat) ({ cls := "WindowLetters$Shop", name := "putIntoPane", desc := "(III)I" } : Jvm.MethodName)) ∈ zT := zmem3 (i := 64) rfl rfl
theorem zm_545 : (Jvm.Cond.methodLink "WindowLettersLaw" (54 : Nat) ({ cls := "WindowLetters", name := "clear", desc := "(I)I" } : Jvm.MethodName)) ∈ zT := zmem3 (i := 65) rfl rfl
theorem zm_546 : (Jvm.Cond.instanceMethod ({ cls := "WindowLetters", name := "clear", desc := "(I)I" } : Jvm.MethodName)) ∈ zT := zmem3 (i := 66) rfl rfl
theorem zm_547 : (Jvm.Cond.selects "WindowLetters" ({ cls := "WindowLetters", name := "clear", desc := "(I)I" } : Jvm.MethodName) ({ cls := "WindowLetters", name := "clear", desc := "(I)I" } : Jvm.MethodName)) ∈ zT := zmem3 (i := 67) rfl rfl
theorem zm_548 : (Jvm.Cond.code ({ cls := "WindowLetters", name := "clear", desc := "(I)I" } : Jvm.MethodName) prog_1_method_7_code (2 : Nat) (Option.some Jvm.ClassFile.FieldType.int)) ∈ zT := zmem3 (i := 68) rfl rfl
theorem zm_549 : (Jvm.Cond.methodLink "WindowLetters" (113 : Nat) ({ cls := "WindowLetters$Shop", name := "clearPane", desc := "(I)I" } : Jvm.MethodName)) ∈ zT := zmem3 (i := 69) rfl rfl
theorem zm_550 : (Jvm.Cond.instanceMethod ({ cls := "WindowLetters$Shop", name := "clearPane", desc := "(I)I" } : Jvm.MethodName)) ∈ zT := zmem3 (i := 70) rfl rfl
theorem zm_551 : (Jvm.Cond.selects "WindowLetters$Shop" ({ cls := "WindowLetters$Shop", name := "clearPane", desc := "(I)I" } : Jvm.MethodName) ({ cls := "WindowLetters$Shop", name := "clearPane", desc := "(I)I" } : Jvm.MethodName)) ∈ zT := zmem3 (i := 71) rfl rfl
theorem zm_552 : (Jvm.Cond.code ({ cls := "WindowLetters$Shop", name := "clearPane", desc := "(I)I" } : Jvm.MethodName) prog_7_method_12_code (5 : Nat) (Option.some Jvm.ClassFile.FieldType.int)) ∈ zT := zmem3 (i := 72) rfl rfl
theorem zm_553 : (Jvm.Cond.methodLink "WindowLettersLaw" (57 : Nat) ({ cls := "WindowLetters", name := "throwAway", desc := "(I)I" } : Jvm.MethodName)) ∈ zT := zmem3 (i := 73) rfl rfl
theorem zm_554 : (Jvm.Cond.instanceMethod ({ cls := "WindowLetters", name := "throwAway", desc := "(I)I" } : Jvm.MethodName)) ∈ zT := zmem3 (i := 74) rfl rfl
theorem zm_555 : (Jvm.Cond.selects "WindowLetters" ({ cls := "WindowLetters", name := "throwAway", desc := "(I)I" } : Jvm.MethodName) ({ cls := "WindowLetters", name := "throwAway", desc := "(I)I" } : Jvm.MethodName)) ∈ zT := zmem3 (i := 75) rfl rfl
theorem zm_556 : (Jvm.Cond.code ({ cls := "WindowLetters", name := "throwAway", desc := "(I)I" } : Jvm.MethodName) prog_1_method_8_code (2 : Nat) (Option.some Jvm.ClassFile.FieldType.int)) ∈ zT := zmem3 (i := 76) rfl rfl
theorem zm_557 : (Jvm.Cond.methodLink "WindowLetters" (116 : Nat) ({ cls := "WindowLetters$Shop", name := "wastePiece", desc := "(I)I" } : Jvm.MethodName)) ∈ zT := zmem3 (i := 77) rfl rfl
theorem zm_558 : (Jvm.Cond.instanceMethod ({ cls := "WindowLetters$Shop", name := "wastePiece", desc := "(I)I" } : Jvm.MethodName)) ∈ zT := zmem3 (i := 78) rfl rfl
theorem zm_559 : (Jvm.Cond.selects "WindowLetters$Shop" ({ cls := "WindowLetters$Shop", name := "wastePiece", desc := "(I)I" } : Jvm.MethodName) ({ cls := "WindowLetters$Shop", name := "wastePiece", desc := "(I)I" } : Jvm.MethodName)) ∈ zT := zmem3 (i := 79) rfl rfl
theorem zm_560 : (Jvm.Cond.code ({ cls := "WindowLetters$Shop", name := "wastePiece", desc := "(I)I" } : Jvm.MethodName) prog_7_method_13_code (3 : Nat) (Option.some Jvm.ClassFile.FieldType.int)) ∈ zT := zmem3 (i := 80) rfl rfl
theorem zm_561 : (Jvm.Cond.methodLink "WindowLettersLaw" (60 : Nat) ({ cls := "WindowLetters", name := "scrap", desc := "(I)I" } : Jvm.MethodName)) ∈ zT := zmem3 (i := 81) rfl rfl
theorem zm_562 : (Jvm.Cond.instanceMethod ({ cls := "WindowLetters", name := "scrap", desc := "(I)I" } : Jvm.MethodName)) ∈ zT := zmem3 (i := 82) rfl rfl
theorem zm_563 : (Jvm.Cond.selects "WindowLetters" ({ cls := "WindowLetters", name := "scrap", desc := "(I)I" } : Jvm.MethodName) ({ cls := "WindowLetters", name := "scrap", desc := "(I)I" } : Jvm.MethodName)) ∈ zT := zmem3 (i := 83) rfl rfl
theorem zm_564 : (Jvm.Cond.code ({ cls := "WindowLetters", name := "scrap", desc := "(I)I" } : Jvm.MethodName) prog_1_method_9_code (2 : Nat) (Option.some Jvm.ClassFile.FieldType.int)) ∈ zT := zmem3 (i := 84) rfl rfl
theorem zm_565 : (Jvm.Cond.methodLink "WindowLetters" (119 : Nat) ({ cls := "WindowLetters$Shop", name := "scrapSheet", desc := "(I)I" } : Jvm.MethodName)) ∈ zT := zmem3 (i := 85) rfl rfl
theorem zm_566 : (Jvm.Cond.instanceMethod ({ cls := "WindowLetters$Shop", name := "scrapSheet", desc := "(I)I" } : Jvm.MethodName)) ∈ zT := zmem3 (i := 86) rfl rfl
theorem zm_567 : (Jvm.Cond.selects "WindowLetters$Shop" ({ cls := "WindowLetters$Shop", name := "scrapSheet", desc := "(I)I" } : Jvm.MethodName) ({ cls := "WindowLetters$Shop", name := "scrapSheet", desc := "(I)I" } : Jvm.MethodName)) ∈ zT := zmem3 (i := 87) rfl rfl
theorem zm_568 : (Jvm.Cond.code ({ cls := "WindowLetters$Shop", name := "scrapSheet", desc := "(I)I" } : Jvm.MethodName) prog_7_method_14_code (3 : Nat) (Option.some Jvm.ClassFile.FieldType.int)) ∈ zT := zmem3 (i := 88) rfl rfl
theorem zm_569 : (Jvm.Cond.arrayClass Jvm.ClassFile.FieldType.byte) ∈ zT := zmem3 (i := 89) rfl rfl
theorem zm_570 : (Jvm.Cond.methodLink "WindowLettersLaw" (112 : Nat) ({ cls := "WindowLettersLaw", name := "holds", desc := "(LWindowLetters;I)Z" } : Jvm.MethodName)) ∈ zT := zmem3 (i := 90) rfl rfl
theorem zm_571 : (Jvm.Cond.static ({ cls := "WindowLettersLaw", name := "holds", desc := "(LWindowLetters;I)Z" } : Jvm.MethodName)) ∈ zT := zmem3 (i := 91) rfl rfl
theorem zm_572 : (Jvm.Cond.code ({ cls := "WindowLettersLaw", name := "holds", desc := "(LWindowLetters;I)Z" } : Jvm.MethodName) method_11_code (9 : Nat) (Option.some Jvm.ClassFile.FieldType.boolean)) ∈ zT := zmem3 (i := 92) rfl rfl
theorem zm_573 : (Jvm.Cond.methodLink "WindowLettersLaw" (72 : Nat) ({ cls := "WindowLetters", name := "of", desc := "(II)I" } : Jvm.MethodName)) ∈ zT := zmem3 (i := 93) rfl rfl
theorem zm_574 : (Jvm.Cond.instanceMethod ({ cls := "WindowLetters", name := "of", desc := "(II)I" } : Jvm.MethodName)) ∈ zT := zmem3 (i := 94) rfl rfl
theorem zm_575 : (Jvm.Cond.selects "WindowLetters" ({ cls := "WindowLetters", name := "of", desc := "(II)I" } : Jvm.MethodName) ({ cls := "WindowLetters", name := "of", desc := "(II)I" } : Jvm.MethodName)) ∈ zT := zmem3 (i := 95) rfl rfl
theorem zm_576 : (Jvm.Cond.code ({ cls := "WindowLetters", name := "of", desc := "(II)I" } : Jvm.MethodName) prog_1_method_10_code (4 : Nat) (Option.some Jvm.ClassFile.FieldType.int)) ∈ zT := zmem3 (i := 96) rfl rfl
theorem zm_577 : (Jvm.Cond.methodLink "WindowLetters" (134 : Nat) ({ cls := "WindowLetters", name := "mirroringOf", desc := "(I)I" } : Jvm.MethodName)) ∈ zT := zmem3 (i := 97) rfl rfl
theorem zm_578 : (Jvm.Cond.methodLink "WindowLettersLaw" (63 : Nat) ({ cls := "WindowLetters", name := "ofSheet", desc := "(II)I" } : Jvm.MethodName)) ∈ zT := zmem3 (i := 98) rfl rfl
theorem zm_579 : (Jvm.Cond.instanceMethod ({ cls := "WindowLetters", name := "ofSheet", desc := "(II)I" } : Jvm.MethodName)) ∈ zT := zmem3 (i := 99) rfl rfl
theorem zm_580 : (Jvm.Cond.selects "WindowLetters" ({ cls := "WindowLetters", name := "ofSheet", desc := "(II)I" } : Jvm.MethodName) ({ cls := "WindowLetters", name := "ofSheet", desc := "(II)I" } : Jvm.MethodName)) ∈ zT := zmem3 (i := 100) rfl rfl
theorem zm_581 : (Jvm.Cond.code ({ cls := "WindowLetters", name := "ofSheet", desc := "(II)I" } : Jvm.MethodName) prog_1_method_11_code (4 : Nat) (Option.some Jvm.ClassFile.FieldType.int)) ∈ zT := zmem3 (i := 101) rfl rfl
theorem zm_582 : (Jvm.Cond.methodLink "WindowLetters" (150 : Nat) ({ cls := "WindowLetters$Sheet", name := "squaresLeft", desc := "()I" } : Jvm.MethodName)) ∈ zT := zmem3 (i := 102) rfl rfl
theorem zm_583 : (Jvm.Cond.methodLink "WindowLetters" (153 : Nat) ({ cls := "WindowLetters$Shop", name := "piecesFrom", desc := "(I)I" } : Jvm.MethodName)) ∈ zT := zmem3 (i := 103) rfl rfl
theorem zm_584 : (Jvm.Cond.instanceMethod ({ cls := "WindowLetters$Shop", name := "piecesFrom", desc := "(I)I" } : Jvm.MethodName)) ∈ zT := zmem3 (i := 104) rfl rfl
theorem zm_585 : (Jvm.Cond.selects "WindowLetters$Shop" ({ cls := "WindowLetters$Shop", name := "piecesFrom", desc := "(I)I" } : Jvm.MethodName) ({ cls := "WindowLetters$Shop", name := "piecesFrom", desc := "(I)I" } : Jvm.MethodName)) ∈ zT := zmem3 (i := 105) rfl rfl
theorem zm_586 : (Jvm.Cond.code ({ cls := "WindowLetters$Shop", name := "piecesFrom", desc := "(I)I" } : Jvm.MethodName) prog_7_method_16_code (5 : Nat) (Option.some Jvm.ClassFile.FieldType.int)) ∈ zT := zmem3 (i := 106) rfl rfl
theorem zm_587 : (Jvm.Cond.methodLink "WindowLetters" (160 : Nat) ({ cls := "WindowLetters$Sheet", name := "lettersThatFit", desc := "()I" } : Jvm.MethodName)) ∈ zT := zmem3 (i := 107) rfl rfl
theorem zm_588 : (Jvm.Cond.instanceMethod ({ cls := "WindowLetters$Sheet", name := "lettersThatFit", desc := "()I" } : Jvm.MethodName)) ∈ zT := zmem3 (i := 108) rfl rfl
theorem zm_589 : (Jvm.Cond.selects "WindowLetters$Sheet" ({ cls := "WindowLetters$Sheet", name := "lettersThatFit", desc := "()I" } : Jvm.MethodName) ({ cls := "WindowLetters$Sheet", name := "lettersThatFit", desc := "()I" } : Jvm.MethodName)) ∈ zT := zmem3 (i := 109) rfl rfl
theorem zm_590 : (Jvm.Cond.code ({ cls := "WindowLetters$Sheet", name := "lettersThatFit", desc := "()I" } : Jvm.MethodName) prog_6_method_10_code (3 : Nat) (Option.some Jvm.ClassFile.FieldType.int)) ∈ zT := zmem3 (i := 110) rfl rfl
theorem zm_591 : (Jvm.Cond.methodLink "WindowLetters$Sheet" (50 : Nat) ({ cls := "WindowLetters$Sheet", name := "firstFit", desc := "(II)I" } : Jvm.MethodName)) ∈ zT := zmem3 (i := 111) rfl rfl
theorem zm_592 : (Jvm.Cond.methodLink "WindowLettersLaw" (91 : Nat) ({ cls := "WindowLettersLaw", name := "isPiece", desc := "(LWindowLetters;I[I)Z" } : Jvm.MethodName)) ∈ zT := zmem3 (i := 112) rfl rfl
theorem zm_593 : (Jvm.Cond.static ({ cls := "WindowLettersLaw", name := "isPiece", desc := "(LWindowLetters;I[I)Z" } : Jvm.MethodName)) ∈ zT := zmem3 (i := 113) rfl rfl
theorem zm_594 : (Jvm.Cond.code ({ cls := "WindowLettersLaw", name := "isPiece", desc := "(LWindowLetters;I[I)Z" } : Jvm.MethodName) method_8_code (12 : Nat) (Option.some Jvm.ClassFile.FieldType.boolean)) ∈ zT := zmem3 (i := 114) rfl rfl
theorem zm_595 : (Jvm.Cond.methodLink "WindowLettersLaw" (75 : Nat) ({ cls := "WindowLetters", name := "pane", desc := "(II)I" } : Jvm.MethodName)) ∈ zT := zmem3 (i := 115) rfl rfl
theorem zm_596 : (Jvm.Cond.instanceMethod ({ cls := "WindowLetters", name := "pane", desc := "(II)I" } : Jvm.MethodName)) ∈ zT := zmem3 (i := 116) rfl rfl
theorem zm_597 : (Jvm.Cond.selects "WindowLetters" ({ cls := "WindowLetters", name := "pane", desc := "(II)I" } : Jvm.MethodName) ({ cls := "WindowLetters", name := "pane", desc := "(II)I" } : Jvm.MethodName)) ∈ zT := zmem3 (i := 117) rfl rfl
theorem zm_598 : (Jvm.Cond.code ({ cls := "WindowLetters", name := "pane", desc := "(II)I" } : Jvm.MethodName) prog_1_method_13_code (3 : Nat) (Option.some Jvm.ClassFile.FieldType.int)) ∈ zT := zmem3 (i := 118) rfl rfl
theorem zm_599 : (Jvm.Cond.methodLink "WindowLettersLaw" (69 : Nat) ({ cls := "WindowLetters", name := "shape", desc := "(III)I" } : Jvm.MethodName)) ∈ zT := zmem3 (i := 119) rfl rfl
theorem zm_600 : (Jvm.Cond.instanceMethod ({ cls := "WindowLetters", name := "shape", desc := "(III)I" } : Jvm.MethodName)) ∈ zT := zmem3 (i := 120) rfl rfl
theorem zm_601 : (Jvm.Cond.selects "WindowLetters" ({ cls := "WindowLetters", name := "shape", desc := "(III)I" } : Jvm.MethodName) ({ cls := "WindowLetters", name := "shape", desc := "(III)I" } : Jvm.MethodName)) ∈ zT := zmem3 (i := 121) rfl rfl
theorem zm_602 : (Jvm.Cond.code ({ cls := "WindowLetters", name := "shape", desc := "(III)I" } : Jvm.MethodName) prog_1_method_14_code (4 : Nat) (Option.some Jvm.ClassFile.FieldType.int)) ∈ zT := zmem3 (i := 122) rfl rfl
theorem zm_603 : (Jvm.Cond.methodLink "WindowLetters" (170 : Nat) ({ cls := "WindowLetters$Shapes", name := "columnsOf", desc := "(III)I" } : Jvm.MethodName)) ∈ zT := zmem3 (i := 123) rfl rfl
theorem zm_604 : (Jvm.Cond.methodLink "WindowLettersLaw" (66 : Nat) ({ cls := "WindowLetters", name := "row", desc := "(II)I" } : Jvm.MethodName)) ∈ zT := zmem3 (i := 124) rfl rfl
theorem zm_605 : (Jvm.Cond.instanceMethod ({ cls := "WindowLetters", name := "row", desc := "(II)I" } : Jvm.MethodName)) ∈ zT := zmem3 (i := 125) rfl rfl
theorem zm_606 : (Jvm.Cond.selects "WindowLetters" ({ cls := "WindowLetters", name := "row", desc := "(II)I" } : Jvm.MethodName) ({ cls := "WindowLetters", name := "row", desc := "(II)I" } : Jvm.MethodName)) ∈ zT := zmem3 (i := 126) rfl rfl
theorem zm_607 : (Jvm.Cond.code ({ cls := "WindowLetters", name := "row", desc := "(II)I" } : Jvm.MethodName) prog_1_method_12_code (4 : Nat) (Option.some Jvm.ClassFile.FieldType.int)) ∈ zT := zmem3 (i := 127) rfl rfl
theorem zm_608 : (Jvm.Cond.methodLink "WindowLettersLaw" (95 : Nat) ({ cls := "WindowLettersLaw", name := "squares", desc := "(I)I" } : Jvm.MethodName)) ∈ zT := zmem3 (i := 128) rfl rfl
theorem zm_609 : (Jvm.Cond.static ({ cls := "WindowLettersLaw", name := "squares", desc := "(I)I" } : Jvm.MethodName)) ∈ zT := zmem3 (i := 129) rfl rfl
theorem zm_610 : (Jvm.Cond.code ({ cls := "WindowLettersLaw", name := "squares", desc := "(I)I" } : Jvm.MethodName) method_4_code (1 : Nat) (Option.some Jvm.ClassFile.FieldType.int)) ∈ zT := zmem3 (i := 130) rfl rfl
theorem zm_611 : (Jvm.Cond.methodLink "WindowLettersLaw" (98 : Nat) ({ cls := "WindowLettersLaw", name := "isSheet", desc := "(LWindowLetters;I[I)Z" } : Jvm.MethodName)) ∈ zT := zmem3 (i := 131) rfl rfl
theorem zm_612 : (Jvm.Cond.static ({ cls := "WindowLettersLaw", name := "isSheet", desc := "(LWindowLetters;I[I)Z" } : Jvm.MethodName)) ∈ zT := zmem3 (i := 132) rfl rfl
theorem zm_613 : (Jvm.Cond.code ({ cls := "WindowLettersLaw", name := "isSheet", desc := "(LWindowLetters;I[I)Z" } : Jvm.MethodName) method_9_code (8 : Nat) (Option.some Jvm.ClassFile.FieldType.boolean)) ∈ zT := zmem3 (i := 133) rfl rfl
theorem zm_614 : (Jvm.Cond.methodLink "WindowLettersLaw" (78 : Nat) ({ cls := "WindowLetters", name := "fits", desc := "(II)I" } : Jvm.MethodName)) ∈ zT := zmem3 (i := 134) rfl rfl
theorem zm_615 : (Jvm.Cond.instanceMethod ({ cls := "WindowLetters", name := "fits", desc := "(II)I" } : Jvm.MethodName)) ∈ zT := zmem3 (i := 135) rfl rfl
theorem zm_616 : (Jvm.Cond.selects "WindowLetters" ({ cls := "WindowLetters", name := "fits", desc := "(II)I" } : Jvm.MethodName) ({ cls := "WindowLetters", name := "fits", desc := "(II)I" } : Jvm.MethodName)) ∈ zT := zmem3 (i := 136) rfl rfl
theorem zm_617 : (Jvm.Cond.code ({ cls := "WindowLetters", name := "fits", desc := "(II)I" } : Jvm.MethodName) prog_1_method_18_code (4 : Nat) (Option.some Jvm.ClassFile.FieldType.int)) ∈ zT := zmem3 (i := 137) rfl rfl
theorem zm_618 : (Jvm.Cond.methodLink "WindowLetters" (213 : Nat) ({ cls := "WindowLetters$Sheet", name := "allFits", desc := "(I)I" } : Jvm.MethodName)) ∈ zT := zmem3 (i := 138) rfl rfl
theorem zm_619 : (Jvm.Cond.instanceMethod ({ cls := "WindowLetters$Sheet", name := "allFits", desc := "(I)I" } : Jvm.MethodName)) ∈ zT := zmem3 (i := 139) rfl rfl
theorem zm_620 : (Jvm.Cond.selects "WindowLetters$Sheet" ({ cls := "WindowLetters$Sheet", name := "allFits", desc := "(I)I" } : Jvm.MethodName) ({ cls := "WindowLetters$Sheet", name := "allFits", desc := "(I)I" } : Jvm.MethodName)) ∈ zT := zmem3 (i := 140) rfl rfl
theorem zm_621 : (Jvm.Cond.code ({ cls := "WindowLetters$Sheet", name := "allFits", desc := "(I)I" } : Jvm.MethodName) prog_6_method_9_code (5 : Nat) (Option.some Jvm.ClassFile.FieldType.int)) ∈ zT := zmem3 (i := 141) rfl rfl
theorem zm_622 : (Jvm.Cond.methodLink "WindowLettersLaw" (101 : Nat) ({ cls := "WindowLettersLaw", name := "isFit", desc := "(LWindowLetters;III)Z" } : Jvm.MethodName)) ∈ zT := zmem3 (i := 142) rfl rfl
theorem zm_623 : (Jvm.Cond.static ({ cls := "WindowLettersLaw", name := "isFit", desc := "(LWindowLetters;III)Z" } : Jvm.MethodName)) ∈ zT := zmem3 (i := 143) rfl rfl
theorem zm_624 : (Jvm.Cond.code ({ cls := "WindowLettersLaw", name := "isFit", desc := "(LWindowLetters;III)Z" } : Jvm.MethodName) method_10_code (8 : Nat) (Option.some Jvm.ClassFile.FieldType.boolean)) ∈ zT := zmem3 (i := 144) rfl rfl
theorem zm_625 : (Jvm.Cond.methodLink "WindowLettersLaw" (81 : Nat) ({ cls := "WindowLetters", name := "fit", desc := "(IIII)I" } : Jvm.MethodName)) ∈ zT := zmem3 (i := 145) rfl rfl
theorem zm_626 : (Jvm.Cond.instanceMethod ({ cls := "WindowLetters", name := "fit", desc := "(IIII)I" } : Jvm.MethodName)) ∈ zT := zmem3 (i := 146) rfl rfl
theorem zm_627 : (Jvm.Cond.selects "WindowLetters" ({ cls := "WindowLetters", name := "fit", desc := "(IIII)I" } : Jvm.MethodName) ({ cls := "WindowLetters", name := "fit", desc := "(IIII)I" } : Jvm.MethodName)) ∈ zT := zmem3 (i := 147) rfl rfl
theorem zm_628 : (Jvm.Cond.code ({ cls := "WindowLetters", name := "fit", desc := "(IIII)I" } : Jvm.MethodName) prog_1_method_16_code (7 : Nat) (Option.some Jvm.ClassFile.FieldType.int)) ∈ zT := zmem3 (i := 148) rfl rfl
theorem zm_629 : (Jvm.Cond.methodLink "WindowLetters" (193 : Nat) ({ cls := "WindowLetters$Sheet", name := "firstFit", desc := "(II)I" } : Jvm.MethodName)) ∈ zT := zmem3 (i := 149) rfl rfl
theorem zm_630 : (Jvm.Cond.methodLink "WindowLetters" (197 : Nat) ({ cls := "WindowLetters", name := "wayIn", desc := "(I)I" } : Jvm.MethodName)) ∈ zT := zmem3 (i := 150) rfl rfl
theorem zm_631 : (Jvm.Cond.methodLink "WindowLetters" (200 : Nat) ({ cls := "WindowLetters", name := "rowIn", desc := "(I)I" } : Jvm.MethodName)) ∈ zT := zmem3 (i := 151) rfl rfl
theorem zm_632 : (Jvm.Cond.methodLink "WindowLetters" (203 : Nat) ({ cls := "WindowLetters", name := "columnIn", desc := "(I)I" } : Jvm.MethodName)) ∈ zT := zmem3 (i := 152) rfl rfl
theorem zm_633 : (Jvm.Cond.methodLink "WindowLettersLaw" (84 : Nat) ({ cls := "WindowLettersLaw", name := "can", desc := "(LWindowLetters;IIIII)Z" } : Jvm.MethodName)) ∈ zT := zmem3 (i := 153) rfl rfl
theorem zm_634 : (Jvm.Cond.static ({ cls := "WindowLettersLaw", name := "can", desc := "(LWindowLetters;IIIII)Z" } : Jvm.MethodName)) ∈ zT := zmem3 (i := 154) rfl rfl
theorem zm_635 : (Jvm.Cond.code ({ cls := "WindowLettersLaw", name := "can", desc := "(LWindowLetters;IIIII)Z" } : Jvm.MethodName) method_7_code (9 : Nat) (Option.some Jvm.ClassFile.FieldType.boolean)) ∈ zT := zmem3 (i := 155) rfl rfl
theorem zm_636 : (Jvm.Cond.methodLink "WindowLettersLaw" (88 : Nat) ({ cls := "WindowLetters", name := "manyOf", desc := "(III)I" } : Jvm.MethodName)) ∈ zT := zmem3 (i := 156) rfl rfl
theorem zm_637 : (Jvm.Cond.instanceMethod ({ cls := "WindowLetters", name := "manyOf", desc := "(III)I" } : Jvm.MethodName)) ∈ zT := zmem3 (i := 157) rfl rfl
theorem zm_638 : (Jvm.Cond.selects "WindowLetters" ({ cls := "WindowLetters", name := "manyOf", desc := "(III)I" } : Jvm.MethodName) ({ cls := "WindowLetters", name := "manyOf", desc := "(III)I" } : Jvm.MethodName)) ∈ zT := zmem3 (i := 158) rfl rfl
theorem zm_639 : (Jvm.Cond.code ({ cls := "WindowLetters", name := "manyOf", desc := "(III)I" } : Jvm.MethodName) prog_1_method_17_code (5 : Nat) (Option.some Jvm.ClassFile.FieldType.int)) ∈ zT := zmem3 (i := 159) rfl rfl
theorem zm_640 : (Jvm.Cond.methodLink "WindowLetters" (206 : Nat) ({ cls := "WindowLetters$Sheet", name := "copyFrom", desc := "(LWindowLetters$Sheet;)V" } : Jvm.MethodName)) ∈ zT := zmem3 (i := 160) rfl rfl
theorem zm_641 : (Jvm.Cond.methodLink "WindowLetters" (210 : Nat) ({ cls := "WindowLetters$Sheet", name := "cutUp", desc := "(II)I" } : Jvm.MethodName)) ∈ zT := zmem3 (i := 161) rfl rfl
theorem zm_642 : (Jvm.Cond.instanceMethod ({ cls := "WindowLetters$Sheet", name := "cutUp", desc := "(II)I" } : Jvm.MethodName)) ∈ zT := zmem3 (i := 162) rfl rfl
theorem zm_643 : (Jvm.Cond.selects "WindowLetters$Sheet" ({ cls := "WindowLetters$Sheet", name := "cutUp", desc := "(II)I" } : Jvm.MethodName) ({ cls := "WindowLetters$Sheet", name := "cutUp", desc := "(II)I" } : Jvm.MethodName)) ∈ zT := zmem3 (i := 163) rfl rfl
theorem zm_644 : (Jvm.Cond.code ({ cls := "WindowLetters$Sheet", name := "cutUp", desc := "(II)I" } : Jvm.MethodName) prog_6_method_8_code (5 : Nat) (Option.some Jvm.ClassFile.FieldType.int)) ∈ zT := zmem3 (i := 164) rfl rfl
theorem zm_645 : (Jvm.Cond.methodLinkNest "WindowLetters$Sheet" (54 : Nat) ({ cls := "WindowLetters", name := "wayIn", desc := "(I)I" } : Jvm.MethodName) "WindowLetters") ∈ zN := zmemN3 (i := 165) rfl rfl
theorem zm_646 : (Jvm.Cond.methodLinkNest "WindowLetters$Sheet" (57 : Nat) ({ cls := "WindowLetters", name := "rowIn", desc := "(I)I" } : Jvm.MethodName) "WindowLetters") ∈ zN := zmemN3 (i := 166) rfl rfl
theorem zm_647 : (Jvm.Cond.methodLinkNest "WindowLetters$Sheet" (60 : Nat) ({ cls := "WindowLetters", name := "columnIn", desc := "(I)I" } : Jvm.MethodName) "WindowLetters") ∈ zN := zmemN3 (i := 167) rfl rfl
theorem zm_648 : (Jvm.Cond.methodLink "WindowLetters$Sheet" (63 : Nat) ({ cls := "WindowLetters$Sheet", name := "cutOut", desc := "(IIII)V" } : Jvm.MethodName)) ∈ zT := zmem3 (i := 168) rfl rfl
theorem zm_649 : (Jvm.Cond.methodLink "WindowLettersLaw" (124 : Nat) ({ cls := "WindowLettersLaw", name := "tries", desc := "(LWindowLetters;I)Z" } : Jvm.MethodName)) ∈ zT := zmem3 (i := 169) rfl rfl
theorem zm_650 : (Jvm.Cond.static ({ cls := "WindowLettersLaw", name := "tries", desc := "(LWindowLetters;I)Z" } : Jvm.MethodName)) ∈ zT := zmem3 (i := 170) rfl rfl
theorem zm_651 : (Jvm.Cond.code ({ cls := "WindowLettersLaw", name := "tries", desc := "(LWindowLetters;I)Z" } : Jvm.MethodName) method_12_code (12 : Nat) (Option.some Jvm.ClassFile.FieldType.boolean)) ∈ zT := zmem3 (i := 171) rfl rfl
theorem zm_652 : (Jvm.Cond.methodLink "WindowLettersLaw" (108 : Nat) ({ cls := "WindowLetters", name := "colours", desc := "(III)I" } : Jvm.MethodName)) ∈ zT := zmem3 (i := 172) rfl rfl
theorem zm_653 : (Jvm.Cond.instanceMethod ({ cls := "WindowLetters", name := "colours", desc := "(III)I" } : Jvm.MethodName)) ∈ zT := zmem3 (i := 173) rfl rfl
theorem zm_654 : (Jvm.Cond.selects "WindowLetters" ({ cls := "WindowLetters", name := "colours", desc := "(III)I" } : Jvm.MethodName) ({ cls := "WindowLetters", name := "colours", desc := "(III)I" } : Jvm.MethodName)) ∈ zT := zmem3 (i := 174) rfl rfl
theorem zm_655 : (Jvm.Cond.code ({ cls := "WindowLetters", name := "colours", desc := "(III)I" } : Jvm.MethodName) prog_1_method_19_code (6 : Nat) (Option.some Jvm.ClassFile.FieldType.int)) ∈ zT := zmem3 (i := 175) rfl rfl
theorem zm_656 : (Jvm.Cond.fieldLink "java/lang/String" (15 : Nat) "java/lang/String" "coder" "B") ∈ zT := zmem3 (i := 176) rfl rfl
theorem zm_657 : (Jvm.Cond.fieldLink "java/lang/String" (9 : Nat) "java/lang/String" "value" "[B") ∈ zT := zmem3 (i := 177) rfl rfl
theorem zin0 : ∀ w ∈ u_ws RX0 TX0 4, w ∈ zT := by
  intro w hw
  obtain ⟨k, hk, rfl⟩ := List.mem_map.mp hw
  have hk := List.mem_range.mp hk
  match k, hk with
  | 0, _ => exact zm_168
  | 1, _ => exact zm_170
  | 2, _ => exact zm_172
  | 3, _ => exact zm_174
theorem zin1 : ∀ w ∈ u_ws RX1 TX1 2, w ∈ zT := by
  intro w hw
  obtain ⟨k, hk, rfl⟩ := List.mem_map.mp hw
  have hk := List.mem_range.mp hk
  match k, hk with
  | 0, _ => exact zm_187
  | 1, _ => exact zm_189
theorem zin2 : ∀ w ∈ u_ws RX2 TX2 7, w ∈ zT := by
  intro w hw
  obtain ⟨k, hk, rfl⟩ := List.mem_map.mp hw
  have hk := List.mem_range.mp hk
  match k, hk with
  | 0, _ => exact zm_116
  | 1, _ => exact zm_118
  | 2, _ => exact zm_120
  | 3, _ => exact zm_122
  | 4, _ => exact zm_124
  | 5, _ => exact zm_126
  | 6, _ => exact zm_128
theorem zin3 : ∀ w ∈ u_ws RX3 TX3 1, w ∈ zT := by
  intro w hw
  obtain ⟨k, hk, rfl⟩ := List.mem_map.mp hw
  have hk := List.mem_range.mp hk
  match k, hk with
  | 0, _ => exact zm_53
theorem zin4 : ∀ w ∈ u_ws RX4 TX4 4, w ∈ zT := by
  intro w hw
  obtain ⟨k, hk, rfl⟩ := List.mem_map.mp hw
  have hk := List.mem_range.mp hk
  match k, hk with
  | 0, _ => exact zm_81
  | 1, _ => exact zm_83
  | 2, _ => exact zm_85
  | 3, _ => exact zm_87
theorem zin5 : ∀ w ∈ u_ws RX5 TX5 6, w ∈ zT := by
  intro w hw
  obtain ⟨k, hk, rfl⟩ := List.mem_map.mp hw
  have hk := List.mem_range.mp hk
  match k, hk with
  | 0, _ => exact zm_140
  | 1, _ => exact zm_142
  | 2, _ => exact zm_144
  | 3, _ => exact zm_146
  | 4, _ => exact zm_148
  | 5, _ => exact zm_150
theorem zin6 : ∀ w ∈ u_ws RX6 TX6 7, w ∈ zT := by
  intro w hw
  obtain ⟨k, hk, rfl⟩ := List.mem_map.mp hw
  have hk := List.mem_range.mp hk
  match k, hk with
  | 0, _ => exact zm_200
  | 1, _ => exact zm_202
  | 2, _ => exact zm_204
  | 3, _ => exact zm_206
  | 4, _ => exact zm_208
  | 5, _ => exact zm_210
  | 6, _ => exact zm_212
