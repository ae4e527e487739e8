section
-- ===== PART A: goes FIRST, ahead of the names: the tables' words, and 'selects' of the private methods out of them =====
/-- a private method of a class that the tables say can be made, by its rows of tables_1 -/
def lw_okq (q : MethodName × Nat) : Prop := (q.1.cls ≠ "java/lang/invoke/MethodHandle" ∧ q.1.cls ≠ "java/lang/invoke/VarHandle") ∧ Cond.instantiable q.1.cls q.2 ∈ tables_1 ∧ Cond.privateMethod q.1 ∈ tables_1 ∧ Cond.instanceMethod q.1 ∈ tables_1
theorem lw_p0 : lw_okq (⟨"WindowLetters", "newDraft", "()LWindowLetters$Shop;"⟩, 7) := ⟨⟨by decide +kernel, by decide +kernel⟩, List.mem_of_getElem? (i := 17) (by decide +kernel), List.mem_of_getElem? (i := 224) (by decide +kernel), List.mem_of_getElem? (i := 225) (by decide +kernel)⟩
theorem lw_p1 : lw_okq (⟨"WindowLetters", "settle", "(I)I"⟩, 7) := ⟨⟨by decide +kernel, by decide +kernel⟩, List.mem_of_getElem? (i := 17) (by decide +kernel), List.mem_of_getElem? (i := 244) (by decide +kernel), List.mem_of_getElem? (i := 245) (by decide +kernel)⟩
theorem lw_p2 : lw_okq (⟨"WindowLetters$Sheet", "freeColumns", "(III)I"⟩, 4) := ⟨⟨by decide +kernel, by decide +kernel⟩, List.mem_of_getElem? (i := 68) (by decide +kernel), List.mem_of_getElem? (i := 278) (by decide +kernel), List.mem_of_getElem? (i := 279) (by decide +kernel)⟩
theorem lw_p3 : lw_okq (⟨"WindowLetters$Shop", "addPiece", "(IIIII)I"⟩, 6) := ⟨⟨by decide +kernel, by decide +kernel⟩, List.mem_of_getElem? (i := 59) (by decide +kernel), List.mem_of_getElem? (i := 292) (by decide +kernel), List.mem_of_getElem? (i := 293) (by decide +kernel)⟩
theorem lw_p4 : lw_okq (⟨"WindowLetters$Shop", "lowestLoose", "(III)I"⟩, 6) := ⟨⟨by decide +kernel, by decide +kernel⟩, List.mem_of_getElem? (i := 59) (by decide +kernel), List.mem_of_getElem? (i := 447) (by decide +kernel), List.mem_of_getElem? (i := 448) (by decide +kernel)⟩
theorem lw_p5 : lw_okq (⟨"WindowLetters$Shop", "piecesIn", "(I)I"⟩, 6) := ⟨⟨by decide +kernel, by decide +kernel⟩, List.mem_of_getElem? (i := 59) (by decide +kernel), List.mem_of_getElem? (i := 463) (by decide +kernel), List.mem_of_getElem? (i := 464) (by decide +kernel)⟩
theorem lw_p6 : lw_okq (⟨"WindowLettersModel", "record", "()V"⟩, 10) := ⟨⟨by decide +kernel, by decide +kernel⟩, List.mem_of_getElem? (i := 636) (by decide +kernel), List.mem_of_getElem? (i := 706) (by decide +kernel), List.mem_of_getElem? (i := 707) (by decide +kernel)⟩
theorem lw_p7 : lw_okq (⟨"WindowLettersModel", "isSheet", "(I)Z"⟩, 10) := ⟨⟨by decide +kernel, by decide +kernel⟩, List.mem_of_getElem? (i := 636) (by decide +kernel), List.mem_of_getElem? (i := 717) (by decide +kernel), List.mem_of_getElem? (i := 718) (by decide +kernel)⟩
theorem lw_p8 : lw_okq (⟨"WindowLettersModel", "canCut", "(IIIII)Z"⟩, 10) := ⟨⟨by decide +kernel, by decide +kernel⟩, List.mem_of_getElem? (i := 636) (by decide +kernel), List.mem_of_getElem? (i := 724) (by decide +kernel), List.mem_of_getElem? (i := 725) (by decide +kernel)⟩
theorem lw_p9 : lw_okq (⟨"WindowLettersModel", "shapeOf", "(III)I"⟩, 10) := ⟨⟨by decide +kernel, by decide +kernel⟩, List.mem_of_getElem? (i := 636) (by decide +kernel), List.mem_of_getElem? (i := 728) (by decide +kernel), List.mem_of_getElem? (i := 729) (by decide +kernel)⟩
theorem lw_p10 : lw_okq (⟨"WindowLettersModel", "newPiece", "(IIIII)I"⟩, 10) := ⟨⟨by decide +kernel, by decide +kernel⟩, List.mem_of_getElem? (i := 636) (by decide +kernel), List.mem_of_getElem? (i := 732) (by decide +kernel), List.mem_of_getElem? (i := 733) (by decide +kernel)⟩
theorem lw_p11 : lw_okq (⟨"WindowLettersModel", "cutsOut", "(IIIII)V"⟩, 10) := ⟨⟨by decide +kernel, by decide +kernel⟩, List.mem_of_getElem? (i := 636) (by decide +kernel), List.mem_of_getElem? (i := 736) (by decide +kernel), List.mem_of_getElem? (i := 737) (by decide +kernel)⟩
theorem lw_p12 : lw_okq (⟨"WindowLettersModel", "sheetFor", "(III)I"⟩, 10) := ⟨⟨by decide +kernel, by decide +kernel⟩, List.mem_of_getElem? (i := 636) (by decide +kernel), List.mem_of_getElem? (i := 747) (by decide +kernel), List.mem_of_getElem? (i := 748) (by decide +kernel)⟩
theorem lw_p13 : lw_okq (⟨"WindowLettersModel", "findsFit", "(III)Z"⟩, 10) := ⟨⟨by decide +kernel, by decide +kernel⟩, List.mem_of_getElem? (i := 636) (by decide +kernel), List.mem_of_getElem? (i := 751) (by decide +kernel), List.mem_of_getElem? (i := 752) (by decide +kernel)⟩
theorem lw_p14 : lw_okq (⟨"WindowLettersModel", "canBeWritten", "(IIII)Z"⟩, 10) := ⟨⟨by decide +kernel, by decide +kernel⟩, List.mem_of_getElem? (i := 636) (by decide +kernel), List.mem_of_getElem? (i := 769) (by decide +kernel), List.mem_of_getElem? (i := 770) (by decide +kernel)⟩
theorem lw_p15 : lw_okq (⟨"WindowLettersModel", "putAside", "()V"⟩, 10) := ⟨⟨by decide +kernel, by decide +kernel⟩, List.mem_of_getElem? (i := 636) (by decide +kernel), List.mem_of_getElem? (i := 773) (by decide +kernel), List.mem_of_getElem? (i := 774) (by decide +kernel)⟩
def lw_privs_1 : List (MethodName × Nat) := [(⟨"WindowLetters", "newDraft", "()LWindowLetters$Shop;"⟩, 7), (⟨"WindowLetters", "settle", "(I)I"⟩, 7), (⟨"WindowLetters$Sheet", "freeColumns", "(III)I"⟩, 4), (⟨"WindowLetters$Shop", "addPiece", "(IIIII)I"⟩, 6), (⟨"WindowLetters$Shop", "lowestLoose", "(III)I"⟩, 6), (⟨"WindowLetters$Shop", "piecesIn", "(I)I"⟩, 6), (⟨"WindowLettersModel", "record", "()V"⟩, 10), (⟨"WindowLettersModel", "isSheet", "(I)Z"⟩, 10), (⟨"WindowLettersModel", "canCut", "(IIIII)Z"⟩, 10), (⟨"WindowLettersModel", "shapeOf", "(III)I"⟩, 10), (⟨"WindowLettersModel", "newPiece", "(IIIII)I"⟩, 10), (⟨"WindowLettersModel", "cutsOut", "(IIIII)V"⟩, 10), (⟨"WindowLettersModel", "sheetFor", "(III)I"⟩, 10), (⟨"WindowLettersModel", "findsFit", "(III)Z"⟩, 10), (⟨"WindowLettersModel", "canBeWritten", "(IIII)Z"⟩, 10), (⟨"WindowLettersModel", "putAside", "()V"⟩, 10)]
theorem lw_r1 : ∀ q ∈ lw_privs_1, lw_okq q := List.forall_mem_cons.mpr ⟨lw_p0, List.forall_mem_cons.mpr ⟨lw_p1, List.forall_mem_cons.mpr ⟨lw_p2, List.forall_mem_cons.mpr ⟨lw_p3, List.forall_mem_cons.mpr ⟨lw_p4, List.forall_mem_cons.mpr ⟨lw_p5, List.forall_mem_cons.mpr ⟨lw_p6, List.forall_mem_cons.mpr ⟨lw_p7, List.forall_mem_cons.mpr ⟨lw_p8, List.forall_mem_cons.mpr ⟨lw_p9, List.forall_mem_cons.mpr ⟨lw_p10, List.forall_mem_cons.mpr ⟨lw_p11, List.forall_mem_cons.mpr ⟨lw_p12, List.forall_mem_cons.mpr ⟨lw_p13, List.forall_mem_cons.mpr ⟨lw_p14, List.forall_mem_cons.mpr ⟨lw_p15, fun _ h => absurd h List.not_mem_nil⟩⟩⟩⟩⟩⟩⟩⟩⟩⟩⟩⟩⟩⟩⟩⟩
theorem lw_p16 : lw_okq (⟨"WindowLettersModel", "writes", "(IIII)Z"⟩, 10) := ⟨⟨by decide +kernel, by decide +kernel⟩, List.mem_of_getElem? (i := 636) (by decide +kernel), List.mem_of_getElem? (i := 777) (by decide +kernel), List.mem_of_getElem? (i := 778) (by decide +kernel)⟩
theorem lw_p17 : lw_okq (⟨"WindowLettersModel", "pieceAt", "(II)I"⟩, 10) := ⟨⟨by decide +kernel, by decide +kernel⟩, List.mem_of_getElem? (i := 636) (by decide +kernel), List.mem_of_getElem? (i := 781) (by decide +kernel), List.mem_of_getElem? (i := 782) (by decide +kernel)⟩
theorem lw_p18 : lw_okq (⟨"WindowLettersModel", "pieceFor", "(III)I"⟩, 10) := ⟨⟨by decide +kernel, by decide +kernel⟩, List.mem_of_getElem? (i := 636) (by decide +kernel), List.mem_of_getElem? (i := 785) (by decide +kernel), List.mem_of_getElem? (i := 786) (by decide +kernel)⟩
theorem lw_p19 : lw_okq (⟨"WindowLettersModel", "looseOne", "(III)I"⟩, 10) := ⟨⟨by decide +kernel, by decide +kernel⟩, List.mem_of_getElem? (i := 636) (by decide +kernel), List.mem_of_getElem? (i := 789) (by decide +kernel), List.mem_of_getElem? (i := 790) (by decide +kernel)⟩
theorem lw_p20 : lw_okq (⟨"WindowLettersModel", "puts", "(III)V"⟩, 10) := ⟨⟨by decide +kernel, by decide +kernel⟩, List.mem_of_getElem? (i := 636) (by decide +kernel), List.mem_of_getElem? (i := 793) (by decide +kernel), List.mem_of_getElem? (i := 794) (by decide +kernel)⟩
theorem lw_p21 : lw_okq (⟨"WindowLettersModel", "putBack", "()V"⟩, 10) := ⟨⟨by decide +kernel, by decide +kernel⟩, List.mem_of_getElem? (i := 636) (by decide +kernel), List.mem_of_getElem? (i := 797) (by decide +kernel), List.mem_of_getElem? (i := 798) (by decide +kernel)⟩
theorem lw_p22 : lw_okq (⟨"WindowLettersModel", "isPiece", "(I)Z"⟩, 10) := ⟨⟨by decide +kernel, by decide +kernel⟩, List.mem_of_getElem? (i := 636) (by decide +kernel), List.mem_of_getElem? (i := 805) (by decide +kernel), List.mem_of_getElem? (i := 806) (by decide +kernel)⟩
theorem lw_p23 : lw_okq (⟨"WindowLettersModel", "isLoose", "(I)Z"⟩, 10) := ⟨⟨by decide +kernel, by decide +kernel⟩, List.mem_of_getElem? (i := 636) (by decide +kernel), List.mem_of_getElem? (i := 809) (by decide +kernel), List.mem_of_getElem? (i := 810) (by decide +kernel)⟩
theorem lw_p24 : lw_okq (⟨"WindowLettersModel", "inPane", "(I)I"⟩, 10) := ⟨⟨by decide +kernel, by decide +kernel⟩, List.mem_of_getElem? (i := 636) (by decide +kernel), List.mem_of_getElem? (i := 813) (by decide +kernel), List.mem_of_getElem? (i := 814) (by decide +kernel)⟩
theorem lw_p25 : lw_okq (⟨"WindowLettersModel", "squaresOf", "(I)I"⟩, 10) := ⟨⟨by decide +kernel, by decide +kernel⟩, List.mem_of_getElem? (i := 636) (by decide +kernel), List.mem_of_getElem? (i := 825) (by decide +kernel), List.mem_of_getElem? (i := 826) (by decide +kernel)⟩
theorem lw_p26 : lw_okq (⟨"WindowLettersModel", "uncut", "(I)I"⟩, 10) := ⟨⟨by decide +kernel, by decide +kernel⟩, List.mem_of_getElem? (i := 636) (by decide +kernel), List.mem_of_getElem? (i := 836) (by decide +kernel), List.mem_of_getElem? (i := 837) (by decide +kernel)⟩
theorem lw_p27 : lw_okq (⟨"WindowLettersModel", "piecesFrom", "(I)I"⟩, 10) := ⟨⟨by decide +kernel, by decide +kernel⟩, List.mem_of_getElem? (i := 636) (by decide +kernel), List.mem_of_getElem? (i := 848) (by decide +kernel), List.mem_of_getElem? (i := 849) (by decide +kernel)⟩
theorem lw_p28 : lw_okq (⟨"WindowLettersModel", "lettersThatFit", "(I)I"⟩, 10) := ⟨⟨by decide +kernel, by decide +kernel⟩, List.mem_of_getElem? (i := 636) (by decide +kernel), List.mem_of_getElem? (i := 852) (by decide +kernel), List.mem_of_getElem? (i := 853) (by decide +kernel)⟩
theorem lw_p29 : lw_okq (⟨"WindowLettersModel", "piecesThatAre", "(I)I"⟩, 10) := ⟨⟨by decide +kernel, by decide +kernel⟩, List.mem_of_getElem? (i := 636) (by decide +kernel), List.mem_of_getElem? (i := 872) (by decide +kernel), List.mem_of_getElem? (i := 873) (by decide +kernel)⟩
theorem lw_p30 : lw_okq (⟨"WindowLettersModel", "squaresOfSheets", "()I"⟩, 10) := ⟨⟨by decide +kernel, by decide +kernel⟩, List.mem_of_getElem? (i := 636) (by decide +kernel), List.mem_of_getElem? (i := 876) (by decide +kernel), List.mem_of_getElem? (i := 877) (by decide +kernel)⟩
theorem lw_p31 : lw_okq (⟨"WindowLettersModel", "squaresOfPieces", "()I"⟩, 10) := ⟨⟨by decide +kernel, by decide +kernel⟩, List.mem_of_getElem? (i := 636) (by decide +kernel), List.mem_of_getElem? (i := 880) (by decide +kernel), List.mem_of_getElem? (i := 881) (by decide +kernel)⟩
def lw_privs_2 : List (MethodName × Nat) := [(⟨"WindowLettersModel", "writes", "(IIII)Z"⟩, 10), (⟨"WindowLettersModel", "pieceAt", "(II)I"⟩, 10), (⟨"WindowLettersModel", "pieceFor", "(III)I"⟩, 10), (⟨"WindowLettersModel", "looseOne", "(III)I"⟩, 10), (⟨"WindowLettersModel", "puts", "(III)V"⟩, 10), (⟨"WindowLettersModel", "putBack", "()V"⟩, 10), (⟨"WindowLettersModel", "isPiece", "(I)Z"⟩, 10), (⟨"WindowLettersModel", "isLoose", "(I)Z"⟩, 10), (⟨"WindowLettersModel", "inPane", "(I)I"⟩, 10), (⟨"WindowLettersModel", "squaresOf", "(I)I"⟩, 10), (⟨"WindowLettersModel", "uncut", "(I)I"⟩, 10), (⟨"WindowLettersModel", "piecesFrom", "(I)I"⟩, 10), (⟨"WindowLettersModel", "lettersThatFit", "(I)I"⟩, 10), (⟨"WindowLettersModel", "piecesThatAre", "(I)I"⟩, 10), (⟨"WindowLettersModel", "squaresOfSheets", "()I"⟩, 10), (⟨"WindowLettersModel", "squaresOfPieces", "()I"⟩, 10)]
theorem lw_r2 : ∀ q ∈ lw_privs_2, lw_okq q := List.forall_mem_cons.mpr ⟨lw_p16, List.forall_mem_cons.mpr ⟨lw_p17, List.forall_mem_cons.mpr ⟨lw_p18, List.forall_mem_cons.mpr ⟨lw_p19, List.forall_mem_cons.mpr ⟨lw_p20, List.forall_mem_cons.mpr ⟨lw_p21, List.forall_mem_cons.mpr ⟨lw_p22, List.forall_mem_cons.mpr ⟨lw_p23, List.forall_mem_cons.mpr ⟨lw_p24, List.forall_mem_cons.mpr ⟨lw_p25, List.forall_mem_cons.mpr ⟨lw_p26, List.forall_mem_cons.mpr ⟨lw_p27, List.forall_mem_cons.mpr ⟨lw_p28, List.forall_mem_cons.mpr ⟨lw_p29, List.forall_mem_cons.mpr ⟨lw_p30, List.forall_mem_cons.mpr ⟨lw_p31, fun _ h => absurd h List.not_mem_nil⟩⟩⟩⟩⟩⟩⟩⟩⟩⟩⟩⟩⟩⟩⟩⟩
def lw_privs : List (MethodName × Nat) := lw_privs_1 ++ (lw_privs_2)
def lw_tbl : List Cond := k2_sels lw_privs ++ tables_1
theorem lw_privs_ok : ∀ q ∈ lw_privs, lw_okq q := by
  show ∀ q ∈ lw_privs_1 ++ (lw_privs_2), lw_okq q
  exact List.forall_mem_append.mpr ⟨lw_r1, lw_r2⟩
def RX0 : String := "WindowLetters$History"
def TX0 : u_T := fun k => match k with
  | 0 => ("WindowLetters$History", "shapes", "LWindowLetters$Shapes;", true)
  | 1 => ("WindowLetters$History", "states", "[LWindowLetters$Shop;", true)
  | 2 => ("WindowLetters$History", "oldest", "I", false)
  | _ => ("WindowLetters$History", "length", "I", false)
def tyX0 : Nat → FieldType := fun k => match k with
  | 0 => .object "WindowLetters$Shapes"
  | 1 => .array (.object "WindowLetters$Shop")
  | 2 => .int
  | _ => .int
abbrev wsX00 : List Cond := u_ws RX0 TX0 4
theorem nmX0 : ∀ a, a < 4 → ∀ b, b < 4 → a ≠ b → (TX0 a).2.1 ≠ (TX0 b).2.1 := by decide +kernel
theorem tyX0_ok : ∀ k, k < 4 → parseFieldDescriptor (TX0 k).2.2.1 = some (tyX0 k) := by decide +kernel
abbrev cX0_init : ByteArray := prog_2_method_1_code
def yX0_init : MethodName := ⟨RX0, "<init>", "(LWindowLetters$Shapes;)V"⟩
abbrev cX0_record : ByteArray := prog_2_method_2_code
def yX0_record : MethodName := ⟨RX0, "record", "(LWindowLetters$Shop;)V"⟩
abbrev cX0_takeBack : ByteArray := prog_2_method_3_code
def yX0_takeBack : MethodName := ⟨RX0, "takeBack", "(LWindowLetters$Shop;)Z"⟩
def RX1 : String := "WindowLetters$Pad"
def TX1 : u_T := fun k => match k with
  | 0 => ("WindowLetters$Pad", "signs", "[C", true)
  | _ => ("WindowLetters$Pad", "length", "I", false)
def tyX1 : Nat → FieldType := fun k => match k with
  | 0 => .array .char
  | _ => .int
abbrev wsX10 : List Cond := u_ws RX1 TX1 2
theorem nmX1 : ∀ a, a < 2 → ∀ b, b < 2 → a ≠ b → (TX1 a).2.1 ≠ (TX1 b).2.1 := by decide +kernel
theorem tyX1_ok : ∀ k, k < 2 → parseFieldDescriptor (TX1 k).2.2.1 = some (tyX1 k) := by decide +kernel
abbrev cX1_init : ByteArray := prog_3_method_1_code
def yX1_init : MethodName := ⟨RX1, "<init>", "()V"⟩
abbrev cX1_empty : ByteArray := prog_3_method_2_code
def yX1_empty : MethodName := ⟨RX1, "empty", "()V"⟩
abbrev cX1_append : ByteArray := prog_3_method_3_code
def yX1_append : MethodName := ⟨RX1, "append", "(J)I"⟩
abbrev cX1_signsIn : ByteArray := prog_3_method_4_code
def yX1_signsIn : MethodName := ⟨RX1, "signsIn", "(J)I"⟩
abbrev cX1_codeIn : ByteArray := prog_3_method_5_code
def yX1_codeIn : MethodName := ⟨RX1, "codeIn", "(JI)I"⟩
abbrev cX1_letterAt : ByteArray := prog_3_method_6_code
def yX1_letterAt : MethodName := ⟨RX1, "letterAt", "(I)I"⟩
abbrev cX1_faultIndex : ByteArray := prog_3_method_7_code
def yX1_faultIndex : MethodName := ⟨RX1, "faultIndex", "()I"⟩
def RX2 : String := "WindowLetters$Piece"
def TX2 : u_T := fun k => match k with
  | 0 => ("WindowLetters$Piece", "letter", "I", false)
  | 1 => ("WindowLetters$Piece", "colour", "I", false)
  | 2 => ("WindowLetters$Piece", "way", "I", false)
  | 3 => ("WindowLetters$Piece", "sheet", "I", false)
  | 4 => ("WindowLetters$Piece", "corner", "I", false)
  | 5 => ("WindowLetters$Piece", "state", "I", false)
  | _ => ("WindowLetters$Piece", "spot", "I", false)
def tyX2 : Nat → FieldType := fun k => match k with
  | 0 => .int
  | 1 => .int
  | 2 => .int
  | 3 => .int
  | 4 => .int
  | 5 => .int
  | _ => .int
abbrev wsX20 : List Cond := u_ws RX2 TX2 7
theorem nmX2 : ∀ a, a < 7 → ∀ b, b < 7 → a ≠ b → (TX2 a).2.1 ≠ (TX2 b).2.1 := by decide +kernel
theorem tyX2_ok : ∀ k, k < 7 → parseFieldDescriptor (TX2 k).2.2.1 = some (tyX2 k) := by decide +kernel
abbrev cX2_init : ByteArray := prog_4_method_1_code
def yX2_init : MethodName := ⟨RX2, "<init>", "()V"⟩
abbrev cX2_copyFrom : ByteArray := prog_4_method_2_code
def yX2_copyFrom : MethodName := ⟨RX2, "copyFrom", "(LWindowLetters$Piece;)V"⟩
abbrev cX2_becomeLoose : ByteArray := prog_4_method_3_code
def yX2_becomeLoose : MethodName := ⟨RX2, "becomeLoose", "()V"⟩
def RX3 : String := "WindowLetters$Shapes"
def TX3 : u_T := fun k => match k with
  | _ => ("WindowLetters$Shapes", "rows", "[I", true)
def tyX3 : Nat → FieldType := fun k => match k with
  | _ => .array .int
abbrev wsX30 : List Cond := u_ws RX3 TX3 1
theorem nmX3 : ∀ a, a < 1 → ∀ b, b < 1 → a ≠ b → (TX3 a).2.1 ≠ (TX3 b).2.1 := by decide +kernel
theorem tyX3_ok : ∀ k, k < 1 → parseFieldDescriptor (TX3 k).2.2.1 = some (tyX3 k) := by decide +kernel
abbrev cX3_init : ByteArray := prog_5_method_1_code
def yX3_init : MethodName := ⟨RX3, "<init>", "()V"⟩
abbrev cX3_columnsOf : ByteArray := prog_5_method_2_code
def yX3_columnsOf : MethodName := ⟨RX3, "columnsOf", "(III)I"⟩
abbrev cX3_squaresOf : ByteArray := prog_5_method_3_code
def yX3_squaresOf : MethodName := ⟨RX3, "squaresOf", "(I)I"⟩
abbrev cX3_turnedRow : ByteArray := prog_5_method_4_code
def yX3_turnedRow : MethodName := ⟨RX3, "turnedRow", "(III)I"⟩
abbrev cX3_hasSquare : ByteArray := prog_5_method_5_code
def yX3_hasSquare : MethodName := ⟨RX3, "hasSquare", "(IIII)Z"⟩
abbrev cX3_uprightHas : ByteArray := prog_5_method_6_code
def yX3_uprightHas : MethodName := ⟨RX3, "uprightHas", "(III)Z"⟩
def RX4 : String := "WindowLetters$Sheet"
def TX4 : u_T := fun k => match k with
  | 0 => ("WindowLetters$Sheet", "shapes", "LWindowLetters$Shapes;", true)
  | 1 => ("WindowLetters$Sheet", "cutColumns", "[I", true)
  | 2 => ("WindowLetters$Sheet", "colour", "I", false)
  | _ => ("WindowLetters$Sheet", "scrapped", "Z", false)
def tyX4 : Nat → FieldType := fun k => match k with
  | 0 => .object "WindowLetters$Shapes"
  | 1 => .array .int
  | 2 => .int
  | _ => .boolean
abbrev wsX40 : List Cond := u_ws RX4 TX4 4
theorem nmX4 : ∀ a, a < 4 → ∀ b, b < 4 → a ≠ b → (TX4 a).2.1 ≠ (TX4 b).2.1 := by decide +kernel
theorem tyX4_ok : ∀ k, k < 4 → parseFieldDescriptor (TX4 k).2.2.1 = some (tyX4 k) := by decide +kernel
abbrev cX4_init : ByteArray := prog_6_method_1_code
def yX4_init : MethodName := ⟨RX4, "<init>", "(LWindowLetters$Shapes;)V"⟩
abbrev cX4_copyFrom : ByteArray := prog_6_method_2_code
def yX4_copyFrom : MethodName := ⟨RX4, "copyFrom", "(LWindowLetters$Sheet;)V"⟩
abbrev cX4_canCut : ByteArray := prog_6_method_3_code
def yX4_canCut : MethodName := ⟨RX4, "canCut", "(IIII)Z"⟩
abbrev cX4_freeColumns : ByteArray := prog_6_method_4_code
def yX4_freeColumns : MethodName := ⟨RX4, "freeColumns", "(III)I"⟩
abbrev cX4_cutOut : ByteArray := prog_6_method_5_code
def yX4_cutOut : MethodName := ⟨RX4, "cutOut", "(IIII)V"⟩
abbrev cX4_isOnSheet : ByteArray := prog_6_method_6_code
def yX4_isOnSheet : MethodName := ⟨RX4, "isOnSheet", "(III)Z"⟩
abbrev cX4_firstFit : ByteArray := prog_6_method_7_code
def yX4_firstFit : MethodName := ⟨RX4, "firstFit", "(II)I"⟩
abbrev cX4_cutUp : ByteArray := prog_6_method_8_code
def yX4_cutUp : MethodName := ⟨RX4, "cutUp", "(II)I"⟩
abbrev cX4_allFits : ByteArray := prog_6_method_9_code
def yX4_allFits : MethodName := ⟨RX4, "allFits", "(I)I"⟩
abbrev cX4_lettersThatFit : ByteArray := prog_6_method_10_code
def yX4_lettersThatFit : MethodName := ⟨RX4, "lettersThatFit", "()I"⟩
abbrev cX4_squaresLeft : ByteArray := prog_6_method_11_code
def yX4_squaresLeft : MethodName := ⟨RX4, "squaresLeft", "()I"⟩
def RX5 : String := "WindowLetters$Shop"
def TX5 : u_T := fun k => match k with
  | 0 => ("WindowLetters$Shop", "shapes", "LWindowLetters$Shapes;", true)
  | 1 => ("WindowLetters$Shop", "sheets", "[LWindowLetters$Sheet;", true)
  | 2 => ("WindowLetters$Shop", "pieces", "[LWindowLetters$Piece;", true)
  | 3 => ("WindowLetters$Shop", "spots", "[I", true)
  | 4 => ("WindowLetters$Shop", "sheetCount", "I", false)
  | _ => ("WindowLetters$Shop", "pieceCount", "I", false)
def tyX5 : Nat → FieldType := fun k => match k with
  | 0 => .object "WindowLetters$Shapes"
  | 1 => .array (.object "WindowLetters$Sheet")
  | 2 => .array (.object "WindowLetters$Piece")
  | 3 => .array .int
  | 4 => .int
  | _ => .int
abbrev wsX50 : List Cond := u_ws RX5 TX5 6
theorem nmX5 : ∀ a, a < 6 → ∀ b, b < 6 → a ≠ b → (TX5 a).2.1 ≠ (TX5 b).2.1 := by decide +kernel
theorem tyX5_ok : ∀ k, k < 6 → parseFieldDescriptor (TX5 k).2.2.1 = some (tyX5 k) := by decide +kernel
abbrev cX5_init : ByteArray := prog_7_method_1_code
def yX5_init : MethodName := ⟨RX5, "<init>", "(LWindowLetters$Shapes;)V"⟩
abbrev cX5_copyFrom : ByteArray := prog_7_method_2_code
def yX5_copyFrom : MethodName := ⟨RX5, "copyFrom", "(LWindowLetters$Shop;)V"⟩
abbrev cX5_sheetAt : ByteArray := prog_7_method_3_code
def yX5_sheetAt : MethodName := ⟨RX5, "sheetAt", "(I)LWindowLetters$Sheet;"⟩
abbrev cX5_pieceAt : ByteArray := prog_7_method_4_code
def yX5_pieceAt : MethodName := ⟨RX5, "pieceAt", "(I)LWindowLetters$Piece;"⟩
abbrev cX5_addSheet : ByteArray := prog_7_method_5_code
def yX5_addSheet : MethodName := ⟨RX5, "addSheet", "(I)I"⟩
abbrev cX5_cutPiece : ByteArray := prog_7_method_6_code
def yX5_cutPiece : MethodName := ⟨RX5, "cutPiece", "(IIIII)I"⟩
abbrev cX5_addPiece : ByteArray := prog_7_method_7_code
def yX5_addPiece : MethodName := ⟨RX5, "addPiece", "(IIIII)I"⟩
abbrev cX5_makePiece : ByteArray := prog_7_method_8_code
def yX5_makePiece : MethodName := ⟨RX5, "makePiece", "(III)I"⟩
abbrev cX5_writeName : ByteArray := prog_7_method_9_code
def yX5_writeName : MethodName := ⟨RX5, "writeName", "(LWindowLetters$Pad;IIII)I"⟩
abbrev cX5_lowestLoose : ByteArray := prog_7_method_10_code
def yX5_lowestLoose : MethodName := ⟨RX5, "lowestLoose", "(III)I"⟩
abbrev cX5_putIntoPane : ByteArray := prog_7_method_11_code
def yX5_putIntoPane : MethodName := ⟨RX5, "putIntoPane", "(III)I"⟩
abbrev cX5_clearPane : ByteArray := prog_7_method_12_code
def yX5_clearPane : MethodName := ⟨RX5, "clearPane", "(I)I"⟩
abbrev cX5_wastePiece : ByteArray := prog_7_method_13_code
def yX5_wastePiece : MethodName := ⟨RX5, "wastePiece", "(I)I"⟩
abbrev cX5_scrapSheet : ByteArray := prog_7_method_14_code
def yX5_scrapSheet : MethodName := ⟨RX5, "scrapSheet", "(I)I"⟩
abbrev cX5_piecesIn : ByteArray := prog_7_method_15_code
def yX5_piecesIn : MethodName := ⟨RX5, "piecesIn", "(I)I"⟩
abbrev cX5_piecesFrom : ByteArray := prog_7_method_16_code
def yX5_piecesFrom : MethodName := ⟨RX5, "piecesFrom", "(I)I"⟩
abbrev cX5_piecesThatAre : ByteArray := prog_7_method_17_code
def yX5_piecesThatAre : MethodName := ⟨RX5, "piecesThatAre", "(I)I"⟩
abbrev cX5_squaresOfPieces : ByteArray := prog_7_method_18_code
def yX5_squaresOfPieces : MethodName := ⟨RX5, "squaresOfPieces", "(I)I"⟩
abbrev cX5_squaresOfSheets : ByteArray := prog_7_method_19_code
def yX5_squaresOfSheets : MethodName := ⟨RX5, "squaresOfSheets", "(Z)I"⟩
def RX6 : String := "WindowLetters"
def TX6 : u_T := fun k => match k with
  | 0 => ("WindowLetters", "shapes", "LWindowLetters$Shapes;", true)
  | 1 => ("WindowLetters", "shop", "LWindowLetters$Shop;", true)
  | 2 => ("WindowLetters", "draft", "LWindowLetters$Shop;", true)
  | 3 => ("WindowLetters", "trialSheet", "LWindowLetters$Sheet;", true)
  | 4 => ("WindowLetters", "slots", "[LWindowLetters$Shop;", true)
  | 5 => ("WindowLetters", "history", "LWindowLetters$History;", true)
  | _ => ("WindowLetters", "pad", "LWindowLetters$Pad;", true)
def tyX6 : Nat → FieldType := fun k => match k with
  | 0 => .object "WindowLetters$Shapes"
  | 1 => .object "WindowLetters$Shop"
  | 2 => .object "WindowLetters$Shop"
  | 3 => .object "WindowLetters$Sheet"
  | 4 => .array (.object "WindowLetters$Shop")
  | 5 => .object "WindowLetters$History"
  | _ => .object "WindowLetters$Pad"
abbrev wsX60 : List Cond := u_ws RX6 TX6 7
theorem nmX6 : ∀ a, a < 7 → ∀ b, b < 7 → a ≠ b → (TX6 a).2.1 ≠ (TX6 b).2.1 := by decide +kernel
theorem tyX6_ok : ∀ k, k < 7 → parseFieldDescriptor (TX6 k).2.2.1 = some (tyX6 k) := by decide +kernel
abbrev cX6_init : ByteArray := prog_1_method_1_code
def yX6_init : MethodName := ⟨RX6, "<init>", "()V"⟩
abbrev cX6_sheet : ByteArray := prog_1_method_2_code
def yX6_sheet : MethodName := ⟨RX6, "sheet", "(I)I"⟩
abbrev cX6_cut : ByteArray := prog_1_method_3_code
def yX6_cut : MethodName := ⟨RX6, "cut", "(IIIII)I"⟩
abbrev cX6_make : ByteArray := prog_1_method_4_code
def yX6_make : MethodName := ⟨RX6, "make", "(III)I"⟩
abbrev cX6_write : ByteArray := prog_1_method_5_code
def yX6_write : MethodName := ⟨RX6, "write", "(IIII)I"⟩
abbrev cX6_place : ByteArray := prog_1_method_6_code
def yX6_place : MethodName := ⟨RX6, "place", "(III)I"⟩
abbrev cX6_clear : ByteArray := prog_1_method_7_code
def yX6_clear : MethodName := ⟨RX6, "clear", "(I)I"⟩
abbrev cX6_throwAway : ByteArray := prog_1_method_8_code
def yX6_throwAway : MethodName := ⟨RX6, "throwAway", "(I)I"⟩
abbrev cX6_scrap : ByteArray := prog_1_method_9_code
def yX6_scrap : MethodName := ⟨RX6, "scrap", "(I)I"⟩
abbrev cX6_of : ByteArray := prog_1_method_10_code
def yX6_of : MethodName := ⟨RX6, "of", "(II)I"⟩
abbrev cX6_ofSheet : ByteArray := prog_1_method_11_code
def yX6_ofSheet : MethodName := ⟨RX6, "ofSheet", "(II)I"⟩
abbrev cX6_row : ByteArray := prog_1_method_12_code
def yX6_row : MethodName := ⟨RX6, "row", "(II)I"⟩
abbrev cX6_pane : ByteArray := prog_1_method_13_code
def yX6_pane : MethodName := ⟨RX6, "pane", "(II)I"⟩
abbrev cX6_shape : ByteArray := prog_1_method_14_code
def yX6_shape : MethodName := ⟨RX6, "shape", "(III)I"⟩
abbrev cX6_count : ByteArray := prog_1_method_15_code
def yX6_count : MethodName := ⟨RX6, "count", "(I)I"⟩
abbrev cX6_fit : ByteArray := prog_1_method_16_code
def yX6_fit : MethodName := ⟨RX6, "fit", "(IIII)I"⟩
abbrev cX6_manyOf : ByteArray := prog_1_method_17_code
def yX6_manyOf : MethodName := ⟨RX6, "manyOf", "(III)I"⟩
abbrev cX6_fits : ByteArray := prog_1_method_18_code
def yX6_fits : MethodName := ⟨RX6, "fits", "(II)I"⟩
abbrev cX6_colours : ByteArray := prog_1_method_19_code
def yX6_colours : MethodName := ⟨RX6, "colours", "(III)I"⟩
abbrev cX6_put : ByteArray := prog_1_method_20_code
def yX6_put : MethodName := ⟨RX6, "put", "(J)I"⟩
abbrev cX6_wipe : ByteArray := prog_1_method_21_code
def yX6_wipe : MethodName := ⟨RX6, "wipe", "()I"⟩
abbrev cX6_fault : ByteArray := prog_1_method_22_code
def yX6_fault : MethodName := ⟨RX6, "fault", "()I"⟩
abbrev cX6_undo : ByteArray := prog_1_method_23_code
def yX6_undo : MethodName := ⟨RX6, "undo", "()I"⟩
abbrev cX6_save : ByteArray := prog_1_method_24_code
def yX6_save : MethodName := ⟨RX6, "save", "(I)I"⟩
abbrev cX6_restore : ByteArray := prog_1_method_25_code
def yX6_restore : MethodName := ⟨RX6, "restore", "(I)I"⟩
abbrev cX6_newDraft : ByteArray := prog_1_method_26_code
def yX6_newDraft : MethodName := ⟨RX6, "newDraft", "()LWindowLetters$Shop;"⟩
abbrev cX6_settle : ByteArray := prog_1_method_27_code
def yX6_settle : MethodName := ⟨RX6, "settle", "(I)I"⟩
abbrev cX6_isColour : ByteArray := prog_1_method_28_code
def yX6_isColour : MethodName := ⟨RX6, "isColour", "(I)Z"⟩
abbrev cX6_isLetter : ByteArray := prog_1_method_29_code
def yX6_isLetter : MethodName := ⟨RX6, "isLetter", "(I)Z"⟩
abbrev cX6_isWay : ByteArray := prog_1_method_30_code
def yX6_isWay : MethodName := ⟨RX6, "isWay", "(I)Z"⟩
abbrev cX6_isMirroring : ByteArray := prog_1_method_31_code
def yX6_isMirroring : MethodName := ⟨RX6, "isMirroring", "(I)Z"⟩
abbrev cX6_isPane : ByteArray := prog_1_method_32_code
def yX6_isPane : MethodName := ⟨RX6, "isPane", "(I)Z"⟩
abbrev cX6_isPlace : ByteArray := prog_1_method_33_code
def yX6_isPlace : MethodName := ⟨RX6, "isPlace", "(I)Z"⟩
abbrev cX6_isSlot : ByteArray := prog_1_method_34_code
def yX6_isSlot : MethodName := ⟨RX6, "isSlot", "(I)Z"⟩
abbrev cX6_heightOf : ByteArray := prog_1_method_35_code
def yX6_heightOf : MethodName := ⟨RX6, "heightOf", "(I)I"⟩
abbrev cX6_widthOf : ByteArray := prog_1_method_36_code
def yX6_widthOf : MethodName := ⟨RX6, "widthOf", "(I)I"⟩
abbrev cX6_mirroringOf : ByteArray := prog_1_method_37_code
def yX6_mirroringOf : MethodName := ⟨RX6, "mirroringOf", "(I)I"⟩
abbrev cX6_rowIn : ByteArray := prog_1_method_38_code
def yX6_rowIn : MethodName := ⟨RX6, "rowIn", "(I)I"⟩
abbrev cX6_columnIn : ByteArray := prog_1_method_39_code
def yX6_columnIn : MethodName := ⟨RX6, "columnIn", "(I)I"⟩
abbrev cX6_wayIn : ByteArray := prog_1_method_40_code
def yX6_wayIn : MethodName := ⟨RX6, "wayIn", "(I)I"⟩
abbrev cX6_lowestIn : ByteArray := prog_1_method_41_code
def yX6_lowestIn : MethodName := ⟨RX6, "lowestIn", "(I)I"⟩
def RX7 : String := "WindowLettersModel"
def TX7 : u_T := fun k => match k with
  | 0 => ("WindowLettersModel", "s", "[I", true)
  | 1 => ("WindowLettersModel", "aside", "[I", true)
  | 2 => ("WindowLettersModel", "history", "[I", true)
  | 3 => ("WindowLettersModel", "kept", "I", false)
  | 4 => ("WindowLettersModel", "slots", "[I", true)
  | 5 => ("WindowLettersModel", "isSaved", "[Z", true)
  | 6 => ("WindowLettersModel", "pad", "[I", true)
  | 7 => ("WindowLettersModel", "length", "I", false)
  | 8 => ("WindowLettersModel", "shapes", "[I", true)
  | _ => ("WindowLettersModel", "found", "[I", true)
def tyX7 : Nat → FieldType := fun k => match k with
  | 0 => .array .int
  | 1 => .array .int
  | 2 => .array .int
  | 3 => .int
  | 4 => .array .int
  | 5 => .array .boolean
  | 6 => .array .int
  | 7 => .int
  | 8 => .array .int
  | _ => .array .int
abbrev wsX70 : List Cond := u_ws RX7 TX7 10
theorem nmX7 : ∀ a, a < 10 → ∀ b, b < 10 → a ≠ b → (TX7 a).2.1 ≠ (TX7 b).2.1 := by decide +kernel
theorem tyX7_ok : ∀ k, k < 10 → parseFieldDescriptor (TX7 k).2.2.1 = some (tyX7 k) := by decide +kernel
abbrev cX7_init : ByteArray := prog_9_method_1_code
def yX7_init : MethodName := ⟨RX7, "<init>", "()V"⟩
abbrev cX7_in : ByteArray := prog_9_method_3_code
def yX7_in : MethodName := ⟨RX7, "in", "(III)Z"⟩
abbrev cX7_digits : ByteArray := prog_9_method_4_code
def yX7_digits : MethodName := ⟨RX7, "digits", "(I)I"⟩
abbrev cX7_hasSquare : ByteArray := prog_9_method_5_code
def yX7_hasSquare : MethodName := ⟨RX7, "hasSquare", "(IZII)Z"⟩
abbrev cX7_high : ByteArray := prog_9_method_6_code
def yX7_high : MethodName := ⟨RX7, "high", "(I)I"⟩
abbrev cX7_wide : ByteArray := prog_9_method_7_code
def yX7_wide : MethodName := ⟨RX7, "wide", "(I)I"⟩
abbrev cX7_drawn : ByteArray := prog_9_method_8_code
def yX7_drawn : MethodName := ⟨RX7, "drawn", "(III)I"⟩
abbrev cX7_shapeOf : ByteArray := prog_9_method_9_code
def yX7_shapeOf : MethodName := ⟨RX7, "shapeOf", "(III)I"⟩
abbrev cX7_bits : ByteArray := prog_9_method_10_code
def yX7_bits : MethodName := ⟨RX7, "bits", "(I)I"⟩
abbrev cX7_squaresOf : ByteArray := prog_9_method_11_code
def yX7_squaresOf : MethodName := ⟨RX7, "squaresOf", "(I)I"⟩
abbrev cX7_isLetter : ByteArray := prog_9_method_12_code
def yX7_isLetter : MethodName := ⟨RX7, "isLetter", "(I)Z"⟩
abbrev cX7_isSheet : ByteArray := prog_9_method_13_code
def yX7_isSheet : MethodName := ⟨RX7, "isSheet", "(I)Z"⟩
abbrev cX7_isPiece : ByteArray := prog_9_method_14_code
def yX7_isPiece : MethodName := ⟨RX7, "isPiece", "(I)Z"⟩
abbrev cX7_isSpot : ByteArray := prog_9_method_15_code
def yX7_isSpot : MethodName := ⟨RX7, "isSpot", "(II)Z"⟩
abbrev cX7_ofOne : ByteArray := prog_9_method_16_code
def yX7_ofOne : MethodName := ⟨RX7, "ofOne", "(II)I"⟩
abbrev cX7_at : ByteArray := prog_9_method_17_code
def yX7_at : MethodName := ⟨RX7, "at", "(II)I"⟩
abbrev cX7_canCut : ByteArray := prog_9_method_18_code
def yX7_canCut : MethodName := ⟨RX7, "canCut", "(IIIII)Z"⟩
abbrev cX7_cutsOut : ByteArray := prog_9_method_19_code
def yX7_cutsOut : MethodName := ⟨RX7, "cutsOut", "(IIIII)V"⟩
abbrev cX7_findsFit : ByteArray := prog_9_method_20_code
def yX7_findsFit : MethodName := ⟨RX7, "findsFit", "(III)Z"⟩
abbrev cX7_sheetFor : ByteArray := prog_9_method_21_code
def yX7_sheetFor : MethodName := ⟨RX7, "sheetFor", "(III)I"⟩
abbrev cX7_uncut : ByteArray := prog_9_method_22_code
def yX7_uncut : MethodName := ⟨RX7, "uncut", "(I)I"⟩
abbrev cX7_newPiece : ByteArray := prog_9_method_23_code
def yX7_newPiece : MethodName := ⟨RX7, "newPiece", "(IIIII)I"⟩
abbrev cX7_looseOne : ByteArray := prog_9_method_24_code
def yX7_looseOne : MethodName := ⟨RX7, "looseOne", "(III)I"⟩
abbrev cX7_pieceAt : ByteArray := prog_9_method_25_code
def yX7_pieceAt : MethodName := ⟨RX7, "pieceAt", "(II)I"⟩
abbrev cX7_inPane : ByteArray := prog_9_method_26_code
def yX7_inPane : MethodName := ⟨RX7, "inPane", "(I)I"⟩
abbrev cX7_puts : ByteArray := prog_9_method_27_code
def yX7_puts : MethodName := ⟨RX7, "puts", "(III)V"⟩
abbrev cX7_pieceFor : ByteArray := prog_9_method_28_code
def yX7_pieceFor : MethodName := ⟨RX7, "pieceFor", "(III)I"⟩
abbrev cX7_letterOf : ByteArray := prog_9_method_29_code
def yX7_letterOf : MethodName := ⟨RX7, "letterOf", "(I)I"⟩
abbrev cX7_writes : ByteArray := prog_9_method_30_code
def yX7_writes : MethodName := ⟨RX7, "writes", "(IIII)Z"⟩
abbrev cX7_record : ByteArray := prog_9_method_31_code
def yX7_record : MethodName := ⟨RX7, "record", "()V"⟩
abbrev cX7_putAside : ByteArray := prog_9_method_32_code
def yX7_putAside : MethodName := ⟨RX7, "putAside", "()V"⟩
abbrev cX7_putBack : ByteArray := prog_9_method_33_code
def yX7_putBack : MethodName := ⟨RX7, "putBack", "()V"⟩
abbrev cX7_isColour : ByteArray := prog_9_method_34_code
def yX7_isColour : MethodName := ⟨RX7, "isColour", "(I)Z"⟩
abbrev cX7_sheet : ByteArray := prog_9_method_35_code
def yX7_sheet : MethodName := ⟨RX7, "sheet", "(I)I"⟩
abbrev cX7_cut : ByteArray := prog_9_method_36_code
def yX7_cut : MethodName := ⟨RX7, "cut", "(IIIII)I"⟩
abbrev cX7_make : ByteArray := prog_9_method_37_code
def yX7_make : MethodName := ⟨RX7, "make", "(III)I"⟩
abbrev cX7_canBeWritten : ByteArray := prog_9_method_38_code
def yX7_canBeWritten : MethodName := ⟨RX7, "canBeWritten", "(IIII)Z"⟩
abbrev cX7_write : ByteArray := prog_9_method_39_code
def yX7_write : MethodName := ⟨RX7, "write", "(IIII)I"⟩
abbrev cX7_isLoose : ByteArray := prog_9_method_40_code
def yX7_isLoose : MethodName := ⟨RX7, "isLoose", "(I)Z"⟩
abbrev cX7_place : ByteArray := prog_9_method_41_code
def yX7_place : MethodName := ⟨RX7, "place", "(III)I"⟩
abbrev cX7_clear : ByteArray := prog_9_method_42_code
def yX7_clear : MethodName := ⟨RX7, "clear", "(I)I"⟩
abbrev cX7_throwAway : ByteArray := prog_9_method_43_code
def yX7_throwAway : MethodName := ⟨RX7, "throwAway", "(I)I"⟩
abbrev cX7_scrap : ByteArray := prog_9_method_44_code
def yX7_scrap : MethodName := ⟨RX7, "scrap", "(I)I"⟩
abbrev cX7_of : ByteArray := prog_9_method_45_code
def yX7_of : MethodName := ⟨RX7, "of", "(II)I"⟩
abbrev cX7_piecesFrom : ByteArray := prog_9_method_46_code
def yX7_piecesFrom : MethodName := ⟨RX7, "piecesFrom", "(I)I"⟩
abbrev cX7_lettersThatFit : ByteArray := prog_9_method_47_code
def yX7_lettersThatFit : MethodName := ⟨RX7, "lettersThatFit", "(I)I"⟩
abbrev cX7_ofSheet : ByteArray := prog_9_method_48_code
def yX7_ofSheet : MethodName := ⟨RX7, "ofSheet", "(II)I"⟩
abbrev cX7_row : ByteArray := prog_9_method_49_code
def yX7_row : MethodName := ⟨RX7, "row", "(II)I"⟩
abbrev cX7_pane : ByteArray := prog_9_method_50_code
def yX7_pane : MethodName := ⟨RX7, "pane", "(II)I"⟩
abbrev cX7_shape : ByteArray := prog_9_method_51_code
def yX7_shape : MethodName := ⟨RX7, "shape", "(III)I"⟩
abbrev cX7_piecesThatAre : ByteArray := prog_9_method_52_code
def yX7_piecesThatAre : MethodName := ⟨RX7, "piecesThatAre", "(I)I"⟩
abbrev cX7_squaresOfPieces : ByteArray := prog_9_method_53_code
def yX7_squaresOfPieces : MethodName := ⟨RX7, "squaresOfPieces", "()I"⟩
abbrev cX7_squaresOfSheets : ByteArray := prog_9_method_54_code
def yX7_squaresOfSheets : MethodName := ⟨RX7, "squaresOfSheets", "()I"⟩
abbrev cX7_count : ByteArray := prog_9_method_55_code
def yX7_count : MethodName := ⟨RX7, "count", "(I)I"⟩
abbrev cX7_fit : ByteArray := prog_9_method_56_code
def yX7_fit : MethodName := ⟨RX7, "fit", "(IIII)I"⟩
abbrev cX7_manyOf : ByteArray := prog_9_method_57_code
def yX7_manyOf : MethodName := ⟨RX7, "manyOf", "(III)I"⟩
abbrev cX7_fits : ByteArray := prog_9_method_58_code
def yX7_fits : MethodName := ⟨RX7, "fits", "(II)I"⟩
abbrev cX7_colours : ByteArray := prog_9_method_59_code
def yX7_colours : MethodName := ⟨RX7, "colours", "(III)I"⟩
abbrev cX7_put : ByteArray := prog_9_method_60_code
def yX7_put : MethodName := ⟨RX7, "put", "(J)I"⟩
abbrev cX7_wipe : ByteArray := prog_9_method_61_code
def yX7_wipe : MethodName := ⟨RX7, "wipe", "()I"⟩
abbrev cX7_fault : ByteArray := prog_9_method_62_code
def yX7_fault : MethodName := ⟨RX7, "fault", "()I"⟩
abbrev cX7_undo : ByteArray := prog_9_method_63_code
def yX7_undo : MethodName := ⟨RX7, "undo", "()I"⟩
abbrev cX7_save : ByteArray := prog_9_method_64_code
def yX7_save : MethodName := ⟨RX7, "save", "(I)I"⟩
abbrev cX7_restore : ByteArray := prog_9_method_65_code
def yX7_restore : MethodName := ⟨RX7, "restore", "(I)I"⟩
def RJ11 : String := "java/lang/Character"
def TJ11 : u_T := fun k => match k with
  | _ => ("", "", "", false)
def tyJ11 : Nat → FieldType := fun k => match k with
  | _ => .int
abbrev wsJ110 : List Cond := u_ws RJ11 TJ11 0
theorem nmJ11 : ∀ a, a < 0 → ∀ b, b < 0 → a ≠ b → (TJ11 a).2.1 ≠ (TJ11 b).2.1 := by decide +kernel
theorem tyJ11_ok : ∀ k, k < 0 → parseFieldDescriptor (TJ11 k).2.2.1 = some (tyJ11 k) := by decide +kernel
abbrev cJ11_isValidCodePoint_9a6ad : ByteArray := prog_10_method_11_code
def yJ11_isValidCodePoint_9a6ad : MethodName := ⟨RJ11, "isValidCodePoint", "(I)Z"⟩
abbrev cJ11_highSurrogate_5068e : ByteArray := prog_10_method_28_code
def yJ11_highSurrogate_5068e : MethodName := ⟨RJ11, "highSurrogate", "(I)C"⟩
abbrev cJ11_lowSurrogate_5068e : ByteArray := prog_10_method_29_code
def yJ11_lowSurrogate_5068e : MethodName := ⟨RJ11, "lowSurrogate", "(I)C"⟩
def RJ6 : String := "java/lang/Integer"
def TJ6 : u_T := fun k => match k with
  | _ => ("", "", "", false)
def tyJ6 : Nat → FieldType := fun k => match k with
  | _ => .int
abbrev wsJ60 : List Cond := u_ws RJ6 TJ6 0
theorem nmJ6 : ∀ a, a < 0 → ∀ b, b < 0 → a ≠ b → (TJ6 a).2.1 ≠ (TJ6 b).2.1 := by decide +kernel
theorem tyJ6_ok : ∀ k, k < 0 → parseFieldDescriptor (TJ6 k).2.2.1 = some (tyJ6 k) := by decide +kernel
abbrev cJ6_bitCount_0f7a4 : ByteArray := prog_11_method_49_code
def yJ6_bitCount_0f7a4 : MethodName := ⟨RJ6, "bitCount", "(I)I"⟩
def RJ9 : String := "java/lang/Math"
def TJ9 : u_T := fun k => match k with
  | _ => ("", "", "", false)
def tyJ9 : Nat → FieldType := fun k => match k with
  | _ => .int
abbrev wsJ90 : List Cond := u_ws RJ9 TJ9 0
theorem nmJ9 : ∀ a, a < 0 → ∀ b, b < 0 → a ≠ b → (TJ9 a).2.1 ≠ (TJ9 b).2.1 := by decide +kernel
theorem tyJ9_ok : ∀ k, k < 0 → parseFieldDescriptor (TJ9 k).2.2.1 = some (tyJ9 k) := by decide +kernel
abbrev cJ9_floorMod_7cf53 : ByteArray := prog_12_method_50_code
def yJ9_floorMod_7cf53 : MethodName := ⟨RJ9, "floorMod", "(II)I"⟩
abbrev cJ9_max_7cf53 : ByteArray := prog_12_method_65_code
def yJ9_max_7cf53 : MethodName := ⟨RJ9, "max", "(II)I"⟩
abbrev cJ9_min_7cf53 : ByteArray := prog_12_method_69_code
def yJ9_min_7cf53 : MethodName := ⟨RJ9, "min", "(II)I"⟩
def RJ0 : String := "java/lang/String"
def TJ0 : u_T := fun k => match k with
  | _ => ("", "", "", false)
def tyJ0 : Nat → FieldType := fun k => match k with
  | _ => .int
abbrev wsJ00 : List Cond := u_ws RJ0 TJ0 0
theorem nmJ0 : ∀ a, a < 0 → ∀ b, b < 0 → a ≠ b → (TJ0 a).2.1 ≠ (TJ0 b).2.1 := by decide +kernel
theorem tyJ0_ok : ∀ k, k < 0 → parseFieldDescriptor (TJ0 k).2.2.1 = some (tyJ0 k) := by decide +kernel
abbrev cJ0_length_8abf5 : ByteArray := prog_13_method_54_code
def yJ0_length_8abf5 : MethodName := ⟨RJ0, "length", "()I"⟩
abbrev cJ0_indexOf_0f7a4 : ByteArray := prog_13_method_79_code
def yJ0_indexOf_0f7a4 : MethodName := ⟨RJ0, "indexOf", "(I)I"⟩
abbrev cJ0_indexOf_7cf53 : ByteArray := prog_13_method_80_code
def yJ0_indexOf_7cf53 : MethodName := ⟨RJ0, "indexOf", "(II)I"⟩
abbrev cJ0_coder_7d493 : ByteArray := prog_13_method_152_code
def yJ0_coder_7d493 : MethodName := ⟨RJ0, "coder", "()B"⟩
abbrev cJ0_isLatin1_aae02 : ByteArray := prog_13_method_154_code
def yJ0_isLatin1_aae02 : MethodName := ⟨RJ0, "isLatin1", "()Z"⟩
abbrev cJ0_checkBoundsBeginEnd_23922 : ByteArray := prog_13_method_158_code
def yJ0_checkBoundsBeginEnd_23922 : MethodName := ⟨RJ0, "checkBoundsBeginEnd", "(III)V"⟩
def RJ1 : String := "java/lang/StringLatin1"
def TJ1 : u_T := fun k => match k with
  | _ => ("", "", "", false)
def tyJ1 : Nat → FieldType := fun k => match k with
  | _ => .int
abbrev wsJ10 : List Cond := u_ws RJ1 TJ1 0
theorem nmJ1 : ∀ a, a < 0 → ∀ b, b < 0 → a ≠ b → (TJ1 a).2.1 ≠ (TJ1 b).2.1 := by decide +kernel
theorem tyJ1_ok : ∀ k, k < 0 → parseFieldDescriptor (TJ1 k).2.2.1 = some (tyJ1 k) := by decide +kernel
abbrev cJ1_canEncode_9a6ad : ByteArray := prog_14_method_4_code
def yJ1_canEncode_9a6ad : MethodName := ⟨RJ1, "canEncode", "(I)Z"⟩
abbrev cJ1_indexOf_4cfef : ByteArray := prog_14_method_22_code
def yJ1_indexOf_4cfef : MethodName := ⟨RJ1, "indexOf", "([BIII)I"⟩
abbrev cJ1_indexOfChar_4cfef : ByteArray := prog_14_method_23_code
def yJ1_indexOfChar_4cfef : MethodName := ⟨RJ1, "indexOfChar", "([BIII)I"⟩
def RJ2 : String := "java/lang/StringUTF16"
def TJ2 : u_T := fun k => match k with
  | _ => ("", "", "", false)
def tyJ2 : Nat → FieldType := fun k => match k with
  | _ => .int
abbrev wsJ20 : List Cond := u_ws RJ2 TJ2 0
theorem nmJ2 : ∀ a, a < 0 → ∀ b, b < 0 → a ≠ b → (TJ2 a).2.1 ≠ (TJ2 b).2.1 := by decide +kernel
theorem tyJ2_ok : ∀ k, k < 0 → parseFieldDescriptor (TJ2 k).2.2.1 = some (tyJ2 k) := by decide +kernel
abbrev cJ2_getChar_3b067 : ByteArray := prog_15_method_5_code
def yJ2_getChar_3b067 : MethodName := ⟨RJ2, "getChar", "([BI)C"⟩
abbrev cJ2_length_9d52b : ByteArray := prog_15_method_6_code
def yJ2_length_9d52b : MethodName := ⟨RJ2, "length", "([B)I"⟩
abbrev cJ2_indexOf_4cfef : ByteArray := prog_15_method_40_code
def yJ2_indexOf_4cfef : MethodName := ⟨RJ2, "indexOf", "([BIII)I"⟩
abbrev cJ2_indexOfChar_4cfef : ByteArray := prog_15_method_47_code
def yJ2_indexOfChar_4cfef : MethodName := ⟨RJ2, "indexOfChar", "([BIII)I"⟩
abbrev cJ2_indexOfCharUnsafe_4cfef : ByteArray := prog_15_method_48_code
def yJ2_indexOfCharUnsafe_4cfef : MethodName := ⟨RJ2, "indexOfCharUnsafe", "([BIII)I"⟩
abbrev cJ2_indexOfSupplementary_4cfef : ByteArray := prog_15_method_49_code
def yJ2_indexOfSupplementary_4cfef : MethodName := ⟨RJ2, "indexOfSupplementary", "([BIII)I"⟩
abbrev cJ2_checkBoundsBeginEnd_d044e : ByteArray := prog_15_method_93_code
def yJ2_checkBoundsBeginEnd_d044e : MethodName := ⟨RJ2, "checkBoundsBeginEnd", "(II[B)V"⟩
def RJ3 : String := "jdk/internal/util/Preconditions"
def TJ3 : u_T := fun k => match k with
  | _ => ("", "", "", false)
def tyJ3 : Nat → FieldType := fun k => match k with
  | _ => .int
abbrev wsJ30 : List Cond := u_ws RJ3 TJ3 0
theorem nmJ3 : ∀ a, a < 0 → ∀ b, b < 0 → a ≠ b → (TJ3 a).2.1 ≠ (TJ3 b).2.1 := by decide +kernel
theorem tyJ3_ok : ∀ k, k < 0 → parseFieldDescriptor (TJ3 k).2.2.1 = some (tyJ3 k) := by decide +kernel
abbrev cJ3_checkFromToIndex_8c36e : ByteArray := prog_16_method_12_code
def yJ3_checkFromToIndex_8c36e : MethodName := ⟨RJ3, "checkFromToIndex", "(IIILjava/util/function/BiFunction;)I"⟩
def RL : String := "WindowLettersLaw"
abbrev cL_law : ByteArray := code
def yL_law : MethodName := ⟨RL, "law", "([I)Z"⟩
abbrev vwCl : List vw_C := [(RX0, TX0, 4), (RX1, TX1, 2), (RX2, TX2, 7), (RX3, TX3, 1), (RX4, TX4, 4), (RX5, TX5, 6), (RX6, TX6, 7), (RX7, TX7, 10)]
def zT : List Cond := lw_tbl.filter goodWord
def zisNest : Cond → Bool
  | .fieldLinkNest .. => true
  | .methodLinkNest .. => true
  | _ => false
def zN : List Cond := lw_tbl.filter zisNest
theorem zT_sub : ∀ w ∈ zT, w ∈ lw_tbl := fun w h => (List.mem_filter.mp h).1
theorem zT_good {w : Cond} (h : w ∈ zT) : goodWord w = true := (List.mem_filter.mp h).2
theorem zmemN1 {w : Cond} {i : Nat} (h : tables_1_1[i]? = some w) (g : zisNest w = true) : w ∈ zN := List.mem_filter.mpr ⟨List.mem_append_right _ (List.mem_append_left _ (List.mem_of_getElem? h)), g⟩
theorem zmem1 {w : Cond} {i : Nat} (h : tables_1_1[i]? = some w) (g : goodWord w = true) : w ∈ zT := List.mem_filter.mpr ⟨List.mem_append_right _ (List.mem_append_left _ (List.mem_of_getElem? h)), g⟩
theorem zmemN2 {w : Cond} {i : Nat} (h : tables_1_2[i]? = some w) (g : zisNest w = true) : w ∈ zN := List.mem_filter.mpr ⟨List.mem_append_right _ (List.mem_append_right _ (List.mem_append_left _ (List.mem_of_getElem? h))), g⟩
theorem zmem2 {w : Cond} {i : Nat} (h : tables_1_2[i]? = some w) (g : goodWord w = true) : w ∈ zT := List.mem_filter.mpr ⟨List.mem_append_right _ (List.mem_append_right _ (List.mem_append_left _ (List.mem_of_getElem? h))), g⟩
theorem zmemN3 {w : Cond} {i : Nat} (h : tables_1_3[i]? = some w) (g : zisNest w = true) : w ∈ zN := List.mem_filter.mpr ⟨List.mem_append_right _ (List.mem_append_right _ (List.mem_append_right _ (List.mem_append_left _ (List.mem_of_getElem? h)))), g⟩
theorem zmem3 {w : Cond} {i : Nat} (h : tables_1_3[i]? = some w) (g : goodWord w = true) : w ∈ zT := List.mem_filter.mpr ⟨List.mem_append_right _ (List.mem_append_right _ (List.mem_append_right _ (List.mem_append_left _ (List.mem_of_getElem? h)))), g⟩
theorem zmemN4 {w : Cond} {i : Nat} (h : tables_1_4[i]? = some w) (g : zisNest w = true) : w ∈ zN := List.mem_filter.mpr ⟨List.mem_append_right _ (List.mem_append_right _ (List.mem_append_right _ (List.mem_append_right _ (List.mem_of_getElem? h)))), g⟩
theorem zmem4 {w : Cond} {i : Nat} (h : tables_1_4[i]? = some w) (g : goodWord w = true) : w ∈ zT := List.mem_filter.mpr ⟨List.mem_append_right _ (List.mem_append_right _ (List.mem_append_right _ (List.mem_append_right _ (List.mem_of_getElem? h)))), g⟩
theorem zmemP {w : Cond} {i : Nat} (h : (k2_sels lw_privs)[i]? = some w) (g : goodWord w = true) : w ∈ zT := List.mem_filter.mpr ⟨List.mem_append_left _ (List.mem_of_getElem? h), g⟩
theorem zmp_0 : Cond.selects "WindowLetters" ⟨"WindowLetters", "newDraft", "()LWindowLetters$Shop;"⟩ ⟨"WindowLetters", "newDraft", "()LWindowLetters$Shop;"⟩ ∈ zT := zmemP (i := 0) rfl rfl
theorem zmp_1 : Cond.selects "WindowLetters" ⟨"WindowLetters", "settle", "(I)I"⟩ ⟨"WindowLetters", "settle", "(I)I"⟩ ∈ zT := zmemP (i := 1) rfl rfl
theorem zmp_2 : Cond.selects "WindowLetters$Sheet" ⟨"WindowLetters$Sheet", "freeColumns", "(III)I"⟩ ⟨"WindowLetters$Sheet", "freeColumns", "(III)I"⟩ ∈ zT := zmemP (i := 2) rfl rfl
theorem zmp_3 : Cond.selects "WindowLetters$Shop" ⟨"WindowLetters$Shop", "addPiece", "(IIIII)I"⟩ ⟨"WindowLetters$Shop", "addPiece", "(IIIII)I"⟩ ∈ zT := zmemP (i := 3) rfl rfl
theorem zmp_4 : Cond.selects "WindowLetters$Shop" ⟨"WindowLetters$Shop", "lowestLoose", "(III)I"⟩ ⟨"WindowLetters$Shop", "lowestLoose", "(III)I"⟩ ∈ zT := zmemP (i := 4) rfl rfl
theorem zmp_5 : Cond.selects "WindowLetters$Shop" ⟨"WindowLetters$Shop", "piecesIn", "(I)I"⟩ ⟨"WindowLetters$Shop", "piecesIn", "(I)I"⟩ ∈ zT := zmemP (i := 5) rfl rfl
theorem zmp_6 : Cond.selects "WindowLettersModel" ⟨"WindowLettersModel", "record", "()V"⟩ ⟨"WindowLettersModel", "record", "()V"⟩ ∈ zT := zmemP (i := 6) rfl rfl
theorem zmp_7 : Cond.selects "WindowLettersModel" ⟨"WindowLettersModel", "isSheet", "(I)Z"⟩ ⟨"WindowLettersModel", "isSheet", "(I)Z"⟩ ∈ zT := zmemP (i := 7) rfl rfl
theorem zmp_8 : Cond.selects "WindowLettersModel" ⟨"WindowLettersModel", "canCut", "(IIIII)Z"⟩ ⟨"WindowLettersModel", "canCut", "(IIIII)Z"⟩ ∈ zT := zmemP (i := 8) rfl rfl
theorem zmp_9 : Cond.selects "WindowLettersModel" ⟨"WindowLettersModel", "shapeOf", "(III)I"⟩ ⟨"WindowLettersModel", "shapeOf", "(III)I"⟩ ∈ zT := zmemP (i := 9) rfl rfl
theorem zmp_10 : Cond.selects "WindowLettersModel" ⟨"WindowLettersModel", "newPiece", "(IIIII)I"⟩ ⟨"WindowLettersModel", "newPiece", "(IIIII)I"⟩ ∈ zT := zmemP (i := 10) rfl rfl
theorem zmp_11 : Cond.selects "WindowLettersModel" ⟨"WindowLettersModel", "cutsOut", "(IIIII)V"⟩ ⟨"WindowLettersModel", "cutsOut", "(IIIII)V"⟩ ∈ zT := zmemP (i := 11) rfl rfl
theorem zmp_12 : Cond.selects "WindowLettersModel" ⟨"WindowLettersModel", "sheetFor", "(III)I"⟩ ⟨"WindowLettersModel", "sheetFor", "(III)I"⟩ ∈ zT := zmemP (i := 12) rfl rfl
theorem zmp_13 : Cond.selects "WindowLettersModel" ⟨"WindowLettersModel", "findsFit", "(III)Z"⟩ ⟨"WindowLettersModel", "findsFit", "(III)Z"⟩ ∈ zT := zmemP (i := 13) rfl rfl
theorem zmp_14 : Cond.selects "WindowLettersModel" ⟨"WindowLettersModel", "canBeWritten", "(IIII)Z"⟩ ⟨"WindowLettersModel", "canBeWritten", "(IIII)Z"⟩ ∈ zT := zmemP (i := 14) rfl rfl
theorem zmp_15 : Cond.selects "WindowLettersModel" ⟨"WindowLettersModel", "putAside", "()V"⟩ ⟨"WindowLettersModel", "putAside", "()V"⟩ ∈ zT := zmemP (i := 15) rfl rfl
theorem zmp_16 : Cond.selects "WindowLettersModel" ⟨"WindowLettersModel", "writes", "(IIII)Z"⟩ ⟨"WindowLettersModel", "writes", "(IIII)Z"⟩ ∈ zT := zmemP (i := 16) rfl rfl
theorem zmp_17 : Cond.selects "WindowLettersModel" ⟨"WindowLettersModel", "pieceAt", "(II)I"⟩ ⟨"WindowLettersModel", "pieceAt", "(II)I"⟩ ∈ zT := zmemP (i := 17) rfl rfl
theorem zmp_18 : Cond.selects "WindowLettersModel" ⟨"WindowLettersModel", "pieceFor", "(III)I"⟩ ⟨"WindowLettersModel", "pieceFor", "(III)I"⟩ ∈ zT := zmemP (i := 18) rfl rfl
theorem zmp_19 : Cond.selects "WindowLettersModel" ⟨"WindowLettersModel", "looseOne", "(III)I"⟩ ⟨"WindowLettersModel", "looseOne", "(III)I"⟩ ∈ zT := zmemP (i := 19) rfl rfl
theorem zmp_20 : Cond.selects "WindowLettersModel" ⟨"WindowLettersModel", "puts", "(III)V"⟩ ⟨"WindowLettersModel", "puts", "(III)V"⟩ ∈ zT := zmemP (i := 20) rfl rfl
theorem zmp_21 : Cond.selects "WindowLettersModel" ⟨"WindowLettersModel", "putBack", "()V"⟩ ⟨"WindowLettersModel", "putBack", "()V"⟩ ∈ zT := zmemP (i := 21) rfl rfl
theorem zmp_22 : Cond.selects "WindowLettersModel" ⟨"WindowLettersModel", "isPiece", "(I)Z"⟩ ⟨"WindowLettersModel", "isPiece", "(I)Z"⟩ ∈ zT := zmemP (i := 22) rfl rfl
theorem zmp_23 : Cond.selects "WindowLettersModel" ⟨"WindowLettersModel", "isLoose", "(I)Z"⟩ ⟨"WindowLettersModel", "isLoose", "(I)Z"⟩ ∈ zT := zmemP (i := 23) rfl rfl
theorem zmp_24 : Cond.selects "WindowLettersModel" ⟨"WindowLettersModel", "inPane", "(I)I"⟩ ⟨"WindowLettersModel", "inPane", "(I)I"⟩ ∈ zT := zmemP (i := 24) rfl rfl
theorem zmp_25 : Cond.selects "WindowLettersModel" ⟨"WindowLettersModel", "squaresOf", "(I)I"⟩ ⟨"WindowLettersModel", "squaresOf", "(I)I"⟩ ∈ zT := zmemP (i := 25) rfl rfl
theorem zmp_26 : Cond.selects "WindowLettersModel" ⟨"WindowLettersModel", "uncut", "(I)I"⟩ ⟨"WindowLettersModel", "uncut", "(I)I"⟩ ∈ zT := zmemP (i := 26) rfl rfl
theorem zmp_27 : Cond.selects "WindowLettersModel" ⟨"WindowLettersModel", "piecesFrom", "(I)I"⟩ ⟨"WindowLettersModel", "piecesFrom", "(I)I"⟩ ∈ zT := zmemP (i := 27) rfl rfl
theorem zmp_28 : Cond.selects "WindowLettersModel" ⟨"WindowLettersModel", "lettersThatFit", "(I)I"⟩ ⟨"WindowLettersModel", "lettersThatFit", "(I)I"⟩ ∈ zT := zmemP (i := 28) rfl rfl
theorem zmp_29 : Cond.selects "WindowLettersModel" ⟨"WindowLettersModel", "piecesThatAre", "(I)I"⟩ ⟨"WindowLettersModel", "piecesThatAre", "(I)I"⟩ ∈ zT := zmemP (i := 29) rfl rfl
theorem zmp_30 : Cond.selects "WindowLettersModel" ⟨"WindowLettersModel", "squaresOfSheets", "()I"⟩ ⟨"WindowLettersModel", "squaresOfSheets", "()I"⟩ ∈ zT := zmemP (i := 30) rfl rfl
theorem zmp_31 : Cond.selects "WindowLettersModel" ⟨"WindowLettersModel", "squaresOfPieces", "()I"⟩ ⟨"WindowLettersModel", "squaresOfPieces", "()I"⟩ ∈ zT := zmemP (i := 31) rfl rfl
theorem zm_0 : (Jvm.Cond.initialized "WindowLettersLaw") ∈ zT := zmem1 (i := 0) rfl rfl
theorem zm_1 : (Jvm.Cond.initialized "WindowLetters") ∈ zT := zmem1 (i := 1) rfl rfl
theorem zm_2 : (Jvm.Cond.initialized "WindowLetters$Shapes") ∈ zT := zmem1 (i := 2) rfl rfl
theorem zm_3 : (Jvm.Cond.initialized "WindowLetters$Shop") ∈ zT := zmem1 (i := 3) rfl rfl
theorem zm_4 : (Jvm.Cond.initialized "WindowLetters$Sheet") ∈ zT := zmem1 (i := 4) rfl rfl
theorem zm_5 : (Jvm.Cond.initialized "WindowLetters$Piece") ∈ zT := zmem1 (i := 5) rfl rfl
theorem zm_6 : (Jvm.Cond.initialized "WindowLetters$History") ∈ zT := zmem1 (i := 6) rfl rfl
theorem zm_7 : (Jvm.Cond.initialized "WindowLetters$Pad") ∈ zT := zmem1 (i := 7) rfl rfl
theorem zm_8 : (Jvm.Cond.initialized "WindowLettersModel") ∈ zT := zmem1 (i := 8) rfl rfl
theorem zm_9 : (Jvm.Cond.initialized "java/lang/Math") ∈ zT := zmem1 (i := 9) rfl rfl
theorem zm_10 : (Jvm.Cond.initialized "java/lang/Integer") ∈ zT := zmem1 (i := 10) rfl rfl
theorem zm_11 : (Jvm.Cond.initialized "java/lang/String") ∈ zT := zmem1 (i := 11) rfl rfl
theorem zm_12 : (Jvm.Cond.initialized "java/lang/StringLatin1") ∈ zT := zmem1 (i := 12) rfl rfl
theorem zm_13 : (Jvm.Cond.initialized "java/lang/StringUTF16") ∈ zT := zmem1 (i := 13) rfl rfl
theorem zm_14 : (Jvm.Cond.initialized "jdk/internal/util/Preconditions") ∈ zT := zmem1 (i := 14) rfl rfl
theorem zm_15 : (Jvm.Cond.initialized "java/lang/Character") ∈ zT := zmem1 (i := 15) rfl rfl
theorem zm_16 : (Jvm.Cond.classLink "WindowLettersLaw" (7 : Nat) "WindowLetters") ∈ zT := zmem1 (i := 16) rfl rfl
theorem zm_17 : (Jvm.Cond.instantiable "WindowLetters" (7 : Nat)) ∈ zT := zmem1 (i := 17) rfl rfl
theorem zm_18 : (Jvm.Cond.methodLink "WindowLettersLaw" (9 : Nat) ({ cls := "WindowLetters", name := "<init>", desc := "()V" } : Jvm.MethodName)) ∈ zT := zmem1 (i := 18) rfl rfl
theorem zm_19 : (Jvm.Cond.instanceMethod ({ cls := "WindowLetters", name := "<init>", desc := "()V" } : Jvm.MethodName)) ∈ zT := zmem1 (i := 19) rfl rfl
theorem zm_20 : (Jvm.Cond.code ({ cls := "WindowLetters", name := "<init>", desc := "()V" } : Jvm.MethodName) prog_1_method_1_code (1 : Nat) (Option.none : Option Jvm.ClassFile.FieldType)) ∈ zT := zmem1 (i := 20) rfl rfl
theorem zm_21 : (Jvm.Cond.methodLink "WindowLetters" (1 : Nat) ({ cls := "java/lang/Object", name := "<init>", desc := "()V" } : Jvm.MethodName)) ∈ zT := zmem1 (i := 21) rfl rfl
theorem zm_22 : (Jvm.Cond.instanceMethod ({ cls := "java/lang/Object", name := "<init>", desc := "()V" } : Jvm.MethodName)) ∈ zT := zmem1 (i := 22) rfl rfl
theorem zm_23 : (Jvm.Cond.code ({ cls := "java/lang/Object", name := "<init>", desc := "()V" } : Jvm.MethodName) object_method_1_code (1 : Nat) (Option.none : Option Jvm.ClassFile.FieldType)) ∈ zT := zmem1 (i := 23) rfl rfl
theorem zm_24 : (Jvm.Cond.classLink "WindowLetters" (7 : Nat) "WindowLetters$Shapes") ∈ zT := zmem1 (i := 24) rfl rfl
theorem zm_25 : (Jvm.Cond.instantiable "WindowLetters$Shapes" (1 : Nat)) ∈ zT := zmem1 (i := 25) rfl rfl
theorem zm_26 : (Jvm.Cond.methodLink "WindowLetters" (9 : Nat) ({ cls := "WindowLetters$Shapes", name := "<init>", desc := "()V" } : Jvm.MethodName)) ∈ zT := zmem1 (i := 26) rfl rfl
theorem zm_27 : (Jvm.Cond.instanceMethod ({ cls := "WindowLetters$Shapes", name := "<init>", desc := "()V" } : Jvm.MethodName)) ∈ zT := zmem1 (i := 27) rfl rfl
theorem zm_28 : (Jvm.Cond.code ({ cls := "WindowLetters$Shapes", name := "<init>", desc := "()V" } : Jvm.MethodName) prog_5_method_1_code (4 : Nat) (Option.none : Option Jvm.ClassFile.FieldType)) ∈ zT := zmem1 (i := 28) rfl rfl
theorem zm_29 : (Jvm.Cond.methodLink "WindowLetters$Shapes" (3 : Nat) ({ cls := "java/lang/Object", name := "<init>", desc := "()V" } : Jvm.MethodName)) ∈ zT := zmem1 (i := 29) rfl rfl
theorem zm_30 : (Jvm.Cond.methodLinkNest "WindowLetters$Shapes" (15 : Nat) ({ cls := "WindowLetters", name := "heightOf", desc := "(I)I" } : Jvm.MethodName) "WindowLetters") ∈ zN := zmemN1 (i := 30) rfl rfl
theorem zm_31 : (Jvm.Cond.static ({ cls := "WindowLetters", name := "heightOf", desc := "(I)I" } : Jvm.MethodName)) ∈ zT := zmem1 (i := 31) rfl rfl
theorem zm_32 : (Jvm.Cond.code ({ cls := "WindowLetters", name := "heightOf", desc := "(I)I" } : Jvm.MethodName) prog_1_method_35_code (1 : Nat) (Option.some Jvm.ClassFile.FieldType.int)) ∈ zT := zmem1 (i := 32) rfl rfl
theorem zm_33 : (Jvm.Cond.methodLink "WindowLetters$Shapes" (19 : Nat) ({ cls := "WindowLetters$Shapes", name := "turnedRow", desc := "(III)I" } : Jvm.MethodName)) ∈ zT := zmem1 (i := 33) rfl rfl
theorem zm_34 : (Jvm.Cond.static ({ cls := "WindowLetters$Shapes", name := "turnedRow", desc := "(III)I" } : Jvm.MethodName)) ∈ zT := zmem1 (i := 34) rfl rfl
theorem zm_35 : (Jvm.Cond.code ({ cls := "WindowLetters$Shapes", name := "turnedRow", desc := "(III)I" } : Jvm.MethodName) prog_5_method_4_code (5 : Nat) (Option.some Jvm.ClassFile.FieldType.int)) ∈ zT := zmem1 (i := 35) rfl rfl
theorem zm_36 : (Jvm.Cond.methodLinkNest "WindowLetters$Shapes" (38 : Nat) ({ cls := "WindowLetters", name := "widthOf", desc := "(I)I" } : Jvm.MethodName) "WindowLetters") ∈ zN := zmemN1 (i := 36) rfl rfl
theorem zm_37 : (Jvm.Cond.static ({ cls := "WindowLetters", name := "widthOf", desc := "(I)I" } : Jvm.MethodName)) ∈ zT := zmem1 (i := 37) rfl rfl
theorem zm_38 : (Jvm.Cond.code ({ cls := "WindowLetters", name := "widthOf", desc := "(I)I" } : Jvm.MethodName) prog_1_method_36_code (1 : Nat) (Option.some Jvm.ClassFile.FieldType.int)) ∈ zT := zmem1 (i := 38) rfl rfl
theorem zm_39 : (Jvm.Cond.methodLink "WindowLetters$Shapes" (41 : Nat) ({ cls := "WindowLetters$Shapes", name := "hasSquare", desc := "(IIII)Z" } : Jvm.MethodName)) ∈ zT := zmem1 (i := 39) rfl rfl
theorem zm_40 : (Jvm.Cond.static ({ cls := "WindowLetters$Shapes", name := "hasSquare", desc := "(IIII)Z" } : Jvm.MethodName)) ∈ zT := zmem1 (i := 40) rfl rfl
theorem zm_41 : (Jvm.Cond.code ({ cls := "WindowLetters$Shapes", name := "hasSquare", desc := "(IIII)Z" } : Jvm.MethodName) prog_5_method_5_code (6 : Nat) (Option.some Jvm.ClassFile.FieldType.boolean)) ∈ zT := zmem1 (i := 41) rfl rfl
theorem zm_42 : (Jvm.Cond.methodLinkNest "WindowLetters$Shapes" (45 : Nat) ({ cls := "WindowLetters", name := "mirroringOf", desc := "(I)I" } : Jvm.MethodName) "WindowLetters") ∈ zN := zmemN1 (i := 42) rfl rfl
theorem zm_43 : (Jvm.Cond.static ({ cls := "WindowLetters", name := "mirroringOf", desc := "(I)I" } : Jvm.MethodName)) ∈ zT := zmem1 (i := 43) rfl rfl
theorem zm_44 : (Jvm.Cond.code ({ cls := "WindowLetters", name := "mirroringOf", desc := "(I)I" } : Jvm.MethodName) prog_1_method_37_code (1 : Nat) (Option.some Jvm.ClassFile.FieldType.int)) ∈ zT := zmem1 (i := 44) rfl rfl
theorem zm_45 : (Jvm.Cond.methodLink "WindowLetters$Shapes" (48 : Nat) ({ cls := "WindowLetters$Shapes", name := "uprightHas", desc := "(III)Z" } : Jvm.MethodName)) ∈ zT := zmem1 (i := 45) rfl rfl
theorem zm_46 : (Jvm.Cond.static ({ cls := "WindowLetters$Shapes", name := "uprightHas", desc := "(III)Z" } : Jvm.MethodName)) ∈ zT := zmem1 (i := 46) rfl rfl
theorem zm_47 : (Jvm.Cond.code ({ cls := "WindowLetters$Shapes", name := "uprightHas", desc := "(III)Z" } : Jvm.MethodName) prog_5_method_6_code (4 : Nat) (Option.some Jvm.ClassFile.FieldType.boolean)) ∈ zT := zmem1 (i := 47) rfl rfl
theorem zm_48 : (Jvm.Cond.methodLinkNest "WindowLetters$Shapes" (23 : Nat) ({ cls := "WindowLetters", name := "isLetter", desc := "(I)Z" } : Jvm.MethodName) "WindowLetters") ∈ zN := zmemN1 (i := 48) rfl rfl
theorem zm_49 : (Jvm.Cond.static ({ cls := "WindowLetters", name := "isLetter", desc := "(I)Z" } : Jvm.MethodName)) ∈ zT := zmem1 (i := 49) rfl rfl
theorem zm_50 : (Jvm.Cond.code ({ cls := "WindowLetters", name := "isLetter", desc := "(I)Z" } : Jvm.MethodName) prog_1_method_29_code (1 : Nat) (Option.some Jvm.ClassFile.FieldType.boolean)) ∈ zT := zmem1 (i := 50) rfl rfl
theorem zm_51 : (Jvm.Cond.fieldLinkNest "WindowLetters$Shapes" (52 : Nat) "WindowLetters" "LETTER_ROWS" "[I" "WindowLetters") ∈ zN := zmemN1 (i := 51) rfl rfl
theorem zm_53 : (Jvm.Cond.fieldLink "WindowLetters$Shapes" (9 : Nat) "WindowLetters$Shapes" "rows" "[I") ∈ zT := zmem1 (i := 53) rfl rfl
theorem zm_54 : (Jvm.Cond.laysFinal "WindowLetters$Shapes" "WindowLetters$Shapes" "rows" "[I") ∈ zT := zmem1 (i := 54) rfl rfl
theorem zm_57 : (Jvm.Cond.arrayClass Jvm.ClassFile.FieldType.int) ∈ zT := zmem1 (i := 57) rfl rfl
theorem zm_58 : (Jvm.Cond.classLink "WindowLetters" (16 : Nat) "WindowLetters$Shop") ∈ zT := zmem1 (i := 58) rfl rfl
theorem zm_59 : (Jvm.Cond.instantiable "WindowLetters$Shop" (6 : Nat)) ∈ zT := zmem1 (i := 59) rfl rfl
theorem zm_60 : (Jvm.Cond.methodLink "WindowLetters" (18 : Nat) ({ cls := "WindowLetters$Shop", name := "<init>", desc := "(LWindowLetters$Shapes;)V" } : Jvm.MethodName)) ∈ zT := zmem1 (i := 60) rfl rfl
theorem zm_61 : (Jvm.Cond.instanceMethod ({ cls := "WindowLetters$Shop", name := "<init>", desc := "(LWindowLetters$Shapes;)V" } : Jvm.MethodName)) ∈ zT := zmem1 (i := 61) rfl rfl
theorem zm_62 : (Jvm.Cond.code ({ cls := "WindowLetters$Shop", name := "<init>", desc := "(LWindowLetters$Shapes;)V" } : Jvm.MethodName) prog_7_method_1_code (3 : Nat) (Option.none : Option Jvm.ClassFile.FieldType)) ∈ zT := zmem1 (i := 62) rfl rfl
theorem zm_63 : (Jvm.Cond.methodLink "WindowLetters$Shop" (3 : Nat) ({ cls := "java/lang/Object", name := "<init>", desc := "()V" } : Jvm.MethodName)) ∈ zT := zmem1 (i := 63) rfl rfl
theorem zm_64 : (Jvm.Cond.classLink "WindowLetters$Shop" (9 : Nat) "WindowLetters$Sheet") ∈ zT := zmem1 (i := 64) rfl rfl
theorem zm_66 : (Jvm.Cond.classLink "WindowLetters$Shop" (17 : Nat) "WindowLetters$Piece") ∈ zT := zmem1 (i := 66) rfl rfl
theorem zm_68 : (Jvm.Cond.instantiable "WindowLetters$Sheet" (4 : Nat)) ∈ zT := zmem1 (i := 68) rfl rfl
theorem zm_69 : (Jvm.Cond.methodLink "WindowLetters$Shop" (31 : Nat) ({ cls := "WindowLetters$Sheet", name := "<init>", desc := "(LWindowLetters$Shapes;)V" } : Jvm.MethodName)) ∈ zT := zmem1 (i := 69) rfl rfl
theorem zm_70 : (Jvm.Cond.instanceMethod ({ cls := "WindowLetters$Sheet", name := "<init>", desc := "(LWindowLetters$Shapes;)V" } : Jvm.MethodName)) ∈ zT := zmem1 (i := 70) rfl rfl
theorem zm_71 : (Jvm.Cond.code ({ cls := "WindowLetters$Sheet", name := "<init>", desc := "(LWindowLetters$Shapes;)V" } : Jvm.MethodName) prog_6_method_1_code (2 : Nat) (Option.none : Option Jvm.ClassFile.FieldType)) ∈ zT := zmem1 (i := 71) rfl rfl
theorem zm_72 : (Jvm.Cond.methodLink "WindowLetters$Sheet" (3 : Nat) ({ cls := "java/lang/Object", name := "<init>", desc := "()V" } : Jvm.MethodName)) ∈ zT := zmem1 (i := 72) rfl rfl
theorem zm_73 : (Jvm.Cond.fieldLink "WindowLetters$Sheet" (15 : Nat) "WindowLetters$Sheet" "shapes" "LWindowLetters$Shapes;") ∈ zT := zmem1 (i := 73) rfl rfl
theorem zm_74 : (Jvm.Cond.fieldLink "WindowLetters$Sheet" (9 : Nat) "WindowLetters$Sheet" "cutColumns" "[I") ∈ zT := zmem1 (i := 74) rfl rfl
theorem zm_75 : (Jvm.Cond.fieldLinkNest "WindowLetters" (163 : Nat) "WindowLetters$Sheet" "cutColumns" "[I" "WindowLetters") ∈ zN := zmemN1 (i := 75) rfl rfl
theorem zm_76 : (Jvm.Cond.fieldLink "WindowLetters$Sheet" (19 : Nat) "WindowLetters$Sheet" "colour" "I") ∈ zT := zmem1 (i := 76) rfl rfl
theorem zm_77 : (Jvm.Cond.fieldLinkNest "WindowLetters$Shop" (49 : Nat) "WindowLetters$Sheet" "colour" "I" "WindowLetters") ∈ zN := zmemN1 (i := 77) rfl rfl
theorem zm_78 : (Jvm.Cond.fieldLinkNest "WindowLetters" (149 : Nat) "WindowLetters$Sheet" "colour" "I" "WindowLetters") ∈ zN := zmemN1 (i := 78) rfl rfl
theorem zm_79 : (Jvm.Cond.fieldLink "WindowLetters$Sheet" (23 : Nat) "WindowLetters$Sheet" "scrapped" "Z") ∈ zT := zmem1 (i := 79) rfl rfl
theorem zm_80 : (Jvm.Cond.fieldLinkNest "WindowLetters" (156 : Nat) "WindowLetters$Sheet" "scrapped" "Z" "WindowLetters") ∈ zN := zmemN1 (i := 80) rfl rfl
theorem zm_81 : (Jvm.Cond.fieldLinkNest "WindowLetters$Shop" (144 : Nat) "WindowLetters$Sheet" "scrapped" "Z" "WindowLetters") ∈ zN := zmemN1 (i := 81) rfl rfl
theorem zm_82 : (Jvm.Cond.laysFinal "WindowLetters$Sheet" "WindowLetters$Sheet" "shapes" "LWindowLetters$Shapes;") ∈ zT := zmem1 (i := 82) rfl rfl
theorem zm_84 : (Jvm.Cond.laysFinal "WindowLetters$Sheet" "WindowLetters$Sheet" "cutColumns" "[I") ∈ zT := zmem1 (i := 84) rfl rfl
theorem zm_86 : (Jvm.Cond.lays "WindowLetters$Sheet" "WindowLetters$Sheet" "colour" "I") ∈ zT := zmem1 (i := 86) rfl rfl
theorem zm_88 : (Jvm.Cond.lays "WindowLetters$Sheet" "WindowLetters$Sheet" "scrapped" "Z") ∈ zT := zmem1 (i := 88) rfl rfl
theorem zm_91 : (Jvm.Cond.instantiable "WindowLetters$Piece" (7 : Nat)) ∈ zT := zmem1 (i := 91) rfl rfl
theorem zm_92 : (Jvm.Cond.methodLinkNest "WindowLetters$Shop" (34 : Nat) ({ cls := "WindowLetters$Piece", name := "<init>", desc := "()V" } : Jvm.MethodName) "WindowLetters") ∈ zN := zmemN1 (i := 92) rfl rfl
theorem zm_93 : (Jvm.Cond.instanceMethod ({ cls := "WindowLetters$Piece", name := "<init>", desc := "()V" } : Jvm.MethodName)) ∈ zT := zmem1 (i := 93) rfl rfl
theorem zm_94 : (Jvm.Cond.code ({ cls := "WindowLetters$Piece", name := "<init>", desc := "()V" } : Jvm.MethodName) prog_4_method_1_code (1 : Nat) (Option.none : Option Jvm.ClassFile.FieldType)) ∈ zT := zmem1 (i := 94) rfl rfl
theorem zm_95 : (Jvm.Cond.methodLink "WindowLetters$Piece" (3 : Nat) ({ cls := "java/lang/Object", name := "<init>", desc := "()V" } : Jvm.MethodName)) ∈ zT := zmem1 (i := 95) rfl rfl
theorem zm_96 : (Jvm.Cond.fieldLink "WindowLetters$Piece" (9 : Nat) "WindowLetters$Piece" "letter" "I") ∈ zT := zmem1 (i := 96) rfl rfl
theorem zm_97 : (Jvm.Cond.fieldLinkNest "WindowLetters$Shop" (68 : Nat) "WindowLetters$Piece" "letter" "I" "WindowLetters") ∈ zN := zmemN1 (i := 97) rfl rfl
theorem zm_98 : (Jvm.Cond.fieldLinkNest "WindowLetters" (122 : Nat) "WindowLetters$Piece" "letter" "I" "WindowLetters") ∈ zN := zmemN1 (i := 98) rfl rfl
theorem zm_99 : (Jvm.Cond.fieldLink "WindowLetters$Piece" (15 : Nat) "WindowLetters$Piece" "colour" "I") ∈ zT := zmem1 (i := 99) rfl rfl
theorem zm_100 : (Jvm.Cond.fieldLinkNest "WindowLetters$Shop" (71 : Nat) "WindowLetters$Piece" "colour" "I" "WindowLetters") ∈ zN := zmemN1 (i := 100) rfl rfl
theorem zm_101 : (Jvm.Cond.fieldLinkNest "WindowLetters" (128 : Nat) "WindowLetters$Piece" "colour" "I" "WindowLetters") ∈ zN := zmemN1 (i := 101) rfl rfl
theorem zm_102 : (Jvm.Cond.fieldLink "WindowLetters$Piece" (18 : Nat) "WindowLetters$Piece" "way" "I") ∈ zT := zmem1 (i := 102) rfl rfl
theorem zm_103 : (Jvm.Cond.fieldLinkNest "WindowLetters$Shop" (72 : Nat) "WindowLetters$Piece" "way" "I" "WindowLetters") ∈ zN := zmemN1 (i := 103) rfl rfl
theorem zm_104 : (Jvm.Cond.fieldLinkNest "WindowLetters" (131 : Nat) "WindowLetters$Piece" "way" "I" "WindowLetters") ∈ zN := zmemN1 (i := 104) rfl rfl
theorem zm_105 : (Jvm.Cond.fieldLink "WindowLetters$Piece" (21 : Nat) "WindowLetters$Piece" "sheet" "I") ∈ zT := zmem1 (i := 105) rfl rfl
theorem zm_106 : (Jvm.Cond.fieldLinkNest "WindowLetters$Shop" (75 : Nat) "WindowLetters$Piece" "sheet" "I" "WindowLetters") ∈ zN := zmemN1 (i := 106) rfl rfl
theorem zm_107 : (Jvm.Cond.fieldLinkNest "WindowLetters" (143 : Nat) "WindowLetters$Piece" "sheet" "I" "WindowLetters") ∈ zN := zmemN1 (i := 107) rfl rfl
theorem zm_108 : (Jvm.Cond.fieldLink "WindowLetters$Piece" (24 : Nat) "WindowLetters$Piece" "corner" "I") ∈ zT := zmem1 (i := 108) rfl rfl
theorem zm_109 : (Jvm.Cond.fieldLinkNest "WindowLetters$Shop" (78 : Nat) "WindowLetters$Piece" "corner" "I" "WindowLetters") ∈ zN := zmemN1 (i := 109) rfl rfl
theorem zm_110 : (Jvm.Cond.fieldLinkNest "WindowLetters" (146 : Nat) "WindowLetters$Piece" "corner" "I" "WindowLetters") ∈ zN := zmemN1 (i := 110) rfl rfl
theorem zm_111 : (Jvm.Cond.fieldLink "WindowLetters$Piece" (27 : Nat) "WindowLetters$Piece" "state" "I") ∈ zT := zmem1 (i := 111) rfl rfl
theorem zm_112 : (Jvm.Cond.fieldLinkNest "WindowLetters$Shop" (120 : Nat) "WindowLetters$Piece" "state" "I" "WindowLetters") ∈ zN := zmemN1 (i := 112) rfl rfl
theorem zm_113 : (Jvm.Cond.fieldLinkNest "WindowLetters" (137 : Nat) "WindowLetters$Piece" "state" "I" "WindowLetters") ∈ zN := zmemN1 (i := 113) rfl rfl
theorem zm_114 : (Jvm.Cond.fieldLink "WindowLetters$Piece" (30 : Nat) "WindowLetters$Piece" "spot" "I") ∈ zT := zmem1 (i := 114) rfl rfl
theorem zm_115 : (Jvm.Cond.fieldLinkNest "WindowLetters" (140 : Nat) "WindowLetters$Piece" "spot" "I" "WindowLetters") ∈ zN := zmemN1 (i := 115) rfl rfl
theorem zm_116 : (Jvm.Cond.fieldLinkNest "WindowLetters$Shop" (133 : Nat) "WindowLetters$Piece" "spot" "I" "WindowLetters") ∈ zN := zmemN1 (i := 116) rfl rfl
theorem zm_117 : (Jvm.Cond.lays "WindowLetters$Piece" "WindowLetters$Piece" "letter" "I") ∈ zT := zmem1 (i := 117) rfl rfl
theorem zm_119 : (Jvm.Cond.lays "WindowLetters$Piece" "WindowLetters$Piece" "colour" "I") ∈ zT := zmem1 (i := 119) rfl rfl
theorem zm_121 : (Jvm.Cond.lays "WindowLetters$Piece" "WindowLetters$Piece" "way" "I") ∈ zT := zmem1 (i := 121) rfl rfl
theorem zm_123 : (Jvm.Cond.lays "WindowLetters$Piece" "WindowLetters$Piece" "sheet" "I") ∈ zT := zmem1 (i := 123) rfl rfl
theorem zm_125 : (Jvm.Cond.lays "WindowLetters$Piece" "WindowLetters$Piece" "corner" "I") ∈ zT := zmem1 (i := 125) rfl rfl
theorem zm_127 : (Jvm.Cond.lays "WindowLetters$Piece" "WindowLetters$Piece" "state" "I") ∈ zT := zmem1 (i := 127) rfl rfl
theorem zm_129 : (Jvm.Cond.lays "WindowLetters$Piece" "WindowLetters$Piece" "spot" "I") ∈ zT := zmem1 (i := 129) rfl rfl
theorem zm_132 : (Jvm.Cond.fieldLink "WindowLetters$Shop" (27 : Nat) "WindowLetters$Shop" "shapes" "LWindowLetters$Shapes;") ∈ zT := zmem1 (i := 132) rfl rfl
theorem zm_133 : (Jvm.Cond.fieldLink "WindowLetters$Shop" (11 : Nat) "WindowLetters$Shop" "sheets" "[LWindowLetters$Sheet;") ∈ zT := zmem1 (i := 133) rfl rfl
theorem zm_134 : (Jvm.Cond.fieldLink "WindowLetters$Shop" (19 : Nat) "WindowLetters$Shop" "pieces" "[LWindowLetters$Piece;") ∈ zT := zmem1 (i := 134) rfl rfl
theorem zm_135 : (Jvm.Cond.fieldLink "WindowLetters$Shop" (23 : Nat) "WindowLetters$Shop" "spots" "[I") ∈ zT := zmem1 (i := 135) rfl rfl
theorem zm_136 : (Jvm.Cond.fieldLinkNest "WindowLetters" (167 : Nat) "WindowLetters$Shop" "spots" "[I" "WindowLetters") ∈ zN := zmemN1 (i := 136) rfl rfl
theorem zm_137 : (Jvm.Cond.fieldLink "WindowLetters$Shop" (35 : Nat) "WindowLetters$Shop" "sheetCount" "I") ∈ zT := zmem1 (i := 137) rfl rfl
theorem zm_138 : (Jvm.Cond.fieldLinkNest "WindowLetters" (173 : Nat) "WindowLetters$Shop" "sheetCount" "I" "WindowLetters") ∈ zN := zmemN1 (i := 138) rfl rfl
theorem zm_139 : (Jvm.Cond.fieldLink "WindowLetters$Shop" (39 : Nat) "WindowLetters$Shop" "pieceCount" "I") ∈ zT := zmem1 (i := 139) rfl rfl
theorem zm_140 : (Jvm.Cond.fieldLinkNest "WindowLetters" (176 : Nat) "WindowLetters$Shop" "pieceCount" "I" "WindowLetters") ∈ zN := zmemN1 (i := 140) rfl rfl
theorem zm_141 : (Jvm.Cond.laysFinal "WindowLetters$Shop" "WindowLetters$Shop" "shapes" "LWindowLetters$Shapes;") ∈ zT := zmem1 (i := 141) rfl rfl
theorem zm_143 : (Jvm.Cond.laysFinal "WindowLetters$Shop" "WindowLetters$Shop" "sheets" "[LWindowLetters$Sheet;") ∈ zT := zmem1 (i := 143) rfl rfl
theorem zm_145 : (Jvm.Cond.laysFinal "WindowLetters$Shop" "WindowLetters$Shop" "pieces" "[LWindowLetters$Piece;") ∈ zT := zmem1 (i := 145) rfl rfl
theorem zm_147 : (Jvm.Cond.laysFinal "WindowLetters$Shop" "WindowLetters$Shop" "spots" "[I") ∈ zT := zmem1 (i := 147) rfl rfl
theorem zm_149 : (Jvm.Cond.lays "WindowLetters$Shop" "WindowLetters$Shop" "sheetCount" "I") ∈ zT := zmem1 (i := 149) rfl rfl
theorem zm_151 : (Jvm.Cond.lays "WindowLetters$Shop" "WindowLetters$Shop" "pieceCount" "I") ∈ zT := zmem1 (i := 151) rfl rfl
theorem zm_154 : (Jvm.Cond.classLink "WindowLetters" (28 : Nat) "WindowLetters$Sheet") ∈ zT := zmem1 (i := 154) rfl rfl
theorem zm_155 : (Jvm.Cond.methodLink "WindowLetters" (30 : Nat) ({ cls := "WindowLetters$Sheet", name := "<init>", desc := "(LWindowLetters$Shapes;)V" } : Jvm.MethodName)) ∈ zT := zmem1 (i := 155) rfl rfl
theorem zm_157 : (Jvm.Cond.classLink "WindowLetters" (39 : Nat) "WindowLetters$History") ∈ zT := zmem1 (i := 157) rfl rfl
theorem zm_158 : (Jvm.Cond.instantiable "WindowLetters$History" (4 : Nat)) ∈ zT := zmem1 (i := 158) rfl rfl
theorem zm_159 : (Jvm.Cond.methodLink "WindowLetters" (41 : Nat) ({ cls := "WindowLetters$History", name := "<init>", desc := "(LWindowLetters$Shapes;)V" } : Jvm.MethodName)) ∈ zT := zmem1 (i := 159) rfl rfl
theorem zm_160 : (Jvm.Cond.instanceMethod ({ cls := "WindowLetters$History", name := "<init>", desc := "(LWindowLetters$Shapes;)V" } : Jvm.MethodName)) ∈ zT := zmem1 (i := 160) rfl rfl
theorem zm_161 : (Jvm.Cond.code ({ cls := "WindowLetters$History", name := "<init>", desc := "(LWindowLetters$Shapes;)V" } : Jvm.MethodName) prog_2_method_1_code (2 : Nat) (Option.none : Option Jvm.ClassFile.FieldType)) ∈ zT := zmem1 (i := 161) rfl rfl
theorem zm_162 : (Jvm.Cond.methodLink "WindowLetters$History" (3 : Nat) ({ cls := "java/lang/Object", name := "<init>", desc := "()V" } : Jvm.MethodName)) ∈ zT := zmem1 (i := 162) rfl rfl
theorem zm_163 : (Jvm.Cond.classLink "WindowLetters$History" (9 : Nat) "WindowLetters$Shop") ∈ zT := zmem1 (i := 163) rfl rfl
theorem zm_164 : (Jvm.Cond.fieldLink "WindowLetters$History" (17 : Nat) "WindowLetters$History" "shapes" "LWindowLetters$Shapes;") ∈ zT := zmem1 (i := 164) rfl rfl
theorem zm_165 : (Jvm.Cond.fieldLink "WindowLetters$History" (11 : Nat) "WindowLetters$History" "states" "[LWindowLetters$Shop;") ∈ zT := zmem1 (i := 165) rfl rfl
theorem zm_166 : (Jvm.Cond.fieldLink "WindowLetters$History" (21 : Nat) "WindowLetters$History" "oldest" "I") ∈ zT := zmem1 (i := 166) rfl rfl
theorem zm_167 : (Jvm.Cond.fieldLink "WindowLetters$History" (25 : Nat) "WindowLetters$History" "length" "I") ∈ zT := zmem1 (i := 167) rfl rfl
theorem zm_168 : (Jvm.Cond.fieldLinkNest "WindowLetters" (192 : Nat) "WindowLetters$History" "length" "I" "WindowLetters") ∈ zN := zmemN1 (i := 168) rfl rfl
theorem zm_169 : (Jvm.Cond.laysFinal "WindowLetters$History" "WindowLetters$History" "shapes" "LWindowLetters$Shapes;") ∈ zT := zmem1 (i := 169) rfl rfl
theorem zm_171 : (Jvm.Cond.laysFinal "WindowLetters$History" "WindowLetters$History" "states" "[LWindowLetters$Shop;") ∈ zT := zmem1 (i := 171) rfl rfl
theorem zm_173 : (Jvm.Cond.lays "WindowLetters$History" "WindowLetters$History" "oldest" "I") ∈ zT := zmem1 (i := 173) rfl rfl
theorem zm_175 : (Jvm.Cond.lays "WindowLetters$History" "WindowLetters$History" "length" "I") ∈ zT := zmem1 (i := 175) rfl rfl
theorem zm_178 : (Jvm.Cond.classLink "WindowLetters" (46 : Nat) "WindowLetters$Pad") ∈ zT := zmem1 (i := 178) rfl rfl
theorem zm_179 : (Jvm.Cond.instantiable "WindowLetters$Pad" (2 : Nat)) ∈ zT := zmem1 (i := 179) rfl rfl
theorem zm_180 : (Jvm.Cond.methodLinkNest "WindowLetters" (48 : Nat) ({ cls := "WindowLetters$Pad", name := "<init>", desc := "()V" } : Jvm.MethodName) "WindowLetters") ∈ zN := zmemN1 (i := 180) rfl rfl
theorem zm_181 : (Jvm.Cond.instanceMethod ({ cls := "WindowLetters$Pad", name := "<init>", desc := "()V" } : Jvm.MethodName)) ∈ zT := zmem1 (i := 181) rfl rfl
theorem zm_182 : (Jvm.Cond.code ({ cls := "WindowLetters$Pad", name := "<init>", desc := "()V" } : Jvm.MethodName) prog_3_method_1_code (1 : Nat) (Option.none : Option Jvm.ClassFile.FieldType)) ∈ zT := zmem1 (i := 182) rfl rfl
theorem zm_183 : (Jvm.Cond.methodLink "WindowLetters$Pad" (3 : Nat) ({ cls := "java/lang/Object", name := "<init>", desc := "()V" } : Jvm.MethodName)) ∈ zT := zmem1 (i := 183) rfl rfl
theorem zm_184 : (Jvm.Cond.fieldLink "WindowLetters$Pad" (9 : Nat) "WindowLetters$Pad" "signs" "[C") ∈ zT := zmem1 (i := 184) rfl rfl
theorem zm_185 : (Jvm.Cond.fieldLink "WindowLetters$Pad" (15 : Nat) "WindowLetters$Pad" "length" "I") ∈ zT := zmem1 (i := 185) rfl rfl
theorem zm_186 : (Jvm.Cond.fieldLinkNest "WindowLetters$Shop" (98 : Nat) "WindowLetters$Pad" "length" "I" "WindowLetters") ∈ zN := zmemN1 (i := 186) rfl rfl
theorem zm_187 : (Jvm.Cond.fieldLinkNest "WindowLetters" (189 : Nat) "WindowLetters$Pad" "length" "I" "WindowLetters") ∈ zN := zmemN1 (i := 187) rfl rfl
theorem zm_188 : (Jvm.Cond.laysFinal "WindowLetters$Pad" "WindowLetters$Pad" "signs" "[C") ∈ zT := zmem1 (i := 188) rfl rfl
theorem zm_190 : (Jvm.Cond.lays "WindowLetters$Pad" "WindowLetters$Pad" "length" "I") ∈ zT := zmem1 (i := 190) rfl rfl
theorem zm_193 : (Jvm.Cond.arrayClass Jvm.ClassFile.FieldType.char) ∈ zT := zmem1 (i := 193) rfl rfl
theorem zm_194 : (Jvm.Cond.fieldLink "WindowLetters" (10 : Nat) "WindowLetters" "shapes" "LWindowLetters$Shapes;") ∈ zT := zmem1 (i := 194) rfl rfl
theorem zm_195 : (Jvm.Cond.fieldLink "WindowLetters" (21 : Nat) "WindowLetters" "shop" "LWindowLetters$Shop;") ∈ zT := zmem1 (i := 195) rfl rfl
theorem zm_196 : (Jvm.Cond.fieldLink "WindowLetters" (25 : Nat) "WindowLetters" "draft" "LWindowLetters$Shop;") ∈ zT := zmem1 (i := 196) rfl rfl
theorem zm_197 : (Jvm.Cond.fieldLink "WindowLetters" (31 : Nat) "WindowLetters" "trialSheet" "LWindowLetters$Sheet;") ∈ zT := zmem1 (i := 197) rfl rfl
theorem zm_198 : (Jvm.Cond.fieldLink "WindowLetters" (35 : Nat) "WindowLetters" "slots" "[LWindowLetters$Shop;") ∈ zT := zmem1 (i := 198) rfl rfl
theorem zm_199 : (Jvm.Cond.fieldLink "WindowLetters" (42 : Nat) "WindowLetters" "history" "LWindowLetters$History;") ∈ zT := zmem1 (i := 199) rfl rfl
theorem zm_200 : (Jvm.Cond.fieldLink "WindowLetters" (49 : Nat) "WindowLetters" "pad" "LWindowLetters$Pad;") ∈ zT := zmem1 (i := 200) rfl rfl
theorem zm_201 : (Jvm.Cond.laysFinal "WindowLetters" "WindowLetters" "shapes" "LWindowLetters$Shapes;") ∈ zT := zmem1 (i := 201) rfl rfl
theorem zm_203 : (Jvm.Cond.laysFinal "WindowLetters" "WindowLetters" "shop" "LWindowLetters$Shop;") ∈ zT := zmem1 (i := 203) rfl rfl
theorem zm_205 : (Jvm.Cond.laysFinal "WindowLetters" "WindowLetters" "draft" "LWindowLetters$Shop;") ∈ zT := zmem1 (i := 205) rfl rfl
theorem zm_207 : (Jvm.Cond.laysFinal "WindowLetters" "WindowLetters" "trialSheet" "LWindowLetters$Sheet;") ∈ zT := zmem1 (i := 207) rfl rfl
theorem zm_209 : (Jvm.Cond.laysFinal "WindowLetters" "WindowLetters" "slots" "[LWindowLetters$Shop;") ∈ zT := zmem1 (i := 209) rfl rfl
theorem zm_211 : (Jvm.Cond.laysFinal "WindowLetters" "WindowLetters" "history" "LWindowLetters$History;") ∈ zT := zmem1 (i := 211) rfl rfl
theorem zm_213 : (Jvm.Cond.laysFinal "WindowLetters" "WindowLetters" "pad" "LWindowLetters$Pad;") ∈ zT := zmem1 (i := 213) rfl rfl
theorem zm_216 : (Jvm.Cond.methodLink "WindowLettersLaw" (13 : Nat) ({ cls := "WindowLetters", name := "sheet", desc := "(I)I" } : Jvm.MethodName)) ∈ zT := zmem1 (i := 216) rfl rfl
theorem zm_217 : (Jvm.Cond.instanceMethod ({ cls := "WindowLetters", name := "sheet", desc := "(I)I" } : Jvm.MethodName)) ∈ zT := zmem1 (i := 217) rfl rfl
theorem zm_218 : (Jvm.Cond.selects "WindowLetters" ({ cls := "WindowLetters", name := "sheet", desc := "(I)I" } : Jvm.MethodName) ({ cls := "WindowLetters", name := "sheet", desc := "(I)I" } : Jvm.MethodName)) ∈ zT := zmem1 (i := 218) rfl rfl
theorem zm_219 : (Jvm.Cond.code ({ cls := "WindowLetters", name := "sheet", desc := "(I)I" } : Jvm.MethodName) prog_1_method_2_code (2 : Nat) (Option.some Jvm.ClassFile.FieldType.int)) ∈ zT := zmem1 (i := 219) rfl rfl
theorem zm_220 : (Jvm.Cond.methodLink "WindowLetters" (53 : Nat) ({ cls := "WindowLetters", name := "isColour", desc := "(I)Z" } : Jvm.MethodName)) ∈ zT := zmem1 (i := 220) rfl rfl
theorem zm_221 : (Jvm.Cond.static ({ cls := "WindowLetters", name := "isColour", desc := "(I)Z" } : Jvm.MethodName)) ∈ zT := zmem1 (i := 221) rfl rfl
theorem zm_222 : (Jvm.Cond.code ({ cls := "WindowLetters", name := "isColour", desc := "(I)Z" } : Jvm.MethodName) prog_1_method_28_code (1 : Nat) (Option.some Jvm.ClassFile.FieldType.boolean)) ∈ zT := zmem1 (i := 222) rfl rfl
theorem zm_223 : (Jvm.Cond.methodLink "WindowLetters" (57 : Nat) ({ cls := "WindowLetters", name := "newDraft", desc := "()LWindowLetters$Shop;" } : Jvm.MethodName)) ∈ zT := zmem1 (i := 223) rfl rfl
theorem zm_225 : (Jvm.Cond.instanceMethod ({ cls := "WindowLetters", name := "newDraft", desc := "()LWindowLetters$Shop;" } : Jvm.MethodName)) ∈ zT := zmem1 (i := 225) rfl rfl
theorem zm_226 : (Jvm.Cond.code ({ cls := "WindowLetters", name := "newDraft", desc := "()LWindowLetters$Shop;" } : Jvm.MethodName) prog_1_method_26_code (1 : Nat) (Option.some (Jvm.ClassFile.FieldType.object "WindowLetters$Shop"))) ∈ zT := zmem1 (i := 226) rfl rfl
theorem zm_227 : (Jvm.Cond.methodLink "WindowLetters" (227 : Nat) ({ cls := "WindowLetters$Shop", name := "copyFrom", desc := "(LWindowLetters$Shop;)V" } : Jvm.MethodName)) ∈ zT := zmem1 (i := 227) rfl rfl
theorem zm_228 : (Jvm.Cond.instanceMethod ({ cls := "WindowLetters$Shop", name := "copyFrom", desc := "(LWindowLetters$Shop;)V" } : Jvm.MethodName)) ∈ zT := zmem1 (i := 228) rfl rfl
theorem zm_229 : (Jvm.Cond.selects "WindowLetters$Shop" ({ cls := "WindowLetters$Shop", name := "copyFrom", desc := "(LWindowLetters$Shop;)V" } : Jvm.MethodName) ({ cls := "WindowLetters$Shop", name := "copyFrom", desc := "(LWindowLetters$Shop;)V" } : Jvm.MethodName)) ∈ zT := zmem1 (i := 229) rfl rfl
theorem zm_230 : (Jvm.Cond.code ({ cls := "WindowLetters$Shop", name := "copyFrom", desc := "(LWindowLetters$Shop;)V" } : Jvm.MethodName) prog_7_method_2_code (3 : Nat) (Option.none : Option Jvm.ClassFile.FieldType)) ∈ zT := zmem1 (i := 230) rfl rfl
theorem zm_231 : (Jvm.Cond.methodLink "WindowLetters$Shop" (42 : Nat) ({ cls := "WindowLetters$Sheet", name := "copyFrom", desc := "(LWindowLetters$Sheet;)V" } : Jvm.MethodName)) ∈ zT := zmem1 (i := 231) rfl rfl
theorem zm_232 : (Jvm.Cond.instanceMethod ({ cls := "WindowLetters$Sheet", name := "copyFrom", desc := "(LWindowLetters$Sheet;)V" } : Jvm.MethodName)) ∈ zT := zmem1 (i := 232) rfl rfl
theorem zm_233 : (Jvm.Cond.selects "WindowLetters$Sheet" ({ cls := "WindowLetters$Sheet", name := "copyFrom", desc := "(LWindowLetters$Sheet;)V" } : Jvm.MethodName) ({ cls := "WindowLetters$Sheet", name := "copyFrom", desc := "(LWindowLetters$Sheet;)V" } : Jvm.MethodName)) ∈ zT := zmem1 (i := 233) rfl rfl
theorem zm_234 : (Jvm.Cond.code ({ cls := "WindowLetters$Sheet", name := "copyFrom", desc := "(LWindowLetters$Sheet;)V" } : Jvm.MethodName) prog_6_method_2_code (3 : Nat) (Option.none : Option Jvm.ClassFile.FieldType)) ∈ zT := zmem1 (i := 234) rfl rfl
theorem zm_235 : (Jvm.Cond.methodLink "WindowLetters$Shop" (46 : Nat) ({ cls := "WindowLetters$Piece", name := "copyFrom", desc := "(LWindowLetters$Piece;)V" } : Jvm.MethodName)) ∈ zT := zmem1 (i := 235) rfl rfl
theorem zm_236 : (Jvm.Cond.instanceMethod ({ cls := "WindowLetters$Piece", name := "copyFrom", desc := "(LWindowLetters$Piece;)V" } : Jvm.MethodName)) ∈ zT := zmem1 (i := 236) rfl rfl
theorem zm_237 : (Jvm.Cond.selects "WindowLetters$Piece" ({ cls := "WindowLetters$Piece", name := "copyFrom", desc := "(LWindowLetters$Piece;)V" } : Jvm.MethodName) ({ cls := "WindowLetters$Piece", name := "copyFrom", desc := "(LWindowLetters$Piece;)V" } : Jvm.MethodName)) ∈ zT := zmem1 (i := 237) rfl rfl
theorem zm_238 : (Jvm.Cond.code ({ cls := "WindowLetters$Piece", name := "copyFrom", desc := "(LWindowLetters$Piece;)V" } : Jvm.MethodName) prog_4_method_2_code (2 : Nat) (Option.none : Option Jvm.ClassFile.FieldType)) ∈ zT := zmem1 (i := 238) rfl rfl
theorem zm_239 : (Jvm.Cond.methodLink "WindowLetters" (61 : Nat) ({ cls := "WindowLetters$Shop", name := "addSheet", desc := "(I)I" } : Jvm.MethodName)) ∈ zT := zmem1 (i := 239) rfl rfl
theorem zm_240 : (Jvm.Cond.instanceMethod ({ cls := "WindowLetters$Shop", name := "addSheet", desc := "(I)I" } : Jvm.MethodName)) ∈ zT := zmem2 (i := 0) rfl rfl
theorem zm_241 : (Jvm.Cond.selects "WindowLetters$Shop" ({ cls := "WindowLetters$Shop", name := "addSheet", desc := "(I)I" } : Jvm.MethodName) ({ cls := "WindowLetters$Shop", name := "addSheet", desc := "(I)I" } : Jvm.MethodName)) ∈ zT := zmem2 (i := 1) rfl rfl
theorem zm_242 : (Jvm.Cond.code ({ cls := "WindowLetters$Shop", name := "addSheet", desc := "(I)I" } : Jvm.MethodName) prog_7_method_5_code (3 : Nat) (Option.some Jvm.ClassFile.FieldType.int)) ∈ zT := zmem2 (i := 2) rfl rfl
theorem zm_243 : (Jvm.Cond.methodLink "WindowLetters" (65 : Nat) ({ cls := "WindowLetters", name := "settle", desc := "(I)I" } : Jvm.MethodName)) ∈ zT := zmem2 (i := 3) rfl rfl
theorem zm_245 : (Jvm.Cond.instanceMethod ({ cls := "WindowLetters", name := "settle", desc := "(I)I" } : Jvm.MethodName)) ∈ zT := zmem2 (i := 5) rfl rfl
theorem zm_246 : (Jvm.Cond.code ({ cls := "WindowLetters", name := "settle", desc := "(I)I" } : Jvm.MethodName) prog_1_method_27_code (2 : Nat) (Option.some Jvm.ClassFile.FieldType.int)) ∈ zT := zmem2 (i := 6) rfl rfl
theorem zm_247 : (Jvm.Cond.methodLink "WindowLetters" (230 : Nat) ({ cls := "WindowLetters$History", name := "record", desc := "(LWindowLetters$Shop;)V" } : Jvm.MethodName)) ∈ zT := zmem2 (i := 7) rfl rfl
theorem zm_248 : (Jvm.Cond.instanceMethod ({ cls := "WindowLetters$History", name := "record", desc := "(LWindowLetters$Shop;)V" } : Jvm.MethodName)) ∈ zT := zmem2 (i := 8) rfl rfl
theorem zm_249 : (Jvm.Cond.selects "WindowLetters$History" ({ cls := "WindowLetters$History", name := "record", desc := "(LWindowLetters$Shop;)V" } : Jvm.MethodName) ({ cls := "WindowLetters$History", name := "record", desc := "(LWindowLetters$Shop;)V" } : Jvm.MethodName)) ∈ zT := zmem2 (i := 9) rfl rfl
theorem zm_250 : (Jvm.Cond.code ({ cls := "WindowLetters$History", name := "record", desc := "(LWindowLetters$Shop;)V" } : Jvm.MethodName) prog_2_method_2_code (4 : Nat) (Option.none : Option Jvm.ClassFile.FieldType)) ∈ zT := zmem2 (i := 10) rfl rfl
theorem zm_251 : (Jvm.Cond.methodLink "WindowLetters$History" (28 : Nat) ({ cls := "java/lang/Math", name := "floorMod", desc := "(II)I" } : Jvm.MethodName)) ∈ zT := zmem2 (i := 11) rfl rfl
theorem zm_252 : (Jvm.Cond.static ({ cls := "java/lang/Math", name := "floorMod", desc := "(II)I" } : Jvm.MethodName)) ∈ zT := zmem2 (i := 12) rfl rfl
theorem zm_253 : (Jvm.Cond.code ({ cls := "java/lang/Math", name := "floorMod", desc := "(II)I" } : Jvm.MethodName) prog_12_method_50_code (3 : Nat) (Option.some Jvm.ClassFile.FieldType.int)) ∈ zT := zmem2 (i := 13) rfl rfl
theorem zm_254 : (Jvm.Cond.methodLink "WindowLetters$History" (34 : Nat) ({ cls := "WindowLetters$Shop", name := "<init>", desc := "(LWindowLetters$Shapes;)V" } : Jvm.MethodName)) ∈ zT := zmem2 (i := 14) rfl rfl
theorem zm_255 : (Jvm.Cond.methodLink "WindowLetters$History" (37 : Nat) ({ cls := "WindowLetters$Shop", name := "copyFrom", desc := "(LWindowLetters$Shop;)V" } : Jvm.MethodName)) ∈ zT := zmem2 (i := 15) rfl rfl
theorem zm_256 : (Jvm.Cond.methodLink "WindowLettersLaw" (18 : Nat) ({ cls := "WindowLetters", name := "cut", desc := "(IIIII)I" } : Jvm.MethodName)) ∈ zT := zmem2 (i := 16) rfl rfl
theorem zm_257 : (Jvm.Cond.instanceMethod ({ cls := "WindowLetters", name := "cut", desc := "(IIIII)I" } : Jvm.MethodName)) ∈ zT := zmem2 (i := 17) rfl rfl
theorem zm_258 : (Jvm.Cond.selects "WindowLetters" ({ cls := "WindowLetters", name := "cut", desc := "(IIIII)I" } : Jvm.MethodName) ({ cls := "WindowLetters", name := "cut", desc := "(IIIII)I" } : Jvm.MethodName)) ∈ zT := zmem2 (i := 18) rfl rfl
theorem zm_259 : (Jvm.Cond.code ({ cls := "WindowLetters", name := "cut", desc := "(IIIII)I" } : Jvm.MethodName) prog_1_method_3_code (6 : Nat) (Option.some Jvm.ClassFile.FieldType.int)) ∈ zT := zmem2 (i := 19) rfl rfl
theorem zm_260 : (Jvm.Cond.methodLink "WindowLetters" (68 : Nat) ({ cls := "WindowLetters$Shop", name := "sheetAt", desc := "(I)LWindowLetters$Sheet;" } : Jvm.MethodName)) ∈ zT := zmem2 (i := 20) rfl rfl
theorem zm_261 : (Jvm.Cond.instanceMethod ({ cls := "WindowLetters$Shop", name := "sheetAt", desc := "(I)LWindowLetters$Sheet;" } : Jvm.MethodName)) ∈ zT := zmem2 (i := 21) rfl rfl
theorem zm_262 : (Jvm.Cond.selects "WindowLetters$Shop" ({ cls := "WindowLetters$Shop", name := "sheetAt", desc := "(I)LWindowLetters$Sheet;" } : Jvm.MethodName) ({ cls := "WindowLetters$Shop", name := "sheetAt", desc := "(I)LWindowLetters$Sheet;" } : Jvm.MethodName)) ∈ zT := zmem2 (i := 22) rfl rfl
theorem zm_263 : (Jvm.Cond.code ({ cls := "WindowLetters$Shop", name := "sheetAt", desc := "(I)LWindowLetters$Sheet;" } : Jvm.MethodName) prog_7_method_3_code (2 : Nat) (Option.some (Jvm.ClassFile.FieldType.object "WindowLetters$Sheet"))) ∈ zT := zmem2 (i := 23) rfl rfl
theorem zm_264 : (Jvm.Cond.methodLink "WindowLetters" (72 : Nat) ({ cls := "WindowLetters", name := "isLetter", desc := "(I)Z" } : Jvm.MethodName)) ∈ zT := zmem2 (i := 24) rfl rfl
theorem zm_265 : (Jvm.Cond.methodLink "WindowLetters" (75 : Nat) ({ cls := "WindowLetters", name := "isWay", desc := "(I)Z" } : Jvm.MethodName)) ∈ zT := zmem2 (i := 25) rfl rfl
theorem zm_266 : (Jvm.Cond.static ({ cls := "WindowLetters", name := "isWay", desc := "(I)Z" } : Jvm.MethodName)) ∈ zT := zmem2 (i := 26) rfl rfl
theorem zm_267 : (Jvm.Cond.code ({ cls := "WindowLetters", name := "isWay", desc := "(I)Z" } : Jvm.MethodName) prog_1_method_30_code (1 : Nat) (Option.some Jvm.ClassFile.FieldType.boolean)) ∈ zT := zmem2 (i := 27) rfl rfl
theorem zm_268 : (Jvm.Cond.methodLink "WindowLetters" (78 : Nat) ({ cls := "WindowLetters$Shop", name := "cutPiece", desc := "(IIIII)I" } : Jvm.MethodName)) ∈ zT := zmem2 (i := 28) rfl rfl
theorem zm_269 : (Jvm.Cond.instanceMethod ({ cls := "WindowLetters$Shop", name := "cutPiece", desc := "(IIIII)I" } : Jvm.MethodName)) ∈ zT := zmem2 (i := 29) rfl rfl
theorem zm_270 : (Jvm.Cond.selects "WindowLetters$Shop" ({ cls := "WindowLetters$Shop", name := "cutPiece", desc := "(IIIII)I" } : Jvm.MethodName) ({ cls := "WindowLetters$Shop", name := "cutPiece", desc := "(IIIII)I" } : Jvm.MethodName)) ∈ zT := zmem2 (i := 30) rfl rfl
theorem zm_271 : (Jvm.Cond.code ({ cls := "WindowLetters$Shop", name := "cutPiece", desc := "(IIIII)I" } : Jvm.MethodName) prog_7_method_6_code (7 : Nat) (Option.some Jvm.ClassFile.FieldType.int)) ∈ zT := zmem2 (i := 31) rfl rfl
theorem zm_272 : (Jvm.Cond.methodLink "WindowLetters$Shop" (52 : Nat) ({ cls := "WindowLetters$Shop", name := "sheetAt", desc := "(I)LWindowLetters$Sheet;" } : Jvm.MethodName)) ∈ zT := zmem2 (i := 32) rfl rfl
theorem zm_273 : (Jvm.Cond.methodLink "WindowLetters$Shop" (56 : Nat) ({ cls := "WindowLetters$Sheet", name := "canCut", desc := "(IIII)Z" } : Jvm.MethodName)) ∈ zT := zmem2 (i := 33) rfl rfl
theorem zm_274 : (Jvm.Cond.instanceMethod ({ cls := "WindowLetters$Sheet", name := "canCut", desc := "(IIII)Z" } : Jvm.MethodName)) ∈ zT := zmem2 (i := 34) rfl rfl
theorem zm_275 : (Jvm.Cond.selects "WindowLetters$Sheet" ({ cls := "WindowLetters$Sheet", name := "canCut", desc := "(IIII)Z" } : Jvm.MethodName) ({ cls := "WindowLetters$Sheet", name := "canCut", desc := "(IIII)Z" } : Jvm.MethodName)) ∈ zT := zmem2 (i := 35) rfl rfl
theorem zm_276 : (Jvm.Cond.code ({ cls := "WindowLetters$Sheet", name := "canCut", desc := "(IIII)Z" } : Jvm.MethodName) prog_6_method_3_code (5 : Nat) (Option.some Jvm.ClassFile.FieldType.boolean)) ∈ zT := zmem2 (i := 36) rfl rfl
theorem zm_277 : (Jvm.Cond.methodLink "WindowLetters$Sheet" (27 : Nat) ({ cls := "WindowLetters$Sheet", name := "freeColumns", desc := "(III)I" } : Jvm.MethodName)) ∈ zT := zmem2 (i := 37) rfl rfl
theorem zm_279 : (Jvm.Cond.instanceMethod ({ cls := "WindowLetters$Sheet", name := "freeColumns", desc := "(III)I" } : Jvm.MethodName)) ∈ zT := zmem2 (i := 39) rfl rfl
theorem zm_280 : (Jvm.Cond.code ({ cls := "WindowLetters$Sheet", name := "freeColumns", desc := "(III)I" } : Jvm.MethodName) prog_6_method_4_code (8 : Nat) (Option.some Jvm.ClassFile.FieldType.int)) ∈ zT := zmem2 (i := 40) rfl rfl
theorem zm_281 : (Jvm.Cond.methodLink "WindowLetters$Sheet" (31 : Nat) ({ cls := "WindowLetters$Sheet", name := "isOnSheet", desc := "(III)Z" } : Jvm.MethodName)) ∈ zT := zmem2 (i := 41) rfl rfl
theorem zm_282 : (Jvm.Cond.static ({ cls := "WindowLetters$Sheet", name := "isOnSheet", desc := "(III)Z" } : Jvm.MethodName)) ∈ zT := zmem2 (i := 42) rfl rfl
theorem zm_283 : (Jvm.Cond.code ({ cls := "WindowLetters$Sheet", name := "isOnSheet", desc := "(III)Z" } : Jvm.MethodName) prog_6_method_6_code (3 : Nat) (Option.some Jvm.ClassFile.FieldType.boolean)) ∈ zT := zmem2 (i := 43) rfl rfl
theorem zm_284 : (Jvm.Cond.methodLinkNest "WindowLetters$Sheet" (39 : Nat) ({ cls := "WindowLetters", name := "heightOf", desc := "(I)I" } : Jvm.MethodName) "WindowLetters") ∈ zN := zmemN2 (i := 44) rfl rfl
theorem zm_285 : (Jvm.Cond.methodLinkNest "WindowLetters$Sheet" (35 : Nat) ({ cls := "WindowLetters", name := "widthOf", desc := "(I)I" } : Jvm.MethodName) "WindowLetters") ∈ zN := zmemN2 (i := 45) rfl rfl
theorem zm_286 : (Jvm.Cond.methodLink "WindowLetters$Sheet" (42 : Nat) ({ cls := "WindowLetters$Shapes", name := "columnsOf", desc := "(III)I" } : Jvm.MethodName)) ∈ zT := zmem2 (i := 46) rfl rfl
theorem zm_287 : (Jvm.Cond.instanceMethod ({ cls := "WindowLetters$Shapes", name := "columnsOf", desc := "(III)I" } : Jvm.MethodName)) ∈ zT := zmem2 (i := 47) rfl rfl
theorem zm_288 : (Jvm.Cond.selects "WindowLetters$Shapes" ({ cls := "WindowLetters$Shapes", name := "columnsOf", desc := "(III)I" } : Jvm.MethodName) ({ cls := "WindowLetters$Shapes", name := "columnsOf", desc := "(III)I" } : Jvm.MethodName)) ∈ zT := zmem2 (i := 48) rfl rfl
theorem zm_289 : (Jvm.Cond.code ({ cls := "WindowLetters$Shapes", name := "columnsOf", desc := "(III)I" } : Jvm.MethodName) prog_5_method_2_code (4 : Nat) (Option.some Jvm.ClassFile.FieldType.int)) ∈ zT := zmem2 (i := 49) rfl rfl
theorem zm_290 : (Jvm.Cond.methodLinkNest "WindowLetters$Shapes" (27 : Nat) ({ cls := "WindowLetters", name := "isWay", desc := "(I)Z" } : Jvm.MethodName) "WindowLetters") ∈ zN := zmemN2 (i := 50) rfl rfl
theorem zm_291 : (Jvm.Cond.methodLink "WindowLetters$Shop" (60 : Nat) ({ cls := "WindowLetters$Shop", name := "addPiece", desc := "(IIIII)I" } : Jvm.MethodName)) ∈ zT := zmem2 (i := 51) rfl rfl
theorem zm_293 : (Jvm.Cond.instanceMethod ({ cls := "WindowLetters$Shop", name := "addPiece", desc := "(IIIII)I" } : Jvm.MethodName)) ∈ zT := zmem2 (i := 53) rfl rfl
theorem zm_294 : (Jvm.Cond.code ({ cls := "WindowLetters$Shop", name := "addPiece", desc := "(IIIII)I" } : Jvm.MethodName) prog_7_method_7_code (9 : Nat) (Option.some Jvm.ClassFile.FieldType.int)) ∈ zT := zmem2 (i := 54) rfl rfl
theorem zm_295 : (Jvm.Cond.methodLink "WindowLetters$Shop" (64 : Nat) ({ cls := "WindowLetters$Sheet", name := "cutOut", desc := "(IIII)V" } : Jvm.MethodName)) ∈ zT := zmem2 (i := 55) rfl rfl
theorem zm_296 : (Jvm.Cond.instanceMethod ({ cls := "WindowLetters$Sheet", name := "cutOut", desc := "(IIII)V" } : Jvm.MethodName)) ∈ zT := zmem2 (i := 56) rfl rfl
theorem zm_297 : (Jvm.Cond.selects "WindowLetters$Sheet" ({ cls := "WindowLetters$Sheet", name := "cutOut", desc := "(IIII)V" } : Jvm.MethodName) ({ cls := "WindowLetters$Sheet", name := "cutOut", desc := "(IIII)V" } : Jvm.MethodName)) ∈ zT := zmem2 (i := 57) rfl rfl
theorem zm_298 : (Jvm.Cond.code ({ cls := "WindowLetters$Sheet", name := "cutOut", desc := "(IIII)V" } : Jvm.MethodName) prog_6_method_5_code (6 : Nat) (Option.none : Option Jvm.ClassFile.FieldType)) ∈ zT := zmem2 (i := 58) rfl rfl
theorem zm_299 : (Jvm.Cond.methodLink "WindowLetters$Shop" (81 : Nat) ({ cls := "WindowLetters$Piece", name := "becomeLoose", desc := "()V" } : Jvm.MethodName)) ∈ zT := zmem2 (i := 59) rfl rfl
theorem zm_300 : (Jvm.Cond.instanceMethod ({ cls := "WindowLetters$Piece", name := "becomeLoose", desc := "()V" } : Jvm.MethodName)) ∈ zT := zmem2 (i := 60) rfl rfl
theorem zm_301 : (Jvm.Cond.selects "WindowLetters$Piece" ({ cls := "WindowLetters$Piece", name := "becomeLoose", desc := "()V" } : Jvm.MethodName) ({ cls := "WindowLetters$Piece", name := "becomeLoose", desc := "()V" } : Jvm.MethodName)) ∈ zT := zmem2 (i := 61) rfl rfl
theorem zm_302 : (Jvm.Cond.code ({ cls := "WindowLetters$Piece", name := "becomeLoose", desc := "()V" } : Jvm.MethodName) prog_4_method_3_code (1 : Nat) (Option.none : Option Jvm.ClassFile.FieldType)) ∈ zT := zmem2 (i := 62) rfl rfl
theorem zm_303 : (Jvm.Cond.methodLink "WindowLettersLaw" (23 : Nat) ({ cls := "WindowLetters", name := "make", desc := "(III)I" } : Jvm.MethodName)) ∈ zT := zmem2 (i := 63) rfl rfl
theorem zm_304 : (Jvm.Cond.instanceMethod ({ cls := "WindowLetters", name := "make", desc := "(III)I" } : Jvm.MethodName)) ∈ zT := zmem2 (i := 64) rfl rfl
theorem zm_305 : (Jvm.Cond.selects "WindowLetters" ({ cls := "WindowLetters", name := "make", desc := "(III)I" } : Jvm.MethodName) ({ cls := "WindowLetters", name := "make", desc := "(III)I" } : Jvm.MethodName)) ∈ zT := zmem2 (i := 65) rfl rfl
theorem zm_306 : (Jvm.Cond.code ({ cls := "WindowLetters", name := "make", desc := "(III)I" } : Jvm.MethodName) prog_1_method_4_code (4 : Nat) (Option.some Jvm.ClassFile.FieldType.int)) ∈ zT := zmem2 (i := 66) rfl rfl
theorem zm_307 : (Jvm.Cond.methodLink "WindowLetters" (82 : Nat) ({ cls := "WindowLetters", name := "isMirroring", desc := "(I)Z" } : Jvm.MethodName)) ∈ zT := zmem2 (i := 67) rfl rfl
theorem zm_308 : (Jvm.Cond.static ({ cls := "WindowLetters", name := "isMirroring", desc := "(I)Z" } : Jvm.MethodName)) ∈ zT := zmem2 (i := 68) rfl rfl
theorem zm_309 : (Jvm.Cond.code ({ cls := "WindowLetters", name := "isMirroring", desc := "(I)Z" } : Jvm.MethodName) prog_1_method_31_code (1 : Nat) (Option.some Jvm.ClassFile.FieldType.boolean)) ∈ zT := zmem2 (i := 69) rfl rfl
theorem zm_310 : (Jvm.Cond.methodLink "WindowLetters" (85 : Nat) ({ cls := "WindowLetters$Shop", name := "makePiece", desc := "(III)I" } : Jvm.MethodName)) ∈ zT := zmem2 (i := 70) rfl rfl
theorem zm_311 : (Jvm.Cond.instanceMethod ({ cls := "WindowLetters$Shop", name := "makePiece", desc := "(III)I" } : Jvm.MethodName)) ∈ zT := zmem2 (i := 71) rfl rfl
theorem zm_312 : (Jvm.Cond.selects "WindowLetters$Shop" ({ cls := "WindowLetters$Shop", name := "makePiece", desc := "(III)I" } : Jvm.MethodName) ({ cls := "WindowLetters$Shop", name := "makePiece", desc := "(III)I" } : Jvm.MethodName)) ∈ zT := zmem2 (i := 72) rfl rfl
theorem zm_313 : (Jvm.Cond.code ({ cls := "WindowLetters$Shop", name := "makePiece", desc := "(III)I" } : Jvm.MethodName) prog_7_method_8_code (7 : Nat) (Option.some Jvm.ClassFile.FieldType.int)) ∈ zT := zmem2 (i := 73) rfl rfl
theorem zm_314 : (Jvm.Cond.methodLink "WindowLetters$Shop" (84 : Nat) ({ cls := "WindowLetters$Sheet", name := "firstFit", desc := "(II)I" } : Jvm.MethodName)) ∈ zT := zmem2 (i := 74) rfl rfl
theorem zm_315 : (Jvm.Cond.instanceMethod ({ cls := "WindowLetters$Sheet", name := "firstFit", desc := "(II)I" } : Jvm.MethodName)) ∈ zT := zmem2 (i := 75) rfl rfl
theorem zm_316 : (Jvm.Cond.selects "WindowLetters$Sheet" ({ cls := "WindowLetters$Sheet", name := "firstFit", desc := "(II)I" } : Jvm.MethodName) ({ cls := "WindowLetters$Sheet", name := "firstFit", desc := "(II)I" } : Jvm.MethodName)) ∈ zT := zmem2 (i := 76) rfl rfl
theorem zm_317 : (Jvm.Cond.code ({ cls := "WindowLetters$Sheet", name := "firstFit", desc := "(II)I" } : Jvm.MethodName) prog_6_method_7_code (9 : Nat) (Option.some Jvm.ClassFile.FieldType.int)) ∈ zT := zmem2 (i := 77) rfl rfl
theorem zm_318 : (Jvm.Cond.methodLinkNest "WindowLetters$Sheet" (47 : Nat) ({ cls := "WindowLetters", name := "lowestIn", desc := "(I)I" } : Jvm.MethodName) "WindowLetters") ∈ zN := zmemN2 (i := 78) rfl rfl
theorem zm_319 : (Jvm.Cond.static ({ cls := "WindowLetters", name := "lowestIn", desc := "(I)I" } : Jvm.MethodName)) ∈ zT := zmem2 (i := 79) rfl rfl
theorem zm_320 : (Jvm.Cond.code ({ cls := "WindowLetters", name := "lowestIn", desc := "(I)I" } : Jvm.MethodName) prog_1_method_41_code (1 : Nat) (Option.some Jvm.ClassFile.FieldType.int)) ∈ zT := zmem2 (i := 80) rfl rfl
theorem zm_321 : (Jvm.Cond.methodLink "WindowLetters" (233 : Nat) ({ cls := "java/lang/Integer", name := "bitCount", desc := "(I)I" } : Jvm.MethodName)) ∈ zT := zmem2 (i := 81) rfl rfl
theorem zm_322 : (Jvm.Cond.static ({ cls := "java/lang/Integer", name := "bitCount", desc := "(I)I" } : Jvm.MethodName)) ∈ zT := zmem2 (i := 82) rfl rfl
theorem zm_323 : (Jvm.Cond.code ({ cls := "java/lang/Integer", name := "bitCount", desc := "(I)I" } : Jvm.MethodName) prog_11_method_49_code (1 : Nat) (Option.some Jvm.ClassFile.FieldType.int)) ∈ zT := zmem2 (i := 83) rfl rfl
theorem zm_324 : (Jvm.Cond.constant "java/lang/Integer" (265 : Nat) (1431655765 : Int32)) ∈ zT := zmem2 (i := 84) rfl rfl
theorem zm_325 : (Jvm.Cond.constant "java/lang/Integer" (266 : Nat) (858993459 : Int32)) ∈ zT := zmem2 (i := 85) rfl rfl
theorem zm_326 : (Jvm.Cond.constant "java/lang/Integer" (267 : Nat) (252645135 : Int32)) ∈ zT := zmem2 (i := 86) rfl rfl
theorem zm_327 : (Jvm.Cond.methodLinkNest "WindowLetters$Shop" (88 : Nat) ({ cls := "WindowLetters", name := "wayIn", desc := "(I)I" } : Jvm.MethodName) "WindowLetters") ∈ zN := zmemN2 (i := 87) rfl rfl
theorem zm_328 : (Jvm.Cond.static ({ cls := "WindowLetters", name := "wayIn", desc := "(I)I" } : Jvm.MethodName)) ∈ zT := zmem2 (i := 88) rfl rfl
theorem zm_329 : (Jvm.Cond.code ({ cls := "WindowLetters", name := "wayIn", desc := "(I)I" } : Jvm.MethodName) prog_1_method_40_code (1 : Nat) (Option.some Jvm.ClassFile.FieldType.int)) ∈ zT := zmem2 (i := 89) rfl rfl
theorem zm_330 : (Jvm.Cond.methodLinkNest "WindowLetters$Shop" (92 : Nat) ({ cls := "WindowLetters", name := "rowIn", desc := "(I)I" } : Jvm.MethodName) "WindowLetters") ∈ zN := zmemN2 (i := 90) rfl rfl
theorem zm_331 : (Jvm.Cond.static ({ cls := "WindowLetters", name := "rowIn", desc := "(I)I" } : Jvm.MethodName)) ∈ zT := zmem2 (i := 91) rfl rfl
theorem zm_332 : (Jvm.Cond.code ({ cls := "WindowLetters", name := "rowIn", desc := "(I)I" } : Jvm.MethodName) prog_1_method_38_code (1 : Nat) (Option.some Jvm.ClassFile.FieldType.int)) ∈ zT := zmem2 (i := 92) rfl rfl
theorem zm_333 : (Jvm.Cond.methodLinkNest "WindowLetters$Shop" (95 : Nat) ({ cls := "WindowLetters", name := "columnIn", desc := "(I)I" } : Jvm.MethodName) "WindowLetters") ∈ zN := zmemN2 (i := 93) rfl rfl
theorem zm_334 : (Jvm.Cond.static ({ cls := "WindowLetters", name := "columnIn", desc := "(I)I" } : Jvm.MethodName)) ∈ zT := zmem2 (i := 94) rfl rfl
theorem zm_335 : (Jvm.Cond.code ({ cls := "WindowLetters", name := "columnIn", desc := "(I)I" } : Jvm.MethodName) prog_1_method_39_code (1 : Nat) (Option.some Jvm.ClassFile.FieldType.int)) ∈ zT := zmem2 (i := 95) rfl rfl
theorem zm_336 : (Jvm.Cond.methodLink "WindowLettersLaw" (28 : Nat) ({ cls := "WindowLetters", name := "write", desc := "(IIII)I" } : Jvm.MethodName)) ∈ zT := zmem2 (i := 96) rfl rfl
theorem zm_337 : (Jvm.Cond.instanceMethod ({ cls := "WindowLetters", name := "write", desc := "(IIII)I" } : Jvm.MethodName)) ∈ zT := zmem2 (i := 97) rfl rfl
theorem zm_338 : (Jvm.Cond.selects "WindowLetters" ({ cls := "WindowLetters", name := "write", desc := "(IIII)I" } : Jvm.MethodName) ({ cls := "WindowLetters", name := "write", desc := "(IIII)I" } : Jvm.MethodName)) ∈ zT := zmem2 (i := 98) rfl rfl
theorem zm_339 : (Jvm.Cond.code ({ cls := "WindowLetters", name := "write", desc := "(IIII)I" } : Jvm.MethodName) prog_1_method_5_code (6 : Nat) (Option.some Jvm.ClassFile.FieldType.int)) ∈ zT := zmem2 (i := 99) rfl rfl
theorem zm_340 : (Jvm.Cond.methodLink "WindowLetters" (89 : Nat) ({ cls := "WindowLetters", name := "isPane", desc := "(I)Z" } : Jvm.MethodName)) ∈ zT := zmem2 (i := 100) rfl rfl
theorem zm_341 : (Jvm.Cond.static ({ cls := "WindowLetters", name := "isPane", desc := "(I)Z" } : Jvm.MethodName)) ∈ zT := zmem2 (i := 101) rfl rfl
theorem zm_342 : (Jvm.Cond.code ({ cls := "WindowLetters", name := "isPane", desc := "(I)Z" } : Jvm.MethodName) prog_1_method_32_code (1 : Nat) (Option.some Jvm.ClassFile.FieldType.boolean)) ∈ zT := zmem2 (i := 102) rfl rfl
theorem zm_343 : (Jvm.Cond.methodLink "WindowLetters" (92 : Nat) ({ cls := "WindowLetters", name := "isPlace", desc := "(I)Z" } : Jvm.MethodName)) ∈ zT := zmem2 (i := 103) rfl rfl
theorem zm_344 : (Jvm.Cond.static ({ cls := "WindowLetters", name := "isPlace", desc := "(I)Z" } : Jvm.MethodName)) ∈ zT := zmem2 (i := 104) rfl rfl
theorem zm_345 : (Jvm.Cond.code ({ cls := "WindowLetters", name := "isPlace", desc := "(I)Z" } : Jvm.MethodName) prog_1_method_33_code (1 : Nat) (Option.some Jvm.ClassFile.FieldType.boolean)) ∈ zT := zmem2 (i := 105) rfl rfl
theorem zm_346 : (Jvm.Cond.methodLink "WindowLetters" (95 : Nat) ({ cls := "WindowLetters$Pad", name := "faultIndex", desc := "()I" } : Jvm.MethodName)) ∈ zT := zmem2 (i := 106) rfl rfl
theorem zm_347 : (Jvm.Cond.instanceMethod ({ cls := "WindowLetters$Pad", name := "faultIndex", desc := "()I" } : Jvm.MethodName)) ∈ zT := zmem2 (i := 107) rfl rfl
theorem zm_348 : (Jvm.Cond.selects "WindowLetters$Pad" ({ cls := "WindowLetters$Pad", name := "faultIndex", desc := "()I" } : Jvm.MethodName) ({ cls := "WindowLetters$Pad", name := "faultIndex", desc := "()I" } : Jvm.MethodName)) ∈ zT := zmem2 (i := 108) rfl rfl
theorem zm_349 : (Jvm.Cond.code ({ cls := "WindowLetters$Pad", name := "faultIndex", desc := "()I" } : Jvm.MethodName) prog_3_method_7_code (2 : Nat) (Option.some Jvm.ClassFile.FieldType.int)) ∈ zT := zmem2 (i := 109) rfl rfl
theorem zm_350 : (Jvm.Cond.methodLink "WindowLetters$Pad" (37 : Nat) ({ cls := "WindowLetters$Pad", name := "letterAt", desc := "(I)I" } : Jvm.MethodName)) ∈ zT := zmem2 (i := 110) rfl rfl
theorem zm_351 : (Jvm.Cond.instanceMethod ({ cls := "WindowLetters$Pad", name := "letterAt", desc := "(I)I" } : Jvm.MethodName)) ∈ zT := zmem2 (i := 111) rfl rfl
theorem zm_352 : (Jvm.Cond.selects "WindowLetters$Pad" ({ cls := "WindowLetters$Pad", name := "letterAt", desc := "(I)I" } : Jvm.MethodName) ({ cls := "WindowLetters$Pad", name := "letterAt", desc := "(I)I" } : Jvm.MethodName)) ∈ zT := zmem2 (i := 112) rfl rfl
theorem zm_353 : (Jvm.Cond.code ({ cls := "WindowLetters$Pad", name := "letterAt", desc := "(I)I" } : Jvm.MethodName) prog_3_method_6_code (3 : Nat) (Option.some Jvm.ClassFile.FieldType.int)) ∈ zT := zmem2 (i := 113) rfl rfl
theorem zm_355 : (Jvm.Cond.methodLink "WindowLetters$Pad" (31 : Nat) ({ cls := "java/lang/String", name := "indexOf", desc := "(I)I" } : Jvm.MethodName)) ∈ zT := zmem2 (i := 115) rfl rfl
theorem zm_356 : (Jvm.Cond.instanceMethod ({ cls := "java/lang/String", name := "indexOf", desc := "(I)I" } : Jvm.MethodName)) ∈ zT := zmem2 (i := 116) rfl rfl
theorem zm_357 : (Jvm.Cond.selects "java/lang/String" ({ cls := "java/lang/String", name := "indexOf", desc := "(I)I" } : Jvm.MethodName) ({ cls := "java/lang/String", name := "indexOf", desc := "(I)I" } : Jvm.MethodName)) ∈ zT := zmem2 (i := 117) rfl rfl
theorem zm_358 : (Jvm.Cond.code ({ cls := "java/lang/String", name := "indexOf", desc := "(I)I" } : Jvm.MethodName) prog_13_method_79_code (2 : Nat) (Option.some Jvm.ClassFile.FieldType.int)) ∈ zT := zmem2 (i := 118) rfl rfl
theorem zm_359 : (Jvm.Cond.methodLink "java/lang/String" (633 : Nat) ({ cls := "java/lang/String", name := "indexOf", desc := "(II)I" } : Jvm.MethodName)) ∈ zT := zmem2 (i := 119) rfl rfl
theorem zm_360 : (Jvm.Cond.instanceMethod ({ cls := "java/lang/String", name := "indexOf", desc := "(II)I" } : Jvm.MethodName)) ∈ zT := zmem2 (i := 120) rfl rfl
theorem zm_361 : (Jvm.Cond.selects "java/lang/String" ({ cls := "java/lang/String", name := "indexOf", desc := "(II)I" } : Jvm.MethodName) ({ cls := "java/lang/String", name := "indexOf", desc := "(II)I" } : Jvm.MethodName)) ∈ zT := zmem2 (i := 121) rfl rfl
theorem zm_362 : (Jvm.Cond.code ({ cls := "java/lang/String", name := "indexOf", desc := "(II)I" } : Jvm.MethodName) prog_13_method_80_code (3 : Nat) (Option.some Jvm.ClassFile.FieldType.int)) ∈ zT := zmem2 (i := 122) rfl rfl
theorem zm_363 : (Jvm.Cond.methodLink "java/lang/String" (492 : Nat) ({ cls := "java/lang/String", name := "isLatin1", desc := "()Z" } : Jvm.MethodName)) ∈ zT := zmem2 (i := 123) rfl rfl
theorem zm_364 : (Jvm.Cond.instanceMethod ({ cls := "java/lang/String", name := "isLatin1", desc := "()Z" } : Jvm.MethodName)) ∈ zT := zmem2 (i := 124) rfl rfl
theorem zm_365 : (Jvm.Cond.selects "java/lang/String" ({ cls := "java/lang/String", name := "isLatin1", desc := "()Z" } : Jvm.MethodName) ({ cls := "java/lang/String", name := "isLatin1", desc := "()Z" } : Jvm.MethodName)) ∈ zT := zmem2 (i := 125) rfl rfl
theorem zm_366 : (Jvm.Cond.code ({ cls := "java/lang/String", name := "isLatin1", desc := "()Z" } : Jvm.MethodName) prog_13_method_154_code (1 : Nat) (Option.some Jvm.ClassFile.FieldType.boolean)) ∈ zT := zmem2 (i := 126) rfl rfl
theorem zm_367 : (Jvm.Cond.fieldLink "java/lang/String" (38 : Nat) "java/lang/String" "COMPACT_STRINGS" "Z") ∈ zT := zmem2 (i := 127) rfl rfl
theorem zm_369 : (Jvm.Cond.methodLink "java/lang/String" (505 : Nat) ({ cls := "java/lang/String", name := "length", desc := "()I" } : Jvm.MethodName)) ∈ zT := zmem2 (i := 129) rfl rfl
theorem zm_370 : (Jvm.Cond.instanceMethod ({ cls := "java/lang/String", name := "length", desc := "()I" } : Jvm.MethodName)) ∈ zT := zmem2 (i := 130) rfl rfl
theorem zm_371 : (Jvm.Cond.selects "java/lang/String" ({ cls := "java/lang/String", name := "length", desc := "()I" } : Jvm.MethodName) ({ cls := "java/lang/String", name := "length", desc := "()I" } : Jvm.MethodName)) ∈ zT := zmem2 (i := 131) rfl rfl
theorem zm_372 : (Jvm.Cond.code ({ cls := "java/lang/String", name := "length", desc := "()I" } : Jvm.MethodName) prog_13_method_54_code (1 : Nat) (Option.some Jvm.ClassFile.FieldType.int)) ∈ zT := zmem2 (i := 132) rfl rfl
theorem zm_373 : (Jvm.Cond.methodLink "java/lang/String" (335 : Nat) ({ cls := "java/lang/String", name := "coder", desc := "()B" } : Jvm.MethodName)) ∈ zT := zmem2 (i := 133) rfl rfl
theorem zm_374 : (Jvm.Cond.instanceMethod ({ cls := "java/lang/String", name := "coder", desc := "()B" } : Jvm.MethodName)) ∈ zT := zmem2 (i := 134) rfl rfl
theorem zm_375 : (Jvm.Cond.selects "java/lang/String" ({ cls := "java/lang/String", name := "coder", desc := "()B" } : Jvm.MethodName) ({ cls := "java/lang/String", name := "coder", desc := "()B" } : Jvm.MethodName)) ∈ zT := zmem2 (i := 135) rfl rfl
theorem zm_376 : (Jvm.Cond.code ({ cls := "java/lang/String", name := "coder", desc := "()B" } : Jvm.MethodName) prog_13_method_152_code (1 : Nat) (Option.some Jvm.ClassFile.FieldType.byte)) ∈ zT := zmem2 (i := 136) rfl rfl
theorem zm_377 : (Jvm.Cond.methodLink "java/lang/String" (637 : Nat) ({ cls := "java/lang/StringLatin1", name := "indexOf", desc := "([BIII)I" } : Jvm.MethodName)) ∈ zT := zmem2 (i := 137) rfl rfl
theorem zm_378 : (Jvm.Cond.static ({ cls := "java/lang/StringLatin1", name := "indexOf", desc := "([BIII)I" } : Jvm.MethodName)) ∈ zT := zmem2 (i := 138) rfl rfl
theorem zm_379 : (Jvm.Cond.code ({ cls := "java/lang/StringLatin1", name := "indexOf", desc := "([BIII)I" } : Jvm.MethodName) prog_14_method_22_code (4 : Nat) (Option.some Jvm.ClassFile.FieldType.int)) ∈ zT := zmem2 (i := 139) rfl rfl
theorem zm_380 : (Jvm.Cond.methodLink "java/lang/StringLatin1" (88 : Nat) ({ cls := "java/lang/StringLatin1", name := "canEncode", desc := "(I)Z" } : Jvm.MethodName)) ∈ zT := zmem2 (i := 140) rfl rfl
theorem zm_381 : (Jvm.Cond.static ({ cls := "java/lang/StringLatin1", name := "canEncode", desc := "(I)Z" } : Jvm.MethodName)) ∈ zT := zmem2 (i := 141) rfl rfl
theorem zm_382 : (Jvm.Cond.code ({ cls := "java/lang/StringLatin1", name := "canEncode", desc := "(I)Z" } : Jvm.MethodName) prog_14_method_4_code (1 : Nat) (Option.some Jvm.ClassFile.FieldType.boolean)) ∈ zT := zmem2 (i := 142) rfl rfl
theorem zm_383 : (Jvm.Cond.methodLink "java/lang/StringLatin1" (92 : Nat) ({ cls := "java/lang/Math", name := "max", desc := "(II)I" } : Jvm.MethodName)) ∈ zT := zmem2 (i := 143) rfl rfl
theorem zm_384 : (Jvm.Cond.static ({ cls := "java/lang/Math", name := "max", desc := "(II)I" } : Jvm.MethodName)) ∈ zT := zmem2 (i := 144) rfl rfl
theorem zm_385 : (Jvm.Cond.code ({ cls := "java/lang/Math", name := "max", desc := "(II)I" } : Jvm.MethodName) prog_12_method_65_code (2 : Nat) (Option.some Jvm.ClassFile.FieldType.int)) ∈ zT := zmem2 (i := 145) rfl rfl
theorem zm_386 : (Jvm.Cond.methodLink "java/lang/StringLatin1" (38 : Nat) ({ cls := "java/lang/Math", name := "min", desc := "(II)I" } : Jvm.MethodName)) ∈ zT := zmem2 (i := 146) rfl rfl
theorem zm_387 : (Jvm.Cond.static ({ cls := "java/lang/Math", name := "min", desc := "(II)I" } : Jvm.MethodName)) ∈ zT := zmem2 (i := 147) rfl rfl
theorem zm_388 : (Jvm.Cond.code ({ cls := "java/lang/Math", name := "min", desc := "(II)I" } : Jvm.MethodName) prog_12_method_69_code (2 : Nat) (Option.some Jvm.ClassFile.FieldType.int)) ∈ zT := zmem2 (i := 148) rfl rfl
theorem zm_389 : (Jvm.Cond.methodLink "java/lang/StringLatin1" (95 : Nat) ({ cls := "java/lang/StringLatin1", name := "indexOfChar", desc := "([BIII)I" } : Jvm.MethodName)) ∈ zT := zmem2 (i := 149) rfl rfl
theorem zm_390 : (Jvm.Cond.static ({ cls := "java/lang/StringLatin1", name := "indexOfChar", desc := "([BIII)I" } : Jvm.MethodName)) ∈ zT := zmem2 (i := 150) rfl rfl
theorem zm_391 : (Jvm.Cond.code ({ cls := "java/lang/StringLatin1", name := "indexOfChar", desc := "([BIII)I" } : Jvm.MethodName) prog_14_method_23_code (6 : Nat) (Option.some Jvm.ClassFile.FieldType.int)) ∈ zT := zmem2 (i := 151) rfl rfl
theorem zm_392 : (Jvm.Cond.methodLink "java/lang/String" (640 : Nat) ({ cls := "java/lang/StringUTF16", name := "indexOf", desc := "([BIII)I" } : Jvm.MethodName)) ∈ zT := zmem2 (i := 152) rfl rfl
theorem zm_393 : (Jvm.Cond.static ({ cls := "java/lang/StringUTF16", name := "indexOf", desc := "([BIII)I" } : Jvm.MethodName)) ∈ zT := zmem2 (i := 153) rfl rfl
theorem zm_394 : (Jvm.Cond.code ({ cls := "java/lang/StringUTF16", name := "indexOf", desc := "([BIII)I" } : Jvm.MethodName) prog_15_method_40_code (4 : Nat) (Option.some Jvm.ClassFile.FieldType.int)) ∈ zT := zmem2 (i := 154) rfl rfl
theorem zm_395 : (Jvm.Cond.methodLink "java/lang/StringUTF16" (224 : Nat) ({ cls := "java/lang/Math", name := "max", desc := "(II)I" } : Jvm.MethodName)) ∈ zT := zmem2 (i := 155) rfl rfl
theorem zm_396 : (Jvm.Cond.methodLink "java/lang/StringUTF16" (183 : Nat) ({ cls := "java/lang/Math", name := "min", desc := "(II)I" } : Jvm.MethodName)) ∈ zT := zmem2 (i := 156) rfl rfl
theorem zm_397 : (Jvm.Cond.constant "java/lang/StringUTF16" (227 : Nat) (65536 : Int32)) ∈ zT := zmem2 (i := 157) rfl rfl
theorem zm_398 : (Jvm.Cond.methodLink "java/lang/StringUTF16" (228 : Nat) ({ cls := "java/lang/StringUTF16", name := "indexOfChar", desc := "([BIII)I" } : Jvm.MethodName)) ∈ zT := zmem2 (i := 158) rfl rfl
theorem zm_399 : (Jvm.Cond.static ({ cls := "java/lang/StringUTF16", name := "indexOfChar", desc := "([BIII)I" } : Jvm.MethodName)) ∈ zT := zmem2 (i := 159) rfl rfl
theorem zm_400 : (Jvm.Cond.code ({ cls := "java/lang/StringUTF16", name := "indexOfChar", desc := "([BIII)I" } : Jvm.MethodName) prog_15_method_47_code (4 : Nat) (Option.some Jvm.ClassFile.FieldType.int)) ∈ zT := zmem2 (i := 160) rfl rfl
theorem zm_401 : (Jvm.Cond.methodLink "java/lang/StringUTF16" (96 : Nat) ({ cls := "java/lang/StringUTF16", name := "checkBoundsBeginEnd", desc := "(II[B)V" } : Jvm.MethodName)) ∈ zT := zmem2 (i := 161) rfl rfl
theorem zm_402 : (Jvm.Cond.static ({ cls := "java/lang/StringUTF16", name := "checkBoundsBeginEnd", desc := "(II[B)V" } : Jvm.MethodName)) ∈ zT := zmem2 (i := 162) rfl rfl
theorem zm_403 : (Jvm.Cond.code ({ cls := "java/lang/StringUTF16", name := "checkBoundsBeginEnd", desc := "(II[B)V" } : Jvm.MethodName) prog_15_method_93_code (3 : Nat) (Option.none : Option Jvm.ClassFile.FieldType)) ∈ zT := zmem2 (i := 163) rfl rfl
theorem zm_404 : (Jvm.Cond.methodLink "java/lang/StringUTF16" (48 : Nat) ({ cls := "java/lang/StringUTF16", name := "length", desc := "([B)I" } : Jvm.MethodName)) ∈ zT := zmem2 (i := 164) rfl rfl
theorem zm_405 : (Jvm.Cond.static ({ cls := "java/lang/StringUTF16", name := "length", desc := "([B)I" } : Jvm.MethodName)) ∈ zT := zmem2 (i := 165) rfl rfl
theorem zm_406 : (Jvm.Cond.code ({ cls := "java/lang/StringUTF16", name := "length", desc := "([B)I" } : Jvm.MethodName) prog_15_method_6_code (1 : Nat) (Option.some Jvm.ClassFile.FieldType.int)) ∈ zT := zmem2 (i := 166) rfl rfl
theorem zm_407 : (Jvm.Cond.methodLink "java/lang/StringUTF16" (241 : Nat) ({ cls := "java/lang/String", name := "checkBoundsBeginEnd", desc := "(III)V" } : Jvm.MethodName)) ∈ zT := zmem2 (i := 167) rfl rfl
theorem zm_408 : (Jvm.Cond.static ({ cls := "java/lang/String", name := "checkBoundsBeginEnd", desc := "(III)V" } : Jvm.MethodName)) ∈ zT := zmem2 (i := 168) rfl rfl
theorem zm_409 : (Jvm.Cond.code ({ cls := "java/lang/String", name := "checkBoundsBeginEnd", desc := "(III)V" } : Jvm.MethodName) prog_13_method_158_code (3 : Nat) (Option.none : Option Jvm.ClassFile.FieldType)) ∈ zT := zmem2 (i := 169) rfl rfl
theorem zm_410 : (Jvm.Cond.fieldLink "java/lang/String" (1053 : Nat) "jdk/internal/util/Preconditions" "SIOOBE_FORMATTER" "Ljava/util/function/BiFunction;") ∈ zT := zmem2 (i := 170) rfl rfl
theorem zm_412 : (Jvm.Cond.methodLink "java/lang/String" (1062 : Nat) ({ cls := "jdk/internal/util/Preconditions", name := "checkFromToIndex", desc := "(IIILjava/util/function/BiFunction;)I" } : Jvm.MethodName)) ∈ zT := zmem2 (i := 172) rfl rfl
theorem zm_413 : (Jvm.Cond.static ({ cls := "jdk/internal/util/Preconditions", name := "checkFromToIndex", desc := "(IIILjava/util/function/BiFunction;)I" } : Jvm.MethodName)) ∈ zT := zmem2 (i := 173) rfl rfl
theorem zm_414 : (Jvm.Cond.code ({ cls := "jdk/internal/util/Preconditions", name := "checkFromToIndex", desc := "(IIILjava/util/function/BiFunction;)I" } : Jvm.MethodName) prog_16_method_12_code (4 : Nat) (Option.some Jvm.ClassFile.FieldType.int)) ∈ zT := zmem2 (i := 174) rfl rfl
theorem zm_415 : (Jvm.Cond.methodLink "java/lang/StringUTF16" (244 : Nat) ({ cls := "java/lang/StringUTF16", name := "indexOfCharUnsafe", desc := "([BIII)I" } : Jvm.MethodName)) ∈ zT := zmem2 (i := 175) rfl rfl
theorem zm_416 : (Jvm.Cond.static ({ cls := "java/lang/StringUTF16", name := "indexOfCharUnsafe", desc := "([BIII)I" } : Jvm.MethodName)) ∈ zT := zmem2 (i := 176) rfl rfl
theorem zm_417 : (Jvm.Cond.code ({ cls := "java/lang/StringUTF16", name := "indexOfCharUnsafe", desc := "([BIII)I" } : Jvm.MethodName) prog_15_method_48_code (5 : Nat) (Option.some Jvm.ClassFile.FieldType.int)) ∈ zT := zmem2 (i := 177) rfl rfl
theorem zm_418 : (Jvm.Cond.methodLink "java/lang/StringUTF16" (71 : Nat) ({ cls := "java/lang/StringUTF16", name := "getChar", desc := "([BI)C" } : Jvm.MethodName)) ∈ zT := zmem2 (i := 178) rfl rfl
theorem zm_419 : (Jvm.Cond.static ({ cls := "java/lang/StringUTF16", name := "getChar", desc := "([BI)C" } : Jvm.MethodName)) ∈ zT := zmem2 (i := 179) rfl rfl
theorem zm_420 : (Jvm.Cond.code ({ cls := "java/lang/StringUTF16", name := "getChar", desc := "([BI)C" } : Jvm.MethodName) prog_15_method_5_code (2 : Nat) (Option.some Jvm.ClassFile.FieldType.char)) ∈ zT := zmem2 (i := 180) rfl rfl
theorem zm_421 : (Jvm.Cond.fieldLink "java/lang/StringUTF16" (44 : Nat) "java/lang/StringUTF16" "$assertionsDisabled" "Z") ∈ zT := zmem2 (i := 181) rfl rfl
theorem zm_423 : (Jvm.Cond.fieldLink "java/lang/StringUTF16" (59 : Nat) "java/lang/StringUTF16" "HI_BYTE_SHIFT" "I") ∈ zT := zmem2 (i := 183) rfl rfl
theorem zm_425 : (Jvm.Cond.fieldLink "java/lang/StringUTF16" (63 : Nat) "java/lang/StringUTF16" "LO_BYTE_SHIFT" "I") ∈ zT := zmem2 (i := 185) rfl rfl
theorem zm_427 : (Jvm.Cond.methodLink "java/lang/StringUTF16" (232 : Nat) ({ cls := "java/lang/StringUTF16", name := "indexOfSupplementary", desc := "([BIII)I" } : Jvm.MethodName)) ∈ zT := zmem2 (i := 187) rfl rfl
theorem zm_428 : (Jvm.Cond.static ({ cls := "java/lang/StringUTF16", name := "indexOfSupplementary", desc := "([BIII)I" } : Jvm.MethodName)) ∈ zT := zmem2 (i := 188) rfl rfl
theorem zm_429 : (Jvm.Cond.code ({ cls := "java/lang/StringUTF16", name := "indexOfSupplementary", desc := "([BIII)I" } : Jvm.MethodName) prog_15_method_49_code (7 : Nat) (Option.some Jvm.ClassFile.FieldType.int)) ∈ zT := zmem2 (i := 189) rfl rfl
theorem zm_430 : (Jvm.Cond.methodLink "java/lang/StringUTF16" (164 : Nat) ({ cls := "java/lang/Character", name := "isValidCodePoint", desc := "(I)Z" } : Jvm.MethodName)) ∈ zT := zmem2 (i := 190) rfl rfl
theorem zm_431 : (Jvm.Cond.static ({ cls := "java/lang/Character", name := "isValidCodePoint", desc := "(I)Z" } : Jvm.MethodName)) ∈ zT := zmem2 (i := 191) rfl rfl
theorem zm_432 : (Jvm.Cond.code ({ cls := "java/lang/Character", name := "isValidCodePoint", desc := "(I)Z" } : Jvm.MethodName) prog_10_method_11_code (2 : Nat) (Option.some Jvm.ClassFile.FieldType.boolean)) ∈ zT := zmem2 (i := 192) rfl rfl
theorem zm_433 : (Jvm.Cond.methodLink "java/lang/StringUTF16" (157 : Nat) ({ cls := "java/lang/Character", name := "highSurrogate", desc := "(I)C" } : Jvm.MethodName)) ∈ zT := zmem2 (i := 193) rfl rfl
theorem zm_434 : (Jvm.Cond.static ({ cls := "java/lang/Character", name := "highSurrogate", desc := "(I)C" } : Jvm.MethodName)) ∈ zT := zmem2 (i := 194) rfl rfl
theorem zm_435 : (Jvm.Cond.code ({ cls := "java/lang/Character", name := "highSurrogate", desc := "(I)C" } : Jvm.MethodName) prog_10_method_28_code (1 : Nat) (Option.some Jvm.ClassFile.FieldType.char)) ∈ zT := zmem2 (i := 195) rfl rfl
theorem zm_436 : (Jvm.Cond.constant "java/lang/Character" (110 : Nat) (55232 : Int32)) ∈ zT := zmem2 (i := 196) rfl rfl
theorem zm_437 : (Jvm.Cond.methodLink "java/lang/StringUTF16" (161 : Nat) ({ cls := "java/lang/Character", name := "lowSurrogate", desc := "(I)C" } : Jvm.MethodName)) ∈ zT := zmem2 (i := 197) rfl rfl
theorem zm_438 : (Jvm.Cond.static ({ cls := "java/lang/Character", name := "lowSurrogate", desc := "(I)C" } : Jvm.MethodName)) ∈ zT := zmem2 (i := 198) rfl rfl
theorem zm_439 : (Jvm.Cond.code ({ cls := "java/lang/Character", name := "lowSurrogate", desc := "(I)C" } : Jvm.MethodName) prog_10_method_29_code (1 : Nat) (Option.some Jvm.ClassFile.FieldType.char)) ∈ zT := zmem2 (i := 199) rfl rfl
theorem zm_440 : (Jvm.Cond.constant "java/lang/Character" (76 : Nat) (56320 : Int32)) ∈ zT := zmem2 (i := 200) rfl rfl
theorem zm_441 : (Jvm.Cond.methodLink "WindowLetters" (99 : Nat) ({ cls := "WindowLetters$Shop", name := "writeName", desc := "(LWindowLetters$Pad;IIII)I" } : Jvm.MethodName)) ∈ zT := zmem2 (i := 201) rfl rfl
theorem zm_442 : (Jvm.Cond.instanceMethod ({ cls := "WindowLetters$Shop", name := "writeName", desc := "(LWindowLetters$Pad;IIII)I" } : Jvm.MethodName)) ∈ zT := zmem2 (i := 202) rfl rfl
theorem zm_443 : (Jvm.Cond.selects "WindowLetters$Shop" ({ cls := "WindowLetters$Shop", name := "writeName", desc := "(LWindowLetters$Pad;IIII)I" } : Jvm.MethodName) ({ cls := "WindowLetters$Shop", name := "writeName", desc := "(LWindowLetters$Pad;IIII)I" } : Jvm.MethodName)) ∈ zT := zmem2 (i := 203) rfl rfl
theorem zm_444 : (Jvm.Cond.code ({ cls := "WindowLetters$Shop", name := "writeName", desc := "(LWindowLetters$Pad;IIII)I" } : Jvm.MethodName) prog_7_method_9_code (10 : Nat) (Option.some Jvm.ClassFile.FieldType.int)) ∈ zT := zmem2 (i := 204) rfl rfl
theorem zm_445 : (Jvm.Cond.methodLink "WindowLetters$Shop" (103 : Nat) ({ cls := "WindowLetters$Pad", name := "letterAt", desc := "(I)I" } : Jvm.MethodName)) ∈ zT := zmem2 (i := 205) rfl rfl
theorem zm_446 : (Jvm.Cond.methodLink "WindowLetters$Shop" (106 : Nat) ({ cls := "WindowLetters$Shop", name := "lowestLoose", desc := "(III)I" } : Jvm.MethodName)) ∈ zT := zmem2 (i := 206) rfl rfl
theorem zm_448 : (Jvm.Cond.instanceMethod ({ cls := "WindowLetters$Shop", name := "lowestLoose", desc := "(III)I" } : Jvm.MethodName)) ∈ zT := zmem2 (i := 208) rfl rfl
theorem zm_449 : (Jvm.Cond.code ({ cls := "WindowLetters$Shop", name := "lowestLoose", desc := "(III)I" } : Jvm.MethodName) prog_7_method_10_code (6 : Nat) (Option.some Jvm.ClassFile.FieldType.int)) ∈ zT := zmem2 (i := 209) rfl rfl
theorem zm_450 : (Jvm.Cond.methodLink "WindowLetters$Shop" (116 : Nat) ({ cls := "WindowLetters$Shop", name := "pieceAt", desc := "(I)LWindowLetters$Piece;" } : Jvm.MethodName)) ∈ zT := zmem2 (i := 210) rfl rfl
theorem zm_451 : (Jvm.Cond.instanceMethod ({ cls := "WindowLetters$Shop", name := "pieceAt", desc := "(I)LWindowLetters$Piece;" } : Jvm.MethodName)) ∈ zT := zmem2 (i := 211) rfl rfl
theorem zm_452 : (Jvm.Cond.selects "WindowLetters$Shop" ({ cls := "WindowLetters$Shop", name := "pieceAt", desc := "(I)LWindowLetters$Piece;" } : Jvm.MethodName) ({ cls := "WindowLetters$Shop", name := "pieceAt", desc := "(I)LWindowLetters$Piece;" } : Jvm.MethodName)) ∈ zT := zmem2 (i := 212) rfl rfl
theorem zm_453 : (Jvm.Cond.code ({ cls := "WindowLetters$Shop", name := "pieceAt", desc := "(I)LWindowLetters$Piece;" } : Jvm.MethodName) prog_7_method_4_code (2 : Nat) (Option.some (Jvm.ClassFile.FieldType.object "WindowLetters$Piece"))) ∈ zT := zmem2 (i := 213) rfl rfl
theorem zm_454 : (Jvm.Cond.methodLinkNest "WindowLetters$Shop" (123 : Nat) ({ cls := "WindowLetters", name := "mirroringOf", desc := "(I)I" } : Jvm.MethodName) "WindowLetters") ∈ zN := zmemN2 (i := 214) rfl rfl
theorem zm_455 : (Jvm.Cond.methodLink "WindowLetters$Shop" (110 : Nat) ({ cls := "WindowLetters$Shop", name := "makePiece", desc := "(III)I" } : Jvm.MethodName)) ∈ zT := zmem2 (i := 215) rfl rfl
theorem zm_456 : (Jvm.Cond.methodLink "WindowLetters$Shop" (113 : Nat) ({ cls := "WindowLetters$Shop", name := "putIntoPane", desc := "(III)I" } : Jvm.MethodName)) ∈ zT := zmem2 (i := 216) rfl rfl
theorem zm_457 : (Jvm.Cond.instanceMethod ({ cls := "WindowLetters$Shop", name := "putIntoPane", desc := "(III)I" } : Jvm.MethodName)) ∈ zT := zmem2 (i := 217) rfl rfl
theorem zm_458 : (Jvm.Cond.selects "WindowLetters$Shop" ({ cls := "WindowLetters$Shop", name := "putIntoPane", desc := "(III)I" } : Jvm.MethodName) ({ cls := "WindowLetters$Shop", name := "putIntoPane", desc := "(III)I" } : Jvm.MethodName)) ∈ zT := zmem2 (i := 218) rfl rfl
theorem zm_459 : (Jvm.Cond.code ({ cls := "WindowLetters$Shop", name := "putIntoPane", desc := "(III)I" } : Jvm.MethodName) prog_7_method_11_code (6 : Nat) (Option.some Jvm.ClassFile.FieldType.int)) ∈ zT := zmem2 (i := 219) rfl rfl
theorem zm_460 : (Jvm.Cond.methodLinkNest "WindowLetters$Shop" (126 : Nat) ({ cls := "WindowLetters", name := "isPane", desc := "(I)Z" } : Jvm.MethodName) "WindowLetters") ∈ zN := zmemN2 (i := 220) rfl rfl
theorem zm_461 : (Jvm.Cond.methodLinkNest "WindowLetters$Shop" (130 : Nat) ({ cls := "WindowLetters", name := "isPlace", desc := "(I)Z" } : Jvm.MethodName) "WindowLetters") ∈ zN := zmemN2 (i := 221) rfl rfl
theorem zm_462 : (Jvm.Cond.methodLink "WindowLetters$Shop" (136 : Nat) ({ cls := "WindowLetters$Shop", name := "piecesIn", desc := "(I)I" } : Jvm.MethodName)) ∈ zT := zmem2 (i := 222) rfl rfl
theorem zm_464 : (Jvm.Cond.instanceMethod ({ cls := "WindowLetters$Shop", name := "piecesIn", desc := "(I)I" } : Jvm.MethodName)) ∈ zT := zmem2 (i := 224) rfl rfl
theorem zm_465 : (Jvm.Cond.code ({ cls := "WindowLetters$Shop", name := "piecesIn", desc := "(I)I" } : Jvm.MethodName) prog_7_method_15_code (5 : Nat) (Option.some Jvm.ClassFile.FieldType.int)) ∈ zT := zmem2 (i := 225) rfl rfl
theorem zm_466 : (Jvm.Cond.methodLink "WindowLetters" (103 : Nat) ({ cls := "WindowLetters$Pad", name := "empty", desc := "()V" } : Jvm.MethodName)) ∈ zT := zmem2 (i := 226) rfl rfl
theorem zm_467 : (Jvm.Cond.instanceMethod ({ cls := "WindowLetters$Pad", name := "empty", desc := "()V" } : Jvm.MethodName)) ∈ zT := zmem2 (i := 227) rfl rfl
theorem zm_468 : (Jvm.Cond.selects "WindowLetters$Pad" ({ cls := "WindowLetters$Pad", name := "empty", desc := "()V" } : Jvm.MethodName) ({ cls := "WindowLetters$Pad", name := "empty", desc := "()V" } : Jvm.MethodName)) ∈ zT := zmem2 (i := 228) rfl rfl
theorem zm_469 : (Jvm.Cond.code ({ cls := "WindowLetters$Pad", name := "empty", desc := "()V" } : Jvm.MethodName) prog_3_method_2_code (1 : Nat) (Option.none : Option Jvm.ClassFile.FieldType)) ∈ zT := zmem2 (i := 229) rfl rfl
theorem zm_470 : (Jvm.Cond.arrayClass Jvm.ClassFile.FieldType.byte) ∈ zT := zmem2 (i := 230) rfl rfl
theorem zm_471 : (Jvm.Cond.methodLink "WindowLettersLaw" (33 : Nat) ({ cls := "WindowLetters", name := "place", desc := "(III)I" } : Jvm.MethodName)) ∈ zT := zmem2 (i := 231) rfl rfl
theorem zm_472 : (Jvm.Cond.instanceMethod ({ cls := "WindowLetters", name := "place", desc := "(III)I" } : Jvm.MethodName)) ∈ zT := zmem2 (i := 232) rfl rfl
theorem zm_473 : (Jvm.Cond.selects "WindowLetters" ({ cls := "WindowLetters", name := "place", desc := "(III)I" } : Jvm.MethodName) ({ cls := "WindowLetters", name := "place", desc := "(III)I" } : Jvm.MethodName)) ∈ zT := zmem2 (i := 233) rfl rfl
theorem zm_474 : (Jvm.Cond.code ({ cls := "WindowLetters", name := "place", desc := "(III)I" } : Jvm.MethodName) prog_1_method_6_code (4 : Nat) (Option.some Jvm.ClassFile.FieldType.int)) ∈ zT := zmem2 (i := 234) rfl rfl
theorem zm_475 : (Jvm.Cond.methodLink "WindowLetters" (106 : Nat) ({ cls := "WindowLetters$Shop", name := "pieceAt", desc := "(I)LWindowLetters$Piece;" } : Jvm.MethodName)) ∈ zT := zmem2 (i := 235) rfl rfl
theorem zm_476 : (Jvm.Cond.methodLink "WindowLetters" (110 : Nat) ({ cls := "WindowLetters$Shop", name := "putIntoPane", desc := "(III)I" } : Jvm.MethodName)) ∈ zT := zmem2 (i := 236) rfl rfl
theorem zm_477 : (Jvm.Cond.methodLink "WindowLettersLaw" (37 : Nat) ({ cls := "WindowLetters", name := "clear", desc := "(I)I" } : Jvm.MethodName)) ∈ zT := zmem2 (i := 237) rfl rfl
theorem zm_478 : (Jvm.Cond.instanceMethod ({ cls := "WindowLetters", name := "clear", desc := "(I)I" } : Jvm.MethodName)) ∈ zT := zmem2 (i := 238) rfl rfl
theorem zm_479 : (Jvm.Cond.selects "WindowLetters" ({ cls := "WindowLetters", name := "clear", desc := "(I)I" } : Jvm.MethodName) ({ cls := "WindowLetters", name := "clear", desc := "(I)I" } : Jvm.MethodName)) ∈ zT := zmem2 (i := 239) rfl rfl
theorem zm_480 : (Jvm.Cond.code ({ cls := "WindowLetters", name := "clear", desc := "(I)I" } : Jvm.MethodName) prog_1_method_7_code (2 : Nat) (Option.some Jvm.ClassFile.FieldType.int)) ∈ zT := zmem3 (i := 0) rfl rfl
theorem zm_481 : (Jvm.Cond.methodLink "WindowLetters" (113 : Nat) ({ cls := "WindowLetters$Shop", name := "clearPane", desc := "(I)I" } : Jvm.MethodName)) ∈ zT := zmem3 (i := 1) rfl rfl
theorem zm_482 : (Jvm.Cond.instanceMethod ({ cls := "WindowLetters$Shop", name := "clearPane", desc := "(I)I" } : Jvm.MethodName)) ∈ zT := zmem3 (i := 2) rfl rfl
theorem zm_483 : (Jvm.Cond.selects "WindowLetters$Shop" ({ cls := "WindowLetters$Shop", name := "clearPane", desc := "(I)I" } : Jvm.MethodName) ({ cls := "WindowLetters$Shop", name := "clearPane", desc := "(I)I" } : Jvm.MethodName)) ∈ zT := zmem3 (i := 3) rfl rfl
theorem zm_484 : (Jvm.Cond.code ({ cls := "WindowLetters$Shop", name := "clearPane", desc := "(I)I" } : Jvm.MethodName) prog_7_method_12_code (5 : Nat) (Option.some Jvm.ClassFile.FieldType.int)) ∈ zT := zmem3 (i := 4) rfl rfl
theorem zm_485 : (Jvm.Cond.methodLink "WindowLettersLaw" (41 : Nat) ({ cls := "WindowLetters", name := "throwAway", desc := "(I)I" } : Jvm.MethodName)) ∈ zT := zmem3 (i := 5) rfl rfl
theorem zm_486 : (Jvm.Cond.instanceMethod ({ cls := "WindowLetters", name := "throwAway", desc := "(I)I" } : Jvm.MethodName)) ∈ zT := zmem3 (i := 6) rfl rfl
theorem zm_487 : (Jvm.Cond.selects "WindowLetters" ({ cls := "WindowLetters", name := "throwAway", desc := "(I)I" } : Jvm.MethodName) ({ cls := "WindowLetters", name := "throwAway", desc := "(I)I" } : Jvm.MethodName)) ∈ zT := zmem3 (i := 7) rfl rfl
theorem zm_488 : (Jvm.Cond.code ({ cls := "WindowLetters", name := "throwAway", desc := "(I)I" } : Jvm.MethodName) prog_1_method_8_code (2 : Nat) (Option.some Jvm.ClassFile.FieldType.int)) ∈ zT := zmem3 (i := 8) rfl rfl
theorem zm_489 : (Jvm.Cond.methodLink "WindowLetters" (116 : Nat) ({ cls := "WindowLetters$Shop", name := "wastePiece", desc := "(I)I" } : Jvm.MethodName)) ∈ zT := zmem3 (i := 9) rfl rfl
theorem zm_490 : (Jvm.Cond.instanceMethod ({ cls := "WindowLetters$Shop", name := "wastePiece", desc := "(I)I" } : Jvm.MethodName)) ∈ zT := zmem3 (i := 10) rfl rfl
theorem zm_491 : (Jvm.Cond.selects "WindowLetters$Shop" ({ cls := "WindowLetters$Shop", name := "wastePiece", desc := "(I)I" } : Jvm.MethodName) ({ cls := "WindowLetters$Shop", name := "wastePiece", desc := "(I)I" } : Jvm.MethodName)) ∈ zT := zmem3 (i := 11) rfl rfl
theorem zm_492 : (Jvm.Cond.code ({ cls := "WindowLetters$Shop", name := "wastePiece", desc := "(I)I" } : Jvm.MethodName) prog_7_method_13_code (3 : Nat) (Option.some Jvm.ClassFile.FieldType.int)) ∈ zT := zmem3 (i := 12) rfl rfl
theorem zm_493 : (Jvm.Cond.methodLink "WindowLetters$Shop" (139 : Nat) ({ cls := "WindowLetters$Shapes", name := "squaresOf", desc := "(I)I" } : Jvm.MethodName)) ∈ zT := zmem3 (i := 13) rfl rfl
theorem zm_494 : (Jvm.Cond.instanceMethod ({ cls := "WindowLetters$Shapes", name := "squaresOf", desc := "(I)I" } : Jvm.MethodName)) ∈ zT := zmem3 (i := 14) rfl rfl
theorem zm_495 : (Jvm.Cond.selects "WindowLetters$Shapes" ({ cls := "WindowLetters$Shapes", name := "squaresOf", desc := "(I)I" } : Jvm.MethodName) ({ cls := "WindowLetters$Shapes", name := "squaresOf", desc := "(I)I" } : Jvm.MethodName)) ∈ zT := zmem3 (i := 15) rfl rfl
theorem zm_496 : (Jvm.Cond.code ({ cls := "WindowLetters$Shapes", name := "squaresOf", desc := "(I)I" } : Jvm.MethodName) prog_5_method_3_code (4 : Nat) (Option.some Jvm.ClassFile.FieldType.int)) ∈ zT := zmem3 (i := 16) rfl rfl
theorem zm_497 : (Jvm.Cond.methodLink "WindowLetters$Shapes" (30 : Nat) ({ cls := "WindowLetters$Shapes", name := "columnsOf", desc := "(III)I" } : Jvm.MethodName)) ∈ zT := zmem3 (i := 17) rfl rfl
theorem zm_498 : (Jvm.Cond.methodLink "WindowLetters$Shapes" (33 : Nat) ({ cls := "java/lang/Integer", name := "bitCount", desc := "(I)I" } : Jvm.MethodName)) ∈ zT := zmem3 (i := 18) rfl rfl
theorem zm_499 : (Jvm.Cond.methodLink "WindowLettersLaw" (45 : Nat) ({ cls := "WindowLetters", name := "scrap", desc := "(I)I" } : Jvm.MethodName)) ∈ zT := zmem3 (i := 19) rfl rfl
theorem zm_500 : (Jvm.Cond.instanceMethod ({ cls := "WindowLetters", name := "scrap", desc := "(I)I" } : Jvm.MethodName)) ∈ zT := zmem3 (i := 20) rfl rfl
theorem zm_501 : (Jvm.Cond.selects "WindowLetters" ({ cls := "WindowLetters", name := "scrap", desc := "(I)I" } : Jvm.MethodName) ({ cls := "WindowLetters", name := "scrap", desc := "(I)I" } : Jvm.MethodName)) ∈ zT := zmem3 (i := 21) rfl rfl
theorem zm_502 : (Jvm.Cond.code ({ cls := "WindowLetters", name := "scrap", desc := "(I)I" } : Jvm.MethodName) prog_1_method_9_code (2 : Nat) (Option.some Jvm.ClassFile.FieldType.int)) ∈ zT := zmem3 (i := 22) rfl rfl
theorem zm_503 : (Jvm.Cond.methodLink "WindowLetters" (119 : Nat) ({ cls := "WindowLetters$Shop", name := "scrapSheet", desc := "(I)I" } : Jvm.MethodName)) ∈ zT := zmem3 (i := 23) rfl rfl
theorem zm_504 : (Jvm.Cond.instanceMethod ({ cls := "WindowLetters$Shop", name := "scrapSheet", desc := "(I)I" } : Jvm.MethodName)) ∈ zT := zmem3 (i := 24) rfl rfl
theorem zm_505 : (Jvm.Cond.selects "WindowLetters$Shop" ({ cls := "WindowLetters$Shop", name := "scrapSheet", desc := "(I)I" } : Jvm.MethodName) ({ cls := "WindowLetters$Shop", name := "scrapSheet", desc := "(I)I" } : Jvm.MethodName)) ∈ zT := zmem3 (i := 25) rfl rfl
theorem zm_506 : (Jvm.Cond.code ({ cls := "WindowLetters$Shop", name := "scrapSheet", desc := "(I)I" } : Jvm.MethodName) prog_7_method_14_code (3 : Nat) (Option.some Jvm.ClassFile.FieldType.int)) ∈ zT := zmem3 (i := 26) rfl rfl
theorem zm_507 : (Jvm.Cond.methodLink "WindowLetters$Shop" (148 : Nat) ({ cls := "WindowLetters$Sheet", name := "squaresLeft", desc := "()I" } : Jvm.MethodName)) ∈ zT := zmem3 (i := 27) rfl rfl
theorem zm_508 : (Jvm.Cond.instanceMethod ({ cls := "WindowLetters$Sheet", name := "squaresLeft", desc := "()I" } : Jvm.MethodName)) ∈ zT := zmem3 (i := 28) rfl rfl
theorem zm_509 : (Jvm.Cond.selects "WindowLetters$Sheet" ({ cls := "WindowLetters$Sheet", name := "squaresLeft", desc := "()I" } : Jvm.MethodName) ({ cls := "WindowLetters$Sheet", name := "squaresLeft", desc := "()I" } : Jvm.MethodName)) ∈ zT := zmem3 (i := 29) rfl rfl
theorem zm_510 : (Jvm.Cond.code ({ cls := "WindowLetters$Sheet", name := "squaresLeft", desc := "()I" } : Jvm.MethodName) prog_6_method_11_code (3 : Nat) (Option.some Jvm.ClassFile.FieldType.int)) ∈ zT := zmem3 (i := 30) rfl rfl
theorem zm_511 : (Jvm.Cond.methodLink "WindowLetters$Sheet" (67 : Nat) ({ cls := "java/lang/Integer", name := "bitCount", desc := "(I)I" } : Jvm.MethodName)) ∈ zT := zmem3 (i := 31) rfl rfl
theorem zm_512 : (Jvm.Cond.methodLink "WindowLettersLaw" (49 : Nat) ({ cls := "WindowLetters", name := "of", desc := "(II)I" } : Jvm.MethodName)) ∈ zT := zmem3 (i := 32) rfl rfl
theorem zm_513 : (Jvm.Cond.instanceMethod ({ cls := "WindowLetters", name := "of", desc := "(II)I" } : Jvm.MethodName)) ∈ zT := zmem3 (i := 33) rfl rfl
theorem zm_514 : (Jvm.Cond.selects "WindowLetters" ({ cls := "WindowLetters", name := "of", desc := "(II)I" } : Jvm.MethodName) ({ cls := "WindowLetters", name := "of", desc := "(II)I" } : Jvm.MethodName)) ∈ zT := zmem3 (i := 34) rfl rfl
theorem zm_515 : (Jvm.Cond.code ({ cls := "WindowLetters", name := "of", desc := "(II)I" } : Jvm.MethodName) prog_1_method_10_code (4 : Nat) (Option.some Jvm.ClassFile.FieldType.int)) ∈ zT := zmem3 (i := 35) rfl rfl
theorem zm_516 : (Jvm.Cond.methodLink "WindowLetters" (134 : Nat) ({ cls := "WindowLetters", name := "mirroringOf", desc := "(I)I" } : Jvm.MethodName)) ∈ zT := zmem3 (i := 36) rfl rfl
theorem zm_517 : (Jvm.Cond.methodLink "WindowLettersLaw" (54 : Nat) ({ cls := "WindowLetters", name := "ofSheet", desc := "(II)I" } : Jvm.MethodName)) ∈ zT := zmem3 (i := 37) rfl rfl
theorem zm_518 : (Jvm.Cond.instanceMethod ({ cls := "WindowLetters", name := "ofSheet", desc := "(II)I" } : Jvm.MethodName)) ∈ zT := zmem3 (i := 38) rfl rfl
theorem zm_519 : (Jvm.Cond.selects "WindowLetters" ({ cls := "WindowLetters", name := "ofSheet", desc := "(II)I" } : Jvm.MethodName) ({ cls := "WindowLetters", name := "ofSheet", desc := "(II)I" } : Jvm.MethodName)) ∈ zT := zmem3 (i := 39) rfl rfl
theorem zm_520 : (Jvm.Cond.code ({ cls := "WindowLetters", name := "ofSheet", desc := "(II)I" } : Jvm.MethodName) prog_1_method_11_code (4 : Nat) (Option.some Jvm.ClassFile.FieldType.int)) ∈ zT := zmem3 (i := 40) rfl rfl
theorem zm_521 : (Jvm.Cond.methodLink "WindowLetters" (150 : Nat) ({ cls := "WindowLetters$Sheet", name := "squaresLeft", desc := "()I" } : Jvm.MethodName)) ∈ zT := zmem3 (i := 41) rfl rfl
theorem zm_522 : (Jvm.Cond.methodLink "WindowLetters" (153 : Nat) ({ cls := "WindowLetters$Shop", name := "piecesFrom", desc := "(I)I" } : Jvm.MethodName)) ∈ zT := zmem3 (i := 42) rfl rfl
theorem zm_523 : (Jvm.Cond.instanceMethod ({ cls := "WindowLetters$Shop", name := "piecesFrom", desc := "(I)I" } : Jvm.MethodName)) ∈ zT := zmem3 (i := 43) rfl rfl
theorem zm_524 : (Jvm.Cond.selects "WindowLetters$Shop" ({ cls := "WindowLetters$Shop", name := "piecesFrom", desc := "(I)I" } : Jvm.MethodName) ({ cls := "WindowLetters$Shop", name := "piecesFrom", desc := "(I)I" } : Jvm.MethodName)) ∈ zT := zmem3 (i := 44) rfl rfl
theorem zm_525 : (Jvm.Cond.code ({ cls := "WindowLetters$Shop", name := "piecesFrom", desc := "(I)I" } : Jvm.MethodName) prog_7_method_16_code (5 : Nat) (Option.some Jvm.ClassFile.FieldType.int)) ∈ zT := zmem3 (i := 45) rfl rfl
theorem zm_526 : (Jvm.Cond.methodLink "WindowLetters" (160 : Nat) ({ cls := "WindowLetters$Sheet", name := "lettersThatFit", desc := "()I" } : Jvm.MethodName)) ∈ zT := zmem3 (i := 46) rfl rfl
theorem zm_527 : (Jvm.Cond.instanceMethod ({ cls := "WindowLetters$Sheet", name := "lettersThatFit", desc := "()I" } : Jvm.MethodName)) ∈ zT := zmem3 (i := 47) rfl rfl
theorem zm_528 : (Jvm.Cond.selects "WindowLetters$Sheet" ({ cls := "WindowLetters$Sheet", name := "lettersThatFit", desc := "()I" } : Jvm.MethodName) ({ cls := "WindowLetters$Sheet", name := "lettersThatFit", desc := "()I" } : Jvm.MethodName)) ∈ zT := zmem3 (i := 48) rfl rfl
theorem zm_529 : (Jvm.Cond.code ({ cls := "WindowLetters$Sheet", name := "lettersThatFit", desc := "()I" } : Jvm.MethodName) prog_6_method_10_code (3 : Nat) (Option.some Jvm.ClassFile.FieldType.int)) ∈ zT := zmem3 (i := 49) rfl rfl
theorem zm_530 : (Jvm.Cond.methodLink "WindowLetters$Sheet" (50 : Nat) ({ cls := "WindowLetters$Sheet", name := "firstFit", desc := "(II)I" } : Jvm.MethodName)) ∈ zT := zmem3 (i := 50) rfl rfl
theorem zm_531 : (Jvm.Cond.methodLink "WindowLettersLaw" (58 : Nat) ({ cls := "WindowLetters", name := "row", desc := "(II)I" } : Jvm.MethodName)) ∈ zT := zmem3 (i := 51) rfl rfl
theorem zm_532 : (Jvm.Cond.instanceMethod ({ cls := "WindowLetters", name := "row", desc := "(II)I" } : Jvm.MethodName)) ∈ zT := zmem3 (i := 52) rfl rfl
theorem zm_533 : (Jvm.Cond.selects "WindowLetters" ({ cls := "WindowLetters", name := "row", desc := "(II)I" } : Jvm.MethodName) ({ cls := "WindowLetters", name := "row", desc := "(II)I" } : Jvm.MethodName)) ∈ zT := zmem3 (i := 53) rfl rfl
theorem zm_534 : (Jvm.Cond.code ({ cls := "WindowLetters", name := "row", desc := "(II)I" } : Jvm.MethodName) prog_1_method_12_code (4 : Nat) (Option.some Jvm.ClassFile.FieldType.int)) ∈ zT := zmem3 (i := 54) rfl rfl
theorem zm_535 : (Jvm.Cond.methodLink "WindowLettersLaw" (62 : Nat) ({ cls := "WindowLetters", name := "pane", desc := "(II)I" } : Jvm.MethodName)) ∈ zT := zmem3 (i := 55) rfl rfl
theorem zm_536 : (Jvm.Cond.instanceMethod ({ cls := "WindowLetters", name := "pane", desc := "(II)I" } : Jvm.MethodName)) ∈ zT := zmem3 (i := 56) rfl rfl
theorem zm_537 : (Jvm.Cond.selects "WindowLetters" ({ cls := "WindowLetters", name := "pane", desc := "(II)I" } : Jvm.MethodName) ({ cls := "WindowLetters", name := "pane", desc := "(II)I" } : Jvm.MethodName)) ∈ zT := zmem3 (i := 57) rfl rfl
theorem zm_538 : (Jvm.Cond.code ({ cls := "WindowLetters", name := "pane", desc := "(II)I" } : Jvm.MethodName) prog_1_method_13_code (3 : Nat) (Option.some Jvm.ClassFile.FieldType.int)) ∈ zT := zmem3 (i := 58) rfl rfl
theorem zm_539 : (Jvm.Cond.methodLink "WindowLettersLaw" (66 : Nat) ({ cls := "WindowLetters", name := "shape", desc := "(III)I" } : Jvm.MethodName)) ∈ zT := zmem3 (i := 59) rfl rfl
theorem zm_540 : (Jvm.Cond.instanceMethod ({ cls := "WindowLetters", name := "shape", desc := "(III)I" } : Jvm.MethodName)) ∈ zT := zmem3 (i := 60) rfl rfl
theorem zm_541 : (Jvm.Cond.selects "WindowLetters" ({ cls := "WindowLetters", name := "shape", desc := "(III)I" } : Jvm.MethodName) ({ cls := "WindowLetters", name := "shape", desc := "(III)I" } : Jvm.MethodName)) ∈ zT := zmem3 (i := 61) rfl rfl
theorem zm_542 : (Jvm.Cond.code ({ cls := "WindowLetters", name := "shape", desc := "(III)I" } : Jvm.MethodName) prog_1_method_14_code (4 : Nat) (Option.some Jvm.ClassFile.FieldType.int)) ∈ zT := zmem3 (i := 62) rfl rfl
theorem zm_543 : (Jvm.Cond.methodLink "WindowLetters" (170 : Nat) ({ cls := "WindowLetters$Shapes", name := "columnsOf", desc := "(III)I" } : Jvm.MethodName)) ∈ zT := zmem3 (i := 63) rfl rfl
theorem zm_544 : (Jvm.Cond.methodLink "WindowLettersLaw" (70 : Nat) ({ cls := "WindowLetters", name := "count", desc := "(I)I" } : Jvm.MethodName)) ∈ zT := zmem3 (i := 64) rfl rfl
theorem zm_545 : (Jvm.Cond.instanceMethod ({ cls := "WindowLetters", name := "count", desc := "(I)I" } : Jvm.MethodName)) ∈ zT := zmem3 (i := 65) rfl rfl
theorem zm_546 : (Jvm.Cond.selects "WindowLetters" ({ cls := "WindowLetters", name := "count", desc := "(I)I" } : Jvm.MethodName) ({ cls := "WindowLetters", name := "count", desc := "(I)I" } : Jvm.MethodName)) ∈ zT := zmem3 (i := 66) rfl rfl
theorem zm_547 : (Jvm.Cond.code ({ cls := "WindowLetters", name := "count", desc := "(I)I" } : Jvm.MethodName) prog_1_method_15_code (2 : Nat) (Option.some Jvm.ClassFile.FieldType.int)) ∈ zT := zmem3 (i := 67) rfl rfl
theorem zm_548 : (Jvm.Cond.methodLink "WindowLetters" (179 : Nat) ({ cls := "WindowLetters$Shop", name := "piecesThatAre", desc := "(I)I" } : Jvm.MethodName)) ∈ zT := zmem3 (i := 68) rfl rfl
theorem zm_549 : (Jvm.Cond.instanceMethod ({ cls := "WindowLetters$Shop", name := "piecesThatAre", desc := "(I)I" } : Jvm.MethodName)) ∈ zT := zmem3 (i := 69) rfl rfl
theorem zm_550 : (Jvm.Cond.selects "WindowLetters$Shop" ({ cls := "WindowLetters$Shop", name := "piecesThatAre", desc := "(I)I" } : Jvm.MethodName) ({ cls := "WindowLetters$Shop", name := "piecesThatAre", desc := "(I)I" } : Jvm.MethodName)) ∈ zT := zmem3 (i := 70) rfl rfl
theorem zm_551 : (Jvm.Cond.code ({ cls := "WindowLetters$Shop", name := "piecesThatAre", desc := "(I)I" } : Jvm.MethodName) prog_7_method_17_code (5 : Nat) (Option.some Jvm.ClassFile.FieldType.int)) ∈ zT := zmem3 (i := 71) rfl rfl
theorem zm_552 : (Jvm.Cond.methodLink "WindowLetters" (182 : Nat) ({ cls := "WindowLetters$Shop", name := "squaresOfPieces", desc := "(I)I" } : Jvm.MethodName)) ∈ zT := zmem3 (i := 72) rfl rfl
theorem zm_553 : (Jvm.Cond.instanceMethod ({ cls := "WindowLetters$Shop", name := "squaresOfPieces", desc := "(I)I" } : Jvm.MethodName)) ∈ zT := zmem3 (i := 73) rfl rfl
theorem zm_554 : (Jvm.Cond.selects "WindowLetters$Shop" ({ cls := "WindowLetters$Shop", name := "squaresOfPieces", desc := "(I)I" } : Jvm.MethodName) ({ cls := "WindowLetters$Shop", name := "squaresOfPieces", desc := "(I)I" } : Jvm.MethodName)) ∈ zT := zmem3 (i := 74) rfl rfl
theorem zm_555 : (Jvm.Cond.code ({ cls := "WindowLetters$Shop", name := "squaresOfPieces", desc := "(I)I" } : Jvm.MethodName) prog_7_method_18_code (5 : Nat) (Option.some Jvm.ClassFile.FieldType.int)) ∈ zT := zmem3 (i := 75) rfl rfl
theorem zm_556 : (Jvm.Cond.methodLink "WindowLetters" (185 : Nat) ({ cls := "WindowLetters$Shop", name := "squaresOfSheets", desc := "(Z)I" } : Jvm.MethodName)) ∈ zT := zmem3 (i := 76) rfl rfl
theorem zm_557 : (Jvm.Cond.instanceMethod ({ cls := "WindowLetters$Shop", name := "squaresOfSheets", desc := "(Z)I" } : Jvm.MethodName)) ∈ zT := zmem3 (i := 77) rfl rfl
theorem zm_558 : (Jvm.Cond.selects "WindowLetters$Shop" ({ cls := "WindowLetters$Shop", name := "squaresOfSheets", desc := "(Z)I" } : Jvm.MethodName) ({ cls := "WindowLetters$Shop", name := "squaresOfSheets", desc := "(Z)I" } : Jvm.MethodName)) ∈ zT := zmem3 (i := 78) rfl rfl
theorem zm_559 : (Jvm.Cond.code ({ cls := "WindowLetters$Shop", name := "squaresOfSheets", desc := "(Z)I" } : Jvm.MethodName) prog_7_method_19_code (5 : Nat) (Option.some Jvm.ClassFile.FieldType.int)) ∈ zT := zmem3 (i := 79) rfl rfl
theorem zm_560 : (Jvm.Cond.methodLink "WindowLettersLaw" (74 : Nat) ({ cls := "WindowLetters", name := "fit", desc := "(IIII)I" } : Jvm.MethodName)) ∈ zT := zmem3 (i := 80) rfl rfl
theorem zm_561 : (Jvm.Cond.instanceMethod ({ cls := "WindowLetters", name := "fit", desc := "(IIII)I" } : Jvm.MethodName)) ∈ zT := zmem3 (i := 81) rfl rfl
theorem zm_562 : (Jvm.Cond.selects "WindowLetters" ({ cls := "WindowLetters", name := "fit", desc := "(IIII)I" } : Jvm.MethodName) ({ cls := "WindowLetters", name := "fit", desc := "(IIII)I" } : Jvm.MethodName)) ∈ zT := zmem3 (i := 82) rfl rfl
theorem zm_563 : (Jvm.Cond.code ({ cls := "WindowLetters", name := "fit", desc := "(IIII)I" } : Jvm.MethodName) prog_1_method_16_code (7 : Nat) (Option.some Jvm.ClassFile.FieldType.int)) ∈ zT := zmem3 (i := 83) rfl rfl
theorem zm_564 : (Jvm.Cond.methodLink "WindowLetters" (193 : Nat) ({ cls := "WindowLetters$Sheet", name := "firstFit", desc := "(II)I" } : Jvm.MethodName)) ∈ zT := zmem3 (i := 84) rfl rfl
theorem zm_565 : (Jvm.Cond.methodLink "WindowLetters" (197 : Nat) ({ cls := "WindowLetters", name := "wayIn", desc := "(I)I" } : Jvm.MethodName)) ∈ zT := zmem3 (i := 85) rfl rfl
theorem zm_566 : (Jvm.Cond.methodLink "WindowLetters" (200 : Nat) ({ cls := "WindowLetters", name := "rowIn", desc := "(I)I" } : Jvm.MethodName)) ∈ zT := zmem3 (i := 86) rfl rfl
theorem zm_567 : (Jvm.Cond.methodLink "WindowLetters" (203 : Nat) ({ cls := "WindowLetters", name := "columnIn", desc := "(I)I" } : Jvm.MethodName)) ∈ zT := zmem3 (i := 87) rfl rfl
theorem zm_568 : (Jvm.Cond.methodLink "WindowLettersLaw" (78 : Nat) ({ cls := "WindowLetters", name := "manyOf", desc := "(III)I" } : Jvm.MethodName)) ∈ zT := zmem3 (i := 88) rfl rfl
theorem zm_569 : (Jvm.Cond.instanceMethod ({ cls := "WindowLetters", name := "manyOf", desc := "(III)I" } : Jvm.MethodName)) ∈ zT := zmem3 (i := 89) rfl rfl
theorem zm_570 : (Jvm.Cond.selects "WindowLetters" ({ cls := "WindowLetters", name := "manyOf", desc := "(III)I" } : Jvm.MethodName) ({ cls := "WindowLetters", name := "manyOf", desc := "(III)I" } : Jvm.MethodName)) ∈ zT := zmem3 (i := 90) rfl rfl
theorem zm_571 : (Jvm.Cond.code ({ cls := "WindowLetters", name := "manyOf", desc := "(III)I" } : Jvm.MethodName) prog_1_method_17_code (5 : Nat) (Option.some Jvm.ClassFile.FieldType.int)) ∈ zT := zmem3 (i := 91) rfl rfl
theorem zm_572 : (Jvm.Cond.methodLink "WindowLetters" (206 : Nat) ({ cls := "WindowLetters$Sheet", name := "copyFrom", desc := "(LWindowLetters$Sheet;)V" } : Jvm.MethodName)) ∈ zT := zmem3 (i := 92) rfl rfl
theorem zm_573 : (Jvm.Cond.methodLink "WindowLetters" (210 : Nat) ({ cls := "WindowLetters$Sheet", name := "cutUp", desc := "(II)I" } : Jvm.MethodName)) ∈ zT := zmem3 (i := 93) rfl rfl
theorem zm_574 : (Jvm.Cond.instanceMethod ({ cls := "WindowLetters$Sheet", name := "cutUp", desc := "(II)I" } : Jvm.MethodName)) ∈ zT := zmem3 (i := 94) rfl rfl
theorem zm_575 : (Jvm.Cond.selects "WindowLetters$Sheet" ({ cls := "WindowLetters$Sheet", name := "cutUp", desc := "(II)I" } : Jvm.MethodName) ({ cls := "WindowLetters$Sheet", name := "cutUp", desc := "(II)I" } : Jvm.MethodName)) ∈ zT := zmem3 (i := 95) rfl rfl
theorem zm_576 : (Jvm.Cond.code ({ cls := "WindowLetters$Sheet", name := "cutUp", desc := "(II)I" } : Jvm.MethodName) prog_6_method_8_code (5 : Nat) (Option.some Jvm.ClassFile.FieldType.int)) ∈ zT := zmem3 (i := 96) rfl rfl
theorem zm_577 : (Jvm.Cond.methodLinkNest "WindowLetters$Sheet" (54 : Nat) ({ cls := "WindowLetters", name := "wayIn", desc := "(I)I" } : Jvm.MethodName) "WindowLetters") ∈ zN := zmemN3 (i := 97) rfl rfl
theorem zm_578 : (Jvm.Cond.methodLinkNest "WindowLetters$Sheet" (57 : Nat) ({ cls := "WindowLetters", name := "rowIn", desc := "(I)I" } : Jvm.MethodName) "WindowLetters") ∈ zN := zmemN3 (i := 98) rfl rfl
theorem zm_579 : (Jvm.Cond.methodLinkNest "WindowLetters$Sheet" (60 : Nat) ({ cls := "WindowLetters", name := "columnIn", desc := "(I)I" } : Jvm.MethodName) "WindowLetters") ∈ zN := zmemN3 (i := 99) rfl rfl
theorem zm_580 : (Jvm.Cond.methodLink "WindowLetters$Sheet" (63 : Nat) ({ cls := "WindowLetters$Sheet", name := "cutOut", desc := "(IIII)V" } : Jvm.MethodName)) ∈ zT := zmem3 (i := 100) rfl rfl
theorem zm_581 : (Jvm.Cond.methodLink "WindowLettersLaw" (82 : Nat) ({ cls := "WindowLetters", name := "fits", desc := "(II)I" } : Jvm.MethodName)) ∈ zT := zmem3 (i := 101) rfl rfl
theorem zm_582 : (Jvm.Cond.instanceMethod ({ cls := "WindowLetters", name := "fits", desc := "(II)I" } : Jvm.MethodName)) ∈ zT := zmem3 (i := 102) rfl rfl
theorem zm_583 : (Jvm.Cond.selects "WindowLetters" ({ cls := "WindowLetters", name := "fits", desc := "(II)I" } : Jvm.MethodName) ({ cls := "WindowLetters", name := "fits", desc := "(II)I" } : Jvm.MethodName)) ∈ zT := zmem3 (i := 103) rfl rfl
theorem zm_584 : (Jvm.Cond.code ({ cls := "WindowLetters", name := "fits", desc := "(II)I" } : Jvm.MethodName) prog_1_method_18_code (4 : Nat) (Option.some Jvm.ClassFile.FieldType.int)) ∈ zT := zmem3 (i := 104) rfl rfl
theorem zm_585 : (Jvm.Cond.methodLink "WindowLetters" (213 : Nat) ({ cls := "WindowLetters$Sheet", name := "allFits", desc := "(I)I" } : Jvm.MethodName)) ∈ zT := zmem3 (i := 105) rfl rfl
theorem zm_586 : (Jvm.Cond.instanceMethod ({ cls := "WindowLetters$Sheet", name := "allFits", desc := "(I)I" } : Jvm.MethodName)) ∈ zT := zmem3 (i := 106) rfl rfl
theorem zm_587 : (Jvm.Cond.selects "WindowLetters$Sheet" ({ cls := "WindowLetters$Sheet", name := "allFits", desc := "(I)I" } : Jvm.MethodName) ({ cls := "WindowLetters$Sheet", name := "allFits", desc := "(I)I" } : Jvm.MethodName)) ∈ zT := zmem3 (i := 107) rfl rfl
theorem zm_588 : (Jvm.Cond.code ({ cls := "WindowLetters$Sheet", name := "allFits", desc := "(I)I" } : Jvm.MethodName) prog_6_method_9_code (5 : Nat) (Option.some Jvm.ClassFile.FieldType.int)) ∈ zT := zmem3 (i := 108) rfl rfl
theorem zm_589 : (Jvm.Cond.methodLink "WindowLettersLaw" (86 : Nat) ({ cls := "WindowLetters", name := "colours", desc := "(III)I" } : Jvm.MethodName)) ∈ zT := zmem3 (i := 109) rfl rfl
theorem zm_590 : (Jvm.Cond.instanceMethod ({ cls := "WindowLetters", name := "colours", desc := "(III)I" } : Jvm.MethodName)) ∈ zT := zmem3 (i := 110) rfl rfl
theorem zm_591 : (Jvm.Cond.selects "WindowLetters" ({ cls := "WindowLetters", name := "colours", desc := "(III)I" } : Jvm.MethodName) ({ cls := "WindowLetters", name := "colours", desc := "(III)I" } : Jvm.MethodName)) ∈ zT := zmem3 (i := 111) rfl rfl
theorem zm_592 : (Jvm.Cond.code ({ cls := "WindowLetters", name := "colours", desc := "(III)I" } : Jvm.MethodName) prog_1_method_19_code (6 : Nat) (Option.some Jvm.ClassFile.FieldType.int)) ∈ zT := zmem3 (i := 112) rfl rfl
theorem zm_593 : (Jvm.Cond.methodLink "WindowLettersLaw" (92 : Nat) ({ cls := "WindowLetters", name := "put", desc := "(J)I" } : Jvm.MethodName)) ∈ zT := zmem3 (i := 113) rfl rfl
theorem zm_594 : (Jvm.Cond.instanceMethod ({ cls := "WindowLetters", name := "put", desc := "(J)I" } : Jvm.MethodName)) ∈ zT := zmem3 (i := 114) rfl rfl
theorem zm_595 : (Jvm.Cond.selects "WindowLetters" ({ cls := "WindowLetters", name := "put", desc := "(J)I" } : Jvm.MethodName) ({ cls := "WindowLetters", name := "put", desc := "(J)I" } : Jvm.MethodName)) ∈ zT := zmem3 (i := 115) rfl rfl
theorem zm_596 : (Jvm.Cond.code ({ cls := "WindowLetters", name := "put", desc := "(J)I" } : Jvm.MethodName) prog_1_method_20_code (3 : Nat) (Option.some Jvm.ClassFile.FieldType.int)) ∈ zT := zmem3 (i := 116) rfl rfl
theorem zm_597 : (Jvm.Cond.methodLink "WindowLetters" (216 : Nat) ({ cls := "WindowLetters$Pad", name := "append", desc := "(J)I" } : Jvm.MethodName)) ∈ zT := zmem3 (i := 117) rfl rfl
theorem zm_598 : (Jvm.Cond.instanceMethod ({ cls := "WindowLetters$Pad", name := "append", desc := "(J)I" } : Jvm.MethodName)) ∈ zT := zmem3 (i := 118) rfl rfl
theorem zm_599 : (Jvm.Cond.selects "WindowLetters$Pad" ({ cls := "WindowLetters$Pad", name := "append", desc := "(J)I" } : Jvm.MethodName) ({ cls := "WindowLetters$Pad", name := "append", desc := "(J)I" } : Jvm.MethodName)) ∈ zT := zmem3 (i := 119) rfl rfl
theorem zm_600 : (Jvm.Cond.code ({ cls := "WindowLetters$Pad", name := "append", desc := "(J)I" } : Jvm.MethodName) prog_3_method_3_code (5 : Nat) (Option.some Jvm.ClassFile.FieldType.int)) ∈ zT := zmem3 (i := 120) rfl rfl
theorem zm_601 : (Jvm.Cond.methodLink "WindowLetters$Pad" (19 : Nat) ({ cls := "WindowLetters$Pad", name := "signsIn", desc := "(J)I" } : Jvm.MethodName)) ∈ zT := zmem3 (i := 121) rfl rfl
theorem zm_602 : (Jvm.Cond.static ({ cls := "WindowLetters$Pad", name := "signsIn", desc := "(J)I" } : Jvm.MethodName)) ∈ zT := zmem3 (i := 122) rfl rfl
theorem zm_603 : (Jvm.Cond.code ({ cls := "WindowLetters$Pad", name := "signsIn", desc := "(J)I" } : Jvm.MethodName) prog_3_method_4_code (4 : Nat) (Option.some Jvm.ClassFile.FieldType.int)) ∈ zT := zmem3 (i := 123) rfl rfl
theorem zm_604 : (Jvm.Cond.methodLink "WindowLetters$Pad" (23 : Nat) ({ cls := "WindowLetters$Pad", name := "codeIn", desc := "(JI)I" } : Jvm.MethodName)) ∈ zT := zmem3 (i := 124) rfl rfl
theorem zm_605 : (Jvm.Cond.static ({ cls := "WindowLetters$Pad", name := "codeIn", desc := "(JI)I" } : Jvm.MethodName)) ∈ zT := zmem3 (i := 125) rfl rfl
theorem zm_606 : (Jvm.Cond.code ({ cls := "WindowLetters$Pad", name := "codeIn", desc := "(JI)I" } : Jvm.MethodName) prog_3_method_5_code (3 : Nat) (Option.some Jvm.ClassFile.FieldType.int)) ∈ zT := zmem3 (i := 126) rfl rfl
theorem zm_607 : (Jvm.Cond.constantLong "WindowLetters$Pad" (27 : Nat) (255 : Int64)) ∈ zT := zmem3 (i := 127) rfl rfl
theorem zm_608 : (Jvm.Cond.methodLink "WindowLettersLaw" (97 : Nat) ({ cls := "WindowLetters", name := "wipe", desc := "()I" } : Jvm.MethodName)) ∈ zT := zmem3 (i := 128) rfl rfl
theorem zm_609 : (Jvm.Cond.instanceMethod ({ cls := "WindowLetters", name := "wipe", desc := "()I" } : Jvm.MethodName)) ∈ zT := zmem3 (i := 129) rfl rfl
theorem zm_610 : (Jvm.Cond.selects "WindowLetters" ({ cls := "WindowLetters", name := "wipe", desc := "()I" } : Jvm.MethodName) ({ cls := "WindowLetters", name := "wipe", desc := "()I" } : Jvm.MethodName)) ∈ zT := zmem3 (i := 130) rfl rfl
theorem zm_611 : (Jvm.Cond.code ({ cls := "WindowLetters", name := "wipe", desc := "()I" } : Jvm.MethodName) prog_1_method_21_code (2 : Nat) (Option.some Jvm.ClassFile.FieldType.int)) ∈ zT := zmem3 (i := 131) rfl rfl
theorem zm_612 : (Jvm.Cond.methodLink "WindowLettersLaw" (102 : Nat) ({ cls := "WindowLetters", name := "fault", desc := "()I" } : Jvm.MethodName)) ∈ zT := zmem3 (i := 132) rfl rfl
theorem zm_613 : (Jvm.Cond.instanceMethod ({ cls := "WindowLetters", name := "fault", desc := "()I" } : Jvm.MethodName)) ∈ zT := zmem3 (i := 133) rfl rfl
theorem zm_614 : (Jvm.Cond.selects "WindowLetters" ({ cls := "WindowLetters", name := "fault", desc := "()I" } : Jvm.MethodName) ({ cls := "WindowLetters", name := "fault", desc := "()I" } : Jvm.MethodName)) ∈ zT := zmem3 (i := 134) rfl rfl
theorem zm_615 : (Jvm.Cond.code ({ cls := "WindowLetters", name := "fault", desc := "()I" } : Jvm.MethodName) prog_1_method_22_code (1 : Nat) (Option.some Jvm.ClassFile.FieldType.int)) ∈ zT := zmem3 (i := 135) rfl rfl
theorem zm_616 : (Jvm.Cond.methodLink "WindowLettersLaw" (106 : Nat) ({ cls := "WindowLetters", name := "undo", desc := "()I" } : Jvm.MethodName)) ∈ zT := zmem3 (i := 136) rfl rfl
theorem zm_617 : (Jvm.Cond.instanceMethod ({ cls := "WindowLetters", name := "undo", desc := "()I" } : Jvm.MethodName)) ∈ zT := zmem3 (i := 137) rfl rfl
theorem zm_618 : (Jvm.Cond.selects "WindowLetters" ({ cls := "WindowLetters", name := "undo", desc := "()I" } : Jvm.MethodName) ({ cls := "WindowLetters", name := "undo", desc := "()I" } : Jvm.MethodName)) ∈ zT := zmem3 (i := 138) rfl rfl
theorem zm_619 : (Jvm.Cond.code ({ cls := "WindowLetters", name := "undo", desc := "()I" } : Jvm.MethodName) prog_1_method_23_code (1 : Nat) (Option.some Jvm.ClassFile.FieldType.int)) ∈ zT := zmem3 (i := 139) rfl rfl
theorem zm_620 : (Jvm.Cond.methodLink "WindowLetters" (220 : Nat) ({ cls := "WindowLetters$History", name := "takeBack", desc := "(LWindowLetters$Shop;)Z" } : Jvm.MethodName)) ∈ zT := zmem3 (i := 140) rfl rfl
theorem zm_621 : (Jvm.Cond.instanceMethod ({ cls := "WindowLetters$History", name := "takeBack", desc := "(LWindowLetters$Shop;)Z" } : Jvm.MethodName)) ∈ zT := zmem3 (i := 141) rfl rfl
theorem zm_622 : (Jvm.Cond.selects "WindowLetters$History" ({ cls := "WindowLetters$History", name := "takeBack", desc := "(LWindowLetters$Shop;)Z" } : Jvm.MethodName) ({ cls := "WindowLetters$History", name := "takeBack", desc := "(LWindowLetters$Shop;)Z" } : Jvm.MethodName)) ∈ zT := zmem3 (i := 142) rfl rfl
theorem zm_623 : (Jvm.Cond.code ({ cls := "WindowLetters$History", name := "takeBack", desc := "(LWindowLetters$Shop;)Z" } : Jvm.MethodName) prog_2_method_3_code (3 : Nat) (Option.some Jvm.ClassFile.FieldType.boolean)) ∈ zT := zmem3 (i := 143) rfl rfl
theorem zm_624 : (Jvm.Cond.methodLink "WindowLettersLaw" (110 : Nat) ({ cls := "WindowLetters", name := "save", desc := "(I)I" } : Jvm.MethodName)) ∈ zT := zmem3 (i := 144) rfl rfl
theorem zm_625 : (Jvm.Cond.instanceMethod ({ cls := "WindowLetters", name := "save", desc := "(I)I" } : Jvm.MethodName)) ∈ zT := zmem3 (i := 145) rfl rfl
theorem zm_626 : (Jvm.Cond.selects "WindowLetters" ({ cls := "WindowLetters", name := "save", desc := "(I)I" } : Jvm.MethodName) ({ cls := "WindowLetters", name := "save", desc := "(I)I" } : Jvm.MethodName)) ∈ zT := zmem3 (i := 146) rfl rfl
theorem zm_627 : (Jvm.Cond.code ({ cls := "WindowLetters", name := "save", desc := "(I)I" } : Jvm.MethodName) prog_1_method_24_code (3 : Nat) (Option.some Jvm.ClassFile.FieldType.int)) ∈ zT := zmem3 (i := 147) rfl rfl
theorem zm_628 : (Jvm.Cond.methodLink "WindowLetters" (224 : Nat) ({ cls := "WindowLetters", name := "isSlot", desc := "(I)Z" } : Jvm.MethodName)) ∈ zT := zmem3 (i := 148) rfl rfl
theorem zm_629 : (Jvm.Cond.static ({ cls := "WindowLetters", name := "isSlot", desc := "(I)Z" } : Jvm.MethodName)) ∈ zT := zmem3 (i := 149) rfl rfl
theorem zm_630 : (Jvm.Cond.code ({ cls := "WindowLetters", name := "isSlot", desc := "(I)Z" } : Jvm.MethodName) prog_1_method_34_code (1 : Nat) (Option.some Jvm.ClassFile.FieldType.boolean)) ∈ zT := zmem3 (i := 150) rfl rfl
theorem zm_631 : (Jvm.Cond.methodLink "WindowLettersLaw" (114 : Nat) ({ cls := "WindowLetters", name := "restore", desc := "(I)I" } : Jvm.MethodName)) ∈ zT := zmem3 (i := 151) rfl rfl
theorem zm_632 : (Jvm.Cond.instanceMethod ({ cls := "WindowLetters", name := "restore", desc := "(I)I" } : Jvm.MethodName)) ∈ zT := zmem3 (i := 152) rfl rfl
theorem zm_633 : (Jvm.Cond.selects "WindowLetters" ({ cls := "WindowLetters", name := "restore", desc := "(I)I" } : Jvm.MethodName) ({ cls := "WindowLetters", name := "restore", desc := "(I)I" } : Jvm.MethodName)) ∈ zT := zmem3 (i := 153) rfl rfl
theorem zm_634 : (Jvm.Cond.code ({ cls := "WindowLetters", name := "restore", desc := "(I)I" } : Jvm.MethodName) prog_1_method_25_code (3 : Nat) (Option.some Jvm.ClassFile.FieldType.int)) ∈ zT := zmem3 (i := 154) rfl rfl
theorem zm_635 : (Jvm.Cond.classLink "WindowLettersLaw" (10 : Nat) "WindowLettersModel") ∈ zT := zmem3 (i := 155) rfl rfl
theorem zm_636 : (Jvm.Cond.instantiable "WindowLettersModel" (10 : Nat)) ∈ zT := zmem3 (i := 156) rfl rfl
theorem zm_637 : (Jvm.Cond.methodLink "WindowLettersLaw" (12 : Nat) ({ cls := "WindowLettersModel", name := "<init>", desc := "()V" } : Jvm.MethodName)) ∈ zT := zmem3 (i := 157) rfl rfl
theorem zm_638 : (Jvm.Cond.instanceMethod ({ cls := "WindowLettersModel", name := "<init>", desc := "()V" } : Jvm.MethodName)) ∈ zT := zmem3 (i := 158) rfl rfl
theorem zm_639 : (Jvm.Cond.code ({ cls := "WindowLettersModel", name := "<init>", desc := "()V" } : Jvm.MethodName) prog_9_method_1_code (2 : Nat) (Option.none : Option Jvm.ClassFile.FieldType)) ∈ zT := zmem3 (i := 159) rfl rfl
theorem zm_640 : (Jvm.Cond.methodLink "WindowLettersModel" (1 : Nat) ({ cls := "java/lang/Object", name := "<init>", desc := "()V" } : Jvm.MethodName)) ∈ zT := zmem3 (i := 160) rfl rfl
theorem zm_641 : (Jvm.Cond.methodLink "WindowLettersModel" (35 : Nat) ({ cls := "WindowLettersModel", name := "drawn", desc := "(III)I" } : Jvm.MethodName)) ∈ zT := zmem3 (i := 161) rfl rfl
theorem zm_642 : (Jvm.Cond.static ({ cls := "WindowLettersModel", name := "drawn", desc := "(III)I" } : Jvm.MethodName)) ∈ zT := zmem3 (i := 162) rfl rfl
theorem zm_643 : (Jvm.Cond.code ({ cls := "WindowLettersModel", name := "drawn", desc := "(III)I" } : Jvm.MethodName) prog_9_method_8_code (8 : Nat) (Option.some Jvm.ClassFile.FieldType.int)) ∈ zT := zmem3 (i := 163) rfl rfl
theorem zm_644 : (Jvm.Cond.methodLink "WindowLettersModel" (50 : Nat) ({ cls := "WindowLettersModel", name := "wide", desc := "(I)I" } : Jvm.MethodName)) ∈ zT := zmem3 (i := 164) rfl rfl
theorem zm_645 : (Jvm.Cond.static ({ cls := "WindowLettersModel", name := "wide", desc := "(I)I" } : Jvm.MethodName)) ∈ zT := zmem3 (i := 165) rfl rfl
theorem zm_646 : (Jvm.Cond.code ({ cls := "WindowLettersModel", name := "wide", desc := "(I)I" } : Jvm.MethodName) prog_9_method_7_code (1 : Nat) (Option.some Jvm.ClassFile.FieldType.int)) ∈ zT := zmem3 (i := 166) rfl rfl
theorem zm_647 : (Jvm.Cond.methodLink "WindowLettersModel" (53 : Nat) ({ cls := "WindowLettersModel", name := "high", desc := "(I)I" } : Jvm.MethodName)) ∈ zT := zmem3 (i := 167) rfl rfl
theorem zm_648 : (Jvm.Cond.static ({ cls := "WindowLettersModel", name := "high", desc := "(I)I" } : Jvm.MethodName)) ∈ zT := zmem3 (i := 168) rfl rfl
theorem zm_649 : (Jvm.Cond.code ({ cls := "WindowLettersModel", name := "high", desc := "(I)I" } : Jvm.MethodName) prog_9_method_6_code (1 : Nat) (Option.some Jvm.ClassFile.FieldType.int)) ∈ zT := zmem3 (i := 169) rfl rfl
theorem zm_650 : (Jvm.Cond.methodLink "WindowLettersModel" (56 : Nat) ({ cls := "WindowLettersModel", name := "hasSquare", desc := "(IZII)Z" } : Jvm.MethodName)) ∈ zT := zmem3 (i := 170) rfl rfl
theorem zm_651 : (Jvm.Cond.static ({ cls := "WindowLettersModel", name := "hasSquare", desc := "(IZII)Z" } : Jvm.MethodName)) ∈ zT := zmem3 (i := 171) rfl rfl
theorem zm_652 : (Jvm.Cond.code ({ cls := "WindowLettersModel", name := "hasSquare", desc := "(IZII)Z" } : Jvm.MethodName) prog_9_method_5_code (6 : Nat) (Option.some Jvm.ClassFile.FieldType.boolean)) ∈ zT := zmem3 (i := 172) rfl rfl
theorem zm_653 : (Jvm.Cond.methodLink "WindowLettersModel" (46 : Nat) ({ cls := "WindowLettersModel", name := "digits", desc := "(I)I" } : Jvm.MethodName)) ∈ zT := zmem3 (i := 173) rfl rfl
theorem zm_654 : (Jvm.Cond.static ({ cls := "WindowLettersModel", name := "digits", desc := "(I)I" } : Jvm.MethodName)) ∈ zT := zmem3 (i := 174) rfl rfl
theorem zm_655 : (Jvm.Cond.code ({ cls := "WindowLettersModel", name := "digits", desc := "(I)I" } : Jvm.MethodName) prog_9_method_4_code (1 : Nat) (Option.some Jvm.ClassFile.FieldType.int)) ∈ zT := zmem3 (i := 175) rfl rfl
theorem zm_656 : (Jvm.Cond.constant "WindowLettersModel" (39 : Nat) (44447 : Int32)) ∈ zT := zmem3 (i := 176) rfl rfl
theorem zm_657 : (Jvm.Cond.constant "WindowLettersModel" (40 : Nat) (75557 : Int32)) ∈ zT := zmem3 (i := 177) rfl rfl
theorem zm_658 : (Jvm.Cond.constant "WindowLettersModel" (41 : Nat) (72222 : Int32)) ∈ zT := zmem3 (i := 178) rfl rfl
theorem zm_659 : (Jvm.Cond.constant "WindowLettersModel" (42 : Nat) (55557 : Int32)) ∈ zT := zmem3 (i := 179) rfl rfl
theorem zm_660 : (Jvm.Cond.constant "WindowLettersModel" (43 : Nat) (74747 : Int32)) ∈ zT := zmem3 (i := 180) rfl rfl
theorem zm_661 : (Jvm.Cond.constant "WindowLettersModel" (44 : Nat) (55755 : Int32)) ∈ zT := zmem3 (i := 181) rfl rfl
theorem zm_662 : (Jvm.Cond.constant "WindowLettersModel" (45 : Nat) (74717 : Int32)) ∈ zT := zmem3 (i := 182) rfl rfl
theorem zm_663 : (Jvm.Cond.fieldLink "WindowLettersModel" (7 : Nat) "WindowLettersModel" "s" "[I") ∈ zT := zmem3 (i := 183) rfl rfl
theorem zm_664 : (Jvm.Cond.fieldLink "WindowLettersModel" (13 : Nat) "WindowLettersModel" "aside" "[I") ∈ zT := zmem3 (i := 184) rfl rfl
theorem zm_665 : (Jvm.Cond.fieldLink "WindowLettersModel" (16 : Nat) "WindowLettersModel" "history" "[I") ∈ zT := zmem3 (i := 185) rfl rfl
theorem zm_666 : (Jvm.Cond.fieldLink "WindowLettersModel" (115 : Nat) "WindowLettersModel" "kept" "I") ∈ zT := zmem3 (i := 186) rfl rfl
theorem zm_667 : (Jvm.Cond.fieldLink "WindowLettersModel" (19 : Nat) "WindowLettersModel" "slots" "[I") ∈ zT := zmem3 (i := 187) rfl rfl
theorem zm_668 : (Jvm.Cond.fieldLink "WindowLettersModel" (22 : Nat) "WindowLettersModel" "isSaved" "[Z") ∈ zT := zmem3 (i := 188) rfl rfl
theorem zm_669 : (Jvm.Cond.fieldLink "WindowLettersModel" (26 : Nat) "WindowLettersModel" "pad" "[I") ∈ zT := zmem3 (i := 189) rfl rfl
theorem zm_670 : (Jvm.Cond.fieldLink "WindowLettersModel" (101 : Nat) "WindowLettersModel" "length" "I") ∈ zT := zmem3 (i := 190) rfl rfl
theorem zm_671 : (Jvm.Cond.fieldLink "WindowLettersModel" (29 : Nat) "WindowLettersModel" "shapes" "[I") ∈ zT := zmem3 (i := 191) rfl rfl
theorem zm_672 : (Jvm.Cond.fieldLink "WindowLettersModel" (32 : Nat) "WindowLettersModel" "found" "[I") ∈ zT := zmem3 (i := 192) rfl rfl
theorem zm_673 : (Jvm.Cond.laysFinal "WindowLettersModel" "WindowLettersModel" "s" "[I") ∈ zT := zmem3 (i := 193) rfl rfl
theorem zm_675 : (Jvm.Cond.laysFinal "WindowLettersModel" "WindowLettersModel" "aside" "[I") ∈ zT := zmem3 (i := 195) rfl rfl
theorem zm_677 : (Jvm.Cond.laysFinal "WindowLettersModel" "WindowLettersModel" "history" "[I") ∈ zT := zmem3 (i := 197) rfl rfl
theorem zm_679 : (Jvm.Cond.lays "WindowLettersModel" "WindowLettersModel" "kept" "I") ∈ zT := zmem3 (i := 199) rfl rfl
theorem zm_681 : (Jvm.Cond.laysFinal "WindowLettersModel" "WindowLettersModel" "slots" "[I") ∈ zT := zmem3 (i := 201) rfl rfl
theorem zm_683 : (Jvm.Cond.laysFinal "WindowLettersModel" "WindowLettersModel" "isSaved" "[Z") ∈ zT := zmem3 (i := 203) rfl rfl
theorem zm_685 : (Jvm.Cond.laysFinal "WindowLettersModel" "WindowLettersModel" "pad" "[I") ∈ zT := zmem3 (i := 205) rfl rfl
theorem zm_687 : (Jvm.Cond.lays "WindowLettersModel" "WindowLettersModel" "length" "I") ∈ zT := zmem3 (i := 207) rfl rfl
theorem zm_689 : (Jvm.Cond.laysFinal "WindowLettersModel" "WindowLettersModel" "shapes" "[I") ∈ zT := zmem3 (i := 209) rfl rfl
theorem zm_691 : (Jvm.Cond.laysFinal "WindowLettersModel" "WindowLettersModel" "found" "[I") ∈ zT := zmem3 (i := 211) rfl rfl
theorem zm_694 : (Jvm.Cond.arrayClass Jvm.ClassFile.FieldType.boolean) ∈ zT := zmem3 (i := 214) rfl rfl
theorem zm_695 : (Jvm.Cond.methodLink "WindowLettersLaw" (17 : Nat) ({ cls := "WindowLettersModel", name := "sheet", desc := "(I)I" } : Jvm.MethodName)) ∈ zT := zmem3 (i := 215) rfl rfl
theorem zm_696 : (Jvm.Cond.instanceMethod ({ cls := "WindowLettersModel", name := "sheet", desc := "(I)I" } : Jvm.MethodName)) ∈ zT := zmem3 (i := 216) rfl rfl
theorem zm_697 : (Jvm.Cond.selects "WindowLettersModel" ({ cls := "WindowLettersModel", name := "sheet", desc := "(I)I" } : Jvm.MethodName) ({ cls := "WindowLettersModel", name := "sheet", desc := "(I)I" } : Jvm.MethodName)) ∈ zT := zmem3 (i := 217) rfl rfl
theorem zm_698 : (Jvm.Cond.code ({ cls := "WindowLettersModel", name := "sheet", desc := "(I)I" } : Jvm.MethodName) prog_9_method_35_code (4 : Nat) (Option.some Jvm.ClassFile.FieldType.int)) ∈ zT := zmem3 (i := 218) rfl rfl
theorem zm_699 : (Jvm.Cond.methodLink "WindowLettersModel" (118 : Nat) ({ cls := "WindowLettersModel", name := "isColour", desc := "(I)Z" } : Jvm.MethodName)) ∈ zT := zmem3 (i := 219) rfl rfl
theorem zm_700 : (Jvm.Cond.static ({ cls := "WindowLettersModel", name := "isColour", desc := "(I)Z" } : Jvm.MethodName)) ∈ zT := zmem3 (i := 220) rfl rfl
theorem zm_701 : (Jvm.Cond.code ({ cls := "WindowLettersModel", name := "isColour", desc := "(I)Z" } : Jvm.MethodName) prog_9_method_34_code (1 : Nat) (Option.some Jvm.ClassFile.FieldType.boolean)) ∈ zT := zmem3 (i := 221) rfl rfl
theorem zm_702 : (Jvm.Cond.methodLink "WindowLettersModel" (66 : Nat) ({ cls := "WindowLettersModel", name := "in", desc := "(III)Z" } : Jvm.MethodName)) ∈ zT := zmem3 (i := 222) rfl rfl
theorem zm_703 : (Jvm.Cond.static ({ cls := "WindowLettersModel", name := "in", desc := "(III)Z" } : Jvm.MethodName)) ∈ zT := zmem3 (i := 223) rfl rfl
theorem zm_704 : (Jvm.Cond.code ({ cls := "WindowLettersModel", name := "in", desc := "(III)Z" } : Jvm.MethodName) prog_9_method_3_code (3 : Nat) (Option.some Jvm.ClassFile.FieldType.boolean)) ∈ zT := zmem3 (i := 224) rfl rfl
theorem zm_705 : (Jvm.Cond.methodLink "WindowLettersModel" (122 : Nat) ({ cls := "WindowLettersModel", name := "record", desc := "()V" } : Jvm.MethodName)) ∈ zT := zmem3 (i := 225) rfl rfl
theorem zm_707 : (Jvm.Cond.instanceMethod ({ cls := "WindowLettersModel", name := "record", desc := "()V" } : Jvm.MethodName)) ∈ zT := zmem3 (i := 227) rfl rfl
theorem zm_708 : (Jvm.Cond.code ({ cls := "WindowLettersModel", name := "record", desc := "()V" } : Jvm.MethodName) prog_9_method_31_code (2 : Nat) (Option.none : Option Jvm.ClassFile.FieldType)) ∈ zT := zmem3 (i := 228) rfl rfl
theorem zm_709 : (Jvm.Cond.methodLink "WindowLettersModel" (70 : Nat) ({ cls := "WindowLettersModel", name := "ofOne", desc := "(II)I" } : Jvm.MethodName)) ∈ zT := zmem3 (i := 229) rfl rfl
theorem zm_710 : (Jvm.Cond.static ({ cls := "WindowLettersModel", name := "ofOne", desc := "(II)I" } : Jvm.MethodName)) ∈ zT := zmem3 (i := 230) rfl rfl
theorem zm_711 : (Jvm.Cond.code ({ cls := "WindowLettersModel", name := "ofOne", desc := "(II)I" } : Jvm.MethodName) prog_9_method_16_code (2 : Nat) (Option.some Jvm.ClassFile.FieldType.int)) ∈ zT := zmem3 (i := 231) rfl rfl
theorem zm_712 : (Jvm.Cond.methodLink "WindowLettersLaw" (22 : Nat) ({ cls := "WindowLettersModel", name := "cut", desc := "(IIIII)I" } : Jvm.MethodName)) ∈ zT := zmem3 (i := 232) rfl rfl
theorem zm_713 : (Jvm.Cond.instanceMethod ({ cls := "WindowLettersModel", name := "cut", desc := "(IIIII)I" } : Jvm.MethodName)) ∈ zT := zmem3 (i := 233) rfl rfl
theorem zm_714 : (Jvm.Cond.selects "WindowLettersModel" ({ cls := "WindowLettersModel", name := "cut", desc := "(IIIII)I" } : Jvm.MethodName) ({ cls := "WindowLettersModel", name := "cut", desc := "(IIIII)I" } : Jvm.MethodName)) ∈ zT := zmem3 (i := 234) rfl rfl
theorem zm_715 : (Jvm.Cond.code ({ cls := "WindowLettersModel", name := "cut", desc := "(IIIII)I" } : Jvm.MethodName) prog_9_method_36_code (6 : Nat) (Option.some Jvm.ClassFile.FieldType.int)) ∈ zT := zmem3 (i := 235) rfl rfl
theorem zm_716 : (Jvm.Cond.methodLink "WindowLettersModel" (125 : Nat) ({ cls := "WindowLettersModel", name := "isSheet", desc := "(I)Z" } : Jvm.MethodName)) ∈ zT := zmem3 (i := 236) rfl rfl
theorem zm_718 : (Jvm.Cond.instanceMethod ({ cls := "WindowLettersModel", name := "isSheet", desc := "(I)Z" } : Jvm.MethodName)) ∈ zT := zmem3 (i := 238) rfl rfl
theorem zm_719 : (Jvm.Cond.code ({ cls := "WindowLettersModel", name := "isSheet", desc := "(I)Z" } : Jvm.MethodName) prog_9_method_13_code (2 : Nat) (Option.some Jvm.ClassFile.FieldType.boolean)) ∈ zT := zmem3 (i := 239) rfl rfl
theorem zm_720 : (Jvm.Cond.methodLink "WindowLettersModel" (128 : Nat) ({ cls := "WindowLettersModel", name := "isLetter", desc := "(I)Z" } : Jvm.MethodName)) ∈ zT := zmem4 (i := 0) rfl rfl
theorem zm_721 : (Jvm.Cond.static ({ cls := "WindowLettersModel", name := "isLetter", desc := "(I)Z" } : Jvm.MethodName)) ∈ zT := zmem4 (i := 1) rfl rfl
theorem zm_722 : (Jvm.Cond.code ({ cls := "WindowLettersModel", name := "isLetter", desc := "(I)Z" } : Jvm.MethodName) prog_9_method_12_code (1 : Nat) (Option.some Jvm.ClassFile.FieldType.boolean)) ∈ zT := zmem4 (i := 2) rfl rfl
theorem zm_723 : (Jvm.Cond.methodLink "WindowLettersModel" (74 : Nat) ({ cls := "WindowLettersModel", name := "canCut", desc := "(IIIII)Z" } : Jvm.MethodName)) ∈ zT := zmem4 (i := 3) rfl rfl
theorem zm_725 : (Jvm.Cond.instanceMethod ({ cls := "WindowLettersModel", name := "canCut", desc := "(IIIII)Z" } : Jvm.MethodName)) ∈ zT := zmem4 (i := 5) rfl rfl
theorem zm_726 : (Jvm.Cond.code ({ cls := "WindowLettersModel", name := "canCut", desc := "(IIIII)Z" } : Jvm.MethodName) prog_9_method_18_code (8 : Nat) (Option.some Jvm.ClassFile.FieldType.boolean)) ∈ zT := zmem4 (i := 6) rfl rfl
theorem zm_727 : (Jvm.Cond.methodLink "WindowLettersModel" (60 : Nat) ({ cls := "WindowLettersModel", name := "shapeOf", desc := "(III)I" } : Jvm.MethodName)) ∈ zT := zmem4 (i := 7) rfl rfl
theorem zm_729 : (Jvm.Cond.instanceMethod ({ cls := "WindowLettersModel", name := "shapeOf", desc := "(III)I" } : Jvm.MethodName)) ∈ zT := zmem4 (i := 9) rfl rfl
theorem zm_730 : (Jvm.Cond.code ({ cls := "WindowLettersModel", name := "shapeOf", desc := "(III)I" } : Jvm.MethodName) prog_9_method_9_code (4 : Nat) (Option.some Jvm.ClassFile.FieldType.int)) ∈ zT := zmem4 (i := 10) rfl rfl
theorem zm_731 : (Jvm.Cond.methodLink "WindowLettersModel" (97 : Nat) ({ cls := "WindowLettersModel", name := "newPiece", desc := "(IIIII)I" } : Jvm.MethodName)) ∈ zT := zmem4 (i := 11) rfl rfl
theorem zm_733 : (Jvm.Cond.instanceMethod ({ cls := "WindowLettersModel", name := "newPiece", desc := "(IIIII)I" } : Jvm.MethodName)) ∈ zT := zmem4 (i := 13) rfl rfl
theorem zm_734 : (Jvm.Cond.code ({ cls := "WindowLettersModel", name := "newPiece", desc := "(IIIII)I" } : Jvm.MethodName) prog_9_method_23_code (7 : Nat) (Option.some Jvm.ClassFile.FieldType.int)) ∈ zT := zmem4 (i := 14) rfl rfl
theorem zm_735 : (Jvm.Cond.methodLink "WindowLettersModel" (81 : Nat) ({ cls := "WindowLettersModel", name := "cutsOut", desc := "(IIIII)V" } : Jvm.MethodName)) ∈ zT := zmem4 (i := 15) rfl rfl
theorem zm_737 : (Jvm.Cond.instanceMethod ({ cls := "WindowLettersModel", name := "cutsOut", desc := "(IIIII)V" } : Jvm.MethodName)) ∈ zT := zmem4 (i := 17) rfl rfl
theorem zm_738 : (Jvm.Cond.code ({ cls := "WindowLettersModel", name := "cutsOut", desc := "(IIIII)V" } : Jvm.MethodName) prog_9_method_19_code (7 : Nat) (Option.none : Option Jvm.ClassFile.FieldType)) ∈ zT := zmem4 (i := 18) rfl rfl
theorem zm_739 : (Jvm.Cond.methodLink "WindowLettersModel" (85 : Nat) ({ cls := "WindowLettersModel", name := "at", desc := "(II)I" } : Jvm.MethodName)) ∈ zT := zmem4 (i := 19) rfl rfl
theorem zm_740 : (Jvm.Cond.static ({ cls := "WindowLettersModel", name := "at", desc := "(II)I" } : Jvm.MethodName)) ∈ zT := zmem4 (i := 20) rfl rfl
theorem zm_741 : (Jvm.Cond.code ({ cls := "WindowLettersModel", name := "at", desc := "(II)I" } : Jvm.MethodName) prog_9_method_17_code (2 : Nat) (Option.some Jvm.ClassFile.FieldType.int)) ∈ zT := zmem4 (i := 21) rfl rfl
theorem zm_742 : (Jvm.Cond.methodLink "WindowLettersLaw" (27 : Nat) ({ cls := "WindowLettersModel", name := "make", desc := "(III)I" } : Jvm.MethodName)) ∈ zT := zmem4 (i := 22) rfl rfl
theorem zm_743 : (Jvm.Cond.instanceMethod ({ cls := "WindowLettersModel", name := "make", desc := "(III)I" } : Jvm.MethodName)) ∈ zT := zmem4 (i := 23) rfl rfl
theorem zm_744 : (Jvm.Cond.selects "WindowLettersModel" ({ cls := "WindowLettersModel", name := "make", desc := "(III)I" } : Jvm.MethodName) ({ cls := "WindowLettersModel", name := "make", desc := "(III)I" } : Jvm.MethodName)) ∈ zT := zmem4 (i := 24) rfl rfl
theorem zm_745 : (Jvm.Cond.code ({ cls := "WindowLettersModel", name := "make", desc := "(III)I" } : Jvm.MethodName) prog_9_method_37_code (5 : Nat) (Option.some Jvm.ClassFile.FieldType.int)) ∈ zT := zmem4 (i := 25) rfl rfl
theorem zm_746 : (Jvm.Cond.methodLink "WindowLettersModel" (94 : Nat) ({ cls := "WindowLettersModel", name := "sheetFor", desc := "(III)I" } : Jvm.MethodName)) ∈ zT := zmem4 (i := 26) rfl rfl
theorem zm_748 : (Jvm.Cond.instanceMethod ({ cls := "WindowLettersModel", name := "sheetFor", desc := "(III)I" } : Jvm.MethodName)) ∈ zT := zmem4 (i := 28) rfl rfl
theorem zm_749 : (Jvm.Cond.code ({ cls := "WindowLettersModel", name := "sheetFor", desc := "(III)I" } : Jvm.MethodName) prog_9_method_21_code (5 : Nat) (Option.some Jvm.ClassFile.FieldType.int)) ∈ zT := zmem4 (i := 29) rfl rfl
theorem zm_750 : (Jvm.Cond.methodLink "WindowLettersModel" (78 : Nat) ({ cls := "WindowLettersModel", name := "findsFit", desc := "(III)Z" } : Jvm.MethodName)) ∈ zT := zmem4 (i := 30) rfl rfl
theorem zm_752 : (Jvm.Cond.instanceMethod ({ cls := "WindowLettersModel", name := "findsFit", desc := "(III)Z" } : Jvm.MethodName)) ∈ zT := zmem4 (i := 32) rfl rfl
theorem zm_753 : (Jvm.Cond.code ({ cls := "WindowLettersModel", name := "findsFit", desc := "(III)Z" } : Jvm.MethodName) prog_9_method_20_code (8 : Nat) (Option.some Jvm.ClassFile.FieldType.boolean)) ∈ zT := zmem4 (i := 33) rfl rfl
theorem zm_754 : (Jvm.Cond.methodLink "WindowLettersLaw" (32 : Nat) ({ cls := "WindowLettersModel", name := "write", desc := "(IIII)I" } : Jvm.MethodName)) ∈ zT := zmem4 (i := 34) rfl rfl
theorem zm_755 : (Jvm.Cond.instanceMethod ({ cls := "WindowLettersModel", name := "write", desc := "(IIII)I" } : Jvm.MethodName)) ∈ zT := zmem4 (i := 35) rfl rfl
theorem zm_756 : (Jvm.Cond.selects "WindowLettersModel" ({ cls := "WindowLettersModel", name := "write", desc := "(IIII)I" } : Jvm.MethodName) ({ cls := "WindowLettersModel", name := "write", desc := "(IIII)I" } : Jvm.MethodName)) ∈ zT := zmem4 (i := 36) rfl rfl
theorem zm_757 : (Jvm.Cond.code ({ cls := "WindowLettersModel", name := "write", desc := "(IIII)I" } : Jvm.MethodName) prog_9_method_39_code (7 : Nat) (Option.some Jvm.ClassFile.FieldType.int)) ∈ zT := zmem4 (i := 37) rfl rfl
theorem zm_758 : (Jvm.Cond.methodLink "WindowLettersModel" (141 : Nat) ({ cls := "WindowLettersModel", name := "isSpot", desc := "(II)Z" } : Jvm.MethodName)) ∈ zT := zmem4 (i := 38) rfl rfl
theorem zm_759 : (Jvm.Cond.static ({ cls := "WindowLettersModel", name := "isSpot", desc := "(II)Z" } : Jvm.MethodName)) ∈ zT := zmem4 (i := 39) rfl rfl
theorem zm_760 : (Jvm.Cond.code ({ cls := "WindowLettersModel", name := "isSpot", desc := "(II)Z" } : Jvm.MethodName) prog_9_method_15_code (2 : Nat) (Option.some Jvm.ClassFile.FieldType.boolean)) ∈ zT := zmem4 (i := 40) rfl rfl
theorem zm_761 : (Jvm.Cond.methodLink "WindowLettersModel" (145 : Nat) ({ cls := "WindowLettersModel", name := "fault", desc := "()I" } : Jvm.MethodName)) ∈ zT := zmem4 (i := 41) rfl rfl
theorem zm_762 : (Jvm.Cond.instanceMethod ({ cls := "WindowLettersModel", name := "fault", desc := "()I" } : Jvm.MethodName)) ∈ zT := zmem4 (i := 42) rfl rfl
theorem zm_763 : (Jvm.Cond.selects "WindowLettersModel" ({ cls := "WindowLettersModel", name := "fault", desc := "()I" } : Jvm.MethodName) ({ cls := "WindowLettersModel", name := "fault", desc := "()I" } : Jvm.MethodName)) ∈ zT := zmem4 (i := 43) rfl rfl
theorem zm_764 : (Jvm.Cond.code ({ cls := "WindowLettersModel", name := "fault", desc := "()I" } : Jvm.MethodName) prog_9_method_62_code (3 : Nat) (Option.some Jvm.ClassFile.FieldType.int)) ∈ zT := zmem4 (i := 44) rfl rfl
theorem zm_765 : (Jvm.Cond.methodLink "WindowLettersModel" (105 : Nat) ({ cls := "WindowLettersModel", name := "letterOf", desc := "(I)I" } : Jvm.MethodName)) ∈ zT := zmem4 (i := 45) rfl rfl
theorem zm_766 : (Jvm.Cond.static ({ cls := "WindowLettersModel", name := "letterOf", desc := "(I)I" } : Jvm.MethodName)) ∈ zT := zmem4 (i := 46) rfl rfl
theorem zm_767 : (Jvm.Cond.code ({ cls := "WindowLettersModel", name := "letterOf", desc := "(I)I" } : Jvm.MethodName) prog_9_method_29_code (1 : Nat) (Option.some Jvm.ClassFile.FieldType.int)) ∈ zT := zmem4 (i := 47) rfl rfl
theorem zm_768 : (Jvm.Cond.methodLink "WindowLettersModel" (149 : Nat) ({ cls := "WindowLettersModel", name := "canBeWritten", desc := "(IIII)Z" } : Jvm.MethodName)) ∈ zT := zmem4 (i := 48) rfl rfl
theorem zm_770 : (Jvm.Cond.instanceMethod ({ cls := "WindowLettersModel", name := "canBeWritten", desc := "(IIII)Z" } : Jvm.MethodName)) ∈ zT := zmem4 (i := 50) rfl rfl
theorem zm_771 : (Jvm.Cond.code ({ cls := "WindowLettersModel", name := "canBeWritten", desc := "(IIII)Z" } : Jvm.MethodName) prog_9_method_38_code (6 : Nat) (Option.some Jvm.ClassFile.FieldType.boolean)) ∈ zT := zmem4 (i := 51) rfl rfl
theorem zm_772 : (Jvm.Cond.methodLink "WindowLettersModel" (131 : Nat) ({ cls := "WindowLettersModel", name := "putAside", desc := "()V" } : Jvm.MethodName)) ∈ zT := zmem4 (i := 52) rfl rfl
theorem zm_774 : (Jvm.Cond.instanceMethod ({ cls := "WindowLettersModel", name := "putAside", desc := "()V" } : Jvm.MethodName)) ∈ zT := zmem4 (i := 54) rfl rfl
theorem zm_775 : (Jvm.Cond.code ({ cls := "WindowLettersModel", name := "putAside", desc := "()V" } : Jvm.MethodName) prog_9_method_32_code (2 : Nat) (Option.none : Option Jvm.ClassFile.FieldType)) ∈ zT := zmem4 (i := 55) rfl rfl
theorem zm_776 : (Jvm.Cond.methodLink "WindowLettersModel" (134 : Nat) ({ cls := "WindowLettersModel", name := "writes", desc := "(IIII)Z" } : Jvm.MethodName)) ∈ zT := zmem4 (i := 56) rfl rfl
theorem zm_778 : (Jvm.Cond.instanceMethod ({ cls := "WindowLettersModel", name := "writes", desc := "(IIII)Z" } : Jvm.MethodName)) ∈ zT := zmem4 (i := 58) rfl rfl
theorem zm_779 : (Jvm.Cond.code ({ cls := "WindowLettersModel", name := "writes", desc := "(IIII)Z" } : Jvm.MethodName) prog_9_method_30_code (9 : Nat) (Option.some Jvm.ClassFile.FieldType.boolean)) ∈ zT := zmem4 (i := 59) rfl rfl
theorem zm_780 : (Jvm.Cond.methodLink "WindowLettersModel" (88 : Nat) ({ cls := "WindowLettersModel", name := "pieceAt", desc := "(II)I" } : Jvm.MethodName)) ∈ zT := zmem4 (i := 60) rfl rfl
theorem zm_782 : (Jvm.Cond.instanceMethod ({ cls := "WindowLettersModel", name := "pieceAt", desc := "(II)I" } : Jvm.MethodName)) ∈ zT := zmem4 (i := 62) rfl rfl
theorem zm_783 : (Jvm.Cond.code ({ cls := "WindowLettersModel", name := "pieceAt", desc := "(II)I" } : Jvm.MethodName) prog_9_method_25_code (5 : Nat) (Option.some Jvm.ClassFile.FieldType.int)) ∈ zT := zmem4 (i := 63) rfl rfl
theorem zm_784 : (Jvm.Cond.methodLink "WindowLettersModel" (108 : Nat) ({ cls := "WindowLettersModel", name := "pieceFor", desc := "(III)I" } : Jvm.MethodName)) ∈ zT := zmem4 (i := 64) rfl rfl
theorem zm_786 : (Jvm.Cond.instanceMethod ({ cls := "WindowLettersModel", name := "pieceFor", desc := "(III)I" } : Jvm.MethodName)) ∈ zT := zmem4 (i := 66) rfl rfl
theorem zm_787 : (Jvm.Cond.code ({ cls := "WindowLettersModel", name := "pieceFor", desc := "(III)I" } : Jvm.MethodName) prog_9_method_28_code (6 : Nat) (Option.some Jvm.ClassFile.FieldType.int)) ∈ zT := zmem4 (i := 67) rfl rfl
theorem zm_788 : (Jvm.Cond.methodLink "WindowLettersModel" (91 : Nat) ({ cls := "WindowLettersModel", name := "looseOne", desc := "(III)I" } : Jvm.MethodName)) ∈ zT := zmem4 (i := 68) rfl rfl
theorem zm_790 : (Jvm.Cond.instanceMethod ({ cls := "WindowLettersModel", name := "looseOne", desc := "(III)I" } : Jvm.MethodName)) ∈ zT := zmem4 (i := 70) rfl rfl
theorem zm_791 : (Jvm.Cond.code ({ cls := "WindowLettersModel", name := "looseOne", desc := "(III)I" } : Jvm.MethodName) prog_9_method_24_code (7 : Nat) (Option.some Jvm.ClassFile.FieldType.int)) ∈ zT := zmem4 (i := 71) rfl rfl
theorem zm_792 : (Jvm.Cond.methodLink "WindowLettersModel" (111 : Nat) ({ cls := "WindowLettersModel", name := "puts", desc := "(III)V" } : Jvm.MethodName)) ∈ zT := zmem4 (i := 72) rfl rfl
theorem zm_794 : (Jvm.Cond.instanceMethod ({ cls := "WindowLettersModel", name := "puts", desc := "(III)V" } : Jvm.MethodName)) ∈ zT := zmem4 (i := 74) rfl rfl
theorem zm_795 : (Jvm.Cond.code ({ cls := "WindowLettersModel", name := "puts", desc := "(III)V" } : Jvm.MethodName) prog_9_method_27_code (4 : Nat) (Option.none : Option Jvm.ClassFile.FieldType)) ∈ zT := zmem4 (i := 75) rfl rfl
theorem zm_796 : (Jvm.Cond.methodLink "WindowLettersModel" (138 : Nat) ({ cls := "WindowLettersModel", name := "putBack", desc := "()V" } : Jvm.MethodName)) ∈ zT := zmem4 (i := 76) rfl rfl
theorem zm_798 : (Jvm.Cond.instanceMethod ({ cls := "WindowLettersModel", name := "putBack", desc := "()V" } : Jvm.MethodName)) ∈ zT := zmem4 (i := 78) rfl rfl
theorem zm_799 : (Jvm.Cond.code ({ cls := "WindowLettersModel", name := "putBack", desc := "()V" } : Jvm.MethodName) prog_9_method_33_code (2 : Nat) (Option.none : Option Jvm.ClassFile.FieldType)) ∈ zT := zmem4 (i := 79) rfl rfl
theorem zm_800 : (Jvm.Cond.methodLink "WindowLettersLaw" (36 : Nat) ({ cls := "WindowLettersModel", name := "place", desc := "(III)I" } : Jvm.MethodName)) ∈ zT := zmem4 (i := 80) rfl rfl
theorem zm_801 : (Jvm.Cond.instanceMethod ({ cls := "WindowLettersModel", name := "place", desc := "(III)I" } : Jvm.MethodName)) ∈ zT := zmem4 (i := 81) rfl rfl
theorem zm_802 : (Jvm.Cond.selects "WindowLettersModel" ({ cls := "WindowLettersModel", name := "place", desc := "(III)I" } : Jvm.MethodName) ({ cls := "WindowLettersModel", name := "place", desc := "(III)I" } : Jvm.MethodName)) ∈ zT := zmem4 (i := 82) rfl rfl
theorem zm_803 : (Jvm.Cond.code ({ cls := "WindowLettersModel", name := "place", desc := "(III)I" } : Jvm.MethodName) prog_9_method_41_code (4 : Nat) (Option.some Jvm.ClassFile.FieldType.int)) ∈ zT := zmem4 (i := 83) rfl rfl
theorem zm_804 : (Jvm.Cond.methodLink "WindowLettersModel" (152 : Nat) ({ cls := "WindowLettersModel", name := "isPiece", desc := "(I)Z" } : Jvm.MethodName)) ∈ zT := zmem4 (i := 84) rfl rfl
theorem zm_806 : (Jvm.Cond.instanceMethod ({ cls := "WindowLettersModel", name := "isPiece", desc := "(I)Z" } : Jvm.MethodName)) ∈ zT := zmem4 (i := 86) rfl rfl
theorem zm_807 : (Jvm.Cond.code ({ cls := "WindowLettersModel", name := "isPiece", desc := "(I)Z" } : Jvm.MethodName) prog_9_method_14_code (2 : Nat) (Option.some Jvm.ClassFile.FieldType.boolean)) ∈ zT := zmem4 (i := 87) rfl rfl
theorem zm_808 : (Jvm.Cond.methodLink "WindowLettersModel" (155 : Nat) ({ cls := "WindowLettersModel", name := "isLoose", desc := "(I)Z" } : Jvm.MethodName)) ∈ zT := zmem4 (i := 88) rfl rfl
theorem zm_810 : (Jvm.Cond.instanceMethod ({ cls := "WindowLettersModel", name := "isLoose", desc := "(I)Z" } : Jvm.MethodName)) ∈ zT := zmem4 (i := 90) rfl rfl
theorem zm_811 : (Jvm.Cond.code ({ cls := "WindowLettersModel", name := "isLoose", desc := "(I)Z" } : Jvm.MethodName) prog_9_method_40_code (2 : Nat) (Option.some Jvm.ClassFile.FieldType.boolean)) ∈ zT := zmem4 (i := 91) rfl rfl
theorem zm_812 : (Jvm.Cond.methodLink "WindowLettersModel" (158 : Nat) ({ cls := "WindowLettersModel", name := "inPane", desc := "(I)I" } : Jvm.MethodName)) ∈ zT := zmem4 (i := 92) rfl rfl
theorem zm_814 : (Jvm.Cond.instanceMethod ({ cls := "WindowLettersModel", name := "inPane", desc := "(I)I" } : Jvm.MethodName)) ∈ zT := zmem4 (i := 94) rfl rfl
theorem zm_815 : (Jvm.Cond.code ({ cls := "WindowLettersModel", name := "inPane", desc := "(I)I" } : Jvm.MethodName) prog_9_method_26_code (4 : Nat) (Option.some Jvm.ClassFile.FieldType.int)) ∈ zT := zmem4 (i := 95) rfl rfl
theorem zm_816 : (Jvm.Cond.methodLink "WindowLettersLaw" (40 : Nat) ({ cls := "WindowLettersModel", name := "clear", desc := "(I)I" } : Jvm.MethodName)) ∈ zT := zmem4 (i := 96) rfl rfl
theorem zm_817 : (Jvm.Cond.instanceMethod ({ cls := "WindowLettersModel", name := "clear", desc := "(I)I" } : Jvm.MethodName)) ∈ zT := zmem4 (i := 97) rfl rfl
theorem zm_818 : (Jvm.Cond.selects "WindowLettersModel" ({ cls := "WindowLettersModel", name := "clear", desc := "(I)I" } : Jvm.MethodName) ({ cls := "WindowLettersModel", name := "clear", desc := "(I)I" } : Jvm.MethodName)) ∈ zT := zmem4 (i := 98) rfl rfl
theorem zm_819 : (Jvm.Cond.code ({ cls := "WindowLettersModel", name := "clear", desc := "(I)I" } : Jvm.MethodName) prog_9_method_42_code (5 : Nat) (Option.some Jvm.ClassFile.FieldType.int)) ∈ zT := zmem4 (i := 99) rfl rfl
theorem zm_820 : (Jvm.Cond.methodLink "WindowLettersLaw" (44 : Nat) ({ cls := "WindowLettersModel", name := "throwAway", desc := "(I)I" } : Jvm.MethodName)) ∈ zT := zmem4 (i := 100) rfl rfl
theorem zm_821 : (Jvm.Cond.instanceMethod ({ cls := "WindowLettersModel", name := "throwAway", desc := "(I)I" } : Jvm.MethodName)) ∈ zT := zmem4 (i := 101) rfl rfl
theorem zm_822 : (Jvm.Cond.selects "WindowLettersModel" ({ cls := "WindowLettersModel", name := "throwAway", desc := "(I)I" } : Jvm.MethodName) ({ cls := "WindowLettersModel", name := "throwAway", desc := "(I)I" } : Jvm.MethodName)) ∈ zT := zmem4 (i := 102) rfl rfl
theorem zm_823 : (Jvm.Cond.code ({ cls := "WindowLettersModel", name := "throwAway", desc := "(I)I" } : Jvm.MethodName) prog_9_method_43_code (2 : Nat) (Option.some Jvm.ClassFile.FieldType.int)) ∈ zT := zmem4 (i := 103) rfl rfl
theorem zm_824 : (Jvm.Cond.methodLink "WindowLettersModel" (161 : Nat) ({ cls := "WindowLettersModel", name := "squaresOf", desc := "(I)I" } : Jvm.MethodName)) ∈ zT := zmem4 (i := 104) rfl rfl
theorem zm_826 : (Jvm.Cond.instanceMethod ({ cls := "WindowLettersModel", name := "squaresOf", desc := "(I)I" } : Jvm.MethodName)) ∈ zT := zmem4 (i := 106) rfl rfl
theorem zm_827 : (Jvm.Cond.code ({ cls := "WindowLettersModel", name := "squaresOf", desc := "(I)I" } : Jvm.MethodName) prog_9_method_11_code (4 : Nat) (Option.some Jvm.ClassFile.FieldType.int)) ∈ zT := zmem4 (i := 107) rfl rfl
theorem zm_828 : (Jvm.Cond.methodLink "WindowLettersModel" (63 : Nat) ({ cls := "WindowLettersModel", name := "bits", desc := "(I)I" } : Jvm.MethodName)) ∈ zT := zmem4 (i := 108) rfl rfl
theorem zm_829 : (Jvm.Cond.static ({ cls := "WindowLettersModel", name := "bits", desc := "(I)I" } : Jvm.MethodName)) ∈ zT := zmem4 (i := 109) rfl rfl
theorem zm_830 : (Jvm.Cond.code ({ cls := "WindowLettersModel", name := "bits", desc := "(I)I" } : Jvm.MethodName) prog_9_method_10_code (3 : Nat) (Option.some Jvm.ClassFile.FieldType.int)) ∈ zT := zmem4 (i := 110) rfl rfl
theorem zm_831 : (Jvm.Cond.methodLink "WindowLettersLaw" (48 : Nat) ({ cls := "WindowLettersModel", name := "scrap", desc := "(I)I" } : Jvm.MethodName)) ∈ zT := zmem4 (i := 111) rfl rfl
theorem zm_832 : (Jvm.Cond.instanceMethod ({ cls := "WindowLettersModel", name := "scrap", desc := "(I)I" } : Jvm.MethodName)) ∈ zT := zmem4 (i := 112) rfl rfl
theorem zm_833 : (Jvm.Cond.selects "WindowLettersModel" ({ cls := "WindowLettersModel", name := "scrap", desc := "(I)I" } : Jvm.MethodName) ({ cls := "WindowLettersModel", name := "scrap", desc := "(I)I" } : Jvm.MethodName)) ∈ zT := zmem4 (i := 113) rfl rfl
theorem zm_834 : (Jvm.Cond.code ({ cls := "WindowLettersModel", name := "scrap", desc := "(I)I" } : Jvm.MethodName) prog_9_method_44_code (2 : Nat) (Option.some Jvm.ClassFile.FieldType.int)) ∈ zT := zmem4 (i := 114) rfl rfl
theorem zm_835 : (Jvm.Cond.methodLink "WindowLettersModel" (164 : Nat) ({ cls := "WindowLettersModel", name := "uncut", desc := "(I)I" } : Jvm.MethodName)) ∈ zT := zmem4 (i := 115) rfl rfl
theorem zm_837 : (Jvm.Cond.instanceMethod ({ cls := "WindowLettersModel", name := "uncut", desc := "(I)I" } : Jvm.MethodName)) ∈ zT := zmem4 (i := 117) rfl rfl
theorem zm_838 : (Jvm.Cond.code ({ cls := "WindowLettersModel", name := "uncut", desc := "(I)I" } : Jvm.MethodName) prog_9_method_22_code (4 : Nat) (Option.some Jvm.ClassFile.FieldType.int)) ∈ zT := zmem4 (i := 118) rfl rfl
theorem zm_839 : (Jvm.Cond.methodLink "WindowLettersLaw" (53 : Nat) ({ cls := "WindowLettersModel", name := "of", desc := "(II)I" } : Jvm.MethodName)) ∈ zT := zmem4 (i := 119) rfl rfl
theorem zm_840 : (Jvm.Cond.instanceMethod ({ cls := "WindowLettersModel", name := "of", desc := "(II)I" } : Jvm.MethodName)) ∈ zT := zmem4 (i := 120) rfl rfl
theorem zm_841 : (Jvm.Cond.selects "WindowLettersModel" ({ cls := "WindowLettersModel", name := "of", desc := "(II)I" } : Jvm.MethodName) ({ cls := "WindowLettersModel", name := "of", desc := "(II)I" } : Jvm.MethodName)) ∈ zT := zmem4 (i := 121) rfl rfl
theorem zm_842 : (Jvm.Cond.code ({ cls := "WindowLettersModel", name := "of", desc := "(II)I" } : Jvm.MethodName) prog_9_method_45_code (3 : Nat) (Option.some Jvm.ClassFile.FieldType.int)) ∈ zT := zmem4 (i := 122) rfl rfl
theorem zm_843 : (Jvm.Cond.methodLink "WindowLettersLaw" (57 : Nat) ({ cls := "WindowLettersModel", name := "ofSheet", desc := "(II)I" } : Jvm.MethodName)) ∈ zT := zmem4 (i := 123) rfl rfl
theorem zm_844 : (Jvm.Cond.instanceMethod ({ cls := "WindowLettersModel", name := "ofSheet", desc := "(II)I" } : Jvm.MethodName)) ∈ zT := zmem4 (i := 124) rfl rfl
theorem zm_845 : (Jvm.Cond.selects "WindowLettersModel" ({ cls := "WindowLettersModel", name := "ofSheet", desc := "(II)I" } : Jvm.MethodName) ({ cls := "WindowLettersModel", name := "ofSheet", desc := "(II)I" } : Jvm.MethodName)) ∈ zT := zmem4 (i := 125) rfl rfl
theorem zm_846 : (Jvm.Cond.code ({ cls := "WindowLettersModel", name := "ofSheet", desc := "(II)I" } : Jvm.MethodName) prog_9_method_48_code (3 : Nat) (Option.some Jvm.ClassFile.FieldType.int)) ∈ zT := zmem4 (i := 126) rfl rfl
theorem zm_847 : (Jvm.Cond.methodLink "WindowLettersModel" (167 : Nat) ({ cls := "WindowLettersModel", name := "piecesFrom", desc := "(I)I" } : Jvm.MethodName)) ∈ zT := zmem4 (i := 127) rfl rfl
theorem zm_849 : (Jvm.Cond.instanceMethod ({ cls := "WindowLettersModel", name := "piecesFrom", desc := "(I)I" } : Jvm.MethodName)) ∈ zT := zmem4 (i := 129) rfl rfl
theorem zm_850 : (Jvm.Cond.code ({ cls := "WindowLettersModel", name := "piecesFrom", desc := "(I)I" } : Jvm.MethodName) prog_9_method_46_code (4 : Nat) (Option.some Jvm.ClassFile.FieldType.int)) ∈ zT := zmem4 (i := 130) rfl rfl
theorem zm_851 : (Jvm.Cond.methodLink "WindowLettersModel" (170 : Nat) ({ cls := "WindowLettersModel", name := "lettersThatFit", desc := "(I)I" } : Jvm.MethodName)) ∈ zT := zmem4 (i := 131) rfl rfl
theorem zm_853 : (Jvm.Cond.instanceMethod ({ cls := "WindowLettersModel", name := "lettersThatFit", desc := "(I)I" } : Jvm.MethodName)) ∈ zT := zmem4 (i := 133) rfl rfl
theorem zm_854 : (Jvm.Cond.code ({ cls := "WindowLettersModel", name := "lettersThatFit", desc := "(I)I" } : Jvm.MethodName) prog_9_method_47_code (4 : Nat) (Option.some Jvm.ClassFile.FieldType.int)) ∈ zT := zmem4 (i := 134) rfl rfl
theorem zm_855 : (Jvm.Cond.methodLink "WindowLettersLaw" (61 : Nat) ({ cls := "WindowLettersModel", name := "row", desc := "(II)I" } : Jvm.MethodName)) ∈ zT := zmem4 (i := 135) rfl rfl
theorem zm_856 : (Jvm.Cond.instanceMethod ({ cls := "WindowLettersModel", name := "row", desc := "(II)I" } : Jvm.MethodName)) ∈ zT := zmem4 (i := 136) rfl rfl
theorem zm_857 : (Jvm.Cond.selects "WindowLettersModel" ({ cls := "WindowLettersModel", name := "row", desc := "(II)I" } : Jvm.MethodName) ({ cls := "WindowLettersModel", name := "row", desc := "(II)I" } : Jvm.MethodName)) ∈ zT := zmem4 (i := 137) rfl rfl
theorem zm_858 : (Jvm.Cond.code ({ cls := "WindowLettersModel", name := "row", desc := "(II)I" } : Jvm.MethodName) prog_9_method_49_code (3 : Nat) (Option.some Jvm.ClassFile.FieldType.int)) ∈ zT := zmem4 (i := 138) rfl rfl
theorem zm_859 : (Jvm.Cond.methodLink "WindowLettersLaw" (65 : Nat) ({ cls := "WindowLettersModel", name := "pane", desc := "(II)I" } : Jvm.MethodName)) ∈ zT := zmem4 (i := 139) rfl rfl
theorem zm_860 : (Jvm.Cond.instanceMethod ({ cls := "WindowLettersModel", name := "pane", desc := "(II)I" } : Jvm.MethodName)) ∈ zT := zmem4 (i := 140) rfl rfl
theorem zm_861 : (Jvm.Cond.selects "WindowLettersModel" ({ cls := "WindowLettersModel", name := "pane", desc := "(II)I" } : Jvm.MethodName) ({ cls := "WindowLettersModel", name := "pane", desc := "(II)I" } : Jvm.MethodName)) ∈ zT := zmem4 (i := 141) rfl rfl
theorem zm_862 : (Jvm.Cond.code ({ cls := "WindowLettersModel", name := "pane", desc := "(II)I" } : Jvm.MethodName) prog_9_method_50_code (3 : Nat) (Option.some Jvm.ClassFile.FieldType.int)) ∈ zT := zmem4 (i := 142) rfl rfl
theorem zm_863 : (Jvm.Cond.methodLink "WindowLettersLaw" (69 : Nat) ({ cls := "WindowLettersModel", name := "shape", desc := "(III)I" } : Jvm.MethodName)) ∈ zT := zmem4 (i := 143) rfl rfl
theorem zm_864 : (Jvm.Cond.instanceMethod ({ cls := "WindowLettersModel", name := "shape", desc := "(III)I" } : Jvm.MethodName)) ∈ zT := zmem4 (i := 144) rfl rfl
theorem zm_865 : (Jvm.Cond.selects "WindowLettersModel" ({ cls := "WindowLettersModel", name := "shape", desc := "(III)I" } : Jvm.MethodName) ({ cls := "WindowLettersModel", name := "shape", desc := "(III)I" } : Jvm.MethodName)) ∈ zT := zmem4 (i := 145) rfl rfl
theorem zm_866 : (Jvm.Cond.code ({ cls := "WindowLettersModel", name := "shape", desc := "(III)I" } : Jvm.MethodName) prog_9_method_51_code (4 : Nat) (Option.some Jvm.ClassFile.FieldType.int)) ∈ zT := zmem4 (i := 146) rfl rfl
theorem zm_867 : (Jvm.Cond.methodLink "WindowLettersLaw" (73 : Nat) ({ cls := "WindowLettersModel", name := "count", desc := "(I)I" } : Jvm.MethodName)) ∈ zT := zmem4 (i := 147) rfl rfl
theorem zm_868 : (Jvm.Cond.instanceMethod ({ cls := "WindowLettersModel", name := "count", desc := "(I)I" } : Jvm.MethodName)) ∈ zT := zmem4 (i := 148) rfl rfl
theorem zm_869 : (Jvm.Cond.selects "WindowLettersModel" ({ cls := "WindowLettersModel", name := "count", desc := "(I)I" } : Jvm.MethodName) ({ cls := "WindowLettersModel", name := "count", desc := "(I)I" } : Jvm.MethodName)) ∈ zT := zmem4 (i := 149) rfl rfl
theorem zm_870 : (Jvm.Cond.code ({ cls := "WindowLettersModel", name := "count", desc := "(I)I" } : Jvm.MethodName) prog_9_method_55_code (2 : Nat) (Option.some Jvm.ClassFile.FieldType.int)) ∈ zT := zmem4 (i := 150) rfl rfl
theorem zm_871 : (Jvm.Cond.methodLink "WindowLettersModel" (173 : Nat) ({ cls := "WindowLettersModel", name := "piecesThatAre", desc := "(I)I" } : Jvm.MethodName)) ∈ zT := zmem4 (i := 151) rfl rfl
theorem zm_873 : (Jvm.Cond.instanceMethod ({ cls := "WindowLettersModel", name := "piecesThatAre", desc := "(I)I" } : Jvm.MethodName)) ∈ zT := zmem4 (i := 153) rfl rfl
theorem zm_874 : (Jvm.Cond.code ({ cls := "WindowLettersModel", name := "piecesThatAre", desc := "(I)I" } : Jvm.MethodName) prog_9_method_52_code (4 : Nat) (Option.some Jvm.ClassFile.FieldType.int)) ∈ zT := zmem4 (i := 154) rfl rfl
theorem zm_875 : (Jvm.Cond.methodLink "WindowLettersModel" (176 : Nat) ({ cls := "WindowLettersModel", name := "squaresOfSheets", desc := "()I" } : Jvm.MethodName)) ∈ zT := zmem4 (i := 155) rfl rfl
theorem zm_877 : (Jvm.Cond.instanceMethod ({ cls := "WindowLettersModel", name := "squaresOfSheets", desc := "()I" } : Jvm.MethodName)) ∈ zT := zmem4 (i := 157) rfl rfl
theorem zm_878 : (Jvm.Cond.code ({ cls := "WindowLettersModel", name := "squaresOfSheets", desc := "()I" } : Jvm.MethodName) prog_9_method_54_code (3 : Nat) (Option.some Jvm.ClassFile.FieldType.int)) ∈ zT := zmem4 (i := 158) rfl rfl
theorem zm_879 : (Jvm.Cond.methodLink "WindowLettersModel" (179 : Nat) ({ cls := "WindowLettersModel", name := "squaresOfPieces", desc := "()I" } : Jvm.MethodName)) ∈ zT := zmem4 (i := 159) rfl rfl
theorem zm_881 : (Jvm.Cond.instanceMethod ({ cls := "WindowLettersModel", name := "squaresOfPieces", desc := "()I" } : Jvm.MethodName)) ∈ zT := zmem4 (i := 161) rfl rfl
theorem zm_882 : (Jvm.Cond.code ({ cls := "WindowLettersModel", name := "squaresOfPieces", desc := "()I" } : Jvm.MethodName) prog_9_method_53_code (3 : Nat) (Option.some Jvm.ClassFile.FieldType.int)) ∈ zT := zmem4 (i := 162) rfl rfl
theorem zm_883 : (Jvm.Cond.methodLink "WindowLettersLaw" (77 : Nat) ({ cls := "WindowLettersModel", name := "fit", desc := "(IIII)I" } : Jvm.MethodName)) ∈ zT := zmem4 (i := 163) rfl rfl
theorem zm_884 : (Jvm.Cond.instanceMethod ({ cls := "WindowLettersModel", name := "fit", desc := "(IIII)I" } : Jvm.MethodName)) ∈ zT := zmem4 (i := 164) rfl rfl
theorem zm_885 : (Jvm.Cond.selects "WindowLettersModel" ({ cls := "WindowLettersModel", name := "fit", desc := "(IIII)I" } : Jvm.MethodName) ({ cls := "WindowLettersModel", name := "fit", desc := "(IIII)I" } : Jvm.MethodName)) ∈ zT := zmem4 (i := 165) rfl rfl
theorem zm_886 : (Jvm.Cond.code ({ cls := "WindowLettersModel", name := "fit", desc := "(IIII)I" } : Jvm.MethodName) prog_9_method_56_code (5 : Nat) (Option.some Jvm.ClassFile.FieldType.int)) ∈ zT := zmem4 (i := 166) rfl rfl
theorem zm_887 : (Jvm.Cond.methodLink "WindowLettersLaw" (81 : Nat) ({ cls := "WindowLettersModel", name := "manyOf", desc := "(III)I" } : Jvm.MethodName)) ∈ zT := zmem4 (i := 167) rfl rfl
theorem zm_888 : (Jvm.Cond.instanceMethod ({ cls := "WindowLettersModel", name := "manyOf", desc := "(III)I" } : Jvm.MethodName)) ∈ zT := zmem4 (i := 168) rfl rfl
theorem zm_889 : (Jvm.Cond.selects "WindowLettersModel" ({ cls := "WindowLettersModel", name := "manyOf", desc := "(III)I" } : Jvm.MethodName) ({ cls := "WindowLettersModel", name := "manyOf", desc := "(III)I" } : Jvm.MethodName)) ∈ zT := zmem4 (i := 169) rfl rfl
theorem zm_890 : (Jvm.Cond.code ({ cls := "WindowLettersModel", name := "manyOf", desc := "(III)I" } : Jvm.MethodName) prog_9_method_57_code (5 : Nat) (Option.some Jvm.ClassFile.FieldType.int)) ∈ zT := zmem4 (i := 170) rfl rfl
theorem zm_891 : (Jvm.Cond.methodLink "WindowLettersLaw" (85 : Nat) ({ cls := "WindowLettersModel", name := "fits", desc := "(II)I" } : Jvm.MethodName)) ∈ zT := zmem4 (i := 171) rfl rfl
theorem zm_892 : (Jvm.Cond.instanceMethod ({ cls := "WindowLettersModel", name := "fits", desc := "(II)I" } : Jvm.MethodName)) ∈ zT := zmem4 (i := 172) rfl rfl
theorem zm_893 : (Jvm.Cond.selects "WindowLettersModel" ({ cls := "WindowLettersModel", name := "fits", desc := "(II)I" } : Jvm.MethodName) ({ cls := "WindowLettersModel", name := "fits", desc := "(II)I" } : Jvm.MethodName)) ∈ zT := zmem4 (i := 173) rfl rfl
theorem zm_894 : (Jvm.Cond.code ({ cls := "WindowLettersModel", name := "fits", desc := "(II)I" } : Jvm.MethodName) prog_9_method_58_code (5 : Nat) (Option.some Jvm.ClassFile.FieldType.int)) ∈ zT := zmem4 (i := 174) rfl rfl
theorem zm_895 : (Jvm.Cond.methodLink "WindowLettersLaw" (89 : Nat) ({ cls := "WindowLettersModel", name := "colours", desc := "(III)I" } : Jvm.MethodName)) ∈ zT := zmem4 (i := 175) rfl rfl
theorem zm_896 : (Jvm.Cond.instanceMethod ({ cls := "WindowLettersModel", name := "colours", desc := "(III)I" } : Jvm.MethodName)) ∈ zT := zmem4 (i := 176) rfl rfl
theorem zm_897 : (Jvm.Cond.selects "WindowLettersModel" ({ cls := "WindowLettersModel", name := "colours", desc := "(III)I" } : Jvm.MethodName) ({ cls := "WindowLettersModel", name := "colours", desc := "(III)I" } : Jvm.MethodName)) ∈ zT := zmem4 (i := 177) rfl rfl
theorem zm_898 : (Jvm.Cond.code ({ cls := "WindowLettersModel", name := "colours", desc := "(III)I" } : Jvm.MethodName) prog_9_method_59_code (6 : Nat) (Option.some Jvm.ClassFile.FieldType.int)) ∈ zT := zmem4 (i := 178) rfl rfl
theorem zm_899 : (Jvm.Cond.methodLink "WindowLettersLaw" (96 : Nat) ({ cls := "WindowLettersModel", name := "put", desc := "(J)I" } : Jvm.MethodName)) ∈ zT := zmem4 (i := 179) rfl rfl
theorem zm_900 : (Jvm.Cond.instanceMethod ({ cls := "WindowLettersModel", name := "put", desc := "(J)I" } : Jvm.MethodName)) ∈ zT := zmem4 (i := 180) rfl rfl
theorem zm_901 : (Jvm.Cond.selects "WindowLettersModel" ({ cls := "WindowLettersModel", name := "put", desc := "(J)I" } : Jvm.MethodName) ({ cls := "WindowLettersModel", name := "put", desc := "(J)I" } : Jvm.MethodName)) ∈ zT := zmem4 (i := 181) rfl rfl
theorem zm_902 : (Jvm.Cond.code ({ cls := "WindowLettersModel", name := "put", desc := "(J)I" } : Jvm.MethodName) prog_9_method_60_code (8 : Nat) (Option.some Jvm.ClassFile.FieldType.int)) ∈ zT := zmem4 (i := 182) rfl rfl
theorem zm_903 : (Jvm.Cond.constantLong "WindowLettersModel" (182 : Nat) (255 : Int64)) ∈ zT := zmem4 (i := 183) rfl rfl
theorem zm_904 : (Jvm.Cond.methodLink "WindowLettersLaw" (101 : Nat) ({ cls := "WindowLettersModel", name := "wipe", desc := "()I" } : Jvm.MethodName)) ∈ zT := zmem4 (i := 184) rfl rfl
theorem zm_905 : (Jvm.Cond.instanceMethod ({ cls := "WindowLettersModel", name := "wipe", desc := "()I" } : Jvm.MethodName)) ∈ zT := zmem4 (i := 185) rfl rfl
theorem zm_906 : (Jvm.Cond.selects "WindowLettersModel" ({ cls := "WindowLettersModel", name := "wipe", desc := "()I" } : Jvm.MethodName) ({ cls := "WindowLettersModel", name := "wipe", desc := "()I" } : Jvm.MethodName)) ∈ zT := zmem4 (i := 186) rfl rfl
theorem zm_907 : (Jvm.Cond.code ({ cls := "WindowLettersModel", name := "wipe", desc := "()I" } : Jvm.MethodName) prog_9_method_61_code (2 : Nat) (Option.some Jvm.ClassFile.FieldType.int)) ∈ zT := zmem4 (i := 187) rfl rfl
theorem zm_908 : (Jvm.Cond.methodLink "WindowLettersLaw" (105 : Nat) ({ cls := "WindowLettersModel", name := "fault", desc := "()I" } : Jvm.MethodName)) ∈ zT := zmem4 (i := 188) rfl rfl
theorem zm_909 : (Jvm.Cond.methodLink "WindowLettersLaw" (109 : Nat) ({ cls := "WindowLettersModel", name := "undo", desc := "()I" } : Jvm.MethodName)) ∈ zT := zmem4 (i := 189) rfl rfl
theorem zm_910 : (Jvm.Cond.instanceMethod ({ cls := "WindowLettersModel", name := "undo", desc := "()I" } : Jvm.MethodName)) ∈ zT := zmem4 (i := 190) rfl rfl
theorem zm_911 : (Jvm.Cond.selects "WindowLettersModel" ({ cls := "WindowLettersModel", name := "undo", desc := "()I" } : Jvm.MethodName) ({ cls := "WindowLettersModel", name := "undo", desc := "()I" } : Jvm.MethodName)) ∈ zT := zmem4 (i := 191) rfl rfl
theorem zm_912 : (Jvm.Cond.code ({ cls := "WindowLettersModel", name := "undo", desc := "()I" } : Jvm.MethodName) prog_9_method_63_code (2 : Nat) (Option.some Jvm.ClassFile.FieldType.int)) ∈ zT := zmem4 (i := 192) rfl rfl
theorem zm_913 : (Jvm.Cond.methodLink "WindowLettersLaw" (113 : Nat) ({ cls := "WindowLettersModel", name := "save", desc := "(I)I" } : Jvm.MethodName)) ∈ zT := zmem4 (i := 193) rfl rfl
theorem zm_914 : (Jvm.Cond.instanceMethod ({ cls := "WindowLettersModel", name := "save", desc := "(I)I" } : Jvm.MethodName)) ∈ zT := zmem4 (i := 194) rfl rfl
theorem zm_915 : (Jvm.Cond.selects "WindowLettersModel" ({ cls := "WindowLettersModel", name := "save", desc := "(I)I" } : Jvm.MethodName) ({ cls := "WindowLettersModel", name := "save", desc := "(I)I" } : Jvm.MethodName)) ∈ zT := zmem4 (i := 195) rfl rfl
theorem zm_916 : (Jvm.Cond.code ({ cls := "WindowLettersModel", name := "save", desc := "(I)I" } : Jvm.MethodName) prog_9_method_64_code (3 : Nat) (Option.some Jvm.ClassFile.FieldType.int)) ∈ zT := zmem4 (i := 196) rfl rfl
theorem zm_917 : (Jvm.Cond.methodLink "WindowLettersLaw" (117 : Nat) ({ cls := "WindowLettersModel", name := "restore", desc := "(I)I" } : Jvm.MethodName)) ∈ zT := zmem4 (i := 197) rfl rfl
theorem zm_918 : (Jvm.Cond.instanceMethod ({ cls := "WindowLettersModel", name := "restore", desc := "(I)I" } : Jvm.MethodName)) ∈ zT := zmem4 (i := 198) rfl rfl
theorem zm_919 : (Jvm.Cond.selects "WindowLettersModel" ({ cls := "WindowLettersModel", name := "restore", desc := "(I)I" } : Jvm.MethodName) ({ cls := "WindowLettersModel", name := "restore", desc := "(I)I" } : Jvm.MethodName)) ∈ zT := zmem4 (i := 199) rfl rfl
theorem zm_920 : (Jvm.Cond.code ({ cls := "WindowLettersModel", name := "restore", desc := "(I)I" } : Jvm.MethodName) prog_9_method_65_code (3 : Nat) (Option.some Jvm.ClassFile.FieldType.int)) ∈ zT := zmem4 (i := 200) rfl rfl
theorem zm_921 : (Jvm.Cond.constantLong "WindowLettersLaw" (90 : Nat) (4294967295 : Int64)) ∈ zT := zmem4 (i := 201) rfl rfl
theorem zm_922 : (Jvm.Cond.fieldLink "java/lang/String" (15 : Nat) "java/lang/String" "coder" "B") ∈ zT := zmem4 (i := 202) rfl rfl
theorem zm_923 : (Jvm.Cond.fieldLink "java/lang/String" (9 : Nat) "java/lang/String" "value" "[B") ∈ zT := zmem4 (i := 203) rfl rfl
theorem zin0 : ∀ w ∈ u_ws RX0 TX0 4, w ∈ zT := by
  intro w hw
  obtain ⟨k, hk, rfl⟩ := List.mem_map.mp hw
  have hk := List.mem_range.mp hk
  match k, hk with
  | 0, _ => exact zm_169
  | 1, _ => exact zm_171
  | 2, _ => exact zm_173
  | 3, _ => exact zm_175
theorem zin1 : ∀ w ∈ u_ws RX1 TX1 2, w ∈ zT := by
  intro w hw
  obtain ⟨k, hk, rfl⟩ := List.mem_map.mp hw
  have hk := List.mem_range.mp hk
  match k, hk with
  | 0, _ => exact zm_188
  | 1, _ => exact zm_190
theorem zin2 : ∀ w ∈ u_ws RX2 TX2 7, w ∈ zT := by
  intro w hw
  obtain ⟨k, hk, rfl⟩ := List.mem_map.mp hw
  have hk := List.mem_range.mp hk
  match k, hk with
  | 0, _ => exact zm_117
  | 1, _ => exact zm_119
  | 2, _ => exact zm_121
  | 3, _ => exact zm_123
  | 4, _ => exact zm_125
  | 5, _ => exact zm_127
  | 6, _ => exact zm_129
theorem zin3 : ∀ w ∈ u_ws RX3 TX3 1, w ∈ zT := by
  intro w hw
  obtain ⟨k, hk, rfl⟩ := List.mem_map.mp hw
  have hk := List.mem_range.mp hk
  match k, hk with
  | 0, _ => exact zm_54
theorem zin4 : ∀ w ∈ u_ws RX4 TX4 4, w ∈ zT := by
  intro w hw
  obtain ⟨k, hk, rfl⟩ := List.mem_map.mp hw
  have hk := List.mem_range.mp hk
  match k, hk with
  | 0, _ => exact zm_82
  | 1, _ => exact zm_84
  | 2, _ => exact zm_86
  | 3, _ => exact zm_88
theorem zin5 : ∀ w ∈ u_ws RX5 TX5 6, w ∈ zT := by
  intro w hw
  obtain ⟨k, hk, rfl⟩ := List.mem_map.mp hw
  have hk := List.mem_range.mp hk
  match k, hk with
  | 0, _ => exact zm_141
  | 1, _ => exact zm_143
  | 2, _ => exact zm_145
  | 3, _ => exact zm_147
  | 4, _ => exact zm_149
  | 5, _ => exact zm_151
theorem zin6 : ∀ w ∈ u_ws RX6 TX6 7, w ∈ zT := by
  intro w hw
  obtain ⟨k, hk, rfl⟩ := List.mem_map.mp hw
  have hk := List.mem_range.mp hk
  match k, hk with
  | 0, _ => exact zm_201
  | 1, _ => exact zm_203
  | 2, _ => exact zm_205
  | 3, _ => exact zm_207
  | 4, _ => exact zm_209
  | 5, _ => exact zm_211
  | 6, _ => exact zm_213
theorem zin7 : ∀ w ∈ u_ws RX7 TX7 10, w ∈ zT := by
  intro w hw
  obtain ⟨k, hk, rfl⟩ := List.mem_map.mp hw
  have hk := List.mem_range.mp hk
  match k, hk with
  | 0, _ => exact zm_673
  | 1, _ => exact zm_675
  | 2, _ => exact zm_677
  | 3, _ => exact zm_679
  | 4, _ => exact zm_681
  | 5, _ => exact zm_683
  | 6, _ => exact zm_685
  | 7, _ => exact zm_687
  | 8, _ => exact zm_689
  | 9, _ => exact zm_691
end
section
/-! a world: a function from addresses to cells; the whole world of a run, and the run of one method in it -/
abbrev zH : Type := Nat → Option va_E
/-- base, the class tables, the array classes, the cells of LETTER_ROWS, of the text of the signs, of its bytes -/
abbrev zG : Type := Nat × va_G × (Nat → ClassId) × (Nat × Nat × Nat)
/-- a method: its class, its bytes, its locals, its answer's type, whether it is a constructor -/
abbrev zM : Type := String × ByteArray × Nat × Option FieldType × Bool
def zTys (G : zG) : List (ClassId × FieldType) := [(G.2.2.1 0, .int), (G.2.2.1 1, .char), (G.2.2.1 2, .boolean), (G.2.2.1 3, .object RX5), (G.2.2.1 4, .object RX4), (G.2.2.1 5, .object RX2)]
def zRows : Nat → Int32 := fun j => ([2, 2, 2, 2, 2, 4, 4, 4, 4, 7, 7, 5, 5, 5, 7, 7, 2, 2, 2, 2, 5, 5, 5, 5, 7, 7, 4, 7, 4, 7, 5, 5, 7, 5, 5, 7, 4, 7, 1, 7] : List Int32).getD j 0
abbrev zA (G : zG) : Nat → Prop := fun q => G.1 ≤ q
theorem zNw_warm {w : Cond} {s U : State} (hW : s.WarmedH U.vm) (h : va_Nw w s) (hn : zisNest w = true) : va_Nw w U := by
  cases w <;> first | exact va_Nw.warmF hW h | exact va_Nw.warmM hW h | (exfalso; simp [zisNest] at hn; done)
theorem zNw_same {w : Cond} {u U : State} (hv : u.vm = U.vm) (h : va_Nw w u) (hn : zisNest w = true) : va_Nw w U := by
  refine va_Nw.same ?_ hv h
  cases w <;> first | rfl | (exfalso; simp [zisNest] at hn; done)
def zK (G : zG) (U : State) : Prop := va_K G.2.1 vwCl (zTys G) U ∧ va_Z RX6 "LETTER_ROWS" "[I" (.ref G.2.2.2.1) (zA G) U U.heap ∧ va_T .int G.2.2.2.1 40 (fun j => .int (zRows j)) (zA G) U U.heap ∧ (va_AO RX5 U ∧ va_AO RX4 U ∧ va_AO RX2 U) ∧ (vk_R RX1 29 "ilotuehs" G.2.2.2.2.1 U ∧ vk_S 1 [8] [[105, 108, 111, 116, 117, 101, 104, 115]] (fun _ => G.2.2.2.2.1) (fun _ => G.2.2.2.2.2) (zA G) U U.heap ∧ va_Z "java/lang/String" "COMPACT_STRINGS" "Z" (.int 1) (zA G) U U.heap) ∧ (∀ w ∈ zN, va_Nw w U) ∧ G.1 ≤ U.heap.size
theorem zK.to {G : zG} {s U : State} (h : zK G s) (hW : s.WarmedH U.vm) (hz : s.heap.size ≤ U.heap.size) (hq : ∀ q : Nat, q < s.heap.size → ¬ zA G q → U.heap[q]? = s.heap[q]?) : zK G U := by
  obtain ⟨h1, h2, h3, ⟨h4, h5, h6⟩, ⟨h7, h8, h9⟩, hN, h10⟩ := h
  have hvm := hW.alike
  exact ⟨va_K.moved hvm h1, (va_Z.moved hvm h2).kept hq, (va_T.moved hvm h3).kept hq, ⟨va_AO.moved hvm h4, va_AO.moved hvm h5, va_AO.moved hvm h6⟩, ⟨vk_R.warm hW h7, (vk_S.moved hvm h8).kept hq, (va_Z.moved hvm h9).kept hq⟩, fun w hw => zNw_warm hW (hN w hw) (List.mem_filter.mp hw).2, Nat.le_trans h10 hz⟩
theorem zK.calling {G : zG} {U : State} {g : JFrame} {mk : MethodId} {a : Array Value} (h : zK G U) : zK G (U.calling g mk a) := by
  obtain ⟨h1, h2, h3, ⟨h4, h5, h6⟩, ⟨h7, h8, h9⟩, hN, h10⟩ := h
  have hvm : U.vm.Alike (U.calling g mk a).vm := Vm.Alike.refl U.vm
  have hq : ∀ q : Nat, q < U.heap.size → ¬ zA G q → (U.calling g mk a).heap[q]? = U.heap[q]? := fun _ _ _ => rfl
  exact ⟨va_K.moved hvm h1, (va_Z.moved hvm h2).kept hq, (va_T.moved hvm h3).kept hq, ⟨va_AO.moved hvm h4, va_AO.moved hvm h5, va_AO.moved hvm h6⟩, ⟨vk_R.same rfl h7, (vk_S.moved hvm h8).kept hq, (va_Z.moved hvm h9).kept hq⟩, fun w hw => zNw_same (u := U) (U := U.calling g mk a) rfl (hN w hw) (List.mem_filter.mp hw).2, h10⟩
/-- the machine's heap holds the world -/
def zW (G : zG) (hh : zH) (sz : Nat) (H : Heap) : Prop := H.size = sz ∧ ∀ (a : Nat) (e : va_E), hh a = some e → G.1 ≤ a ∧ va_at G.2.1 vwCl (a, e) H
def zup (hh : zH) (a : Nat) (e : va_E) : zH := fun q => if q = a then some e else hh q
theorem zup_eq (hh : zH) (a : Nat) (e : va_E) : zup hh a e a = some e := if_pos rfl
theorem zup_ne {hh : zH} {a q : Nat} {e : va_E} (h : q ≠ a) : zup hh a e q = hh q := if_neg h
theorem zW.lt {G : zG} {hh : zH} {sz : Nat} {H : Heap} (h : zW G hh sz H) {a : Nat} {e : va_E} (ha : hh a = some e) : a < sz := by
  rw [← h.1]; exact (h.2 a e ha).2.lt
theorem zW.one {G : zG} {hh : zH} {sz : Nat} {H : Heap} (h : zW G hh sz H) {a : Nat} {e : va_E} (ha : hh a = some e) : va_P G.2.1 vwCl [(a, e)] H := by
  intro k q hk
  have hz : k < 1 := (List.getElem?_eq_some_iff.mp hk).1
  rw [show k = 0 by omega] at hk
  cases hk
  exact (h.2 a e ha).2
theorem zW.set {G : zG} {hh : zH} {sz : Nat} {H H1 : Heap} (h : zW G hh sz H) {a : Nat} {e0 e : va_E} (ha : hh a = some e0) (he : va_at G.2.1 vwCl (a, e) H1) (z : H1.size = H.size) (oq : ∀ q : Nat, q ≠ a → H1[q]? = H[q]?) : zW G (zup hh a e) sz H1 := by
  refine ⟨z.trans h.1, fun q e' hq => ?_⟩
  by_cases hqa : q = a
  · subst hqa
    rw [zup_eq] at hq
    cases hq
    exact ⟨(h.2 q e0 ha).1, he⟩
  · rw [zup_ne hqa] at hq
    exact ⟨(h.2 q e' hq).1, (h.2 q e' hq).2.kept (oq q hqa)⟩
theorem zW.push {G : zG} {hh : zH} {sz : Nat} {H H1 : Heap} {e : va_E} (h : zW G hh sz H) (hb : G.1 ≤ sz) (he : va_at G.2.1 vwCl (sz, e) H1) (z : H1.size = sz + 1) (oq : ∀ q : Nat, q < sz → H1[q]? = H[q]?) : zW G (zup hh sz e) (sz + 1) H1 := by
  refine ⟨z, fun q e' hq => ?_⟩
  by_cases hqa : q = sz
  · subst hqa
    rw [zup_eq] at hq
    cases hq
    exact ⟨hb, he⟩
  · rw [zup_ne hqa] at hq
    exact ⟨(h.2 q e' hq).1, (h.2 q e' hq).2.kept (oq q (h.lt hq))⟩
/-! the locals, by places -/
def zL (ls : Array Slot) (nL : Nat) (lv : List (Option Value)) : Prop := ∀ l : List (Nat × Value), (∀ q ∈ l, lv[q.1]? = some (some q.2)) → lv_has ls nL l
theorem zL.at {ls : Array Slot} {nL : Nat} {lv : List (Option Value)} (h : zL ls nL lv) {i : Nat} {v : Value} (hv : lv[i]? = some (some v)) : ls[i]? = some (.val v) :=
  (h [(i, v)] (fun q hq => by rw [List.mem_singleton.mp hq]; exact hv)).2.2 (i, v) (List.mem_singleton.mpr rfl)
theorem zL.size {ls : Array Slot} {nL : Nat} {lv : List (Option Value)} (h : zL ls nL lv) : ls.size = nL := (h [] (fun q hq => by cases hq)).1
def zLp (lv : List (Option Value)) : List (Nat × Value) := (List.range lv.length).filterMap (fun i => ((lv[i]?).join).map (fun v => (i, v)))
theorem zLp_mem {lv : List (Option Value)} {q : Nat × Value} : q ∈ zLp lv ↔ lv[q.1]? = some (some q.2) := by
  unfold zLp
  rw [List.mem_filterMap]
  constructor
  · rintro ⟨i, hi, h⟩
    cases h1 : lv[i]? with
    | none => rw [h1] at h; cases h
    | some w =>
      cases w with
      | none => rw [h1] at h; cases h
      | some v => rw [h1] at h; cases h; exact h1
  · intro h
    refine ⟨q.1, List.mem_range.mpr (List.getElem?_eq_some_iff.mp h).1, ?_⟩
    rw [h]; rfl
theorem zL.has {ls : Array Slot} {nL : Nat} {lv : List (Option Value)} (h : zL ls nL lv) : lv_has ls nL (zLp lv) := h _ (fun _ hq => zLp_mem.mp hq)
/-- a place of one slot may be stored at i: no long ends there -/
def zok (lv : List (Option Value)) (i : Nat) : Bool := decide (i < lv.length) && match i with
  | 0 => true
  | j + 1 => match lv[j]? with
    | some (some w) => w.category != 2
    | _ => true
theorem zL.store {ls' : Array Slot} {nL : Nat} {lv : List (Option Value)} {i : Nat} {v : Value} (hok : zok lv i = true) (h' : lv_has ls' nL ((i, v) :: (zLp lv).filter (fun q => !(q.1 == i) && !(q.1 + 1 == i && q.2.category == 2)))) : zL ls' nL (lv.set i (some v)) := by
  intro l hl
  refine ⟨h'.1, h'.2.1, fun q hq => h'.2.2 q ?_⟩
  have h1 := hl q hq
  simp only [zok, Bool.and_eq_true, decide_eq_true_eq] at hok
  by_cases hqi : q.1 = i
  · subst hqi
    rw [List.getElem?_set_self hok.1] at h1
    obtain ⟨q1, q2⟩ := q
    cases h1
    exact List.mem_cons_self
  · rw [List.getElem?_set_ne (fun e => hqi e.symm)] at h1
    refine List.mem_cons_of_mem _ (List.mem_filter.mpr ⟨zLp_mem.mpr h1, ?_⟩)
    simp only [Bool.and_eq_true, Bool.not_eq_true', beq_eq_false_iff_ne, ne_eq, Bool.and_eq_false_iff]
    refine ⟨hqi, ?_⟩
    by_cases hj : q.1 + 1 = i
    · right
      subst hj
      have h2 := hok.2
      simp only [h1] at h2
      simpa using h2
    · exact Or.inl hj
def zl0 : List Value → List (Option Value)
  | [] => []
  | v :: vs => if v.category = 2 then some v :: none :: zl0 vs else some v :: zl0 vs
theorem zl0_mem : ∀ (vs : List Value) (n k i : Nat) (v : Value), (zl0 vs ++ List.replicate n none)[i]? = some (some v) → (k + i, v) ∈ lv_args k vs
  | [], n, k, i, v, h => by
    simp only [zl0, List.nil_append] at h
    have := List.eq_of_mem_replicate (List.mem_of_getElem? h)
    cases this
  | w :: vs, n, k, i, v, h => by
    unfold zl0 at h
    unfold lv_args
    by_cases hc : w.category = 2
    · rw [if_pos hc] at h ⊢
      match i, h with
      | 0, h => cases h; exact List.mem_cons_self
      | 1, h => cases h
      | i + 2, h =>
        have := zl0_mem vs n (k + 2) i v h
        rw [show k + (i + 2) = k + 2 + i by omega]
        exact List.mem_cons_of_mem _ this
    · rw [if_neg hc] at h ⊢
      match i, h with
      | 0, h => cases h; exact List.mem_cons_self
      | i + 1, h =>
        have := zl0_mem vs n (k + 1) i v h
        rw [show k + (i + 1) = k + 1 + i by omega]
        exact List.mem_cons_of_mem _ this
/-! what is fixed in the run of one method -/
def zX (p : Program) (s : State) (m : MethodId) (args : Array Value) (meth : Method) (c : Code) (M : zM) (G : zG) : Prop :=
  p.tables.exec = Jvm.exec ∧ c.code = M.2.1 ∧ c.maxLocals = M.2.2.1 ∧ s.vm.findClass M.1 = some m.cls ∧ (∀ w ∈ zT, w.before args s = true) ∧ meth.sig.returnType = M.2.2.2.1 ∧ meth.locks = false ∧ (M.2.2.2.2 = true → meth.name = "<init>") ∧ zK G s
/-- a return stands at pc, and r is such an answer -/
def zEnd (M : zM) (r : Option Value) (pc : Nat) : Prop :=
  (r = none ∧ M.2.2.2.1 = none ∧ decode M.2.1 pc = .ok (.return_, 1)) ∨
  (∃ (v : Int32) (ty : FieldType), r = some (.int v) ∧ M.2.2.2.1 = some ty ∧ narrow ty (.int v) = .int v ∧ decode M.2.1 pc = .ok (.ireturn, 1)) ∨
  (∃ (v : Value) (C : String), r = some v ∧ M.2.2.2.1 = some (.object C) ∧ (v = .null ∨ ∃ a, v = .ref a) ∧ decode M.2.1 pc = .ok (.areturn, 1))
/-- THE JUDGEMENT: method M, at pc, with these locals and this stack, in the world hh of sz cells (k cells and n slots made so far, at most mc and ms, d frames deep): it returns, and Post holds of its answer, its world, its size, and what was made -/
def zS (M : zM) (G : zG) (d mc ms k n : Nat) (hh : zH) (sz : Nat) (pc : Nat) (lv : List (Option Value)) (st : List Value) (Post : Option Value → zH → Nat → Nat → Nat → Prop) : Prop :=
  ∀ (p : Program) (l : Launch) (e : Env) (R : Room) (s : State) (m : MethodId) (args : Array Value) (below : List Frame) (meth : Method) (c : Code) (Q : State → Prop), zX p s m args meth c M G → d ≤ R.frames → 31 * d ≤ R.locals → mc ≤ R.cells → ms ≤ R.slots →
    (∀ (r : Option Value) (hh' : zH) (sz' k' n' : Nat) (H' : Heap) (locs' : List Loc) (pc' : Nat) (ls' : Array Slot), Post r hh' sz' k' n' → zW G hh' sz' H' → va_S (zA G) s.heap H' locs' → zEnd M r pc' → W p l e R s m args below meth c H' locs' k' n' Q (F0 m pc' ls' r.toList)) →
    ∀ (H : Heap) (locs : List Loc) (ls : Array Slot), zW G hh sz H → va_S (zA G) s.heap H locs → zL ls M.2.2.1 lv → W p l e R s m args below meth c H locs k n Q (F0 m pc ls st)
/-- a method's contract in a world -/
def zC (G : zG) (d : Nat) (M : zM) (y : MethodName) (as : List Value) (hh : zH) (sz mc ms : Nat) (Post : Option Value → zH → Nat → Prop) : Prop :=
  ∀ l : Launch, Met l y (.code y M.2.1 M.2.2.1 M.2.2.2.1 :: zT) { frames := d, cells := mc, slots := ms, locals := 31 * d } (va_Pc as (fun U => zW G hh sz U.heap ∧ zK G U)) (fun _ st oc t => ∃ (r : Option Value) (hh' : zH) (sz' : Nat), oc = .returned r ∧ Post r hh' sz' ∧ zW G hh' sz' t.heap ∧ va_F (zA G) st t) mc ms (zA G)
theorem zC.mono {G : zG} {d : Nat} {M : zM} {y : MethodName} {as : List Value} {hh : zH} {sz mc ms : Nat} {P Q : Option Value → zH → Nat → Prop} (h : zC G d M y as hh sz mc ms P) (hPQ : ∀ r h' s', P r h' s' → Q r h' s') : zC G d M y as hh sz mc ms Q := by
  intro l p e ha hc hk s m args below hf happ hP hK
  obtain ⟨t, o, k1, h1, h2, ⟨⟨r, hh', sz', e1, e2, e3⟩, e4⟩⟩ := h l p e ha hc hk s m args below hf happ hP hK
  exact ⟨t, o, k1, h1, h2, ⟨⟨r, hh', sz', e1, hPQ _ _ _ e2, e3⟩, e4⟩⟩
theorem z_intro {G : zG} {d : Nat} {M : zM} {y : MethodName} {as : List Value} {hh : zH} {sz mc ms : Nat} {Post : Option Value → zH → Nat → Prop} (lv : List (Option Value)) (hlv : zl0 as ++ List.replicate (M.2.2.1 - (zl0 as).length) none = lv) (hy : (plainName y.cls && (y.cls == M.1) && (!M.2.2.2.2 || y.name == "<init>")) = true) (hn : (lg_sl as).length ≤ M.2.2.1)
    (h : zS M G d mc ms 0 0 hh sz 0 lv [] (fun r h' s' k' n' => Post r h' s' ∧ k' ≤ mc ∧ n' ≤ ms)) : zC G d M y as hh sz mc ms Post := by
  intro l
  simp only [Bool.and_eq_true, beq_iff_eq] at hy
  obtain ⟨⟨hy1, hy2⟩, hy3⟩ := hy
  refine Met.ofW (cc := M.2.1) (maxL := M.2.2.1) (ret := M.2.2.2.1) hy1 rfl ?_
  intro p e s m args below meth c s₁ B hml hv
  obtain ⟨rfl, hW, hK⟩ := hv
  have hx := B.exec
  have hb := B.bytes
  have hr := B.returns
  have hts := atoms_spec B.pre
  have hown : s.vm.findClass y.cls = some m.cls := findClass_of_methodNamed B.named
  have hlocks := B.notSynchronized
  have hX : zX p s m as.toArray meth c M G := by
    refine ⟨hx, hb, hml, hy2 ▸ hown, fun w hw => hts w (List.mem_cons_of_mem _ hw), hr, hlocks, fun hi => ?_, hK⟩
    have e1 := (name_of_methodNamed B.named B.method).1
    rw [hi] at hy3
    simp at hy3
    rw [e1]; exact hy3
  have hS : va_S (zA G) s.heap s.heap [] := va_S.rf
  have hl := lv_entry as (n := M.2.2.1) hn
  rw [lg_entry_eq]
  generalize (lg_sl as ++ List.replicate (M.2.2.1 - (lg_sl as).length) Slot.unset).toArray = ls at hl ⊢
  have hL : zL ls M.2.2.1 lv := by
    intro l1 hl1
    refine ⟨hl.1, hl.2.1, fun q hq => hl.2.2 q ?_⟩
    have h1 := hl1 q hq
    rw [← hlv] at h1
    have h2 := zl0_mem as _ 0 q.1 q.2 h1
    rwa [Nat.zero_add] at h2
  refine h p l e _ s m as.toArray below meth c _ hX (Nat.le_refl _) (Nat.le_refl _) (Nat.le_refl _) (Nat.le_refl _) ?_ s.heap [] ls hW hS hL
  intro r hh' sz' k' n' H' locs' pc' ls' hp hW' hS' hE
  obtain ⟨hp, hk', hn'⟩ := hp
  refine W.widen (k := mc) (n := ms) hk' hn' ?_
  rcases hE with ⟨e1, e2, e3⟩ | ⟨v, ty, e1, e2, e3, e4⟩ | ⟨v, C, e1, e2, e3, e4⟩
  · subst e1
    exact W.vret hx hb (hr.trans e2) (fun t ht hWm => ⟨none, hh', sz', rfl, hp, by rw [ht]; exact hW', hS'.F ht⟩) hS'.2.2 e3
  · subst e1
    exact W.zret hx hb (hr.trans e2) e3 (fun t ht hWm => ⟨_, hh', sz', rfl, hp, by rw [ht]; exact hW', hS'.F ht⟩) hS'.2.2 e4
  · subst e1
    exact W.aret hx hb (hr.trans e2) (Or.inl ⟨C, rfl⟩) e3 (fun t ht hWm => ⟨_, hh', sz', rfl, hp, by rw [ht]; exact hW', hS'.F ht⟩) hS'.2.2 e4

section ZR
variable {M : zM} {G : zG} {d mc ms k n : Nat} {hh : zH} {sz : Nat} {pc : Nat} {lv : List (Option Value)} {st : List Value} {Post : Option Value → zH → Nat → Nat → Nat → Prop}
theorem z_iconst {i : Int} {v : Int32} (hd : decode M.2.1 pc = .ok (.iconst i, 1)) (hv : Int32.ofInt i = v) (kk : zS M G d mc ms k n hh sz (pc + 1) lv (.int v :: st) Post) : zS M G d mc ms k n hh sz pc lv (st) Post := by
  intro p l e R s m args below meth c Q hX hf hl hc hs hE H locs ls hW hS hL
  obtain ⟨hx, hb, hml, hown, hts, hr, hlk, hin, hK⟩ := id hX
  exact lv_iconst hx hb hd hv (kk p l e R s m args below meth c Q hX hf hl hc hs hE H locs ls hW hS hL)
theorem z_bipush {i : Int} {v : Int32} (hd : decode M.2.1 pc = .ok (.bipush i, 2)) (hv : (Int8.ofInt i).toInt32 = v) (kk : zS M G d mc ms k n hh sz (pc + 2) lv (.int v :: st) Post) : zS M G d mc ms k n hh sz pc lv (st) Post := by
  intro p l e R s m args below meth c Q hX hf hl hc hs hE H locs ls hW hS hL
  obtain ⟨hx, hb, hml, hown, hts, hr, hlk, hin, hK⟩ := id hX
  exact lv_bipush hx hb hd hv (kk p l e R s m args below meth c Q hX hf hl hc hs hE H locs ls hW hS hL)
theorem z_sipush {i : Int} {v : Int32} (hd : decode M.2.1 pc = .ok (.sipush i, 3)) (hv : (Int16.ofInt i).toInt32 = v) (kk : zS M G d mc ms k n hh sz (pc + 3) lv (.int v :: st) Post) : zS M G d mc ms k n hh sz pc lv (st) Post := by
  intro p l e R s m args below meth c Q hX hf hl hc hs hE H locs ls hW hS hL
  obtain ⟨hx, hb, hml, hown, hts, hr, hlk, hin, hK⟩ := id hX
  exact lv_sipush hx hb hd hv (kk p l e R s m args below meth c Q hX hf hl hc hs hE H locs ls hW hS hL)
theorem z_lconst {i : Fin 2} {v : Int64} (hd : decode M.2.1 pc = .ok (.lconst i, 1)) (hv : Int64.ofNat (i : Nat) = v) (kk : zS M G d mc ms k n hh sz (pc + 1) lv (.long v :: st) Post) : zS M G d mc ms k n hh sz pc lv (st) Post := by
  intro p l e R s m args below meth c Q hX hf hl hc hs hE H locs ls hW hS hL
  obtain ⟨hx, hb, hml, hown, hts, hr, hlk, hin, hK⟩ := id hX
  exact lv_lconst hx hb hd hv (kk p l e R s m args below meth c Q hX hf hl hc hs hE H locs ls hW hS hL)
theorem z_iadd {x y : Int32} (hd : decode M.2.1 pc = .ok (.iadd, 1))  (kk : zS M G d mc ms k n hh sz (pc + 1) lv (.int (x + y) :: st) Post) : zS M G d mc ms k n hh sz pc lv (.int y :: .int x :: st) Post := by
  intro p l e R s m args below meth c Q hX hf hl hc hs hE H locs ls hW hS hL
  obtain ⟨hx, hb, hml, hown, hts, hr, hlk, hin, hK⟩ := id hX
  exact lv_iadd hx hb hd  (kk p l e R s m args below meth c Q hX hf hl hc hs hE H locs ls hW hS hL)
theorem z_isub {x y : Int32} (hd : decode M.2.1 pc = .ok (.isub, 1))  (kk : zS M G d mc ms k n hh sz (pc + 1) lv (.int (x - y) :: st) Post) : zS M G d mc ms k n hh sz pc lv (.int y :: .int x :: st) Post := by
  intro p l e R s m args below meth c Q hX hf hl hc hs hE H locs ls hW hS hL
  obtain ⟨hx, hb, hml, hown, hts, hr, hlk, hin, hK⟩ := id hX
  exact lv_isub hx hb hd  (kk p l e R s m args below meth c Q hX hf hl hc hs hE H locs ls hW hS hL)
theorem z_imul {x y : Int32} (hd : decode M.2.1 pc = .ok (.imul, 1))  (kk : zS M G d mc ms k n hh sz (pc + 1) lv (.int (x * y) :: st) Post) : zS M G d mc ms k n hh sz pc lv (.int y :: .int x :: st) Post := by
  intro p l e R s m args below meth c Q hX hf hl hc hs hE H locs ls hW hS hL
  obtain ⟨hx, hb, hml, hown, hts, hr, hlk, hin, hK⟩ := id hX
  exact lv_imul hx hb hd  (kk p l e R s m args below meth c Q hX hf hl hc hs hE H locs ls hW hS hL)
theorem z_iand {x y : Int32} (hd : decode M.2.1 pc = .ok (.iand, 1))  (kk : zS M G d mc ms k n hh sz (pc + 1) lv (.int (x &&& y) :: st) Post) : zS M G d mc ms k n hh sz pc lv (.int y :: .int x :: st) Post := by
  intro p l e R s m args below meth c Q hX hf hl hc hs hE H locs ls hW hS hL
  obtain ⟨hx, hb, hml, hown, hts, hr, hlk, hin, hK⟩ := id hX
  exact lv_iand hx hb hd  (kk p l e R s m args below meth c Q hX hf hl hc hs hE H locs ls hW hS hL)
theorem z_ior {x y : Int32} (hd : decode M.2.1 pc = .ok (.ior, 1))  (kk : zS M G d mc ms k n hh sz (pc + 1) lv (.int (x ||| y) :: st) Post) : zS M G d mc ms k n hh sz pc lv (.int y :: .int x :: st) Post := by
  intro p l e R s m args below meth c Q hX hf hl hc hs hE H locs ls hW hS hL
  obtain ⟨hx, hb, hml, hown, hts, hr, hlk, hin, hK⟩ := id hX
  exact lv_ior hx hb hd  (kk p l e R s m args below meth c Q hX hf hl hc hs hE H locs ls hW hS hL)
theorem z_ixor {x y : Int32} (hd : decode M.2.1 pc = .ok (.ixor, 1))  (kk : zS M G d mc ms k n hh sz (pc + 1) lv (.int (x ^^^ y) :: st) Post) : zS M G d mc ms k n hh sz pc lv (.int y :: .int x :: st) Post := by
  intro p l e R s m args below meth c Q hX hf hl hc hs hE H locs ls hW hS hL
  obtain ⟨hx, hb, hml, hown, hts, hr, hlk, hin, hK⟩ := id hX
  exact lv_ixor hx hb hd  (kk p l e R s m args below meth c Q hX hf hl hc hs hE H locs ls hW hS hL)
theorem z_ishl {x y : Int32} (hd : decode M.2.1 pc = .ok (.ishl, 1))  (kk : zS M G d mc ms k n hh sz (pc + 1) lv (.int (x <<< (y &&& 31)) :: st) Post) : zS M G d mc ms k n hh sz pc lv (.int y :: .int x :: st) Post := by
  intro p l e R s m args below meth c Q hX hf hl hc hs hE H locs ls hW hS hL
  obtain ⟨hx, hb, hml, hown, hts, hr, hlk, hin, hK⟩ := id hX
  exact lv_ishl hx hb hd  (kk p l e R s m args below meth c Q hX hf hl hc hs hE H locs ls hW hS hL)
theorem z_ishr {x y : Int32} (hd : decode M.2.1 pc = .ok (.ishr, 1))  (kk : zS M G d mc ms k n hh sz (pc + 1) lv (.int (x >>> (y &&& 31)) :: st) Post) : zS M G d mc ms k n hh sz pc lv (.int y :: .int x :: st) Post := by
  intro p l e R s m args below meth c Q hX hf hl hc hs hE H locs ls hW hS hL
  obtain ⟨hx, hb, hml, hown, hts, hr, hlk, hin, hK⟩ := id hX
  exact lv_ishr hx hb hd  (kk p l e R s m args below meth c Q hX hf hl hc hs hE H locs ls hW hS hL)
theorem z_land {x y : Int64} (hd : decode M.2.1 pc = .ok (.land, 1))  (kk : zS M G d mc ms k n hh sz (pc + 1) lv (.long (x &&& y) :: st) Post) : zS M G d mc ms k n hh sz pc lv (.long y :: .long x :: st) Post := by
  intro p l e R s m args below meth c Q hX hf hl hc hs hE H locs ls hW hS hL
  obtain ⟨hx, hb, hml, hown, hts, hr, hlk, hin, hK⟩ := id hX
  exact lv_land hx hb hd  (kk p l e R s m args below meth c Q hX hf hl hc hs hE H locs ls hW hS hL)
theorem z_lor {x y : Int64} (hd : decode M.2.1 pc = .ok (.lor, 1))  (kk : zS M G d mc ms k n hh sz (pc + 1) lv (.long (x ||| y) :: st) Post) : zS M G d mc ms k n hh sz pc lv (.long y :: .long x :: st) Post := by
  intro p l e R s m args below meth c Q hX hf hl hc hs hE H locs ls hW hS hL
  obtain ⟨hx, hb, hml, hown, hts, hr, hlk, hin, hK⟩ := id hX
  exact lv_lor hx hb hd  (kk p l e R s m args below meth c Q hX hf hl hc hs hE H locs ls hW hS hL)
theorem z_idiv {x y : Int32} (hd : decode M.2.1 pc = .ok (.idiv, 1)) (hne : ¬ y = 0) (kk : zS M G d mc ms k n hh sz (pc + 1) lv (.int (x / y) :: st) Post) : zS M G d mc ms k n hh sz pc lv (.int y :: .int x :: st) Post := by
  intro p l e R s m args below meth c Q hX hf hl hc hs hE H locs ls hW hS hL
  obtain ⟨hx, hb, hml, hown, hts, hr, hlk, hin, hK⟩ := id hX
  exact lv_idiv hx hb hd hne (kk p l e R s m args below meth c Q hX hf hl hc hs hE H locs ls hW hS hL)
theorem z_irem {x y : Int32} (hd : decode M.2.1 pc = .ok (.irem, 1)) (hne : ¬ y = 0) (kk : zS M G d mc ms k n hh sz (pc + 1) lv (.int (x - x / y * y) :: st) Post) : zS M G d mc ms k n hh sz pc lv (.int y :: .int x :: st) Post := by
  intro p l e R s m args below meth c Q hX hf hl hc hs hE H locs ls hW hS hL
  obtain ⟨hx, hb, hml, hown, hts, hr, hlk, hin, hK⟩ := id hX
  exact lv_irem hx hb hd hne (kk p l e R s m args below meth c Q hX hf hl hc hs hE H locs ls hW hS hL)
theorem z_iushr {x y : Int32} (hd : decode M.2.1 pc = .ok (.iushr, 1))  (kk : zS M G d mc ms k n hh sz (pc + 1) lv (.int ((x.toUInt32 >>> (y.toUInt32 &&& Int32.toUInt32 31)).toInt32) :: st) Post) : zS M G d mc ms k n hh sz pc lv (.int y :: .int x :: st) Post := by
  intro p l e R s m args below meth c Q hX hf hl hc hs hE H locs ls hW hS hL
  obtain ⟨hx, hb, hml, hown, hts, hr, hlk, hin, hK⟩ := id hX
  exact lv_iushr hx hb hd rfl (kk p l e R s m args below meth c Q hX hf hl hc hs hE H locs ls hW hS hL)
theorem z_lushr {x : Int64} {y : Int32} (hd : decode M.2.1 pc = .ok (.lushr, 1))  (kk : zS M G d mc ms k n hh sz (pc + 1) lv (.long ((x.toUInt64 >>> (y.toInt64.toUInt64 &&& Int64.toUInt64 63)).toInt64) :: st) Post) : zS M G d mc ms k n hh sz pc lv (.int y :: .long x :: st) Post := by
  intro p l e R s m args below meth c Q hX hf hl hc hs hE H locs ls hW hS hL
  obtain ⟨hx, hb, hml, hown, hts, hr, hlk, hin, hK⟩ := id hX
  exact lv_lushr hx hb hd rfl (kk p l e R s m args below meth c Q hX hf hl hc hs hE H locs ls hW hS hL)
theorem z_lshl {x : Int64} {y : Int32} (hd : decode M.2.1 pc = .ok (.lshl, 1))  (kk : zS M G d mc ms k n hh sz (pc + 1) lv (.long (x <<< (y.toInt64 &&& 63)) :: st) Post) : zS M G d mc ms k n hh sz pc lv (.int y :: .long x :: st) Post := by
  intro p l e R s m args below meth c Q hX hf hl hc hs hE H locs ls hW hS hL
  obtain ⟨hx, hb, hml, hown, hts, hr, hlk, hin, hK⟩ := id hX
  exact lv_lshl hx hb hd rfl (kk p l e R s m args below meth c Q hX hf hl hc hs hE H locs ls hW hS hL)
theorem z_l2i {x : Int64} (hd : decode M.2.1 pc = .ok (.l2i, 1))  (kk : zS M G d mc ms k n hh sz (pc + 1) lv (.int x.toInt32 :: st) Post) : zS M G d mc ms k n hh sz pc lv (.long x :: st) Post := by
  intro p l e R s m args below meth c Q hX hf hl hc hs hE H locs ls hW hS hL
  obtain ⟨hx, hb, hml, hown, hts, hr, hlk, hin, hK⟩ := id hX
  exact lv_l2i hx hb hd rfl (kk p l e R s m args below meth c Q hX hf hl hc hs hE H locs ls hW hS hL)
theorem z_i2l {x : Int32} (hd : decode M.2.1 pc = .ok (.i2l, 1))  (kk : zS M G d mc ms k n hh sz (pc + 1) lv (.long x.toInt64 :: st) Post) : zS M G d mc ms k n hh sz pc lv (.int x :: st) Post := by
  intro p l e R s m args below meth c Q hX hf hl hc hs hE H locs ls hW hS hL
  obtain ⟨hx, hb, hml, hown, hts, hr, hlk, hin, hK⟩ := id hX
  exact lv_i2l hx hb hd rfl (kk p l e R s m args below meth c Q hX hf hl hc hs hE H locs ls hW hS hL)
theorem z_i2c {x : Int32} (hd : decode M.2.1 pc = .ok (.i2c, 1))  (kk : zS M G d mc ms k n hh sz (pc + 1) lv (.int ((x.toUInt32 % 65536).toInt32) :: st) Post) : zS M G d mc ms k n hh sz pc lv (.int x :: st) Post := by
  intro p l e R s m args below meth c Q hX hf hl hc hs hE H locs ls hW hS hL
  obtain ⟨hx, hb, hml, hown, hts, hr, hlk, hin, hK⟩ := id hX
  exact lv_i2c hx hb hd rfl (kk p l e R s m args below meth c Q hX hf hl hc hs hE H locs ls hW hS hL)
theorem z_dup {v : Value} (hd : decode M.2.1 pc = .ok (.dup, 1)) (hv : v.category = 1) (kk : zS M G d mc ms k n hh sz (pc + 1) lv (v :: v :: st) Post) : zS M G d mc ms k n hh sz pc lv (v :: st) Post := by
  intro p l e R s m args below meth c Q hX hf hl hc hs hE H locs ls hW hS hL
  obtain ⟨hx, hb, hml, hown, hts, hr, hlk, hin, hK⟩ := id hX
  exact lv_dup hx hb hd hv (kk p l e R s m args below meth c Q hX hf hl hc hs hE H locs ls hW hS hL)
theorem z_dup_x1 {v w : Value} (hd : decode M.2.1 pc = .ok (.dup_x1, 1)) (hv : v.category = 1) (hw : w.category = 1) (kk : zS M G d mc ms k n hh sz (pc + 1) lv (v :: w :: v :: st) Post) : zS M G d mc ms k n hh sz pc lv (v :: w :: st) Post := by
  intro p l e R s m args below meth c Q hX hf hl hc hs hE H locs ls hW hS hL
  obtain ⟨hx, hb, hml, hown, hts, hr, hlk, hin, hK⟩ := id hX
  exact lv_dup_x1 hx hb hd hv hw (kk p l e R s m args below meth c Q hX hf hl hc hs hE H locs ls hW hS hL)
theorem z_pop {v : Value} (hd : decode M.2.1 pc = .ok (.pop, 1)) (hv : v.category = 1) (kk : zS M G d mc ms k n hh sz (pc + 1) lv (st) Post) : zS M G d mc ms k n hh sz pc lv (v :: st) Post := by
  intro p l e R s m args below meth c Q hX hf hl hc hs hE H locs ls hW hS hL
  obtain ⟨hx, hb, hml, hown, hts, hr, hlk, hin, hK⟩ := id hX
  exact lv_pop hx hb hd hv (kk p l e R s m args below meth c Q hX hf hl hc hs hE H locs ls hW hS hL)
theorem z_null  (hd : decode M.2.1 pc = .ok (.aconst_null, 1))  (kk : zS M G d mc ms k n hh sz (pc + 1) lv (.null :: st) Post) : zS M G d mc ms k n hh sz pc lv (st) Post := by
  intro p l e R s m args below meth c Q hX hf hl hc hs hE H locs ls hW hS hL
  obtain ⟨hx, hb, hml, hown, hts, hr, hlk, hin, hK⟩ := id hX
  exact lv_null hx hb hd  (kk p l e R s m args below meth c Q hX hf hl hc hs hE H locs ls hW hS hL)
theorem z_iload_n {i : Fin 4} {x : Int32} (hd : decode M.2.1 pc = .ok (.iload_n i, 1)) (hv : lv[(i : Nat)]? = some (some (.int x))) (kk : zS M G d mc ms k n hh sz (pc + 1) lv (.int x :: st) Post) : zS M G d mc ms k n hh sz pc lv st Post := by
  intro p l e R s m args below meth c Q hX hf hl hc hs hE H locs ls hW hS hL
  obtain ⟨hx, hb, hml, hown, hts, hr, hlk, hin, hK⟩ := id hX
  exact lv_iload_n hx hb hd rfl (hL.at hv) (kk p l e R s m args below meth c Q hX hf hl hc hs hE H locs ls hW hS hL)
theorem z_iload {i : Nat} {x : Int32} (hd : decode M.2.1 pc = .ok (.iload i, 2)) (hv : lv[i]? = some (some (.int x))) (kk : zS M G d mc ms k n hh sz (pc + 2) lv (.int x :: st) Post) : zS M G d mc ms k n hh sz pc lv st Post := by
  intro p l e R s m args below meth c Q hX hf hl hc hs hE H locs ls hW hS hL
  obtain ⟨hx, hb, hml, hown, hts, hr, hlk, hin, hK⟩ := id hX
  exact lv_iload hx hb hd (hL.at hv) (kk p l e R s m args below meth c Q hX hf hl hc hs hE H locs ls hW hS hL)
theorem z_aload_n {i : Fin 4} {x : Nat} (hd : decode M.2.1 pc = .ok (.aload_n i, 1)) (hv : lv[(i : Nat)]? = some (some (.ref x))) (kk : zS M G d mc ms k n hh sz (pc + 1) lv (.ref x :: st) Post) : zS M G d mc ms k n hh sz pc lv st Post := by
  intro p l e R s m args below meth c Q hX hf hl hc hs hE H locs ls hW hS hL
  obtain ⟨hx, hb, hml, hown, hts, hr, hlk, hin, hK⟩ := id hX
  exact lv_aload_n hx hb hd rfl (hL.at hv) (kk p l e R s m args below meth c Q hX hf hl hc hs hE H locs ls hW hS hL)
theorem z_aload {i : Nat} {x : Nat} (hd : decode M.2.1 pc = .ok (.aload i, 2)) (hv : lv[i]? = some (some (.ref x))) (kk : zS M G d mc ms k n hh sz (pc + 2) lv (.ref x :: st) Post) : zS M G d mc ms k n hh sz pc lv st Post := by
  intro p l e R s m args below meth c Q hX hf hl hc hs hE H locs ls hW hS hL
  obtain ⟨hx, hb, hml, hown, hts, hr, hlk, hin, hK⟩ := id hX
  exact lv_aload hx hb hd (hL.at hv) (kk p l e R s m args below meth c Q hX hf hl hc hs hE H locs ls hW hS hL)
theorem z_lload_n {i : Fin 4} {x : Int64} (hd : decode M.2.1 pc = .ok (.lload_n i, 1)) (hv : lv[(i : Nat)]? = some (some (.long x))) (kk : zS M G d mc ms k n hh sz (pc + 1) lv (.long x :: st) Post) : zS M G d mc ms k n hh sz pc lv st Post := by
  intro p l e R s m args below meth c Q hX hf hl hc hs hE H locs ls hW hS hL
  obtain ⟨hx, hb, hml, hown, hts, hr, hlk, hin, hK⟩ := id hX
  exact lv_lload_n hx hb hd rfl (hL.at hv) (kk p l e R s m args below meth c Q hX hf hl hc hs hE H locs ls hW hS hL)
theorem z_istore_n {i : Fin 4} {x : Int32} {lv' : List (Option Value)} (hd : decode M.2.1 pc = .ok (.istore_n i, 1)) (hn : (i : Nat) < M.2.2.1) (hok : zok lv (i : Nat) = true) (hlv : lv.set (i : Nat) (some (.int x)) = lv') (kk : zS M G d mc ms k n hh sz (pc + 1) lv' st Post) : zS M G d mc ms k n hh sz pc lv (.int x :: st) Post := by
  intro p l e R s m args below meth c Q hX hf hl hc hs hE H locs ls hW hS hL
  obtain ⟨hx, hb, hml, hown, hts, hr, hlk, hin, hK⟩ := id hX
  subst hlv
  exact lv_istore_n hx hb hd rfl hL.has hn rfl (fun ls1 h1 => kk p l e R s m args below meth c Q hX hf hl hc hs hE H locs ls1 hW hS (zL.store hok h1))
theorem z_istore {i : Nat} {x : Int32} {lv' : List (Option Value)} (hd : decode M.2.1 pc = .ok (.istore i, 2)) (hn : i < M.2.2.1) (hok : zok lv i = true) (hlv : lv.set i (some (.int x)) = lv') (kk : zS M G d mc ms k n hh sz (pc + 2) lv' st Post) : zS M G d mc ms k n hh sz pc lv (.int x :: st) Post := by
  intro p l e R s m args below meth c Q hX hf hl hc hs hE H locs ls hW hS hL
  obtain ⟨hx, hb, hml, hown, hts, hr, hlk, hin, hK⟩ := id hX
  subst hlv
  exact lv_istore hx hb hd  hL.has hn rfl (fun ls1 h1 => kk p l e R s m args below meth c Q hX hf hl hc hs hE H locs ls1 hW hS (zL.store hok h1))
theorem z_astore_n {i : Fin 4} {x : Nat} {lv' : List (Option Value)} (hd : decode M.2.1 pc = .ok (.astore_n i, 1)) (hn : (i : Nat) < M.2.2.1) (hok : zok lv (i : Nat) = true) (hlv : lv.set (i : Nat) (some (.ref x)) = lv') (kk : zS M G d mc ms k n hh sz (pc + 1) lv' st Post) : zS M G d mc ms k n hh sz pc lv (.ref x :: st) Post := by
  intro p l e R s m args below meth c Q hX hf hl hc hs hE H locs ls hW hS hL
  obtain ⟨hx, hb, hml, hown, hts, hr, hlk, hin, hK⟩ := id hX
  subst hlv
  exact lv_astore_n hx hb hd rfl hL.has hn rfl (fun ls1 h1 => kk p l e R s m args below meth c Q hX hf hl hc hs hE H locs ls1 hW hS (zL.store hok h1))
theorem z_astore {i : Nat} {x : Nat} {lv' : List (Option Value)} (hd : decode M.2.1 pc = .ok (.astore i, 2)) (hn : i < M.2.2.1) (hok : zok lv i = true) (hlv : lv.set i (some (.ref x)) = lv') (kk : zS M G d mc ms k n hh sz (pc + 2) lv' st Post) : zS M G d mc ms k n hh sz pc lv (.ref x :: st) Post := by
  intro p l e R s m args below meth c Q hX hf hl hc hs hE H locs ls hW hS hL
  obtain ⟨hx, hb, hml, hown, hts, hr, hlk, hin, hK⟩ := id hX
  subst hlv
  exact lv_astore hx hb hd  hL.has hn rfl (fun ls1 h1 => kk p l e R s m args below meth c Q hX hf hl hc hs hE H locs ls1 hW hS (zL.store hok h1))
theorem z_iinc {i : Nat} {j : Int} {x v : Int32} {lv' : List (Option Value)} (hd : decode M.2.1 pc = .ok (.iinc i j, 3)) (hv : lv[i]? = some (some (.int x))) (hj : x + Int32.ofInt j = v) (hn : i < M.2.2.1) (hok : zok lv i = true) (hlv : lv.set i (some (.int v)) = lv') (kk : zS M G d mc ms k n hh sz (pc + 3) lv' st Post) : zS M G d mc ms k n hh sz pc lv st Post := by
  intro p l e R s m args below meth c Q hX hf hl hc hs hE H locs ls hW hS hL
  obtain ⟨hx, hb, hml, hown, hts, hr, hlk, hin, hK⟩ := id hX
  subst hlv
  obtain ⟨kq, hkq⟩ := List.getElem?_of_mem (zLp_mem (q := (i, .int x)).mpr hv)
  exact lv_iinc hx hb hd hL.has hkq hj hn rfl (fun ls1 h1 => kk p l e R s m args below meth c Q hX hf hl hc hs hE H locs ls1 hW hS (zL.store hok h1))
theorem z_goto {off : Int} {tgt : Nat} (hd : decode M.2.1 pc = .ok (.goto off, 3)) (ht : (pc : Int) + off = (tgt : Int)) (kk : zS M G d mc ms k n hh sz tgt lv st Post) : zS M G d mc ms k n hh sz pc lv st Post := by
  intro p l e R s m args below meth c Q hX hf hl hc hs hE H locs ls hW hS hL
  obtain ⟨hx, hb, hml, hown, hts, hr, hlk, hin, hK⟩ := id hX
  exact lv_goto hx hb hd ht (kk p l e R s m args below meth c Q hX hf hl hc hs hE H locs ls hW hS hL)
theorem z_icmp_eq {x y : Int32} {off : Int} {tgt : Nat} (hd : decode M.2.1 pc = .ok (.if_icmp .eq off, 3)) (ht : (pc : Int) + off = (tgt : Int)) (kt : x = y → zS M G d mc ms k n hh sz tgt lv st Post) (kf : ¬ x = y → zS M G d mc ms k n hh sz (pc + 3) lv st Post) : zS M G d mc ms k n hh sz pc lv (.int y :: .int x :: st) Post := by
  intro p l e R s m args below meth c Q hX hf hl hc hs hE H locs ls hW hS hL
  obtain ⟨hx, hb, hml, hown, hts, hr, hlk, hin, hK⟩ := id hX
  exact lv_icmp_eq hx hb hd ht (fun z => kt z p l e R s m args below meth c Q hX hf hl hc hs hE H locs ls hW hS hL) (fun z => kf z p l e R s m args below meth c Q hX hf hl hc hs hE H locs ls hW hS hL)
theorem z_if_eq {x : Int32} {off : Int} {tgt : Nat} (hd : decode M.2.1 pc = .ok (.ifCond .eq off, 3)) (ht : (pc : Int) + off = (tgt : Int)) (kt : x = 0 → zS M G d mc ms k n hh sz tgt lv st Post) (kf : ¬ x = 0 → zS M G d mc ms k n hh sz (pc + 3) lv st Post) : zS M G d mc ms k n hh sz pc lv (.int x :: st) Post := by
  intro p l e R s m args below meth c Q hX hf hl hc hs hE H locs ls hW hS hL
  obtain ⟨hx, hb, hml, hown, hts, hr, hlk, hin, hK⟩ := id hX
  exact lv_if_eq hx hb hd ht (fun z => kt z p l e R s m args below meth c Q hX hf hl hc hs hE H locs ls hW hS hL) (fun z => kf z p l e R s m args below meth c Q hX hf hl hc hs hE H locs ls hW hS hL)
theorem z_icmp_ne {x y : Int32} {off : Int} {tgt : Nat} (hd : decode M.2.1 pc = .ok (.if_icmp .ne off, 3)) (ht : (pc : Int) + off = (tgt : Int)) (kt : ¬ x = y → zS M G d mc ms k n hh sz tgt lv st Post) (kf : x = y → zS M G d mc ms k n hh sz (pc + 3) lv st Post) : zS M G d mc ms k n hh sz pc lv (.int y :: .int x :: st) Post := by
  intro p l e R s m args below meth c Q hX hf hl hc hs hE H locs ls hW hS hL
  obtain ⟨hx, hb, hml, hown, hts, hr, hlk, hin, hK⟩ := id hX
  exact lv_icmp_ne hx hb hd ht (fun z => kt z p l e R s m args below meth c Q hX hf hl hc hs hE H locs ls hW hS hL) (fun z => kf z p l e R s m args below meth c Q hX hf hl hc hs hE H locs ls hW hS hL)
theorem z_if_ne {x : Int32} {off : Int} {tgt : Nat} (hd : decode M.2.1 pc = .ok (.ifCond .ne off, 3)) (ht : (pc : Int) + off = (tgt : Int)) (kt : ¬ x = 0 → zS M G d mc ms k n hh sz tgt lv st Post) (kf : x = 0 → zS M G d mc ms k n hh sz (pc + 3) lv st Post) : zS M G d mc ms k n hh sz pc lv (.int x :: st) Post := by
  intro p l e R s m args below meth c Q hX hf hl hc hs hE H locs ls hW hS hL
  obtain ⟨hx, hb, hml, hown, hts, hr, hlk, hin, hK⟩ := id hX
  exact lv_if_ne hx hb hd ht (fun z => kt z p l e R s m args below meth c Q hX hf hl hc hs hE H locs ls hW hS hL) (fun z => kf z p l e R s m args below meth c Q hX hf hl hc hs hE H locs ls hW hS hL)
theorem z_icmp_lt {x y : Int32} {off : Int} {tgt : Nat} (hd : decode M.2.1 pc = .ok (.if_icmp .lt off, 3)) (ht : (pc : Int) + off = (tgt : Int)) (kt : x < y → zS M G d mc ms k n hh sz tgt lv st Post) (kf : ¬ x < y → zS M G d mc ms k n hh sz (pc + 3) lv st Post) : zS M G d mc ms k n hh sz pc lv (.int y :: .int x :: st) Post := by
  intro p l e R s m args below meth c Q hX hf hl hc hs hE H locs ls hW hS hL
  obtain ⟨hx, hb, hml, hown, hts, hr, hlk, hin, hK⟩ := id hX
  exact lv_icmp_lt hx hb hd ht (fun z => kt z p l e R s m args below meth c Q hX hf hl hc hs hE H locs ls hW hS hL) (fun z => kf z p l e R s m args below meth c Q hX hf hl hc hs hE H locs ls hW hS hL)
theorem z_if_lt {x : Int32} {off : Int} {tgt : Nat} (hd : decode M.2.1 pc = .ok (.ifCond .lt off, 3)) (ht : (pc : Int) + off = (tgt : Int)) (kt : x < 0 → zS M G d mc ms k n hh sz tgt lv st Post) (kf : ¬ x < 0 → zS M G d mc ms k n hh sz (pc + 3) lv st Post) : zS M G d mc ms k n hh sz pc lv (.int x :: st) Post := by
  intro p l e R s m args below meth c Q hX hf hl hc hs hE H locs ls hW hS hL
  obtain ⟨hx, hb, hml, hown, hts, hr, hlk, hin, hK⟩ := id hX
  exact lv_if_lt hx hb hd ht (fun z => kt z p l e R s m args below meth c Q hX hf hl hc hs hE H locs ls hW hS hL) (fun z => kf z p l e R s m args below meth c Q hX hf hl hc hs hE H locs ls hW hS hL)
theorem z_icmp_ge {x y : Int32} {off : Int} {tgt : Nat} (hd : decode M.2.1 pc = .ok (.if_icmp .ge off, 3)) (ht : (pc : Int) + off = (tgt : Int)) (kt : y ≤ x → zS M G d mc ms k n hh sz tgt lv st Post) (kf : ¬ y ≤ x → zS M G d mc ms k n hh sz (pc + 3) lv st Post) : zS M G d mc ms k n hh sz pc lv (.int y :: .int x :: st) Post := by
  intro p l e R s m args below meth c Q hX hf hl hc hs hE H locs ls hW hS hL
  obtain ⟨hx, hb, hml, hown, hts, hr, hlk, hin, hK⟩ := id hX
  exact lv_icmp_ge hx hb hd ht (fun z => kt z p l e R s m args below meth c Q hX hf hl hc hs hE H locs ls hW hS hL) (fun z => kf z p l e R s m args below meth c Q hX hf hl hc hs hE H locs ls hW hS hL)
theorem z_if_ge {x : Int32} {off : Int} {tgt : Nat} (hd : decode M.2.1 pc = .ok (.ifCond .ge off, 3)) (ht : (pc : Int) + off = (tgt : Int)) (kt : 0 ≤ x → zS M G d mc ms k n hh sz tgt lv st Post) (kf : ¬ 0 ≤ x → zS M G d mc ms k n hh sz (pc + 3) lv st Post) : zS M G d mc ms k n hh sz pc lv (.int x :: st) Post := by
  intro p l e R s m args below meth c Q hX hf hl hc hs hE H locs ls hW hS hL
  obtain ⟨hx, hb, hml, hown, hts, hr, hlk, hin, hK⟩ := id hX
  exact lv_if_ge hx hb hd ht (fun z => kt z p l e R s m args below meth c Q hX hf hl hc hs hE H locs ls hW hS hL) (fun z => kf z p l e R s m args below meth c Q hX hf hl hc hs hE H locs ls hW hS hL)
theorem z_icmp_gt {x y : Int32} {off : Int} {tgt : Nat} (hd : decode M.2.1 pc = .ok (.if_icmp .gt off, 3)) (ht : (pc : Int) + off = (tgt : Int)) (kt : y < x → zS M G d mc ms k n hh sz tgt lv st Post) (kf : ¬ y < x → zS M G d mc ms k n hh sz (pc + 3) lv st Post) : zS M G d mc ms k n hh sz pc lv (.int y :: .int x :: st) Post := by
  intro p l e R s m args below meth c Q hX hf hl hc hs hE H locs ls hW hS hL
  obtain ⟨hx, hb, hml, hown, hts, hr, hlk, hin, hK⟩ := id hX
  exact lv_icmp_gt hx hb hd ht (fun z => kt z p l e R s m args below meth c Q hX hf hl hc hs hE H locs ls hW hS hL) (fun z => kf z p l e R s m args below meth c Q hX hf hl hc hs hE H locs ls hW hS hL)
theorem z_if_gt {x : Int32} {off : Int} {tgt : Nat} (hd : decode M.2.1 pc = .ok (.ifCond .gt off, 3)) (ht : (pc : Int) + off = (tgt : Int)) (kt : 0 < x → zS M G d mc ms k n hh sz tgt lv st Post) (kf : ¬ 0 < x → zS M G d mc ms k n hh sz (pc + 3) lv st Post) : zS M G d mc ms k n hh sz pc lv (.int x :: st) Post := by
  intro p l e R s m args below meth c Q hX hf hl hc hs hE H locs ls hW hS hL
  obtain ⟨hx, hb, hml, hown, hts, hr, hlk, hin, hK⟩ := id hX
  exact lv_if_gt hx hb hd ht (fun z => kt z p l e R s m args below meth c Q hX hf hl hc hs hE H locs ls hW hS hL) (fun z => kf z p l e R s m args below meth c Q hX hf hl hc hs hE H locs ls hW hS hL)
theorem z_icmp_le {x y : Int32} {off : Int} {tgt : Nat} (hd : decode M.2.1 pc = .ok (.if_icmp .le off, 3)) (ht : (pc : Int) + off = (tgt : Int)) (kt : x ≤ y → zS M G d mc ms k n hh sz tgt lv st Post) (kf : ¬ x ≤ y → zS M G d mc ms k n hh sz (pc + 3) lv st Post) : zS M G d mc ms k n hh sz pc lv (.int y :: .int x :: st) Post := by
  intro p l e R s m args below meth c Q hX hf hl hc hs hE H locs ls hW hS hL
  obtain ⟨hx, hb, hml, hown, hts, hr, hlk, hin, hK⟩ := id hX
  exact lv_icmp_le hx hb hd ht (fun z => kt z p l e R s m args below meth c Q hX hf hl hc hs hE H locs ls hW hS hL) (fun z => kf z p l e R s m args below meth c Q hX hf hl hc hs hE H locs ls hW hS hL)
theorem z_if_le {x : Int32} {off : Int} {tgt : Nat} (hd : decode M.2.1 pc = .ok (.ifCond .le off, 3)) (ht : (pc : Int) + off = (tgt : Int)) (kt : x ≤ 0 → zS M G d mc ms k n hh sz tgt lv st Post) (kf : ¬ x ≤ 0 → zS M G d mc ms k n hh sz (pc + 3) lv st Post) : zS M G d mc ms k n hh sz pc lv (.int x :: st) Post := by
  intro p l e R s m args below meth c Q hX hf hl hc hs hE H locs ls hW hS hL
  obtain ⟨hx, hb, hml, hown, hts, hr, hlk, hin, hK⟩ := id hX
  exact lv_if_le hx hb hd ht (fun z => kt z p l e R s m args below meth c Q hX hf hl hc hs hE H locs ls hW hS hL) (fun z => kf z p l e R s m args below meth c Q hX hf hl hc hs hE H locs ls hW hS hL)
theorem z_ifnull {x : Nat} {off : Int} (hd : decode M.2.1 pc = .ok (.ifnull off, 3)) (kk : zS M G d mc ms k n hh sz (pc + 3) lv st Post) : zS M G d mc ms k n hh sz pc lv (.ref x :: st) Post := by
  intro p l e R s m args below meth c Q hX hf hl hc hs hE H locs ls hW hS hL
  obtain ⟨hx, hb, hml, hown, hts, hr, hlk, hin, hK⟩ := id hX
  exact lv_ifnull hx hb hd (kk p l e R s m args below meth c Q hX hf hl hc hs hE H locs ls hW hS hL)
theorem z_ifnullN {off : Int} {tgt : Nat} (hd : decode M.2.1 pc = .ok (.ifnull off, 3)) (ht : (pc : Int) + off = (tgt : Int)) (kk : zS M G d mc ms k n hh sz tgt lv st Post) : zS M G d mc ms k n hh sz pc lv (.null :: st) Post := by
  intro p l e R s m args below meth c Q hX hf hl hc hs hE H locs ls hW hS hL
  obtain ⟨hx, hb, hml, hown, hts, hr, hlk, hin, hK⟩ := id hX
  exact lv_ifnullN hx hb hd ht (kk p l e R s m args below meth c Q hX hf hl hc hs hE H locs ls hW hS hL)
theorem z_ifnonnull {x : Nat} {off : Int} {tgt : Nat} (hd : decode M.2.1 pc = .ok (.ifnonnull off, 3)) (ht : (pc : Int) + off = (tgt : Int)) (kk : zS M G d mc ms k n hh sz tgt lv st Post) : zS M G d mc ms k n hh sz pc lv (.ref x :: st) Post := by
  intro p l e R s m args below meth c Q hX hf hl hc hs hE H locs ls hW hS hL
  obtain ⟨hx, hb, hml, hown, hts, hr, hlk, hin, hK⟩ := id hX
  exact lv_ifnonnull hx hb hd ht (kk p l e R s m args below meth c Q hX hf hl hc hs hE H locs ls hW hS hL)
theorem z_ifnonnullN {off : Int} (hd : decode M.2.1 pc = .ok (.ifnonnull off, 3)) (kk : zS M G d mc ms k n hh sz (pc + 3) lv st Post) : zS M G d mc ms k n hh sz pc lv (.null :: st) Post := by
  intro p l e R s m args below meth c Q hX hf hl hc hs hE H locs ls hW hS hL
  obtain ⟨hx, hb, hml, hown, hts, hr, hlk, hin, hK⟩ := id hX
  exact lv_ifnonnullN hx hb hd (kk p l e R s m args below meth c Q hX hf hl hc hs hE H locs ls hW hS hL)
theorem z_tableIn {dflt lo hi : Int} {offs : Array Int} {len : Nat} {x : Int32} {off : Int} {tgt : Nat} (hd : decode M.2.1 pc = .ok (.tableswitch dflt lo hi offs, len)) (h1 : ¬ x.toInt < lo) (h2 : ¬ hi < x.toInt) (ho : offs[(x.toInt - lo).toNat]? = some off) (ht : (pc : Int) + off = (tgt : Int)) (kk : zS M G d mc ms k n hh sz tgt lv st Post) : zS M G d mc ms k n hh sz pc lv (.int x :: st) Post := by
  intro p l e R s m args below meth c Q hX hf hl hc hs hE H locs ls hW hS hL
  obtain ⟨hx, hb, hml, hown, hts, hr, hlk, hin, hK⟩ := id hX
  exact lv_tableIn hx hb hd h1 h2 ho ht (kk p l e R s m args below meth c Q hX hf hl hc hs hE H locs ls hW hS hL)
theorem z_tableOut {dflt lo hi : Int} {offs : Array Int} {len : Nat} {x : Int32} {tgt : Nat} (hd : decode M.2.1 pc = .ok (.tableswitch dflt lo hi offs, len)) (h : x.toInt < lo ∨ hi < x.toInt) (ht : (pc : Int) + dflt = (tgt : Int)) (kk : zS M G d mc ms k n hh sz tgt lv st Post) : zS M G d mc ms k n hh sz pc lv (.int x :: st) Post := by
  intro p l e R s m args below meth c Q hX hf hl hc hs hE H locs ls hW hS hL
  obtain ⟨hx, hb, hml, hown, hts, hr, hlk, hin, hK⟩ := id hX
  exact lv_tableOut hx hb hd h ht (kk p l e R s m args below meth c Q hX hf hl hc hs hE H locs ls hW hS hL)
theorem z_lookup {dflt : Int} {ps : Array (Int × Int)} {len : Nat} {x : Int32} {off : Int} {tgt : Nat} (hd : decode M.2.1 pc = .ok (.lookupswitch dflt ps, len)) (hp : (ps.toList.zip (ps.toList.drop 1)).all (fun (a, next) => a.1 < next.1) = true) (ho : Op.lookupswitch.offset ps.toList dflt x.toInt = off) (ht : (pc : Int) + off = (tgt : Int)) (kk : zS M G d mc ms k n hh sz tgt lv st Post) : zS M G d mc ms k n hh sz pc lv (.int x :: st) Post := by
  intro p l e R s m args below meth c Q hX hf hl hc hs hE H locs ls hW hS hL
  obtain ⟨hx, hb, hml, hown, hts, hr, hlk, hin, hK⟩ := id hX
  exact lv_lookup hx hb hd hp ho ht (kk p l e R s m args below meth c Q hX hf hl hc hs hE H locs ls hW hS hL)
theorem z_dup2 {v w : Value} (hd : decode M.2.1 pc = .ok (.dup2, 1)) (hv : v.category = 1) (hw : w.category = 1) (kk : zS M G d mc ms k n hh sz (pc + 1) lv (v :: w :: v :: w :: st) Post) : zS M G d mc ms k n hh sz pc lv (v :: w :: st) Post := by
  intro p l e R s m args below meth c Q hX hf hl hc hs hE H locs ls hW hS hL
  obtain ⟨hx, hb, hml, hown, hts, hr, hlk, hin, hK⟩ := id hX
  exact lv_dup2_11 hx hb hd hv hw (kk p l e R s m args below meth c Q hX hf hl hc hs hE H locs ls hW hS hL)
theorem z_lcmp {x y : Int64} (hd : decode M.2.1 pc = .ok (.lcmp, 1)) (kk : zS M G d mc ms k n hh sz (pc + 1) lv (.int (lg_cmp x y) :: st) Post) : zS M G d mc ms k n hh sz pc lv (.long y :: .long x :: st) Post := by
  intro p l e R s m args below meth c Q hX hf hl hc hs hE H locs ls hW hS hL
  obtain ⟨hx, hb, hml, hown, hts, hr, hlk, hin, hK⟩ := id hX
  exact W.lcmp hx hb hd (kk p l e R s m args below meth c Q hX hf hl hc hs hE H locs ls hW hS hL)
theorem z_ldc {i : Nat} {v : Int32} (hd : decode M.2.1 pc = .ok (.ldc i, 2)) (hw : Jvm.Cond.constant M.1 i v ∈ zT) (kk : zS M G d mc ms k n hh sz (pc + 2) lv (.int v :: st) Post) : zS M G d mc ms k n hh sz pc lv st Post := by
  intro p l e R s m args below meth c Q hX hf hl hc hs hE H locs ls hW hS hL
  obtain ⟨hx, hb, hml, hown, hts, hr, hlk, hin, hK⟩ := id hX
  exact lv_ldc hx hb hown (hts _ hw) hd (kk p l e R s m args below meth c Q hX hf hl hc hs hE H locs ls hW hS hL)
theorem z_ldcw {i : Nat} {v : Int32} (hd : decode M.2.1 pc = .ok (.ldc_w i, 3)) (hw : Jvm.Cond.constant M.1 i v ∈ zT) (kk : zS M G d mc ms k n hh sz (pc + 3) lv (.int v :: st) Post) : zS M G d mc ms k n hh sz pc lv st Post := by
  intro p l e R s m args below meth c Q hX hf hl hc hs hE H locs ls hW hS hL
  obtain ⟨hx, hb, hml, hown, hts, hr, hlk, hin, hK⟩ := id hX
  exact lv_ldcw hx hb hown (hts _ hw) hd (kk p l e R s m args below meth c Q hX hf hl hc hs hE H locs ls hW hS hL)
theorem z_ldc2 {i : Nat} {v : Int64} (hd : decode M.2.1 pc = .ok (.ldc2_w i, 3)) (hw : Jvm.Cond.constantLong M.1 i v ∈ zT) (kk : zS M G d mc ms k n hh sz (pc + 3) lv (.long v :: st) Post) : zS M G d mc ms k n hh sz pc lv st Post := by
  intro p l e R s m args below meth c Q hX hf hl hc hs hE H locs ls hW hS hL
  obtain ⟨hx, hb, hml, hown, hts, hr, hlk, hin, hK⟩ := id hX
  exact lv_ldc2 hx hb hown (hts _ hw) hd (kk p l e R s m args below meth c Q hX hf hl hc hs hE H locs ls hW hS hL)
theorem z_ireturn {x : Int32} (hd : decode M.2.1 pc = .ok (.ireturn, 1)) (hrt : ∃ ty, M.2.2.2.1 = some ty ∧ narrow ty (.int x) = .int x) (h : Post (some (.int x)) hh sz k n) : zS M G d mc ms k n hh sz pc lv [.int x] Post := by
  intro p l e R s m args below meth c Q hX hf hl hc hs hE H locs ls hW hS hL
  obtain ⟨hx, hb, hml, hown, hts, hr, hlk, hin, hK⟩ := id hX
  obtain ⟨ty, e1, e2⟩ := hrt
  exact hE _ hh sz k n H locs pc ls h hW hS (Or.inr (Or.inl ⟨x, ty, rfl, e1, e2, hd⟩))
theorem z_return (hd : decode M.2.1 pc = .ok (.return_, 1)) (hrt : M.2.2.2.1 = none) (h : Post none hh sz k n) : zS M G d mc ms k n hh sz pc lv [] Post := by
  intro p l e R s m args below meth c Q hX hf hl hc hs hE H locs ls hW hS hL
  obtain ⟨hx, hb, hml, hown, hts, hr, hlk, hin, hK⟩ := id hX
  exact hE _ hh sz k n H locs pc ls h hW hS (Or.inl ⟨rfl, hrt, hd⟩)
theorem z_areturn {a : Nat} {C : String} (hd : decode M.2.1 pc = .ok (.areturn, 1)) (hrt : M.2.2.2.1 = some (.object C)) (h : Post (some (.ref a)) hh sz k n) : zS M G d mc ms k n hh sz pc lv [.ref a] Post := by
  intro p l e R s m args below meth c Q hX hf hl hc hs hE H locs ls hW hS hL
  obtain ⟨hx, hb, hml, hown, hts, hr, hlk, hin, hK⟩ := id hX
  exact hE _ hh sz k n H locs pc ls h hW hS (Or.inr (Or.inr ⟨_, C, rfl, hrt, Or.inr ⟨a, rfl⟩, hd⟩))
theorem z_areturnN {C : String} (hd : decode M.2.1 pc = .ok (.areturn, 1)) (hrt : M.2.2.2.1 = some (.object C)) (h : Post (some .null) hh sz k n) : zS M G d mc ms k n hh sz pc lv [.null] Post := by
  intro p l e R s m args below meth c Q hX hf hl hc hs hE H locs ls hW hS hL
  obtain ⟨hx, hb, hml, hown, hts, hr, hlk, hin, hK⟩ := id hX
  exact hE _ hh sz k n H locs pc ls h hW hS (Or.inr (Or.inr ⟨_, C, rfl, hrt, Or.inl rfl, hd⟩))
theorem z_post {P2 : Option Value → zH → Nat → Nat → Nat → Prop} (hPQ : ∀ r h' s' k' n', P2 r h' s' k' n' → Post r h' s' k' n') (kk : zS M G d mc ms k n hh sz pc lv st P2) : zS M G d mc ms k n hh sz pc lv st Post := by
  intro p l e R s m args below meth c Q hX hf hl hc hs hE H locs ls hW hS hL
  obtain ⟨hx, hb, hml, hown, hts, hr, hlk, hin, hK⟩ := id hX
  exact kk p l e R s m args below meth c Q hX hf hl hc hs (fun r h' s' k' n' H' locs' pc' ls' h1 => hE r h' s' k' n' H' locs' pc' ls' (hPQ _ _ _ _ _ h1)) H locs ls hW hS hL
/-- the class of a kind -/
def zc (ci : Nat) : vw_C := vwCl.getD ci (RX0, TX0, 4)
/-- the words of a field instruction: own class, pool index, kind, field -/
def zfw (own : String) (idx ci f : Nat) : Prop := ci < 8 ∧ f < (zc ci).2.2 ∧ Cond.fieldLink own idx (zc ci).1 ((zc ci).2.1 f).2.1 ((zc ci).2.1 f).2.2.1 ∈ zT ∧ ((zc ci).2.1 f).1 = (zc ci).1
def zfn (own : String) (idx ci f : Nat) : Prop := ci < 8 ∧ f < (zc ci).2.2 ∧ Cond.fieldLinkNest own idx (zc ci).1 ((zc ci).2.1 f).2.1 ((zc ci).2.1 f).2.2.1 "WindowLetters" ∈ zN ∧ ((zc ci).2.1 f).1 = (zc ci).1
theorem zc_at {ci : Nat} (h : ci < 8) : vwCl[ci]? = some ((zc ci).1, (zc ci).2.1, (zc ci).2.2) := by
  match ci, h with
  | 0, _ => rfl
  | 1, _ => rfl
  | 2, _ => rfl
  | 3, _ => rfl
  | 4, _ => rfl
  | 5, _ => rfl
  | 6, _ => rfl
  | 7, _ => rfl
theorem zc_in {ci : Nat} (h : ci < 8) : ∀ w ∈ u_ws (zc ci).1 (zc ci).2.1 (zc ci).2.2, w ∈ zT := by
  match ci, h with
  | 0, _ => exact zin0
  | 1, _ => exact zin1
  | 2, _ => exact zin2
  | 3, _ => exact zin3
  | 4, _ => exact zin4
  | 5, _ => exact zin5
  | 6, _ => exact zin6
  | 7, _ => exact zin7
def zty (ci : Nat) : Nat → FieldType := match ci with
  | 0 => tyX0
  | 1 => tyX1
  | 2 => tyX2
  | 3 => tyX3
  | 4 => tyX4
  | 5 => tyX5
  | 6 => tyX6
  | _ => tyX7
theorem zty_ok {ci : Nat} (h : ci < 8) : ∀ k, k < (zc ci).2.2 → parseFieldDescriptor ((zc ci).2.1 k).2.2.1 = some (zty ci k) := by
  match ci, h with
  | 0, _ => exact tyX0_ok
  | 1, _ => exact tyX1_ok
  | 2, _ => exact tyX2_ok
  | 3, _ => exact tyX3_ok
  | 4, _ => exact tyX4_ok
  | 5, _ => exact tyX5_ok
  | 6, _ => exact tyX6_ok
  | 7, _ => exact tyX7_ok
theorem zty_nm {ci : Nat} (h : ci < 8) : ∀ a, a < (zc ci).2.2 → ∀ b, b < (zc ci).2.2 → a ≠ b → ((zc ci).2.1 a).2.1 ≠ ((zc ci).2.1 b).2.1 := by
  match ci, h with
  | 0, _ => exact nmX0
  | 1, _ => exact nmX1
  | 2, _ => exact nmX2
  | 3, _ => exact nmX3
  | 4, _ => exact nmX4
  | 5, _ => exact nmX5
  | 6, _ => exact nmX6
  | 7, _ => exact nmX7
theorem z_get {idx ci f a : Nat} {fs : List Value} {v : Value} (hd : decode M.2.1 pc = .ok (.getfield idx, 3)) (hq : zfw M.1 idx ci f) (he : hh a = some (.inr (ci, fs))) (hv : fs[f]? = some v) (kk : zS M G d mc ms k n hh sz (pc + 3) lv (v :: st) Post) : zS M G d mc ms k n hh sz pc lv (.ref a :: st) Post := by
  intro p l e R s m args below meth c Q hX hf hl hc hs hE H locs ls hW hS hL
  obtain ⟨hx, hb, hml, hown, hts, hr, hlk, hin, hK⟩ := id hX
  obtain ⟨q1, q2, q3, q4⟩ := (hq : zfw _ _ _ _)
  exact va_get (D := G.2.1) (ci := ci) (v := v) hx hb hts (zc_in q1) hown hK.1 (hW.one he) 0 rfl (zc_at q1) f q2 (hts _ q3) (fun _ h9 => by rw [q4] at h9; exact h9) hv hd (kk p l e R s m args below meth c Q hX hf hl hc hs hE H locs ls hW hS hL)
theorem z_getN {idx ci f a : Nat} {fs : List Value} {v : Value} (hd : decode M.2.1 pc = .ok (.getfield idx, 3)) (hq : zfn M.1 idx ci f) (he : hh a = some (.inr (ci, fs))) (hv : fs[f]? = some v) (kk : zS M G d mc ms k n hh sz (pc + 3) lv (v :: st) Post) : zS M G d mc ms k n hh sz pc lv (.ref a :: st) Post := by
  intro p l e R s m args below meth c Q hX hf hl hc hs hE H locs ls hW hS hL
  obtain ⟨hx, hb, hml, hown, hts, hr, hlk, hin, hK⟩ := id hX
  obtain ⟨q1, q2, q3, q4⟩ := (hq : zfn _ _ _ _)
  exact va_getN (D := G.2.1) (ci := ci) (v := v) (host := "WindowLetters") hx hb hts (zc_in q1) hown hK.1 (hW.one he) 0 rfl (zc_at q1) f q2 (va_Nw.use rfl (hK.2.2.2.2.2.1 _ q3)) (fun _ h9 => by rw [q4] at h9; exact h9) hv hd (kk p l e R s m args below meth c Q hX hf hl hc hs hE H locs ls hW hS hL)
theorem z_atset {D : va_G} {cl : List vw_C} {a ci f : Nat} {C : String} {T : u_T} {N : Nat} {fs : List Value} {v : Value} {cell : Cell} {H1 : Heap} (hc : cl[ci]? = some (C, T, N)) (q2 : cell.cls = D.1 ci) (q3 : cell.vm = .none) (q4 : ∀ k, k < N → cell.slots[D.2 ci k]? = some (vp_V fs k)) (hap : ∀ x y, x < N → y < N → x ≠ y → (D.2 ci) x ≠ (D.2 ci) y) (hf : f < N) (hl : f < fs.length) (e1 : H1[a]? = some (cell.setSlot (D.2 ci f) v)) : va_at D cl (a, .inr (ci, fs.set f v)) H1 :=
  ⟨_, hc, t_OB.to (V := updV (vp_V fs) f v) ⟨_, e1, q2, q3, t_set q4 hap hf v⟩ (fun j _ => vp_updV_set hl v j)⟩
theorem z_put {idx ci f a : Nat} {fs : List Value} {v : Value} (hd : decode M.2.1 pc = .ok (.putfield idx, 3)) (hq : zfw M.1 idx ci f) (he : hh a = some (.inr (ci, fs))) (hfin : ((zc ci).2.1 f).2.2.2 = false) (hn : narrow (zty ci f) v = v) (hfit : fits (zty ci f) v = true) (hl : f < fs.length) (kk : zS M G d mc ms k n (zup hh a (.inr (ci, fs.set f v))) sz (pc + 3) lv st Post) : zS M G d mc ms k n hh sz pc lv (v :: .ref a :: st) Post := by
  intro p l e R s m args below meth c Q hX hf hl9 hc hs hE H locs ls hW hS hL
  obtain ⟨hx, hb, hml, hown, hts, hr, hlk, hin, hK⟩ := id hX
  obtain ⟨q1, q2, q3, q4⟩ := (hq : zfw _ _ _ _)
  have hap := va_apart (own := M.1) hts (zc_in q1) (zty ci) (zty_ok q1) (zty_nm q1) hK.1 (zc_at q1)
  obtain ⟨r, h1, cell, g1, g2, g3, g4⟩ := (hW.2 a _ he).2
  have hr2 : r = ((zc ci).1, (zc ci).2.1, (zc ci).2.2) := Option.some.inj (h1.symm.trans (zc_at q1))
  subst hr2
  obtain ⟨hSl, hfc, kC, hkC, hkind⟩ := hK.1.1 ci _ (zc_at q1)
  obtain ⟨cf, kf, fi, fd, hi, hsl⟩ := hSl f q2
  have hlay := hts _ (zc_in q1 _ (u_in_lay q2))
  unfold u_lay at hlay
  rw [if_neg (by rw [hfin]; decide)] at hlay
  have hst := (u_facts hfc hkC (u_lays hts (zc_in q1) q2) hi).1
  have h6 := u_store hfc hkC hkind hlay hi (zty_ok q1 f q2) hn hfit
  refine W.putK hx hb (f := fd) ⟨hown, hts _ q3, ⟨_, _, _, q4 ▸ hi⟩, hst⟩ (by rw [g2]; exact h6) g1 g3 (by rw [hsl]; exact k2_hasslot (g4 f q2)) rfl rfl hd fun H' e1 e2 e3 => ?_
  rw [hsl] at e1 ⊢
  exact kk p l e R s m args below meth c Q hX hf hl9 hc hs hE H' _ ls (hW.set he (z_atset (zc_at q1) g2 g3 g4 hap q2 hl e1) e2 e3) (hS.put e2 e3 (hW.2 a _ he).1) hL
theorem z_putN {idx ci f a : Nat} {fs : List Value} {v : Value} (hd : decode M.2.1 pc = .ok (.putfield idx, 3)) (hq : zfn M.1 idx ci f) (he : hh a = some (.inr (ci, fs))) (hfin : ((zc ci).2.1 f).2.2.2 = false) (hn : narrow (zty ci f) v = v) (hfit : fits (zty ci f) v = true) (hl : f < fs.length) (kk : zS M G d mc ms k n (zup hh a (.inr (ci, fs.set f v))) sz (pc + 3) lv st Post) : zS M G d mc ms k n hh sz pc lv (v :: .ref a :: st) Post := by
  intro p l e R s m args below meth c Q hX hf hl9 hc hs hE H locs ls hW hS hL
  obtain ⟨hx, hb, hml, hown, hts, hr, hlk, hin, hK⟩ := id hX
  obtain ⟨q1, q2, q3, q4⟩ := (hq : zfn _ _ _ _)
  have hap := va_apart (own := M.1) hts (zc_in q1) (zty ci) (zty_ok q1) (zty_nm q1) hK.1 (zc_at q1)
  obtain ⟨r, h1, cell, g1, g2, g3, g4⟩ := (hW.2 a _ he).2
  have hr2 : r = ((zc ci).1, (zc ci).2.1, (zc ci).2.2) := Option.some.inj (h1.symm.trans (zc_at q1))
  subst hr2
  obtain ⟨hSl, hfc, kC, hkC, hkind⟩ := hK.1.1 ci _ (zc_at q1)
  obtain ⟨cf, kf, fi, fd, hi, hsl⟩ := hSl f q2
  have hlay := hts _ (zc_in q1 _ (u_in_lay q2))
  unfold u_lay at hlay
  rw [if_neg (by rw [hfin]; decide)] at hlay
  have hst := (u_facts hfc hkC (u_lays hts (zc_in q1) q2) hi).1
  have h6 := u_store hfc hkC hkind hlay hi (zty_ok q1 f q2) hn hfit
  refine va_WputK hx hb (f := fd) hown (va_Nw.use rfl (hK.2.2.2.2.2.1 _ q3)) (q4 ▸ hi) hst (by rw [g2]; exact h6) g1 g3 (by rw [hsl]; exact k2_hasslot (g4 f q2)) rfl rfl hd fun H' e1 e2 e3 => ?_
  rw [hsl] at e1 ⊢
  exact kk p l e R s m args below meth c Q hX hf hl9 hc hs hE H' _ ls (hW.set he (z_atset (zc_at q1) g2 g3 g4 hap q2 hl e1) e2 e3) (hS.put e2 e3 (hW.2 a _ he).1) hL
theorem z_putF {idx ci f a : Nat} {fs : List Value} {v : Value} (hd : decode M.2.1 pc = .ok (.putfield idx, 3)) (hq : zfw M.1 idx ci f) (he : hh a = some (.inr (ci, fs))) (hfin : ((zc ci).2.1 f).2.2.2 = true) (hini : M.2.2.2.2 = true) (hdecl : (zc ci).1 = M.1) (hn : narrow (zty ci f) v = v) (hfit : fits (zty ci f) v = true) (hl : f < fs.length) (kk : zS M G d mc ms k n (zup hh a (.inr (ci, fs.set f v))) sz (pc + 3) lv st Post) : zS M G d mc ms k n hh sz pc lv (v :: .ref a :: st) Post := by
  intro p l e R s m args below meth c Q hX hf hl9 hc hs hE H locs ls hW hS hL
  obtain ⟨hx, hb, hml, hown, hts, hr, hlk, hin, hK⟩ := id hX
  obtain ⟨q1, q2, q3, q4⟩ := (hq : zfw _ _ _ _)
  have hap := va_apart (own := M.1) hts (zc_in q1) (zty ci) (zty_ok q1) (zty_nm q1) hK.1 (zc_at q1)
  obtain ⟨r, h1, cell, g1, g2, g3, g4⟩ := (hW.2 a _ he).2
  have hr2 : r = ((zc ci).1, (zc ci).2.1, (zc ci).2.2) := Option.some.inj (h1.symm.trans (zc_at q1))
  subst hr2
  obtain ⟨hSl, hfc, kC, hkC, hkind⟩ := hK.1.1 ci _ (zc_at q1)
  obtain ⟨cf, kf, fi, fd, hi, hsl⟩ := hSl f q2
  have hlay := hts _ (zc_in q1 _ (u_in_lay q2))
  unfold u_lay at hlay
  rw [if_pos hfin] at hlay
  have hst := (u_facts hfc hkC (u_lays hts (zc_in q1) q2) hi).1
  have hcf : m.cls = cf := by
    obtain ⟨_, _, c', _, _, _, -, -, hf', -, -, -, hown2, -⟩ := Cond.laysFinal_spec hlay
    have e1 : c' = cf := by have := hi.symm.trans hf'; simp at this; exact this.1.symm
    rw [q4, hdecl] at hown2
    rw [← e1]; exact Option.some.inj (hown.symm.trans hown2)
  have h6 := u_fits hfc hkC hkind (Or.inr hlay) hi (zty_ok q1 f q2) hn hfit
  refine W.putFinK hx hb hown (hts _ q3) (q4 ▸ hi) hst hcf (hin hini) (by rw [g2]; exact h6) g1 g3 (by rw [hsl]; exact k2_hasslot (g4 f q2)) rfl rfl hd fun H' e1 e2 e3 => ?_
  rw [hsl] at e1 ⊢
  exact kk p l e R s m args below meth c Q hX hf hl9 hc hs hE H' _ ls (hW.set he (z_atset (zc_at q1) g2 g3 g4 hap q2 hl e1) e2 e3) (hS.put e2 e3 (hW.2 a _ he).1) hL
theorem z_iald {a N : Nat} {f : Nat → Int32} {x : Int32} (hd : decode M.2.1 pc = .ok (.iaload, 1)) (ha : hh a = some (.inl (G.2.2.1 0, N, .inl f))) (hi : vp_in x N) (kk : zS M G d mc ms k n hh sz (pc + 1) lv (.int (f x.toNatClampNeg) :: st) Post) : zS M G d mc ms k n hh sz pc lv (.int x :: .ref a :: st) Post := by
  intro p l e R s m args below meth c Q hX hf hl hc hs hE H locs ls hW hS hL
  obtain ⟨hx, hb, hml, hown, hts, hr, hlk, hin, hK⟩ := id hX
  exact va_iald hx hb hK.1 (hW.one ha) 0 0 rfl rfl hi hd (kk p l e R s m args below meth c Q hX hf hl hc hs hE H locs ls hW hS hL)
theorem z_cald {a N : Nat} {f : Nat → Int32} {x : Int32} (hd : decode M.2.1 pc = .ok (.caload, 1)) (ha : hh a = some (.inl (G.2.2.1 1, N, .inl f))) (hi : vp_in x N) (kk : zS M G d mc ms k n hh sz (pc + 1) lv (.int (f x.toNatClampNeg) :: st) Post) : zS M G d mc ms k n hh sz pc lv (.int x :: .ref a :: st) Post := by
  intro p l e R s m args below meth c Q hX hf hl hc hs hE H locs ls hW hS hL
  obtain ⟨hx, hb, hml, hown, hts, hr, hlk, hin, hK⟩ := id hX
  exact va_cald hx hb hK.1 (hW.one ha) 0 1 rfl rfl hi hd (kk p l e R s m args below meth c Q hX hf hl hc hs hE H locs ls hW hS hL)
theorem z_zald {a N : Nat} {f : Nat → Int32} {x : Int32} (hd : decode M.2.1 pc = .ok (.baload, 1)) (ha : hh a = some (.inl (G.2.2.1 2, N, .inl f))) (hi : vp_in x N) (kk : zS M G d mc ms k n hh sz (pc + 1) lv (.int (f x.toNatClampNeg) :: st) Post) : zS M G d mc ms k n hh sz pc lv (.int x :: .ref a :: st) Post := by
  intro p l e R s m args below meth c Q hX hf hl hc hs hE H locs ls hW hS hL
  obtain ⟨hx, hb, hml, hown, hts, hr, hlk, hin, hK⟩ := id hX
  exact va_zald hx hb hK.1 (hW.one ha) 0 2 rfl rfl hi hd (kk p l e R s m args below meth c Q hX hf hl hc hs hE H locs ls hW hS hL)
theorem z_iast {a N : Nat} {f : Nat → Int32} {x y : Int32} (hd : decode M.2.1 pc = .ok (.iastore, 1)) (ha : hh a = some (.inl (G.2.2.1 0, N, .inl f))) (hi : vp_in x N) (kk : zS M G d mc ms k n (zup hh a (.inl (G.2.2.1 0, N, .inl (upd f x.toNatClampNeg (y))))) sz (pc + 1) lv st Post) : zS M G d mc ms k n hh sz pc lv (.int y :: .int x :: .ref a :: st) Post := by
  intro p l e R s m args below meth c Q hX hf hl hc hs hE H locs ls hW hS hL
  obtain ⟨hx, hb, hml, hown, hts, hr, hlk, hin, hK⟩ := id hX
  refine W.iast hx hb (hW.2 a _ ha).2 ((hK.1.2 0 _ rfl).1 N (fun j => .int (f j))) (fun q => by cases q) (by show ¬ (x < 0 ∨ (arrV _ _ _).slots.size ≤ _); rw [arrV_size]; exact hi) rfl rfl hd fun H1 e1 z oq => ?_
  refine kk p l e R s m args below meth c Q hX hf hl hc hs hE H1 _ ls (hW.set ha ?_ z oq) (hS.put z oq (hW.2 a _ ha).1) hL
  show H1[a]? = some (vp_cell _ _)
  rw [e1]
  rw [vp_cell_i, vp_cell_i, arrV_store]
  congr 2
  funext q
  by_cases hq : q = x.toNatClampNeg
  · subst hq
    simp [updV, upd, vp_nar]
    try rfl
  · simp [updV, upd, hq]
theorem z_cast {a N : Nat} {f : Nat → Int32} {x y : Int32} (hd : decode M.2.1 pc = .ok (.castore, 1)) (ha : hh a = some (.inl (G.2.2.1 1, N, .inl f))) (hi : vp_in x N) (kk : zS M G d mc ms k n (zup hh a (.inl (G.2.2.1 1, N, .inl (upd f x.toNatClampNeg (vp_nar .char y))))) sz (pc + 1) lv st Post) : zS M G d mc ms k n hh sz pc lv (.int y :: .int x :: .ref a :: st) Post := by
  intro p l e R s m args below meth c Q hX hf hl hc hs hE H locs ls hW hS hL
  obtain ⟨hx, hb, hml, hown, hts, hr, hlk, hin, hK⟩ := id hX
  refine W.cast hx hb (hW.2 a _ ha).2 ((hK.1.2 1 _ rfl).1 N (fun j => .int (f j))) (fun q => by cases q) (by show ¬ (x < 0 ∨ (arrV _ _ _).slots.size ≤ _); rw [arrV_size]; exact hi) rfl rfl hd fun H1 e1 z oq => ?_
  refine kk p l e R s m args below meth c Q hX hf hl hc hs hE H1 _ ls (hW.set ha ?_ z oq) (hS.put z oq (hW.2 a _ ha).1) hL
  show H1[a]? = some (vp_cell _ _)
  rw [e1]
  rw [vp_cell_i, vp_cell_i, arrV_store]
  congr 2
  funext q
  by_cases hq : q = x.toNatClampNeg
  · subst hq
    simp [updV, upd, vp_nar]
    try rfl
  · simp [updV, upd, hq]
theorem z_zast {a N : Nat} {f : Nat → Int32} {x y : Int32} (hd : decode M.2.1 pc = .ok (.bastore, 1)) (ha : hh a = some (.inl (G.2.2.1 2, N, .inl f))) (hi : vp_in x N) (kk : zS M G d mc ms k n (zup hh a (.inl (G.2.2.1 2, N, .inl (upd f x.toNatClampNeg (vp_nar .boolean y))))) sz (pc + 1) lv st Post) : zS M G d mc ms k n hh sz pc lv (.int y :: .int x :: .ref a :: st) Post := by
  intro p l e R s m args below meth c Q hX hf hl hc hs hE H locs ls hW hS hL
  obtain ⟨hx, hb, hml, hown, hts, hr, hlk, hin, hK⟩ := id hX
  refine W.zast hx hb (hW.2 a _ ha).2 ((hK.1.2 2 _ rfl).1 N (fun j => .int (f j))) (fun q => by cases q) (by show ¬ (x < 0 ∨ (arrV _ _ _).slots.size ≤ _); rw [arrV_size]; exact hi) rfl rfl hd fun H1 e1 z oq => ?_
  refine kk p l e R s m args below meth c Q hX hf hl hc hs hE H1 _ ls (hW.set ha ?_ z oq) (hS.put z oq (hW.2 a _ ha).1) hL
  show H1[a]? = some (vp_cell _ _)
  rw [e1]
  rw [vp_cell_i, vp_cell_i, arrV_store]
  congr 2
  funext q
  by_cases hq : q = x.toNatClampNeg
  · subst hq
    simp [updV, upd, vp_nar]
    try rfl
  · simp [updV, upd, hq]
theorem z_aald {a N t : Nat} {C : String} {f : Nat → Option Nat} {x : Int32} (hd : decode M.2.1 pc = .ok (.aaload, 1)) (ha : hh a = some (.inl (G.2.2.1 t, N, .inr (.inr (.inr (.inr f)))))) (ht : (zTys G)[t]? = some (G.2.2.1 t, .object C)) (hi : vp_in x N) (kk : zS M G d mc ms k n hh sz (pc + 1) lv (va_rf (f x.toNatClampNeg) :: st) Post) : zS M G d mc ms k n hh sz pc lv (.int x :: .ref a :: st) Post := by
  intro p l e R s m args below meth c Q hX hf hl hc hs hE H locs ls hW hS hL
  obtain ⟨hx, hb, hml, hown, hts, hr, hlk, hin, hK⟩ := id hX
  exact va_aldq hx hb hK.1 (hW.one ha) 0 t rfl ht hi hd (kk p l e R s m args below meth c Q hX hf hl hc hs hE H locs ls hW hS hL)
theorem z_aast {a N t v ci : Nat} {vs : List Value} {f : Nat → Option Nat} {x : Int32} (hd : decode M.2.1 pc = .ok (.aastore, 1)) (ha : hh a = some (.inl (G.2.2.1 t, N, .inr (.inr (.inr (.inr f)))))) (hci : ci < 8) (ht : (zTys G)[t]? = some (G.2.2.1 t, .object (zc ci).1)) (hv : hh v = some (.inr (ci, vs))) (hi : vp_in x N) (kk : zS M G d mc ms k n (zup hh a (.inl (G.2.2.1 t, N, .inr (.inr (.inr (.inr (va_up f x.toNatClampNeg (some v)))))))) sz (pc + 1) lv st Post) : zS M G d mc ms k n hh sz pc lv (.ref v :: .int x :: .ref a :: st) Post := by
  intro p l e R s m args below meth c Q hX hf hl hc hs hE H locs ls hW hS hL
  obtain ⟨hx, hb, hml, hown, hts, hr, hlk, hin, hK⟩ := id hX
  have hlt : x.toNatClampNeg < N := Nat.not_le.mp fun q => hi (Or.inr q)
  have h0 : ¬ x < 0 := fun q => hi (Or.inl q)
  obtain ⟨r', hr', cellV, g1, g2, g3, -⟩ := (hW.2 v _ hv).2
  have hcls := (hK.1.1 ci _ (zc_at hci)).2
  obtain ⟨kA, comp, k1, k2, k3, -⟩ := (hK.1.2 t _ ht).2
  have hcomp : comp = G.2.1.1 ci := Option.some.inj (k3.symm.trans hcls.1)
  subst hcomp
  obtain ⟨kC, hkC, -⟩ := hcls.2
  refine W.aast hx hb (hW.2 a _ ha).2 (fun q h => by cases h) (fun h => by cases h) k1 k2 rfl hkC ⟨h0, by show _ < (arrV _ _ _).slots.size; rw [arrV_size]; exact hlt⟩ g1 (fun q h => by rw [g3] at h; cases h) (by rw [g2]; exact hkC) (by rw [g2]; exact va_assign hcls) rfl rfl hd fun H1 e1 z oq => ?_
  refine kk p l e R s m args below meth c Q hX hf hl hc hs hE H1 _ ls (hW.set ha ?_ z oq) (hS.put z oq (hW.2 a _ ha).1) hL
  show H1[a]? = some (vp_cell _ _)
  rw [e1]
  rw [vp_cell_q, vp_cell_q, arrV_store]
  congr 2
  funext q
  by_cases hq : q = x.toNatClampNeg
  · subst hq
    simp [updV, va_up, va_rf]
  · simp [updV, va_up, hq]
theorem z_alen {a t : Nat} {ty : FieldType} {x : vp_A} {v : Int32} (hd : decode M.2.1 pc = .ok (.arraylength, 1)) (ha : hh a = some (.inl (G.2.2.1 t, x))) (ht : (zTys G)[t]? = some (G.2.2.1 t, ty)) (hv : Int32.ofNat x.1 = v) (kk : zS M G d mc ms k n hh sz (pc + 1) lv (.int v :: st) Post) : zS M G d mc ms k n hh sz pc lv (.ref a :: st) Post := by
  intro p l e R s m args below meth c Q hX hf hl hc hs hE H locs ls hW hS hL
  obtain ⟨hx, hb, hml, hown, hts, hr, hlk, hin, hK⟩ := id hX
  exact va_alen hx hb hK.1 (hW.one ha) 0 t rfl ht hv hd (kk p l e R s m args below meth c Q hX hf hl hc hs hE H locs ls hW hS hL)
theorem z_new {idx ci : Nat} {fs : List Value} (hd : decode M.2.1 pc = .ok (.new idx, 3)) (hq : ci < 8 ∧ Cond.classLink M.1 idx (zc ci).1 ∈ zT ∧ Cond.instantiable (zc ci).1 (zc ci).2.2 ∈ zT ∧ Cond.initialized (zc ci).1 ∈ zT) (hfs : ∀ j, j < (zc ci).2.2 → defaultValue (zty ci j) = vp_V fs j) (hk : k + 1 ≤ mc) (hn : n + (zc ci).2.2 ≤ ms) (kk : zS M G d mc ms (k + 1) (n + (zc ci).2.2) (zup hh sz (.inr (ci, fs))) (sz + 1) (pc + 3) lv (.ref sz :: st) Post) : zS M G d mc ms k n hh sz pc lv st Post := by
  intro p l e R s m args below meth c Q hX hf hl hc hs hE H locs ls hW hS hL
  obtain ⟨hx, hb, hml, hown, hts, hr, hlk, hin, hK⟩ := id hX
  obtain ⟨q1, q2, q3, q4⟩ := hq
  have hb1 : G.1 ≤ sz := by rw [← hW.1]; exact Nat.le_trans hK.2.2.2.2.2.2 hS.1
  have hcells : k + 1 ≤ R.cells := Nat.le_trans hk hc
  have hKn := hK.1.1 ci _ (zc_at q1)
  refine W.newcK hx hb hown (hts _ q2) (hts _ q3) (hts _ q4) rfl hd hcells (Nat.le_trans hn hs) hKn.2.1 hW.1 fun H1 kC hkC e1 z1 o1 => ?_
  refine kk p l e R s m args below meth c Q hX hf hl hc hs hE H1 locs ls (hW.push hb1 ⟨_, zc_at q1, (u_born (zty ci) hts (zc_in q1) hKn hkC e1 (zty_ok q1)).to hfs⟩ z1 o1) ⟨Nat.le_trans hS.1 (by rw [z1, hW.1]; omega), fun q g1 g2 => (o1 q (by rw [← hW.1]; exact Nat.lt_of_lt_of_le g1 hS.1)).trans (hS.2.1 q g1 g2), hS.2.2⟩ hL
theorem z_newI {x : Int32} {N : Nat} (hd : decode M.2.1 pc = .ok (.newarray .int, 2)) (hq : Cond.arrayClass .int ∈ zT) (h0 : ¬ x < 0) (hN : x.toNatClampNeg = N) (hsm : N * 8 ≤ 536870912) (hk : k + 1 ≤ mc) (hn : n + N ≤ ms) (kk : zS M G d mc ms (k + 1) (n + N) (zup hh sz (.inl (G.2.2.1 0, N, .inl (fun _ => 0)))) (sz + 1) (pc + 2) lv (.ref sz :: st) Post) : zS M G d mc ms k n hh sz pc lv (.int x :: st) Post := by
  intro p l e R s m args below meth c Q hX hf hl hc hs hE H locs ls hW hS hL
  obtain ⟨hx, hb, hml, hown, hts, hr, hlk, hin, hK⟩ := id hX
  have hb1 : G.1 ≤ sz := by rw [← hW.1]; exact Nat.le_trans hK.2.2.2.2.2.2 hS.1
  have hcells : k + 1 ≤ R.cells := Nat.le_trans hk hc
  have hsm2 : N * componentBytes (newarray.typeOf .int) ≤ 536870912 := Nat.le_trans (Nat.mul_le_mul_left _ (by decide)) hsm
  refine va_newaK (atype := .int) hx hb (hts _ hq) rfl hd rfl h0 hN hsm2 hcells (Nat.le_trans hn hs) hW.1 fun H1 cA e1 z1 o1 hAr hNm => ?_
  have hcA : cA = G.2.2.1 0 := Option.some.inj (hNm.symm.trans (hK.1.2 0 _ rfl).2)
  subst hcA
  refine kk p l e R s m args below meth c Q hX hf hl hc hs hE H1 locs ls (hW.push hb1 ?_ z1 o1) ⟨Nat.le_trans hS.1 (by rw [z1, hW.1]; omega), fun q g1 g2 => (o1 q (by rw [← hW.1]; exact Nat.lt_of_lt_of_le g1 hS.1)).trans (hS.2.1 q g1 g2), hS.2.2⟩ hL
  show H1[sz]? = some (vp_cell _ _)
  rw [vp_cell_i]
  exact e1
theorem z_newC {x : Int32} {N : Nat} (hd : decode M.2.1 pc = .ok (.newarray .char, 2)) (hq : Cond.arrayClass .char ∈ zT) (h0 : ¬ x < 0) (hN : x.toNatClampNeg = N) (hsm : N * 8 ≤ 536870912) (hk : k + 1 ≤ mc) (hn : n + N ≤ ms) (kk : zS M G d mc ms (k + 1) (n + N) (zup hh sz (.inl (G.2.2.1 1, N, .inl (fun _ => 0)))) (sz + 1) (pc + 2) lv (.ref sz :: st) Post) : zS M G d mc ms k n hh sz pc lv (.int x :: st) Post := by
  intro p l e R s m args below meth c Q hX hf hl hc hs hE H locs ls hW hS hL
  obtain ⟨hx, hb, hml, hown, hts, hr, hlk, hin, hK⟩ := id hX
  have hb1 : G.1 ≤ sz := by rw [← hW.1]; exact Nat.le_trans hK.2.2.2.2.2.2 hS.1
  have hcells : k + 1 ≤ R.cells := Nat.le_trans hk hc
  have hsm2 : N * componentBytes (newarray.typeOf .char) ≤ 536870912 := Nat.le_trans (Nat.mul_le_mul_left _ (by decide)) hsm
  refine va_newaK (atype := .char) hx hb (hts _ hq) rfl hd rfl h0 hN hsm2 hcells (Nat.le_trans hn hs) hW.1 fun H1 cA e1 z1 o1 hAr hNm => ?_
  have hcA : cA = G.2.2.1 1 := Option.some.inj (hNm.symm.trans (hK.1.2 1 _ rfl).2)
  subst hcA
  refine kk p l e R s m args below meth c Q hX hf hl hc hs hE H1 locs ls (hW.push hb1 ?_ z1 o1) ⟨Nat.le_trans hS.1 (by rw [z1, hW.1]; omega), fun q g1 g2 => (o1 q (by rw [← hW.1]; exact Nat.lt_of_lt_of_le g1 hS.1)).trans (hS.2.1 q g1 g2), hS.2.2⟩ hL
  show H1[sz]? = some (vp_cell _ _)
  rw [vp_cell_i]
  exact e1
theorem z_newZ {x : Int32} {N : Nat} (hd : decode M.2.1 pc = .ok (.newarray .boolean, 2)) (hq : Cond.arrayClass .boolean ∈ zT) (h0 : ¬ x < 0) (hN : x.toNatClampNeg = N) (hsm : N * 8 ≤ 536870912) (hk : k + 1 ≤ mc) (hn : n + N ≤ ms) (kk : zS M G d mc ms (k + 1) (n + N) (zup hh sz (.inl (G.2.2.1 2, N, .inl (fun _ => 0)))) (sz + 1) (pc + 2) lv (.ref sz :: st) Post) : zS M G d mc ms k n hh sz pc lv (.int x :: st) Post := by
  intro p l e R s m args below meth c Q hX hf hl hc hs hE H locs ls hW hS hL
  obtain ⟨hx, hb, hml, hown, hts, hr, hlk, hin, hK⟩ := id hX
  have hb1 : G.1 ≤ sz := by rw [← hW.1]; exact Nat.le_trans hK.2.2.2.2.2.2 hS.1
  have hcells : k + 1 ≤ R.cells := Nat.le_trans hk hc
  have hsm2 : N * componentBytes (newarray.typeOf .boolean) ≤ 536870912 := Nat.le_trans (Nat.mul_le_mul_left _ (by decide)) hsm
  refine va_newaK (atype := .boolean) hx hb (hts _ hq) rfl hd rfl h0 hN hsm2 hcells (Nat.le_trans hn hs) hW.1 fun H1 cA e1 z1 o1 hAr hNm => ?_
  have hcA : cA = G.2.2.1 2 := Option.some.inj (hNm.symm.trans (hK.1.2 2 _ rfl).2)
  subst hcA
  refine kk p l e R s m args below meth c Q hX hf hl hc hs hE H1 locs ls (hW.push hb1 ?_ z1 o1) ⟨Nat.le_trans hS.1 (by rw [z1, hW.1]; omega), fun q g1 g2 => (o1 q (by rw [← hW.1]; exact Nat.lt_of_lt_of_le g1 hS.1)).trans (hS.2.1 q g1 g2), hS.2.2⟩ hL
  show H1[sz]? = some (vp_cell _ _)
  rw [vp_cell_i]
  exact e1
theorem z_newR {x : Int32} {N idx t : Nat} {C : String} (hd : decode M.2.1 pc = .ok (.anewarray idx, 3)) (hq : Cond.classLink M.1 idx C ∈ zT) (hC : C = RX5 ∧ t = 3 ∨ C = RX4 ∧ t = 4 ∨ C = RX2 ∧ t = 5) (h0 : ¬ x < 0) (hN : x.toNatClampNeg = N) (hsm : N * 4 ≤ 536870912) (hk : k + 1 ≤ mc) (hn : n + N ≤ ms) (kk : zS M G d mc ms (k + 1) (n + N) (zup hh sz (.inl (G.2.2.1 t, N, .inr (.inr (.inr (.inr (fun _ => none))))))) (sz + 1) (pc + 3) lv (.ref sz :: st) Post) : zS M G d mc ms k n hh sz pc lv (.int x :: st) Post := by
  intro p l e R s m args below meth c Q hX hf hl hc hs hE H locs ls hW hS hL
  obtain ⟨hx, hb, hml, hown, hts, hr, hlk, hin, hK⟩ := id hX
  have hb1 : G.1 ≤ sz := by rw [← hW.1]; exact Nat.le_trans hK.2.2.2.2.2.2 hS.1
  have hcells : k + 1 ≤ R.cells := Nat.le_trans hk hc
  have hAO : va_AO C s := by
    obtain ⟨a1, a2, a3⟩ := hK.2.2.2.1
    rcases hC with ⟨rfl, -⟩ | ⟨rfl, -⟩ | ⟨rfl, -⟩
    · exact a1
    · exact a2
    · exact a3
  have hT : (zTys G)[t]? = some (G.2.2.1 t, .object C) := by
    rcases hC with ⟨rfl, rfl⟩ | ⟨rfl, rfl⟩ | ⟨rfl, rfl⟩ <;> rfl
  subst hN
  refine W.anew hx hb hown (hts _ hq) (va_AO.use hAO) rfl hd rfl h0 hsm hcells (Nat.le_trans hn hs) fun cA kA comp f1 f2 f3 f4 => ?_
  generalize hH1 : H.push ({ cls := cA, slots := Array.replicate x.toNatClampNeg .null, vm := .none } : Cell) = H1
  have z1 : H1.size = sz + 1 := by rw [← hH1, Array.size_push, hW.1]
  have e1 : H1[sz]? = some (arrV cA x.toNatClampNeg (fun _ => .null)) := by rw [← hH1, ← hW.1, Array.getElem?_push_size, ← arrV_new]
  have o1 : ∀ q : Nat, q < sz → H1[q]? = H[q]? := fun q hq => by rw [← hH1, Array.getElem?_push, if_neg (Nat.ne_of_lt (by rw [hW.1]; exact hq))]
  have hcA : cA = G.2.2.1 t := by
    obtain ⟨_, _, _, _, _, h4⟩ := (hK.1.2 t _ hT).2
    exact Option.some.inj (f1.symm.trans h4)
  subst hcA
  refine W.eq (g2 := F0 m (pc + 3) ls (.ref sz :: st)) (by rw [← hW.1]) ?_
  refine kk p l e R s m args below meth c Q hX hf hl hc hs hE H1 locs ls (hW.push hb1 ?_ z1 o1) ⟨Nat.le_trans hS.1 (by rw [z1, hW.1]; omega), fun q g1 g2 => (o1 q (by rw [← hW.1]; exact Nat.lt_of_lt_of_le g1 hS.1)).trans (hS.2.1 q g1 g2), hS.2.2⟩ hL
  show H1[sz]? = some (vp_cell _ _)
  rw [vp_cell_q]
  exact e1
end ZR

/-! calls -/
theorem z_good {w : Cond} (h : w ∈ zT) : (w.onTables && w.keeps) = true ∨ ∃ ty, w = .arrayClass ty := good_of_word (zT_good h)
theorem z_goodIn {y : MethodName} {cc : ByteArray} {nL : Nat} {ret : Option FieldType} (h : Cond.code y cc nL ret ∈ zT) : GoodIn zT (.code y cc nL ret :: zT) := by
  intro w hw
  rcases List.mem_cons.mp hw with rfl | hw
  · exact ⟨h, z_good h⟩
  · exact ⟨hw, z_good hw⟩
/-- the callee's start -/
theorem z_blind {G : zG} {hh : zH} {sz : Nat} {as : List Value} : FrameBlind (va_Pc as (fun U => zW G hh sz U.heap ∧ zK G U)) := fun _ _ _ _ q => ⟨q.1, q.2.1, q.2.2.calling⟩
theorem z_start {G : zG} {hh : zH} {sz : Nat} {s U : State} {H : Heap} {locs : List Loc} (hK : zK G s) (hW : zW G hh sz H) (hS : va_S (zA G) s.heap H locs) (e : U.heap = H) (hw : s.WarmedH U.vm) : zW G hh sz U.heap ∧ zK G U :=
  ⟨by rw [e]; exact hW, hK.to hw (by rw [e]; exact hS.1) (fun q h1 h2 => by rw [e]; exact hS.2.1 q h1 h2)⟩
/-- behind a call -/
theorem z_cont {p : Program} {l : Launch} {e : Env} {R : Room} {s : State} {m : MethodId} {args : Array Value} {below : List Frame} {meth : Method} {c : Code} {H : Heap} {locs : List Loc} {cells slots mc ms : Nat} {Q : State → Prop} {pc : Nat} {ls : Array Slot} {rest st0 : List Value} {G : zG} {Post : Option Value → zH → Nat → Prop}
    (hr : va_Run p l e R s m args below meth c H locs cells slots mc ms (F0 m pc ls st0) rest (fun st oc t => ∃ (r : Option Value) (hh' : zH) (sz' : Nat), oc = .returned r ∧ Post r hh' sz' ∧ zW G hh' sz' t.heap ∧ va_F (zA G) st t) (zA G)) (hS : va_S (zA G) s.heap H locs)
    (kk : ∀ (r : Option Value) (hh' : zH) (sz' : Nat) (H1 : Heap) (locs1 : List Loc), Post r hh' sz' → zW G hh' sz' H1 → va_S (zA G) s.heap H1 locs1 → W p l e R s m args below meth c H1 locs1 (cells + mc) (slots + ms) Q (F0 m (pc + 3) ls (r.toList ++ rest))) : W p l e R s m args below meth c H locs cells slots Q (F0 m pc ls st0) := by
  intro T hT X
  obtain ⟨v, st₀, t, T', L, h0, X', hL, e1, e2, ⟨r, hh', sz', hv, hp, hw, hz, hk⟩, st⟩ := hr T hT X
  cases hv
  rw [h0] at hz hk
  obtain ⟨t2, a1, b1⟩ := kk _ hh' sz' T'.heap (locs ++ L) hp (by rw [e1]; exact hw)
    ⟨Nat.le_trans hS.1 (by rw [e1]; exact hz), fun q h1 h2 => by rw [e1, hk q (Nat.lt_of_lt_of_le h1 hS.1) h2]; exact hS.2.1 q h1 h2, fun q hq => by
      rcases List.mem_append.mp hq with h | h
      · exact hS.2.2 q h
      · exact hL q h⟩ T' rfl X'
  exact ⟨t2, st t2 a1, b1⟩
theorem z_weight {p : Program} {m : MethodId} {pc : Nat} {ls : Array Slot} {rest st : List Value} (h : (st.map fun v => v.category).sum ≤ 8) : 2 * (F0 m pc ls rest).monitorRoom + (st.map fun v => v.category).sum ≤ 8 := lv_room h
def zpar (y : MethodName) (n : Nat) : Prop := y.cls ≠ "java/lang/invoke/MethodHandle" ∧ y.cls ≠ "java/lang/invoke/VarHandle" ∧ (parseMethodDescriptor y.desc).map (fun d => d.parameters.length) = some n
section ZCALL
variable {M : zM} {G : zG} {d mc ms k n : Nat} {hh : zH} {sz : Nat} {pc : Nat} {lv : List (Option Value)} {rest : List Value} {Post : Option Value → zH → Nat → Nat → Nat → Prop}
variable {y : MethodName} {My : zM} {idx d' mc' ms' : Nat} {as : List Value} {P' : Option Value → zH → Nat → Prop}
theorem z_callS (hC : zC G d' My y as hh sz mc' ms' P') (hd : decode M.2.1 pc = .ok (.invokestatic idx, 3)) (hq : Cond.methodLink M.1 idx y ∈ zT ∧ Cond.code y My.2.1 My.2.2.1 My.2.2.2.1 ∈ zT ∧ Cond.initialized y.cls ∈ zT ∧ Cond.static y ∈ zT) (hroom : d' + 1 ≤ d ∧ My.2.2.1 ≤ 12) (hpar : zpar y as.length) (hwt : (rest.map fun v => v.category).sum ≤ 8) (hk : k + mc' ≤ mc) (hn : n + ms' ≤ ms) (kk : ∀ (r : Option Value) (hh' : zH) (sz' : Nat), P' r hh' sz' → zS M G d mc ms (k + mc') (n + ms') hh' sz' (pc + 3) lv (r.toList ++ rest) Post) {st : List Value} (hst : st = as.reverse ++ rest) : zS M G d mc ms k n hh sz pc lv st Post := by
  intro p l e R s m args below meth c Q hX hf hl hc hs hE H locs ls hW hS hL
  obtain ⟨hx, hb, hml, hown, hts, hr, hlk, hin, hK⟩ := id hX
  have hR : ({ frames := d', cells := mc', slots := ms', locals := 31 * d' } : Room).frames + 1 ≤ R.frames ∧ 8 + (My.2.2.1 + 11) + ({ frames := d', cells := mc', slots := ms', locals := 31 * d' } : Room).locals ≤ R.locals := ⟨by show d' + 1 ≤ _; omega, by show 8 + (My.2.2.1 + 11) + 31 * d' ≤ _; omega⟩
  subst hst
  obtain ⟨q1, q2, q3, q4⟩ := hq
  exact z_cont (va_runS (As := as) (rest := rest) ⟨hx, hb, hml, hown, fun w hw => hts w hw⟩ (hC l) ⟨callB_of (ws' := zT) as.length hts (z_goodIn q2) rfl rfl rfl (hts _ q3) (hts _ q1) hpar hR, hts _ q4⟩ ⟨z_blind, fun U hU hw => ⟨rfl, z_start hK hW hS hU hw⟩⟩ rfl rfl hL.size rfl (lv_room hwt) hd ⟨Nat.le_trans hk hc, Nat.le_trans hn hs⟩) hS (fun r hh1 sz1 H1 locs1 hp hW1 hS1 => kk r hh1 sz1 hp p l e R s m args below meth c Q hX hf hl hc hs hE H1 locs1 ls hW1 hS1 hL)
theorem z_callSN (hC : zC G d' My y as hh sz mc' ms' P') (hd : decode M.2.1 pc = .ok (.invokestatic idx, 3)) (hq : Cond.methodLinkNest M.1 idx y "WindowLetters" ∈ zN ∧ Cond.code y My.2.1 My.2.2.1 My.2.2.2.1 ∈ zT ∧ Cond.initialized y.cls ∈ zT ∧ Cond.static y ∈ zT) (hroom : d' + 1 ≤ d ∧ My.2.2.1 ≤ 12) (hpar : zpar y as.length) (hwt : (rest.map fun v => v.category).sum ≤ 8) (hk : k + mc' ≤ mc) (hn : n + ms' ≤ ms) (kk : ∀ (r : Option Value) (hh' : zH) (sz' : Nat), P' r hh' sz' → zS M G d mc ms (k + mc') (n + ms') hh' sz' (pc + 3) lv (r.toList ++ rest) Post) {st : List Value} (hst : st = as.reverse ++ rest) : zS M G d mc ms k n hh sz pc lv st Post := by
  intro p l e R s m args below meth c Q hX hf hl hc hs hE H locs ls hW hS hL
  obtain ⟨hx, hb, hml, hown, hts, hr, hlk, hin, hK⟩ := id hX
  have hR : ({ frames := d', cells := mc', slots := ms', locals := 31 * d' } : Room).frames + 1 ≤ R.frames ∧ 8 + (My.2.2.1 + 11) + ({ frames := d', cells := mc', slots := ms', locals := 31 * d' } : Room).locals ≤ R.locals := ⟨by show d' + 1 ≤ _; omega, by show 8 + (My.2.2.1 + 11) + 31 * d' ≤ _; omega⟩
  subst hst
  obtain ⟨q1, q2, q3, q4⟩ := hq
  exact z_cont (va_runSN (As := as) (rest := rest) ⟨hx, hb, hml, hown, fun w hw => hts w hw⟩ (hC l) ⟨va_cnB (ws' := zT) as.length hts (z_goodIn q2) rfl rfl rfl (hK.2.2.2.2.2.1 _ q1) (hts _ q3) hpar hR, hts _ q4, trivial⟩ ⟨z_blind, fun U hU hw => ⟨rfl, z_start hK hW hS hU hw⟩⟩ rfl rfl hL.size rfl (lv_room hwt) hd ⟨Nat.le_trans hk hc, Nat.le_trans hn hs⟩) hS (fun r hh1 sz1 H1 locs1 hp hW1 hS1 => kk r hh1 sz1 hp p l e R s m args below meth c Q hX hf hl hc hs hE H1 locs1 ls hW1 hS1 hL)
theorem z_callV {ci b : Nat} {fs : List Value} (hC : zC G d' My y (.ref b :: as) hh sz mc' ms' P') (hd : decode M.2.1 pc = .ok (.invokevirtual idx, 3)) (hq : Cond.methodLink M.1 idx y ∈ zT ∧ Cond.code y My.2.1 My.2.2.1 My.2.2.2.1 ∈ zT ∧ Cond.initialized y.cls ∈ zT ∧ Cond.instanceMethod y ∈ zT ∧ Cond.selects (zc ci).1 y y ∈ zT ∧ ci < 8) (he : hh b = some (.inr (ci, fs))) (hroom : d' + 1 ≤ d ∧ My.2.2.1 ≤ 12) (hpar : zpar y as.length) (hwt : (rest.map fun v => v.category).sum ≤ 8) (hk : k + mc' ≤ mc) (hn : n + ms' ≤ ms) (kk : ∀ (r : Option Value) (hh' : zH) (sz' : Nat), P' r hh' sz' → zS M G d mc ms (k + mc') (n + ms') hh' sz' (pc + 3) lv (r.toList ++ rest) Post) {st : List Value} (hst : st = as.reverse ++ .ref b :: rest) : zS M G d mc ms k n hh sz pc lv st Post := by
  intro p l e R s m args below meth c Q hX hf hl hc hs hE H locs ls hW hS hL
  obtain ⟨hx, hb, hml, hown, hts, hr, hlk, hin, hK⟩ := id hX
  have hR : ({ frames := d', cells := mc', slots := ms', locals := 31 * d' } : Room).frames + 1 ≤ R.frames ∧ 8 + (My.2.2.1 + 11) + ({ frames := d', cells := mc', slots := ms', locals := 31 * d' } : Room).locals ≤ R.locals := ⟨by show d' + 1 ≤ _; omega, by show 8 + (My.2.2.1 + 11) + 31 * d' ≤ _; omega⟩
  subst hst
  obtain ⟨q1, q2, q3, q4, q5, q6⟩ := hq
  exact z_cont (va_runV (C := (zc ci).1) (As := as) (rest := rest) ⟨hx, hb, hml, hown, fun w hw => hts w hw⟩ (hC l) ⟨callB_of (ws' := zT) as.length hts (z_goodIn q2) rfl rfl rfl (hts _ q3) (hts _ q1) hpar hR, hts _ q4, hts _ q5⟩ ⟨z_blind, va_recv hK.1 (hW.one he) (ci := ci) (q0 := 0) (zc_at q6) rfl, fun U hU hw => ⟨rfl, z_start hK hW hS hU hw⟩⟩ rfl rfl hL.size rfl (lv_room hwt) hd ⟨Nat.le_trans hk hc, Nat.le_trans hn hs⟩) hS (fun r hh1 sz1 H1 locs1 hp hW1 hS1 => kk r hh1 sz1 hp p l e R s m args below meth c Q hX hf hl hc hs hE H1 locs1 ls hW1 hS1 hL)
theorem z_callVN {ci b : Nat} {fs : List Value} (hC : zC G d' My y (.ref b :: as) hh sz mc' ms' P') (hd : decode M.2.1 pc = .ok (.invokevirtual idx, 3)) (hq : Cond.methodLinkNest M.1 idx y "WindowLetters" ∈ zN ∧ Cond.code y My.2.1 My.2.2.1 My.2.2.2.1 ∈ zT ∧ Cond.initialized y.cls ∈ zT ∧ Cond.instanceMethod y ∈ zT ∧ Cond.selects (zc ci).1 y y ∈ zT ∧ ci < 8) (he : hh b = some (.inr (ci, fs))) (hroom : d' + 1 ≤ d ∧ My.2.2.1 ≤ 12) (hpar : zpar y as.length) (hwt : (rest.map fun v => v.category).sum ≤ 8) (hk : k + mc' ≤ mc) (hn : n + ms' ≤ ms) (kk : ∀ (r : Option Value) (hh' : zH) (sz' : Nat), P' r hh' sz' → zS M G d mc ms (k + mc') (n + ms') hh' sz' (pc + 3) lv (r.toList ++ rest) Post) {st : List Value} (hst : st = as.reverse ++ .ref b :: rest) : zS M G d mc ms k n hh sz pc lv st Post := by
  intro p l e R s m args below meth c Q hX hf hl hc hs hE H locs ls hW hS hL
  obtain ⟨hx, hb, hml, hown, hts, hr, hlk, hin, hK⟩ := id hX
  have hR : ({ frames := d', cells := mc', slots := ms', locals := 31 * d' } : Room).frames + 1 ≤ R.frames ∧ 8 + (My.2.2.1 + 11) + ({ frames := d', cells := mc', slots := ms', locals := 31 * d' } : Room).locals ≤ R.locals := ⟨by show d' + 1 ≤ _; omega, by show 8 + (My.2.2.1 + 11) + 31 * d' ≤ _; omega⟩
  subst hst
  obtain ⟨q1, q2, q3, q4, q5, q6⟩ := hq
  exact z_cont (va_runVN (C := (zc ci).1) (As := as) (rest := rest) ⟨hx, hb, hml, hown, fun w hw => hts w hw⟩ (hC l) ⟨va_cnB (ws' := zT) as.length hts (z_goodIn q2) rfl rfl rfl (hK.2.2.2.2.2.1 _ q1) (hts _ q3) hpar hR, hts _ q4, hts _ q5⟩ ⟨z_blind, va_recv hK.1 (hW.one he) (ci := ci) (q0 := 0) (zc_at q6) rfl, fun U hU hw => ⟨rfl, z_start hK hW hS hU hw⟩⟩ rfl rfl hL.size rfl (lv_room hwt) hd ⟨Nat.le_trans hk hc, Nat.le_trans hn hs⟩) hS (fun r hh1 sz1 H1 locs1 hp hW1 hS1 => kk r hh1 sz1 hp p l e R s m args below meth c Q hX hf hl hc hs hE H1 locs1 ls hW1 hS1 hL)
theorem z_callI {b : Nat} (hC : zC G d' My y (.ref b :: as) hh sz mc' ms' P') (hd : decode M.2.1 pc = .ok (.invokespecial idx, 3)) (hq : Cond.methodLink M.1 idx y ∈ zT ∧ Cond.code y My.2.1 My.2.2.1 none ∈ zT ∧ Cond.initialized y.cls ∈ zT ∧ Cond.instanceMethod y ∈ zT ∧ y.name = "<init>") (hret : My.2.2.2.1 = none) (hroom : d' + 1 ≤ d ∧ My.2.2.1 ≤ 12) (hpar : zpar y as.length) (hwt : (rest.map fun v => v.category).sum ≤ 8) (hk : k + mc' ≤ mc) (hn : n + ms' ≤ ms) (kk : ∀ (r : Option Value) (hh' : zH) (sz' : Nat), P' r hh' sz' → zS M G d mc ms (k + mc') (n + ms') hh' sz' (pc + 3) lv (r.toList ++ rest) Post) {st : List Value} (hst : st = as.reverse ++ .ref b :: rest) : zS M G d mc ms k n hh sz pc lv st Post := by
  intro p l e R s m args below meth c Q hX hf hl hc hs hE H locs ls hW hS hL
  obtain ⟨hx, hb, hml, hown, hts, hr, hlk, hin, hK⟩ := id hX
  have hR : ({ frames := d', cells := mc', slots := ms', locals := 31 * d' } : Room).frames + 1 ≤ R.frames ∧ 8 + (My.2.2.1 + 11) + ({ frames := d', cells := mc', slots := ms', locals := 31 * d' } : Room).locals ≤ R.locals := ⟨by show d' + 1 ≤ _; omega, by show 8 + (My.2.2.1 + 11) + 31 * d' ≤ _; omega⟩
  subst hst
  obtain ⟨q1, q2, q3, q4, q5⟩ := hq
  exact z_cont (va_runI (As := as) (rest := rest) ⟨hx, hb, hml, hown, fun w hw => hts w hw⟩ (show Met l y (.code y My.2.1 My.2.2.1 none :: zT) _ _ _ _ _ _ from by rw [← hret]; exact hC l) ⟨callB_of (ws' := zT) as.length hts (z_goodIn q2) rfl rfl rfl (hts _ q3) (hts _ q1) hpar hR, q5, hts _ q4⟩ ⟨z_blind, fun U hU hw => ⟨rfl, z_start hK hW hS hU hw⟩⟩ rfl rfl hL.size rfl (lv_room hwt) hd ⟨Nat.le_trans hk hc, Nat.le_trans hn hs⟩) hS (fun r hh1 sz1 H1 locs1 hp hW1 hS1 => kk r hh1 sz1 hp p l e R s m args below meth c Q hX hf hl hc hs hE H1 locs1 ls hW1 hS1 hL)
theorem z_callIN {b : Nat} (hC : zC G d' My y (.ref b :: as) hh sz mc' ms' P') (hd : decode M.2.1 pc = .ok (.invokespecial idx, 3)) (hq : Cond.methodLinkNest M.1 idx y "WindowLetters" ∈ zN ∧ Cond.code y My.2.1 My.2.2.1 none ∈ zT ∧ Cond.initialized y.cls ∈ zT ∧ Cond.instanceMethod y ∈ zT ∧ y.name = "<init>") (hret : My.2.2.2.1 = none) (hroom : d' + 1 ≤ d ∧ My.2.2.1 ≤ 12) (hpar : zpar y as.length) (hwt : (rest.map fun v => v.category).sum ≤ 8) (hk : k + mc' ≤ mc) (hn : n + ms' ≤ ms) (kk : ∀ (r : Option Value) (hh' : zH) (sz' : Nat), P' r hh' sz' → zS M G d mc ms (k + mc') (n + ms') hh' sz' (pc + 3) lv (r.toList ++ rest) Post) {st : List Value} (hst : st = as.reverse ++ .ref b :: rest) : zS M G d mc ms k n hh sz pc lv st Post := by
  intro p l e R s m args below meth c Q hX hf hl hc hs hE H locs ls hW hS hL
  obtain ⟨hx, hb, hml, hown, hts, hr, hlk, hin, hK⟩ := id hX
  have hR : ({ frames := d', cells := mc', slots := ms', locals := 31 * d' } : Room).frames + 1 ≤ R.frames ∧ 8 + (My.2.2.1 + 11) + ({ frames := d', cells := mc', slots := ms', locals := 31 * d' } : Room).locals ≤ R.locals := ⟨by show d' + 1 ≤ _; omega, by show 8 + (My.2.2.1 + 11) + 31 * d' ≤ _; omega⟩
  subst hst
  obtain ⟨q1, q2, q3, q4, q5⟩ := hq
  exact z_cont (va_runIN (As := as) (rest := rest) ⟨hx, hb, hml, hown, fun w hw => hts w hw⟩ (show Met l y (.code y My.2.1 My.2.2.1 none :: zT) _ _ _ _ _ _ from by rw [← hret]; exact hC l) ⟨va_cnB (ws' := zT) as.length hts (z_goodIn q2) rfl rfl rfl (hK.2.2.2.2.2.1 _ q1) (hts _ q3) hpar hR, q5, hts _ q4⟩ ⟨z_blind, fun U hU hw => ⟨rfl, z_start hK hW hS hU hw⟩⟩ rfl rfl hL.size rfl (lv_room hwt) hd ⟨Nat.le_trans hk hc, Nat.le_trans hn hs⟩) hS (fun r hh1 sz1 H1 locs1 hp hW1 hS1 => kk r hh1 sz1 hp p l e R s m args below meth c Q hX hf hl hc hs hE H1 locs1 ls hW1 hS1 hL)
end ZCALL
section ZOI
variable {M : zM} {G : zG} {d mc ms k n : Nat} {hh : zH} {sz : Nat} {pc : Nat} {lv : List (Option Value)} {rest : List Value} {Post : Option Value → zH → Nat → Nat → Nat → Prop}
theorem z_objInit {idx b : Nat} (hd : decode M.2.1 pc = .ok (.invokespecial idx, 3)) (hq : Cond.methodLink M.1 idx objectInit ∈ zT ∧ Cond.instanceMethod objectInit ∈ zT ∧ Cond.code objectInit ⟨#[0xb1]⟩ 1 none ∈ zT) (h1 : 1 ≤ d) (hwt : (rest.map fun v => v.category).sum ≤ 8) (kk : zS M G d mc ms k n hh sz (pc + 3) lv rest Post) : zS M G d mc ms k n hh sz pc lv (.ref b :: rest) Post := by
  intro p l e R s m args below meth c Q hX hf hl hc hs hE H locs ls hW hS hL
  obtain ⟨hx, hb, hml, hown, hts, hr, hlk, hin, hK⟩ := id hX
  have hw : 2 * (F0 m pc ls (Value.ref b :: rest)).monitorRoom + (rest.map fun v => v.category).sum ≤ 8 := lv_room hwt
  exact W.objInit hx hb hown (hts _ hq.1) (hts _ hq.2.1) (hts _ hq.2.2) rfl (by rw [hml]; exact hL.size) rfl hd (by omega) (by omega) (kk p l e R s m args below meth c Q hX hf hl hc hs hE H locs ls hW hS hL)
end ZOI
end
