section
-- ===== PART A: goes FIRST, ahead of the names: the tables' words, and 'selects' of the private methods out of them =====
/-- a private method of a class that the tables say can be made, by its rows of tables_1 -/
def lw_okq (q : MethodName × Nat) : Prop := (q.1.cls ≠ "java/lang/invoke/MethodHandle" ∧ q.1.cls ≠ "java/lang/invoke/VarHandle") ∧ Cond.instantiable q.1.cls q.2 ∈ tables_1 ∧ Cond.privateMethod q.1 ∈ tables_1 ∧ Cond.instanceMethod q.1 ∈ tables_1
theorem lw_p0 : lw_okq (⟨"WindowLetters", "newDraft", "()LWindowLetters$Shop;"⟩, 7) := ⟨⟨by decide +kernel, by decide +kernel⟩, List.mem_of_getElem? (i := 17) (by decide +kernel), List.mem_of_getElem? (i := 224) (by decide +kernel), List.mem_of_getElem? (i := 225) (by decide +kernel)⟩
theorem lw_p1 : lw_okq (⟨"WindowLetters", "settle", "(I)I"⟩, 7) := ⟨⟨by decide +kernel, by decide +kernel⟩, List.mem_of_getElem? (i := 17) (by decide +kernel), List.mem_of_getElem? (i := 244) (by decide +kernel), List.mem_of_getElem? (i := 245) (by decide +kernel)⟩
theorem lw_p2 : lw_okq (⟨"WindowLetters$Sheet", "freeColumns", "(III)I"⟩, 4) := ⟨⟨by decide +kernel, by decide +kernel⟩, List.mem_of_getElem? (i := 68) (by decide +kernel), List.mem_of_getElem? (i := 278) (by decide +kernel), List.mem_of_getElem? (i := 279) (by decide +kernel)⟩
theorem lw_p3 : lw_okq (⟨"WindowLetters$Shop", "addPiece", "(IIIII)I"⟩, 6) := ⟨⟨by decide +kernel, by decide +kernel⟩, List.mem_of_getElem? (i := 59) (by decide +kernel), List.mem_of_getElem? (i := 292) (by decide +kernel), List.mem_of_getElem? (i := 293) (by decide +kernel)⟩
theorem lw_p4 : lw_okq (⟨"WindowLetters$Shop", "lowestLoose", "(III)I"⟩, 6) := ⟨⟨by decide +kernel, by decide +kernel⟩, List.mem_of_getElem? (i := 59) (by decide +kernel), List.mem_of_getElem? (i := 447) (by decide +kernel), List.mem_of_getElem? (i := 448) (by decide +kernel)⟩
theorem lw_p5 : lw_okq (⟨"WindowLetters$Shop", "piecesIn", "(I)I"⟩, 6) := ⟨⟨by decide +kernel, by decide +kernel⟩, List.mem_of_getElem? (i := 59) (by decide +kernel), List.mem_of_getElem? (i := 463) (by decide +kernel), List.mem_of_getElem? (i := 464) (by decide +kernel)⟩
theorem lw_p6 : lw_okq (⟨"WindowLettersModel", "record", "()V"⟩, 10) := ⟨⟨by decide +kernel, by decide +kernel⟩, List.mem_of_getElem? (i := 636) (by decide +kernel), List.mem_of_getElem? (i := 706) (by decide +kernel), List.mem_of_getElem? (i := 707) (by decide +kernel)⟩
theorem lw_p7 : lw_okq (⟨"WindowLettersModel", "isSheet", "(I)Z"⟩, 10) := ⟨⟨by decide +kernel, by decide +kernel⟩, List.mem_of_getElem? (i := 636) (by decide +kernel), List.mem_of_getElem? (i := 717) (by decide +kernel), List.mem_of_getElem? (i := 718) (by decide +kernel)⟩
theorem lw_p8 : lw_okq (⟨"WindowLettersModel", "canCut", "(IIIII)Z"⟩, 10) := ⟨⟨by decide +kernel, by decide +kernel⟩, List.mem_of_getElem? (i := 636) (by decide +kernel), List.mem_of_getElem? (i := 724) (by decide +kernel), List.mem_of_getElem? (i := 725) (by decide +kernel)⟩
theorem lw_p9 : lw_okq (⟨"WindowLettersModel", "shapeOf", "(III)I"⟩, 10) := ⟨⟨by decide +kernel, by decide +kernel⟩, List.mem_of_getElem? (i := 636) (by decide +kernel), List.mem_of_getElem? (i := 728) (by decide +kernel), List.mem_of_getElem? (i := 729) (by decide +kernel)⟩
theorem lw_p10 : lw_okq (⟨"WindowLettersModel", "newPiece", "(IIIII)I"⟩, 10) := ⟨⟨by decide +kernel, by decide +kernel⟩, List.mem_of_getElem? (i := 636) (by decide +kernel), List.mem_of_getElem? (i := 732) (by decide +kernel), List.mem_of_getElem? (i := 733) (by decide +kernel)⟩
theorem lw_p11 : lw_okq (⟨"WindowLettersModel", "cutsOut", "(IIIII)V"⟩, 10) := ⟨⟨by decide +kernel, by decide +kernel⟩, List.mem_of_getElem? (i := 636) (by decide +kernel), List.mem_of_getElem? (i := 736) (by decide +kernel), List.mem_of_getElem? (i := 737) (by decide +kernel)⟩
theorem lw_p12 : lw_okq (⟨"WindowLettersModel", "sheetFor", "(III)I"⟩, 10) := ⟨⟨by decide +kernel, by decide +kernel⟩, List.mem_of_getElem? (i := 636) (by decide +kernel), List.mem_of_getElem? (i := 747) (by decide +kernel), List.mem_of_getElem? (i := 748) (by decide +kernel)⟩
theorem lw_p13 : lw_okq (⟨"WindowLettersModel", "findsFit", "(III)Z"⟩, 10) := ⟨⟨by decide +kernel, by decide +kernel⟩, List.mem_of_getElem? (i := 636) (by decide +kernel), List.mem_of_getElem? (i := 751) (by decide +kernel), List.mem_of_getElem? (i := 752) (by decide +kernel)⟩
theorem lw_p14 : lw_okq (⟨"WindowLettersModel", "canBeWritten", "(IIII)Z"⟩, 10) := ⟨⟨by decide +kernel, by decide +kernel⟩, List.mem_of_getElem? (i := 636) (by decide +kernel), List.mem_of_getElem? (i := 769) (by decide +kernel), List.mem_of_getElem? (i := 770) (by decide +kernel)⟩
theorem lw_p15 : lw_okq (⟨"WindowLettersModel", "putAside", "()V"⟩, 10) := ⟨⟨by decide +kernel, by decide +kernel⟩, List.mem_of_getElem? (i := 636) (by decide +kernel), List.mem_of_getElem? (i := 773) (by decide +kernel), List.mem_of_getElem? (i := 774) (by decide +kernel)⟩
def lw_privs_1 : List (MethodName × Nat) := [(⟨"WindowLetters", "newDraft", "()LWindowLetters$Shop;"⟩, 7), (⟨"WindowLetters", "settle", "(I)I"⟩, 7), (⟨"WindowLetters$Sheet", "freeColumns", "(III)I"⟩, 4), (⟨"WindowLetters$Shop", "addPiece", "(IIIII)I"⟩, 6), (⟨"WindowLetters$Shop", "lowestLoose", "(III)I"⟩, 6), (⟨"WindowLetters$Shop", "piecesIn", "(I)I"⟩, 6), (⟨"WindowLettersModel", "record", "()V"⟩, 10), (⟨"WindowLettersModel", "isSheet", "(I)Z"⟩, 10), (⟨"WindowLettersModel", "canCut", "(IIIII)Z"⟩, 10), (⟨"WindowLettersModel", "shapeOf", "(III)I"⟩, 10), (⟨"WindowLettersModel", "newPiece", "(IIIII)I"⟩, 10), (⟨"WindowLettersModel", "cutsOut", "(IIIII)V"⟩, 10), (⟨"WindowLettersModel", "sheetFor", "(III)I"⟩, 10), (⟨"WindowLettersModel", "findsFit", "(III)Z"⟩, 10), (⟨"WindowLettersModel", "canBeWritten", "(IIII)Z"⟩, 10), (⟨"WindowLettersModel", "putAside", "()V"⟩, 10)]
theorem lw_r1 : ∀ q ∈ lw_privs_1, lw_okq q := List.forall_mem_cons.mpr ⟨lw_p0, List.forall_mem_cons.mpr ⟨lw_p1, List.forall_mem_cons.mpr ⟨lw_p2, List.forall_mem_cons.mpr ⟨lw_p3, List.forall_mem_cons.mpr ⟨lw_p4, List.forall_mem_cons.mpr ⟨lw_p5, List.forall_mem_cons.mpr ⟨lw_p6, List.forall_mem_cons.mpr ⟨lw_p7, List.forall_mem_cons.mpr ⟨lw_p8, List.forall_mem_cons.mpr ⟨lw_p9, List.forall_mem_cons.mpr ⟨lw_p10, List.forall_mem_cons.mpr ⟨lw_p11, List.forall_mem_cons.mpr ⟨lw_p12, List.forall_mem_cons.mpr ⟨lw_p13, List.forall_mem_cons.mpr ⟨lw_p14, List.forall_mem_cons.mpr ⟨lw_p15, fun _ h => absurd h List.not_mem_nil⟩⟩⟩⟩⟩⟩⟩⟩⟩⟩⟩⟩⟩⟩⟩⟩
theorem lw_p16 : lw_okq (⟨"WindowLettersModel", "writes", "(IIII)Z"⟩, 10) := ⟨⟨by decide +kernel, by decide +kernel⟩, List.mem_of_getElem? (i := 636) (by decide +kernel), List.mem_of_getElem? (i := 777) (by decide +kernel), List.mem_of_getElem? (i := 778) (by decide +kernel)⟩
theorem lw_p17 : lw_okq (⟨"WindowLettersModel", "pieceAt", "(II)I"⟩, 10) := ⟨⟨by decide +kernel, by decide +kernel⟩, List.mem_of_getElem? (i := 636) (by decide +kernel), List.mem_of_getElem? (i := 781) (by decide +kernel), List.mem_of_getElem? (i := 782) (by decide +kernel)⟩
theorem lw_p18 : lw_okq (⟨"WindowLettersModel", "pieceFor", "(III)I"⟩, 10) := ⟨⟨by decide +kernel, by decide +kernel⟩, List.mem_of_getElem? (i := 636) (by decide +kernel), List.mem_of_getElem? (i := 785) (by decide +kernel), List.mem_of_getElem? (i := 786) (by decide +kernel)⟩
theorem lw_p19 : lw_okq (⟨"WindowLettersModel", "looseOne", "(III)I"⟩, 10) := ⟨⟨by decide +kernel, by decide +kernel⟩, List.mem_of_getElem? (i := 636) (by decide +kernel), List.mem_of_getElem? (i := 789) (by decide +kernel), List.mem_of_getElem? (i := 790) (by decide +kernel)⟩
theorem lw_p20 : lw_okq (⟨"WindowLettersModel", "puts", "(III)V"⟩, 10) := ⟨⟨by decide +kernel, by decide +kernel⟩, List.mem_of_getElem? (i := 636) (by decide +kernel), List.mem_of_getElem? (i := 793) (by decide +kernel), List.mem_of_getElem? (i := 794) (by decide +kernel)⟩
theorem lw_p21 : lw_okq (⟨"WindowLettersModel", "putBack", "()V"⟩, 10) := ⟨⟨by decide +kernel, by decide +kernel⟩, List.mem_of_getElem? (i := 636) (by decide +kernel), List.mem_of_getElem? (i := 797) (by decide +kernel), List.mem_of_getElem? (i := 798) (by decide +kernel)⟩
theorem lw_p22 : lw_okq (⟨"WindowLettersModel", "isPiece", "(I)Z"⟩, 10) := ⟨⟨by decide +kernel, by decide +kernel⟩, List.mem_of_getElem? (i := 636) (by decide +kernel), List.mem_of_getElem? (i := 805) (by decide +kernel), List.mem_of_getElem? (i := 806) (by decide +kernel)⟩
theorem lw_p23 : lw_okq (⟨"WindowLettersModel", "isLoose", "(I)Z"⟩, 10) := ⟨⟨by decide +kernel, by decide +kernel⟩, List.mem_of_getElem? (i := 636) (by decide +kernel), List.mem_of_getElem? (i := 809) (by decide +kernel), List.mem_of_getElem? (i := 810) (by decide +kernel)⟩
theorem lw_p24 : lw_okq (⟨"WindowLettersModel", "inPane", "(I)I"⟩, 10) := ⟨⟨by decide +kernel, by decide +kernel⟩, List.mem_of_getElem? (i := 636) (by decide +kernel), List.mem_of_getElem? (i := 813) (by decide +kernel), List.mem_of_getElem? (i := 814) (by decide +kernel)⟩
theorem lw_p25 : lw_okq (⟨"WindowLettersModel", "squaresOf", "(I)I"⟩, 10) := ⟨⟨by decide +kernel, by decide +kernel⟩, List.mem_of_getElem? (i := 636) (by decide +kernel), List.mem_of_getElem? (i := 825) (by decide +kernel), List.mem_of_getElem? (i := 826) (by decide +kernel)⟩
theorem lw_p26 : lw_okq (⟨"WindowLettersModel", "uncut", "(I)I"⟩, 10) := ⟨⟨by decide +kernel, by decide +kernel⟩, List.mem_of_getElem? (i := 636) (by decide +kernel), List.mem_of_getElem? (i := 836) (by decide +kernel), List.mem_of_getElem? (i := 837) (by decide +kernel)⟩
theorem lw_p27 : lw_okq (⟨"WindowLettersModel", "piecesFrom", "(I)I"⟩, 10) := ⟨⟨by decide +kernel, by decide +kernel⟩, List.mem_of_getElem? (i := 636) (by decide +kernel), List.mem_of_getElem? (i := 848) (by decide +kernel), List.mem_of_getElem? (i := 849) (by decide +kernel)⟩
theorem lw_p28 : lw_okq (⟨"WindowLettersModel", "lettersThatFit", "(I)I"⟩, 10) := ⟨⟨by decide +kernel, by decide +kernel⟩, List.mem_of_getElem? (i := 636) (by decide +kernel), List.mem_of_getElem? (i := 852) (by decide +kernel), List.mem_of_getElem? (i := 853) (by decide +kernel)⟩
theorem lw_p29 : lw_okq (⟨"WindowLettersModel", "piecesThatAre", "(I)I"⟩, 10) := ⟨⟨by decide +kernel, by decide +kernel⟩, List.mem_of_getElem? (i := 636) (by decide +kernel), List.mem_of_getElem? (i := 872) (by decide +kernel), List.mem_of_getElem? (i := 873) (by decide +kernel)⟩
theorem lw_p30 : lw_okq (⟨"WindowLettersModel", "squaresOfSheets", "()I"⟩, 10) := ⟨⟨by decide +kernel, by decide +kernel⟩, List.mem_of_getElem? (i := 636) (by decide +kernel), List.mem_of_getElem? (i := 876) (by decide +kernel), List.mem_of_getElem? (i := 877) (by decide +kernel)⟩
theorem lw_p31 : lw_okq (⟨"WindowLettersModel", "squaresOfPieces", "()I"⟩, 10) := ⟨⟨by decide +kernel, by decide +kernel⟩, List.mem_of_getElem? (i := 636) (by decide +kernel), List.mem_of_getElem? (i := 880) (by decide +kernel), List.mem_of_getElem? (i := 881) (by decide +kernel)⟩
def lw_privs_2 : List (MethodName × Nat) := [(⟨"WindowLettersModel", "writes", "(IIII)Z"⟩, 10), (⟨"WindowLettersModel", "pieceAt", "(II)I"⟩, 10), (⟨"WindowLettersModel", "pieceFor", "(III)I"⟩, 10), (⟨"WindowLettersModel", "looseOne", "(III)I"⟩, 10), (⟨"WindowLettersModel", "puts", "(III)V"⟩, 10), (⟨"WindowLettersModel", "putBack", "()V"⟩, 10), (⟨"WindowLettersModel", "isPiece", "(I)Z"⟩, 10), (⟨"WindowLettersModel", "isLoose", "(I)Z"⟩, 10), (⟨"WindowLettersModel", "inPane", "(I)I"⟩, 10), (⟨"WindowLettersModel", "squaresOf", "(I)I"⟩, 10), (⟨"WindowLettersModel", "uncut", "(I)I"⟩, 10), (⟨"WindowLettersModel", "piecesFrom", "(I)I"⟩, 10), (⟨"WindowLettersModel", "lettersThatFit", "(I)I"⟩, 10), (⟨"WindowLettersModel", "piecesThatAre", "(I)I"⟩, 10), (⟨"WindowLettersModel", "squaresOfSheets", "()I"⟩, 10), (⟨"WindowLettersModel", "squaresOfPieces", "()I"⟩, 10)]
theorem lw_r2 : ∀ q ∈ lw_privs_2, lw_okq q := List.forall_mem_cons.mpr ⟨lw_p16, List.forall_mem_cons.mpr ⟨lw_p17, List.forall_mem_cons.mpr ⟨lw_p18, List.forall_mem_cons.mpr ⟨lw_p19, List.forall_mem_cons.mpr ⟨lw_p20, List.forall_mem_cons.mpr ⟨lw_p21, List.forall_mem_cons.mpr ⟨lw_p22, List.forall_mem_cons.mpr ⟨lw_p23, List.forall_mem_cons.mpr ⟨lw_p24, List.forall_mem_cons.mpr ⟨lw_p25, List.forall_mem_cons.mpr ⟨lw_p26, List.forall_mem_cons.mpr ⟨lw_p27, List.forall_mem_cons.mpr ⟨lw_p28, List.forall_mem_cons.mpr ⟨lw_p29, List.forall_mem_cons.mpr ⟨lw_p30, List.forall_mem_cons.mpr ⟨lw_p31, fun _ h => absurd h List.not_mem_nil⟩⟩⟩⟩⟩⟩⟩⟩⟩⟩⟩⟩⟩⟩⟩⟩
def lw_privs : List (MethodName × Nat) := lw_privs_1 ++ (lw_privs_2)
def lw_tbl : List Cond := k2_sels lw_privs ++ tables_1
theorem lw_privs_ok : ∀ q ∈ lw_privs, lw_okq q := by
  show ∀ q ∈ lw_privs_1 ++ (lw_privs_2), lw_okq q
  exact List.forall_mem_append.mpr ⟨lw_r1, lw_r2⟩
def RX0 : String := "WindowLetters$History"
def TX0 : u_T := fun k => match k with
  | 0 => ("WindowLetters$History", "shapes", "LWindowLetters$Shapes;", true)
  | 1 => ("WindowLetters$History", "states", "[LWindowLetters$Shop;", true)
  | 2 => ("WindowLetters$History", "oldest", "I", false)
  | _ => ("WindowLetters$History", "length", "I", false)
def tyX0 : Nat → FieldType := fun k => match k with
  | 0 => .object "WindowLetters$Shapes"
  | 1 => .array (.object "WindowLetters$Shop")
  | 2 => .int
  | _ => .int
abbrev wsX00 : List Cond := u_ws RX0 TX0 4
theorem nmX0 : ∀ a, a < 4 → ∀ b, b < 4 → a ≠ b → (TX0 a).2.1 ≠ (TX0 b).2.1 := by decide +kernel
theorem tyX0_ok : ∀ k, k < 4 → parseFieldDescriptor (TX0 k).2.2.1 = some (tyX0 k) := by decide +kernel
abbrev cX0_init : ByteArray := prog_2_method_1_code
def yX0_init : MethodName := ⟨RX0, "<init>", "(LWindowLetters$Shapes;)V"⟩
abbrev cX0_record : ByteArray := prog_2_method_2_code
def yX0_record : MethodName := ⟨RX0, "record", "(LWindowLetters$Shop;)V"⟩
abbrev cX0_takeBack : ByteArray := prog_2_method_3_code
def yX0_takeBack : MethodName := ⟨RX0, "takeBack", "(LWindowLetters$Shop;)Z"⟩
def RX1 : String := "WindowLetters$Pad"
def TX1 : u_T := fun k => match k with
  | 0 => ("WindowLetters$Pad", "signs", "[C", true)
  | _ => ("WindowLetters$Pad", "length", "I", false)
def tyX1 : Nat → FieldType := fun k => match k with
  | 0 => .array .char
  | _ => .int
abbrev wsX10 : List Cond := u_ws RX1 TX1 2
theorem nmX1 : ∀ a, a < 2 → ∀ b, b < 2 → a ≠ b → (TX1 a).2.1 ≠ (TX1 b).2.1 := by decide +kernel
theorem tyX1_ok : ∀ k, k < 2 → parseFieldDescriptor (TX1 k).2.2.1 = some (tyX1 k) := by decide +kernel
abbrev cX1_init : ByteArray := prog_3_method_1_code
def yX1_init : MethodName := ⟨RX1, "<init>", "()V"⟩
abbrev cX1_empty : ByteArray := prog_3_method_2_code
def yX1_empty : MethodName := ⟨RX1, "empty", "()V"⟩
abbrev cX1_append : ByteArray := prog_3_method_3_code
def yX1_append : MethodName := ⟨RX1, "append", "(J)I"⟩
abbrev cX1_signsIn : ByteArray := prog_3_method_4_code
def yX1_signsIn : MethodName := ⟨RX1, "signsIn", "(J)I"⟩
abbrev cX1_codeIn : ByteArray := prog_3_method_5_code
def yX1_codeIn : MethodName := ⟨RX1, "codeIn", "(JI)I"⟩
abbrev cX1_letterAt : ByteArray := prog_3_method_6_code
def yX1_letterAt : MethodName := ⟨RX1, "letterAt", "(I)I"⟩
abbrev cX1_faultIndex : ByteArray := prog_3_method_7_code
def yX1_faultIndex : MethodName := ⟨RX1, "faultIndex", "()I"⟩
def RX2 : String := "WindowLetters$Piece"
def TX2 : u_T := fun k => match k with
  | 0 => ("WindowLetters$Piece", "letter", "I", false)
  | 1 => ("WindowLetters$Piece", "colour", "I", false)
  | 2 => ("WindowLetters$Piece", "way", "I", false)
  | 3 => ("WindowLetters$Piece", "sheet", "I", false)
  | 4 => ("WindowLetters$Piece", "corner", "I", false)
  | 5 => ("WindowLetters$Piece", "state", "I", false)
  | _ => ("WindowLetters$Piece", "spot", "I", false)
def tyX2 : Nat → FieldType := fun k => match k with
  | 0 => .int
  | 1 => .int
  | 2 => .int
  | 3 => .int
  | 4 => .int
  | 5 => .int
  | _ => .int
abbrev wsX20 : List Cond := u_ws RX2 TX2 7
theorem nmX2 : ∀ a, a < 7 → ∀ b, b < 7 → a ≠ b → (TX2 a).2.1 ≠ (TX2 b).2.1 := by decide +kernel
theorem tyX2_ok : ∀ k, k < 7 → parseFieldDescriptor (TX2 k).2.2.1 = some (tyX2 k) := by decide +kernel
abbrev cX2_init : ByteArray := prog_4_method_1_code
def yX2_init : MethodName := ⟨RX2, "<init>", "()V"⟩
abbrev cX2_copyFrom : ByteArray := prog_4_method_2_code
def yX2_copyFrom : MethodName := ⟨RX2, "copyFrom", "(LWindowLetters$Piece;)V"⟩
abbrev cX2_becomeLoose : ByteArray := prog_4_method_3_code
def yX2_becomeLoose : MethodName := ⟨RX2, "becomeLoose", "()V"⟩
def RX3 : String := "WindowLetters$Shapes"
def TX3 : u_T := fun k => match k with
  | _ => ("WindowLetters$Shapes", "rows", "[I", true)
def tyX3 : Nat → FieldType := fun k => match k with
  | _ => .array .int
abbrev wsX30 : List Cond := u_ws RX3 TX3 1
theorem nmX3 : ∀ a, a < 1 → ∀ b, b < 1 → a ≠ b → (TX3 a).2.1 ≠ (TX3 b).2.1 := by decide +kernel
theorem tyX3_ok : ∀ k, k < 1 → parseFieldDescriptor (TX3 k).2.2.1 = some (tyX3 k) := by decide +kernel
abbrev cX3_init : ByteArray := prog_5_method_1_code
def yX3_init : MethodName := ⟨RX3, "<init>", "()V"⟩
abbrev cX3_columnsOf : ByteArray := prog_5_method_2_code
def yX3_columnsOf : MethodName := ⟨RX3, "columnsOf", "(III)I"⟩
abbrev cX3_squaresOf : ByteArray := prog_5_method_3_code
def yX3_squaresOf : MethodName := ⟨RX3, "squaresOf", "(I)I"⟩
abbrev cX3_turnedRow : ByteArray := prog_5_method_4_code
def yX3_turnedRow : MethodName := ⟨RX3, "turnedRow", "(III)I"⟩
abbrev cX3_hasSquare : ByteArray := prog_5_method_5_code
def yX3_hasSquare : MethodName := ⟨RX3, "hasSquare", "(IIII)Z"⟩
abbrev cX3_uprightHas : ByteArray := prog_5_method_6_code
def yX3_uprightHas : MethodName := ⟨RX3, "uprightHas", "(III)Z"⟩
def RX4 : String := "WindowLetters$Sheet"
def TX4 : u_T := fun k => match k with
  | 0 => ("WindowLetters$Sheet", "shapes", "LWindowLetters$Shapes;", true)
  | 1 => ("WindowLetters$Sheet", "cutColumns", "[I", true)
  | 2 => ("WindowLetters$Sheet", "colour", "I", false)
  | _ => ("WindowLetters$Sheet", "scrapped", "Z", false)
def tyX4 : Nat → FieldType := fun k => match k with
  | 0 => .object "WindowLetters$Shapes"
  | 1 => .array .int
  | 2 => .int
  | _ => .boolean
abbrev wsX40 : List Cond := u_ws RX4 TX4 4
theorem nmX4 : ∀ a, a < 4 → ∀ b, b < 4 → a ≠ b → (TX4 a).2.1 ≠ (TX4 b).2.1 := by decide +kernel
theorem tyX4_ok : ∀ k, k < 4 → parseFieldDescriptor (TX4 k).2.2.1 = some (tyX4 k) := by decide +kernel
abbrev cX4_init : ByteArray := prog_6_method_1_code
def yX4_init : MethodName := ⟨RX4, "<init>", "(LWindowLetters$Shapes;)V"⟩
abbrev cX4_copyFrom : ByteArray := prog_6_method_2_code
def yX4_copyFrom : MethodName := ⟨RX4, "copyFrom", "(LWindowLetters$Sheet;)V"⟩
abbrev cX4_canCut : ByteArray := prog_6_method_3_code
def yX4_canCut : MethodName := ⟨RX4, "canCut", "(IIII)Z"⟩
abbrev cX4_freeColumns : ByteArray := prog_6_method_4_code
def yX4_freeColumns : MethodName := ⟨RX4, "freeColumns", "(III)I"⟩
abbrev cX4_cutOut : ByteArray := prog_6_method_5_code
def yX4_cutOut : MethodName := ⟨RX4, "cutOut", "(IIII)V"⟩
abbrev cX4_isOnSheet : ByteArray := prog_6_method_6_code
def yX4_isOnSheet : MethodName := ⟨RX4, "isOnSheet", "(III)Z"⟩
abbrev cX4_firstFit : ByteArray := prog_6_method_7_code
def yX4_firstFit : MethodName := ⟨RX4, "firstFit", "(II)I"⟩
abbrev cX4_cutUp : ByteArray := prog_6_method_8_code
def yX4_cutUp : MethodName := ⟨RX4, "cutUp", "(II)I"⟩
abbrev cX4_allFits : ByteArray := prog_6_method_9_code
def yX4_allFits : MethodName := ⟨RX4, "allFits", "(I)I"⟩
abbrev cX4_lettersThatFit : ByteArray := prog_6_method_10_code
def yX4_lettersThatFit : MethodName := ⟨RX4, "lettersThatFit", "()I"⟩
abbrev cX4_squaresLeft : ByteArray := prog_6_method_11_code
def yX4_squaresLeft : MethodName := ⟨RX4, "squaresLeft", "()I"⟩
def RX5 : String := "WindowLetters$Shop"
def TX5 : u_T := fun k => match k with
  | 0 => ("WindowLetters$Shop", "shapes", "LWindowLetters$Shapes;", true)
  | 1 => ("WindowLetters$Shop", "sheets", "[LWindowLetters$Sheet;", true)
  | 2 => ("WindowLetters$Shop", "pieces", "[LWindowLetters$Piece;", true)
  | 3 => ("WindowLetters$Shop", "spots", "[I", true)
  | 4 => ("WindowLetters$Shop", "sheetCount", "I", false)
  | _ => ("WindowLetters$Shop", "pieceCount", "I", false)
def tyX5 : Nat → FieldType := fun k => match k with
  | 0 => .object "WindowLetters$Shapes"
  | 1 => .array (.object "WindowLetters$Sheet")
  | 2 => .array (.object "WindowLetters$Piece")
  | 3 => .array .int
  | 4 => .int
  | _ => .int
abbrev wsX50 : List Cond := u_ws RX5 TX5 6
theorem nmX5 : ∀ a, a < 6 → ∀ b, b < 6 → a ≠ b → (TX5 a).2.1 ≠ (TX5 b).2.1 := by decide +kernel
theorem tyX5_ok : ∀ k, k < 6 → parseFieldDescriptor (TX5 k).2.2.1 = some (tyX5 k) := by decide +kernel
abbrev cX5_init : ByteArray := prog_7_method_1_code
def yX5_init : MethodName := ⟨RX5, "<init>", "(LWindowLetters$Shapes;)V"⟩
abbrev cX5_copyFrom : ByteArray := prog_7_method_2_code
def yX5_copyFrom : MethodName := ⟨RX5, "copyFrom", "(LWindowLetters$Shop;)V"⟩
abbrev cX5_sheetAt : ByteArray := prog_7_method_3_code
def yX5_sheetAt : MethodName := ⟨RX5, "sheetAt", "(I)LWindowLetters$Sheet;"⟩
abbrev cX5_pieceAt : ByteArray := prog_7_method_4_code
def yX5_pieceAt : MethodName := ⟨RX5, "pieceAt", "(I)LWindowLetters$Piece;"⟩
abbrev cX5_addSheet : ByteArray := prog_7_method_5_code
def yX5_addSheet : MethodName := ⟨RX5, "addSheet", "(I)I"⟩
abbrev cX5_cutPiece : ByteArray := prog_7_method_6_code
def yX5_cutPiece : MethodName := ⟨RX5, "cutPiece", "(IIIII)I"⟩
abbrev cX5_addPiece : ByteArray := prog_7_method_7_code
def yX5_addPiece : MethodName := ⟨RX5, "addPiece", "(IIIII)I"⟩
abbrev cX5_makePiece : ByteArray := prog_7_method_8_code
def yX5_makePiece : MethodName := ⟨RX5, "makePiece", "(III)I"⟩
abbrev cX5_writeName : ByteArray := prog_7_method_9_code
def yX5_writeName : MethodName := ⟨RX5, "writeName", "(LWindowLetters$Pad;IIII)I"⟩
abbrev cX5_lowestLoose : ByteArray := prog_7_method_10_code
def yX5_lowestLoose : MethodName := ⟨RX5, "lowestLoose", "(III)I"⟩
abbrev cX5_putIntoPane : ByteArray := prog_7_method_11_code
def yX5_putIntoPane : MethodName := ⟨RX5, "putIntoPane", "(III)I"⟩
abbrev cX5_clearPane : ByteArray := prog_7_method_12_code
def yX5_clearPane : MethodName := ⟨RX5, "clearPane", "(I)I"⟩
abbrev cX5_wastePiece : ByteArray := prog_7_method_13_code
def yX5_wastePiece : MethodName := ⟨RX5, "wastePiece", "(I)I"⟩
abbrev cX5_scrapSheet : ByteArray := prog_7_method_14_code
def yX5_scrapSheet : MethodName := ⟨RX5, "scrapSheet", "(I)I"⟩
abbrev cX5_piecesIn : ByteArray := prog_7_method_15_code
def yX5_piecesIn : MethodName := ⟨RX5, "piecesIn", "(I)I"⟩
abbrev cX5_piecesFrom : ByteArray := prog_7_method_16_code
def yX5_piecesFrom : MethodName := ⟨RX5, "piecesFrom", "(I)I"⟩
abbrev cX5_piecesThatAre : ByteArray := prog_7_method_17_code
def yX5_piecesThatAre : MethodName := ⟨RX5, "piecesThatAre", "(I)I"⟩
abbrev cX5_squaresOfPieces : ByteArray := prog_7_method_18_code
def yX5_squaresOfPieces : MethodName := ⟨RX5, "squaresOfPieces", "(I)I"⟩
abbrev cX5_squaresOfSheets : ByteArray := prog_7_method_19_code
def yX5_squaresOfSheets : MethodName := ⟨RX5, "squaresOfSheets", "(Z)I"⟩
def RX6 : String := "WindowLetters"
def TX6 : u_T := fun k => match k with
  | 0 => ("WindowLetters", "shapes", "LWindowLetters$Shapes;", true)
  | 1 => ("WindowLetters", "shop", "LWindowLetters$Shop;", true)
  | 2 => ("WindowLetters", "draft", "LWindowLetters$Shop;", true)
  | 3 => ("WindowLetters", "trialSheet", "LWindowLetters$Sheet;", true)
  | 4 => ("WindowLetters", "slots", "[LWindowLetters$Shop;", true)
  | 5 => ("WindowLetters", "history", "LWindowLetters$History;", true)
  | _ => ("WindowLetters", "pad", "LWindowLetters$Pad;", true)
def tyX6 : Nat → FieldType := fun k => match k with
  | 0 => .object "WindowLetters$Shapes"
  | 1 => .object "WindowLetters$Shop"
  | 2 => .object "WindowLetters$Shop"
  | 3 => .object "WindowLetters$Sheet"
  | 4 => .array (.object "WindowLetters$Shop")
  | 5 => .object "WindowLetters$History"
  | _ => .object "WindowLetters$Pad"
abbrev wsX60 : List Cond := u_ws RX6 TX6 7
theorem nmX6 : ∀ a, a < 7 → ∀ b, b < 7 → a ≠ b → (TX6 a).2.1 ≠ (TX6 b).2.1 := by decide +kernel
theorem tyX6_ok : ∀ k, k < 7 → parseFieldDescriptor (TX6 k).2.2.1 = some (tyX6 k) := by decide +kernel
abbrev cX6_init : ByteArray := prog_1_method_1_code
def yX6_init : MethodName := ⟨RX6, "<init>", "()V"⟩
abbrev cX6_sheet : ByteArray := prog_1_method_2_code
def yX6_sheet : MethodName := ⟨RX6, "sheet", "(I)I"⟩
abbrev cX6_cut : ByteArray := prog_1_method_3_code
def yX6_cut : MethodName := ⟨RX6, "cut", "(IIIII)I"⟩
abbrev cX6_make : ByteArray := prog_1_method_4_code
def yX6_make : MethodName := ⟨RX6, "make", "(III)I"⟩
abbrev cX6_write : ByteArray := prog_1_method_5_code
def yX6_write : MethodName := ⟨RX6, "write", "(IIII)I"⟩
abbrev cX6_place : ByteArray := prog_1_method_6_code
def yX6_place : MethodName := ⟨RX6, "place", "(III)I"⟩
abbrev cX6_clear : ByteArray := prog_1_method_7_code
def yX6_clear : MethodName := ⟨RX6, "clear", "(I)I"⟩
abbrev cX6_throwAway : ByteArray := prog_1_method_8_code
def yX6_throwAway : MethodName := ⟨RX6, "throwAway", "(I)I"⟩
abbrev cX6_scrap : ByteArray := prog_1_method_9_code
def yX6_scrap : MethodName := ⟨RX6, "scrap", "(I)I"⟩
abbrev cX6_of : ByteArray := prog_1_method_10_code
def yX6_of : MethodName := ⟨RX6, "of", "(II)I"⟩
abbrev cX6_ofSheet : ByteArray := prog_1_method_11_code
def yX6_ofSheet : MethodName := ⟨RX6, "ofSheet", "(II)I"⟩
abbrev cX6_row : ByteArray := prog_1_method_12_code
def yX6_row : MethodName := ⟨RX6, "row", "(II)I"⟩
abbrev cX6_pane : ByteArray := prog_1_method_13_code
def yX6_pane : MethodName := ⟨RX6, "pane", "(II)I"⟩
abbrev cX6_shape : ByteArray := prog_1_method_14_code
def yX6_shape : MethodName := ⟨RX6, "shape", "(III)I"⟩
abbrev cX6_count : ByteArray := prog_1_method_15_code
def yX6_count : MethodName := ⟨RX6, "count", "(I)I"⟩
abbrev cX6_fit : ByteArray := prog_1_method_16_code
def yX6_fit : MethodName := ⟨RX6, "fit", "(IIII)I"⟩
abbrev cX6_manyOf : ByteArray := prog_1_method_17_code
def yX6_manyOf : MethodName := ⟨RX6, "manyOf", "(III)I"⟩
abbrev cX6_fits : ByteArray := prog_1_method_18_code
def yX6_fits : MethodName := ⟨RX6, "fits", "(II)I"⟩
abbrev cX6_colours : ByteArray := prog_1_method_19_code
def yX6_colours : MethodName := ⟨RX6, "colours", "(III)I"⟩
abbrev cX6_put : ByteArray := prog_1_method_20_code
def yX6_put : MethodName := ⟨RX6, "put", "(J)I"⟩
abbrev cX6_wipe : ByteArray := prog_1_method_21_code
def yX6_wipe : MethodName := ⟨RX6, "wipe", "()I"⟩
abbrev cX6_fault : ByteArray := prog_1_method_22_code
def yX6_fault : MethodName := ⟨RX6, "fault", "()I"⟩
abbrev cX6_undo : ByteArray := prog_1_method_23_code
def yX6_undo : MethodName := ⟨RX6, "undo", "()I"⟩
abbrev cX6_save : ByteArray := prog_1_method_24_code
def yX6_save : MethodName := ⟨RX6, "save", "(I)I"⟩
abbrev cX6_restore : ByteArray := prog_1_method_25_code
def yX6_restore : MethodName := ⟨RX6, "restore", "(I)I"⟩
abbrev cX6_newDraft : ByteArray := prog_1_method_26_code
def yX6_newDraft : MethodName := ⟨RX6, "newDraft", "()LWindowLetters$Shop;"⟩
abbrev cX6_settle : ByteArray := prog_1_method_27_code
def yX6_settle : MethodName := ⟨RX6, "settle", "(I)I"⟩
abbrev cX6_isColour : ByteArray := prog_1_method_28_code
def yX6_isColour : MethodName := ⟨RX6, "isColour", "(I)Z"⟩
abbrev cX6_isLetter : ByteArray := prog_1_method_29_code
def yX6_isLetter : MethodName := ⟨RX6, "isLetter", "(I)Z"⟩
abbrev cX6_isWay : ByteArray := prog_1_method_30_code
def yX6_isWay : MethodName := ⟨RX6, "isWay", "(I)Z"⟩
abbrev cX6_isMirroring : ByteArray := prog_1_method_31_code
def yX6_isMirroring : MethodName := ⟨RX6, "isMirroring", "(I)Z"⟩
abbrev cX6_isPane : ByteArray := prog_1_method_32_code
def yX6_isPane : MethodName := ⟨RX6, "isPane", "(I)Z"⟩
abbrev cX6_isPlace : ByteArray := prog_1_method_33_code
def yX6_isPlace : MethodName := ⟨RX6, "isPlace", "(I)Z"⟩
abbrev cX6_isSlot : ByteArray := prog_1_method_34_code
def yX6_isSlot : MethodName := ⟨RX6, "isSlot", "(I)Z"⟩
abbrev cX6_heightOf : ByteArray := prog_1_method_35_code
def yX6_heightOf : MethodName := ⟨RX6, "heightOf", "(I)I"⟩
abbrev cX6_widthOf : ByteArray := prog_1_method_36_code
def yX6_widthOf : MethodName := ⟨RX6, "widthOf", "(I)I"⟩
abbrev cX6_mirroringOf : ByteArray := prog_1_method_37_code
def yX6_mirroringOf : MethodName := ⟨RX6, "mirroringOf", "(I)I"⟩
abbrev cX6_rowIn : ByteArray := prog_1_method_38_code
def yX6_rowIn : MethodName := ⟨RX6, "rowIn", "(I)I"⟩
abbrev cX6_columnIn : ByteArray := prog_1_method_39_code
def yX6_columnIn : MethodName := ⟨RX6, "columnIn", "(I)I"⟩
abbrev cX6_wayIn : ByteArray := prog_1_method_40_code
def yX6_wayIn : MethodName := ⟨RX6, "wayIn", "(I)I"⟩
abbrev cX6_lowestIn : ByteArray := prog_1_method_41_code
def yX6_lowestIn : MethodName := ⟨RX6, "lowestIn", "(I)I"⟩
def RX7 : String := "WindowLettersModel"
def TX7 : u_T := fun k => match k with
  | 0 => ("WindowLettersModel", "s", "[I", true)
  | 1 => ("WindowLettersModel", "aside", "[I", true)
  | 2 => ("WindowLettersModel", "history", "[I", true)
  | 3 => ("WindowLettersModel", "kept", "I", false)
  | 4 => ("WindowLettersModel", "slots", "[I", true)
  | 5 => ("WindowLettersModel", "isSaved", "[Z", true)
  | 6 => ("WindowLettersModel", "pad", "[I", true)
  | 7 => ("WindowLettersModel", "length", "I", false)
  | 8 => ("WindowLettersModel", "shapes", "[I", true)
  | _ => ("WindowLettersModel", "found", "[I", true)
def tyX7 : Nat → FieldType := fun k => match k with
  | 0 => .array .int
  | 1 => .array .int
  | 2 => .array .int
  | 3 => .int
  | 4 => .array .int
  | 5 => .array .boolean
  | 6 => .array .int
  | 7 => .int
  | 8 => .array .int
  | _ => .array .int
abbrev wsX70 : List Cond := u_ws RX7 TX7 10
theorem nmX7 : ∀ a, a < 10 → ∀ b, b < 10 → a ≠ b → (TX7 a).2.1 ≠ (TX7 b).2.1 := by decide +kernel
theorem tyX7_ok : ∀ k, k < 10 → parseFieldDescriptor (TX7 k).2.2.1 = some (tyX7 k) := by decide +kernel
abbrev cX7_init : ByteArray := prog_9_method_1_code
def yX7_init : MethodName := ⟨RX7, "<init>", "()V"⟩
abbrev cX7_in : ByteArray := prog_9_method_3_code
def yX7_in : MethodName := ⟨RX7, "in", "(III)Z"⟩
abbrev cX7_digits : ByteArray := prog_9_method_4_code
def yX7_digits : MethodName := ⟨RX7, "digits", "(I)I"⟩
abbrev cX7_hasSquare : ByteArray := prog_9_method_5_code
def yX7_hasSquare : MethodName := ⟨RX7, "hasSquare", "(IZII)Z"⟩
abbrev cX7_high : ByteArray := prog_9_method_6_code
def yX7_high : MethodName := ⟨RX7, "high", "(I)I"⟩
abbrev cX7_wide : ByteArray := prog_9_method_7_code
def yX7_wide : MethodName := ⟨RX7, "wide", "(I)I"⟩
abbrev cX7_drawn : ByteArray := prog_9_method_8_code
def yX7_drawn : MethodName := ⟨RX7, "drawn", "(III)I"⟩
abbrev cX7_shapeOf : ByteArray := prog_9_method_9_code
def yX7_shapeOf : MethodName := ⟨RX7, "shapeOf", "(III)I"⟩
abbrev cX7_bits : ByteArray := prog_9_method_10_code
def yX7_bits : MethodName := ⟨RX7, "bits", "(I)I"⟩
abbrev cX7_squaresOf : ByteArray := prog_9_method_11_code
def yX7_squaresOf : MethodName := ⟨RX7, "squaresOf", "(I)I"⟩
abbrev cX7_isLetter : ByteArray := prog_9_method_12_code
def yX7_isLetter : MethodName := ⟨RX7, "isLetter", "(I)Z"⟩
abbrev cX7_isSheet : ByteArray := prog_9_method_13_code
def yX7_isSheet : MethodName := ⟨RX7, "isSheet", "(I)Z"⟩
abbrev cX7_isPiece : ByteArray := prog_9_method_14_code
def yX7_isPiece : MethodName := ⟨RX7, "isPiece", "(I)Z"⟩
abbrev cX7_isSpot : ByteArray := prog_9_method_15_code
def yX7_isSpot : MethodName := ⟨RX7, "isSpot", "(II)Z"⟩
abbrev cX7_ofOne : ByteArray := prog_9_method_16_code
def yX7_ofOne : MethodName := ⟨RX7, "ofOne", "(II)I"⟩
abbrev cX7_at : ByteArray := prog_9_method_17_code
def yX7_at : MethodName := ⟨RX7, "at", "(II)I"⟩
abbrev cX7_canCut : ByteArray := prog_9_method_18_code
def yX7_canCut : MethodName := ⟨RX7, "canCut", "(IIIII)Z"⟩
abbrev cX7_cutsOut : ByteArray := prog_9_method_19_code
def yX7_cutsOut : MethodName := ⟨RX7, "cutsOut", "(IIIII)V"⟩
abbrev cX7_findsFit : ByteArray := prog_9_method_20_code
def yX7_findsFit : MethodName := ⟨RX7, "findsFit", "(III)Z"⟩
abbrev cX7_sheetFor : ByteArray := prog_9_method_21_code
def yX7_sheetFor : MethodName := ⟨RX7, "sheetFor", "(III)I"⟩
abbrev cX7_uncut : ByteArray := prog_9_method_22_code
def yX7_uncut : MethodName := ⟨RX7, "uncut", "(I)I"⟩
abbrev cX7_newPiece : ByteArray := prog_9_method_23_code
def yX7_newPiece : MethodName := ⟨RX7, "newPiece", "(IIIII)I"⟩
abbrev cX7_looseOne : ByteArray := prog_9_method_24_code
def yX7_looseOne : MethodName := ⟨RX7, "looseOne", "(III)I"⟩
abbrev cX7_pieceAt : ByteArray := prog_9_method_25_code
def yX7_pieceAt : MethodName := ⟨RX7, "pieceAt", "(II)I"⟩
abbrev cX7_inPane : ByteArray := prog_9_method_26_code
def yX7_inPane : MethodName := ⟨RX7, "inPane", "(I)I"⟩
abbrev cX7_puts : ByteArray := prog_9_method_27_code
def yX7_puts : MethodName := ⟨RX7, "puts", "(III)V"⟩
abbrev cX7_pieceFor : ByteArray := prog_9_method_28_code
def yX7_pieceFor : MethodName := ⟨RX7, "pieceFor", "(III)I"⟩
abbrev cX7_letterOf : ByteArray := prog_9_method_29_code
def yX7_letterOf : MethodName := ⟨RX7, "letterOf", "(I)I"⟩
abbrev cX7_writes : ByteArray := prog_9_method_30_code
def yX7_writes : MethodName := ⟨RX7, "writes", "(IIII)Z"⟩
abbrev cX7_record : ByteArray := prog_9_method_31_code
def yX7_record : MethodName := ⟨RX7, "record", "()V"⟩
abbrev cX7_putAside : ByteArray := prog_9_method_32_code
def yX7_putAside : MethodName := ⟨RX7, "putAside", "()V"⟩
abbrev cX7_putBack : ByteArray := prog_9_method_33_code
def yX7_putBack : MethodName := ⟨RX7, "putBack", "()V"⟩
abbrev cX7_isColour : ByteArray := prog_9_method_34_code
def yX7_isColour : MethodName := ⟨RX7, "isColour", "(I)Z"⟩
abbrev cX7_sheet : ByteArray := prog_9_method_35_code
def yX7_sheet : MethodName := ⟨RX7, "sheet", "(I)I"⟩
abbrev cX7_cut : ByteArray := prog_9_method_36_code
def yX7_cut : MethodName := ⟨RX7, "cut", "(IIIII)I"⟩
abbrev cX7_make : ByteArray := prog_9_method_37_code
def yX7_make : MethodName := ⟨RX7, "make", "(III)I"⟩
abbrev cX7_canBeWritten : ByteArray := prog_9_method_38_code
def yX7_canBeWritten : MethodName := ⟨RX7, "canBeWritten", "(IIII)Z"⟩
abbrev cX7_write : ByteArray := prog_9_method_39_code
def yX7_write : MethodName := ⟨RX7, "write", "(IIII)I"⟩
abbrev cX7_isLoose : ByteArray := prog_9_method_40_code
def yX7_isLoose : MethodName := ⟨RX7, "isLoose", "(I)Z"⟩
abbrev cX7_place : ByteArray := prog_9_method_41_code
def yX7_place : MethodName := ⟨RX7, "place", "(III)I"⟩
abbrev cX7_clear : ByteArray := prog_9_method_42_code
def yX7_clear : MethodName := ⟨RX7, "clear", "(I)I"⟩
abbrev cX7_throwAway : ByteArray := prog_9_method_43_code
def yX7_throwAway : MethodName := ⟨RX7, "throwAway", "(I)I"⟩
abbrev cX7_scrap : ByteArray := prog_9_method_44_code
def yX7_scrap : MethodName := ⟨RX7, "scrap", "(I)I"⟩
abbrev cX7_of : ByteArray := prog_9_method_45_code
def yX7_of : MethodName := ⟨RX7, "of", "(II)I"⟩
abbrev cX7_piecesFrom : ByteArray := prog_9_method_46_code
def yX7_piecesFrom : MethodName := ⟨RX7, "piecesFrom", "(I)I"⟩
abbrev cX7_lettersThatFit : ByteArray := prog_9_method_47_code
def yX7_lettersThatFit : MethodName := ⟨RX7, "lettersThatFit", "(I)I"⟩
abbrev cX7_ofSheet : ByteArray := prog_9_method_48_code
def yX7_ofSheet : MethodName := ⟨RX7, "ofSheet", "(II)I"⟩
abbrev cX7_row : ByteArray := prog_9_method_49_code
def yX7_row : MethodName := ⟨RX7, "row", "(II)I"⟩
abbrev cX7_pane : ByteArray := prog_9_method_50_code
def yX7_pane : MethodName := ⟨RX7, "pane", "(II)I"⟩
abbrev cX7_shape : ByteArray := prog_9_method_51_code
def yX7_shape : MethodName := ⟨RX7, "shape", "(III)I"⟩
abbrev cX7_piecesThatAre : ByteArray := prog_9_method_52_code
def yX7_piecesThatAre : MethodName := ⟨RX7, "piecesThatAre", "(I)I"⟩
abbrev cX7_squaresOfPieces : ByteArray := prog_9_method_53_code
def yX7_squaresOfPieces : MethodName := ⟨RX7, "squaresOfPieces", "()I"⟩
abbrev cX7_squaresOfSheets : ByteArray := prog_9_method_54_code
def yX7_squaresOfSheets : MethodName := ⟨RX7, "squaresOfSheets", "()I"⟩
abbrev cX7_count : ByteArray := prog_9_method_55_code
def yX7_count : MethodName := ⟨RX7, "count", "(I)I"⟩
abbrev cX7_fit : ByteArray := prog_9_method_56_code
def yX7_fit : MethodName := ⟨RX7, "fit", "(IIII)I"⟩
abbrev cX7_manyOf : ByteArray := prog_9_method_57_code
def yX7_manyOf : MethodName := ⟨RX7, "manyOf", "(III)I"⟩
abbrev cX7_fits : ByteArray := prog_9_method_58_code
def yX7_fits : MethodName := ⟨RX7, "fits", "(II)I"⟩
abbrev cX7_colours : ByteArray := prog_9_method_59_code
def yX7_colours : MethodName := ⟨RX7, "colours", "(III)I"⟩
abbrev cX7_put : ByteArray := prog_9_method_60_code
def yX7_put : MethodName := ⟨RX7, "put", "(J)I"⟩
abbrev cX7_wipe : ByteArray := prog_9_method_61_code
def yX7_wipe : MethodName := ⟨RX7, "wipe", "()I"⟩
abbrev cX7_fault : ByteArray := prog_9_method_62_code
def yX7_fault : MethodName := ⟨RX7, "fault", "()I"⟩
abbrev cX7_undo : ByteArray := prog_9_method_63_code
def yX7_undo : MethodName := ⟨RX7, "undo", "()I"⟩
abbrev cX7_save : ByteArray := prog_9_method_64_code
def yX7_save : MethodName := ⟨RX7, "save", "(I)I"⟩
abbrev cX7_restore : ByteArray := prog_9_method_65_code
def yX7_restore : MethodName := ⟨RX7, "restore", "(I)I"⟩
def RJ11 : String := "java/lang/Character"
def TJ11 : u_T := fun k => match k with
  | _ => ("", "", "", false)
def tyJ11 : Nat → FieldType := fun k => match k with
  | _ => .int
abbrev wsJ110 : List Cond := u_ws RJ11 TJ11 0
theorem nmJ11 : ∀ a, a < 0 → ∀ b, b < 0 → a ≠ b → (TJ11 a).2.1 ≠ (TJ11 b).2.1 := by decide +kernel
theorem tyJ11_ok : ∀ k, k < 0 → parseFieldDescriptor (TJ11 k).2.2.1 = some (tyJ11 k) := by decide +kernel
abbrev cJ11_isValidCodePoint_9a6ad : ByteArray := prog_10_method_11_code
def yJ11_isValidCodePoint_9a6ad : MethodName := ⟨RJ11, "isValidCodePoint", "(I)Z"⟩
abbrev cJ11_highSurrogate_5068e : ByteArray := prog_10_method_28_code
def yJ11_highSurrogate_5068e : MethodName := ⟨RJ11, "highSurrogate", "(I)C"⟩
abbrev cJ11_lowSurrogate_5068e : ByteArray := prog_10_method_29_code
def yJ11_lowSurrogate_5068e : MethodName := ⟨RJ11, "lowSurrogate", "(I)C"⟩
def RJ6 : String := "java/lang/Integer"
def TJ6 : u_T := fun k => match k with
  | _ => ("", "", "", false)
def tyJ6 : Nat → FieldType := fun k => match k with
  | _ => .int
abbrev wsJ60 : List Cond := u_ws RJ6 TJ6 0
theorem nmJ6 : ∀ a, a < 0 → ∀ b, b < 0 → a ≠ b → (TJ6 a).2.1 ≠ (TJ6 b).2.1 := by decide +kernel
theorem tyJ6_ok : ∀ k, k < 0 → parseFieldDescriptor (TJ6 k).2.2.1 = some (tyJ6 k) := by decide +kernel
abbrev cJ6_bitCount_0f7a4 : ByteArray := prog_11_method_49_code
def yJ6_bitCount_0f7a4 : MethodName := ⟨RJ6, "bitCount", "(I)I"⟩
def RJ9 : String := "java/lang/Math"
def TJ9 : u_T := fun k => match k with
  | _ => ("", "", "", false)
def tyJ9 : Nat → FieldType := fun k => match k with
  | _ => .int
abbrev wsJ90 : List Cond := u_ws RJ9 TJ9 0
theorem nmJ9 : ∀ a, a < 0 → ∀ b, b < 0 → a ≠ b → (TJ9 a).2.1 ≠ (TJ9 b).2.1 := by decide +kernel
theorem tyJ9_ok : ∀ k, k < 0 → parseFieldDescriptor (TJ9 k).2.2.1 = some (tyJ9 k) := by decide +kernel
abbrev cJ9_floorMod_7cf53 : ByteArray := prog_12_method_50_code
def yJ9_floorMod_7cf53 : MethodName := ⟨RJ9, "floorMod", "(II)I"⟩
abbrev cJ9_max_7cf53 : ByteArray := prog_12_method_65_code
def yJ9_max_7cf53 : MethodName := ⟨RJ9, "max", "(II)I"⟩
abbrev cJ9_min_7cf53 : ByteArray := prog_12_method_69_code
def yJ9_min_7cf53 : MethodName := ⟨RJ9, "min", "(II)I"⟩
def RJ0 : String := "java/lang/String"
def TJ0 : u_T := fun k => match k with
  | _ => ("", "", "", false)
def tyJ0 : Nat → FieldType := fun k => match k with
  | _ => .int
abbrev wsJ00 : List Cond := u_ws RJ0 TJ0 0
theorem nmJ0 : ∀ a, a < 0 → ∀ b, b < 0 → a ≠ b → (TJ0 a).2.1 ≠ (TJ0 b).2.1 := by decide +kernel
theorem tyJ0_ok : ∀ k, k < 0 → parseFieldDescriptor (TJ0 k).2.2.1 = some (tyJ0 k) := by decide +kernel
abbrev cJ0_length_8abf5 : ByteArray := prog_13_method_54_code
def yJ0_length_8abf5 : MethodName := ⟨RJ0, "length", "()I"⟩
abbrev cJ0_indexOf_0f7a4 : ByteArray := prog_13_method_79_code
def yJ0_indexOf_0f7a4 : MethodName := ⟨RJ0, "indexOf", "(I)I"⟩
abbrev cJ0_indexOf_7cf53 : ByteArray := prog_13_method_80_code
def yJ0_indexOf_7cf53 : MethodName := ⟨RJ0, "indexOf", "(II)I"⟩
abbrev cJ0_coder_7d493 : ByteArray := prog_13_method_152_code
def yJ0_coder_7d493 : MethodName := ⟨RJ0, "coder", "()B"⟩
abbrev cJ0_isLatin1_aae02 : ByteArray := prog_13_method_154_code
def yJ0_isLatin1_aae02 : MethodName := ⟨RJ0, "isLatin1", "()Z"⟩
abbrev cJ0_checkBoundsBeginEnd_23922 : ByteArray := prog_13_method_158_code
def yJ0_checkBoundsBeginEnd_23922 : MethodName := ⟨RJ0, "checkBoundsBeginEnd", "(III)V"⟩
def RJ1 : String := "java/lang/StringLatin1"
def TJ1 : u_T := fun k => match k with
  | _ => ("", "", "", false)
def tyJ1 : Nat → FieldType := fun k => match k with
  | _ => .int
abbrev wsJ10 : List Cond := u_ws RJ1 TJ1 0
theorem nmJ1 : ∀ a, a < 0 → ∀ b, b < 0 → a ≠ b → (TJ1 a).2.1 ≠ (TJ1 b).2.1 := by decide +kernel
theorem tyJ1_ok : ∀ k, k < 0 → parseFieldDescriptor (TJ1 k).2.2.1 = some (tyJ1 k) := by decide +kernel
abbrev cJ1_canEncode_9a6ad : ByteArray := prog_14_method_4_code
def yJ1_canEncode_9a6ad : MethodName := ⟨RJ1, "canEncode", "(I)Z"⟩
abbrev cJ1_indexOf_4cfef : ByteArray := prog_14_method_22_code
def yJ1_indexOf_4cfef : MethodName := ⟨RJ1, "indexOf", "([BIII)I"⟩
abbrev cJ1_indexOfChar_4cfef : ByteArray := prog_14_method_23_code
def yJ1_indexOfChar_4cfef : MethodName := ⟨RJ1, "indexOfChar", "([BIII)I"⟩
def RJ2 : String := "java/lang/StringUTF16"
def TJ2 : u_T := fun k => match k with
  | _ => ("", "", "", false)
def tyJ2 : Nat → FieldType := fun k => match k with
  | _ => .int
abbrev wsJ20 : List Cond := u_ws RJ2 TJ2 0
theorem nmJ2 : ∀ a, a < 0 → ∀ b, b < 0 → a ≠ b → (TJ2 a).2.1 ≠ (TJ2 b).2.1 := by decide +kernel
theorem tyJ2_ok : ∀ k, k < 0 → parseFieldDescriptor (TJ2 k).2.2.1 = some (tyJ2 k) := by decide +kernel
abbrev cJ2_getChar_3b067 : ByteArray := prog_15_method_5_code
def yJ2_getChar_3b067 : MethodName := ⟨RJ2, "getChar", "([BI)C"⟩
abbrev cJ2_length_9d52b : ByteArray := prog_15_method_6_code
def yJ2_length_9d52b : MethodName := ⟨RJ2, "length", "([B)I"⟩
abbrev cJ2_indexOf_4cfef : ByteArray := prog_15_method_40_code
def yJ2_indexOf_4cfef : MethodName := ⟨RJ2, "indexOf", "([BIII)I"⟩
abbrev cJ2_indexOfChar_4cfef : ByteArray := prog_15_method_47_code
def yJ2_indexOfChar_4cfef : MethodName := ⟨RJ2, "indexOfChar", "([BIII)I"⟩
abbrev cJ2_indexOfCharUnsafe_4cfef : ByteArray := prog_15_method_48_code
def yJ2_indexOfCharUnsafe_4cfef : MethodName := ⟨RJ2, "indexOfCharUnsafe", "([BIII)I"⟩
abbrev cJ2_indexOfSupplementary_4cfef : ByteArray := prog_15_method_49_code
def yJ2_indexOfSupplementary_4cfef : MethodName := ⟨RJ2, "indexOfSupplementary", "([BIII)I"⟩
abbrev cJ2_checkBoundsBeginEnd_d044e : ByteArray := prog_15_method_93_code
def yJ2_checkBoundsBeginEnd_d044e : MethodName := ⟨RJ2, "checkBoundsBeginEnd", "(II[B)V"⟩
def RJ3 : String := "jdk/internal/util/Preconditions"
def TJ3 : u_T := fun k => match k with
  | _ => ("", "", "", false)
def tyJ3 : Nat → FieldType := fun k => match k with
  | _ => .int
abbrev wsJ30 : List Cond := u_ws RJ3 TJ3 0
theorem nmJ3 : ∀ a, a < 0 → ∀ b, b < 0 → a ≠ b → (TJ3 a).2.1 ≠ (TJ3 b).2.1 := by decide +kernel
theorem tyJ3_ok : ∀ k, k < 0 → parseFieldDescriptor (TJ3 k).2.2.1 = some (tyJ3 k) := by decide +kernel
abbrev cJ3_checkFromToIndex_8c36e : ByteArray := prog_16_method_12_code
def yJ3_checkFromToIndex_8c36e : MethodName := ⟨RJ3, "checkFromToIndex", "(IIILjava/util/function/BiFunction;)I"⟩
def RL : String := "WindowLettersLaw"
abbrev cL_law : ByteArray := code
def yL_law : MethodName := ⟨RL, "law", "([I)Z"⟩
abbrev vwCl : List vw_C := [(RX0, TX0, 4), (RX1, TX1, 2), (RX2, TX2, 7), (RX3, TX3, 1), (RX4, TX4, 4), (RX5, TX5, 6), (RX6, TX6, 7), (RX7, TX7, 10)]
def zT : List Cond := lw_tbl.filter goodWord
def zisNest : Cond → Bool
  | .fieldLinkNest .. => true
  | .methodLinkNest .. => true
  | _ => false
def zN : List Cond := lw_tbl.filter zisNest
theorem zT_sub : ∀ w ∈ zT, w ∈ lw_tbl := fun w h => (List.mem_filter.mp h).1
theorem zT_good {w : Cond} (h : w ∈ zT) : goodWord w = true := (List.mem_filter.mp h).2
theorem zmemN1 {w : Cond} {i : Nat} (h : tables_1_1[i]? = some w) (g : zisNest w = true) : w ∈ zN := List.mem_filter.mpr ⟨List.mem_append_right _ (List.mem_append_left _ (List.mem_of_getElem? h)), g⟩
theorem zmem1 {w : Cond} {i : Nat} (h : tables_1_1[i]? = some w) (g : goodWord w = true) : w ∈ zT := List.mem_filter.mpr ⟨List.mem_append_right _ (List.mem_append_left _ (List.mem_of_getElem? h)), g⟩
theorem zmemN2 {w : Cond} {i : Nat} (h : tables_1_2[i]? = some w) (g : zisNest w = true) : w ∈ zN := List.mem_filter.mpr ⟨List.mem_append_right _ (List.mem_append_right _ (List.mem_append_left _ (List.mem_of_getElem? h))), g⟩
theorem zmem2 {w : Cond} {i : Nat} (h : tables_1_2[i]? = some w) (g : goodWord w = true) : w ∈ zT := List.mem_filter.mpr ⟨List.mem_append_right _ (List.mem_append_right _ (List.mem_append_left _ (List.mem_of_getElem? h))), g⟩
theorem zmemN3 {w : Cond} {i : Nat} (h : tables_1_3[i]? = some w) (g : zisNest w = true) : w ∈ zN := List.mem_filter.mpr ⟨List.mem_append_right _ (List.mem_append_right _ (List.mem_append_right _ (List.mem_append_left _ (List.mem_of_getElem? h)))), g⟩
theorem zmem3 {w : Cond} {i : Nat} (h : tables_1_3[i]? = some w) (g : goodWord w = true) : w ∈ zT := List.mem_filter.mpr ⟨List.mem_append_right _ (List.mem_append_right _ (List.mem_append_right _ (List.mem_append_left _ (List.mem_of_getElem? h)))), g⟩
theorem zmemN4 {w : Cond} {i : Nat} (h : tables_1_4[i]? = some w) (g : zisNest w = true) : w ∈ zN := List.mem_filter.mpr ⟨List.mem_append_right _ (List.mem_append_right _ (List.mem_append_right _ (List.mem_append_right _ (List.mem_of_getElem? h)))), g⟩
theorem zmem4 {w : Cond} {i : Nat} (h : tables_1_4[i]? = some w) (g : goodWord w = true) : w ∈ zT := List.mem_filter.mpr ⟨List.mem_append_right _ (List.mem_append_right _ (List.mem_append_right _ (List.mem_append_right _ (List.mem_of_getElem? h)))), g⟩
theorem zmemP {w : Cond} {i : Nat} (h : (k2_sels lw_privs)[i]? = some w) (g : goodWord w = true) : w ∈ zT := List.mem_filter.mpr ⟨List.mem_append_left _ (List.mem_of_getElem? h), g⟩
theorem zmp_0 : Cond.selects "WindowLetters" ⟨"WindowLetters", "newDraft", "()LWindowLetters$Shop;"⟩ ⟨"WindowLetters", "newDraft", "()LWindowLetters$Shop;"⟩ ∈ zT := zmemP (i := 0) rfl rfl
theorem zmp_1 : Cond.selects "WindowLetters" ⟨"WindowLetters", "settle", "(I)I"⟩ ⟨"WindowLetters", "settle", "(I)I"⟩ ∈ zT := zmemP (i := 1) rfl rfl
theorem zmp_2 : Cond.selects "WindowLetters$Sheet" ⟨"WindowLetters$Sheet", "freeColumns", "(III)I"⟩ ⟨"WindowLetters$Sheet", "freeColumns", "(III)I"⟩ ∈ zT := zmemP (i := 2) rfl rfl
theorem zmp_3 : Cond.selects "WindowLetters$Shop" ⟨"WindowLetters$Shop", "addPiece", "(IIIII)I"⟩ ⟨"WindowLetters$Shop", "addPiece", "(IIIII)I"⟩ ∈ zT := zmemP (i := 3) rfl rfl
theorem zmp_4 : Cond.selects "WindowLetters$Shop" ⟨"WindowLetters$Shop", "lowestLoose", "(III)I"⟩ ⟨"WindowLetters$Shop", "lowestLoose", "(III)I"⟩ ∈ zT := zmemP (i := 4) rfl rfl
theorem zmp_5 : Cond.selects "WindowLetters$Shop" ⟨"WindowLetters$Shop", "piecesIn", "(I)I"⟩ ⟨"WindowLetters$Shop", "piecesIn", "(I)I"⟩ ∈ zT := zmemP (i := 5) rfl rfl
theorem zmp_6 : Cond.selects "WindowLettersModel" ⟨"WindowLettersModel", "record", "()V"⟩ ⟨"WindowLettersModel", "record", "()V"⟩ ∈ zT := zmemP (i := 6) rfl rfl
theorem zmp_7 : Cond.selects "WindowLettersModel" ⟨"WindowLettersModel", "isSheet", "(I)Z"⟩ ⟨"WindowLettersModel", "isSheet", "(I)Z"⟩ ∈ zT := zmemP (i := 7) rfl rfl
theorem zmp_8 : Cond.selects "WindowLettersModel" ⟨"WindowLettersModel", "canCut", "(IIIII)Z"⟩ ⟨"WindowLettersModel", "canCut", "(IIIII)Z"⟩ ∈ zT := zmemP (i := 8) rfl rfl
theorem zmp_9 : Cond.selects "WindowLettersModel" ⟨"WindowLettersModel", "shapeOf", "(III)I"⟩ ⟨"WindowLettersModel", "shapeOf", "(III)I"⟩ ∈ zT := zmemP (i := 9) rfl rfl
theorem zmp_10 : Cond.selects "WindowLettersModel" ⟨"WindowLettersModel", "newPiece", "(IIIII)I"⟩ ⟨"WindowLettersModel", "newPiece", "(IIIII)I"⟩ ∈ zT := zmemP (i := 10) rfl rfl
theorem zmp_11 : Cond.selects "WindowLettersModel" ⟨"WindowLettersModel", "cutsOut", "(IIIII)V"⟩ ⟨"WindowLettersModel", "cutsOut", "(IIIII)V"⟩ ∈ zT := zmemP (i := 11) rfl rfl
theorem zmp_12 : Cond.selects "WindowLettersModel" ⟨"WindowLettersModel", "sheetFor", "(III)I"⟩ ⟨"WindowLettersModel", "sheetFor", "(III)I"⟩ ∈ zT := zmemP (i := 12) rfl rfl
theorem zmp_13 : Cond.selects "WindowLettersModel" ⟨"WindowLettersModel", "findsFit", "(III)Z"⟩ ⟨"WindowLettersModel", "findsFit", "(III)Z"⟩ ∈ zT := zmemP (i := 13) rfl rfl
theorem zmp_14 : Cond.selects "WindowLettersModel" ⟨"WindowLettersModel", "canBeWritten", "(IIII)Z"⟩ ⟨"WindowLettersModel", "canBeWritten", "(IIII)Z"⟩ ∈ zT := zmemP (i := 14) rfl rfl
theorem zmp_15 : Cond.selects "WindowLettersModel" ⟨"WindowLettersModel", "putAside", "()V"⟩ ⟨"WindowLettersModel", "putAside", "()V"⟩ ∈ zT := zmemP (i := 15) rfl rfl
theorem zmp_16 : Cond.selects "WindowLettersModel" ⟨"WindowLettersModel", "writes", "(IIII)Z"⟩ ⟨"WindowLettersModel", "writes", "(IIII)Z"⟩ ∈ zT := zmemP (i := 16) rfl rfl
theorem zmp_17 : Cond.selects "WindowLettersModel" ⟨"WindowLettersModel", "pieceAt", "(II)I"⟩ ⟨"WindowLettersModel", "pieceAt", "(II)I"⟩ ∈ zT := zmemP (i := 17) rfl rfl
theorem zmp_18 : Cond.selects "WindowLettersModel" ⟨"WindowLettersModel", "pieceFor", "(III)I"⟩ ⟨"WindowLettersModel", "pieceFor", "(III)I"⟩ ∈ zT := zmemP (i := 18) rfl rfl
theorem zmp_19 : Cond.selects "WindowLettersModel" ⟨"WindowLettersModel", "looseOne", "(III)I"⟩ ⟨"WindowLettersModel", "looseOne", "(III)I"⟩ ∈ zT := zmemP (i := 19) rfl rfl
theorem zmp_20 : Cond.selects "WindowLettersModel" ⟨"WindowLettersModel", "puts", "(III)V"⟩ ⟨"WindowLettersModel", "puts", "(III)V"⟩ ∈ zT := zmemP (i := 20) rfl rfl
theorem zmp_21 : Cond.selects "WindowLettersModel" ⟨"WindowLettersModel", "putBack", "()V"⟩ ⟨"WindowLettersModel", "putBack", "()V"⟩ ∈ zT := zmemP (i := 21) rfl rfl
theorem zmp_22 : Cond.selects "WindowLettersModel" ⟨"WindowLettersModel", "isPiece", "(I)Z"⟩ ⟨"WindowLettersModel", "isPiece", "(I)Z"⟩ ∈ zT := zmemP (i := 22) rfl rfl
theorem zmp_23 : Cond.selects "WindowLettersModel" ⟨"WindowLettersModel", "isLoose", "(I)Z"⟩ ⟨"WindowLettersModel", "isLoose", "(I)Z"⟩ ∈ zT := zmemP (i := 23) rfl rfl
theorem zmp_24 : Cond.selects "WindowLettersModel" ⟨"WindowLettersModel", "inPane", "(I)I"⟩ ⟨"WindowLettersModel", "inPane", "(I)I"⟩ ∈ zT := zmemP (i := 24) rfl rfl
theorem zmp_25 : Cond.selects "WindowLettersModel" ⟨"WindowLettersModel", "squaresOf", "(I)I"⟩ ⟨"WindowLettersModel", "squaresOf", "(I)I"⟩ ∈ zT := zmemP (i := 25) rfl rfl
theorem zmp_26 : Cond.selects "WindowLettersModel" ⟨"WindowLettersModel", "uncut", "(I)I"⟩ ⟨"WindowLettersModel", "uncut", "(I)I"⟩ ∈ zT := zmemP (i := 26) rfl rfl
theorem zmp_27 : Cond.selects "WindowLettersModel" ⟨"WindowLettersModel", "piecesFrom", "(I)I"⟩ ⟨"WindowLettersModel", "piecesFrom", "(I)I"⟩ ∈ zT := zmemP (i := 27) rfl rfl
theorem zmp_28 : Cond.selects "WindowLettersModel" ⟨"WindowLettersModel", "lettersThatFit", "(I)I"⟩ ⟨"WindowLettersModel", "lettersThatFit", "(I)I"⟩ ∈ zT := zmemP (i := 28) rfl rfl
theorem zmp_29 : Cond.selects "WindowLettersModel" ⟨"WindowLettersModel", "piecesThatAre", "(I)I"⟩ ⟨"WindowLettersModel", "piecesThatAre", "(I)I"⟩ ∈ zT := zmemP (i := 29) rfl rfl
theorem zmp_30 : Cond.selects "WindowLettersModel" ⟨"WindowLettersModel", "squaresOfSheets", "()I"⟩ ⟨"WindowLettersModel", "squaresOfSheets", "()I"⟩ ∈ zT := zmemP (i := 30) rfl rfl
theorem zmp_31 : Cond.selects "WindowLettersModel" ⟨"WindowLettersModel", "squaresOfPieces", "()I"⟩ ⟨"WindowLettersModel", "squaresOfPieces", "()I"⟩ ∈ zT := zmemP (i := 31) rfl rfl
theorem zm_0 : (Jvm.Cond.initialized "WindowLettersLaw") ∈ zT := zmem1 (i := 0) rfl rfl
theorem zm_1 : (Jvm.Cond.initialized "WindowLetters") ∈ zT := zmem1 (i := 1) rfl rfl
theorem zm_2 : (Jvm.Cond.initialized "WindowLetters$Shapes") ∈ zT := zmem1 (i := 2) rfl rfl
theorem zm_3 : (Jvm.Cond.initialized "WindowLetters$Shop") ∈ zT := zmem1 (i := 3) rfl rfl
theorem zm_4 : (Jvm.Cond.initialized "WindowLetters$Sheet") ∈ zT := zmem1 (i := 4) rfl rfl
theorem zm_5 : (Jvm.Cond.initialized "WindowLetters$Piece") ∈ zT := zmem1 (i := 5) rfl rfl
theorem zm_6 : (Jvm.Cond.initialized "WindowLetters$History") ∈ zT := zmem1 (i := 6) rfl rfl
theorem zm_7 : (Jvm.Cond.initialized "WindowLetters$Pad") ∈ zT := zmem1 (i := 7) rfl rfl
theorem zm_8 : (Jvm.Cond.initialized "WindowLettersModel") ∈ zT := zmem1 (i := 8) rfl rfl
theorem zm_9 : (Jvm.Cond.initialized "java/lang/Math") ∈ zT := zmem1 (i := 9) rfl rfl
theorem zm_10 : (Jvm.Cond.initialized "java/lang/Integer") ∈ zT := zmem1 (i := 10) rfl rfl
theorem zm_11 : (Jvm.Cond.initialized "java/lang/String") ∈ zT := zmem1 (i := 11) rfl rfl
theorem zm_12 : (Jvm.Cond.initialized "java/lang/StringLatin1") ∈ zT := zmem1 (i := 12) rfl rfl
theorem zm_13 : (Jvm.Cond.initialized "java/lang/StringUTF16") ∈ zT := zmem1 (i := 13) rfl rfl
theorem zm_14 : (Jvm.Cond.initialized "jdk/internal/util/Preconditions") ∈ zT := zmem1 (i := 14) rfl rfl
theorem zm_15 : (Jvm.Cond.initialized "java/lang/Character") ∈ zT := zmem1 (i := 15) rfl rfl
theorem zm_16 : (Jvm.Cond.classLink "WindowLettersLaw" (7 : Nat) "WindowLetters") ∈ zT := zmem1 (i := 16) rfl rfl
theorem zm_17 : (Jvm.Cond.instantiable "WindowLetters" (7 : Nat)) ∈ zT := zmem1 (i := 17) rfl rfl
theorem zm_18 : (Jvm.Cond.methodLink "WindowLettersLaw" (9 : Nat) ({ cls := "WindowLetters", name := "<init>", desc := "()V" } : Jvm.MethodName)) ∈ zT := zmem1 (i := 18) rfl rfl
theorem zm_19 : (Jvm.Cond.instanceMethod ({ cls := "WindowLetters", name := "<init>", desc := "()V" } : Jvm.MethodName)) ∈ zT := zmem1 (i := 19) rfl rfl
theorem zm_20 : (Jvm.Cond.code ({ cls := "WindowLetters", name := "<init>", desc := "()V" } : Jvm.MethodName) prog_1_method_1_code (1 : Nat) (Option.none : Option Jvm.ClassFile.FieldType)) ∈ zT := zmem1 (i := 20) rfl rfl
theorem zm_21 : (Jvm.Cond.methodLink "WindowLetters" (1 : Nat) ({ cls := "java/lang/Object", name := "<init>", desc := "()V" } : Jvm.MethodName)) ∈ zT := zmem1 (i := 21) rfl rfl
theorem zm_22 : (Jvm.Cond.instanceMethod ({ cls := "java/lang/Object", name := "<init>", desc := "()V" } : Jvm.MethodName)) ∈ zT := zmem1 (i := 22) rfl rfl
theorem zm_23 : (Jvm.Cond.code ({ cls := "java/lang/Object", name := "<init>", desc := "()V" } : Jvm.MethodName) object_method_1_code (1 : Nat) (Option.none : Option Jvm.ClassFile.FieldType)) ∈ zT := zmem1 (i := 23) rfl rfl
theorem zm_24 : (Jvm.Cond.classLink "WindowLetters" (7 : Nat) "WindowLetters$Shapes") ∈ zT := zmem1 (i := 24) rfl rfl
theorem zm_25 : (Jvm.Cond.instantiable "WindowLetters$Shapes" (1 : Nat)) ∈ zT := zmem1 (i := 25) rfl rfl
theorem zm_26 : (Jvm.Cond.methodLink "WindowLetters" (9 : Nat) ({ cls := "WindowLetters$Shapes", name := "<init>", desc := "()V" } : Jvm.MethodName)) ∈ zT := zmem1 (i := 26) rfl rfl
theorem zm_27 : (Jvm.Cond.instanceMethod ({ cls := "WindowLetters$Shapes", name := "<init>", desc := "()V" } : Jvm.MethodName)) ∈ zT := zmem1 (i := 27) rfl rfl
theorem zm_28 : (Jvm.Cond.code ({ cls := "WindowLetters$Shapes", name := "<init>", desc := "()V" } : Jvm.MethodName) prog_5_method_1_code (4 : Nat) (Option.none : Option Jvm.ClassFile.FieldType)) ∈ zT := zmem1 (i := 28) rfl rfl
theorem zm_29 : (Jvm.Cond.methodLink "WindowLetters$Shapes" (3 : Nat) ({ cls := "java/lang/Object", name := "<init>", desc := "()V" } : Jvm.MethodName)) ∈ zT := zmem1 (i := 29) rfl rfl
theorem zm_30 : (Jvm.Cond.methodLinkNest "WindowLetters$Shapes" (15 : Nat) ({ cls := "WindowLetters", name := "heightOf", desc := "(I)I" } : Jvm.MethodName) "WindowLetters") ∈ zN := zmemN1 (i := 30) rfl rfl
theorem zm_31 : (Jvm.Cond.static ({ cls := "WindowLetters", name := "heightOf", desc := "(I)I" } : Jvm.MethodName)) ∈ zT := zmem1 (i := 31) rfl rfl
theorem zm_32 : (Jvm.Cond.code ({ cls := "WindowLetters", name := "heightOf", desc := "(I)I" } : Jvm.MethodName) prog_1_method_35_code (1 : Nat) (Option.some Jvm.ClassFile.FieldType.int)) ∈ zT := zmem1 (i := 32) rfl rfl
theorem zm_33 : (Jvm.Cond.methodLink "WindowLetters$Shapes" (19 : Nat) ({ cls := "WindowLetters$Shapes", name := "turnedRow", desc := "(III)I" } : Jvm.MethodName)) ∈ zT := zmem1 (i := 33) rfl rfl
theorem zm_34 : (Jvm.Cond.static ({ cls := "WindowLetters$Shapes", name := "turnedRow", desc := "(III)I" } : Jvm.MethodName)) ∈ zT := zmem1 (i := 34) rfl rfl
theorem zm_35 : (Jvm.Cond.code ({ cls := "WindowLetters$Shapes", name := "turnedRow", desc := "(III)I" } : Jvm.MethodName) prog_5_method_4_code (5 : Nat) (Option.some Jvm.ClassFile.FieldType.int)) ∈ zT := zmem1 (i := 35) rfl rfl
theorem zm_36 : (Jvm.Cond.methodLinkNest "WindowLetters$Shapes" (38 : Nat) ({ cls := "WindowLetters", name := "widthOf", desc := "(I)I" } : Jvm.MethodName) "WindowLetters") ∈ zN := zmemN1 (i := 36) rfl rfl
theorem zm_37 : (Jvm.Cond.static ({ cls := "WindowLetters", name := "widthOf", desc := "(I)I" } : Jvm.MethodName)) ∈ zT := zmem1 (i := 37) rfl rfl
theorem zm_38 : (Jvm.Cond.code ({ cls := "WindowLetters", name := "widthOf", desc := "(I)I" } : Jvm.MethodName) prog_1_method_36_code (1 : Nat) (Option.some Jvm.ClassFile.FieldType.int)) ∈ zT := zmem1 (i := 38) rfl rfl
theorem zm_39 : (Jvm.Cond.methodLink "WindowLetters$Shapes" (41 : Nat) ({ cls := "WindowLetters$Shapes", name := "hasSquare", desc := "(IIII)Z" } : Jvm.MethodName)) ∈ zT := zmem1 (i := 39) rfl rfl
theorem zm_40 : (Jvm.Cond.static ({ cls := "WindowLetters$Shapes", name := "hasSquare", desc := "(IIII)Z" } : Jvm.MethodName)) ∈ zT := zmem1 (i := 40) rfl rfl
theorem zm_41 : (Jvm.Cond.code ({ cls := "WindowLetters$Shapes", name := "hasSquare", desc := "(IIII)Z" } : Jvm.MethodName) prog_5_method_5_code (6 : Nat) (Option.some Jvm.ClassFile.FieldType.boolean)) ∈ zT := zmem1 (i := 41) rfl rfl
theorem zm_42 : (Jvm.Cond.methodLinkNest "WindowLetters$Shapes" (45 : Nat) ({ cls := "WindowLetters", name := "mirroringOf", desc := "(I)I" } : Jvm.MethodName) "WindowLetters") ∈ zN := zmemN1 (i := 42) rfl rfl
theorem zm_43 : (Jvm.Cond.static ({ cls := "WindowLetters", name := "mirroringOf", desc := "(I)I" } : Jvm.MethodName)) ∈ zT := zmem1 (i := 43) rfl rfl
theorem zm_44 : (Jvm.Cond.code ({ cls := "WindowLetters", name := "mirroringOf", desc := "(I)I" } : Jvm.MethodName) prog_1_method_37_code (1 : Nat) (Option.some Jvm.ClassFile.FieldType.int)) ∈ zT := zmem1 (i := 44) rfl rfl
theorem zm_45 : (Jvm.Cond.methodLink "WindowLetters$Shapes" (48 : Nat) ({ cls := "WindowLetters$Shapes", name := "uprightHas", desc := "(III)Z" } : Jvm.MethodName)) ∈ zT := zmem1 (i := 45) rfl rfl
theorem zm_46 : (Jvm.Cond.static ({ cls := "WindowLetters$Shapes", name := "uprightHas", desc := "(III)Z" } : Jvm.MethodName)) ∈ zT := zmem1 (i := 46) rfl rfl
theorem zm_47 : (Jvm.Cond.code ({ cls := "WindowLetters$Shapes", name := "uprightHas", desc := "(III)Z" } : Jvm.MethodName) prog_5_method_6_code (4 : Nat) (Option.some Jvm.ClassFile.FieldType.boolean)) ∈ zT := zmem1 (i := 47) rfl rfl
theorem zm_48 : (Jvm.Cond.methodLinkNest "WindowLetters$Shapes" (23 : Nat) ({ cls := "WindowLetters", name := "isLetter", desc := "(I)Z" } : Jvm.MethodName) "WindowLetters") ∈ zN := zmemN1 (i := 48) rfl rfl
theorem zm_49 : (Jvm.Cond.static ({ cls := "WindowLetters", name := "isLetter", desc := "(I)Z" } : Jvm.MethodName)) ∈ zT := zmem1 (i := 49) rfl rfl
theorem zm_50 : (Jvm.Cond.code ({ cls := "WindowLetters", name := "isLetter", desc := "(I)Z" } : Jvm.MethodName) prog_1_method_29_code (1 : Nat) (Option.some Jvm.ClassFile.FieldType.boolean)) ∈ zT := zmem1 (i := 50) rfl rfl
theorem zm_51 : (Jvm.Cond.fieldLinkNest "WindowLetters$Shapes" (52 : Nat) "WindowLetters" "LETTER_ROWS" "[I" "WindowLetters") ∈ zN := zmemN1 (i := 51) rfl rfl
theorem zm_53 : (Jvm.Cond.fieldLink "WindowLetters$Shapes" (9 : Nat) "WindowLetters$Shapes" "rows" "[I") ∈ zT := zmem1 (i := 53) rfl rfl
theorem zm_54 : (Jvm.Cond.laysFinal "WindowLetters$Shapes" "WindowLetters$Shapes" "rows" "[I") ∈ zT := zmem1 (i := 54) rfl rfl
theorem zm_57 : (Jvm.Cond.arrayClass Jvm.ClassFile.FieldType.int) ∈ zT := zmem1 (i := 57) rfl rfl
theorem zm_58 : (Jvm.Cond.classLink "WindowLetters" (16 : Nat) "WindowLetters$Shop") ∈ zT := zmem1 (i := 58) rfl rfl
theorem zm_59 : (Jvm.Cond.instantiable "WindowLetters$Shop" (6 : Nat)) ∈ zT := zmem1 (i := 59) rfl rfl
theorem zm_60 : (Jvm.Cond.methodLink "WindowLetters" (18 : Nat) ({ cls := "WindowLetters$Shop", name := "<init>", desc := "(LWindowLetters$Shapes;)V" } : Jvm.MethodName)) ∈ zT := zmem1 (i := 60) rfl rfl
theorem zm_61 : (Jvm.Cond.instanceMethod ({ cls := "WindowLetters$Shop", name := "<init>", desc := "(LWindowLetters$Shapes;)V" } : Jvm.MethodName)) ∈ zT := zmem1 (i := 61) rfl rfl
theorem zm_62 : (Jvm.Cond.code ({ cls := "WindowLetters$Shop", name := "<init>", desc := "(LWindowLetters$Shapes;)V" } : Jvm.MethodName) prog_7_method_1_code (3 : Nat) (Option.none : Option Jvm.ClassFile.FieldType)) ∈ zT := zmem1 (i := 62) rfl rfl
theorem zm_63 : (Jvm.Cond.methodLink "WindowLetters$Shop" (3 : Nat) ({ cls := "java/lang/Object", name := "<init>", desc := "()V" } : Jvm.MethodName)) ∈ zT := zmem1 (i := 63) rfl rfl
theorem zm_64 : (Jvm.Cond.classLink "WindowLetters$Shop" (9 : Nat) "WindowLetters$Sheet") ∈ zT := zmem1 (i := 64) rfl rfl
theorem zm_66 : (Jvm.Cond.classLink "WindowLetters$Shop" (17 : Nat) "WindowLetters$Piece") ∈ zT := zmem1 (i := 66) rfl rfl
theorem zm_68 : (Jvm.Cond.instantiable "WindowLetters$Sheet" (4 : Nat)) ∈ zT := zmem1 (i := 68) rfl rfl
theorem zm_69 : (Jvm.Cond.methodLink "WindowLetters$Shop" (31 : Nat) ({ cls := "WindowLetters$Sheet", name := "<init>", desc := "(LWindowLetters$Shapes;)V" } : Jvm.MethodName)) ∈ zT := zmem1 (i := 69) rfl rfl
theorem zm_70 : (Jvm.Cond.instanceMethod ({ cls := "WindowLetters$Sheet", name := "<init>", desc := "(LWindowLetters$Shapes;)V" } : Jvm.MethodName)) ∈ zT := zmem1 (i := 70) rfl rfl
theorem zm_71 : (Jvm.Cond.code ({ cls := "WindowLetters$Sheet", name := "<init>", desc := "(LWindowLetters$Shapes;)V" } : Jvm.MethodName) prog_6_method_1_code (2 : Nat) (Option.none : Option Jvm.ClassFile.FieldType)) ∈ zT := zmem1 (i := 71) rfl rfl
theorem zm_72 : (Jvm.Cond.methodLink "WindowLetters$Sheet" (3 : Nat) ({ cls := "java/lang/Object", name := "<init>", desc := "()V" } : Jvm.MethodName)) ∈ zT := zmem1 (i := 72) rfl rfl
theorem zm_73 : (Jvm.Cond.fieldLink "WindowLetters$Sheet" (15 : Nat) "WindowLetters$Sheet" "shapes" "LWindowLetters$Shapes;") ∈ zT := zmem1 (i := 73) rfl rfl
theorem zm_74 : (Jvm.Cond.fieldLink "WindowLetters$Sheet" (9 : Nat) "WindowLetters$Sheet" "cutColumns" "[I") ∈ zT := zmem1 (i := 74) rfl rfl
theorem zm_75 : (Jvm.Cond.fieldLinkNest "WindowLetters" (163 : Nat) "WindowLetters$Sheet" "cutColumns" "[I" "WindowLetters") ∈ zN := zmemN1 (i := 75) rfl rfl
theorem zm_76 : (Jvm.Cond.fieldLink "WindowLetters$Sheet" (19 : Nat) "WindowLetters$Sheet" "colour" "I") ∈ zT := zmem1 (i := 76) rfl rfl
theorem zm_77 : (Jvm.Cond.fieldLinkNest "WindowLetters$Shop" (49 : Nat) "WindowLetters$Sheet" "colour" "I" "WindowLetters") ∈ zN := zmemN1 (i := 77) rfl rfl
theorem zm_78 : (Jvm.Cond.fieldLinkNest "WindowLetters" (149 : Nat) "WindowLetters$Sheet" "colour" "I" "WindowLetters") ∈ zN := zmemN1 (i := 78) rfl rfl
theorem zm_79 : (Jvm.Cond.fieldLink "WindowLetters$Sheet" (23 : Nat) "WindowLetters$Sheet" "scrapped" "Z") ∈ zT := zmem1 (i := 79) rfl rfl
theorem zm_80 : (Jvm.Cond.fieldLinkNest "WindowLetters" (156 : Nat) "WindowLetters$Sheet" "scrapped" "Z" "WindowLetters") ∈ zN := zmemN1 (i := 80) rfl rfl
theorem zm_81 : (Jvm.Cond.fieldLinkNest "WindowLetters$Shop" (144 : Nat) "WindowLetters$Sheet" "scrapped" "Z" "WindowLetters") ∈ zN := zmemN1 (i := 81) rfl rfl
theorem zm_82 : (Jvm.Cond.laysFinal "WindowLetters$Sheet" "WindowLetters$Sheet" "shapes" "LWindowLetters$Shapes;") ∈ zT := zmem1 (i := 82) rfl rfl
theorem zm_84 : (Jvm.Cond.laysFinal "WindowLetters$Sheet" "WindowLetters$Sheet" "cutColumns" "[I") ∈ zT := zmem1 (i := 84) rfl rfl
theorem zm_86 : (Jvm.Cond.lays "WindowLetters$Sheet" "WindowLetters$Sheet" "colour" "I") ∈ zT := zmem1 (i := 86) rfl rfl
theorem zm_88 : (Jvm.Cond.lays "WindowLetters$Sheet" "WindowLetters$Sheet" "scrapped" "Z") ∈ zT := zmem1 (i := 88) rfl rfl
theorem zm_91 : (Jvm.Cond.instantiable "WindowLetters$Piece" (7 : Nat)) ∈ zT := zmem1 (i := 91) rfl rfl
theorem zm_92 : (Jvm.Cond.methodLinkNest "WindowLetters$Shop" (34 : Nat) ({ cls := "WindowLetters$Piece", name := "<init>", desc := "()V" } : Jvm.MethodName) "WindowLetters") ∈ zN := zmemN1 (i := 92) rfl rfl
theorem zm_93 : (Jvm.Cond.instanceMethod ({ cls := "WindowLetters$Piece", name := "<init>", desc := "()V" } : Jvm.MethodName)) ∈ zT := zmem1 (i := 93) rfl rfl
theorem zm_94 : (Jvm.Cond.code ({ cls := "WindowLetters$Piece", name := "<init>", desc := "()V" } : Jvm.MethodName) prog_4_method_1_code (1 : Nat) (Option.none : Option Jvm.ClassFile.FieldType)) ∈ zT := zmem1 (i := 94) rfl rfl
theorem zm_95 : (Jvm.Cond.methodLink "WindowLetters$Piece" (3 : Nat) ({ cls := "java/lang/Object", name := "<init>", desc := "()V" } : Jvm.MethodName)) ∈ zT := zmem1 (i := 95) rfl rfl
theorem zm_96 : (Jvm.Cond.fieldLink "WindowLetters$Piece" (9 : Nat) "WindowLetters$Piece" "letter" "I") ∈ zT := zmem1 (i := 96) rfl rfl
theorem zm_97 : (Jvm.Cond.fieldLinkNest "WindowLetters$Shop" (68 : Nat) "WindowLetters$Piece" "letter" "I" "WindowLetters") ∈ zN := zmemN1 (i := 97) rfl rfl
theorem zm_98 : (Jvm.Cond.fieldLinkNest "WindowLetters" (122 : Nat) "WindowLetters$Piece" "letter" "I" "WindowLetters") ∈ zN := zmemN1 (i := 98) rfl rfl
theorem zm_99 : (Jvm.Cond.fieldLink "WindowLetters$Piece" (15 : Nat) "WindowLetters$Piece" "colour" "I") ∈ zT := zmem1 (i := 99) rfl rfl
theorem zm_100 : (Jvm.Cond.fieldLinkNest "WindowLetters$Shop" (71 : Nat) "WindowLetters$Piece" "colour" "I" "WindowLetters") ∈ zN := zmemN1 (i := 100) rfl rfl
theorem zm_101 : (Jvm.Cond.fieldLinkNest "WindowLetters" (128 : Nat) "WindowLetters$Piece" "colour" "I" "WindowLetters") ∈ zN := zmemN1 (i := 101) rfl rfl
theorem zm_102 : (Jvm.Cond.fieldLink "WindowLetters$Piece" (18 : Nat) "WindowLetters$Piece" "way" "I") ∈ zT := zmem1 (i := 102) rfl rfl
theorem zm_103 : (Jvm.Cond.fieldLinkNest "WindowLetters$Shop" (72 : Nat) "WindowLetters$Piece" "way" "I" "WindowLetters") ∈ zN := zmemN1 (i := 103) rfl rfl
theorem zm_104 : (Jvm.Cond.fieldLinkNest "WindowLetters" (131 : Nat) "WindowLetters$Piece" "way" "I" "WindowLetters") ∈ zN := zmemN1 (i := 104) rfl rfl
theorem zm_105 : (Jvm.Cond.fieldLink "WindowLetters$Piece" (21 : Nat) "WindowLetters$Piece" "sheet" "I") ∈ zT := zmem1 (i := 105) rfl rfl
theorem zm_106 : (Jvm.Cond.fieldLinkNest "WindowLetters$Shop" (75 : Nat) "WindowLetters$Piece" "sheet" "I" "WindowLetters") ∈ zN := zmemN1 (i := 106) rfl rfl
theorem zm_107 : (Jvm.Cond.fieldLinkNest "WindowLetters" (143 : Nat) "WindowLetters$Piece" "sheet" "I" "WindowLetters") ∈ zN := zmemN1 (i := 107) rfl rfl
theorem zm_108 : (Jvm.Cond.fieldLink "WindowLetters$Piece" (24 : Nat) "WindowLetters$Piece" "corner" "I") ∈ zT := zmem1 (i := 108) rfl rfl
theorem zm_109 : (Jvm.Cond.fieldLinkNest "WindowLetters$Shop" (78 : Nat) "WindowLetters$Piece" "corner" "I" "WindowLetters") ∈ zN := zmemN1 (i := 109) rfl rfl
theorem zm_110 : (Jvm.Cond.fieldLinkNest "WindowLetters" (146 : Nat) "WindowLetters$Piece" "corner" "I" "WindowLetters") ∈ zN := zmemN1 (i := 110) rfl rfl
theorem zm_111 : (Jvm.Cond.fieldLink "WindowLetters$Piece" (27 : Nat) "WindowLetters$Piece" "state" "I") ∈ zT := zmem1 (i := 111) rfl rfl
theorem zm_112 : (Jvm.Cond.fieldLinkNest "WindowLetters$Shop" (120 : Nat) "WindowLetters$Piece" "state" "I" "WindowLetters") ∈ zN := zmemN1 (i := 112) rfl rfl
theorem zm_113 : (Jvm.Cond.fieldLinkNest "WindowLetters" (137 : Nat) "WindowLetters$Piece" "state" "I" "WindowLetters") ∈ zN := zmemN1 (i := 113) rfl rfl
theorem zm_114 : (Jvm.Cond.fieldLink "WindowLetters$Piece" (30 : Nat) "WindowLetters$Piece" "spot" "I") ∈ zT := zmem1 (i := 114) rfl rfl
theorem zm_115 : (Jvm.Cond.fieldLinkNest "WindowLetters" (140 : Nat) "WindowLetters$Piece" "spot" "I" "WindowLetters") ∈ zN := zmemN1 (i := 115) rfl rfl
theorem zm_116 : (Jvm.Cond.fieldLinkNest "WindowLetters$Shop" (133 : Nat) "WindowLetters$Piece" "spot" "I" "WindowLetters") ∈ zN := zmemN1 (i := 116) rfl rfl
theorem zm_117 : (Jvm.Cond.lays "WindowLetters$Piece" "WindowLetters$Piece" "letter" "I") ∈ zT := zmem1 (i := 117) rfl rfl
theorem zm_119 : (Jvm.Cond.lays "WindowLetters$Piece" "WindowLetters$Piece" "colour" "I") ∈ zT := zmem1 (i := 119) rfl rfl
theorem zm_121 : (Jvm.Cond.lays "WindowLetters$Piece" "WindowLetters$Piece" "way" "I") ∈ zT := zmem1 (i := 121) rfl rfl
theorem zm_123 : (Jvm.Cond.lays "WindowLetters$Piece" "WindowLetters$Piece" "sheet" "I") ∈ zT := zmem1 (i := 123) rfl rfl
theorem zm_125 : (Jvm.Cond.lays "WindowLetters$Piece" "WindowLetters$Piece" "corner" "I") ∈ zT := zmem1 (i := 125) rfl rfl
theorem zm_127 : (Jvm.Cond.lays "WindowLetters$Piece" "WindowLetters$Piece" "state" "I") ∈ zT := zmem1 (i := 127) rfl rfl
theorem zm_129 : (Jvm.Cond.lays "WindowLetters$Piece" "WindowLetters$Piece" "spot" "I") ∈ zT := zmem1 (i := 129) rfl rfl
theorem zm_132 : (Jvm.Cond.fieldLink "WindowLetters$Shop" (27 : Nat) "WindowLetters$Shop" "shapes" "LWindowLetters$Shapes;") ∈ zT := zmem1 (i := 132) rfl rfl
theorem zm_133 : (Jvm.Cond.fieldLink "WindowLetters$Shop" (11 : Nat) "WindowLetters$Shop" "sheets" "[LWindowLetters$Sheet;") ∈ zT := zmem1 (i := 133) rfl rfl
theorem zm_134 : (Jvm.Cond.fieldLink "WindowLetters$Shop" (19 : Nat) "WindowLetters$Shop" "pieces" "[LWindowLetters$Piece;") ∈ zT := zmem1 (i := 134) rfl rfl
theorem zm_135 : (Jvm.Cond.fieldLink "WindowLetters$Shop" (23 : Nat) "WindowLetters$Shop" "spots" "[I") ∈ zT := zmem1 (i := 135) rfl rfl
theorem zm_136 : (Jvm.Cond.fieldLinkNest "WindowLetters" (167 : Nat) "WindowLetters$Shop" "spots" "[I" "WindowLetters") ∈ zN := zmemN1 (i := 136) rfl rfl
theorem zm_137 : (Jvm.Cond.fieldLink "WindowLetters$Shop" (35 : Nat) "WindowLetters$Shop" "sheetCount" "I") ∈ zT := zmem1 (i := 137) rfl rfl
theorem zm_138 : (Jvm.Cond.fieldLinkNest "WindowLetters" (173 : Nat) "WindowLetters$Shop" "sheetCount" "I" "WindowLetters") ∈ zN := zmemN1 (i := 138) rfl rfl
theorem zm_139 : (Jvm.Cond.fieldLink "WindowLetters$Shop" (39 : Nat) "WindowLetters$Shop" "pieceCount" "I") ∈ zT := zmem1 (i := 139) rfl rfl
theorem zm_140 : (Jvm.Cond.fieldLinkNest "WindowLetters" (176 : Nat) "WindowLetters$Shop" "pieceCount" "I" "WindowLetters") ∈ zN := zmemN1 (i := 140) rfl rfl
theorem zm_141 : (Jvm.Cond.laysFinal "WindowLetters$Shop" "WindowLetters$Shop" "shapes" "LWindowLetters$Shapes;") ∈ zT := zmem1 (i := 141) rfl rfl
theorem zm_143 : (Jvm.Cond.laysFinal "WindowLetters$Shop" "WindowLetters$Shop" "sheets" "[LWindowLetters$Sheet;") ∈ zT := zmem1 (i := 143) rfl rfl
theorem zm_145 : (Jvm.Cond.laysFinal "WindowLetters$Shop" "WindowLetters$Shop" "pieces" "[LWindowLetters$Piece;") ∈ zT := zmem1 (i := 145) rfl rfl
theorem zm_147 : (Jvm.Cond.laysFinal "WindowLetters$Shop" "WindowLetters$Shop" "spots" "[I") ∈ zT := zmem1 (i := 147) rfl rfl
theorem zm_149 : (Jvm.Cond.lays "WindowLetters$Shop" "WindowLetters$Shop" "sheetCount" "I") ∈ zT := zmem1 (i := 149) rfl rfl
theorem zm_151 : (Jvm.Cond.lays "WindowLetters$Shop" "WindowLetters$Shop" "pieceCount" "I") ∈ zT := zmem1 (i := 151) rfl rfl
theorem zm_154 : (Jvm.Cond.classLink "WindowLetters" (28 : Nat) "WindowLetters$Sheet") ∈ zT := zmem1 (i := 154) rfl rfl
theorem zm_155 : (Jvm.Cond.methodLink "WindowLetters" (30 : Nat) ({ cls := "WindowLetters$Sheet", name := "<init>", desc := "(LWindowLetters$Shapes;)V" } : Jvm.MethodName)) ∈ zT := zmem1 (i := 155) rfl rfl
theorem zm_157 : (Jvm.Cond.classLink "WindowLetters" (39 : Nat) "WindowLetters$History") ∈ zT := zmem1 (i := 157) rfl rfl
theorem zm_158 : (Jvm.Cond.instantiable "WindowLetters$History" (4 : Nat)) ∈ zT := zmem1 (i := 158) rfl rfl
theorem zm_159 : (Jvm.Cond.methodLink "WindowLetters" (41 : Nat) ({ cls := "WindowLetters$History", name := "<init>", desc := "(LWindowLetters$Shapes;)V" } : Jvm.MethodName)) ∈ zT := zmem1 (i := 159) rfl rfl
theorem zm_160 : (Jvm.Cond.instanceMethod ({ cls := "WindowLetters$History", name := "<init>", desc := "(LWindowLetters$Shapes;)V" } : Jvm.MethodName)) ∈ zT := zmem1 (i := 160) rfl rfl
theorem zm_161 : (Jvm.Cond.code ({ cls := "WindowLetters$History", name := "<init>", desc := "(LWindowLetters$Shapes;)V" } : Jvm.MethodName) prog_2_method_1_code (2 : Nat) (Option.none : Option Jvm.ClassFile.FieldType)) ∈ zT := zmem1 (i := 161) rfl rfl
theorem zm_162 : (Jvm.Cond.methodLink "WindowLetters$History" (3 : Nat) ({ cls := "java/lang/Object", name := "<init>", desc := "()V" } : Jvm.MethodName)) ∈ zT := zmem1 (i := 162) rfl rfl
theorem zm_163 : (Jvm.Cond.classLink "WindowLetters$History" (9 : Nat) "WindowLetters$Shop") ∈ zT := zmem1 (i := 163) rfl rfl
theorem zm_164 : (Jvm.Cond.fieldLink "WindowLetters$History" (17 : Nat) "WindowLetters$History" "shapes" "LWindowLetters$Shapes;") ∈ zT := zmem1 (i := 164) rfl rfl
theorem zm_165 : (Jvm.Cond.fieldLink "WindowLetters$History" (11 : Nat) "WindowLetters$History" "states" "[LWindowLetters$Shop;") ∈ zT := zmem1 (i := 165) rfl rfl
theorem zm_166 : (Jvm.Cond.fieldLink "WindowLetters$History" (21 : Nat) "WindowLetters$History" "oldest" "I") ∈ zT := zmem1 (i := 166) rfl rfl
theorem zm_167 : (Jvm.Cond.fieldLink "WindowLetters$History" (25 : Nat) "WindowLetters$History" "length" "I") ∈ zT := zmem1 (i := 167) rfl rfl
theorem zm_168 : (Jvm.Cond.fieldLinkNest "WindowLetters" (192 : Nat) "WindowLetters$History" "length" "I" "WindowLetters") ∈ zN := zmemN1 (i := 168) rfl rfl
theorem zm_169 : (Jvm.Cond.laysFinal "WindowLetters$History" "WindowLetters$History" "shapes" "LWindowLetters$Shapes;") ∈ zT := zmem1 (i := 169) rfl rfl
theorem zm_171 : (Jvm.Cond.laysFinal "WindowLetters$History" "WindowLetters$History" "states" "[LWindowLetters$Shop;") ∈ zT := zmem1 (i := 171) rfl rfl
theorem zm_173 : (Jvm.Cond.lays "WindowLetters$History" "WindowLetters$History" "oldest" "I") ∈ zT := zmem1 (i := 173) rfl rfl
theorem zm_175 : (Jvm.Cond.lays "WindowLetters$History" "WindowLetters$History" "length" "I") ∈ zT := zmem1 (i := 175) rfl rfl
theorem zm_178 : (Jvm.Cond.classLink "WindowLetters" (46 : Nat) "WindowLetters$Pad") ∈ zT := zmem1 (i := 178) rfl rfl
theorem zm_179 : (Jvm.Cond.instantiable "WindowLetters$Pad" (2 : Nat)) ∈ zT := zmem1 (i := 179) rfl rfl
theorem zm_180 : (Jvm.Cond.methodLinkNest "WindowLetters" (48 : Nat) ({ cls := "WindowLetters$Pad", name := "<init>", desc := "()V" } : Jvm.MethodName) "WindowLetters") ∈ zN := zmemN1 (i := 180) rfl rfl
theorem zm_181 : (Jvm.Cond.instanceMethod ({ cls := "WindowLetters$Pad", name := "<init>", desc := "()V" } : Jvm.MethodName)) ∈ zT := zmem1 (i := 181) rfl rfl
theorem zm_182 : (Jvm.Cond.code ({ cls := "WindowLetters$Pad", name := "<init>", desc := "()V" } : Jvm.MethodName) prog_3_method_1_code (1 : Nat) (Option.none : Option Jvm.ClassFile.FieldType)) ∈ zT := zmem1 (i := 182) rfl rfl
theorem zm_183 : (Jvm.Cond.methodLink "WindowLetters$Pad" (3 : Nat) ({ cls := "java/lang/Object", name := "<init>", desc := "()V" } : Jvm.MethodName)) ∈ zT := zmem1 (i := 183) rfl rfl
theorem zm_184 : (Jvm.Cond.fieldLink "WindowLetters$Pad" (9 : Nat) "WindowLetters$Pad" "signs" "[C") ∈ zT := zmem1 (i := 184) rfl rfl
theorem zm_185 : (Jvm.Cond.fieldLink "WindowLetters$Pad" (15 : Nat) "WindowLetters$Pad" "length" "I") ∈ zT := zmem1 (i := 185) rfl rfl
theorem zm_186 : (Jvm.Cond.fieldLinkNest "WindowLetters$Shop" (98 : Nat) "WindowLetters$Pad" "length" "I" "WindowLetters") ∈ zN := zmemN1 (i := 186) rfl rfl
theorem zm_187 : (Jvm.Cond.fieldLinkNest "WindowLetters" (189 : Nat) "WindowLetters$Pad" "length" "I" "WindowLetters") ∈ zN := zmemN1 (i := 187) rfl rfl
theorem zm_188 : (Jvm.Cond.laysFinal "WindowLetters$Pad" "WindowLetters$Pad" "signs" "[C") ∈ zT := zmem1 (i := 188) rfl rfl
theorem zm_190 : (Jvm.Cond.lays "WindowLetters$Pad" "WindowLetters$Pad" "length" "I") ∈ zT := zmem1 (i := 190) rfl rfl
theorem zm_193 : (Jvm.Cond.arrayClass Jvm.ClassFile.FieldType.char) ∈ zT := zmem1 (i := 193) rfl rfl
theorem zm_194 : (Jvm.Cond.fieldLink "WindowLetters" (10 : Nat) "WindowLetters" "shapes" "LWindowLetters$Shapes;") ∈ zT := zmem1 (i := 194) rfl rfl
theorem zm_195 : (Jvm.Cond.fieldLink "WindowLetters" (21 : Nat) "WindowLetters" "shop" "LWindowLetters$Shop;") ∈ zT := zmem1 (i := 195) rfl rfl
theorem zm_196 : (Jvm.Cond.fieldLink "WindowLetters" (25 : Nat) "WindowLetters" "draft" "LWindowLetters$Shop;") ∈ zT := zmem1 (i := 196) rfl rfl
theorem zm_197 : (Jvm.Cond.fieldLink "WindowLetters" (31 : Nat) "WindowLetters" "trialSheet" "LWindowLetters$Sheet;") ∈ zT := zmem1 (i := 197) rfl rfl
theorem zm_198 : (Jvm.Cond.fieldLink "WindowLetters" (35 : Nat) "WindowLetters" "slots" "[LWindowLetters$Shop;") ∈ zT := zmem1 (i := 198) rfl rfl
theorem zm_199 : (Jvm.Cond.fieldLink "WindowLetters" (42 : Nat) "WindowLetters" "history" "LWindowLetters$History;") ∈ zT := zmem1 (i := 199) rfl rfl
theorem zm_200 : (Jvm.Cond.fieldLink "WindowLetters" (49 : Nat) "WindowLetters" "pad" "LWindowLetters$Pad;") ∈ zT := zmem1 (i := 200) rfl rfl
theorem zm_201 : (Jvm.Cond.laysFinal "WindowLetters" "WindowLetters" "shapes" "LWindowLetters$Shapes;") ∈ zT := zmem1 (i := 201) rfl rfl
theorem zm_203 : (Jvm.Cond.laysFinal "WindowLetters" "WindowLetters" "shop" "LWindowLetters$Shop;") ∈ zT := zmem1 (i := 203) rfl rfl
theorem zm_205 : (Jvm.Cond.laysFinal "WindowLetters" "WindowLetters" "draft" "LWindowLetters$Shop;") ∈ zT := zmem1 (i := 205) rfl rfl
theorem zm_207 : (Jvm.Cond.laysFinal "WindowLetters" "WindowLetters" "trialSheet" "LWindowLetters$Sheet;") ∈ zT := zmem1 (i := 207) rfl rfl
theorem zm_209 : (Jvm.Cond.laysFinal "WindowLetters" "WindowLetters" "slots" "[LWindowLetters$Shop;") ∈ zT := zmem1 (i := 209) rfl rfl
theorem zm_211 : (Jvm.Cond.laysFinal "WindowLetters" "WindowLetters" "history" "LWindowLetters$History;") ∈ zT := zmem1 (i := 211) rfl rfl
theorem zm_213 : (Jvm.Cond.laysFinal "WindowLetters" "WindowLetters" "pad" "LWindowLetters$Pad;") ∈ zT := zmem1 (i := 213) rfl rfl
theorem zm_216 : (Jvm.Cond.methodLink "WindowLettersLaw" (13 : Nat) ({ cls := "WindowLetters", name := "sheet", desc := "(I)I" } : Jvm.MethodName)) ∈ zT := zmem1 (i := 216) rfl rfl
theorem zm_217 : (Jvm.Cond.instanceMethod ({ cls := "WindowLetters", name := "sheet", desc := "(I)I" } : Jvm.MethodName)) ∈ zT := zmem1 (i := 217) rfl rfl
theorem zm_218 : (Jvm.Cond.selects "WindowLetters" ({ cls := "WindowLetters", name := "sheet", desc := "(I)I" } : Jvm.MethodName) ({ cls := "WindowLetters", name := "sheet", desc := "(I)I" } : Jvm.MethodName)) ∈ zT := zmem1 (i := 218) rfl rfl
theorem zm_219 : (Jvm.Cond.code ({ cls := "WindowLetters", name := "sheet", desc := "(I)I" } : Jvm.MethodName) prog_1_method_2_code (2 : Nat) (Option.some Jvm.ClassFile.FieldType.int)) ∈ zT := zmem1 (i := 219) rfl rfl
theorem zm_220 : (Jvm.Cond.methodLink "WindowLetters" (53 : Nat) ({ cls := "WindowLetters", name := "isColour", desc := "(I)Z" } : Jvm.MethodName)) ∈ zT := zmem1 (i := 220) rfl rfl
theorem zm_221 : (Jvm.Cond.static ({ cls := "WindowLetters", name := "isColour", desc := "(I)Z" } : Jvm.MethodName)) ∈ zT := zmem1 (i := 221) rfl rfl
theorem zm_222 : (Jvm.Cond.code ({ cls := "WindowLetters", name := "isColour", desc := "(I)Z" } : Jvm.MethodName) prog_1_method_28_code (1 : Nat) (Option.some Jvm.ClassFile.FieldType.boolean)) ∈ zT := zmem1 (i := 222) rfl rfl
theorem zm_223 : (Jvm.Cond.methodLink "WindowLetters" (57 : Nat) ({ cls := "WindowLetters", name := "newDraft", desc := "()LWindowLetters$Shop;" } : Jvm.MethodName)) ∈ zT := zmem1 (i := 223) rfl rfl
theorem zm_225 : (Jvm.Cond.instanceMethod ({ cls := "WindowLetters", name := "newDraft", desc := "()LWindowLetters$Shop;" } : Jvm.MethodName)) ∈ zT := zmem1 (i := 225) rfl rfl
theorem zm_226 : (Jvm.Cond.code ({ cls := "WindowLetters", name := "newDraft", desc := "()LWindowLetters$Shop;" } : Jvm.MethodName) prog_1_method_26_code (1 : Nat) (Option.some (Jvm.ClassFile.FieldType.object "WindowLetters$Shop"))) ∈ zT := zmem1 (i := 226) rfl rfl
theorem zm_227 : (Jvm.Cond.methodLink "WindowLetters" (227 : Nat) ({ cls := "WindowLetters$Shop", name := "copyFrom", desc := "(LWindowLetters$Shop;)V" } : Jvm.MethodName)) ∈ zT := zmem1 (i := 227) rfl rfl
theorem zm_228 : (Jvm.Cond.instanceMethod ({ cls := "WindowLetters$Shop", name := "copyFrom", desc := "(LWindowLetters$Shop;)V" } : Jvm.MethodName)) ∈ zT := zmem1 (i := 228) rfl rfl
theorem zm_229 : (Jvm.Cond.selects "WindowLetters$Shop" ({ cls := "WindowLetters$Shop", name := "copyFrom", desc := "(LWindowLetters$Shop;)V" } : Jvm.MethodName) ({ cls := "WindowLetters$Shop", name := "copyFrom", desc := "(LWindowLetters$Shop;)V" } : Jvm.MethodName)) ∈ zT := zmem1 (i := 229) rfl rfl
theorem zm_230 : (Jvm.Cond.code ({ cls := "WindowLetters$Shop", name := "copyFrom", desc := "(LWindowLetters$Shop;)V" } : Jvm.MethodName) prog_7_method_2_code (3 : Nat) (Option.none : Option Jvm.ClassFile.FieldType)) ∈ zT := zmem1 (i := 230) rfl rfl
theorem zm_231 : (Jvm.Cond.methodLink "WindowLetters$Shop" (42 : Nat) ({ cls := "WindowLetters$Sheet", name := "copyFrom", desc := "(LWindowLetters$Sheet;)V" } : Jvm.MethodName)) ∈ zT := zmem1 (i := 231) rfl rfl
theorem zm_232 : (Jvm.Cond.instanceMethod ({ cls := "WindowLetters$Sheet", name := "copyFrom", desc := "(LWindowLetters$Sheet;)V" } : Jvm.MethodName)) ∈ zT := zmem1 (i := 232) rfl rfl
theorem zm_233 : (Jvm.Cond.selects "WindowLetters$Sheet" ({ cls := "WindowLetters$Sheet", name := "copyFrom", desc := "(LWindowLetters$Sheet;)V" } : Jvm.MethodName) ({ cls := "WindowLetters$Sheet", name := "copyFrom", desc := "(LWindowLetters$Sheet;)V" } : Jvm.MethodName)) ∈ zT := zmem1 (i := 233) rfl rfl
theorem zm_234 : (Jvm.Cond.code ({ cls := "WindowLetters$Sheet", name := "copyFrom", desc := "(LWindowLetters$Sheet;)V" } : Jvm.MethodName) prog_6_method_2_code (3 : Nat) (Option.none : Option Jvm.ClassFile.FieldType)) ∈ zT := zmem1 (i := 234) rfl rfl
theorem zm_235 : (Jvm.Cond.methodLink "WindowLetters$Shop" (46 : Nat) ({ cls := "WindowLetters$Piece", name := "copyFrom", desc := "(LWindowLetters$Piece;)V" } : Jvm.MethodName)) ∈ zT := zmem1 (i := 235) rfl rfl
theorem zm_236 : (Jvm.Cond.instanceMethod ({ cls := "WindowLetters$Piece", name := "copyFrom", desc := "(LWindowLetters$Piece;)V" } : Jvm.MethodName)) ∈ zT := zmem1 (i := 236) rfl rfl
theorem zm_237 : (Jvm.Cond.selects "WindowLetters$Piece" ({ cls := "WindowLetters$Piece", name := "copyFrom", desc := "(LWindowLetters$Piece;)V" } : Jvm.MethodName) ({ cls := "WindowLetters$Piece", name := "copyFrom", desc := "(LWindowLetters$Piece;)V" } : Jvm.MethodName)) ∈ zT := zmem1 (i := 237) rfl rfl
theorem zm_238 : (Jvm.Cond.code ({ cls := "WindowLetters$Piece", name := "copyFrom", desc := "(LWindowLetters$Piece;)V" } : Jvm.MethodName) prog_4_method_2_code (2 : Nat) (Option.none : Option Jvm.ClassFile.FieldType)) ∈ zT := zmem1 (i := 238) rfl rfl
theorem zm_239 : (Jvm.Cond.methodLink "WindowLetters" (61 : Nat) ({ cls := "WindowLetters$Shop", name := "addSheet", desc := "(I)I" } : Jvm.MethodName)) ∈ zT := zmem1 (i := 239) rfl rfl
theorem zm_240 : (Jvm.Cond.instanceMethod ({ cls := "WindowLetters$Shop", name := "addSheet", desc := "(I)I" } : Jvm.MethodName)) ∈ zT := zmem2 (i := 0) rfl rfl
theorem zm_241 : (Jvm.Cond.selects "WindowLetters$Shop" ({ cls := "WindowLetters$Shop", name := "addSheet", desc := "(I)I" } : Jvm.MethodName) ({ cls := "WindowLetters$Shop", name := "addSheet", desc := "(I)I" } : Jvm.MethodName)) ∈ zT := zmem2 (i := 1) rfl rfl
theorem zm_242 : (Jvm.Cond.code ({ cls := "WindowLetters$Shop", name := "addSheet", desc := "(I)I" } : Jvm.MethodName) prog_7_method_5_code (3 : Nat) (Option.some Jvm.ClassFile.FieldType.int)) ∈ zT := zmem2 (i := 2) rfl rfl
theorem zm_243 : (Jvm.Cond.methodLink "WindowLetters" (65 : Nat) ({ cls := "WindowLetters", name := "settle", desc := "(I)I" } : Jvm.MethodName)) ∈ zT := zmem2 (i := 3) rfl rfl
theorem zm_245 : (Jvm.Cond.instanceMethod ({ cls := "WindowLetters", name := "settle", desc := "(I)I" } : Jvm.MethodName)) ∈ zT := zmem2 (i := 5) rfl rfl
theorem zm_246 : (Jvm.Cond.code ({ cls := "WindowLetters", name := "settle", desc := "(I)I" } : Jvm.MethodName) prog_1_method_27_code (2 : Nat) (Option.some Jvm.ClassFile.FieldType.int)) ∈ zT := zmem2 (i := 6) rfl rfl
theorem zm_247 : (Jvm.Cond.methodLink "WindowLetters" (230 : Nat) ({ cls := "WindowLetters$History", name := "record", desc := "(LWindowLetters$Shop;)V" } : Jvm.MethodName)) ∈ zT := zmem2 (i := 7) rfl rfl
theorem zm_248 : (Jvm.Cond.instanceMethod ({ cls := "WindowLetters$History", name := "record", desc := "(LWindowLetters$Shop;)V" } : Jvm.MethodName)) ∈ zT := zmem2 (i := 8) rfl rfl
theorem zm_249 : (Jvm.Cond.selects "WindowLetters$History" ({ cls := "WindowLetters$History", name := "record", desc := "(LWindowLetters$Shop;)V" } : Jvm.MethodName) ({ cls := "WindowLetters$History", name := "record", desc := "(LWindowLetters$Shop;)V" } : Jvm.MethodName)) ∈ zT := zmem2 (i := 9) rfl rfl
theorem zm_250 : (Jvm.Cond.code ({ cls := "WindowLetters$History", name := "record", desc := "(LWindowLetters$Shop;)V" } : Jvm.MethodName) prog_2_method_2_code (4 : Nat) (Option.none : Option Jvm.ClassFile.FieldType)) ∈ zT := zmem2 (i := 10) rfl rfl
theorem zm_251 : (Jvm.Cond.methodLink "WindowLetters$History" (28 : Nat) ({ cls := "java/lang/Math", name := "floorMod", desc := "(II)I" } : Jvm.MethodName)) ∈ zT := zmem2 (i := 11) rfl rfl
theorem zm_252 : (Jvm.Cond.static ({ cls := "java/lang/Math", name := "floorMod", desc := "(II)I" } : Jvm.MethodName)) ∈ zT := zmem2 (i := 12) rfl rfl
theorem zm_253 : (Jvm.Cond.code ({ cls := "java/lang/Math", name := "floorMod", desc := "(II)I" } : Jvm.MethodName) prog_12_method_50_code (3 : Nat) (Option.some Jvm.ClassFile.FieldType.int)) ∈ zT := zmem2 (i := 13) rfl rfl
theorem zm_254 : (Jvm.Cond.methodLink "WindowLetters$History" (34 : Nat) ({ cls := "WindowLetters$Shop", name := "<init>", desc := "(LWindowLetters$Shapes;)V" } : Jvm.MethodName)) ∈ zT := zmem2 (i := 14) rfl rfl
theorem zm_255 : (Jvm.Cond.methodLink "WindowLetters$History" (37 : Nat) ({ cls := "WindowLetters$Shop", name := "copyFrom", desc := "(LWindowLetters$Shop;)V" } : Jvm.MethodName)) ∈ zT := zmem2 (i := 15) rfl rfl
theorem zm_256 : (Jvm.Cond.methodLink "WindowLettersLaw" (18 : Nat) ({ cls := "WindowLetters", name := "cut", desc := "(IIIII)I" } : Jvm.MethodName)) ∈ zT := zmem2 (i := 16) rfl rfl
theorem zm_257 : (Jvm.Cond.instanceMethod ({ cls := "WindowLetters", name := "cut", desc := "(IIIII)I" } : Jvm.MethodName)) ∈ zT := zmem2 (i := 17) rfl rfl
theorem zm_258 : (Jvm.Cond.selects "WindowLetters" ({ cls := "WindowLetters", name := "cut", desc := "(IIIII)I" } : Jvm.MethodName) ({ cls := "WindowLetters", name := "cut", desc := "(IIIII)I" } : Jvm.MethodName)) ∈ zT := zmem2 (i := 18) rfl rfl
theorem zm_259 : (Jvm.Cond.code ({ cls := "WindowLetters", name := "cut", desc := "(IIIII)I" } : Jvm.MethodName) prog_1_method_3_code (6 : Nat) (Option.some Jvm.ClassFile.FieldType.int)) ∈ zT := zmem2 (i := 19) rfl rfl
theorem zm_260 : (Jvm.Cond.methodLink "WindowLetters" (68 : Nat) ({ cls := "WindowLetters$Shop", name := "sheetAt", desc := "(I)LWindowLetters$Sheet;" } : Jvm.MethodName)) ∈ zT := zmem2 (i := 20) rfl rfl
theorem zm_261 : (Jvm.Cond.instanceMethod ({ cls := "WindowLetters$Shop", name := "sheetAt", desc := "(I)LWindowLetters$Sheet;" } : Jvm.MethodName)) ∈ zT := zmem2 (i := 21) rfl rfl
theorem zm_262 : (Jvm.Cond.selects "WindowLetters$Shop" ({ cls := "WindowLetters$Shop", name := "sheetAt", desc := "(I)LWindowLetters$Sheet;" } : Jvm.MethodName) ({ cls := "WindowLetters$Shop", name := "sheetAt", desc := "(I)LWindowLetters$Sheet;" } : Jvm.MethodName)) ∈ zT := zmem2 (i := 22) rfl rfl
theorem zm_263 : (Jvm.Cond.code ({ cls := "WindowLetters$Shop", name := "sheetAt", desc := "(I)LWindowLetters$Sheet;" } : Jvm.MethodName) prog_7_method_3_code (2 : Nat) (Option.some (Jvm.ClassFile.FieldType.object "WindowLetters$Sheet"))) ∈ zT := zmem2 (i := 23) rfl rfl
theorem zm_264 : (Jvm.Cond.methodLink "WindowLetters" (72 : Nat) ({ cls := "WindowLetters", name := "isLetter", desc := "(I)Z" } : Jvm.MethodName)) ∈ zT := zmem2 (i := 24) rfl rfl
theorem zm_265 : (Jvm.Cond.methodLink "WindowLetters" (75 : Nat) ({ cls := "WindowLetters", name := "isWay", desc := "(I)Z" } : Jvm.MethodName)) ∈ zT := zmem2 (i := 25) rfl rfl
theorem zm_266 : (Jvm.Cond.static ({ cls := "WindowLetters", name := "isWay", desc := "(I)Z" } : Jvm.MethodName)) ∈ zT := zmem2 (i := 26) rfl rfl
theorem zm_267 : (Jvm.Cond.code ({ cls := "WindowLetters", name := "isWay", desc := "(I)Z" } : Jvm.MethodName) prog_1_method_30_code (1 : Nat) (Option.some Jvm.ClassFile.FieldType.boolean)) ∈ zT := zmem2 (i := 27) rfl rfl
theorem zm_268 : (Jvm.Cond.methodLink "WindowLetters" (78 : Nat) ({ cls := "WindowLetters$Shop", name := "cutPiece", desc := "(IIIII)I" } : Jvm.MethodName)) ∈ zT := zmem2 (i := 28) rfl rfl
theorem zm_269 : (Jvm.Cond.instanceMethod ({ cls := "WindowLetters$Shop", name := "cutPiece", desc := "(IIIII)I" } : Jvm.MethodName)) ∈ zT := zmem2 (i := 29) rfl rfl
theorem zm_270 : (Jvm.Cond.selects "WindowLetters$Shop" ({ cls := "WindowLetters$Shop", name := "cutPiece", desc := "(IIIII)I" } : Jvm.MethodName) ({ cls := "WindowLetters$Shop", name := "cutPiece", desc := "(IIIII)I" } : Jvm.MethodName)) ∈ zT := zmem2 (i := 30) rfl rfl
theorem zm_271 : (Jvm.Cond.code ({ cls := "WindowLetters$Shop", name := "cutPiece", desc := "(IIIII)I" } : Jvm.MethodName) prog_7_method_6_code (7 : Nat) (Option.some Jvm.ClassFile.FieldType.int)) ∈ zT := zmem2 (i := 31) rfl rfl
theorem zm_272 : (Jvm.Cond.methodLink "WindowLetters$Shop" (52 : Nat) ({ cls := "WindowLetters$Shop", name := "sheetAt", desc := "(I)LWindowLetters$Sheet;" } : Jvm.MethodName)) ∈ zT := zmem2 (i := 32) rfl rfl
theorem zm_273 : (Jvm.Cond.methodLink "WindowLetters$Shop" (56 : Nat) ({ cls := "WindowLetters$Sheet", name := "canCut", desc := "(IIII)Z" } : Jvm.MethodName)) ∈ zT := zmem2 (i := 33) rfl rfl
theorem zm_274 : (Jvm.Cond.instanceMethod ({ cls := "WindowLetters$Sheet", name := "canCut", desc := "(IIII)Z" } : Jvm.MethodName)) ∈ zT := zmem2 (i := 34) rfl rfl
theorem zm_275 : (Jvm.Cond.selects "WindowLetters$Sheet" ({ cls := "WindowLetters$Sheet", name := "canCut", desc := "(IIII)Z" } : Jvm.MethodName) ({ cls := "WindowLetters$Sheet", name := "canCut", desc := "(IIII)Z" } : Jvm.MethodName)) ∈ zT := zmem2 (i := 35) rfl rfl
theorem zm_276 : (Jvm.Cond.code ({ cls := "WindowLetters$Sheet", name := "canCut", desc := "(IIII)Z" } : Jvm.MethodName) prog_6_method_3_code (5 : Nat) (Option.some Jvm.ClassFile.FieldType.boolean)) ∈ zT := zmem2 (i := 36) rfl rfl
theorem zm_277 : (Jvm.Cond.methodLink "WindowLetters$Sheet" (27 : Nat) ({ cls := "WindowLetters$Sheet", name := "freeColumns", desc := "(III)I" } : Jvm.MethodName)) ∈ zT := zmem2 (i := 37) rfl rfl
theorem zm_279 : (Jvm.Cond.instanceMethod ({ cls := "WindowLetters$Sheet", name := "freeColumns", desc := "(III)I" } : Jvm.MethodName)) ∈ zT := zmem2 (i := 39) rfl rfl
theorem zm_280 : (Jvm.Cond.code ({ cls := "WindowLetters$Sheet", name := "freeColumns", desc := "(III)I" } : Jvm.MethodName) prog_6_method_4_code (8 : Nat) (Option.some Jvm.ClassFile.FieldType.int)) ∈ zT := zmem2 (i := 40) rfl rfl
theorem zm_281 : (Jvm.Cond.methodLink "WindowLetters$Sheet" (31 : Nat) ({ cls := "WindowLetters$Sheet", name := "isOnSheet", desc := "(III)Z" } : Jvm.MethodName)) ∈ zT := zmem2 (i := 41) rfl rfl
theorem zm_282 : (Jvm.Cond.static ({ cls := "WindowLetters$Sheet", name := "isOnSheet", desc := "(III)Z" } : Jvm.MethodName)) ∈ zT := zmem2 (i := 42) rfl rfl
theorem zm_283 : (Jvm.Cond.code ({ cls := "WindowLetters$Sheet", name := "isOnSheet", desc := "(III)Z" } : Jvm.MethodName) prog_6_method_6_code (3 : Nat) (Option.some Jvm.ClassFile.FieldType.boolean)) ∈ zT := zmem2 (i := 43) rfl rfl
theorem zm_284 : (Jvm.Cond.methodLinkNest "WindowLetters$Sheet" (39 : Nat) ({ cls := "WindowLetters", name := "heightOf", desc := "(I)I" } : Jvm.MethodName) "WindowLetters") ∈ zN := zmemN2 (i := 44) rfl rfl
theorem zm_285 : (Jvm.Cond.methodLinkNest "WindowLetters$Sheet" (35 : Nat) ({ cls := "WindowLetters", name := "widthOf", desc := "(I)I" } : Jvm.MethodName) "WindowLetters") ∈ zN := zmemN2 (i := 45) rfl rfl
theorem zm_286 : (Jvm.Cond.methodLink "WindowLetters$Sheet" (42 : Nat) ({ cls := "WindowLetters$Shapes", name := "columnsOf", desc := "(III)I" } : Jvm.MethodName)) ∈ zT := zmem2 (i := 46) rfl rfl
theorem zm_287 : (Jvm.Cond.instanceMethod ({ cls := "WindowLetters$Shapes", name := "columnsOf", desc := "(III)I" } : Jvm.MethodName)) ∈ zT := zmem2 (i := 47) rfl rfl
theorem zm_288 : (Jvm.Cond.selects "WindowLetters$Shapes" ({ cls := "WindowLetters$Shapes", name := "columnsOf", desc := "(III)I" } : Jvm.MethodName) ({ cls := "WindowLetters$Shapes", name := "columnsOf", desc := "(III)I" } : Jvm.MethodName)) ∈ zT := zmem2 (i := 48) rfl rfl
theorem zm_289 : (Jvm.Cond.code ({ cls := "WindowLetters$Shapes", name := "columnsOf", desc := "(III)I" } : Jvm.MethodName) prog_5_method_2_code (4 : Nat) (Option.some Jvm.ClassFile.FieldType.int)) ∈ zT := zmem2 (i := 49) rfl rfl
theorem zm_290 : (Jvm.Cond.methodLinkNest "WindowLetters$Shapes" (27 : Nat) ({ cls := "WindowLetters", name := "isWay", desc := "(I)Z" } : Jvm.MethodName) "WindowLetters") ∈ zN := zmemN2 (i := 50) rfl rfl
theorem zm_291 : (Jvm.Cond.methodLink "WindowLetters$Shop" (60 : Nat) ({ cls := "WindowLetters$Shop", name := "addPiece", desc := "(IIIII)I" } : Jvm.MethodName)) ∈ zT := zmem2 (i := 51) rfl rfl
theorem zm_293 : (Jvm.Cond.instanceMethod ({ cls := "WindowLetters$Shop", name := "addPiece", desc := "(IIIII)I" } : Jvm.MethodName)) ∈ zT := zmem2 (i := 53) rfl rfl
theorem zm_294 : (Jvm.Cond.code ({ cls := "WindowLetters$Shop", name := "addPiece", desc := "(IIIII)I" } : Jvm.MethodName) prog_7_method_7_code (9 : Nat) (Option.some Jvm.ClassFile.FieldType.int)) ∈ zT := zmem2 (i := 54) rfl rfl
theorem zm_295 : (Jvm.Cond.methodLink "WindowLetters$Shop" (64 : Nat) ({ cls := "WindowLetters$Sheet", name := "cutOut", desc := "(IIII)V" } : Jvm.MethodName)) ∈ zT := zmem2 (i := 55) rfl rfl
theorem zm_296 : (Jvm.Cond.instanceMethod ({ cls := "WindowLetters$Sheet", name := "cutOut", desc := "(IIII)V" } : Jvm.MethodName)) ∈ zT := zmem2 (i := 56) rfl rfl
theorem zm_297 : (Jvm.Cond.selects "WindowLetters$Sheet" ({ cls := "WindowLetters$Sheet", name := "cutOut", desc := "(IIII)V" } : Jvm.MethodName) ({ cls := "WindowLetters$Sheet", name := "cutOut", desc := "(IIII)V" } : Jvm.MethodName)) ∈ zT := zmem2 (i := 57) rfl rfl
theorem zm_298 : (Jvm.Cond.code ({ cls := "WindowLetters$Sheet", name := "cutOut", desc := "(IIII)V" } : Jvm.MethodName) prog_6_method_5_code (6 : Nat) (Option.none : Option Jvm.ClassFile.FieldType)) ∈ zT := zmem2 (i := 58) rfl rfl
theorem zm_299 : (Jvm.Cond.methodLink "WindowLetters$Shop" (81 : Nat) ({ cls := "WindowLetters$Piece", name := "becomeLoose", desc := "()V" } : Jvm.MethodName)) ∈ zT := zmem2 (i := 59) rfl rfl
theorem zm_300 : (Jvm.Cond.instanceMethod ({ cls := "WindowLetters$Piece", name := "becomeLoose", desc := "()V" } : Jvm.MethodName)) ∈ zT := zmem2 (i := 60) rfl rfl
theorem zm_301 : (Jvm.Cond.selects "WindowLetters$Piece" ({ cls := "WindowLetters$Piece", name := "becomeLoose", desc := "()V" } : Jvm.MethodName) ({ cls := "WindowLetters$Piece", name := "becomeLoose", desc := "()V" } : Jvm.MethodName)) ∈ zT := zmem2 (i := 61) rfl rfl
theorem zm_302 : (Jvm.Cond.code ({ cls := "WindowLetters$Piece", name := "becomeLoose", desc := "()V" } : Jvm.MethodName) prog_4_method_3_code (1 : Nat) (Option.none : Option Jvm.ClassFile.FieldType)) ∈ zT := zmem2 (i := 62) rfl rfl
theorem zm_303 : (Jvm.Cond.methodLink "WindowLettersLaw" (23 : Nat) ({ cls := "WindowLetters", name := "make", desc := "(III)I" } : Jvm.MethodName)) ∈ zT := zmem2 (i := 63) rfl rfl
theorem zm_304 : (Jvm.Cond.instanceMethod ({ cls := "WindowLetters", name := "make", desc := "(III)I" } : Jvm.MethodName)) ∈ zT := zmem2 (i := 64) rfl rfl
theorem zm_305 : (Jvm.Cond.selects "WindowLetters" ({ cls := "WindowLetters", name := "make", desc := "(III)I" } : Jvm.MethodName) ({ cls := "WindowLetters", name := "make", desc := "(III)I" } : Jvm.MethodName)) ∈ zT := zmem2 (i := 65) rfl rfl
theorem zm_306 : (Jvm.Cond.code ({ cls := "WindowLetters", name := "make", desc := "(III)I" } : Jvm.MethodName) prog_1_method_4_code (4 : Nat) (Option.some Jvm.ClassFile.FieldType.int)) ∈ zT := zmem2 (i := 66) rfl rfl
theorem zm_307 : (Jvm.Cond.methodLink "WindowLetters" (82 : Nat) ({ cls := "WindowLetters", name := "isMirroring", desc := "(I)Z" } : Jvm.MethodName)) ∈ zT := zmem2 (i := 67) rfl rfl
theorem zm_308 : (Jvm.Cond.static ({ cls := "WindowLetters", name := "isMirroring", desc := "(I)Z" } : Jvm.MethodName)) ∈ zT := zmem2 (i := 68) rfl rfl
theorem zm_309 : (Jvm.Cond.code ({ cls := "WindowLetters", name := "isMirroring", desc := "(I)Z" } : Jvm.MethodName) prog_1_method_31_code (1 : Nat) (Option.some Jvm.ClassFile.FieldType.boolean)) ∈ zT := zmem2 (i := 69) rfl rfl
theorem zm_310 : (Jvm.Cond.methodLink "WindowLetters" (85 : Nat) ({ cls := "WindowLetters$Shop", name := "makePiece", desc := "(III)I" } : Jvm.MethodName)) ∈ zT := zmem2 (i := 70) rfl rfl
theorem zm_311 : (Jvm.Cond.instanceMethod ({ cls := "WindowLetters$Shop", name := "makePiece", desc := "(III)I" } : Jvm.MethodName)) ∈ zT := zmem2 (i := 71) rfl rfl
theorem zm_312 : (Jvm.Cond.selects "WindowLetters$Shop" ({ cls := "WindowLetters$Shop", name := "makePiece", desc := "(III)I" } : Jvm.MethodName) ({ cls := "WindowLetters$Shop", name := "makePiece", desc := "(III)I" } : Jvm.MethodName)) ∈ zT := zmem2 (i := 72) rfl rfl
theorem zm_313 : (Jvm.Cond.code ({ cls := "WindowLetters$Shop", name := "makePiece", desc := "(III)I" } : Jvm.MethodName) prog_7_method_8_code (7 : Nat) (Option.some Jvm.ClassFile.FieldType.int)) ∈ zT := zmem2 (i := 73) rfl rfl
theorem zm_314 : (Jvm.Cond.methodLink "WindowLetters$Shop" (84 : Nat) ({ cls := "WindowLetters$Sheet", name := "firstFit", desc := "(II)I" } : Jvm.MethodName)) ∈ zT := zmem2 (i := 74) rfl rfl
theorem zm_315 : (Jvm.Cond.instanceMethod ({ cls := "WindowLetters$Sheet", name := "firstFit", desc := "(II)I" } : Jvm.MethodName)) ∈ zT := zmem2 (i := 75) rfl rfl
theorem zm_316 : (Jvm.Cond.selects "WindowLetters$Sheet" ({ cls := "WindowLetters$Sheet", name := "firstFit", desc := "(II)I" } : Jvm.MethodName) ({ cls := "WindowLetters$Sheet", name := "firstFit", desc := "(II)I" } : Jvm.MethodName)) ∈ zT := zmem2 (i := 76) rfl rfl
theorem zm_317 : (Jvm.Cond.code ({ cls := "WindowLetters$Sheet", name := "firstFit", desc := "(II)I" } : Jvm.MethodName) prog_6_method_7_code (9 : Nat) (Option.some Jvm.ClassFile.FieldType.int)) ∈ zT := zmem2 (i := 77) rfl rfl
theorem zm_318 : (Jvm.Cond.methodLinkNest "WindowLetters$Sheet" (47 : Nat) ({ cls := "WindowLetters", name := "lowestIn", desc := "(I)I" } : Jvm.MethodName) "WindowLetters") ∈ zN := zmemN2 (i := 78) rfl rfl
theorem zm_319 : (Jvm.Cond.static ({ cls := "WindowLetters", name := "lowestIn", desc := "(I)I" } : Jvm.MethodName)) ∈ zT := zmem2 (i := 79) rfl rfl
theorem zm_320 : (Jvm.Cond.code ({ cls := "WindowLetters", name := "lowestIn", desc := "(I)I" } : Jvm.MethodName) prog_1_method_41_code (1 : Nat) (Option.some Jvm.ClassFile.FieldType.int)) ∈ zT := zmem2 (i := 80) rfl rfl
theorem zm_321 : (Jvm.Cond.methodLink "WindowLetters" (233 : Nat) ({ cls := "java/lang/Integer", name := "bitCount", desc := "(I)I" } : Jvm.MethodName)) ∈ zT := zmem2 (i := 81) rfl rfl
theorem zm_322 : (Jvm.Cond.static ({ cls := "java/lang/Integer", name := "bitCount", desc := "(I)I" } : Jvm.MethodName)) ∈ zT := zmem2 (i := 82) rfl rfl
theorem zm_323 : (Jvm.Cond.code ({ cls := "java/lang/Integer", name := "bitCount", desc := "(I)I" } : Jvm.MethodName) prog_11_method_49_code (1 : Nat) (Option.some Jvm.ClassFile.FieldType.int)) ∈ zT := zmem2 (i := 83) rfl rfl
theorem zm_324 : (Jvm.Cond.constant "java/lang/Integer" (265 : Nat) (1431655765 : Int32)) ∈ zT := zmem2 (i := 84) rfl rfl
theorem zm_325 : (Jvm.Cond.constant "java/lang/Integer" (266 : Nat) (858993459 : Int32)) ∈ zT := zmem2 (i := 85) rfl rfl
theorem zm_326 : (Jvm.Cond.constant "java/lang/Integer" (267 : Nat) (252645135 : Int32)) ∈ zT := zmem2 (i := 86) rfl rfl
theorem zm_327 : (Jvm.Cond.methodLinkNest "WindowLetters$Shop" (88 : Nat) ({ cls := "WindowLetters", name := "wayIn", desc := "(I)I" } : Jvm.MethodName) "WindowLetters") ∈ zN := zmemN2 (i := 87) rfl rfl
theorem zm_328 : (Jvm.Cond.static ({ cls := "WindowLetters", name := "wayIn", desc := "(I)I" } : Jvm.MethodName)) ∈ zT := zmem2 (i := 88) rfl rfl
theorem zm_329 : (Jvm.Cond.code ({ cls := "WindowLetters", name := "wayIn", desc := "(I)I" } : Jvm.MethodName) prog_1_method_40_code (1 : Nat) (Option.some Jvm.ClassFile.FieldType.int)) ∈ zT := zmem2 (i := 89) rfl rfl
theorem zm_330 : (Jvm.Cond.methodLinkNest "WindowLetters$Shop" (92 : Nat) ({ cls := "WindowLetters", name := "rowIn", desc := "(I)I" } : Jvm.MethodName) "WindowLetters") ∈ zN := zmemN2 (i := 90) rfl rfl
theorem zm_331 : (Jvm.Cond.static ({ cls := "WindowLetters", name := "rowIn", desc := "(I)I" } : Jvm.MethodName)) ∈ zT := zmem2 (i := 91) rfl rfl
theorem zm_332 : (Jvm.Cond.code ({ cls := "WindowLetters", name := "rowIn", desc := "(I)I" } : Jvm.MethodName) prog_1_method_38_code (1 : Nat) (Option.some Jvm.ClassFile.FieldType.int)) ∈ zT := zmem2 (i := 92) rfl rfl
theorem zm_333 : (Jvm.Cond.methodLinkNest "WindowLetters$Shop" (95 : Nat) ({ cls := "WindowLetters", name := "columnIn", desc := "(I)I" } : Jvm.MethodName) "WindowLetters") ∈ zN := zmemN2 (i := 93) rfl rfl
theorem zm_334 : (Jvm.Cond.static ({ cls := "WindowLetters", name := "columnIn", desc := "(I)I" } : Jvm.MethodName)) ∈ zT := zmem2 (i := 94) rfl rfl
theorem zm_335 : (Jvm.Cond.code ({ cls := "WindowLetters", name := "columnIn", desc := "(I)I" } : Jvm.MethodName) prog_1_method_39_code (1 : Nat) (Option.some Jvm.ClassFile.FieldType.int)) ∈ zT := zmem2 (i := 95) rfl rfl
theorem zm_336 : (Jvm.Cond.methodLink "WindowLettersLaw" (28 : Nat) ({ cls := "WindowLetters", name := "write", desc := "(IIII)I" } : Jvm.MethodName)) ∈ zT := zmem2 (i := 96) rfl rfl
theorem zm_337 : (Jvm.Cond.instanceMethod ({ cls := "WindowLetters", name := "write", desc := "(IIII)I" } : Jvm.MethodName)) ∈ zT := zmem2 (i := 97) rfl rfl
theorem zm_338 : (Jvm.Cond.selects "WindowLetters" ({ cls := "WindowLetters", name := "write", desc := "(IIII)I" } : Jvm.MethodName) ({ cls := "WindowLetters", name := "write", desc := "(IIII)I" } : Jvm.MethodName)) ∈ zT := zmem2 (i := 98) rfl rfl
theorem zm_339 : (Jvm.Cond.code ({ cls := "WindowLetters", name := "write", desc := "(IIII)I" } : Jvm.MethodName) prog_1_method_5_code (6 : Nat) (Option.some Jvm.ClassFile.FieldType.int)) ∈ zT := zmem2 (i := 99) rfl rfl
theorem zm_340 : (Jvm.Cond.methodLink "WindowLetters" (89 : Nat) ({ cls := "WindowLetters", name := "isPane", desc := "(I)Z" } : Jvm.MethodName)) ∈ zT := zmem2 (i := 100) rfl rfl
theorem zm_341 : (Jvm.Cond.static ({ cls := "WindowLetters", name := "isPane", desc := "(I)Z" } : Jvm.MethodName)) ∈ zT := zmem2 (i := 101) rfl rfl
theorem zm_342 : (Jvm.Cond.code ({ cls := "WindowLetters", name := "isPane", desc := "(I)Z" } : Jvm.MethodName) prog_1_method_32_code (1 : Nat) (Option.some Jvm.ClassFile.FieldType.boolean)) ∈ zT := zmem2 (i := 102) rfl rfl
theorem zm_343 : (Jvm.Cond.methodLink "WindowLetters" (92 : Nat) ({ cls := "WindowLetters", name := "isPlace", desc := "(I)Z" } : Jvm.MethodName)) ∈ zT := zmem2 (i := 103) rfl rfl
theorem zm_344 : (Jvm.Cond.static ({ cls := "WindowLetters", name := "isPlace", desc := "(I)Z" } : Jvm.MethodName)) ∈ zT := zmem2 (i := 104) rfl rfl
theorem zm_345 : (Jvm.Cond.code ({ cls := "WindowLetters", name := "isPlace", desc := "(I)Z" } : Jvm.MethodName) prog_1_method_33_code (1 : Nat) (Option.some Jvm.ClassFile.FieldType.boolean)) ∈ zT := zmem2 (i := 105) rfl rfl
theorem zm_346 : (Jvm.Cond.methodLink "WindowLetters" (95 : Nat) ({ cls := "WindowLetters$Pad", name := "faultIndex", desc := "()I" } : Jvm.MethodName)) ∈ zT := zmem2 (i := 106) rfl rfl
theorem zm_347 : (Jvm.Cond.instanceMethod ({ cls := "WindowLetters$Pad", name := "faultIndex", desc := "()I" } : Jvm.MethodName)) ∈ zT := zmem2 (i := 107) rfl rfl
theorem zm_348 : (Jvm.Cond.selects "WindowLetters$Pad" ({ cls := "WindowLetters$Pad", name := "faultIndex", desc := "()I" } : Jvm.MethodName) ({ cls := "WindowLetters$Pad", name := "faultIndex", desc := "()I" } : Jvm.MethodName)) ∈ zT := zmem2 (i := 108) rfl rfl
theorem zm_349 : (Jvm.Cond.code ({ cls := "WindowLetters$Pad", name := "faultIndex", desc := "()I" } : Jvm.MethodName) prog_3_method_7_code (2 : Nat) (Option.some Jvm.ClassFile.FieldType.int)) ∈ zT := zmem2 (i := 109) rfl rfl
theorem zm_350 : (Jvm.Cond.methodLink "WindowLetters$Pad" (37 : Nat) ({ cls := "WindowLetters$Pad", name := "letterAt", desc := "(I)I" } : Jvm.MethodName)) ∈ zT := zmem2 (i := 110) rfl rfl
theorem zm_351 : (Jvm.Cond.instanceMethod ({ cls := "WindowLetters$Pad", name := "letterAt", desc := "(I)I" } : Jvm.MethodName)) ∈ zT := zmem2 (i := 111) rfl rfl
theorem zm_352 : (Jvm.Cond.selects "WindowLetters$Pad" ({ cls := "WindowLetters$Pad", name := "letterAt", desc := "(I)I" } : Jvm.MethodName) ({ cls := "WindowLetters$Pad", name := "letterAt", desc := "(I)I" } : Jvm.MethodName)) ∈ zT := zmem2 (i := 112) rfl rfl
theorem zm_353 : (Jvm.Cond.code ({ cls := "WindowLetters$Pad", name := "letterAt", desc := "(I)I" } : Jvm.MethodName) prog_3_method_6_code (3 : Nat) (Option.some Jvm.ClassFile.FieldType.int)) ∈ zT := zmem2 (i := 113) rfl rfl
theorem zm_355 : (Jvm.Cond.methodLink "WindowLetters$Pad" (31 : Nat) ({ cls := "java/lang/String", name := "indexOf", desc := "(I)I" } : Jvm.MethodName)) ∈ zT := zmem2 (i := 115) rfl rfl
theorem zm_356 : (Jvm.Cond.instanceMethod ({ cls := "java/lang/String", name := "indexOf", desc := "(I)I" } : Jvm.MethodName)) ∈ zT := zmem2 (i := 116) rfl rfl
theorem zm_357 : (Jvm.Cond.selects "java/lang/String" ({ cls := "java/lang/String", name := "indexOf", desc := "(I)I" } : Jvm.MethodName) ({ cls := "java/lang/String", name := "indexOf", desc := "(I)I" } : Jvm.MethodName)) ∈ zT := zmem2 (i := 117) rfl rfl
theorem zm_358 : (Jvm.Cond.code ({ cls := "java/lang/String", name := "indexOf", desc := "(I)I" } : Jvm.MethodName) prog_13_method_79_code (2 : Nat) (Option.some Jvm.ClassFile.FieldType.int)) ∈ zT := zmem2 (i := 118) rfl rfl
theorem zm_359 : (Jvm.Cond.methodLink "java/lang/String" (633 : Nat) ({ cls := "java/lang/String", name := "indexOf", desc := "(II)I" } : Jvm.MethodName)) ∈ zT := zmem2 (i := 119) rfl rfl
theorem zm_360 : (Jvm.Cond.instanceMethod ({ cls := "java/lang/String", name := "indexOf", desc := "(II)I" } : Jvm.MethodName)) ∈ zT := zmem2 (i := 120) rfl rfl
theorem zm_361 : (Jvm.Cond.selects "java/lang/String" ({ cls := "java/lang/String", name := "indexOf", desc := "(II)I" } : Jvm.MethodName) ({ cls := "java/lang/String", name := "indexOf", desc := "(II)I" } : Jvm.MethodName)) ∈ zT := zmem2 (i := 121) rfl rfl
theorem zm_362 : (Jvm.Cond.code ({ cls := "java/lang/String", name := "indexOf", desc := "(II)I" } : Jvm.MethodName) prog_13_method_80_code (3 : Nat) (Option.some Jvm.ClassFile.FieldType.int)) ∈ zT := zmem2 (i := 122) rfl rfl
theorem zm_363 : (Jvm.Cond.methodLink "java/lang/String" (492 : Nat) ({ cls := "java/lang/String", name := "isLatin1", desc := "()Z" } : Jvm.MethodName)) ∈ zT := zmem2 (i := 123) rfl rfl
theorem zm_364 : (Jvm.Cond.instanceMethod ({ cls := "java/lang/String", name := "isLatin1", desc := "()Z" } : Jvm.MethodName)) ∈ zT := zmem2 (i := 124) rfl rfl
theorem zm_365 : (Jvm.Cond.selects "java/lang/String" ({ cls := "java/lang/String", name := "isLatin1", desc := "()Z" } : Jvm.MethodName) ({ cls := "java/lang/String", name := "isLatin1", desc := "()Z" } : Jvm.MethodName)) ∈ zT := zmem2 (i := 125) rfl rfl
theorem zm_366 : (Jvm.Cond.code ({ cls := "java/lang/String", name := "isLatin1", desc := "()Z" } : Jvm.MethodName) prog_13_method_154_code (1 : Nat) (Option.some Jvm.ClassFile.FieldType.boolean)) ∈ zT := zmem2 (i := 126) rfl rfl
theorem zm_367 : (Jvm.Cond.fieldLink "java/lang/String" (38 : Nat) "java/lang/String" "COMPACT_STRINGS" "Z") ∈ zT := zmem2 (i := 127) rfl rfl
theorem zm_369 : (Jvm.Cond.methodLink "java/lang/String" (505 : Nat) ({ cls := "java/lang/String", name := "length", desc := "()I" } : Jvm.MethodName)) ∈ zT := zmem2 (i := 129) rfl rfl
theorem zm_370 : (Jvm.Cond.instanceMethod ({ cls := "java/lang/String", name := "length", desc := "()I" } : Jvm.MethodName)) ∈ zT := zmem2 (i := 130) rfl rfl
theorem zm_371 : (Jvm.Cond.selects "java/lang/String" ({ cls := "java/lang/String", name := "length", desc := "()I" } : Jvm.MethodName) ({ cls := "java/lang/String", name := "length", desc := "()I" } : Jvm.MethodName)) ∈ zT := zmem2 (i := 131) rfl rfl
theorem zm_372 : (Jvm.Cond.code ({ cls := "java/lang/String", name := "length", desc := "()I" } : Jvm.MethodName) prog_13_method_54_code (1 : Nat) (Option.some Jvm.ClassFile.FieldType.int)) ∈ zT := zmem2 (i := 132) rfl rfl
theorem zm_373 : (Jvm.Cond.methodLink "java/lang/String" (335 : Nat) ({ cls := "java/lang/String", name := "coder", desc := "()B" } : Jvm.MethodName)) ∈ zT := zmem2 (i := 133) rfl rfl
theorem zm_374 : (Jvm.Cond.instanceMethod ({ cls := "java/lang/String", name := "coder", desc := "()B" } : Jvm.MethodName)) ∈ zT := zmem2 (i := 134) rfl rfl
theorem zm_375 : (Jvm.Cond.selects "java/lang/String" ({ cls := "java/lang/String", name := "coder", desc := "()B" } : Jvm.MethodName) ({ cls := "java/lang/String", name := "coder", desc := "()B" } : Jvm.MethodName)) ∈ zT := zmem2 (i := 135) rfl rfl
theorem zm_376 : (Jvm.Cond.code ({ cls := "java/lang/String", name := "coder", desc := "()B" } : Jvm.MethodName) prog_13_method_152_code (1 : Nat) (Option.some Jvm.ClassFile.FieldType.byte)) ∈ zT := zmem2 (i := 136) rfl rfl
theorem zm_377 : (Jvm.Cond.methodLink "java/lang/String" (637 : Nat) ({ cls := "java/lang/StringLatin1", name := "indexOf", desc := "([BIII)I" } : Jvm.MethodName)) ∈ zT := zmem2 (i := 137) rfl rfl
theorem zm_378 : (Jvm.Cond.static ({ cls := "java/lang/StringLatin1", name := "indexOf", desc := "([BIII)I" } : Jvm.MethodName)) ∈ zT := zmem2 (i := 138) rfl rfl
theorem zm_379 : (Jvm.Cond.code ({ cls := "java/lang/StringLatin1", name := "indexOf", desc := "([BIII)I" } : Jvm.MethodName) prog_14_method_22_code (4 : Nat) (Option.some Jvm.ClassFile.FieldType.int)) ∈ zT := zmem2 (i := 139) rfl rfl
theorem zm_380 : (Jvm.Cond.methodLink "java/lang/StringLatin1" (88 : Nat) ({ cls := "java/lang/StringLatin1", name := "canEncode", desc := "(I)Z" } : Jvm.MethodName)) ∈ zT := zmem2 (i := 140) rfl rfl
theorem zm_381 : (Jvm.Cond.static ({ cls := "java/lang/StringLatin1", name := "canEncode", desc := "(I)Z" } : Jvm.MethodName)) ∈ zT := zmem2 (i := 141) rfl rfl
theorem zm_382 : (Jvm.Cond.code ({ cls := "java/lang/StringLatin1", name := "canEncode", desc := "(I)Z" } : Jvm.MethodName) prog_14_method_4_code (1 : Nat) (Option.some Jvm.ClassFile.FieldType.boolean)) ∈ zT := zmem2 (i := 142) rfl rfl
theorem zm_383 : (Jvm.Cond.methodLink "java/lang/StringLatin1" (92 : Nat) ({ cls := "java/lang/Math", name := "max", desc := "(II)I" } : Jvm.MethodName)) ∈ zT := zmem2 (i := 143) rfl rfl
theorem zm_384 : (Jvm.Cond.static ({ cls := "java/lang/Math", name := "max", desc := "(II)I" } : Jvm.MethodName)) ∈ zT := zmem2 (i := 144) rfl rfl
theorem zm_385 : (Jvm.Cond.code ({ cls := "java/lang/Math", name := "max", desc := "(II)I" } : Jvm.MethodName) prog_12_method_65_code (2 : Nat) (Option.some Jvm.ClassFile.FieldType.int)) ∈ zT := zmem2 (i := 145) rfl rfl
theorem zm_386 : (Jvm.Cond.methodLink "java/lang/StringLatin1" (38 : Nat) ({ cls := "java/lang/Math", name := "min", desc := "(II)I" } : Jvm.MethodName)) ∈ zT := zmem2 (i := 146) rfl rfl
theorem zm_387 : (Jvm.Cond.static ({ cls := "java/lang/Math", name := "min", desc := "(II)I" } : Jvm.MethodName)) ∈ zT := zmem2 (i := 147) rfl rfl
theorem zm_388 : (Jvm.Cond.code ({ cls := "java/lang/Math", name := "min", desc := "(II)I" } : Jvm.MethodName) prog_12_method_69_code (2 : Nat) (Option.some Jvm.ClassFile.FieldType.int)) ∈ zT := zmem2 (i := 148) rfl rfl
theorem zm_389 : (Jvm.Cond.methodLink "java/lang/StringLatin1" (95 : Nat) ({ cls := "java/lang/StringLatin1", name := "indexOfChar", desc := "([BIII)I" } : Jvm.MethodName)) ∈ zT := zmem2 (i := 149) rfl rfl
theorem zm_390 : (Jvm.Cond.static ({ cls := "java/lang/StringLatin1", name := "indexOfChar", desc := "([BIII)I" } : Jvm.MethodName)) ∈ zT := zmem2 (i := 150) rfl rfl
theorem zm_391 : (Jvm.Cond.code ({ cls := "java/lang/StringLatin1", name := "indexOfChar", desc := "([BIII)I" } : Jvm.MethodName) prog_14_method_23_code (6 : Nat) (Option.some Jvm.ClassFile.FieldType.int)) ∈ zT := zmem2 (i := 151) rfl rfl
theorem zm_392 : (Jvm.Cond.methodLink "java/lang/String" (640 : Nat) ({ cls := "java/lang/StringUTF16", name := "indexOf", desc := "([BIII)I" } : Jvm.MethodName)) ∈ zT := zmem2 (i := 152) rfl rfl
theorem zm_393 : (Jvm.Cond.static ({ cls := "java/lang/StringUTF16", name := "indexOf", desc := "([BIII)I" } : Jvm.MethodName)) ∈ zT := zmem2 (i := 153) rfl rfl
theorem zm_394 : (Jvm.Cond.code ({ cls := "java/lang/StringUTF16", name := "indexOf", desc := "([BIII)I" } : Jvm.MethodName) prog_15_method_40_code (4 : Nat) (Option.some Jvm.ClassFile.FieldType.int)) ∈ zT := zmem2 (i := 154) rfl rfl
theorem zm_395 : (Jvm.Cond.methodLink "java/lang/StringUTF16" (224 : Nat) ({ cls := "java/lang/Math", name := "max", desc := "(II)I" } : Jvm.MethodName)) ∈ zT := zmem2 (i := 155) rfl rfl
theorem zm_396 : (Jvm.Cond.methodLink "java/lang/StringUTF16" (183 : Nat) ({ cls := "java/lang/Math", name := "min", desc := "(II)I" } : Jvm.MethodName)) ∈ zT := zmem2 (i := 156) rfl rfl
theorem zm_397 : (Jvm.Cond.constant "java/lang/StringUTF16" (227 : Nat) (65536 : Int32)) ∈ zT := zmem2 (i := 157) rfl rfl
theorem zm_398 : (Jvm.Cond.methodLink "java/lang/StringUTF16" (228 : Nat) ({ cls := "java/lang/StringUTF16", name := "indexOfChar", desc := "([BIII)I" } : Jvm.MethodName)) ∈ zT := zmem2 (i := 158) rfl rfl
theorem zm_399 : (Jvm.Cond.static ({ cls := "java/lang/StringUTF16", name := "indexOfChar", desc := "([BIII)I" } : Jvm.MethodName)) ∈ zT := zmem2 (i := 159) rfl rfl
theorem zm_400 : (Jvm.Cond.code ({ cls := "java/lang/StringUTF16", name := "indexOfChar", desc := "([BIII)I" } : Jvm.MethodName) prog_15_method_47_code (4 : Nat) (Option.some Jvm.ClassFile.FieldType.int)) ∈ zT := zmem2 (i := 160) rfl rfl
theorem zm_401 : (Jvm.Cond.methodLink "java/lang/StringUTF16" (96 : Nat) ({ cls := "java/lang/StringUTF16", name := "checkBoundsBeginEnd", desc := "(II[B)V" } : Jvm.MethodName)) ∈ zT := zmem2 (i := 161) rfl rfl
theorem zm_402 : (Jvm.Cond.static ({ cls := "java/lang/StringUTF16", name := "checkBoundsBeginEnd", desc := "(II[B)V" } : Jvm.MethodName)) ∈ zT := zmem2 (i := 162) rfl rfl
theorem zm_403 : (Jvm.Cond.code ({ cls := "java/lang/StringUTF16", name := "checkBoundsBeginEnd", desc := "(II[B)V" } : Jvm.MethodName) prog_15_method_93_code (3 : Nat) (Option.none : Option Jvm.ClassFile.FieldType)) ∈ zT := zmem2 (i := 163) rfl rfl
theorem zm_404 : (Jvm.Cond.methodLink "java/lang/StringUTF16" (48 : Nat) ({ cls := "java/lang/StringUTF16", name := "length", desc := "([B)I" } : Jvm.MethodName)) ∈ zT := zmem2 (i := 164) rfl rfl
theorem zm_405 : (Jvm.Cond.static ({ cls := "java/lang/StringUTF16", name := "length", desc := "([B)I" } : Jvm.MethodName)) ∈ zT := zmem2 (i := 165) rfl rfl
theorem zm_406 : (Jvm.Cond.code ({ cls := "java/lang/StringUTF16", name := "length", desc := "([B)I" } : Jvm.MethodName) prog_15_method_6_code (1 : Nat) (Option.some Jvm.ClassFile.FieldType.int)) ∈ zT := zmem2 (i := 166) rfl rfl
theorem zm_407 : (Jvm.Cond.methodLink "java/lang/StringUTF16" (241 : Nat) ({ cls := "java/lang/String", name := "checkBoundsBeginEnd", desc := "(III)V" } : Jvm.MethodName)) ∈ zT := zmem2 (i := 167) rfl rfl
theorem zm_408 : (Jvm.Cond.static ({ cls := "java/lang/String", name := "checkBoundsBeginEnd", desc := "(III)V" } : Jvm.MethodName)) ∈ zT := zmem2 (i := 168) rfl rfl
theorem zm_409 : (Jvm.Cond.code ({ cls := "java/lang/String", name := "checkBoundsBeginEnd", desc := "(III)V" } : Jvm.MethodName) prog_13_method_158_code (3 : Nat) (Option.none : Option Jvm.ClassFile.FieldType)) ∈ zT := zmem2 (i := 169) rfl rfl
theorem zm_410 : (Jvm.Cond.fieldLink "java/lang/String" (1053 : Nat) "jdk/internal/util/Preconditions" "SIOOBE_FORMATTER" "Ljava/util/function/BiFunction;") ∈ zT := zmem2 (i := 170) rfl rfl
theorem zm_412 : (Jvm.Cond.methodLink "java/lang/String" (1062 : Nat) ({ cls := "jdk/internal/util/Preconditions", name := "checkFromToIndex", desc := "(IIILjava/util/function/BiFunction;)I" } : Jvm.MethodName)) ∈ zT := zmem2 (i := 172) rfl rfl
theorem zm_413 : (Jvm.Cond.static ({ cls := "jdk/internal/util/Preconditions", name := "checkFromToIndex", desc := "(IIILjava/util/function/BiFunction;)I" } : Jvm.MethodName)) ∈ zT := zmem2 (i := 173) rfl rfl
theorem zm_414 : (Jvm.Cond.code ({ cls := "jdk/internal/util/Preconditions", name := "checkFromToIndex", desc := "(IIILjava/util/function/BiFunction;)I" } : Jvm.MethodName) prog_16_method_12_code (4 : Nat) (Option.some Jvm.ClassFile.FieldType.int)) ∈ zT := zmem2 (i := 174) rfl rfl
theorem zm_415 : (Jvm.Cond.methodLink "java/lang/StringUTF16" (244 : Nat) ({ cls := "java/lang/StringUTF16", name := "indexOfCharUnsafe", desc := "([BIII)I" } : Jvm.MethodName)) ∈ zT := zmem2 (i := 175) rfl rfl
theorem zm_416 : (Jvm.Cond.static ({ cls := "java/lang/StringUTF16", name := "indexOfCharUnsafe", desc := "([BIII)I" } : Jvm.MethodName)) ∈ zT := zmem2 (i := 176) rfl rfl
theorem zm_417 : (Jvm.Cond.code ({ cls := "java/lang/StringUTF16", name := "indexOfCharUnsafe", desc := "([BIII)I" } : Jvm.MethodName) prog_15_method_48_code (5 : Nat) (Option.some Jvm.ClassFile.FieldType.int)) ∈ zT := zmem2 (i := 177) rfl rfl
theorem zm_418 : (Jvm.Cond.methodLink "java/lang/StringUTF16" (71 : Nat) ({ cls := "java/lang/StringUTF16", name := "getChar", desc := "([BI)C" } : Jvm.MethodName)) ∈ zT := zmem2 (i := 178) rfl rfl
theorem zm_419 : (Jvm.Cond.static ({ cls := "java/lang/StringUTF16", name := "getChar", desc := "([BI)C" } : Jvm.MethodName)) ∈ zT := zmem2 (i := 179) rfl rfl
theorem zm_420 : (Jvm.Cond.code ({ cls := "java/lang/StringUTF16", name := "getChar", desc := "([BI)C" } : Jvm.MethodName) prog_15_method_5_code (2 : Nat) (Option.some Jvm.ClassFile.FieldType.char)) ∈ zT := zmem2 (i := 180) rfl rfl
theorem zm_421 : (Jvm.Cond.fieldLink "java/lang/StringUTF16" (44 : Nat) "java/lang/StringUTF16" "$assertionsDisabled" "Z") ∈ zT := zmem2 (i := 181) rfl rfl
theorem zm_423 : (Jvm.Cond.fieldLink "java/lang/StringUTF16" (59 : Nat) "java/lang/StringUTF16" "HI_BYTE_SHIFT" "I") ∈ zT := zmem2 (i := 183) rfl rfl
theorem zm_425 : (Jvm.Cond.fieldLink "java/lang/StringUTF16" (63 : Nat) "java/lang/StringUTF16" "LO_BYTE_SHIFT" "I") ∈ zT := zmem2 (i := 185) rfl rfl
theorem zm_427 : (Jvm.Cond.methodLink "java/lang/StringUTF16" (232 : Nat) ({ cls := "java/lang/StringUTF16", name := "indexOfSupplementary", desc := "([BIII)I" } : Jvm.MethodName)) ∈ zT := zmem2 (i := 187) rfl rfl
theorem zm_428 : (Jvm.Cond.static ({ cls := "java/lang/StringUTF16", name := "indexOfSupplementary", desc := "([BIII)I" } : Jvm.MethodName)) ∈ zT := zmem2 (i := 188) rfl rfl
theorem zm_429 : (Jvm.Cond.code ({ cls := "java/lang/StringUTF16", name := "indexOfSupplementary", desc := "([BIII)I" } : Jvm.MethodName) prog_15_method_49_code (7 : Nat) (Option.some Jvm.ClassFile.FieldType.int)) ∈ zT := zmem2 (i := 189) rfl rfl
theorem zm_430 : (Jvm.Cond.methodLink "java/lang/StringUTF16" (164 : Nat) ({ cls := "java/lang/Character", name := "isValidCodePoint", desc := "(I)Z" } : Jvm.MethodName)) ∈ zT := zmem2 (i := 190) rfl rfl
theorem zm_431 : (Jvm.Cond.static ({ cls := "java/lang/Character", name := "isValidCodePoint", desc := "(I)Z" } : Jvm.MethodName)) ∈ zT := zmem2 (i := 191) rfl rfl
theorem zm_432 : (Jvm.Cond.code ({ cls := "java/lang/Character", name := "isValidCodePoint", desc := "(I)Z" } : Jvm.MethodName) prog_10_method_11_code (2 : Nat) (Option.some Jvm.ClassFile.FieldType.boolean)) ∈ zT := zmem2 (i := 192) rfl rfl
theorem zm_433 : (Jvm.Cond.methodLink "java/lang/StringUTF16" (157 : Nat) ({ cls := "java/lang/Character", name := "highSurrogate", desc := "(I)C" } : Jvm.MethodName)) ∈ zT := zmem2 (i := 193) rfl rfl
theorem zm_434 : (Jvm.Cond.static ({ cls := "java/lang/Character", name := "highSurrogate", desc := "(I)C" } : Jvm.MethodName)) ∈ zT := zmem2 (i := 194) rfl rfl
theorem zm_435 : (Jvm.Cond.code ({ cls := "java/lang/Character", name := "highSurrogate", desc := "(I)C" } : Jvm.MethodName) prog_10_method_28_code (1 : Nat) (Option.some Jvm.ClassFile.FieldType.char)) ∈ zT := zmem2 (i := 195) rfl rfl
theorem zm_436 : (Jvm.Cond.constant "java/lang/Character" (110 : Nat) (55232 : Int32)) ∈ zT := zmem2 (i := 196) rfl rfl
theorem zm_437 : (Jvm.Cond.methodLink "java/lang/StringUTF16" (161 : Nat) ({ cls := "java/lang/Character", name := "lowSurrogate", desc := "(I)C" } : Jvm.MethodName)) ∈ zT := zmem2 (i := 197) rfl rfl
theorem zm_438 : (Jvm.Cond.static ({ cls := "java/lang/Character", name := "lowSurrogate", desc := "(I)C" } : Jvm.MethodName)) ∈ zT := zmem2 (i := 198) rfl rfl
theorem zm_439 : (Jvm.Cond.code ({ cls := "java/lang/Character", name := "lowSurrogate", desc := "(I)C" } : Jvm.MethodName) prog_10_method_29_code (1 : Nat) (Option.some Jvm.ClassFile.FieldType.char)) ∈ zT := zmem2 (i := 199) rfl rfl
theorem zm_440 : (Jvm.Cond.constant "java/lang/Character" (76 : Nat) (56320 : Int32)) ∈ zT := zmem2 (i := 200) rfl rfl
theorem zm_441 : (Jvm.Cond.methodLink "WindowLetters" (99 : Nat) ({ cls := "WindowLetters$Shop", name := "writeName", desc := "(LWindowLetters$Pad;IIII)I" } : Jvm.MethodName)) ∈ zT := zmem2 (i := 201) rfl rfl
theorem zm_442 : (Jvm.Cond.instanceMethod ({ cls := "WindowLetters$Shop", name := "writeName", desc := "(LWindowLetters$Pad;IIII)I" } : Jvm.MethodName)) ∈ zT := zmem2 (i := 202) rfl rfl
theorem zm_443 : (Jvm.Cond.selects "WindowLetters$Shop" ({ cls := "WindowLetters$Shop", name := "writeName", desc := "(LWindowLetters$Pad;IIII)I" } : Jvm.MethodName) ({ cls := "WindowLetters$Shop", name := "writeName", desc := "(LWindowLetters$Pad;IIII)I" } : Jvm.MethodName)) ∈ zT := zmem2 (i := 203) rfl rfl
theorem zm_444 : (Jvm.Cond.code ({ cls := "WindowLetters$Shop", name := "writeName", desc := "(LWindowLetters$Pad;IIII)I" } : Jvm.MethodName) prog_7_method_9_code (10 : Nat) (Option.some Jvm.ClassFile.FieldType.int)) ∈ zT := zmem2 (i := 204) rfl rfl
theorem zm_445 : (Jvm.Cond.methodLink "WindowLetters$Shop" (103 : Nat) ({ cls := "WindowLetters$Pad", name := "letterAt", desc := "(I)I" } : Jvm.MethodName)) ∈ zT := zmem2 (i := 205) rfl rfl
theorem zm_446 : (Jvm.Cond.methodLink "WindowLetters$Shop" (106 : Nat) ({ cls := "WindowLetters$Shop", name := "lowestLoose", desc := "(III)I" } : Jvm.MethodName)) ∈ zT := zmem2 (i := 206) rfl rfl
theorem zm_448 : (Jvm.Cond.instanceMethod ({ cls := "WindowLetters$Shop", name := "lowestLoose", desc := "(III)I" } : Jvm.MethodName)) ∈ zT := zmem2 (i := 208) rfl rfl
theorem zm_449 : (Jvm.Cond.code ({ cls := "WindowLetters$Shop", name := "lowestLoose", desc := "(III)I" } : Jvm.MethodName) prog_7_method_10_code (6 : Nat) (Option.some Jvm.ClassFile.FieldType.int)) ∈ zT := zmem2 (i := 209) rfl rfl
theorem zm_450 : (Jvm.Cond.methodLink "WindowLetters$Shop" (116 : Nat) ({ cls := "WindowLetters$Shop", name := "pieceAt", desc := "(I)LWindowLetters$Piece;" } : Jvm.MethodName)) ∈ zT := zmem2 (i := 210) rfl rfl
theorem zm_451 : (Jvm.Cond.instanceMethod ({ cls := "WindowLetters$Shop", name := "pieceAt", desc := "(I)LWindowLetters$Piece;" } : Jvm.MethodName)) ∈ zT := zmem2 (i := 211) rfl rfl
theorem zm_452 : (Jvm.Cond.selects "WindowLetters$Shop" ({ cls := "WindowLetters$Shop", name := "pieceAt", desc := "(I)LWindowLetters$Piece;" } : Jvm.MethodName) ({ cls := "WindowLetters$Shop", name := "pieceAt", desc := "(I)LWindowLetters$Piece;" } : Jvm.MethodName)) ∈ zT := zmem2 (i := 212) rfl rfl
theorem zm_453 : (Jvm.Cond.code ({ cls := "WindowLetters$Shop", name := "pieceAt", desc := "(I)LWindowLetters$Piece;" } : Jvm.MethodName) prog_7_method_4_code (2 : Nat) (Option.some (Jvm.ClassFile.FieldType.object "WindowLetters$Piece"))) ∈ zT := zmem2 (i := 213) rfl rfl
theorem zm_454 : (Jvm.Cond.methodLinkNest "WindowLetters$Shop" (123 : Nat) ({ cls := "WindowLetters", name := "mirroringOf", desc := "(I)I" } : Jvm.MethodName) "WindowLetters") ∈ zN := zmemN2 (i := 214) rfl rfl
theorem zm_455 : (Jvm.Cond.methodLink "WindowLetters$Shop" (110 : Nat) ({ cls := "WindowLetters$Shop", name := "makePiece", desc := "(III)I" } : Jvm.MethodName)) ∈ zT := zmem2 (i := 215) rfl rfl
theorem zm_456 : (Jvm.Cond.methodLink "WindowLetters$Shop" (113 : Nat) ({ cls := "WindowLetters$Shop", name := "putIntoPane", desc := "(III)I" } : Jvm.MethodName)) ∈ zT := zmem2 (i := 216) rfl rfl
theorem zm_457 : (Jvm.Cond.instanceMethod ({ cls := "WindowLetters$Shop", name := "putIntoPane", desc := "(III)I" } : Jvm.MethodName)) ∈ zT := zmem2 (i := 217) rfl rfl
theorem zm_458 : (Jvm.Cond.selects "WindowLetters$Shop" ({ cls := "WindowLetters$Shop", name := "putIntoPane", desc := "(III)I" } : Jvm.MethodName) ({ cls := "WindowLetters$Shop", name := "putIntoPane", desc := "(III)I" } : Jvm.MethodName)) ∈ zT := zmem2 (i := 218) rfl rfl
theorem zm_459 : (Jvm.Cond.code ({ cls := "WindowLetters$Shop", name := "putIntoPane", desc := "(III)I" } : Jvm.MethodName) prog_7_method_11_code (6 : Nat) (Option.some Jvm.ClassFile.FieldType.int)) ∈ zT := zmem2 (i := 219) rfl rfl
theorem zm_460 : (Jvm.Cond.methodLinkNest "WindowLetters$Shop" (126 : Nat) ({ cls := "WindowLetters", name := "isPane", desc := "(I)Z" } : Jvm.MethodName) "WindowLetters") ∈ zN := zmemN2 (i := 220) rfl rfl
theorem zm_461 : (Jvm.Cond.methodLinkNest "WindowLetters$Shop" (130 : Nat) ({ cls := "WindowLetters", name := "isPlace", desc := "(I)Z" } : Jvm.MethodName) "WindowLetters") ∈ zN := zmemN2 (i := 221) rfl rfl
theorem zm_462 : (Jvm.Cond.methodLink "WindowLetters$Shop" (136 : Nat) ({ cls := "WindowLetters$Shop", name := "piecesIn", desc := "(I)I" } : Jvm.MethodName)) ∈ zT := zmem2 (i := 222) rfl rfl
theorem zm_464 : (Jvm.Cond.instanceMethod ({ cls := "WindowLetters$Shop", name := "piecesIn", desc := "(I)I" } : Jvm.MethodName)) ∈ zT := zmem2 (i := 224) rfl rfl
theorem zm_465 : (Jvm.Cond.code ({ cls := "WindowLetters$Shop", name := "piecesIn", desc := "(I)I" } : Jvm.MethodName) prog_7_method_15_code (5 : Nat) (Option.some Jvm.ClassFile.FieldType.int)) ∈ zT := zmem2 (i := 225) rfl rfl
theorem zm_466 : (Jvm.Cond.methodLink "WindowLetters" (103 : Nat) ({ cls := "WindowLetters$Pad", name := "empty", desc := "()V" } : Jvm.MethodName)) ∈ zT := zmem2 (i := 226) rfl rfl
theorem zm_467 : (Jvm.Cond.instanceMethod ({ cls := "WindowLetters$Pad", name := "empty", desc := "()V" } : Jvm.MethodName)) ∈ zT := zmem2 (i := 227) rfl rfl
theorem zm_468 : (Jvm.Cond.selects "WindowLetters$Pad" ({ cls := "WindowLetters$Pad", name := "empty", desc := "()V" } : Jvm.MethodName) ({ cls := "WindowLetters$Pad", name := "empty", desc := "()V" } : Jvm.MethodName)) ∈ zT := zmem2 (i := 228) rfl rfl
theorem zm_469 : (Jvm.Cond.code ({ cls := "WindowLetters$Pad", name := "empty", desc := "()V" } : Jvm.MethodName) prog_3_method_2_code (1 : Nat) (Option.none : Option Jvm.ClassFile.FieldType)) ∈ zT := zmem2 (i := 229) rfl rfl
theorem zm_470 : (Jvm.Cond.arrayClass Jvm.ClassFile.FieldType.byte) ∈ zT := zmem2 (i := 230) rfl rfl
theorem zm_471 : (Jvm.Cond.methodLink "WindowLettersLaw" (33 : Nat) ({ cls := "WindowLetters", name := "place", desc := "(III)I" } : Jvm.MethodName)) ∈ zT := zmem2 (i := 231) rfl rfl
theorem zm_472 : (Jvm.Cond.instanceMethod ({ cls := "WindowLetters", name := "place", desc := "(III)I" } : Jvm.MethodName)) ∈ zT := zmem2 (i := 232) rfl rfl
theorem zm_473 : (Jvm.Cond.selects "WindowLetters" ({ cls := "WindowLetters", name := "place", desc := "(III)I" } : Jvm.MethodName) ({ cls := "WindowLetters", name := "place", desc := "(III)I" } : Jvm.MethodName)) ∈ zT := zmem2 (i := 233) rfl rfl
theorem zm_474 : (Jvm.Cond.code ({ cls := "WindowLetters", name := "place", desc := "(III)I" } : Jvm.MethodName) prog_1_method_6_code (4 : Nat) (Option.some Jvm.ClassFile.FieldType.int)) ∈ zT := zmem2 (i := 234) rfl rfl
theorem zm_475 : (Jvm.Cond.methodLink "WindowLetters" (106 : Nat) ({ cls := "WindowLetters$Shop", name := "pieceAt", desc := "(I)LWindowLetters$Piece;" } : Jvm.MethodName)) ∈ zT := zmem2 (i := 235) rfl rfl
theorem zm_476 : (Jvm.Cond.methodLink "WindowLetters" (110 : Nat) ({ cls := "WindowLetters$Shop", name := "putIntoPane", desc := "(III)I" } : Jvm.MethodName)) ∈ zT := zmem2 (i := 236) rfl rfl
theorem zm_477 : (Jvm.Cond.methodLink "WindowLettersLaw" (37 : Nat) ({ cls := "WindowLetters", name := "clear", desc := "(I)I" } : Jvm.MethodName)) ∈ zT := zmem2 (i := 237) rfl rfl
theorem zm_478 : (Jvm.Cond.instanceMethod ({ cls := "WindowLetters", name := "clear", desc := "(I)I" } : Jvm.MethodName)) ∈ zT := zmem2 (i := 238) rfl rfl
theorem zm_479 : (Jvm.Cond.selects "WindowLetters" ({ cls := "WindowLetters", name := "clear", desc := "(I)I" } : Jvm.MethodName) ({ cls := "WindowLetters", name := "clear", desc := "(I)I" } : Jvm.MethodName)) ∈ zT := zmem2 (i := 239) rfl rfl
theorem zm_480 : (Jvm.Cond.code ({ cls := "WindowLetters", name := "clear", desc := "(I)I" } : Jvm.MethodName) prog_1_method_7_code (2 : Nat) (Option.some Jvm.ClassFile.FieldType.int)) ∈ zT := zmem3 (i := 0) rfl rfl
theorem zm_481 : (Jvm.Cond.methodLink "WindowLetters" (113 : Nat) ({ cls := "WindowLetters$Shop", name := "clearPane", desc := "(I)I" } : Jvm.MethodName)) ∈ zT := zmem3 (i := 1) rfl rfl
theorem zm_482 : (Jvm.Cond.instanceMethod ({ cls := "WindowLetters$Shop", name := "clearPane", desc := "(I)I" } : Jvm.MethodName)) ∈ zT := zmem3 (i := 2) rfl rfl
theorem zm_483 : (Jvm.Cond.selects "WindowLetters$Shop" ({ cls := "WindowLetters$Shop", name := "clearPane", desc := "(I)I" } : Jvm.MethodName) ({ cls := "WindowLetters$Shop", name := "clearPane", desc := "(I)I" } : Jvm.MethodName)) ∈ zT := zmem3 (i := 3) rfl rfl
theorem zm_484 : (Jvm.Cond.code ({ cls := "WindowLetters$Shop", name := "clearPane", desc := "(I)I" } : Jvm.MethodName) prog_7_method_12_code (5 : Nat) (Option.some Jvm.ClassFile.FieldType.int)) ∈ zT := zmem3 (i := 4) rfl rfl
theorem zm_485 : (Jvm.Cond.methodLink "WindowLettersLaw" (41 : Nat) ({ cls := "WindowLetters", name := "throwAway", desc := "(I)I" } : Jvm.MethodName)) ∈ zT := zmem3 (i := 5) rfl rfl
theorem zm_486 : (Jvm.Cond.instanceMethod ({ cls := "WindowLetters", name := "throwAway", desc := "(I)I" } : Jvm.MethodName)) ∈ zT := zmem3 (i := 6) rfl rfl
theorem zm_487 : (Jvm.Cond.selects "WindowLetters" ({ cls := "WindowLetters", name := "throwAway", desc := "(I)I" } : Jvm.MethodName) ({ cls := "WindowLetters", name := "throwAway", desc := "(I)I" } : Jvm.MethodName)) ∈ zT := zmem3 (i := 7) rfl rfl
theorem zm_488 : (Jvm.Cond.code ({ cls := "WindowLetters", name := "throwAway", desc := "(I)I" } : Jvm.MethodName) prog_1_method_8_code (2 : Nat) (Option.some Jvm.ClassFile.FieldType.int)) ∈ zT := zmem3 (i := 8) rfl rfl
theorem zm_489 : (Jvm.Cond.methodLink "WindowLetters" (116 : Nat) ({ cls := "WindowLetters$Shop", name := "wastePiece", desc := "(I)I" } : Jvm.MethodName)) ∈ zT := zmem3 (i := 9) rfl rfl
theorem zm_490 : (Jvm.Cond.instanceMethod ({ cls := "WindowLetters$Shop", name := "wastePiece", desc := "(I)I" } : Jvm.MethodName)) ∈ zT := zmem3 (i := 10) rfl rfl
theorem zm_491 : (Jvm.Cond.selects "WindowLetters$Shop" ({ cls := "WindowLetters$Shop", name := "wastePiece", desc := "(I)I" } : Jvm.MethodName) ({ cls := "WindowLetters$Shop", name := "wastePiece", desc := "(I)I" } : Jvm.MethodName)) ∈ zT := zmem3 (i := 11) rfl rfl
theorem zm_492 : (Jvm.Cond.code ({ cls := "WindowLetters$Shop", name := "wastePiece", desc := "(I)I" } : Jvm.MethodName) prog_7_method_13_code (3 : Nat) (Option.some Jvm.ClassFile.FieldType.int)) ∈ zT := zmem3 (i := 12) rfl rfl
theorem zm_493 : (Jvm.Cond.methodLink "WindowLetters$Shop" (139 : Nat) ({ cls := "WindowLetters$Shapes", name := "squaresOf", desc := "(I)I" } : Jvm.MethodName)) ∈ zT := zmem3 (i := 13) rfl rfl
theorem zm_494 : (Jvm.Cond.instanceMethod ({ cls := "WindowLetters$Shapes", name := "squaresOf", desc := "(I)I" } : Jvm.MethodName)) ∈ zT := zmem3 (i := 14) rfl rfl
theorem zm_495 : (Jvm.Cond.selects "WindowLetters$Shapes" ({ cls := "WindowLetters$Shapes", name := "squaresOf", desc := "(I)I" } : Jvm.MethodName) ({ cls := "WindowLetters$Shapes", name := "squaresOf", desc := "(I)I" } : Jvm.MethodName)) ∈ zT := zmem3 (i := 15) rfl rfl
theorem zm_496 : (Jvm.Cond.code ({ cls := "WindowLetters$Shapes", name := "squaresOf", desc := "(I)I" } : Jvm.MethodName) prog_5_method_3_code (4 : Nat) (Option.some Jvm.ClassFile.FieldType.int)) ∈ zT := zmem3 (i := 16) rfl rfl
theorem zm_497 : (Jvm.Cond.methodLink "WindowLetters$Shapes" (30 : Nat) ({ cls := "WindowLetters$Shapes", name := "columnsOf", desc := "(III)I" } : Jvm.MethodName)) ∈ zT := zmem3 (i := 17) rfl rfl
theorem zm_498 : (Jvm.Cond.methodLink "WindowLetters$Shapes" (33 : Nat) ({ cls := "java/lang/Integer", name := "bitCount", desc := "(I)I" } : Jvm.MethodName)) ∈ zT := zmem3 (i := 18) rfl rfl
theorem zm_499 : (Jvm.Cond.methodLink "WindowLettersLaw" (45 : Nat) ({ cls := "WindowLetters", name := "scrap", desc := "(I)I" } : Jvm.MethodName)) ∈ zT := zmem3 (i := 19) rfl rfl
theorem zm_500 : (Jvm.Cond.instanceMethod ({ cls := "WindowLetters", name := "scrap", desc := "(I)I" } : Jvm.MethodName)) ∈ zT := zmem3 (i := 20) rfl rfl
theorem zm_501 : (Jvm.Cond.selects "WindowLetters" ({ cls := "WindowLetters", name := "scrap", desc := "(I)I" } : Jvm.MethodName) ({ cls := "WindowLetters", name := "scrap", desc := "(I)I" } : Jvm.MethodName)) ∈ zT := zmem3 (i := 21) rfl rfl
theorem zm_502 : (Jvm.Cond.code ({ cls := "WindowLetters", name := "scrap", desc := "(I)I" } : Jvm.MethodName) prog_1_method_9_code (2 : Nat) (Option.some Jvm.ClassFile.FieldType.int)) ∈ zT := zmem3 (i := 22) rfl rfl
theorem zm_503 : (Jvm.Cond.methodLink "WindowLetters" (119 : Nat) ({ cls := "WindowLetters$Shop", name := "scrapSheet", desc := "(I)I" } : Jvm.MethodName)) ∈ zT := zmem3 (i := 23) rfl rfl
theorem zm_504 : (Jvm.Cond.instanceMethod ({ cls := "WindowLetters$Shop", name := "scrapSheet", desc := "(I)I" } : Jvm.MethodName)) ∈ zT := zmem3 (i := 24) rfl rfl
theorem zm_505 : (Jvm.Cond.selects "WindowLetters$Shop" ({ cls := "WindowLetters$Shop", name := "scrapSheet", desc := "(I)I" } : Jvm.MethodName) ({ cls := "WindowLetters$Shop", name := "scrapSheet", desc := "(I)I" } : Jvm.MethodName)) ∈ zT := zmem3 (i := 25) rfl rfl
theorem zm_506 : (Jvm.Cond.code ({ cls := "WindowLetters$Shop", name := "scrapSheet", desc := "(I)I" } : Jvm.MethodName) prog_7_method_14_code (3 : Nat) (Option.some Jvm.ClassFile.FieldType.int)) ∈ zT := zmem3 (i := 26) rfl rfl
theorem zm_507 : (Jvm.Cond.methodLink "WindowLetters$Shop" (148 : Nat) ({ cls := "WindowLetters$Sheet", name := "squaresLeft", desc := "()I" } : Jvm.MethodName)) ∈ zT := zmem3 (i := 27) rfl rfl
theorem zm_508 : (Jvm.Cond.instanceMethod ({ cls := "WindowLetters$Sheet", name := "squaresLeft", desc := "()I" } : Jvm.MethodName)) ∈ zT := zmem3 (i := 28) rfl rfl
theorem zm_509 : (Jvm.Cond.selects "WindowLetters$Sheet" ({ cls := "WindowLetters$Sheet", name := "squaresLeft", desc := "()I" } : Jvm.MethodName) ({ cls := "WindowLetters$Sheet", name := "squaresLeft", desc := "()I" } : Jvm.MethodName)) ∈ zT := zmem3 (i := 29) rfl rfl
theorem zm_510 : (Jvm.Cond.code ({ cls := "WindowLetters$Sheet", name := "squaresLeft", desc := "()I" } : Jvm.MethodName) prog_6_method_11_code (3 : Nat) (Option.some Jvm.ClassFile.FieldType.int)) ∈ zT := zmem3 (i := 30) rfl rfl
theorem zm_511 : (Jvm.Cond.methodLink "WindowLetters$Sheet" (67 : Nat) ({ cls := "java/lang/Integer", name := "bitCount", desc := "(I)I" } : Jvm.MethodName)) ∈ zT := zmem3 (i := 31) rfl rfl
theorem zm_512 : (Jvm.Cond.methodLink "WindowLettersLaw" (49 : Nat) ({ cls := "WindowLetters", name := "of", desc := "(II)I" } : Jvm.MethodName)) ∈ zT := zmem3 (i := 32) rfl rfl
theorem zm_513 : (Jvm.Cond.instanceMethod ({ cls := "WindowLetters", name := "of", desc := "(II)I" } : Jvm.MethodName)) ∈ zT := zmem3 (i := 33) rfl rfl
theorem zm_514 : (Jvm.Cond.selects "WindowLetters" ({ cls := "WindowLetters", name := "of", desc := "(II)I" } : Jvm.MethodName) ({ cls := "WindowLetters", name := "of", desc := "(II)I" } : Jvm.MethodName)) ∈ zT := zmem3 (i := 34) rfl rfl
theorem zm_515 : (Jvm.Cond.code ({ cls := "WindowLetters", name := "of", desc := "(II)I" } : Jvm.MethodName) prog_1_method_10_code (4 : Nat) (Option.some Jvm.ClassFile.FieldType.int)) ∈ zT := zmem3 (i := 35) rfl rfl
theorem zm_516 : (Jvm.Cond.methodLink "WindowLetters" (134 : Nat) ({ cls := "WindowLetters", name := "mirroringOf", desc := "(I)I" } : Jvm.MethodName)) ∈ zT := zmem3 (i := 36) rfl rfl
theorem zm_517 : (Jvm.Cond.methodLink "WindowLettersLaw" (54 : Nat) ({ cls := "WindowLetters", name := "ofSheet", desc := "(II)I" } : Jvm.MethodName)) ∈ zT := zmem3 (i := 37) rfl rfl
theorem zm_518 : (Jvm.Cond.instanceMethod ({ cls := "WindowLetters", name := "ofSheet", desc := "(II)I" } : Jvm.MethodName)) ∈ zT := zmem3 (i := 38) rfl rfl
theorem zm_519 : (Jvm.Cond.selects "WindowLetters" ({ cls := "WindowLetters", name := "ofSheet", desc := "(II)I" } : Jvm.MethodName) ({ cls := "WindowLetters", name := "ofSheet", desc := "(II)I" } : Jvm.MethodName)) ∈ zT := zmem3 (i := 39) rfl rfl
theorem zm_520 : (Jvm.Cond.code ({ cls := "WindowLetters", name := "ofSheet", desc := "(II)I" } : Jvm.MethodName) prog_1_method_11_code (4 : Nat) (Option.some Jvm.ClassFile.FieldType.int)) ∈ zT := zmem3 (i := 40) rfl rfl
theorem zm_521 : (Jvm.Cond.methodLink "WindowLetters" (150 : Nat) ({ cls := "WindowLetters$Sheet", name := "squaresLeft", desc := "()I" } : Jvm.MethodName)) ∈ zT := zmem3 (i := 41) rfl rfl
theorem zm_522 : (Jvm.Cond.methodLink "WindowLetters" (153 : Nat) ({ cls := "WindowLetters$Shop", name := "piecesFrom", desc := "(I)I" } : Jvm.MethodName)) ∈ zT := zmem3 (i := 42) rfl rfl
theorem zm_523 : (Jvm.Cond.instanceMethod ({ cls := "WindowLetters$Shop", name := "piecesFrom", desc := "(I)I" } : Jvm.MethodName)) ∈ zT := zmem3 (i := 43) rfl rfl
theorem zm_524 : (Jvm.Cond.selects "WindowLetters$Shop" ({ cls := "WindowLetters$Shop", name := "piecesFrom", desc := "(I)I" } : Jvm.MethodName) ({ cls := "WindowLetters$Shop", name := "piecesFrom", desc := "(I)I" } : Jvm.MethodName)) ∈ zT := zmem3 (i := 44) rfl rfl
theorem zm_525 : (Jvm.Cond.code ({ cls := "WindowLetters$Shop", name := "piecesFrom", desc := "(I)I" } : Jvm.MethodName) prog_7_method_16_code (5 : Nat) (Option.some Jvm.ClassFile.FieldType.int)) ∈ zT := zmem3 (i := 45) rfl rfl
theorem zm_526 : (Jvm.Cond.methodLink "WindowLetters" (160 : Nat) ({ cls := "WindowLetters$Sheet", name := "lettersThatFit", desc := "()I" } : Jvm.MethodName)) ∈ zT := zmem3 (i := 46) rfl rfl
theorem zm_527 : (Jvm.Cond.instanceMethod ({ cls := "WindowLetters$Sheet", name := "lettersThatFit", desc := "()I" } : Jvm.MethodName)) ∈ zT := zmem3 (i := 47) rfl rfl
theorem zm_528 : (Jvm.Cond.selects "WindowLetters$Sheet" ({ cls := "WindowLetters$Sheet", name := "lettersThatFit", desc := "()I" } : Jvm.MethodName) ({ cls := "WindowLetters$Sheet", name := "lettersThatFit", desc := "()I" } : Jvm.MethodName)) ∈ zT := zmem3 (i := 48) rfl rfl
theorem zm_529 : (Jvm.Cond.code ({ cls := "WindowLetters$Sheet", name := "lettersThatFit", desc := "()I" } : Jvm.MethodName) prog_6_method_10_code (3 : Nat) (Option.some Jvm.ClassFile.FieldType.int)) ∈ zT := zmem3 (i := 49) rfl rfl
theorem zm_530 : (Jvm.Cond.methodLink "WindowLetters$Sheet" (50 : Nat) ({ cls := "WindowLetters$Sheet", name := "firstFit", desc := "(II)I" } : Jvm.MethodName)) ∈ zT := zmem3 (i := 50) rfl rfl
theorem zm_531 : (Jvm.Cond.methodLink "WindowLettersLaw" (58 : Nat) ({ cls := "WindowLetters", name := "row", desc := "(II)I" } : Jvm.MethodName)) ∈ zT := zmem3 (i := 51) rfl rfl
theorem zm_532 : (Jvm.Cond.instanceMethod ({ cls := "WindowLetters", name := "row", desc := "(II)I" } : Jvm.MethodName)) ∈ zT := zmem3 (i := 52) rfl rfl
theorem zm_533 : (Jvm.Cond.selects "WindowLetters" ({ cls := "WindowLetters", name := "row", desc := "(II)I" } : Jvm.MethodName) ({ cls := "WindowLetters", name := "row", desc := "(II)I" } : Jvm.MethodName)) ∈ zT := zmem3 (i := 53) rfl rfl
theorem zm_534 : (Jvm.Cond.code ({ cls := "WindowLetters", name := "row", desc := "(II)I" } : Jvm.MethodName) prog_1_method_12_code (4 : Nat) (Option.some Jvm.ClassFile.FieldType.int)) ∈ zT := zmem3 (i := 54) rfl rfl
theorem zm_535 : (Jvm.Cond.methodLink "WindowLettersLaw" (62 : Nat) ({ cls := "WindowLetters", name := "pane", desc := "(II)I" } : Jvm.MethodName)) ∈ zT := zmem3 (i := 55) rfl rfl
theorem zm_536 : (Jvm.Cond.instanceMethod ({ cls := "WindowLetters", name := "pane", desc := "(II)I" } : Jvm.MethodName)) ∈ zT := zmem3 (i := 56) rfl rfl
theorem zm_537 : (Jvm.Cond.selects "WindowLetters" ({ cls := "WindowLetters", name := "pane", desc := "(II)I" } : Jvm.MethodName) ({ cls := "WindowLetters", name := "pane", desc := "(II)I" } : Jvm.MethodName)) ∈ zT := zmem3 (i := 57) rfl rfl
theorem zm_538 : (Jvm.Cond.code ({ cls := "WindowLetters", name := "pane", desc := "(II)I" } : Jvm.MethodName) prog_1_method_13_code (3 : Nat) (Option.some Jvm.ClassFile.FieldType.int)) ∈ zT := zmem3 (i := 58) rfl rfl
theorem zm_539 : (Jvm.Cond.methodLink "WindowLettersLaw" (66 : Nat) ({ cls := "WindowLetters", name := "shape", desc := "(III)I" } : Jvm.MethodName)) ∈ zT := zmem3 (i := 59) rfl rfl
theorem zm_540 : (Jvm.Cond.instanceMethod ({ cls := "WindowLetters", name := "shape", desc := "(III)I" } : Jvm.MethodName)) ∈ zT := zmem3 (i := 60) rfl rfl
theorem zm_541 : (Jvm.Cond.selects "WindowLetters" ({ cls := "WindowLetters", name := "shape", desc := "(III)I" } : Jvm.MethodName) ({ cls := "WindowLetters", name := "shape", desc := "(III)I" } : Jvm.MethodName)) ∈ zT := zmem3 (i := 61) rfl rfl
theorem zm_542 : (Jvm.Cond.code ({ cls := "WindowLetters", name := "shape", desc := "(III)I" } : Jvm.MethodName) prog_1_method_14_code (4 : Nat) (Option.some Jvm.ClassFile.FieldType.int)) ∈ zT := zmem3 (i := 62) rfl rfl
theorem zm_543 : (Jvm.Cond.methodLink "WindowLetters" (170 : Nat) ({ cls := "WindowLetters$Shapes", name := "columnsOf", desc := "(III)I" } : Jvm.MethodName)) ∈ zT := zmem3 (i := 63) rfl rfl
theorem zm_544 : (Jvm.Cond.methodLink "WindowLettersLaw" (70 : Nat) ({ cls := "WindowLetters", name := "count", desc := "(I)I" } : Jvm.MethodName)) ∈ zT := zmem3 (i := 64) rfl rfl
theorem zm_545 : (Jvm.Cond.instanceMethod ({ cls := "WindowLetters", name := "count", desc := "(I)I" } : Jvm.MethodName)) ∈ zT := zmem3 (i := 65) rfl rfl
theorem zm_546 : (Jvm.Cond.selects "WindowLetters" ({ cls := "WindowLetters", name := "count", desc := "(I)I" } : Jvm.MethodName) ({ cls := "WindowLetters", name := "count", desc := "(I)I" } : Jvm.MethodName)) ∈ zT := zmem3 (i := 66) rfl rfl
theorem zm_547 : (Jvm.Cond.code ({ cls := "WindowLetters", name := "count", desc := "(I)I" } : Jvm.MethodName) prog_1_method_15_code (2 : Nat) (Option.some Jvm.ClassFile.FieldType.int)) ∈ zT := zmem3 (i := 67) rfl rfl
theorem zm_548 : (Jvm.Cond.methodLink "WindowLetters" (179 : Nat) ({ cls := "WindowLetters$Shop", name := "piecesThatAre", desc := "(I)I" } : Jvm.MethodName)) ∈ zT := zmem3 (i := 68) rfl rfl
theorem zm_549 : (Jvm.Cond.instanceMethod ({ cls := "WindowLetters$Shop", name := "piecesThatAre", desc := "(I)I" } : Jvm.MethodName)) ∈ zT := zmem3 (i := 69) rfl rfl
theorem zm_550 : (Jvm.Cond.selects "WindowLetters$Shop" ({ cls := "WindowLetters$Shop", name := "piecesThatAre", desc := "(I)I" } : Jvm.MethodName) ({ cls := "WindowLetters$Shop", name := "piecesThatAre", desc := "(I)I" } : Jvm.MethodName)) ∈ zT := zmem3 (i := 70) rfl rfl
theorem zm_551 : (Jvm.Cond.code ({ cls := "WindowLetters$Shop", name := "piecesThatAre", desc := "(I)I" } : Jvm.MethodName) prog_7_method_17_code (5 : Nat) (Option.some Jvm.ClassFile.FieldType.int)) ∈ zT := zmem3 (i := 71) rfl rfl
theorem zm_552 : (Jvm.Cond.methodLink "WindowLetters" (182 : Nat) ({ cls := "WindowLetters$Shop", name := "squaresOfPieces", desc := "(I)I" } : Jvm.MethodName)) ∈ zT := zmem3 (i := 72) rfl rfl
theorem zm_553 : (Jvm.Cond.instanceMethod ({ cls := "WindowLetters$Shop", name := "squaresOfPieces", desc := "(I)I" } : Jvm.MethodName)) ∈ zT := zmem3 (i := 73) rfl rfl
theorem zm_554 : (Jvm.Cond.selects "WindowLetters$Shop" ({ cls := "WindowLetters$Shop", name := "squaresOfPieces", desc := "(I)I" } : Jvm.MethodName) ({ cls := "WindowLetters$Shop", name := "squaresOfPieces", desc := "(I)I" } : Jvm.MethodName)) ∈ zT := zmem3 (i := 74) rfl rfl
theorem zm_555 : (Jvm.Cond.code ({ cls := "WindowLetters$Shop", name := "squaresOfPieces", desc := "(I)I" } : Jvm.MethodName) prog_7_method_18_code (5 : Nat) (Option.some Jvm.ClassFile.FieldType.int)) ∈ zT := zmem3 (i := 75) rfl rfl
theorem zm_556 : (Jvm.Cond.methodLink "WindowLetters" (185 : Nat) ({ cls := "WindowLetters$Shop", name := "squaresOfSheets", desc := "(Z)I" } : Jvm.MethodName)) ∈ zT := zmem3 (i := 76) rfl rfl
theorem zm_557 : (Jvm.Cond.instanceMethod ({ cls := "WindowLetters$Shop", name := "squaresOfSheets", desc := "(Z)I" } : Jvm.MethodName)) ∈ zT := zmem3 (i := 77) rfl rfl
theorem zm_558 : (Jvm.Cond.selects "WindowLetters$Shop" ({ cls := "WindowLetters$Shop", name := "squaresOfSheets", desc := "(Z)I" } : Jvm.MethodName) ({ cls := "WindowLetters$Shop", name := "squaresOfSheets", desc := "(Z)I" } : Jvm.MethodName)) ∈ zT := zmem3 (i := 78) rfl rfl
theorem zm_559 : (Jvm.Cond.code ({ cls := "WindowLetters$Shop", name := "squaresOfSheets", desc := "(Z)I" } : Jvm.MethodName) prog_7_method_19_code (5 : Nat) (Option.some Jvm.ClassFile.FieldType.int)) ∈ zT := zmem3 (i := 79) rfl rfl
theorem zm_560 : (Jvm.Cond.methodLink "WindowLettersLaw" (74 : Nat) ({ cls := "WindowLetters", name := "fit", desc := "(IIII)I" } : Jvm.MethodName)) ∈ zT := zmem3 (i := 80) rfl rfl
theorem zm_561 : (Jvm.Cond.instanceMethod ({ cls := "WindowLetters", name := "fit", desc := "(IIII)I" } : Jvm.MethodName)) ∈ zT := zmem3 (i := 81) rfl rfl
theorem zm_562 : (Jvm.Cond.selects "WindowLetters" ({ cls := "WindowLetters", name := "fit", desc := "(IIII)I" } : Jvm.MethodName) ({ cls := "WindowLetters", name := "fit", desc := "(IIII)I" } : Jvm.MethodName)) ∈ zT := zmem3 (i := 82) rfl rfl
theorem zm_563 : (Jvm.Cond.code ({ cls := "WindowLetters", name := "fit", desc := "(IIII)I" } : Jvm.MethodName) prog_1_method_16_code (7 : Nat) (Option.some Jvm.ClassFile.FieldType.int)) ∈ zT := zmem3 (i := 83) rfl rfl
theorem zm_564 : (Jvm.Cond.methodLink "WindowLetters" (193 : Nat) ({ cls := "WindowLetters$Sheet", name := "firstFit", desc := "(II)I" } : Jvm.MethodName)) ∈ zT := zmem3 (i := 84) rfl rfl
theorem zm_565 : (Jvm.Cond.methodLink "WindowLetters" (197 : Nat) ({ cls := "WindowLetters", name := "wayIn", desc := "(I)I" } : Jvm.MethodName)) ∈ zT := zmem3 (i := 85) rfl rfl
theorem zm_566 : (Jvm.Cond.methodLink "WindowLetters" (200 : Nat) ({ cls := "WindowLetters", name := "rowIn", desc := "(I)I" } : Jvm.MethodName)) ∈ zT := zmem3 (i := 86) rfl rfl
theorem zm_567 : (Jvm.Cond.methodLink "WindowLetters" (203 : Nat) ({ cls := "WindowLetters", name := "columnIn", desc := "(I)I" } : Jvm.MethodName)) ∈ zT := zmem3 (i := 87) rfl rfl
theorem zm_568 : (Jvm.Cond.methodLink "WindowLettersLaw" (78 : Nat) ({ cls := "WindowLetters", name := "manyOf", desc := "(III)I" } : Jvm.MethodName)) ∈ zT := zmem3 (i := 88) rfl rfl
theorem zm_569 : (Jvm.Cond.instanceMethod ({ cls := "WindowLetters", name := "manyOf", desc := "(III)I" } : Jvm.MethodName)) ∈ zT := zmem3 (i := 89) rfl rfl
theorem zm_570 : (Jvm.Cond.selects "WindowLetters" ({ cls := "WindowLetters", name := "manyOf", desc := "(III)I" } : Jvm.MethodName) ({ cls := "WindowLetters", name := "manyOf", desc := "(III)I" } : Jvm.MethodName)) ∈ zT := zmem3 (i := 90) rfl rfl
theorem zm_571 : (Jvm.Cond.code ({ cls := "WindowLetters", name := "manyOf", desc := "(III)I" } : Jvm.MethodName) prog_1_method_17_code (5 : Nat) (Option.some Jvm.ClassFile.FieldType.int)) ∈ zT := zmem3 (i := 91) rfl rfl
theorem zm_572 : (Jvm.Cond.methodLink "WindowLetters" (206 : Nat) ({ cls := "WindowLetters$Sheet", name := "copyFrom", desc := "(LWindowLetters$Sheet;)V" } : Jvm.MethodName)) ∈ zT := zmem3 (i := 92) rfl rfl
theorem zm_573 : (Jvm.Cond.methodLink "WindowLetters" (210 : Nat) ({ cls := "WindowLetters$Sheet", name := "cutUp", desc := "(II)I" } : Jvm.MethodName)) ∈ zT := zmem3 (i := 93) rfl rfl
theorem zm_574 : (Jvm.Cond.instanceMethod ({ cls := "WindowLetters$Sheet", name := "cutUp", desc := "(II)I" } : Jvm.MethodName)) ∈ zT := zmem3 (i := 94) rfl rfl
theorem zm_575 : (Jvm.Cond.selects "WindowLetters$Sheet" ({ cls := "WindowLetters$Sheet", name := "cutUp", desc := "(II)I" } : Jvm.MethodName) ({ cls := "WindowLetters$Sheet", name := "cutUp", desc := "(II)I" } : Jvm.MethodName)) ∈ zT := zmem3 (i := 95) rfl rfl
theorem zm_576 : (Jvm.Cond.code ({ cls := "WindowLetters$Sheet", name := "cutUp", desc := "(II)I" } : Jvm.MethodName) prog_6_method_8_code (5 : Nat) (Option.some Jvm.ClassFile.FieldType.int)) ∈ zT := zmem3 (i := 96) rfl rfl
theorem zm_577 : (Jvm.Cond.methodLinkNest "WindowLetters$Sheet" (54 : Nat) ({ cls := "WindowLetters", name := "wayIn", desc := "(I)I" } : Jvm.MethodName) "WindowLetters") ∈ zN := zmemN3 (i := 97) rfl rfl
theorem zm_578 : (Jvm.Cond.methodLinkNest "WindowLetters$Sheet" (57 : Nat) ({ cls := "WindowLetters", name := "rowIn", desc := "(I)I" } : Jvm.MethodName) "WindowLetters") ∈ zN := zmemN3 (i := 98) rfl rfl
theorem zm_579 : (Jvm.Cond.methodLinkNest "WindowLetters$Sheet" (60 : Nat) ({ cls := "WindowLetters", name := "columnIn", desc := "(I)I" } : Jvm.MethodName) "WindowLetters") ∈ zN := zmemN3 (i := 99) rfl rfl
theorem zm_580 : (Jvm.Cond.methodLink "WindowLetters$Sheet" (63 : Nat) ({ cls := "WindowLetters$Sheet", name := "cutOut", desc := "(IIII)V" } : Jvm.MethodName)) ∈ zT := zmem3 (i := 100) rfl rfl
theorem zm_581 : (Jvm.Cond.methodLink "WindowLettersLaw" (82 : Nat) ({ cls := "WindowLetters", name := "fits", desc := "(II)I" } : Jvm.MethodName)) ∈ zT := zmem3 (i := 101) rfl rfl
theorem zm_582 : (Jvm.Cond.instanceMethod ({ cls := "WindowLetters", name := "fits", desc := "(II)I" } : Jvm.MethodName)) ∈ zT := zmem3 (i := 102) rfl rfl
theorem zm_583 : (Jvm.Cond.selects "WindowLetters" ({ cls := "WindowLetters", name := "fits", desc := "(II)I" } : Jvm.MethodName) ({ cls := "WindowLetters", name := "fits", desc := "(II)I" } : Jvm.MethodName)) ∈ zT := zmem3 (i := 103) rfl rfl
theorem zm_584 : (Jvm.Cond.code ({ cls := "WindowLetters", name := "fits", desc := "(II)I" } : Jvm.MethodName) prog_1_method_18_code (4 : Nat) (Option.some Jvm.ClassFile.FieldType.int)) ∈ zT := zmem3 (i := 104) rfl rfl
theorem zm_585 : (Jvm.Cond.methodLink "WindowLetters" (213 : Nat) ({ cls := "WindowLetters$Sheet", name := "allFits", desc := "(I)I" } : Jvm.MethodName)) ∈ zT := zmem3 (i := 105) rfl rfl
theorem zm_586 : (Jvm.Cond.instanceMethod ({ cls := "WindowLetters$Sheet", name := "allFits", desc := "(I)I" } : Jvm.MethodName)) ∈ zT := zmem3 (i := 106) rfl rfl
theorem zm_587 : (Jvm.Cond.selects "WindowLetters$Sheet" ({ cls := "WindowLetters$Sheet", name := "allFits", desc := "(I)I" } : Jvm.MethodName) ({ cls := "WindowLetters$Sheet", name := "allFits", desc := "(I)I" } : Jvm.MethodName)) ∈ zT := zmem3 (i := 107) rfl rfl
theorem zm_588 : (Jvm.Cond.code ({ cls := "WindowLetters$Sheet", name := "allFits", desc := "(I)I" } : Jvm.MethodName) prog_6_method_9_code (5 : Nat) (Option.some Jvm.ClassFile.FieldType.int)) ∈ zT := zmem3 (i := 108) rfl rfl
theorem zm_589 : (Jvm.Cond.methodLink "WindowLettersLaw" (86 : Nat) ({ cls := "WindowLetters", name := "colours", desc := "(III)I" } : Jvm.MethodName)) ∈ zT := zmem3 (i := 109) rfl rfl
theorem zm_590 : (Jvm.Cond.instanceMethod ({ cls := "WindowLetters", name := "colours", desc := "(III)I" } : Jvm.MethodName)) ∈ zT := zmem3 (i := 110) rfl rfl
theorem zm_591 : (Jvm.Cond.selects "WindowLetters" ({ cls := "WindowLetters", name := "colours", desc := "(III)I" } : Jvm.MethodName) ({ cls := "WindowLetters", name := "colours", desc := "(III)I" } : Jvm.MethodName)) ∈ zT := zmem3 (i := 111) rfl rfl
theorem zm_592 : (Jvm.Cond.code ({ cls := "WindowLetters", name := "colours", desc := "(III)I" } : Jvm.MethodName) prog_1_method_19_code (6 : Nat) (Option.some Jvm.ClassFile.FieldType.int)) ∈ zT := zmem3 (i := 112) rfl rfl
theorem zm_593 : (Jvm.Cond.methodLink "WindowLettersLaw" (92 : Nat) ({ cls := "WindowLetters", name := "put", desc := "(J)I" } : Jvm.MethodName)) ∈ zT := zmem3 (i := 113) rfl rfl
theorem zm_594 : (Jvm.Cond.instanceMethod ({ cls := "WindowLetters", name := "put", desc := "(J)I" } : Jvm.MethodName)) ∈ zT := zmem3 (i := 114) rfl rfl
theorem zm_595 : (Jvm.Cond.selects "WindowLetters" ({ cls := "WindowLetters", name := "put", desc := "(J)I" } : Jvm.MethodName) ({ cls := "WindowLetters", name := "put", desc := "(J)I" } : Jvm.MethodName)) ∈ zT := zmem3 (i := 115) rfl rfl
theorem zm_596 : (Jvm.Cond.code ({ cls := "WindowLetters", name := "put", desc := "(J)I" } : Jvm.MethodName) prog_1_method_20_code (3 : Nat) (Option.some Jvm.ClassFile.FieldType.int)) ∈ zT := zmem3 (i := 116) rfl rfl
theorem zm_597 : (Jvm.Cond.methodLink "WindowLetters" (216 : Nat) ({ cls := "WindowLetters$Pad", name := "append", desc := "(J)I" } : Jvm.MethodName)) ∈ zT := zmem3 (i := 117) rfl rfl
theorem zm_598 : (Jvm.Cond.instanceMethod ({ cls := "WindowLetters$Pad", name := "append", desc := "(J)I" } : Jvm.MethodName)) ∈ zT := zmem3 (i := 118) rfl rfl
theorem zm_599 : (Jvm.Cond.selects "WindowLetters$Pad" ({ cls := "WindowLetters$Pad", name := "append", desc := "(J)I" } : Jvm.MethodName) ({ cls := "WindowLetters$Pad", name := "append", desc := "(J)I" } : Jvm.MethodName)) ∈ zT := zmem3 (i := 119) rfl rfl
theorem zm_600 : (Jvm.Cond.code ({ cls := "WindowLetters$Pad", name := "append", desc := "(J)I" } : Jvm.MethodName) prog_3_method_3_code (5 : Nat) (Option.some Jvm.ClassFile.FieldType.int)) ∈ zT := zmem3 (i := 120) rfl rfl
theorem zm_601 : (Jvm.Cond.methodLink "WindowLetters$Pad" (19 : Nat) ({ cls := "WindowLetters$Pad", name := "signsIn", desc := "(J)I" } : Jvm.MethodName)) ∈ zT := zmem3 (i := 121) rfl rfl
theorem zm_602 : (Jvm.Cond.static ({ cls := "WindowLetters$Pad", name := "signsIn", desc := "(J)I" } : Jvm.MethodName)) ∈ zT := zmem3 (i := 122) rfl rfl
theorem zm_603 : (Jvm.Cond.code ({ cls := "WindowLetters$Pad", name := "signsIn", desc := "(J)I" } : Jvm.MethodName) prog_3_method_4_code (4 : Nat) (Option.some Jvm.ClassFile.FieldType.int)) ∈ zT := zmem3 (i := 123) rfl rfl
theorem zm_604 : (Jvm.Cond.methodLink "WindowLetters$Pad" (23 : Nat) ({ cls := "WindowLetters$Pad", name := "codeIn", desc := "(JI)I" } : Jvm.MethodName)) ∈ zT := zmem3 (i := 124) rfl rfl
theorem zm_605 : (Jvm.Cond.static ({ cls := "WindowLetters$Pad", name := "codeIn", desc := "(JI)I" } : Jvm.MethodName)) ∈ zT := zmem3 (i := 125) rfl rfl
theorem zm_606 : (Jvm.Cond.code ({ cls := "WindowLetters$Pad", name := "codeIn", desc := "(JI)I" } : Jvm.MethodName) prog_3_method_5_code (3 : Nat) (Option.some Jvm.ClassFile.FieldType.int)) ∈ zT := zmem3 (i := 126) rfl rfl
theorem zm_607 : (Jvm.Cond.constantLong "WindowLetters$Pad" (27 : Nat) (255 : Int64)) ∈ zT := zmem3 (i := 127) rfl rfl
theorem zm_608 : (Jvm.Cond.methodLink "WindowLettersLaw" (97 : Nat) ({ cls := "WindowLetters", name := "wipe", desc := "()I" } : Jvm.MethodName)) ∈ zT := zmem3 (i := 128) rfl rfl
theorem zm_609 : (Jvm.Cond.instanceMethod ({ cls := "WindowLetters", name := "wipe", desc := "()I" } : Jvm.MethodName)) ∈ zT := zmem3 (i := 129) rfl rfl
theorem zm_610 : (Jvm.Cond.selects "WindowLetters" ({ cls := "WindowLetters", name := "wipe", desc := "()I" } : Jvm.MethodName) ({ cls := "WindowLetters", name := "wipe", desc := "()I" } : Jvm.MethodName)) ∈ zT := zmem3 (i := 130) rfl rfl
theorem zm_611 : (Jvm.Cond.code ({ cls := "WindowLetters", name := "wipe", desc := "()I" } : Jvm.MethodName) prog_1_method_21_code (2 : Nat) (Option.some Jvm.ClassFile.FieldType.int)) ∈ zT := zmem3 (i := 131) rfl rfl
theorem zm_612 : (Jvm.Cond.methodLink "WindowLettersLaw" (102 : Nat) ({ cls := "WindowLetters", name := "fault", desc := "()I" } : Jvm.MethodName)) ∈ zT := zmem3 (i := 132) rfl rfl
theorem zm_613 : (Jvm.Cond.instanceMethod ({ cls := "WindowLetters", name := "fault", desc := "()I" } : Jvm.MethodName)) ∈ zT := zmem3 (i := 133) rfl rfl
theorem zm_614 : (Jvm.Cond.selects "WindowLetters" ({ cls := "WindowLetters", name := "fault", desc := "()I" } : Jvm.MethodName) ({ cls := "WindowLetters", name := "fault", desc := "()I" } : Jvm.MethodName)) ∈ zT := zmem3 (i := 134) rfl rfl
theorem zm_615 : (Jvm.Cond.code ({ cls := "WindowLetters", name := "fault", desc := "()I" } : Jvm.MethodName) prog_1_method_22_code (1 : Nat) (Option.some Jvm.ClassFile.FieldType.int)) ∈ zT := zmem3 (i := 135) rfl rfl
theorem zm_616 : (Jvm.Cond.methodLink "WindowLettersLaw" (106 : Nat) ({ cls := "WindowLetters", name := "undo", desc := "()I" } : Jvm.MethodName)) ∈ zT := zmem3 (i := 136) rfl rfl
theorem zm_617 : (Jvm.Cond.instanceMethod ({ cls := "WindowLetters", name := "undo", desc := "()I" } : Jvm.MethodName)) ∈ zT := zmem3 (i := 137) rfl rfl
theorem zm_618 : (Jvm.Cond.selects "WindowLetters" ({ cls := "WindowLetters", name := "undo", desc := "()I" } : Jvm.MethodName) ({ cls := "WindowLetters", name := "undo", desc := "()I" } : Jvm.MethodName)) ∈ zT := zmem3 (i := 138) rfl rfl
theorem zm_619 : (Jvm.Cond.code ({ cls := "WindowLetters", name := "undo", desc := "()I" } : Jvm.MethodName) prog_1_method_23_code (1 : Nat) (Option.some Jvm.ClassFile.FieldType.int)) ∈ zT := zmem3 (i := 139) rfl rfl
theorem zm_620 : (Jvm.Cond.methodLink "WindowLetters" (220 : Nat) ({ cls := "WindowLetters$History", name := "takeBack", desc := "(LWindowLetters$Shop;)Z" } : Jvm.MethodName)) ∈ zT := zmem3 (i := 140) rfl rfl
theorem zm_621 : (Jvm.Cond.instanceMethod ({ cls := "WindowLetters$History", name := "takeBack", desc := "(LWindowLetters$Shop;)Z" } : Jvm.MethodName)) ∈ zT := zmem3 (i := 141) rfl rfl
theorem zm_622 : (Jvm.Cond.selects "WindowLetters$History" ({ cls := "WindowLetters$History", name := "takeBack", desc := "(LWindowLetters$Shop;)Z" } : Jvm.MethodName) ({ cls := "WindowLetters$History", name := "takeBack", desc := "(LWindowLetters$Shop;)Z" } : Jvm.MethodName)) ∈ zT := zmem3 (i := 142) rfl rfl
theorem zm_623 : (Jvm.Cond.code ({ cls := "WindowLetters$History", name := "takeBack", desc := "(LWindowLetters$Shop;)Z" } : Jvm.MethodName) prog_2_method_3_code (3 : Nat) (Option.some Jvm.ClassFile.FieldType.boolean)) ∈ zT := zmem3 (i := 143) rfl rfl
theorem zm_624 : (Jvm.Cond.methodLink "WindowLettersLaw" (110 : Nat) ({ cls := "WindowLetters", name := "save", desc := "(I)I" } : Jvm.MethodName)) ∈ zT := zmem3 (i := 144) rfl rfl
theorem zm_625 : (Jvm.Cond.instanceMethod ({ cls := "WindowLetters", name := "save", desc := "(I)I" } : Jvm.MethodName)) ∈ zT := zmem3 (i := 145) rfl rfl
theorem zm_626 : (Jvm.Cond.selects "WindowLetters" ({ cls := "WindowLetters", name := "save", desc := "(I)I" } : Jvm.MethodName) ({ cls := "WindowLetters", name := "save", desc := "(I)I" } : Jvm.MethodName)) ∈ zT := zmem3 (i := 146) rfl rfl
theorem zm_627 : (Jvm.Cond.code ({ cls := "WindowLetters", name := "save", desc := "(I)I" } : Jvm.MethodName) prog_1_method_24_code (3 : Nat) (Option.some Jvm.ClassFile.FieldType.int)) ∈ zT := zmem3 (i := 147) rfl rfl
theorem zm_628 : (Jvm.Cond.methodLink "WindowLetters" (224 : Nat) ({ cls := "WindowLetters", name := "isSlot", desc := "(I)Z" } : Jvm.MethodName)) ∈ zT := zmem3 (i := 148) rfl rfl
theorem zm_629 : (Jvm.Cond.static ({ cls := "WindowLetters", name := "isSlot", desc := "(I)Z" } : Jvm.MethodName)) ∈ zT := zmem3 (i := 149) rfl rfl
theorem zm_630 : (Jvm.Cond.code ({ cls := "WindowLetters", name := "isSlot", desc := "(I)Z" } : Jvm.MethodName) prog_1_method_34_code (1 : Nat) (Option.some Jvm.ClassFile.FieldType.boolean)) ∈ zT := zmem3 (i := 150) rfl rfl
theorem zm_631 : (Jvm.Cond.methodLink "WindowLettersLaw" (114 : Nat) ({ cls := "WindowLetters", name := "restore", desc := "(I)I" } : Jvm.MethodName)) ∈ zT := zmem3 (i := 151) rfl rfl
theorem zm_632 : (Jvm.Cond.instanceMethod ({ cls := "WindowLetters", name := "restore", desc := "(I)I" } : Jvm.MethodName)) ∈ zT := zmem3 (i := 152) rfl rfl
theorem zm_633 : (Jvm.Cond.selects "WindowLetters" ({ cls := "WindowLetters", name := "restore", desc := "(I)I" } : Jvm.MethodName) ({ cls := "WindowLetters", name := "restore", desc := "(I)I" } : Jvm.MethodName)) ∈ zT := zmem3 (i := 153) rfl rfl
theorem zm_634 : (Jvm.Cond.code ({ cls := "WindowLetters", name := "restore", desc := "(I)I" } : Jvm.MethodName) prog_1_method_25_code (3 : Nat) (Option.some Jvm.ClassFile.FieldType.int)) ∈ zT := zmem3 (i := 154) rfl rfl
theorem zm_635 : (Jvm.Cond.classLink "WindowLettersLaw" (10 : Nat) "WindowLettersModel") ∈ zT := zmem3 (i := 155) rfl rfl
theorem zm_636 : (Jvm.Cond.instantiable "WindowLettersModel" (10 : Nat)) ∈ zT := zmem3 (i := 156) rfl rfl
theorem zm_637 : (Jvm.Cond.methodLink "WindowLettersLaw" (12 : Nat) ({ cls := "WindowLettersModel", name := "<init>", desc := "()V" } : Jvm.MethodName)) ∈ zT := zmem3 (i := 157) rfl rfl
theorem zm_638 : (Jvm.Cond.instanceMethod ({ cls := "WindowLettersModel", name := "<init>", desc := "()V" } : Jvm.MethodName)) ∈ zT := zmem3 (i := 158) rfl rfl
theorem zm_639 : (Jvm.Cond.code ({ cls := "WindowLettersModel", name := "<init>", desc := "()V" } : Jvm.MethodName) prog_9_method_1_code (2 : Nat) (Option.none : Option Jvm.ClassFile.FieldType)) ∈ zT := zmem3 (i := 159) rfl rfl
theorem zm_640 : (Jvm.Cond.methodLink "WindowLettersModel" (1 : Nat) ({ cls := "java/lang/Object", name := "<init>", desc := "()V" } : Jvm.MethodName)) ∈ zT := zmem3 (i := 160) rfl rfl
theorem zm_641 : (Jvm.Cond.methodLink "WindowLettersModel" (35 : Nat) ({ cls := "WindowLettersModel", name := "drawn", desc := "(III)I" } : Jvm.MethodName)) ∈ zT := zmem3 (i := 161) rfl rfl
theorem zm_642 : (Jvm.Cond.static ({ cls := "WindowLettersModel", name := "drawn", desc := "(III)I" } : Jvm.MethodName)) ∈ zT := zmem3 (i := 162) rfl rfl
theorem zm_643 : (Jvm.Cond.code ({ cls := "WindowLettersModel", name := "drawn", desc := "(III)I" } : Jvm.MethodName) prog_9_method_8_code (8 : Nat) (Option.some Jvm.ClassFile.FieldType.int)) ∈ zT := zmem3 (i := 163) rfl rfl
theorem zm_644 : (Jvm.Cond.methodLink "WindowLettersModel" (50 : Nat) ({ cls := "WindowLettersModel", name := "wide", desc := "(I)I" } : Jvm.MethodName)) ∈ zT := zmem3 (i := 164) rfl rfl
theorem zm_645 : (Jvm.Cond.static ({ cls := "WindowLettersModel", name := "wide", desc := "(I)I" } : Jvm.MethodName)) ∈ zT := zmem3 (i := 165) rfl rfl
theorem zm_646 : (Jvm.Cond.code ({ cls := "WindowLettersModel", name := "wide", desc := "(I)I" } : Jvm.MethodName) prog_9_method_7_code (1 : Nat) (Option.some Jvm.ClassFile.FieldType.int)) ∈ zT := zmem3 (i := 166) rfl rfl
theorem zm_647 : (Jvm.Cond.methodLink "WindowLettersModel" (53 : Nat) ({ cls := "WindowLettersModel", name := "high", desc := "(I)I" } : Jvm.MethodName)) ∈ zT := zmem3 (i := 167) rfl rfl
theorem zm_648 : (Jvm.Cond.static ({ cls := "WindowLettersModel", name := "high", desc := "(I)I" } : Jvm.MethodName)) ∈ zT := zmem3 (i := 168) rfl rfl
theorem zm_649 : (Jvm.Cond.code ({ cls := "WindowLettersModel", name := "high", desc := "(I)I" } : Jvm.MethodName) prog_9_method_6_code (1 : Nat) (Option.some Jvm.ClassFile.FieldType.int)) ∈ zT := zmem3 (i := 169) rfl rfl
theorem zm_650 : (Jvm.Cond.methodLink "WindowLettersModel" (56 : Nat) ({ cls := "WindowLettersModel", name := "hasSquare", desc := "(IZII)Z" } : Jvm.MethodName)) ∈ zT := zmem3 (i := 170) rfl rfl
theorem zm_651 : (Jvm.Cond.static ({ cls := "WindowLettersModel", name := "hasSquare", desc := "(IZII)Z" } : Jvm.MethodName)) ∈ zT := zmem3 (i := 171) rfl rfl
theorem zm_652 : (Jvm.Cond.code ({ cls := "WindowLettersModel", name := "hasSquare", desc := "(IZII)Z" } : Jvm.MethodName) prog_9_method_5_code (6 : Nat) (Option.some Jvm.ClassFile.FieldType.boolean)) ∈ zT := zmem3 (i := 172) rfl rfl
theorem zm_653 : (Jvm.Cond.methodLink "WindowLettersModel" (46 : Nat) ({ cls := "WindowLettersModel", name := "digits", desc := "(I)I" } : Jvm.MethodName)) ∈ zT := zmem3 (i := 173) rfl rfl
theorem zm_654 : (Jvm.Cond.static ({ cls := "WindowLettersModel", name := "digits", desc := "(I)I" } : Jvm.MethodName)) ∈ zT := zmem3 (i := 174) rfl rfl
theorem zm_655 : (Jvm.Cond.code ({ cls := "WindowLettersModel", name := "digits", desc := "(I)I" } : Jvm.MethodName) prog_9_method_4_code (1 : Nat) (Option.some Jvm.ClassFile.FieldType.int)) ∈ zT := zmem3 (i := 175) rfl rfl
theorem zm_656 : (Jvm.Cond.constant "WindowLettersModel" (39 : Nat) (44447 : Int32)) ∈ zT := zmem3 (i := 176) rfl rfl
theorem zm_657 : (Jvm.Cond.constant "WindowLettersModel" (40 : Nat) (75557 : Int32)) ∈ zT := zmem3 (i := 177) rfl rfl
theorem zm_658 : (Jvm.Cond.constant "WindowLettersModel" (41 : Nat) (72222 : Int32)) ∈ zT := zmem3 (i := 178) rfl rfl
theorem zm_659 : (Jvm.Cond.constant "WindowLettersModel" (42 : Nat) (55557 : Int32)) ∈ zT := zmem3 (i := 179) rfl rfl
theorem zm_660 : (Jvm.Cond.constant "WindowLettersModel" (43 : Nat) (74747 : Int32)) ∈ zT := zmem3 (i := 180) rfl rfl
theorem zm_661 : (Jvm.Cond.constant "WindowLettersModel" (44 : Nat) (55755 : Int32)) ∈ zT := zmem3 (i := 181) rfl rfl
theorem zm_662 : (Jvm.Cond.constant "WindowLettersModel" (45 : Nat) (74717 : Int32)) ∈ zT := zmem3 (i := 182) rfl rfl
theorem zm_663 : (Jvm.Cond.fieldLink "WindowLettersModel" (7 : Nat) "WindowLettersModel" "s" "[I") ∈ zT := zmem3 (i := 183) rfl rfl
theorem zm_664 : (Jvm.Cond.fieldLink "WindowLettersModel" (13 : Nat) "WindowLettersModel" "aside" "[I") ∈ zT := zmem3 (i := 184) rfl rfl
theorem zm_665 : (Jvm.Cond.fieldLink "WindowLettersModel" (16 : Nat) "WindowLettersModel" "history" "[I") ∈ zT := zmem3 (i := 185) rfl rfl
theorem zm_666 : (Jvm.Cond.fieldLink "WindowLettersModel" (115 : Nat) "WindowLettersModel" "kept" "I") ∈ zT := zmem3 (i := 186) rfl rfl
theorem zm_667 : (Jvm.Cond.fieldLink "WindowLettersModel" (19 : Nat) "WindowLettersModel" "slots" "[I") ∈ zT := zmem3 (i := 187) rfl rfl
theorem zm_668 : (Jvm.Cond.fieldLink "WindowLettersModel" (22 : Nat) "WindowLettersModel" "isSaved" "[Z") ∈ zT := zmem3 (i := 188) rfl rfl
theorem zm_669 : (Jvm.Cond.fieldLink "WindowLettersModel" (26 : Nat) "WindowLettersModel" "pad" "[I") ∈ zT := zmem3 (i := 189) rfl rfl
theorem zm_670 : (Jvm.Cond.fieldLink "WindowLettersModel" (101 : Nat) "WindowLettersModel" "length" "I") ∈ zT := zmem3 (i := 190) rfl rfl
theorem zm_671 : (Jvm.Cond.fieldLink "WindowLettersModel" (29 : Nat) "WindowLettersModel" "shapes" "[I") ∈ zT := zmem3 (i := 191) rfl rfl
theorem zm_672 : (Jvm.Cond.fieldLink "WindowLettersModel" (32 : Nat) "WindowLettersModel" "found" "[I") ∈ zT := zmem3 (i := 192) rfl rfl
theorem zm_673 : (Jvm.Cond.laysFinal "WindowLettersModel" "WindowLettersModel" "s" "[I") ∈ zT := zmem3 (i := 193) rfl rfl
theorem zm_675 : (Jvm.Cond.laysFinal "WindowLettersModel" "WindowLettersModel" "aside" "[I") ∈ zT := zmem3 (i := 195) rfl rfl
theorem zm_677 : (Jvm.Cond.laysFinal "WindowLettersModel" "WindowLettersModel" "history" "[I") ∈ zT := zmem3 (i := 197) rfl rfl
theorem zm_679 : (Jvm.Cond.lays "WindowLettersModel" "WindowLettersModel" "kept" "I") ∈ zT := zmem3 (i := 199) rfl rfl
theorem zm_681 : (Jvm.Cond.laysFinal "WindowLettersModel" "WindowLettersModel" "slots" "[I") ∈ zT := zmem3 (i := 201) rfl rfl
theorem zm_683 : (Jvm.Cond.laysFinal "WindowLettersModel" "WindowLettersModel" "isSaved" "[Z") ∈ zT := zmem3 (i := 203) rfl rfl
theorem zm_685 : (Jvm.Cond.laysFinal "WindowLettersModel" "WindowLettersModel" "pad" "[I") ∈ zT := zmem3 (i := 205) rfl rfl
theorem zm_687 : (Jvm.Cond.lays "WindowLettersModel" "WindowLettersModel" "length" "I") ∈ zT := zmem3 (i := 207) rfl rfl
theorem zm_689 : (Jvm.Cond.laysFinal "WindowLettersModel" "WindowLettersModel" "shapes" "[I") ∈ zT := zmem3 (i := 209) rfl rfl
theorem zm_691 : (Jvm.Cond.laysFinal "WindowLettersModel" "WindowLettersModel" "found" "[I") ∈ zT := zmem3 (i := 211) rfl rfl
theorem zm_694 : (Jvm.Cond.arrayClass Jvm.ClassFile.FieldType.boolean) ∈ zT := zmem3 (i := 214) rfl rfl
theorem zm_695 : (Jvm.Cond.methodLink "WindowLettersLaw" (17 : Nat) ({ cls := "WindowLettersModel", name := "sheet", desc := "(I)I" } : Jvm.MethodName)) ∈ zT := zmem3 (i := 215) rfl rfl
theorem zm_696 : (Jvm.Cond.instanceMethod ({ cls := "WindowLettersModel", name := "sheet", desc := "(I)I" } : Jvm.MethodName)) ∈ zT := zmem3 (i := 216) rfl rfl
theorem zm_697 : (Jvm.Cond.selects "WindowLettersModel" ({ cls := "WindowLettersModel", name := "sheet", desc := "(I)I" } : Jvm.MethodName) ({ cls := "WindowLettersModel", name := "sheet", desc := "(I)I" } : Jvm.MethodName)) ∈ zT := zmem3 (i := 217) rfl rfl
theorem zm_698 : (Jvm.Cond.code ({ cls := "WindowLettersModel", name := "sheet", desc := "(I)I" } : Jvm.MethodName) prog_9_method_35_code (4 : Nat) (Option.some Jvm.ClassFile.FieldType.int)) ∈ zT := zmem3 (i := 218) rfl rfl
theorem zm_699 : (Jvm.Cond.methodLink "WindowLettersModel" (118 : Nat) ({ cls := "WindowLettersModel", name := "isColour", desc := "(I)Z" } : Jvm.MethodName)) ∈ zT := zmem3 (i := 219) rfl rfl
theorem zm_700 : (Jvm.Cond.static ({ cls := "WindowLettersModel", name := "isColour", desc := "(I)Z" } : Jvm.MethodName)) ∈ zT := zmem3 (i := 220) rfl rfl
theorem zm_701 : (Jvm.Cond.code ({ cls := "WindowLettersModel", name := "isColour", desc := "(I)Z" } : Jvm.MethodName) prog_9_method_34_code (1 : Nat) (Option.some Jvm.ClassFile.FieldType.boolean)) ∈ zT := zmem3 (i := 221) rfl rfl
theorem zm_702 : (Jvm.Cond.methodLink "WindowLettersModel" (66 : Nat) ({ cls := "WindowLettersModel", name := "in", desc := "(III)Z" } : Jvm.MethodName)) ∈ zT := zmem3 (i := 222) rfl rfl
theorem zm_703 : (Jvm.Cond.static ({ cls := "WindowLettersModel", name := "in", desc := "(III)Z" } : Jvm.MethodName)) ∈ zT := zmem3 (i := 223) rfl rfl
theorem zm_704 : (Jvm.Cond.code ({ cls := "WindowLettersModel", name := "in", desc := "(III)Z" } : Jvm.MethodName) prog_9_method_3_code (3 : Nat) (Option.some Jvm.ClassFile.FieldType.boolean)) ∈ zT := zmem3 (i := 224) rfl rfl
theorem zm_705 : (Jvm.Cond.methodLink "WindowLettersModel" (122 : Nat) ({ cls := "WindowLettersModel", name := "record", desc := "()V" } : Jvm.MethodName)) ∈ zT := zmem3 (i := 225) rfl rfl
theorem zm_707 : (Jvm.Cond.instanceMethod ({ cls := "WindowLettersModel", name := "record", desc := "()V" } : Jvm.MethodName)) ∈ zT := zmem3 (i := 227) rfl rfl
theorem zm_708 : (Jvm.Cond.code ({ cls := "WindowLettersModel", name := "record", desc := "()V" } : Jvm.MethodName) prog_9_method_31_code (2 : Nat) (Option.none : Option Jvm.ClassFile.FieldType)) ∈ zT := zmem3 (i := 228) rfl rfl
theorem zm_709 : (Jvm.Cond.methodLink "WindowLettersModel" (70 : Nat) ({ cls := "WindowLettersModel", name := "ofOne", desc := "(II)I" } : Jvm.MethodName)) ∈ zT := zmem3 (i := 229) rfl rfl
theorem zm_710 : (Jvm.Cond.static ({ cls := "WindowLettersModel", name := "ofOne", desc := "(II)I" } : Jvm.MethodName)) ∈ zT := zmem3 (i := 230) rfl rfl
theorem zm_711 : (Jvm.Cond.code ({ cls := "WindowLettersModel", name := "ofOne", desc := "(II)I" } : Jvm.MethodName) prog_9_method_16_code (2 : Nat) (Option.some Jvm.ClassFile.FieldType.int)) ∈ zT := zmem3 (i := 231) rfl rfl
theorem zm_712 : (Jvm.Cond.methodLink "WindowLettersLaw" (22 : Nat) ({ cls := "WindowLettersModel", name := "cut", desc := "(IIIII)I" } : Jvm.MethodName)) ∈ zT := zmem3 (i := 232) rfl rfl
theorem zm_713 : (Jvm.Cond.instanceMethod ({ cls := "WindowLettersModel", name := "cut", desc := "(IIIII)I" } : Jvm.MethodName)) ∈ zT := zmem3 (i := 233) rfl rfl
theorem zm_714 : (Jvm.Cond.selects "WindowLettersModel" ({ cls := "WindowLettersModel", name := "cut", desc := "(IIIII)I" } : Jvm.MethodName) ({ cls := "WindowLettersModel", name := "cut", desc := "(IIIII)I" } : Jvm.MethodName)) ∈ zT := zmem3 (i := 234) rfl rfl
theorem zm_715 : (Jvm.Cond.code ({ cls := "WindowLettersModel", name := "cut", desc := "(IIIII)I" } : Jvm.MethodName) prog_9_method_36_code (6 : Nat) (Option.some Jvm.ClassFile.FieldType.int)) ∈ zT := zmem3 (i := 235) rfl rfl
theorem zm_716 : (Jvm.Cond.methodLink "WindowLettersModel" (125 : Nat) ({ cls := "WindowLettersModel", name := "isSheet", desc := "(I)Z" } : Jvm.MethodName)) ∈ zT := zmem3 (i := 236) rfl rfl
theorem zm_718 : (Jvm.Cond.instanceMethod ({ cls := "WindowLettersModel", name := "isSheet", desc := "(I)Z" } : Jvm.MethodName)) ∈ zT := zmem3 (i := 238) rfl rfl
theorem zm_719 : (Jvm.Cond.code ({ cls := "WindowLettersModel", name := "isSheet", desc := "(I)Z" } : Jvm.MethodName) prog_9_method_13_code (2 : Nat) (Option.some Jvm.ClassFile.FieldType.boolean)) ∈ zT := zmem3 (i := 239) rfl rfl
theorem zm_720 : (Jvm.Cond.methodLink "WindowLettersModel" (128 : Nat) ({ cls := "WindowLettersModel", name := "isLetter", desc := "(I)Z" } : Jvm.MethodName)) ∈ zT := zmem4 (i := 0) rfl rfl
theorem zm_721 : (Jvm.Cond.static ({ cls := "WindowLettersModel", name := "isLetter", desc := "(I)Z" } : Jvm.MethodName)) ∈ zT := zmem4 (i := 1) rfl rfl
theorem zm_722 : (Jvm.Cond.code ({ cls := "WindowLettersModel", name := "isLetter", desc := "(I)Z" } : Jvm.MethodName) prog_9_method_12_code (1 : Nat) (Option.some Jvm.ClassFile.FieldType.boolean)) ∈ zT := zmem4 (i := 2) rfl rfl
theorem zm_723 : (Jvm.Cond.methodLink "WindowLettersModel" (74 : Nat) ({ cls := "WindowLettersModel", name := "canCut", desc := "(IIIII)Z" } : Jvm.MethodName)) ∈ zT := zmem4 (i := 3) rfl rfl
theorem zm_725 : (Jvm.Cond.instanceMethod ({ cls := "WindowLettersModel", name := "canCut", desc := "(IIIII)Z" } : Jvm.MethodName)) ∈ zT := zmem4 (i := 5) rfl rfl
theorem zm_726 : (Jvm.Cond.code ({ cls := "WindowLettersModel", name := "canCut", desc := "(IIIII)Z" } : Jvm.MethodName) prog_9_method_18_code (8 : Nat) (Option.some Jvm.ClassFile.FieldType.boolean)) ∈ zT := zmem4 (i := 6) rfl rfl
theorem zm_727 : (Jvm.Cond.methodLink "WindowLettersModel" (60 : Nat) ({ cls := "WindowLettersModel", name := "shapeOf", desc := "(III)I" } : Jvm.MethodName)) ∈ zT := zmem4 (i := 7) rfl rfl
theorem zm_729 : (Jvm.Cond.instanceMethod ({ cls := "WindowLettersModel", name := "shapeOf", desc := "(III)I" } : Jvm.MethodName)) ∈ zT := zmem4 (i := 9) rfl rfl
theorem zm_730 : (Jvm.Cond.code ({ cls := "WindowLettersModel", name := "shapeOf", desc := "(III)I" } : Jvm.MethodName) prog_9_method_9_code (4 : Nat) (Option.some Jvm.ClassFile.FieldType.int)) ∈ zT := zmem4 (i := 10) rfl rfl
theorem zm_731 : (Jvm.Cond.methodLink "WindowLettersModel" (97 : Nat) ({ cls := "WindowLettersModel", name := "newPiece", desc := "(IIIII)I" } : Jvm.MethodName)) ∈ zT := zmem4 (i := 11) rfl rfl
theorem zm_733 : (Jvm.Cond.instanceMethod ({ cls := "WindowLettersModel", name := "newPiece", desc := "(IIIII)I" } : Jvm.MethodName)) ∈ zT := zmem4 (i := 13) rfl rfl
theorem zm_734 : (Jvm.Cond.code ({ cls := "WindowLettersModel", name := "newPiece", desc := "(IIIII)I" } : Jvm.MethodName) prog_9_method_23_code (7 : Nat) (Option.some Jvm.ClassFile.FieldType.int)) ∈ zT := zmem4 (i := 14) rfl rfl
theorem zm_735 : (Jvm.Cond.methodLink "WindowLettersModel" (81 : Nat) ({ cls := "WindowLettersModel", name := "cutsOut", desc := "(IIIII)V" } : Jvm.MethodName)) ∈ zT := zmem4 (i := 15) rfl rfl
theorem zm_737 : (Jvm.Cond.instanceMethod ({ cls := "WindowLettersModel", name := "cutsOut", desc := "(IIIII)V" } : Jvm.MethodName)) ∈ zT := zmem4 (i := 17) rfl rfl
theorem zm_738 : (Jvm.Cond.code ({ cls := "WindowLettersModel", name := "cutsOut", desc := "(IIIII)V" } : Jvm.MethodName) prog_9_method_19_code (7 : Nat) (Option.none : Option Jvm.ClassFile.FieldType)) ∈ zT := zmem4 (i := 18) rfl rfl
theorem zm_739 : (Jvm.Cond.methodLink "WindowLettersModel" (85 : Nat) ({ cls := "WindowLettersModel", name := "at", desc := "(II)I" } : Jvm.MethodName)) ∈ zT := zmem4 (i := 19) rfl rfl
theorem zm_740 : (Jvm.Cond.static ({ cls := "WindowLettersModel", name := "at", desc := "(II)I" } : Jvm.MethodName)) ∈ zT := zmem4 (i := 20) rfl rfl
theorem zm_741 : (Jvm.Cond.code ({ cls := "WindowLettersModel", name := "at", desc := "(II)I" } : Jvm.MethodName) prog_9_method_17_code (2 : Nat) (Option.some Jvm.ClassFile.FieldType.int)) ∈ zT := zmem4 (i := 21) rfl rfl
theorem zm_742 : (Jvm.Cond.methodLink "WindowLettersLaw" (27 : Nat) ({ cls := "WindowLettersModel", name := "make", desc := "(III)I" } : Jvm.MethodName)) ∈ zT := zmem4 (i := 22) rfl rfl
theorem zm_743 : (Jvm.Cond.instanceMethod ({ cls := "WindowLettersModel", name := "make", desc := "(III)I" } : Jvm.MethodName)) ∈ zT := zmem4 (i := 23) rfl rfl
theorem zm_744 : (Jvm.Cond.selects "WindowLettersModel" ({ cls := "WindowLettersModel", name := "make", desc := "(III)I" } : Jvm.MethodName) ({ cls := "WindowLettersModel", name := "make", desc := "(III)I" } : Jvm.MethodName)) ∈ zT := zmem4 (i := 24) rfl rfl
theorem zm_745 : (Jvm.Cond.code ({ cls := "WindowLettersModel", name := "make", desc := "(III)I" } : Jvm.MethodName) prog_9_method_37_code (5 : Nat) (Option.some Jvm.ClassFile.FieldType.int)) ∈ zT := zmem4 (i := 25) rfl rfl
theorem zm_746 : (Jvm.Cond.methodLink "WindowLettersModel" (94 : Nat) ({ cls := "WindowLettersModel", name := "sheetFor", desc := "(III)I" } : Jvm.MethodName)) ∈ zT := zmem4 (i := 26) rfl rfl
theorem zm_748 : (Jvm.Cond.instanceMethod ({ cls := "WindowLettersModel", name := "sheetFor", desc := "(III)I" } : Jvm.MethodName)) ∈ zT := zmem4 (i := 28) rfl rfl
theorem zm_749 : (Jvm.Cond.code ({ cls := "WindowLettersModel", name := "sheetFor", desc := "(III)I" } : Jvm.MethodName) prog_9_method_21_code (5 : Nat) (Option.some Jvm.ClassFile.FieldType.int)) ∈ zT := zmem4 (i := 29) rfl rfl
theorem zm_750 : (Jvm.Cond.methodLink "WindowLettersModel" (78 : Nat) ({ cls := "WindowLettersModel", name := "findsFit", desc := "(III)Z" } : Jvm.MethodName)) ∈ zT := zmem4 (i := 30) rfl rfl
theorem zm_752 : (Jvm.Cond.instanceMethod ({ cls := "WindowLettersModel", name := "findsFit", desc := "(III)Z" } : Jvm.MethodName)) ∈ zT := zmem4 (i := 32) rfl rfl
theorem zm_753 : (Jvm.Cond.code ({ cls := "WindowLettersModel", name := "findsFit", desc := "(III)Z" } : Jvm.MethodName) prog_9_method_20_code (8 : Nat) (Option.some Jvm.ClassFile.FieldType.boolean)) ∈ zT := zmem4 (i := 33) rfl rfl
theorem zm_754 : (Jvm.Cond.methodLink "WindowLettersLaw" (32 : Nat) ({ cls := "WindowLettersModel", name := "write", desc := "(IIII)I" } : Jvm.MethodName)) ∈ zT := zmem4 (i := 34) rfl rfl
theorem zm_755 : (Jvm.Cond.instanceMethod ({ cls := "WindowLettersModel", name := "write", desc := "(IIII)I" } : Jvm.MethodName)) ∈ zT := zmem4 (i := 35) rfl rfl
theorem zm_756 : (Jvm.Cond.selects "WindowLettersModel" ({ cls := "WindowLettersModel", name := "write", desc := "(IIII)I" } : Jvm.MethodName) ({ cls := "WindowLettersModel", name := "write", desc := "(IIII)I" } : Jvm.MethodName)) ∈ zT := zmem4 (i := 36) rfl rfl
theorem zm_757 : (Jvm.Cond.code ({ cls := "WindowLettersModel", name := "write", desc := "(IIII)I" } : Jvm.MethodName) prog_9_method_39_code (7 : Nat) (Option.some Jvm.ClassFile.FieldType.int)) ∈ zT := zmem4 (i := 37) rfl rfl
theorem zm_758 : (Jvm.Cond.methodLink "WindowLettersModel" (141 : Nat) ({ cls := "WindowLettersModel", name := "isSpot", desc := "(II)Z" } : Jvm.MethodName)) ∈ zT := zmem4 (i := 38) rfl rfl
theorem zm_759 : (Jvm.Cond.static ({ cls := "WindowLettersModel", name := "isSpot", desc := "(II)Z" } : Jvm.MethodName)) ∈ zT := zmem4 (i := 39) rfl rfl
theorem zm_760 : (Jvm.Cond.code ({ cls := "WindowLettersModel", name := "isSpot", desc := "(II)Z" } : Jvm.MethodName) prog_9_method_15_code (2 : Nat) (Option.some Jvm.ClassFile.FieldType.boolean)) ∈ zT := zmem4 (i := 40) rfl rfl
theorem zm_761 : (Jvm.Cond.methodLink "WindowLettersModel" (145 : Nat) ({ cls := "WindowLettersModel", name := "fault", desc := "()I" } : Jvm.MethodName)) ∈ zT := zmem4 (i := 41) rfl rfl
theorem zm_762 : (Jvm.Cond.instanceMethod ({ cls := "WindowLettersModel", name := "fault", desc := "()I" } : Jvm.MethodName)) ∈ zT := zmem4 (i := 42) rfl rfl
theorem zm_763 : (Jvm.Cond.selects "WindowLettersModel" ({ cls := "WindowLettersModel", name := "fault", desc := "()I" } : Jvm.MethodName) ({ cls := "WindowLettersModel", name := "fault", desc := "()I" } : Jvm.MethodName)) ∈ zT := zmem4 (i := 43) rfl rfl
theorem zm_764 : (Jvm.Cond.code ({ cls := "WindowLettersModel", name := "fault", desc := "()I" } : Jvm.MethodName) prog_9_method_62_code (3 : Nat) (Option.some Jvm.ClassFile.FieldType.int)) ∈ zT := zmem4 (i := 44) rfl rfl
theorem zm_765 : (Jvm.Cond.methodLink "WindowLettersModel" (105 : Nat) ({ cls := "WindowLettersModel", name := "letterOf", desc := "(I)I" } : Jvm.MethodName)) ∈ zT := zmem4 (i := 45) rfl rfl
theorem zm_766 : (Jvm.Cond.static ({ cls := "WindowLettersModel", name := "letterOf", desc := "(I)I" } : Jvm.MethodName)) ∈ zT := zmem4 (i := 46) rfl rfl
theorem zm_767 : (Jvm.Cond.code ({ cls := "WindowLettersModel", name := "letterOf", desc := "(I)I" } : Jvm.MethodName) prog_9_method_29_code (1 : Nat) (Option.some Jvm.ClassFile.FieldType.int)) ∈ zT := zmem4 (i := 47) rfl rfl
theorem zm_768 : (Jvm.Cond.methodLink "WindowLettersModel" (149 : Nat) ({ cls := "WindowLettersModel", name := "canBeWritten", desc := "(IIII)Z" } : Jvm.MethodName)) ∈ zT := zmem4 (i := 48) rfl rfl
theorem zm_770 : (Jvm.Cond.instanceMethod ({ cls := "WindowLettersModel", name := "canBeWritten", desc := "(IIII)Z" } : Jvm.MethodName)) ∈ zT := zmem4 (i := 50) rfl rfl
theorem zm_771 : (Jvm.Cond.code ({ cls := "WindowLettersModel", name := "canBeWritten", desc := "(IIII)Z" } : Jvm.MethodName) prog_9_method_38_code (6 : Nat) (Option.some Jvm.ClassFile.FieldType.boolean)) ∈ zT := zmem4 (i := 51) rfl rfl
theorem zm_772 : (Jvm.Cond.methodLink "WindowLettersModel" (131 : Nat) ({ cls := "WindowLettersModel", name := "putAside", desc := "()V" } : Jvm.MethodName)) ∈ zT := zmem4 (i := 52) rfl rfl
theorem zm_774 : (Jvm.Cond.instanceMethod ({ cls := "WindowLettersModel", name := "putAside", desc := "()V" } : Jvm.MethodName)) ∈ zT := zmem4 (i := 54) rfl rfl
theorem zm_775 : (Jvm.Cond.code ({ cls := "WindowLettersModel", name := "putAside", desc := "()V" } : Jvm.MethodName) prog_9_method_32_code (2 : Nat) (Option.none : Option Jvm.ClassFile.FieldType)) ∈ zT := zmem4 (i := 55) rfl rfl
theorem zm_776 : (Jvm.Cond.methodLink "WindowLettersModel" (134 : Nat) ({ cls := "WindowLettersModel", name := "writes", desc := "(IIII)Z" } : Jvm.MethodName)) ∈ zT := zmem4 (i := 56) rfl rfl
theorem zm_778 : (Jvm.Cond.instanceMethod ({ cls := "WindowLettersModel", name := "writes", desc := "(IIII)Z" } : Jvm.MethodName)) ∈ zT := zmem4 (i := 58) rfl rfl
theorem zm_779 : (Jvm.Cond.code ({ cls := "WindowLettersModel", name := "writes", desc := "(IIII)Z" } : Jvm.MethodName) prog_9_method_30_code (9 : Nat) (Option.some Jvm.ClassFile.FieldType.boolean)) ∈ zT := zmem4 (i := 59) rfl rfl
theorem zm_780 : (Jvm.Cond.methodLink "WindowLettersModel" (88 : Nat) ({ cls := "WindowLettersModel", name := "pieceAt", desc := "(II)I" } : Jvm.MethodName)) ∈ zT := zmem4 (i := 60) rfl rfl
theorem zm_782 : (Jvm.Cond.instanceMethod ({ cls := "WindowLettersModel", name := "pieceAt", desc := "(II)I" } : Jvm.MethodName)) ∈ zT := zmem4 (i := 62) rfl rfl
theorem zm_783 : (Jvm.Cond.code ({ cls := "WindowLettersModel", name := "pieceAt", desc := "(II)I" } : Jvm.MethodName) prog_9_method_25_code (5 : Nat) (Option.some Jvm.ClassFile.FieldType.int)) ∈ zT := zmem4 (i := 63) rfl rfl
theorem zm_784 : (Jvm.Cond.methodLink "WindowLettersModel" (108 : Nat) ({ cls := "WindowLettersModel", name := "pieceFor", desc := "(III)I" } : Jvm.MethodName)) ∈ zT := zmem4 (i := 64) rfl rfl
theorem zm_786 : (Jvm.Cond.instanceMethod ({ cls := "WindowLettersModel", name := "pieceFor", desc := "(III)I" } : Jvm.MethodName)) ∈ zT := zmem4 (i := 66) rfl rfl
theorem zm_787 : (Jvm.Cond.code ({ cls := "WindowLettersModel", name := "pieceFor", desc := "(III)I" } : Jvm.MethodName) prog_9_method_28_code (6 : Nat) (Option.some Jvm.ClassFile.FieldType.int)) ∈ zT := zmem4 (i := 67) rfl rfl
theorem zm_788 : (Jvm.Cond.methodLink "WindowLettersModel" (91 : Nat) ({ cls := "WindowLettersModel", name := "looseOne", desc := "(III)I" } : Jvm.MethodName)) ∈ zT := zmem4 (i := 68) rfl rfl
theorem zm_790 : (Jvm.Cond.instanceMethod ({ cls := "WindowLettersModel", name := "looseOne", desc := "(III)I" } : Jvm.MethodName)) ∈ zT := zmem4 (i := 70) rfl rfl
theorem zm_791 : (Jvm.Cond.code ({ cls := "WindowLettersModel", name := "looseOne", desc := "(III)I" } : Jvm.MethodName) prog_9_method_24_code (7 : Nat) (Option.some Jvm.ClassFile.FieldType.int)) ∈ zT := zmem4 (i := 71) rfl rfl
theorem zm_792 : (Jvm.Cond.methodLink "WindowLettersModel" (111 : Nat) ({ cls := "WindowLettersModel", name := "puts", desc := "(III)V" } : Jvm.MethodName)) ∈ zT := zmem4 (i := 72) rfl rfl
theorem zm_794 : (Jvm.Cond.instanceMethod ({ cls := "WindowLettersModel", name := "puts", desc := "(III)V" } : Jvm.MethodName)) ∈ zT := zmem4 (i := 74) rfl rfl
theorem zm_795 : (Jvm.Cond.code ({ cls := "WindowLettersModel", name := "puts", desc := "(III)V" } : Jvm.MethodName) prog_9_method_27_code (4 : Nat) (Option.none : Option Jvm.ClassFile.FieldType)) ∈ zT := zmem4 (i := 75) rfl rfl
theorem zm_796 : (Jvm.Cond.methodLink "WindowLettersModel" (138 : Nat) ({ cls := "WindowLettersModel", name := "putBack", desc := "()V" } : Jvm.MethodName)) ∈ zT := zmem4 (i := 76) rfl rfl
theorem zm_798 : (Jvm.Cond.instanceMethod ({ cls := "WindowLettersModel", name := "putBack", desc := "()V" } : Jvm.MethodName)) ∈ zT := zmem4 (i := 78) rfl rfl
theorem zm_799 : (Jvm.Cond.code ({ cls := "WindowLettersModel", name := "putBack", desc := "()V" } : Jvm.MethodName) prog_9_method_33_code (2 : Nat) (Option.none : Option Jvm.ClassFile.FieldType)) ∈ zT := zmem4 (i := 79) rfl rfl
theorem zm_800 : (Jvm.Cond.methodLink "WindowLettersLaw" (36 : Nat) ({ cls := "WindowLettersModel", name := "place", desc := "(III)I" } : Jvm.MethodName)) ∈ zT := zmem4 (i := 80) rfl rfl
theorem zm_801 : (Jvm.Cond.instanceMethod ({ cls := "WindowLettersModel", name := "place", desc := "(III)I" } : Jvm.MethodName)) ∈ zT := zmem4 (i := 81) rfl rfl
theorem zm_802 : (Jvm.Cond.selects "WindowLettersModel" ({ cls := "WindowLettersModel", name := "place", desc := "(III)I" } : Jvm.MethodName) ({ cls := "WindowLettersModel", name := "place", desc := "(III)I" } : Jvm.MethodName)) ∈ zT := zmem4 (i := 82) rfl rfl
theorem zm_803 : (Jvm.Cond.code ({ cls := "WindowLettersModel", name := "place", desc := "(III)I" } : Jvm.MethodName) prog_9_method_41_code (4 : Nat) (Option.some Jvm.ClassFile.FieldType.int)) ∈ zT := zmem4 (i := 83) rfl rfl
theorem zm_804 : (Jvm.Cond.methodLink "WindowLettersModel" (152 : Nat) ({ cls := "WindowLettersModel", name := "isPiece", desc := "(I)Z" } : Jvm.MethodName)) ∈ zT := zmem4 (i := 84) rfl rfl
theorem zm_806 : (Jvm.Cond.instanceMethod ({ cls := "WindowLettersModel", name := "isPiece", desc := "(I)Z" } : Jvm.MethodName)) ∈ zT := zmem4 (i := 86) rfl rfl
theorem zm_807 : (Jvm.Cond.code ({ cls := "WindowLettersModel", name := "isPiece", desc := "(I)Z" } : Jvm.MethodName) prog_9_method_14_code (2 : Nat) (Option.some Jvm.ClassFile.FieldType.boolean)) ∈ zT := zmem4 (i := 87) rfl rfl
theorem zm_808 : (Jvm.Cond.methodLink "WindowLettersModel" (155 : Nat) ({ cls := "WindowLettersModel", name := "isLoose", desc := "(I)Z" } : Jvm.MethodName)) ∈ zT := zmem4 (i := 88) rfl rfl
theorem zm_810 : (Jvm.Cond.instanceMethod ({ cls := "WindowLettersModel", name := "isLoose", desc := "(I)Z" } : Jvm.MethodName)) ∈ zT := zmem4 (i := 90) rfl rfl
theorem zm_811 : (Jvm.Cond.code ({ cls := "WindowLettersModel", name := "isLoose", desc := "(I)Z" } : Jvm.MethodName) prog_9_method_40_code (2 : Nat) (Option.some Jvm.ClassFile.FieldType.boolean)) ∈ zT := zmem4 (i := 91) rfl rfl
theorem zm_812 : (Jvm.Cond.methodLink "WindowLettersModel" (158 : Nat) ({ cls := "WindowLettersModel", name := "inPane", desc := "(I)I" } : Jvm.MethodName)) ∈ zT := zmem4 (i := 92) rfl rfl
theorem zm_814 : (Jvm.Cond.instanceMethod ({ cls := "WindowLettersModel", name := "inPane", desc := "(I)I" } : Jvm.MethodName)) ∈ zT := zmem4 (i := 94) rfl rfl
theorem zm_815 : (Jvm.Cond.code ({ cls := "WindowLettersModel", name := "inPane", desc := "(I)I" } : Jvm.MethodName) prog_9_method_26_code (4 : Nat) (Option.some Jvm.ClassFile.FieldType.int)) ∈ zT := zmem4 (i := 95) rfl rfl
theorem zm_816 : (Jvm.Cond.methodLink "WindowLettersLaw" (40 : Nat) ({ cls := "WindowLettersModel", name := "clear", desc := "(I)I" } : Jvm.MethodName)) ∈ zT := zmem4 (i := 96) rfl rfl
theorem zm_817 : (Jvm.Cond.instanceMethod ({ cls := "WindowLettersModel", name := "clear", desc := "(I)I" } : Jvm.MethodName)) ∈ zT := zmem4 (i := 97) rfl rfl
theorem zm_818 : (Jvm.Cond.selects "WindowLettersModel" ({ cls := "WindowLettersModel", name := "clear", desc := "(I)I" } : Jvm.MethodName) ({ cls := "WindowLettersModel", name := "clear", desc := "(I)I" } : Jvm.MethodName)) ∈ zT := zmem4 (i := 98) rfl rfl
theorem zm_819 : (Jvm.Cond.code ({ cls := "WindowLettersModel", name := "clear", desc := "(I)I" } : Jvm.MethodName) prog_9_method_42_code (5 : Nat) (Option.some Jvm.ClassFile.FieldType.int)) ∈ zT := zmem4 (i := 99) rfl rfl
theorem zm_820 : (Jvm.Cond.methodLink "WindowLettersLaw" (44 : Nat) ({ cls := "WindowLettersModel", name := "throwAway", desc := "(I)I" } : Jvm.MethodName)) ∈ zT := zmem4 (i := 100) rfl rfl
theorem zm_821 : (Jvm.Cond.instanceMethod ({ cls := "WindowLettersModel", name := "throwAway", desc := "(I)I" } : Jvm.MethodName)) ∈ zT := zmem4 (i := 101) rfl rfl
theorem zm_822 : (Jvm.Cond.selects "WindowLettersModel" ({ cls := "WindowLettersModel", name := "throwAway", desc := "(I)I" } : Jvm.MethodName) ({ cls := "WindowLettersModel", name := "throwAway", desc := "(I)I" } : Jvm.MethodName)) ∈ zT := zmem4 (i := 102) rfl rfl
theorem zm_823 : (Jvm.Cond.code ({ cls := "WindowLettersModel", name := "throwAway", desc := "(I)I" } : Jvm.MethodName) prog_9_method_43_code (2 : Nat) (Option.some Jvm.ClassFile.FieldType.int)) ∈ zT := zmem4 (i := 103) rfl rfl
theorem zm_824 : (Jvm.Cond.methodLink "WindowLettersModel" (161 : Nat) ({ cls := "WindowLettersModel", name := "squaresOf", desc := "(I)I" } : Jvm.MethodName)) ∈ zT := zmem4 (i := 104) rfl rfl
theorem zm_826 : (Jvm.Cond.instanceMethod ({ cls := "WindowLettersModel", name := "squaresOf", desc := "(I)I" } : Jvm.MethodName)) ∈ zT := zmem4 (i := 106) rfl rfl
theorem zm_827 : (Jvm.Cond.code ({ cls := "WindowLettersModel", name := "squaresOf", desc := "(I)I" } : Jvm.MethodName) prog_9_method_11_code (4 : Nat) (Option.some Jvm.ClassFile.FieldType.int)) ∈ zT := zmem4 (i := 107) rfl rfl
theorem zm_828 : (Jvm.Cond.methodLink "WindowLettersModel" (63 : Nat) ({ cls := "WindowLettersModel", name := "bits", desc := "(I)I" } : Jvm.MethodName)) ∈ zT := zmem4 (i := 108) rfl rfl
theorem zm_829 : (Jvm.Cond.static ({ cls := "WindowLettersModel", name := "bits", desc := "(I)I" } : Jvm.MethodName)) ∈ zT := zmem4 (i := 109) rfl rfl
theorem zm_830 : (Jvm.Cond.code ({ cls := "WindowLettersModel", name := "bits", desc := "(I)I" } : Jvm.MethodName) prog_9_method_10_code (3 : Nat) (Option.some Jvm.ClassFile.FieldType.int)) ∈ zT := zmem4 (i := 110) rfl rfl
theorem zm_831 : (Jvm.Cond.methodLink "WindowLettersLaw" (48 : Nat) ({ cls := "WindowLettersModel", name := "scrap", desc := "(I)I" } : Jvm.MethodName)) ∈ zT := zmem4 (i := 111) rfl rfl
theorem zm_832 : (Jvm.Cond.instanceMethod ({ cls := "WindowLettersModel", name := "scrap", desc := "(I)I" } : Jvm.MethodName)) ∈ zT := zmem4 (i := 112) rfl rfl
theorem zm_833 : (Jvm.Cond.selects "WindowLettersModel" ({ cls := "WindowLettersModel", name := "scrap", desc := "(I)I" } : Jvm.MethodName) ({ cls := "WindowLettersModel", name := "scrap", desc := "(I)I" } : Jvm.MethodName)) ∈ zT := zmem4 (i := 113) rfl rfl
theorem zm_834 : (Jvm.Cond.code ({ cls := "WindowLettersModel", name := "scrap", desc := "(I)I" } : Jvm.MethodName) prog_9_method_44_code (2 : Nat) (Option.some Jvm.ClassFile.FieldType.int)) ∈ zT := zmem4 (i := 114) rfl rfl
theorem zm_835 : (Jvm.Cond.methodLink "WindowLettersModel" (164 : Nat) ({ cls := "WindowLettersModel", name := "uncut", desc := "(I)I" } : Jvm.MethodName)) ∈ zT := zmem4 (i := 115) rfl rfl
theorem zm_837 : (Jvm.Cond.instanceMethod ({ cls := "WindowLettersModel", name := "uncut", desc := "(I)I" } : Jvm.MethodName)) ∈ zT := zmem4 (i := 117) rfl rfl
theorem zm_838 : (Jvm.Cond.code ({ cls := "WindowLettersModel", name := "uncut", desc := "(I)I" } : Jvm.MethodName) prog_9_method_22_code (4 : Nat) (Option.some Jvm.ClassFile.FieldType.int)) ∈ zT := zmem4 (i := 118) rfl rfl
theorem zm_839 : (Jvm.Cond.methodLink "WindowLettersLaw" (53 : Nat) ({ cls := "WindowLettersModel", name := "of", desc := "(II)I" } : Jvm.MethodName)) ∈ zT := zmem4 (i := 119) rfl rfl
theorem zm_840 : (Jvm.Cond.instanceMethod ({ cls := "WindowLettersModel", name := "of", desc := "(II)I" } : Jvm.MethodName)) ∈ zT := zmem4 (i := 120) rfl rfl
theorem zm_841 : (Jvm.Cond.selects "WindowLettersModel" ({ cls := "WindowLettersModel", name := "of", desc := "(II)I" } : Jvm.MethodName) ({ cls := "WindowLettersModel", name := "of", desc := "(II)I" } : Jvm.MethodName)) ∈ zT := zmem4 (i := 121) rfl rfl
theorem zm_842 : (Jvm.Cond.code ({ cls := "WindowLettersModel", name := "of", desc := "(II)I" } : Jvm.MethodName) prog_9_method_45_code (3 : Nat) (Option.some Jvm.ClassFile.FieldType.int)) ∈ zT := zmem4 (i := 122) rfl rfl
theorem zm_843 : (Jvm.Cond.methodLink "WindowLettersLaw" (57 : Nat) ({ cls := "WindowLettersModel", name := "ofSheet", desc := "(II)I" } : Jvm.MethodName)) ∈ zT := zmem4 (i := 123) rfl rfl
theorem zm_844 : (Jvm.Cond.instanceMethod ({ cls := "WindowLettersModel", name := "ofSheet", desc := "(II)I" } : Jvm.MethodName)) ∈ zT := zmem4 (i := 124) rfl rfl
theorem zm_845 : (Jvm.Cond.selects "WindowLettersModel" ({ cls := "WindowLettersModel", name := "ofSheet", desc := "(II)I" } : Jvm.MethodName) ({ cls := "WindowLettersModel", name := "ofSheet", desc := "(II)I" } : Jvm.MethodName)) ∈ zT := zmem4 (i := 125) rfl rfl
theorem zm_846 : (Jvm.Cond.code ({ cls := "WindowLettersModel", name := "ofSheet", desc := "(II)I" } : Jvm.MethodName) prog_9_method_48_code (3 : Nat) (Option.some Jvm.ClassFile.FieldType.int)) ∈ zT := zmem4 (i := 126) rfl rfl
theorem zm_847 : (Jvm.Cond.methodLink "WindowLettersModel" (167 : Nat) ({ cls := "WindowLettersModel", name := "piecesFrom", desc := "(I)I" } : Jvm.MethodName)) ∈ zT := zmem4 (i := 127) rfl rfl
theorem zm_849 : (Jvm.Cond.instanceMethod ({ cls := "WindowLettersModel", name := "piecesFrom", desc := "(I)I" } : Jvm.MethodName)) ∈ zT := zmem4 (i := 129) rfl rfl
theorem zm_850 : (Jvm.Cond.code ({ cls := "WindowLettersModel", name := "piecesFrom", desc := "(I)I" } : Jvm.MethodName) prog_9_method_46_code (4 : Nat) (Option.some Jvm.ClassFile.FieldType.int)) ∈ zT := zmem4 (i := 130) rfl rfl
theorem zm_851 : (Jvm.Cond.methodLink "WindowLettersModel" (170 : Nat) ({ cls := "WindowLettersModel", name := "lettersThatFit", desc := "(I)I" } : Jvm.MethodName)) ∈ zT := zmem4 (i := 131) rfl rfl
theorem zm_853 : (Jvm.Cond.instanceMethod ({ cls := "WindowLettersModel", name := "lettersThatFit", desc := "(I)I" } : Jvm.MethodName)) ∈ zT := zmem4 (i := 133) rfl rfl
theorem zm_854 : (Jvm.Cond.code ({ cls := "WindowLettersModel", name := "lettersThatFit", desc := "(I)I" } : Jvm.MethodName) prog_9_method_47_code (4 : Nat) (Option.some Jvm.ClassFile.FieldType.int)) ∈ zT := zmem4 (i := 134) rfl rfl
theorem zm_855 : (Jvm.Cond.methodLink "WindowLettersLaw" (61 : Nat) ({ cls := "WindowLettersModel", name := "row", desc := "(II)I" } : Jvm.MethodName)) ∈ zT := zmem4 (i := 135) rfl rfl
theorem zm_856 : (Jvm.Cond.instanceMethod ({ cls := "WindowLettersModel", name := "row", desc := "(II)I" } : Jvm.MethodName)) ∈ zT := zmem4 (i := 136) rfl rfl
theorem zm_857 : (Jvm.Cond.selects "WindowLettersModel" ({ cls := "WindowLettersModel", name := "row", desc := "(II)I" } : Jvm.MethodName) ({ cls := "WindowLettersModel", name := "row", desc := "(II)I" } : Jvm.MethodName)) ∈ zT := zmem4 (i := 137) rfl rfl
theorem zm_858 : (Jvm.Cond.code ({ cls := "WindowLettersModel", name := "row", desc := "(II)I" } : Jvm.MethodName) prog_9_method_49_code (3 : Nat) (Option.some Jvm.ClassFile.FieldType.int)) ∈ zT := zmem4 (i := 138) rfl rfl
theorem zm_859 : (Jvm.Cond.methodLink "WindowLettersLaw" (65 : Nat) ({ cls := "WindowLettersModel", name := "pane", desc := "(II)I" } : Jvm.MethodName)) ∈ zT := zmem4 (i := 139) rfl rfl
theorem zm_860 : (Jvm.Cond.instanceMethod ({ cls := "WindowLettersModel", name := "pane", desc := "(II)I" } : Jvm.MethodName)) ∈ zT := zmem4 (i := 140) rfl rfl
theorem zm_861 : (Jvm.Cond.selects "WindowLettersModel" ({ cls := "WindowLettersModel", name := "pane", desc := "(II)I" } : Jvm.MethodName) ({ cls := "WindowLettersModel", name := "pane", desc := "(II)I" } : Jvm.MethodName)) ∈ zT := zmem4 (i := 141) rfl rfl
theorem zm_862 : (Jvm.Cond.code ({ cls := "WindowLettersModel", name := "pane", desc := "(II)I" } : Jvm.MethodName) prog_9_method_50_code (3 : Nat) (Option.some Jvm.ClassFile.FieldType.int)) ∈ zT := zmem4 (i := 142) rfl rfl
theorem zm_863 : (Jvm.Cond.methodLink "WindowLettersLaw" (69 : Nat) ({ cls := "WindowLettersModel", name := "shape", desc := "(III)I" } : Jvm.MethodName)) ∈ zT := zmem4 (i := 143) rfl rfl
theorem zm_864 : (Jvm.Cond.instanceMethod ({ cls := "WindowLettersModel", name := "shape", desc := "(III)I" } : Jvm.MethodName)) ∈ zT := zmem4 (i := 144) rfl rfl
theorem zm_865 : (Jvm.Cond.selects "WindowLettersModel" ({ cls := "WindowLettersModel", name := "shape", desc := "(III)I" } : Jvm.MethodName) ({ cls := "WindowLettersModel", name := "shape", desc := "(III)I" } : Jvm.MethodName)) ∈ zT := zmem4 (i := 145) rfl rfl
theorem zm_866 : (Jvm.Cond.code ({ cls := "WindowLettersModel", name := "shape", desc := "(III)I" } : Jvm.MethodName) prog_9_method_51_code (4 : Nat) (Option.some Jvm.ClassFile.FieldType.int)) ∈ zT := zmem4 (i := 146) rfl rfl
theorem zm_867 : (Jvm.Cond.methodLink "WindowLettersLaw" (73 : Nat) ({ cls := "WindowLettersModel", name := "count", desc := "(I)I" } : Jvm.MethodName)) ∈ zT := zmem4 (i := 147) rfl rfl
theorem zm_868 : (Jvm.Cond.instanceMethod ({ cls := "WindowLettersModel", name := "count", desc := "(I)I" } : Jvm.MethodName)) ∈ zT := zmem4 (i := 148) rfl rfl
theorem zm_869 : (Jvm.Cond.selects "WindowLettersModel" ({ cls := "WindowLettersModel", name := "count", desc := "(I)I" } : Jvm.MethodName) ({ cls := "WindowLettersModel", name := "count", desc := "(I)I" } : Jvm.MethodName)) ∈ zT := zmem4 (i := 149) rfl rfl
theorem zm_870 : (Jvm.Cond.code ({ cls := "WindowLettersModel", name := "count", desc := "(I)I" } : Jvm.MethodName) prog_9_method_55_code (2 : Nat) (Option.some Jvm.ClassFile.FieldType.int)) ∈ zT := zmem4 (i := 150) rfl rfl
theorem zm_871 : (Jvm.Cond.methodLink "WindowLettersModel" (173 : Nat) ({ cls := "WindowLettersModel", name := "piecesThatAre", desc := "(I)I" } : Jvm.MethodName)) ∈ zT := zmem4 (i := 151) rfl rfl
theorem zm_873 : (Jvm.Cond.instanceMethod ({ cls := "WindowLettersModel", name := "piecesThatAre", desc := "(I)I" } : Jvm.MethodName)) ∈ zT := zmem4 (i := 153) rfl rfl
theorem zm_874 : (Jvm.Cond.code ({ cls := "WindowLettersModel", name := "piecesThatAre", desc := "(I)I" } : Jvm.MethodName) prog_9_method_52_code (4 : Nat) (Option.some Jvm.ClassFile.FieldType.int)) ∈ zT := zmem4 (i := 154) rfl rfl
theorem zm_875 : (Jvm.Cond.methodLink "WindowLettersModel" (176 : Nat) ({ cls := "WindowLettersModel", name := "squaresOfSheets", desc := "()I" } : Jvm.MethodName)) ∈ zT := zmem4 (i := 155) rfl rfl
theorem zm_877 : (Jvm.Cond.instanceMethod ({ cls := "WindowLettersModel", name := "squaresOfSheets", desc := "()I" } : Jvm.MethodName)) ∈ zT := zmem4 (i := 157) rfl rfl
theorem zm_878 : (Jvm.Cond.code ({ cls := "WindowLettersModel", name := "squaresOfSheets", desc := "()I" } : Jvm.MethodName) prog_9_method_54_code (3 : Nat) (Option.some Jvm.ClassFile.FieldType.int)) ∈ zT := zmem4 (i := 158) rfl rfl
theorem zm_879 : (Jvm.Cond.methodLink "WindowLettersModel" (179 : Nat) ({ cls := "WindowLettersModel", name := "squaresOfPieces", desc := "()I" } : Jvm.MethodName)) ∈ zT := zmem4 (i := 159) rfl rfl
theorem zm_881 : (Jvm.Cond.instanceMethod ({ cls := "WindowLettersModel", name := "squaresOfPieces", desc := "()I" } : Jvm.MethodName)) ∈ zT := zmem4 (i := 161) rfl rfl
theorem zm_882 : (Jvm.Cond.code ({ cls := "WindowLettersModel", name := "squaresOfPieces", desc := "()I" } : Jvm.MethodName) prog_9_method_53_code (3 : Nat) (Option.some Jvm.ClassFile.FieldType.int)) ∈ zT := zmem4 (i := 162) rfl rfl
theorem zm_883 : (Jvm.Cond.methodLink "WindowLettersLaw" (77 : Nat) ({ cls := "WindowLettersModel", name := "fit", desc := "(IIII)I" } : Jvm.MethodName)) ∈ zT := zmem4 (i := 163) rfl rfl
theorem zm_884 : (Jvm.Cond.instanceMethod ({ cls := "WindowLettersModel", name := "fit", desc := "(IIII)I" } : Jvm.MethodName)) ∈ zT := zmem4 (i := 164) rfl rfl
theorem zm_885 : (Jvm.Cond.selects "WindowLettersModel" ({ cls := "WindowLettersModel", name := "fit", desc := "(IIII)I" } : Jvm.MethodName) ({ cls := "WindowLettersModel", name := "fit", desc := "(IIII)I" } : Jvm.MethodName)) ∈ zT := zmem4 (i := 165) rfl rfl
theorem zm_886 : (Jvm.Cond.code ({ cls := "WindowLettersModel", name := "fit", desc := "(IIII)I" } : Jvm.MethodName) prog_9_method_56_code (5 : Nat) (Option.some Jvm.ClassFile.FieldType.int)) ∈ zT := zmem4 (i := 166) rfl rfl
theorem zm_887 : (Jvm.Cond.methodLink "WindowLettersLaw" (81 : Nat) ({ cls := "WindowLettersModel", name := "manyOf", desc := "(III)I" } : Jvm.MethodName)) ∈ zT := zmem4 (i := 167) rfl rfl
theorem zm_888 : (Jvm.Cond.instanceMethod ({ cls := "WindowLettersModel", name := "manyOf", desc := "(III)I" } : Jvm.MethodName)) ∈ zT := zmem4 (i := 168) rfl rfl
theorem zm_889 : (Jvm.Cond.selects "WindowLettersModel" ({ cls := "WindowLettersModel", name := "manyOf", desc := "(III)I" } : Jvm.MethodName) ({ cls := "WindowLettersModel", name := "manyOf", desc := "(III)I" } : Jvm.MethodName)) ∈ zT := zmem4 (i := 169) rfl rfl
theorem zm_890 : (Jvm.Cond.code ({ cls := "WindowLettersModel", name := "manyOf", desc := "(III)I" } : Jvm.MethodName) prog_9_method_57_code (5 : Nat) (Option.some Jvm.ClassFile.FieldType.int)) ∈ zT := zmem4 (i := 170) rfl rfl
theorem zm_891 : (Jvm.Cond.methodLink "WindowLettersLaw" (85 : Nat) ({ cls := "WindowLettersModel", name := "fits", desc := "(II)I" } : Jvm.MethodName)) ∈ zT := zmem4 (i := 171) rfl rfl
theorem zm_892 : (Jvm.Cond.instanceMethod ({ cls := "WindowLettersModel", name := "fits", desc := "(II)I" } : Jvm.MethodName)) ∈ zT := zmem4 (i := 172) rfl rfl
theorem zm_893 : (Jvm.Cond.selects "WindowLettersModel" ({ cls := "WindowLettersModel", name := "fits", desc := "(II)I" } : Jvm.MethodName) ({ cls := "WindowLettersModel", name := "fits", desc := "(II)I" } : Jvm.MethodName)) ∈ zT := zmem4 (i := 173) rfl rfl
theorem zm_894 : (Jvm.Cond.code ({ cls := "WindowLettersModel", name := "fits", desc := "(II)I" } : Jvm.MethodName) prog_9_method_58_code (5 : Nat) (Option.some Jvm.ClassFile.FieldType.int)) ∈ zT := zmem4 (i := 174) rfl rfl
theorem zm_895 : (Jvm.Cond.methodLink "WindowLettersLaw" (89 : Nat) ({ cls := "WindowLettersModel", name := "colours", desc := "(III)I" } : Jvm.MethodName)) ∈ zT := zmem4 (i := 175) rfl rfl
theorem zm_896 : (Jvm.Cond.instanceMethod ({ cls := "WindowLettersModel", name := "colours", desc := "(III)I" } : Jvm.MethodName)) ∈ zT := zmem4 (i := 176) rfl rfl
theorem zm_897 : (Jvm.Cond.selects "WindowLettersModel" ({ cls := "WindowLettersModel", name := "colours", desc := "(III)I" } : Jvm.MethodName) ({ cls := "WindowLettersModel", name := "colours", desc := "(III)I" } : Jvm.MethodName)) ∈ zT := zmem4 (i := 177) rfl rfl
theorem zm_898 : (Jvm.Cond.code ({ cls := "WindowLettersModel", name := "colours", desc := "(III)I" } : Jvm.MethodName) prog_9_method_59_code (6 : Nat) (Option.some Jvm.ClassFile.FieldType.int)) ∈ zT := zmem4 (i := 178) rfl rfl
theorem zm_899 : (Jvm.Cond.methodLink "WindowLettersLaw" (96 : Nat) ({ cls := "WindowLettersModel", name := "put", desc := "(J)I" } : Jvm.MethodName)) ∈ zT := zmem4 (i := 179) rfl rfl
theorem zm_900 : (Jvm.Cond.instanceMethod ({ cls := "WindowLettersModel", name := "put", desc := "(J)I" } : Jvm.MethodName)) ∈ zT := zmem4 (i := 180) rfl rfl
theorem zm_901 : (Jvm.Cond.selects "WindowLettersModel" ({ cls := "WindowLettersModel", name := "put", desc := "(J)I" } : Jvm.MethodName) ({ cls := "WindowLettersModel", name := "put", desc := "(J)I" } : Jvm.MethodName)) ∈ zT := zmem4 (i := 181) rfl rfl
theorem zm_902 : (Jvm.Cond.code ({ cls := "WindowLettersModel", name := "put", desc := "(J)I" } : Jvm.MethodName) prog_9_method_60_code (8 : Nat) (Option.some Jvm.ClassFile.FieldType.int)) ∈ zT := zmem4 (i := 182) rfl rfl
theorem zm_903 : (Jvm.Cond.constantLong "WindowLettersModel" (182 : Nat) (255 : Int64)) ∈ zT := zmem4 (i := 183) rfl rfl
theorem zm_904 : (Jvm.Cond.methodLink "WindowLettersLaw" (101 : Nat) ({ cls := "WindowLettersModel", name := "wipe", desc := "()I" } : Jvm.MethodName)) ∈ zT := zmem4 (i := 184) rfl rfl
theorem zm_905 : (Jvm.Cond.instanceMethod ({ cls := "WindowLettersModel", name := "wipe", desc := "()I" } : Jvm.MethodName)) ∈ zT := zmem4 (i := 185) rfl rfl
theorem zm_906 : (Jvm.Cond.selects "WindowLettersModel" ({ cls := "WindowLettersModel", name := "wipe", desc := "()I" } : Jvm.MethodName) ({ cls := "WindowLettersModel", name := "wipe", desc := "()I" } : Jvm.MethodName)) ∈ zT := zmem4 (i := 186) rfl rfl
theorem zm_907 : (Jvm.Cond.code ({ cls := "WindowLettersModel", name := "wipe", desc := "()I" } : Jvm.MethodName) prog_9_method_61_code (2 : Nat) (Option.some Jvm.ClassFile.FieldType.int)) ∈ zT := zmem4 (i := 187) rfl rfl
theorem zm_908 : (Jvm.Cond.methodLink "WindowLettersLaw" (105 : Nat) ({ cls := "WindowLettersModel", name := "fault", desc := "()I" } : Jvm.MethodName)) ∈ zT := zmem4 (i := 188) rfl rfl
theorem zm_909 : (Jvm.Cond.methodLink "WindowLettersLaw" (109 : Nat) ({ cls := "WindowLettersModel", name := "undo", desc := "()I" } : Jvm.MethodName)) ∈ zT := zmem4 (i := 189) rfl rfl
theorem zm_910 : (Jvm.Cond.instanceMethod ({ cls := "WindowLettersModel", name := "undo", desc := "()I" } : Jvm.MethodName)) ∈ zT := zmem4 (i := 190) rfl rfl
theorem zm_911 : (Jvm.Cond.selects "WindowLettersModel" ({ cls := "WindowLettersModel", name := "undo", desc := "()I" } : Jvm.MethodName) ({ cls := "WindowLettersModel", name := "undo", desc := "()I" } : Jvm.MethodName)) ∈ zT := zmem4 (i := 191) rfl rfl
theorem zm_912 : (Jvm.Cond.code ({ cls := "WindowLettersModel", name := "undo", desc := "()I" } : Jvm.MethodName) prog_9_method_63_code (2 : Nat) (Option.some Jvm.ClassFile.FieldType.int)) ∈ zT := zmem4 (i := 192) rfl rfl
theorem zm_913 : (Jvm.Cond.methodLink "WindowLettersLaw" (113 : Nat) ({ cls := "WindowLettersModel", name := "save", desc := "(I)I" } : Jvm.MethodName)) ∈ zT := zmem4 (i := 193) rfl rfl
theorem zm_914 : (Jvm.Cond.instanceMethod ({ cls := "WindowLettersModel", name := "save", desc := "(I)I" } : Jvm.MethodName)) ∈ zT := zmem4 (i := 194) rfl rfl
theorem zm_915 : (Jvm.Cond.selects "WindowLettersModel" ({ cls := "WindowLettersModel", name := "save", desc := "(I)I" } : Jvm.MethodName) ({ cls := "WindowLettersModel", name := "save", desc := "(I)I" } : Jvm.MethodName)) ∈ zT := zmem4 (i := 195) rfl rfl
theorem zm_916 : (Jvm.Cond.code ({ cls := "WindowLettersModel", name := "save", desc := "(I)I" } : Jvm.MethodName) prog_9_method_64_code (3 : Nat) (Option.some Jvm.ClassFile.FieldType.int)) ∈ zT := zmem4 (i := 196) rfl rfl
theorem zm_917 : (Jvm.Cond.methodLink "WindowLettersLaw" (117 : Nat) ({ cls := "WindowLettersModel", name := "restore", desc := "(I)I" } : Jvm.MethodName)) ∈ zT := zmem4 (i := 197) rfl rfl
theorem zm_918 : (Jvm.Cond.instanceMethod ({ cls := "WindowLettersModel", name := "restore", desc := "(I)I" } : Jvm.MethodName)) ∈ zT := zmem4 (i := 198) rfl rfl
theorem zm_919 : (Jvm.Cond.selects "WindowLettersModel" ({ cls := "WindowLettersModel", name := "restore", desc := "(I)I" } : Jvm.MethodName) ({ cls := "WindowLettersModel", name := "restore", desc := "(I)I" } : Jvm.MethodName)) ∈ zT := zmem4 (i := 199) rfl rfl
theorem zm_920 : (Jvm.Cond.code ({ cls := "WindowLettersModel", name := "restore", desc := "(I)I" } : Jvm.MethodName) prog_9_method_65_code (3 : Nat) (Option.some Jvm.ClassFile.FieldType.int)) ∈ zT := zmem4 (i := 200) rfl rfl
theorem zm_921 : (Jvm.Cond.constantLong "WindowLettersLaw" (90 : Nat) (4294967295 : Int64)) ∈ zT := zmem4 (i := 201) rfl rfl
theorem zm_922 : (Jvm.Cond.fieldLink "java/lang/String" (15 : Nat) "java/lang/String" "coder" "B") ∈ zT := zmem4 (i := 202) rfl rfl
theorem zm_923 : (Jvm.Cond.fieldLink "java/lang/String" (9 : Nat) "java/lang/String" "value" "[B") ∈ zT := zmem4 (i := 203) rfl rfl
theorem zin0 : ∀ w ∈ u_ws RX0 TX0 4, w ∈ zT := by
  intro w hw
  obtain ⟨k, hk, rfl⟩ := List.mem_map.mp hw
  have hk := List.mem_range.mp hk
  match k, hk with
  | 0, _ => exact zm_169
  | 1, _ => exact zm_171
  | 2, _ => exact zm_173
  | 3, _ => exact zm_175
theorem zin1 : ∀ w ∈ u_ws RX1 TX1 2, w ∈ zT := by
  intro w hw
  obtain ⟨k, hk, rfl⟩ := List.mem_map.mp hw
  have hk := List.mem_range.mp hk
  match k, hk with
  | 0, _ => exact zm_188
  | 1, _ => exact zm_190
theorem zin2 : ∀ w ∈ u_ws RX2 TX2 7, w ∈ zT := by
  intro w hw
  obtain ⟨k, hk, rfl⟩ := List.mem_map.mp hw
  have hk := List.mem_range.mp hk
  match k, hk with
  | 0, _ => exact zm_117
  | 1, _ => exact zm_119
  | 2, _ => exact zm_121
  | 3, _ => exact zm_123
  | 4, _ => exact zm_125
  | 5, _ => exact zm_127
  | 6, _ => exact zm_129
theorem zin3 : ∀ w ∈ u_ws RX3 TX3 1, w ∈ zT := by
  intro w hw
  obtain ⟨k, hk, rfl⟩ := List.mem_map.mp hw
  have hk := List.mem_range.mp hk
  match k, hk with
  | 0, _ => exact zm_54
theorem zin4 : ∀ w ∈ u_ws RX4 TX4 4, w ∈ zT := by
  intro w hw
  obtain ⟨k, hk, rfl⟩ := List.mem_map.mp hw
  have hk := List.mem_range.mp hk
  match k, hk with
  | 0, _ => exact zm_82
  | 1, _ => exact zm_84
  | 2, _ => exact zm_86
  | 3, _ => exact zm_88
theorem zin5 : ∀ w ∈ u_ws RX5 TX5 6, w ∈ zT := by
  intro w hw
  obtain ⟨k, hk, rfl⟩ := List.mem_map.mp hw
  have hk := List.mem_range.mp hk
  match k, hk with
  | 0, _ => exact zm_141
  | 1, _ => exact zm_143
  | 2, _ => exact zm_145
  | 3, _ => exact zm_147
  | 4, _ => exact zm_149
  | 5, _ => exact zm_151
theorem zin6 : ∀ w ∈ u_ws RX6 TX6 7, w ∈ zT := by
  intro w hw
  obtain ⟨k, hk, rfl⟩ := List.mem_map.mp hw
  have hk := List.mem_range.mp hk
  match k, hk with
  | 0, _ => exact zm_201
  | 1, _ => exact zm_203
  | 2, _ => exact zm_205
  | 3, _ => exact zm_207
  | 4, _ => exact zm_209
  | 5, _ => exact zm_211
  | 6, _ => exact zm_213
theorem zin7 : ∀ w ∈ u_ws RX7 TX7 10, w ∈ zT := by
  intro w hw
  obtain ⟨k, hk, rfl⟩ := List.mem_map.mp hw
  have hk := List.mem_range.mp hk
  match k, hk with
  | 0, _ => exact zm_673
  | 1, _ => exact zm_675
  | 2, _ => exact zm_677
  | 3, _ => exact zm_679
  | 4, _ => exact zm_681
  | 5, _ => exact zm_683
  | 6, _ => exact zm_685
  | 7, _ => exact zm_687
  | 8, _ => exact zm_689
  | 9, _ => exact zm_691
end
section
theorem dX7_init_0 : decode cX7_init 0 = .ok (.aload_n 0, 1) := by decide +kernel
theorem dX7_init_1 : decode cX7_init 1 = .ok (.invokespecial 1, 3) := by decide +kernel
theorem dX7_init_4 : decode cX7_init 4 = .ok (.aload_n 0, 1) := by decide +kernel
theorem dX7_init_5 : decode cX7_init 5 = .ok (.sipush 453, 3) := by decide +kernel
theorem dX7_init_8 : decode cX7_init 8 = .ok (.newarray .int, 2) := by decide +kernel
theorem dX7_init_10 : decode cX7_init 10 = .ok (.putfield 7, 3) := by decide +kernel
theorem dX7_init_13 : decode cX7_init 13 = .ok (.aload_n 0, 1) := by decide +kernel
theorem dX7_init_14 : decode cX7_init 14 = .ok (.sipush 453, 3) := by decide +kernel
theorem dX7_init_17 : decode cX7_init 17 = .ok (.newarray .int, 2) := by decide +kernel
theorem dX7_init_19 : decode cX7_init 19 = .ok (.putfield 13, 3) := by decide +kernel
theorem dX7_init_22 : decode cX7_init 22 = .ok (.aload_n 0, 1) := by decide +kernel
theorem dX7_init_23 : decode cX7_init 23 = .ok (.sipush 2718, 3) := by decide +kernel
theorem dX7_init_26 : decode cX7_init 26 = .ok (.newarray .int, 2) := by decide +kernel
theorem dX7_init_28 : decode cX7_init 28 = .ok (.putfield 16, 3) := by decide +kernel
theorem dX7_init_31 : decode cX7_init 31 = .ok (.aload_n 0, 1) := by decide +kernel
theorem dX7_init_32 : decode cX7_init 32 = .ok (.sipush 906, 3) := by decide +kernel
theorem dX7_init_35 : decode cX7_init 35 = .ok (.newarray .int, 2) := by decide +kernel
theorem dX7_init_37 : decode cX7_init 37 = .ok (.putfield 19, 3) := by decide +kernel
theorem dX7_init_40 : decode cX7_init 40 = .ok (.aload_n 0, 1) := by decide +kernel
theorem dX7_init_41 : decode cX7_init 41 = .ok (.iconst 2, 1) := by decide +kernel
theorem dX7_init_42 : decode cX7_init 42 = .ok (.newarray .boolean, 2) := by decide +kernel
theorem dX7_init_44 : decode cX7_init 44 = .ok (.putfield 22, 3) := by decide +kernel
theorem dX7_init_47 : decode cX7_init 47 = .ok (.aload_n 0, 1) := by decide +kernel
theorem dX7_init_48 : decode cX7_init 48 = .ok (.bipush 80, 2) := by decide +kernel
theorem dX7_init_50 : decode cX7_init 50 = .ok (.newarray .int, 2) := by decide +kernel
theorem dX7_init_52 : decode cX7_init 52 = .ok (.putfield 26, 3) := by decide +kernel
theorem dX7_init_55 : decode cX7_init 55 = .ok (.aload_n 0, 1) := by decide +kernel
theorem dX7_init_56 : decode cX7_init 56 = .ok (.sipush 320, 3) := by decide +kernel
theorem dX7_init_59 : decode cX7_init 59 = .ok (.newarray .int, 2) := by decide +kernel
theorem dX7_init_61 : decode cX7_init 61 = .ok (.putfield 29, 3) := by decide +kernel
theorem dX7_init_64 : decode cX7_init 64 = .ok (.aload_n 0, 1) := by decide +kernel
theorem dX7_init_65 : decode cX7_init 65 = .ok (.iconst 3, 1) := by decide +kernel
theorem dX7_init_66 : decode cX7_init 66 = .ok (.newarray .int, 2) := by decide +kernel
theorem dX7_init_68 : decode cX7_init 68 = .ok (.putfield 32, 3) := by decide +kernel
theorem dX7_init_71 : decode cX7_init 71 = .ok (.iconst 0, 1) := by decide +kernel
theorem dX7_init_72 : decode cX7_init 72 = .ok (.istore_n 1, 1) := by decide +kernel
theorem dX7_init_73 : decode cX7_init 73 = .ok (.iload_n 1, 1) := by decide +kernel
theorem dX7_init_74 : decode cX7_init 74 = .ok (.sipush 320, 3) := by decide +kernel
theorem dX7_init_77 : decode cX7_init 77 = .ok (.if_icmp .ge 31, 3) := by decide +kernel
theorem dX7_init_80 : decode cX7_init 80 = .ok (.aload_n 0, 1) := by decide +kernel
theorem dX7_init_81 : decode cX7_init 81 = .ok (.getfield 29, 3) := by decide +kernel
theorem dX7_init_84 : decode cX7_init 84 = .ok (.iload_n 1, 1) := by decide +kernel
theorem dX7_init_85 : decode cX7_init 85 = .ok (.iload_n 1, 1) := by decide +kernel
theorem dX7_init_86 : decode cX7_init 86 = .ok (.bipush 40, 2) := by decide +kernel
theorem dX7_init_88 : decode cX7_init 88 = .ok (.idiv, 1) := by decide +kernel
theorem dX7_init_89 : decode cX7_init 89 = .ok (.iload_n 1, 1) := by decide +kernel
theorem dX7_init_90 : decode cX7_init 90 = .ok (.iconst 5, 1) := by decide +kernel
theorem dX7_init_91 : decode cX7_init 91 = .ok (.idiv, 1) := by decide +kernel
theorem dX7_init_92 : decode cX7_init 92 = .ok (.bipush 8, 2) := by decide +kernel
theorem dX7_init_94 : decode cX7_init 94 = .ok (.irem, 1) := by decide +kernel
theorem dX7_init_95 : decode cX7_init 95 = .ok (.iload_n 1, 1) := by decide +kernel
theorem dX7_init_96 : decode cX7_init 96 = .ok (.iconst 5, 1) := by decide +kernel
theorem dX7_init_97 : decode cX7_init 97 = .ok (.irem, 1) := by decide +kernel
theorem dX7_init_98 : decode cX7_init 98 = .ok (.invokestatic 35, 3) := by decide +kernel
theorem dX7_init_101 : decode cX7_init 101 = .ok (.iastore, 1) := by decide +kernel
theorem dX7_init_102 : decode cX7_init 102 = .ok (.iinc 1 1, 3) := by decide +kernel
theorem dX7_init_105 : decode cX7_init 105 = .ok (.goto (-32), 3) := by decide +kernel
theorem dX7_init_108 : decode cX7_init 108 = .ok (.return_, 1) := by decide +kernel
theorem dX7_in_0 : decode cX7_in 0 = .ok (.iload_n 0, 1) := by decide +kernel
theorem dX7_in_1 : decode cX7_in 1 = .ok (.iload_n 1, 1) := by decide +kernel
theorem dX7_in_2 : decode cX7_in 2 = .ok (.if_icmp .lt 12, 3) := by decide +kernel
theorem dX7_in_5 : decode cX7_in 5 = .ok (.iload_n 0, 1) := by decide +kernel
theorem dX7_in_6 : decode cX7_in 6 = .ok (.iload_n 2, 1) := by decide +kernel
theorem dX7_in_7 : decode cX7_in 7 = .ok (.if_icmp .gt 7, 3) := by decide +kernel
theorem dX7_in_10 : decode cX7_in 10 = .ok (.iconst 1, 1) := by decide +kernel
theorem dX7_in_11 : decode cX7_in 11 = .ok (.goto 4, 3) := by decide +kernel
theorem dX7_in_14 : decode cX7_in 14 = .ok (.iconst 0, 1) := by decide +kernel
theorem dX7_in_15 : decode cX7_in 15 = .ok (.ireturn, 1) := by decide +kernel
theorem dX7_digits_0 : decode cX7_digits 0 = .ok (.iload_n 0, 1) := by decide +kernel
theorem dX7_digits_1 : decode cX7_digits 1 = .ok (.tableswitch 65 0 6 #[43, 47, 50, 53, 56, 59, 62], 43) := by decide +kernel
theorem dX7_digits_44 : decode cX7_digits 44 = .ok (.sipush 22222, 3) := by decide +kernel
theorem dX7_digits_47 : decode cX7_digits 47 = .ok (.ireturn, 1) := by decide +kernel
theorem dX7_digits_48 : decode cX7_digits 48 = .ok (.ldc 39, 2) := by decide +kernel
theorem dX7_digits_50 : decode cX7_digits 50 = .ok (.ireturn, 1) := by decide +kernel
theorem dX7_digits_51 : decode cX7_digits 51 = .ok (.ldc 40, 2) := by decide +kernel
theorem dX7_digits_53 : decode cX7_digits 53 = .ok (.ireturn, 1) := by decide +kernel
theorem dX7_digits_54 : decode cX7_digits 54 = .ok (.ldc 41, 2) := by decide +kernel
theorem dX7_digits_56 : decode cX7_digits 56 = .ok (.ireturn, 1) := by decide +kernel
theorem dX7_digits_57 : decode cX7_digits 57 = .ok (.ldc 42, 2) := by decide +kernel
theorem dX7_digits_59 : decode cX7_digits 59 = .ok (.ireturn, 1) := by decide +kernel
theorem dX7_digits_60 : decode cX7_digits 60 = .ok (.ldc 43, 2) := by decide +kernel
theorem dX7_digits_62 : decode cX7_digits 62 = .ok (.ireturn, 1) := by decide +kernel
theorem dX7_digits_63 : decode cX7_digits 63 = .ok (.ldc 44, 2) := by decide +kernel
theorem dX7_digits_65 : decode cX7_digits 65 = .ok (.ireturn, 1) := by decide +kernel
theorem dX7_digits_66 : decode cX7_digits 66 = .ok (.ldc 45, 2) := by decide +kernel
theorem dX7_digits_68 : decode cX7_digits 68 = .ok (.ireturn, 1) := by decide +kernel
theorem dX7_hasSquare_0 : decode cX7_hasSquare 0 = .ok (.iload_n 0, 1) := by decide +kernel
theorem dX7_hasSquare_1 : decode cX7_hasSquare 1 = .ok (.invokestatic 46, 3) := by decide +kernel
theorem dX7_hasSquare_4 : decode cX7_hasSquare 4 = .ok (.istore 4, 2) := by decide +kernel
theorem dX7_hasSquare_6 : decode cX7_hasSquare 6 = .ok (.iconst 4, 1) := by decide +kernel
theorem dX7_hasSquare_7 : decode cX7_hasSquare 7 = .ok (.istore 5, 2) := by decide +kernel
theorem dX7_hasSquare_9 : decode cX7_hasSquare 9 = .ok (.iload 5, 2) := by decide +kernel
theorem dX7_hasSquare_11 : decode cX7_hasSquare 11 = .ok (.iload_n 2, 1) := by decide +kernel
theorem dX7_hasSquare_12 : decode cX7_hasSquare 12 = .ok (.if_icmp .le 16, 3) := by decide +kernel
theorem dX7_hasSquare_15 : decode cX7_hasSquare 15 = .ok (.iload 4, 2) := by decide +kernel
theorem dX7_hasSquare_17 : decode cX7_hasSquare 17 = .ok (.bipush 10, 2) := by decide +kernel
theorem dX7_hasSquare_19 : decode cX7_hasSquare 19 = .ok (.idiv, 1) := by decide +kernel
theorem dX7_hasSquare_20 : decode cX7_hasSquare 20 = .ok (.istore 4, 2) := by decide +kernel
theorem dX7_hasSquare_22 : decode cX7_hasSquare 22 = .ok (.iinc 5 (-1), 3) := by decide +kernel
theorem dX7_hasSquare_25 : decode cX7_hasSquare 25 = .ok (.goto (-16), 3) := by decide +kernel
theorem dX7_hasSquare_28 : decode cX7_hasSquare 28 = .ok (.iload_n 1, 1) := by decide +kernel
theorem dX7_hasSquare_29 : decode cX7_hasSquare 29 = .ok (.ifCond .eq 9, 3) := by decide +kernel
theorem dX7_hasSquare_32 : decode cX7_hasSquare 32 = .ok (.iconst 2, 1) := by decide +kernel
theorem dX7_hasSquare_33 : decode cX7_hasSquare 33 = .ok (.iload_n 3, 1) := by decide +kernel
theorem dX7_hasSquare_34 : decode cX7_hasSquare 34 = .ok (.isub, 1) := by decide +kernel
theorem dX7_hasSquare_35 : decode cX7_hasSquare 35 = .ok (.goto 4, 3) := by decide +kernel
theorem dX7_hasSquare_38 : decode cX7_hasSquare 38 = .ok (.iload_n 3, 1) := by decide +kernel
theorem dX7_hasSquare_39 : decode cX7_hasSquare 39 = .ok (.istore 5, 2) := by decide +kernel
theorem dX7_hasSquare_41 : decode cX7_hasSquare 41 = .ok (.iload 4, 2) := by decide +kernel
theorem dX7_hasSquare_43 : decode cX7_hasSquare 43 = .ok (.bipush 10, 2) := by decide +kernel
theorem dX7_hasSquare_45 : decode cX7_hasSquare 45 = .ok (.irem, 1) := by decide +kernel
theorem dX7_hasSquare_46 : decode cX7_hasSquare 46 = .ok (.iconst 2, 1) := by decide +kernel
theorem dX7_hasSquare_47 : decode cX7_hasSquare 47 = .ok (.iload 5, 2) := by decide +kernel
theorem dX7_hasSquare_49 : decode cX7_hasSquare 49 = .ok (.isub, 1) := by decide +kernel
theorem dX7_hasSquare_50 : decode cX7_hasSquare 50 = .ok (.ishr, 1) := by decide +kernel
theorem dX7_hasSquare_51 : decode cX7_hasSquare 51 = .ok (.iconst 1, 1) := by decide +kernel
theorem dX7_hasSquare_52 : decode cX7_hasSquare 52 = .ok (.iand, 1) := by decide +kernel
theorem dX7_hasSquare_53 : decode cX7_hasSquare 53 = .ok (.iconst 1, 1) := by decide +kernel
theorem dX7_hasSquare_54 : decode cX7_hasSquare 54 = .ok (.if_icmp .ne 7, 3) := by decide +kernel
theorem dX7_hasSquare_57 : decode cX7_hasSquare 57 = .ok (.iconst 1, 1) := by decide +kernel
theorem dX7_hasSquare_58 : decode cX7_hasSquare 58 = .ok (.goto 4, 3) := by decide +kernel
theorem dX7_hasSquare_61 : decode cX7_hasSquare 61 = .ok (.iconst 0, 1) := by decide +kernel
theorem dX7_hasSquare_62 : decode cX7_hasSquare 62 = .ok (.ireturn, 1) := by decide +kernel
theorem dX7_high_0 : decode cX7_high 0 = .ok (.iload_n 0, 1) := by decide +kernel
theorem dX7_high_1 : decode cX7_high 1 = .ok (.iconst 2, 1) := by decide +kernel
theorem dX7_high_2 : decode cX7_high 2 = .ok (.irem, 1) := by decide +kernel
theorem dX7_high_3 : decode cX7_high 3 = .ok (.ifCond .ne 7, 3) := by decide +kernel
theorem dX7_high_6 : decode cX7_high 6 = .ok (.iconst 5, 1) := by decide +kernel
theorem dX7_high_7 : decode cX7_high 7 = .ok (.goto 4, 3) := by decide +kernel
theorem dX7_high_10 : decode cX7_high 10 = .ok (.iconst 3, 1) := by decide +kernel
theorem dX7_high_11 : decode cX7_high 11 = .ok (.ireturn, 1) := by decide +kernel
theorem dX7_wide_0 : decode cX7_wide 0 = .ok (.iload_n 0, 1) := by decide +kernel
theorem dX7_wide_1 : decode cX7_wide 1 = .ok (.iconst 2, 1) := by decide +kernel
theorem dX7_wide_2 : decode cX7_wide 2 = .ok (.irem, 1) := by decide +kernel
theorem dX7_wide_3 : decode cX7_wide 3 = .ok (.ifCond .ne 7, 3) := by decide +kernel
theorem dX7_wide_6 : decode cX7_wide 6 = .ok (.iconst 3, 1) := by decide +kernel
theorem dX7_wide_7 : decode cX7_wide 7 = .ok (.goto 4, 3) := by decide +kernel
theorem dX7_wide_10 : decode cX7_wide 10 = .ok (.iconst 5, 1) := by decide +kernel
theorem dX7_wide_11 : decode cX7_wide 11 = .ok (.ireturn, 1) := by decide +kernel
theorem dX7_drawn_0 : decode cX7_drawn 0 = .ok (.iconst 0, 1) := by decide +kernel
theorem dX7_drawn_1 : decode cX7_drawn 1 = .ok (.istore_n 3, 1) := by decide +kernel
theorem dX7_drawn_2 : decode cX7_drawn 2 = .ok (.iconst 0, 1) := by decide +kernel
theorem dX7_drawn_3 : decode cX7_drawn 3 = .ok (.istore 4, 2) := by decide +kernel
theorem dX7_drawn_5 : decode cX7_drawn 5 = .ok (.iload 4, 2) := by decide +kernel
theorem dX7_drawn_7 : decode cX7_drawn 7 = .ok (.iload_n 1, 1) := by decide +kernel
theorem dX7_drawn_8 : decode cX7_drawn 8 = .ok (.invokestatic 50, 3) := by decide +kernel
theorem dX7_drawn_11 : decode cX7_drawn 11 = .ok (.if_icmp .ge 130, 3) := by decide +kernel
theorem dX7_drawn_14 : decode cX7_drawn 14 = .ok (.iload_n 2, 1) := by decide +kernel
theorem dX7_drawn_15 : decode cX7_drawn 15 = .ok (.iload_n 1, 1) := by decide +kernel
theorem dX7_drawn_16 : decode cX7_drawn 16 = .ok (.invokestatic 53, 3) := by decide +kernel
theorem dX7_drawn_19 : decode cX7_drawn 19 = .ok (.if_icmp .ge 122, 3) := by decide +kernel
theorem dX7_drawn_22 : decode cX7_drawn 22 = .ok (.iload_n 1, 1) := by decide +kernel
theorem dX7_drawn_23 : decode cX7_drawn 23 = .ok (.iconst 4, 1) := by decide +kernel
theorem dX7_drawn_24 : decode cX7_drawn 24 = .ok (.irem, 1) := by decide +kernel
theorem dX7_drawn_25 : decode cX7_drawn 25 = .ok (.istore 5, 2) := by decide +kernel
theorem dX7_drawn_27 : decode cX7_drawn 27 = .ok (.iload 5, 2) := by decide +kernel
theorem dX7_drawn_29 : decode cX7_drawn 29 = .ok (.ifCond .ne 7, 3) := by decide +kernel
theorem dX7_drawn_32 : decode cX7_drawn 32 = .ok (.iload_n 2, 1) := by decide +kernel
theorem dX7_drawn_33 : decode cX7_drawn 33 = .ok (.goto 30, 3) := by decide +kernel
theorem dX7_drawn_36 : decode cX7_drawn 36 = .ok (.iload 5, 2) := by decide +kernel
theorem dX7_drawn_38 : decode cX7_drawn 38 = .ok (.iconst 1, 1) := by decide +kernel
theorem dX7_drawn_39 : decode cX7_drawn 39 = .ok (.if_icmp .ne 10, 3) := by decide +kernel
theorem dX7_drawn_42 : decode cX7_drawn 42 = .ok (.iconst 4, 1) := by decide +kernel
theorem dX7_drawn_43 : decode cX7_drawn 43 = .ok (.iload 4, 2) := by decide +kernel
theorem dX7_drawn_45 : decode cX7_drawn 45 = .ok (.isub, 1) := by decide +kernel
theorem dX7_drawn_46 : decode cX7_drawn 46 = .ok (.goto 17, 3) := by decide +kernel
theorem dX7_drawn_49 : decode cX7_drawn 49 = .ok (.iload 5, 2) := by decide +kernel
theorem dX7_drawn_51 : decode cX7_drawn 51 = .ok (.iconst 2, 1) := by decide +kernel
theorem dX7_drawn_52 : decode cX7_drawn 52 = .ok (.if_icmp .ne 9, 3) := by decide +kernel
theorem dX7_drawn_55 : decode cX7_drawn 55 = .ok (.iconst 4, 1) := by decide +kernel
theorem dX7_drawn_56 : decode cX7_drawn 56 = .ok (.iload_n 2, 1) := by decide +kernel
theorem dX7_drawn_57 : decode cX7_drawn 57 = .ok (.isub, 1) := by decide +kernel
theorem dX7_drawn_58 : decode cX7_drawn 58 = .ok (.goto 5, 3) := by decide +kernel
theorem dX7_drawn_61 : decode cX7_drawn 61 = .ok (.iload 4, 2) := by decide +kernel
theorem dX7_drawn_63 : decode cX7_drawn 63 = .ok (.istore 6, 2) := by decide +kernel
theorem dX7_drawn_65 : decode cX7_drawn 65 = .ok (.iload 5, 2) := by decide +kernel
theorem dX7_drawn_67 : decode cX7_drawn 67 = .ok (.ifCond .ne 8, 3) := by decide +kernel
theorem dX7_drawn_70 : decode cX7_drawn 70 = .ok (.iload 4, 2) := by decide +kernel
theorem dX7_drawn_72 : decode cX7_drawn 72 = .ok (.goto 29, 3) := by decide +kernel
theorem dX7_drawn_75 : decode cX7_drawn 75 = .ok (.iload 5, 2) := by decide +kernel
theorem dX7_drawn_77 : decode cX7_drawn 77 = .ok (.iconst 1, 1) := by decide +kernel
theorem dX7_drawn_78 : decode cX7_drawn 78 = .ok (.if_icmp .ne 7, 3) := by decide +kernel
theorem dX7_drawn_81 : decode cX7_drawn 81 = .ok (.iload_n 2, 1) := by decide +kernel
theorem dX7_drawn_82 : decode cX7_drawn 82 = .ok (.goto 19, 3) := by decide +kernel
theorem dX7_drawn_85 : decode cX7_drawn 85 = .ok (.iload 5, 2) := by decide +kernel
theorem dX7_drawn_87 : decode cX7_drawn 87 = .ok (.iconst 2, 1) := by decide +kernel
theorem dX7_drawn_88 : decode cX7_drawn 88 = .ok (.if_icmp .ne 10, 3) := by decide +kernel
theorem dX7_drawn_91 : decode cX7_drawn 91 = .ok (.iconst 2, 1) := by decide +kernel
theorem dX7_drawn_92 : decode cX7_drawn 92 = .ok (.iload 4, 2) := by decide +kernel
theorem dX7_drawn_94 : decode cX7_drawn 94 = .ok (.isub, 1) := by decide +kernel
theorem dX7_drawn_95 : decode cX7_drawn 95 = .ok (.goto 6, 3) := by decide +kernel
theorem dX7_drawn_98 : decode cX7_drawn 98 = .ok (.iconst 2, 1) := by decide +kernel
theorem dX7_drawn_99 : decode cX7_drawn 99 = .ok (.iload_n 2, 1) := by decide +kernel
theorem dX7_drawn_100 : decode cX7_drawn 100 = .ok (.isub, 1) := by decide +kernel
theorem dX7_drawn_101 : decode cX7_drawn 101 = .ok (.istore 7, 2) := by decide +kernel
theorem dX7_drawn_103 : decode cX7_drawn 103 = .ok (.iload_n 3, 1) := by decide +kernel
theorem dX7_drawn_104 : decode cX7_drawn 104 = .ok (.iload_n 0, 1) := by decide +kernel
theorem dX7_drawn_105 : decode cX7_drawn 105 = .ok (.iload_n 1, 1) := by decide +kernel
theorem dX7_drawn_106 : decode cX7_drawn 106 = .ok (.iconst 3, 1) := by decide +kernel
theorem dX7_drawn_107 : decode cX7_drawn 107 = .ok (.if_icmp .le 7, 3) := by decide +kernel
theorem dX7_drawn_110 : decode cX7_drawn 110 = .ok (.iconst 1, 1) := by decide +kernel
theorem dX7_drawn_111 : decode cX7_drawn 111 = .ok (.goto 4, 3) := by decide +kernel
theorem dX7_drawn_114 : decode cX7_drawn 114 = .ok (.iconst 0, 1) := by decide +kernel
theorem dX7_drawn_115 : decode cX7_drawn 115 = .ok (.iload 6, 2) := by decide +kernel
theorem dX7_drawn_117 : decode cX7_drawn 117 = .ok (.iload 7, 2) := by decide +kernel
theorem dX7_drawn_119 : decode cX7_drawn 119 = .ok (.invokestatic 56, 3) := by decide +kernel
theorem dX7_drawn_122 : decode cX7_drawn 122 = .ok (.ifCond .eq 10, 3) := by decide +kernel
theorem dX7_drawn_125 : decode cX7_drawn 125 = .ok (.iconst 1, 1) := by decide +kernel
theorem dX7_drawn_126 : decode cX7_drawn 126 = .ok (.iload 4, 2) := by decide +kernel
theorem dX7_drawn_128 : decode cX7_drawn 128 = .ok (.ishl, 1) := by decide +kernel
theorem dX7_drawn_129 : decode cX7_drawn 129 = .ok (.goto 4, 3) := by decide +kernel
theorem dX7_drawn_132 : decode cX7_drawn 132 = .ok (.iconst 0, 1) := by decide +kernel
theorem dX7_drawn_133 : decode cX7_drawn 133 = .ok (.ior, 1) := by decide +kernel
theorem dX7_drawn_134 : decode cX7_drawn 134 = .ok (.istore_n 3, 1) := by decide +kernel
theorem dX7_drawn_135 : decode cX7_drawn 135 = .ok (.iinc 4 1, 3) := by decide +kernel
theorem dX7_drawn_138 : decode cX7_drawn 138 = .ok (.goto (-133), 3) := by decide +kernel
theorem dX7_drawn_141 : decode cX7_drawn 141 = .ok (.iload_n 3, 1) := by decide +kernel
theorem dX7_drawn_142 : decode cX7_drawn 142 = .ok (.ireturn, 1) := by decide +kernel
theorem dX7_shapeOf_0 : decode cX7_shapeOf 0 = .ok (.aload_n 0, 1) := by decide +kernel
theorem dX7_shapeOf_1 : decode cX7_shapeOf 1 = .ok (.getfield 29, 3) := by decide +kernel
theorem dX7_shapeOf_4 : decode cX7_shapeOf 4 = .ok (.bipush 40, 2) := by decide +kernel
theorem dX7_shapeOf_6 : decode cX7_shapeOf 6 = .ok (.iload_n 1, 1) := by decide +kernel
theorem dX7_shapeOf_7 : decode cX7_shapeOf 7 = .ok (.imul, 1) := by decide +kernel
theorem dX7_shapeOf_8 : decode cX7_shapeOf 8 = .ok (.iconst 5, 1) := by decide +kernel
theorem dX7_shapeOf_9 : decode cX7_shapeOf 9 = .ok (.iload_n 2, 1) := by decide +kernel
theorem dX7_shapeOf_10 : decode cX7_shapeOf 10 = .ok (.imul, 1) := by decide +kernel
theorem dX7_shapeOf_11 : decode cX7_shapeOf 11 = .ok (.iadd, 1) := by decide +kernel
theorem dX7_shapeOf_12 : decode cX7_shapeOf 12 = .ok (.iload_n 3, 1) := by decide +kernel
theorem dX7_shapeOf_13 : decode cX7_shapeOf 13 = .ok (.iadd, 1) := by decide +kernel
theorem dX7_shapeOf_14 : decode cX7_shapeOf 14 = .ok (.iaload, 1) := by decide +kernel
theorem dX7_shapeOf_15 : decode cX7_shapeOf 15 = .ok (.ireturn, 1) := by decide +kernel
theorem dX7_bits_0 : decode cX7_bits 0 = .ok (.iconst 0, 1) := by decide +kernel
theorem dX7_bits_1 : decode cX7_bits 1 = .ok (.istore_n 1, 1) := by decide +kernel
theorem dX7_bits_2 : decode cX7_bits 2 = .ok (.iload_n 0, 1) := by decide +kernel
theorem dX7_bits_3 : decode cX7_bits 3 = .ok (.istore_n 2, 1) := by decide +kernel
theorem dX7_bits_4 : decode cX7_bits 4 = .ok (.iload_n 2, 1) := by decide +kernel
theorem dX7_bits_5 : decode cX7_bits 5 = .ok (.ifCond .le 16, 3) := by decide +kernel
theorem dX7_bits_8 : decode cX7_bits 8 = .ok (.iload_n 1, 1) := by decide +kernel
theorem dX7_bits_9 : decode cX7_bits 9 = .ok (.iload_n 2, 1) := by decide +kernel
theorem dX7_bits_10 : decode cX7_bits 10 = .ok (.iconst 2, 1) := by decide +kernel
theorem dX7_bits_11 : decode cX7_bits 11 = .ok (.irem, 1) := by decide +kernel
theorem dX7_bits_12 : decode cX7_bits 12 = .ok (.iadd, 1) := by decide +kernel
theorem dX7_bits_13 : decode cX7_bits 13 = .ok (.istore_n 1, 1) := by decide +kernel
theorem dX7_bits_14 : decode cX7_bits 14 = .ok (.iload_n 2, 1) := by decide +kernel
theorem dX7_bits_15 : decode cX7_bits 15 = .ok (.iconst 2, 1) := by decide +kernel
theorem dX7_bits_16 : decode cX7_bits 16 = .ok (.idiv, 1) := by decide +kernel
theorem dX7_bits_17 : decode cX7_bits 17 = .ok (.istore_n 2, 1) := by decide +kernel
theorem dX7_bits_18 : decode cX7_bits 18 = .ok (.goto (-14), 3) := by decide +kernel
theorem dX7_bits_21 : decode cX7_bits 21 = .ok (.iload_n 1, 1) := by decide +kernel
theorem dX7_bits_22 : decode cX7_bits 22 = .ok (.ireturn, 1) := by decide +kernel
theorem dX7_squaresOf_0 : decode cX7_squaresOf 0 = .ok (.iconst 0, 1) := by decide +kernel
theorem dX7_squaresOf_1 : decode cX7_squaresOf 1 = .ok (.istore_n 2, 1) := by decide +kernel
theorem dX7_squaresOf_2 : decode cX7_squaresOf 2 = .ok (.iconst 0, 1) := by decide +kernel
theorem dX7_squaresOf_3 : decode cX7_squaresOf 3 = .ok (.istore_n 3, 1) := by decide +kernel
theorem dX7_squaresOf_4 : decode cX7_squaresOf 4 = .ok (.iload_n 3, 1) := by decide +kernel
theorem dX7_squaresOf_5 : decode cX7_squaresOf 5 = .ok (.iconst 5, 1) := by decide +kernel
theorem dX7_squaresOf_6 : decode cX7_squaresOf 6 = .ok (.if_icmp .ge 22, 3) := by decide +kernel
theorem dX7_squaresOf_9 : decode cX7_squaresOf 9 = .ok (.iload_n 2, 1) := by decide +kernel
theorem dX7_squaresOf_10 : decode cX7_squaresOf 10 = .ok (.aload_n 0, 1) := by decide +kernel
theorem dX7_squaresOf_11 : decode cX7_squaresOf 11 = .ok (.iload_n 1, 1) := by decide +kernel
theorem dX7_squaresOf_12 : decode cX7_squaresOf 12 = .ok (.iconst 0, 1) := by decide +kernel
theorem dX7_squaresOf_13 : decode cX7_squaresOf 13 = .ok (.iload_n 3, 1) := by decide +kernel
theorem dX7_squaresOf_14 : decode cX7_squaresOf 14 = .ok (.invokevirtual 60, 3) := by decide +kernel
theorem dX7_squaresOf_17 : decode cX7_squaresOf 17 = .ok (.invokestatic 63, 3) := by decide +kernel
theorem dX7_squaresOf_20 : decode cX7_squaresOf 20 = .ok (.iadd, 1) := by decide +kernel
theorem dX7_squaresOf_21 : decode cX7_squaresOf 21 = .ok (.istore_n 2, 1) := by decide +kernel
theorem dX7_squaresOf_22 : decode cX7_squaresOf 22 = .ok (.iinc 3 1, 3) := by decide +kernel
theorem dX7_squaresOf_25 : decode cX7_squaresOf 25 = .ok (.goto (-21), 3) := by decide +kernel
theorem dX7_squaresOf_28 : decode cX7_squaresOf 28 = .ok (.iload_n 2, 1) := by decide +kernel
theorem dX7_squaresOf_29 : decode cX7_squaresOf 29 = .ok (.ireturn, 1) := by decide +kernel
theorem dX7_isLetter_0 : decode cX7_isLetter 0 = .ok (.iload_n 0, 1) := by decide +kernel
theorem dX7_isLetter_1 : decode cX7_isLetter 1 = .ok (.iconst 0, 1) := by decide +kernel
theorem dX7_isLetter_2 : decode cX7_isLetter 2 = .ok (.bipush 7, 2) := by decide +kernel
theorem dX7_isLetter_4 : decode cX7_isLetter 4 = .ok (.invokestatic 66, 3) := by decide +kernel
theorem dX7_isLetter_7 : decode cX7_isLetter 7 = .ok (.ireturn, 1) := by decide +kernel
theorem dX7_isSheet_0 : decode cX7_isSheet 0 = .ok (.iload_n 1, 1) := by decide +kernel
theorem dX7_isSheet_1 : decode cX7_isSheet 1 = .ok (.iconst 0, 1) := by decide +kernel
theorem dX7_isSheet_2 : decode cX7_isSheet 2 = .ok (.aload_n 0, 1) := by decide +kernel
theorem dX7_isSheet_3 : decode cX7_isSheet 3 = .ok (.getfield 7, 3) := by decide +kernel
theorem dX7_isSheet_6 : decode cX7_isSheet 6 = .ok (.iconst 0, 1) := by decide +kernel
theorem dX7_isSheet_7 : decode cX7_isSheet 7 = .ok (.iaload, 1) := by decide +kernel
theorem dX7_isSheet_8 : decode cX7_isSheet 8 = .ok (.iconst 1, 1) := by decide +kernel
theorem dX7_isSheet_9 : decode cX7_isSheet 9 = .ok (.isub, 1) := by decide +kernel
theorem dX7_isSheet_10 : decode cX7_isSheet 10 = .ok (.invokestatic 66, 3) := by decide +kernel
theorem dX7_isSheet_13 : decode cX7_isSheet 13 = .ok (.ireturn, 1) := by decide +kernel
theorem dX7_isPiece_0 : decode cX7_isPiece 0 = .ok (.iload_n 1, 1) := by decide +kernel
theorem dX7_isPiece_1 : decode cX7_isPiece 1 = .ok (.iconst 0, 1) := by decide +kernel
theorem dX7_isPiece_2 : decode cX7_isPiece 2 = .ok (.aload_n 0, 1) := by decide +kernel
theorem dX7_isPiece_3 : decode cX7_isPiece 3 = .ok (.getfield 7, 3) := by decide +kernel
theorem dX7_isPiece_6 : decode cX7_isPiece 6 = .ok (.iconst 1, 1) := by decide +kernel
theorem dX7_isPiece_7 : decode cX7_isPiece 7 = .ok (.iaload, 1) := by decide +kernel
theorem dX7_isPiece_8 : decode cX7_isPiece 8 = .ok (.iconst 1, 1) := by decide +kernel
theorem dX7_isPiece_9 : decode cX7_isPiece 9 = .ok (.isub, 1) := by decide +kernel
theorem dX7_isPiece_10 : decode cX7_isPiece 10 = .ok (.invokestatic 66, 3) := by decide +kernel
theorem dX7_isPiece_13 : decode cX7_isPiece 13 = .ok (.ireturn, 1) := by decide +kernel
theorem dX7_isSpot_0 : decode cX7_isSpot 0 = .ok (.iload_n 0, 1) := by decide +kernel
theorem dX7_isSpot_1 : decode cX7_isSpot 1 = .ok (.iconst 0, 1) := by decide +kernel
theorem dX7_isSpot_2 : decode cX7_isSpot 2 = .ok (.iconst 2, 1) := by decide +kernel
theorem dX7_isSpot_3 : decode cX7_isSpot 3 = .ok (.invokestatic 66, 3) := by decide +kernel
theorem dX7_isSpot_6 : decode cX7_isSpot 6 = .ok (.ifCond .eq 17, 3) := by decide +kernel
theorem dX7_isSpot_9 : decode cX7_isSpot 9 = .ok (.iload_n 1, 1) := by decide +kernel
theorem dX7_isSpot_10 : decode cX7_isSpot 10 = .ok (.iconst 0, 1) := by decide +kernel
theorem dX7_isSpot_11 : decode cX7_isSpot 11 = .ok (.bipush 11, 2) := by decide +kernel
theorem dX7_isSpot_13 : decode cX7_isSpot 13 = .ok (.invokestatic 66, 3) := by decide +kernel
theorem dX7_isSpot_16 : decode cX7_isSpot 16 = .ok (.ifCond .eq 7, 3) := by decide +kernel
theorem dX7_isSpot_19 : decode cX7_isSpot 19 = .ok (.iconst 1, 1) := by decide +kernel
theorem dX7_isSpot_20 : decode cX7_isSpot 20 = .ok (.goto 4, 3) := by decide +kernel
theorem dX7_isSpot_23 : decode cX7_isSpot 23 = .ok (.iconst 0, 1) := by decide +kernel
theorem dX7_isSpot_24 : decode cX7_isSpot 24 = .ok (.ireturn, 1) := by decide +kernel
theorem dX7_ofOne_0 : decode cX7_ofOne 0 = .ok (.iconst 3, 1) := by decide +kernel
theorem dX7_ofOne_1 : decode cX7_ofOne 1 = .ok (.bipush 11, 2) := by decide +kernel
theorem dX7_ofOne_3 : decode cX7_ofOne 3 = .ok (.iload_n 0, 1) := by decide +kernel
theorem dX7_ofOne_4 : decode cX7_ofOne 4 = .ok (.imul, 1) := by decide +kernel
theorem dX7_ofOne_5 : decode cX7_ofOne 5 = .ok (.iadd, 1) := by decide +kernel
theorem dX7_ofOne_6 : decode cX7_ofOne 6 = .ok (.iload_n 1, 1) := by decide +kernel
theorem dX7_ofOne_7 : decode cX7_ofOne 7 = .ok (.iadd, 1) := by decide +kernel
theorem dX7_ofOne_8 : decode cX7_ofOne 8 = .ok (.ireturn, 1) := by decide +kernel
theorem dX7_at_0 : decode cX7_at 0 = .ok (.bipush 69, 2) := by decide +kernel
theorem dX7_at_2 : decode cX7_at 2 = .ok (.bipush 8, 2) := by decide +kernel
theorem dX7_at_4 : decode cX7_at 4 = .ok (.iload_n 0, 1) := by decide +kernel
theorem dX7_at_5 : decode cX7_at 5 = .ok (.imul, 1) := by decide +kernel
theorem dX7_at_6 : decode cX7_at 6 = .ok (.iadd, 1) := by decide +kernel
theorem dX7_at_7 : decode cX7_at 7 = .ok (.iload_n 1, 1) := by decide +kernel
theorem dX7_at_8 : decode cX7_at 8 = .ok (.iadd, 1) := by decide +kernel
theorem dX7_at_9 : decode cX7_at 9 = .ok (.ireturn, 1) := by decide +kernel
theorem dX7_canCut_0 : decode cX7_canCut 0 = .ok (.aload_n 0, 1) := by decide +kernel
theorem dX7_canCut_1 : decode cX7_canCut 1 = .ok (.getfield 7, 3) := by decide +kernel
theorem dX7_canCut_4 : decode cX7_canCut 4 = .ok (.iload_n 1, 1) := by decide +kernel
theorem dX7_canCut_5 : decode cX7_canCut 5 = .ok (.iconst 1, 1) := by decide +kernel
theorem dX7_canCut_6 : decode cX7_canCut 6 = .ok (.invokestatic 70, 3) := by decide +kernel
theorem dX7_canCut_9 : decode cX7_canCut 9 = .ok (.iaload, 1) := by decide +kernel
theorem dX7_canCut_10 : decode cX7_canCut 10 = .ok (.ifCond .ne 39, 3) := by decide +kernel
theorem dX7_canCut_13 : decode cX7_canCut 13 = .ok (.iload 4, 2) := by decide +kernel
theorem dX7_canCut_15 : decode cX7_canCut 15 = .ok (.iconst 0, 1) := by decide +kernel
theorem dX7_canCut_16 : decode cX7_canCut 16 = .ok (.bipush 9, 2) := by decide +kernel
theorem dX7_canCut_18 : decode cX7_canCut 18 = .ok (.iload_n 3, 1) := by decide +kernel
theorem dX7_canCut_19 : decode cX7_canCut 19 = .ok (.invokestatic 53, 3) := by decide +kernel
theorem dX7_canCut_22 : decode cX7_canCut 22 = .ok (.isub, 1) := by decide +kernel
theorem dX7_canCut_23 : decode cX7_canCut 23 = .ok (.invokestatic 66, 3) := by decide +kernel
theorem dX7_canCut_26 : decode cX7_canCut 26 = .ok (.ifCond .eq 23, 3) := by decide +kernel
theorem dX7_canCut_29 : decode cX7_canCut 29 = .ok (.iload 5, 2) := by decide +kernel
theorem dX7_canCut_31 : decode cX7_canCut 31 = .ok (.iconst 0, 1) := by decide +kernel
theorem dX7_canCut_32 : decode cX7_canCut 32 = .ok (.bipush 14, 2) := by decide +kernel
theorem dX7_canCut_34 : decode cX7_canCut 34 = .ok (.iload_n 3, 1) := by decide +kernel
theorem dX7_canCut_35 : decode cX7_canCut 35 = .ok (.invokestatic 50, 3) := by decide +kernel
theorem dX7_canCut_38 : decode cX7_canCut 38 = .ok (.isub, 1) := by decide +kernel
theorem dX7_canCut_39 : decode cX7_canCut 39 = .ok (.invokestatic 66, 3) := by decide +kernel
theorem dX7_canCut_42 : decode cX7_canCut 42 = .ok (.ifCond .eq 7, 3) := by decide +kernel
theorem dX7_canCut_45 : decode cX7_canCut 45 = .ok (.iconst 1, 1) := by decide +kernel
theorem dX7_canCut_46 : decode cX7_canCut 46 = .ok (.goto 4, 3) := by decide +kernel
theorem dX7_canCut_49 : decode cX7_canCut 49 = .ok (.iconst 0, 1) := by decide +kernel
theorem dX7_canCut_50 : decode cX7_canCut 50 = .ok (.istore 6, 2) := by decide +kernel
theorem dX7_canCut_52 : decode cX7_canCut 52 = .ok (.iconst 0, 1) := by decide +kernel
theorem dX7_canCut_53 : decode cX7_canCut 53 = .ok (.istore 7, 2) := by decide +kernel
theorem dX7_canCut_55 : decode cX7_canCut 55 = .ok (.iload 7, 2) := by decide +kernel
theorem dX7_canCut_57 : decode cX7_canCut 57 = .ok (.iload_n 3, 1) := by decide +kernel
theorem dX7_canCut_58 : decode cX7_canCut 58 = .ok (.invokestatic 53, 3) := by decide +kernel
theorem dX7_canCut_61 : decode cX7_canCut 61 = .ok (.if_icmp .ge 52, 3) := by decide +kernel
theorem dX7_canCut_64 : decode cX7_canCut 64 = .ok (.iload 6, 2) := by decide +kernel
theorem dX7_canCut_66 : decode cX7_canCut 66 = .ok (.ifCond .eq 47, 3) := by decide +kernel
theorem dX7_canCut_69 : decode cX7_canCut 69 = .ok (.aload_n 0, 1) := by decide +kernel
theorem dX7_canCut_70 : decode cX7_canCut 70 = .ok (.getfield 7, 3) := by decide +kernel
theorem dX7_canCut_73 : decode cX7_canCut 73 = .ok (.iload_n 1, 1) := by decide +kernel
theorem dX7_canCut_74 : decode cX7_canCut 74 = .ok (.iconst 2, 1) := by decide +kernel
theorem dX7_canCut_75 : decode cX7_canCut 75 = .ok (.iload 4, 2) := by decide +kernel
theorem dX7_canCut_77 : decode cX7_canCut 77 = .ok (.iadd, 1) := by decide +kernel
theorem dX7_canCut_78 : decode cX7_canCut 78 = .ok (.iload 7, 2) := by decide +kernel
theorem dX7_canCut_80 : decode cX7_canCut 80 = .ok (.iadd, 1) := by decide +kernel
theorem dX7_canCut_81 : decode cX7_canCut 81 = .ok (.invokestatic 70, 3) := by decide +kernel
theorem dX7_canCut_84 : decode cX7_canCut 84 = .ok (.iaload, 1) := by decide +kernel
theorem dX7_canCut_85 : decode cX7_canCut 85 = .ok (.iload 5, 2) := by decide +kernel
theorem dX7_canCut_87 : decode cX7_canCut 87 = .ok (.ishr, 1) := by decide +kernel
theorem dX7_canCut_88 : decode cX7_canCut 88 = .ok (.aload_n 0, 1) := by decide +kernel
theorem dX7_canCut_89 : decode cX7_canCut 89 = .ok (.iload_n 2, 1) := by decide +kernel
theorem dX7_canCut_90 : decode cX7_canCut 90 = .ok (.iload_n 3, 1) := by decide +kernel
theorem dX7_canCut_91 : decode cX7_canCut 91 = .ok (.iload 7, 2) := by decide +kernel
theorem dX7_canCut_93 : decode cX7_canCut 93 = .ok (.invokevirtual 60, 3) := by decide +kernel
theorem dX7_canCut_96 : decode cX7_canCut 96 = .ok (.iand, 1) := by decide +kernel
theorem dX7_canCut_97 : decode cX7_canCut 97 = .ok (.ifCond .ne 7, 3) := by decide +kernel
theorem dX7_canCut_100 : decode cX7_canCut 100 = .ok (.iconst 1, 1) := by decide +kernel
theorem dX7_canCut_101 : decode cX7_canCut 101 = .ok (.goto 4, 3) := by decide +kernel
theorem dX7_canCut_104 : decode cX7_canCut 104 = .ok (.iconst 0, 1) := by decide +kernel
theorem dX7_canCut_105 : decode cX7_canCut 105 = .ok (.istore 6, 2) := by decide +kernel
theorem dX7_canCut_107 : decode cX7_canCut 107 = .ok (.iinc 7 1, 3) := by decide +kernel
theorem dX7_canCut_110 : decode cX7_canCut 110 = .ok (.goto (-55), 3) := by decide +kernel
theorem dX7_canCut_113 : decode cX7_canCut 113 = .ok (.iload 6, 2) := by decide +kernel
theorem dX7_canCut_115 : decode cX7_canCut 115 = .ok (.ireturn, 1) := by decide +kernel
theorem dX7_cutsOut_0 : decode cX7_cutsOut 0 = .ok (.iconst 0, 1) := by decide +kernel
theorem dX7_cutsOut_1 : decode cX7_cutsOut 1 = .ok (.istore 6, 2) := by decide +kernel
theorem dX7_cutsOut_3 : decode cX7_cutsOut 3 = .ok (.iload 6, 2) := by decide +kernel
theorem dX7_cutsOut_5 : decode cX7_cutsOut 5 = .ok (.iload_n 3, 1) := by decide +kernel
theorem dX7_cutsOut_6 : decode cX7_cutsOut 6 = .ok (.invokestatic 53, 3) := by decide +kernel
theorem dX7_cutsOut_9 : decode cX7_cutsOut 9 = .ok (.if_icmp .ge 39, 3) := by decide +kernel
theorem dX7_cutsOut_12 : decode cX7_cutsOut 12 = .ok (.aload_n 0, 1) := by decide +kernel
theorem dX7_cutsOut_13 : decode cX7_cutsOut 13 = .ok (.getfield 7, 3) := by decide +kernel
theorem dX7_cutsOut_16 : decode cX7_cutsOut 16 = .ok (.iload_n 1, 1) := by decide +kernel
theorem dX7_cutsOut_17 : decode cX7_cutsOut 17 = .ok (.iconst 2, 1) := by decide +kernel
theorem dX7_cutsOut_18 : decode cX7_cutsOut 18 = .ok (.iload 4, 2) := by decide +kernel
theorem dX7_cutsOut_20 : decode cX7_cutsOut 20 = .ok (.iadd, 1) := by decide +kernel
theorem dX7_cutsOut_21 : decode cX7_cutsOut 21 = .ok (.iload 6, 2) := by decide +kernel
theorem dX7_cutsOut_23 : decode cX7_cutsOut 23 = .ok (.iadd, 1) := by decide +kernel
theorem dX7_cutsOut_24 : decode cX7_cutsOut 24 = .ok (.invokestatic 70, 3) := by decide +kernel
theorem dX7_cutsOut_27 : decode cX7_cutsOut 27 = .ok (.dup2, 1) := by decide +kernel
theorem dX7_cutsOut_28 : decode cX7_cutsOut 28 = .ok (.iaload, 1) := by decide +kernel
theorem dX7_cutsOut_29 : decode cX7_cutsOut 29 = .ok (.aload_n 0, 1) := by decide +kernel
theorem dX7_cutsOut_30 : decode cX7_cutsOut 30 = .ok (.iload_n 2, 1) := by decide +kernel
theorem dX7_cutsOut_31 : decode cX7_cutsOut 31 = .ok (.iload_n 3, 1) := by decide +kernel
theorem dX7_cutsOut_32 : decode cX7_cutsOut 32 = .ok (.iload 6, 2) := by decide +kernel
theorem dX7_cutsOut_34 : decode cX7_cutsOut 34 = .ok (.invokevirtual 60, 3) := by decide +kernel
theorem dX7_cutsOut_37 : decode cX7_cutsOut 37 = .ok (.iload 5, 2) := by decide +kernel
theorem dX7_cutsOut_39 : decode cX7_cutsOut 39 = .ok (.ishl, 1) := by decide +kernel
theorem dX7_cutsOut_40 : decode cX7_cutsOut 40 = .ok (.ior, 1) := by decide +kernel
theorem dX7_cutsOut_41 : decode cX7_cutsOut 41 = .ok (.iastore, 1) := by decide +kernel
theorem dX7_cutsOut_42 : decode cX7_cutsOut 42 = .ok (.iinc 6 1, 3) := by decide +kernel
theorem dX7_cutsOut_45 : decode cX7_cutsOut 45 = .ok (.goto (-42), 3) := by decide +kernel
theorem dX7_cutsOut_48 : decode cX7_cutsOut 48 = .ok (.return_, 1) := by decide +kernel
theorem dX7_findsFit_0 : decode cX7_findsFit 0 = .ok (.iconst 0, 1) := by decide +kernel
theorem dX7_findsFit_1 : decode cX7_findsFit 1 = .ok (.istore 4, 2) := by decide +kernel
theorem dX7_findsFit_3 : decode cX7_findsFit 3 = .ok (.iconst 0, 1) := by decide +kernel
theorem dX7_findsFit_4 : decode cX7_findsFit 4 = .ok (.istore 5, 2) := by decide +kernel
theorem dX7_findsFit_6 : decode cX7_findsFit 6 = .ok (.iload 5, 2) := by decide +kernel
theorem dX7_findsFit_8 : decode cX7_findsFit 8 = .ok (.sipush 504, 3) := by decide +kernel
theorem dX7_findsFit_11 : decode cX7_findsFit 11 = .ok (.if_icmp .ge 80, 3) := by decide +kernel
theorem dX7_findsFit_14 : decode cX7_findsFit 14 = .ok (.iload 4, 2) := by decide +kernel
theorem dX7_findsFit_16 : decode cX7_findsFit 16 = .ok (.ifCond .ne 75, 3) := by decide +kernel
theorem dX7_findsFit_19 : decode cX7_findsFit 19 = .ok (.iload 5, 2) := by decide +kernel
theorem dX7_findsFit_21 : decode cX7_findsFit 21 = .ok (.iconst 4, 1) := by decide +kernel
theorem dX7_findsFit_22 : decode cX7_findsFit 22 = .ok (.idiv, 1) := by decide +kernel
theorem dX7_findsFit_23 : decode cX7_findsFit 23 = .ok (.istore 6, 2) := by decide +kernel
theorem dX7_findsFit_25 : decode cX7_findsFit 25 = .ok (.iconst 4, 1) := by decide +kernel
theorem dX7_findsFit_26 : decode cX7_findsFit 26 = .ok (.iload_n 3, 1) := by decide +kernel
theorem dX7_findsFit_27 : decode cX7_findsFit 27 = .ok (.imul, 1) := by decide +kernel
theorem dX7_findsFit_28 : decode cX7_findsFit 28 = .ok (.iload 5, 2) := by decide +kernel
theorem dX7_findsFit_30 : decode cX7_findsFit 30 = .ok (.iconst 4, 1) := by decide +kernel
theorem dX7_findsFit_31 : decode cX7_findsFit 31 = .ok (.irem, 1) := by decide +kernel
theorem dX7_findsFit_32 : decode cX7_findsFit 32 = .ok (.iadd, 1) := by decide +kernel
theorem dX7_findsFit_33 : decode cX7_findsFit 33 = .ok (.istore 7, 2) := by decide +kernel
theorem dX7_findsFit_35 : decode cX7_findsFit 35 = .ok (.aload_n 0, 1) := by decide +kernel
theorem dX7_findsFit_36 : decode cX7_findsFit 36 = .ok (.iload_n 1, 1) := by decide +kernel
theorem dX7_findsFit_37 : decode cX7_findsFit 37 = .ok (.iload_n 2, 1) := by decide +kernel
theorem dX7_findsFit_38 : decode cX7_findsFit 38 = .ok (.iload 7, 2) := by decide +kernel
theorem dX7_findsFit_40 : decode cX7_findsFit 40 = .ok (.iload 6, 2) := by decide +kernel
theorem dX7_findsFit_42 : decode cX7_findsFit 42 = .ok (.bipush 14, 2) := by decide +kernel
theorem dX7_findsFit_44 : decode cX7_findsFit 44 = .ok (.idiv, 1) := by decide +kernel
theorem dX7_findsFit_45 : decode cX7_findsFit 45 = .ok (.iload 6, 2) := by decide +kernel
theorem dX7_findsFit_47 : decode cX7_findsFit 47 = .ok (.bipush 14, 2) := by decide +kernel
theorem dX7_findsFit_49 : decode cX7_findsFit 49 = .ok (.irem, 1) := by decide +kernel
theorem dX7_findsFit_50 : decode cX7_findsFit 50 = .ok (.invokevirtual 74, 3) := by decide +kernel
theorem dX7_findsFit_53 : decode cX7_findsFit 53 = .ok (.istore 4, 2) := by decide +kernel
theorem dX7_findsFit_55 : decode cX7_findsFit 55 = .ok (.aload_n 0, 1) := by decide +kernel
theorem dX7_findsFit_56 : decode cX7_findsFit 56 = .ok (.getfield 32, 3) := by decide +kernel
theorem dX7_findsFit_59 : decode cX7_findsFit 59 = .ok (.iconst 0, 1) := by decide +kernel
theorem dX7_findsFit_60 : decode cX7_findsFit 60 = .ok (.iload 7, 2) := by decide +kernel
theorem dX7_findsFit_62 : decode cX7_findsFit 62 = .ok (.iastore, 1) := by decide +kernel
theorem dX7_findsFit_63 : decode cX7_findsFit 63 = .ok (.aload_n 0, 1) := by decide +kernel
theorem dX7_findsFit_64 : decode cX7_findsFit 64 = .ok (.getfield 32, 3) := by decide +kernel
theorem dX7_findsFit_67 : decode cX7_findsFit 67 = .ok (.iconst 1, 1) := by decide +kernel
theorem dX7_findsFit_68 : decode cX7_findsFit 68 = .ok (.iload 6, 2) := by decide +kernel
theorem dX7_findsFit_70 : decode cX7_findsFit 70 = .ok (.bipush 14, 2) := by decide +kernel
theorem dX7_findsFit_72 : decode cX7_findsFit 72 = .ok (.idiv, 1) := by decide +kernel
theorem dX7_findsFit_73 : decode cX7_findsFit 73 = .ok (.iastore, 1) := by decide +kernel
theorem dX7_findsFit_74 : decode cX7_findsFit 74 = .ok (.aload_n 0, 1) := by decide +kernel
theorem dX7_findsFit_75 : decode cX7_findsFit 75 = .ok (.getfield 32, 3) := by decide +kernel
theorem dX7_findsFit_78 : decode cX7_findsFit 78 = .ok (.iconst 2, 1) := by decide +kernel
theorem dX7_findsFit_79 : decode cX7_findsFit 79 = .ok (.iload 6, 2) := by decide +kernel
theorem dX7_findsFit_81 : decode cX7_findsFit 81 = .ok (.bipush 14, 2) := by decide +kernel
theorem dX7_findsFit_83 : decode cX7_findsFit 83 = .ok (.irem, 1) := by decide +kernel
theorem dX7_findsFit_84 : decode cX7_findsFit 84 = .ok (.iastore, 1) := by decide +kernel
theorem dX7_findsFit_85 : decode cX7_findsFit 85 = .ok (.iinc 5 1, 3) := by decide +kernel
theorem dX7_findsFit_88 : decode cX7_findsFit 88 = .ok (.goto (-82), 3) := by decide +kernel
theorem dX7_findsFit_91 : decode cX7_findsFit 91 = .ok (.iload 4, 2) := by decide +kernel
theorem dX7_findsFit_93 : decode cX7_findsFit 93 = .ok (.ireturn, 1) := by decide +kernel
theorem dX7_sheetFor_0 : decode cX7_sheetFor 0 = .ok (.iconst 0, 1) := by decide +kernel
theorem dX7_sheetFor_1 : decode cX7_sheetFor 1 = .ok (.istore 4, 2) := by decide +kernel
theorem dX7_sheetFor_3 : decode cX7_sheetFor 3 = .ok (.iload 4, 2) := by decide +kernel
theorem dX7_sheetFor_5 : decode cX7_sheetFor 5 = .ok (.aload_n 0, 1) := by decide +kernel
theorem dX7_sheetFor_6 : decode cX7_sheetFor 6 = .ok (.getfield 7, 3) := by decide +kernel
theorem dX7_sheetFor_9 : decode cX7_sheetFor 9 = .ok (.iconst 0, 1) := by decide +kernel
theorem dX7_sheetFor_10 : decode cX7_sheetFor 10 = .ok (.iaload, 1) := by decide +kernel
theorem dX7_sheetFor_11 : decode cX7_sheetFor 11 = .ok (.if_icmp .ge 38, 3) := by decide +kernel
theorem dX7_sheetFor_14 : decode cX7_sheetFor 14 = .ok (.aload_n 0, 1) := by decide +kernel
theorem dX7_sheetFor_15 : decode cX7_sheetFor 15 = .ok (.getfield 7, 3) := by decide +kernel
theorem dX7_sheetFor_18 : decode cX7_sheetFor 18 = .ok (.iload 4, 2) := by decide +kernel
theorem dX7_sheetFor_20 : decode cX7_sheetFor 20 = .ok (.iconst 0, 1) := by decide +kernel
theorem dX7_sheetFor_21 : decode cX7_sheetFor 21 = .ok (.invokestatic 70, 3) := by decide +kernel
theorem dX7_sheetFor_24 : decode cX7_sheetFor 24 = .ok (.iaload, 1) := by decide +kernel
theorem dX7_sheetFor_25 : decode cX7_sheetFor 25 = .ok (.iload_n 1, 1) := by decide +kernel
theorem dX7_sheetFor_26 : decode cX7_sheetFor 26 = .ok (.if_icmp .ne 17, 3) := by decide +kernel
theorem dX7_sheetFor_29 : decode cX7_sheetFor 29 = .ok (.aload_n 0, 1) := by decide +kernel
theorem dX7_sheetFor_30 : decode cX7_sheetFor 30 = .ok (.iload 4, 2) := by decide +kernel
theorem dX7_sheetFor_32 : decode cX7_sheetFor 32 = .ok (.iload_n 2, 1) := by decide +kernel
theorem dX7_sheetFor_33 : decode cX7_sheetFor 33 = .ok (.iload_n 3, 1) := by decide +kernel
theorem dX7_sheetFor_34 : decode cX7_sheetFor 34 = .ok (.invokevirtual 78, 3) := by decide +kernel
theorem dX7_sheetFor_37 : decode cX7_sheetFor 37 = .ok (.ifCond .eq 6, 3) := by decide +kernel
theorem dX7_sheetFor_40 : decode cX7_sheetFor 40 = .ok (.iload 4, 2) := by decide +kernel
theorem dX7_sheetFor_42 : decode cX7_sheetFor 42 = .ok (.ireturn, 1) := by decide +kernel
theorem dX7_sheetFor_43 : decode cX7_sheetFor 43 = .ok (.iinc 4 1, 3) := by decide +kernel
theorem dX7_sheetFor_46 : decode cX7_sheetFor 46 = .ok (.goto (-43), 3) := by decide +kernel
theorem dX7_sheetFor_49 : decode cX7_sheetFor 49 = .ok (.bipush (-6), 2) := by decide +kernel
theorem dX7_sheetFor_51 : decode cX7_sheetFor 51 = .ok (.ireturn, 1) := by decide +kernel
theorem dX7_uncut_0 : decode cX7_uncut 0 = .ok (.bipush 126, 2) := by decide +kernel
theorem dX7_uncut_2 : decode cX7_uncut 2 = .ok (.istore_n 2, 1) := by decide +kernel
theorem dX7_uncut_3 : decode cX7_uncut 3 = .ok (.iconst 0, 1) := by decide +kernel
theorem dX7_uncut_4 : decode cX7_uncut 4 = .ok (.istore_n 3, 1) := by decide +kernel
theorem dX7_uncut_5 : decode cX7_uncut 5 = .ok (.iload_n 3, 1) := by decide +kernel
theorem dX7_uncut_6 : decode cX7_uncut 6 = .ok (.bipush 9, 2) := by decide +kernel
theorem dX7_uncut_8 : decode cX7_uncut 8 = .ok (.if_icmp .ge 27, 3) := by decide +kernel
theorem dX7_uncut_11 : decode cX7_uncut 11 = .ok (.iload_n 2, 1) := by decide +kernel
theorem dX7_uncut_12 : decode cX7_uncut 12 = .ok (.aload_n 0, 1) := by decide +kernel
theorem dX7_uncut_13 : decode cX7_uncut 13 = .ok (.getfield 7, 3) := by decide +kernel
theorem dX7_uncut_16 : decode cX7_uncut 16 = .ok (.iload_n 1, 1) := by decide +kernel
theorem dX7_uncut_17 : decode cX7_uncut 17 = .ok (.iconst 2, 1) := by decide +kernel
theorem dX7_uncut_18 : decode cX7_uncut 18 = .ok (.iload_n 3, 1) := by decide +kernel
theorem dX7_uncut_19 : decode cX7_uncut 19 = .ok (.iadd, 1) := by decide +kernel
theorem dX7_uncut_20 : decode cX7_uncut 20 = .ok (.invokestatic 70, 3) := by decide +kernel
theorem dX7_uncut_23 : decode cX7_uncut 23 = .ok (.iaload, 1) := by decide +kernel
theorem dX7_uncut_24 : decode cX7_uncut 24 = .ok (.invokestatic 63, 3) := by decide +kernel
theorem dX7_uncut_27 : decode cX7_uncut 27 = .ok (.isub, 1) := by decide +kernel
theorem dX7_uncut_28 : decode cX7_uncut 28 = .ok (.istore_n 2, 1) := by decide +kernel
theorem dX7_uncut_29 : decode cX7_uncut 29 = .ok (.iinc 3 1, 3) := by decide +kernel
theorem dX7_uncut_32 : decode cX7_uncut 32 = .ok (.goto (-27), 3) := by decide +kernel
theorem dX7_uncut_35 : decode cX7_uncut 35 = .ok (.iload_n 2, 1) := by decide +kernel
theorem dX7_uncut_36 : decode cX7_uncut 36 = .ok (.ireturn, 1) := by decide +kernel
theorem dX7_newPiece_0 : decode cX7_newPiece 0 = .ok (.aload_n 0, 1) := by decide +kernel
theorem dX7_newPiece_1 : decode cX7_newPiece 1 = .ok (.getfield 7, 3) := by decide +kernel
theorem dX7_newPiece_4 : decode cX7_newPiece 4 = .ok (.iconst 1, 1) := by decide +kernel
theorem dX7_newPiece_5 : decode cX7_newPiece 5 = .ok (.iaload, 1) := by decide +kernel
theorem dX7_newPiece_6 : decode cX7_newPiece 6 = .ok (.istore 6, 2) := by decide +kernel
theorem dX7_newPiece_8 : decode cX7_newPiece 8 = .ok (.aload_n 0, 1) := by decide +kernel
theorem dX7_newPiece_9 : decode cX7_newPiece 9 = .ok (.getfield 7, 3) := by decide +kernel
theorem dX7_newPiece_12 : decode cX7_newPiece 12 = .ok (.iconst 1, 1) := by decide +kernel
theorem dX7_newPiece_13 : decode cX7_newPiece 13 = .ok (.dup2, 1) := by decide +kernel
theorem dX7_newPiece_14 : decode cX7_newPiece 14 = .ok (.iaload, 1) := by decide +kernel
theorem dX7_newPiece_15 : decode cX7_newPiece 15 = .ok (.iconst 1, 1) := by decide +kernel
theorem dX7_newPiece_16 : decode cX7_newPiece 16 = .ok (.iadd, 1) := by decide +kernel
theorem dX7_newPiece_17 : decode cX7_newPiece 17 = .ok (.iastore, 1) := by decide +kernel
theorem dX7_newPiece_18 : decode cX7_newPiece 18 = .ok (.aload_n 0, 1) := by decide +kernel
theorem dX7_newPiece_19 : decode cX7_newPiece 19 = .ok (.iload_n 1, 1) := by decide +kernel
theorem dX7_newPiece_20 : decode cX7_newPiece 20 = .ok (.iload_n 2, 1) := by decide +kernel
theorem dX7_newPiece_21 : decode cX7_newPiece 21 = .ok (.iload_n 3, 1) := by decide +kernel
theorem dX7_newPiece_22 : decode cX7_newPiece 22 = .ok (.iload 4, 2) := by decide +kernel
theorem dX7_newPiece_24 : decode cX7_newPiece 24 = .ok (.iload 5, 2) := by decide +kernel
theorem dX7_newPiece_26 : decode cX7_newPiece 26 = .ok (.invokevirtual 81, 3) := by decide +kernel
theorem dX7_newPiece_29 : decode cX7_newPiece 29 = .ok (.aload_n 0, 1) := by decide +kernel
theorem dX7_newPiece_30 : decode cX7_newPiece 30 = .ok (.getfield 7, 3) := by decide +kernel
theorem dX7_newPiece_33 : decode cX7_newPiece 33 = .ok (.iload 6, 2) := by decide +kernel
theorem dX7_newPiece_35 : decode cX7_newPiece 35 = .ok (.iconst 0, 1) := by decide +kernel
theorem dX7_newPiece_36 : decode cX7_newPiece 36 = .ok (.invokestatic 85, 3) := by decide +kernel
theorem dX7_newPiece_39 : decode cX7_newPiece 39 = .ok (.iload_n 2, 1) := by decide +kernel
theorem dX7_newPiece_40 : decode cX7_newPiece 40 = .ok (.iastore, 1) := by decide +kernel
theorem dX7_newPiece_41 : decode cX7_newPiece 41 = .ok (.aload_n 0, 1) := by decide +kernel
theorem dX7_newPiece_42 : decode cX7_newPiece 42 = .ok (.getfield 7, 3) := by decide +kernel
theorem dX7_newPiece_45 : decode cX7_newPiece 45 = .ok (.iload 6, 2) := by decide +kernel
theorem dX7_newPiece_47 : decode cX7_newPiece 47 = .ok (.iconst 1, 1) := by decide +kernel
theorem dX7_newPiece_48 : decode cX7_newPiece 48 = .ok (.invokestatic 85, 3) := by decide +kernel
theorem dX7_newPiece_51 : decode cX7_newPiece 51 = .ok (.aload_n 0, 1) := by decide +kernel
theorem dX7_newPiece_52 : decode cX7_newPiece 52 = .ok (.getfield 7, 3) := by decide +kernel
theorem dX7_newPiece_55 : decode cX7_newPiece 55 = .ok (.iload_n 1, 1) := by decide +kernel
theorem dX7_newPiece_56 : decode cX7_newPiece 56 = .ok (.iconst 0, 1) := by decide +kernel
theorem dX7_newPiece_57 : decode cX7_newPiece 57 = .ok (.invokestatic 70, 3) := by decide +kernel
theorem dX7_newPiece_60 : decode cX7_newPiece 60 = .ok (.iaload, 1) := by decide +kernel
theorem dX7_newPiece_61 : decode cX7_newPiece 61 = .ok (.iastore, 1) := by decide +kernel
theorem dX7_newPiece_62 : decode cX7_newPiece 62 = .ok (.aload_n 0, 1) := by decide +kernel
theorem dX7_newPiece_63 : decode cX7_newPiece 63 = .ok (.getfield 7, 3) := by decide +kernel
theorem dX7_newPiece_66 : decode cX7_newPiece 66 = .ok (.iload 6, 2) := by decide +kernel
theorem dX7_newPiece_68 : decode cX7_newPiece 68 = .ok (.iconst 2, 1) := by decide +kernel
theorem dX7_newPiece_69 : decode cX7_newPiece 69 = .ok (.invokestatic 85, 3) := by decide +kernel
theorem dX7_newPiece_72 : decode cX7_newPiece 72 = .ok (.iload_n 3, 1) := by decide +kernel
theorem dX7_newPiece_73 : decode cX7_newPiece 73 = .ok (.iconst 4, 1) := by decide +kernel
theorem dX7_newPiece_74 : decode cX7_newPiece 74 = .ok (.idiv, 1) := by decide +kernel
theorem dX7_newPiece_75 : decode cX7_newPiece 75 = .ok (.iastore, 1) := by decide +kernel
theorem dX7_newPiece_76 : decode cX7_newPiece 76 = .ok (.aload_n 0, 1) := by decide +kernel
theorem dX7_newPiece_77 : decode cX7_newPiece 77 = .ok (.getfield 7, 3) := by decide +kernel
theorem dX7_newPiece_80 : decode cX7_newPiece 80 = .ok (.iload 6, 2) := by decide +kernel
theorem dX7_newPiece_82 : decode cX7_newPiece 82 = .ok (.iconst 3, 1) := by decide +kernel
theorem dX7_newPiece_83 : decode cX7_newPiece 83 = .ok (.invokestatic 85, 3) := by decide +kernel
theorem dX7_newPiece_86 : decode cX7_newPiece 86 = .ok (.iconst 0, 1) := by decide +kernel
theorem dX7_newPiece_87 : decode cX7_newPiece 87 = .ok (.iastore, 1) := by decide +kernel
theorem dX7_newPiece_88 : decode cX7_newPiece 88 = .ok (.aload_n 0, 1) := by decide +kernel
theorem dX7_newPiece_89 : decode cX7_newPiece 89 = .ok (.getfield 7, 3) := by decide +kernel
theorem dX7_newPiece_92 : decode cX7_newPiece 92 = .ok (.iload 6, 2) := by decide +kernel
theorem dX7_newPiece_94 : decode cX7_newPiece 94 = .ok (.iconst 4, 1) := by decide +kernel
theorem dX7_newPiece_95 : decode cX7_newPiece 95 = .ok (.invokestatic 85, 3) := by decide +kernel
theorem dX7_newPiece_98 : decode cX7_newPiece 98 = .ok (.bipush (-6), 2) := by decide +kernel
theorem dX7_newPiece_100 : decode cX7_newPiece 100 = .ok (.iastore, 1) := by decide +kernel
theorem dX7_newPiece_101 : decode cX7_newPiece 101 = .ok (.aload_n 0, 1) := by decide +kernel
theorem dX7_newPiece_102 : decode cX7_newPiece 102 = .ok (.getfield 7, 3) := by decide +kernel
theorem dX7_newPiece_105 : decode cX7_newPiece 105 = .ok (.iload 6, 2) := by decide +kernel
theorem dX7_newPiece_107 : decode cX7_newPiece 107 = .ok (.iconst 5, 1) := by decide +kernel
theorem dX7_newPiece_108 : decode cX7_newPiece 108 = .ok (.invokestatic 85, 3) := by decide +kernel
theorem dX7_newPiece_111 : decode cX7_newPiece 111 = .ok (.iload_n 1, 1) := by decide +kernel
theorem dX7_newPiece_112 : decode cX7_newPiece 112 = .ok (.iastore, 1) := by decide +kernel
theorem dX7_newPiece_113 : decode cX7_newPiece 113 = .ok (.aload_n 0, 1) := by decide +kernel
theorem dX7_newPiece_114 : decode cX7_newPiece 114 = .ok (.getfield 7, 3) := by decide +kernel
theorem dX7_newPiece_117 : decode cX7_newPiece 117 = .ok (.iload 6, 2) := by decide +kernel
theorem dX7_newPiece_119 : decode cX7_newPiece 119 = .ok (.bipush 6, 2) := by decide +kernel
theorem dX7_newPiece_121 : decode cX7_newPiece 121 = .ok (.invokestatic 85, 3) := by decide +kernel
theorem dX7_newPiece_124 : decode cX7_newPiece 124 = .ok (.bipush 14, 2) := by decide +kernel
theorem dX7_newPiece_126 : decode cX7_newPiece 126 = .ok (.iload 4, 2) := by decide +kernel
theorem dX7_newPiece_128 : decode cX7_newPiece 128 = .ok (.imul, 1) := by decide +kernel
theorem dX7_newPiece_129 : decode cX7_newPiece 129 = .ok (.iload 5, 2) := by decide +kernel
theorem dX7_newPiece_131 : decode cX7_newPiece 131 = .ok (.iadd, 1) := by decide +kernel
theorem dX7_newPiece_132 : decode cX7_newPiece 132 = .ok (.iastore, 1) := by decide +kernel
theorem dX7_newPiece_133 : decode cX7_newPiece 133 = .ok (.aload_n 0, 1) := by decide +kernel
theorem dX7_newPiece_134 : decode cX7_newPiece 134 = .ok (.getfield 7, 3) := by decide +kernel
theorem dX7_newPiece_137 : decode cX7_newPiece 137 = .ok (.iload 6, 2) := by decide +kernel
theorem dX7_newPiece_139 : decode cX7_newPiece 139 = .ok (.bipush 7, 2) := by decide +kernel
theorem dX7_newPiece_141 : decode cX7_newPiece 141 = .ok (.invokestatic 85, 3) := by decide +kernel
theorem dX7_newPiece_144 : decode cX7_newPiece 144 = .ok (.iload_n 3, 1) := by decide +kernel
theorem dX7_newPiece_145 : decode cX7_newPiece 145 = .ok (.iastore, 1) := by decide +kernel
theorem dX7_newPiece_146 : decode cX7_newPiece 146 = .ok (.iload 6, 2) := by decide +kernel
theorem dX7_newPiece_148 : decode cX7_newPiece 148 = .ok (.ireturn, 1) := by decide +kernel
theorem dX7_looseOne_0 : decode cX7_looseOne 0 = .ok (.bipush (-6), 2) := by decide +kernel
theorem dX7_looseOne_2 : decode cX7_looseOne 2 = .ok (.istore 4, 2) := by decide +kernel
theorem dX7_looseOne_4 : decode cX7_looseOne 4 = .ok (.aload_n 0, 1) := by decide +kernel
theorem dX7_looseOne_5 : decode cX7_looseOne 5 = .ok (.getfield 7, 3) := by decide +kernel
theorem dX7_looseOne_8 : decode cX7_looseOne 8 = .ok (.iconst 1, 1) := by decide +kernel
theorem dX7_looseOne_9 : decode cX7_looseOne 9 = .ok (.iaload, 1) := by decide +kernel
theorem dX7_looseOne_10 : decode cX7_looseOne 10 = .ok (.iconst 1, 1) := by decide +kernel
theorem dX7_looseOne_11 : decode cX7_looseOne 11 = .ok (.isub, 1) := by decide +kernel
theorem dX7_looseOne_12 : decode cX7_looseOne 12 = .ok (.istore 5, 2) := by decide +kernel
theorem dX7_looseOne_14 : decode cX7_looseOne 14 = .ok (.iload 5, 2) := by decide +kernel
theorem dX7_looseOne_16 : decode cX7_looseOne 16 = .ok (.ifCond .lt 89, 3) := by decide +kernel
theorem dX7_looseOne_19 : decode cX7_looseOne 19 = .ok (.aload_n 0, 1) := by decide +kernel
theorem dX7_looseOne_20 : decode cX7_looseOne 20 = .ok (.getfield 7, 3) := by decide +kernel
theorem dX7_looseOne_23 : decode cX7_looseOne 23 = .ok (.iload 5, 2) := by decide +kernel
theorem dX7_looseOne_25 : decode cX7_looseOne 25 = .ok (.iconst 0, 1) := by decide +kernel
theorem dX7_looseOne_26 : decode cX7_looseOne 26 = .ok (.invokestatic 85, 3) := by decide +kernel
theorem dX7_looseOne_29 : decode cX7_looseOne 29 = .ok (.iaload, 1) := by decide +kernel
theorem dX7_looseOne_30 : decode cX7_looseOne 30 = .ok (.iload_n 2, 1) := by decide +kernel
theorem dX7_looseOne_31 : decode cX7_looseOne 31 = .ok (.if_icmp .ne 37, 3) := by decide +kernel
theorem dX7_looseOne_34 : decode cX7_looseOne 34 = .ok (.aload_n 0, 1) := by decide +kernel
theorem dX7_looseOne_35 : decode cX7_looseOne 35 = .ok (.getfield 7, 3) := by decide +kernel
theorem dX7_looseOne_38 : decode cX7_looseOne 38 = .ok (.iload 5, 2) := by decide +kernel
theorem dX7_looseOne_40 : decode cX7_looseOne 40 = .ok (.iconst 1, 1) := by decide +kernel
theorem dX7_looseOne_41 : decode cX7_looseOne 41 = .ok (.invokestatic 85, 3) := by decide +kernel
theorem dX7_looseOne_44 : decode cX7_looseOne 44 = .ok (.iaload, 1) := by decide +kernel
theorem dX7_looseOne_45 : decode cX7_looseOne 45 = .ok (.iload_n 1, 1) := by decide +kernel
theorem dX7_looseOne_46 : decode cX7_looseOne 46 = .ok (.if_icmp .ne 22, 3) := by decide +kernel
theorem dX7_looseOne_49 : decode cX7_looseOne 49 = .ok (.aload_n 0, 1) := by decide +kernel
theorem dX7_looseOne_50 : decode cX7_looseOne 50 = .ok (.getfield 7, 3) := by decide +kernel
theorem dX7_looseOne_53 : decode cX7_looseOne 53 = .ok (.iload 5, 2) := by decide +kernel
theorem dX7_looseOne_55 : decode cX7_looseOne 55 = .ok (.iconst 2, 1) := by decide +kernel
theorem dX7_looseOne_56 : decode cX7_looseOne 56 = .ok (.invokestatic 85, 3) := by decide +kernel
theorem dX7_looseOne_59 : decode cX7_looseOne 59 = .ok (.iaload, 1) := by decide +kernel
theorem dX7_looseOne_60 : decode cX7_looseOne 60 = .ok (.iload_n 3, 1) := by decide +kernel
theorem dX7_looseOne_61 : decode cX7_looseOne 61 = .ok (.if_icmp .ne 7, 3) := by decide +kernel
theorem dX7_looseOne_64 : decode cX7_looseOne 64 = .ok (.iconst 1, 1) := by decide +kernel
theorem dX7_looseOne_65 : decode cX7_looseOne 65 = .ok (.goto 4, 3) := by decide +kernel
theorem dX7_looseOne_68 : decode cX7_looseOne 68 = .ok (.iconst 0, 1) := by decide +kernel
theorem dX7_looseOne_69 : decode cX7_looseOne 69 = .ok (.istore 6, 2) := by decide +kernel
theorem dX7_looseOne_71 : decode cX7_looseOne 71 = .ok (.iload 6, 2) := by decide +kernel
theorem dX7_looseOne_73 : decode cX7_looseOne 73 = .ok (.ifCond .eq 22, 3) := by decide +kernel
theorem dX7_looseOne_76 : decode cX7_looseOne 76 = .ok (.aload_n 0, 1) := by decide +kernel
theorem dX7_looseOne_77 : decode cX7_looseOne 77 = .ok (.getfield 7, 3) := by decide +kernel
theorem dX7_looseOne_80 : decode cX7_looseOne 80 = .ok (.iload 5, 2) := by decide +kernel
theorem dX7_looseOne_82 : decode cX7_looseOne 82 = .ok (.iconst 3, 1) := by decide +kernel
theorem dX7_looseOne_83 : decode cX7_looseOne 83 = .ok (.invokestatic 85, 3) := by decide +kernel
theorem dX7_looseOne_86 : decode cX7_looseOne 86 = .ok (.iaload, 1) := by decide +kernel
theorem dX7_looseOne_87 : decode cX7_looseOne 87 = .ok (.ifCond .ne 8, 3) := by decide +kernel
theorem dX7_looseOne_90 : decode cX7_looseOne 90 = .ok (.iload 5, 2) := by decide +kernel
theorem dX7_looseOne_92 : decode cX7_looseOne 92 = .ok (.goto 5, 3) := by decide +kernel
theorem dX7_looseOne_95 : decode cX7_looseOne 95 = .ok (.iload 4, 2) := by decide +kernel
theorem dX7_looseOne_97 : decode cX7_looseOne 97 = .ok (.istore 4, 2) := by decide +kernel
theorem dX7_looseOne_99 : decode cX7_looseOne 99 = .ok (.iinc 5 (-1), 3) := by decide +kernel
theorem dX7_looseOne_102 : decode cX7_looseOne 102 = .ok (.goto (-88), 3) := by decide +kernel
theorem dX7_looseOne_105 : decode cX7_looseOne 105 = .ok (.iload 4, 2) := by decide +kernel
theorem dX7_looseOne_107 : decode cX7_looseOne 107 = .ok (.ireturn, 1) := by decide +kernel
theorem dX7_pieceAt_0 : decode cX7_pieceAt 0 = .ok (.bipush (-6), 2) := by decide +kernel
theorem dX7_pieceAt_2 : decode cX7_pieceAt 2 = .ok (.istore_n 3, 1) := by decide +kernel
theorem dX7_pieceAt_3 : decode cX7_pieceAt 3 = .ok (.iconst 0, 1) := by decide +kernel
theorem dX7_pieceAt_4 : decode cX7_pieceAt 4 = .ok (.istore 4, 2) := by decide +kernel
theorem dX7_pieceAt_6 : decode cX7_pieceAt 6 = .ok (.iload 4, 2) := by decide +kernel
theorem dX7_pieceAt_8 : decode cX7_pieceAt 8 = .ok (.aload_n 0, 1) := by decide +kernel
theorem dX7_pieceAt_9 : decode cX7_pieceAt 9 = .ok (.getfield 7, 3) := by decide +kernel
theorem dX7_pieceAt_12 : decode cX7_pieceAt 12 = .ok (.iconst 1, 1) := by decide +kernel
theorem dX7_pieceAt_13 : decode cX7_pieceAt 13 = .ok (.iaload, 1) := by decide +kernel
theorem dX7_pieceAt_14 : decode cX7_pieceAt 14 = .ok (.if_icmp .ge 36, 3) := by decide +kernel
theorem dX7_pieceAt_17 : decode cX7_pieceAt 17 = .ok (.aload_n 0, 1) := by decide +kernel
theorem dX7_pieceAt_18 : decode cX7_pieceAt 18 = .ok (.getfield 7, 3) := by decide +kernel
theorem dX7_pieceAt_21 : decode cX7_pieceAt 21 = .ok (.iload 4, 2) := by decide +kernel
theorem dX7_pieceAt_23 : decode cX7_pieceAt 23 = .ok (.iconst 4, 1) := by decide +kernel
theorem dX7_pieceAt_24 : decode cX7_pieceAt 24 = .ok (.invokestatic 85, 3) := by decide +kernel
theorem dX7_pieceAt_27 : decode cX7_pieceAt 27 = .ok (.iaload, 1) := by decide +kernel
theorem dX7_pieceAt_28 : decode cX7_pieceAt 28 = .ok (.bipush 12, 2) := by decide +kernel
theorem dX7_pieceAt_30 : decode cX7_pieceAt 30 = .ok (.iload_n 1, 1) := by decide +kernel
theorem dX7_pieceAt_31 : decode cX7_pieceAt 31 = .ok (.imul, 1) := by decide +kernel
theorem dX7_pieceAt_32 : decode cX7_pieceAt 32 = .ok (.iload_n 2, 1) := by decide +kernel
theorem dX7_pieceAt_33 : decode cX7_pieceAt 33 = .ok (.iadd, 1) := by decide +kernel
theorem dX7_pieceAt_34 : decode cX7_pieceAt 34 = .ok (.if_icmp .ne 8, 3) := by decide +kernel
theorem dX7_pieceAt_37 : decode cX7_pieceAt 37 = .ok (.iload 4, 2) := by decide +kernel
theorem dX7_pieceAt_39 : decode cX7_pieceAt 39 = .ok (.goto 4, 3) := by decide +kernel
theorem dX7_pieceAt_42 : decode cX7_pieceAt 42 = .ok (.iload_n 3, 1) := by decide +kernel
theorem dX7_pieceAt_43 : decode cX7_pieceAt 43 = .ok (.istore_n 3, 1) := by decide +kernel
theorem dX7_pieceAt_44 : decode cX7_pieceAt 44 = .ok (.iinc 4 1, 3) := by decide +kernel
theorem dX7_pieceAt_47 : decode cX7_pieceAt 47 = .ok (.goto (-41), 3) := by decide +kernel
theorem dX7_pieceAt_50 : decode cX7_pieceAt 50 = .ok (.iload_n 3, 1) := by decide +kernel
theorem dX7_pieceAt_51 : decode cX7_pieceAt 51 = .ok (.ireturn, 1) := by decide +kernel
theorem dX7_inPane_0 : decode cX7_inPane 0 = .ok (.iconst 0, 1) := by decide +kernel
theorem dX7_inPane_1 : decode cX7_inPane 1 = .ok (.istore_n 2, 1) := by decide +kernel
theorem dX7_inPane_2 : decode cX7_inPane 2 = .ok (.iconst 0, 1) := by decide +kernel
theorem dX7_inPane_3 : decode cX7_inPane 3 = .ok (.istore_n 3, 1) := by decide +kernel
theorem dX7_inPane_4 : decode cX7_inPane 4 = .ok (.iload_n 3, 1) := by decide +kernel
theorem dX7_inPane_5 : decode cX7_inPane 5 = .ok (.bipush 12, 2) := by decide +kernel
theorem dX7_inPane_7 : decode cX7_inPane 7 = .ok (.if_icmp .ge 28, 3) := by decide +kernel
theorem dX7_inPane_10 : decode cX7_inPane 10 = .ok (.iload_n 2, 1) := by decide +kernel
theorem dX7_inPane_11 : decode cX7_inPane 11 = .ok (.aload_n 0, 1) := by decide +kernel
theorem dX7_inPane_12 : decode cX7_inPane 12 = .ok (.iload_n 1, 1) := by decide +kernel
theorem dX7_inPane_13 : decode cX7_inPane 13 = .ok (.iload_n 3, 1) := by decide +kernel
theorem dX7_inPane_14 : decode cX7_inPane 14 = .ok (.invokevirtual 88, 3) := by decide +kernel
theorem dX7_inPane_17 : decode cX7_inPane 17 = .ok (.bipush (-6), 2) := by decide +kernel
theorem dX7_inPane_19 : decode cX7_inPane 19 = .ok (.if_icmp .ne 7, 3) := by decide +kernel
theorem dX7_inPane_22 : decode cX7_inPane 22 = .ok (.iconst 0, 1) := by decide +kernel
theorem dX7_inPane_23 : decode cX7_inPane 23 = .ok (.goto 4, 3) := by decide +kernel
theorem dX7_inPane_26 : decode cX7_inPane 26 = .ok (.iconst 1, 1) := by decide +kernel
theorem dX7_inPane_27 : decode cX7_inPane 27 = .ok (.iadd, 1) := by decide +kernel
theorem dX7_inPane_28 : decode cX7_inPane 28 = .ok (.istore_n 2, 1) := by decide +kernel
theorem dX7_inPane_29 : decode cX7_inPane 29 = .ok (.iinc 3 1, 3) := by decide +kernel
theorem dX7_inPane_32 : decode cX7_inPane 32 = .ok (.goto (-28), 3) := by decide +kernel
theorem dX7_inPane_35 : decode cX7_inPane 35 = .ok (.iload_n 2, 1) := by decide +kernel
theorem dX7_inPane_36 : decode cX7_inPane 36 = .ok (.ireturn, 1) := by decide +kernel
theorem dX7_puts_0 : decode cX7_puts 0 = .ok (.aload_n 0, 1) := by decide +kernel
theorem dX7_puts_1 : decode cX7_puts 1 = .ok (.getfield 7, 3) := by decide +kernel
theorem dX7_puts_4 : decode cX7_puts 4 = .ok (.iload_n 1, 1) := by decide +kernel
theorem dX7_puts_5 : decode cX7_puts 5 = .ok (.iconst 3, 1) := by decide +kernel
theorem dX7_puts_6 : decode cX7_puts 6 = .ok (.invokestatic 85, 3) := by decide +kernel
theorem dX7_puts_9 : decode cX7_puts 9 = .ok (.iconst 1, 1) := by decide +kernel
theorem dX7_puts_10 : decode cX7_puts 10 = .ok (.iastore, 1) := by decide +kernel
theorem dX7_puts_11 : decode cX7_puts 11 = .ok (.aload_n 0, 1) := by decide +kernel
theorem dX7_puts_12 : decode cX7_puts 12 = .ok (.getfield 7, 3) := by decide +kernel
theorem dX7_puts_15 : decode cX7_puts 15 = .ok (.iload_n 1, 1) := by decide +kernel
theorem dX7_puts_16 : decode cX7_puts 16 = .ok (.iconst 4, 1) := by decide +kernel
theorem dX7_puts_17 : decode cX7_puts 17 = .ok (.invokestatic 85, 3) := by decide +kernel
theorem dX7_puts_20 : decode cX7_puts 20 = .ok (.bipush 12, 2) := by decide +kernel
theorem dX7_puts_22 : decode cX7_puts 22 = .ok (.iload_n 2, 1) := by decide +kernel
theorem dX7_puts_23 : decode cX7_puts 23 = .ok (.imul, 1) := by decide +kernel
theorem dX7_puts_24 : decode cX7_puts 24 = .ok (.iload_n 3, 1) := by decide +kernel
theorem dX7_puts_25 : decode cX7_puts 25 = .ok (.iadd, 1) := by decide +kernel
theorem dX7_puts_26 : decode cX7_puts 26 = .ok (.iastore, 1) := by decide +kernel
theorem dX7_puts_27 : decode cX7_puts 27 = .ok (.return_, 1) := by decide +kernel
theorem dX7_pieceFor_0 : decode cX7_pieceFor 0 = .ok (.aload_n 0, 1) := by decide +kernel
theorem dX7_pieceFor_1 : decode cX7_pieceFor 1 = .ok (.iload_n 1, 1) := by decide +kernel
theorem dX7_pieceFor_2 : decode cX7_pieceFor 2 = .ok (.iload_n 2, 1) := by decide +kernel
theorem dX7_pieceFor_3 : decode cX7_pieceFor 3 = .ok (.iload_n 3, 1) := by decide +kernel
theorem dX7_pieceFor_4 : decode cX7_pieceFor 4 = .ok (.invokevirtual 91, 3) := by decide +kernel
theorem dX7_pieceFor_7 : decode cX7_pieceFor 7 = .ok (.istore 4, 2) := by decide +kernel
theorem dX7_pieceFor_9 : decode cX7_pieceFor 9 = .ok (.iload 4, 2) := by decide +kernel
theorem dX7_pieceFor_11 : decode cX7_pieceFor 11 = .ok (.bipush (-6), 2) := by decide +kernel
theorem dX7_pieceFor_13 : decode cX7_pieceFor 13 = .ok (.if_icmp .ne 62, 3) := by decide +kernel
theorem dX7_pieceFor_16 : decode cX7_pieceFor 16 = .ok (.aload_n 0, 1) := by decide +kernel
theorem dX7_pieceFor_17 : decode cX7_pieceFor 17 = .ok (.getfield 7, 3) := by decide +kernel
theorem dX7_pieceFor_20 : decode cX7_pieceFor 20 = .ok (.iconst 1, 1) := by decide +kernel
theorem dX7_pieceFor_21 : decode cX7_pieceFor 21 = .ok (.iaload, 1) := by decide +kernel
theorem dX7_pieceFor_22 : decode cX7_pieceFor 22 = .ok (.bipush 48, 2) := by decide +kernel
theorem dX7_pieceFor_24 : decode cX7_pieceFor 24 = .ok (.if_icmp .ge 51, 3) := by decide +kernel
theorem dX7_pieceFor_27 : decode cX7_pieceFor 27 = .ok (.aload_n 0, 1) := by decide +kernel
theorem dX7_pieceFor_28 : decode cX7_pieceFor 28 = .ok (.iload_n 1, 1) := by decide +kernel
theorem dX7_pieceFor_29 : decode cX7_pieceFor 29 = .ok (.iload_n 2, 1) := by decide +kernel
theorem dX7_pieceFor_30 : decode cX7_pieceFor 30 = .ok (.iload_n 3, 1) := by decide +kernel
theorem dX7_pieceFor_31 : decode cX7_pieceFor 31 = .ok (.invokevirtual 94, 3) := by decide +kernel
theorem dX7_pieceFor_34 : decode cX7_pieceFor 34 = .ok (.istore 5, 2) := by decide +kernel
theorem dX7_pieceFor_36 : decode cX7_pieceFor 36 = .ok (.iload 5, 2) := by decide +kernel
theorem dX7_pieceFor_38 : decode cX7_pieceFor 38 = .ok (.bipush (-6), 2) := by decide +kernel
theorem dX7_pieceFor_40 : decode cX7_pieceFor 40 = .ok (.if_icmp .ne 8, 3) := by decide +kernel
theorem dX7_pieceFor_43 : decode cX7_pieceFor 43 = .ok (.bipush (-6), 2) := by decide +kernel
theorem dX7_pieceFor_45 : decode cX7_pieceFor 45 = .ok (.goto 28, 3) := by decide +kernel
theorem dX7_pieceFor_48 : decode cX7_pieceFor 48 = .ok (.aload_n 0, 1) := by decide +kernel
theorem dX7_pieceFor_49 : decode cX7_pieceFor 49 = .ok (.iload 5, 2) := by decide +kernel
theorem dX7_pieceFor_51 : decode cX7_pieceFor 51 = .ok (.iload_n 2, 1) := by decide +kernel
theorem dX7_pieceFor_52 : decode cX7_pieceFor 52 = .ok (.aload_n 0, 1) := by decide +kernel
theorem dX7_pieceFor_53 : decode cX7_pieceFor 53 = .ok (.getfield 32, 3) := by decide +kernel
theorem dX7_pieceFor_56 : decode cX7_pieceFor 56 = .ok (.iconst 0, 1) := by decide +kernel
theorem dX7_pieceFor_57 : decode cX7_pieceFor 57 = .ok (.iaload, 1) := by decide +kernel
theorem dX7_pieceFor_58 : decode cX7_pieceFor 58 = .ok (.aload_n 0, 1) := by decide +kernel
theorem dX7_pieceFor_59 : decode cX7_pieceFor 59 = .ok (.getfield 32, 3) := by decide +kernel
theorem dX7_pieceFor_62 : decode cX7_pieceFor 62 = .ok (.iconst 1, 1) := by decide +kernel
theorem dX7_pieceFor_63 : decode cX7_pieceFor 63 = .ok (.iaload, 1) := by decide +kernel
theorem dX7_pieceFor_64 : decode cX7_pieceFor 64 = .ok (.aload_n 0, 1) := by decide +kernel
theorem dX7_pieceFor_65 : decode cX7_pieceFor 65 = .ok (.getfield 32, 3) := by decide +kernel
theorem dX7_pieceFor_68 : decode cX7_pieceFor 68 = .ok (.iconst 2, 1) := by decide +kernel
theorem dX7_pieceFor_69 : decode cX7_pieceFor 69 = .ok (.iaload, 1) := by decide +kernel
theorem dX7_pieceFor_70 : decode cX7_pieceFor 70 = .ok (.invokevirtual 97, 3) := by decide +kernel
theorem dX7_pieceFor_73 : decode cX7_pieceFor 73 = .ok (.istore 4, 2) := by decide +kernel
theorem dX7_pieceFor_75 : decode cX7_pieceFor 75 = .ok (.iload 4, 2) := by decide +kernel
theorem dX7_pieceFor_77 : decode cX7_pieceFor 77 = .ok (.ireturn, 1) := by decide +kernel
theorem dX7_letterOf_0 : decode cX7_letterOf 0 = .ok (.iload_n 0, 1) := by decide +kernel
theorem dX7_letterOf_1 : decode cX7_letterOf 1 = .ok (.tableswitch 101 101 117 #[93, 101, 101, 95, 83, 101, 101, 85, 101, 101, 87, 101, 101, 101, 98, 89, 91], 83) := by decide +kernel
theorem dX7_letterOf_84 : decode cX7_letterOf 84 = .ok (.iconst 0, 1) := by decide +kernel
theorem dX7_letterOf_85 : decode cX7_letterOf 85 = .ok (.ireturn, 1) := by decide +kernel
theorem dX7_letterOf_86 : decode cX7_letterOf 86 = .ok (.iconst 1, 1) := by decide +kernel
theorem dX7_letterOf_87 : decode cX7_letterOf 87 = .ok (.ireturn, 1) := by decide +kernel
theorem dX7_letterOf_88 : decode cX7_letterOf 88 = .ok (.iconst 2, 1) := by decide +kernel
theorem dX7_letterOf_89 : decode cX7_letterOf 89 = .ok (.ireturn, 1) := by decide +kernel
theorem dX7_letterOf_90 : decode cX7_letterOf 90 = .ok (.iconst 3, 1) := by decide +kernel
theorem dX7_letterOf_91 : decode cX7_letterOf 91 = .ok (.ireturn, 1) := by decide +kernel
theorem dX7_letterOf_92 : decode cX7_letterOf 92 = .ok (.iconst 4, 1) := by decide +kernel
theorem dX7_letterOf_93 : decode cX7_letterOf 93 = .ok (.ireturn, 1) := by decide +kernel
theorem dX7_letterOf_94 : decode cX7_letterOf 94 = .ok (.iconst 5, 1) := by decide +kernel
theorem dX7_letterOf_95 : decode cX7_letterOf 95 = .ok (.ireturn, 1) := by decide +kernel
theorem dX7_letterOf_96 : decode cX7_letterOf 96 = .ok (.bipush 6, 2) := by decide +kernel
theorem dX7_letterOf_98 : decode cX7_letterOf 98 = .ok (.ireturn, 1) := by decide +kernel
theorem dX7_letterOf_99 : decode cX7_letterOf 99 = .ok (.bipush 7, 2) := by decide +kernel
theorem dX7_letterOf_101 : decode cX7_letterOf 101 = .ok (.ireturn, 1) := by decide +kernel
theorem dX7_letterOf_102 : decode cX7_letterOf 102 = .ok (.bipush (-6), 2) := by decide +kernel
theorem dX7_letterOf_104 : decode cX7_letterOf 104 = .ok (.ireturn, 1) := by decide +kernel
theorem dX7_writes_0 : decode cX7_writes 0 = .ok (.iconst 0, 1) := by decide +kernel
theorem dX7_writes_1 : decode cX7_writes 1 = .ok (.istore 5, 2) := by decide +kernel
theorem dX7_writes_3 : decode cX7_writes 3 = .ok (.iload 5, 2) := by decide +kernel
theorem dX7_writes_5 : decode cX7_writes 5 = .ok (.aload_n 0, 1) := by decide +kernel
theorem dX7_writes_6 : decode cX7_writes 6 = .ok (.getfield 101, 3) := by decide +kernel
theorem dX7_writes_9 : decode cX7_writes 9 = .ok (.if_icmp .ge 110, 3) := by decide +kernel
theorem dX7_writes_12 : decode cX7_writes 12 = .ok (.aload_n 0, 1) := by decide +kernel
theorem dX7_writes_13 : decode cX7_writes 13 = .ok (.getfield 26, 3) := by decide +kernel
theorem dX7_writes_16 : decode cX7_writes 16 = .ok (.iload 4, 2) := by decide +kernel
theorem dX7_writes_18 : decode cX7_writes 18 = .ok (.iconst 1, 1) := by decide +kernel
theorem dX7_writes_19 : decode cX7_writes 19 = .ok (.if_icmp .ne 15, 3) := by decide +kernel
theorem dX7_writes_22 : decode cX7_writes 22 = .ok (.aload_n 0, 1) := by decide +kernel
theorem dX7_writes_23 : decode cX7_writes 23 = .ok (.getfield 101, 3) := by decide +kernel
theorem dX7_writes_26 : decode cX7_writes 26 = .ok (.iconst 1, 1) := by decide +kernel
theorem dX7_writes_27 : decode cX7_writes 27 = .ok (.isub, 1) := by decide +kernel
theorem dX7_writes_28 : decode cX7_writes 28 = .ok (.iload 5, 2) := by decide +kernel
theorem dX7_writes_30 : decode cX7_writes 30 = .ok (.isub, 1) := by decide +kernel
theorem dX7_writes_31 : decode cX7_writes 31 = .ok (.goto 5, 3) := by decide +kernel
theorem dX7_writes_34 : decode cX7_writes 34 = .ok (.iload 5, 2) := by decide +kernel
theorem dX7_writes_36 : decode cX7_writes 36 = .ok (.iaload, 1) := by decide +kernel
theorem dX7_writes_37 : decode cX7_writes 37 = .ok (.invokestatic 105, 3) := by decide +kernel
theorem dX7_writes_40 : decode cX7_writes 40 = .ok (.istore 6, 2) := by decide +kernel
theorem dX7_writes_42 : decode cX7_writes 42 = .ok (.iload_n 2, 1) := by decide +kernel
theorem dX7_writes_43 : decode cX7_writes 43 = .ok (.iload 5, 2) := by decide +kernel
theorem dX7_writes_45 : decode cX7_writes 45 = .ok (.iadd, 1) := by decide +kernel
theorem dX7_writes_46 : decode cX7_writes 46 = .ok (.bipush 12, 2) := by decide +kernel
theorem dX7_writes_48 : decode cX7_writes 48 = .ok (.if_icmp .ge 21, 3) := by decide +kernel
theorem dX7_writes_51 : decode cX7_writes 51 = .ok (.aload_n 0, 1) := by decide +kernel
theorem dX7_writes_52 : decode cX7_writes 52 = .ok (.iload_n 1, 1) := by decide +kernel
theorem dX7_writes_53 : decode cX7_writes 53 = .ok (.iload_n 2, 1) := by decide +kernel
theorem dX7_writes_54 : decode cX7_writes 54 = .ok (.iload 5, 2) := by decide +kernel
theorem dX7_writes_56 : decode cX7_writes 56 = .ok (.iadd, 1) := by decide +kernel
theorem dX7_writes_57 : decode cX7_writes 57 = .ok (.invokevirtual 88, 3) := by decide +kernel
theorem dX7_writes_60 : decode cX7_writes 60 = .ok (.bipush (-6), 2) := by decide +kernel
theorem dX7_writes_62 : decode cX7_writes 62 = .ok (.if_icmp .ne 7, 3) := by decide +kernel
theorem dX7_writes_65 : decode cX7_writes 65 = .ok (.iconst 1, 1) := by decide +kernel
theorem dX7_writes_66 : decode cX7_writes 66 = .ok (.goto 4, 3) := by decide +kernel
theorem dX7_writes_69 : decode cX7_writes 69 = .ok (.iconst 0, 1) := by decide +kernel
theorem dX7_writes_70 : decode cX7_writes 70 = .ok (.istore 7, 2) := by decide +kernel
theorem dX7_writes_72 : decode cX7_writes 72 = .ok (.iload 7, 2) := by decide +kernel
theorem dX7_writes_74 : decode cX7_writes 74 = .ok (.ifCond .eq 15, 3) := by decide +kernel
theorem dX7_writes_77 : decode cX7_writes 77 = .ok (.aload_n 0, 1) := by decide +kernel
theorem dX7_writes_78 : decode cX7_writes 78 = .ok (.iload_n 3, 1) := by decide +kernel
theorem dX7_writes_79 : decode cX7_writes 79 = .ok (.iload 6, 2) := by decide +kernel
theorem dX7_writes_81 : decode cX7_writes 81 = .ok (.iload 4, 2) := by decide +kernel
theorem dX7_writes_83 : decode cX7_writes 83 = .ok (.invokevirtual 108, 3) := by decide +kernel
theorem dX7_writes_86 : decode cX7_writes 86 = .ok (.goto 5, 3) := by decide +kernel
theorem dX7_writes_89 : decode cX7_writes 89 = .ok (.bipush (-6), 2) := by decide +kernel
theorem dX7_writes_91 : decode cX7_writes 91 = .ok (.istore 8, 2) := by decide +kernel
theorem dX7_writes_93 : decode cX7_writes 93 = .ok (.iload 8, 2) := by decide +kernel
theorem dX7_writes_95 : decode cX7_writes 95 = .ok (.bipush (-6), 2) := by decide +kernel
theorem dX7_writes_97 : decode cX7_writes 97 = .ok (.if_icmp .ne 5, 3) := by decide +kernel
theorem dX7_writes_100 : decode cX7_writes 100 = .ok (.iconst 0, 1) := by decide +kernel
theorem dX7_writes_101 : decode cX7_writes 101 = .ok (.ireturn, 1) := by decide +kernel
theorem dX7_writes_102 : decode cX7_writes 102 = .ok (.aload_n 0, 1) := by decide +kernel
theorem dX7_writes_103 : decode cX7_writes 103 = .ok (.iload 8, 2) := by decide +kernel
theorem dX7_writes_105 : decode cX7_writes 105 = .ok (.iload_n 1, 1) := by decide +kernel
theorem dX7_writes_106 : decode cX7_writes 106 = .ok (.iload_n 2, 1) := by decide +kernel
theorem dX7_writes_107 : decode cX7_writes 107 = .ok (.iload 5, 2) := by decide +kernel
theorem dX7_writes_109 : decode cX7_writes 109 = .ok (.iadd, 1) := by decide +kernel
theorem dX7_writes_110 : decode cX7_writes 110 = .ok (.invokevirtual 111, 3) := by decide +kernel
theorem dX7_writes_113 : decode cX7_writes 113 = .ok (.iinc 5 1, 3) := by decide +kernel
theorem dX7_writes_116 : decode cX7_writes 116 = .ok (.goto (-113), 3) := by decide +kernel
theorem dX7_writes_119 : decode cX7_writes 119 = .ok (.iconst 1, 1) := by decide +kernel
theorem dX7_writes_120 : decode cX7_writes 120 = .ok (.ireturn, 1) := by decide +kernel
theorem dX7_record_0 : decode cX7_record 0 = .ok (.aload_n 0, 1) := by decide +kernel
theorem dX7_record_1 : decode cX7_record 1 = .ok (.getfield 115, 3) := by decide +kernel
theorem dX7_record_4 : decode cX7_record 4 = .ok (.bipush 6, 2) := by decide +kernel
theorem dX7_record_6 : decode cX7_record 6 = .ok (.if_icmp .ne 44, 3) := by decide +kernel
theorem dX7_record_9 : decode cX7_record 9 = .ok (.iconst 0, 1) := by decide +kernel
theorem dX7_record_10 : decode cX7_record 10 = .ok (.istore_n 1, 1) := by decide +kernel
theorem dX7_record_11 : decode cX7_record 11 = .ok (.iload_n 1, 1) := by decide +kernel
theorem dX7_record_12 : decode cX7_record 12 = .ok (.sipush 2265, 3) := by decide +kernel
theorem dX7_record_15 : decode cX7_record 15 = .ok (.if_icmp .ge 25, 3) := by decide +kernel
theorem dX7_record_18 : decode cX7_record 18 = .ok (.aload_n 0, 1) := by decide +kernel
theorem dX7_record_19 : decode cX7_record 19 = .ok (.getfield 16, 3) := by decide +kernel
theorem dX7_record_22 : decode cX7_record 22 = .ok (.iload_n 1, 1) := by decide +kernel
theorem dX7_record_23 : decode cX7_record 23 = .ok (.aload_n 0, 1) := by decide +kernel
theorem dX7_record_24 : decode cX7_record 24 = .ok (.getfield 16, 3) := by decide +kernel
theorem dX7_record_27 : decode cX7_record 27 = .ok (.iload_n 1, 1) := by decide +kernel
theorem dX7_record_28 : decode cX7_record 28 = .ok (.sipush 453, 3) := by decide +kernel
theorem dX7_record_31 : decode cX7_record 31 = .ok (.iadd, 1) := by decide +kernel
theorem dX7_record_32 : decode cX7_record 32 = .ok (.iaload, 1) := by decide +kernel
theorem dX7_record_33 : decode cX7_record 33 = .ok (.iastore, 1) := by decide +kernel
theorem dX7_record_34 : decode cX7_record 34 = .ok (.iinc 1 1, 3) := by decide +kernel
theorem dX7_record_37 : decode cX7_record 37 = .ok (.goto (-26), 3) := by decide +kernel
theorem dX7_record_40 : decode cX7_record 40 = .ok (.aload_n 0, 1) := by decide +kernel
theorem dX7_record_41 : decode cX7_record 41 = .ok (.dup, 1) := by decide +kernel
theorem dX7_record_42 : decode cX7_record 42 = .ok (.getfield 115, 3) := by decide +kernel
theorem dX7_record_45 : decode cX7_record 45 = .ok (.iconst 1, 1) := by decide +kernel
theorem dX7_record_46 : decode cX7_record 46 = .ok (.isub, 1) := by decide +kernel
theorem dX7_record_47 : decode cX7_record 47 = .ok (.putfield 115, 3) := by decide +kernel
theorem dX7_record_50 : decode cX7_record 50 = .ok (.iconst 0, 1) := by decide +kernel
theorem dX7_record_51 : decode cX7_record 51 = .ok (.istore_n 1, 1) := by decide +kernel
theorem dX7_record_52 : decode cX7_record 52 = .ok (.iload_n 1, 1) := by decide +kernel
theorem dX7_record_53 : decode cX7_record 53 = .ok (.sipush 453, 3) := by decide +kernel
theorem dX7_record_56 : decode cX7_record 56 = .ok (.if_icmp .ge 30, 3) := by decide +kernel
theorem dX7_record_59 : decode cX7_record 59 = .ok (.aload_n 0, 1) := by decide +kernel
theorem dX7_record_60 : decode cX7_record 60 = .ok (.getfield 16, 3) := by decide +kernel
theorem dX7_record_63 : decode cX7_record 63 = .ok (.sipush 453, 3) := by decide +kernel
theorem dX7_record_66 : decode cX7_record 66 = .ok (.aload_n 0, 1) := by decide +kernel
theorem dX7_record_67 : decode cX7_record 67 = .ok (.getfield 115, 3) := by decide +kernel
theorem dX7_record_70 : decode cX7_record 70 = .ok (.imul, 1) := by decide +kernel
theorem dX7_record_71 : decode cX7_record 71 = .ok (.iload_n 1, 1) := by decide +kernel
theorem dX7_record_72 : decode cX7_record 72 = .ok (.iadd, 1) := by decide +kernel
theorem dX7_record_73 : decode cX7_record 73 = .ok (.aload_n 0, 1) := by decide +kernel
theorem dX7_record_74 : decode cX7_record 74 = .ok (.getfield 7, 3) := by decide +kernel
theorem dX7_record_77 : decode cX7_record 77 = .ok (.iload_n 1, 1) := by decide +kernel
theorem dX7_record_78 : decode cX7_record 78 = .ok (.iaload, 1) := by decide +kernel
theorem dX7_record_79 : decode cX7_record 79 = .ok (.iastore, 1) := by decide +kernel
theorem dX7_record_80 : decode cX7_record 80 = .ok (.iinc 1 1, 3) := by decide +kernel
theorem dX7_record_83 : decode cX7_record 83 = .ok (.goto (-31), 3) := by decide +kernel
theorem dX7_record_86 : decode cX7_record 86 = .ok (.aload_n 0, 1) := by decide +kernel
theorem dX7_record_87 : decode cX7_record 87 = .ok (.dup, 1) := by decide +kernel
theorem dX7_record_88 : decode cX7_record 88 = .ok (.getfield 115, 3) := by decide +kernel
theorem dX7_record_91 : decode cX7_record 91 = .ok (.iconst 1, 1) := by decide +kernel
theorem dX7_record_92 : decode cX7_record 92 = .ok (.iadd, 1) := by decide +kernel
theorem dX7_record_93 : decode cX7_record 93 = .ok (.putfield 115, 3) := by decide +kernel
theorem dX7_record_96 : decode cX7_record 96 = .ok (.return_, 1) := by decide +kernel
theorem dX7_putAside_0 : decode cX7_putAside 0 = .ok (.iconst 0, 1) := by decide +kernel
theorem dX7_putAside_1 : decode cX7_putAside 1 = .ok (.istore_n 1, 1) := by decide +kernel
theorem dX7_putAside_2 : decode cX7_putAside 2 = .ok (.iload_n 1, 1) := by decide +kernel
theorem dX7_putAside_3 : decode cX7_putAside 3 = .ok (.sipush 453, 3) := by decide +kernel
theorem dX7_putAside_6 : decode cX7_putAside 6 = .ok (.if_icmp .ge 21, 3) := by decide +kernel
theorem dX7_putAside_9 : decode cX7_putAside 9 = .ok (.aload_n 0, 1) := by decide +kernel
theorem dX7_putAside_10 : decode cX7_putAside 10 = .ok (.getfield 13, 3) := by decide +kernel
theorem dX7_putAside_13 : decode cX7_putAside 13 = .ok (.iload_n 1, 1) := by decide +kernel
theorem dX7_putAside_14 : decode cX7_putAside 14 = .ok (.aload_n 0, 1) := by decide +kernel
theorem dX7_putAside_15 : decode cX7_putAside 15 = .ok (.getfield 7, 3) := by decide +kernel
theorem dX7_putAside_18 : decode cX7_putAside 18 = .ok (.iload_n 1, 1) := by decide +kernel
theorem dX7_putAside_19 : decode cX7_putAside 19 = .ok (.iaload, 1) := by decide +kernel
theorem dX7_putAside_20 : decode cX7_putAside 20 = .ok (.iastore, 1) := by decide +kernel
theorem dX7_putAside_21 : decode cX7_putAside 21 = .ok (.iinc 1 1, 3) := by decide +kernel
theorem dX7_putAside_24 : decode cX7_putAside 24 = .ok (.goto (-22), 3) := by decide +kernel
theorem dX7_putAside_27 : decode cX7_putAside 27 = .ok (.return_, 1) := by decide +kernel
theorem dX7_putBack_0 : decode cX7_putBack 0 = .ok (.iconst 0, 1) := by decide +kernel
theorem dX7_putBack_1 : decode cX7_putBack 1 = .ok (.istore_n 1, 1) := by decide +kernel
theorem dX7_putBack_2 : decode cX7_putBack 2 = .ok (.iload_n 1, 1) := by decide +kernel
theorem dX7_putBack_3 : decode cX7_putBack 3 = .ok (.sipush 453, 3) := by decide +kernel
theorem dX7_putBack_6 : decode cX7_putBack 6 = .ok (.if_icmp .ge 21, 3) := by decide +kernel
theorem dX7_putBack_9 : decode cX7_putBack 9 = .ok (.aload_n 0, 1) := by decide +kernel
theorem dX7_putBack_10 : decode cX7_putBack 10 = .ok (.getfield 7, 3) := by decide +kernel
theorem dX7_putBack_13 : decode cX7_putBack 13 = .ok (.iload_n 1, 1) := by decide +kernel
theorem dX7_putBack_14 : decode cX7_putBack 14 = .ok (.aload_n 0, 1) := by decide +kernel
theorem dX7_putBack_15 : decode cX7_putBack 15 = .ok (.getfield 13, 3) := by decide +kernel
theorem dX7_putBack_18 : decode cX7_putBack 18 = .ok (.iload_n 1, 1) := by decide +kernel
theorem dX7_putBack_19 : decode cX7_putBack 19 = .ok (.iaload, 1) := by decide +kernel
theorem dX7_putBack_20 : decode cX7_putBack 20 = .ok (.iastore, 1) := by decide +kernel
theorem dX7_putBack_21 : decode cX7_putBack 21 = .ok (.iinc 1 1, 3) := by decide +kernel
theorem dX7_putBack_24 : decode cX7_putBack 24 = .ok (.goto (-22), 3) := by decide +kernel
theorem dX7_putBack_27 : decode cX7_putBack 27 = .ok (.return_, 1) := by decide +kernel
theorem dX7_isColour_0 : decode cX7_isColour 0 = .ok (.iload_n 0, 1) := by decide +kernel
theorem dX7_isColour_1 : decode cX7_isColour 1 = .ok (.iconst 1, 1) := by decide +kernel
theorem dX7_isColour_2 : decode cX7_isColour 2 = .ok (.iconst 4, 1) := by decide +kernel
theorem dX7_isColour_3 : decode cX7_isColour 3 = .ok (.invokestatic 66, 3) := by decide +kernel
theorem dX7_isColour_6 : decode cX7_isColour 6 = .ok (.ireturn, 1) := by decide +kernel
theorem dX7_sheet_0 : decode cX7_sheet 0 = .ok (.iload_n 1, 1) := by decide +kernel
theorem dX7_sheet_1 : decode cX7_sheet 1 = .ok (.invokestatic 118, 3) := by decide +kernel
theorem dX7_sheet_4 : decode cX7_sheet 4 = .ok (.ifCond .ne 6, 3) := by decide +kernel
theorem dX7_sheet_7 : decode cX7_sheet 7 = .ok (.bipush (-2), 2) := by decide +kernel
theorem dX7_sheet_9 : decode cX7_sheet 9 = .ok (.ireturn, 1) := by decide +kernel
theorem dX7_sheet_10 : decode cX7_sheet 10 = .ok (.aload_n 0, 1) := by decide +kernel
theorem dX7_sheet_11 : decode cX7_sheet 11 = .ok (.getfield 7, 3) := by decide +kernel
theorem dX7_sheet_14 : decode cX7_sheet 14 = .ok (.iconst 0, 1) := by decide +kernel
theorem dX7_sheet_15 : decode cX7_sheet 15 = .ok (.iaload, 1) := by decide +kernel
theorem dX7_sheet_16 : decode cX7_sheet 16 = .ok (.bipush 6, 2) := by decide +kernel
theorem dX7_sheet_18 : decode cX7_sheet 18 = .ok (.if_icmp .ne 6, 3) := by decide +kernel
theorem dX7_sheet_21 : decode cX7_sheet 21 = .ok (.bipush (-4), 2) := by decide +kernel
theorem dX7_sheet_23 : decode cX7_sheet 23 = .ok (.ireturn, 1) := by decide +kernel
theorem dX7_sheet_24 : decode cX7_sheet 24 = .ok (.aload_n 0, 1) := by decide +kernel
theorem dX7_sheet_25 : decode cX7_sheet 25 = .ok (.invokevirtual 122, 3) := by decide +kernel
theorem dX7_sheet_28 : decode cX7_sheet 28 = .ok (.aload_n 0, 1) := by decide +kernel
theorem dX7_sheet_29 : decode cX7_sheet 29 = .ok (.getfield 7, 3) := by decide +kernel
theorem dX7_sheet_32 : decode cX7_sheet 32 = .ok (.iconst 0, 1) := by decide +kernel
theorem dX7_sheet_33 : decode cX7_sheet 33 = .ok (.iaload, 1) := by decide +kernel
theorem dX7_sheet_34 : decode cX7_sheet 34 = .ok (.istore_n 2, 1) := by decide +kernel
theorem dX7_sheet_35 : decode cX7_sheet 35 = .ok (.aload_n 0, 1) := by decide +kernel
theorem dX7_sheet_36 : decode cX7_sheet 36 = .ok (.getfield 7, 3) := by decide +kernel
theorem dX7_sheet_39 : decode cX7_sheet 39 = .ok (.iconst 0, 1) := by decide +kernel
theorem dX7_sheet_40 : decode cX7_sheet 40 = .ok (.dup2, 1) := by decide +kernel
theorem dX7_sheet_41 : decode cX7_sheet 41 = .ok (.iaload, 1) := by decide +kernel
theorem dX7_sheet_42 : decode cX7_sheet 42 = .ok (.iconst 1, 1) := by decide +kernel
theorem dX7_sheet_43 : decode cX7_sheet 43 = .ok (.iadd, 1) := by decide +kernel
theorem dX7_sheet_44 : decode cX7_sheet 44 = .ok (.iastore, 1) := by decide +kernel
theorem dX7_sheet_45 : decode cX7_sheet 45 = .ok (.iconst 0, 1) := by decide +kernel
theorem dX7_sheet_46 : decode cX7_sheet 46 = .ok (.istore_n 3, 1) := by decide +kernel
theorem dX7_sheet_47 : decode cX7_sheet 47 = .ok (.iload_n 3, 1) := by decide +kernel
theorem dX7_sheet_48 : decode cX7_sheet 48 = .ok (.bipush 11, 2) := by decide +kernel
theorem dX7_sheet_50 : decode cX7_sheet 50 = .ok (.if_icmp .ge 20, 3) := by decide +kernel
theorem dX7_sheet_53 : decode cX7_sheet 53 = .ok (.aload_n 0, 1) := by decide +kernel
theorem dX7_sheet_54 : decode cX7_sheet 54 = .ok (.getfield 7, 3) := by decide +kernel
theorem dX7_sheet_57 : decode cX7_sheet 57 = .ok (.iload_n 2, 1) := by decide +kernel
theorem dX7_sheet_58 : decode cX7_sheet 58 = .ok (.iload_n 3, 1) := by decide +kernel
theorem dX7_sheet_59 : decode cX7_sheet 59 = .ok (.invokestatic 70, 3) := by decide +kernel
theorem dX7_sheet_62 : decode cX7_sheet 62 = .ok (.iconst 0, 1) := by decide +kernel
theorem dX7_sheet_63 : decode cX7_sheet 63 = .ok (.iastore, 1) := by decide +kernel
theorem dX7_sheet_64 : decode cX7_sheet 64 = .ok (.iinc 3 1, 3) := by decide +kernel
theorem dX7_sheet_67 : decode cX7_sheet 67 = .ok (.goto (-20), 3) := by decide +kernel
theorem dX7_sheet_70 : decode cX7_sheet 70 = .ok (.aload_n 0, 1) := by decide +kernel
theorem dX7_sheet_71 : decode cX7_sheet 71 = .ok (.getfield 7, 3) := by decide +kernel
theorem dX7_sheet_74 : decode cX7_sheet 74 = .ok (.iload_n 2, 1) := by decide +kernel
theorem dX7_sheet_75 : decode cX7_sheet 75 = .ok (.iconst 0, 1) := by decide +kernel
theorem dX7_sheet_76 : decode cX7_sheet 76 = .ok (.invokestatic 70, 3) := by decide +kernel
theorem dX7_sheet_79 : decode cX7_sheet 79 = .ok (.iload_n 1, 1) := by decide +kernel
theorem dX7_sheet_80 : decode cX7_sheet 80 = .ok (.iastore, 1) := by decide +kernel
theorem dX7_sheet_81 : decode cX7_sheet 81 = .ok (.iload_n 2, 1) := by decide +kernel
theorem dX7_sheet_82 : decode cX7_sheet 82 = .ok (.ireturn, 1) := by decide +kernel
theorem dX7_cut_0 : decode cX7_cut 0 = .ok (.aload_n 0, 1) := by decide +kernel
theorem dX7_cut_1 : decode cX7_cut 1 = .ok (.iload_n 1, 1) := by decide +kernel
theorem dX7_cut_2 : decode cX7_cut 2 = .ok (.invokevirtual 125, 3) := by decide +kernel
theorem dX7_cut_5 : decode cX7_cut 5 = .ok (.ifCond .eq 10, 3) := by decide +kernel
theorem dX7_cut_8 : decode cX7_cut 8 = .ok (.iload_n 2, 1) := by decide +kernel
theorem dX7_cut_9 : decode cX7_cut 9 = .ok (.invokestatic 128, 3) := by decide +kernel
theorem dX7_cut_12 : decode cX7_cut 12 = .ok (.ifCond .ne 5, 3) := by decide +kernel
theorem dX7_cut_15 : decode cX7_cut 15 = .ok (.iconst (-1), 1) := by decide +kernel
theorem dX7_cut_16 : decode cX7_cut 16 = .ok (.ireturn, 1) := by decide +kernel
theorem dX7_cut_17 : decode cX7_cut 17 = .ok (.iload_n 3, 1) := by decide +kernel
theorem dX7_cut_18 : decode cX7_cut 18 = .ok (.iconst 0, 1) := by decide +kernel
theorem dX7_cut_19 : decode cX7_cut 19 = .ok (.bipush 7, 2) := by decide +kernel
theorem dX7_cut_21 : decode cX7_cut 21 = .ok (.invokestatic 66, 3) := by decide +kernel
theorem dX7_cut_24 : decode cX7_cut 24 = .ok (.ifCond .ne 6, 3) := by decide +kernel
theorem dX7_cut_27 : decode cX7_cut 27 = .ok (.bipush (-2), 2) := by decide +kernel
theorem dX7_cut_29 : decode cX7_cut 29 = .ok (.ireturn, 1) := by decide +kernel
theorem dX7_cut_30 : decode cX7_cut 30 = .ok (.aload_n 0, 1) := by decide +kernel
theorem dX7_cut_31 : decode cX7_cut 31 = .ok (.iload_n 1, 1) := by decide +kernel
theorem dX7_cut_32 : decode cX7_cut 32 = .ok (.iload_n 2, 1) := by decide +kernel
theorem dX7_cut_33 : decode cX7_cut 33 = .ok (.iload_n 3, 1) := by decide +kernel
theorem dX7_cut_34 : decode cX7_cut 34 = .ok (.iload 4, 2) := by decide +kernel
theorem dX7_cut_36 : decode cX7_cut 36 = .ok (.iload 5, 2) := by decide +kernel
theorem dX7_cut_38 : decode cX7_cut 38 = .ok (.invokevirtual 74, 3) := by decide +kernel
theorem dX7_cut_41 : decode cX7_cut 41 = .ok (.ifCond .ne 6, 3) := by decide +kernel
theorem dX7_cut_44 : decode cX7_cut 44 = .ok (.bipush (-5), 2) := by decide +kernel
theorem dX7_cut_46 : decode cX7_cut 46 = .ok (.ireturn, 1) := by decide +kernel
theorem dX7_cut_47 : decode cX7_cut 47 = .ok (.aload_n 0, 1) := by decide +kernel
theorem dX7_cut_48 : decode cX7_cut 48 = .ok (.getfield 7, 3) := by decide +kernel
theorem dX7_cut_51 : decode cX7_cut 51 = .ok (.iconst 1, 1) := by decide +kernel
theorem dX7_cut_52 : decode cX7_cut 52 = .ok (.iaload, 1) := by decide +kernel
theorem dX7_cut_53 : decode cX7_cut 53 = .ok (.bipush 48, 2) := by decide +kernel
theorem dX7_cut_55 : decode cX7_cut 55 = .ok (.if_icmp .ne 6, 3) := by decide +kernel
theorem dX7_cut_58 : decode cX7_cut 58 = .ok (.bipush (-4), 2) := by decide +kernel
theorem dX7_cut_60 : decode cX7_cut 60 = .ok (.ireturn, 1) := by decide +kernel
theorem dX7_cut_61 : decode cX7_cut 61 = .ok (.aload_n 0, 1) := by decide +kernel
theorem dX7_cut_62 : decode cX7_cut 62 = .ok (.invokevirtual 122, 3) := by decide +kernel
theorem dX7_cut_65 : decode cX7_cut 65 = .ok (.aload_n 0, 1) := by decide +kernel
theorem dX7_cut_66 : decode cX7_cut 66 = .ok (.iload_n 1, 1) := by decide +kernel
theorem dX7_cut_67 : decode cX7_cut 67 = .ok (.iload_n 2, 1) := by decide +kernel
theorem dX7_cut_68 : decode cX7_cut 68 = .ok (.iload_n 3, 1) := by decide +kernel
theorem dX7_cut_69 : decode cX7_cut 69 = .ok (.iload 4, 2) := by decide +kernel
theorem dX7_cut_71 : decode cX7_cut 71 = .ok (.iload 5, 2) := by decide +kernel
theorem dX7_cut_73 : decode cX7_cut 73 = .ok (.invokevirtual 97, 3) := by decide +kernel
theorem dX7_cut_76 : decode cX7_cut 76 = .ok (.ireturn, 1) := by decide +kernel
theorem dX7_make_0 : decode cX7_make 0 = .ok (.iload_n 2, 1) := by decide +kernel
theorem dX7_make_1 : decode cX7_make 1 = .ok (.invokestatic 128, 3) := by decide +kernel
theorem dX7_make_4 : decode cX7_make 4 = .ok (.ifCond .ne 5, 3) := by decide +kernel
theorem dX7_make_7 : decode cX7_make 7 = .ok (.iconst (-1), 1) := by decide +kernel
theorem dX7_make_8 : decode cX7_make 8 = .ok (.ireturn, 1) := by decide +kernel
theorem dX7_make_9 : decode cX7_make 9 = .ok (.iload_n 1, 1) := by decide +kernel
theorem dX7_make_10 : decode cX7_make 10 = .ok (.invokestatic 118, 3) := by decide +kernel
theorem dX7_make_13 : decode cX7_make 13 = .ok (.ifCond .eq 12, 3) := by decide +kernel
theorem dX7_make_16 : decode cX7_make 16 = .ok (.iload_n 3, 1) := by decide +kernel
theorem dX7_make_17 : decode cX7_make 17 = .ok (.iconst 0, 1) := by decide +kernel
theorem dX7_make_18 : decode cX7_make 18 = .ok (.iconst 1, 1) := by decide +kernel
theorem dX7_make_19 : decode cX7_make 19 = .ok (.invokestatic 66, 3) := by decide +kernel
theorem dX7_make_22 : decode cX7_make 22 = .ok (.ifCond .ne 6, 3) := by decide +kernel
theorem dX7_make_25 : decode cX7_make 25 = .ok (.bipush (-2), 2) := by decide +kernel
theorem dX7_make_27 : decode cX7_make 27 = .ok (.ireturn, 1) := by decide +kernel
theorem dX7_make_28 : decode cX7_make 28 = .ok (.aload_n 0, 1) := by decide +kernel
theorem dX7_make_29 : decode cX7_make 29 = .ok (.iload_n 1, 1) := by decide +kernel
theorem dX7_make_30 : decode cX7_make 30 = .ok (.iload_n 2, 1) := by decide +kernel
theorem dX7_make_31 : decode cX7_make 31 = .ok (.iload_n 3, 1) := by decide +kernel
theorem dX7_make_32 : decode cX7_make 32 = .ok (.invokevirtual 94, 3) := by decide +kernel
theorem dX7_make_35 : decode cX7_make 35 = .ok (.istore 4, 2) := by decide +kernel
theorem dX7_make_37 : decode cX7_make 37 = .ok (.iload 4, 2) := by decide +kernel
theorem dX7_make_39 : decode cX7_make 39 = .ok (.bipush (-6), 2) := by decide +kernel
theorem dX7_make_41 : decode cX7_make 41 = .ok (.if_icmp .ne 6, 3) := by decide +kernel
theorem dX7_make_44 : decode cX7_make 44 = .ok (.bipush (-5), 2) := by decide +kernel
theorem dX7_make_46 : decode cX7_make 46 = .ok (.ireturn, 1) := by decide +kernel
theorem dX7_make_47 : decode cX7_make 47 = .ok (.aload_n 0, 1) := by decide +kernel
theorem dX7_make_48 : decode cX7_make 48 = .ok (.getfield 7, 3) := by decide +kernel
theorem dX7_make_51 : decode cX7_make 51 = .ok (.iconst 1, 1) := by decide +kernel
theorem dX7_make_52 : decode cX7_make 52 = .ok (.iaload, 1) := by decide +kernel
theorem dX7_make_53 : decode cX7_make 53 = .ok (.bipush 48, 2) := by decide +kernel
theorem dX7_make_55 : decode cX7_make 55 = .ok (.if_icmp .ne 6, 3) := by decide +kernel
theorem dX7_make_58 : decode cX7_make 58 = .ok (.bipush (-4), 2) := by decide +kernel
theorem dX7_make_60 : decode cX7_make 60 = .ok (.ireturn, 1) := by decide +kernel
theorem dX7_make_61 : decode cX7_make 61 = .ok (.aload_n 0, 1) := by decide +kernel
theorem dX7_make_62 : decode cX7_make 62 = .ok (.invokevirtual 122, 3) := by decide +kernel
theorem dX7_make_65 : decode cX7_make 65 = .ok (.aload_n 0, 1) := by decide +kernel
theorem dX7_make_66 : decode cX7_make 66 = .ok (.iload 4, 2) := by decide +kernel
theorem dX7_make_68 : decode cX7_make 68 = .ok (.iload_n 2, 1) := by decide +kernel
theorem dX7_make_69 : decode cX7_make 69 = .ok (.aload_n 0, 1) := by decide +kernel
theorem dX7_make_70 : decode cX7_make 70 = .ok (.getfield 32, 3) := by decide +kernel
theorem dX7_make_73 : decode cX7_make 73 = .ok (.iconst 0, 1) := by decide +kernel
theorem dX7_make_74 : decode cX7_make 74 = .ok (.iaload, 1) := by decide +kernel
theorem dX7_make_75 : decode cX7_make 75 = .ok (.aload_n 0, 1) := by decide +kernel
theorem dX7_make_76 : decode cX7_make 76 = .ok (.getfield 32, 3) := by decide +kernel
theorem dX7_make_79 : decode cX7_make 79 = .ok (.iconst 1, 1) := by decide +kernel
theorem dX7_make_80 : decode cX7_make 80 = .ok (.iaload, 1) := by decide +kernel
theorem dX7_make_81 : decode cX7_make 81 = .ok (.aload_n 0, 1) := by decide +kernel
theorem dX7_make_82 : decode cX7_make 82 = .ok (.getfield 32, 3) := by decide +kernel
theorem dX7_make_85 : decode cX7_make 85 = .ok (.iconst 2, 1) := by decide +kernel
theorem dX7_make_86 : decode cX7_make 86 = .ok (.iaload, 1) := by decide +kernel
theorem dX7_make_87 : decode cX7_make 87 = .ok (.invokevirtual 97, 3) := by decide +kernel
theorem dX7_make_90 : decode cX7_make 90 = .ok (.ireturn, 1) := by decide +kernel
theorem dX7_canBeWritten_0 : decode cX7_canBeWritten 0 = .ok (.aload_n 0, 1) := by decide +kernel
theorem dX7_canBeWritten_1 : decode cX7_canBeWritten 1 = .ok (.invokevirtual 131, 3) := by decide +kernel
theorem dX7_canBeWritten_4 : decode cX7_canBeWritten 4 = .ok (.aload_n 0, 1) := by decide +kernel
theorem dX7_canBeWritten_5 : decode cX7_canBeWritten 5 = .ok (.iload_n 1, 1) := by decide +kernel
theorem dX7_canBeWritten_6 : decode cX7_canBeWritten 6 = .ok (.iload_n 2, 1) := by decide +kernel
theorem dX7_canBeWritten_7 : decode cX7_canBeWritten 7 = .ok (.iload_n 3, 1) := by decide +kernel
theorem dX7_canBeWritten_8 : decode cX7_canBeWritten 8 = .ok (.iload 4, 2) := by decide +kernel
theorem dX7_canBeWritten_10 : decode cX7_canBeWritten 10 = .ok (.invokevirtual 134, 3) := by decide +kernel
theorem dX7_canBeWritten_13 : decode cX7_canBeWritten 13 = .ok (.istore 5, 2) := by decide +kernel
theorem dX7_canBeWritten_15 : decode cX7_canBeWritten 15 = .ok (.aload_n 0, 1) := by decide +kernel
theorem dX7_canBeWritten_16 : decode cX7_canBeWritten 16 = .ok (.invokevirtual 138, 3) := by decide +kernel
theorem dX7_canBeWritten_19 : decode cX7_canBeWritten 19 = .ok (.iload 5, 2) := by decide +kernel
theorem dX7_canBeWritten_21 : decode cX7_canBeWritten 21 = .ok (.ireturn, 1) := by decide +kernel
theorem dX7_write_0 : decode cX7_write 0 = .ok (.iload_n 1, 1) := by decide +kernel
theorem dX7_write_1 : decode cX7_write 1 = .ok (.iload_n 2, 1) := by decide +kernel
theorem dX7_write_2 : decode cX7_write 2 = .ok (.invokestatic 141, 3) := by decide +kernel
theorem dX7_write_5 : decode cX7_write 5 = .ok (.ifCond .ne 5, 3) := by decide +kernel
theorem dX7_write_8 : decode cX7_write 8 = .ok (.iconst (-1), 1) := by decide +kernel
theorem dX7_write_9 : decode cX7_write 9 = .ok (.ireturn, 1) := by decide +kernel
theorem dX7_write_10 : decode cX7_write 10 = .ok (.aload_n 0, 1) := by decide +kernel
theorem dX7_write_11 : decode cX7_write 11 = .ok (.invokevirtual 145, 3) := by decide +kernel
theorem dX7_write_14 : decode cX7_write 14 = .ok (.bipush (-6), 2) := by decide +kernel
theorem dX7_write_16 : decode cX7_write 16 = .ok (.if_icmp .eq 6, 3) := by decide +kernel
theorem dX7_write_19 : decode cX7_write 19 = .ok (.bipush (-3), 2) := by decide +kernel
theorem dX7_write_21 : decode cX7_write 21 = .ok (.ireturn, 1) := by decide +kernel
theorem dX7_write_22 : decode cX7_write 22 = .ok (.iload_n 3, 1) := by decide +kernel
theorem dX7_write_23 : decode cX7_write 23 = .ok (.invokestatic 118, 3) := by decide +kernel
theorem dX7_write_26 : decode cX7_write 26 = .ok (.ifCond .eq 13, 3) := by decide +kernel
theorem dX7_write_29 : decode cX7_write 29 = .ok (.iload 4, 2) := by decide +kernel
theorem dX7_write_31 : decode cX7_write 31 = .ok (.iconst 0, 1) := by decide +kernel
theorem dX7_write_32 : decode cX7_write 32 = .ok (.iconst 1, 1) := by decide +kernel
theorem dX7_write_33 : decode cX7_write 33 = .ok (.invokestatic 66, 3) := by decide +kernel
theorem dX7_write_36 : decode cX7_write 36 = .ok (.ifCond .ne 6, 3) := by decide +kernel
theorem dX7_write_39 : decode cX7_write 39 = .ok (.bipush (-2), 2) := by decide +kernel
theorem dX7_write_41 : decode cX7_write 41 = .ok (.ireturn, 1) := by decide +kernel
theorem dX7_write_42 : decode cX7_write 42 = .ok (.aload_n 0, 1) := by decide +kernel
theorem dX7_write_43 : decode cX7_write 43 = .ok (.iload_n 1, 1) := by decide +kernel
theorem dX7_write_44 : decode cX7_write 44 = .ok (.iload_n 2, 1) := by decide +kernel
theorem dX7_write_45 : decode cX7_write 45 = .ok (.iload_n 3, 1) := by decide +kernel
theorem dX7_write_46 : decode cX7_write 46 = .ok (.iload 4, 2) := by decide +kernel
theorem dX7_write_48 : decode cX7_write 48 = .ok (.invokevirtual 149, 3) := by decide +kernel
theorem dX7_write_51 : decode cX7_write 51 = .ok (.ifCond .ne 6, 3) := by decide +kernel
theorem dX7_write_54 : decode cX7_write 54 = .ok (.bipush (-5), 2) := by decide +kernel
theorem dX7_write_56 : decode cX7_write 56 = .ok (.ireturn, 1) := by decide +kernel
theorem dX7_write_57 : decode cX7_write 57 = .ok (.aload_n 0, 1) := by decide +kernel
theorem dX7_write_58 : decode cX7_write 58 = .ok (.invokevirtual 122, 3) := by decide +kernel
theorem dX7_write_61 : decode cX7_write 61 = .ok (.aload_n 0, 1) := by decide +kernel
theorem dX7_write_62 : decode cX7_write 62 = .ok (.getfield 7, 3) := by decide +kernel
theorem dX7_write_65 : decode cX7_write 65 = .ok (.iconst 1, 1) := by decide +kernel
theorem dX7_write_66 : decode cX7_write 66 = .ok (.iaload, 1) := by decide +kernel
theorem dX7_write_67 : decode cX7_write 67 = .ok (.istore 5, 2) := by decide +kernel
theorem dX7_write_69 : decode cX7_write 69 = .ok (.aload_n 0, 1) := by decide +kernel
theorem dX7_write_70 : decode cX7_write 70 = .ok (.iload_n 1, 1) := by decide +kernel
theorem dX7_write_71 : decode cX7_write 71 = .ok (.iload_n 2, 1) := by decide +kernel
theorem dX7_write_72 : decode cX7_write 72 = .ok (.iload_n 3, 1) := by decide +kernel
theorem dX7_write_73 : decode cX7_write 73 = .ok (.iload 4, 2) := by decide +kernel
theorem dX7_write_75 : decode cX7_write 75 = .ok (.invokevirtual 134, 3) := by decide +kernel
theorem dX7_write_78 : decode cX7_write 78 = .ok (.istore 6, 2) := by decide +kernel
theorem dX7_write_80 : decode cX7_write 80 = .ok (.aload_n 0, 1) := by decide +kernel
theorem dX7_write_81 : decode cX7_write 81 = .ok (.iconst 0, 1) := by decide +kernel
theorem dX7_write_82 : decode cX7_write 82 = .ok (.putfield 101, 3) := by decide +kernel
theorem dX7_write_85 : decode cX7_write 85 = .ok (.aload_n 0, 1) := by decide +kernel
theorem dX7_write_86 : decode cX7_write 86 = .ok (.getfield 7, 3) := by decide +kernel
theorem dX7_write_89 : decode cX7_write 89 = .ok (.iconst 1, 1) := by decide +kernel
theorem dX7_write_90 : decode cX7_write 90 = .ok (.iaload, 1) := by decide +kernel
theorem dX7_write_91 : decode cX7_write 91 = .ok (.iload 5, 2) := by decide +kernel
theorem dX7_write_93 : decode cX7_write 93 = .ok (.isub, 1) := by decide +kernel
theorem dX7_write_94 : decode cX7_write 94 = .ok (.ireturn, 1) := by decide +kernel
theorem dX7_isLoose_0 : decode cX7_isLoose 0 = .ok (.aload_n 0, 1) := by decide +kernel
theorem dX7_isLoose_1 : decode cX7_isLoose 1 = .ok (.getfield 7, 3) := by decide +kernel
theorem dX7_isLoose_4 : decode cX7_isLoose 4 = .ok (.iload_n 1, 1) := by decide +kernel
theorem dX7_isLoose_5 : decode cX7_isLoose 5 = .ok (.iconst 3, 1) := by decide +kernel
theorem dX7_isLoose_6 : decode cX7_isLoose 6 = .ok (.invokestatic 85, 3) := by decide +kernel
theorem dX7_isLoose_9 : decode cX7_isLoose 9 = .ok (.iaload, 1) := by decide +kernel
theorem dX7_isLoose_10 : decode cX7_isLoose 10 = .ok (.ifCond .ne 7, 3) := by decide +kernel
theorem dX7_isLoose_13 : decode cX7_isLoose 13 = .ok (.iconst 1, 1) := by decide +kernel
theorem dX7_isLoose_14 : decode cX7_isLoose 14 = .ok (.goto 4, 3) := by decide +kernel
theorem dX7_isLoose_17 : decode cX7_isLoose 17 = .ok (.iconst 0, 1) := by decide +kernel
theorem dX7_isLoose_18 : decode cX7_isLoose 18 = .ok (.ireturn, 1) := by decide +kernel
theorem dX7_place_0 : decode cX7_place 0 = .ok (.aload_n 0, 1) := by decide +kernel
theorem dX7_place_1 : decode cX7_place 1 = .ok (.iload_n 1, 1) := by decide +kernel
theorem dX7_place_2 : decode cX7_place 2 = .ok (.invokevirtual 152, 3) := by decide +kernel
theorem dX7_place_5 : decode cX7_place 5 = .ok (.ifCond .eq 11, 3) := by decide +kernel
theorem dX7_place_8 : decode cX7_place 8 = .ok (.iload_n 2, 1) := by decide +kernel
theorem dX7_place_9 : decode cX7_place 9 = .ok (.iload_n 3, 1) := by decide +kernel
theorem dX7_place_10 : decode cX7_place 10 = .ok (.invokestatic 141, 3) := by decide +kernel
theorem dX7_place_13 : decode cX7_place 13 = .ok (.ifCond .ne 5, 3) := by decide +kernel
theorem dX7_place_16 : decode cX7_place 16 = .ok (.iconst (-1), 1) := by decide +kernel
theorem dX7_place_17 : decode cX7_place 17 = .ok (.ireturn, 1) := by decide +kernel
theorem dX7_place_18 : decode cX7_place 18 = .ok (.aload_n 0, 1) := by decide +kernel
theorem dX7_place_19 : decode cX7_place 19 = .ok (.iload_n 1, 1) := by decide +kernel
theorem dX7_place_20 : decode cX7_place 20 = .ok (.invokevirtual 155, 3) := by decide +kernel
theorem dX7_place_23 : decode cX7_place 23 = .ok (.ifCond .eq 14, 3) := by decide +kernel
theorem dX7_place_26 : decode cX7_place 26 = .ok (.aload_n 0, 1) := by decide +kernel
theorem dX7_place_27 : decode cX7_place 27 = .ok (.iload_n 2, 1) := by decide +kernel
theorem dX7_place_28 : decode cX7_place 28 = .ok (.iload_n 3, 1) := by decide +kernel
theorem dX7_place_29 : decode cX7_place 29 = .ok (.invokevirtual 88, 3) := by decide +kernel
theorem dX7_place_32 : decode cX7_place 32 = .ok (.bipush (-6), 2) := by decide +kernel
theorem dX7_place_34 : decode cX7_place 34 = .ok (.if_icmp .eq 6, 3) := by decide +kernel
theorem dX7_place_37 : decode cX7_place 37 = .ok (.bipush (-5), 2) := by decide +kernel
theorem dX7_place_39 : decode cX7_place 39 = .ok (.ireturn, 1) := by decide +kernel
theorem dX7_place_40 : decode cX7_place 40 = .ok (.aload_n 0, 1) := by decide +kernel
theorem dX7_place_41 : decode cX7_place 41 = .ok (.invokevirtual 122, 3) := by decide +kernel
theorem dX7_place_44 : decode cX7_place 44 = .ok (.aload_n 0, 1) := by decide +kernel
theorem dX7_place_45 : decode cX7_place 45 = .ok (.iload_n 1, 1) := by decide +kernel
theorem dX7_place_46 : decode cX7_place 46 = .ok (.iload_n 2, 1) := by decide +kernel
theorem dX7_place_47 : decode cX7_place 47 = .ok (.iload_n 3, 1) := by decide +kernel
theorem dX7_place_48 : decode cX7_place 48 = .ok (.invokevirtual 111, 3) := by decide +kernel
theorem dX7_place_51 : decode cX7_place 51 = .ok (.aload_n 0, 1) := by decide +kernel
theorem dX7_place_52 : decode cX7_place 52 = .ok (.iload_n 2, 1) := by decide +kernel
theorem dX7_place_53 : decode cX7_place 53 = .ok (.invokevirtual 158, 3) := by decide +kernel
theorem dX7_place_56 : decode cX7_place 56 = .ok (.ireturn, 1) := by decide +kernel
theorem dX7_clear_0 : decode cX7_clear 0 = .ok (.iload_n 1, 1) := by decide +kernel
theorem dX7_clear_1 : decode cX7_clear 1 = .ok (.iconst 0, 1) := by decide +kernel
theorem dX7_clear_2 : decode cX7_clear 2 = .ok (.iconst 2, 1) := by decide +kernel
theorem dX7_clear_3 : decode cX7_clear 3 = .ok (.invokestatic 66, 3) := by decide +kernel
theorem dX7_clear_6 : decode cX7_clear 6 = .ok (.ifCond .ne 5, 3) := by decide +kernel
theorem dX7_clear_9 : decode cX7_clear 9 = .ok (.iconst (-1), 1) := by decide +kernel
theorem dX7_clear_10 : decode cX7_clear 10 = .ok (.ireturn, 1) := by decide +kernel
theorem dX7_clear_11 : decode cX7_clear 11 = .ok (.aload_n 0, 1) := by decide +kernel
theorem dX7_clear_12 : decode cX7_clear 12 = .ok (.invokevirtual 122, 3) := by decide +kernel
theorem dX7_clear_15 : decode cX7_clear 15 = .ok (.aload_n 0, 1) := by decide +kernel
theorem dX7_clear_16 : decode cX7_clear 16 = .ok (.iload_n 1, 1) := by decide +kernel
theorem dX7_clear_17 : decode cX7_clear 17 = .ok (.invokevirtual 158, 3) := by decide +kernel
theorem dX7_clear_20 : decode cX7_clear 20 = .ok (.istore_n 2, 1) := by decide +kernel
theorem dX7_clear_21 : decode cX7_clear 21 = .ok (.iconst 0, 1) := by decide +kernel
theorem dX7_clear_22 : decode cX7_clear 22 = .ok (.istore_n 3, 1) := by decide +kernel
theorem dX7_clear_23 : decode cX7_clear 23 = .ok (.iload_n 3, 1) := by decide +kernel
theorem dX7_clear_24 : decode cX7_clear 24 = .ok (.aload_n 0, 1) := by decide +kernel
theorem dX7_clear_25 : decode cX7_clear 25 = .ok (.getfield 7, 3) := by decide +kernel
theorem dX7_clear_28 : decode cX7_clear 28 = .ok (.iconst 1, 1) := by decide +kernel
theorem dX7_clear_29 : decode cX7_clear 29 = .ok (.iaload, 1) := by decide +kernel
theorem dX7_clear_30 : decode cX7_clear 30 = .ok (.if_icmp .ge 107, 3) := by decide +kernel
theorem dX7_clear_33 : decode cX7_clear 33 = .ok (.aload_n 0, 1) := by decide +kernel
theorem dX7_clear_34 : decode cX7_clear 34 = .ok (.getfield 7, 3) := by decide +kernel
theorem dX7_clear_37 : decode cX7_clear 37 = .ok (.iload_n 3, 1) := by decide +kernel
theorem dX7_clear_38 : decode cX7_clear 38 = .ok (.iconst 4, 1) := by decide +kernel
theorem dX7_clear_39 : decode cX7_clear 39 = .ok (.invokestatic 85, 3) := by decide +kernel
theorem dX7_clear_42 : decode cX7_clear 42 = .ok (.iaload, 1) := by decide +kernel
theorem dX7_clear_43 : decode cX7_clear 43 = .ok (.bipush (-6), 2) := by decide +kernel
theorem dX7_clear_45 : decode cX7_clear 45 = .ok (.if_icmp .eq 24, 3) := by decide +kernel
theorem dX7_clear_48 : decode cX7_clear 48 = .ok (.aload_n 0, 1) := by decide +kernel
theorem dX7_clear_49 : decode cX7_clear 49 = .ok (.getfield 7, 3) := by decide +kernel
theorem dX7_clear_52 : decode cX7_clear 52 = .ok (.iload_n 3, 1) := by decide +kernel
theorem dX7_clear_53 : decode cX7_clear 53 = .ok (.iconst 4, 1) := by decide +kernel
theorem dX7_clear_54 : decode cX7_clear 54 = .ok (.invokestatic 85, 3) := by decide +kernel
theorem dX7_clear_57 : decode cX7_clear 57 = .ok (.iaload, 1) := by decide +kernel
theorem dX7_clear_58 : decode cX7_clear 58 = .ok (.bipush 12, 2) := by decide +kernel
theorem dX7_clear_60 : decode cX7_clear 60 = .ok (.idiv, 1) := by decide +kernel
theorem dX7_clear_61 : decode cX7_clear 61 = .ok (.iload_n 1, 1) := by decide +kernel
theorem dX7_clear_62 : decode cX7_clear 62 = .ok (.if_icmp .ne 7, 3) := by decide +kernel
theorem dX7_clear_65 : decode cX7_clear 65 = .ok (.iconst 1, 1) := by decide +kernel
theorem dX7_clear_66 : decode cX7_clear 66 = .ok (.goto 4, 3) := by decide +kernel
theorem dX7_clear_69 : decode cX7_clear 69 = .ok (.iconst 0, 1) := by decide +kernel
theorem dX7_clear_70 : decode cX7_clear 70 = .ok (.istore 4, 2) := by decide +kernel
theorem dX7_clear_72 : decode cX7_clear 72 = .ok (.aload_n 0, 1) := by decide +kernel
theorem dX7_clear_73 : decode cX7_clear 73 = .ok (.getfield 7, 3) := by decide +kernel
theorem dX7_clear_76 : decode cX7_clear 76 = .ok (.iload_n 3, 1) := by decide +kernel
theorem dX7_clear_77 : decode cX7_clear 77 = .ok (.iconst 3, 1) := by decide +kernel
theorem dX7_clear_78 : decode cX7_clear 78 = .ok (.invokestatic 85, 3) := by decide +kernel
theorem dX7_clear_81 : decode cX7_clear 81 = .ok (.iload 4, 2) := by decide +kernel
theorem dX7_clear_83 : decode cX7_clear 83 = .ok (.ifCond .eq 7, 3) := by decide +kernel
theorem dX7_clear_86 : decode cX7_clear 86 = .ok (.iconst 0, 1) := by decide +kernel
theorem dX7_clear_87 : decode cX7_clear 87 = .ok (.goto 13, 3) := by decide +kernel
theorem dX7_clear_90 : decode cX7_clear 90 = .ok (.aload_n 0, 1) := by decide +kernel
theorem dX7_clear_91 : decode cX7_clear 91 = .ok (.getfield 7, 3) := by decide +kernel
theorem dX7_clear_94 : decode cX7_clear 94 = .ok (.iload_n 3, 1) := by decide +kernel
theorem dX7_clear_95 : decode cX7_clear 95 = .ok (.iconst 3, 1) := by decide +kernel
theorem dX7_clear_96 : decode cX7_clear 96 = .ok (.invokestatic 85, 3) := by decide +kernel
theorem dX7_clear_99 : decode cX7_clear 99 = .ok (.iaload, 1) := by decide +kernel
theorem dX7_clear_100 : decode cX7_clear 100 = .ok (.iastore, 1) := by decide +kernel
theorem dX7_clear_101 : decode cX7_clear 101 = .ok (.aload_n 0, 1) := by decide +kernel
theorem dX7_clear_102 : decode cX7_clear 102 = .ok (.getfield 7, 3) := by decide +kernel
theorem dX7_clear_105 : decode cX7_clear 105 = .ok (.iload_n 3, 1) := by decide +kernel
theorem dX7_clear_106 : decode cX7_clear 106 = .ok (.iconst 4, 1) := by decide +kernel
theorem dX7_clear_107 : decode cX7_clear 107 = .ok (.invokestatic 85, 3) := by decide +kernel
theorem dX7_clear_110 : decode cX7_clear 110 = .ok (.iload 4, 2) := by decide +kernel
theorem dX7_clear_112 : decode cX7_clear 112 = .ok (.ifCond .eq 8, 3) := by decide +kernel
theorem dX7_clear_115 : decode cX7_clear 115 = .ok (.bipush (-6), 2) := by decide +kernel
theorem dX7_clear_117 : decode cX7_clear 117 = .ok (.goto 13, 3) := by decide +kernel
theorem dX7_clear_120 : decode cX7_clear 120 = .ok (.aload_n 0, 1) := by decide +kernel
theorem dX7_clear_121 : decode cX7_clear 121 = .ok (.getfield 7, 3) := by decide +kernel
theorem dX7_clear_124 : decode cX7_clear 124 = .ok (.iload_n 3, 1) := by decide +kernel
theorem dX7_clear_125 : decode cX7_clear 125 = .ok (.iconst 4, 1) := by decide +kernel
theorem dX7_clear_126 : decode cX7_clear 126 = .ok (.invokestatic 85, 3) := by decide +kernel
theorem dX7_clear_129 : decode cX7_clear 129 = .ok (.iaload, 1) := by decide +kernel
theorem dX7_clear_130 : decode cX7_clear 130 = .ok (.iastore, 1) := by decide +kernel
theorem dX7_clear_131 : decode cX7_clear 131 = .ok (.iinc 3 1, 3) := by decide +kernel
theorem dX7_clear_134 : decode cX7_clear 134 = .ok (.goto (-111), 3) := by decide +kernel
theorem dX7_clear_137 : decode cX7_clear 137 = .ok (.iload_n 2, 1) := by decide +kernel
theorem dX7_clear_138 : decode cX7_clear 138 = .ok (.ireturn, 1) := by decide +kernel
theorem dX7_throwAway_0 : decode cX7_throwAway 0 = .ok (.aload_n 0, 1) := by decide +kernel
theorem dX7_throwAway_1 : decode cX7_throwAway 1 = .ok (.iload_n 1, 1) := by decide +kernel
theorem dX7_throwAway_2 : decode cX7_throwAway 2 = .ok (.invokevirtual 152, 3) := by decide +kernel
theorem dX7_throwAway_5 : decode cX7_throwAway 5 = .ok (.ifCond .ne 5, 3) := by decide +kernel
theorem dX7_throwAway_8 : decode cX7_throwAway 8 = .ok (.iconst (-1), 1) := by decide +kernel
theorem dX7_throwAway_9 : decode cX7_throwAway 9 = .ok (.ireturn, 1) := by decide +kernel
theorem dX7_throwAway_10 : decode cX7_throwAway 10 = .ok (.aload_n 0, 1) := by decide +kernel
theorem dX7_throwAway_11 : decode cX7_throwAway 11 = .ok (.iload_n 1, 1) := by decide +kernel
theorem dX7_throwAway_12 : decode cX7_throwAway 12 = .ok (.invokevirtual 155, 3) := by decide +kernel
theorem dX7_throwAway_15 : decode cX7_throwAway 15 = .ok (.ifCond .ne 6, 3) := by decide +kernel
theorem dX7_throwAway_18 : decode cX7_throwAway 18 = .ok (.bipush (-5), 2) := by decide +kernel
theorem dX7_throwAway_20 : decode cX7_throwAway 20 = .ok (.ireturn, 1) := by decide +kernel
theorem dX7_throwAway_21 : decode cX7_throwAway 21 = .ok (.aload_n 0, 1) := by decide +kernel
theorem dX7_throwAway_22 : decode cX7_throwAway 22 = .ok (.invokevirtual 122, 3) := by decide +kernel
theorem dX7_throwAway_25 : decode cX7_throwAway 25 = .ok (.aload_n 0, 1) := by decide +kernel
theorem dX7_throwAway_26 : decode cX7_throwAway 26 = .ok (.getfield 7, 3) := by decide +kernel
theorem dX7_throwAway_29 : decode cX7_throwAway 29 = .ok (.iload_n 1, 1) := by decide +kernel
theorem dX7_throwAway_30 : decode cX7_throwAway 30 = .ok (.iconst 3, 1) := by decide +kernel
theorem dX7_throwAway_31 : decode cX7_throwAway 31 = .ok (.invokestatic 85, 3) := by decide +kernel
theorem dX7_throwAway_34 : decode cX7_throwAway 34 = .ok (.iconst 2, 1) := by decide +kernel
theorem dX7_throwAway_35 : decode cX7_throwAway 35 = .ok (.iastore, 1) := by decide +kernel
theorem dX7_throwAway_36 : decode cX7_throwAway 36 = .ok (.aload_n 0, 1) := by decide +kernel
theorem dX7_throwAway_37 : decode cX7_throwAway 37 = .ok (.getfield 7, 3) := by decide +kernel
theorem dX7_throwAway_40 : decode cX7_throwAway 40 = .ok (.iconst 2, 1) := by decide +kernel
theorem dX7_throwAway_41 : decode cX7_throwAway 41 = .ok (.dup2, 1) := by decide +kernel
theorem dX7_throwAway_42 : decode cX7_throwAway 42 = .ok (.iaload, 1) := by decide +kernel
theorem dX7_throwAway_43 : decode cX7_throwAway 43 = .ok (.aload_n 0, 1) := by decide +kernel
theorem dX7_throwAway_44 : decode cX7_throwAway 44 = .ok (.aload_n 0, 1) := by decide +kernel
theorem dX7_throwAway_45 : decode cX7_throwAway 45 = .ok (.getfield 7, 3) := by decide +kernel
theorem dX7_throwAway_48 : decode cX7_throwAway 48 = .ok (.iload_n 1, 1) := by decide +kernel
theorem dX7_throwAway_49 : decode cX7_throwAway 49 = .ok (.iconst 0, 1) := by decide +kernel
theorem dX7_throwAway_50 : decode cX7_throwAway 50 = .ok (.invokestatic 85, 3) := by decide +kernel
theorem dX7_throwAway_53 : decode cX7_throwAway 53 = .ok (.iaload, 1) := by decide +kernel
theorem dX7_throwAway_54 : decode cX7_throwAway 54 = .ok (.invokevirtual 161, 3) := by decide +kernel
theorem dX7_throwAway_57 : decode cX7_throwAway 57 = .ok (.iadd, 1) := by decide +kernel
theorem dX7_throwAway_58 : decode cX7_throwAway 58 = .ok (.iastore, 1) := by decide +kernel
theorem dX7_throwAway_59 : decode cX7_throwAway 59 = .ok (.aload_n 0, 1) := by decide +kernel
theorem dX7_throwAway_60 : decode cX7_throwAway 60 = .ok (.aload_n 0, 1) := by decide +kernel
theorem dX7_throwAway_61 : decode cX7_throwAway 61 = .ok (.getfield 7, 3) := by decide +kernel
theorem dX7_throwAway_64 : decode cX7_throwAway 64 = .ok (.iload_n 1, 1) := by decide +kernel
theorem dX7_throwAway_65 : decode cX7_throwAway 65 = .ok (.iconst 0, 1) := by decide +kernel
theorem dX7_throwAway_66 : decode cX7_throwAway 66 = .ok (.invokestatic 85, 3) := by decide +kernel
theorem dX7_throwAway_69 : decode cX7_throwAway 69 = .ok (.iaload, 1) := by decide +kernel
theorem dX7_throwAway_70 : decode cX7_throwAway 70 = .ok (.invokevirtual 161, 3) := by decide +kernel
theorem dX7_throwAway_73 : decode cX7_throwAway 73 = .ok (.ireturn, 1) := by decide +kernel
theorem dX7_scrap_0 : decode cX7_scrap 0 = .ok (.aload_n 0, 1) := by decide +kernel
theorem dX7_scrap_1 : decode cX7_scrap 1 = .ok (.iload_n 1, 1) := by decide +kernel
theorem dX7_scrap_2 : decode cX7_scrap 2 = .ok (.invokevirtual 125, 3) := by decide +kernel
theorem dX7_scrap_5 : decode cX7_scrap 5 = .ok (.ifCond .ne 5, 3) := by decide +kernel
theorem dX7_scrap_8 : decode cX7_scrap 8 = .ok (.iconst (-1), 1) := by decide +kernel
theorem dX7_scrap_9 : decode cX7_scrap 9 = .ok (.ireturn, 1) := by decide +kernel
theorem dX7_scrap_10 : decode cX7_scrap 10 = .ok (.aload_n 0, 1) := by decide +kernel
theorem dX7_scrap_11 : decode cX7_scrap 11 = .ok (.getfield 7, 3) := by decide +kernel
theorem dX7_scrap_14 : decode cX7_scrap 14 = .ok (.iload_n 1, 1) := by decide +kernel
theorem dX7_scrap_15 : decode cX7_scrap 15 = .ok (.iconst 1, 1) := by decide +kernel
theorem dX7_scrap_16 : decode cX7_scrap 16 = .ok (.invokestatic 70, 3) := by decide +kernel
theorem dX7_scrap_19 : decode cX7_scrap 19 = .ok (.iaload, 1) := by decide +kernel
theorem dX7_scrap_20 : decode cX7_scrap 20 = .ok (.iconst 1, 1) := by decide +kernel
theorem dX7_scrap_21 : decode cX7_scrap 21 = .ok (.if_icmp .ne 6, 3) := by decide +kernel
theorem dX7_scrap_24 : decode cX7_scrap 24 = .ok (.bipush (-5), 2) := by decide +kernel
theorem dX7_scrap_26 : decode cX7_scrap 26 = .ok (.ireturn, 1) := by decide +kernel
theorem dX7_scrap_27 : decode cX7_scrap 27 = .ok (.aload_n 0, 1) := by decide +kernel
theorem dX7_scrap_28 : decode cX7_scrap 28 = .ok (.invokevirtual 122, 3) := by decide +kernel
theorem dX7_scrap_31 : decode cX7_scrap 31 = .ok (.aload_n 0, 1) := by decide +kernel
theorem dX7_scrap_32 : decode cX7_scrap 32 = .ok (.getfield 7, 3) := by decide +kernel
theorem dX7_scrap_35 : decode cX7_scrap 35 = .ok (.iload_n 1, 1) := by decide +kernel
theorem dX7_scrap_36 : decode cX7_scrap 36 = .ok (.iconst 1, 1) := by decide +kernel
theorem dX7_scrap_37 : decode cX7_scrap 37 = .ok (.invokestatic 70, 3) := by decide +kernel
theorem dX7_scrap_40 : decode cX7_scrap 40 = .ok (.iconst 1, 1) := by decide +kernel
theorem dX7_scrap_41 : decode cX7_scrap 41 = .ok (.iastore, 1) := by decide +kernel
theorem dX7_scrap_42 : decode cX7_scrap 42 = .ok (.aload_n 0, 1) := by decide +kernel
theorem dX7_scrap_43 : decode cX7_scrap 43 = .ok (.getfield 7, 3) := by decide +kernel
theorem dX7_scrap_46 : decode cX7_scrap 46 = .ok (.iconst 2, 1) := by decide +kernel
theorem dX7_scrap_47 : decode cX7_scrap 47 = .ok (.dup2, 1) := by decide +kernel
theorem dX7_scrap_48 : decode cX7_scrap 48 = .ok (.iaload, 1) := by decide +kernel
theorem dX7_scrap_49 : decode cX7_scrap 49 = .ok (.aload_n 0, 1) := by decide +kernel
theorem dX7_scrap_50 : decode cX7_scrap 50 = .ok (.iload_n 1, 1) := by decide +kernel
theorem dX7_scrap_51 : decode cX7_scrap 51 = .ok (.invokevirtual 164, 3) := by decide +kernel
theorem dX7_scrap_54 : decode cX7_scrap 54 = .ok (.iadd, 1) := by decide +kernel
theorem dX7_scrap_55 : decode cX7_scrap 55 = .ok (.iastore, 1) := by decide +kernel
theorem dX7_scrap_56 : decode cX7_scrap 56 = .ok (.aload_n 0, 1) := by decide +kernel
theorem dX7_scrap_57 : decode cX7_scrap 57 = .ok (.iload_n 1, 1) := by decide +kernel
theorem dX7_scrap_58 : decode cX7_scrap 58 = .ok (.invokevirtual 164, 3) := by decide +kernel
theorem dX7_scrap_61 : decode cX7_scrap 61 = .ok (.ireturn, 1) := by decide +kernel
theorem dX7_of_0 : decode cX7_of 0 = .ok (.aload_n 0, 1) := by decide +kernel
theorem dX7_of_1 : decode cX7_of 1 = .ok (.iload_n 1, 1) := by decide +kernel
theorem dX7_of_2 : decode cX7_of 2 = .ok (.invokevirtual 152, 3) := by decide +kernel
theorem dX7_of_5 : decode cX7_of 5 = .ok (.ifCond .ne 7, 3) := by decide +kernel
theorem dX7_of_8 : decode cX7_of 8 = .ok (.iconst (-1), 1) := by decide +kernel
theorem dX7_of_9 : decode cX7_of 9 = .ok (.goto 28, 3) := by decide +kernel
theorem dX7_of_12 : decode cX7_of 12 = .ok (.iload_n 2, 1) := by decide +kernel
theorem dX7_of_13 : decode cX7_of 13 = .ok (.iconst 0, 1) := by decide +kernel
theorem dX7_of_14 : decode cX7_of 14 = .ok (.bipush 7, 2) := by decide +kernel
theorem dX7_of_16 : decode cX7_of 16 = .ok (.invokestatic 66, 3) := by decide +kernel
theorem dX7_of_19 : decode cX7_of 19 = .ok (.ifCond .eq 16, 3) := by decide +kernel
theorem dX7_of_22 : decode cX7_of 22 = .ok (.aload_n 0, 1) := by decide +kernel
theorem dX7_of_23 : decode cX7_of 23 = .ok (.getfield 7, 3) := by decide +kernel
theorem dX7_of_26 : decode cX7_of 26 = .ok (.iload_n 1, 1) := by decide +kernel
theorem dX7_of_27 : decode cX7_of 27 = .ok (.iload_n 2, 1) := by decide +kernel
theorem dX7_of_28 : decode cX7_of 28 = .ok (.invokestatic 85, 3) := by decide +kernel
theorem dX7_of_31 : decode cX7_of 31 = .ok (.iaload, 1) := by decide +kernel
theorem dX7_of_32 : decode cX7_of 32 = .ok (.goto 5, 3) := by decide +kernel
theorem dX7_of_35 : decode cX7_of 35 = .ok (.bipush (-2), 2) := by decide +kernel
theorem dX7_of_37 : decode cX7_of 37 = .ok (.ireturn, 1) := by decide +kernel
theorem dX7_piecesFrom_0 : decode cX7_piecesFrom 0 = .ok (.iconst 0, 1) := by decide +kernel
theorem dX7_piecesFrom_1 : decode cX7_piecesFrom 1 = .ok (.istore_n 2, 1) := by decide +kernel
theorem dX7_piecesFrom_2 : decode cX7_piecesFrom 2 = .ok (.iconst 0, 1) := by decide +kernel
theorem dX7_piecesFrom_3 : decode cX7_piecesFrom 3 = .ok (.istore_n 3, 1) := by decide +kernel
theorem dX7_piecesFrom_4 : decode cX7_piecesFrom 4 = .ok (.iload_n 3, 1) := by decide +kernel
theorem dX7_piecesFrom_5 : decode cX7_piecesFrom 5 = .ok (.aload_n 0, 1) := by decide +kernel
theorem dX7_piecesFrom_6 : decode cX7_piecesFrom 6 = .ok (.getfield 7, 3) := by decide +kernel
theorem dX7_piecesFrom_9 : decode cX7_piecesFrom 9 = .ok (.iconst 1, 1) := by decide +kernel
theorem dX7_piecesFrom_10 : decode cX7_piecesFrom 10 = .ok (.iaload, 1) := by decide +kernel
theorem dX7_piecesFrom_11 : decode cX7_piecesFrom 11 = .ok (.if_icmp .ge 31, 3) := by decide +kernel
theorem dX7_piecesFrom_14 : decode cX7_piecesFrom 14 = .ok (.iload_n 2, 1) := by decide +kernel
theorem dX7_piecesFrom_15 : decode cX7_piecesFrom 15 = .ok (.aload_n 0, 1) := by decide +kernel
theorem dX7_piecesFrom_16 : decode cX7_piecesFrom 16 = .ok (.getfield 7, 3) := by decide +kernel
theorem dX7_piecesFrom_19 : decode cX7_piecesFrom 19 = .ok (.iload_n 3, 1) := by decide +kernel
theorem dX7_piecesFrom_20 : decode cX7_piecesFrom 20 = .ok (.iconst 5, 1) := by decide +kernel
theorem dX7_piecesFrom_21 : decode cX7_piecesFrom 21 = .ok (.invokestatic 85, 3) := by decide +kernel
theorem dX7_piecesFrom_24 : decode cX7_piecesFrom 24 = .ok (.iaload, 1) := by decide +kernel
theorem dX7_piecesFrom_25 : decode cX7_piecesFrom 25 = .ok (.iload_n 1, 1) := by decide +kernel
theorem dX7_piecesFrom_26 : decode cX7_piecesFrom 26 = .ok (.if_icmp .ne 7, 3) := by decide +kernel
theorem dX7_piecesFrom_29 : decode cX7_piecesFrom 29 = .ok (.iconst 1, 1) := by decide +kernel
theorem dX7_piecesFrom_30 : decode cX7_piecesFrom 30 = .ok (.goto 4, 3) := by decide +kernel
theorem dX7_piecesFrom_33 : decode cX7_piecesFrom 33 = .ok (.iconst 0, 1) := by decide +kernel
theorem dX7_piecesFrom_34 : decode cX7_piecesFrom 34 = .ok (.iadd, 1) := by decide +kernel
theorem dX7_piecesFrom_35 : decode cX7_piecesFrom 35 = .ok (.istore_n 2, 1) := by decide +kernel
theorem dX7_piecesFrom_36 : decode cX7_piecesFrom 36 = .ok (.iinc 3 1, 3) := by decide +kernel
theorem dX7_piecesFrom_39 : decode cX7_piecesFrom 39 = .ok (.goto (-35), 3) := by decide +kernel
theorem dX7_piecesFrom_42 : decode cX7_piecesFrom 42 = .ok (.iload_n 2, 1) := by decide +kernel
theorem dX7_piecesFrom_43 : decode cX7_piecesFrom 43 = .ok (.ireturn, 1) := by decide +kernel
theorem dX7_lettersThatFit_0 : decode cX7_lettersThatFit 0 = .ok (.iconst 0, 1) := by decide +kernel
theorem dX7_lettersThatFit_1 : decode cX7_lettersThatFit 1 = .ok (.istore_n 2, 1) := by decide +kernel
theorem dX7_lettersThatFit_2 : decode cX7_lettersThatFit 2 = .ok (.iconst 0, 1) := by decide +kernel
theorem dX7_lettersThatFit_3 : decode cX7_lettersThatFit 3 = .ok (.istore_n 3, 1) := by decide +kernel
theorem dX7_lettersThatFit_4 : decode cX7_lettersThatFit 4 = .ok (.iload_n 3, 1) := by decide +kernel
theorem dX7_lettersThatFit_5 : decode cX7_lettersThatFit 5 = .ok (.bipush 8, 2) := by decide +kernel
theorem dX7_lettersThatFit_7 : decode cX7_lettersThatFit 7 = .ok (.if_icmp .ge 39, 3) := by decide +kernel
theorem dX7_lettersThatFit_10 : decode cX7_lettersThatFit 10 = .ok (.iload_n 2, 1) := by decide +kernel
theorem dX7_lettersThatFit_11 : decode cX7_lettersThatFit 11 = .ok (.aload_n 0, 1) := by decide +kernel
theorem dX7_lettersThatFit_12 : decode cX7_lettersThatFit 12 = .ok (.iload_n 1, 1) := by decide +kernel
theorem dX7_lettersThatFit_13 : decode cX7_lettersThatFit 13 = .ok (.iload_n 3, 1) := by decide +kernel
theorem dX7_lettersThatFit_14 : decode cX7_lettersThatFit 14 = .ok (.iconst 0, 1) := by decide +kernel
theorem dX7_lettersThatFit_15 : decode cX7_lettersThatFit 15 = .ok (.invokevirtual 78, 3) := by decide +kernel
theorem dX7_lettersThatFit_18 : decode cX7_lettersThatFit 18 = .ok (.ifCond .ne 13, 3) := by decide +kernel
theorem dX7_lettersThatFit_21 : decode cX7_lettersThatFit 21 = .ok (.aload_n 0, 1) := by decide +kernel
theorem dX7_lettersThatFit_22 : decode cX7_lettersThatFit 22 = .ok (.iload_n 1, 1) := by decide +kernel
theorem dX7_lettersThatFit_23 : decode cX7_lettersThatFit 23 = .ok (.iload_n 3, 1) := by decide +kernel
theorem dX7_lettersThatFit_24 : decode cX7_lettersThatFit 24 = .ok (.iconst 1, 1) := by decide +kernel
theorem dX7_lettersThatFit_25 : decode cX7_lettersThatFit 25 = .ok (.invokevirtual 78, 3) := by decide +kernel
theorem dX7_lettersThatFit_28 : decode cX7_lettersThatFit 28 = .ok (.ifCond .eq 9, 3) := by decide +kernel
theorem dX7_lettersThatFit_31 : decode cX7_lettersThatFit 31 = .ok (.iconst 1, 1) := by decide +kernel
theorem dX7_lettersThatFit_32 : decode cX7_lettersThatFit 32 = .ok (.iload_n 3, 1) := by decide +kernel
theorem dX7_lettersThatFit_33 : decode cX7_lettersThatFit 33 = .ok (.ishl, 1) := by decide +kernel
theorem dX7_lettersThatFit_34 : decode cX7_lettersThatFit 34 = .ok (.goto 4, 3) := by decide +kernel
theorem dX7_lettersThatFit_37 : decode cX7_lettersThatFit 37 = .ok (.iconst 0, 1) := by decide +kernel
theorem dX7_lettersThatFit_38 : decode cX7_lettersThatFit 38 = .ok (.ior, 1) := by decide +kernel
theorem dX7_lettersThatFit_39 : decode cX7_lettersThatFit 39 = .ok (.istore_n 2, 1) := by decide +kernel
theorem dX7_lettersThatFit_40 : decode cX7_lettersThatFit 40 = .ok (.iinc 3 1, 3) := by decide +kernel
theorem dX7_lettersThatFit_43 : decode cX7_lettersThatFit 43 = .ok (.goto (-39), 3) := by decide +kernel
theorem dX7_lettersThatFit_46 : decode cX7_lettersThatFit 46 = .ok (.iload_n 2, 1) := by decide +kernel
theorem dX7_lettersThatFit_47 : decode cX7_lettersThatFit 47 = .ok (.ireturn, 1) := by decide +kernel
theorem dX7_ofSheet_0 : decode cX7_ofSheet 0 = .ok (.aload_n 0, 1) := by decide +kernel
theorem dX7_ofSheet_1 : decode cX7_ofSheet 1 = .ok (.iload_n 1, 1) := by decide +kernel
theorem dX7_ofSheet_2 : decode cX7_ofSheet 2 = .ok (.invokevirtual 125, 3) := by decide +kernel
theorem dX7_ofSheet_5 : decode cX7_ofSheet 5 = .ok (.ifCond .ne 5, 3) := by decide +kernel
theorem dX7_ofSheet_8 : decode cX7_ofSheet 8 = .ok (.iconst (-1), 1) := by decide +kernel
theorem dX7_ofSheet_9 : decode cX7_ofSheet 9 = .ok (.ireturn, 1) := by decide +kernel
theorem dX7_ofSheet_10 : decode cX7_ofSheet 10 = .ok (.iload_n 2, 1) := by decide +kernel
theorem dX7_ofSheet_11 : decode cX7_ofSheet 11 = .ok (.tableswitch 73 0 4 #[33, 44, 50, 56, 67], 33) := by decide +kernel
theorem dX7_ofSheet_44 : decode cX7_ofSheet 44 = .ok (.aload_n 0, 1) := by decide +kernel
theorem dX7_ofSheet_45 : decode cX7_ofSheet 45 = .ok (.getfield 7, 3) := by decide +kernel
theorem dX7_ofSheet_48 : decode cX7_ofSheet 48 = .ok (.iload_n 1, 1) := by decide +kernel
theorem dX7_ofSheet_49 : decode cX7_ofSheet 49 = .ok (.iconst 0, 1) := by decide +kernel
theorem dX7_ofSheet_50 : decode cX7_ofSheet 50 = .ok (.invokestatic 70, 3) := by decide +kernel
theorem dX7_ofSheet_53 : decode cX7_ofSheet 53 = .ok (.iaload, 1) := by decide +kernel
theorem dX7_ofSheet_54 : decode cX7_ofSheet 54 = .ok (.ireturn, 1) := by decide +kernel
theorem dX7_ofSheet_55 : decode cX7_ofSheet 55 = .ok (.aload_n 0, 1) := by decide +kernel
theorem dX7_ofSheet_56 : decode cX7_ofSheet 56 = .ok (.iload_n 1, 1) := by decide +kernel
theorem dX7_ofSheet_57 : decode cX7_ofSheet 57 = .ok (.invokevirtual 164, 3) := by decide +kernel
theorem dX7_ofSheet_60 : decode cX7_ofSheet 60 = .ok (.ireturn, 1) := by decide +kernel
theorem dX7_ofSheet_61 : decode cX7_ofSheet 61 = .ok (.aload_n 0, 1) := by decide +kernel
theorem dX7_ofSheet_62 : decode cX7_ofSheet 62 = .ok (.iload_n 1, 1) := by decide +kernel
theorem dX7_ofSheet_63 : decode cX7_ofSheet 63 = .ok (.invokevirtual 167, 3) := by decide +kernel
theorem dX7_ofSheet_66 : decode cX7_ofSheet 66 = .ok (.ireturn, 1) := by decide +kernel
theorem dX7_ofSheet_67 : decode cX7_ofSheet 67 = .ok (.aload_n 0, 1) := by decide +kernel
theorem dX7_ofSheet_68 : decode cX7_ofSheet 68 = .ok (.getfield 7, 3) := by decide +kernel
theorem dX7_ofSheet_71 : decode cX7_ofSheet 71 = .ok (.iload_n 1, 1) := by decide +kernel
theorem dX7_ofSheet_72 : decode cX7_ofSheet 72 = .ok (.iconst 1, 1) := by decide +kernel
theorem dX7_ofSheet_73 : decode cX7_ofSheet 73 = .ok (.invokestatic 70, 3) := by decide +kernel
theorem dX7_ofSheet_76 : decode cX7_ofSheet 76 = .ok (.iaload, 1) := by decide +kernel
theorem dX7_ofSheet_77 : decode cX7_ofSheet 77 = .ok (.ireturn, 1) := by decide +kernel
theorem dX7_ofSheet_78 : decode cX7_ofSheet 78 = .ok (.aload_n 0, 1) := by decide +kernel
theorem dX7_ofSheet_79 : decode cX7_ofSheet 79 = .ok (.iload_n 1, 1) := by decide +kernel
theorem dX7_ofSheet_80 : decode cX7_ofSheet 80 = .ok (.invokevirtual 170, 3) := by decide +kernel
theorem dX7_ofSheet_83 : decode cX7_ofSheet 83 = .ok (.ireturn, 1) := by decide +kernel
theorem dX7_ofSheet_84 : decode cX7_ofSheet 84 = .ok (.bipush (-2), 2) := by decide +kernel
theorem dX7_ofSheet_86 : decode cX7_ofSheet 86 = .ok (.ireturn, 1) := by decide +kernel
theorem dX7_row_0 : decode cX7_row 0 = .ok (.aload_n 0, 1) := by decide +kernel
theorem dX7_row_1 : decode cX7_row 1 = .ok (.iload_n 1, 1) := by decide +kernel
theorem dX7_row_2 : decode cX7_row 2 = .ok (.invokevirtual 125, 3) := by decide +kernel
theorem dX7_row_5 : decode cX7_row 5 = .ok (.ifCond .eq 28, 3) := by decide +kernel
theorem dX7_row_8 : decode cX7_row 8 = .ok (.iload_n 2, 1) := by decide +kernel
theorem dX7_row_9 : decode cX7_row 9 = .ok (.iconst 0, 1) := by decide +kernel
theorem dX7_row_10 : decode cX7_row 10 = .ok (.bipush 8, 2) := by decide +kernel
theorem dX7_row_12 : decode cX7_row 12 = .ok (.invokestatic 66, 3) := by decide +kernel
theorem dX7_row_15 : decode cX7_row 15 = .ok (.ifCond .eq 18, 3) := by decide +kernel
theorem dX7_row_18 : decode cX7_row 18 = .ok (.aload_n 0, 1) := by decide +kernel
theorem dX7_row_19 : decode cX7_row 19 = .ok (.getfield 7, 3) := by decide +kernel
theorem dX7_row_22 : decode cX7_row 22 = .ok (.iload_n 1, 1) := by decide +kernel
theorem dX7_row_23 : decode cX7_row 23 = .ok (.iconst 2, 1) := by decide +kernel
theorem dX7_row_24 : decode cX7_row 24 = .ok (.iload_n 2, 1) := by decide +kernel
theorem dX7_row_25 : decode cX7_row 25 = .ok (.iadd, 1) := by decide +kernel
theorem dX7_row_26 : decode cX7_row 26 = .ok (.invokestatic 70, 3) := by decide +kernel
theorem dX7_row_29 : decode cX7_row 29 = .ok (.iaload, 1) := by decide +kernel
theorem dX7_row_30 : decode cX7_row 30 = .ok (.goto 4, 3) := by decide +kernel
theorem dX7_row_33 : decode cX7_row 33 = .ok (.iconst (-1), 1) := by decide +kernel
theorem dX7_row_34 : decode cX7_row 34 = .ok (.ireturn, 1) := by decide +kernel
theorem dX7_pane_0 : decode cX7_pane 0 = .ok (.iload_n 1, 1) := by decide +kernel
theorem dX7_pane_1 : decode cX7_pane 1 = .ok (.iload_n 2, 1) := by decide +kernel
theorem dX7_pane_2 : decode cX7_pane 2 = .ok (.invokestatic 141, 3) := by decide +kernel
theorem dX7_pane_5 : decode cX7_pane 5 = .ok (.ifCond .eq 12, 3) := by decide +kernel
theorem dX7_pane_8 : decode cX7_pane 8 = .ok (.aload_n 0, 1) := by decide +kernel
theorem dX7_pane_9 : decode cX7_pane 9 = .ok (.iload_n 1, 1) := by decide +kernel
theorem dX7_pane_10 : decode cX7_pane 10 = .ok (.iload_n 2, 1) := by decide +kernel
theorem dX7_pane_11 : decode cX7_pane 11 = .ok (.invokevirtual 88, 3) := by decide +kernel
theorem dX7_pane_14 : decode cX7_pane 14 = .ok (.goto 4, 3) := by decide +kernel
theorem dX7_pane_17 : decode cX7_pane 17 = .ok (.iconst (-1), 1) := by decide +kernel
theorem dX7_pane_18 : decode cX7_pane 18 = .ok (.ireturn, 1) := by decide +kernel
theorem dX7_shape_0 : decode cX7_shape 0 = .ok (.iload_n 1, 1) := by decide +kernel
theorem dX7_shape_1 : decode cX7_shape 1 = .ok (.invokestatic 128, 3) := by decide +kernel
theorem dX7_shape_4 : decode cX7_shape 4 = .ok (.ifCond .ne 5, 3) := by decide +kernel
theorem dX7_shape_7 : decode cX7_shape 7 = .ok (.iconst (-1), 1) := by decide +kernel
theorem dX7_shape_8 : decode cX7_shape 8 = .ok (.ireturn, 1) := by decide +kernel
theorem dX7_shape_9 : decode cX7_shape 9 = .ok (.iload_n 2, 1) := by decide +kernel
theorem dX7_shape_10 : decode cX7_shape 10 = .ok (.iconst 0, 1) := by decide +kernel
theorem dX7_shape_11 : decode cX7_shape 11 = .ok (.bipush 7, 2) := by decide +kernel
theorem dX7_shape_13 : decode cX7_shape 13 = .ok (.invokestatic 66, 3) := by decide +kernel
theorem dX7_shape_16 : decode cX7_shape 16 = .ok (.ifCond .eq 22, 3) := by decide +kernel
theorem dX7_shape_19 : decode cX7_shape 19 = .ok (.iload_n 3, 1) := by decide +kernel
theorem dX7_shape_20 : decode cX7_shape 20 = .ok (.iconst 0, 1) := by decide +kernel
theorem dX7_shape_21 : decode cX7_shape 21 = .ok (.iconst 4, 1) := by decide +kernel
theorem dX7_shape_22 : decode cX7_shape 22 = .ok (.invokestatic 66, 3) := by decide +kernel
theorem dX7_shape_25 : decode cX7_shape 25 = .ok (.ifCond .eq 13, 3) := by decide +kernel
theorem dX7_shape_28 : decode cX7_shape 28 = .ok (.aload_n 0, 1) := by decide +kernel
theorem dX7_shape_29 : decode cX7_shape 29 = .ok (.iload_n 1, 1) := by decide +kernel
theorem dX7_shape_30 : decode cX7_shape 30 = .ok (.iload_n 2, 1) := by decide +kernel
theorem dX7_shape_31 : decode cX7_shape 31 = .ok (.iload_n 3, 1) := by decide +kernel
theorem dX7_shape_32 : decode cX7_shape 32 = .ok (.invokevirtual 60, 3) := by decide +kernel
theorem dX7_shape_35 : decode cX7_shape 35 = .ok (.goto 5, 3) := by decide +kernel
theorem dX7_shape_38 : decode cX7_shape 38 = .ok (.bipush (-2), 2) := by decide +kernel
theorem dX7_shape_40 : decode cX7_shape 40 = .ok (.ireturn, 1) := by decide +kernel
theorem dX7_piecesThatAre_0 : decode cX7_piecesThatAre 0 = .ok (.iconst 0, 1) := by decide +kernel
theorem dX7_piecesThatAre_1 : decode cX7_piecesThatAre 1 = .ok (.istore_n 2, 1) := by decide +kernel
theorem dX7_piecesThatAre_2 : decode cX7_piecesThatAre 2 = .ok (.iconst 0, 1) := by decide +kernel
theorem dX7_piecesThatAre_3 : decode cX7_piecesThatAre 3 = .ok (.istore_n 3, 1) := by decide +kernel
theorem dX7_piecesThatAre_4 : decode cX7_piecesThatAre 4 = .ok (.iload_n 3, 1) := by decide +kernel
theorem dX7_piecesThatAre_5 : decode cX7_piecesThatAre 5 = .ok (.aload_n 0, 1) := by decide +kernel
theorem dX7_piecesThatAre_6 : decode cX7_piecesThatAre 6 = .ok (.getfield 7, 3) := by decide +kernel
theorem dX7_piecesThatAre_9 : decode cX7_piecesThatAre 9 = .ok (.iconst 1, 1) := by decide +kernel
theorem dX7_piecesThatAre_10 : decode cX7_piecesThatAre 10 = .ok (.iaload, 1) := by decide +kernel
theorem dX7_piecesThatAre_11 : decode cX7_piecesThatAre 11 = .ok (.if_icmp .ge 31, 3) := by decide +kernel
theorem dX7_piecesThatAre_14 : decode cX7_piecesThatAre 14 = .ok (.iload_n 2, 1) := by decide +kernel
theorem dX7_piecesThatAre_15 : decode cX7_piecesThatAre 15 = .ok (.aload_n 0, 1) := by decide +kernel
theorem dX7_piecesThatAre_16 : decode cX7_piecesThatAre 16 = .ok (.getfield 7, 3) := by decide +kernel
theorem dX7_piecesThatAre_19 : decode cX7_piecesThatAre 19 = .ok (.iload_n 3, 1) := by decide +kernel
theorem dX7_piecesThatAre_20 : decode cX7_piecesThatAre 20 = .ok (.iconst 3, 1) := by decide +kernel
theorem dX7_piecesThatAre_21 : decode cX7_piecesThatAre 21 = .ok (.invokestatic 85, 3) := by decide +kernel
theorem dX7_piecesThatAre_24 : decode cX7_piecesThatAre 24 = .ok (.iaload, 1) := by decide +kernel
theorem dX7_piecesThatAre_25 : decode cX7_piecesThatAre 25 = .ok (.iload_n 1, 1) := by decide +kernel
theorem dX7_piecesThatAre_26 : decode cX7_piecesThatAre 26 = .ok (.if_icmp .ne 7, 3) := by decide +kernel
theorem dX7_piecesThatAre_29 : decode cX7_piecesThatAre 29 = .ok (.iconst 1, 1) := by decide +kernel
theorem dX7_piecesThatAre_30 : decode cX7_piecesThatAre 30 = .ok (.goto 4, 3) := by decide +kernel
theorem dX7_piecesThatAre_33 : decode cX7_piecesThatAre 33 = .ok (.iconst 0, 1) := by decide +kernel
theorem dX7_piecesThatAre_34 : decode cX7_piecesThatAre 34 = .ok (.iadd, 1) := by decide +kernel
theorem dX7_piecesThatAre_35 : decode cX7_piecesThatAre 35 = .ok (.istore_n 2, 1) := by decide +kernel
theorem dX7_piecesThatAre_36 : decode cX7_piecesThatAre 36 = .ok (.iinc 3 1, 3) := by decide +kernel
theorem dX7_piecesThatAre_39 : decode cX7_piecesThatAre 39 = .ok (.goto (-35), 3) := by decide +kernel
theorem dX7_piecesThatAre_42 : decode cX7_piecesThatAre 42 = .ok (.iload_n 2, 1) := by decide +kernel
theorem dX7_piecesThatAre_43 : decode cX7_piecesThatAre 43 = .ok (.ireturn, 1) := by decide +kernel
theorem dX7_squaresOfPieces_0 : decode cX7_squaresOfPieces 0 = .ok (.iconst 0, 1) := by decide +kernel
theorem dX7_squaresOfPieces_1 : decode cX7_squaresOfPieces 1 = .ok (.istore_n 1, 1) := by decide +kernel
theorem dX7_squaresOfPieces_2 : decode cX7_squaresOfPieces 2 = .ok (.iconst 0, 1) := by decide +kernel
theorem dX7_squaresOfPieces_3 : decode cX7_squaresOfPieces 3 = .ok (.istore_n 2, 1) := by decide +kernel
theorem dX7_squaresOfPieces_4 : decode cX7_squaresOfPieces 4 = .ok (.iload_n 2, 1) := by decide +kernel
theorem dX7_squaresOfPieces_5 : decode cX7_squaresOfPieces 5 = .ok (.aload_n 0, 1) := by decide +kernel
theorem dX7_squaresOfPieces_6 : decode cX7_squaresOfPieces 6 = .ok (.getfield 7, 3) := by decide +kernel
theorem dX7_squaresOfPieces_9 : decode cX7_squaresOfPieces 9 = .ok (.iconst 1, 1) := by decide +kernel
theorem dX7_squaresOfPieces_10 : decode cX7_squaresOfPieces 10 = .ok (.iaload, 1) := by decide +kernel
theorem dX7_squaresOfPieces_11 : decode cX7_squaresOfPieces 11 = .ok (.if_icmp .ge 44, 3) := by decide +kernel
theorem dX7_squaresOfPieces_14 : decode cX7_squaresOfPieces 14 = .ok (.iload_n 1, 1) := by decide +kernel
theorem dX7_squaresOfPieces_15 : decode cX7_squaresOfPieces 15 = .ok (.aload_n 0, 1) := by decide +kernel
theorem dX7_squaresOfPieces_16 : decode cX7_squaresOfPieces 16 = .ok (.getfield 7, 3) := by decide +kernel
theorem dX7_squaresOfPieces_19 : decode cX7_squaresOfPieces 19 = .ok (.iload_n 2, 1) := by decide +kernel
theorem dX7_squaresOfPieces_20 : decode cX7_squaresOfPieces 20 = .ok (.iconst 3, 1) := by decide +kernel
theorem dX7_squaresOfPieces_21 : decode cX7_squaresOfPieces 21 = .ok (.invokestatic 85, 3) := by decide +kernel
theorem dX7_squaresOfPieces_24 : decode cX7_squaresOfPieces 24 = .ok (.iaload, 1) := by decide +kernel
theorem dX7_squaresOfPieces_25 : decode cX7_squaresOfPieces 25 = .ok (.iconst 2, 1) := by decide +kernel
theorem dX7_squaresOfPieces_26 : decode cX7_squaresOfPieces 26 = .ok (.if_icmp .ne 7, 3) := by decide +kernel
theorem dX7_squaresOfPieces_29 : decode cX7_squaresOfPieces 29 = .ok (.iconst 0, 1) := by decide +kernel
theorem dX7_squaresOfPieces_30 : decode cX7_squaresOfPieces 30 = .ok (.goto 17, 3) := by decide +kernel
theorem dX7_squaresOfPieces_33 : decode cX7_squaresOfPieces 33 = .ok (.aload_n 0, 1) := by decide +kernel
theorem dX7_squaresOfPieces_34 : decode cX7_squaresOfPieces 34 = .ok (.aload_n 0, 1) := by decide +kernel
theorem dX7_squaresOfPieces_35 : decode cX7_squaresOfPieces 35 = .ok (.getfield 7, 3) := by decide +kernel
theorem dX7_squaresOfPieces_38 : decode cX7_squaresOfPieces 38 = .ok (.iload_n 2, 1) := by decide +kernel
theorem dX7_squaresOfPieces_39 : decode cX7_squaresOfPieces 39 = .ok (.iconst 0, 1) := by decide +kernel
theorem dX7_squaresOfPieces_40 : decode cX7_squaresOfPieces 40 = .ok (.invokestatic 85, 3) := by decide +kernel
theorem dX7_squaresOfPieces_43 : decode cX7_squaresOfPieces 43 = .ok (.iaload, 1) := by decide +kernel
theorem dX7_squaresOfPieces_44 : decode cX7_squaresOfPieces 44 = .ok (.invokevirtual 161, 3) := by decide +kernel
theorem dX7_squaresOfPieces_47 : decode cX7_squaresOfPieces 47 = .ok (.iadd, 1) := by decide +kernel
theorem dX7_squaresOfPieces_48 : decode cX7_squaresOfPieces 48 = .ok (.istore_n 1, 1) := by decide +kernel
theorem dX7_squaresOfPieces_49 : decode cX7_squaresOfPieces 49 = .ok (.iinc 2 1, 3) := by decide +kernel
theorem dX7_squaresOfPieces_52 : decode cX7_squaresOfPieces 52 = .ok (.goto (-48), 3) := by decide +kernel
theorem dX7_squaresOfPieces_55 : decode cX7_squaresOfPieces 55 = .ok (.iload_n 1, 1) := by decide +kernel
theorem dX7_squaresOfPieces_56 : decode cX7_squaresOfPieces 56 = .ok (.ireturn, 1) := by decide +kernel
theorem dX7_squaresOfSheets_0 : decode cX7_squaresOfSheets 0 = .ok (.iconst 0, 1) := by decide +kernel
theorem dX7_squaresOfSheets_1 : decode cX7_squaresOfSheets 1 = .ok (.istore_n 1, 1) := by decide +kernel
theorem dX7_squaresOfSheets_2 : decode cX7_squaresOfSheets 2 = .ok (.iconst 0, 1) := by decide +kernel
theorem dX7_squaresOfSheets_3 : decode cX7_squaresOfSheets 3 = .ok (.istore_n 2, 1) := by decide +kernel
theorem dX7_squaresOfSheets_4 : decode cX7_squaresOfSheets 4 = .ok (.iload_n 2, 1) := by decide +kernel
theorem dX7_squaresOfSheets_5 : decode cX7_squaresOfSheets 5 = .ok (.aload_n 0, 1) := by decide +kernel
theorem dX7_squaresOfSheets_6 : decode cX7_squaresOfSheets 6 = .ok (.getfield 7, 3) := by decide +kernel
theorem dX7_squaresOfSheets_9 : decode cX7_squaresOfSheets 9 = .ok (.iconst 0, 1) := by decide +kernel
theorem dX7_squaresOfSheets_10 : decode cX7_squaresOfSheets 10 = .ok (.iaload, 1) := by decide +kernel
theorem dX7_squaresOfSheets_11 : decode cX7_squaresOfSheets 11 = .ok (.if_icmp .ge 35, 3) := by decide +kernel
theorem dX7_squaresOfSheets_14 : decode cX7_squaresOfSheets 14 = .ok (.iload_n 1, 1) := by decide +kernel
theorem dX7_squaresOfSheets_15 : decode cX7_squaresOfSheets 15 = .ok (.aload_n 0, 1) := by decide +kernel
theorem dX7_squaresOfSheets_16 : decode cX7_squaresOfSheets 16 = .ok (.getfield 7, 3) := by decide +kernel
theorem dX7_squaresOfSheets_19 : decode cX7_squaresOfSheets 19 = .ok (.iload_n 2, 1) := by decide +kernel
theorem dX7_squaresOfSheets_20 : decode cX7_squaresOfSheets 20 = .ok (.iconst 1, 1) := by decide +kernel
theorem dX7_squaresOfSheets_21 : decode cX7_squaresOfSheets 21 = .ok (.invokestatic 70, 3) := by decide +kernel
theorem dX7_squaresOfSheets_24 : decode cX7_squaresOfSheets 24 = .ok (.iaload, 1) := by decide +kernel
theorem dX7_squaresOfSheets_25 : decode cX7_squaresOfSheets 25 = .ok (.iconst 1, 1) := by decide +kernel
theorem dX7_squaresOfSheets_26 : decode cX7_squaresOfSheets 26 = .ok (.if_icmp .ne 7, 3) := by decide +kernel
theorem dX7_squaresOfSheets_29 : decode cX7_squaresOfSheets 29 = .ok (.iconst 0, 1) := by decide +kernel
theorem dX7_squaresOfSheets_30 : decode cX7_squaresOfSheets 30 = .ok (.goto 8, 3) := by decide +kernel
theorem dX7_squaresOfSheets_33 : decode cX7_squaresOfSheets 33 = .ok (.aload_n 0, 1) := by decide +kernel
theorem dX7_squaresOfSheets_34 : decode cX7_squaresOfSheets 34 = .ok (.iload_n 2, 1) := by decide +kernel
theorem dX7_squaresOfSheets_35 : decode cX7_squaresOfSheets 35 = .ok (.invokevirtual 164, 3) := by decide +kernel
theorem dX7_squaresOfSheets_38 : decode cX7_squaresOfSheets 38 = .ok (.iadd, 1) := by decide +kernel
theorem dX7_squaresOfSheets_39 : decode cX7_squaresOfSheets 39 = .ok (.istore_n 1, 1) := by decide +kernel
theorem dX7_squaresOfSheets_40 : decode cX7_squaresOfSheets 40 = .ok (.iinc 2 1, 3) := by decide +kernel
theorem dX7_squaresOfSheets_43 : decode cX7_squaresOfSheets 43 = .ok (.goto (-39), 3) := by decide +kernel
theorem dX7_squaresOfSheets_46 : decode cX7_squaresOfSheets 46 = .ok (.iload_n 1, 1) := by decide +kernel
theorem dX7_squaresOfSheets_47 : decode cX7_squaresOfSheets 47 = .ok (.ireturn, 1) := by decide +kernel
theorem dX7_count_0 : decode cX7_count 0 = .ok (.iload_n 1, 1) := by decide +kernel
theorem dX7_count_1 : decode cX7_count 1 = .ok (.tableswitch 97 0 9 #[55, 55, 62, 62, 62, 70, 77, 82, 87, 92], 55) := by decide +kernel
theorem dX7_count_56 : decode cX7_count 56 = .ok (.aload_n 0, 1) := by decide +kernel
theorem dX7_count_57 : decode cX7_count 57 = .ok (.getfield 7, 3) := by decide +kernel
theorem dX7_count_60 : decode cX7_count 60 = .ok (.iload_n 1, 1) := by decide +kernel
theorem dX7_count_61 : decode cX7_count 61 = .ok (.iaload, 1) := by decide +kernel
theorem dX7_count_62 : decode cX7_count 62 = .ok (.ireturn, 1) := by decide +kernel
theorem dX7_count_63 : decode cX7_count 63 = .ok (.aload_n 0, 1) := by decide +kernel
theorem dX7_count_64 : decode cX7_count 64 = .ok (.iload_n 1, 1) := by decide +kernel
theorem dX7_count_65 : decode cX7_count 65 = .ok (.iconst 2, 1) := by decide +kernel
theorem dX7_count_66 : decode cX7_count 66 = .ok (.isub, 1) := by decide +kernel
theorem dX7_count_67 : decode cX7_count 67 = .ok (.invokevirtual 173, 3) := by decide +kernel
theorem dX7_count_70 : decode cX7_count 70 = .ok (.ireturn, 1) := by decide +kernel
theorem dX7_count_71 : decode cX7_count 71 = .ok (.aload_n 0, 1) := by decide +kernel
theorem dX7_count_72 : decode cX7_count 72 = .ok (.getfield 7, 3) := by decide +kernel
theorem dX7_count_75 : decode cX7_count 75 = .ok (.iconst 2, 1) := by decide +kernel
theorem dX7_count_76 : decode cX7_count 76 = .ok (.iaload, 1) := by decide +kernel
theorem dX7_count_77 : decode cX7_count 77 = .ok (.ireturn, 1) := by decide +kernel
theorem dX7_count_78 : decode cX7_count 78 = .ok (.aload_n 0, 1) := by decide +kernel
theorem dX7_count_79 : decode cX7_count 79 = .ok (.invokevirtual 176, 3) := by decide +kernel
theorem dX7_count_82 : decode cX7_count 82 = .ok (.ireturn, 1) := by decide +kernel
theorem dX7_count_83 : decode cX7_count 83 = .ok (.aload_n 0, 1) := by decide +kernel
theorem dX7_count_84 : decode cX7_count 84 = .ok (.invokevirtual 179, 3) := by decide +kernel
theorem dX7_count_87 : decode cX7_count 87 = .ok (.ireturn, 1) := by decide +kernel
theorem dX7_count_88 : decode cX7_count 88 = .ok (.aload_n 0, 1) := by decide +kernel
theorem dX7_count_89 : decode cX7_count 89 = .ok (.getfield 101, 3) := by decide +kernel
theorem dX7_count_92 : decode cX7_count 92 = .ok (.ireturn, 1) := by decide +kernel
theorem dX7_count_93 : decode cX7_count 93 = .ok (.aload_n 0, 1) := by decide +kernel
theorem dX7_count_94 : decode cX7_count 94 = .ok (.getfield 115, 3) := by decide +kernel
theorem dX7_count_97 : decode cX7_count 97 = .ok (.ireturn, 1) := by decide +kernel
theorem dX7_count_98 : decode cX7_count 98 = .ok (.bipush (-2), 2) := by decide +kernel
theorem dX7_count_100 : decode cX7_count 100 = .ok (.ireturn, 1) := by decide +kernel
theorem dX7_fit_0 : decode cX7_fit 0 = .ok (.aload_n 0, 1) := by decide +kernel
theorem dX7_fit_1 : decode cX7_fit 1 = .ok (.iload_n 1, 1) := by decide +kernel
theorem dX7_fit_2 : decode cX7_fit 2 = .ok (.invokevirtual 125, 3) := by decide +kernel
theorem dX7_fit_5 : decode cX7_fit 5 = .ok (.ifCond .eq 10, 3) := by decide +kernel
theorem dX7_fit_8 : decode cX7_fit 8 = .ok (.iload_n 2, 1) := by decide +kernel
theorem dX7_fit_9 : decode cX7_fit 9 = .ok (.invokestatic 128, 3) := by decide +kernel
theorem dX7_fit_12 : decode cX7_fit 12 = .ok (.ifCond .ne 5, 3) := by decide +kernel
theorem dX7_fit_15 : decode cX7_fit 15 = .ok (.iconst (-1), 1) := by decide +kernel
theorem dX7_fit_16 : decode cX7_fit 16 = .ok (.ireturn, 1) := by decide +kernel
theorem dX7_fit_17 : decode cX7_fit 17 = .ok (.iload_n 3, 1) := by decide +kernel
theorem dX7_fit_18 : decode cX7_fit 18 = .ok (.iconst 0, 1) := by decide +kernel
theorem dX7_fit_19 : decode cX7_fit 19 = .ok (.iconst 1, 1) := by decide +kernel
theorem dX7_fit_20 : decode cX7_fit 20 = .ok (.invokestatic 66, 3) := by decide +kernel
theorem dX7_fit_23 : decode cX7_fit 23 = .ok (.ifCond .eq 13, 3) := by decide +kernel
theorem dX7_fit_26 : decode cX7_fit 26 = .ok (.iload 4, 2) := by decide +kernel
theorem dX7_fit_28 : decode cX7_fit 28 = .ok (.iconst 0, 1) := by decide +kernel
theorem dX7_fit_29 : decode cX7_fit 29 = .ok (.iconst 2, 1) := by decide +kernel
theorem dX7_fit_30 : decode cX7_fit 30 = .ok (.invokestatic 66, 3) := by decide +kernel
theorem dX7_fit_33 : decode cX7_fit 33 = .ok (.ifCond .ne 6, 3) := by decide +kernel
theorem dX7_fit_36 : decode cX7_fit 36 = .ok (.bipush (-2), 2) := by decide +kernel
theorem dX7_fit_38 : decode cX7_fit 38 = .ok (.ireturn, 1) := by decide +kernel
theorem dX7_fit_39 : decode cX7_fit 39 = .ok (.aload_n 0, 1) := by decide +kernel
theorem dX7_fit_40 : decode cX7_fit 40 = .ok (.iload_n 1, 1) := by decide +kernel
theorem dX7_fit_41 : decode cX7_fit 41 = .ok (.iload_n 2, 1) := by decide +kernel
theorem dX7_fit_42 : decode cX7_fit 42 = .ok (.iload_n 3, 1) := by decide +kernel
theorem dX7_fit_43 : decode cX7_fit 43 = .ok (.invokevirtual 78, 3) := by decide +kernel
theorem dX7_fit_46 : decode cX7_fit 46 = .ok (.ifCond .eq 13, 3) := by decide +kernel
theorem dX7_fit_49 : decode cX7_fit 49 = .ok (.aload_n 0, 1) := by decide +kernel
theorem dX7_fit_50 : decode cX7_fit 50 = .ok (.getfield 32, 3) := by decide +kernel
theorem dX7_fit_53 : decode cX7_fit 53 = .ok (.iload 4, 2) := by decide +kernel
theorem dX7_fit_55 : decode cX7_fit 55 = .ok (.iaload, 1) := by decide +kernel
theorem dX7_fit_56 : decode cX7_fit 56 = .ok (.goto 5, 3) := by decide +kernel
theorem dX7_fit_59 : decode cX7_fit 59 = .ok (.bipush (-6), 2) := by decide +kernel
theorem dX7_fit_61 : decode cX7_fit 61 = .ok (.ireturn, 1) := by decide +kernel
theorem dX7_manyOf_0 : decode cX7_manyOf 0 = .ok (.aload_n 0, 1) := by decide +kernel
theorem dX7_manyOf_1 : decode cX7_manyOf 1 = .ok (.iload_n 1, 1) := by decide +kernel
theorem dX7_manyOf_2 : decode cX7_manyOf 2 = .ok (.invokevirtual 125, 3) := by decide +kernel
theorem dX7_manyOf_5 : decode cX7_manyOf 5 = .ok (.ifCond .eq 10, 3) := by decide +kernel
theorem dX7_manyOf_8 : decode cX7_manyOf 8 = .ok (.iload_n 2, 1) := by decide +kernel
theorem dX7_manyOf_9 : decode cX7_manyOf 9 = .ok (.invokestatic 128, 3) := by decide +kernel
theorem dX7_manyOf_12 : decode cX7_manyOf 12 = .ok (.ifCond .ne 5, 3) := by decide +kernel
theorem dX7_manyOf_15 : decode cX7_manyOf 15 = .ok (.iconst (-1), 1) := by decide +kernel
theorem dX7_manyOf_16 : decode cX7_manyOf 16 = .ok (.ireturn, 1) := by decide +kernel
theorem dX7_manyOf_17 : decode cX7_manyOf 17 = .ok (.iload_n 3, 1) := by decide +kernel
theorem dX7_manyOf_18 : decode cX7_manyOf 18 = .ok (.iconst 0, 1) := by decide +kernel
theorem dX7_manyOf_19 : decode cX7_manyOf 19 = .ok (.iconst 1, 1) := by decide +kernel
theorem dX7_manyOf_20 : decode cX7_manyOf 20 = .ok (.invokestatic 66, 3) := by decide +kernel
theorem dX7_manyOf_23 : decode cX7_manyOf 23 = .ok (.ifCond .ne 6, 3) := by decide +kernel
theorem dX7_manyOf_26 : decode cX7_manyOf 26 = .ok (.bipush (-2), 2) := by decide +kernel
theorem dX7_manyOf_28 : decode cX7_manyOf 28 = .ok (.ireturn, 1) := by decide +kernel
theorem dX7_manyOf_29 : decode cX7_manyOf 29 = .ok (.aload_n 0, 1) := by decide +kernel
theorem dX7_manyOf_30 : decode cX7_manyOf 30 = .ok (.invokevirtual 131, 3) := by decide +kernel
theorem dX7_manyOf_33 : decode cX7_manyOf 33 = .ok (.iconst 0, 1) := by decide +kernel
theorem dX7_manyOf_34 : decode cX7_manyOf 34 = .ok (.istore 4, 2) := by decide +kernel
theorem dX7_manyOf_36 : decode cX7_manyOf 36 = .ok (.aload_n 0, 1) := by decide +kernel
theorem dX7_manyOf_37 : decode cX7_manyOf 37 = .ok (.iload_n 1, 1) := by decide +kernel
theorem dX7_manyOf_38 : decode cX7_manyOf 38 = .ok (.iload_n 2, 1) := by decide +kernel
theorem dX7_manyOf_39 : decode cX7_manyOf 39 = .ok (.iload_n 3, 1) := by decide +kernel
theorem dX7_manyOf_40 : decode cX7_manyOf 40 = .ok (.invokevirtual 78, 3) := by decide +kernel
theorem dX7_manyOf_43 : decode cX7_manyOf 43 = .ok (.ifCond .eq 33, 3) := by decide +kernel
theorem dX7_manyOf_46 : decode cX7_manyOf 46 = .ok (.aload_n 0, 1) := by decide +kernel
theorem dX7_manyOf_47 : decode cX7_manyOf 47 = .ok (.iload_n 1, 1) := by decide +kernel
theorem dX7_manyOf_48 : decode cX7_manyOf 48 = .ok (.iload_n 2, 1) := by decide +kernel
theorem dX7_manyOf_49 : decode cX7_manyOf 49 = .ok (.aload_n 0, 1) := by decide +kernel
theorem dX7_manyOf_50 : decode cX7_manyOf 50 = .ok (.getfield 32, 3) := by decide +kernel
theorem dX7_manyOf_53 : decode cX7_manyOf 53 = .ok (.iconst 0, 1) := by decide +kernel
theorem dX7_manyOf_54 : decode cX7_manyOf 54 = .ok (.iaload, 1) := by decide +kernel
theorem dX7_manyOf_55 : decode cX7_manyOf 55 = .ok (.aload_n 0, 1) := by decide +kernel
theorem dX7_manyOf_56 : decode cX7_manyOf 56 = .ok (.getfield 32, 3) := by decide +kernel
theorem dX7_manyOf_59 : decode cX7_manyOf 59 = .ok (.iconst 1, 1) := by decide +kernel
theorem dX7_manyOf_60 : decode cX7_manyOf 60 = .ok (.iaload, 1) := by decide +kernel
theorem dX7_manyOf_61 : decode cX7_manyOf 61 = .ok (.aload_n 0, 1) := by decide +kernel
theorem dX7_manyOf_62 : decode cX7_manyOf 62 = .ok (.getfield 32, 3) := by decide +kernel
theorem dX7_manyOf_65 : decode cX7_manyOf 65 = .ok (.iconst 2, 1) := by decide +kernel
theorem dX7_manyOf_66 : decode cX7_manyOf 66 = .ok (.iaload, 1) := by decide +kernel
theorem dX7_manyOf_67 : decode cX7_manyOf 67 = .ok (.invokevirtual 81, 3) := by decide +kernel
theorem dX7_manyOf_70 : decode cX7_manyOf 70 = .ok (.iinc 4 1, 3) := by decide +kernel
theorem dX7_manyOf_73 : decode cX7_manyOf 73 = .ok (.goto (-37), 3) := by decide +kernel
theorem dX7_manyOf_76 : decode cX7_manyOf 76 = .ok (.aload_n 0, 1) := by decide +kernel
theorem dX7_manyOf_77 : decode cX7_manyOf 77 = .ok (.invokevirtual 138, 3) := by decide +kernel
theorem dX7_manyOf_80 : decode cX7_manyOf 80 = .ok (.iload 4, 2) := by decide +kernel
theorem dX7_manyOf_82 : decode cX7_manyOf 82 = .ok (.ireturn, 1) := by decide +kernel
theorem dX7_fits_0 : decode cX7_fits 0 = .ok (.aload_n 0, 1) := by decide +kernel
theorem dX7_fits_1 : decode cX7_fits 1 = .ok (.iload_n 1, 1) := by decide +kernel
theorem dX7_fits_2 : decode cX7_fits 2 = .ok (.invokevirtual 125, 3) := by decide +kernel
theorem dX7_fits_5 : decode cX7_fits 5 = .ok (.ifCond .eq 10, 3) := by decide +kernel
theorem dX7_fits_8 : decode cX7_fits 8 = .ok (.iload_n 2, 1) := by decide +kernel
theorem dX7_fits_9 : decode cX7_fits 9 = .ok (.invokestatic 128, 3) := by decide +kernel
theorem dX7_fits_12 : decode cX7_fits 12 = .ok (.ifCond .ne 5, 3) := by decide +kernel
theorem dX7_fits_15 : decode cX7_fits 15 = .ok (.iconst (-1), 1) := by decide +kernel
theorem dX7_fits_16 : decode cX7_fits 16 = .ok (.ireturn, 1) := by decide +kernel
theorem dX7_fits_17 : decode cX7_fits 17 = .ok (.iconst 0, 1) := by decide +kernel
theorem dX7_fits_18 : decode cX7_fits 18 = .ok (.istore_n 3, 1) := by decide +kernel
theorem dX7_fits_19 : decode cX7_fits 19 = .ok (.iconst 0, 1) := by decide +kernel
theorem dX7_fits_20 : decode cX7_fits 20 = .ok (.istore 4, 2) := by decide +kernel
theorem dX7_fits_22 : decode cX7_fits 22 = .ok (.iload 4, 2) := by decide +kernel
theorem dX7_fits_24 : decode cX7_fits 24 = .ok (.sipush 1008, 3) := by decide +kernel
theorem dX7_fits_27 : decode cX7_fits 27 = .ok (.if_icmp .ge 47, 3) := by decide +kernel
theorem dX7_fits_30 : decode cX7_fits 30 = .ok (.iload_n 3, 1) := by decide +kernel
theorem dX7_fits_31 : decode cX7_fits 31 = .ok (.aload_n 0, 1) := by decide +kernel
theorem dX7_fits_32 : decode cX7_fits 32 = .ok (.iload_n 1, 1) := by decide +kernel
theorem dX7_fits_33 : decode cX7_fits 33 = .ok (.iload_n 2, 1) := by decide +kernel
theorem dX7_fits_34 : decode cX7_fits 34 = .ok (.iload 4, 2) := by decide +kernel
theorem dX7_fits_36 : decode cX7_fits 36 = .ok (.bipush 8, 2) := by decide +kernel
theorem dX7_fits_38 : decode cX7_fits 38 = .ok (.irem, 1) := by decide +kernel
theorem dX7_fits_39 : decode cX7_fits 39 = .ok (.iload 4, 2) := by decide +kernel
theorem dX7_fits_41 : decode cX7_fits 41 = .ok (.bipush 8, 2) := by decide +kernel
theorem dX7_fits_43 : decode cX7_fits 43 = .ok (.idiv, 1) := by decide +kernel
theorem dX7_fits_44 : decode cX7_fits 44 = .ok (.bipush 14, 2) := by decide +kernel
theorem dX7_fits_46 : decode cX7_fits 46 = .ok (.idiv, 1) := by decide +kernel
theorem dX7_fits_47 : decode cX7_fits 47 = .ok (.iload 4, 2) := by decide +kernel
theorem dX7_fits_49 : decode cX7_fits 49 = .ok (.bipush 8, 2) := by decide +kernel
theorem dX7_fits_51 : decode cX7_fits 51 = .ok (.idiv, 1) := by decide +kernel
theorem dX7_fits_52 : decode cX7_fits 52 = .ok (.bipush 14, 2) := by decide +kernel
theorem dX7_fits_54 : decode cX7_fits 54 = .ok (.irem, 1) := by decide +kernel
theorem dX7_fits_55 : decode cX7_fits 55 = .ok (.invokevirtual 74, 3) := by decide +kernel
theorem dX7_fits_58 : decode cX7_fits 58 = .ok (.ifCond .eq 7, 3) := by decide +kernel
theorem dX7_fits_61 : decode cX7_fits 61 = .ok (.iconst 1, 1) := by decide +kernel
theorem dX7_fits_62 : decode cX7_fits 62 = .ok (.goto 4, 3) := by decide +kernel
theorem dX7_fits_65 : decode cX7_fits 65 = .ok (.iconst 0, 1) := by decide +kernel
theorem dX7_fits_66 : decode cX7_fits 66 = .ok (.iadd, 1) := by decide +kernel
theorem dX7_fits_67 : decode cX7_fits 67 = .ok (.istore_n 3, 1) := by decide +kernel
theorem dX7_fits_68 : decode cX7_fits 68 = .ok (.iinc 4 1, 3) := by decide +kernel
theorem dX7_fits_71 : decode cX7_fits 71 = .ok (.goto (-49), 3) := by decide +kernel
theorem dX7_fits_74 : decode cX7_fits 74 = .ok (.iload_n 3, 1) := by decide +kernel
theorem dX7_fits_75 : decode cX7_fits 75 = .ok (.ireturn, 1) := by decide +kernel
theorem dX7_colours_0 : decode cX7_colours 0 = .ok (.iload_n 1, 1) := by decide +kernel
theorem dX7_colours_1 : decode cX7_colours 1 = .ok (.iload_n 2, 1) := by decide +kernel
theorem dX7_colours_2 : decode cX7_colours 2 = .ok (.invokestatic 141, 3) := by decide +kernel
theorem dX7_colours_5 : decode cX7_colours 5 = .ok (.ifCond .ne 5, 3) := by decide +kernel
theorem dX7_colours_8 : decode cX7_colours 8 = .ok (.iconst (-1), 1) := by decide +kernel
theorem dX7_colours_9 : decode cX7_colours 9 = .ok (.ireturn, 1) := by decide +kernel
theorem dX7_colours_10 : decode cX7_colours 10 = .ok (.aload_n 0, 1) := by decide +kernel
theorem dX7_colours_11 : decode cX7_colours 11 = .ok (.invokevirtual 145, 3) := by decide +kernel
theorem dX7_colours_14 : decode cX7_colours 14 = .ok (.bipush (-6), 2) := by decide +kernel
theorem dX7_colours_16 : decode cX7_colours 16 = .ok (.if_icmp .eq 6, 3) := by decide +kernel
theorem dX7_colours_19 : decode cX7_colours 19 = .ok (.bipush (-3), 2) := by decide +kernel
theorem dX7_colours_21 : decode cX7_colours 21 = .ok (.ireturn, 1) := by decide +kernel
theorem dX7_colours_22 : decode cX7_colours 22 = .ok (.iload_n 3, 1) := by decide +kernel
theorem dX7_colours_23 : decode cX7_colours 23 = .ok (.iconst 0, 1) := by decide +kernel
theorem dX7_colours_24 : decode cX7_colours 24 = .ok (.iconst 1, 1) := by decide +kernel
theorem dX7_colours_25 : decode cX7_colours 25 = .ok (.invokestatic 66, 3) := by decide +kernel
theorem dX7_colours_28 : decode cX7_colours 28 = .ok (.ifCond .ne 6, 3) := by decide +kernel
theorem dX7_colours_31 : decode cX7_colours 31 = .ok (.bipush (-2), 2) := by decide +kernel
theorem dX7_colours_33 : decode cX7_colours 33 = .ok (.ireturn, 1) := by decide +kernel
theorem dX7_colours_34 : decode cX7_colours 34 = .ok (.iconst 0, 1) := by decide +kernel
theorem dX7_colours_35 : decode cX7_colours 35 = .ok (.istore 4, 2) := by decide +kernel
theorem dX7_colours_37 : decode cX7_colours 37 = .ok (.iconst 1, 1) := by decide +kernel
theorem dX7_colours_38 : decode cX7_colours 38 = .ok (.istore 5, 2) := by decide +kernel
theorem dX7_colours_40 : decode cX7_colours 40 = .ok (.iload 5, 2) := by decide +kernel
theorem dX7_colours_42 : decode cX7_colours 42 = .ok (.iconst 4, 1) := by decide +kernel
theorem dX7_colours_43 : decode cX7_colours 43 = .ok (.if_icmp .gt 34, 3) := by decide +kernel
theorem dX7_colours_46 : decode cX7_colours 46 = .ok (.iload 4, 2) := by decide +kernel
theorem dX7_colours_48 : decode cX7_colours 48 = .ok (.aload_n 0, 1) := by decide +kernel
theorem dX7_colours_49 : decode cX7_colours 49 = .ok (.iload_n 1, 1) := by decide +kernel
theorem dX7_colours_50 : decode cX7_colours 50 = .ok (.iload_n 2, 1) := by decide +kernel
theorem dX7_colours_51 : decode cX7_colours 51 = .ok (.iload 5, 2) := by decide +kernel
theorem dX7_colours_53 : decode cX7_colours 53 = .ok (.iload_n 3, 1) := by decide +kernel
theorem dX7_colours_54 : decode cX7_colours 54 = .ok (.invokevirtual 149, 3) := by decide +kernel
theorem dX7_colours_57 : decode cX7_colours 57 = .ok (.ifCond .eq 10, 3) := by decide +kernel
theorem dX7_colours_60 : decode cX7_colours 60 = .ok (.iconst 1, 1) := by decide +kernel
theorem dX7_colours_61 : decode cX7_colours 61 = .ok (.iload 5, 2) := by decide +kernel
theorem dX7_colours_63 : decode cX7_colours 63 = .ok (.ishl, 1) := by decide +kernel
theorem dX7_colours_64 : decode cX7_colours 64 = .ok (.goto 4, 3) := by decide +kernel
theorem dX7_colours_67 : decode cX7_colours 67 = .ok (.iconst 0, 1) := by decide +kernel
theorem dX7_colours_68 : decode cX7_colours 68 = .ok (.ior, 1) := by decide +kernel
theorem dX7_colours_69 : decode cX7_colours 69 = .ok (.istore 4, 2) := by decide +kernel
theorem dX7_colours_71 : decode cX7_colours 71 = .ok (.iinc 5 1, 3) := by decide +kernel
theorem dX7_colours_74 : decode cX7_colours 74 = .ok (.goto (-34), 3) := by decide +kernel
theorem dX7_colours_77 : decode cX7_colours 77 = .ok (.iload 4, 2) := by decide +kernel
theorem dX7_colours_79 : decode cX7_colours 79 = .ok (.ireturn, 1) := by decide +kernel
theorem dX7_put_0 : decode cX7_put 0 = .ok (.iconst 0, 1) := by decide +kernel
theorem dX7_put_1 : decode cX7_put 1 = .ok (.istore_n 3, 1) := by decide +kernel
theorem dX7_put_2 : decode cX7_put 2 = .ok (.iconst 0, 1) := by decide +kernel
theorem dX7_put_3 : decode cX7_put 3 = .ok (.istore 4, 2) := by decide +kernel
theorem dX7_put_5 : decode cX7_put 5 = .ok (.iconst 0, 1) := by decide +kernel
theorem dX7_put_6 : decode cX7_put 6 = .ok (.istore 5, 2) := by decide +kernel
theorem dX7_put_8 : decode cX7_put 8 = .ok (.iload 5, 2) := by decide +kernel
theorem dX7_put_10 : decode cX7_put 10 = .ok (.bipush 8, 2) := by decide +kernel
theorem dX7_put_12 : decode cX7_put 12 = .ok (.if_icmp .ge 89, 3) := by decide +kernel
theorem dX7_put_15 : decode cX7_put 15 = .ok (.lload_n 1, 1) := by decide +kernel
theorem dX7_put_16 : decode cX7_put 16 = .ok (.bipush 8, 2) := by decide +kernel
theorem dX7_put_18 : decode cX7_put 18 = .ok (.iload 5, 2) := by decide +kernel
theorem dX7_put_20 : decode cX7_put 20 = .ok (.imul, 1) := by decide +kernel
theorem dX7_put_21 : decode cX7_put 21 = .ok (.lushr, 1) := by decide +kernel
theorem dX7_put_22 : decode cX7_put 22 = .ok (.ldc2_w 182, 3) := by decide +kernel
theorem dX7_put_25 : decode cX7_put 25 = .ok (.land, 1) := by decide +kernel
theorem dX7_put_26 : decode cX7_put 26 = .ok (.l2i, 1) := by decide +kernel
theorem dX7_put_27 : decode cX7_put 27 = .ok (.istore 6, 2) := by decide +kernel
theorem dX7_put_29 : decode cX7_put 29 = .ok (.iload 5, 2) := by decide +kernel
theorem dX7_put_31 : decode cX7_put 31 = .ok (.ifCond .le 19, 3) := by decide +kernel
theorem dX7_put_34 : decode cX7_put 34 = .ok (.lload_n 1, 1) := by decide +kernel
theorem dX7_put_35 : decode cX7_put 35 = .ok (.bipush 8, 2) := by decide +kernel
theorem dX7_put_37 : decode cX7_put 37 = .ok (.iload 5, 2) := by decide +kernel
theorem dX7_put_39 : decode cX7_put 39 = .ok (.imul, 1) := by decide +kernel
theorem dX7_put_40 : decode cX7_put 40 = .ok (.lushr, 1) := by decide +kernel
theorem dX7_put_41 : decode cX7_put 41 = .ok (.lconst 0, 1) := by decide +kernel
theorem dX7_put_42 : decode cX7_put 42 = .ok (.lcmp, 1) := by decide +kernel
theorem dX7_put_43 : decode cX7_put 43 = .ok (.ifCond .ne 7, 3) := by decide +kernel
theorem dX7_put_46 : decode cX7_put 46 = .ok (.iconst 1, 1) := by decide +kernel
theorem dX7_put_47 : decode cX7_put 47 = .ok (.goto 4, 3) := by decide +kernel
theorem dX7_put_50 : decode cX7_put 50 = .ok (.iconst 0, 1) := by decide +kernel
theorem dX7_put_51 : decode cX7_put 51 = .ok (.istore 7, 2) := by decide +kernel
theorem dX7_put_53 : decode cX7_put 53 = .ok (.iload 4, 2) := by decide +kernel
theorem dX7_put_55 : decode cX7_put 55 = .ok (.ifCond .ne 20, 3) := by decide +kernel
theorem dX7_put_58 : decode cX7_put 58 = .ok (.iload 7, 2) := by decide +kernel
theorem dX7_put_60 : decode cX7_put 60 = .ok (.ifCond .ne 19, 3) := by decide +kernel
theorem dX7_put_63 : decode cX7_put 63 = .ok (.iload 6, 2) := by decide +kernel
theorem dX7_put_65 : decode cX7_put 65 = .ok (.bipush 33, 2) := by decide +kernel
theorem dX7_put_67 : decode cX7_put 67 = .ok (.bipush 126, 2) := by decide +kernel
theorem dX7_put_69 : decode cX7_put 69 = .ok (.invokestatic 66, 3) := by decide +kernel
theorem dX7_put_72 : decode cX7_put 72 = .ok (.ifCond .ne 7, 3) := by decide +kernel
theorem dX7_put_75 : decode cX7_put 75 = .ok (.iconst 1, 1) := by decide +kernel
theorem dX7_put_76 : decode cX7_put 76 = .ok (.goto 4, 3) := by decide +kernel
theorem dX7_put_79 : decode cX7_put 79 = .ok (.iconst 0, 1) := by decide +kernel
theorem dX7_put_80 : decode cX7_put 80 = .ok (.istore 4, 2) := by decide +kernel
theorem dX7_put_82 : decode cX7_put 82 = .ok (.iload_n 3, 1) := by decide +kernel
theorem dX7_put_83 : decode cX7_put 83 = .ok (.iload 7, 2) := by decide +kernel
theorem dX7_put_85 : decode cX7_put 85 = .ok (.ifCond .eq 7, 3) := by decide +kernel
theorem dX7_put_88 : decode cX7_put 88 = .ok (.iconst 0, 1) := by decide +kernel
theorem dX7_put_89 : decode cX7_put 89 = .ok (.goto 4, 3) := by decide +kernel
theorem dX7_put_92 : decode cX7_put 92 = .ok (.iconst 1, 1) := by decide +kernel
theorem dX7_put_93 : decode cX7_put 93 = .ok (.iadd, 1) := by decide +kernel
theorem dX7_put_94 : decode cX7_put 94 = .ok (.istore_n 3, 1) := by decide +kernel
theorem dX7_put_95 : decode cX7_put 95 = .ok (.iinc 5 1, 3) := by decide +kernel
theorem dX7_put_98 : decode cX7_put 98 = .ok (.goto (-90), 3) := by decide +kernel
theorem dX7_put_101 : decode cX7_put 101 = .ok (.iload 4, 2) := by decide +kernel
theorem dX7_put_103 : decode cX7_put 103 = .ok (.ifCond .eq 6, 3) := by decide +kernel
theorem dX7_put_106 : decode cX7_put 106 = .ok (.bipush (-2), 2) := by decide +kernel
theorem dX7_put_108 : decode cX7_put 108 = .ok (.ireturn, 1) := by decide +kernel
theorem dX7_put_109 : decode cX7_put 109 = .ok (.aload_n 0, 1) := by decide +kernel
theorem dX7_put_110 : decode cX7_put 110 = .ok (.getfield 101, 3) := by decide +kernel
theorem dX7_put_113 : decode cX7_put 113 = .ok (.iload_n 3, 1) := by decide +kernel
theorem dX7_put_114 : decode cX7_put 114 = .ok (.iadd, 1) := by decide +kernel
theorem dX7_put_115 : decode cX7_put 115 = .ok (.bipush 80, 2) := by decide +kernel
theorem dX7_put_117 : decode cX7_put 117 = .ok (.if_icmp .le 6, 3) := by decide +kernel
theorem dX7_put_120 : decode cX7_put 120 = .ok (.bipush (-4), 2) := by decide +kernel
theorem dX7_put_122 : decode cX7_put 122 = .ok (.ireturn, 1) := by decide +kernel
theorem dX7_put_123 : decode cX7_put 123 = .ok (.iconst 0, 1) := by decide +kernel
theorem dX7_put_124 : decode cX7_put 124 = .ok (.istore 5, 2) := by decide +kernel
theorem dX7_put_126 : decode cX7_put 126 = .ok (.iload 5, 2) := by decide +kernel
theorem dX7_put_128 : decode cX7_put 128 = .ok (.iload_n 3, 1) := by decide +kernel
theorem dX7_put_129 : decode cX7_put 129 = .ok (.if_icmp .ge 37, 3) := by decide +kernel
theorem dX7_put_132 : decode cX7_put 132 = .ok (.aload_n 0, 1) := by decide +kernel
theorem dX7_put_133 : decode cX7_put 133 = .ok (.getfield 26, 3) := by decide +kernel
theorem dX7_put_136 : decode cX7_put 136 = .ok (.aload_n 0, 1) := by decide +kernel
theorem dX7_put_137 : decode cX7_put 137 = .ok (.getfield 101, 3) := by decide +kernel
theorem dX7_put_140 : decode cX7_put 140 = .ok (.iload_n 3, 1) := by decide +kernel
theorem dX7_put_141 : decode cX7_put 141 = .ok (.iadd, 1) := by decide +kernel
theorem dX7_put_142 : decode cX7_put 142 = .ok (.iconst 1, 1) := by decide +kernel
theorem dX7_put_143 : decode cX7_put 143 = .ok (.isub, 1) := by decide +kernel
theorem dX7_put_144 : decode cX7_put 144 = .ok (.iload 5, 2) := by decide +kernel
theorem dX7_put_146 : decode cX7_put 146 = .ok (.isub, 1) := by decide +kernel
theorem dX7_put_147 : decode cX7_put 147 = .ok (.lload_n 1, 1) := by decide +kernel
theorem dX7_put_148 : decode cX7_put 148 = .ok (.bipush 8, 2) := by decide +kernel
theorem dX7_put_150 : decode cX7_put 150 = .ok (.iload 5, 2) := by decide +kernel
theorem dX7_put_152 : decode cX7_put 152 = .ok (.imul, 1) := by decide +kernel
theorem dX7_put_153 : decode cX7_put 153 = .ok (.lushr, 1) := by decide +kernel
theorem dX7_put_154 : decode cX7_put 154 = .ok (.ldc2_w 182, 3) := by decide +kernel
theorem dX7_put_157 : decode cX7_put 157 = .ok (.land, 1) := by decide +kernel
theorem dX7_put_158 : decode cX7_put 158 = .ok (.l2i, 1) := by decide +kernel
theorem dX7_put_159 : decode cX7_put 159 = .ok (.iastore, 1) := by decide +kernel
theorem dX7_put_160 : decode cX7_put 160 = .ok (.iinc 5 1, 3) := by decide +kernel
theorem dX7_put_163 : decode cX7_put 163 = .ok (.goto (-37), 3) := by decide +kernel
theorem dX7_put_166 : decode cX7_put 166 = .ok (.aload_n 0, 1) := by decide +kernel
theorem dX7_put_167 : decode cX7_put 167 = .ok (.dup, 1) := by decide +kernel
theorem dX7_put_168 : decode cX7_put 168 = .ok (.getfield 101, 3) := by decide +kernel
theorem dX7_put_171 : decode cX7_put 171 = .ok (.iload_n 3, 1) := by decide +kernel
theorem dX7_put_172 : decode cX7_put 172 = .ok (.iadd, 1) := by decide +kernel
theorem dX7_put_173 : decode cX7_put 173 = .ok (.putfield 101, 3) := by decide +kernel
theorem dX7_put_176 : decode cX7_put 176 = .ok (.aload_n 0, 1) := by decide +kernel
theorem dX7_put_177 : decode cX7_put 177 = .ok (.getfield 101, 3) := by decide +kernel
theorem dX7_put_180 : decode cX7_put 180 = .ok (.ireturn, 1) := by decide +kernel
theorem dX7_wipe_0 : decode cX7_wipe 0 = .ok (.aload_n 0, 1) := by decide +kernel
theorem dX7_wipe_1 : decode cX7_wipe 1 = .ok (.getfield 101, 3) := by decide +kernel
theorem dX7_wipe_4 : decode cX7_wipe 4 = .ok (.istore_n 1, 1) := by decide +kernel
theorem dX7_wipe_5 : decode cX7_wipe 5 = .ok (.aload_n 0, 1) := by decide +kernel
theorem dX7_wipe_6 : decode cX7_wipe 6 = .ok (.iconst 0, 1) := by decide +kernel
theorem dX7_wipe_7 : decode cX7_wipe 7 = .ok (.putfield 101, 3) := by decide +kernel
theorem dX7_wipe_10 : decode cX7_wipe 10 = .ok (.iload_n 1, 1) := by decide +kernel
theorem dX7_wipe_11 : decode cX7_wipe 11 = .ok (.ireturn, 1) := by decide +kernel
theorem dX7_fault_0 : decode cX7_fault 0 = .ok (.aload_n 0, 1) := by decide +kernel
theorem dX7_fault_1 : decode cX7_fault 1 = .ok (.getfield 101, 3) := by decide +kernel
theorem dX7_fault_4 : decode cX7_fault 4 = .ok (.ifCond .ne 7, 3) := by decide +kernel
theorem dX7_fault_7 : decode cX7_fault 7 = .ok (.iconst 0, 1) := by decide +kernel
theorem dX7_fault_8 : decode cX7_fault 8 = .ok (.goto 5, 3) := by decide +kernel
theorem dX7_fault_11 : decode cX7_fault 11 = .ok (.bipush (-6), 2) := by decide +kernel
theorem dX7_fault_13 : decode cX7_fault 13 = .ok (.istore_n 1, 1) := by decide +kernel
theorem dX7_fault_14 : decode cX7_fault 14 = .ok (.aload_n 0, 1) := by decide +kernel
theorem dX7_fault_15 : decode cX7_fault 15 = .ok (.getfield 101, 3) := by decide +kernel
theorem dX7_fault_18 : decode cX7_fault 18 = .ok (.iconst 1, 1) := by decide +kernel
theorem dX7_fault_19 : decode cX7_fault 19 = .ok (.isub, 1) := by decide +kernel
theorem dX7_fault_20 : decode cX7_fault 20 = .ok (.istore_n 2, 1) := by decide +kernel
theorem dX7_fault_21 : decode cX7_fault 21 = .ok (.iload_n 2, 1) := by decide +kernel
theorem dX7_fault_22 : decode cX7_fault 22 = .ok (.ifCond .lt 35, 3) := by decide +kernel
theorem dX7_fault_25 : decode cX7_fault 25 = .ok (.iload_n 2, 1) := by decide +kernel
theorem dX7_fault_26 : decode cX7_fault 26 = .ok (.bipush 12, 2) := by decide +kernel
theorem dX7_fault_28 : decode cX7_fault 28 = .ok (.if_icmp .ge 17, 3) := by decide +kernel
theorem dX7_fault_31 : decode cX7_fault 31 = .ok (.aload_n 0, 1) := by decide +kernel
theorem dX7_fault_32 : decode cX7_fault 32 = .ok (.getfield 26, 3) := by decide +kernel
theorem dX7_fault_35 : decode cX7_fault 35 = .ok (.iload_n 2, 1) := by decide +kernel
theorem dX7_fault_36 : decode cX7_fault 36 = .ok (.iaload, 1) := by decide +kernel
theorem dX7_fault_37 : decode cX7_fault 37 = .ok (.invokestatic 105, 3) := by decide +kernel
theorem dX7_fault_40 : decode cX7_fault 40 = .ok (.bipush (-6), 2) := by decide +kernel
theorem dX7_fault_42 : decode cX7_fault 42 = .ok (.if_icmp .ne 7, 3) := by decide +kernel
theorem dX7_fault_45 : decode cX7_fault 45 = .ok (.iload_n 2, 1) := by decide +kernel
theorem dX7_fault_46 : decode cX7_fault 46 = .ok (.goto 4, 3) := by decide +kernel
theorem dX7_fault_49 : decode cX7_fault 49 = .ok (.iload_n 1, 1) := by decide +kernel
theorem dX7_fault_50 : decode cX7_fault 50 = .ok (.istore_n 1, 1) := by decide +kernel
theorem dX7_fault_51 : decode cX7_fault 51 = .ok (.iinc 2 (-1), 3) := by decide +kernel
theorem dX7_fault_54 : decode cX7_fault 54 = .ok (.goto (-33), 3) := by decide +kernel
theorem dX7_fault_57 : decode cX7_fault 57 = .ok (.iload_n 1, 1) := by decide +kernel
theorem dX7_fault_58 : decode cX7_fault 58 = .ok (.ireturn, 1) := by decide +kernel
theorem dX7_undo_0 : decode cX7_undo 0 = .ok (.aload_n 0, 1) := by decide +kernel
theorem dX7_undo_1 : decode cX7_undo 1 = .ok (.getfield 115, 3) := by decide +kernel
theorem dX7_undo_4 : decode cX7_undo 4 = .ok (.ifCond .ne 6, 3) := by decide +kernel
theorem dX7_undo_7 : decode cX7_undo 7 = .ok (.bipush (-5), 2) := by decide +kernel
theorem dX7_undo_9 : decode cX7_undo 9 = .ok (.ireturn, 1) := by decide +kernel
theorem dX7_undo_10 : decode cX7_undo 10 = .ok (.aload_n 0, 1) := by decide +kernel
theorem dX7_undo_11 : decode cX7_undo 11 = .ok (.dup, 1) := by decide +kernel
theorem dX7_undo_12 : decode cX7_undo 12 = .ok (.getfield 115, 3) := by decide +kernel
theorem dX7_undo_15 : decode cX7_undo 15 = .ok (.iconst 1, 1) := by decide +kernel
theorem dX7_undo_16 : decode cX7_undo 16 = .ok (.isub, 1) := by decide +kernel
theorem dX7_undo_17 : decode cX7_undo 17 = .ok (.putfield 115, 3) := by decide +kernel
theorem dX7_undo_20 : decode cX7_undo 20 = .ok (.iconst 0, 1) := by decide +kernel
theorem dX7_undo_21 : decode cX7_undo 21 = .ok (.istore_n 1, 1) := by decide +kernel
theorem dX7_undo_22 : decode cX7_undo 22 = .ok (.iload_n 1, 1) := by decide +kernel
theorem dX7_undo_23 : decode cX7_undo 23 = .ok (.sipush 453, 3) := by decide +kernel
theorem dX7_undo_26 : decode cX7_undo 26 = .ok (.if_icmp .ge 30, 3) := by decide +kernel
theorem dX7_undo_29 : decode cX7_undo 29 = .ok (.aload_n 0, 1) := by decide +kernel
theorem dX7_undo_30 : decode cX7_undo 30 = .ok (.getfield 7, 3) := by decide +kernel
theorem dX7_undo_33 : decode cX7_undo 33 = .ok (.iload_n 1, 1) := by decide +kernel
theorem dX7_undo_34 : decode cX7_undo 34 = .ok (.aload_n 0, 1) := by decide +kernel
theorem dX7_undo_35 : decode cX7_undo 35 = .ok (.getfield 16, 3) := by decide +kernel
theorem dX7_undo_38 : decode cX7_undo 38 = .ok (.sipush 453, 3) := by decide +kernel
theorem dX7_undo_41 : decode cX7_undo 41 = .ok (.aload_n 0, 1) := by decide +kernel
theorem dX7_undo_42 : decode cX7_undo 42 = .ok (.getfield 115, 3) := by decide +kernel
theorem dX7_undo_45 : decode cX7_undo 45 = .ok (.imul, 1) := by decide +kernel
theorem dX7_undo_46 : decode cX7_undo 46 = .ok (.iload_n 1, 1) := by decide +kernel
theorem dX7_undo_47 : decode cX7_undo 47 = .ok (.iadd, 1) := by decide +kernel
theorem dX7_undo_48 : decode cX7_undo 48 = .ok (.iaload, 1) := by decide +kernel
theorem dX7_undo_49 : decode cX7_undo 49 = .ok (.iastore, 1) := by decide +kernel
theorem dX7_undo_50 : decode cX7_undo 50 = .ok (.iinc 1 1, 3) := by decide +kernel
theorem dX7_undo_53 : decode cX7_undo 53 = .ok (.goto (-31), 3) := by decide +kernel
theorem dX7_undo_56 : decode cX7_undo 56 = .ok (.aload_n 0, 1) := by decide +kernel
theorem dX7_undo_57 : decode cX7_undo 57 = .ok (.getfield 115, 3) := by decide +kernel
theorem dX7_undo_60 : decode cX7_undo 60 = .ok (.ireturn, 1) := by decide +kernel
theorem dX7_save_0 : decode cX7_save 0 = .ok (.iload_n 1, 1) := by decide +kernel
theorem dX7_save_1 : decode cX7_save 1 = .ok (.iconst 0, 1) := by decide +kernel
theorem dX7_save_2 : decode cX7_save 2 = .ok (.iconst 1, 1) := by decide +kernel
theorem dX7_save_3 : decode cX7_save 3 = .ok (.invokestatic 66, 3) := by decide +kernel
theorem dX7_save_6 : decode cX7_save 6 = .ok (.ifCond .ne 6, 3) := by decide +kernel
theorem dX7_save_9 : decode cX7_save 9 = .ok (.bipush (-2), 2) := by decide +kernel
theorem dX7_save_11 : decode cX7_save 11 = .ok (.ireturn, 1) := by decide +kernel
theorem dX7_save_12 : decode cX7_save 12 = .ok (.iconst 0, 1) := by decide +kernel
theorem dX7_save_13 : decode cX7_save 13 = .ok (.istore_n 2, 1) := by decide +kernel
theorem dX7_save_14 : decode cX7_save 14 = .ok (.iload_n 2, 1) := by decide +kernel
theorem dX7_save_15 : decode cX7_save 15 = .ok (.sipush 453, 3) := by decide +kernel
theorem dX7_save_18 : decode cX7_save 18 = .ok (.if_icmp .ge 27, 3) := by decide +kernel
theorem dX7_save_21 : decode cX7_save 21 = .ok (.aload_n 0, 1) := by decide +kernel
theorem dX7_save_22 : decode cX7_save 22 = .ok (.getfield 19, 3) := by decide +kernel
theorem dX7_save_25 : decode cX7_save 25 = .ok (.sipush 453, 3) := by decide +kernel
theorem dX7_save_28 : decode cX7_save 28 = .ok (.iload_n 1, 1) := by decide +kernel
theorem dX7_save_29 : decode cX7_save 29 = .ok (.imul, 1) := by decide +kernel
theorem dX7_save_30 : decode cX7_save 30 = .ok (.iload_n 2, 1) := by decide +kernel
theorem dX7_save_31 : decode cX7_save 31 = .ok (.iadd, 1) := by decide +kernel
theorem dX7_save_32 : decode cX7_save 32 = .ok (.aload_n 0, 1) := by decide +kernel
theorem dX7_save_33 : decode cX7_save 33 = .ok (.getfield 7, 3) := by decide +kernel
theorem dX7_save_36 : decode cX7_save 36 = .ok (.iload_n 2, 1) := by decide +kernel
theorem dX7_save_37 : decode cX7_save 37 = .ok (.iaload, 1) := by decide +kernel
theorem dX7_save_38 : decode cX7_save 38 = .ok (.iastore, 1) := by decide +kernel
theorem dX7_save_39 : decode cX7_save 39 = .ok (.iinc 2 1, 3) := by decide +kernel
theorem dX7_save_42 : decode cX7_save 42 = .ok (.goto (-28), 3) := by decide +kernel
theorem dX7_save_45 : decode cX7_save 45 = .ok (.aload_n 0, 1) := by decide +kernel
theorem dX7_save_46 : decode cX7_save 46 = .ok (.getfield 22, 3) := by decide +kernel
theorem dX7_save_49 : decode cX7_save 49 = .ok (.iload_n 1, 1) := by decide +kernel
theorem dX7_save_50 : decode cX7_save 50 = .ok (.iconst 1, 1) := by decide +kernel
theorem dX7_save_51 : decode cX7_save 51 = .ok (.bastore, 1) := by decide +kernel
theorem dX7_save_52 : decode cX7_save 52 = .ok (.aload_n 0, 1) := by decide +kernel
theorem dX7_save_53 : decode cX7_save 53 = .ok (.getfield 7, 3) := by decide +kernel
theorem dX7_save_56 : decode cX7_save 56 = .ok (.iconst 1, 1) := by decide +kernel
theorem dX7_save_57 : decode cX7_save 57 = .ok (.iaload, 1) := by decide +kernel
theorem dX7_save_58 : decode cX7_save 58 = .ok (.ireturn, 1) := by decide +kernel
theorem dX7_restore_0 : decode cX7_restore 0 = .ok (.iload_n 1, 1) := by decide +kernel
theorem dX7_restore_1 : decode cX7_restore 1 = .ok (.iconst 0, 1) := by decide +kernel
theorem dX7_restore_2 : decode cX7_restore 2 = .ok (.iconst 1, 1) := by decide +kernel
theorem dX7_restore_3 : decode cX7_restore 3 = .ok (.invokestatic 66, 3) := by decide +kernel
theorem dX7_restore_6 : decode cX7_restore 6 = .ok (.ifCond .ne 6, 3) := by decide +kernel
theorem dX7_restore_9 : decode cX7_restore 9 = .ok (.bipush (-2), 2) := by decide +kernel
theorem dX7_restore_11 : decode cX7_restore 11 = .ok (.ireturn, 1) := by decide +kernel
theorem dX7_restore_12 : decode cX7_restore 12 = .ok (.aload_n 0, 1) := by decide +kernel
theorem dX7_restore_13 : decode cX7_restore 13 = .ok (.getfield 22, 3) := by decide +kernel
theorem dX7_restore_16 : decode cX7_restore 16 = .ok (.iload_n 1, 1) := by decide +kernel
theorem dX7_restore_17 : decode cX7_restore 17 = .ok (.baload, 1) := by decide +kernel
theorem dX7_restore_18 : decode cX7_restore 18 = .ok (.ifCond .ne 6, 3) := by decide +kernel
theorem dX7_restore_21 : decode cX7_restore 21 = .ok (.bipush (-5), 2) := by decide +kernel
theorem dX7_restore_23 : decode cX7_restore 23 = .ok (.ireturn, 1) := by decide +kernel
theorem dX7_restore_24 : decode cX7_restore 24 = .ok (.aload_n 0, 1) := by decide +kernel
theorem dX7_restore_25 : decode cX7_restore 25 = .ok (.invokevirtual 122, 3) := by decide +kernel
theorem dX7_restore_28 : decode cX7_restore 28 = .ok (.iconst 0, 1) := by decide +kernel
theorem dX7_restore_29 : decode cX7_restore 29 = .ok (.istore_n 2, 1) := by decide +kernel
theorem dX7_restore_30 : decode cX7_restore 30 = .ok (.iload_n 2, 1) := by decide +kernel
theorem dX7_restore_31 : decode cX7_restore 31 = .ok (.sipush 453, 3) := by decide +kernel
theorem dX7_restore_34 : decode cX7_restore 34 = .ok (.if_icmp .ge 27, 3) := by decide +kernel
theorem dX7_restore_37 : decode cX7_restore 37 = .ok (.aload_n 0, 1) := by decide +kernel
theorem dX7_restore_38 : decode cX7_restore 38 = .ok (.getfield 7, 3) := by decide +kernel
theorem dX7_restore_41 : decode cX7_restore 41 = .ok (.iload_n 2, 1) := by decide +kernel
theorem dX7_restore_42 : decode cX7_restore 42 = .ok (.aload_n 0, 1) := by decide +kernel
theorem dX7_restore_43 : decode cX7_restore 43 = .ok (.getfield 19, 3) := by decide +kernel
theorem dX7_restore_46 : decode cX7_restore 46 = .ok (.sipush 453, 3) := by decide +kernel
theorem dX7_restore_49 : decode cX7_restore 49 = .ok (.iload_n 1, 1) := by decide +kernel
theorem dX7_restore_50 : decode cX7_restore 50 = .ok (.imul, 1) := by decide +kernel
theorem dX7_restore_51 : decode cX7_restore 51 = .ok (.iload_n 2, 1) := by decide +kernel
theorem dX7_restore_52 : decode cX7_restore 52 = .ok (.iadd, 1) := by decide +kernel
theorem dX7_restore_53 : decode cX7_restore 53 = .ok (.iaload, 1) := by decide +kernel
theorem dX7_restore_54 : decode cX7_restore 54 = .ok (.iastore, 1) := by decide +kernel
theorem dX7_restore_55 : decode cX7_restore 55 = .ok (.iinc 2 1, 3) := by decide +kernel
theorem dX7_restore_58 : decode cX7_restore 58 = .ok (.goto (-28), 3) := by decide +kernel
theorem dX7_restore_61 : decode cX7_restore 61 = .ok (.aload_n 0, 1) := by decide +kernel
theorem dX7_restore_62 : decode cX7_restore 62 = .ok (.getfield 7, 3) := by decide +kernel
theorem dX7_restore_65 : decode cX7_restore 65 = .ok (.iconst 1, 1) := by decide +kernel
theorem dX7_restore_66 : decode cX7_restore 66 = .ok (.iaload, 1) := by decide +kernel
theorem dX7_restore_67 : decode cX7_restore 67 = .ok (.ireturn, 1) := by decide +kernel
end
section
theorem dX0_init_0 : decode cX0_init 0 = .ok (.aload_n 0, 1) := by decide +kernel
theorem dX0_init_1 : decode cX0_init 1 = .ok (.invokespecial 3, 3) := by decide +kernel
theorem dX0_init_4 : decode cX0_init 4 = .ok (.aload_n 0, 1) := by decide +kernel
theorem dX0_init_5 : decode cX0_init 5 = .ok (.bipush 6, 2) := by decide +kernel
theorem dX0_init_7 : decode cX0_init 7 = .ok (.anewarray 9, 3) := by decide +kernel
theorem dX0_init_10 : decode cX0_init 10 = .ok (.putfield 11, 3) := by decide +kernel
theorem dX0_init_13 : decode cX0_init 13 = .ok (.aload_n 0, 1) := by decide +kernel
theorem dX0_init_14 : decode cX0_init 14 = .ok (.aload_n 1, 1) := by decide +kernel
theorem dX0_init_15 : decode cX0_init 15 = .ok (.putfield 17, 3) := by decide +kernel
theorem dX0_init_18 : decode cX0_init 18 = .ok (.return_, 1) := by decide +kernel
theorem dX0_record_0 : decode cX0_record 0 = .ok (.aload_n 0, 1) := by decide +kernel
theorem dX0_record_1 : decode cX0_record 1 = .ok (.getfield 21, 3) := by decide +kernel
theorem dX0_record_4 : decode cX0_record 4 = .ok (.aload_n 0, 1) := by decide +kernel
theorem dX0_record_5 : decode cX0_record 5 = .ok (.getfield 25, 3) := by decide +kernel
theorem dX0_record_8 : decode cX0_record 8 = .ok (.iadd, 1) := by decide +kernel
theorem dX0_record_9 : decode cX0_record 9 = .ok (.bipush 6, 2) := by decide +kernel
theorem dX0_record_11 : decode cX0_record 11 = .ok (.invokestatic 28, 3) := by decide +kernel
theorem dX0_record_14 : decode cX0_record 14 = .ok (.istore_n 2, 1) := by decide +kernel
theorem dX0_record_15 : decode cX0_record 15 = .ok (.aload_n 0, 1) := by decide +kernel
theorem dX0_record_16 : decode cX0_record 16 = .ok (.getfield 11, 3) := by decide +kernel
theorem dX0_record_19 : decode cX0_record 19 = .ok (.iload_n 2, 1) := by decide +kernel
theorem dX0_record_20 : decode cX0_record 20 = .ok (.aaload, 1) := by decide +kernel
theorem dX0_record_21 : decode cX0_record 21 = .ok (.astore_n 3, 1) := by decide +kernel
theorem dX0_record_22 : decode cX0_record 22 = .ok (.aload_n 3, 1) := by decide +kernel
theorem dX0_record_23 : decode cX0_record 23 = .ok (.ifnonnull 22, 3) := by decide +kernel
theorem dX0_record_26 : decode cX0_record 26 = .ok (.new 9, 3) := by decide +kernel
theorem dX0_record_29 : decode cX0_record 29 = .ok (.dup, 1) := by decide +kernel
theorem dX0_record_30 : decode cX0_record 30 = .ok (.aload_n 0, 1) := by decide +kernel
theorem dX0_record_31 : decode cX0_record 31 = .ok (.getfield 17, 3) := by decide +kernel
theorem dX0_record_34 : decode cX0_record 34 = .ok (.invokespecial 34, 3) := by decide +kernel
theorem dX0_record_37 : decode cX0_record 37 = .ok (.astore_n 3, 1) := by decide +kernel
theorem dX0_record_38 : decode cX0_record 38 = .ok (.aload_n 0, 1) := by decide +kernel
theorem dX0_record_39 : decode cX0_record 39 = .ok (.getfield 11, 3) := by decide +kernel
theorem dX0_record_42 : decode cX0_record 42 = .ok (.iload_n 2, 1) := by decide +kernel
theorem dX0_record_43 : decode cX0_record 43 = .ok (.aload_n 3, 1) := by decide +kernel
theorem dX0_record_44 : decode cX0_record 44 = .ok (.aastore, 1) := by decide +kernel
theorem dX0_record_45 : decode cX0_record 45 = .ok (.aload_n 3, 1) := by decide +kernel
theorem dX0_record_46 : decode cX0_record 46 = .ok (.aload_n 1, 1) := by decide +kernel
theorem dX0_record_47 : decode cX0_record 47 = .ok (.invokevirtual 37, 3) := by decide +kernel
theorem dX0_record_50 : decode cX0_record 50 = .ok (.aload_n 0, 1) := by decide +kernel
theorem dX0_record_51 : decode cX0_record 51 = .ok (.getfield 25, 3) := by decide +kernel
theorem dX0_record_54 : decode cX0_record 54 = .ok (.bipush 6, 2) := by decide +kernel
theorem dX0_record_56 : decode cX0_record 56 = .ok (.if_icmp .ge 16, 3) := by decide +kernel
theorem dX0_record_59 : decode cX0_record 59 = .ok (.aload_n 0, 1) := by decide +kernel
theorem dX0_record_60 : decode cX0_record 60 = .ok (.dup, 1) := by decide +kernel
theorem dX0_record_61 : decode cX0_record 61 = .ok (.getfield 25, 3) := by decide +kernel
theorem dX0_record_64 : decode cX0_record 64 = .ok (.iconst 1, 1) := by decide +kernel
theorem dX0_record_65 : decode cX0_record 65 = .ok (.iadd, 1) := by decide +kernel
theorem dX0_record_66 : decode cX0_record 66 = .ok (.putfield 25, 3) := by decide +kernel
theorem dX0_record_69 : decode cX0_record 69 = .ok (.goto 18, 3) := by decide +kernel
theorem dX0_record_72 : decode cX0_record 72 = .ok (.aload_n 0, 1) := by decide +kernel
theorem dX0_record_73 : decode cX0_record 73 = .ok (.aload_n 0, 1) := by decide +kernel
theorem dX0_record_74 : decode cX0_record 74 = .ok (.getfield 21, 3) := by decide +kernel
theorem dX0_record_77 : decode cX0_record 77 = .ok (.iconst 1, 1) := by decide +kernel
theorem dX0_record_78 : decode cX0_record 78 = .ok (.iadd, 1) := by decide +kernel
theorem dX0_record_79 : decode cX0_record 79 = .ok (.bipush 6, 2) := by decide +kernel
theorem dX0_record_81 : decode cX0_record 81 = .ok (.invokestatic 28, 3) := by decide +kernel
theorem dX0_record_84 : decode cX0_record 84 = .ok (.putfield 21, 3) := by decide +kernel
theorem dX0_record_87 : decode cX0_record 87 = .ok (.return_, 1) := by decide +kernel
theorem dX0_takeBack_0 : decode cX0_takeBack 0 = .ok (.aload_n 0, 1) := by decide +kernel
theorem dX0_takeBack_1 : decode cX0_takeBack 1 = .ok (.getfield 25, 3) := by decide +kernel
theorem dX0_takeBack_4 : decode cX0_takeBack 4 = .ok (.ifCond .gt 5, 3) := by decide +kernel
theorem dX0_takeBack_7 : decode cX0_takeBack 7 = .ok (.iconst 0, 1) := by decide +kernel
theorem dX0_takeBack_8 : decode cX0_takeBack 8 = .ok (.ireturn, 1) := by decide +kernel
theorem dX0_takeBack_9 : decode cX0_takeBack 9 = .ok (.aload_n 0, 1) := by decide +kernel
theorem dX0_takeBack_10 : decode cX0_takeBack 10 = .ok (.getfield 11, 3) := by decide +kernel
theorem dX0_takeBack_13 : decode cX0_takeBack 13 = .ok (.aload_n 0, 1) := by decide +kernel
theorem dX0_takeBack_14 : decode cX0_takeBack 14 = .ok (.getfield 21, 3) := by decide +kernel
theorem dX0_takeBack_17 : decode cX0_takeBack 17 = .ok (.aload_n 0, 1) := by decide +kernel
theorem dX0_takeBack_18 : decode cX0_takeBack 18 = .ok (.getfield 25, 3) := by decide +kernel
theorem dX0_takeBack_21 : decode cX0_takeBack 21 = .ok (.iadd, 1) := by decide +kernel
theorem dX0_takeBack_22 : decode cX0_takeBack 22 = .ok (.iconst 1, 1) := by decide +kernel
theorem dX0_takeBack_23 : decode cX0_takeBack 23 = .ok (.isub, 1) := by decide +kernel
theorem dX0_takeBack_24 : decode cX0_takeBack 24 = .ok (.bipush 6, 2) := by decide +kernel
theorem dX0_takeBack_26 : decode cX0_takeBack 26 = .ok (.invokestatic 28, 3) := by decide +kernel
theorem dX0_takeBack_29 : decode cX0_takeBack 29 = .ok (.aaload, 1) := by decide +kernel
theorem dX0_takeBack_30 : decode cX0_takeBack 30 = .ok (.astore_n 2, 1) := by decide +kernel
theorem dX0_takeBack_31 : decode cX0_takeBack 31 = .ok (.aload_n 2, 1) := by decide +kernel
theorem dX0_takeBack_32 : decode cX0_takeBack 32 = .ok (.ifnonnull 5, 3) := by decide +kernel
theorem dX0_takeBack_35 : decode cX0_takeBack 35 = .ok (.iconst 0, 1) := by decide +kernel
theorem dX0_takeBack_36 : decode cX0_takeBack 36 = .ok (.ireturn, 1) := by decide +kernel
theorem dX0_takeBack_37 : decode cX0_takeBack 37 = .ok (.aload_n 1, 1) := by decide +kernel
theorem dX0_takeBack_38 : decode cX0_takeBack 38 = .ok (.aload_n 2, 1) := by decide +kernel
theorem dX0_takeBack_39 : decode cX0_takeBack 39 = .ok (.invokevirtual 37, 3) := by decide +kernel
theorem dX0_takeBack_42 : decode cX0_takeBack 42 = .ok (.aload_n 0, 1) := by decide +kernel
theorem dX0_takeBack_43 : decode cX0_takeBack 43 = .ok (.dup, 1) := by decide +kernel
theorem dX0_takeBack_44 : decode cX0_takeBack 44 = .ok (.getfield 25, 3) := by decide +kernel
theorem dX0_takeBack_47 : decode cX0_takeBack 47 = .ok (.iconst 1, 1) := by decide +kernel
theorem dX0_takeBack_48 : decode cX0_takeBack 48 = .ok (.isub, 1) := by decide +kernel
theorem dX0_takeBack_49 : decode cX0_takeBack 49 = .ok (.putfield 25, 3) := by decide +kernel
theorem dX0_takeBack_52 : decode cX0_takeBack 52 = .ok (.iconst 1, 1) := by decide +kernel
theorem dX0_takeBack_53 : decode cX0_takeBack 53 = .ok (.ireturn, 1) := by decide +kernel
theorem dX1_init_0 : decode cX1_init 0 = .ok (.aload_n 0, 1) := by decide +kernel
theorem dX1_init_1 : decode cX1_init 1 = .ok (.invokespecial 3, 3) := by decide +kernel
theorem dX1_init_4 : decode cX1_init 4 = .ok (.aload_n 0, 1) := by decide +kernel
theorem dX1_init_5 : decode cX1_init 5 = .ok (.bipush 80, 2) := by decide +kernel
theorem dX1_init_7 : decode cX1_init 7 = .ok (.newarray .char, 2) := by decide +kernel
theorem dX1_init_9 : decode cX1_init 9 = .ok (.putfield 9, 3) := by decide +kernel
theorem dX1_init_12 : decode cX1_init 12 = .ok (.return_, 1) := by decide +kernel
theorem dX1_empty_0 : decode cX1_empty 0 = .ok (.aload_n 0, 1) := by decide +kernel
theorem dX1_empty_1 : decode cX1_empty 1 = .ok (.iconst 0, 1) := by decide +kernel
theorem dX1_empty_2 : decode cX1_empty 2 = .ok (.putfield 15, 3) := by decide +kernel
theorem dX1_empty_5 : decode cX1_empty 5 = .ok (.return_, 1) := by decide +kernel
theorem dX1_append_0 : decode cX1_append 0 = .ok (.lload_n 1, 1) := by decide +kernel
theorem dX1_append_1 : decode cX1_append 1 = .ok (.invokestatic 19, 3) := by decide +kernel
theorem dX1_append_4 : decode cX1_append 4 = .ok (.istore_n 3, 1) := by decide +kernel
theorem dX1_append_5 : decode cX1_append 5 = .ok (.iload_n 3, 1) := by decide +kernel
theorem dX1_append_6 : decode cX1_append 6 = .ok (.ifCond .gt 6, 3) := by decide +kernel
theorem dX1_append_9 : decode cX1_append 9 = .ok (.bipush (-2), 2) := by decide +kernel
theorem dX1_append_11 : decode cX1_append 11 = .ok (.ireturn, 1) := by decide +kernel
theorem dX1_append_12 : decode cX1_append 12 = .ok (.aload_n 0, 1) := by decide +kernel
theorem dX1_append_13 : decode cX1_append 13 = .ok (.getfield 15, 3) := by decide +kernel
theorem dX1_append_16 : decode cX1_append 16 = .ok (.bipush 80, 2) := by decide +kernel
theorem dX1_append_18 : decode cX1_append 18 = .ok (.iload_n 3, 1) := by decide +kernel
theorem dX1_append_19 : decode cX1_append 19 = .ok (.isub, 1) := by decide +kernel
theorem dX1_append_20 : decode cX1_append 20 = .ok (.if_icmp .le 6, 3) := by decide +kernel
theorem dX1_append_23 : decode cX1_append 23 = .ok (.bipush (-4), 2) := by decide +kernel
theorem dX1_append_25 : decode cX1_append 25 = .ok (.ireturn, 1) := by decide +kernel
theorem dX1_append_26 : decode cX1_append 26 = .ok (.iconst 0, 1) := by decide +kernel
theorem dX1_append_27 : decode cX1_append 27 = .ok (.istore 4, 2) := by decide +kernel
theorem dX1_append_29 : decode cX1_append 29 = .ok (.iload 4, 2) := by decide +kernel
theorem dX1_append_31 : decode cX1_append 31 = .ok (.iload_n 3, 1) := by decide +kernel
theorem dX1_append_32 : decode cX1_append 32 = .ok (.if_icmp .ge 39, 3) := by decide +kernel
theorem dX1_append_35 : decode cX1_append 35 = .ok (.aload_n 0, 1) := by decide +kernel
theorem dX1_append_36 : decode cX1_append 36 = .ok (.getfield 9, 3) := by decide +kernel
theorem dX1_append_39 : decode cX1_append 39 = .ok (.aload_n 0, 1) := by decide +kernel
theorem dX1_append_40 : decode cX1_append 40 = .ok (.getfield 15, 3) := by decide +kernel
theorem dX1_append_43 : decode cX1_append 43 = .ok (.lload_n 1, 1) := by decide +kernel
theorem dX1_append_44 : decode cX1_append 44 = .ok (.iload_n 3, 1) := by decide +kernel
theorem dX1_append_45 : decode cX1_append 45 = .ok (.iconst 1, 1) := by decide +kernel
theorem dX1_append_46 : decode cX1_append 46 = .ok (.isub, 1) := by decide +kernel
theorem dX1_append_47 : decode cX1_append 47 = .ok (.iload 4, 2) := by decide +kernel
theorem dX1_append_49 : decode cX1_append 49 = .ok (.isub, 1) := by decide +kernel
theorem dX1_append_50 : decode cX1_append 50 = .ok (.invokestatic 23, 3) := by decide +kernel
theorem dX1_append_53 : decode cX1_append 53 = .ok (.i2c, 1) := by decide +kernel
theorem dX1_append_54 : decode cX1_append 54 = .ok (.castore, 1) := by decide +kernel
theorem dX1_append_55 : decode cX1_append 55 = .ok (.aload_n 0, 1) := by decide +kernel
theorem dX1_append_56 : decode cX1_append 56 = .ok (.dup, 1) := by decide +kernel
theorem dX1_append_57 : decode cX1_append 57 = .ok (.getfield 15, 3) := by decide +kernel
theorem dX1_append_60 : decode cX1_append 60 = .ok (.iconst 1, 1) := by decide +kernel
theorem dX1_append_61 : decode cX1_append 61 = .ok (.iadd, 1) := by decide +kernel
theorem dX1_append_62 : decode cX1_append 62 = .ok (.putfield 15, 3) := by decide +kernel
theorem dX1_append_65 : decode cX1_append 65 = .ok (.iinc 4 1, 3) := by decide +kernel
theorem dX1_append_68 : decode cX1_append 68 = .ok (.goto (-39), 3) := by decide +kernel
theorem dX1_append_71 : decode cX1_append 71 = .ok (.aload_n 0, 1) := by decide +kernel
theorem dX1_append_72 : decode cX1_append 72 = .ok (.getfield 15, 3) := by decide +kernel
theorem dX1_append_75 : decode cX1_append 75 = .ok (.ireturn, 1) := by decide +kernel
theorem dX1_signsIn_0 : decode cX1_signsIn 0 = .ok (.iconst 0, 1) := by decide +kernel
theorem dX1_signsIn_1 : decode cX1_signsIn 1 = .ok (.istore_n 2, 1) := by decide +kernel
theorem dX1_signsIn_2 : decode cX1_signsIn 2 = .ok (.iload_n 2, 1) := by decide +kernel
theorem dX1_signsIn_3 : decode cX1_signsIn 3 = .ok (.bipush 8, 2) := by decide +kernel
theorem dX1_signsIn_5 : decode cX1_signsIn 5 = .ok (.if_icmp .ge 38, 3) := by decide +kernel
theorem dX1_signsIn_8 : decode cX1_signsIn 8 = .ok (.lload_n 0, 1) := by decide +kernel
theorem dX1_signsIn_9 : decode cX1_signsIn 9 = .ok (.iload_n 2, 1) := by decide +kernel
theorem dX1_signsIn_10 : decode cX1_signsIn 10 = .ok (.invokestatic 23, 3) := by decide +kernel
theorem dX1_signsIn_13 : decode cX1_signsIn 13 = .ok (.ifCond .eq 30, 3) := by decide +kernel
theorem dX1_signsIn_16 : decode cX1_signsIn 16 = .ok (.lload_n 0, 1) := by decide +kernel
theorem dX1_signsIn_17 : decode cX1_signsIn 17 = .ok (.iload_n 2, 1) := by decide +kernel
theorem dX1_signsIn_18 : decode cX1_signsIn 18 = .ok (.invokestatic 23, 3) := by decide +kernel
theorem dX1_signsIn_21 : decode cX1_signsIn 21 = .ok (.istore_n 3, 1) := by decide +kernel
theorem dX1_signsIn_22 : decode cX1_signsIn 22 = .ok (.iload_n 3, 1) := by decide +kernel
theorem dX1_signsIn_23 : decode cX1_signsIn 23 = .ok (.bipush 33, 2) := by decide +kernel
theorem dX1_signsIn_25 : decode cX1_signsIn 25 = .ok (.if_icmp .lt 9, 3) := by decide +kernel
theorem dX1_signsIn_28 : decode cX1_signsIn 28 = .ok (.iload_n 3, 1) := by decide +kernel
theorem dX1_signsIn_29 : decode cX1_signsIn 29 = .ok (.bipush 126, 2) := by decide +kernel
theorem dX1_signsIn_31 : decode cX1_signsIn 31 = .ok (.if_icmp .le 6, 3) := by decide +kernel
theorem dX1_signsIn_34 : decode cX1_signsIn 34 = .ok (.bipush (-2), 2) := by decide +kernel
theorem dX1_signsIn_36 : decode cX1_signsIn 36 = .ok (.ireturn, 1) := by decide +kernel
theorem dX1_signsIn_37 : decode cX1_signsIn 37 = .ok (.iinc 2 1, 3) := by decide +kernel
theorem dX1_signsIn_40 : decode cX1_signsIn 40 = .ok (.goto (-38), 3) := by decide +kernel
theorem dX1_signsIn_43 : decode cX1_signsIn 43 = .ok (.iload_n 2, 1) := by decide +kernel
theorem dX1_signsIn_44 : decode cX1_signsIn 44 = .ok (.bipush 8, 2) := by decide +kernel
theorem dX1_signsIn_46 : decode cX1_signsIn 46 = .ok (.if_icmp .ge 18, 3) := by decide +kernel
theorem dX1_signsIn_49 : decode cX1_signsIn 49 = .ok (.lload_n 0, 1) := by decide +kernel
theorem dX1_signsIn_50 : decode cX1_signsIn 50 = .ok (.bipush 8, 2) := by decide +kernel
theorem dX1_signsIn_52 : decode cX1_signsIn 52 = .ok (.iload_n 2, 1) := by decide +kernel
theorem dX1_signsIn_53 : decode cX1_signsIn 53 = .ok (.imul, 1) := by decide +kernel
theorem dX1_signsIn_54 : decode cX1_signsIn 54 = .ok (.lushr, 1) := by decide +kernel
theorem dX1_signsIn_55 : decode cX1_signsIn 55 = .ok (.lconst 0, 1) := by decide +kernel
theorem dX1_signsIn_56 : decode cX1_signsIn 56 = .ok (.lcmp, 1) := by decide +kernel
theorem dX1_signsIn_57 : decode cX1_signsIn 57 = .ok (.ifCond .eq 7, 3) := by decide +kernel
theorem dX1_signsIn_60 : decode cX1_signsIn 60 = .ok (.iconst 1, 1) := by decide +kernel
theorem dX1_signsIn_61 : decode cX1_signsIn 61 = .ok (.goto 4, 3) := by decide +kernel
theorem dX1_signsIn_64 : decode cX1_signsIn 64 = .ok (.iconst 0, 1) := by decide +kernel
theorem dX1_signsIn_65 : decode cX1_signsIn 65 = .ok (.istore_n 3, 1) := by decide +kernel
theorem dX1_signsIn_66 : decode cX1_signsIn 66 = .ok (.iload_n 3, 1) := by decide +kernel
theorem dX1_signsIn_67 : decode cX1_signsIn 67 = .ok (.ifCond .eq 8, 3) := by decide +kernel
theorem dX1_signsIn_70 : decode cX1_signsIn 70 = .ok (.bipush (-2), 2) := by decide +kernel
theorem dX1_signsIn_72 : decode cX1_signsIn 72 = .ok (.goto 4, 3) := by decide +kernel
theorem dX1_signsIn_75 : decode cX1_signsIn 75 = .ok (.iload_n 2, 1) := by decide +kernel
theorem dX1_signsIn_76 : decode cX1_signsIn 76 = .ok (.ireturn, 1) := by decide +kernel
theorem dX1_codeIn_0 : decode cX1_codeIn 0 = .ok (.lload_n 0, 1) := by decide +kernel
theorem dX1_codeIn_1 : decode cX1_codeIn 1 = .ok (.bipush 8, 2) := by decide +kernel
theorem dX1_codeIn_3 : decode cX1_codeIn 3 = .ok (.iload_n 2, 1) := by decide +kernel
theorem dX1_codeIn_4 : decode cX1_codeIn 4 = .ok (.imul, 1) := by decide +kernel
theorem dX1_codeIn_5 : decode cX1_codeIn 5 = .ok (.lushr, 1) := by decide +kernel
theorem dX1_codeIn_6 : decode cX1_codeIn 6 = .ok (.ldc2_w 27, 3) := by decide +kernel
theorem dX1_codeIn_9 : decode cX1_codeIn 9 = .ok (.land, 1) := by decide +kernel
theorem dX1_codeIn_10 : decode cX1_codeIn 10 = .ok (.l2i, 1) := by decide +kernel
theorem dX1_codeIn_11 : decode cX1_codeIn 11 = .ok (.ireturn, 1) := by decide +kernel
theorem dX1_letterAt_0 : decode cX1_letterAt 0 = .ok (.iload_n 1, 1) := by decide +kernel
theorem dX1_letterAt_1 : decode cX1_letterAt 1 = .ok (.ifCond .lt 17, 3) := by decide +kernel
theorem dX1_letterAt_4 : decode cX1_letterAt 4 = .ok (.iload_n 1, 1) := by decide +kernel
theorem dX1_letterAt_5 : decode cX1_letterAt 5 = .ok (.aload_n 0, 1) := by decide +kernel
theorem dX1_letterAt_6 : decode cX1_letterAt 6 = .ok (.getfield 15, 3) := by decide +kernel
theorem dX1_letterAt_9 : decode cX1_letterAt 9 = .ok (.if_icmp .ge 9, 3) := by decide +kernel
theorem dX1_letterAt_12 : decode cX1_letterAt 12 = .ok (.iload_n 1, 1) := by decide +kernel
theorem dX1_letterAt_13 : decode cX1_letterAt 13 = .ok (.bipush 80, 2) := by decide +kernel
theorem dX1_letterAt_15 : decode cX1_letterAt 15 = .ok (.if_icmp .lt 6, 3) := by decide +kernel
theorem dX1_letterAt_18 : decode cX1_letterAt 18 = .ok (.bipush (-6), 2) := by decide +kernel
theorem dX1_letterAt_20 : decode cX1_letterAt 20 = .ok (.ireturn, 1) := by decide +kernel
theorem dX1_letterAt_21 : decode cX1_letterAt 21 = .ok (.ldc 29, 2) := by decide +kernel
theorem dX1_letterAt_23 : decode cX1_letterAt 23 = .ok (.aload_n 0, 1) := by decide +kernel
theorem dX1_letterAt_24 : decode cX1_letterAt 24 = .ok (.getfield 9, 3) := by decide +kernel
theorem dX1_letterAt_27 : decode cX1_letterAt 27 = .ok (.iload_n 1, 1) := by decide +kernel
theorem dX1_letterAt_28 : decode cX1_letterAt 28 = .ok (.caload, 1) := by decide +kernel
theorem dX1_letterAt_29 : decode cX1_letterAt 29 = .ok (.invokevirtual 31, 3) := by decide +kernel
theorem dX1_letterAt_32 : decode cX1_letterAt 32 = .ok (.istore_n 2, 1) := by decide +kernel
theorem dX1_letterAt_33 : decode cX1_letterAt 33 = .ok (.iload_n 2, 1) := by decide +kernel
theorem dX1_letterAt_34 : decode cX1_letterAt 34 = .ok (.ifCond .ge 8, 3) := by decide +kernel
theorem dX1_letterAt_37 : decode cX1_letterAt 37 = .ok (.bipush (-6), 2) := by decide +kernel
theorem dX1_letterAt_39 : decode cX1_letterAt 39 = .ok (.goto 4, 3) := by decide +kernel
theorem dX1_letterAt_42 : decode cX1_letterAt 42 = .ok (.iload_n 2, 1) := by decide +kernel
theorem dX1_letterAt_43 : decode cX1_letterAt 43 = .ok (.ireturn, 1) := by decide +kernel
theorem dX1_faultIndex_0 : decode cX1_faultIndex 0 = .ok (.iconst 0, 1) := by decide +kernel
theorem dX1_faultIndex_1 : decode cX1_faultIndex 1 = .ok (.istore_n 1, 1) := by decide +kernel
theorem dX1_faultIndex_2 : decode cX1_faultIndex 2 = .ok (.iload_n 1, 1) := by decide +kernel
theorem dX1_faultIndex_3 : decode cX1_faultIndex 3 = .ok (.aload_n 0, 1) := by decide +kernel
theorem dX1_faultIndex_4 : decode cX1_faultIndex 4 = .ok (.getfield 15, 3) := by decide +kernel
theorem dX1_faultIndex_7 : decode cX1_faultIndex 7 = .ok (.if_icmp .ge 27, 3) := by decide +kernel
theorem dX1_faultIndex_10 : decode cX1_faultIndex 10 = .ok (.iload_n 1, 1) := by decide +kernel
theorem dX1_faultIndex_11 : decode cX1_faultIndex 11 = .ok (.bipush 12, 2) := by decide +kernel
theorem dX1_faultIndex_13 : decode cX1_faultIndex 13 = .ok (.if_icmp .ge 13, 3) := by decide +kernel
theorem dX1_faultIndex_16 : decode cX1_faultIndex 16 = .ok (.aload_n 0, 1) := by decide +kernel
theorem dX1_faultIndex_17 : decode cX1_faultIndex 17 = .ok (.iload_n 1, 1) := by decide +kernel
theorem dX1_faultIndex_18 : decode cX1_faultIndex 18 = .ok (.invokevirtual 37, 3) := by decide +kernel
theorem dX1_faultIndex_21 : decode cX1_faultIndex 21 = .ok (.bipush (-6), 2) := by decide +kernel
theorem dX1_faultIndex_23 : decode cX1_faultIndex 23 = .ok (.if_icmp .ne 5, 3) := by decide +kernel
theorem dX1_faultIndex_26 : decode cX1_faultIndex 26 = .ok (.iload_n 1, 1) := by decide +kernel
theorem dX1_faultIndex_27 : decode cX1_faultIndex 27 = .ok (.ireturn, 1) := by decide +kernel
theorem dX1_faultIndex_28 : decode cX1_faultIndex 28 = .ok (.iinc 1 1, 3) := by decide +kernel
theorem dX1_faultIndex_31 : decode cX1_faultIndex 31 = .ok (.goto (-29), 3) := by decide +kernel
theorem dX1_faultIndex_34 : decode cX1_faultIndex 34 = .ok (.aload_n 0, 1) := by decide +kernel
theorem dX1_faultIndex_35 : decode cX1_faultIndex 35 = .ok (.getfield 15, 3) := by decide +kernel
theorem dX1_faultIndex_38 : decode cX1_faultIndex 38 = .ok (.ifCond .ne 7, 3) := by decide +kernel
theorem dX1_faultIndex_41 : decode cX1_faultIndex 41 = .ok (.iconst 0, 1) := by decide +kernel
theorem dX1_faultIndex_42 : decode cX1_faultIndex 42 = .ok (.goto 5, 3) := by decide +kernel
theorem dX1_faultIndex_45 : decode cX1_faultIndex 45 = .ok (.bipush (-6), 2) := by decide +kernel
theorem dX1_faultIndex_47 : decode cX1_faultIndex 47 = .ok (.ireturn, 1) := by decide +kernel
theorem dX2_init_0 : decode cX2_init 0 = .ok (.aload_n 0, 1) := by decide +kernel
theorem dX2_init_1 : decode cX2_init 1 = .ok (.invokespecial 3, 3) := by decide +kernel
theorem dX2_init_4 : decode cX2_init 4 = .ok (.return_, 1) := by decide +kernel
theorem dX2_copyFrom_0 : decode cX2_copyFrom 0 = .ok (.aload_n 0, 1) := by decide +kernel
theorem dX2_copyFrom_1 : decode cX2_copyFrom 1 = .ok (.aload_n 1, 1) := by decide +kernel
theorem dX2_copyFrom_2 : decode cX2_copyFrom 2 = .ok (.getfield 9, 3) := by decide +kernel
theorem dX2_copyFrom_5 : decode cX2_copyFrom 5 = .ok (.putfield 9, 3) := by decide +kernel
theorem dX2_copyFrom_8 : decode cX2_copyFrom 8 = .ok (.aload_n 0, 1) := by decide +kernel
theorem dX2_copyFrom_9 : decode cX2_copyFrom 9 = .ok (.aload_n 1, 1) := by decide +kernel
theorem dX2_copyFrom_10 : decode cX2_copyFrom 10 = .ok (.getfield 15, 3) := by decide +kernel
theorem dX2_copyFrom_13 : decode cX2_copyFrom 13 = .ok (.putfield 15, 3) := by decide +kernel
theorem dX2_copyFrom_16 : decode cX2_copyFrom 16 = .ok (.aload_n 0, 1) := by decide +kernel
theorem dX2_copyFrom_17 : decode cX2_copyFrom 17 = .ok (.aload_n 1, 1) := by decide +kernel
theorem dX2_copyFrom_18 : decode cX2_copyFrom 18 = .ok (.getfield 18, 3) := by decide +kernel
theorem dX2_copyFrom_21 : decode cX2_copyFrom 21 = .ok (.putfield 18, 3) := by decide +kernel
theorem dX2_copyFrom_24 : decode cX2_copyFrom 24 = .ok (.aload_n 0, 1) := by decide +kernel
theorem dX2_copyFrom_25 : decode cX2_copyFrom 25 = .ok (.aload_n 1, 1) := by decide +kernel
theorem dX2_copyFrom_26 : decode cX2_copyFrom 26 = .ok (.getfield 21, 3) := by decide +kernel
theorem dX2_copyFrom_29 : decode cX2_copyFrom 29 = .ok (.putfield 21, 3) := by decide +kernel
theorem dX2_copyFrom_32 : decode cX2_copyFrom 32 = .ok (.aload_n 0, 1) := by decide +kernel
theorem dX2_copyFrom_33 : decode cX2_copyFrom 33 = .ok (.aload_n 1, 1) := by decide +kernel
theorem dX2_copyFrom_34 : decode cX2_copyFrom 34 = .ok (.getfield 24, 3) := by decide +kernel
theorem dX2_copyFrom_37 : decode cX2_copyFrom 37 = .ok (.putfield 24, 3) := by decide +kernel
theorem dX2_copyFrom_40 : decode cX2_copyFrom 40 = .ok (.aload_n 0, 1) := by decide +kernel
theorem dX2_copyFrom_41 : decode cX2_copyFrom 41 = .ok (.aload_n 1, 1) := by decide +kernel
theorem dX2_copyFrom_42 : decode cX2_copyFrom 42 = .ok (.getfield 27, 3) := by decide +kernel
theorem dX2_copyFrom_45 : decode cX2_copyFrom 45 = .ok (.putfield 27, 3) := by decide +kernel
theorem dX2_copyFrom_48 : decode cX2_copyFrom 48 = .ok (.aload_n 0, 1) := by decide +kernel
theorem dX2_copyFrom_49 : decode cX2_copyFrom 49 = .ok (.aload_n 1, 1) := by decide +kernel
theorem dX2_copyFrom_50 : decode cX2_copyFrom 50 = .ok (.getfield 30, 3) := by decide +kernel
theorem dX2_copyFrom_53 : decode cX2_copyFrom 53 = .ok (.putfield 30, 3) := by decide +kernel
theorem dX2_copyFrom_56 : decode cX2_copyFrom 56 = .ok (.return_, 1) := by decide +kernel
theorem dX2_becomeLoose_0 : decode cX2_becomeLoose 0 = .ok (.aload_n 0, 1) := by decide +kernel
theorem dX2_becomeLoose_1 : decode cX2_becomeLoose 1 = .ok (.iconst 0, 1) := by decide +kernel
theorem dX2_becomeLoose_2 : decode cX2_becomeLoose 2 = .ok (.putfield 27, 3) := by decide +kernel
theorem dX2_becomeLoose_5 : decode cX2_becomeLoose 5 = .ok (.aload_n 0, 1) := by decide +kernel
theorem dX2_becomeLoose_6 : decode cX2_becomeLoose 6 = .ok (.bipush (-6), 2) := by decide +kernel
theorem dX2_becomeLoose_8 : decode cX2_becomeLoose 8 = .ok (.putfield 30, 3) := by decide +kernel
theorem dX2_becomeLoose_11 : decode cX2_becomeLoose 11 = .ok (.return_, 1) := by decide +kernel
theorem dX3_init_0 : decode cX3_init 0 = .ok (.aload_n 0, 1) := by decide +kernel
theorem dX3_init_1 : decode cX3_init 1 = .ok (.invokespecial 3, 3) := by decide +kernel
theorem dX3_init_4 : decode cX3_init 4 = .ok (.aload_n 0, 1) := by decide +kernel
theorem dX3_init_5 : decode cX3_init 5 = .ok (.sipush 320, 3) := by decide +kernel
theorem dX3_init_8 : decode cX3_init 8 = .ok (.newarray .int, 2) := by decide +kernel
theorem dX3_init_10 : decode cX3_init 10 = .ok (.putfield 9, 3) := by decide +kernel
theorem dX3_init_13 : decode cX3_init 13 = .ok (.iconst 0, 1) := by decide +kernel
theorem dX3_init_14 : decode cX3_init 14 = .ok (.istore_n 1, 1) := by decide +kernel
theorem dX3_init_15 : decode cX3_init 15 = .ok (.iload_n 1, 1) := by decide +kernel
theorem dX3_init_16 : decode cX3_init 16 = .ok (.bipush 8, 2) := by decide +kernel
theorem dX3_init_18 : decode cX3_init 18 = .ok (.if_icmp .ge 60, 3) := by decide +kernel
theorem dX3_init_21 : decode cX3_init 21 = .ok (.iconst 0, 1) := by decide +kernel
theorem dX3_init_22 : decode cX3_init 22 = .ok (.istore_n 2, 1) := by decide +kernel
theorem dX3_init_23 : decode cX3_init 23 = .ok (.iload_n 2, 1) := by decide +kernel
theorem dX3_init_24 : decode cX3_init 24 = .ok (.bipush 8, 2) := by decide +kernel
theorem dX3_init_26 : decode cX3_init 26 = .ok (.if_icmp .ge 46, 3) := by decide +kernel
theorem dX3_init_29 : decode cX3_init 29 = .ok (.iconst 0, 1) := by decide +kernel
theorem dX3_init_30 : decode cX3_init 30 = .ok (.istore_n 3, 1) := by decide +kernel
theorem dX3_init_31 : decode cX3_init 31 = .ok (.iload_n 3, 1) := by decide +kernel
theorem dX3_init_32 : decode cX3_init 32 = .ok (.iload_n 2, 1) := by decide +kernel
theorem dX3_init_33 : decode cX3_init 33 = .ok (.invokestatic 15, 3) := by decide +kernel
theorem dX3_init_36 : decode cX3_init 36 = .ok (.if_icmp .ge 30, 3) := by decide +kernel
theorem dX3_init_39 : decode cX3_init 39 = .ok (.aload_n 0, 1) := by decide +kernel
theorem dX3_init_40 : decode cX3_init 40 = .ok (.getfield 9, 3) := by decide +kernel
theorem dX3_init_43 : decode cX3_init 43 = .ok (.iload_n 1, 1) := by decide +kernel
theorem dX3_init_44 : decode cX3_init 44 = .ok (.bipush 8, 2) := by decide +kernel
theorem dX3_init_46 : decode cX3_init 46 = .ok (.imul, 1) := by decide +kernel
theorem dX3_init_47 : decode cX3_init 47 = .ok (.iload_n 2, 1) := by decide +kernel
theorem dX3_init_48 : decode cX3_init 48 = .ok (.iadd, 1) := by decide +kernel
theorem dX3_init_49 : decode cX3_init 49 = .ok (.iconst 5, 1) := by decide +kernel
theorem dX3_init_50 : decode cX3_init 50 = .ok (.imul, 1) := by decide +kernel
theorem dX3_init_51 : decode cX3_init 51 = .ok (.iload_n 3, 1) := by decide +kernel
theorem dX3_init_52 : decode cX3_init 52 = .ok (.iadd, 1) := by decide +kernel
theorem dX3_init_53 : decode cX3_init 53 = .ok (.iload_n 1, 1) := by decide +kernel
theorem dX3_init_54 : decode cX3_init 54 = .ok (.iload_n 2, 1) := by decide +kernel
theorem dX3_init_55 : decode cX3_init 55 = .ok (.iload_n 3, 1) := by decide +kernel
theorem dX3_init_56 : decode cX3_init 56 = .ok (.invokestatic 19, 3) := by decide +kernel
theorem dX3_init_59 : decode cX3_init 59 = .ok (.iastore, 1) := by decide +kernel
theorem dX3_init_60 : decode cX3_init 60 = .ok (.iinc 3 1, 3) := by decide +kernel
theorem dX3_init_63 : decode cX3_init 63 = .ok (.goto (-32), 3) := by decide +kernel
theorem dX3_init_66 : decode cX3_init 66 = .ok (.iinc 2 1, 3) := by decide +kernel
theorem dX3_init_69 : decode cX3_init 69 = .ok (.goto (-46), 3) := by decide +kernel
theorem dX3_init_72 : decode cX3_init 72 = .ok (.iinc 1 1, 3) := by decide +kernel
theorem dX3_init_75 : decode cX3_init 75 = .ok (.goto (-60), 3) := by decide +kernel
theorem dX3_init_78 : decode cX3_init 78 = .ok (.return_, 1) := by decide +kernel
theorem dX3_columnsOf_0 : decode cX3_columnsOf 0 = .ok (.iload_n 1, 1) := by decide +kernel
theorem dX3_columnsOf_1 : decode cX3_columnsOf 1 = .ok (.invokestatic 23, 3) := by decide +kernel
theorem dX3_columnsOf_4 : decode cX3_columnsOf 4 = .ok (.ifCond .eq 19, 3) := by decide +kernel
theorem dX3_columnsOf_7 : decode cX3_columnsOf 7 = .ok (.iload_n 2, 1) := by decide +kernel
theorem dX3_columnsOf_8 : decode cX3_columnsOf 8 = .ok (.invokestatic 27, 3) := by decide +kernel
theorem dX3_columnsOf_11 : decode cX3_columnsOf 11 = .ok (.ifCond .eq 12, 3) := by decide +kernel
theorem dX3_columnsOf_14 : decode cX3_columnsOf 14 = .ok (.iload_n 3, 1) := by decide +kernel
theorem dX3_columnsOf_15 : decode cX3_columnsOf 15 = .ok (.ifCond .lt 8, 3) := by decide +kernel
theorem dX3_columnsOf_18 : decode cX3_columnsOf 18 = .ok (.iload_n 3, 1) := by decide +kernel
theorem dX3_columnsOf_19 : decode cX3_columnsOf 19 = .ok (.iconst 5, 1) := by decide +kernel
theorem dX3_columnsOf_20 : decode cX3_columnsOf 20 = .ok (.if_icmp .lt 5, 3) := by decide +kernel
theorem dX3_columnsOf_23 : decode cX3_columnsOf 23 = .ok (.iconst 0, 1) := by decide +kernel
theorem dX3_columnsOf_24 : decode cX3_columnsOf 24 = .ok (.ireturn, 1) := by decide +kernel
theorem dX3_columnsOf_25 : decode cX3_columnsOf 25 = .ok (.aload_n 0, 1) := by decide +kernel
theorem dX3_columnsOf_26 : decode cX3_columnsOf 26 = .ok (.getfield 9, 3) := by decide +kernel
theorem dX3_columnsOf_29 : decode cX3_columnsOf 29 = .ok (.iload_n 1, 1) := by decide +kernel
theorem dX3_columnsOf_30 : decode cX3_columnsOf 30 = .ok (.bipush 8, 2) := by decide +kernel
theorem dX3_columnsOf_32 : decode cX3_columnsOf 32 = .ok (.imul, 1) := by decide +kernel
theorem dX3_columnsOf_33 : decode cX3_columnsOf 33 = .ok (.iload_n 2, 1) := by decide +kernel
theorem dX3_columnsOf_34 : decode cX3_columnsOf 34 = .ok (.iadd, 1) := by decide +kernel
theorem dX3_columnsOf_35 : decode cX3_columnsOf 35 = .ok (.iconst 5, 1) := by decide +kernel
theorem dX3_columnsOf_36 : decode cX3_columnsOf 36 = .ok (.imul, 1) := by decide +kernel
theorem dX3_columnsOf_37 : decode cX3_columnsOf 37 = .ok (.iload_n 3, 1) := by decide +kernel
theorem dX3_columnsOf_38 : decode cX3_columnsOf 38 = .ok (.iadd, 1) := by decide +kernel
theorem dX3_columnsOf_39 : decode cX3_columnsOf 39 = .ok (.iaload, 1) := by decide +kernel
theorem dX3_columnsOf_40 : decode cX3_columnsOf 40 = .ok (.ireturn, 1) := by decide +kernel
theorem dX3_squaresOf_0 : decode cX3_squaresOf 0 = .ok (.iconst 0, 1) := by decide +kernel
theorem dX3_squaresOf_1 : decode cX3_squaresOf 1 = .ok (.istore_n 2, 1) := by decide +kernel
theorem dX3_squaresOf_2 : decode cX3_squaresOf 2 = .ok (.iconst 0, 1) := by decide +kernel
theorem dX3_squaresOf_3 : decode cX3_squaresOf 3 = .ok (.istore_n 3, 1) := by decide +kernel
theorem dX3_squaresOf_4 : decode cX3_squaresOf 4 = .ok (.iload_n 3, 1) := by decide +kernel
theorem dX3_squaresOf_5 : decode cX3_squaresOf 5 = .ok (.iconst 5, 1) := by decide +kernel
theorem dX3_squaresOf_6 : decode cX3_squaresOf 6 = .ok (.if_icmp .ge 22, 3) := by decide +kernel
theorem dX3_squaresOf_9 : decode cX3_squaresOf 9 = .ok (.iload_n 2, 1) := by decide +kernel
theorem dX3_squaresOf_10 : decode cX3_squaresOf 10 = .ok (.aload_n 0, 1) := by decide +kernel
theorem dX3_squaresOf_11 : decode cX3_squaresOf 11 = .ok (.iload_n 1, 1) := by decide +kernel
theorem dX3_squaresOf_12 : decode cX3_squaresOf 12 = .ok (.iconst 0, 1) := by decide +kernel
theorem dX3_squaresOf_13 : decode cX3_squaresOf 13 = .ok (.iload_n 3, 1) := by decide +kernel
theorem dX3_squaresOf_14 : decode cX3_squaresOf 14 = .ok (.invokevirtual 30, 3) := by decide +kernel
theorem dX3_squaresOf_17 : decode cX3_squaresOf 17 = .ok (.invokestatic 33, 3) := by decide +kernel
theorem dX3_squaresOf_20 : decode cX3_squaresOf 20 = .ok (.iadd, 1) := by decide +kernel
theorem dX3_squaresOf_21 : decode cX3_squaresOf 21 = .ok (.istore_n 2, 1) := by decide +kernel
theorem dX3_squaresOf_22 : decode cX3_squaresOf 22 = .ok (.iinc 3 1, 3) := by decide +kernel
theorem dX3_squaresOf_25 : decode cX3_squaresOf 25 = .ok (.goto (-21), 3) := by decide +kernel
theorem dX3_squaresOf_28 : decode cX3_squaresOf 28 = .ok (.iload_n 2, 1) := by decide +kernel
theorem dX3_squaresOf_29 : decode cX3_squaresOf 29 = .ok (.ireturn, 1) := by decide +kernel
theorem dX3_turnedRow_0 : decode cX3_turnedRow 0 = .ok (.iconst 0, 1) := by decide +kernel
theorem dX3_turnedRow_1 : decode cX3_turnedRow 1 = .ok (.istore_n 3, 1) := by decide +kernel
theorem dX3_turnedRow_2 : decode cX3_turnedRow 2 = .ok (.iconst 0, 1) := by decide +kernel
theorem dX3_turnedRow_3 : decode cX3_turnedRow 3 = .ok (.istore 4, 2) := by decide +kernel
theorem dX3_turnedRow_5 : decode cX3_turnedRow 5 = .ok (.iload 4, 2) := by decide +kernel
theorem dX3_turnedRow_7 : decode cX3_turnedRow 7 = .ok (.iload_n 1, 1) := by decide +kernel
theorem dX3_turnedRow_8 : decode cX3_turnedRow 8 = .ok (.invokestatic 38, 3) := by decide +kernel
theorem dX3_turnedRow_11 : decode cX3_turnedRow 11 = .ok (.if_icmp .ge 27, 3) := by decide +kernel
theorem dX3_turnedRow_14 : decode cX3_turnedRow 14 = .ok (.iload_n 0, 1) := by decide +kernel
theorem dX3_turnedRow_15 : decode cX3_turnedRow 15 = .ok (.iload_n 1, 1) := by decide +kernel
theorem dX3_turnedRow_16 : decode cX3_turnedRow 16 = .ok (.iload_n 2, 1) := by decide +kernel
theorem dX3_turnedRow_17 : decode cX3_turnedRow 17 = .ok (.iload 4, 2) := by decide +kernel
theorem dX3_turnedRow_19 : decode cX3_turnedRow 19 = .ok (.invokestatic 41, 3) := by decide +kernel
theorem dX3_turnedRow_22 : decode cX3_turnedRow 22 = .ok (.ifCond .eq 10, 3) := by decide +kernel
theorem dX3_turnedRow_25 : decode cX3_turnedRow 25 = .ok (.iload_n 3, 1) := by decide +kernel
theorem dX3_turnedRow_26 : decode cX3_turnedRow 26 = .ok (.iconst 1, 1) := by decide +kernel
theorem dX3_turnedRow_27 : decode cX3_turnedRow 27 = .ok (.iload 4, 2) := by decide +kernel
theorem dX3_turnedRow_29 : decode cX3_turnedRow 29 = .ok (.ishl, 1) := by decide +kernel
theorem dX3_turnedRow_30 : decode cX3_turnedRow 30 = .ok (.ior, 1) := by decide +kernel
theorem dX3_turnedRow_31 : decode cX3_turnedRow 31 = .ok (.istore_n 3, 1) := by decide +kernel
theorem dX3_turnedRow_32 : decode cX3_turnedRow 32 = .ok (.iinc 4 1, 3) := by decide +kernel
theorem dX3_turnedRow_35 : decode cX3_turnedRow 35 = .ok (.goto (-30), 3) := by decide +kernel
theorem dX3_turnedRow_38 : decode cX3_turnedRow 38 = .ok (.iload_n 3, 1) := by decide +kernel
theorem dX3_turnedRow_39 : decode cX3_turnedRow 39 = .ok (.ireturn, 1) := by decide +kernel
theorem dX3_hasSquare_0 : decode cX3_hasSquare 0 = .ok (.iload_n 2, 1) := by decide +kernel
theorem dX3_hasSquare_1 : decode cX3_hasSquare 1 = .ok (.istore 4, 2) := by decide +kernel
theorem dX3_hasSquare_3 : decode cX3_hasSquare 3 = .ok (.iload_n 3, 1) := by decide +kernel
theorem dX3_hasSquare_4 : decode cX3_hasSquare 4 = .ok (.istore 5, 2) := by decide +kernel
theorem dX3_hasSquare_6 : decode cX3_hasSquare 6 = .ok (.iload_n 1, 1) := by decide +kernel
theorem dX3_hasSquare_7 : decode cX3_hasSquare 7 = .ok (.iconst 4, 1) := by decide +kernel
theorem dX3_hasSquare_8 : decode cX3_hasSquare 8 = .ok (.irem, 1) := by decide +kernel
theorem dX3_hasSquare_9 : decode cX3_hasSquare 9 = .ok (.tableswitch 62 1 3 #[27, 38, 51], 27) := by decide +kernel
theorem dX3_hasSquare_36 : decode cX3_hasSquare 36 = .ok (.iconst 4, 1) := by decide +kernel
theorem dX3_hasSquare_37 : decode cX3_hasSquare 37 = .ok (.iload_n 3, 1) := by decide +kernel
theorem dX3_hasSquare_38 : decode cX3_hasSquare 38 = .ok (.isub, 1) := by decide +kernel
theorem dX3_hasSquare_39 : decode cX3_hasSquare 39 = .ok (.istore 4, 2) := by decide +kernel
theorem dX3_hasSquare_41 : decode cX3_hasSquare 41 = .ok (.iload_n 2, 1) := by decide +kernel
theorem dX3_hasSquare_42 : decode cX3_hasSquare 42 = .ok (.istore 5, 2) := by decide +kernel
theorem dX3_hasSquare_44 : decode cX3_hasSquare 44 = .ok (.goto 27, 3) := by decide +kernel
theorem dX3_hasSquare_47 : decode cX3_hasSquare 47 = .ok (.iconst 4, 1) := by decide +kernel
theorem dX3_hasSquare_48 : decode cX3_hasSquare 48 = .ok (.iload_n 2, 1) := by decide +kernel
theorem dX3_hasSquare_49 : decode cX3_hasSquare 49 = .ok (.isub, 1) := by decide +kernel
theorem dX3_hasSquare_50 : decode cX3_hasSquare 50 = .ok (.istore 4, 2) := by decide +kernel
theorem dX3_hasSquare_52 : decode cX3_hasSquare 52 = .ok (.iconst 2, 1) := by decide +kernel
theorem dX3_hasSquare_53 : decode cX3_hasSquare 53 = .ok (.iload_n 3, 1) := by decide +kernel
theorem dX3_hasSquare_54 : decode cX3_hasSquare 54 = .ok (.isub, 1) := by decide +kernel
theorem dX3_hasSquare_55 : decode cX3_hasSquare 55 = .ok (.istore 5, 2) := by decide +kernel
theorem dX3_hasSquare_57 : decode cX3_hasSquare 57 = .ok (.goto 14, 3) := by decide +kernel
theorem dX3_hasSquare_60 : decode cX3_hasSquare 60 = .ok (.iload_n 3, 1) := by decide +kernel
theorem dX3_hasSquare_61 : decode cX3_hasSquare 61 = .ok (.istore 4, 2) := by decide +kernel
theorem dX3_hasSquare_63 : decode cX3_hasSquare 63 = .ok (.iconst 2, 1) := by decide +kernel
theorem dX3_hasSquare_64 : decode cX3_hasSquare 64 = .ok (.iload_n 2, 1) := by decide +kernel
theorem dX3_hasSquare_65 : decode cX3_hasSquare 65 = .ok (.isub, 1) := by decide +kernel
theorem dX3_hasSquare_66 : decode cX3_hasSquare 66 = .ok (.istore 5, 2) := by decide +kernel
theorem dX3_hasSquare_68 : decode cX3_hasSquare 68 = .ok (.goto 3, 3) := by decide +kernel
theorem dX3_hasSquare_71 : decode cX3_hasSquare 71 = .ok (.iload_n 1, 1) := by decide +kernel
theorem dX3_hasSquare_72 : decode cX3_hasSquare 72 = .ok (.invokestatic 45, 3) := by decide +kernel
theorem dX3_hasSquare_75 : decode cX3_hasSquare 75 = .ok (.iconst 1, 1) := by decide +kernel
theorem dX3_hasSquare_76 : decode cX3_hasSquare 76 = .ok (.if_icmp .ne 9, 3) := by decide +kernel
theorem dX3_hasSquare_79 : decode cX3_hasSquare 79 = .ok (.iconst 2, 1) := by decide +kernel
theorem dX3_hasSquare_80 : decode cX3_hasSquare 80 = .ok (.iload 5, 2) := by decide +kernel
theorem dX3_hasSquare_82 : decode cX3_hasSquare 82 = .ok (.isub, 1) := by decide +kernel
theorem dX3_hasSquare_83 : decode cX3_hasSquare 83 = .ok (.istore 5, 2) := by decide +kernel
theorem dX3_hasSquare_85 : decode cX3_hasSquare 85 = .ok (.iload_n 0, 1) := by decide +kernel
theorem dX3_hasSquare_86 : decode cX3_hasSquare 86 = .ok (.iload 4, 2) := by decide +kernel
theorem dX3_hasSquare_88 : decode cX3_hasSquare 88 = .ok (.iload 5, 2) := by decide +kernel
theorem dX3_hasSquare_90 : decode cX3_hasSquare 90 = .ok (.invokestatic 48, 3) := by decide +kernel
theorem dX3_hasSquare_93 : decode cX3_hasSquare 93 = .ok (.ireturn, 1) := by decide +kernel
theorem dX3_uprightHas_0 : decode cX3_uprightHas 0 = .ok (.iload_n 0, 1) := by decide +kernel
theorem dX3_uprightHas_1 : decode cX3_uprightHas 1 = .ok (.invokestatic 23, 3) := by decide +kernel
theorem dX3_uprightHas_4 : decode cX3_uprightHas 4 = .ok (.ifCond .eq 21, 3) := by decide +kernel
theorem dX3_uprightHas_7 : decode cX3_uprightHas 7 = .ok (.iload_n 1, 1) := by decide +kernel
theorem dX3_uprightHas_8 : decode cX3_uprightHas 8 = .ok (.ifCond .lt 17, 3) := by decide +kernel
theorem dX3_uprightHas_11 : decode cX3_uprightHas 11 = .ok (.iload_n 1, 1) := by decide +kernel
theorem dX3_uprightHas_12 : decode cX3_uprightHas 12 = .ok (.iconst 5, 1) := by decide +kernel
theorem dX3_uprightHas_13 : decode cX3_uprightHas 13 = .ok (.if_icmp .ge 12, 3) := by decide +kernel
theorem dX3_uprightHas_16 : decode cX3_uprightHas 16 = .ok (.iload_n 2, 1) := by decide +kernel
theorem dX3_uprightHas_17 : decode cX3_uprightHas 17 = .ok (.ifCond .lt 8, 3) := by decide +kernel
theorem dX3_uprightHas_20 : decode cX3_uprightHas 20 = .ok (.iload_n 2, 1) := by decide +kernel
theorem dX3_uprightHas_21 : decode cX3_uprightHas 21 = .ok (.iconst 3, 1) := by decide +kernel
theorem dX3_uprightHas_22 : decode cX3_uprightHas 22 = .ok (.if_icmp .lt 5, 3) := by decide +kernel
theorem dX3_uprightHas_25 : decode cX3_uprightHas 25 = .ok (.iconst 0, 1) := by decide +kernel
theorem dX3_uprightHas_26 : decode cX3_uprightHas 26 = .ok (.ireturn, 1) := by decide +kernel
theorem dX3_uprightHas_27 : decode cX3_uprightHas 27 = .ok (.getstatic 52, 3) := by decide +kernel
theorem dX3_uprightHas_30 : decode cX3_uprightHas 30 = .ok (.iload_n 0, 1) := by decide +kernel
theorem dX3_uprightHas_31 : decode cX3_uprightHas 31 = .ok (.iconst 5, 1) := by decide +kernel
theorem dX3_uprightHas_32 : decode cX3_uprightHas 32 = .ok (.imul, 1) := by decide +kernel
theorem dX3_uprightHas_33 : decode cX3_uprightHas 33 = .ok (.iload_n 1, 1) := by decide +kernel
theorem dX3_uprightHas_34 : decode cX3_uprightHas 34 = .ok (.iadd, 1) := by decide +kernel
theorem dX3_uprightHas_35 : decode cX3_uprightHas 35 = .ok (.iaload, 1) := by decide +kernel
theorem dX3_uprightHas_36 : decode cX3_uprightHas 36 = .ok (.istore_n 3, 1) := by decide +kernel
theorem dX3_uprightHas_37 : decode cX3_uprightHas 37 = .ok (.iload_n 3, 1) := by decide +kernel
theorem dX3_uprightHas_38 : decode cX3_uprightHas 38 = .ok (.iconst 4, 1) := by decide +kernel
theorem dX3_uprightHas_39 : decode cX3_uprightHas 39 = .ok (.iload_n 2, 1) := by decide +kernel
theorem dX3_uprightHas_40 : decode cX3_uprightHas 40 = .ok (.ishr, 1) := by decide +kernel
theorem dX3_uprightHas_41 : decode cX3_uprightHas 41 = .ok (.iand, 1) := by decide +kernel
theorem dX3_uprightHas_42 : decode cX3_uprightHas 42 = .ok (.ifCond .eq 7, 3) := by decide +kernel
theorem dX3_uprightHas_45 : decode cX3_uprightHas 45 = .ok (.iconst 1, 1) := by decide +kernel
theorem dX3_uprightHas_46 : decode cX3_uprightHas 46 = .ok (.goto 4, 3) := by decide +kernel
theorem dX3_uprightHas_49 : decode cX3_uprightHas 49 = .ok (.iconst 0, 1) := by decide +kernel
theorem dX3_uprightHas_50 : decode cX3_uprightHas 50 = .ok (.ireturn, 1) := by decide +kernel
theorem dX4_init_0 : decode cX4_init 0 = .ok (.aload_n 0, 1) := by decide +kernel
theorem dX4_init_1 : decode cX4_init 1 = .ok (.invokespecial 3, 3) := by decide +kernel
theorem dX4_init_4 : decode cX4_init 4 = .ok (.aload_n 0, 1) := by decide +kernel
theorem dX4_init_5 : decode cX4_init 5 = .ok (.bipush 9, 2) := by decide +kernel
theorem dX4_init_7 : decode cX4_init 7 = .ok (.newarray .int, 2) := by decide +kernel
theorem dX4_init_9 : decode cX4_init 9 = .ok (.putfield 9, 3) := by decide +kernel
theorem dX4_init_12 : decode cX4_init 12 = .ok (.aload_n 0, 1) := by decide +kernel
theorem dX4_init_13 : decode cX4_init 13 = .ok (.aload_n 1, 1) := by decide +kernel
theorem dX4_init_14 : decode cX4_init 14 = .ok (.putfield 15, 3) := by decide +kernel
theorem dX4_init_17 : decode cX4_init 17 = .ok (.return_, 1) := by decide +kernel
theorem dX4_copyFrom_0 : decode cX4_copyFrom 0 = .ok (.aload_n 0, 1) := by decide +kernel
theorem dX4_copyFrom_1 : decode cX4_copyFrom 1 = .ok (.aload_n 1, 1) := by decide +kernel
theorem dX4_copyFrom_2 : decode cX4_copyFrom 2 = .ok (.getfield 19, 3) := by decide +kernel
theorem dX4_copyFrom_5 : decode cX4_copyFrom 5 = .ok (.putfield 19, 3) := by decide +kernel
theorem dX4_copyFrom_8 : decode cX4_copyFrom 8 = .ok (.aload_n 0, 1) := by decide +kernel
theorem dX4_copyFrom_9 : decode cX4_copyFrom 9 = .ok (.aload_n 1, 1) := by decide +kernel
theorem dX4_copyFrom_10 : decode cX4_copyFrom 10 = .ok (.getfield 23, 3) := by decide +kernel
theorem dX4_copyFrom_13 : decode cX4_copyFrom 13 = .ok (.putfield 23, 3) := by decide +kernel
theorem dX4_copyFrom_16 : decode cX4_copyFrom 16 = .ok (.iconst 0, 1) := by decide +kernel
theorem dX4_copyFrom_17 : decode cX4_copyFrom 17 = .ok (.istore_n 2, 1) := by decide +kernel
theorem dX4_copyFrom_18 : decode cX4_copyFrom 18 = .ok (.iload_n 2, 1) := by decide +kernel
theorem dX4_copyFrom_19 : decode cX4_copyFrom 19 = .ok (.bipush 9, 2) := by decide +kernel
theorem dX4_copyFrom_21 : decode cX4_copyFrom 21 = .ok (.if_icmp .ge 21, 3) := by decide +kernel
theorem dX4_copyFrom_24 : decode cX4_copyFrom 24 = .ok (.aload_n 0, 1) := by decide +kernel
theorem dX4_copyFrom_25 : decode cX4_copyFrom 25 = .ok (.getfield 9, 3) := by decide +kernel
theorem dX4_copyFrom_28 : decode cX4_copyFrom 28 = .ok (.iload_n 2, 1) := by decide +kernel
theorem dX4_copyFrom_29 : decode cX4_copyFrom 29 = .ok (.aload_n 1, 1) := by decide +kernel
theorem dX4_copyFrom_30 : decode cX4_copyFrom 30 = .ok (.getfield 9, 3) := by decide +kernel
theorem dX4_copyFrom_33 : decode cX4_copyFrom 33 = .ok (.iload_n 2, 1) := by decide +kernel
theorem dX4_copyFrom_34 : decode cX4_copyFrom 34 = .ok (.iaload, 1) := by decide +kernel
theorem dX4_copyFrom_35 : decode cX4_copyFrom 35 = .ok (.iastore, 1) := by decide +kernel
theorem dX4_copyFrom_36 : decode cX4_copyFrom 36 = .ok (.iinc 2 1, 3) := by decide +kernel
theorem dX4_copyFrom_39 : decode cX4_copyFrom 39 = .ok (.goto (-21), 3) := by decide +kernel
theorem dX4_copyFrom_42 : decode cX4_copyFrom 42 = .ok (.return_, 1) := by decide +kernel
theorem dX4_canCut_0 : decode cX4_canCut 0 = .ok (.iload 4, 2) := by decide +kernel
theorem dX4_canCut_2 : decode cX4_canCut 2 = .ok (.ifCond .lt 29, 3) := by decide +kernel
theorem dX4_canCut_5 : decode cX4_canCut 5 = .ok (.iload 4, 2) := by decide +kernel
theorem dX4_canCut_7 : decode cX4_canCut 7 = .ok (.bipush 14, 2) := by decide +kernel
theorem dX4_canCut_9 : decode cX4_canCut 9 = .ok (.if_icmp .ge 22, 3) := by decide +kernel
theorem dX4_canCut_12 : decode cX4_canCut 12 = .ok (.aload_n 0, 1) := by decide +kernel
theorem dX4_canCut_13 : decode cX4_canCut 13 = .ok (.iload_n 1, 1) := by decide +kernel
theorem dX4_canCut_14 : decode cX4_canCut 14 = .ok (.iload_n 2, 1) := by decide +kernel
theorem dX4_canCut_15 : decode cX4_canCut 15 = .ok (.iload_n 3, 1) := by decide +kernel
theorem dX4_canCut_16 : decode cX4_canCut 16 = .ok (.invokevirtual 27, 3) := by decide +kernel
theorem dX4_canCut_19 : decode cX4_canCut 19 = .ok (.iload 4, 2) := by decide +kernel
theorem dX4_canCut_21 : decode cX4_canCut 21 = .ok (.ishr, 1) := by decide +kernel
theorem dX4_canCut_22 : decode cX4_canCut 22 = .ok (.iconst 1, 1) := by decide +kernel
theorem dX4_canCut_23 : decode cX4_canCut 23 = .ok (.iand, 1) := by decide +kernel
theorem dX4_canCut_24 : decode cX4_canCut 24 = .ok (.ifCond .eq 7, 3) := by decide +kernel
theorem dX4_canCut_27 : decode cX4_canCut 27 = .ok (.iconst 1, 1) := by decide +kernel
theorem dX4_canCut_28 : decode cX4_canCut 28 = .ok (.goto 4, 3) := by decide +kernel
theorem dX4_canCut_31 : decode cX4_canCut 31 = .ok (.iconst 0, 1) := by decide +kernel
theorem dX4_canCut_32 : decode cX4_canCut 32 = .ok (.ireturn, 1) := by decide +kernel
theorem dX4_freeColumns_0 : decode cX4_freeColumns 0 = .ok (.aload_n 0, 1) := by decide +kernel
theorem dX4_freeColumns_1 : decode cX4_freeColumns 1 = .ok (.getfield 23, 3) := by decide +kernel
theorem dX4_freeColumns_4 : decode cX4_freeColumns 4 = .ok (.ifCond .ne 12, 3) := by decide +kernel
theorem dX4_freeColumns_7 : decode cX4_freeColumns 7 = .ok (.iload_n 2, 1) := by decide +kernel
theorem dX4_freeColumns_8 : decode cX4_freeColumns 8 = .ok (.iload_n 3, 1) := by decide +kernel
theorem dX4_freeColumns_9 : decode cX4_freeColumns 9 = .ok (.iconst 0, 1) := by decide +kernel
theorem dX4_freeColumns_10 : decode cX4_freeColumns 10 = .ok (.invokestatic 31, 3) := by decide +kernel
theorem dX4_freeColumns_13 : decode cX4_freeColumns 13 = .ok (.ifCond .ne 5, 3) := by decide +kernel
theorem dX4_freeColumns_16 : decode cX4_freeColumns 16 = .ok (.iconst 0, 1) := by decide +kernel
theorem dX4_freeColumns_17 : decode cX4_freeColumns 17 = .ok (.ireturn, 1) := by decide +kernel
theorem dX4_freeColumns_18 : decode cX4_freeColumns 18 = .ok (.iconst 1, 1) := by decide +kernel
theorem dX4_freeColumns_19 : decode cX4_freeColumns 19 = .ok (.bipush 14, 2) := by decide +kernel
theorem dX4_freeColumns_21 : decode cX4_freeColumns 21 = .ok (.iload_n 2, 1) := by decide +kernel
theorem dX4_freeColumns_22 : decode cX4_freeColumns 22 = .ok (.invokestatic 35, 3) := by decide +kernel
theorem dX4_freeColumns_25 : decode cX4_freeColumns 25 = .ok (.isub, 1) := by decide +kernel
theorem dX4_freeColumns_26 : decode cX4_freeColumns 26 = .ok (.iconst 1, 1) := by decide +kernel
theorem dX4_freeColumns_27 : decode cX4_freeColumns 27 = .ok (.iadd, 1) := by decide +kernel
theorem dX4_freeColumns_28 : decode cX4_freeColumns 28 = .ok (.ishl, 1) := by decide +kernel
theorem dX4_freeColumns_29 : decode cX4_freeColumns 29 = .ok (.iconst 1, 1) := by decide +kernel
theorem dX4_freeColumns_30 : decode cX4_freeColumns 30 = .ok (.isub, 1) := by decide +kernel
theorem dX4_freeColumns_31 : decode cX4_freeColumns 31 = .ok (.istore 4, 2) := by decide +kernel
theorem dX4_freeColumns_33 : decode cX4_freeColumns 33 = .ok (.iconst 0, 1) := by decide +kernel
theorem dX4_freeColumns_34 : decode cX4_freeColumns 34 = .ok (.istore 5, 2) := by decide +kernel
theorem dX4_freeColumns_36 : decode cX4_freeColumns 36 = .ok (.iload 5, 2) := by decide +kernel
theorem dX4_freeColumns_38 : decode cX4_freeColumns 38 = .ok (.iload_n 2, 1) := by decide +kernel
theorem dX4_freeColumns_39 : decode cX4_freeColumns 39 = .ok (.invokestatic 39, 3) := by decide +kernel
theorem dX4_freeColumns_42 : decode cX4_freeColumns 42 = .ok (.if_icmp .ge 69, 3) := by decide +kernel
theorem dX4_freeColumns_45 : decode cX4_freeColumns 45 = .ok (.aload_n 0, 1) := by decide +kernel
theorem dX4_freeColumns_46 : decode cX4_freeColumns 46 = .ok (.getfield 15, 3) := by decide +kernel
theorem dX4_freeColumns_49 : decode cX4_freeColumns 49 = .ok (.iload_n 1, 1) := by decide +kernel
theorem dX4_freeColumns_50 : decode cX4_freeColumns 50 = .ok (.iload_n 2, 1) := by decide +kernel
theorem dX4_freeColumns_51 : decode cX4_freeColumns 51 = .ok (.iload 5, 2) := by decide +kernel
theorem dX4_freeColumns_53 : decode cX4_freeColumns 53 = .ok (.invokevirtual 42, 3) := by decide +kernel
theorem dX4_freeColumns_56 : decode cX4_freeColumns 56 = .ok (.istore 6, 2) := by decide +kernel
theorem dX4_freeColumns_58 : decode cX4_freeColumns 58 = .ok (.iconst 0, 1) := by decide +kernel
theorem dX4_freeColumns_59 : decode cX4_freeColumns 59 = .ok (.istore 7, 2) := by decide +kernel
theorem dX4_freeColumns_61 : decode cX4_freeColumns 61 = .ok (.iload 7, 2) := by decide +kernel
theorem dX4_freeColumns_63 : decode cX4_freeColumns 63 = .ok (.iload_n 2, 1) := by decide +kernel
theorem dX4_freeColumns_64 : decode cX4_freeColumns 64 = .ok (.invokestatic 35, 3) := by decide +kernel
theorem dX4_freeColumns_67 : decode cX4_freeColumns 67 = .ok (.if_icmp .ge 38, 3) := by decide +kernel
theorem dX4_freeColumns_70 : decode cX4_freeColumns 70 = .ok (.iload 6, 2) := by decide +kernel
theorem dX4_freeColumns_72 : decode cX4_freeColumns 72 = .ok (.iload 7, 2) := by decide +kernel
theorem dX4_freeColumns_74 : decode cX4_freeColumns 74 = .ok (.ishr, 1) := by decide +kernel
theorem dX4_freeColumns_75 : decode cX4_freeColumns 75 = .ok (.iconst 1, 1) := by decide +kernel
theorem dX4_freeColumns_76 : decode cX4_freeColumns 76 = .ok (.iand, 1) := by decide +kernel
theorem dX4_freeColumns_77 : decode cX4_freeColumns 77 = .ok (.ifCond .eq 22, 3) := by decide +kernel
theorem dX4_freeColumns_80 : decode cX4_freeColumns 80 = .ok (.iload 4, 2) := by decide +kernel
theorem dX4_freeColumns_82 : decode cX4_freeColumns 82 = .ok (.aload_n 0, 1) := by decide +kernel
theorem dX4_freeColumns_83 : decode cX4_freeColumns 83 = .ok (.getfield 9, 3) := by decide +kernel
theorem dX4_freeColumns_86 : decode cX4_freeColumns 86 = .ok (.iload_n 3, 1) := by decide +kernel
theorem dX4_freeColumns_87 : decode cX4_freeColumns 87 = .ok (.iload 5, 2) := by decide +kernel
theorem dX4_freeColumns_89 : decode cX4_freeColumns 89 = .ok (.iadd, 1) := by decide +kernel
theorem dX4_freeColumns_90 : decode cX4_freeColumns 90 = .ok (.iaload, 1) := by decide +kernel
theorem dX4_freeColumns_91 : decode cX4_freeColumns 91 = .ok (.iload 7, 2) := by decide +kernel
theorem dX4_freeColumns_93 : decode cX4_freeColumns 93 = .ok (.ishr, 1) := by decide +kernel
theorem dX4_freeColumns_94 : decode cX4_freeColumns 94 = .ok (.iconst (-1), 1) := by decide +kernel
theorem dX4_freeColumns_95 : decode cX4_freeColumns 95 = .ok (.ixor, 1) := by decide +kernel
theorem dX4_freeColumns_96 : decode cX4_freeColumns 96 = .ok (.iand, 1) := by decide +kernel
theorem dX4_freeColumns_97 : decode cX4_freeColumns 97 = .ok (.istore 4, 2) := by decide +kernel
theorem dX4_freeColumns_99 : decode cX4_freeColumns 99 = .ok (.iinc 7 1, 3) := by decide +kernel
theorem dX4_freeColumns_102 : decode cX4_freeColumns 102 = .ok (.goto (-41), 3) := by decide +kernel
theorem dX4_freeColumns_105 : decode cX4_freeColumns 105 = .ok (.iinc 5 1, 3) := by decide +kernel
theorem dX4_freeColumns_108 : decode cX4_freeColumns 108 = .ok (.goto (-72), 3) := by decide +kernel
theorem dX4_freeColumns_111 : decode cX4_freeColumns 111 = .ok (.iload 4, 2) := by decide +kernel
theorem dX4_freeColumns_113 : decode cX4_freeColumns 113 = .ok (.ireturn, 1) := by decide +kernel
theorem dX4_cutOut_0 : decode cX4_cutOut 0 = .ok (.iload_n 2, 1) := by decide +kernel
theorem dX4_cutOut_1 : decode cX4_cutOut 1 = .ok (.iload_n 3, 1) := by decide +kernel
theorem dX4_cutOut_2 : decode cX4_cutOut 2 = .ok (.iload 4, 2) := by decide +kernel
theorem dX4_cutOut_4 : decode cX4_cutOut 4 = .ok (.invokestatic 31, 3) := by decide +kernel
theorem dX4_cutOut_7 : decode cX4_cutOut 7 = .ok (.ifCond .ne 4, 3) := by decide +kernel
theorem dX4_cutOut_10 : decode cX4_cutOut 10 = .ok (.return_, 1) := by decide +kernel
theorem dX4_cutOut_11 : decode cX4_cutOut 11 = .ok (.iconst 0, 1) := by decide +kernel
theorem dX4_cutOut_12 : decode cX4_cutOut 12 = .ok (.istore 5, 2) := by decide +kernel
theorem dX4_cutOut_14 : decode cX4_cutOut 14 = .ok (.iload 5, 2) := by decide +kernel
theorem dX4_cutOut_16 : decode cX4_cutOut 16 = .ok (.iload_n 2, 1) := by decide +kernel
theorem dX4_cutOut_17 : decode cX4_cutOut 17 = .ok (.invokestatic 39, 3) := by decide +kernel
theorem dX4_cutOut_20 : decode cX4_cutOut 20 = .ok (.if_icmp .ge 35, 3) := by decide +kernel
theorem dX4_cutOut_23 : decode cX4_cutOut 23 = .ok (.aload_n 0, 1) := by decide +kernel
theorem dX4_cutOut_24 : decode cX4_cutOut 24 = .ok (.getfield 9, 3) := by decide +kernel
theorem dX4_cutOut_27 : decode cX4_cutOut 27 = .ok (.iload_n 3, 1) := by decide +kernel
theorem dX4_cutOut_28 : decode cX4_cutOut 28 = .ok (.iload 5, 2) := by decide +kernel
theorem dX4_cutOut_30 : decode cX4_cutOut 30 = .ok (.iadd, 1) := by decide +kernel
theorem dX4_cutOut_31 : decode cX4_cutOut 31 = .ok (.dup2, 1) := by decide +kernel
theorem dX4_cutOut_32 : decode cX4_cutOut 32 = .ok (.iaload, 1) := by decide +kernel
theorem dX4_cutOut_33 : decode cX4_cutOut 33 = .ok (.aload_n 0, 1) := by decide +kernel
theorem dX4_cutOut_34 : decode cX4_cutOut 34 = .ok (.getfield 15, 3) := by decide +kernel
theorem dX4_cutOut_37 : decode cX4_cutOut 37 = .ok (.iload_n 1, 1) := by decide +kernel
theorem dX4_cutOut_38 : decode cX4_cutOut 38 = .ok (.iload_n 2, 1) := by decide +kernel
theorem dX4_cutOut_39 : decode cX4_cutOut 39 = .ok (.iload 5, 2) := by decide +kernel
theorem dX4_cutOut_41 : decode cX4_cutOut 41 = .ok (.invokevirtual 42, 3) := by decide +kernel
theorem dX4_cutOut_44 : decode cX4_cutOut 44 = .ok (.iload 4, 2) := by decide +kernel
theorem dX4_cutOut_46 : decode cX4_cutOut 46 = .ok (.ishl, 1) := by decide +kernel
theorem dX4_cutOut_47 : decode cX4_cutOut 47 = .ok (.ior, 1) := by decide +kernel
theorem dX4_cutOut_48 : decode cX4_cutOut 48 = .ok (.iastore, 1) := by decide +kernel
theorem dX4_cutOut_49 : decode cX4_cutOut 49 = .ok (.iinc 5 1, 3) := by decide +kernel
theorem dX4_cutOut_52 : decode cX4_cutOut 52 = .ok (.goto (-38), 3) := by decide +kernel
theorem dX4_cutOut_55 : decode cX4_cutOut 55 = .ok (.return_, 1) := by decide +kernel
theorem dX4_isOnSheet_0 : decode cX4_isOnSheet 0 = .ok (.iload_n 1, 1) := by decide +kernel
theorem dX4_isOnSheet_1 : decode cX4_isOnSheet 1 = .ok (.ifCond .lt 33, 3) := by decide +kernel
theorem dX4_isOnSheet_4 : decode cX4_isOnSheet 4 = .ok (.iload_n 1, 1) := by decide +kernel
theorem dX4_isOnSheet_5 : decode cX4_isOnSheet 5 = .ok (.bipush 9, 2) := by decide +kernel
theorem dX4_isOnSheet_7 : decode cX4_isOnSheet 7 = .ok (.iload_n 0, 1) := by decide +kernel
theorem dX4_isOnSheet_8 : decode cX4_isOnSheet 8 = .ok (.invokestatic 39, 3) := by decide +kernel
theorem dX4_isOnSheet_11 : decode cX4_isOnSheet 11 = .ok (.isub, 1) := by decide +kernel
theorem dX4_isOnSheet_12 : decode cX4_isOnSheet 12 = .ok (.if_icmp .gt 22, 3) := by decide +kernel
theorem dX4_isOnSheet_15 : decode cX4_isOnSheet 15 = .ok (.iload_n 2, 1) := by decide +kernel
theorem dX4_isOnSheet_16 : decode cX4_isOnSheet 16 = .ok (.ifCond .lt 18, 3) := by decide +kernel
theorem dX4_isOnSheet_19 : decode cX4_isOnSheet 19 = .ok (.iload_n 2, 1) := by decide +kernel
theorem dX4_isOnSheet_20 : decode cX4_isOnSheet 20 = .ok (.bipush 14, 2) := by decide +kernel
theorem dX4_isOnSheet_22 : decode cX4_isOnSheet 22 = .ok (.iload_n 0, 1) := by decide +kernel
theorem dX4_isOnSheet_23 : decode cX4_isOnSheet 23 = .ok (.invokestatic 35, 3) := by decide +kernel
theorem dX4_isOnSheet_26 : decode cX4_isOnSheet 26 = .ok (.isub, 1) := by decide +kernel
theorem dX4_isOnSheet_27 : decode cX4_isOnSheet 27 = .ok (.if_icmp .gt 7, 3) := by decide +kernel
theorem dX4_isOnSheet_30 : decode cX4_isOnSheet 30 = .ok (.iconst 1, 1) := by decide +kernel
theorem dX4_isOnSheet_31 : decode cX4_isOnSheet 31 = .ok (.goto 4, 3) := by decide +kernel
theorem dX4_isOnSheet_34 : decode cX4_isOnSheet 34 = .ok (.iconst 0, 1) := by decide +kernel
theorem dX4_isOnSheet_35 : decode cX4_isOnSheet 35 = .ok (.ireturn, 1) := by decide +kernel
theorem dX4_firstFit_0 : decode cX4_firstFit 0 = .ok (.iconst 0, 1) := by decide +kernel
theorem dX4_firstFit_1 : decode cX4_firstFit 1 = .ok (.istore_n 3, 1) := by decide +kernel
theorem dX4_firstFit_2 : decode cX4_firstFit 2 = .ok (.iload_n 3, 1) := by decide +kernel
theorem dX4_firstFit_3 : decode cX4_firstFit 3 = .ok (.bipush 9, 2) := by decide +kernel
theorem dX4_firstFit_5 : decode cX4_firstFit 5 = .ok (.if_icmp .ge 89, 3) := by decide +kernel
theorem dX4_firstFit_8 : decode cX4_firstFit 8 = .ok (.bipush 14, 2) := by decide +kernel
theorem dX4_firstFit_10 : decode cX4_firstFit 10 = .ok (.istore 4, 2) := by decide +kernel
theorem dX4_firstFit_12 : decode cX4_firstFit 12 = .ok (.bipush (-6), 2) := by decide +kernel
theorem dX4_firstFit_14 : decode cX4_firstFit 14 = .ok (.istore 5, 2) := by decide +kernel
theorem dX4_firstFit_16 : decode cX4_firstFit 16 = .ok (.iconst 0, 1) := by decide +kernel
theorem dX4_firstFit_17 : decode cX4_firstFit 17 = .ok (.istore 6, 2) := by decide +kernel
theorem dX4_firstFit_19 : decode cX4_firstFit 19 = .ok (.iload 6, 2) := by decide +kernel
theorem dX4_firstFit_21 : decode cX4_firstFit 21 = .ok (.iconst 4, 1) := by decide +kernel
theorem dX4_firstFit_22 : decode cX4_firstFit 22 = .ok (.if_icmp .ge 45, 3) := by decide +kernel
theorem dX4_firstFit_25 : decode cX4_firstFit 25 = .ok (.iload_n 2, 1) := by decide +kernel
theorem dX4_firstFit_26 : decode cX4_firstFit 26 = .ok (.iconst 4, 1) := by decide +kernel
theorem dX4_firstFit_27 : decode cX4_firstFit 27 = .ok (.imul, 1) := by decide +kernel
theorem dX4_firstFit_28 : decode cX4_firstFit 28 = .ok (.iload 6, 2) := by decide +kernel
theorem dX4_firstFit_30 : decode cX4_firstFit 30 = .ok (.iadd, 1) := by decide +kernel
theorem dX4_firstFit_31 : decode cX4_firstFit 31 = .ok (.istore 7, 2) := by decide +kernel
theorem dX4_firstFit_33 : decode cX4_firstFit 33 = .ok (.aload_n 0, 1) := by decide +kernel
theorem dX4_firstFit_34 : decode cX4_firstFit 34 = .ok (.iload_n 1, 1) := by decide +kernel
theorem dX4_firstFit_35 : decode cX4_firstFit 35 = .ok (.iload 7, 2) := by decide +kernel
theorem dX4_firstFit_37 : decode cX4_firstFit 37 = .ok (.iload_n 3, 1) := by decide +kernel
theorem dX4_firstFit_38 : decode cX4_firstFit 38 = .ok (.invokevirtual 27, 3) := by decide +kernel
theorem dX4_firstFit_41 : decode cX4_firstFit 41 = .ok (.invokestatic 47, 3) := by decide +kernel
theorem dX4_firstFit_44 : decode cX4_firstFit 44 = .ok (.istore 8, 2) := by decide +kernel
theorem dX4_firstFit_46 : decode cX4_firstFit 46 = .ok (.iload 8, 2) := by decide +kernel
theorem dX4_firstFit_48 : decode cX4_firstFit 48 = .ok (.iload 4, 2) := by decide +kernel
theorem dX4_firstFit_50 : decode cX4_firstFit 50 = .ok (.if_icmp .ge 11, 3) := by decide +kernel
theorem dX4_firstFit_53 : decode cX4_firstFit 53 = .ok (.iload 8, 2) := by decide +kernel
theorem dX4_firstFit_55 : decode cX4_firstFit 55 = .ok (.istore 4, 2) := by decide +kernel
theorem dX4_firstFit_57 : decode cX4_firstFit 57 = .ok (.iload 7, 2) := by decide +kernel
theorem dX4_firstFit_59 : decode cX4_firstFit 59 = .ok (.istore 5, 2) := by decide +kernel
theorem dX4_firstFit_61 : decode cX4_firstFit 61 = .ok (.iinc 6 1, 3) := by decide +kernel
theorem dX4_firstFit_64 : decode cX4_firstFit 64 = .ok (.goto (-45), 3) := by decide +kernel
theorem dX4_firstFit_67 : decode cX4_firstFit 67 = .ok (.iload 5, 2) := by decide +kernel
theorem dX4_firstFit_69 : decode cX4_firstFit 69 = .ok (.bipush (-6), 2) := by decide +kernel
theorem dX4_firstFit_71 : decode cX4_firstFit 71 = .ok (.if_icmp .eq 17, 3) := by decide +kernel
theorem dX4_firstFit_74 : decode cX4_firstFit 74 = .ok (.iload_n 3, 1) := by decide +kernel
theorem dX4_firstFit_75 : decode cX4_firstFit 75 = .ok (.bipush 14, 2) := by decide +kernel
theorem dX4_firstFit_77 : decode cX4_firstFit 77 = .ok (.imul, 1) := by decide +kernel
theorem dX4_firstFit_78 : decode cX4_firstFit 78 = .ok (.iload 4, 2) := by decide +kernel
theorem dX4_firstFit_80 : decode cX4_firstFit 80 = .ok (.iadd, 1) := by decide +kernel
theorem dX4_firstFit_81 : decode cX4_firstFit 81 = .ok (.bipush 8, 2) := by decide +kernel
theorem dX4_firstFit_83 : decode cX4_firstFit 83 = .ok (.imul, 1) := by decide +kernel
theorem dX4_firstFit_84 : decode cX4_firstFit 84 = .ok (.iload 5, 2) := by decide +kernel
theorem dX4_firstFit_86 : decode cX4_firstFit 86 = .ok (.iadd, 1) := by decide +kernel
theorem dX4_firstFit_87 : decode cX4_firstFit 87 = .ok (.ireturn, 1) := by decide +kernel
theorem dX4_firstFit_88 : decode cX4_firstFit 88 = .ok (.iinc 3 1, 3) := by decide +kernel
theorem dX4_firstFit_91 : decode cX4_firstFit 91 = .ok (.goto (-89), 3) := by decide +kernel
theorem dX4_firstFit_94 : decode cX4_firstFit 94 = .ok (.bipush (-6), 2) := by decide +kernel
theorem dX4_firstFit_96 : decode cX4_firstFit 96 = .ok (.ireturn, 1) := by decide +kernel
theorem dX4_cutUp_0 : decode cX4_cutUp 0 = .ok (.iconst 0, 1) := by decide +kernel
theorem dX4_cutUp_1 : decode cX4_cutUp 1 = .ok (.istore_n 3, 1) := by decide +kernel
theorem dX4_cutUp_2 : decode cX4_cutUp 2 = .ok (.iload_n 3, 1) := by decide +kernel
theorem dX4_cutUp_3 : decode cX4_cutUp 3 = .ok (.bipush 126, 2) := by decide +kernel
theorem dX4_cutUp_5 : decode cX4_cutUp 5 = .ok (.if_icmp .ge 46, 3) := by decide +kernel
theorem dX4_cutUp_8 : decode cX4_cutUp 8 = .ok (.aload_n 0, 1) := by decide +kernel
theorem dX4_cutUp_9 : decode cX4_cutUp 9 = .ok (.iload_n 1, 1) := by decide +kernel
theorem dX4_cutUp_10 : decode cX4_cutUp 10 = .ok (.iload_n 2, 1) := by decide +kernel
theorem dX4_cutUp_11 : decode cX4_cutUp 11 = .ok (.invokevirtual 50, 3) := by decide +kernel
theorem dX4_cutUp_14 : decode cX4_cutUp 14 = .ok (.istore 4, 2) := by decide +kernel
theorem dX4_cutUp_16 : decode cX4_cutUp 16 = .ok (.iload 4, 2) := by decide +kernel
theorem dX4_cutUp_18 : decode cX4_cutUp 18 = .ok (.bipush (-6), 2) := by decide +kernel
theorem dX4_cutUp_20 : decode cX4_cutUp 20 = .ok (.if_icmp .ne 5, 3) := by decide +kernel
theorem dX4_cutUp_23 : decode cX4_cutUp 23 = .ok (.iload_n 3, 1) := by decide +kernel
theorem dX4_cutUp_24 : decode cX4_cutUp 24 = .ok (.ireturn, 1) := by decide +kernel
theorem dX4_cutUp_25 : decode cX4_cutUp 25 = .ok (.aload_n 0, 1) := by decide +kernel
theorem dX4_cutUp_26 : decode cX4_cutUp 26 = .ok (.iload_n 1, 1) := by decide +kernel
theorem dX4_cutUp_27 : decode cX4_cutUp 27 = .ok (.iload 4, 2) := by decide +kernel
theorem dX4_cutUp_29 : decode cX4_cutUp 29 = .ok (.invokestatic 54, 3) := by decide +kernel
theorem dX4_cutUp_32 : decode cX4_cutUp 32 = .ok (.iload 4, 2) := by decide +kernel
theorem dX4_cutUp_34 : decode cX4_cutUp 34 = .ok (.invokestatic 57, 3) := by decide +kernel
theorem dX4_cutUp_37 : decode cX4_cutUp 37 = .ok (.iload 4, 2) := by decide +kernel
theorem dX4_cutUp_39 : decode cX4_cutUp 39 = .ok (.invokestatic 60, 3) := by decide +kernel
theorem dX4_cutUp_42 : decode cX4_cutUp 42 = .ok (.invokevirtual 63, 3) := by decide +kernel
theorem dX4_cutUp_45 : decode cX4_cutUp 45 = .ok (.iinc 3 1, 3) := by decide +kernel
theorem dX4_cutUp_48 : decode cX4_cutUp 48 = .ok (.goto (-46), 3) := by decide +kernel
theorem dX4_cutUp_51 : decode cX4_cutUp 51 = .ok (.iload_n 3, 1) := by decide +kernel
theorem dX4_cutUp_52 : decode cX4_cutUp 52 = .ok (.ireturn, 1) := by decide +kernel
theorem dX4_allFits_0 : decode cX4_allFits 0 = .ok (.iconst 0, 1) := by decide +kernel
theorem dX4_allFits_1 : decode cX4_allFits 1 = .ok (.istore_n 2, 1) := by decide +kernel
theorem dX4_allFits_2 : decode cX4_allFits 2 = .ok (.iconst 0, 1) := by decide +kernel
theorem dX4_allFits_3 : decode cX4_allFits 3 = .ok (.istore_n 3, 1) := by decide +kernel
theorem dX4_allFits_4 : decode cX4_allFits 4 = .ok (.iload_n 3, 1) := by decide +kernel
theorem dX4_allFits_5 : decode cX4_allFits 5 = .ok (.bipush 8, 2) := by decide +kernel
theorem dX4_allFits_7 : decode cX4_allFits 7 = .ok (.if_icmp .ge 39, 3) := by decide +kernel
theorem dX4_allFits_10 : decode cX4_allFits 10 = .ok (.iconst 0, 1) := by decide +kernel
theorem dX4_allFits_11 : decode cX4_allFits 11 = .ok (.istore 4, 2) := by decide +kernel
theorem dX4_allFits_13 : decode cX4_allFits 13 = .ok (.iload 4, 2) := by decide +kernel
theorem dX4_allFits_15 : decode cX4_allFits 15 = .ok (.bipush 9, 2) := by decide +kernel
theorem dX4_allFits_17 : decode cX4_allFits 17 = .ok (.if_icmp .ge 23, 3) := by decide +kernel
theorem dX4_allFits_20 : decode cX4_allFits 20 = .ok (.iload_n 2, 1) := by decide +kernel
theorem dX4_allFits_21 : decode cX4_allFits 21 = .ok (.aload_n 0, 1) := by decide +kernel
theorem dX4_allFits_22 : decode cX4_allFits 22 = .ok (.iload_n 1, 1) := by decide +kernel
theorem dX4_allFits_23 : decode cX4_allFits 23 = .ok (.iload_n 3, 1) := by decide +kernel
theorem dX4_allFits_24 : decode cX4_allFits 24 = .ok (.iload 4, 2) := by decide +kernel
theorem dX4_allFits_26 : decode cX4_allFits 26 = .ok (.invokevirtual 27, 3) := by decide +kernel
theorem dX4_allFits_29 : decode cX4_allFits 29 = .ok (.invokestatic 67, 3) := by decide +kernel
theorem dX4_allFits_32 : decode cX4_allFits 32 = .ok (.iadd, 1) := by decide +kernel
theorem dX4_allFits_33 : decode cX4_allFits 33 = .ok (.istore_n 2, 1) := by decide +kernel
theorem dX4_allFits_34 : decode cX4_allFits 34 = .ok (.iinc 4 1, 3) := by decide +kernel
theorem dX4_allFits_37 : decode cX4_allFits 37 = .ok (.goto (-24), 3) := by decide +kernel
theorem dX4_allFits_40 : decode cX4_allFits 40 = .ok (.iinc 3 1, 3) := by decide +kernel
theorem dX4_allFits_43 : decode cX4_allFits 43 = .ok (.goto (-39), 3) := by decide +kernel
theorem dX4_allFits_46 : decode cX4_allFits 46 = .ok (.iload_n 2, 1) := by decide +kernel
theorem dX4_allFits_47 : decode cX4_allFits 47 = .ok (.ireturn, 1) := by decide +kernel
theorem dX4_lettersThatFit_0 : decode cX4_lettersThatFit 0 = .ok (.iconst 0, 1) := by decide +kernel
theorem dX4_lettersThatFit_1 : decode cX4_lettersThatFit 1 = .ok (.istore_n 1, 1) := by decide +kernel
theorem dX4_lettersThatFit_2 : decode cX4_lettersThatFit 2 = .ok (.iconst 0, 1) := by decide +kernel
theorem dX4_lettersThatFit_3 : decode cX4_lettersThatFit 3 = .ok (.istore_n 2, 1) := by decide +kernel
theorem dX4_lettersThatFit_4 : decode cX4_lettersThatFit 4 = .ok (.iload_n 2, 1) := by decide +kernel
theorem dX4_lettersThatFit_5 : decode cX4_lettersThatFit 5 = .ok (.bipush 8, 2) := by decide +kernel
theorem dX4_lettersThatFit_7 : decode cX4_lettersThatFit 7 = .ok (.if_icmp .ge 37, 3) := by decide +kernel
theorem dX4_lettersThatFit_10 : decode cX4_lettersThatFit 10 = .ok (.aload_n 0, 1) := by decide +kernel
theorem dX4_lettersThatFit_11 : decode cX4_lettersThatFit 11 = .ok (.iload_n 2, 1) := by decide +kernel
theorem dX4_lettersThatFit_12 : decode cX4_lettersThatFit 12 = .ok (.iconst 0, 1) := by decide +kernel
theorem dX4_lettersThatFit_13 : decode cX4_lettersThatFit 13 = .ok (.invokevirtual 50, 3) := by decide +kernel
theorem dX4_lettersThatFit_16 : decode cX4_lettersThatFit 16 = .ok (.bipush (-6), 2) := by decide +kernel
theorem dX4_lettersThatFit_18 : decode cX4_lettersThatFit 18 = .ok (.if_icmp .ne 14, 3) := by decide +kernel
theorem dX4_lettersThatFit_21 : decode cX4_lettersThatFit 21 = .ok (.aload_n 0, 1) := by decide +kernel
theorem dX4_lettersThatFit_22 : decode cX4_lettersThatFit 22 = .ok (.iload_n 2, 1) := by decide +kernel
theorem dX4_lettersThatFit_23 : decode cX4_lettersThatFit 23 = .ok (.iconst 1, 1) := by decide +kernel
theorem dX4_lettersThatFit_24 : decode cX4_lettersThatFit 24 = .ok (.invokevirtual 50, 3) := by decide +kernel
theorem dX4_lettersThatFit_27 : decode cX4_lettersThatFit 27 = .ok (.bipush (-6), 2) := by decide +kernel
theorem dX4_lettersThatFit_29 : decode cX4_lettersThatFit 29 = .ok (.if_icmp .eq 9, 3) := by decide +kernel
theorem dX4_lettersThatFit_32 : decode cX4_lettersThatFit 32 = .ok (.iload_n 1, 1) := by decide +kernel
theorem dX4_lettersThatFit_33 : decode cX4_lettersThatFit 33 = .ok (.iconst 1, 1) := by decide +kernel
theorem dX4_lettersThatFit_34 : decode cX4_lettersThatFit 34 = .ok (.iload_n 2, 1) := by decide +kernel
theorem dX4_lettersThatFit_35 : decode cX4_lettersThatFit 35 = .ok (.ishl, 1) := by decide +kernel
theorem dX4_lettersThatFit_36 : decode cX4_lettersThatFit 36 = .ok (.ior, 1) := by decide +kernel
theorem dX4_lettersThatFit_37 : decode cX4_lettersThatFit 37 = .ok (.istore_n 1, 1) := by decide +kernel
theorem dX4_lettersThatFit_38 : decode cX4_lettersThatFit 38 = .ok (.iinc 2 1, 3) := by decide +kernel
theorem dX4_lettersThatFit_41 : decode cX4_lettersThatFit 41 = .ok (.goto (-37), 3) := by decide +kernel
theorem dX4_lettersThatFit_44 : decode cX4_lettersThatFit 44 = .ok (.iload_n 1, 1) := by decide +kernel
theorem dX4_lettersThatFit_45 : decode cX4_lettersThatFit 45 = .ok (.ireturn, 1) := by decide +kernel
theorem dX4_squaresLeft_0 : decode cX4_squaresLeft 0 = .ok (.bipush 126, 2) := by decide +kernel
theorem dX4_squaresLeft_2 : decode cX4_squaresLeft 2 = .ok (.istore_n 1, 1) := by decide +kernel
theorem dX4_squaresLeft_3 : decode cX4_squaresLeft 3 = .ok (.iconst 0, 1) := by decide +kernel
theorem dX4_squaresLeft_4 : decode cX4_squaresLeft 4 = .ok (.istore_n 2, 1) := by decide +kernel
theorem dX4_squaresLeft_5 : decode cX4_squaresLeft 5 = .ok (.iload_n 2, 1) := by decide +kernel
theorem dX4_squaresLeft_6 : decode cX4_squaresLeft 6 = .ok (.bipush 9, 2) := by decide +kernel
theorem dX4_squaresLeft_8 : decode cX4_squaresLeft 8 = .ok (.if_icmp .ge 21, 3) := by decide +kernel
theorem dX4_squaresLeft_11 : decode cX4_squaresLeft 11 = .ok (.iload_n 1, 1) := by decide +kernel
theorem dX4_squaresLeft_12 : decode cX4_squaresLeft 12 = .ok (.aload_n 0, 1) := by decide +kernel
theorem dX4_squaresLeft_13 : decode cX4_squaresLeft 13 = .ok (.getfield 9, 3) := by decide +kernel
theorem dX4_squaresLeft_16 : decode cX4_squaresLeft 16 = .ok (.iload_n 2, 1) := by decide +kernel
theorem dX4_squaresLeft_17 : decode cX4_squaresLeft 17 = .ok (.iaload, 1) := by decide +kernel
theorem dX4_squaresLeft_18 : decode cX4_squaresLeft 18 = .ok (.invokestatic 67, 3) := by decide +kernel
theorem dX4_squaresLeft_21 : decode cX4_squaresLeft 21 = .ok (.isub, 1) := by decide +kernel
theorem dX4_squaresLeft_22 : decode cX4_squaresLeft 22 = .ok (.istore_n 1, 1) := by decide +kernel
theorem dX4_squaresLeft_23 : decode cX4_squaresLeft 23 = .ok (.iinc 2 1, 3) := by decide +kernel
theorem dX4_squaresLeft_26 : decode cX4_squaresLeft 26 = .ok (.goto (-21), 3) := by decide +kernel
theorem dX4_squaresLeft_29 : decode cX4_squaresLeft 29 = .ok (.iload_n 1, 1) := by decide +kernel
theorem dX4_squaresLeft_30 : decode cX4_squaresLeft 30 = .ok (.ireturn, 1) := by decide +kernel
theorem dX5_init_0 : decode cX5_init 0 = .ok (.aload_n 0, 1) := by decide +kernel
theorem dX5_init_1 : decode cX5_init 1 = .ok (.invokespecial 3, 3) := by decide +kernel
theorem dX5_init_4 : decode cX5_init 4 = .ok (.aload_n 0, 1) := by decide +kernel
theorem dX5_init_5 : decode cX5_init 5 = .ok (.bipush 6, 2) := by decide +kernel
theorem dX5_init_7 : decode cX5_init 7 = .ok (.anewarray 9, 3) := by decide +kernel
theorem dX5_init_10 : decode cX5_init 10 = .ok (.putfield 11, 3) := by decide +kernel
theorem dX5_init_13 : decode cX5_init 13 = .ok (.aload_n 0, 1) := by decide +kernel
theorem dX5_init_14 : decode cX5_init 14 = .ok (.bipush 48, 2) := by decide +kernel
theorem dX5_init_16 : decode cX5_init 16 = .ok (.anewarray 17, 3) := by decide +kernel
theorem dX5_init_19 : decode cX5_init 19 = .ok (.putfield 19, 3) := by decide +kernel
theorem dX5_init_22 : decode cX5_init 22 = .ok (.aload_n 0, 1) := by decide +kernel
theorem dX5_init_23 : decode cX5_init 23 = .ok (.bipush 36, 2) := by decide +kernel
theorem dX5_init_25 : decode cX5_init 25 = .ok (.newarray .int, 2) := by decide +kernel
theorem dX5_init_27 : decode cX5_init 27 = .ok (.putfield 23, 3) := by decide +kernel
theorem dX5_init_30 : decode cX5_init 30 = .ok (.aload_n 0, 1) := by decide +kernel
theorem dX5_init_31 : decode cX5_init 31 = .ok (.aload_n 1, 1) := by decide +kernel
theorem dX5_init_32 : decode cX5_init 32 = .ok (.putfield 27, 3) := by decide +kernel
theorem dX5_init_35 : decode cX5_init 35 = .ok (.iconst 0, 1) := by decide +kernel
theorem dX5_init_36 : decode cX5_init 36 = .ok (.istore_n 2, 1) := by decide +kernel
theorem dX5_init_37 : decode cX5_init 37 = .ok (.iload_n 2, 1) := by decide +kernel
theorem dX5_init_38 : decode cX5_init 38 = .ok (.bipush 6, 2) := by decide +kernel
theorem dX5_init_40 : decode cX5_init 40 = .ok (.if_icmp .ge 23, 3) := by decide +kernel
theorem dX5_init_43 : decode cX5_init 43 = .ok (.aload_n 0, 1) := by decide +kernel
theorem dX5_init_44 : decode cX5_init 44 = .ok (.getfield 11, 3) := by decide +kernel
theorem dX5_init_47 : decode cX5_init 47 = .ok (.iload_n 2, 1) := by decide +kernel
theorem dX5_init_48 : decode cX5_init 48 = .ok (.new 9, 3) := by decide +kernel
theorem dX5_init_51 : decode cX5_init 51 = .ok (.dup, 1) := by decide +kernel
theorem dX5_init_52 : decode cX5_init 52 = .ok (.aload_n 1, 1) := by decide +kernel
theorem dX5_init_53 : decode cX5_init 53 = .ok (.invokespecial 31, 3) := by decide +kernel
theorem dX5_init_56 : decode cX5_init 56 = .ok (.aastore, 1) := by decide +kernel
theorem dX5_init_57 : decode cX5_init 57 = .ok (.iinc 2 1, 3) := by decide +kernel
theorem dX5_init_60 : decode cX5_init 60 = .ok (.goto (-23), 3) := by decide +kernel
theorem dX5_init_63 : decode cX5_init 63 = .ok (.iconst 0, 1) := by decide +kernel
theorem dX5_init_64 : decode cX5_init 64 = .ok (.istore_n 2, 1) := by decide +kernel
theorem dX5_init_65 : decode cX5_init 65 = .ok (.iload_n 2, 1) := by decide +kernel
theorem dX5_init_66 : decode cX5_init 66 = .ok (.bipush 48, 2) := by decide +kernel
theorem dX5_init_68 : decode cX5_init 68 = .ok (.if_icmp .ge 22, 3) := by decide +kernel
theorem dX5_init_71 : decode cX5_init 71 = .ok (.aload_n 0, 1) := by decide +kernel
theorem dX5_init_72 : decode cX5_init 72 = .ok (.getfield 19, 3) := by decide +kernel
theorem dX5_init_75 : decode cX5_init 75 = .ok (.iload_n 2, 1) := by decide +kernel
theorem dX5_init_76 : decode cX5_init 76 = .ok (.new 17, 3) := by decide +kernel
theorem dX5_init_79 : decode cX5_init 79 = .ok (.dup, 1) := by decide +kernel
theorem dX5_init_80 : decode cX5_init 80 = .ok (.invokespecial 34, 3) := by decide +kernel
theorem dX5_init_83 : decode cX5_init 83 = .ok (.aastore, 1) := by decide +kernel
theorem dX5_init_84 : decode cX5_init 84 = .ok (.iinc 2 1, 3) := by decide +kernel
theorem dX5_init_87 : decode cX5_init 87 = .ok (.goto (-22), 3) := by decide +kernel
theorem dX5_init_90 : decode cX5_init 90 = .ok (.iconst 0, 1) := by decide +kernel
theorem dX5_init_91 : decode cX5_init 91 = .ok (.istore_n 2, 1) := by decide +kernel
theorem dX5_init_92 : decode cX5_init 92 = .ok (.iload_n 2, 1) := by decide +kernel
theorem dX5_init_93 : decode cX5_init 93 = .ok (.bipush 36, 2) := by decide +kernel
theorem dX5_init_95 : decode cX5_init 95 = .ok (.if_icmp .ge 17, 3) := by decide +kernel
theorem dX5_init_98 : decode cX5_init 98 = .ok (.aload_n 0, 1) := by decide +kernel
theorem dX5_init_99 : decode cX5_init 99 = .ok (.getfield 23, 3) := by decide +kernel
theorem dX5_init_102 : decode cX5_init 102 = .ok (.iload_n 2, 1) := by decide +kernel
theorem dX5_init_103 : decode cX5_init 103 = .ok (.bipush (-6), 2) := by decide +kernel
theorem dX5_init_105 : decode cX5_init 105 = .ok (.iastore, 1) := by decide +kernel
theorem dX5_init_106 : decode cX5_init 106 = .ok (.iinc 2 1, 3) := by decide +kernel
theorem dX5_init_109 : decode cX5_init 109 = .ok (.goto (-17), 3) := by decide +kernel
theorem dX5_init_112 : decode cX5_init 112 = .ok (.return_, 1) := by decide +kernel
theorem dX5_copyFrom_0 : decode cX5_copyFrom 0 = .ok (.aload_n 0, 1) := by decide +kernel
theorem dX5_copyFrom_1 : decode cX5_copyFrom 1 = .ok (.aload_n 1, 1) := by decide +kernel
theorem dX5_copyFrom_2 : decode cX5_copyFrom 2 = .ok (.getfield 35, 3) := by decide +kernel
theorem dX5_copyFrom_5 : decode cX5_copyFrom 5 = .ok (.putfield 35, 3) := by decide +kernel
theorem dX5_copyFrom_8 : decode cX5_copyFrom 8 = .ok (.aload_n 0, 1) := by decide +kernel
theorem dX5_copyFrom_9 : decode cX5_copyFrom 9 = .ok (.aload_n 1, 1) := by decide +kernel
theorem dX5_copyFrom_10 : decode cX5_copyFrom 10 = .ok (.getfield 39, 3) := by decide +kernel
theorem dX5_copyFrom_13 : decode cX5_copyFrom 13 = .ok (.putfield 39, 3) := by decide +kernel
theorem dX5_copyFrom_16 : decode cX5_copyFrom 16 = .ok (.iconst 0, 1) := by decide +kernel
theorem dX5_copyFrom_17 : decode cX5_copyFrom 17 = .ok (.istore_n 2, 1) := by decide +kernel
theorem dX5_copyFrom_18 : decode cX5_copyFrom 18 = .ok (.iload_n 2, 1) := by decide +kernel
theorem dX5_copyFrom_19 : decode cX5_copyFrom 19 = .ok (.bipush 6, 2) := by decide +kernel
theorem dX5_copyFrom_21 : decode cX5_copyFrom 21 = .ok (.if_icmp .ge 24, 3) := by decide +kernel
theorem dX5_copyFrom_24 : decode cX5_copyFrom 24 = .ok (.aload_n 0, 1) := by decide +kernel
theorem dX5_copyFrom_25 : decode cX5_copyFrom 25 = .ok (.getfield 11, 3) := by decide +kernel
theorem dX5_copyFrom_28 : decode cX5_copyFrom 28 = .ok (.iload_n 2, 1) := by decide +kernel
theorem dX5_copyFrom_29 : decode cX5_copyFrom 29 = .ok (.aaload, 1) := by decide +kernel
theorem dX5_copyFrom_30 : decode cX5_copyFrom 30 = .ok (.aload_n 1, 1) := by decide +kernel
theorem dX5_copyFrom_31 : decode cX5_copyFrom 31 = .ok (.getfield 11, 3) := by decide +kernel
theorem dX5_copyFrom_34 : decode cX5_copyFrom 34 = .ok (.iload_n 2, 1) := by decide +kernel
theorem dX5_copyFrom_35 : decode cX5_copyFrom 35 = .ok (.aaload, 1) := by decide +kernel
theorem dX5_copyFrom_36 : decode cX5_copyFrom 36 = .ok (.invokevirtual 42, 3) := by decide +kernel
theorem dX5_copyFrom_39 : decode cX5_copyFrom 39 = .ok (.iinc 2 1, 3) := by decide +kernel
theorem dX5_copyFrom_42 : decode cX5_copyFrom 42 = .ok (.goto (-24), 3) := by decide +kernel
theorem dX5_copyFrom_45 : decode cX5_copyFrom 45 = .ok (.iconst 0, 1) := by decide +kernel
theorem dX5_copyFrom_46 : decode cX5_copyFrom 46 = .ok (.istore_n 2, 1) := by decide +kernel
theorem dX5_copyFrom_47 : decode cX5_copyFrom 47 = .ok (.iload_n 2, 1) := by decide +kernel
theorem dX5_copyFrom_48 : decode cX5_copyFrom 48 = .ok (.bipush 48, 2) := by decide +kernel
theorem dX5_copyFrom_50 : decode cX5_copyFrom 50 = .ok (.if_icmp .ge 24, 3) := by decide +kernel
theorem dX5_copyFrom_53 : decode cX5_copyFrom 53 = .ok (.aload_n 0, 1) := by decide +kernel
theorem dX5_copyFrom_54 : decode cX5_copyFrom 54 = .ok (.getfield 19, 3) := by decide +kernel
theorem dX5_copyFrom_57 : decode cX5_copyFrom 57 = .ok (.iload_n 2, 1) := by decide +kernel
theorem dX5_copyFrom_58 : decode cX5_copyFrom 58 = .ok (.aaload, 1) := by decide +kernel
theorem dX5_copyFrom_59 : decode cX5_copyFrom 59 = .ok (.aload_n 1, 1) := by decide +kernel
theorem dX5_copyFrom_60 : decode cX5_copyFrom 60 = .ok (.getfield 19, 3) := by decide +kernel
theorem dX5_copyFrom_63 : decode cX5_copyFrom 63 = .ok (.iload_n 2, 1) := by decide +kernel
theorem dX5_copyFrom_64 : decode cX5_copyFrom 64 = .ok (.aaload, 1) := by decide +kernel
theorem dX5_copyFrom_65 : decode cX5_copyFrom 65 = .ok (.invokevirtual 46, 3) := by decide +kernel
theorem dX5_copyFrom_68 : decode cX5_copyFrom 68 = .ok (.iinc 2 1, 3) := by decide +kernel
theorem dX5_copyFrom_71 : decode cX5_copyFrom 71 = .ok (.goto (-24), 3) := by decide +kernel
theorem dX5_copyFrom_74 : decode cX5_copyFrom 74 = .ok (.iconst 0, 1) := by decide +kernel
theorem dX5_copyFrom_75 : decode cX5_copyFrom 75 = .ok (.istore_n 2, 1) := by decide +kernel
theorem dX5_copyFrom_76 : decode cX5_copyFrom 76 = .ok (.iload_n 2, 1) := by decide +kernel
theorem dX5_copyFrom_77 : decode cX5_copyFrom 77 = .ok (.bipush 36, 2) := by decide +kernel
theorem dX5_copyFrom_79 : decode cX5_copyFrom 79 = .ok (.if_icmp .ge 21, 3) := by decide +kernel
theorem dX5_copyFrom_82 : decode cX5_copyFrom 82 = .ok (.aload_n 0, 1) := by decide +kernel
theorem dX5_copyFrom_83 : decode cX5_copyFrom 83 = .ok (.getfield 23, 3) := by decide +kernel
theorem dX5_copyFrom_86 : decode cX5_copyFrom 86 = .ok (.iload_n 2, 1) := by decide +kernel
theorem dX5_copyFrom_87 : decode cX5_copyFrom 87 = .ok (.aload_n 1, 1) := by decide +kernel
theorem dX5_copyFrom_88 : decode cX5_copyFrom 88 = .ok (.getfield 23, 3) := by decide +kernel
theorem dX5_copyFrom_91 : decode cX5_copyFrom 91 = .ok (.iload_n 2, 1) := by decide +kernel
theorem dX5_copyFrom_92 : decode cX5_copyFrom 92 = .ok (.iaload, 1) := by decide +kernel
theorem dX5_copyFrom_93 : decode cX5_copyFrom 93 = .ok (.iastore, 1) := by decide +kernel
theorem dX5_copyFrom_94 : decode cX5_copyFrom 94 = .ok (.iinc 2 1, 3) := by decide +kernel
theorem dX5_copyFrom_97 : decode cX5_copyFrom 97 = .ok (.goto (-21), 3) := by decide +kernel
theorem dX5_copyFrom_100 : decode cX5_copyFrom 100 = .ok (.return_, 1) := by decide +kernel
theorem dX5_sheetAt_0 : decode cX5_sheetAt 0 = .ok (.iload_n 1, 1) := by decide +kernel
theorem dX5_sheetAt_1 : decode cX5_sheetAt 1 = .ok (.ifCond .lt 26, 3) := by decide +kernel
theorem dX5_sheetAt_4 : decode cX5_sheetAt 4 = .ok (.iload_n 1, 1) := by decide +kernel
theorem dX5_sheetAt_5 : decode cX5_sheetAt 5 = .ok (.aload_n 0, 1) := by decide +kernel
theorem dX5_sheetAt_6 : decode cX5_sheetAt 6 = .ok (.getfield 35, 3) := by decide +kernel
theorem dX5_sheetAt_9 : decode cX5_sheetAt 9 = .ok (.if_icmp .ge 18, 3) := by decide +kernel
theorem dX5_sheetAt_12 : decode cX5_sheetAt 12 = .ok (.iload_n 1, 1) := by decide +kernel
theorem dX5_sheetAt_13 : decode cX5_sheetAt 13 = .ok (.bipush 6, 2) := by decide +kernel
theorem dX5_sheetAt_15 : decode cX5_sheetAt 15 = .ok (.if_icmp .ge 12, 3) := by decide +kernel
theorem dX5_sheetAt_18 : decode cX5_sheetAt 18 = .ok (.aload_n 0, 1) := by decide +kernel
theorem dX5_sheetAt_19 : decode cX5_sheetAt 19 = .ok (.getfield 11, 3) := by decide +kernel
theorem dX5_sheetAt_22 : decode cX5_sheetAt 22 = .ok (.iload_n 1, 1) := by decide +kernel
theorem dX5_sheetAt_23 : decode cX5_sheetAt 23 = .ok (.aaload, 1) := by decide +kernel
theorem dX5_sheetAt_24 : decode cX5_sheetAt 24 = .ok (.goto 4, 3) := by decide +kernel
theorem dX5_sheetAt_27 : decode cX5_sheetAt 27 = .ok (.aconst_null, 1) := by decide +kernel
theorem dX5_sheetAt_28 : decode cX5_sheetAt 28 = .ok (.areturn, 1) := by decide +kernel
theorem dX5_pieceAt_0 : decode cX5_pieceAt 0 = .ok (.iload_n 1, 1) := by decide +kernel
theorem dX5_pieceAt_1 : decode cX5_pieceAt 1 = .ok (.ifCond .lt 26, 3) := by decide +kernel
theorem dX5_pieceAt_4 : decode cX5_pieceAt 4 = .ok (.iload_n 1, 1) := by decide +kernel
theorem dX5_pieceAt_5 : decode cX5_pieceAt 5 = .ok (.aload_n 0, 1) := by decide +kernel
theorem dX5_pieceAt_6 : decode cX5_pieceAt 6 = .ok (.getfield 39, 3) := by decide +kernel
theorem dX5_pieceAt_9 : decode cX5_pieceAt 9 = .ok (.if_icmp .ge 18, 3) := by decide +kernel
theorem dX5_pieceAt_12 : decode cX5_pieceAt 12 = .ok (.iload_n 1, 1) := by decide +kernel
theorem dX5_pieceAt_13 : decode cX5_pieceAt 13 = .ok (.bipush 48, 2) := by decide +kernel
theorem dX5_pieceAt_15 : decode cX5_pieceAt 15 = .ok (.if_icmp .ge 12, 3) := by decide +kernel
theorem dX5_pieceAt_18 : decode cX5_pieceAt 18 = .ok (.aload_n 0, 1) := by decide +kernel
theorem dX5_pieceAt_19 : decode cX5_pieceAt 19 = .ok (.getfield 19, 3) := by decide +kernel
theorem dX5_pieceAt_22 : decode cX5_pieceAt 22 = .ok (.iload_n 1, 1) := by decide +kernel
theorem dX5_pieceAt_23 : decode cX5_pieceAt 23 = .ok (.aaload, 1) := by decide +kernel
theorem dX5_pieceAt_24 : decode cX5_pieceAt 24 = .ok (.goto 4, 3) := by decide +kernel
theorem dX5_pieceAt_27 : decode cX5_pieceAt 27 = .ok (.aconst_null, 1) := by decide +kernel
theorem dX5_pieceAt_28 : decode cX5_pieceAt 28 = .ok (.areturn, 1) := by decide +kernel
theorem dX5_addSheet_0 : decode cX5_addSheet 0 = .ok (.aload_n 0, 1) := by decide +kernel
theorem dX5_addSheet_1 : decode cX5_addSheet 1 = .ok (.getfield 35, 3) := by decide +kernel
theorem dX5_addSheet_4 : decode cX5_addSheet 4 = .ok (.istore_n 2, 1) := by decide +kernel
theorem dX5_addSheet_5 : decode cX5_addSheet 5 = .ok (.iload_n 2, 1) := by decide +kernel
theorem dX5_addSheet_6 : decode cX5_addSheet 6 = .ok (.ifCond .lt 9, 3) := by decide +kernel
theorem dX5_addSheet_9 : decode cX5_addSheet 9 = .ok (.iload_n 2, 1) := by decide +kernel
theorem dX5_addSheet_10 : decode cX5_addSheet 10 = .ok (.bipush 6, 2) := by decide +kernel
theorem dX5_addSheet_12 : decode cX5_addSheet 12 = .ok (.if_icmp .lt 6, 3) := by decide +kernel
theorem dX5_addSheet_15 : decode cX5_addSheet 15 = .ok (.bipush (-4), 2) := by decide +kernel
theorem dX5_addSheet_17 : decode cX5_addSheet 17 = .ok (.ireturn, 1) := by decide +kernel
theorem dX5_addSheet_18 : decode cX5_addSheet 18 = .ok (.aload_n 0, 1) := by decide +kernel
theorem dX5_addSheet_19 : decode cX5_addSheet 19 = .ok (.getfield 11, 3) := by decide +kernel
theorem dX5_addSheet_22 : decode cX5_addSheet 22 = .ok (.iload_n 2, 1) := by decide +kernel
theorem dX5_addSheet_23 : decode cX5_addSheet 23 = .ok (.aaload, 1) := by decide +kernel
theorem dX5_addSheet_24 : decode cX5_addSheet 24 = .ok (.iload_n 1, 1) := by decide +kernel
theorem dX5_addSheet_25 : decode cX5_addSheet 25 = .ok (.putfield 49, 3) := by decide +kernel
theorem dX5_addSheet_28 : decode cX5_addSheet 28 = .ok (.aload_n 0, 1) := by decide +kernel
theorem dX5_addSheet_29 : decode cX5_addSheet 29 = .ok (.dup, 1) := by decide +kernel
theorem dX5_addSheet_30 : decode cX5_addSheet 30 = .ok (.getfield 35, 3) := by decide +kernel
theorem dX5_addSheet_33 : decode cX5_addSheet 33 = .ok (.iconst 1, 1) := by decide +kernel
theorem dX5_addSheet_34 : decode cX5_addSheet 34 = .ok (.iadd, 1) := by decide +kernel
theorem dX5_addSheet_35 : decode cX5_addSheet 35 = .ok (.putfield 35, 3) := by decide +kernel
theorem dX5_addSheet_38 : decode cX5_addSheet 38 = .ok (.iload_n 2, 1) := by decide +kernel
theorem dX5_addSheet_39 : decode cX5_addSheet 39 = .ok (.ireturn, 1) := by decide +kernel
theorem dX5_cutPiece_0 : decode cX5_cutPiece 0 = .ok (.aload_n 0, 1) := by decide +kernel
theorem dX5_cutPiece_1 : decode cX5_cutPiece 1 = .ok (.iload_n 1, 1) := by decide +kernel
theorem dX5_cutPiece_2 : decode cX5_cutPiece 2 = .ok (.invokevirtual 52, 3) := by decide +kernel
theorem dX5_cutPiece_5 : decode cX5_cutPiece 5 = .ok (.astore 6, 2) := by decide +kernel
theorem dX5_cutPiece_7 : decode cX5_cutPiece 7 = .ok (.aload 6, 2) := by decide +kernel
theorem dX5_cutPiece_9 : decode cX5_cutPiece 9 = .ok (.ifnull 17, 3) := by decide +kernel
theorem dX5_cutPiece_12 : decode cX5_cutPiece 12 = .ok (.aload 6, 2) := by decide +kernel
theorem dX5_cutPiece_14 : decode cX5_cutPiece 14 = .ok (.iload_n 2, 1) := by decide +kernel
theorem dX5_cutPiece_15 : decode cX5_cutPiece 15 = .ok (.iload_n 3, 1) := by decide +kernel
theorem dX5_cutPiece_16 : decode cX5_cutPiece 16 = .ok (.iload 4, 2) := by decide +kernel
theorem dX5_cutPiece_18 : decode cX5_cutPiece 18 = .ok (.iload 5, 2) := by decide +kernel
theorem dX5_cutPiece_20 : decode cX5_cutPiece 20 = .ok (.invokevirtual 56, 3) := by decide +kernel
theorem dX5_cutPiece_23 : decode cX5_cutPiece 23 = .ok (.ifCond .ne 6, 3) := by decide +kernel
theorem dX5_cutPiece_26 : decode cX5_cutPiece 26 = .ok (.bipush (-5), 2) := by decide +kernel
theorem dX5_cutPiece_28 : decode cX5_cutPiece 28 = .ok (.ireturn, 1) := by decide +kernel
theorem dX5_cutPiece_29 : decode cX5_cutPiece 29 = .ok (.aload_n 0, 1) := by decide +kernel
theorem dX5_cutPiece_30 : decode cX5_cutPiece 30 = .ok (.iload_n 1, 1) := by decide +kernel
theorem dX5_cutPiece_31 : decode cX5_cutPiece 31 = .ok (.iload_n 2, 1) := by decide +kernel
theorem dX5_cutPiece_32 : decode cX5_cutPiece 32 = .ok (.iload_n 3, 1) := by decide +kernel
theorem dX5_cutPiece_33 : decode cX5_cutPiece 33 = .ok (.iload 4, 2) := by decide +kernel
theorem dX5_cutPiece_35 : decode cX5_cutPiece 35 = .ok (.iload 5, 2) := by decide +kernel
theorem dX5_cutPiece_37 : decode cX5_cutPiece 37 = .ok (.invokevirtual 60, 3) := by decide +kernel
theorem dX5_cutPiece_40 : decode cX5_cutPiece 40 = .ok (.ireturn, 1) := by decide +kernel
theorem dX5_addPiece_0 : decode cX5_addPiece 0 = .ok (.aload_n 0, 1) := by decide +kernel
theorem dX5_addPiece_1 : decode cX5_addPiece 1 = .ok (.getfield 39, 3) := by decide +kernel
theorem dX5_addPiece_4 : decode cX5_addPiece 4 = .ok (.istore 6, 2) := by decide +kernel
theorem dX5_addPiece_6 : decode cX5_addPiece 6 = .ok (.iload 6, 2) := by decide +kernel
theorem dX5_addPiece_8 : decode cX5_addPiece 8 = .ok (.ifCond .lt 10, 3) := by decide +kernel
theorem dX5_addPiece_11 : decode cX5_addPiece 11 = .ok (.iload 6, 2) := by decide +kernel
theorem dX5_addPiece_13 : decode cX5_addPiece 13 = .ok (.bipush 48, 2) := by decide +kernel
theorem dX5_addPiece_15 : decode cX5_addPiece 15 = .ok (.if_icmp .lt 6, 3) := by decide +kernel
theorem dX5_addPiece_18 : decode cX5_addPiece 18 = .ok (.bipush (-4), 2) := by decide +kernel
theorem dX5_addPiece_20 : decode cX5_addPiece 20 = .ok (.ireturn, 1) := by decide +kernel
theorem dX5_addPiece_21 : decode cX5_addPiece 21 = .ok (.aload_n 0, 1) := by decide +kernel
theorem dX5_addPiece_22 : decode cX5_addPiece 22 = .ok (.iload_n 1, 1) := by decide +kernel
theorem dX5_addPiece_23 : decode cX5_addPiece 23 = .ok (.invokevirtual 52, 3) := by decide +kernel
theorem dX5_addPiece_26 : decode cX5_addPiece 26 = .ok (.astore 7, 2) := by decide +kernel
theorem dX5_addPiece_28 : decode cX5_addPiece 28 = .ok (.aload 7, 2) := by decide +kernel
theorem dX5_addPiece_30 : decode cX5_addPiece 30 = .ok (.ifnonnull 6, 3) := by decide +kernel
theorem dX5_addPiece_33 : decode cX5_addPiece 33 = .ok (.bipush (-5), 2) := by decide +kernel
theorem dX5_addPiece_35 : decode cX5_addPiece 35 = .ok (.ireturn, 1) := by decide +kernel
theorem dX5_addPiece_36 : decode cX5_addPiece 36 = .ok (.aload 7, 2) := by decide +kernel
theorem dX5_addPiece_38 : decode cX5_addPiece 38 = .ok (.iload_n 2, 1) := by decide +kernel
theorem dX5_addPiece_39 : decode cX5_addPiece 39 = .ok (.iload_n 3, 1) := by decide +kernel
theorem dX5_addPiece_40 : decode cX5_addPiece 40 = .ok (.iload 4, 2) := by decide +kernel
theorem dX5_addPiece_42 : decode cX5_addPiece 42 = .ok (.iload 5, 2) := by decide +kernel
theorem dX5_addPiece_44 : decode cX5_addPiece 44 = .ok (.invokevirtual 64, 3) := by decide +kernel
theorem dX5_addPiece_47 : decode cX5_addPiece 47 = .ok (.aload_n 0, 1) := by decide +kernel
theorem dX5_addPiece_48 : decode cX5_addPiece 48 = .ok (.getfield 19, 3) := by decide +kernel
theorem dX5_addPiece_51 : decode cX5_addPiece 51 = .ok (.iload 6, 2) := by decide +kernel
theorem dX5_addPiece_53 : decode cX5_addPiece 53 = .ok (.aaload, 1) := by decide +kernel
theorem dX5_addPiece_54 : decode cX5_addPiece 54 = .ok (.astore 8, 2) := by decide +kernel
theorem dX5_addPiece_56 : decode cX5_addPiece 56 = .ok (.aload 8, 2) := by decide +kernel
theorem dX5_addPiece_58 : decode cX5_addPiece 58 = .ok (.iload_n 2, 1) := by decide +kernel
theorem dX5_addPiece_59 : decode cX5_addPiece 59 = .ok (.putfield 68, 3) := by decide +kernel
theorem dX5_addPiece_62 : decode cX5_addPiece 62 = .ok (.aload 8, 2) := by decide +kernel
theorem dX5_addPiece_64 : decode cX5_addPiece 64 = .ok (.aload 7, 2) := by decide +kernel
theorem dX5_addPiece_66 : decode cX5_addPiece 66 = .ok (.getfield 49, 3) := by decide +kernel
theorem dX5_addPiece_69 : decode cX5_addPiece 69 = .ok (.putfield 71, 3) := by decide +kernel
theorem dX5_addPiece_72 : decode cX5_addPiece 72 = .ok (.aload 8, 2) := by decide +kernel
theorem dX5_addPiece_74 : decode cX5_addPiece 74 = .ok (.iload_n 3, 1) := by decide +kernel
theorem dX5_addPiece_75 : decode cX5_addPiece 75 = .ok (.putfield 72, 3) := by decide +kernel
theorem dX5_addPiece_78 : decode cX5_addPiece 78 = .ok (.aload 8, 2) := by decide +kernel
theorem dX5_addPiece_80 : decode cX5_addPiece 80 = .ok (.iload_n 1, 1) := by decide +kernel
theorem dX5_addPiece_81 : decode cX5_addPiece 81 = .ok (.putfield 75, 3) := by decide +kernel
theorem dX5_addPiece_84 : decode cX5_addPiece 84 = .ok (.aload 8, 2) := by decide +kernel
theorem dX5_addPiece_86 : decode cX5_addPiece 86 = .ok (.iload 4, 2) := by decide +kernel
theorem dX5_addPiece_88 : decode cX5_addPiece 88 = .ok (.bipush 14, 2) := by decide +kernel
theorem dX5_addPiece_90 : decode cX5_addPiece 90 = .ok (.imul, 1) := by decide +kernel
theorem dX5_addPiece_91 : decode cX5_addPiece 91 = .ok (.iload 5, 2) := by decide +kernel
theorem dX5_addPiece_93 : decode cX5_addPiece 93 = .ok (.iadd, 1) := by decide +kernel
theorem dX5_addPiece_94 : decode cX5_addPiece 94 = .ok (.putfield 78, 3) := by decide +kernel
theorem dX5_addPiece_97 : decode cX5_addPiece 97 = .ok (.aload 8, 2) := by decide +kernel
theorem dX5_addPiece_99 : decode cX5_addPiece 99 = .ok (.invokevirtual 81, 3) := by decide +kernel
theorem dX5_addPiece_102 : decode cX5_addPiece 102 = .ok (.aload_n 0, 1) := by decide +kernel
theorem dX5_addPiece_103 : decode cX5_addPiece 103 = .ok (.dup, 1) := by decide +kernel
theorem dX5_addPiece_104 : decode cX5_addPiece 104 = .ok (.getfield 39, 3) := by decide +kernel
theorem dX5_addPiece_107 : decode cX5_addPiece 107 = .ok (.iconst 1, 1) := by decide +kernel
theorem dX5_addPiece_108 : decode cX5_addPiece 108 = .ok (.iadd, 1) := by decide +kernel
theorem dX5_addPiece_109 : decode cX5_addPiece 109 = .ok (.putfield 39, 3) := by decide +kernel
theorem dX5_addPiece_112 : decode cX5_addPiece 112 = .ok (.iload 6, 2) := by decide +kernel
theorem dX5_addPiece_114 : decode cX5_addPiece 114 = .ok (.ireturn, 1) := by decide +kernel
theorem dX5_makePiece_0 : decode cX5_makePiece 0 = .ok (.iconst 0, 1) := by decide +kernel
theorem dX5_makePiece_1 : decode cX5_makePiece 1 = .ok (.istore 4, 2) := by decide +kernel
theorem dX5_makePiece_3 : decode cX5_makePiece 3 = .ok (.iload 4, 2) := by decide +kernel
theorem dX5_makePiece_5 : decode cX5_makePiece 5 = .ok (.aload_n 0, 1) := by decide +kernel
theorem dX5_makePiece_6 : decode cX5_makePiece 6 = .ok (.getfield 35, 3) := by decide +kernel
theorem dX5_makePiece_9 : decode cX5_makePiece 9 = .ok (.if_icmp .ge 73, 3) := by decide +kernel
theorem dX5_makePiece_12 : decode cX5_makePiece 12 = .ok (.aload_n 0, 1) := by decide +kernel
theorem dX5_makePiece_13 : decode cX5_makePiece 13 = .ok (.iload 4, 2) := by decide +kernel
theorem dX5_makePiece_15 : decode cX5_makePiece 15 = .ok (.invokevirtual 52, 3) := by decide +kernel
theorem dX5_makePiece_18 : decode cX5_makePiece 18 = .ok (.astore 5, 2) := by decide +kernel
theorem dX5_makePiece_20 : decode cX5_makePiece 20 = .ok (.aload 5, 2) := by decide +kernel
theorem dX5_makePiece_22 : decode cX5_makePiece 22 = .ok (.ifnull 54, 3) := by decide +kernel
theorem dX5_makePiece_25 : decode cX5_makePiece 25 = .ok (.aload 5, 2) := by decide +kernel
theorem dX5_makePiece_27 : decode cX5_makePiece 27 = .ok (.getfield 49, 3) := by decide +kernel
theorem dX5_makePiece_30 : decode cX5_makePiece 30 = .ok (.iload_n 1, 1) := by decide +kernel
theorem dX5_makePiece_31 : decode cX5_makePiece 31 = .ok (.if_icmp .eq 6, 3) := by decide +kernel
theorem dX5_makePiece_34 : decode cX5_makePiece 34 = .ok (.goto 42, 3) := by decide +kernel
theorem dX5_makePiece_37 : decode cX5_makePiece 37 = .ok (.aload 5, 2) := by decide +kernel
theorem dX5_makePiece_39 : decode cX5_makePiece 39 = .ok (.iload_n 2, 1) := by decide +kernel
theorem dX5_makePiece_40 : decode cX5_makePiece 40 = .ok (.iload_n 3, 1) := by decide +kernel
theorem dX5_makePiece_41 : decode cX5_makePiece 41 = .ok (.invokevirtual 84, 3) := by decide +kernel
theorem dX5_makePiece_44 : decode cX5_makePiece 44 = .ok (.istore 6, 2) := by decide +kernel
theorem dX5_makePiece_46 : decode cX5_makePiece 46 = .ok (.iload 6, 2) := by decide +kernel
theorem dX5_makePiece_48 : decode cX5_makePiece 48 = .ok (.bipush (-6), 2) := by decide +kernel
theorem dX5_makePiece_50 : decode cX5_makePiece 50 = .ok (.if_icmp .eq 26, 3) := by decide +kernel
theorem dX5_makePiece_53 : decode cX5_makePiece 53 = .ok (.aload_n 0, 1) := by decide +kernel
theorem dX5_makePiece_54 : decode cX5_makePiece 54 = .ok (.iload 4, 2) := by decide +kernel
theorem dX5_makePiece_56 : decode cX5_makePiece 56 = .ok (.iload_n 2, 1) := by decide +kernel
theorem dX5_makePiece_57 : decode cX5_makePiece 57 = .ok (.iload 6, 2) := by decide +kernel
theorem dX5_makePiece_59 : decode cX5_makePiece 59 = .ok (.invokestatic 88, 3) := by decide +kernel
theorem dX5_makePiece_62 : decode cX5_makePiece 62 = .ok (.iload 6, 2) := by decide +kernel
theorem dX5_makePiece_64 : decode cX5_makePiece 64 = .ok (.invokestatic 92, 3) := by decide +kernel
theorem dX5_makePiece_67 : decode cX5_makePiece 67 = .ok (.iload 6, 2) := by decide +kernel
theorem dX5_makePiece_69 : decode cX5_makePiece 69 = .ok (.invokestatic 95, 3) := by decide +kernel
theorem dX5_makePiece_72 : decode cX5_makePiece 72 = .ok (.invokevirtual 60, 3) := by decide +kernel
theorem dX5_makePiece_75 : decode cX5_makePiece 75 = .ok (.ireturn, 1) := by decide +kernel
theorem dX5_makePiece_76 : decode cX5_makePiece 76 = .ok (.iinc 4 1, 3) := by decide +kernel
theorem dX5_makePiece_79 : decode cX5_makePiece 79 = .ok (.goto (-76), 3) := by decide +kernel
theorem dX5_makePiece_82 : decode cX5_makePiece 82 = .ok (.bipush (-5), 2) := by decide +kernel
theorem dX5_makePiece_84 : decode cX5_makePiece 84 = .ok (.ireturn, 1) := by decide +kernel
theorem dX5_writeName_0 : decode cX5_writeName 0 = .ok (.iconst 0, 1) := by decide +kernel
theorem dX5_writeName_1 : decode cX5_writeName 1 = .ok (.istore 6, 2) := by decide +kernel
theorem dX5_writeName_3 : decode cX5_writeName 3 = .ok (.iconst 0, 1) := by decide +kernel
theorem dX5_writeName_4 : decode cX5_writeName 4 = .ok (.istore 7, 2) := by decide +kernel
theorem dX5_writeName_6 : decode cX5_writeName 6 = .ok (.iload 7, 2) := by decide +kernel
theorem dX5_writeName_8 : decode cX5_writeName 8 = .ok (.aload_n 1, 1) := by decide +kernel
theorem dX5_writeName_9 : decode cX5_writeName 9 = .ok (.getfield 98, 3) := by decide +kernel
theorem dX5_writeName_12 : decode cX5_writeName 12 = .ok (.if_icmp .ge 86, 3) := by decide +kernel
theorem dX5_writeName_15 : decode cX5_writeName 15 = .ok (.aload_n 1, 1) := by decide +kernel
theorem dX5_writeName_16 : decode cX5_writeName 16 = .ok (.iload 5, 2) := by decide +kernel
theorem dX5_writeName_18 : decode cX5_writeName 18 = .ok (.iconst 1, 1) := by decide +kernel
theorem dX5_writeName_19 : decode cX5_writeName 19 = .ok (.if_icmp .ne 15, 3) := by decide +kernel
theorem dX5_writeName_22 : decode cX5_writeName 22 = .ok (.aload_n 1, 1) := by decide +kernel
theorem dX5_writeName_23 : decode cX5_writeName 23 = .ok (.getfield 98, 3) := by decide +kernel
theorem dX5_writeName_26 : decode cX5_writeName 26 = .ok (.iconst 1, 1) := by decide +kernel
theorem dX5_writeName_27 : decode cX5_writeName 27 = .ok (.isub, 1) := by decide +kernel
theorem dX5_writeName_28 : decode cX5_writeName 28 = .ok (.iload 7, 2) := by decide +kernel
theorem dX5_writeName_30 : decode cX5_writeName 30 = .ok (.isub, 1) := by decide +kernel
theorem dX5_writeName_31 : decode cX5_writeName 31 = .ok (.goto 5, 3) := by decide +kernel
theorem dX5_writeName_34 : decode cX5_writeName 34 = .ok (.iload 7, 2) := by decide +kernel
theorem dX5_writeName_36 : decode cX5_writeName 36 = .ok (.invokevirtual 103, 3) := by decide +kernel
theorem dX5_writeName_39 : decode cX5_writeName 39 = .ok (.istore 8, 2) := by decide +kernel
theorem dX5_writeName_41 : decode cX5_writeName 41 = .ok (.aload_n 0, 1) := by decide +kernel
theorem dX5_writeName_42 : decode cX5_writeName 42 = .ok (.iload 8, 2) := by decide +kernel
theorem dX5_writeName_44 : decode cX5_writeName 44 = .ok (.iload 4, 2) := by decide +kernel
theorem dX5_writeName_46 : decode cX5_writeName 46 = .ok (.iload 5, 2) := by decide +kernel
theorem dX5_writeName_48 : decode cX5_writeName 48 = .ok (.invokevirtual 106, 3) := by decide +kernel
theorem dX5_writeName_51 : decode cX5_writeName 51 = .ok (.istore 9, 2) := by decide +kernel
theorem dX5_writeName_53 : decode cX5_writeName 53 = .ok (.iload 9, 2) := by decide +kernel
theorem dX5_writeName_55 : decode cX5_writeName 55 = .ok (.bipush (-6), 2) := by decide +kernel
theorem dX5_writeName_57 : decode cX5_writeName 57 = .ok (.if_icmp .ne 18, 3) := by decide +kernel
theorem dX5_writeName_60 : decode cX5_writeName 60 = .ok (.aload_n 0, 1) := by decide +kernel
theorem dX5_writeName_61 : decode cX5_writeName 61 = .ok (.iload 4, 2) := by decide +kernel
theorem dX5_writeName_63 : decode cX5_writeName 63 = .ok (.iload 8, 2) := by decide +kernel
theorem dX5_writeName_65 : decode cX5_writeName 65 = .ok (.iload 5, 2) := by decide +kernel
theorem dX5_writeName_67 : decode cX5_writeName 67 = .ok (.invokevirtual 110, 3) := by decide +kernel
theorem dX5_writeName_70 : decode cX5_writeName 70 = .ok (.istore 9, 2) := by decide +kernel
theorem dX5_writeName_72 : decode cX5_writeName 72 = .ok (.iinc 6 1, 3) := by decide +kernel
theorem dX5_writeName_75 : decode cX5_writeName 75 = .ok (.aload_n 0, 1) := by decide +kernel
theorem dX5_writeName_76 : decode cX5_writeName 76 = .ok (.iload 9, 2) := by decide +kernel
theorem dX5_writeName_78 : decode cX5_writeName 78 = .ok (.iload_n 2, 1) := by decide +kernel
theorem dX5_writeName_79 : decode cX5_writeName 79 = .ok (.iload_n 3, 1) := by decide +kernel
theorem dX5_writeName_80 : decode cX5_writeName 80 = .ok (.iload 7, 2) := by decide +kernel
theorem dX5_writeName_82 : decode cX5_writeName 82 = .ok (.iadd, 1) := by decide +kernel
theorem dX5_writeName_83 : decode cX5_writeName 83 = .ok (.invokevirtual 113, 3) := by decide +kernel
theorem dX5_writeName_86 : decode cX5_writeName 86 = .ok (.ifCond .ge 6, 3) := by decide +kernel
theorem dX5_writeName_89 : decode cX5_writeName 89 = .ok (.bipush (-5), 2) := by decide +kernel
theorem dX5_writeName_91 : decode cX5_writeName 91 = .ok (.ireturn, 1) := by decide +kernel
theorem dX5_writeName_92 : decode cX5_writeName 92 = .ok (.iinc 7 1, 3) := by decide +kernel
theorem dX5_writeName_95 : decode cX5_writeName 95 = .ok (.goto (-89), 3) := by decide +kernel
theorem dX5_writeName_98 : decode cX5_writeName 98 = .ok (.iload 6, 2) := by decide +kernel
theorem dX5_writeName_100 : decode cX5_writeName 100 = .ok (.ireturn, 1) := by decide +kernel
theorem dX5_lowestLoose_0 : decode cX5_lowestLoose 0 = .ok (.iconst 0, 1) := by decide +kernel
theorem dX5_lowestLoose_1 : decode cX5_lowestLoose 1 = .ok (.istore 4, 2) := by decide +kernel
theorem dX5_lowestLoose_3 : decode cX5_lowestLoose 3 = .ok (.iload 4, 2) := by decide +kernel
theorem dX5_lowestLoose_5 : decode cX5_lowestLoose 5 = .ok (.aload_n 0, 1) := by decide +kernel
theorem dX5_lowestLoose_6 : decode cX5_lowestLoose 6 = .ok (.getfield 39, 3) := by decide +kernel
theorem dX5_lowestLoose_9 : decode cX5_lowestLoose 9 = .ok (.if_icmp .ge 63, 3) := by decide +kernel
theorem dX5_lowestLoose_12 : decode cX5_lowestLoose 12 = .ok (.aload_n 0, 1) := by decide +kernel
theorem dX5_lowestLoose_13 : decode cX5_lowestLoose 13 = .ok (.iload 4, 2) := by decide +kernel
theorem dX5_lowestLoose_15 : decode cX5_lowestLoose 15 = .ok (.invokevirtual 116, 3) := by decide +kernel
theorem dX5_lowestLoose_18 : decode cX5_lowestLoose 18 = .ok (.astore 5, 2) := by decide +kernel
theorem dX5_lowestLoose_20 : decode cX5_lowestLoose 20 = .ok (.aload 5, 2) := by decide +kernel
theorem dX5_lowestLoose_22 : decode cX5_lowestLoose 22 = .ok (.ifnull 44, 3) := by decide +kernel
theorem dX5_lowestLoose_25 : decode cX5_lowestLoose 25 = .ok (.aload 5, 2) := by decide +kernel
theorem dX5_lowestLoose_27 : decode cX5_lowestLoose 27 = .ok (.getfield 120, 3) := by decide +kernel
theorem dX5_lowestLoose_30 : decode cX5_lowestLoose 30 = .ok (.ifCond .ne 36, 3) := by decide +kernel
theorem dX5_lowestLoose_33 : decode cX5_lowestLoose 33 = .ok (.aload 5, 2) := by decide +kernel
theorem dX5_lowestLoose_35 : decode cX5_lowestLoose 35 = .ok (.getfield 68, 3) := by decide +kernel
theorem dX5_lowestLoose_38 : decode cX5_lowestLoose 38 = .ok (.iload_n 1, 1) := by decide +kernel
theorem dX5_lowestLoose_39 : decode cX5_lowestLoose 39 = .ok (.if_icmp .ne 27, 3) := by decide +kernel
theorem dX5_lowestLoose_42 : decode cX5_lowestLoose 42 = .ok (.aload 5, 2) := by decide +kernel
theorem dX5_lowestLoose_44 : decode cX5_lowestLoose 44 = .ok (.getfield 71, 3) := by decide +kernel
theorem dX5_lowestLoose_47 : decode cX5_lowestLoose 47 = .ok (.iload_n 2, 1) := by decide +kernel
theorem dX5_lowestLoose_48 : decode cX5_lowestLoose 48 = .ok (.if_icmp .ne 18, 3) := by decide +kernel
theorem dX5_lowestLoose_51 : decode cX5_lowestLoose 51 = .ok (.aload 5, 2) := by decide +kernel
theorem dX5_lowestLoose_53 : decode cX5_lowestLoose 53 = .ok (.getfield 72, 3) := by decide +kernel
theorem dX5_lowestLoose_56 : decode cX5_lowestLoose 56 = .ok (.invokestatic 123, 3) := by decide +kernel
theorem dX5_lowestLoose_59 : decode cX5_lowestLoose 59 = .ok (.iload_n 3, 1) := by decide +kernel
theorem dX5_lowestLoose_60 : decode cX5_lowestLoose 60 = .ok (.if_icmp .ne 6, 3) := by decide +kernel
theorem dX5_lowestLoose_63 : decode cX5_lowestLoose 63 = .ok (.iload 4, 2) := by decide +kernel
theorem dX5_lowestLoose_65 : decode cX5_lowestLoose 65 = .ok (.ireturn, 1) := by decide +kernel
theorem dX5_lowestLoose_66 : decode cX5_lowestLoose 66 = .ok (.iinc 4 1, 3) := by decide +kernel
theorem dX5_lowestLoose_69 : decode cX5_lowestLoose 69 = .ok (.goto (-66), 3) := by decide +kernel
theorem dX5_lowestLoose_72 : decode cX5_lowestLoose 72 = .ok (.bipush (-6), 2) := by decide +kernel
theorem dX5_lowestLoose_74 : decode cX5_lowestLoose 74 = .ok (.ireturn, 1) := by decide +kernel
theorem dX5_putIntoPane_0 : decode cX5_putIntoPane 0 = .ok (.aload_n 0, 1) := by decide +kernel
theorem dX5_putIntoPane_1 : decode cX5_putIntoPane 1 = .ok (.iload_n 1, 1) := by decide +kernel
theorem dX5_putIntoPane_2 : decode cX5_putIntoPane 2 = .ok (.invokevirtual 116, 3) := by decide +kernel
theorem dX5_putIntoPane_5 : decode cX5_putIntoPane 5 = .ok (.astore 4, 2) := by decide +kernel
theorem dX5_putIntoPane_7 : decode cX5_putIntoPane 7 = .ok (.aload 4, 2) := by decide +kernel
theorem dX5_putIntoPane_9 : decode cX5_putIntoPane 9 = .ok (.ifnull 25, 3) := by decide +kernel
theorem dX5_putIntoPane_12 : decode cX5_putIntoPane 12 = .ok (.aload 4, 2) := by decide +kernel
theorem dX5_putIntoPane_14 : decode cX5_putIntoPane 14 = .ok (.getfield 120, 3) := by decide +kernel
theorem dX5_putIntoPane_17 : decode cX5_putIntoPane 17 = .ok (.ifCond .ne 17, 3) := by decide +kernel
theorem dX5_putIntoPane_20 : decode cX5_putIntoPane 20 = .ok (.iload_n 2, 1) := by decide +kernel
theorem dX5_putIntoPane_21 : decode cX5_putIntoPane 21 = .ok (.invokestatic 126, 3) := by decide +kernel
theorem dX5_putIntoPane_24 : decode cX5_putIntoPane 24 = .ok (.ifCond .eq 10, 3) := by decide +kernel
theorem dX5_putIntoPane_27 : decode cX5_putIntoPane 27 = .ok (.iload_n 3, 1) := by decide +kernel
theorem dX5_putIntoPane_28 : decode cX5_putIntoPane 28 = .ok (.invokestatic 130, 3) := by decide +kernel
theorem dX5_putIntoPane_31 : decode cX5_putIntoPane 31 = .ok (.ifCond .ne 6, 3) := by decide +kernel
theorem dX5_putIntoPane_34 : decode cX5_putIntoPane 34 = .ok (.bipush (-5), 2) := by decide +kernel
theorem dX5_putIntoPane_36 : decode cX5_putIntoPane 36 = .ok (.ireturn, 1) := by decide +kernel
theorem dX5_putIntoPane_37 : decode cX5_putIntoPane 37 = .ok (.iload_n 2, 1) := by decide +kernel
theorem dX5_putIntoPane_38 : decode cX5_putIntoPane 38 = .ok (.bipush 12, 2) := by decide +kernel
theorem dX5_putIntoPane_40 : decode cX5_putIntoPane 40 = .ok (.imul, 1) := by decide +kernel
theorem dX5_putIntoPane_41 : decode cX5_putIntoPane 41 = .ok (.iload_n 3, 1) := by decide +kernel
theorem dX5_putIntoPane_42 : decode cX5_putIntoPane 42 = .ok (.iadd, 1) := by decide +kernel
theorem dX5_putIntoPane_43 : decode cX5_putIntoPane 43 = .ok (.istore 5, 2) := by decide +kernel
theorem dX5_putIntoPane_45 : decode cX5_putIntoPane 45 = .ok (.aload_n 0, 1) := by decide +kernel
theorem dX5_putIntoPane_46 : decode cX5_putIntoPane 46 = .ok (.getfield 23, 3) := by decide +kernel
theorem dX5_putIntoPane_49 : decode cX5_putIntoPane 49 = .ok (.iload 5, 2) := by decide +kernel
theorem dX5_putIntoPane_51 : decode cX5_putIntoPane 51 = .ok (.iaload, 1) := by decide +kernel
theorem dX5_putIntoPane_52 : decode cX5_putIntoPane 52 = .ok (.bipush (-6), 2) := by decide +kernel
theorem dX5_putIntoPane_54 : decode cX5_putIntoPane 54 = .ok (.if_icmp .eq 6, 3) := by decide +kernel
theorem dX5_putIntoPane_57 : decode cX5_putIntoPane 57 = .ok (.bipush (-5), 2) := by decide +kernel
theorem dX5_putIntoPane_59 : decode cX5_putIntoPane 59 = .ok (.ireturn, 1) := by decide +kernel
theorem dX5_putIntoPane_60 : decode cX5_putIntoPane 60 = .ok (.aload_n 0, 1) := by decide +kernel
theorem dX5_putIntoPane_61 : decode cX5_putIntoPane 61 = .ok (.getfield 23, 3) := by decide +kernel
theorem dX5_putIntoPane_64 : decode cX5_putIntoPane 64 = .ok (.iload 5, 2) := by decide +kernel
theorem dX5_putIntoPane_66 : decode cX5_putIntoPane 66 = .ok (.iload_n 1, 1) := by decide +kernel
theorem dX5_putIntoPane_67 : decode cX5_putIntoPane 67 = .ok (.iastore, 1) := by decide +kernel
theorem dX5_putIntoPane_68 : decode cX5_putIntoPane 68 = .ok (.aload 4, 2) := by decide +kernel
theorem dX5_putIntoPane_70 : decode cX5_putIntoPane 70 = .ok (.iconst 1, 1) := by decide +kernel
theorem dX5_putIntoPane_71 : decode cX5_putIntoPane 71 = .ok (.putfield 120, 3) := by decide +kernel
theorem dX5_putIntoPane_74 : decode cX5_putIntoPane 74 = .ok (.aload 4, 2) := by decide +kernel
theorem dX5_putIntoPane_76 : decode cX5_putIntoPane 76 = .ok (.iload 5, 2) := by decide +kernel
theorem dX5_putIntoPane_78 : decode cX5_putIntoPane 78 = .ok (.putfield 133, 3) := by decide +kernel
theorem dX5_putIntoPane_81 : decode cX5_putIntoPane 81 = .ok (.aload_n 0, 1) := by decide +kernel
theorem dX5_putIntoPane_82 : decode cX5_putIntoPane 82 = .ok (.iload_n 2, 1) := by decide +kernel
theorem dX5_putIntoPane_83 : decode cX5_putIntoPane 83 = .ok (.invokevirtual 136, 3) := by decide +kernel
theorem dX5_putIntoPane_86 : decode cX5_putIntoPane 86 = .ok (.ireturn, 1) := by decide +kernel
theorem dX5_clearPane_0 : decode cX5_clearPane 0 = .ok (.iload_n 1, 1) := by decide +kernel
theorem dX5_clearPane_1 : decode cX5_clearPane 1 = .ok (.invokestatic 126, 3) := by decide +kernel
theorem dX5_clearPane_4 : decode cX5_clearPane 4 = .ok (.ifCond .ne 5, 3) := by decide +kernel
theorem dX5_clearPane_7 : decode cX5_clearPane 7 = .ok (.iconst (-1), 1) := by decide +kernel
theorem dX5_clearPane_8 : decode cX5_clearPane 8 = .ok (.ireturn, 1) := by decide +kernel
theorem dX5_clearPane_9 : decode cX5_clearPane 9 = .ok (.iconst 0, 1) := by decide +kernel
theorem dX5_clearPane_10 : decode cX5_clearPane 10 = .ok (.istore_n 2, 1) := by decide +kernel
theorem dX5_clearPane_11 : decode cX5_clearPane 11 = .ok (.iconst 0, 1) := by decide +kernel
theorem dX5_clearPane_12 : decode cX5_clearPane 12 = .ok (.istore_n 3, 1) := by decide +kernel
theorem dX5_clearPane_13 : decode cX5_clearPane 13 = .ok (.iload_n 3, 1) := by decide +kernel
theorem dX5_clearPane_14 : decode cX5_clearPane 14 = .ok (.bipush 12, 2) := by decide +kernel
theorem dX5_clearPane_16 : decode cX5_clearPane 16 = .ok (.if_icmp .ge 52, 3) := by decide +kernel
theorem dX5_clearPane_19 : decode cX5_clearPane 19 = .ok (.aload_n 0, 1) := by decide +kernel
theorem dX5_clearPane_20 : decode cX5_clearPane 20 = .ok (.aload_n 0, 1) := by decide +kernel
theorem dX5_clearPane_21 : decode cX5_clearPane 21 = .ok (.getfield 23, 3) := by decide +kernel
theorem dX5_clearPane_24 : decode cX5_clearPane 24 = .ok (.iload_n 1, 1) := by decide +kernel
theorem dX5_clearPane_25 : decode cX5_clearPane 25 = .ok (.bipush 12, 2) := by decide +kernel
theorem dX5_clearPane_27 : decode cX5_clearPane 27 = .ok (.imul, 1) := by decide +kernel
theorem dX5_clearPane_28 : decode cX5_clearPane 28 = .ok (.iload_n 3, 1) := by decide +kernel
theorem dX5_clearPane_29 : decode cX5_clearPane 29 = .ok (.iadd, 1) := by decide +kernel
theorem dX5_clearPane_30 : decode cX5_clearPane 30 = .ok (.iaload, 1) := by decide +kernel
theorem dX5_clearPane_31 : decode cX5_clearPane 31 = .ok (.invokevirtual 116, 3) := by decide +kernel
theorem dX5_clearPane_34 : decode cX5_clearPane 34 = .ok (.astore 4, 2) := by decide +kernel
theorem dX5_clearPane_36 : decode cX5_clearPane 36 = .ok (.aload 4, 2) := by decide +kernel
theorem dX5_clearPane_38 : decode cX5_clearPane 38 = .ok (.ifnull 24, 3) := by decide +kernel
theorem dX5_clearPane_41 : decode cX5_clearPane 41 = .ok (.aload 4, 2) := by decide +kernel
theorem dX5_clearPane_43 : decode cX5_clearPane 43 = .ok (.invokevirtual 81, 3) := by decide +kernel
theorem dX5_clearPane_46 : decode cX5_clearPane 46 = .ok (.aload_n 0, 1) := by decide +kernel
theorem dX5_clearPane_47 : decode cX5_clearPane 47 = .ok (.getfield 23, 3) := by decide +kernel
theorem dX5_clearPane_50 : decode cX5_clearPane 50 = .ok (.iload_n 1, 1) := by decide +kernel
theorem dX5_clearPane_51 : decode cX5_clearPane 51 = .ok (.bipush 12, 2) := by decide +kernel
theorem dX5_clearPane_53 : decode cX5_clearPane 53 = .ok (.imul, 1) := by decide +kernel
theorem dX5_clearPane_54 : decode cX5_clearPane 54 = .ok (.iload_n 3, 1) := by decide +kernel
theorem dX5_clearPane_55 : decode cX5_clearPane 55 = .ok (.iadd, 1) := by decide +kernel
theorem dX5_clearPane_56 : decode cX5_clearPane 56 = .ok (.bipush (-6), 2) := by decide +kernel
theorem dX5_clearPane_58 : decode cX5_clearPane 58 = .ok (.iastore, 1) := by decide +kernel
theorem dX5_clearPane_59 : decode cX5_clearPane 59 = .ok (.iinc 2 1, 3) := by decide +kernel
theorem dX5_clearPane_62 : decode cX5_clearPane 62 = .ok (.iinc 3 1, 3) := by decide +kernel
theorem dX5_clearPane_65 : decode cX5_clearPane 65 = .ok (.goto (-52), 3) := by decide +kernel
theorem dX5_clearPane_68 : decode cX5_clearPane 68 = .ok (.iload_n 2, 1) := by decide +kernel
theorem dX5_clearPane_69 : decode cX5_clearPane 69 = .ok (.ireturn, 1) := by decide +kernel
theorem dX5_wastePiece_0 : decode cX5_wastePiece 0 = .ok (.aload_n 0, 1) := by decide +kernel
theorem dX5_wastePiece_1 : decode cX5_wastePiece 1 = .ok (.iload_n 1, 1) := by decide +kernel
theorem dX5_wastePiece_2 : decode cX5_wastePiece 2 = .ok (.invokevirtual 116, 3) := by decide +kernel
theorem dX5_wastePiece_5 : decode cX5_wastePiece 5 = .ok (.astore_n 2, 1) := by decide +kernel
theorem dX5_wastePiece_6 : decode cX5_wastePiece 6 = .ok (.aload_n 2, 1) := by decide +kernel
theorem dX5_wastePiece_7 : decode cX5_wastePiece 7 = .ok (.ifnull 10, 3) := by decide +kernel
theorem dX5_wastePiece_10 : decode cX5_wastePiece 10 = .ok (.aload_n 2, 1) := by decide +kernel
theorem dX5_wastePiece_11 : decode cX5_wastePiece 11 = .ok (.getfield 120, 3) := by decide +kernel
theorem dX5_wastePiece_14 : decode cX5_wastePiece 14 = .ok (.ifCond .eq 6, 3) := by decide +kernel
theorem dX5_wastePiece_17 : decode cX5_wastePiece 17 = .ok (.bipush (-5), 2) := by decide +kernel
theorem dX5_wastePiece_19 : decode cX5_wastePiece 19 = .ok (.ireturn, 1) := by decide +kernel
theorem dX5_wastePiece_20 : decode cX5_wastePiece 20 = .ok (.aload_n 2, 1) := by decide +kernel
theorem dX5_wastePiece_21 : decode cX5_wastePiece 21 = .ok (.iconst 2, 1) := by decide +kernel
theorem dX5_wastePiece_22 : decode cX5_wastePiece 22 = .ok (.putfield 120, 3) := by decide +kernel
theorem dX5_wastePiece_25 : decode cX5_wastePiece 25 = .ok (.aload_n 0, 1) := by decide +kernel
theorem dX5_wastePiece_26 : decode cX5_wastePiece 26 = .ok (.getfield 27, 3) := by decide +kernel
theorem dX5_wastePiece_29 : decode cX5_wastePiece 29 = .ok (.aload_n 2, 1) := by decide +kernel
theorem dX5_wastePiece_30 : decode cX5_wastePiece 30 = .ok (.getfield 68, 3) := by decide +kernel
theorem dX5_wastePiece_33 : decode cX5_wastePiece 33 = .ok (.invokevirtual 139, 3) := by decide +kernel
theorem dX5_wastePiece_36 : decode cX5_wastePiece 36 = .ok (.ireturn, 1) := by decide +kernel
theorem dX5_scrapSheet_0 : decode cX5_scrapSheet 0 = .ok (.aload_n 0, 1) := by decide +kernel
theorem dX5_scrapSheet_1 : decode cX5_scrapSheet 1 = .ok (.iload_n 1, 1) := by decide +kernel
theorem dX5_scrapSheet_2 : decode cX5_scrapSheet 2 = .ok (.invokevirtual 52, 3) := by decide +kernel
theorem dX5_scrapSheet_5 : decode cX5_scrapSheet 5 = .ok (.astore_n 2, 1) := by decide +kernel
theorem dX5_scrapSheet_6 : decode cX5_scrapSheet 6 = .ok (.aload_n 2, 1) := by decide +kernel
theorem dX5_scrapSheet_7 : decode cX5_scrapSheet 7 = .ok (.ifnull 10, 3) := by decide +kernel
theorem dX5_scrapSheet_10 : decode cX5_scrapSheet 10 = .ok (.aload_n 2, 1) := by decide +kernel
theorem dX5_scrapSheet_11 : decode cX5_scrapSheet 11 = .ok (.getfield 144, 3) := by decide +kernel
theorem dX5_scrapSheet_14 : decode cX5_scrapSheet 14 = .ok (.ifCond .eq 6, 3) := by decide +kernel
theorem dX5_scrapSheet_17 : decode cX5_scrapSheet 17 = .ok (.bipush (-5), 2) := by decide +kernel
theorem dX5_scrapSheet_19 : decode cX5_scrapSheet 19 = .ok (.ireturn, 1) := by decide +kernel
theorem dX5_scrapSheet_20 : decode cX5_scrapSheet 20 = .ok (.aload_n 2, 1) := by decide +kernel
theorem dX5_scrapSheet_21 : decode cX5_scrapSheet 21 = .ok (.iconst 1, 1) := by decide +kernel
theorem dX5_scrapSheet_22 : decode cX5_scrapSheet 22 = .ok (.putfield 144, 3) := by decide +kernel
theorem dX5_scrapSheet_25 : decode cX5_scrapSheet 25 = .ok (.aload_n 2, 1) := by decide +kernel
theorem dX5_scrapSheet_26 : decode cX5_scrapSheet 26 = .ok (.invokevirtual 148, 3) := by decide +kernel
theorem dX5_scrapSheet_29 : decode cX5_scrapSheet 29 = .ok (.ireturn, 1) := by decide +kernel
theorem dX5_piecesIn_0 : decode cX5_piecesIn 0 = .ok (.iconst 0, 1) := by decide +kernel
theorem dX5_piecesIn_1 : decode cX5_piecesIn 1 = .ok (.istore_n 2, 1) := by decide +kernel
theorem dX5_piecesIn_2 : decode cX5_piecesIn 2 = .ok (.iconst 0, 1) := by decide +kernel
theorem dX5_piecesIn_3 : decode cX5_piecesIn 3 = .ok (.istore_n 3, 1) := by decide +kernel
theorem dX5_piecesIn_4 : decode cX5_piecesIn 4 = .ok (.iload_n 3, 1) := by decide +kernel
theorem dX5_piecesIn_5 : decode cX5_piecesIn 5 = .ok (.aload_n 0, 1) := by decide +kernel
theorem dX5_piecesIn_6 : decode cX5_piecesIn 6 = .ok (.getfield 39, 3) := by decide +kernel
theorem dX5_piecesIn_9 : decode cX5_piecesIn 9 = .ok (.if_icmp .ge 45, 3) := by decide +kernel
theorem dX5_piecesIn_12 : decode cX5_piecesIn 12 = .ok (.aload_n 0, 1) := by decide +kernel
theorem dX5_piecesIn_13 : decode cX5_piecesIn 13 = .ok (.iload_n 3, 1) := by decide +kernel
theorem dX5_piecesIn_14 : decode cX5_piecesIn 14 = .ok (.invokevirtual 116, 3) := by decide +kernel
theorem dX5_piecesIn_17 : decode cX5_piecesIn 17 = .ok (.astore 4, 2) := by decide +kernel
theorem dX5_piecesIn_19 : decode cX5_piecesIn 19 = .ok (.aload 4, 2) := by decide +kernel
theorem dX5_piecesIn_21 : decode cX5_piecesIn 21 = .ok (.ifnull 27, 3) := by decide +kernel
theorem dX5_piecesIn_24 : decode cX5_piecesIn 24 = .ok (.aload 4, 2) := by decide +kernel
theorem dX5_piecesIn_26 : decode cX5_piecesIn 26 = .ok (.getfield 120, 3) := by decide +kernel
theorem dX5_piecesIn_29 : decode cX5_piecesIn 29 = .ok (.iconst 1, 1) := by decide +kernel
theorem dX5_piecesIn_30 : decode cX5_piecesIn 30 = .ok (.if_icmp .ne 18, 3) := by decide +kernel
theorem dX5_piecesIn_33 : decode cX5_piecesIn 33 = .ok (.aload 4, 2) := by decide +kernel
theorem dX5_piecesIn_35 : decode cX5_piecesIn 35 = .ok (.getfield 133, 3) := by decide +kernel
theorem dX5_piecesIn_38 : decode cX5_piecesIn 38 = .ok (.bipush 12, 2) := by decide +kernel
theorem dX5_piecesIn_40 : decode cX5_piecesIn 40 = .ok (.idiv, 1) := by decide +kernel
theorem dX5_piecesIn_41 : decode cX5_piecesIn 41 = .ok (.iload_n 1, 1) := by decide +kernel
theorem dX5_piecesIn_42 : decode cX5_piecesIn 42 = .ok (.if_icmp .ne 6, 3) := by decide +kernel
theorem dX5_piecesIn_45 : decode cX5_piecesIn 45 = .ok (.iinc 2 1, 3) := by decide +kernel
theorem dX5_piecesIn_48 : decode cX5_piecesIn 48 = .ok (.iinc 3 1, 3) := by decide +kernel
theorem dX5_piecesIn_51 : decode cX5_piecesIn 51 = .ok (.goto (-47), 3) := by decide +kernel
theorem dX5_piecesIn_54 : decode cX5_piecesIn 54 = .ok (.iload_n 2, 1) := by decide +kernel
theorem dX5_piecesIn_55 : decode cX5_piecesIn 55 = .ok (.ireturn, 1) := by decide +kernel
theorem dX5_piecesFrom_0 : decode cX5_piecesFrom 0 = .ok (.iconst 0, 1) := by decide +kernel
theorem dX5_piecesFrom_1 : decode cX5_piecesFrom 1 = .ok (.istore_n 2, 1) := by decide +kernel
theorem dX5_piecesFrom_2 : decode cX5_piecesFrom 2 = .ok (.iconst 0, 1) := by decide +kernel
theorem dX5_piecesFrom_3 : decode cX5_piecesFrom 3 = .ok (.istore_n 3, 1) := by decide +kernel
theorem dX5_piecesFrom_4 : decode cX5_piecesFrom 4 = .ok (.iload_n 3, 1) := by decide +kernel
theorem dX5_piecesFrom_5 : decode cX5_piecesFrom 5 = .ok (.aload_n 0, 1) := by decide +kernel
theorem dX5_piecesFrom_6 : decode cX5_piecesFrom 6 = .ok (.getfield 39, 3) := by decide +kernel
theorem dX5_piecesFrom_9 : decode cX5_piecesFrom 9 = .ok (.if_icmp .ge 33, 3) := by decide +kernel
theorem dX5_piecesFrom_12 : decode cX5_piecesFrom 12 = .ok (.aload_n 0, 1) := by decide +kernel
theorem dX5_piecesFrom_13 : decode cX5_piecesFrom 13 = .ok (.iload_n 3, 1) := by decide +kernel
theorem dX5_piecesFrom_14 : decode cX5_piecesFrom 14 = .ok (.invokevirtual 116, 3) := by decide +kernel
theorem dX5_piecesFrom_17 : decode cX5_piecesFrom 17 = .ok (.astore 4, 2) := by decide +kernel
theorem dX5_piecesFrom_19 : decode cX5_piecesFrom 19 = .ok (.aload 4, 2) := by decide +kernel
theorem dX5_piecesFrom_21 : decode cX5_piecesFrom 21 = .ok (.ifnull 15, 3) := by decide +kernel
theorem dX5_piecesFrom_24 : decode cX5_piecesFrom 24 = .ok (.aload 4, 2) := by decide +kernel
theorem dX5_piecesFrom_26 : decode cX5_piecesFrom 26 = .ok (.getfield 75, 3) := by decide +kernel
theorem dX5_piecesFrom_29 : decode cX5_piecesFrom 29 = .ok (.iload_n 1, 1) := by decide +kernel
theorem dX5_piecesFrom_30 : decode cX5_piecesFrom 30 = .ok (.if_icmp .ne 6, 3) := by decide +kernel
theorem dX5_piecesFrom_33 : decode cX5_piecesFrom 33 = .ok (.iinc 2 1, 3) := by decide +kernel
theorem dX5_piecesFrom_36 : decode cX5_piecesFrom 36 = .ok (.iinc 3 1, 3) := by decide +kernel
theorem dX5_piecesFrom_39 : decode cX5_piecesFrom 39 = .ok (.goto (-35), 3) := by decide +kernel
theorem dX5_piecesFrom_42 : decode cX5_piecesFrom 42 = .ok (.iload_n 2, 1) := by decide +kernel
theorem dX5_piecesFrom_43 : decode cX5_piecesFrom 43 = .ok (.ireturn, 1) := by decide +kernel
theorem dX5_piecesThatAre_0 : decode cX5_piecesThatAre 0 = .ok (.iconst 0, 1) := by decide +kernel
theorem dX5_piecesThatAre_1 : decode cX5_piecesThatAre 1 = .ok (.istore_n 2, 1) := by decide +kernel
theorem dX5_piecesThatAre_2 : decode cX5_piecesThatAre 2 = .ok (.iconst 0, 1) := by decide +kernel
theorem dX5_piecesThatAre_3 : decode cX5_piecesThatAre 3 = .ok (.istore_n 3, 1) := by decide +kernel
theorem dX5_piecesThatAre_4 : decode cX5_piecesThatAre 4 = .ok (.iload_n 3, 1) := by decide +kernel
theorem dX5_piecesThatAre_5 : decode cX5_piecesThatAre 5 = .ok (.aload_n 0, 1) := by decide +kernel
theorem dX5_piecesThatAre_6 : decode cX5_piecesThatAre 6 = .ok (.getfield 39, 3) := by decide +kernel
theorem dX5_piecesThatAre_9 : decode cX5_piecesThatAre 9 = .ok (.if_icmp .ge 33, 3) := by decide +kernel
theorem dX5_piecesThatAre_12 : decode cX5_piecesThatAre 12 = .ok (.aload_n 0, 1) := by decide +kernel
theorem dX5_piecesThatAre_13 : decode cX5_piecesThatAre 13 = .ok (.iload_n 3, 1) := by decide +kernel
theorem dX5_piecesThatAre_14 : decode cX5_piecesThatAre 14 = .ok (.invokevirtual 116, 3) := by decide +kernel
theorem dX5_piecesThatAre_17 : decode cX5_piecesThatAre 17 = .ok (.astore 4, 2) := by decide +kernel
theorem dX5_piecesThatAre_19 : decode cX5_piecesThatAre 19 = .ok (.aload 4, 2) := by decide +kernel
theorem dX5_piecesThatAre_21 : decode cX5_piecesThatAre 21 = .ok (.ifnull 15, 3) := by decide +kernel
theorem dX5_piecesThatAre_24 : decode cX5_piecesThatAre 24 = .ok (.aload 4, 2) := by decide +kernel
theorem dX5_piecesThatAre_26 : decode cX5_piecesThatAre 26 = .ok (.getfield 120, 3) := by decide +kernel
theorem dX5_piecesThatAre_29 : decode cX5_piecesThatAre 29 = .ok (.iload_n 1, 1) := by decide +kernel
theorem dX5_piecesThatAre_30 : decode cX5_piecesThatAre 30 = .ok (.if_icmp .ne 6, 3) := by decide +kernel
theorem dX5_piecesThatAre_33 : decode cX5_piecesThatAre 33 = .ok (.iinc 2 1, 3) := by decide +kernel
theorem dX5_piecesThatAre_36 : decode cX5_piecesThatAre 36 = .ok (.iinc 3 1, 3) := by decide +kernel
theorem dX5_piecesThatAre_39 : decode cX5_piecesThatAre 39 = .ok (.goto (-35), 3) := by decide +kernel
theorem dX5_piecesThatAre_42 : decode cX5_piecesThatAre 42 = .ok (.iload_n 2, 1) := by decide +kernel
theorem dX5_piecesThatAre_43 : decode cX5_piecesThatAre 43 = .ok (.ireturn, 1) := by decide +kernel
theorem dX5_squaresOfPieces_0 : decode cX5_squaresOfPieces 0 = .ok (.iconst 0, 1) := by decide +kernel
theorem dX5_squaresOfPieces_1 : decode cX5_squaresOfPieces 1 = .ok (.istore_n 2, 1) := by decide +kernel
theorem dX5_squaresOfPieces_2 : decode cX5_squaresOfPieces 2 = .ok (.iconst 0, 1) := by decide +kernel
theorem dX5_squaresOfPieces_3 : decode cX5_squaresOfPieces 3 = .ok (.istore_n 3, 1) := by decide +kernel
theorem dX5_squaresOfPieces_4 : decode cX5_squaresOfPieces 4 = .ok (.iload_n 3, 1) := by decide +kernel
theorem dX5_squaresOfPieces_5 : decode cX5_squaresOfPieces 5 = .ok (.aload_n 0, 1) := by decide +kernel
theorem dX5_squaresOfPieces_6 : decode cX5_squaresOfPieces 6 = .ok (.getfield 39, 3) := by decide +kernel
theorem dX5_squaresOfPieces_9 : decode cX5_squaresOfPieces 9 = .ok (.if_icmp .ge 45, 3) := by decide +kernel
theorem dX5_squaresOfPieces_12 : decode cX5_squaresOfPieces 12 = .ok (.aload_n 0, 1) := by decide +kernel
theorem dX5_squaresOfPieces_13 : decode cX5_squaresOfPieces 13 = .ok (.iload_n 3, 1) := by decide +kernel
theorem dX5_squaresOfPieces_14 : decode cX5_squaresOfPieces 14 = .ok (.invokevirtual 116, 3) := by decide +kernel
theorem dX5_squaresOfPieces_17 : decode cX5_squaresOfPieces 17 = .ok (.astore 4, 2) := by decide +kernel
theorem dX5_squaresOfPieces_19 : decode cX5_squaresOfPieces 19 = .ok (.aload 4, 2) := by decide +kernel
theorem dX5_squaresOfPieces_21 : decode cX5_squaresOfPieces 21 = .ok (.ifnull 27, 3) := by decide +kernel
theorem dX5_squaresOfPieces_24 : decode cX5_squaresOfPieces 24 = .ok (.aload 4, 2) := by decide +kernel
theorem dX5_squaresOfPieces_26 : decode cX5_squaresOfPieces 26 = .ok (.getfield 120, 3) := by decide +kernel
theorem dX5_squaresOfPieces_29 : decode cX5_squaresOfPieces 29 = .ok (.iload_n 1, 1) := by decide +kernel
theorem dX5_squaresOfPieces_30 : decode cX5_squaresOfPieces 30 = .ok (.if_icmp .ne 18, 3) := by decide +kernel
theorem dX5_squaresOfPieces_33 : decode cX5_squaresOfPieces 33 = .ok (.iload_n 2, 1) := by decide +kernel
theorem dX5_squaresOfPieces_34 : decode cX5_squaresOfPieces 34 = .ok (.aload_n 0, 1) := by decide +kernel
theorem dX5_squaresOfPieces_35 : decode cX5_squaresOfPieces 35 = .ok (.getfield 27, 3) := by decide +kernel
theorem dX5_squaresOfPieces_38 : decode cX5_squaresOfPieces 38 = .ok (.aload 4, 2) := by decide +kernel
theorem dX5_squaresOfPieces_40 : decode cX5_squaresOfPieces 40 = .ok (.getfield 68, 3) := by decide +kernel
theorem dX5_squaresOfPieces_43 : decode cX5_squaresOfPieces 43 = .ok (.invokevirtual 139, 3) := by decide +kernel
theorem dX5_squaresOfPieces_46 : decode cX5_squaresOfPieces 46 = .ok (.iadd, 1) := by decide +kernel
theorem dX5_squaresOfPieces_47 : decode cX5_squaresOfPieces 47 = .ok (.istore_n 2, 1) := by decide +kernel
theorem dX5_squaresOfPieces_48 : decode cX5_squaresOfPieces 48 = .ok (.iinc 3 1, 3) := by decide +kernel
theorem dX5_squaresOfPieces_51 : decode cX5_squaresOfPieces 51 = .ok (.goto (-47), 3) := by decide +kernel
theorem dX5_squaresOfPieces_54 : decode cX5_squaresOfPieces 54 = .ok (.iload_n 2, 1) := by decide +kernel
theorem dX5_squaresOfPieces_55 : decode cX5_squaresOfPieces 55 = .ok (.ireturn, 1) := by decide +kernel
theorem dX5_squaresOfSheets_0 : decode cX5_squaresOfSheets 0 = .ok (.iconst 0, 1) := by decide +kernel
theorem dX5_squaresOfSheets_1 : decode cX5_squaresOfSheets 1 = .ok (.istore_n 2, 1) := by decide +kernel
theorem dX5_squaresOfSheets_2 : decode cX5_squaresOfSheets 2 = .ok (.iconst 0, 1) := by decide +kernel
theorem dX5_squaresOfSheets_3 : decode cX5_squaresOfSheets 3 = .ok (.istore_n 3, 1) := by decide +kernel
theorem dX5_squaresOfSheets_4 : decode cX5_squaresOfSheets 4 = .ok (.iload_n 3, 1) := by decide +kernel
theorem dX5_squaresOfSheets_5 : decode cX5_squaresOfSheets 5 = .ok (.aload_n 0, 1) := by decide +kernel
theorem dX5_squaresOfSheets_6 : decode cX5_squaresOfSheets 6 = .ok (.getfield 35, 3) := by decide +kernel
theorem dX5_squaresOfSheets_9 : decode cX5_squaresOfSheets 9 = .ok (.if_icmp .ge 38, 3) := by decide +kernel
theorem dX5_squaresOfSheets_12 : decode cX5_squaresOfSheets 12 = .ok (.aload_n 0, 1) := by decide +kernel
theorem dX5_squaresOfSheets_13 : decode cX5_squaresOfSheets 13 = .ok (.iload_n 3, 1) := by decide +kernel
theorem dX5_squaresOfSheets_14 : decode cX5_squaresOfSheets 14 = .ok (.invokevirtual 52, 3) := by decide +kernel
theorem dX5_squaresOfSheets_17 : decode cX5_squaresOfSheets 17 = .ok (.astore 4, 2) := by decide +kernel
theorem dX5_squaresOfSheets_19 : decode cX5_squaresOfSheets 19 = .ok (.aload 4, 2) := by decide +kernel
theorem dX5_squaresOfSheets_21 : decode cX5_squaresOfSheets 21 = .ok (.ifnull 20, 3) := by decide +kernel
theorem dX5_squaresOfSheets_24 : decode cX5_squaresOfSheets 24 = .ok (.aload 4, 2) := by decide +kernel
theorem dX5_squaresOfSheets_26 : decode cX5_squaresOfSheets 26 = .ok (.getfield 144, 3) := by decide +kernel
theorem dX5_squaresOfSheets_29 : decode cX5_squaresOfSheets 29 = .ok (.iload_n 1, 1) := by decide +kernel
theorem dX5_squaresOfSheets_30 : decode cX5_squaresOfSheets 30 = .ok (.if_icmp .ne 11, 3) := by decide +kernel
theorem dX5_squaresOfSheets_33 : decode cX5_squaresOfSheets 33 = .ok (.iload_n 2, 1) := by decide +kernel
theorem dX5_squaresOfSheets_34 : decode cX5_squaresOfSheets 34 = .ok (.aload 4, 2) := by decide +kernel
theorem dX5_squaresOfSheets_36 : decode cX5_squaresOfSheets 36 = .ok (.invokevirtual 148, 3) := by decide +kernel
theorem dX5_squaresOfSheets_39 : decode cX5_squaresOfSheets 39 = .ok (.iadd, 1) := by decide +kernel
theorem dX5_squaresOfSheets_40 : decode cX5_squaresOfSheets 40 = .ok (.istore_n 2, 1) := by decide +kernel
theorem dX5_squaresOfSheets_41 : decode cX5_squaresOfSheets 41 = .ok (.iinc 3 1, 3) := by decide +kernel
theorem dX5_squaresOfSheets_44 : decode cX5_squaresOfSheets 44 = .ok (.goto (-40), 3) := by decide +kernel
theorem dX5_squaresOfSheets_47 : decode cX5_squaresOfSheets 47 = .ok (.iload_n 2, 1) := by decide +kernel
theorem dX5_squaresOfSheets_48 : decode cX5_squaresOfSheets 48 = .ok (.ireturn, 1) := by decide +kernel
theorem dX6_init_0 : decode cX6_init 0 = .ok (.aload_n 0, 1) := by decide +kernel
theorem dX6_init_1 : decode cX6_init 1 = .ok (.invokespecial 1, 3) := by decide +kernel
theorem dX6_init_4 : decode cX6_init 4 = .ok (.aload_n 0, 1) := by decide +kernel
theorem dX6_init_5 : decode cX6_init 5 = .ok (.new 7, 3) := by decide +kernel
theorem dX6_init_8 : decode cX6_init 8 = .ok (.dup, 1) := by decide +kernel
theorem dX6_init_9 : decode cX6_init 9 = .ok (.invokespecial 9, 3) := by decide +kernel
theorem dX6_init_12 : decode cX6_init 12 = .ok (.putfield 10, 3) := by decide +kernel
theorem dX6_init_15 : decode cX6_init 15 = .ok (.aload_n 0, 1) := by decide +kernel
theorem dX6_init_16 : decode cX6_init 16 = .ok (.new 16, 3) := by decide +kernel
theorem dX6_init_19 : decode cX6_init 19 = .ok (.dup, 1) := by decide +kernel
theorem dX6_init_20 : decode cX6_init 20 = .ok (.aload_n 0, 1) := by decide +kernel
theorem dX6_init_21 : decode cX6_init 21 = .ok (.getfield 10, 3) := by decide +kernel
theorem dX6_init_24 : decode cX6_init 24 = .ok (.invokespecial 18, 3) := by decide +kernel
theorem dX6_init_27 : decode cX6_init 27 = .ok (.putfield 21, 3) := by decide +kernel
theorem dX6_init_30 : decode cX6_init 30 = .ok (.aload_n 0, 1) := by decide +kernel
theorem dX6_init_31 : decode cX6_init 31 = .ok (.new 16, 3) := by decide +kernel
theorem dX6_init_34 : decode cX6_init 34 = .ok (.dup, 1) := by decide +kernel
theorem dX6_init_35 : decode cX6_init 35 = .ok (.aload_n 0, 1) := by decide +kernel
theorem dX6_init_36 : decode cX6_init 36 = .ok (.getfield 10, 3) := by decide +kernel
theorem dX6_init_39 : decode cX6_init 39 = .ok (.invokespecial 18, 3) := by decide +kernel
theorem dX6_init_42 : decode cX6_init 42 = .ok (.putfield 25, 3) := by decide +kernel
theorem dX6_init_45 : decode cX6_init 45 = .ok (.aload_n 0, 1) := by decide +kernel
theorem dX6_init_46 : decode cX6_init 46 = .ok (.new 28, 3) := by decide +kernel
theorem dX6_init_49 : decode cX6_init 49 = .ok (.dup, 1) := by decide +kernel
theorem dX6_init_50 : decode cX6_init 50 = .ok (.aload_n 0, 1) := by decide +kernel
theorem dX6_init_51 : decode cX6_init 51 = .ok (.getfield 10, 3) := by decide +kernel
theorem dX6_init_54 : decode cX6_init 54 = .ok (.invokespecial 30, 3) := by decide +kernel
theorem dX6_init_57 : decode cX6_init 57 = .ok (.putfield 31, 3) := by decide +kernel
theorem dX6_init_60 : decode cX6_init 60 = .ok (.aload_n 0, 1) := by decide +kernel
theorem dX6_init_61 : decode cX6_init 61 = .ok (.iconst 2, 1) := by decide +kernel
theorem dX6_init_62 : decode cX6_init 62 = .ok (.anewarray 16, 3) := by decide +kernel
theorem dX6_init_65 : decode cX6_init 65 = .ok (.putfield 35, 3) := by decide +kernel
theorem dX6_init_68 : decode cX6_init 68 = .ok (.aload_n 0, 1) := by decide +kernel
theorem dX6_init_69 : decode cX6_init 69 = .ok (.new 39, 3) := by decide +kernel
theorem dX6_init_72 : decode cX6_init 72 = .ok (.dup, 1) := by decide +kernel
theorem dX6_init_73 : decode cX6_init 73 = .ok (.aload_n 0, 1) := by decide +kernel
theorem dX6_init_74 : decode cX6_init 74 = .ok (.getfield 10, 3) := by decide +kernel
theorem dX6_init_77 : decode cX6_init 77 = .ok (.invokespecial 41, 3) := by decide +kernel
theorem dX6_init_80 : decode cX6_init 80 = .ok (.putfield 42, 3) := by decide +kernel
theorem dX6_init_83 : decode cX6_init 83 = .ok (.aload_n 0, 1) := by decide +kernel
theorem dX6_init_84 : decode cX6_init 84 = .ok (.new 46, 3) := by decide +kernel
theorem dX6_init_87 : decode cX6_init 87 = .ok (.dup, 1) := by decide +kernel
theorem dX6_init_88 : decode cX6_init 88 = .ok (.invokespecial 48, 3) := by decide +kernel
theorem dX6_init_91 : decode cX6_init 91 = .ok (.putfield 49, 3) := by decide +kernel
theorem dX6_init_94 : decode cX6_init 94 = .ok (.return_, 1) := by decide +kernel
theorem dX6_sheet_0 : decode cX6_sheet 0 = .ok (.iload_n 1, 1) := by decide +kernel
theorem dX6_sheet_1 : decode cX6_sheet 1 = .ok (.invokestatic 53, 3) := by decide +kernel
theorem dX6_sheet_4 : decode cX6_sheet 4 = .ok (.ifCond .ne 6, 3) := by decide +kernel
theorem dX6_sheet_7 : decode cX6_sheet 7 = .ok (.bipush (-2), 2) := by decide +kernel
theorem dX6_sheet_9 : decode cX6_sheet 9 = .ok (.ireturn, 1) := by decide +kernel
theorem dX6_sheet_10 : decode cX6_sheet 10 = .ok (.aload_n 0, 1) := by decide +kernel
theorem dX6_sheet_11 : decode cX6_sheet 11 = .ok (.aload_n 0, 1) := by decide +kernel
theorem dX6_sheet_12 : decode cX6_sheet 12 = .ok (.invokevirtual 57, 3) := by decide +kernel
theorem dX6_sheet_15 : decode cX6_sheet 15 = .ok (.iload_n 1, 1) := by decide +kernel
theorem dX6_sheet_16 : decode cX6_sheet 16 = .ok (.invokevirtual 61, 3) := by decide +kernel
theorem dX6_sheet_19 : decode cX6_sheet 19 = .ok (.invokevirtual 65, 3) := by decide +kernel
theorem dX6_sheet_22 : decode cX6_sheet 22 = .ok (.ireturn, 1) := by decide +kernel
theorem dX6_cut_0 : decode cX6_cut 0 = .ok (.aload_n 0, 1) := by decide +kernel
theorem dX6_cut_1 : decode cX6_cut 1 = .ok (.getfield 21, 3) := by decide +kernel
theorem dX6_cut_4 : decode cX6_cut 4 = .ok (.iload_n 1, 1) := by decide +kernel
theorem dX6_cut_5 : decode cX6_cut 5 = .ok (.invokevirtual 68, 3) := by decide +kernel
theorem dX6_cut_8 : decode cX6_cut 8 = .ok (.ifnull 10, 3) := by decide +kernel
theorem dX6_cut_11 : decode cX6_cut 11 = .ok (.iload_n 2, 1) := by decide +kernel
theorem dX6_cut_12 : decode cX6_cut 12 = .ok (.invokestatic 72, 3) := by decide +kernel
theorem dX6_cut_15 : decode cX6_cut 15 = .ok (.ifCond .ne 5, 3) := by decide +kernel
theorem dX6_cut_18 : decode cX6_cut 18 = .ok (.iconst (-1), 1) := by decide +kernel
theorem dX6_cut_19 : decode cX6_cut 19 = .ok (.ireturn, 1) := by decide +kernel
theorem dX6_cut_20 : decode cX6_cut 20 = .ok (.iload_n 3, 1) := by decide +kernel
theorem dX6_cut_21 : decode cX6_cut 21 = .ok (.invokestatic 75, 3) := by decide +kernel
theorem dX6_cut_24 : decode cX6_cut 24 = .ok (.ifCond .ne 6, 3) := by decide +kernel
theorem dX6_cut_27 : decode cX6_cut 27 = .ok (.bipush (-2), 2) := by decide +kernel
theorem dX6_cut_29 : decode cX6_cut 29 = .ok (.ireturn, 1) := by decide +kernel
theorem dX6_cut_30 : decode cX6_cut 30 = .ok (.aload_n 0, 1) := by decide +kernel
theorem dX6_cut_31 : decode cX6_cut 31 = .ok (.aload_n 0, 1) := by decide +kernel
theorem dX6_cut_32 : decode cX6_cut 32 = .ok (.invokevirtual 57, 3) := by decide +kernel
theorem dX6_cut_35 : decode cX6_cut 35 = .ok (.iload_n 1, 1) := by decide +kernel
theorem dX6_cut_36 : decode cX6_cut 36 = .ok (.iload_n 2, 1) := by decide +kernel
theorem dX6_cut_37 : decode cX6_cut 37 = .ok (.iload_n 3, 1) := by decide +kernel
theorem dX6_cut_38 : decode cX6_cut 38 = .ok (.iload 4, 2) := by decide +kernel
theorem dX6_cut_40 : decode cX6_cut 40 = .ok (.iload 5, 2) := by decide +kernel
theorem dX6_cut_42 : decode cX6_cut 42 = .ok (.invokevirtual 78, 3) := by decide +kernel
theorem dX6_cut_45 : decode cX6_cut 45 = .ok (.invokevirtual 65, 3) := by decide +kernel
theorem dX6_cut_48 : decode cX6_cut 48 = .ok (.ireturn, 1) := by decide +kernel
theorem dX6_make_0 : decode cX6_make 0 = .ok (.iload_n 2, 1) := by decide +kernel
theorem dX6_make_1 : decode cX6_make 1 = .ok (.invokestatic 72, 3) := by decide +kernel
theorem dX6_make_4 : decode cX6_make 4 = .ok (.ifCond .ne 5, 3) := by decide +kernel
theorem dX6_make_7 : decode cX6_make 7 = .ok (.iconst (-1), 1) := by decide +kernel
theorem dX6_make_8 : decode cX6_make 8 = .ok (.ireturn, 1) := by decide +kernel
theorem dX6_make_9 : decode cX6_make 9 = .ok (.iload_n 1, 1) := by decide +kernel
theorem dX6_make_10 : decode cX6_make 10 = .ok (.invokestatic 53, 3) := by decide +kernel
theorem dX6_make_13 : decode cX6_make 13 = .ok (.ifCond .eq 10, 3) := by decide +kernel
theorem dX6_make_16 : decode cX6_make 16 = .ok (.iload_n 3, 1) := by decide +kernel
theorem dX6_make_17 : decode cX6_make 17 = .ok (.invokestatic 82, 3) := by decide +kernel
theorem dX6_make_20 : decode cX6_make 20 = .ok (.ifCond .ne 6, 3) := by decide +kernel
theorem dX6_make_23 : decode cX6_make 23 = .ok (.bipush (-2), 2) := by decide +kernel
theorem dX6_make_25 : decode cX6_make 25 = .ok (.ireturn, 1) := by decide +kernel
theorem dX6_make_26 : decode cX6_make 26 = .ok (.aload_n 0, 1) := by decide +kernel
theorem dX6_make_27 : decode cX6_make 27 = .ok (.aload_n 0, 1) := by decide +kernel
theorem dX6_make_28 : decode cX6_make 28 = .ok (.invokevirtual 57, 3) := by decide +kernel
theorem dX6_make_31 : decode cX6_make 31 = .ok (.iload_n 1, 1) := by decide +kernel
theorem dX6_make_32 : decode cX6_make 32 = .ok (.iload_n 2, 1) := by decide +kernel
theorem dX6_make_33 : decode cX6_make 33 = .ok (.iload_n 3, 1) := by decide +kernel
theorem dX6_make_34 : decode cX6_make 34 = .ok (.invokevirtual 85, 3) := by decide +kernel
theorem dX6_make_37 : decode cX6_make 37 = .ok (.invokevirtual 65, 3) := by decide +kernel
theorem dX6_make_40 : decode cX6_make 40 = .ok (.ireturn, 1) := by decide +kernel
theorem dX6_write_0 : decode cX6_write 0 = .ok (.iload_n 1, 1) := by decide +kernel
theorem dX6_write_1 : decode cX6_write 1 = .ok (.invokestatic 89, 3) := by decide +kernel
theorem dX6_write_4 : decode cX6_write 4 = .ok (.ifCond .eq 10, 3) := by decide +kernel
theorem dX6_write_7 : decode cX6_write 7 = .ok (.iload_n 2, 1) := by decide +kernel
theorem dX6_write_8 : decode cX6_write 8 = .ok (.invokestatic 92, 3) := by decide +kernel
theorem dX6_write_11 : decode cX6_write 11 = .ok (.ifCond .ne 5, 3) := by decide +kernel
theorem dX6_write_14 : decode cX6_write 14 = .ok (.iconst (-1), 1) := by decide +kernel
theorem dX6_write_15 : decode cX6_write 15 = .ok (.ireturn, 1) := by decide +kernel
theorem dX6_write_16 : decode cX6_write 16 = .ok (.aload_n 0, 1) := by decide +kernel
theorem dX6_write_17 : decode cX6_write 17 = .ok (.getfield 49, 3) := by decide +kernel
theorem dX6_write_20 : decode cX6_write 20 = .ok (.invokevirtual 95, 3) := by decide +kernel
theorem dX6_write_23 : decode cX6_write 23 = .ok (.bipush (-6), 2) := by decide +kernel
theorem dX6_write_25 : decode cX6_write 25 = .ok (.if_icmp .eq 6, 3) := by decide +kernel
theorem dX6_write_28 : decode cX6_write 28 = .ok (.bipush (-3), 2) := by decide +kernel
theorem dX6_write_30 : decode cX6_write 30 = .ok (.ireturn, 1) := by decide +kernel
theorem dX6_write_31 : decode cX6_write 31 = .ok (.iload_n 3, 1) := by decide +kernel
theorem dX6_write_32 : decode cX6_write 32 = .ok (.invokestatic 53, 3) := by decide +kernel
theorem dX6_write_35 : decode cX6_write 35 = .ok (.ifCond .eq 11, 3) := by decide +kernel
theorem dX6_write_38 : decode cX6_write 38 = .ok (.iload 4, 2) := by decide +kernel
theorem dX6_write_40 : decode cX6_write 40 = .ok (.invokestatic 82, 3) := by decide +kernel
theorem dX6_write_43 : decode cX6_write 43 = .ok (.ifCond .ne 6, 3) := by decide +kernel
theorem dX6_write_46 : decode cX6_write 46 = .ok (.bipush (-2), 2) := by decide +kernel
theorem dX6_write_48 : decode cX6_write 48 = .ok (.ireturn, 1) := by decide +kernel
theorem dX6_write_49 : decode cX6_write 49 = .ok (.aload_n 0, 1) := by decide +kernel
theorem dX6_write_50 : decode cX6_write 50 = .ok (.aload_n 0, 1) := by decide +kernel
theorem dX6_write_51 : decode cX6_write 51 = .ok (.invokevirtual 57, 3) := by decide +kernel
theorem dX6_write_54 : decode cX6_write 54 = .ok (.aload_n 0, 1) := by decide +kernel
theorem dX6_write_55 : decode cX6_write 55 = .ok (.getfield 49, 3) := by decide +kernel
theorem dX6_write_58 : decode cX6_write 58 = .ok (.iload_n 1, 1) := by decide +kernel
theorem dX6_write_59 : decode cX6_write 59 = .ok (.iload_n 2, 1) := by decide +kernel
theorem dX6_write_60 : decode cX6_write 60 = .ok (.iload_n 3, 1) := by decide +kernel
theorem dX6_write_61 : decode cX6_write 61 = .ok (.iload 4, 2) := by decide +kernel
theorem dX6_write_63 : decode cX6_write 63 = .ok (.invokevirtual 99, 3) := by decide +kernel
theorem dX6_write_66 : decode cX6_write 66 = .ok (.invokevirtual 65, 3) := by decide +kernel
theorem dX6_write_69 : decode cX6_write 69 = .ok (.istore 5, 2) := by decide +kernel
theorem dX6_write_71 : decode cX6_write 71 = .ok (.iload 5, 2) := by decide +kernel
theorem dX6_write_73 : decode cX6_write 73 = .ok (.ifCond .lt 10, 3) := by decide +kernel
theorem dX6_write_76 : decode cX6_write 76 = .ok (.aload_n 0, 1) := by decide +kernel
theorem dX6_write_77 : decode cX6_write 77 = .ok (.getfield 49, 3) := by decide +kernel
theorem dX6_write_80 : decode cX6_write 80 = .ok (.invokevirtual 103, 3) := by decide +kernel
theorem dX6_write_83 : decode cX6_write 83 = .ok (.iload 5, 2) := by decide +kernel
theorem dX6_write_85 : decode cX6_write 85 = .ok (.ireturn, 1) := by decide +kernel
theorem dX6_place_0 : decode cX6_place 0 = .ok (.aload_n 0, 1) := by decide +kernel
theorem dX6_place_1 : decode cX6_place 1 = .ok (.getfield 21, 3) := by decide +kernel
theorem dX6_place_4 : decode cX6_place 4 = .ok (.iload_n 1, 1) := by decide +kernel
theorem dX6_place_5 : decode cX6_place 5 = .ok (.invokevirtual 106, 3) := by decide +kernel
theorem dX6_place_8 : decode cX6_place 8 = .ok (.ifnull 17, 3) := by decide +kernel
theorem dX6_place_11 : decode cX6_place 11 = .ok (.iload_n 2, 1) := by decide +kernel
theorem dX6_place_12 : decode cX6_place 12 = .ok (.invokestatic 89, 3) := by decide +kernel
theorem dX6_place_15 : decode cX6_place 15 = .ok (.ifCond .eq 10, 3) := by decide +kernel
theorem dX6_place_18 : decode cX6_place 18 = .ok (.iload_n 3, 1) := by decide +kernel
theorem dX6_place_19 : decode cX6_place 19 = .ok (.invokestatic 92, 3) := by decide +kernel
theorem dX6_place_22 : decode cX6_place 22 = .ok (.ifCond .ne 5, 3) := by decide +kernel
theorem dX6_place_25 : decode cX6_place 25 = .ok (.iconst (-1), 1) := by decide +kernel
theorem dX6_place_26 : decode cX6_place 26 = .ok (.ireturn, 1) := by decide +kernel
theorem dX6_place_27 : decode cX6_place 27 = .ok (.aload_n 0, 1) := by decide +kernel
theorem dX6_place_28 : decode cX6_place 28 = .ok (.aload_n 0, 1) := by decide +kernel
theorem dX6_place_29 : decode cX6_place 29 = .ok (.invokevirtual 57, 3) := by decide +kernel
theorem dX6_place_32 : decode cX6_place 32 = .ok (.iload_n 1, 1) := by decide +kernel
theorem dX6_place_33 : decode cX6_place 33 = .ok (.iload_n 2, 1) := by decide +kernel
theorem dX6_place_34 : decode cX6_place 34 = .ok (.iload_n 3, 1) := by decide +kernel
theorem dX6_place_35 : decode cX6_place 35 = .ok (.invokevirtual 110, 3) := by decide +kernel
theorem dX6_place_38 : decode cX6_place 38 = .ok (.invokevirtual 65, 3) := by decide +kernel
theorem dX6_place_41 : decode cX6_place 41 = .ok (.ireturn, 1) := by decide +kernel
theorem dX6_clear_0 : decode cX6_clear 0 = .ok (.iload_n 1, 1) := by decide +kernel
theorem dX6_clear_1 : decode cX6_clear 1 = .ok (.invokestatic 89, 3) := by decide +kernel
theorem dX6_clear_4 : decode cX6_clear 4 = .ok (.ifCond .ne 5, 3) := by decide +kernel
theorem dX6_clear_7 : decode cX6_clear 7 = .ok (.iconst (-1), 1) := by decide +kernel
theorem dX6_clear_8 : decode cX6_clear 8 = .ok (.ireturn, 1) := by decide +kernel
theorem dX6_clear_9 : decode cX6_clear 9 = .ok (.aload_n 0, 1) := by decide +kernel
theorem dX6_clear_10 : decode cX6_clear 10 = .ok (.aload_n 0, 1) := by decide +kernel
theorem dX6_clear_11 : decode cX6_clear 11 = .ok (.invokevirtual 57, 3) := by decide +kernel
theorem dX6_clear_14 : decode cX6_clear 14 = .ok (.iload_n 1, 1) := by decide +kernel
theorem dX6_clear_15 : decode cX6_clear 15 = .ok (.invokevirtual 113, 3) := by decide +kernel
theorem dX6_clear_18 : decode cX6_clear 18 = .ok (.invokevirtual 65, 3) := by decide +kernel
theorem dX6_clear_21 : decode cX6_clear 21 = .ok (.ireturn, 1) := by decide +kernel
theorem dX6_throwAway_0 : decode cX6_throwAway 0 = .ok (.aload_n 0, 1) := by decide +kernel
theorem dX6_throwAway_1 : decode cX6_throwAway 1 = .ok (.getfield 21, 3) := by decide +kernel
theorem dX6_throwAway_4 : decode cX6_throwAway 4 = .ok (.iload_n 1, 1) := by decide +kernel
theorem dX6_throwAway_5 : decode cX6_throwAway 5 = .ok (.invokevirtual 106, 3) := by decide +kernel
theorem dX6_throwAway_8 : decode cX6_throwAway 8 = .ok (.ifnonnull 5, 3) := by decide +kernel
theorem dX6_throwAway_11 : decode cX6_throwAway 11 = .ok (.iconst (-1), 1) := by decide +kernel
theorem dX6_throwAway_12 : decode cX6_throwAway 12 = .ok (.ireturn, 1) := by decide +kernel
theorem dX6_throwAway_13 : decode cX6_throwAway 13 = .ok (.aload_n 0, 1) := by decide +kernel
theorem dX6_throwAway_14 : decode cX6_throwAway 14 = .ok (.aload_n 0, 1) := by decide +kernel
theorem dX6_throwAway_15 : decode cX6_throwAway 15 = .ok (.invokevirtual 57, 3) := by decide +kernel
theorem dX6_throwAway_18 : decode cX6_throwAway 18 = .ok (.iload_n 1, 1) := by decide +kernel
theorem dX6_throwAway_19 : decode cX6_throwAway 19 = .ok (.invokevirtual 116, 3) := by decide +kernel
theorem dX6_throwAway_22 : decode cX6_throwAway 22 = .ok (.invokevirtual 65, 3) := by decide +kernel
theorem dX6_throwAway_25 : decode cX6_throwAway 25 = .ok (.ireturn, 1) := by decide +kernel
theorem dX6_scrap_0 : decode cX6_scrap 0 = .ok (.aload_n 0, 1) := by decide +kernel
theorem dX6_scrap_1 : decode cX6_scrap 1 = .ok (.getfield 21, 3) := by decide +kernel
theorem dX6_scrap_4 : decode cX6_scrap 4 = .ok (.iload_n 1, 1) := by decide +kernel
theorem dX6_scrap_5 : decode cX6_scrap 5 = .ok (.invokevirtual 68, 3) := by decide +kernel
theorem dX6_scrap_8 : decode cX6_scrap 8 = .ok (.ifnonnull 5, 3) := by decide +kernel
theorem dX6_scrap_11 : decode cX6_scrap 11 = .ok (.iconst (-1), 1) := by decide +kernel
theorem dX6_scrap_12 : decode cX6_scrap 12 = .ok (.ireturn, 1) := by decide +kernel
theorem dX6_scrap_13 : decode cX6_scrap 13 = .ok (.aload_n 0, 1) := by decide +kernel
theorem dX6_scrap_14 : decode cX6_scrap 14 = .ok (.aload_n 0, 1) := by decide +kernel
theorem dX6_scrap_15 : decode cX6_scrap 15 = .ok (.invokevirtual 57, 3) := by decide +kernel
theorem dX6_scrap_18 : decode cX6_scrap 18 = .ok (.iload_n 1, 1) := by decide +kernel
theorem dX6_scrap_19 : decode cX6_scrap 19 = .ok (.invokevirtual 119, 3) := by decide +kernel
theorem dX6_scrap_22 : decode cX6_scrap 22 = .ok (.invokevirtual 65, 3) := by decide +kernel
theorem dX6_scrap_25 : decode cX6_scrap 25 = .ok (.ireturn, 1) := by decide +kernel
theorem dX6_of_0 : decode cX6_of 0 = .ok (.aload_n 0, 1) := by decide +kernel
theorem dX6_of_1 : decode cX6_of 1 = .ok (.getfield 21, 3) := by decide +kernel
theorem dX6_of_4 : decode cX6_of 4 = .ok (.iload_n 1, 1) := by decide +kernel
theorem dX6_of_5 : decode cX6_of 5 = .ok (.invokevirtual 106, 3) := by decide +kernel
theorem dX6_of_8 : decode cX6_of 8 = .ok (.astore_n 3, 1) := by decide +kernel
theorem dX6_of_9 : decode cX6_of 9 = .ok (.aload_n 3, 1) := by decide +kernel
theorem dX6_of_10 : decode cX6_of 10 = .ok (.ifnonnull 5, 3) := by decide +kernel
theorem dX6_of_13 : decode cX6_of 13 = .ok (.iconst (-1), 1) := by decide +kernel
theorem dX6_of_14 : decode cX6_of 14 = .ok (.ireturn, 1) := by decide +kernel
theorem dX6_of_15 : decode cX6_of 15 = .ok (.iload_n 2, 1) := by decide +kernel
theorem dX6_of_16 : decode cX6_of 16 = .ok (.tableswitch 91 0 7 #[48, 53, 58, 66, 71, 76, 81, 86], 48) := by decide +kernel
theorem dX6_of_64 : decode cX6_of 64 = .ok (.aload_n 3, 1) := by decide +kernel
theorem dX6_of_65 : decode cX6_of 65 = .ok (.getfield 122, 3) := by decide +kernel
theorem dX6_of_68 : decode cX6_of 68 = .ok (.ireturn, 1) := by decide +kernel
theorem dX6_of_69 : decode cX6_of 69 = .ok (.aload_n 3, 1) := by decide +kernel
theorem dX6_of_70 : decode cX6_of 70 = .ok (.getfield 128, 3) := by decide +kernel
theorem dX6_of_73 : decode cX6_of 73 = .ok (.ireturn, 1) := by decide +kernel
theorem dX6_of_74 : decode cX6_of 74 = .ok (.aload_n 3, 1) := by decide +kernel
theorem dX6_of_75 : decode cX6_of 75 = .ok (.getfield 131, 3) := by decide +kernel
theorem dX6_of_78 : decode cX6_of 78 = .ok (.invokestatic 134, 3) := by decide +kernel
theorem dX6_of_81 : decode cX6_of 81 = .ok (.ireturn, 1) := by decide +kernel
theorem dX6_of_82 : decode cX6_of 82 = .ok (.aload_n 3, 1) := by decide +kernel
theorem dX6_of_83 : decode cX6_of 83 = .ok (.getfield 137, 3) := by decide +kernel
theorem dX6_of_86 : decode cX6_of 86 = .ok (.ireturn, 1) := by decide +kernel
theorem dX6_of_87 : decode cX6_of 87 = .ok (.aload_n 3, 1) := by decide +kernel
theorem dX6_of_88 : decode cX6_of 88 = .ok (.getfield 140, 3) := by decide +kernel
theorem dX6_of_91 : decode cX6_of 91 = .ok (.ireturn, 1) := by decide +kernel
theorem dX6_of_92 : decode cX6_of 92 = .ok (.aload_n 3, 1) := by decide +kernel
theorem dX6_of_93 : decode cX6_of 93 = .ok (.getfield 143, 3) := by decide +kernel
theorem dX6_of_96 : decode cX6_of 96 = .ok (.ireturn, 1) := by decide +kernel
theorem dX6_of_97 : decode cX6_of 97 = .ok (.aload_n 3, 1) := by decide +kernel
theorem dX6_of_98 : decode cX6_of 98 = .ok (.getfield 146, 3) := by decide +kernel
theorem dX6_of_101 : decode cX6_of 101 = .ok (.ireturn, 1) := by decide +kernel
theorem dX6_of_102 : decode cX6_of 102 = .ok (.aload_n 3, 1) := by decide +kernel
theorem dX6_of_103 : decode cX6_of 103 = .ok (.getfield 131, 3) := by decide +kernel
theorem dX6_of_106 : decode cX6_of 106 = .ok (.ireturn, 1) := by decide +kernel
theorem dX6_of_107 : decode cX6_of 107 = .ok (.bipush (-2), 2) := by decide +kernel
theorem dX6_of_109 : decode cX6_of 109 = .ok (.ireturn, 1) := by decide +kernel
theorem dX6_ofSheet_0 : decode cX6_ofSheet 0 = .ok (.aload_n 0, 1) := by decide +kernel
theorem dX6_ofSheet_1 : decode cX6_ofSheet 1 = .ok (.getfield 21, 3) := by decide +kernel
theorem dX6_ofSheet_4 : decode cX6_ofSheet 4 = .ok (.iload_n 1, 1) := by decide +kernel
theorem dX6_ofSheet_5 : decode cX6_ofSheet 5 = .ok (.invokevirtual 68, 3) := by decide +kernel
theorem dX6_ofSheet_8 : decode cX6_ofSheet 8 = .ok (.astore_n 3, 1) := by decide +kernel
theorem dX6_ofSheet_9 : decode cX6_ofSheet 9 = .ok (.aload_n 3, 1) := by decide +kernel
theorem dX6_ofSheet_10 : decode cX6_ofSheet 10 = .ok (.ifnonnull 5, 3) := by decide +kernel
theorem dX6_ofSheet_13 : decode cX6_ofSheet 13 = .ok (.iconst (-1), 1) := by decide +kernel
theorem dX6_ofSheet_14 : decode cX6_ofSheet 14 = .ok (.ireturn, 1) := by decide +kernel
theorem dX6_ofSheet_15 : decode cX6_ofSheet 15 = .ok (.iload_n 2, 1) := by decide +kernel
theorem dX6_ofSheet_16 : decode cX6_ofSheet 16 = .ok (.tableswitch 73 0 4 #[36, 41, 46, 55, 68], 36) := by decide +kernel
theorem dX6_ofSheet_52 : decode cX6_ofSheet 52 = .ok (.aload_n 3, 1) := by decide +kernel
theorem dX6_ofSheet_53 : decode cX6_ofSheet 53 = .ok (.getfield 149, 3) := by decide +kernel
theorem dX6_ofSheet_56 : decode cX6_ofSheet 56 = .ok (.ireturn, 1) := by decide +kernel
theorem dX6_ofSheet_57 : decode cX6_ofSheet 57 = .ok (.aload_n 3, 1) := by decide +kernel
theorem dX6_ofSheet_58 : decode cX6_ofSheet 58 = .ok (.invokevirtual 150, 3) := by decide +kernel
theorem dX6_ofSheet_61 : decode cX6_ofSheet 61 = .ok (.ireturn, 1) := by decide +kernel
theorem dX6_ofSheet_62 : decode cX6_ofSheet 62 = .ok (.aload_n 0, 1) := by decide +kernel
theorem dX6_ofSheet_63 : decode cX6_ofSheet 63 = .ok (.getfield 21, 3) := by decide +kernel
theorem dX6_ofSheet_66 : decode cX6_ofSheet 66 = .ok (.iload_n 1, 1) := by decide +kernel
theorem dX6_ofSheet_67 : decode cX6_ofSheet 67 = .ok (.invokevirtual 153, 3) := by decide +kernel
theorem dX6_ofSheet_70 : decode cX6_ofSheet 70 = .ok (.ireturn, 1) := by decide +kernel
theorem dX6_ofSheet_71 : decode cX6_ofSheet 71 = .ok (.aload_n 3, 1) := by decide +kernel
theorem dX6_ofSheet_72 : decode cX6_ofSheet 72 = .ok (.getfield 156, 3) := by decide +kernel
theorem dX6_ofSheet_75 : decode cX6_ofSheet 75 = .ok (.ifCond .eq 7, 3) := by decide +kernel
theorem dX6_ofSheet_78 : decode cX6_ofSheet 78 = .ok (.iconst 1, 1) := by decide +kernel
theorem dX6_ofSheet_79 : decode cX6_ofSheet 79 = .ok (.goto 4, 3) := by decide +kernel
theorem dX6_ofSheet_82 : decode cX6_ofSheet 82 = .ok (.iconst 0, 1) := by decide +kernel
theorem dX6_ofSheet_83 : decode cX6_ofSheet 83 = .ok (.ireturn, 1) := by decide +kernel
theorem dX6_ofSheet_84 : decode cX6_ofSheet 84 = .ok (.aload_n 3, 1) := by decide +kernel
theorem dX6_ofSheet_85 : decode cX6_ofSheet 85 = .ok (.invokevirtual 160, 3) := by decide +kernel
theorem dX6_ofSheet_88 : decode cX6_ofSheet 88 = .ok (.ireturn, 1) := by decide +kernel
theorem dX6_ofSheet_89 : decode cX6_ofSheet 89 = .ok (.bipush (-2), 2) := by decide +kernel
theorem dX6_ofSheet_91 : decode cX6_ofSheet 91 = .ok (.ireturn, 1) := by decide +kernel
theorem dX6_row_0 : decode cX6_row 0 = .ok (.aload_n 0, 1) := by decide +kernel
theorem dX6_row_1 : decode cX6_row 1 = .ok (.getfield 21, 3) := by decide +kernel
theorem dX6_row_4 : decode cX6_row 4 = .ok (.iload_n 1, 1) := by decide +kernel
theorem dX6_row_5 : decode cX6_row 5 = .ok (.invokevirtual 68, 3) := by decide +kernel
theorem dX6_row_8 : decode cX6_row 8 = .ok (.astore_n 3, 1) := by decide +kernel
theorem dX6_row_9 : decode cX6_row 9 = .ok (.aload_n 3, 1) := by decide +kernel
theorem dX6_row_10 : decode cX6_row 10 = .ok (.ifnull 13, 3) := by decide +kernel
theorem dX6_row_13 : decode cX6_row 13 = .ok (.iload_n 2, 1) := by decide +kernel
theorem dX6_row_14 : decode cX6_row 14 = .ok (.ifCond .lt 9, 3) := by decide +kernel
theorem dX6_row_17 : decode cX6_row 17 = .ok (.iload_n 2, 1) := by decide +kernel
theorem dX6_row_18 : decode cX6_row 18 = .ok (.bipush 9, 2) := by decide +kernel
theorem dX6_row_20 : decode cX6_row 20 = .ok (.if_icmp .lt 5, 3) := by decide +kernel
theorem dX6_row_23 : decode cX6_row 23 = .ok (.iconst (-1), 1) := by decide +kernel
theorem dX6_row_24 : decode cX6_row 24 = .ok (.ireturn, 1) := by decide +kernel
theorem dX6_row_25 : decode cX6_row 25 = .ok (.aload_n 3, 1) := by decide +kernel
theorem dX6_row_26 : decode cX6_row 26 = .ok (.getfield 163, 3) := by decide +kernel
theorem dX6_row_29 : decode cX6_row 29 = .ok (.iload_n 2, 1) := by decide +kernel
theorem dX6_row_30 : decode cX6_row 30 = .ok (.iaload, 1) := by decide +kernel
theorem dX6_row_31 : decode cX6_row 31 = .ok (.ireturn, 1) := by decide +kernel
theorem dX6_pane_0 : decode cX6_pane 0 = .ok (.iload_n 1, 1) := by decide +kernel
theorem dX6_pane_1 : decode cX6_pane 1 = .ok (.invokestatic 89, 3) := by decide +kernel
theorem dX6_pane_4 : decode cX6_pane 4 = .ok (.ifCond .eq 10, 3) := by decide +kernel
theorem dX6_pane_7 : decode cX6_pane 7 = .ok (.iload_n 2, 1) := by decide +kernel
theorem dX6_pane_8 : decode cX6_pane 8 = .ok (.invokestatic 92, 3) := by decide +kernel
theorem dX6_pane_11 : decode cX6_pane 11 = .ok (.ifCond .ne 5, 3) := by decide +kernel
theorem dX6_pane_14 : decode cX6_pane 14 = .ok (.iconst (-1), 1) := by decide +kernel
theorem dX6_pane_15 : decode cX6_pane 15 = .ok (.ireturn, 1) := by decide +kernel
theorem dX6_pane_16 : decode cX6_pane 16 = .ok (.aload_n 0, 1) := by decide +kernel
theorem dX6_pane_17 : decode cX6_pane 17 = .ok (.getfield 21, 3) := by decide +kernel
theorem dX6_pane_20 : decode cX6_pane 20 = .ok (.getfield 167, 3) := by decide +kernel
theorem dX6_pane_23 : decode cX6_pane 23 = .ok (.iload_n 1, 1) := by decide +kernel
theorem dX6_pane_24 : decode cX6_pane 24 = .ok (.bipush 12, 2) := by decide +kernel
theorem dX6_pane_26 : decode cX6_pane 26 = .ok (.imul, 1) := by decide +kernel
theorem dX6_pane_27 : decode cX6_pane 27 = .ok (.iload_n 2, 1) := by decide +kernel
theorem dX6_pane_28 : decode cX6_pane 28 = .ok (.iadd, 1) := by decide +kernel
theorem dX6_pane_29 : decode cX6_pane 29 = .ok (.iaload, 1) := by decide +kernel
theorem dX6_pane_30 : decode cX6_pane 30 = .ok (.ireturn, 1) := by decide +kernel
theorem dX6_shape_0 : decode cX6_shape 0 = .ok (.iload_n 1, 1) := by decide +kernel
theorem dX6_shape_1 : decode cX6_shape 1 = .ok (.invokestatic 72, 3) := by decide +kernel
theorem dX6_shape_4 : decode cX6_shape 4 = .ok (.ifCond .ne 5, 3) := by decide +kernel
theorem dX6_shape_7 : decode cX6_shape 7 = .ok (.iconst (-1), 1) := by decide +kernel
theorem dX6_shape_8 : decode cX6_shape 8 = .ok (.ireturn, 1) := by decide +kernel
theorem dX6_shape_9 : decode cX6_shape 9 = .ok (.iload_n 2, 1) := by decide +kernel
theorem dX6_shape_10 : decode cX6_shape 10 = .ok (.invokestatic 75, 3) := by decide +kernel
theorem dX6_shape_13 : decode cX6_shape 13 = .ok (.ifCond .eq 12, 3) := by decide +kernel
theorem dX6_shape_16 : decode cX6_shape 16 = .ok (.iload_n 3, 1) := by decide +kernel
theorem dX6_shape_17 : decode cX6_shape 17 = .ok (.ifCond .lt 8, 3) := by decide +kernel
theorem dX6_shape_20 : decode cX6_shape 20 = .ok (.iload_n 3, 1) := by decide +kernel
theorem dX6_shape_21 : decode cX6_shape 21 = .ok (.iconst 5, 1) := by decide +kernel
theorem dX6_shape_22 : decode cX6_shape 22 = .ok (.if_icmp .lt 6, 3) := by decide +kernel
theorem dX6_shape_25 : decode cX6_shape 25 = .ok (.bipush (-2), 2) := by decide +kernel
theorem dX6_shape_27 : decode cX6_shape 27 = .ok (.ireturn, 1) := by decide +kernel
theorem dX6_shape_28 : decode cX6_shape 28 = .ok (.aload_n 0, 1) := by decide +kernel
theorem dX6_shape_29 : decode cX6_shape 29 = .ok (.getfield 10, 3) := by decide +kernel
theorem dX6_shape_32 : decode cX6_shape 32 = .ok (.iload_n 1, 1) := by decide +kernel
theorem dX6_shape_33 : decode cX6_shape 33 = .ok (.iload_n 2, 1) := by decide +kernel
theorem dX6_shape_34 : decode cX6_shape 34 = .ok (.iload_n 3, 1) := by decide +kernel
theorem dX6_shape_35 : decode cX6_shape 35 = .ok (.invokevirtual 170, 3) := by decide +kernel
theorem dX6_shape_38 : decode cX6_shape 38 = .ok (.ireturn, 1) := by decide +kernel
theorem dX6_count_0 : decode cX6_count 0 = .ok (.iload_n 1, 1) := by decide +kernel
theorem dX6_count_1 : decode cX6_count 1 = .ok (.tableswitch 159 0 9 #[55, 63, 71, 80, 89, 98, 116, 125, 143, 151], 55) := by decide +kernel
theorem dX6_count_56 : decode cX6_count 56 = .ok (.aload_n 0, 1) := by decide +kernel
theorem dX6_count_57 : decode cX6_count 57 = .ok (.getfield 21, 3) := by decide +kernel
theorem dX6_count_60 : decode cX6_count 60 = .ok (.getfield 173, 3) := by decide +kernel
theorem dX6_count_63 : decode cX6_count 63 = .ok (.ireturn, 1) := by decide +kernel
theorem dX6_count_64 : decode cX6_count 64 = .ok (.aload_n 0, 1) := by decide +kernel
theorem dX6_count_65 : decode cX6_count 65 = .ok (.getfield 21, 3) := by decide +kernel
theorem dX6_count_68 : decode cX6_count 68 = .ok (.getfield 176, 3) := by decide +kernel
theorem dX6_count_71 : decode cX6_count 71 = .ok (.ireturn, 1) := by decide +kernel
theorem dX6_count_72 : decode cX6_count 72 = .ok (.aload_n 0, 1) := by decide +kernel
theorem dX6_count_73 : decode cX6_count 73 = .ok (.getfield 21, 3) := by decide +kernel
theorem dX6_count_76 : decode cX6_count 76 = .ok (.iconst 0, 1) := by decide +kernel
theorem dX6_count_77 : decode cX6_count 77 = .ok (.invokevirtual 179, 3) := by decide +kernel
theorem dX6_count_80 : decode cX6_count 80 = .ok (.ireturn, 1) := by decide +kernel
theorem dX6_count_81 : decode cX6_count 81 = .ok (.aload_n 0, 1) := by decide +kernel
theorem dX6_count_82 : decode cX6_count 82 = .ok (.getfield 21, 3) := by decide +kernel
theorem dX6_count_85 : decode cX6_count 85 = .ok (.iconst 1, 1) := by decide +kernel
theorem dX6_count_86 : decode cX6_count 86 = .ok (.invokevirtual 179, 3) := by decide +kernel
theorem dX6_count_89 : decode cX6_count 89 = .ok (.ireturn, 1) := by decide +kernel
theorem dX6_count_90 : decode cX6_count 90 = .ok (.aload_n 0, 1) := by decide +kernel
theorem dX6_count_91 : decode cX6_count 91 = .ok (.getfield 21, 3) := by decide +kernel
theorem dX6_count_94 : decode cX6_count 94 = .ok (.iconst 2, 1) := by decide +kernel
theorem dX6_count_95 : decode cX6_count 95 = .ok (.invokevirtual 179, 3) := by decide +kernel
theorem dX6_count_98 : decode cX6_count 98 = .ok (.ireturn, 1) := by decide +kernel
theorem dX6_count_99 : decode cX6_count 99 = .ok (.aload_n 0, 1) := by decide +kernel
theorem dX6_count_100 : decode cX6_count 100 = .ok (.getfield 21, 3) := by decide +kernel
theorem dX6_count_103 : decode cX6_count 103 = .ok (.iconst 2, 1) := by decide +kernel
theorem dX6_count_104 : decode cX6_count 104 = .ok (.invokevirtual 182, 3) := by decide +kernel
theorem dX6_count_107 : decode cX6_count 107 = .ok (.aload_n 0, 1) := by decide +kernel
theorem dX6_count_108 : decode cX6_count 108 = .ok (.getfield 21, 3) := by decide +kernel
theorem dX6_count_111 : decode cX6_count 111 = .ok (.iconst 1, 1) := by decide +kernel
theorem dX6_count_112 : decode cX6_count 112 = .ok (.invokevirtual 185, 3) := by decide +kernel
theorem dX6_count_115 : decode cX6_count 115 = .ok (.iadd, 1) := by decide +kernel
theorem dX6_count_116 : decode cX6_count 116 = .ok (.ireturn, 1) := by decide +kernel
theorem dX6_count_117 : decode cX6_count 117 = .ok (.aload_n 0, 1) := by decide +kernel
theorem dX6_count_118 : decode cX6_count 118 = .ok (.getfield 21, 3) := by decide +kernel
theorem dX6_count_121 : decode cX6_count 121 = .ok (.iconst 0, 1) := by decide +kernel
theorem dX6_count_122 : decode cX6_count 122 = .ok (.invokevirtual 185, 3) := by decide +kernel
theorem dX6_count_125 : decode cX6_count 125 = .ok (.ireturn, 1) := by decide +kernel
theorem dX6_count_126 : decode cX6_count 126 = .ok (.aload_n 0, 1) := by decide +kernel
theorem dX6_count_127 : decode cX6_count 127 = .ok (.getfield 21, 3) := by decide +kernel
theorem dX6_count_130 : decode cX6_count 130 = .ok (.iconst 0, 1) := by decide +kernel
theorem dX6_count_131 : decode cX6_count 131 = .ok (.invokevirtual 182, 3) := by decide +kernel
theorem dX6_count_134 : decode cX6_count 134 = .ok (.aload_n 0, 1) := by decide +kernel
theorem dX6_count_135 : decode cX6_count 135 = .ok (.getfield 21, 3) := by decide +kernel
theorem dX6_count_138 : decode cX6_count 138 = .ok (.iconst 1, 1) := by decide +kernel
theorem dX6_count_139 : decode cX6_count 139 = .ok (.invokevirtual 182, 3) := by decide +kernel
theorem dX6_count_142 : decode cX6_count 142 = .ok (.iadd, 1) := by decide +kernel
theorem dX6_count_143 : decode cX6_count 143 = .ok (.ireturn, 1) := by decide +kernel
theorem dX6_count_144 : decode cX6_count 144 = .ok (.aload_n 0, 1) := by decide +kernel
theorem dX6_count_145 : decode cX6_count 145 = .ok (.getfield 49, 3) := by decide +kernel
theorem dX6_count_148 : decode cX6_count 148 = .ok (.getfield 189, 3) := by decide +kernel
theorem dX6_count_151 : decode cX6_count 151 = .ok (.ireturn, 1) := by decide +kernel
theorem dX6_count_152 : decode cX6_count 152 = .ok (.aload_n 0, 1) := by decide +kernel
theorem dX6_count_153 : decode cX6_count 153 = .ok (.getfield 42, 3) := by decide +kernel
theorem dX6_count_156 : decode cX6_count 156 = .ok (.getfield 192, 3) := by decide +kernel
theorem dX6_count_159 : decode cX6_count 159 = .ok (.ireturn, 1) := by decide +kernel
theorem dX6_count_160 : decode cX6_count 160 = .ok (.bipush (-2), 2) := by decide +kernel
theorem dX6_count_162 : decode cX6_count 162 = .ok (.ireturn, 1) := by decide +kernel
theorem dX6_fit_0 : decode cX6_fit 0 = .ok (.aload_n 0, 1) := by decide +kernel
theorem dX6_fit_1 : decode cX6_fit 1 = .ok (.getfield 21, 3) := by decide +kernel
theorem dX6_fit_4 : decode cX6_fit 4 = .ok (.iload_n 1, 1) := by decide +kernel
theorem dX6_fit_5 : decode cX6_fit 5 = .ok (.invokevirtual 68, 3) := by decide +kernel
theorem dX6_fit_8 : decode cX6_fit 8 = .ok (.astore 5, 2) := by decide +kernel
theorem dX6_fit_10 : decode cX6_fit 10 = .ok (.aload 5, 2) := by decide +kernel
theorem dX6_fit_12 : decode cX6_fit 12 = .ok (.ifnull 10, 3) := by decide +kernel
theorem dX6_fit_15 : decode cX6_fit 15 = .ok (.iload_n 2, 1) := by decide +kernel
theorem dX6_fit_16 : decode cX6_fit 16 = .ok (.invokestatic 72, 3) := by decide +kernel
theorem dX6_fit_19 : decode cX6_fit 19 = .ok (.ifCond .ne 5, 3) := by decide +kernel
theorem dX6_fit_22 : decode cX6_fit 22 = .ok (.iconst (-1), 1) := by decide +kernel
theorem dX6_fit_23 : decode cX6_fit 23 = .ok (.ireturn, 1) := by decide +kernel
theorem dX6_fit_24 : decode cX6_fit 24 = .ok (.iload_n 3, 1) := by decide +kernel
theorem dX6_fit_25 : decode cX6_fit 25 = .ok (.invokestatic 82, 3) := by decide +kernel
theorem dX6_fit_28 : decode cX6_fit 28 = .ok (.ifCond .eq 14, 3) := by decide +kernel
theorem dX6_fit_31 : decode cX6_fit 31 = .ok (.iload 4, 2) := by decide +kernel
theorem dX6_fit_33 : decode cX6_fit 33 = .ok (.ifCond .lt 9, 3) := by decide +kernel
theorem dX6_fit_36 : decode cX6_fit 36 = .ok (.iload 4, 2) := by decide +kernel
theorem dX6_fit_38 : decode cX6_fit 38 = .ok (.iconst 2, 1) := by decide +kernel
theorem dX6_fit_39 : decode cX6_fit 39 = .ok (.if_icmp .le 6, 3) := by decide +kernel
theorem dX6_fit_42 : decode cX6_fit 42 = .ok (.bipush (-2), 2) := by decide +kernel
theorem dX6_fit_44 : decode cX6_fit 44 = .ok (.ireturn, 1) := by decide +kernel
theorem dX6_fit_45 : decode cX6_fit 45 = .ok (.aload 5, 2) := by decide +kernel
theorem dX6_fit_47 : decode cX6_fit 47 = .ok (.iload_n 2, 1) := by decide +kernel
theorem dX6_fit_48 : decode cX6_fit 48 = .ok (.iload_n 3, 1) := by decide +kernel
theorem dX6_fit_49 : decode cX6_fit 49 = .ok (.invokevirtual 193, 3) := by decide +kernel
theorem dX6_fit_52 : decode cX6_fit 52 = .ok (.istore 6, 2) := by decide +kernel
theorem dX6_fit_54 : decode cX6_fit 54 = .ok (.iload 6, 2) := by decide +kernel
theorem dX6_fit_56 : decode cX6_fit 56 = .ok (.bipush (-6), 2) := by decide +kernel
theorem dX6_fit_58 : decode cX6_fit 58 = .ok (.if_icmp .ne 6, 3) := by decide +kernel
theorem dX6_fit_61 : decode cX6_fit 61 = .ok (.bipush (-6), 2) := by decide +kernel
theorem dX6_fit_63 : decode cX6_fit 63 = .ok (.ireturn, 1) := by decide +kernel
theorem dX6_fit_64 : decode cX6_fit 64 = .ok (.iload 4, 2) := by decide +kernel
theorem dX6_fit_66 : decode cX6_fit 66 = .ok (.lookupswitch 38 #[(0, 26), (1, 32)], 26) := by decide +kernel
theorem dX6_fit_92 : decode cX6_fit 92 = .ok (.iload 6, 2) := by decide +kernel
theorem dX6_fit_94 : decode cX6_fit 94 = .ok (.invokestatic 197, 3) := by decide +kernel
theorem dX6_fit_97 : decode cX6_fit 97 = .ok (.ireturn, 1) := by decide +kernel
theorem dX6_fit_98 : decode cX6_fit 98 = .ok (.iload 6, 2) := by decide +kernel
theorem dX6_fit_100 : decode cX6_fit 100 = .ok (.invokestatic 200, 3) := by decide +kernel
theorem dX6_fit_103 : decode cX6_fit 103 = .ok (.ireturn, 1) := by decide +kernel
theorem dX6_fit_104 : decode cX6_fit 104 = .ok (.iload 6, 2) := by decide +kernel
theorem dX6_fit_106 : decode cX6_fit 106 = .ok (.invokestatic 203, 3) := by decide +kernel
theorem dX6_fit_109 : decode cX6_fit 109 = .ok (.ireturn, 1) := by decide +kernel
theorem dX6_manyOf_0 : decode cX6_manyOf 0 = .ok (.aload_n 0, 1) := by decide +kernel
theorem dX6_manyOf_1 : decode cX6_manyOf 1 = .ok (.getfield 21, 3) := by decide +kernel
theorem dX6_manyOf_4 : decode cX6_manyOf 4 = .ok (.iload_n 1, 1) := by decide +kernel
theorem dX6_manyOf_5 : decode cX6_manyOf 5 = .ok (.invokevirtual 68, 3) := by decide +kernel
theorem dX6_manyOf_8 : decode cX6_manyOf 8 = .ok (.astore 4, 2) := by decide +kernel
theorem dX6_manyOf_10 : decode cX6_manyOf 10 = .ok (.aload 4, 2) := by decide +kernel
theorem dX6_manyOf_12 : decode cX6_manyOf 12 = .ok (.ifnull 10, 3) := by decide +kernel
theorem dX6_manyOf_15 : decode cX6_manyOf 15 = .ok (.iload_n 2, 1) := by decide +kernel
theorem dX6_manyOf_16 : decode cX6_manyOf 16 = .ok (.invokestatic 72, 3) := by decide +kernel
theorem dX6_manyOf_19 : decode cX6_manyOf 19 = .ok (.ifCond .ne 5, 3) := by decide +kernel
theorem dX6_manyOf_22 : decode cX6_manyOf 22 = .ok (.iconst (-1), 1) := by decide +kernel
theorem dX6_manyOf_23 : decode cX6_manyOf 23 = .ok (.ireturn, 1) := by decide +kernel
theorem dX6_manyOf_24 : decode cX6_manyOf 24 = .ok (.iload_n 3, 1) := by decide +kernel
theorem dX6_manyOf_25 : decode cX6_manyOf 25 = .ok (.invokestatic 82, 3) := by decide +kernel
theorem dX6_manyOf_28 : decode cX6_manyOf 28 = .ok (.ifCond .ne 6, 3) := by decide +kernel
theorem dX6_manyOf_31 : decode cX6_manyOf 31 = .ok (.bipush (-2), 2) := by decide +kernel
theorem dX6_manyOf_33 : decode cX6_manyOf 33 = .ok (.ireturn, 1) := by decide +kernel
theorem dX6_manyOf_34 : decode cX6_manyOf 34 = .ok (.aload_n 0, 1) := by decide +kernel
theorem dX6_manyOf_35 : decode cX6_manyOf 35 = .ok (.getfield 31, 3) := by decide +kernel
theorem dX6_manyOf_38 : decode cX6_manyOf 38 = .ok (.aload 4, 2) := by decide +kernel
theorem dX6_manyOf_40 : decode cX6_manyOf 40 = .ok (.invokevirtual 206, 3) := by decide +kernel
theorem dX6_manyOf_43 : decode cX6_manyOf 43 = .ok (.aload_n 0, 1) := by decide +kernel
theorem dX6_manyOf_44 : decode cX6_manyOf 44 = .ok (.getfield 31, 3) := by decide +kernel
theorem dX6_manyOf_47 : decode cX6_manyOf 47 = .ok (.iload_n 2, 1) := by decide +kernel
theorem dX6_manyOf_48 : decode cX6_manyOf 48 = .ok (.iload_n 3, 1) := by decide +kernel
theorem dX6_manyOf_49 : decode cX6_manyOf 49 = .ok (.invokevirtual 210, 3) := by decide +kernel
theorem dX6_manyOf_52 : decode cX6_manyOf 52 = .ok (.ireturn, 1) := by decide +kernel
theorem dX6_fits_0 : decode cX6_fits 0 = .ok (.aload_n 0, 1) := by decide +kernel
theorem dX6_fits_1 : decode cX6_fits 1 = .ok (.getfield 21, 3) := by decide +kernel
theorem dX6_fits_4 : decode cX6_fits 4 = .ok (.iload_n 1, 1) := by decide +kernel
theorem dX6_fits_5 : decode cX6_fits 5 = .ok (.invokevirtual 68, 3) := by decide +kernel
theorem dX6_fits_8 : decode cX6_fits 8 = .ok (.astore_n 3, 1) := by decide +kernel
theorem dX6_fits_9 : decode cX6_fits 9 = .ok (.aload_n 3, 1) := by decide +kernel
theorem dX6_fits_10 : decode cX6_fits 10 = .ok (.ifnull 10, 3) := by decide +kernel
theorem dX6_fits_13 : decode cX6_fits 13 = .ok (.iload_n 2, 1) := by decide +kernel
theorem dX6_fits_14 : decode cX6_fits 14 = .ok (.invokestatic 72, 3) := by decide +kernel
theorem dX6_fits_17 : decode cX6_fits 17 = .ok (.ifCond .ne 5, 3) := by decide +kernel
theorem dX6_fits_20 : decode cX6_fits 20 = .ok (.iconst (-1), 1) := by decide +kernel
theorem dX6_fits_21 : decode cX6_fits 21 = .ok (.ireturn, 1) := by decide +kernel
theorem dX6_fits_22 : decode cX6_fits 22 = .ok (.aload_n 3, 1) := by decide +kernel
theorem dX6_fits_23 : decode cX6_fits 23 = .ok (.iload_n 2, 1) := by decide +kernel
theorem dX6_fits_24 : decode cX6_fits 24 = .ok (.invokevirtual 213, 3) := by decide +kernel
theorem dX6_fits_27 : decode cX6_fits 27 = .ok (.ireturn, 1) := by decide +kernel
theorem dX6_colours_0 : decode cX6_colours 0 = .ok (.iload_n 1, 1) := by decide +kernel
theorem dX6_colours_1 : decode cX6_colours 1 = .ok (.invokestatic 89, 3) := by decide +kernel
theorem dX6_colours_4 : decode cX6_colours 4 = .ok (.ifCond .eq 10, 3) := by decide +kernel
theorem dX6_colours_7 : decode cX6_colours 7 = .ok (.iload_n 2, 1) := by decide +kernel
theorem dX6_colours_8 : decode cX6_colours 8 = .ok (.invokestatic 92, 3) := by decide +kernel
theorem dX6_colours_11 : decode cX6_colours 11 = .ok (.ifCond .ne 5, 3) := by decide +kernel
theorem dX6_colours_14 : decode cX6_colours 14 = .ok (.iconst (-1), 1) := by decide +kernel
theorem dX6_colours_15 : decode cX6_colours 15 = .ok (.ireturn, 1) := by decide +kernel
theorem dX6_colours_16 : decode cX6_colours 16 = .ok (.aload_n 0, 1) := by decide +kernel
theorem dX6_colours_17 : decode cX6_colours 17 = .ok (.getfield 49, 3) := by decide +kernel
theorem dX6_colours_20 : decode cX6_colours 20 = .ok (.invokevirtual 95, 3) := by decide +kernel
theorem dX6_colours_23 : decode cX6_colours 23 = .ok (.bipush (-6), 2) := by decide +kernel
theorem dX6_colours_25 : decode cX6_colours 25 = .ok (.if_icmp .eq 6, 3) := by decide +kernel
theorem dX6_colours_28 : decode cX6_colours 28 = .ok (.bipush (-3), 2) := by decide +kernel
theorem dX6_colours_30 : decode cX6_colours 30 = .ok (.ireturn, 1) := by decide +kernel
theorem dX6_colours_31 : decode cX6_colours 31 = .ok (.iload_n 3, 1) := by decide +kernel
theorem dX6_colours_32 : decode cX6_colours 32 = .ok (.invokestatic 82, 3) := by decide +kernel
theorem dX6_colours_35 : decode cX6_colours 35 = .ok (.ifCond .ne 6, 3) := by decide +kernel
theorem dX6_colours_38 : decode cX6_colours 38 = .ok (.bipush (-2), 2) := by decide +kernel
theorem dX6_colours_40 : decode cX6_colours 40 = .ok (.ireturn, 1) := by decide +kernel
theorem dX6_colours_41 : decode cX6_colours 41 = .ok (.iconst 0, 1) := by decide +kernel
theorem dX6_colours_42 : decode cX6_colours 42 = .ok (.istore 4, 2) := by decide +kernel
theorem dX6_colours_44 : decode cX6_colours 44 = .ok (.iconst 1, 1) := by decide +kernel
theorem dX6_colours_45 : decode cX6_colours 45 = .ok (.istore 5, 2) := by decide +kernel
theorem dX6_colours_47 : decode cX6_colours 47 = .ok (.iload 5, 2) := by decide +kernel
theorem dX6_colours_49 : decode cX6_colours 49 = .ok (.iconst 4, 1) := by decide +kernel
theorem dX6_colours_50 : decode cX6_colours 50 = .ok (.if_icmp .gt 37, 3) := by decide +kernel
theorem dX6_colours_53 : decode cX6_colours 53 = .ok (.aload_n 0, 1) := by decide +kernel
theorem dX6_colours_54 : decode cX6_colours 54 = .ok (.invokevirtual 57, 3) := by decide +kernel
theorem dX6_colours_57 : decode cX6_colours 57 = .ok (.aload_n 0, 1) := by decide +kernel
theorem dX6_colours_58 : decode cX6_colours 58 = .ok (.getfield 49, 3) := by decide +kernel
theorem dX6_colours_61 : decode cX6_colours 61 = .ok (.iload_n 1, 1) := by decide +kernel
theorem dX6_colours_62 : decode cX6_colours 62 = .ok (.iload_n 2, 1) := by decide +kernel
theorem dX6_colours_63 : decode cX6_colours 63 = .ok (.iload 5, 2) := by decide +kernel
theorem dX6_colours_65 : decode cX6_colours 65 = .ok (.iload_n 3, 1) := by decide +kernel
theorem dX6_colours_66 : decode cX6_colours 66 = .ok (.invokevirtual 99, 3) := by decide +kernel
theorem dX6_colours_69 : decode cX6_colours 69 = .ok (.ifCond .lt 12, 3) := by decide +kernel
theorem dX6_colours_72 : decode cX6_colours 72 = .ok (.iload 4, 2) := by decide +kernel
theorem dX6_colours_74 : decode cX6_colours 74 = .ok (.iconst 1, 1) := by decide +kernel
theorem dX6_colours_75 : decode cX6_colours 75 = .ok (.iload 5, 2) := by decide +kernel
theorem dX6_colours_77 : decode cX6_colours 77 = .ok (.ishl, 1) := by decide +kernel
theorem dX6_colours_78 : decode cX6_colours 78 = .ok (.ior, 1) := by decide +kernel
theorem dX6_colours_79 : decode cX6_colours 79 = .ok (.istore 4, 2) := by decide +kernel
theorem dX6_colours_81 : decode cX6_colours 81 = .ok (.iinc 5 1, 3) := by decide +kernel
theorem dX6_colours_84 : decode cX6_colours 84 = .ok (.goto (-37), 3) := by decide +kernel
theorem dX6_colours_87 : decode cX6_colours 87 = .ok (.iload 4, 2) := by decide +kernel
theorem dX6_colours_89 : decode cX6_colours 89 = .ok (.ireturn, 1) := by decide +kernel
theorem dX6_put_0 : decode cX6_put 0 = .ok (.aload_n 0, 1) := by decide +kernel
theorem dX6_put_1 : decode cX6_put 1 = .ok (.getfield 49, 3) := by decide +kernel
theorem dX6_put_4 : decode cX6_put 4 = .ok (.lload_n 1, 1) := by decide +kernel
theorem dX6_put_5 : decode cX6_put 5 = .ok (.invokevirtual 216, 3) := by decide +kernel
theorem dX6_put_8 : decode cX6_put 8 = .ok (.ireturn, 1) := by decide +kernel
theorem dX6_wipe_0 : decode cX6_wipe 0 = .ok (.aload_n 0, 1) := by decide +kernel
theorem dX6_wipe_1 : decode cX6_wipe 1 = .ok (.getfield 49, 3) := by decide +kernel
theorem dX6_wipe_4 : decode cX6_wipe 4 = .ok (.getfield 189, 3) := by decide +kernel
theorem dX6_wipe_7 : decode cX6_wipe 7 = .ok (.istore_n 1, 1) := by decide +kernel
theorem dX6_wipe_8 : decode cX6_wipe 8 = .ok (.aload_n 0, 1) := by decide +kernel
theorem dX6_wipe_9 : decode cX6_wipe 9 = .ok (.getfield 49, 3) := by decide +kernel
theorem dX6_wipe_12 : decode cX6_wipe 12 = .ok (.invokevirtual 103, 3) := by decide +kernel
theorem dX6_wipe_15 : decode cX6_wipe 15 = .ok (.iload_n 1, 1) := by decide +kernel
theorem dX6_wipe_16 : decode cX6_wipe 16 = .ok (.ireturn, 1) := by decide +kernel
theorem dX6_fault_0 : decode cX6_fault 0 = .ok (.aload_n 0, 1) := by decide +kernel
theorem dX6_fault_1 : decode cX6_fault 1 = .ok (.getfield 49, 3) := by decide +kernel
theorem dX6_fault_4 : decode cX6_fault 4 = .ok (.invokevirtual 95, 3) := by decide +kernel
theorem dX6_fault_7 : decode cX6_fault 7 = .ok (.ireturn, 1) := by decide +kernel
theorem dX6_undo_0 : decode cX6_undo 0 = .ok (.aload_n 0, 1) := by decide +kernel
theorem dX6_undo_1 : decode cX6_undo 1 = .ok (.getfield 42, 3) := by decide +kernel
theorem dX6_undo_4 : decode cX6_undo 4 = .ok (.aload_n 0, 1) := by decide +kernel
theorem dX6_undo_5 : decode cX6_undo 5 = .ok (.getfield 21, 3) := by decide +kernel
theorem dX6_undo_8 : decode cX6_undo 8 = .ok (.invokevirtual 220, 3) := by decide +kernel
theorem dX6_undo_11 : decode cX6_undo 11 = .ok (.ifCond .eq 13, 3) := by decide +kernel
theorem dX6_undo_14 : decode cX6_undo 14 = .ok (.aload_n 0, 1) := by decide +kernel
theorem dX6_undo_15 : decode cX6_undo 15 = .ok (.getfield 42, 3) := by decide +kernel
theorem dX6_undo_18 : decode cX6_undo 18 = .ok (.getfield 192, 3) := by decide +kernel
theorem dX6_undo_21 : decode cX6_undo 21 = .ok (.goto 5, 3) := by decide +kernel
theorem dX6_undo_24 : decode cX6_undo 24 = .ok (.bipush (-5), 2) := by decide +kernel
theorem dX6_undo_26 : decode cX6_undo 26 = .ok (.ireturn, 1) := by decide +kernel
theorem dX6_save_0 : decode cX6_save 0 = .ok (.iload_n 1, 1) := by decide +kernel
theorem dX6_save_1 : decode cX6_save 1 = .ok (.invokestatic 224, 3) := by decide +kernel
theorem dX6_save_4 : decode cX6_save 4 = .ok (.ifCond .ne 6, 3) := by decide +kernel
theorem dX6_save_7 : decode cX6_save 7 = .ok (.bipush (-2), 2) := by decide +kernel
theorem dX6_save_9 : decode cX6_save 9 = .ok (.ireturn, 1) := by decide +kernel
theorem dX6_save_10 : decode cX6_save 10 = .ok (.aload_n 0, 1) := by decide +kernel
theorem dX6_save_11 : decode cX6_save 11 = .ok (.getfield 35, 3) := by decide +kernel
theorem dX6_save_14 : decode cX6_save 14 = .ok (.iload_n 1, 1) := by decide +kernel
theorem dX6_save_15 : decode cX6_save 15 = .ok (.aaload, 1) := by decide +kernel
theorem dX6_save_16 : decode cX6_save 16 = .ok (.astore_n 2, 1) := by decide +kernel
theorem dX6_save_17 : decode cX6_save 17 = .ok (.aload_n 2, 1) := by decide +kernel
theorem dX6_save_18 : decode cX6_save 18 = .ok (.ifnonnull 22, 3) := by decide +kernel
theorem dX6_save_21 : decode cX6_save 21 = .ok (.new 16, 3) := by decide +kernel
theorem dX6_save_24 : decode cX6_save 24 = .ok (.dup, 1) := by decide +kernel
theorem dX6_save_25 : decode cX6_save 25 = .ok (.aload_n 0, 1) := by decide +kernel
theorem dX6_save_26 : decode cX6_save 26 = .ok (.getfield 10, 3) := by decide +kernel
theorem dX6_save_29 : decode cX6_save 29 = .ok (.invokespecial 18, 3) := by decide +kernel
theorem dX6_save_32 : decode cX6_save 32 = .ok (.astore_n 2, 1) := by decide +kernel
theorem dX6_save_33 : decode cX6_save 33 = .ok (.aload_n 0, 1) := by decide +kernel
theorem dX6_save_34 : decode cX6_save 34 = .ok (.getfield 35, 3) := by decide +kernel
theorem dX6_save_37 : decode cX6_save 37 = .ok (.iload_n 1, 1) := by decide +kernel
theorem dX6_save_38 : decode cX6_save 38 = .ok (.aload_n 2, 1) := by decide +kernel
theorem dX6_save_39 : decode cX6_save 39 = .ok (.aastore, 1) := by decide +kernel
theorem dX6_save_40 : decode cX6_save 40 = .ok (.aload_n 2, 1) := by decide +kernel
theorem dX6_save_41 : decode cX6_save 41 = .ok (.aload_n 0, 1) := by decide +kernel
theorem dX6_save_42 : decode cX6_save 42 = .ok (.getfield 21, 3) := by decide +kernel
theorem dX6_save_45 : decode cX6_save 45 = .ok (.invokevirtual 227, 3) := by decide +kernel
theorem dX6_save_48 : decode cX6_save 48 = .ok (.aload_n 0, 1) := by decide +kernel
theorem dX6_save_49 : decode cX6_save 49 = .ok (.getfield 21, 3) := by decide +kernel
theorem dX6_save_52 : decode cX6_save 52 = .ok (.getfield 176, 3) := by decide +kernel
theorem dX6_save_55 : decode cX6_save 55 = .ok (.ireturn, 1) := by decide +kernel
theorem dX6_restore_0 : decode cX6_restore 0 = .ok (.iload_n 1, 1) := by decide +kernel
theorem dX6_restore_1 : decode cX6_restore 1 = .ok (.invokestatic 224, 3) := by decide +kernel
theorem dX6_restore_4 : decode cX6_restore 4 = .ok (.ifCond .ne 6, 3) := by decide +kernel
theorem dX6_restore_7 : decode cX6_restore 7 = .ok (.bipush (-2), 2) := by decide +kernel
theorem dX6_restore_9 : decode cX6_restore 9 = .ok (.ireturn, 1) := by decide +kernel
theorem dX6_restore_10 : decode cX6_restore 10 = .ok (.aload_n 0, 1) := by decide +kernel
theorem dX6_restore_11 : decode cX6_restore 11 = .ok (.getfield 35, 3) := by decide +kernel
theorem dX6_restore_14 : decode cX6_restore 14 = .ok (.iload_n 1, 1) := by decide +kernel
theorem dX6_restore_15 : decode cX6_restore 15 = .ok (.aaload, 1) := by decide +kernel
theorem dX6_restore_16 : decode cX6_restore 16 = .ok (.astore_n 2, 1) := by decide +kernel
theorem dX6_restore_17 : decode cX6_restore 17 = .ok (.aload_n 2, 1) := by decide +kernel
theorem dX6_restore_18 : decode cX6_restore 18 = .ok (.ifnonnull 6, 3) := by decide +kernel
theorem dX6_restore_21 : decode cX6_restore 21 = .ok (.bipush (-5), 2) := by decide +kernel
theorem dX6_restore_23 : decode cX6_restore 23 = .ok (.ireturn, 1) := by decide +kernel
theorem dX6_restore_24 : decode cX6_restore 24 = .ok (.aload_n 0, 1) := by decide +kernel
theorem dX6_restore_25 : decode cX6_restore 25 = .ok (.getfield 25, 3) := by decide +kernel
theorem dX6_restore_28 : decode cX6_restore 28 = .ok (.aload_n 2, 1) := by decide +kernel
theorem dX6_restore_29 : decode cX6_restore 29 = .ok (.invokevirtual 227, 3) := by decide +kernel
theorem dX6_restore_32 : decode cX6_restore 32 = .ok (.aload_n 0, 1) := by decide +kernel
theorem dX6_restore_33 : decode cX6_restore 33 = .ok (.aload_n 0, 1) := by decide +kernel
theorem dX6_restore_34 : decode cX6_restore 34 = .ok (.getfield 25, 3) := by decide +kernel
theorem dX6_restore_37 : decode cX6_restore 37 = .ok (.getfield 176, 3) := by decide +kernel
theorem dX6_restore_40 : decode cX6_restore 40 = .ok (.invokevirtual 65, 3) := by decide +kernel
theorem dX6_restore_43 : decode cX6_restore 43 = .ok (.ireturn, 1) := by decide +kernel
theorem dX6_newDraft_0 : decode cX6_newDraft 0 = .ok (.aload_n 0, 1) := by decide +kernel
theorem dX6_newDraft_1 : decode cX6_newDraft 1 = .ok (.getfield 25, 3) := by decide +kernel
theorem dX6_newDraft_4 : decode cX6_newDraft 4 = .ok (.aload_n 0, 1) := by decide +kernel
theorem dX6_newDraft_5 : decode cX6_newDraft 5 = .ok (.getfield 21, 3) := by decide +kernel
theorem dX6_newDraft_8 : decode cX6_newDraft 8 = .ok (.invokevirtual 227, 3) := by decide +kernel
theorem dX6_newDraft_11 : decode cX6_newDraft 11 = .ok (.aload_n 0, 1) := by decide +kernel
theorem dX6_newDraft_12 : decode cX6_newDraft 12 = .ok (.getfield 25, 3) := by decide +kernel
theorem dX6_newDraft_15 : decode cX6_newDraft 15 = .ok (.areturn, 1) := by decide +kernel
theorem dX6_settle_0 : decode cX6_settle 0 = .ok (.iload_n 1, 1) := by decide +kernel
theorem dX6_settle_1 : decode cX6_settle 1 = .ok (.ifCond .lt 25, 3) := by decide +kernel
theorem dX6_settle_4 : decode cX6_settle 4 = .ok (.aload_n 0, 1) := by decide +kernel
theorem dX6_settle_5 : decode cX6_settle 5 = .ok (.getfield 42, 3) := by decide +kernel
theorem dX6_settle_8 : decode cX6_settle 8 = .ok (.aload_n 0, 1) := by decide +kernel
theorem dX6_settle_9 : decode cX6_settle 9 = .ok (.getfield 21, 3) := by decide +kernel
theorem dX6_settle_12 : decode cX6_settle 12 = .ok (.invokevirtual 230, 3) := by decide +kernel
theorem dX6_settle_15 : decode cX6_settle 15 = .ok (.aload_n 0, 1) := by decide +kernel
theorem dX6_settle_16 : decode cX6_settle 16 = .ok (.getfield 21, 3) := by decide +kernel
theorem dX6_settle_19 : decode cX6_settle 19 = .ok (.aload_n 0, 1) := by decide +kernel
theorem dX6_settle_20 : decode cX6_settle 20 = .ok (.getfield 25, 3) := by decide +kernel
theorem dX6_settle_23 : decode cX6_settle 23 = .ok (.invokevirtual 227, 3) := by decide +kernel
theorem dX6_settle_26 : decode cX6_settle 26 = .ok (.iload_n 1, 1) := by decide +kernel
theorem dX6_settle_27 : decode cX6_settle 27 = .ok (.ireturn, 1) := by decide +kernel
theorem dX6_isColour_0 : decode cX6_isColour 0 = .ok (.iload_n 0, 1) := by decide +kernel
theorem dX6_isColour_1 : decode cX6_isColour 1 = .ok (.iconst 1, 1) := by decide +kernel
theorem dX6_isColour_2 : decode cX6_isColour 2 = .ok (.if_icmp .lt 12, 3) := by decide +kernel
theorem dX6_isColour_5 : decode cX6_isColour 5 = .ok (.iload_n 0, 1) := by decide +kernel
theorem dX6_isColour_6 : decode cX6_isColour 6 = .ok (.iconst 4, 1) := by decide +kernel
theorem dX6_isColour_7 : decode cX6_isColour 7 = .ok (.if_icmp .gt 7, 3) := by decide +kernel
theorem dX6_isColour_10 : decode cX6_isColour 10 = .ok (.iconst 1, 1) := by decide +kernel
theorem dX6_isColour_11 : decode cX6_isColour 11 = .ok (.goto 4, 3) := by decide +kernel
theorem dX6_isColour_14 : decode cX6_isColour 14 = .ok (.iconst 0, 1) := by decide +kernel
theorem dX6_isColour_15 : decode cX6_isColour 15 = .ok (.ireturn, 1) := by decide +kernel
theorem dX6_isLetter_0 : decode cX6_isLetter 0 = .ok (.iload_n 0, 1) := by decide +kernel
theorem dX6_isLetter_1 : decode cX6_isLetter 1 = .ok (.ifCond .lt 13, 3) := by decide +kernel
theorem dX6_isLetter_4 : decode cX6_isLetter 4 = .ok (.iload_n 0, 1) := by decide +kernel
theorem dX6_isLetter_5 : decode cX6_isLetter 5 = .ok (.bipush 8, 2) := by decide +kernel
theorem dX6_isLetter_7 : decode cX6_isLetter 7 = .ok (.if_icmp .ge 7, 3) := by decide +kernel
theorem dX6_isLetter_10 : decode cX6_isLetter 10 = .ok (.iconst 1, 1) := by decide +kernel
theorem dX6_isLetter_11 : decode cX6_isLetter 11 = .ok (.goto 4, 3) := by decide +kernel
theorem dX6_isLetter_14 : decode cX6_isLetter 14 = .ok (.iconst 0, 1) := by decide +kernel
theorem dX6_isLetter_15 : decode cX6_isLetter 15 = .ok (.ireturn, 1) := by decide +kernel
theorem dX6_isWay_0 : decode cX6_isWay 0 = .ok (.iload_n 0, 1) := by decide +kernel
theorem dX6_isWay_1 : decode cX6_isWay 1 = .ok (.ifCond .lt 13, 3) := by decide +kernel
theorem dX6_isWay_4 : decode cX6_isWay 4 = .ok (.iload_n 0, 1) := by decide +kernel
theorem dX6_isWay_5 : decode cX6_isWay 5 = .ok (.bipush 8, 2) := by decide +kernel
theorem dX6_isWay_7 : decode cX6_isWay 7 = .ok (.if_icmp .ge 7, 3) := by decide +kernel
theorem dX6_isWay_10 : decode cX6_isWay 10 = .ok (.iconst 1, 1) := by decide +kernel
theorem dX6_isWay_11 : decode cX6_isWay 11 = .ok (.goto 4, 3) := by decide +kernel
theorem dX6_isWay_14 : decode cX6_isWay 14 = .ok (.iconst 0, 1) := by decide +kernel
theorem dX6_isWay_15 : decode cX6_isWay 15 = .ok (.ireturn, 1) := by decide +kernel
theorem dX6_isMirroring_0 : decode cX6_isMirroring 0 = .ok (.iload_n 0, 1) := by decide +kernel
theorem dX6_isMirroring_1 : decode cX6_isMirroring 1 = .ok (.ifCond .eq 8, 3) := by decide +kernel
theorem dX6_isMirroring_4 : decode cX6_isMirroring 4 = .ok (.iload_n 0, 1) := by decide +kernel
theorem dX6_isMirroring_5 : decode cX6_isMirroring 5 = .ok (.iconst 1, 1) := by decide +kernel
theorem dX6_isMirroring_6 : decode cX6_isMirroring 6 = .ok (.if_icmp .ne 7, 3) := by decide +kernel
theorem dX6_isMirroring_9 : decode cX6_isMirroring 9 = .ok (.iconst 1, 1) := by decide +kernel
theorem dX6_isMirroring_10 : decode cX6_isMirroring 10 = .ok (.goto 4, 3) := by decide +kernel
theorem dX6_isMirroring_13 : decode cX6_isMirroring 13 = .ok (.iconst 0, 1) := by decide +kernel
theorem dX6_isMirroring_14 : decode cX6_isMirroring 14 = .ok (.ireturn, 1) := by decide +kernel
theorem dX6_isPane_0 : decode cX6_isPane 0 = .ok (.iload_n 0, 1) := by decide +kernel
theorem dX6_isPane_1 : decode cX6_isPane 1 = .ok (.ifCond .lt 12, 3) := by decide +kernel
theorem dX6_isPane_4 : decode cX6_isPane 4 = .ok (.iload_n 0, 1) := by decide +kernel
theorem dX6_isPane_5 : decode cX6_isPane 5 = .ok (.iconst 3, 1) := by decide +kernel
theorem dX6_isPane_6 : decode cX6_isPane 6 = .ok (.if_icmp .ge 7, 3) := by decide +kernel
theorem dX6_isPane_9 : decode cX6_isPane 9 = .ok (.iconst 1, 1) := by decide +kernel
theorem dX6_isPane_10 : decode cX6_isPane 10 = .ok (.goto 4, 3) := by decide +kernel
theorem dX6_isPane_13 : decode cX6_isPane 13 = .ok (.iconst 0, 1) := by decide +kernel
theorem dX6_isPane_14 : decode cX6_isPane 14 = .ok (.ireturn, 1) := by decide +kernel
theorem dX6_isPlace_0 : decode cX6_isPlace 0 = .ok (.iload_n 0, 1) := by decide +kernel
theorem dX6_isPlace_1 : decode cX6_isPlace 1 = .ok (.ifCond .lt 13, 3) := by decide +kernel
theorem dX6_isPlace_4 : decode cX6_isPlace 4 = .ok (.iload_n 0, 1) := by decide +kernel
theorem dX6_isPlace_5 : decode cX6_isPlace 5 = .ok (.bipush 12, 2) := by decide +kernel
theorem dX6_isPlace_7 : decode cX6_isPlace 7 = .ok (.if_icmp .ge 7, 3) := by decide +kernel
theorem dX6_isPlace_10 : decode cX6_isPlace 10 = .ok (.iconst 1, 1) := by decide +kernel
theorem dX6_isPlace_11 : decode cX6_isPlace 11 = .ok (.goto 4, 3) := by decide +kernel
theorem dX6_isPlace_14 : decode cX6_isPlace 14 = .ok (.iconst 0, 1) := by decide +kernel
theorem dX6_isPlace_15 : decode cX6_isPlace 15 = .ok (.ireturn, 1) := by decide +kernel
theorem dX6_isSlot_0 : decode cX6_isSlot 0 = .ok (.iload_n 0, 1) := by decide +kernel
theorem dX6_isSlot_1 : decode cX6_isSlot 1 = .ok (.ifCond .lt 12, 3) := by decide +kernel
theorem dX6_isSlot_4 : decode cX6_isSlot 4 = .ok (.iload_n 0, 1) := by decide +kernel
theorem dX6_isSlot_5 : decode cX6_isSlot 5 = .ok (.iconst 2, 1) := by decide +kernel
theorem dX6_isSlot_6 : decode cX6_isSlot 6 = .ok (.if_icmp .ge 7, 3) := by decide +kernel
theorem dX6_isSlot_9 : decode cX6_isSlot 9 = .ok (.iconst 1, 1) := by decide +kernel
theorem dX6_isSlot_10 : decode cX6_isSlot 10 = .ok (.goto 4, 3) := by decide +kernel
theorem dX6_isSlot_13 : decode cX6_isSlot 13 = .ok (.iconst 0, 1) := by decide +kernel
theorem dX6_isSlot_14 : decode cX6_isSlot 14 = .ok (.ireturn, 1) := by decide +kernel
theorem dX6_heightOf_0 : decode cX6_heightOf 0 = .ok (.iload_n 0, 1) := by decide +kernel
theorem dX6_heightOf_1 : decode cX6_heightOf 1 = .ok (.iconst 2, 1) := by decide +kernel
theorem dX6_heightOf_2 : decode cX6_heightOf 2 = .ok (.irem, 1) := by decide +kernel
theorem dX6_heightOf_3 : decode cX6_heightOf 3 = .ok (.ifCond .ne 7, 3) := by decide +kernel
theorem dX6_heightOf_6 : decode cX6_heightOf 6 = .ok (.iconst 5, 1) := by decide +kernel
theorem dX6_heightOf_7 : decode cX6_heightOf 7 = .ok (.goto 4, 3) := by decide +kernel
theorem dX6_heightOf_10 : decode cX6_heightOf 10 = .ok (.iconst 3, 1) := by decide +kernel
theorem dX6_heightOf_11 : decode cX6_heightOf 11 = .ok (.ireturn, 1) := by decide +kernel
theorem dX6_widthOf_0 : decode cX6_widthOf 0 = .ok (.iload_n 0, 1) := by decide +kernel
theorem dX6_widthOf_1 : decode cX6_widthOf 1 = .ok (.iconst 2, 1) := by decide +kernel
theorem dX6_widthOf_2 : decode cX6_widthOf 2 = .ok (.irem, 1) := by decide +kernel
theorem dX6_widthOf_3 : decode cX6_widthOf 3 = .ok (.ifCond .ne 7, 3) := by decide +kernel
theorem dX6_widthOf_6 : decode cX6_widthOf 6 = .ok (.iconst 3, 1) := by decide +kernel
theorem dX6_widthOf_7 : decode cX6_widthOf 7 = .ok (.goto 4, 3) := by decide +kernel
theorem dX6_widthOf_10 : decode cX6_widthOf 10 = .ok (.iconst 5, 1) := by decide +kernel
theorem dX6_widthOf_11 : decode cX6_widthOf 11 = .ok (.ireturn, 1) := by decide +kernel
theorem dX6_mirroringOf_0 : decode cX6_mirroringOf 0 = .ok (.iload_n 0, 1) := by decide +kernel
theorem dX6_mirroringOf_1 : decode cX6_mirroringOf 1 = .ok (.iconst 4, 1) := by decide +kernel
theorem dX6_mirroringOf_2 : decode cX6_mirroringOf 2 = .ok (.if_icmp .ge 7, 3) := by decide +kernel
theorem dX6_mirroringOf_5 : decode cX6_mirroringOf 5 = .ok (.iconst 0, 1) := by decide +kernel
theorem dX6_mirroringOf_6 : decode cX6_mirroringOf 6 = .ok (.goto 4, 3) := by decide +kernel
theorem dX6_mirroringOf_9 : decode cX6_mirroringOf 9 = .ok (.iconst 1, 1) := by decide +kernel
theorem dX6_mirroringOf_10 : decode cX6_mirroringOf 10 = .ok (.ireturn, 1) := by decide +kernel
theorem dX6_rowIn_0 : decode cX6_rowIn 0 = .ok (.iload_n 0, 1) := by decide +kernel
theorem dX6_rowIn_1 : decode cX6_rowIn 1 = .ok (.bipush 8, 2) := by decide +kernel
theorem dX6_rowIn_3 : decode cX6_rowIn 3 = .ok (.idiv, 1) := by decide +kernel
theorem dX6_rowIn_4 : decode cX6_rowIn 4 = .ok (.bipush 14, 2) := by decide +kernel
theorem dX6_rowIn_6 : decode cX6_rowIn 6 = .ok (.idiv, 1) := by decide +kernel
theorem dX6_rowIn_7 : decode cX6_rowIn 7 = .ok (.ireturn, 1) := by decide +kernel
theorem dX6_columnIn_0 : decode cX6_columnIn 0 = .ok (.iload_n 0, 1) := by decide +kernel
theorem dX6_columnIn_1 : decode cX6_columnIn 1 = .ok (.bipush 8, 2) := by decide +kernel
theorem dX6_columnIn_3 : decode cX6_columnIn 3 = .ok (.idiv, 1) := by decide +kernel
theorem dX6_columnIn_4 : decode cX6_columnIn 4 = .ok (.bipush 14, 2) := by decide +kernel
theorem dX6_columnIn_6 : decode cX6_columnIn 6 = .ok (.irem, 1) := by decide +kernel
theorem dX6_columnIn_7 : decode cX6_columnIn 7 = .ok (.ireturn, 1) := by decide +kernel
theorem dX6_wayIn_0 : decode cX6_wayIn 0 = .ok (.iload_n 0, 1) := by decide +kernel
theorem dX6_wayIn_1 : decode cX6_wayIn 1 = .ok (.bipush 8, 2) := by decide +kernel
theorem dX6_wayIn_3 : decode cX6_wayIn 3 = .ok (.irem, 1) := by decide +kernel
theorem dX6_wayIn_4 : decode cX6_wayIn 4 = .ok (.ireturn, 1) := by decide +kernel
theorem dX6_lowestIn_0 : decode cX6_lowestIn 0 = .ok (.iload_n 0, 1) := by decide +kernel
theorem dX6_lowestIn_1 : decode cX6_lowestIn 1 = .ok (.iconst (-1), 1) := by decide +kernel
theorem dX6_lowestIn_2 : decode cX6_lowestIn 2 = .ok (.ixor, 1) := by decide +kernel
theorem dX6_lowestIn_3 : decode cX6_lowestIn 3 = .ok (.iload_n 0, 1) := by decide +kernel
theorem dX6_lowestIn_4 : decode cX6_lowestIn 4 = .ok (.iconst 1, 1) := by decide +kernel
theorem dX6_lowestIn_5 : decode cX6_lowestIn 5 = .ok (.isub, 1) := by decide +kernel
theorem dX6_lowestIn_6 : decode cX6_lowestIn 6 = .ok (.iand, 1) := by decide +kernel
theorem dX6_lowestIn_7 : decode cX6_lowestIn 7 = .ok (.invokestatic 233, 3) := by decide +kernel
theorem dX6_lowestIn_10 : decode cX6_lowestIn 10 = .ok (.ireturn, 1) := by decide +kernel
theorem dJ11_isValidCodePoint_9a6ad_0 : decode cJ11_isValidCodePoint_9a6ad 0 = .ok (.iload_n 0, 1) := by decide +kernel
theorem dJ11_isValidCodePoint_9a6ad_1 : decode cJ11_isValidCodePoint_9a6ad 1 = .ok (.bipush 16, 2) := by decide +kernel
theorem dJ11_isValidCodePoint_9a6ad_3 : decode cJ11_isValidCodePoint_9a6ad 3 = .ok (.iushr, 1) := by decide +kernel
theorem dJ11_isValidCodePoint_9a6ad_4 : decode cJ11_isValidCodePoint_9a6ad 4 = .ok (.istore_n 1, 1) := by decide +kernel
theorem dJ11_isValidCodePoint_9a6ad_5 : decode cJ11_isValidCodePoint_9a6ad 5 = .ok (.iload_n 1, 1) := by decide +kernel
theorem dJ11_isValidCodePoint_9a6ad_6 : decode cJ11_isValidCodePoint_9a6ad 6 = .ok (.bipush 17, 2) := by decide +kernel
theorem dJ11_isValidCodePoint_9a6ad_8 : decode cJ11_isValidCodePoint_9a6ad 8 = .ok (.if_icmp .ge 7, 3) := by decide +kernel
theorem dJ11_isValidCodePoint_9a6ad_11 : decode cJ11_isValidCodePoint_9a6ad 11 = .ok (.iconst 1, 1) := by decide +kernel
theorem dJ11_isValidCodePoint_9a6ad_12 : decode cJ11_isValidCodePoint_9a6ad 12 = .ok (.goto 4, 3) := by decide +kernel
theorem dJ11_isValidCodePoint_9a6ad_15 : decode cJ11_isValidCodePoint_9a6ad 15 = .ok (.iconst 0, 1) := by decide +kernel
theorem dJ11_isValidCodePoint_9a6ad_16 : decode cJ11_isValidCodePoint_9a6ad 16 = .ok (.ireturn, 1) := by decide +kernel
theorem dJ11_highSurrogate_5068e_0 : decode cJ11_highSurrogate_5068e 0 = .ok (.iload_n 0, 1) := by decide +kernel
theorem dJ11_highSurrogate_5068e_1 : decode cJ11_highSurrogate_5068e 1 = .ok (.bipush 10, 2) := by decide +kernel
theorem dJ11_highSurrogate_5068e_3 : decode cJ11_highSurrogate_5068e 3 = .ok (.iushr, 1) := by decide +kernel
theorem dJ11_highSurrogate_5068e_4 : decode cJ11_highSurrogate_5068e 4 = .ok (.ldc 110, 2) := by decide +kernel
theorem dJ11_highSurrogate_5068e_6 : decode cJ11_highSurrogate_5068e 6 = .ok (.iadd, 1) := by decide +kernel
theorem dJ11_highSurrogate_5068e_7 : decode cJ11_highSurrogate_5068e 7 = .ok (.i2c, 1) := by decide +kernel
theorem dJ11_highSurrogate_5068e_8 : decode cJ11_highSurrogate_5068e 8 = .ok (.ireturn, 1) := by decide +kernel
theorem dJ11_lowSurrogate_5068e_0 : decode cJ11_lowSurrogate_5068e 0 = .ok (.iload_n 0, 1) := by decide +kernel
theorem dJ11_lowSurrogate_5068e_1 : decode cJ11_lowSurrogate_5068e 1 = .ok (.sipush 1023, 3) := by decide +kernel
theorem dJ11_lowSurrogate_5068e_4 : decode cJ11_lowSurrogate_5068e 4 = .ok (.iand, 1) := by decide +kernel
theorem dJ11_lowSurrogate_5068e_5 : decode cJ11_lowSurrogate_5068e 5 = .ok (.ldc 76, 2) := by decide +kernel
theorem dJ11_lowSurrogate_5068e_7 : decode cJ11_lowSurrogate_5068e 7 = .ok (.iadd, 1) := by decide +kernel
theorem dJ11_lowSurrogate_5068e_8 : decode cJ11_lowSurrogate_5068e 8 = .ok (.i2c, 1) := by decide +kernel
theorem dJ11_lowSurrogate_5068e_9 : decode cJ11_lowSurrogate_5068e 9 = .ok (.ireturn, 1) := by decide +kernel
theorem dJ6_bitCount_0f7a4_0 : decode cJ6_bitCount_0f7a4 0 = .ok (.iload_n 0, 1) := by decide +kernel
theorem dJ6_bitCount_0f7a4_1 : decode cJ6_bitCount_0f7a4 1 = .ok (.iload_n 0, 1) := by decide +kernel
theorem dJ6_bitCount_0f7a4_2 : decode cJ6_bitCount_0f7a4 2 = .ok (.iconst 1, 1) := by decide +kernel
theorem dJ6_bitCount_0f7a4_3 : decode cJ6_bitCount_0f7a4 3 = .ok (.iushr, 1) := by decide +kernel
theorem dJ6_bitCount_0f7a4_4 : decode cJ6_bitCount_0f7a4 4 = .ok (.ldc_w 265, 3) := by decide +kernel
theorem dJ6_bitCount_0f7a4_7 : decode cJ6_bitCount_0f7a4 7 = .ok (.iand, 1) := by decide +kernel
theorem dJ6_bitCount_0f7a4_8 : decode cJ6_bitCount_0f7a4 8 = .ok (.isub, 1) := by decide +kernel
theorem dJ6_bitCount_0f7a4_9 : decode cJ6_bitCount_0f7a4 9 = .ok (.istore_n 0, 1) := by decide +kernel
theorem dJ6_bitCount_0f7a4_10 : decode cJ6_bitCount_0f7a4 10 = .ok (.iload_n 0, 1) := by decide +kernel
theorem dJ6_bitCount_0f7a4_11 : decode cJ6_bitCount_0f7a4 11 = .ok (.ldc_w 266, 3) := by decide +kernel
theorem dJ6_bitCount_0f7a4_14 : decode cJ6_bitCount_0f7a4 14 = .ok (.iand, 1) := by decide +kernel
theorem dJ6_bitCount_0f7a4_15 : decode cJ6_bitCount_0f7a4 15 = .ok (.iload_n 0, 1) := by decide +kernel
theorem dJ6_bitCount_0f7a4_16 : decode cJ6_bitCount_0f7a4 16 = .ok (.iconst 2, 1) := by decide +kernel
theorem dJ6_bitCount_0f7a4_17 : decode cJ6_bitCount_0f7a4 17 = .ok (.iushr, 1) := by decide +kernel
theorem dJ6_bitCount_0f7a4_18 : decode cJ6_bitCount_0f7a4 18 = .ok (.ldc_w 266, 3) := by decide +kernel
theorem dJ6_bitCount_0f7a4_21 : decode cJ6_bitCount_0f7a4 21 = .ok (.iand, 1) := by decide +kernel
theorem dJ6_bitCount_0f7a4_22 : decode cJ6_bitCount_0f7a4 22 = .ok (.iadd, 1) := by decide +kernel
theorem dJ6_bitCount_0f7a4_23 : decode cJ6_bitCount_0f7a4 23 = .ok (.istore_n 0, 1) := by decide +kernel
theorem dJ6_bitCount_0f7a4_24 : decode cJ6_bitCount_0f7a4 24 = .ok (.iload_n 0, 1) := by decide +kernel
theorem dJ6_bitCount_0f7a4_25 : decode cJ6_bitCount_0f7a4 25 = .ok (.iload_n 0, 1) := by decide +kernel
theorem dJ6_bitCount_0f7a4_26 : decode cJ6_bitCount_0f7a4 26 = .ok (.iconst 4, 1) := by decide +kernel
theorem dJ6_bitCount_0f7a4_27 : decode cJ6_bitCount_0f7a4 27 = .ok (.iushr, 1) := by decide +kernel
theorem dJ6_bitCount_0f7a4_28 : decode cJ6_bitCount_0f7a4 28 = .ok (.iadd, 1) := by decide +kernel
theorem dJ6_bitCount_0f7a4_29 : decode cJ6_bitCount_0f7a4 29 = .ok (.ldc_w 267, 3) := by decide +kernel
theorem dJ6_bitCount_0f7a4_32 : decode cJ6_bitCount_0f7a4 32 = .ok (.iand, 1) := by decide +kernel
theorem dJ6_bitCount_0f7a4_33 : decode cJ6_bitCount_0f7a4 33 = .ok (.istore_n 0, 1) := by decide +kernel
theorem dJ6_bitCount_0f7a4_34 : decode cJ6_bitCount_0f7a4 34 = .ok (.iload_n 0, 1) := by decide +kernel
theorem dJ6_bitCount_0f7a4_35 : decode cJ6_bitCount_0f7a4 35 = .ok (.iload_n 0, 1) := by decide +kernel
theorem dJ6_bitCount_0f7a4_36 : decode cJ6_bitCount_0f7a4 36 = .ok (.bipush 8, 2) := by decide +kernel
theorem dJ6_bitCount_0f7a4_38 : decode cJ6_bitCount_0f7a4 38 = .ok (.iushr, 1) := by decide +kernel
theorem dJ6_bitCount_0f7a4_39 : decode cJ6_bitCount_0f7a4 39 = .ok (.iadd, 1) := by decide +kernel
theorem dJ6_bitCount_0f7a4_40 : decode cJ6_bitCount_0f7a4 40 = .ok (.istore_n 0, 1) := by decide +kernel
theorem dJ6_bitCount_0f7a4_41 : decode cJ6_bitCount_0f7a4 41 = .ok (.iload_n 0, 1) := by decide +kernel
theorem dJ6_bitCount_0f7a4_42 : decode cJ6_bitCount_0f7a4 42 = .ok (.iload_n 0, 1) := by decide +kernel
theorem dJ6_bitCount_0f7a4_43 : decode cJ6_bitCount_0f7a4 43 = .ok (.bipush 16, 2) := by decide +kernel
theorem dJ6_bitCount_0f7a4_45 : decode cJ6_bitCount_0f7a4 45 = .ok (.iushr, 1) := by decide +kernel
theorem dJ6_bitCount_0f7a4_46 : decode cJ6_bitCount_0f7a4 46 = .ok (.iadd, 1) := by decide +kernel
theorem dJ6_bitCount_0f7a4_47 : decode cJ6_bitCount_0f7a4 47 = .ok (.istore_n 0, 1) := by decide +kernel
theorem dJ6_bitCount_0f7a4_48 : decode cJ6_bitCount_0f7a4 48 = .ok (.iload_n 0, 1) := by decide +kernel
theorem dJ6_bitCount_0f7a4_49 : decode cJ6_bitCount_0f7a4 49 = .ok (.bipush 63, 2) := by decide +kernel
theorem dJ6_bitCount_0f7a4_51 : decode cJ6_bitCount_0f7a4 51 = .ok (.iand, 1) := by decide +kernel
theorem dJ6_bitCount_0f7a4_52 : decode cJ6_bitCount_0f7a4 52 = .ok (.ireturn, 1) := by decide +kernel
theorem dJ9_floorMod_7cf53_0 : decode cJ9_floorMod_7cf53 0 = .ok (.iload_n 0, 1) := by decide +kernel
theorem dJ9_floorMod_7cf53_1 : decode cJ9_floorMod_7cf53 1 = .ok (.iload_n 1, 1) := by decide +kernel
theorem dJ9_floorMod_7cf53_2 : decode cJ9_floorMod_7cf53 2 = .ok (.irem, 1) := by decide +kernel
theorem dJ9_floorMod_7cf53_3 : decode cJ9_floorMod_7cf53 3 = .ok (.istore_n 2, 1) := by decide +kernel
theorem dJ9_floorMod_7cf53_4 : decode cJ9_floorMod_7cf53 4 = .ok (.iload_n 0, 1) := by decide +kernel
theorem dJ9_floorMod_7cf53_5 : decode cJ9_floorMod_7cf53 5 = .ok (.iload_n 1, 1) := by decide +kernel
theorem dJ9_floorMod_7cf53_6 : decode cJ9_floorMod_7cf53 6 = .ok (.ixor, 1) := by decide +kernel
theorem dJ9_floorMod_7cf53_7 : decode cJ9_floorMod_7cf53 7 = .ok (.ifCond .ge 11, 3) := by decide +kernel
theorem dJ9_floorMod_7cf53_10 : decode cJ9_floorMod_7cf53 10 = .ok (.iload_n 2, 1) := by decide +kernel
theorem dJ9_floorMod_7cf53_11 : decode cJ9_floorMod_7cf53 11 = .ok (.ifCond .eq 7, 3) := by decide +kernel
theorem dJ9_floorMod_7cf53_14 : decode cJ9_floorMod_7cf53 14 = .ok (.iload_n 2, 1) := by decide +kernel
theorem dJ9_floorMod_7cf53_15 : decode cJ9_floorMod_7cf53 15 = .ok (.iload_n 1, 1) := by decide +kernel
theorem dJ9_floorMod_7cf53_16 : decode cJ9_floorMod_7cf53 16 = .ok (.iadd, 1) := by decide +kernel
theorem dJ9_floorMod_7cf53_17 : decode cJ9_floorMod_7cf53 17 = .ok (.ireturn, 1) := by decide +kernel
theorem dJ9_floorMod_7cf53_18 : decode cJ9_floorMod_7cf53 18 = .ok (.iload_n 2, 1) := by decide +kernel
theorem dJ9_floorMod_7cf53_19 : decode cJ9_floorMod_7cf53 19 = .ok (.ireturn, 1) := by decide +kernel
theorem dJ9_max_7cf53_0 : decode cJ9_max_7cf53 0 = .ok (.iload_n 0, 1) := by decide +kernel
theorem dJ9_max_7cf53_1 : decode cJ9_max_7cf53 1 = .ok (.iload_n 1, 1) := by decide +kernel
theorem dJ9_max_7cf53_2 : decode cJ9_max_7cf53 2 = .ok (.if_icmp .lt 7, 3) := by decide +kernel
theorem dJ9_max_7cf53_5 : decode cJ9_max_7cf53 5 = .ok (.iload_n 0, 1) := by decide +kernel
theorem dJ9_max_7cf53_6 : decode cJ9_max_7cf53 6 = .ok (.goto 4, 3) := by decide +kernel
theorem dJ9_max_7cf53_9 : decode cJ9_max_7cf53 9 = .ok (.iload_n 1, 1) := by decide +kernel
theorem dJ9_max_7cf53_10 : decode cJ9_max_7cf53 10 = .ok (.ireturn, 1) := by decide +kernel
theorem dJ9_min_7cf53_0 : decode cJ9_min_7cf53 0 = .ok (.iload_n 0, 1) := by decide +kernel
theorem dJ9_min_7cf53_1 : decode cJ9_min_7cf53 1 = .ok (.iload_n 1, 1) := by decide +kernel
theorem dJ9_min_7cf53_2 : decode cJ9_min_7cf53 2 = .ok (.if_icmp .gt 7, 3) := by decide +kernel
theorem dJ9_min_7cf53_5 : decode cJ9_min_7cf53 5 = .ok (.iload_n 0, 1) := by decide +kernel
theorem dJ9_min_7cf53_6 : decode cJ9_min_7cf53 6 = .ok (.goto 4, 3) := by decide +kernel
theorem dJ9_min_7cf53_9 : decode cJ9_min_7cf53 9 = .ok (.iload_n 1, 1) := by decide +kernel
theorem dJ9_min_7cf53_10 : decode cJ9_min_7cf53 10 = .ok (.ireturn, 1) := by decide +kernel
theorem dJ0_length_8abf5_0 : decode cJ0_length_8abf5 0 = .ok (.aload_n 0, 1) := by decide +kernel
theorem dJ0_length_8abf5_1 : decode cJ0_length_8abf5 1 = .ok (.getfield 9, 3) := by decide +kernel
theorem dJ0_length_8abf5_4 : decode cJ0_length_8abf5 4 = .ok (.arraylength, 1) := by decide +kernel
theorem dJ0_length_8abf5_5 : decode cJ0_length_8abf5 5 = .ok (.aload_n 0, 1) := by decide +kernel
theorem dJ0_length_8abf5_6 : decode cJ0_length_8abf5 6 = .ok (.invokevirtual 335, 3) := by decide +kernel
theorem dJ0_length_8abf5_9 : decode cJ0_length_8abf5 9 = .ok (.ishr, 1) := by decide +kernel
theorem dJ0_length_8abf5_10 : decode cJ0_length_8abf5 10 = .ok (.ireturn, 1) := by decide +kernel
theorem dJ0_indexOf_0f7a4_0 : decode cJ0_indexOf_0f7a4 0 = .ok (.aload_n 0, 1) := by decide +kernel
theorem dJ0_indexOf_0f7a4_1 : decode cJ0_indexOf_0f7a4 1 = .ok (.iload_n 1, 1) := by decide +kernel
theorem dJ0_indexOf_0f7a4_2 : decode cJ0_indexOf_0f7a4 2 = .ok (.iconst 0, 1) := by decide +kernel
theorem dJ0_indexOf_0f7a4_3 : decode cJ0_indexOf_0f7a4 3 = .ok (.invokevirtual 633, 3) := by decide +kernel
theorem dJ0_indexOf_0f7a4_6 : decode cJ0_indexOf_0f7a4 6 = .ok (.ireturn, 1) := by decide +kernel
theorem dJ0_indexOf_7cf53_0 : decode cJ0_indexOf_7cf53 0 = .ok (.aload_n 0, 1) := by decide +kernel
theorem dJ0_indexOf_7cf53_1 : decode cJ0_indexOf_7cf53 1 = .ok (.invokevirtual 492, 3) := by decide +kernel
theorem dJ0_indexOf_7cf53_4 : decode cJ0_indexOf_7cf53 4 = .ok (.ifCond .eq 19, 3) := by decide +kernel
theorem dJ0_indexOf_7cf53_7 : decode cJ0_indexOf_7cf53 7 = .ok (.aload_n 0, 1) := by decide +kernel
theorem dJ0_indexOf_7cf53_8 : decode cJ0_indexOf_7cf53 8 = .ok (.getfield 9, 3) := by decide +kernel
theorem dJ0_indexOf_7cf53_11 : decode cJ0_indexOf_7cf53 11 = .ok (.iload_n 1, 1) := by decide +kernel
theorem dJ0_indexOf_7cf53_12 : decode cJ0_indexOf_7cf53 12 = .ok (.iload_n 2, 1) := by decide +kernel
theorem dJ0_indexOf_7cf53_13 : decode cJ0_indexOf_7cf53 13 = .ok (.aload_n 0, 1) := by decide +kernel
theorem dJ0_indexOf_7cf53_14 : decode cJ0_indexOf_7cf53 14 = .ok (.invokevirtual 505, 3) := by decide +kernel
theorem dJ0_indexOf_7cf53_17 : decode cJ0_indexOf_7cf53 17 = .ok (.invokestatic 637, 3) := by decide +kernel
theorem dJ0_indexOf_7cf53_20 : decode cJ0_indexOf_7cf53 20 = .ok (.goto 16, 3) := by decide +kernel
theorem dJ0_indexOf_7cf53_23 : decode cJ0_indexOf_7cf53 23 = .ok (.aload_n 0, 1) := by decide +kernel
theorem dJ0_indexOf_7cf53_24 : decode cJ0_indexOf_7cf53 24 = .ok (.getfield 9, 3) := by decide +kernel
theorem dJ0_indexOf_7cf53_27 : decode cJ0_indexOf_7cf53 27 = .ok (.iload_n 1, 1) := by decide +kernel
theorem dJ0_indexOf_7cf53_28 : decode cJ0_indexOf_7cf53 28 = .ok (.iload_n 2, 1) := by decide +kernel
theorem dJ0_indexOf_7cf53_29 : decode cJ0_indexOf_7cf53 29 = .ok (.aload_n 0, 1) := by decide +kernel
theorem dJ0_indexOf_7cf53_30 : decode cJ0_indexOf_7cf53 30 = .ok (.invokevirtual 505, 3) := by decide +kernel
theorem dJ0_indexOf_7cf53_33 : decode cJ0_indexOf_7cf53 33 = .ok (.invokestatic 640, 3) := by decide +kernel
theorem dJ0_indexOf_7cf53_36 : decode cJ0_indexOf_7cf53 36 = .ok (.ireturn, 1) := by decide +kernel
theorem dJ0_coder_7d493_0 : decode cJ0_coder_7d493 0 = .ok (.getstatic 38, 3) := by decide +kernel
theorem dJ0_coder_7d493_3 : decode cJ0_coder_7d493 3 = .ok (.ifCond .eq 10, 3) := by decide +kernel
theorem dJ0_coder_7d493_6 : decode cJ0_coder_7d493 6 = .ok (.aload_n 0, 1) := by decide +kernel
theorem dJ0_coder_7d493_7 : decode cJ0_coder_7d493 7 = .ok (.getfield 15, 3) := by decide +kernel
theorem dJ0_coder_7d493_10 : decode cJ0_coder_7d493 10 = .ok (.goto 4, 3) := by decide +kernel
theorem dJ0_coder_7d493_13 : decode cJ0_coder_7d493 13 = .ok (.iconst 1, 1) := by decide +kernel
theorem dJ0_coder_7d493_14 : decode cJ0_coder_7d493 14 = .ok (.ireturn, 1) := by decide +kernel
theorem dJ0_isLatin1_aae02_0 : decode cJ0_isLatin1_aae02 0 = .ok (.getstatic 38, 3) := by decide +kernel
theorem dJ0_isLatin1_aae02_3 : decode cJ0_isLatin1_aae02 3 = .ok (.ifCond .eq 14, 3) := by decide +kernel
theorem dJ0_isLatin1_aae02_6 : decode cJ0_isLatin1_aae02 6 = .ok (.aload_n 0, 1) := by decide +kernel
theorem dJ0_isLatin1_aae02_7 : decode cJ0_isLatin1_aae02 7 = .ok (.getfield 15, 3) := by decide +kernel
theorem dJ0_isLatin1_aae02_10 : decode cJ0_isLatin1_aae02 10 = .ok (.ifCond .ne 7, 3) := by decide +kernel
theorem dJ0_isLatin1_aae02_13 : decode cJ0_isLatin1_aae02 13 = .ok (.iconst 1, 1) := by decide +kernel
theorem dJ0_isLatin1_aae02_14 : decode cJ0_isLatin1_aae02 14 = .ok (.goto 4, 3) := by decide +kernel
theorem dJ0_isLatin1_aae02_17 : decode cJ0_isLatin1_aae02 17 = .ok (.iconst 0, 1) := by decide +kernel
theorem dJ0_isLatin1_aae02_18 : decode cJ0_isLatin1_aae02 18 = .ok (.ireturn, 1) := by decide +kernel
theorem dJ0_checkBoundsBeginEnd_23922_0 : decode cJ0_checkBoundsBeginEnd_23922 0 = .ok (.iload_n 0, 1) := by decide +kernel
theorem dJ0_checkBoundsBeginEnd_23922_1 : decode cJ0_checkBoundsBeginEnd_23922 1 = .ok (.iload_n 1, 1) := by decide +kernel
theorem dJ0_checkBoundsBeginEnd_23922_2 : decode cJ0_checkBoundsBeginEnd_23922 2 = .ok (.iload_n 2, 1) := by decide +kernel
theorem dJ0_checkBoundsBeginEnd_23922_3 : decode cJ0_checkBoundsBeginEnd_23922 3 = .ok (.getstatic 1053, 3) := by decide +kernel
theorem dJ0_checkBoundsBeginEnd_23922_6 : decode cJ0_checkBoundsBeginEnd_23922 6 = .ok (.invokestatic 1062, 3) := by decide +kernel
theorem dJ0_checkBoundsBeginEnd_23922_9 : decode cJ0_checkBoundsBeginEnd_23922 9 = .ok (.pop, 1) := by decide +kernel
theorem dJ0_checkBoundsBeginEnd_23922_10 : decode cJ0_checkBoundsBeginEnd_23922 10 = .ok (.return_, 1) := by decide +kernel
theorem dJ1_canEncode_9a6ad_0 : decode cJ1_canEncode_9a6ad 0 = .ok (.iload_n 0, 1) := by decide +kernel
theorem dJ1_canEncode_9a6ad_1 : decode cJ1_canEncode_9a6ad 1 = .ok (.ifCond .lt 14, 3) := by decide +kernel
theorem dJ1_canEncode_9a6ad_4 : decode cJ1_canEncode_9a6ad 4 = .ok (.iload_n 0, 1) := by decide +kernel
theorem dJ1_canEncode_9a6ad_5 : decode cJ1_canEncode_9a6ad 5 = .ok (.sipush 255, 3) := by decide +kernel
theorem dJ1_canEncode_9a6ad_8 : decode cJ1_canEncode_9a6ad 8 = .ok (.if_icmp .gt 7, 3) := by decide +kernel
theorem dJ1_canEncode_9a6ad_11 : decode cJ1_canEncode_9a6ad 11 = .ok (.iconst 1, 1) := by decide +kernel
theorem dJ1_canEncode_9a6ad_12 : decode cJ1_canEncode_9a6ad 12 = .ok (.goto 4, 3) := by decide +kernel
theorem dJ1_canEncode_9a6ad_15 : decode cJ1_canEncode_9a6ad 15 = .ok (.iconst 0, 1) := by decide +kernel
theorem dJ1_canEncode_9a6ad_16 : decode cJ1_canEncode_9a6ad 16 = .ok (.ireturn, 1) := by decide +kernel
theorem dJ1_indexOf_4cfef_0 : decode cJ1_indexOf_4cfef 0 = .ok (.iload_n 1, 1) := by decide +kernel
theorem dJ1_indexOf_4cfef_1 : decode cJ1_indexOf_4cfef 1 = .ok (.invokestatic 88, 3) := by decide +kernel
theorem dJ1_indexOf_4cfef_4 : decode cJ1_indexOf_4cfef 4 = .ok (.ifCond .ne 5, 3) := by decide +kernel
theorem dJ1_indexOf_4cfef_7 : decode cJ1_indexOf_4cfef 7 = .ok (.iconst (-1), 1) := by decide +kernel
theorem dJ1_indexOf_4cfef_8 : decode cJ1_indexOf_4cfef 8 = .ok (.ireturn, 1) := by decide +kernel
theorem dJ1_indexOf_4cfef_9 : decode cJ1_indexOf_4cfef 9 = .ok (.iload_n 2, 1) := by decide +kernel
theorem dJ1_indexOf_4cfef_10 : decode cJ1_indexOf_4cfef 10 = .ok (.iconst 0, 1) := by decide +kernel
theorem dJ1_indexOf_4cfef_11 : decode cJ1_indexOf_4cfef 11 = .ok (.invokestatic 92, 3) := by decide +kernel
theorem dJ1_indexOf_4cfef_14 : decode cJ1_indexOf_4cfef 14 = .ok (.istore_n 2, 1) := by decide +kernel
theorem dJ1_indexOf_4cfef_15 : decode cJ1_indexOf_4cfef 15 = .ok (.iload_n 3, 1) := by decide +kernel
theorem dJ1_indexOf_4cfef_16 : decode cJ1_indexOf_4cfef 16 = .ok (.aload_n 0, 1) := by decide +kernel
theorem dJ1_indexOf_4cfef_17 : decode cJ1_indexOf_4cfef 17 = .ok (.arraylength, 1) := by decide +kernel
theorem dJ1_indexOf_4cfef_18 : decode cJ1_indexOf_4cfef 18 = .ok (.invokestatic 38, 3) := by decide +kernel
theorem dJ1_indexOf_4cfef_21 : decode cJ1_indexOf_4cfef 21 = .ok (.istore_n 3, 1) := by decide +kernel
theorem dJ1_indexOf_4cfef_22 : decode cJ1_indexOf_4cfef 22 = .ok (.iload_n 2, 1) := by decide +kernel
theorem dJ1_indexOf_4cfef_23 : decode cJ1_indexOf_4cfef 23 = .ok (.iload_n 3, 1) := by decide +kernel
theorem dJ1_indexOf_4cfef_24 : decode cJ1_indexOf_4cfef 24 = .ok (.if_icmp .lt 5, 3) := by decide +kernel
theorem dJ1_indexOf_4cfef_27 : decode cJ1_indexOf_4cfef 27 = .ok (.iconst (-1), 1) := by decide +kernel
theorem dJ1_indexOf_4cfef_28 : decode cJ1_indexOf_4cfef 28 = .ok (.ireturn, 1) := by decide +kernel
theorem dJ1_indexOf_4cfef_29 : decode cJ1_indexOf_4cfef 29 = .ok (.aload_n 0, 1) := by decide +kernel
theorem dJ1_indexOf_4cfef_30 : decode cJ1_indexOf_4cfef 30 = .ok (.iload_n 1, 1) := by decide +kernel
theorem dJ1_indexOf_4cfef_31 : decode cJ1_indexOf_4cfef 31 = .ok (.iload_n 2, 1) := by decide +kernel
theorem dJ1_indexOf_4cfef_32 : decode cJ1_indexOf_4cfef 32 = .ok (.iload_n 3, 1) := by decide +kernel
theorem dJ1_indexOf_4cfef_33 : decode cJ1_indexOf_4cfef 33 = .ok (.invokestatic 95, 3) := by decide +kernel
theorem dJ1_indexOf_4cfef_36 : decode cJ1_indexOf_4cfef 36 = .ok (.ireturn, 1) := by decide +kernel
theorem dJ1_indexOfChar_4cfef_0 : decode cJ1_indexOfChar_4cfef 0 = .ok (.iload_n 1, 1) := by decide +kernel
theorem dJ1_indexOfChar_4cfef_1 : decode cJ1_indexOfChar_4cfef 1 = .ok (.i2b, 1) := by decide +kernel
theorem dJ1_indexOfChar_4cfef_2 : decode cJ1_indexOfChar_4cfef 2 = .ok (.istore 4, 2) := by decide +kernel
theorem dJ1_indexOfChar_4cfef_4 : decode cJ1_indexOfChar_4cfef 4 = .ok (.iload_n 2, 1) := by decide +kernel
theorem dJ1_indexOfChar_4cfef_5 : decode cJ1_indexOfChar_4cfef 5 = .ok (.istore 5, 2) := by decide +kernel
theorem dJ1_indexOfChar_4cfef_7 : decode cJ1_indexOfChar_4cfef 7 = .ok (.iload 5, 2) := by decide +kernel
theorem dJ1_indexOfChar_4cfef_9 : decode cJ1_indexOfChar_4cfef 9 = .ok (.iload_n 3, 1) := by decide +kernel
theorem dJ1_indexOfChar_4cfef_10 : decode cJ1_indexOfChar_4cfef 10 = .ok (.if_icmp .ge 21, 3) := by decide +kernel
theorem dJ1_indexOfChar_4cfef_13 : decode cJ1_indexOfChar_4cfef 13 = .ok (.aload_n 0, 1) := by decide +kernel
theorem dJ1_indexOfChar_4cfef_14 : decode cJ1_indexOfChar_4cfef 14 = .ok (.iload 5, 2) := by decide +kernel
theorem dJ1_indexOfChar_4cfef_16 : decode cJ1_indexOfChar_4cfef 16 = .ok (.baload, 1) := by decide +kernel
theorem dJ1_indexOfChar_4cfef_17 : decode cJ1_indexOfChar_4cfef 17 = .ok (.iload 4, 2) := by decide +kernel
theorem dJ1_indexOfChar_4cfef_19 : decode cJ1_indexOfChar_4cfef 19 = .ok (.if_icmp .ne 6, 3) := by decide +kernel
theorem dJ1_indexOfChar_4cfef_22 : decode cJ1_indexOfChar_4cfef 22 = .ok (.iload 5, 2) := by decide +kernel
theorem dJ1_indexOfChar_4cfef_24 : decode cJ1_indexOfChar_4cfef 24 = .ok (.ireturn, 1) := by decide +kernel
theorem dJ1_indexOfChar_4cfef_25 : decode cJ1_indexOfChar_4cfef 25 = .ok (.iinc 5 1, 3) := by decide +kernel
theorem dJ1_indexOfChar_4cfef_28 : decode cJ1_indexOfChar_4cfef 28 = .ok (.goto (-21), 3) := by decide +kernel
theorem dJ1_indexOfChar_4cfef_31 : decode cJ1_indexOfChar_4cfef 31 = .ok (.iconst (-1), 1) := by decide +kernel
theorem dJ1_indexOfChar_4cfef_32 : decode cJ1_indexOfChar_4cfef 32 = .ok (.ireturn, 1) := by decide +kernel
theorem dJ2_getChar_3b067_0 : decode cJ2_getChar_3b067 0 = .ok (.getstatic 44, 3) := by decide +kernel
theorem dJ2_getChar_3b067_3 : decode cJ2_getChar_3b067 3 = .ok (.ifCond .ne 25, 3) := by decide +kernel
theorem dJ2_getChar_3b067_6 : decode cJ2_getChar_3b067 6 = .ok (.iload_n 1, 1) := by decide +kernel
theorem dJ2_getChar_3b067_7 : decode cJ2_getChar_3b067 7 = .ok (.ifCond .lt 11, 3) := by decide +kernel
theorem dJ2_getChar_3b067_10 : decode cJ2_getChar_3b067 10 = .ok (.iload_n 1, 1) := by decide +kernel
theorem dJ2_getChar_3b067_11 : decode cJ2_getChar_3b067 11 = .ok (.aload_n 0, 1) := by decide +kernel
theorem dJ2_getChar_3b067_12 : decode cJ2_getChar_3b067 12 = .ok (.invokestatic 48, 3) := by decide +kernel
theorem dJ2_getChar_3b067_15 : decode cJ2_getChar_3b067 15 = .ok (.if_icmp .lt 13, 3) := by decide +kernel
theorem dJ2_getChar_3b067_18 : decode cJ2_getChar_3b067 18 = .ok (.new 52, 3) := by decide +kernel
theorem dJ2_getChar_3b067_21 : decode cJ2_getChar_3b067 21 = .ok (.dup, 1) := by decide +kernel
theorem dJ2_getChar_3b067_22 : decode cJ2_getChar_3b067 22 = .ok (.ldc 54, 2) := by decide +kernel
theorem dJ2_getChar_3b067_24 : decode cJ2_getChar_3b067 24 = .ok (.invokespecial 56, 3) := by decide +kernel
theorem dJ2_getChar_3b067_27 : decode cJ2_getChar_3b067 27 = .ok (.athrow, 1) := by decide +kernel
theorem dJ2_getChar_3b067_28 : decode cJ2_getChar_3b067 28 = .ok (.iload_n 1, 1) := by decide +kernel
theorem dJ2_getChar_3b067_29 : decode cJ2_getChar_3b067 29 = .ok (.iconst 1, 1) := by decide +kernel
theorem dJ2_getChar_3b067_30 : decode cJ2_getChar_3b067 30 = .ok (.ishl, 1) := by decide +kernel
theorem dJ2_getChar_3b067_31 : decode cJ2_getChar_3b067 31 = .ok (.istore_n 1, 1) := by decide +kernel
theorem dJ2_getChar_3b067_32 : decode cJ2_getChar_3b067 32 = .ok (.aload_n 0, 1) := by decide +kernel
theorem dJ2_getChar_3b067_33 : decode cJ2_getChar_3b067 33 = .ok (.iload_n 1, 1) := by decide +kernel
theorem dJ2_getChar_3b067_34 : decode cJ2_getChar_3b067 34 = .ok (.iinc 1 1, 3) := by decide +kernel
theorem dJ2_getChar_3b067_37 : decode cJ2_getChar_3b067 37 = .ok (.baload, 1) := by decide +kernel
theorem dJ2_getChar_3b067_38 : decode cJ2_getChar_3b067 38 = .ok (.sipush 255, 3) := by decide +kernel
theorem dJ2_getChar_3b067_41 : decode cJ2_getChar_3b067 41 = .ok (.iand, 1) := by decide +kernel
theorem dJ2_getChar_3b067_42 : decode cJ2_getChar_3b067 42 = .ok (.getstatic 59, 3) := by decide +kernel
theorem dJ2_getChar_3b067_45 : decode cJ2_getChar_3b067 45 = .ok (.ishl, 1) := by decide +kernel
theorem dJ2_getChar_3b067_46 : decode cJ2_getChar_3b067 46 = .ok (.aload_n 0, 1) := by decide +kernel
theorem dJ2_getChar_3b067_47 : decode cJ2_getChar_3b067 47 = .ok (.iload_n 1, 1) := by decide +kernel
theorem dJ2_getChar_3b067_48 : decode cJ2_getChar_3b067 48 = .ok (.baload, 1) := by decide +kernel
theorem dJ2_getChar_3b067_49 : decode cJ2_getChar_3b067 49 = .ok (.sipush 255, 3) := by decide +kernel
theorem dJ2_getChar_3b067_52 : decode cJ2_getChar_3b067 52 = .ok (.iand, 1) := by decide +kernel
theorem dJ2_getChar_3b067_53 : decode cJ2_getChar_3b067 53 = .ok (.getstatic 63, 3) := by decide +kernel
theorem dJ2_getChar_3b067_56 : decode cJ2_getChar_3b067 56 = .ok (.ishl, 1) := by decide +kernel
theorem dJ2_getChar_3b067_57 : decode cJ2_getChar_3b067 57 = .ok (.ior, 1) := by decide +kernel
theorem dJ2_getChar_3b067_58 : decode cJ2_getChar_3b067 58 = .ok (.i2c, 1) := by decide +kernel
theorem dJ2_getChar_3b067_59 : decode cJ2_getChar_3b067 59 = .ok (.ireturn, 1) := by decide +kernel
theorem dJ2_length_9d52b_0 : decode cJ2_length_9d52b 0 = .ok (.aload_n 0, 1) := by decide +kernel
theorem dJ2_length_9d52b_1 : decode cJ2_length_9d52b 1 = .ok (.arraylength, 1) := by decide +kernel
theorem dJ2_length_9d52b_2 : decode cJ2_length_9d52b 2 = .ok (.iconst 1, 1) := by decide +kernel
theorem dJ2_length_9d52b_3 : decode cJ2_length_9d52b 3 = .ok (.ishr, 1) := by decide +kernel
theorem dJ2_length_9d52b_4 : decode cJ2_length_9d52b 4 = .ok (.ireturn, 1) := by decide +kernel
theorem dJ2_indexOf_4cfef_0 : decode cJ2_indexOf_4cfef 0 = .ok (.iload_n 2, 1) := by decide +kernel
theorem dJ2_indexOf_4cfef_1 : decode cJ2_indexOf_4cfef 1 = .ok (.iconst 0, 1) := by decide +kernel
theorem dJ2_indexOf_4cfef_2 : decode cJ2_indexOf_4cfef 2 = .ok (.invokestatic 224, 3) := by decide +kernel
theorem dJ2_indexOf_4cfef_5 : decode cJ2_indexOf_4cfef 5 = .ok (.istore_n 2, 1) := by decide +kernel
theorem dJ2_indexOf_4cfef_6 : decode cJ2_indexOf_4cfef 6 = .ok (.iload_n 3, 1) := by decide +kernel
theorem dJ2_indexOf_4cfef_7 : decode cJ2_indexOf_4cfef 7 = .ok (.aload_n 0, 1) := by decide +kernel
theorem dJ2_indexOf_4cfef_8 : decode cJ2_indexOf_4cfef 8 = .ok (.arraylength, 1) := by decide +kernel
theorem dJ2_indexOf_4cfef_9 : decode cJ2_indexOf_4cfef 9 = .ok (.iconst 1, 1) := by decide +kernel
theorem dJ2_indexOf_4cfef_10 : decode cJ2_indexOf_4cfef 10 = .ok (.ishr, 1) := by decide +kernel
theorem dJ2_indexOf_4cfef_11 : decode cJ2_indexOf_4cfef 11 = .ok (.invokestatic 183, 3) := by decide +kernel
theorem dJ2_indexOf_4cfef_14 : decode cJ2_indexOf_4cfef 14 = .ok (.istore_n 3, 1) := by decide +kernel
theorem dJ2_indexOf_4cfef_15 : decode cJ2_indexOf_4cfef 15 = .ok (.iload_n 2, 1) := by decide +kernel
theorem dJ2_indexOf_4cfef_16 : decode cJ2_indexOf_4cfef 16 = .ok (.iload_n 3, 1) := by decide +kernel
theorem dJ2_indexOf_4cfef_17 : decode cJ2_indexOf_4cfef 17 = .ok (.if_icmp .lt 5, 3) := by decide +kernel
theorem dJ2_indexOf_4cfef_20 : decode cJ2_indexOf_4cfef 20 = .ok (.iconst (-1), 1) := by decide +kernel
theorem dJ2_indexOf_4cfef_21 : decode cJ2_indexOf_4cfef 21 = .ok (.ireturn, 1) := by decide +kernel
theorem dJ2_indexOf_4cfef_22 : decode cJ2_indexOf_4cfef 22 = .ok (.iload_n 1, 1) := by decide +kernel
theorem dJ2_indexOf_4cfef_23 : decode cJ2_indexOf_4cfef 23 = .ok (.ldc 227, 2) := by decide +kernel
theorem dJ2_indexOf_4cfef_25 : decode cJ2_indexOf_4cfef 25 = .ok (.if_icmp .ge 11, 3) := by decide +kernel
theorem dJ2_indexOf_4cfef_28 : decode cJ2_indexOf_4cfef 28 = .ok (.aload_n 0, 1) := by decide +kernel
theorem dJ2_indexOf_4cfef_29 : decode cJ2_indexOf_4cfef 29 = .ok (.iload_n 1, 1) := by decide +kernel
theorem dJ2_indexOf_4cfef_30 : decode cJ2_indexOf_4cfef 30 = .ok (.iload_n 2, 1) := by decide +kernel
theorem dJ2_indexOf_4cfef_31 : decode cJ2_indexOf_4cfef 31 = .ok (.iload_n 3, 1) := by decide +kernel
theorem dJ2_indexOf_4cfef_32 : decode cJ2_indexOf_4cfef 32 = .ok (.invokestatic 228, 3) := by decide +kernel
theorem dJ2_indexOf_4cfef_35 : decode cJ2_indexOf_4cfef 35 = .ok (.ireturn, 1) := by decide +kernel
theorem dJ2_indexOf_4cfef_36 : decode cJ2_indexOf_4cfef 36 = .ok (.aload_n 0, 1) := by decide +kernel
theorem dJ2_indexOf_4cfef_37 : decode cJ2_indexOf_4cfef 37 = .ok (.iload_n 1, 1) := by decide +kernel
theorem dJ2_indexOf_4cfef_38 : decode cJ2_indexOf_4cfef 38 = .ok (.iload_n 2, 1) := by decide +kernel
theorem dJ2_indexOf_4cfef_39 : decode cJ2_indexOf_4cfef 39 = .ok (.iload_n 3, 1) := by decide +kernel
theorem dJ2_indexOf_4cfef_40 : decode cJ2_indexOf_4cfef 40 = .ok (.invokestatic 232, 3) := by decide +kernel
theorem dJ2_indexOf_4cfef_43 : decode cJ2_indexOf_4cfef 43 = .ok (.ireturn, 1) := by decide +kernel
theorem dJ2_indexOfChar_4cfef_0 : decode cJ2_indexOfChar_4cfef 0 = .ok (.iload_n 2, 1) := by decide +kernel
theorem dJ2_indexOfChar_4cfef_1 : decode cJ2_indexOfChar_4cfef 1 = .ok (.iload_n 3, 1) := by decide +kernel
theorem dJ2_indexOfChar_4cfef_2 : decode cJ2_indexOfChar_4cfef 2 = .ok (.aload_n 0, 1) := by decide +kernel
theorem dJ2_indexOfChar_4cfef_3 : decode cJ2_indexOfChar_4cfef 3 = .ok (.invokestatic 96, 3) := by decide +kernel
theorem dJ2_indexOfChar_4cfef_6 : decode cJ2_indexOfChar_4cfef 6 = .ok (.aload_n 0, 1) := by decide +kernel
theorem dJ2_indexOfChar_4cfef_7 : decode cJ2_indexOfChar_4cfef 7 = .ok (.iload_n 1, 1) := by decide +kernel
theorem dJ2_indexOfChar_4cfef_8 : decode cJ2_indexOfChar_4cfef 8 = .ok (.iload_n 2, 1) := by decide +kernel
theorem dJ2_indexOfChar_4cfef_9 : decode cJ2_indexOfChar_4cfef 9 = .ok (.iload_n 3, 1) := by decide +kernel
theorem dJ2_indexOfChar_4cfef_10 : decode cJ2_indexOfChar_4cfef 10 = .ok (.invokestatic 244, 3) := by decide +kernel
theorem dJ2_indexOfChar_4cfef_13 : decode cJ2_indexOfChar_4cfef 13 = .ok (.ireturn, 1) := by decide +kernel
theorem dJ2_indexOfCharUnsafe_4cfef_0 : decode cJ2_indexOfCharUnsafe_4cfef 0 = .ok (.iload_n 2, 1) := by decide +kernel
theorem dJ2_indexOfCharUnsafe_4cfef_1 : decode cJ2_indexOfCharUnsafe_4cfef 1 = .ok (.istore 4, 2) := by decide +kernel
theorem dJ2_indexOfCharUnsafe_4cfef_3 : decode cJ2_indexOfCharUnsafe_4cfef 3 = .ok (.iload 4, 2) := by decide +kernel
theorem dJ2_indexOfCharUnsafe_4cfef_5 : decode cJ2_indexOfCharUnsafe_4cfef 5 = .ok (.iload_n 3, 1) := by decide +kernel
theorem dJ2_indexOfCharUnsafe_4cfef_6 : decode cJ2_indexOfCharUnsafe_4cfef 6 = .ok (.if_icmp .ge 22, 3) := by decide +kernel
theorem dJ2_indexOfCharUnsafe_4cfef_9 : decode cJ2_indexOfCharUnsafe_4cfef 9 = .ok (.aload_n 0, 1) := by decide +kernel
theorem dJ2_indexOfCharUnsafe_4cfef_10 : decode cJ2_indexOfCharUnsafe_4cfef 10 = .ok (.iload 4, 2) := by decide +kernel
theorem dJ2_indexOfCharUnsafe_4cfef_12 : decode cJ2_indexOfCharUnsafe_4cfef 12 = .ok (.invokestatic 71, 3) := by decide +kernel
theorem dJ2_indexOfCharUnsafe_4cfef_15 : decode cJ2_indexOfCharUnsafe_4cfef 15 = .ok (.iload_n 1, 1) := by decide +kernel
theorem dJ2_indexOfCharUnsafe_4cfef_16 : decode cJ2_indexOfCharUnsafe_4cfef 16 = .ok (.if_icmp .ne 6, 3) := by decide +kernel
theorem dJ2_indexOfCharUnsafe_4cfef_19 : decode cJ2_indexOfCharUnsafe_4cfef 19 = .ok (.iload 4, 2) := by decide +kernel
theorem dJ2_indexOfCharUnsafe_4cfef_21 : decode cJ2_indexOfCharUnsafe_4cfef 21 = .ok (.ireturn, 1) := by decide +kernel
theorem dJ2_indexOfCharUnsafe_4cfef_22 : decode cJ2_indexOfCharUnsafe_4cfef 22 = .ok (.iinc 4 1, 3) := by decide +kernel
theorem dJ2_indexOfCharUnsafe_4cfef_25 : decode cJ2_indexOfCharUnsafe_4cfef 25 = .ok (.goto (-22), 3) := by decide +kernel
theorem dJ2_indexOfCharUnsafe_4cfef_28 : decode cJ2_indexOfCharUnsafe_4cfef 28 = .ok (.iconst (-1), 1) := by decide +kernel
theorem dJ2_indexOfCharUnsafe_4cfef_29 : decode cJ2_indexOfCharUnsafe_4cfef 29 = .ok (.ireturn, 1) := by decide +kernel
theorem dJ2_indexOfSupplementary_4cfef_0 : decode cJ2_indexOfSupplementary_4cfef 0 = .ok (.iload_n 1, 1) := by decide +kernel
theorem dJ2_indexOfSupplementary_4cfef_1 : decode cJ2_indexOfSupplementary_4cfef 1 = .ok (.invokestatic 164, 3) := by decide +kernel
theorem dJ2_indexOfSupplementary_4cfef_4 : decode cJ2_indexOfSupplementary_4cfef 4 = .ok (.ifCond .eq 65, 3) := by decide +kernel
theorem dJ2_indexOfSupplementary_4cfef_7 : decode cJ2_indexOfSupplementary_4cfef 7 = .ok (.iload_n 1, 1) := by decide +kernel
theorem dJ2_indexOfSupplementary_4cfef_8 : decode cJ2_indexOfSupplementary_4cfef 8 = .ok (.invokestatic 157, 3) := by decide +kernel
theorem dJ2_indexOfSupplementary_4cfef_11 : decode cJ2_indexOfSupplementary_4cfef 11 = .ok (.istore 4, 2) := by decide +kernel
theorem dJ2_indexOfSupplementary_4cfef_13 : decode cJ2_indexOfSupplementary_4cfef 13 = .ok (.iload_n 1, 1) := by decide +kernel
theorem dJ2_indexOfSupplementary_4cfef_14 : decode cJ2_indexOfSupplementary_4cfef 14 = .ok (.invokestatic 161, 3) := by decide +kernel
theorem dJ2_indexOfSupplementary_4cfef_17 : decode cJ2_indexOfSupplementary_4cfef 17 = .ok (.istore 5, 2) := by decide +kernel
theorem dJ2_indexOfSupplementary_4cfef_19 : decode cJ2_indexOfSupplementary_4cfef 19 = .ok (.iload_n 2, 1) := by decide +kernel
theorem dJ2_indexOfSupplementary_4cfef_20 : decode cJ2_indexOfSupplementary_4cfef 20 = .ok (.iload_n 3, 1) := by decide +kernel
theorem dJ2_indexOfSupplementary_4cfef_21 : decode cJ2_indexOfSupplementary_4cfef 21 = .ok (.aload_n 0, 1) := by decide +kernel
theorem dJ2_indexOfSupplementary_4cfef_22 : decode cJ2_indexOfSupplementary_4cfef 22 = .ok (.invokestatic 96, 3) := by decide +kernel
theorem dJ2_indexOfSupplementary_4cfef_25 : decode cJ2_indexOfSupplementary_4cfef 25 = .ok (.iload_n 2, 1) := by decide +kernel
theorem dJ2_indexOfSupplementary_4cfef_26 : decode cJ2_indexOfSupplementary_4cfef 26 = .ok (.istore 6, 2) := by decide +kernel
theorem dJ2_indexOfSupplementary_4cfef_28 : decode cJ2_indexOfSupplementary_4cfef 28 = .ok (.iload 6, 2) := by decide +kernel
theorem dJ2_indexOfSupplementary_4cfef_30 : decode cJ2_indexOfSupplementary_4cfef 30 = .ok (.iload_n 3, 1) := by decide +kernel
theorem dJ2_indexOfSupplementary_4cfef_31 : decode cJ2_indexOfSupplementary_4cfef 31 = .ok (.iconst 1, 1) := by decide +kernel
theorem dJ2_indexOfSupplementary_4cfef_32 : decode cJ2_indexOfSupplementary_4cfef 32 = .ok (.isub, 1) := by decide +kernel
theorem dJ2_indexOfSupplementary_4cfef_33 : decode cJ2_indexOfSupplementary_4cfef 33 = .ok (.if_icmp .ge 36, 3) := by decide +kernel
theorem dJ2_indexOfSupplementary_4cfef_36 : decode cJ2_indexOfSupplementary_4cfef 36 = .ok (.aload_n 0, 1) := by decide +kernel
theorem dJ2_indexOfSupplementary_4cfef_37 : decode cJ2_indexOfSupplementary_4cfef 37 = .ok (.iload 6, 2) := by decide +kernel
theorem dJ2_indexOfSupplementary_4cfef_39 : decode cJ2_indexOfSupplementary_4cfef 39 = .ok (.invokestatic 71, 3) := by decide +kernel
theorem dJ2_indexOfSupplementary_4cfef_42 : decode cJ2_indexOfSupplementary_4cfef 42 = .ok (.iload 4, 2) := by decide +kernel
theorem dJ2_indexOfSupplementary_4cfef_44 : decode cJ2_indexOfSupplementary_4cfef 44 = .ok (.if_icmp .ne 19, 3) := by decide +kernel
theorem dJ2_indexOfSupplementary_4cfef_47 : decode cJ2_indexOfSupplementary_4cfef 47 = .ok (.aload_n 0, 1) := by decide +kernel
theorem dJ2_indexOfSupplementary_4cfef_48 : decode cJ2_indexOfSupplementary_4cfef 48 = .ok (.iload 6, 2) := by decide +kernel
theorem dJ2_indexOfSupplementary_4cfef_50 : decode cJ2_indexOfSupplementary_4cfef 50 = .ok (.iconst 1, 1) := by decide +kernel
theorem dJ2_indexOfSupplementary_4cfef_51 : decode cJ2_indexOfSupplementary_4cfef 51 = .ok (.iadd, 1) := by decide +kernel
theorem dJ2_indexOfSupplementary_4cfef_52 : decode cJ2_indexOfSupplementary_4cfef 52 = .ok (.invokestatic 71, 3) := by decide +kernel
theorem dJ2_indexOfSupplementary_4cfef_55 : decode cJ2_indexOfSupplementary_4cfef 55 = .ok (.iload 5, 2) := by decide +kernel
theorem dJ2_indexOfSupplementary_4cfef_57 : decode cJ2_indexOfSupplementary_4cfef 57 = .ok (.if_icmp .ne 6, 3) := by decide +kernel
theorem dJ2_indexOfSupplementary_4cfef_60 : decode cJ2_indexOfSupplementary_4cfef 60 = .ok (.iload 6, 2) := by decide +kernel
theorem dJ2_indexOfSupplementary_4cfef_62 : decode cJ2_indexOfSupplementary_4cfef 62 = .ok (.ireturn, 1) := by decide +kernel
theorem dJ2_indexOfSupplementary_4cfef_63 : decode cJ2_indexOfSupplementary_4cfef 63 = .ok (.iinc 6 1, 3) := by decide +kernel
theorem dJ2_indexOfSupplementary_4cfef_66 : decode cJ2_indexOfSupplementary_4cfef 66 = .ok (.goto (-38), 3) := by decide +kernel
theorem dJ2_indexOfSupplementary_4cfef_69 : decode cJ2_indexOfSupplementary_4cfef 69 = .ok (.iconst (-1), 1) := by decide +kernel
theorem dJ2_indexOfSupplementary_4cfef_70 : decode cJ2_indexOfSupplementary_4cfef 70 = .ok (.ireturn, 1) := by decide +kernel
theorem dJ2_checkBoundsBeginEnd_d044e_0 : decode cJ2_checkBoundsBeginEnd_d044e 0 = .ok (.iload_n 0, 1) := by decide +kernel
theorem dJ2_checkBoundsBeginEnd_d044e_1 : decode cJ2_checkBoundsBeginEnd_d044e 1 = .ok (.iload_n 1, 1) := by decide +kernel
theorem dJ2_checkBoundsBeginEnd_d044e_2 : decode cJ2_checkBoundsBeginEnd_d044e 2 = .ok (.aload_n 2, 1) := by decide +kernel
theorem dJ2_checkBoundsBeginEnd_d044e_3 : decode cJ2_checkBoundsBeginEnd_d044e 3 = .ok (.invokestatic 48, 3) := by decide +kernel
theorem dJ2_checkBoundsBeginEnd_d044e_6 : decode cJ2_checkBoundsBeginEnd_d044e 6 = .ok (.invokestatic 241, 3) := by decide +kernel
theorem dJ2_checkBoundsBeginEnd_d044e_9 : decode cJ2_checkBoundsBeginEnd_d044e 9 = .ok (.return_, 1) := by decide +kernel
theorem dJ3_checkFromToIndex_8c36e_0 : decode cJ3_checkFromToIndex_8c36e 0 = .ok (.iload_n 0, 1) := by decide +kernel
theorem dJ3_checkFromToIndex_8c36e_1 : decode cJ3_checkFromToIndex_8c36e 1 = .ok (.ifCond .lt 13, 3) := by decide +kernel
theorem dJ3_checkFromToIndex_8c36e_4 : decode cJ3_checkFromToIndex_8c36e 4 = .ok (.iload_n 0, 1) := by decide +kernel
theorem dJ3_checkFromToIndex_8c36e_5 : decode cJ3_checkFromToIndex_8c36e 5 = .ok (.iload_n 1, 1) := by decide +kernel
theorem dJ3_checkFromToIndex_8c36e_6 : decode cJ3_checkFromToIndex_8c36e 6 = .ok (.if_icmp .gt 8, 3) := by decide +kernel
theorem dJ3_checkFromToIndex_8c36e_9 : decode cJ3_checkFromToIndex_8c36e 9 = .ok (.iload_n 1, 1) := by decide +kernel
theorem dJ3_checkFromToIndex_8c36e_10 : decode cJ3_checkFromToIndex_8c36e 10 = .ok (.iload_n 2, 1) := by decide +kernel
theorem dJ3_checkFromToIndex_8c36e_11 : decode cJ3_checkFromToIndex_8c36e 11 = .ok (.if_icmp .le 11, 3) := by decide +kernel
theorem dJ3_checkFromToIndex_8c36e_14 : decode cJ3_checkFromToIndex_8c36e 14 = .ok (.aload_n 3, 1) := by decide +kernel
theorem dJ3_checkFromToIndex_8c36e_15 : decode cJ3_checkFromToIndex_8c36e 15 = .ok (.iload_n 0, 1) := by decide +kernel
theorem dJ3_checkFromToIndex_8c36e_16 : decode cJ3_checkFromToIndex_8c36e 16 = .ok (.iload_n 1, 1) := by decide +kernel
theorem dJ3_checkFromToIndex_8c36e_17 : decode cJ3_checkFromToIndex_8c36e 17 = .ok (.iload_n 2, 1) := by decide +kernel
theorem dJ3_checkFromToIndex_8c36e_18 : decode cJ3_checkFromToIndex_8c36e 18 = .ok (.invokestatic 99, 3) := by decide +kernel
theorem dJ3_checkFromToIndex_8c36e_21 : decode cJ3_checkFromToIndex_8c36e 21 = .ok (.athrow, 1) := by decide +kernel
theorem dJ3_checkFromToIndex_8c36e_22 : decode cJ3_checkFromToIndex_8c36e 22 = .ok (.iload_n 0, 1) := by decide +kernel
theorem dJ3_checkFromToIndex_8c36e_23 : decode cJ3_checkFromToIndex_8c36e 23 = .ok (.ireturn, 1) := by decide +kernel
theorem dL_law_0 : decode cL_law 0 = .ok (.new 7, 3) := by decide +kernel
theorem dL_law_3 : decode cL_law 3 = .ok (.dup, 1) := by decide +kernel
theorem dL_law_4 : decode cL_law 4 = .ok (.invokespecial 9, 3) := by decide +kernel
theorem dL_law_7 : decode cL_law 7 = .ok (.astore_n 1, 1) := by decide +kernel
theorem dL_law_8 : decode cL_law 8 = .ok (.new 10, 3) := by decide +kernel
theorem dL_law_11 : decode cL_law 11 = .ok (.dup, 1) := by decide +kernel
theorem dL_law_12 : decode cL_law 12 = .ok (.invokespecial 12, 3) := by decide +kernel
theorem dL_law_15 : decode cL_law 15 = .ok (.astore_n 2, 1) := by decide +kernel
theorem dL_law_16 : decode cL_law 16 = .ok (.iconst 0, 1) := by decide +kernel
theorem dL_law_17 : decode cL_law 17 = .ok (.istore_n 3, 1) := by decide +kernel
theorem dL_law_18 : decode cL_law 18 = .ok (.iload_n 3, 1) := by decide +kernel
theorem dL_law_19 : decode cL_law 19 = .ok (.aload_n 0, 1) := by decide +kernel
theorem dL_law_20 : decode cL_law 20 = .ok (.arraylength, 1) := by decide +kernel
theorem dL_law_21 : decode cL_law 21 = .ok (.bipush 6, 2) := by decide +kernel
theorem dL_law_23 : decode cL_law 23 = .ok (.isub, 1) := by decide +kernel
theorem dL_law_24 : decode cL_law 24 = .ok (.if_icmp .gt 928, 3) := by decide +kernel
theorem dL_law_27 : decode cL_law 27 = .ok (.aload_n 0, 1) := by decide +kernel
theorem dL_law_28 : decode cL_law 28 = .ok (.iload_n 3, 1) := by decide +kernel
theorem dL_law_29 : decode cL_law 29 = .ok (.iaload, 1) := by decide +kernel
theorem dL_law_30 : decode cL_law 30 = .ok (.bipush 31, 2) := by decide +kernel
theorem dL_law_32 : decode cL_law 32 = .ok (.iand, 1) := by decide +kernel
theorem dL_law_33 : decode cL_law 33 = .ok (.tableswitch 913 0 23 #[111, 134, 197, 240, 293, 336, 359, 382, 405, 438, 471, 504, 537, 580, 603, 656, 699, 732, 775, 828, 841, 854, 867, 890], 111) := by decide +kernel
theorem dL_law_144 : decode cL_law 144 = .ok (.aload_n 1, 1) := by decide +kernel
theorem dL_law_145 : decode cL_law 145 = .ok (.aload_n 0, 1) := by decide +kernel
theorem dL_law_146 : decode cL_law 146 = .ok (.iload_n 3, 1) := by decide +kernel
theorem dL_law_147 : decode cL_law 147 = .ok (.iconst 1, 1) := by decide +kernel
theorem dL_law_148 : decode cL_law 148 = .ok (.iadd, 1) := by decide +kernel
theorem dL_law_149 : decode cL_law 149 = .ok (.iaload, 1) := by decide +kernel
theorem dL_law_150 : decode cL_law 150 = .ok (.invokevirtual 13, 3) := by decide +kernel
theorem dL_law_153 : decode cL_law 153 = .ok (.aload_n 2, 1) := by decide +kernel
theorem dL_law_154 : decode cL_law 154 = .ok (.aload_n 0, 1) := by decide +kernel
theorem dL_law_155 : decode cL_law 155 = .ok (.iload_n 3, 1) := by decide +kernel
theorem dL_law_156 : decode cL_law 156 = .ok (.iconst 1, 1) := by decide +kernel
theorem dL_law_157 : decode cL_law 157 = .ok (.iadd, 1) := by decide +kernel
theorem dL_law_158 : decode cL_law 158 = .ok (.iaload, 1) := by decide +kernel
theorem dL_law_159 : decode cL_law 159 = .ok (.invokevirtual 17, 3) := by decide +kernel
theorem dL_law_162 : decode cL_law 162 = .ok (.if_icmp .eq 784, 3) := by decide +kernel
theorem dL_law_165 : decode cL_law 165 = .ok (.iconst 0, 1) := by decide +kernel
theorem dL_law_166 : decode cL_law 166 = .ok (.ireturn, 1) := by decide +kernel
theorem dL_law_167 : decode cL_law 167 = .ok (.aload_n 1, 1) := by decide +kernel
theorem dL_law_168 : decode cL_law 168 = .ok (.aload_n 0, 1) := by decide +kernel
theorem dL_law_169 : decode cL_law 169 = .ok (.iload_n 3, 1) := by decide +kernel
theorem dL_law_170 : decode cL_law 170 = .ok (.iconst 1, 1) := by decide +kernel
theorem dL_law_171 : decode cL_law 171 = .ok (.iadd, 1) := by decide +kernel
theorem dL_law_172 : decode cL_law 172 = .ok (.iaload, 1) := by decide +kernel
theorem dL_law_173 : decode cL_law 173 = .ok (.aload_n 0, 1) := by decide +kernel
theorem dL_law_174 : decode cL_law 174 = .ok (.iload_n 3, 1) := by decide +kernel
theorem dL_law_175 : decode cL_law 175 = .ok (.iconst 2, 1) := by decide +kernel
theorem dL_law_176 : decode cL_law 176 = .ok (.iadd, 1) := by decide +kernel
theorem dL_law_177 : decode cL_law 177 = .ok (.iaload, 1) := by decide +kernel
theorem dL_law_178 : decode cL_law 178 = .ok (.aload_n 0, 1) := by decide +kernel
theorem dL_law_179 : decode cL_law 179 = .ok (.iload_n 3, 1) := by decide +kernel
theorem dL_law_180 : decode cL_law 180 = .ok (.iconst 3, 1) := by decide +kernel
theorem dL_law_181 : decode cL_law 181 = .ok (.iadd, 1) := by decide +kernel
theorem dL_law_182 : decode cL_law 182 = .ok (.iaload, 1) := by decide +kernel
theorem dL_law_183 : decode cL_law 183 = .ok (.aload_n 0, 1) := by decide +kernel
theorem dL_law_184 : decode cL_law 184 = .ok (.iload_n 3, 1) := by decide +kernel
theorem dL_law_185 : decode cL_law 185 = .ok (.iconst 4, 1) := by decide +kernel
theorem dL_law_186 : decode cL_law 186 = .ok (.iadd, 1) := by decide +kernel
theorem dL_law_187 : decode cL_law 187 = .ok (.iaload, 1) := by decide +kernel
theorem dL_law_188 : decode cL_law 188 = .ok (.aload_n 0, 1) := by decide +kernel
theorem dL_law_189 : decode cL_law 189 = .ok (.iload_n 3, 1) := by decide +kernel
theorem dL_law_190 : decode cL_law 190 = .ok (.iconst 5, 1) := by decide +kernel
theorem dL_law_191 : decode cL_law 191 = .ok (.iadd, 1) := by decide +kernel
theorem dL_law_192 : decode cL_law 192 = .ok (.iaload, 1) := by decide +kernel
theorem dL_law_193 : decode cL_law 193 = .ok (.invokevirtual 18, 3) := by decide +kernel
theorem dL_law_196 : decode cL_law 196 = .ok (.aload_n 2, 1) := by decide +kernel
theorem dL_law_197 : decode cL_law 197 = .ok (.aload_n 0, 1) := by decide +kernel
theorem dL_law_198 : decode cL_law 198 = .ok (.iload_n 3, 1) := by decide +kernel
theorem dL_law_199 : decode cL_law 199 = .ok (.iconst 1, 1) := by decide +kernel
theorem dL_law_200 : decode cL_law 200 = .ok (.iadd, 1) := by decide +kernel
theorem dL_law_201 : decode cL_law 201 = .ok (.iaload, 1) := by decide +kernel
theorem dL_law_202 : decode cL_law 202 = .ok (.aload_n 0, 1) := by decide +kernel
theorem dL_law_203 : decode cL_law 203 = .ok (.iload_n 3, 1) := by decide +kernel
theorem dL_law_204 : decode cL_law 204 = .ok (.iconst 2, 1) := by decide +kernel
theorem dL_law_205 : decode cL_law 205 = .ok (.iadd, 1) := by decide +kernel
theorem dL_law_206 : decode cL_law 206 = .ok (.iaload, 1) := by decide +kernel
theorem dL_law_207 : decode cL_law 207 = .ok (.aload_n 0, 1) := by decide +kernel
theorem dL_law_208 : decode cL_law 208 = .ok (.iload_n 3, 1) := by decide +kernel
theorem dL_law_209 : decode cL_law 209 = .ok (.iconst 3, 1) := by decide +kernel
theorem dL_law_210 : decode cL_law 210 = .ok (.iadd, 1) := by decide +kernel
theorem dL_law_211 : decode cL_law 211 = .ok (.iaload, 1) := by decide +kernel
theorem dL_law_212 : decode cL_law 212 = .ok (.aload_n 0, 1) := by decide +kernel
theorem dL_law_213 : decode cL_law 213 = .ok (.iload_n 3, 1) := by decide +kernel
theorem dL_law_214 : decode cL_law 214 = .ok (.iconst 4, 1) := by decide +kernel
theorem dL_law_215 : decode cL_law 215 = .ok (.iadd, 1) := by decide +kernel
theorem dL_law_216 : decode cL_law 216 = .ok (.iaload, 1) := by decide +kernel
theorem dL_law_217 : decode cL_law 217 = .ok (.aload_n 0, 1) := by decide +kernel
theorem dL_law_218 : decode cL_law 218 = .ok (.iload_n 3, 1) := by decide +kernel
theorem dL_law_219 : decode cL_law 219 = .ok (.iconst 5, 1) := by decide +kernel
theorem dL_law_220 : decode cL_law 220 = .ok (.iadd, 1) := by decide +kernel
theorem dL_law_221 : decode cL_law 221 = .ok (.iaload, 1) := by decide +kernel
theorem dL_law_222 : decode cL_law 222 = .ok (.invokevirtual 22, 3) := by decide +kernel
theorem dL_law_225 : decode cL_law 225 = .ok (.if_icmp .eq 721, 3) := by decide +kernel
theorem dL_law_228 : decode cL_law 228 = .ok (.iconst 0, 1) := by decide +kernel
theorem dL_law_229 : decode cL_law 229 = .ok (.ireturn, 1) := by decide +kernel
theorem dL_law_230 : decode cL_law 230 = .ok (.aload_n 1, 1) := by decide +kernel
theorem dL_law_231 : decode cL_law 231 = .ok (.aload_n 0, 1) := by decide +kernel
theorem dL_law_232 : decode cL_law 232 = .ok (.iload_n 3, 1) := by decide +kernel
theorem dL_law_233 : decode cL_law 233 = .ok (.iconst 1, 1) := by decide +kernel
theorem dL_law_234 : decode cL_law 234 = .ok (.iadd, 1) := by decide +kernel
theorem dL_law_235 : decode cL_law 235 = .ok (.iaload, 1) := by decide +kernel
theorem dL_law_236 : decode cL_law 236 = .ok (.aload_n 0, 1) := by decide +kernel
theorem dL_law_237 : decode cL_law 237 = .ok (.iload_n 3, 1) := by decide +kernel
theorem dL_law_238 : decode cL_law 238 = .ok (.iconst 2, 1) := by decide +kernel
theorem dL_law_239 : decode cL_law 239 = .ok (.iadd, 1) := by decide +kernel
theorem dL_law_240 : decode cL_law 240 = .ok (.iaload, 1) := by decide +kernel
theorem dL_law_241 : decode cL_law 241 = .ok (.aload_n 0, 1) := by decide +kernel
theorem dL_law_242 : decode cL_law 242 = .ok (.iload_n 3, 1) := by decide +kernel
theorem dL_law_243 : decode cL_law 243 = .ok (.iconst 3, 1) := by decide +kernel
theorem dL_law_244 : decode cL_law 244 = .ok (.iadd, 1) := by decide +kernel
theorem dL_law_245 : decode cL_law 245 = .ok (.iaload, 1) := by decide +kernel
theorem dL_law_246 : decode cL_law 246 = .ok (.invokevirtual 23, 3) := by decide +kernel
theorem dL_law_249 : decode cL_law 249 = .ok (.aload_n 2, 1) := by decide +kernel
theorem dL_law_250 : decode cL_law 250 = .ok (.aload_n 0, 1) := by decide +kernel
theorem dL_law_251 : decode cL_law 251 = .ok (.iload_n 3, 1) := by decide +kernel
theorem dL_law_252 : decode cL_law 252 = .ok (.iconst 1, 1) := by decide +kernel
theorem dL_law_253 : decode cL_law 253 = .ok (.iadd, 1) := by decide +kernel
theorem dL_law_254 : decode cL_law 254 = .ok (.iaload, 1) := by decide +kernel
theorem dL_law_255 : decode cL_law 255 = .ok (.aload_n 0, 1) := by decide +kernel
theorem dL_law_256 : decode cL_law 256 = .ok (.iload_n 3, 1) := by decide +kernel
theorem dL_law_257 : decode cL_law 257 = .ok (.iconst 2, 1) := by decide +kernel
theorem dL_law_258 : decode cL_law 258 = .ok (.iadd, 1) := by decide +kernel
theorem dL_law_259 : decode cL_law 259 = .ok (.iaload, 1) := by decide +kernel
theorem dL_law_260 : decode cL_law 260 = .ok (.aload_n 0, 1) := by decide +kernel
theorem dL_law_261 : decode cL_law 261 = .ok (.iload_n 3, 1) := by decide +kernel
theorem dL_law_262 : decode cL_law 262 = .ok (.iconst 3, 1) := by decide +kernel
theorem dL_law_263 : decode cL_law 263 = .ok (.iadd, 1) := by decide +kernel
theorem dL_law_264 : decode cL_law 264 = .ok (.iaload, 1) := by decide +kernel
theorem dL_law_265 : decode cL_law 265 = .ok (.invokevirtual 27, 3) := by decide +kernel
theorem dL_law_268 : decode cL_law 268 = .ok (.if_icmp .eq 678, 3) := by decide +kernel
theorem dL_law_271 : decode cL_law 271 = .ok (.iconst 0, 1) := by decide +kernel
theorem dL_law_272 : decode cL_law 272 = .ok (.ireturn, 1) := by decide +kernel
theorem dL_law_273 : decode cL_law 273 = .ok (.aload_n 1, 1) := by decide +kernel
theorem dL_law_274 : decode cL_law 274 = .ok (.aload_n 0, 1) := by decide +kernel
theorem dL_law_275 : decode cL_law 275 = .ok (.iload_n 3, 1) := by decide +kernel
theorem dL_law_276 : decode cL_law 276 = .ok (.iconst 1, 1) := by decide +kernel
theorem dL_law_277 : decode cL_law 277 = .ok (.iadd, 1) := by decide +kernel
theorem dL_law_278 : decode cL_law 278 = .ok (.iaload, 1) := by decide +kernel
theorem dL_law_279 : decode cL_law 279 = .ok (.aload_n 0, 1) := by decide +kernel
theorem dL_law_280 : decode cL_law 280 = .ok (.iload_n 3, 1) := by decide +kernel
theorem dL_law_281 : decode cL_law 281 = .ok (.iconst 2, 1) := by decide +kernel
theorem dL_law_282 : decode cL_law 282 = .ok (.iadd, 1) := by decide +kernel
theorem dL_law_283 : decode cL_law 283 = .ok (.iaload, 1) := by decide +kernel
theorem dL_law_284 : decode cL_law 284 = .ok (.aload_n 0, 1) := by decide +kernel
theorem dL_law_285 : decode cL_law 285 = .ok (.iload_n 3, 1) := by decide +kernel
theorem dL_law_286 : decode cL_law 286 = .ok (.iconst 3, 1) := by decide +kernel
theorem dL_law_287 : decode cL_law 287 = .ok (.iadd, 1) := by decide +kernel
theorem dL_law_288 : decode cL_law 288 = .ok (.iaload, 1) := by decide +kernel
theorem dL_law_289 : decode cL_law 289 = .ok (.aload_n 0, 1) := by decide +kernel
theorem dL_law_290 : decode cL_law 290 = .ok (.iload_n 3, 1) := by decide +kernel
theorem dL_law_291 : decode cL_law 291 = .ok (.iconst 4, 1) := by decide +kernel
theorem dL_law_292 : decode cL_law 292 = .ok (.iadd, 1) := by decide +kernel
theorem dL_law_293 : decode cL_law 293 = .ok (.iaload, 1) := by decide +kernel
theorem dL_law_294 : decode cL_law 294 = .ok (.invokevirtual 28, 3) := by decide +kernel
theorem dL_law_297 : decode cL_law 297 = .ok (.aload_n 2, 1) := by decide +kernel
theorem dL_law_298 : decode cL_law 298 = .ok (.aload_n 0, 1) := by decide +kernel
theorem dL_law_299 : decode cL_law 299 = .ok (.iload_n 3, 1) := by decide +kernel
theorem dL_law_300 : decode cL_law 300 = .ok (.iconst 1, 1) := by decide +kernel
theorem dL_law_301 : decode cL_law 301 = .ok (.iadd, 1) := by decide +kernel
theorem dL_law_302 : decode cL_law 302 = .ok (.iaload, 1) := by decide +kernel
theorem dL_law_303 : decode cL_law 303 = .ok (.aload_n 0, 1) := by decide +kernel
theorem dL_law_304 : decode cL_law 304 = .ok (.iload_n 3, 1) := by decide +kernel
theorem dL_law_305 : decode cL_law 305 = .ok (.iconst 2, 1) := by decide +kernel
theorem dL_law_306 : decode cL_law 306 = .ok (.iadd, 1) := by decide +kernel
theorem dL_law_307 : decode cL_law 307 = .ok (.iaload, 1) := by decide +kernel
theorem dL_law_308 : decode cL_law 308 = .ok (.aload_n 0, 1) := by decide +kernel
theorem dL_law_309 : decode cL_law 309 = .ok (.iload_n 3, 1) := by decide +kernel
theorem dL_law_310 : decode cL_law 310 = .ok (.iconst 3, 1) := by decide +kernel
theorem dL_law_311 : decode cL_law 311 = .ok (.iadd, 1) := by decide +kernel
theorem dL_law_312 : decode cL_law 312 = .ok (.iaload, 1) := by decide +kernel
theorem dL_law_313 : decode cL_law 313 = .ok (.aload_n 0, 1) := by decide +kernel
theorem dL_law_314 : decode cL_law 314 = .ok (.iload_n 3, 1) := by decide +kernel
theorem dL_law_315 : decode cL_law 315 = .ok (.iconst 4, 1) := by decide +kernel
theorem dL_law_316 : decode cL_law 316 = .ok (.iadd, 1) := by decide +kernel
theorem dL_law_317 : decode cL_law 317 = .ok (.iaload, 1) := by decide +kernel
theorem dL_law_318 : decode cL_law 318 = .ok (.invokevirtual 32, 3) := by decide +kernel
theorem dL_law_321 : decode cL_law 321 = .ok (.if_icmp .eq 625, 3) := by decide +kernel
theorem dL_law_324 : decode cL_law 324 = .ok (.iconst 0, 1) := by decide +kernel
theorem dL_law_325 : decode cL_law 325 = .ok (.ireturn, 1) := by decide +kernel
theorem dL_law_326 : decode cL_law 326 = .ok (.aload_n 1, 1) := by decide +kernel
theorem dL_law_327 : decode cL_law 327 = .ok (.aload_n 0, 1) := by decide +kernel
theorem dL_law_328 : decode cL_law 328 = .ok (.iload_n 3, 1) := by decide +kernel
theorem dL_law_329 : decode cL_law 329 = .ok (.iconst 1, 1) := by decide +kernel
theorem dL_law_330 : decode cL_law 330 = .ok (.iadd, 1) := by decide +kernel
theorem dL_law_331 : decode cL_law 331 = .ok (.iaload, 1) := by decide +kernel
theorem dL_law_332 : decode cL_law 332 = .ok (.aload_n 0, 1) := by decide +kernel
theorem dL_law_333 : decode cL_law 333 = .ok (.iload_n 3, 1) := by decide +kernel
theorem dL_law_334 : decode cL_law 334 = .ok (.iconst 2, 1) := by decide +kernel
theorem dL_law_335 : decode cL_law 335 = .ok (.iadd, 1) := by decide +kernel
theorem dL_law_336 : decode cL_law 336 = .ok (.iaload, 1) := by decide +kernel
theorem dL_law_337 : decode cL_law 337 = .ok (.aload_n 0, 1) := by decide +kernel
theorem dL_law_338 : decode cL_law 338 = .ok (.iload_n 3, 1) := by decide +kernel
theorem dL_law_339 : decode cL_law 339 = .ok (.iconst 3, 1) := by decide +kernel
theorem dL_law_340 : decode cL_law 340 = .ok (.iadd, 1) := by decide +kernel
theorem dL_law_341 : decode cL_law 341 = .ok (.iaload, 1) := by decide +kernel
theorem dL_law_342 : decode cL_law 342 = .ok (.invokevirtual 33, 3) := by decide +kernel
theorem dL_law_345 : decode cL_law 345 = .ok (.aload_n 2, 1) := by decide +kernel
theorem dL_law_346 : decode cL_law 346 = .ok (.aload_n 0, 1) := by decide +kernel
theorem dL_law_347 : decode cL_law 347 = .ok (.iload_n 3, 1) := by decide +kernel
theorem dL_law_348 : decode cL_law 348 = .ok (.iconst 1, 1) := by decide +kernel
theorem dL_law_349 : decode cL_law 349 = .ok (.iadd, 1) := by decide +kernel
theorem dL_law_350 : decode cL_law 350 = .ok (.iaload, 1) := by decide +kernel
theorem dL_law_351 : decode cL_law 351 = .ok (.aload_n 0, 1) := by decide +kernel
theorem dL_law_352 : decode cL_law 352 = .ok (.iload_n 3, 1) := by decide +kernel
theorem dL_law_353 : decode cL_law 353 = .ok (.iconst 2, 1) := by decide +kernel
theorem dL_law_354 : decode cL_law 354 = .ok (.iadd, 1) := by decide +kernel
theorem dL_law_355 : decode cL_law 355 = .ok (.iaload, 1) := by decide +kernel
theorem dL_law_356 : decode cL_law 356 = .ok (.aload_n 0, 1) := by decide +kernel
theorem dL_law_357 : decode cL_law 357 = .ok (.iload_n 3, 1) := by decide +kernel
theorem dL_law_358 : decode cL_law 358 = .ok (.iconst 3, 1) := by decide +kernel
theorem dL_law_359 : decode cL_law 359 = .ok (.iadd, 1) := by decide +kernel
theorem dL_law_360 : decode cL_law 360 = .ok (.iaload, 1) := by decide +kernel
theorem dL_law_361 : decode cL_law 361 = .ok (.invokevirtual 36, 3) := by decide +kernel
theorem dL_law_364 : decode cL_law 364 = .ok (.if_icmp .eq 582, 3) := by decide +kernel
theorem dL_law_367 : decode cL_law 367 = .ok (.iconst 0, 1) := by decide +kernel
theorem dL_law_368 : decode cL_law 368 = .ok (.ireturn, 1) := by decide +kernel
theorem dL_law_369 : decode cL_law 369 = .ok (.aload_n 1, 1) := by decide +kernel
theorem dL_law_370 : decode cL_law 370 = .ok (.aload_n 0, 1) := by decide +kernel
theorem dL_law_371 : decode cL_law 371 = .ok (.iload_n 3, 1) := by decide +kernel
theorem dL_law_372 : decode cL_law 372 = .ok (.iconst 1, 1) := by decide +kernel
theorem dL_law_373 : decode cL_law 373 = .ok (.iadd, 1) := by decide +kernel
theorem dL_law_374 : decode cL_law 374 = .ok (.iaload, 1) := by decide +kernel
theorem dL_law_375 : decode cL_law 375 = .ok (.invokevirtual 37, 3) := by decide +kernel
theorem dL_law_378 : decode cL_law 378 = .ok (.aload_n 2, 1) := by decide +kernel
theorem dL_law_379 : decode cL_law 379 = .ok (.aload_n 0, 1) := by decide +kernel
theorem dL_law_380 : decode cL_law 380 = .ok (.iload_n 3, 1) := by decide +kernel
theorem dL_law_381 : decode cL_law 381 = .ok (.iconst 1, 1) := by decide +kernel
theorem dL_law_382 : decode cL_law 382 = .ok (.iadd, 1) := by decide +kernel
theorem dL_law_383 : decode cL_law 383 = .ok (.iaload, 1) := by decide +kernel
theorem dL_law_384 : decode cL_law 384 = .ok (.invokevirtual 40, 3) := by decide +kernel
theorem dL_law_387 : decode cL_law 387 = .ok (.if_icmp .eq 559, 3) := by decide +kernel
theorem dL_law_390 : decode cL_law 390 = .ok (.iconst 0, 1) := by decide +kernel
theorem dL_law_391 : decode cL_law 391 = .ok (.ireturn, 1) := by decide +kernel
theorem dL_law_392 : decode cL_law 392 = .ok (.aload_n 1, 1) := by decide +kernel
theorem dL_law_393 : decode cL_law 393 = .ok (.aload_n 0, 1) := by decide +kernel
theorem dL_law_394 : decode cL_law 394 = .ok (.iload_n 3, 1) := by decide +kernel
theorem dL_law_395 : decode cL_law 395 = .ok (.iconst 1, 1) := by decide +kernel
theorem dL_law_396 : decode cL_law 396 = .ok (.iadd, 1) := by decide +kernel
theorem dL_law_397 : decode cL_law 397 = .ok (.iaload, 1) := by decide +kernel
theorem dL_law_398 : decode cL_law 398 = .ok (.invokevirtual 41, 3) := by decide +kernel
theorem dL_law_401 : decode cL_law 401 = .ok (.aload_n 2, 1) := by decide +kernel
theorem dL_law_402 : decode cL_law 402 = .ok (.aload_n 0, 1) := by decide +kernel
theorem dL_law_403 : decode cL_law 403 = .ok (.iload_n 3, 1) := by decide +kernel
theorem dL_law_404 : decode cL_law 404 = .ok (.iconst 1, 1) := by decide +kernel
theorem dL_law_405 : decode cL_law 405 = .ok (.iadd, 1) := by decide +kernel
theorem dL_law_406 : decode cL_law 406 = .ok (.iaload, 1) := by decide +kernel
theorem dL_law_407 : decode cL_law 407 = .ok (.invokevirtual 44, 3) := by decide +kernel
theorem dL_law_410 : decode cL_law 410 = .ok (.if_icmp .eq 536, 3) := by decide +kernel
theorem dL_law_413 : decode cL_law 413 = .ok (.iconst 0, 1) := by decide +kernel
theorem dL_law_414 : decode cL_law 414 = .ok (.ireturn, 1) := by decide +kernel
theorem dL_law_415 : decode cL_law 415 = .ok (.aload_n 1, 1) := by decide +kernel
theorem dL_law_416 : decode cL_law 416 = .ok (.aload_n 0, 1) := by decide +kernel
theorem dL_law_417 : decode cL_law 417 = .ok (.iload_n 3, 1) := by decide +kernel
theorem dL_law_418 : decode cL_law 418 = .ok (.iconst 1, 1) := by decide +kernel
theorem dL_law_419 : decode cL_law 419 = .ok (.iadd, 1) := by decide +kernel
theorem dL_law_420 : decode cL_law 420 = .ok (.iaload, 1) := by decide +kernel
theorem dL_law_421 : decode cL_law 421 = .ok (.invokevirtual 45, 3) := by decide +kernel
theorem dL_law_424 : decode cL_law 424 = .ok (.aload_n 2, 1) := by decide +kernel
theorem dL_law_425 : decode cL_law 425 = .ok (.aload_n 0, 1) := by decide +kernel
theorem dL_law_426 : decode cL_law 426 = .ok (.iload_n 3, 1) := by decide +kernel
theorem dL_law_427 : decode cL_law 427 = .ok (.iconst 1, 1) := by decide +kernel
theorem dL_law_428 : decode cL_law 428 = .ok (.iadd, 1) := by decide +kernel
theorem dL_law_429 : decode cL_law 429 = .ok (.iaload, 1) := by decide +kernel
theorem dL_law_430 : decode cL_law 430 = .ok (.invokevirtual 48, 3) := by decide +kernel
theorem dL_law_433 : decode cL_law 433 = .ok (.if_icmp .eq 513, 3) := by decide +kernel
theorem dL_law_436 : decode cL_law 436 = .ok (.iconst 0, 1) := by decide +kernel
theorem dL_law_437 : decode cL_law 437 = .ok (.ireturn, 1) := by decide +kernel
theorem dL_law_438 : decode cL_law 438 = .ok (.aload_n 1, 1) := by decide +kernel
theorem dL_law_439 : decode cL_law 439 = .ok (.aload_n 0, 1) := by decide +kernel
theorem dL_law_440 : decode cL_law 440 = .ok (.iload_n 3, 1) := by decide +kernel
theorem dL_law_441 : decode cL_law 441 = .ok (.iconst 1, 1) := by decide +kernel
theorem dL_law_442 : decode cL_law 442 = .ok (.iadd, 1) := by decide +kernel
theorem dL_law_443 : decode cL_law 443 = .ok (.iaload, 1) := by decide +kernel
theorem dL_law_444 : decode cL_law 444 = .ok (.aload_n 0, 1) := by decide +kernel
theorem dL_law_445 : decode cL_law 445 = .ok (.iload_n 3, 1) := by decide +kernel
theorem dL_law_446 : decode cL_law 446 = .ok (.iconst 2, 1) := by decide +kernel
theorem dL_law_447 : decode cL_law 447 = .ok (.iadd, 1) := by decide +kernel
theorem dL_law_448 : decode cL_law 448 = .ok (.iaload, 1) := by decide +kernel
theorem dL_law_449 : decode cL_law 449 = .ok (.invokevirtual 49, 3) := by decide +kernel
theorem dL_law_452 : decode cL_law 452 = .ok (.aload_n 2, 1) := by decide +kernel
theorem dL_law_453 : decode cL_law 453 = .ok (.aload_n 0, 1) := by decide +kernel
theorem dL_law_454 : decode cL_law 454 = .ok (.iload_n 3, 1) := by decide +kernel
theorem dL_law_455 : decode cL_law 455 = .ok (.iconst 1, 1) := by decide +kernel
theorem dL_law_456 : decode cL_law 456 = .ok (.iadd, 1) := by decide +kernel
theorem dL_law_457 : decode cL_law 457 = .ok (.iaload, 1) := by decide +kernel
theorem dL_law_458 : decode cL_law 458 = .ok (.aload_n 0, 1) := by decide +kernel
theorem dL_law_459 : decode cL_law 459 = .ok (.iload_n 3, 1) := by decide +kernel
theorem dL_law_460 : decode cL_law 460 = .ok (.iconst 2, 1) := by decide +kernel
theorem dL_law_461 : decode cL_law 461 = .ok (.iadd, 1) := by decide +kernel
theorem dL_law_462 : decode cL_law 462 = .ok (.iaload, 1) := by decide +kernel
theorem dL_law_463 : decode cL_law 463 = .ok (.invokevirtual 53, 3) := by decide +kernel
theorem dL_law_466 : decode cL_law 466 = .ok (.if_icmp .eq 480, 3) := by decide +kernel
theorem dL_law_469 : decode cL_law 469 = .ok (.iconst 0, 1) := by decide +kernel
theorem dL_law_470 : decode cL_law 470 = .ok (.ireturn, 1) := by decide +kernel
theorem dL_law_471 : decode cL_law 471 = .ok (.aload_n 1, 1) := by decide +kernel
theorem dL_law_472 : decode cL_law 472 = .ok (.aload_n 0, 1) := by decide +kernel
theorem dL_law_473 : decode cL_law 473 = .ok (.iload_n 3, 1) := by decide +kernel
theorem dL_law_474 : decode cL_law 474 = .ok (.iconst 1, 1) := by decide +kernel
theorem dL_law_475 : decode cL_law 475 = .ok (.iadd, 1) := by decide +kernel
theorem dL_law_476 : decode cL_law 476 = .ok (.iaload, 1) := by decide +kernel
theorem dL_law_477 : decode cL_law 477 = .ok (.aload_n 0, 1) := by decide +kernel
theorem dL_law_478 : decode cL_law 478 = .ok (.iload_n 3, 1) := by decide +kernel
theorem dL_law_479 : decode cL_law 479 = .ok (.iconst 2, 1) := by decide +kernel
theorem dL_law_480 : decode cL_law 480 = .ok (.iadd, 1) := by decide +kernel
theorem dL_law_481 : decode cL_law 481 = .ok (.iaload, 1) := by decide +kernel
theorem dL_law_482 : decode cL_law 482 = .ok (.invokevirtual 54, 3) := by decide +kernel
theorem dL_law_485 : decode cL_law 485 = .ok (.aload_n 2, 1) := by decide +kernel
theorem dL_law_486 : decode cL_law 486 = .ok (.aload_n 0, 1) := by decide +kernel
theorem dL_law_487 : decode cL_law 487 = .ok (.iload_n 3, 1) := by decide +kernel
theorem dL_law_488 : decode cL_law 488 = .ok (.iconst 1, 1) := by decide +kernel
theorem dL_law_489 : decode cL_law 489 = .ok (.iadd, 1) := by decide +kernel
theorem dL_law_490 : decode cL_law 490 = .ok (.iaload, 1) := by decide +kernel
theorem dL_law_491 : decode cL_law 491 = .ok (.aload_n 0, 1) := by decide +kernel
theorem dL_law_492 : decode cL_law 492 = .ok (.iload_n 3, 1) := by decide +kernel
theorem dL_law_493 : decode cL_law 493 = .ok (.iconst 2, 1) := by decide +kernel
theorem dL_law_494 : decode cL_law 494 = .ok (.iadd, 1) := by decide +kernel
theorem dL_law_495 : decode cL_law 495 = .ok (.iaload, 1) := by decide +kernel
theorem dL_law_496 : decode cL_law 496 = .ok (.invokevirtual 57, 3) := by decide +kernel
theorem dL_law_499 : decode cL_law 499 = .ok (.if_icmp .eq 447, 3) := by decide +kernel
theorem dL_law_502 : decode cL_law 502 = .ok (.iconst 0, 1) := by decide +kernel
theorem dL_law_503 : decode cL_law 503 = .ok (.ireturn, 1) := by decide +kernel
theorem dL_law_504 : decode cL_law 504 = .ok (.aload_n 1, 1) := by decide +kernel
theorem dL_law_505 : decode cL_law 505 = .ok (.aload_n 0, 1) := by decide +kernel
theorem dL_law_506 : decode cL_law 506 = .ok (.iload_n 3, 1) := by decide +kernel
theorem dL_law_507 : decode cL_law 507 = .ok (.iconst 1, 1) := by decide +kernel
theorem dL_law_508 : decode cL_law 508 = .ok (.iadd, 1) := by decide +kernel
theorem dL_law_509 : decode cL_law 509 = .ok (.iaload, 1) := by decide +kernel
theorem dL_law_510 : decode cL_law 510 = .ok (.aload_n 0, 1) := by decide +kernel
theorem dL_law_511 : decode cL_law 511 = .ok (.iload_n 3, 1) := by decide +kernel
theorem dL_law_512 : decode cL_law 512 = .ok (.iconst 2, 1) := by decide +kernel
theorem dL_law_513 : decode cL_law 513 = .ok (.iadd, 1) := by decide +kernel
theorem dL_law_514 : decode cL_law 514 = .ok (.iaload, 1) := by decide +kernel
theorem dL_law_515 : decode cL_law 515 = .ok (.invokevirtual 58, 3) := by decide +kernel
theorem dL_law_518 : decode cL_law 518 = .ok (.aload_n 2, 1) := by decide +kernel
theorem dL_law_519 : decode cL_law 519 = .ok (.aload_n 0, 1) := by decide +kernel
theorem dL_law_520 : decode cL_law 520 = .ok (.iload_n 3, 1) := by decide +kernel
theorem dL_law_521 : decode cL_law 521 = .ok (.iconst 1, 1) := by decide +kernel
theorem dL_law_522 : decode cL_law 522 = .ok (.iadd, 1) := by decide +kernel
theorem dL_law_523 : decode cL_law 523 = .ok (.iaload, 1) := by decide +kernel
theorem dL_law_524 : decode cL_law 524 = .ok (.aload_n 0, 1) := by decide +kernel
theorem dL_law_525 : decode cL_law 525 = .ok (.iload_n 3, 1) := by decide +kernel
theorem dL_law_526 : decode cL_law 526 = .ok (.iconst 2, 1) := by decide +kernel
theorem dL_law_527 : decode cL_law 527 = .ok (.iadd, 1) := by decide +kernel
theorem dL_law_528 : decode cL_law 528 = .ok (.iaload, 1) := by decide +kernel
theorem dL_law_529 : decode cL_law 529 = .ok (.invokevirtual 61, 3) := by decide +kernel
theorem dL_law_532 : decode cL_law 532 = .ok (.if_icmp .eq 414, 3) := by decide +kernel
theorem dL_law_535 : decode cL_law 535 = .ok (.iconst 0, 1) := by decide +kernel
theorem dL_law_536 : decode cL_law 536 = .ok (.ireturn, 1) := by decide +kernel
theorem dL_law_537 : decode cL_law 537 = .ok (.aload_n 1, 1) := by decide +kernel
theorem dL_law_538 : decode cL_law 538 = .ok (.aload_n 0, 1) := by decide +kernel
theorem dL_law_539 : decode cL_law 539 = .ok (.iload_n 3, 1) := by decide +kernel
theorem dL_law_540 : decode cL_law 540 = .ok (.iconst 1, 1) := by decide +kernel
theorem dL_law_541 : decode cL_law 541 = .ok (.iadd, 1) := by decide +kernel
theorem dL_law_542 : decode cL_law 542 = .ok (.iaload, 1) := by decide +kernel
theorem dL_law_543 : decode cL_law 543 = .ok (.aload_n 0, 1) := by decide +kernel
theorem dL_law_544 : decode cL_law 544 = .ok (.iload_n 3, 1) := by decide +kernel
theorem dL_law_545 : decode cL_law 545 = .ok (.iconst 2, 1) := by decide +kernel
theorem dL_law_546 : decode cL_law 546 = .ok (.iadd, 1) := by decide +kernel
theorem dL_law_547 : decode cL_law 547 = .ok (.iaload, 1) := by decide +kernel
theorem dL_law_548 : decode cL_law 548 = .ok (.invokevirtual 62, 3) := by decide +kernel
theorem dL_law_551 : decode cL_law 551 = .ok (.aload_n 2, 1) := by decide +kernel
theorem dL_law_552 : decode cL_law 552 = .ok (.aload_n 0, 1) := by decide +kernel
theorem dL_law_553 : decode cL_law 553 = .ok (.iload_n 3, 1) := by decide +kernel
theorem dL_law_554 : decode cL_law 554 = .ok (.iconst 1, 1) := by decide +kernel
theorem dL_law_555 : decode cL_law 555 = .ok (.iadd, 1) := by decide +kernel
theorem dL_law_556 : decode cL_law 556 = .ok (.iaload, 1) := by decide +kernel
theorem dL_law_557 : decode cL_law 557 = .ok (.aload_n 0, 1) := by decide +kernel
theorem dL_law_558 : decode cL_law 558 = .ok (.iload_n 3, 1) := by decide +kernel
theorem dL_law_559 : decode cL_law 559 = .ok (.iconst 2, 1) := by decide +kernel
theorem dL_law_560 : decode cL_law 560 = .ok (.iadd, 1) := by decide +kernel
theorem dL_law_561 : decode cL_law 561 = .ok (.iaload, 1) := by decide +kernel
theorem dL_law_562 : decode cL_law 562 = .ok (.invokevirtual 65, 3) := by decide +kernel
theorem dL_law_565 : decode cL_law 565 = .ok (.if_icmp .eq 381, 3) := by decide +kernel
theorem dL_law_568 : decode cL_law 568 = .ok (.iconst 0, 1) := by decide +kernel
theorem dL_law_569 : decode cL_law 569 = .ok (.ireturn, 1) := by decide +kernel
theorem dL_law_570 : decode cL_law 570 = .ok (.aload_n 1, 1) := by decide +kernel
theorem dL_law_571 : decode cL_law 571 = .ok (.aload_n 0, 1) := by decide +kernel
theorem dL_law_572 : decode cL_law 572 = .ok (.iload_n 3, 1) := by decide +kernel
theorem dL_law_573 : decode cL_law 573 = .ok (.iconst 1, 1) := by decide +kernel
theorem dL_law_574 : decode cL_law 574 = .ok (.iadd, 1) := by decide +kernel
theorem dL_law_575 : decode cL_law 575 = .ok (.iaload, 1) := by decide +kernel
theorem dL_law_576 : decode cL_law 576 = .ok (.aload_n 0, 1) := by decide +kernel
theorem dL_law_577 : decode cL_law 577 = .ok (.iload_n 3, 1) := by decide +kernel
theorem dL_law_578 : decode cL_law 578 = .ok (.iconst 2, 1) := by decide +kernel
theorem dL_law_579 : decode cL_law 579 = .ok (.iadd, 1) := by decide +kernel
theorem dL_law_580 : decode cL_law 580 = .ok (.iaload, 1) := by decide +kernel
theorem dL_law_581 : decode cL_law 581 = .ok (.aload_n 0, 1) := by decide +kernel
theorem dL_law_582 : decode cL_law 582 = .ok (.iload_n 3, 1) := by decide +kernel
theorem dL_law_583 : decode cL_law 583 = .ok (.iconst 3, 1) := by decide +kernel
theorem dL_law_584 : decode cL_law 584 = .ok (.iadd, 1) := by decide +kernel
theorem dL_law_585 : decode cL_law 585 = .ok (.iaload, 1) := by decide +kernel
theorem dL_law_586 : decode cL_law 586 = .ok (.invokevirtual 66, 3) := by decide +kernel
theorem dL_law_589 : decode cL_law 589 = .ok (.aload_n 2, 1) := by decide +kernel
theorem dL_law_590 : decode cL_law 590 = .ok (.aload_n 0, 1) := by decide +kernel
theorem dL_law_591 : decode cL_law 591 = .ok (.iload_n 3, 1) := by decide +kernel
theorem dL_law_592 : decode cL_law 592 = .ok (.iconst 1, 1) := by decide +kernel
theorem dL_law_593 : decode cL_law 593 = .ok (.iadd, 1) := by decide +kernel
theorem dL_law_594 : decode cL_law 594 = .ok (.iaload, 1) := by decide +kernel
theorem dL_law_595 : decode cL_law 595 = .ok (.aload_n 0, 1) := by decide +kernel
theorem dL_law_596 : decode cL_law 596 = .ok (.iload_n 3, 1) := by decide +kernel
theorem dL_law_597 : decode cL_law 597 = .ok (.iconst 2, 1) := by decide +kernel
theorem dL_law_598 : decode cL_law 598 = .ok (.iadd, 1) := by decide +kernel
theorem dL_law_599 : decode cL_law 599 = .ok (.iaload, 1) := by decide +kernel
theorem dL_law_600 : decode cL_law 600 = .ok (.aload_n 0, 1) := by decide +kernel
theorem dL_law_601 : decode cL_law 601 = .ok (.iload_n 3, 1) := by decide +kernel
theorem dL_law_602 : decode cL_law 602 = .ok (.iconst 3, 1) := by decide +kernel
theorem dL_law_603 : decode cL_law 603 = .ok (.iadd, 1) := by decide +kernel
theorem dL_law_604 : decode cL_law 604 = .ok (.iaload, 1) := by decide +kernel
theorem dL_law_605 : decode cL_law 605 = .ok (.invokevirtual 69, 3) := by decide +kernel
theorem dL_law_608 : decode cL_law 608 = .ok (.if_icmp .eq 338, 3) := by decide +kernel
theorem dL_law_611 : decode cL_law 611 = .ok (.iconst 0, 1) := by decide +kernel
theorem dL_law_612 : decode cL_law 612 = .ok (.ireturn, 1) := by decide +kernel
theorem dL_law_613 : decode cL_law 613 = .ok (.aload_n 1, 1) := by decide +kernel
theorem dL_law_614 : decode cL_law 614 = .ok (.aload_n 0, 1) := by decide +kernel
theorem dL_law_615 : decode cL_law 615 = .ok (.iload_n 3, 1) := by decide +kernel
theorem dL_law_616 : decode cL_law 616 = .ok (.iconst 1, 1) := by decide +kernel
theorem dL_law_617 : decode cL_law 617 = .ok (.iadd, 1) := by decide +kernel
theorem dL_law_618 : decode cL_law 618 = .ok (.iaload, 1) := by decide +kernel
theorem dL_law_619 : decode cL_law 619 = .ok (.invokevirtual 70, 3) := by decide +kernel
theorem dL_law_622 : decode cL_law 622 = .ok (.aload_n 2, 1) := by decide +kernel
theorem dL_law_623 : decode cL_law 623 = .ok (.aload_n 0, 1) := by decide +kernel
theorem dL_law_624 : decode cL_law 624 = .ok (.iload_n 3, 1) := by decide +kernel
theorem dL_law_625 : decode cL_law 625 = .ok (.iconst 1, 1) := by decide +kernel
theorem dL_law_626 : decode cL_law 626 = .ok (.iadd, 1) := by decide +kernel
theorem dL_law_627 : decode cL_law 627 = .ok (.iaload, 1) := by decide +kernel
theorem dL_law_628 : decode cL_law 628 = .ok (.invokevirtual 73, 3) := by decide +kernel
theorem dL_law_631 : decode cL_law 631 = .ok (.if_icmp .eq 315, 3) := by decide +kernel
theorem dL_law_634 : decode cL_law 634 = .ok (.iconst 0, 1) := by decide +kernel
theorem dL_law_635 : decode cL_law 635 = .ok (.ireturn, 1) := by decide +kernel
theorem dL_law_636 : decode cL_law 636 = .ok (.aload_n 1, 1) := by decide +kernel
theorem dL_law_637 : decode cL_law 637 = .ok (.aload_n 0, 1) := by decide +kernel
theorem dL_law_638 : decode cL_law 638 = .ok (.iload_n 3, 1) := by decide +kernel
theorem dL_law_639 : decode cL_law 639 = .ok (.iconst 1, 1) := by decide +kernel
theorem dL_law_640 : decode cL_law 640 = .ok (.iadd, 1) := by decide +kernel
theorem dL_law_641 : decode cL_law 641 = .ok (.iaload, 1) := by decide +kernel
theorem dL_law_642 : decode cL_law 642 = .ok (.aload_n 0, 1) := by decide +kernel
theorem dL_law_643 : decode cL_law 643 = .ok (.iload_n 3, 1) := by decide +kernel
theorem dL_law_644 : decode cL_law 644 = .ok (.iconst 2, 1) := by decide +kernel
theorem dL_law_645 : decode cL_law 645 = .ok (.iadd, 1) := by decide +kernel
theorem dL_law_646 : decode cL_law 646 = .ok (.iaload, 1) := by decide +kernel
theorem dL_law_647 : decode cL_law 647 = .ok (.aload_n 0, 1) := by decide +kernel
theorem dL_law_648 : decode cL_law 648 = .ok (.iload_n 3, 1) := by decide +kernel
theorem dL_law_649 : decode cL_law 649 = .ok (.iconst 3, 1) := by decide +kernel
theorem dL_law_650 : decode cL_law 650 = .ok (.iadd, 1) := by decide +kernel
theorem dL_law_651 : decode cL_law 651 = .ok (.iaload, 1) := by decide +kernel
theorem dL_law_652 : decode cL_law 652 = .ok (.aload_n 0, 1) := by decide +kernel
theorem dL_law_653 : decode cL_law 653 = .ok (.iload_n 3, 1) := by decide +kernel
theorem dL_law_654 : decode cL_law 654 = .ok (.iconst 4, 1) := by decide +kernel
theorem dL_law_655 : decode cL_law 655 = .ok (.iadd, 1) := by decide +kernel
theorem dL_law_656 : decode cL_law 656 = .ok (.iaload, 1) := by decide +kernel
theorem dL_law_657 : decode cL_law 657 = .ok (.invokevirtual 74, 3) := by decide +kernel
theorem dL_law_660 : decode cL_law 660 = .ok (.aload_n 2, 1) := by decide +kernel
theorem dL_law_661 : decode cL_law 661 = .ok (.aload_n 0, 1) := by decide +kernel
theorem dL_law_662 : decode cL_law 662 = .ok (.iload_n 3, 1) := by decide +kernel
theorem dL_law_663 : decode cL_law 663 = .ok (.iconst 1, 1) := by decide +kernel
theorem dL_law_664 : decode cL_law 664 = .ok (.iadd, 1) := by decide +kernel
theorem dL_law_665 : decode cL_law 665 = .ok (.iaload, 1) := by decide +kernel
theorem dL_law_666 : decode cL_law 666 = .ok (.aload_n 0, 1) := by decide +kernel
theorem dL_law_667 : decode cL_law 667 = .ok (.iload_n 3, 1) := by decide +kernel
theorem dL_law_668 : decode cL_law 668 = .ok (.iconst 2, 1) := by decide +kernel
theorem dL_law_669 : decode cL_law 669 = .ok (.iadd, 1) := by decide +kernel
theorem dL_law_670 : decode cL_law 670 = .ok (.iaload, 1) := by decide +kernel
theorem dL_law_671 : decode cL_law 671 = .ok (.aload_n 0, 1) := by decide +kernel
theorem dL_law_672 : decode cL_law 672 = .ok (.iload_n 3, 1) := by decide +kernel
theorem dL_law_673 : decode cL_law 673 = .ok (.iconst 3, 1) := by decide +kernel
theorem dL_law_674 : decode cL_law 674 = .ok (.iadd, 1) := by decide +kernel
theorem dL_law_675 : decode cL_law 675 = .ok (.iaload, 1) := by decide +kernel
theorem dL_law_676 : decode cL_law 676 = .ok (.aload_n 0, 1) := by decide +kernel
theorem dL_law_677 : decode cL_law 677 = .ok (.iload_n 3, 1) := by decide +kernel
theorem dL_law_678 : decode cL_law 678 = .ok (.iconst 4, 1) := by decide +kernel
theorem dL_law_679 : decode cL_law 679 = .ok (.iadd, 1) := by decide +kernel
theorem dL_law_680 : decode cL_law 680 = .ok (.iaload, 1) := by decide +kernel
theorem dL_law_681 : decode cL_law 681 = .ok (.invokevirtual 77, 3) := by decide +kernel
theorem dL_law_684 : decode cL_law 684 = .ok (.if_icmp .eq 262, 3) := by decide +kernel
theorem dL_law_687 : decode cL_law 687 = .ok (.iconst 0, 1) := by decide +kernel
theorem dL_law_688 : decode cL_law 688 = .ok (.ireturn, 1) := by decide +kernel
theorem dL_law_689 : decode cL_law 689 = .ok (.aload_n 1, 1) := by decide +kernel
theorem dL_law_690 : decode cL_law 690 = .ok (.aload_n 0, 1) := by decide +kernel
theorem dL_law_691 : decode cL_law 691 = .ok (.iload_n 3, 1) := by decide +kernel
theorem dL_law_692 : decode cL_law 692 = .ok (.iconst 1, 1) := by decide +kernel
theorem dL_law_693 : decode cL_law 693 = .ok (.iadd, 1) := by decide +kernel
theorem dL_law_694 : decode cL_law 694 = .ok (.iaload, 1) := by decide +kernel
theorem dL_law_695 : decode cL_law 695 = .ok (.aload_n 0, 1) := by decide +kernel
theorem dL_law_696 : decode cL_law 696 = .ok (.iload_n 3, 1) := by decide +kernel
theorem dL_law_697 : decode cL_law 697 = .ok (.iconst 2, 1) := by decide +kernel
theorem dL_law_698 : decode cL_law 698 = .ok (.iadd, 1) := by decide +kernel
theorem dL_law_699 : decode cL_law 699 = .ok (.iaload, 1) := by decide +kernel
theorem dL_law_700 : decode cL_law 700 = .ok (.aload_n 0, 1) := by decide +kernel
theorem dL_law_701 : decode cL_law 701 = .ok (.iload_n 3, 1) := by decide +kernel
theorem dL_law_702 : decode cL_law 702 = .ok (.iconst 3, 1) := by decide +kernel
theorem dL_law_703 : decode cL_law 703 = .ok (.iadd, 1) := by decide +kernel
theorem dL_law_704 : decode cL_law 704 = .ok (.iaload, 1) := by decide +kernel
theorem dL_law_705 : decode cL_law 705 = .ok (.invokevirtual 78, 3) := by decide +kernel
theorem dL_law_708 : decode cL_law 708 = .ok (.aload_n 2, 1) := by decide +kernel
theorem dL_law_709 : decode cL_law 709 = .ok (.aload_n 0, 1) := by decide +kernel
theorem dL_law_710 : decode cL_law 710 = .ok (.iload_n 3, 1) := by decide +kernel
theorem dL_law_711 : decode cL_law 711 = .ok (.iconst 1, 1) := by decide +kernel
theorem dL_law_712 : decode cL_law 712 = .ok (.iadd, 1) := by decide +kernel
theorem dL_law_713 : decode cL_law 713 = .ok (.iaload, 1) := by decide +kernel
theorem dL_law_714 : decode cL_law 714 = .ok (.aload_n 0, 1) := by decide +kernel
theorem dL_law_715 : decode cL_law 715 = .ok (.iload_n 3, 1) := by decide +kernel
theorem dL_law_716 : decode cL_law 716 = .ok (.iconst 2, 1) := by decide +kernel
theorem dL_law_717 : decode cL_law 717 = .ok (.iadd, 1) := by decide +kernel
theorem dL_law_718 : decode cL_law 718 = .ok (.iaload, 1) := by decide +kernel
theorem dL_law_719 : decode cL_law 719 = .ok (.aload_n 0, 1) := by decide +kernel
theorem dL_law_720 : decode cL_law 720 = .ok (.iload_n 3, 1) := by decide +kernel
theorem dL_law_721 : decode cL_law 721 = .ok (.iconst 3, 1) := by decide +kernel
theorem dL_law_722 : decode cL_law 722 = .ok (.iadd, 1) := by decide +kernel
theorem dL_law_723 : decode cL_law 723 = .ok (.iaload, 1) := by decide +kernel
theorem dL_law_724 : decode cL_law 724 = .ok (.invokevirtual 81, 3) := by decide +kernel
theorem dL_law_727 : decode cL_law 727 = .ok (.if_icmp .eq 219, 3) := by decide +kernel
theorem dL_law_730 : decode cL_law 730 = .ok (.iconst 0, 1) := by decide +kernel
theorem dL_law_731 : decode cL_law 731 = .ok (.ireturn, 1) := by decide +kernel
theorem dL_law_732 : decode cL_law 732 = .ok (.aload_n 1, 1) := by decide +kernel
theorem dL_law_733 : decode cL_law 733 = .ok (.aload_n 0, 1) := by decide +kernel
theorem dL_law_734 : decode cL_law 734 = .ok (.iload_n 3, 1) := by decide +kernel
theorem dL_law_735 : decode cL_law 735 = .ok (.iconst 1, 1) := by decide +kernel
theorem dL_law_736 : decode cL_law 736 = .ok (.iadd, 1) := by decide +kernel
theorem dL_law_737 : decode cL_law 737 = .ok (.iaload, 1) := by decide +kernel
theorem dL_law_738 : decode cL_law 738 = .ok (.aload_n 0, 1) := by decide +kernel
theorem dL_law_739 : decode cL_law 739 = .ok (.iload_n 3, 1) := by decide +kernel
theorem dL_law_740 : decode cL_law 740 = .ok (.iconst 2, 1) := by decide +kernel
theorem dL_law_741 : decode cL_law 741 = .ok (.iadd, 1) := by decide +kernel
theorem dL_law_742 : decode cL_law 742 = .ok (.iaload, 1) := by decide +kernel
theorem dL_law_743 : decode cL_law 743 = .ok (.invokevirtual 82, 3) := by decide +kernel
theorem dL_law_746 : decode cL_law 746 = .ok (.aload_n 2, 1) := by decide +kernel
theorem dL_law_747 : decode cL_law 747 = .ok (.aload_n 0, 1) := by decide +kernel
theorem dL_law_748 : decode cL_law 748 = .ok (.iload_n 3, 1) := by decide +kernel
theorem dL_law_749 : decode cL_law 749 = .ok (.iconst 1, 1) := by decide +kernel
theorem dL_law_750 : decode cL_law 750 = .ok (.iadd, 1) := by decide +kernel
theorem dL_law_751 : decode cL_law 751 = .ok (.iaload, 1) := by decide +kernel
theorem dL_law_752 : decode cL_law 752 = .ok (.aload_n 0, 1) := by decide +kernel
theorem dL_law_753 : decode cL_law 753 = .ok (.iload_n 3, 1) := by decide +kernel
theorem dL_law_754 : decode cL_law 754 = .ok (.iconst 2, 1) := by decide +kernel
theorem dL_law_755 : decode cL_law 755 = .ok (.iadd, 1) := by decide +kernel
theorem dL_law_756 : decode cL_law 756 = .ok (.iaload, 1) := by decide +kernel
theorem dL_law_757 : decode cL_law 757 = .ok (.invokevirtual 85, 3) := by decide +kernel
theorem dL_law_760 : decode cL_law 760 = .ok (.if_icmp .eq 186, 3) := by decide +kernel
theorem dL_law_763 : decode cL_law 763 = .ok (.iconst 0, 1) := by decide +kernel
theorem dL_law_764 : decode cL_law 764 = .ok (.ireturn, 1) := by decide +kernel
theorem dL_law_765 : decode cL_law 765 = .ok (.aload_n 1, 1) := by decide +kernel
theorem dL_law_766 : decode cL_law 766 = .ok (.aload_n 0, 1) := by decide +kernel
theorem dL_law_767 : decode cL_law 767 = .ok (.iload_n 3, 1) := by decide +kernel
theorem dL_law_768 : decode cL_law 768 = .ok (.iconst 1, 1) := by decide +kernel
theorem dL_law_769 : decode cL_law 769 = .ok (.iadd, 1) := by decide +kernel
theorem dL_law_770 : decode cL_law 770 = .ok (.iaload, 1) := by decide +kernel
theorem dL_law_771 : decode cL_law 771 = .ok (.aload_n 0, 1) := by decide +kernel
theorem dL_law_772 : decode cL_law 772 = .ok (.iload_n 3, 1) := by decide +kernel
theorem dL_law_773 : decode cL_law 773 = .ok (.iconst 2, 1) := by decide +kernel
theorem dL_law_774 : decode cL_law 774 = .ok (.iadd, 1) := by decide +kernel
theorem dL_law_775 : decode cL_law 775 = .ok (.iaload, 1) := by decide +kernel
theorem dL_law_776 : decode cL_law 776 = .ok (.aload_n 0, 1) := by decide +kernel
theorem dL_law_777 : decode cL_law 777 = .ok (.iload_n 3, 1) := by decide +kernel
theorem dL_law_778 : decode cL_law 778 = .ok (.iconst 3, 1) := by decide +kernel
theorem dL_law_779 : decode cL_law 779 = .ok (.iadd, 1) := by decide +kernel
theorem dL_law_780 : decode cL_law 780 = .ok (.iaload, 1) := by decide +kernel
theorem dL_law_781 : decode cL_law 781 = .ok (.invokevirtual 86, 3) := by decide +kernel
theorem dL_law_784 : decode cL_law 784 = .ok (.aload_n 2, 1) := by decide +kernel
theorem dL_law_785 : decode cL_law 785 = .ok (.aload_n 0, 1) := by decide +kernel
theorem dL_law_786 : decode cL_law 786 = .ok (.iload_n 3, 1) := by decide +kernel
theorem dL_law_787 : decode cL_law 787 = .ok (.iconst 1, 1) := by decide +kernel
theorem dL_law_788 : decode cL_law 788 = .ok (.iadd, 1) := by decide +kernel
theorem dL_law_789 : decode cL_law 789 = .ok (.iaload, 1) := by decide +kernel
theorem dL_law_790 : decode cL_law 790 = .ok (.aload_n 0, 1) := by decide +kernel
theorem dL_law_791 : decode cL_law 791 = .ok (.iload_n 3, 1) := by decide +kernel
theorem dL_law_792 : decode cL_law 792 = .ok (.iconst 2, 1) := by decide +kernel
theorem dL_law_793 : decode cL_law 793 = .ok (.iadd, 1) := by decide +kernel
theorem dL_law_794 : decode cL_law 794 = .ok (.iaload, 1) := by decide +kernel
theorem dL_law_795 : decode cL_law 795 = .ok (.aload_n 0, 1) := by decide +kernel
theorem dL_law_796 : decode cL_law 796 = .ok (.iload_n 3, 1) := by decide +kernel
theorem dL_law_797 : decode cL_law 797 = .ok (.iconst 3, 1) := by decide +kernel
theorem dL_law_798 : decode cL_law 798 = .ok (.iadd, 1) := by decide +kernel
theorem dL_law_799 : decode cL_law 799 = .ok (.iaload, 1) := by decide +kernel
theorem dL_law_800 : decode cL_law 800 = .ok (.invokevirtual 89, 3) := by decide +kernel
theorem dL_law_803 : decode cL_law 803 = .ok (.if_icmp .eq 143, 3) := by decide +kernel
theorem dL_law_806 : decode cL_law 806 = .ok (.iconst 0, 1) := by decide +kernel
theorem dL_law_807 : decode cL_law 807 = .ok (.ireturn, 1) := by decide +kernel
theorem dL_law_808 : decode cL_law 808 = .ok (.aload_n 1, 1) := by decide +kernel
theorem dL_law_809 : decode cL_law 809 = .ok (.aload_n 0, 1) := by decide +kernel
theorem dL_law_810 : decode cL_law 810 = .ok (.iload_n 3, 1) := by decide +kernel
theorem dL_law_811 : decode cL_law 811 = .ok (.iconst 1, 1) := by decide +kernel
theorem dL_law_812 : decode cL_law 812 = .ok (.iadd, 1) := by decide +kernel
theorem dL_law_813 : decode cL_law 813 = .ok (.iaload, 1) := by decide +kernel
theorem dL_law_814 : decode cL_law 814 = .ok (.i2l, 1) := by decide +kernel
theorem dL_law_815 : decode cL_law 815 = .ok (.bipush 32, 2) := by decide +kernel
theorem dL_law_817 : decode cL_law 817 = .ok (.lshl, 1) := by decide +kernel
theorem dL_law_818 : decode cL_law 818 = .ok (.aload_n 0, 1) := by decide +kernel
theorem dL_law_819 : decode cL_law 819 = .ok (.iload_n 3, 1) := by decide +kernel
theorem dL_law_820 : decode cL_law 820 = .ok (.iconst 2, 1) := by decide +kernel
theorem dL_law_821 : decode cL_law 821 = .ok (.iadd, 1) := by decide +kernel
theorem dL_law_822 : decode cL_law 822 = .ok (.iaload, 1) := by decide +kernel
theorem dL_law_823 : decode cL_law 823 = .ok (.i2l, 1) := by decide +kernel
theorem dL_law_824 : decode cL_law 824 = .ok (.ldc2_w 90, 3) := by decide +kernel
theorem dL_law_827 : decode cL_law 827 = .ok (.land, 1) := by decide +kernel
theorem dL_law_828 : decode cL_law 828 = .ok (.lor, 1) := by decide +kernel
theorem dL_law_829 : decode cL_law 829 = .ok (.invokevirtual 92, 3) := by decide +kernel
theorem dL_law_832 : decode cL_law 832 = .ok (.aload_n 2, 1) := by decide +kernel
theorem dL_law_833 : decode cL_law 833 = .ok (.aload_n 0, 1) := by decide +kernel
theorem dL_law_834 : decode cL_law 834 = .ok (.iload_n 3, 1) := by decide +kernel
theorem dL_law_835 : decode cL_law 835 = .ok (.iconst 1, 1) := by decide +kernel
theorem dL_law_836 : decode cL_law 836 = .ok (.iadd, 1) := by decide +kernel
theorem dL_law_837 : decode cL_law 837 = .ok (.iaload, 1) := by decide +kernel
theorem dL_law_838 : decode cL_law 838 = .ok (.i2l, 1) := by decide +kernel
theorem dL_law_839 : decode cL_law 839 = .ok (.bipush 32, 2) := by decide +kernel
theorem dL_law_841 : decode cL_law 841 = .ok (.lshl, 1) := by decide +kernel
theorem dL_law_842 : decode cL_law 842 = .ok (.aload_n 0, 1) := by decide +kernel
theorem dL_law_843 : decode cL_law 843 = .ok (.iload_n 3, 1) := by decide +kernel
theorem dL_law_844 : decode cL_law 844 = .ok (.iconst 2, 1) := by decide +kernel
theorem dL_law_845 : decode cL_law 845 = .ok (.iadd, 1) := by decide +kernel
theorem dL_law_846 : decode cL_law 846 = .ok (.iaload, 1) := by decide +kernel
theorem dL_law_847 : decode cL_law 847 = .ok (.i2l, 1) := by decide +kernel
theorem dL_law_848 : decode cL_law 848 = .ok (.ldc2_w 90, 3) := by decide +kernel
theorem dL_law_851 : decode cL_law 851 = .ok (.land, 1) := by decide +kernel
theorem dL_law_852 : decode cL_law 852 = .ok (.lor, 1) := by decide +kernel
theorem dL_law_853 : decode cL_law 853 = .ok (.invokevirtual 96, 3) := by decide +kernel
theorem dL_law_856 : decode cL_law 856 = .ok (.if_icmp .eq 90, 3) := by decide +kernel
theorem dL_law_859 : decode cL_law 859 = .ok (.iconst 0, 1) := by decide +kernel
theorem dL_law_860 : decode cL_law 860 = .ok (.ireturn, 1) := by decide +kernel
theorem dL_law_861 : decode cL_law 861 = .ok (.aload_n 1, 1) := by decide +kernel
theorem dL_law_862 : decode cL_law 862 = .ok (.invokevirtual 97, 3) := by decide +kernel
theorem dL_law_865 : decode cL_law 865 = .ok (.aload_n 2, 1) := by decide +kernel
theorem dL_law_866 : decode cL_law 866 = .ok (.invokevirtual 101, 3) := by decide +kernel
theorem dL_law_869 : decode cL_law 869 = .ok (.if_icmp .eq 77, 3) := by decide +kernel
theorem dL_law_872 : decode cL_law 872 = .ok (.iconst 0, 1) := by decide +kernel
theorem dL_law_873 : decode cL_law 873 = .ok (.ireturn, 1) := by decide +kernel
theorem dL_law_874 : decode cL_law 874 = .ok (.aload_n 1, 1) := by decide +kernel
theorem dL_law_875 : decode cL_law 875 = .ok (.invokevirtual 102, 3) := by decide +kernel
theorem dL_law_878 : decode cL_law 878 = .ok (.aload_n 2, 1) := by decide +kernel
theorem dL_law_879 : decode cL_law 879 = .ok (.invokevirtual 105, 3) := by decide +kernel
theorem dL_law_882 : decode cL_law 882 = .ok (.if_icmp .eq 64, 3) := by decide +kernel
theorem dL_law_885 : decode cL_law 885 = .ok (.iconst 0, 1) := by decide +kernel
theorem dL_law_886 : decode cL_law 886 = .ok (.ireturn, 1) := by decide +kernel
theorem dL_law_887 : decode cL_law 887 = .ok (.aload_n 1, 1) := by decide +kernel
theorem dL_law_888 : decode cL_law 888 = .ok (.invokevirtual 106, 3) := by decide +kernel
theorem dL_law_891 : decode cL_law 891 = .ok (.aload_n 2, 1) := by decide +kernel
theorem dL_law_892 : decode cL_law 892 = .ok (.invokevirtual 109, 3) := by decide +kernel
theorem dL_law_895 : decode cL_law 895 = .ok (.if_icmp .eq 51, 3) := by decide +kernel
theorem dL_law_898 : decode cL_law 898 = .ok (.iconst 0, 1) := by decide +kernel
theorem dL_law_899 : decode cL_law 899 = .ok (.ireturn, 1) := by decide +kernel
theorem dL_law_900 : decode cL_law 900 = .ok (.aload_n 1, 1) := by decide +kernel
theorem dL_law_901 : decode cL_law 901 = .ok (.aload_n 0, 1) := by decide +kernel
theorem dL_law_902 : decode cL_law 902 = .ok (.iload_n 3, 1) := by decide +kernel
theorem dL_law_903 : decode cL_law 903 = .ok (.iconst 1, 1) := by decide +kernel
theorem dL_law_904 : decode cL_law 904 = .ok (.iadd, 1) := by decide +kernel
theorem dL_law_905 : decode cL_law 905 = .ok (.iaload, 1) := by decide +kernel
theorem dL_law_906 : decode cL_law 906 = .ok (.invokevirtual 110, 3) := by decide +kernel
theorem dL_law_909 : decode cL_law 909 = .ok (.aload_n 2, 1) := by decide +kernel
theorem dL_law_910 : decode cL_law 910 = .ok (.aload_n 0, 1) := by decide +kernel
theorem dL_law_911 : decode cL_law 911 = .ok (.iload_n 3, 1) := by decide +kernel
theorem dL_law_912 : decode cL_law 912 = .ok (.iconst 1, 1) := by decide +kernel
theorem dL_law_913 : decode cL_law 913 = .ok (.iadd, 1) := by decide +kernel
theorem dL_law_914 : decode cL_law 914 = .ok (.iaload, 1) := by decide +kernel
theorem dL_law_915 : decode cL_law 915 = .ok (.invokevirtual 113, 3) := by decide +kernel
theorem dL_law_918 : decode cL_law 918 = .ok (.if_icmp .eq 28, 3) := by decide +kernel
theorem dL_law_921 : decode cL_law 921 = .ok (.iconst 0, 1) := by decide +kernel
theorem dL_law_922 : decode cL_law 922 = .ok (.ireturn, 1) := by decide +kernel
theorem dL_law_923 : decode cL_law 923 = .ok (.aload_n 1, 1) := by decide +kernel
theorem dL_law_924 : decode cL_law 924 = .ok (.aload_n 0, 1) := by decide +kernel
theorem dL_law_925 : decode cL_law 925 = .ok (.iload_n 3, 1) := by decide +kernel
theorem dL_law_926 : decode cL_law 926 = .ok (.iconst 1, 1) := by decide +kernel
theorem dL_law_927 : decode cL_law 927 = .ok (.iadd, 1) := by decide +kernel
theorem dL_law_928 : decode cL_law 928 = .ok (.iaload, 1) := by decide +kernel
theorem dL_law_929 : decode cL_law 929 = .ok (.invokevirtual 114, 3) := by decide +kernel
theorem dL_law_932 : decode cL_law 932 = .ok (.aload_n 2, 1) := by decide +kernel
theorem dL_law_933 : decode cL_law 933 = .ok (.aload_n 0, 1) := by decide +kernel
theorem dL_law_934 : decode cL_law 934 = .ok (.iload_n 3, 1) := by decide +kernel
theorem dL_law_935 : decode cL_law 935 = .ok (.iconst 1, 1) := by decide +kernel
theorem dL_law_936 : decode cL_law 936 = .ok (.iadd, 1) := by decide +kernel
theorem dL_law_937 : decode cL_law 937 = .ok (.iaload, 1) := by decide +kernel
theorem dL_law_938 : decode cL_law 938 = .ok (.invokevirtual 117, 3) := by decide +kernel
theorem dL_law_941 : decode cL_law 941 = .ok (.if_icmp .eq 5, 3) := by decide +kernel
theorem dL_law_944 : decode cL_law 944 = .ok (.iconst 0, 1) := by decide +kernel
theorem dL_law_945 : decode cL_law 945 = .ok (.ireturn, 1) := by decide +kernel
theorem dL_law_946 : decode cL_law 946 = .ok (.iinc 3 6, 3) := by decide +kernel
theorem dL_law_949 : decode cL_law 949 = .ok (.goto (-931), 3) := by decide +kernel
theorem dL_law_952 : decode cL_law 952 = .ok (.iconst 1, 1) := by decide +kernel
theorem dL_law_953 : decode cL_law 953 = .ok (.ireturn, 1) := by decide +kernel
end
section
/-! a world: a function from addresses to cells; the whole world of a run, and the run of one method in it -/
abbrev zH : Type := Nat → Option va_E
/-- base, the class tables, the array classes, the cells of LETTER_ROWS, of the text of the signs, of its bytes -/
abbrev zG : Type := Nat × va_G × (Nat → ClassId) × (Nat × Nat × Nat)
/-- a method: its class, its bytes, its locals, its answer's type, whether it is a constructor -/
abbrev zM : Type := String × ByteArray × Nat × Option FieldType × Bool
def zTys (G : zG) : List (ClassId × FieldType) := [(G.2.2.1 0, .int), (G.2.2.1 1, .char), (G.2.2.1 2, .boolean), (G.2.2.1 3, .object RX5), (G.2.2.1 4, .object RX4), (G.2.2.1 5, .object RX2)]
def zRows : Nat → Int32 := fun j => ([2, 2, 2, 2, 2, 4, 4, 4, 4, 7, 7, 5, 5, 5, 7, 7, 2, 2, 2, 2, 5, 5, 5, 5, 7, 7, 4, 7, 4, 7, 5, 5, 7, 5, 5, 7, 4, 7, 1, 7] : List Int32).getD j 0
abbrev zA (G : zG) : Nat → Prop := fun q => G.1 ≤ q
theorem zNw_warm {w : Cond} {s U : State} (hW : s.WarmedH U.vm) (h : va_Nw w s) (hn : zisNest w = true) : va_Nw w U := by
  cases w <;> first | exact va_Nw.warmF hW h | exact va_Nw.warmM hW h | (exfalso; simp [zisNest] at hn; done)
theorem zNw_same {w : Cond} {u U : State} (hv : u.vm = U.vm) (h : va_Nw w u) (hn : zisNest w = true) : va_Nw w U := by
  refine va_Nw.same ?_ hv h
  cases w <;> first | rfl | (exfalso; simp [zisNest] at hn; done)
def zK (G : zG) (U : State) : Prop := va_K G.2.1 vwCl (zTys G) U ∧ va_Z RX6 "LETTER_ROWS" "[I" (.ref G.2.2.2.1) (zA G) U U.heap ∧ va_T .int G.2.2.2.1 40 (fun j => .int (zRows j)) (zA G) U U.heap ∧ (va_AO RX5 U ∧ va_AO RX4 U ∧ va_AO RX2 U) ∧ (vk_R RX1 29 "ilotuehs" G.2.2.2.2.1 U ∧ vk_S 1 [8] [[105, 108, 111, 116, 117, 101, 104, 115]] (fun _ => G.2.2.2.2.1) (fun _ => G.2.2.2.2.2) (zA G) U U.heap ∧ va_Z "java/lang/String" "COMPACT_STRINGS" "Z" (.int 1) (zA G) U U.heap) ∧ (∀ w ∈ zN, va_Nw w U) ∧ G.1 ≤ U.heap.size
theorem zK.to {G : zG} {s U : State} (h : zK G s) (hW : s.WarmedH U.vm) (hz : s.heap.size ≤ U.heap.size) (hq : ∀ q : Nat, q < s.heap.size → ¬ zA G q → U.heap[q]? = s.heap[q]?) : zK G U := by
  obtain ⟨h1, h2, h3, ⟨h4, h5, h6⟩, ⟨h7, h8, h9⟩, hN, h10⟩ := h
  have hvm := hW.alike
  exact ⟨va_K.moved hvm h1, (va_Z.moved hvm h2).kept hq, (va_T.moved hvm h3).kept hq, ⟨va_AO.moved hvm h4, va_AO.moved hvm h5, va_AO.moved hvm h6⟩, ⟨vk_R.warm hW h7, (vk_S.moved hvm h8).kept hq, (va_Z.moved hvm h9).kept hq⟩, fun w hw => zNw_warm hW (hN w hw) (List.mem_filter.mp hw).2, Nat.le_trans h10 hz⟩
theorem zK.calling {G : zG} {U : State} {g : JFrame} {mk : MethodId} {a : Array Value} (h : zK G U) : zK G (U.calling g mk a) := by
  obtain ⟨h1, h2, h3, ⟨h4, h5, h6⟩, ⟨h7, h8, h9⟩, hN, h10⟩ := h
  have hvm : U.vm.Alike (U.calling g mk a).vm := Vm.Alike.refl U.vm
  have hq : ∀ q : Nat, q < U.heap.size → ¬ zA G q → (U.calling g mk a).heap[q]? = U.heap[q]? := fun _ _ _ => rfl
  exact ⟨va_K.moved hvm h1, (va_Z.moved hvm h2).kept hq, (va_T.moved hvm h3).kept hq, ⟨va_AO.moved hvm h4, va_AO.moved hvm h5, va_AO.moved hvm h6⟩, ⟨vk_R.same rfl h7, (vk_S.moved hvm h8).kept hq, (va_Z.moved hvm h9).kept hq⟩, fun w hw => zNw_same (u := U) (U := U.calling g mk a) rfl (hN w hw) (List.mem_filter.mp hw).2, h10⟩
/-- the machine's heap holds the world -/
def zW (G : zG) (hh : zH) (sz : Nat) (H : Heap) : Prop := H.size = sz ∧ ∀ (a : Nat) (e : va_E), hh a = some e → G.1 ≤ a ∧ va_at G.2.1 vwCl (a, e) H
def zup (hh : zH) (a : Nat) (e : va_E) : zH := fun q => if q = a then some e else hh q
theorem zup_eq (hh : zH) (a : Nat) (e : va_E) : zup hh a e a = some e := if_pos rfl
theorem zup_ne {hh : zH} {a q : Nat} {e : va_E} (h : q ≠ a) : zup hh a e q = hh q := if_neg h
theorem zW.lt {G : zG} {hh : zH} {sz : Nat} {H : Heap} (h : zW G hh sz H) {a : Nat} {e : va_E} (ha : hh a = some e) : a < sz := by
  rw [← h.1]; exact (h.2 a e ha).2.lt
theorem zW.one {G : zG} {hh : zH} {sz : Nat} {H : Heap} (h : zW G hh sz H) {a : Nat} {e : va_E} (ha : hh a = some e) : va_P G.2.1 vwCl [(a, e)] H := by
  intro k q hk
  have hz : k < 1 := (List.getElem?_eq_some_iff.mp hk).1
  rw [show k = 0 by omega] at hk
  cases hk
  exact (h.2 a e ha).2
theorem zW.set {G : zG} {hh : zH} {sz : Nat} {H H1 : Heap} (h : zW G hh sz H) {a : Nat} {e0 e : va_E} (ha : hh a = some e0) (he : va_at G.2.1 vwCl (a, e) H1) (z : H1.size = H.size) (oq : ∀ q : Nat, q ≠ a → H1[q]? = H[q]?) : zW G (zup hh a e) sz H1 := by
  refine ⟨z.trans h.1, fun q e' hq => ?_⟩
  by_cases hqa : q = a
  · subst hqa
    rw [zup_eq] at hq
    cases hq
    exact ⟨(h.2 q e0 ha).1, he⟩
  · rw [zup_ne hqa] at hq
    exact ⟨(h.2 q e' hq).1, (h.2 q e' hq).2.kept (oq q hqa)⟩
theorem zW.push {G : zG} {hh : zH} {sz : Nat} {H H1 : Heap} {e : va_E} (h : zW G hh sz H) (hb : G.1 ≤ sz) (he : va_at G.2.1 vwCl (sz, e) H1) (z : H1.size = sz + 1) (oq : ∀ q : Nat, q < sz → H1[q]? = H[q]?) : zW G (zup hh sz e) (sz + 1) H1 := by
  refine ⟨z, fun q e' hq => ?_⟩
  by_cases hqa : q = sz
  · subst hqa
    rw [zup_eq] at hq
    cases hq
    exact ⟨hb, he⟩
  · rw [zup_ne hqa] at hq
    exact ⟨(h.2 q e' hq).1, (h.2 q e' hq).2.kept (oq q (h.lt hq))⟩
/-! the locals, by places -/
def zL (ls : Array Slot) (nL : Nat) (lv : List (Option Value)) : Prop := ∀ l : List (Nat × Value), (∀ q ∈ l, lv[q.1]? = some (some q.2)) → lv_has ls nL l
theorem zL.at {ls : Array Slot} {nL : Nat} {lv : List (Option Value)} (h : zL ls nL lv) {i : Nat} {v : Value} (hv : lv[i]? = some (some v)) : ls[i]? = some (.val v) :=
  (h [(i, v)] (fun q hq => by rw [List.mem_singleton.mp hq]; exact hv)).2.2 (i, v) (List.mem_singleton.mpr rfl)
theorem zL.size {ls : Array Slot} {nL : Nat} {lv : List (Option Value)} (h : zL ls nL lv) : ls.size = nL := (h [] (fun q hq => by cases hq)).1
def zLp (lv : List (Option Value)) : List (Nat × Value) := (List.range lv.length).filterMap (fun i => ((lv[i]?).join).map (fun v => (i, v)))
theorem zLp_mem {lv : List (Option Value)} {q : Nat × Value} : q ∈ zLp lv ↔ lv[q.1]? = some (some q.2) := by
  unfold zLp
  rw [List.mem_filterMap]
  constructor
  · rintro ⟨i, hi, h⟩
    cases h1 : lv[i]? with
    | none => rw [h1] at h; cases h
    | some w =>
      cases w with
      | none => rw [h1] at h; cases h
      | some v => rw [h1] at h; cases h; exact h1
  · intro h
    refine ⟨q.1, List.mem_range.mpr (List.getElem?_eq_some_iff.mp h).1, ?_⟩
    rw [h]; rfl
theorem zL.has {ls : Array Slot} {nL : Nat} {lv : List (Option Value)} (h : zL ls nL lv) : lv_has ls nL (zLp lv) := h _ (fun _ hq => zLp_mem.mp hq)
/-- a place of one slot may be stored at i: no long ends there -/
def zok (lv : List (Option Value)) (i : Nat) : Bool := decide (i < lv.length) && match i with
  | 0 => true
  | j + 1 => match lv[j]? with
    | some (some w) => w.category != 2
    | _ => true
theorem zL.store {ls' : Array Slot} {nL : Nat} {lv : List (Option Value)} {i : Nat} {v : Value} (hok : zok lv i = true) (h' : lv_has ls' nL ((i, v) :: (zLp lv).filter (fun q => !(q.1 == i) && !(q.1 + 1 == i && q.2.category == 2)))) : zL ls' nL (lv.set i (some v)) := by
  intro l hl
  refine ⟨h'.1, h'.2.1, fun q hq => h'.2.2 q ?_⟩
  have h1 := hl q hq
  simp only [zok, Bool.and_eq_true, decide_eq_true_eq] at hok
  by_cases hqi : q.1 = i
  · subst hqi
    rw [List.getElem?_set_self hok.1] at h1
    obtain ⟨q1, q2⟩ := q
    cases h1
    exact List.mem_cons_self
  · rw [List.getElem?_set_ne (fun e => hqi e.symm)] at h1
    refine List.mem_cons_of_mem _ (List.mem_filter.mpr ⟨zLp_mem.mpr h1, ?_⟩)
    simp only [Bool.and_eq_true, Bool.not_eq_true', beq_eq_false_iff_ne, ne_eq, Bool.and_eq_false_iff]
    refine ⟨hqi, ?_⟩
    by_cases hj : q.1 + 1 = i
    · right
      subst hj
      have h2 := hok.2
      simp only [h1] at h2
      simpa using h2
    · exact Or.inl hj
def zl0 : List Value → List (Option Value)
  | [] => []
  | v :: vs => if v.category = 2 then some v :: none :: zl0 vs else some v :: zl0 vs
theorem zl0_mem : ∀ (vs : List Value) (n k i : Nat) (v : Value), (zl0 vs ++ List.replicate n none)[i]? = some (some v) → (k + i, v) ∈ lv_args k vs
  | [], n, k, i, v, h => by
    simp only [zl0, List.nil_append] at h
    have := List.eq_of_mem_replicate (List.mem_of_getElem? h)
    cases this
  | w :: vs, n, k, i, v, h => by
    unfold zl0 at h
    unfold lv_args
    by_cases hc : w.category = 2
    · rw [if_pos hc] at h ⊢
      match i, h with
      | 0, h => cases h; exact List.mem_cons_self
      | 1, h => cases h
      | i + 2, h =>
        have := zl0_mem vs n (k + 2) i v h
        rw [show k + (i + 2) = k + 2 + i by omega]
        exact List.mem_cons_of_mem _ this
    · rw [if_neg hc] at h ⊢
      match i, h with
      | 0, h => cases h; exact List.mem_cons_self
      | i + 1, h =>
        have := zl0_mem vs n (k + 1) i v h
        rw [show k + (i + 1) = k + 1 + i by omega]
        exact List.mem_cons_of_mem _ this
/-! what is fixed in the run of one method -/
def zX (p : Program) (s : State) (m : MethodId) (args : Array Value) (meth : Method) (c : Code) (M : zM) (G : zG) : Prop :=
  p.tables.exec = Jvm.exec ∧ c.code = M.2.1 ∧ c.maxLocals = M.2.2.1 ∧ s.vm.findClass M.1 = some m.cls ∧ (∀ w ∈ zT, w.before args s = true) ∧ meth.sig.returnType = M.2.2.2.1 ∧ meth.locks = false ∧ (M.2.2.2.2 = true → meth.name = "<init>") ∧ zK G s
/-- a return stands at pc, and r is such an answer -/
def zEnd (M : zM) (r : Option Value) (pc : Nat) : Prop :=
  (r = none ∧ M.2.2.2.1 = none ∧ decode M.2.1 pc = .ok (.return_, 1)) ∨
  (∃ (v : Int32) (ty : FieldType), r = some (.int v) ∧ M.2.2.2.1 = some ty ∧ narrow ty (.int v) = .int v ∧ decode M.2.1 pc = .ok (.ireturn, 1)) ∨
  (∃ (v : Value) (C : String), r = some v ∧ M.2.2.2.1 = some (.object C) ∧ (v = .null ∨ ∃ a, v = .ref a) ∧ decode M.2.1 pc = .ok (.areturn, 1))
/-- THE JUDGEMENT: method M, at pc, with these locals and this stack, in the world hh of sz cells (k cells and n slots made so far, at most mc and ms, d frames deep): it returns, and Post holds of its answer, its world, its size, and what was made -/
def zS (M : zM) (G : zG) (d mc ms k n : Nat) (hh : zH) (sz : Nat) (pc : Nat) (lv : List (Option Value)) (st : List Value) (Post : Option Value → zH → Nat → Nat → Nat → Prop) : Prop :=
  ∀ (p : Program) (l : Launch) (e : Env) (R : Room) (s : State) (m : MethodId) (args : Array Value) (below : List Frame) (meth : Method) (c : Code) (Q : State → Prop), zX p s m args meth c M G → d ≤ R.frames → 31 * d ≤ R.locals → mc ≤ R.cells → ms ≤ R.slots →
    (∀ (r : Option Value) (hh' : zH) (sz' k' n' : Nat) (H' : Heap) (locs' : List Loc) (pc' : Nat) (ls' : Array Slot), Post r hh' sz' k' n' → zW G hh' sz' H' → va_S (zA G) s.heap H' locs' → zEnd M r pc' → W p l e R s m args below meth c H' locs' k' n' Q (F0 m pc' ls' r.toList)) →
    ∀ (H : Heap) (locs : List Loc) (ls : Array Slot), zW G hh sz H → va_S (zA G) s.heap H locs → zL ls M.2.2.1 lv → W p l e R s m args below meth c H locs k n Q (F0 m pc ls st)
/-- a method's contract in a world -/
def zC (G : zG) (d : Nat) (M : zM) (y : MethodName) (as : List Value) (hh : zH) (sz mc ms : Nat) (Post : Option Value → zH → Nat → Prop) : Prop :=
  ∀ l : Launch, Met l y (.code y M.2.1 M.2.2.1 M.2.2.2.1 :: zT) { frames := d, cells := mc, slots := ms, locals := 31 * d } (va_Pc as (fun U => zW G hh sz U.heap ∧ zK G U)) (fun _ st oc t => ∃ (r : Option Value) (hh' : zH) (sz' : Nat), oc = .returned r ∧ Post r hh' sz' ∧ zW G hh' sz' t.heap ∧ va_F (zA G) st t) mc ms (zA G)
theorem zC.mono {G : zG} {d : Nat} {M : zM} {y : MethodName} {as : List Value} {hh : zH} {sz mc ms : Nat} {P Q : Option Value → zH → Nat → Prop} (h : zC G d M y as hh sz mc ms P) (hPQ : ∀ r h' s', P r h' s' → Q r h' s') : zC G d M y as hh sz mc ms Q := by
  intro l p e ha hc hk s m args below hf happ hP hK
  obtain ⟨t, o, k1, h1, h2, ⟨⟨r, hh', sz', e1, e2, e3⟩, e4⟩⟩ := h l p e ha hc hk s m args below hf happ hP hK
  exact ⟨t, o, k1, h1, h2, ⟨⟨r, hh', sz', e1, hPQ _ _ _ e2, e3⟩, e4⟩⟩
theorem z_intro {G : zG} {d : Nat} {M : zM} {y : MethodName} {as : List Value} {hh : zH} {sz mc ms : Nat} {Post : Option Value → zH → Nat → Prop} (lv : List (Option Value)) (hlv : zl0 as ++ List.replicate (M.2.2.1 - (zl0 as).length) none = lv) (hy : (plainName y.cls && (y.cls == M.1) && (!M.2.2.2.2 || y.name == "<init>")) = true) (hn : (lg_sl as).length ≤ M.2.2.1)
    (h : zS M G d mc ms 0 0 hh sz 0 lv [] (fun r h' s' k' n' => Post r h' s' ∧ k' ≤ mc ∧ n' ≤ ms)) : zC G d M y as hh sz mc ms Post := by
  intro l
  simp only [Bool.and_eq_true, beq_iff_eq] at hy
  obtain ⟨⟨hy1, hy2⟩, hy3⟩ := hy
  refine Met.ofW (cc := M.2.1) (maxL := M.2.2.1) (ret := M.2.2.2.1) hy1 rfl ?_
  intro p e s m args below meth c s₁ B hml hv
  obtain ⟨rfl, hW, hK⟩ := hv
  have hx := B.exec
  have hb := B.bytes
  have hr := B.returns
  have hts := atoms_spec B.pre
  have hown : s.vm.findClass y.cls = some m.cls := findClass_of_methodNamed B.named
  have hlocks := B.notSynchronized
  have hX : zX p s m as.toArray meth c M G := by
    refine ⟨hx, hb, hml, hy2 ▸ hown, fun w hw => hts w (List.mem_cons_of_mem _ hw), hr, hlocks, fun hi => ?_, hK⟩
    have e1 := (name_of_methodNamed B.named B.method).1
    rw [hi] at hy3
    simp at hy3
    rw [e1]; exact hy3
  have hS : va_S (zA G) s.heap s.heap [] := va_S.rf
  have hl := lv_entry as (n := M.2.2.1) hn
  rw [lg_entry_eq]
  generalize (lg_sl as ++ List.replicate (M.2.2.1 - (lg_sl as).length) Slot.unset).toArray = ls at hl ⊢
  have hL : zL ls M.2.2.1 lv := by
    intro l1 hl1
    refine ⟨hl.1, hl.2.1, fun q hq => hl.2.2 q ?_⟩
    have h1 := hl1 q hq
    rw [← hlv] at h1
    have h2 := zl0_mem as _ 0 q.1 q.2 h1
    rwa [Nat.zero_add] at h2
  refine h p l e _ s m as.toArray below meth c _ hX (Nat.le_refl _) (Nat.le_refl _) (Nat.le_refl _) (Nat.le_refl _) ?_ s.heap [] ls hW hS hL
  intro r hh' sz' k' n' H' locs' pc' ls' hp hW' hS' hE
  obtain ⟨hp, hk', hn'⟩ := hp
  refine W.widen (k := mc) (n := ms) hk' hn' ?_
  rcases hE with ⟨e1, e2, e3⟩ | ⟨v, ty, e1, e2, e3, e4⟩ | ⟨v, C, e1, e2, e3, e4⟩
  · subst e1
    exact W.vret hx hb (hr.trans e2) (fun t ht hWm => ⟨none, hh', sz', rfl, hp, by rw [ht]; exact hW', hS'.F ht⟩) hS'.2.2 e3
  · subst e1
    exact W.zret hx hb (hr.trans e2) e3 (fun t ht hWm => ⟨_, hh', sz', rfl, hp, by rw [ht]; exact hW', hS'.F ht⟩) hS'.2.2 e4
  · subst e1
    exact W.aret hx hb (hr.trans e2) (Or.inl ⟨C, rfl⟩) e3 (fun t ht hWm => ⟨_, hh', sz', rfl, hp, by rw [ht]; exact hW', hS'.F ht⟩) hS'.2.2 e4

section ZR
variable {M : zM} {G : zG} {d mc ms k n : Nat} {hh : zH} {sz : Nat} {pc : Nat} {lv : List (Option Value)} {st : List Value} {Post : Option Value → zH → Nat → Nat → Nat → Prop}
theorem z_iconst {i : Int} {v : Int32} (hd : decode M.2.1 pc = .ok (.iconst i, 1)) (hv : Int32.ofInt i = v) (kk : zS M G d mc ms k n hh sz (pc + 1) lv (.int v :: st) Post) : zS M G d mc ms k n hh sz pc lv (st) Post := by
  intro p l e R s m args below meth c Q hX hf hl hc hs hE H locs ls hW hS hL
  obtain ⟨hx, hb, hml, hown, hts, hr, hlk, hin, hK⟩ := id hX
  exact lv_iconst hx hb hd hv (kk p l e R s m args below meth c Q hX hf hl hc hs hE H locs ls hW hS hL)
theorem z_bipush {i : Int} {v : Int32} (hd : decode M.2.1 pc = .ok (.bipush i, 2)) (hv : (Int8.ofInt i).toInt32 = v) (kk : zS M G d mc ms k n hh sz (pc + 2) lv (.int v :: st) Post) : zS M G d mc ms k n hh sz pc lv (st) Post := by
  intro p l e R s m args below meth c Q hX hf hl hc hs hE H locs ls hW hS hL
  obtain ⟨hx, hb, hml, hown, hts, hr, hlk, hin, hK⟩ := id hX
  exact lv_bipush hx hb hd hv (kk p l e R s m args below meth c Q hX hf hl hc hs hE H locs ls hW hS hL)
theorem z_sipush {i : Int} {v : Int32} (hd : decode M.2.1 pc = .ok (.sipush i, 3)) (hv : (Int16.ofInt i).toInt32 = v) (kk : zS M G d mc ms k n hh sz (pc + 3) lv (.int v :: st) Post) : zS M G d mc ms k n hh sz pc lv (st) Post := by
  intro p l e R s m args below meth c Q hX hf hl hc hs hE H locs ls hW hS hL
  obtain ⟨hx, hb, hml, hown, hts, hr, hlk, hin, hK⟩ := id hX
  exact lv_sipush hx hb hd hv (kk p l e R s m args below meth c Q hX hf hl hc hs hE H locs ls hW hS hL)
theorem z_lconst {i : Fin 2} {v : Int64} (hd : decode M.2.1 pc = .ok (.lconst i, 1)) (hv : Int64.ofNat (i : Nat) = v) (kk : zS M G d mc ms k n hh sz (pc + 1) lv (.long v :: st) Post) : zS M G d mc ms k n hh sz pc lv (st) Post := by
  intro p l e R s m args below meth c Q hX hf hl hc hs hE H locs ls hW hS hL
  obtain ⟨hx, hb, hml, hown, hts, hr, hlk, hin, hK⟩ := id hX
  exact lv_lconst hx hb hd hv (kk p l e R s m args below meth c Q hX hf hl hc hs hE H locs ls hW hS hL)
theorem z_iadd {x y : Int32} (hd : decode M.2.1 pc = .ok (.iadd, 1))  (kk : zS M G d mc ms k n hh sz (pc + 1) lv (.int (x + y) :: st) Post) : zS M G d mc ms k n hh sz pc lv (.int y :: .int x :: st) Post := by
  intro p l e R s m args below meth c Q hX hf hl hc hs hE H locs ls hW hS hL
  obtain ⟨hx, hb, hml, hown, hts, hr, hlk, hin, hK⟩ := id hX
  exact lv_iadd hx hb hd  (kk p l e R s m args below meth c Q hX hf hl hc hs hE H locs ls hW hS hL)
theorem z_isub {x y : Int32} (hd : decode M.2.1 pc = .ok (.isub, 1))  (kk : zS M G d mc ms k n hh sz (pc + 1) lv (.int (x - y) :: st) Post) : zS M G d mc ms k n hh sz pc lv (.int y :: .int x :: st) Post := by
  intro p l e R s m args below meth c Q hX hf hl hc hs hE H locs ls hW hS hL
  obtain ⟨hx, hb, hml, hown, hts, hr, hlk, hin, hK⟩ := id hX
  exact lv_isub hx hb hd  (kk p l e R s m args below meth c Q hX hf hl hc hs hE H locs ls hW hS hL)
theorem z_imul {x y : Int32} (hd : decode M.2.1 pc = .ok (.imul, 1))  (kk : zS M G d mc ms k n hh sz (pc + 1) lv (.int (x * y) :: st) Post) : zS M G d mc ms k n hh sz pc lv (.int y :: .int x :: st) Post := by
  intro p l e R s m args below meth c Q hX hf hl hc hs hE H locs ls hW hS hL
  obtain ⟨hx, hb, hml, hown, hts, hr, hlk, hin, hK⟩ := id hX
  exact lv_imul hx hb hd  (kk p l e R s m args below meth c Q hX hf hl hc hs hE H locs ls hW hS hL)
theorem z_iand {x y : Int32} (hd : decode M.2.1 pc = .ok (.iand, 1))  (kk : zS M G d mc ms k n hh sz (pc + 1) lv (.int (x &&& y) :: st) Post) : zS M G d mc ms k n hh sz pc lv (.int y :: .int x :: st) Post := by
  intro p l e R s m args below meth c Q hX hf hl hc hs hE H locs ls hW hS hL
  obtain ⟨hx, hb, hml, hown, hts, hr, hlk, hin, hK⟩ := id hX
  exact lv_iand hx hb hd  (kk p l e R s m args below meth c Q hX hf hl hc hs hE H locs ls hW hS hL)
theorem z_ior {x y : Int32} (hd : decode M.2.1 pc = .ok (.ior, 1))  (kk : zS M G d mc ms k n hh sz (pc + 1) lv (.int (x ||| y) :: st) Post) : zS M G d mc ms k n hh sz pc lv (.int y :: .int x :: st) Post := by
  intro p l e R s m args below meth c Q hX hf hl hc hs hE H locs ls hW hS hL
  obtain ⟨hx, hb, hml, hown, hts, hr, hlk, hin, hK⟩ := id hX
  exact lv_ior hx hb hd  (kk p l e R s m args below meth c Q hX hf hl hc hs hE H locs ls hW hS hL)
theorem z_ixor {x y : Int32} (hd : decode M.2.1 pc = .ok (.ixor, 1))  (kk : zS M G d mc ms k n hh sz (pc + 1) lv (.int (x ^^^ y) :: st) Post) : zS M G d mc ms k n hh sz pc lv (.int y :: .int x :: st) Post := by
  intro p l e R s m args below meth c Q hX hf hl hc hs hE H locs ls hW hS hL
  obtain ⟨hx, hb, hml, hown, hts, hr, hlk, hin, hK⟩ := id hX
  exact lv_ixor hx hb hd  (kk p l e R s m args below meth c Q hX hf hl hc hs hE H locs ls hW hS hL)
theorem z_ishl {x y : Int32} (hd : decode M.2.1 pc = .ok (.ishl, 1))  (kk : zS M G d mc ms k n hh sz (pc + 1) lv (.int (x <<< (y &&& 31)) :: st) Post) : zS M G d mc ms k n hh sz pc lv (.int y :: .int x :: st) Post := by
  intro p l e R s m args below meth c Q hX hf hl hc hs hE H locs ls hW hS hL
  obtain ⟨hx, hb, hml, hown, hts, hr, hlk, hin, hK⟩ := id hX
  exact lv_ishl hx hb hd  (kk p l e R s m args below meth c Q hX hf hl hc hs hE H locs ls hW hS hL)
theorem z_ishr {x y : Int32} (hd : decode M.2.1 pc = .ok (.ishr, 1))  (kk : zS M G d mc ms k n hh sz (pc + 1) lv (.int (x >>> (y &&& 31)) :: st) Post) : zS M G d mc ms k n hh sz pc lv (.int y :: .int x :: st) Post := by
  intro p l e R s m args below meth c Q hX hf hl hc hs hE H locs ls hW hS hL
  obtain ⟨hx, hb, hml, hown, hts, hr, hlk, hin, hK⟩ := id hX
  exact lv_ishr hx hb hd  (kk p l e R s m args below meth c Q hX hf hl hc hs hE H locs ls hW hS hL)
theorem z_land {x y : Int64} (hd : decode M.2.1 pc = .ok (.land, 1))  (kk : zS M G d mc ms k n hh sz (pc + 1) lv (.long (x &&& y) :: st) Post) : zS M G d mc ms k n hh sz pc lv (.long y :: .long x :: st) Post := by
  intro p l e R s m args below meth c Q hX hf hl hc hs hE H locs ls hW hS hL
  obtain ⟨hx, hb, hml, hown, hts, hr, hlk, hin, hK⟩ := id hX
  exact lv_land hx hb hd  (kk p l e R s m args below meth c Q hX hf hl hc hs hE H locs ls hW hS hL)
theorem z_lor {x y : Int64} (hd : decode M.2.1 pc = .ok (.lor, 1))  (kk : zS M G d mc ms k n hh sz (pc + 1) lv (.long (x ||| y) :: st) Post) : zS M G d mc ms k n hh sz pc lv (.long y :: .long x :: st) Post := by
  intro p l e R s m args below meth c Q hX hf hl hc hs hE H locs ls hW hS hL
  obtain ⟨hx, hb, hml, hown, hts, hr, hlk, hin, hK⟩ := id hX
  exact lv_lor hx hb hd  (kk p l e R s m args below meth c Q hX hf hl hc hs hE H locs ls hW hS hL)
theorem z_idiv {x y : Int32} (hd : decode M.2.1 pc = .ok (.idiv, 1)) (hne : ¬ y = 0) (kk : zS M G d mc ms k n hh sz (pc + 1) lv (.int (x / y) :: st) Post) : zS M G d mc ms k n hh sz pc lv (.int y :: .int x :: st) Post := by
  intro p l e R s m args below meth c Q hX hf hl hc hs hE H locs ls hW hS hL
  obtain ⟨hx, hb, hml, hown, hts, hr, hlk, hin, hK⟩ := id hX
  exact lv_idiv hx hb hd hne (kk p l e R s m args below meth c Q hX hf hl hc hs hE H locs ls hW hS hL)
theorem z_irem {x y : Int32} (hd : decode M.2.1 pc = .ok (.irem, 1)) (hne : ¬ y = 0) (kk : zS M G d mc ms k n hh sz (pc + 1) lv (.int (x - x / y * y) :: st) Post) : zS M G d mc ms k n hh sz pc lv (.int y :: .int x :: st) Post := by
  intro p l e R s m args below meth c Q hX hf hl hc hs hE H locs ls hW hS hL
  obtain ⟨hx, hb, hml, hown, hts, hr, hlk, hin, hK⟩ := id hX
  exact lv_irem hx hb hd hne (kk p l e R s m args below meth c Q hX hf hl hc hs hE H locs ls hW hS hL)
theorem z_iushr {x y : Int32} (hd : decode M.2.1 pc = .ok (.iushr, 1))  (kk : zS M G d mc ms k n hh sz (pc + 1) lv (.int ((x.toUInt32 >>> (y.toUInt32 &&& Int32.toUInt32 31)).toInt32) :: st) Post) : zS M G d mc ms k n hh sz pc lv (.int y :: .int x :: st) Post := by
  intro p l e R s m args below meth c Q hX hf hl hc hs hE H locs ls hW hS hL
  obtain ⟨hx, hb, hml, hown, hts, hr, hlk, hin, hK⟩ := id hX
  exact lv_iushr hx hb hd rfl (kk p l e R s m args below meth c Q hX hf hl hc hs hE H locs ls hW hS hL)
theorem z_lushr {x : Int64} {y : Int32} (hd : decode M.2.1 pc = .ok (.lushr, 1))  (kk : zS M G d mc ms k n hh sz (pc + 1) lv (.long ((x.toUInt64 >>> (y.toInt64.toUInt64 &&& Int64.toUInt64 63)).toInt64) :: st) Post) : zS M G d mc ms k n hh sz pc lv (.int y :: .long x :: st) Post := by
  intro p l e R s m args below meth c Q hX hf hl hc hs hE H locs ls hW hS hL
  obtain ⟨hx, hb, hml, hown, hts, hr, hlk, hin, hK⟩ := id hX
  exact lv_lushr hx hb hd rfl (kk p l e R s m args below meth c Q hX hf hl hc hs hE H locs ls hW hS hL)
theorem z_lshl {x : Int64} {y : Int32} (hd : decode M.2.1 pc = .ok (.lshl, 1))  (kk : zS M G d mc ms k n hh sz (pc + 1) lv (.long (x <<< (y.toInt64 &&& 63)) :: st) Post) : zS M G d mc ms k n hh sz pc lv (.int y :: .long x :: st) Post := by
  intro p l e R s m args below meth c Q hX hf hl hc hs hE H locs ls hW hS hL
  obtain ⟨hx, hb, hml, hown, hts, hr, hlk, hin, hK⟩ := id hX
  exact lv_lshl hx hb hd rfl (kk p l e R s m args below meth c Q hX hf hl hc hs hE H locs ls hW hS hL)
theorem z_l2i {x : Int64} (hd : decode M.2.1 pc = .ok (.l2i, 1))  (kk : zS M G d mc ms k n hh sz (pc + 1) lv (.int x.toInt32 :: st) Post) : zS M G d mc ms k n hh sz pc lv (.long x :: st) Post := by
  intro p l e R s m args below meth c Q hX hf hl hc hs hE H locs ls hW hS hL
  obtain ⟨hx, hb, hml, hown, hts, hr, hlk, hin, hK⟩ := id hX
  exact lv_l2i hx hb hd rfl (kk p l e R s m args below meth c Q hX hf hl hc hs hE H locs ls hW hS hL)
theorem z_i2l {x : Int32} (hd : decode M.2.1 pc = .ok (.i2l, 1))  (kk : zS M G d mc ms k n hh sz (pc + 1) lv (.long x.toInt64 :: st) Post) : zS M G d mc ms k n hh sz pc lv (.int x :: st) Post := by
  intro p l e R s m args below meth c Q hX hf hl hc hs hE H locs ls hW hS hL
  obtain ⟨hx, hb, hml, hown, hts, hr, hlk, hin, hK⟩ := id hX
  exact lv_i2l hx hb hd rfl (kk p l e R s m args below meth c Q hX hf hl hc hs hE H locs ls hW hS hL)
theorem z_i2c {x : Int32} (hd : decode M.2.1 pc = .ok (.i2c, 1))  (kk : zS M G d mc ms k n hh sz (pc + 1) lv (.int ((x.toUInt32 % 65536).toInt32) :: st) Post) : zS M G d mc ms k n hh sz pc lv (.int x :: st) Post := by
  intro p l e R s m args below meth c Q hX hf hl hc hs hE H locs ls hW hS hL
  obtain ⟨hx, hb, hml, hown, hts, hr, hlk, hin, hK⟩ := id hX
  exact lv_i2c hx hb hd rfl (kk p l e R s m args below meth c Q hX hf hl hc hs hE H locs ls hW hS hL)
theorem z_dup {v : Value} (hd : decode M.2.1 pc = .ok (.dup, 1)) (hv : v.category = 1) (kk : zS M G d mc ms k n hh sz (pc + 1) lv (v :: v :: st) Post) : zS M G d mc ms k n hh sz pc lv (v :: st) Post := by
  intro p l e R s m args below meth c Q hX hf hl hc hs hE H locs ls hW hS hL
  obtain ⟨hx, hb, hml, hown, hts, hr, hlk, hin, hK⟩ := id hX
  exact lv_dup hx hb hd hv (kk p l e R s m args below meth c Q hX hf hl hc hs hE H locs ls hW hS hL)
theorem z_dup_x1 {v w : Value} (hd : decode M.2.1 pc = .ok (.dup_x1, 1)) (hv : v.category = 1) (hw : w.category = 1) (kk : zS M G d mc ms k n hh sz (pc + 1) lv (v :: w :: v :: st) Post) : zS M G d mc ms k n hh sz pc lv (v :: w :: st) Post := by
  intro p l e R s m args below meth c Q hX hf hl hc hs hE H locs ls hW hS hL
  obtain ⟨hx, hb, hml, hown, hts, hr, hlk, hin, hK⟩ := id hX
  exact lv_dup_x1 hx hb hd hv hw (kk p l e R s m args below meth c Q hX hf hl hc hs hE H locs ls hW hS hL)
theorem z_pop {v : Value} (hd : decode M.2.1 pc = .ok (.pop, 1)) (hv : v.category = 1) (kk : zS M G d mc ms k n hh sz (pc + 1) lv (st) Post) : zS M G d mc ms k n hh sz pc lv (v :: st) Post := by
  intro p l e R s m args below meth c Q hX hf hl hc hs hE H locs ls hW hS hL
  obtain ⟨hx, hb, hml, hown, hts, hr, hlk, hin, hK⟩ := id hX
  exact lv_pop hx hb hd hv (kk p l e R s m args below meth c Q hX hf hl hc hs hE H locs ls hW hS hL)
theorem z_null  (hd : decode M.2.1 pc = .ok (.aconst_null, 1))  (kk : zS M G d mc ms k n hh sz (pc + 1) lv (.null :: st) Post) : zS M G d mc ms k n hh sz pc lv (st) Post := by
  intro p l e R s m args below meth c Q hX hf hl hc hs hE H locs ls hW hS hL
  obtain ⟨hx, hb, hml, hown, hts, hr, hlk, hin, hK⟩ := id hX
  exact lv_null hx hb hd  (kk p l e R s m args below meth c Q hX hf hl hc hs hE H locs ls hW hS hL)
theorem z_iload_n {i : Fin 4} {x : Int32} (hd : decode M.2.1 pc = .ok (.iload_n i, 1)) (hv : lv[(i : Nat)]? = some (some (.int x))) (kk : zS M G d mc ms k n hh sz (pc + 1) lv (.int x :: st) Post) : zS M G d mc ms k n hh sz pc lv st Post := by
  intro p l e R s m args below meth c Q hX hf hl hc hs hE H locs ls hW hS hL
  obtain ⟨hx, hb, hml, hown, hts, hr, hlk, hin, hK⟩ := id hX
  exact lv_iload_n hx hb hd rfl (hL.at hv) (kk p l e R s m args below meth c Q hX hf hl hc hs hE H locs ls hW hS hL)
theorem z_iload {i : Nat} {x : Int32} (hd : decode M.2.1 pc = .ok (.iload i, 2)) (hv : lv[i]? = some (some (.int x))) (kk : zS M G d mc ms k n hh sz (pc + 2) lv (.int x :: st) Post) : zS M G d mc ms k n hh sz pc lv st Post := by
  intro p l e R s m args below meth c Q hX hf hl hc hs hE H locs ls hW hS hL
  obtain ⟨hx, hb, hml, hown, hts, hr, hlk, hin, hK⟩ := id hX
  exact lv_iload hx hb hd (hL.at hv) (kk p l e R s m args below meth c Q hX hf hl hc hs hE H locs ls hW hS hL)
theorem z_aload_n {i : Fin 4} {x : Nat} (hd : decode M.2.1 pc = .ok (.aload_n i, 1)) (hv : lv[(i : Nat)]? = some (some (.ref x))) (kk : zS M G d mc ms k n hh sz (pc + 1) lv (.ref x :: st) Post) : zS M G d mc ms k n hh sz pc lv st Post := by
  intro p l e R s m args below meth c Q hX hf hl hc hs hE H locs ls hW hS hL
  obtain ⟨hx, hb, hml, hown, hts, hr, hlk, hin, hK⟩ := id hX
  exact lv_aload_n hx hb hd rfl (hL.at hv) (kk p l e R s m args below meth c Q hX hf hl hc hs hE H locs ls hW hS hL)
theorem z_aload {i : Nat} {x : Nat} (hd : decode M.2.1 pc = .ok (.aload i, 2)) (hv : lv[i]? = some (some (.ref x))) (kk : zS M G d mc ms k n hh sz (pc + 2) lv (.ref x :: st) Post) : zS M G d mc ms k n hh sz pc lv st Post := by
  intro p l e R s m args below meth c Q hX hf hl hc hs hE H locs ls hW hS hL
  obtain ⟨hx, hb, hml, hown, hts, hr, hlk, hin, hK⟩ := id hX
  exact lv_aload hx hb hd (hL.at hv) (kk p l e R s m args below meth c Q hX hf hl hc hs hE H locs ls hW hS hL)
theorem z_lload_n {i : Fin 4} {x : Int64} (hd : decode M.2.1 pc = .ok (.lload_n i, 1)) (hv : lv[(i : Nat)]? = some (some (.long x))) (kk : zS M G d mc ms k n hh sz (pc + 1) lv (.long x :: st) Post) : zS M G d mc ms k n hh sz pc lv st Post := by
  intro p l e R s m args below meth c Q hX hf hl hc hs hE H locs ls hW hS hL
  obtain ⟨hx, hb, hml, hown, hts, hr, hlk, hin, hK⟩ := id hX
  exact lv_lload_n hx hb hd rfl (hL.at hv) (kk p l e R s m args below meth c Q hX hf hl hc hs hE H locs ls hW hS hL)
theorem z_istore_n {i : Fin 4} {x : Int32} {lv' : List (Option Value)} (hd : decode M.2.1 pc = .ok (.istore_n i, 1)) (hn : (i : Nat) < M.2.2.1) (hok : zok lv (i : Nat) = true) (hlv : lv.set (i : Nat) (some (.int x)) = lv') (kk : zS M G d mc ms k n hh sz (pc + 1) lv' st Post) : zS M G d mc ms k n hh sz pc lv (.int x :: st) Post := by
  intro p l e R s m args below meth c Q hX hf hl hc hs hE H locs ls hW hS hL
  obtain ⟨hx, hb, hml, hown, hts, hr, hlk, hin, hK⟩ := id hX
  subst hlv
  exact lv_istore_n hx hb hd rfl hL.has hn rfl (fun ls1 h1 => kk p l e R s m args below meth c Q hX hf hl hc hs hE H locs ls1 hW hS (zL.store hok h1))
theorem z_istore {i : Nat} {x : Int32} {lv' : List (Option Value)} (hd : decode M.2.1 pc = .ok (.istore i, 2)) (hn : i < M.2.2.1) (hok : zok lv i = true) (hlv : lv.set i (some (.int x)) = lv') (kk : zS M G d mc ms k n hh sz (pc + 2) lv' st Post) : zS M G d mc ms k n hh sz pc lv (.int x :: st) Post := by
  intro p l e R s m args below meth c Q hX hf hl hc hs hE H locs ls hW hS hL
  obtain ⟨hx, hb, hml, hown, hts, hr, hlk, hin, hK⟩ := id hX
  subst hlv
  exact lv_istore hx hb hd  hL.has hn rfl (fun ls1 h1 => kk p l e R s m args below meth c Q hX hf hl hc hs hE H locs ls1 hW hS (zL.store hok h1))
theorem z_astore_n {i : Fin 4} {x : Nat} {lv' : List (Option Value)} (hd : decode M.2.1 pc = .ok (.astore_n i, 1)) (hn : (i : Nat) < M.2.2.1) (hok : zok lv (i : Nat) = true) (hlv : lv.set (i : Nat) (some (.ref x)) = lv') (kk : zS M G d mc ms k n hh sz (pc + 1) lv' st Post) : zS M G d mc ms k n hh sz pc lv (.ref x :: st) Post := by
  intro p l e R s m args below meth c Q hX hf hl hc hs hE H locs ls hW hS hL
  obtain ⟨hx, hb, hml, hown, hts, hr, hlk, hin, hK⟩ := id hX
  subst hlv
  exact lv_astore_n hx hb hd rfl hL.has hn rfl (fun ls1 h1 => kk p l e R s m args below meth c Q hX hf hl hc hs hE H locs ls1 hW hS (zL.store hok h1))
theorem z_astore {i : Nat} {x : Nat} {lv' : List (Option Value)} (hd : decode M.2.1 pc = .ok (.astore i, 2)) (hn : i < M.2.2.1) (hok : zok lv i = true) (hlv : lv.set i (some (.ref x)) = lv') (kk : zS M G d mc ms k n hh sz (pc + 2) lv' st Post) : zS M G d mc ms k n hh sz pc lv (.ref x :: st) Post := by
  intro p l e R s m args below meth c Q hX hf hl hc hs hE H locs ls hW hS hL
  obtain ⟨hx, hb, hml, hown, hts, hr, hlk, hin, hK⟩ := id hX
  subst hlv
  exact lv_astore hx hb hd  hL.has hn rfl (fun ls1 h1 => kk p l e R s m args below meth c Q hX hf hl hc hs hE H locs ls1 hW hS (zL.store hok h1))
theorem z_iinc {i : Nat} {j : Int} {x v : Int32} {lv' : List (Option Value)} (hd : decode M.2.1 pc = .ok (.iinc i j, 3)) (hv : lv[i]? = some (some (.int x))) (hj : x + Int32.ofInt j = v) (hn : i < M.2.2.1) (hok : zok lv i = true) (hlv : lv.set i (some (.int v)) = lv') (kk : zS M G d mc ms k n hh sz (pc + 3) lv' st Post) : zS M G d mc ms k n hh sz pc lv st Post := by
  intro p l e R s m args below meth c Q hX hf hl hc hs hE H locs ls hW hS hL
  obtain ⟨hx, hb, hml, hown, hts, hr, hlk, hin, hK⟩ := id hX
  subst hlv
  obtain ⟨kq, hkq⟩ := List.getElem?_of_mem (zLp_mem (q := (i, .int x)).mpr hv)
  exact lv_iinc hx hb hd hL.has hkq hj hn rfl (fun ls1 h1 => kk p l e R s m args below meth c Q hX hf hl hc hs hE H locs ls1 hW hS (zL.store hok h1))
theorem z_goto {off : Int} {tgt : Nat} (hd : decode M.2.1 pc = .ok (.goto off, 3)) (ht : (pc : Int) + off = (tgt : Int)) (kk : zS M G d mc ms k n hh sz tgt lv st Post) : zS M G d mc ms k n hh sz pc lv st Post := by
  intro p l e R s m args below meth c Q hX hf hl hc hs hE H locs ls hW hS hL
  obtain ⟨hx, hb, hml, hown, hts, hr, hlk, hin, hK⟩ := id hX
  exact lv_goto hx hb hd ht (kk p l e R s m args below meth c Q hX hf hl hc hs hE H locs ls hW hS hL)
theorem z_icmp_eq {x y : Int32} {off : Int} {tgt : Nat} (hd : decode M.2.1 pc = .ok (.if_icmp .eq off, 3)) (ht : (pc : Int) + off = (tgt : Int)) (kt : x = y → zS M G d mc ms k n hh sz tgt lv st Post) (kf : ¬ x = y → zS M G d mc ms k n hh sz (pc + 3) lv st Post) : zS M G d mc ms k n hh sz pc lv (.int y :: .int x :: st) Post := by
  intro p l e R s m args below meth c Q hX hf hl hc hs hE H locs ls hW hS hL
  obtain ⟨hx, hb, hml, hown, hts, hr, hlk, hin, hK⟩ := id hX
  exact lv_icmp_eq hx hb hd ht (fun z => kt z p l e R s m args below meth c Q hX hf hl hc hs hE H locs ls hW hS hL) (fun z => kf z p l e R s m args below meth c Q hX hf hl hc hs hE H locs ls hW hS hL)
theorem z_if_eq {x : Int32} {off : Int} {tgt : Nat} (hd : decode M.2.1 pc = .ok (.ifCond .eq off, 3)) (ht : (pc : Int) + off = (tgt : Int)) (kt : x = 0 → zS M G d mc ms k n hh sz tgt lv st Post) (kf : ¬ x = 0 → zS M G d mc ms k n hh sz (pc + 3) lv st Post) : zS M G d mc ms k n hh sz pc lv (.int x :: st) Post := by
  intro p l e R s m args below meth c Q hX hf hl hc hs hE H locs ls hW hS hL
  obtain ⟨hx, hb, hml, hown, hts, hr, hlk, hin, hK⟩ := id hX
  exact lv_if_eq hx hb hd ht (fun z => kt z p l e R s m args below meth c Q hX hf hl hc hs hE H locs ls hW hS hL) (fun z => kf z p l e R s m args below meth c Q hX hf hl hc hs hE H locs ls hW hS hL)
theorem z_icmp_ne {x y : Int32} {off : Int} {tgt : Nat} (hd : decode M.2.1 pc = .ok (.if_icmp .ne off, 3)) (ht : (pc : Int) + off = (tgt : Int)) (kt : ¬ x = y → zS M G d mc ms k n hh sz tgt lv st Post) (kf : x = y → zS M G d mc ms k n hh sz (pc + 3) lv st Post) : zS M G d mc ms k n hh sz pc lv (.int y :: .int x :: st) Post := by
  intro p l e R s m args below meth c Q hX hf hl hc hs hE H locs ls hW hS hL
  obtain ⟨hx, hb, hml, hown, hts, hr, hlk, hin, hK⟩ := id hX
  exact lv_icmp_ne hx hb hd ht (fun z => kt z p l e R s m args below meth c Q hX hf hl hc hs hE H locs ls hW hS hL) (fun z => kf z p l e R s m args below meth c Q hX hf hl hc hs hE H locs ls hW hS hL)
theorem z_if_ne {x : Int32} {off : Int} {tgt : Nat} (hd : decode M.2.1 pc = .ok (.ifCond .ne off, 3)) (ht : (pc : Int) + off = (tgt : Int)) (kt : ¬ x = 0 → zS M G d mc ms k n hh sz tgt lv st Post) (kf : x = 0 → zS M G d mc ms k n hh sz (pc + 3) lv st Post) : zS M G d mc ms k n hh sz pc lv (.int x :: st) Post := by
  intro p l e R s m args below meth c Q hX hf hl hc hs hE H locs ls hW hS hL
  obtain ⟨hx, hb, hml, hown, hts, hr, hlk, hin, hK⟩ := id hX
  exact lv_if_ne hx hb hd ht (fun z => kt z p l e R s m args below meth c Q hX hf hl hc hs hE H locs ls hW hS hL) (fun z => kf z p l e R s m args below meth c Q hX hf hl hc hs hE H locs ls hW hS hL)
theorem z_icmp_lt {x y : Int32} {off : Int} {tgt : Nat} (hd : decode M.2.1 pc = .ok (.if_icmp .lt off, 3)) (ht : (pc : Int) + off = (tgt : Int)) (kt : x < y → zS M G d mc ms k n hh sz tgt lv st Post) (kf : ¬ x < y → zS M G d mc ms k n hh sz (pc + 3) lv st Post) : zS M G d mc ms k n hh sz pc lv (.int y :: .int x :: st) Post := by
  intro p l e R s m args below meth c Q hX hf hl hc hs hE H locs ls hW hS hL
  obtain ⟨hx, hb, hml, hown, hts, hr, hlk, hin, hK⟩ := id hX
  exact lv_icmp_lt hx hb hd ht (fun z => kt z p l e R s m args below meth c Q hX hf hl hc hs hE H locs ls hW hS hL) (fun z => kf z p l e R s m args below meth c Q hX hf hl hc hs hE H locs ls hW hS hL)
theorem z_if_lt {x : Int32} {off : Int} {tgt : Nat} (hd : decode M.2.1 pc = .ok (.ifCond .lt off, 3)) (ht : (pc : Int) + off = (tgt : Int)) (kt : x < 0 → zS M G d mc ms k n hh sz tgt lv st Post) (kf : ¬ x < 0 → zS M G d mc ms k n hh sz (pc + 3) lv st Post) : zS M G d mc ms k n hh sz pc lv (.int x :: st) Post := by
  intro p l e R s m args below meth c Q hX hf hl hc hs hE H locs ls hW hS hL
  obtain ⟨hx, hb, hml, hown, hts, hr, hlk, hin, hK⟩ := id hX
  exact lv_if_lt hx hb hd ht (fun z => kt z p l e R s m args below meth c Q hX hf hl hc hs hE H locs ls hW hS hL) (fun z => kf z p l e R s m args below meth c Q hX hf hl hc hs hE H locs ls hW hS hL)
theorem z_icmp_ge {x y : Int32} {off : Int} {tgt : Nat} (hd : decode M.2.1 pc = .ok (.if_icmp .ge off, 3)) (ht : (pc : Int) + off = (tgt : Int)) (kt : y ≤ x → zS M G d mc ms k n hh sz tgt lv st Post) (kf : ¬ y ≤ x → zS M G d mc ms k n hh sz (pc + 3) lv st Post) : zS M G d mc ms k n hh sz pc lv (.int y :: .int x :: st) Post := by
  intro p l e R s m args below meth c Q hX hf hl hc hs hE H locs ls hW hS hL
  obtain ⟨hx, hb, hml, hown, hts, hr, hlk, hin, hK⟩ := id hX
  exact lv_icmp_ge hx hb hd ht (fun z => kt z p l e R s m args below meth c Q hX hf hl hc hs hE H locs ls hW hS hL) (fun z => kf z p l e R s m args below meth c Q hX hf hl hc hs hE H locs ls hW hS hL)
theorem z_if_ge {x : Int32} {off : Int} {tgt : Nat} (hd : decode M.2.1 pc = .ok (.ifCond .ge off, 3)) (ht : (pc : Int) + off = (tgt : Int)) (kt : 0 ≤ x → zS M G d mc ms k n hh sz tgt lv st Post) (kf : ¬ 0 ≤ x → zS M G d mc ms k n hh sz (pc + 3) lv st Post) : zS M G d mc ms k n hh sz pc lv (.int x :: st) Post := by
  intro p l e R s m args below meth c Q hX hf hl hc hs hE H locs ls hW hS hL
  obtain ⟨hx, hb, hml, hown, hts, hr, hlk, hin, hK⟩ := id hX
  exact lv_if_ge hx hb hd ht (fun z => kt z p l e R s m args below meth c Q hX hf hl hc hs hE H locs ls hW hS hL) (fun z => kf z p l e R s m args below meth c Q hX hf hl hc hs hE H locs ls hW hS hL)
theorem z_icmp_gt {x y : Int32} {off : Int} {tgt : Nat} (hd : decode M.2.1 pc = .ok (.if_icmp .gt off, 3)) (ht : (pc : Int) + off = (tgt : Int)) (kt : y < x → zS M G d mc ms k n hh sz tgt lv st Post) (kf : ¬ y < x → zS M G d mc ms k n hh sz (pc + 3) lv st Post) : zS M G d mc ms k n hh sz pc lv (.int y :: .int x :: st) Post := by
  intro p l e R s m args below meth c Q hX hf hl hc hs hE H locs ls hW hS hL
  obtain ⟨hx, hb, hml, hown, hts, hr, hlk, hin, hK⟩ := id hX
  exact lv_icmp_gt hx hb hd ht (fun z => kt z p l e R s m args below meth c Q hX hf hl hc hs hE H locs ls hW hS hL) (fun z => kf z p l e R s m args below meth c Q hX hf hl hc hs hE H locs ls hW hS hL)
theorem z_if_gt {x : Int32} {off : Int} {tgt : Nat} (hd : decode M.2.1 pc = .ok (.ifCond .gt off, 3)) (ht : (pc : Int) + off = (tgt : Int)) (kt : 0 < x → zS M G d mc ms k n hh sz tgt lv st Post) (kf : ¬ 0 < x → zS M G d mc ms k n hh sz (pc + 3) lv st Post) : zS M G d mc ms k n hh sz pc lv (.int x :: st) Post := by
  intro p l e R s m args below meth c Q hX hf hl hc hs hE H locs ls hW hS hL
  obtain ⟨hx, hb, hml, hown, hts, hr, hlk, hin, hK⟩ := id hX
  exact lv_if_gt hx hb hd ht (fun z => kt z p l e R s m args below meth c Q hX hf hl hc hs hE H locs ls hW hS hL) (fun z => kf z p l e R s m args below meth c Q hX hf hl hc hs hE H locs ls hW hS hL)
theorem z_icmp_le {x y : Int32} {off : Int} {tgt : Nat} (hd : decode M.2.1 pc = .ok (.if_icmp .le off, 3)) (ht : (pc : Int) + off = (tgt : Int)) (kt : x ≤ y → zS M G d mc ms k n hh sz tgt lv st Post) (kf : ¬ x ≤ y → zS M G d mc ms k n hh sz (pc + 3) lv st Post) : zS M G d mc ms k n hh sz pc lv (.int y :: .int x :: st) Post := by
  intro p l e R s m args below meth c Q hX hf hl hc hs hE H locs ls hW hS hL
  obtain ⟨hx, hb, hml, hown, hts, hr, hlk, hin, hK⟩ := id hX
  exact lv_icmp_le hx hb hd ht (fun z => kt z p l e R s m args below meth c Q hX hf hl hc hs hE H locs ls hW hS hL) (fun z => kf z p l e R s m args below meth c Q hX hf hl hc hs hE H locs ls hW hS hL)
theorem z_if_le {x : Int32} {off : Int} {tgt : Nat} (hd : decode M.2.1 pc = .ok (.ifCond .le off, 3)) (ht : (pc : Int) + off = (tgt : Int)) (kt : x ≤ 0 → zS M G d mc ms k n hh sz tgt lv st Post) (kf : ¬ x ≤ 0 → zS M G d mc ms k n hh sz (pc + 3) lv st Post) : zS M G d mc ms k n hh sz pc lv (.int x :: st) Post := by
  intro p l e R s m args below meth c Q hX hf hl hc hs hE H locs ls hW hS hL
  obtain ⟨hx, hb, hml, hown, hts, hr, hlk, hin, hK⟩ := id hX
  exact lv_if_le hx hb hd ht (fun z => kt z p l e R s m args below meth c Q hX hf hl hc hs hE H locs ls hW hS hL) (fun z => kf z p l e R s m args below meth c Q hX hf hl hc hs hE H locs ls hW hS hL)
theorem z_ifnull {x : Nat} {off : Int} (hd : decode M.2.1 pc = .ok (.ifnull off, 3)) (kk : zS M G d mc ms k n hh sz (pc + 3) lv st Post) : zS M G d mc ms k n hh sz pc lv (.ref x :: st) Post := by
  intro p l e R s m args below meth c Q hX hf hl hc hs hE H locs ls hW hS hL
  obtain ⟨hx, hb, hml, hown, hts, hr, hlk, hin, hK⟩ := id hX
  exact lv_ifnull hx hb hd (kk p l e R s m args below meth c Q hX hf hl hc hs hE H locs ls hW hS hL)
theorem z_ifnullN {off : Int} {tgt : Nat} (hd : decode M.2.1 pc = .ok (.ifnull off, 3)) (ht : (pc : Int) + off = (tgt : Int)) (kk : zS M G d mc ms k n hh sz tgt lv st Post) : zS M G d mc ms k n hh sz pc lv (.null :: st) Post := by
  intro p l e R s m args below meth c Q hX hf hl hc hs hE H locs ls hW hS hL
  obtain ⟨hx, hb, hml, hown, hts, hr, hlk, hin, hK⟩ := id hX
  exact lv_ifnullN hx hb hd ht (kk p l e R s m args below meth c Q hX hf hl hc hs hE H locs ls hW hS hL)
theorem z_ifnonnull {x : Nat} {off : Int} {tgt : Nat} (hd : decode M.2.1 pc = .ok (.ifnonnull off, 3)) (ht : (pc : Int) + off = (tgt : Int)) (kk : zS M G d mc ms k n hh sz tgt lv st Post) : zS M G d mc ms k n hh sz pc lv (.ref x :: st) Post := by
  intro p l e R s m args below meth c Q hX hf hl hc hs hE H locs ls hW hS hL
  obtain ⟨hx, hb, hml, hown, hts, hr, hlk, hin, hK⟩ := id hX
  exact lv_ifnonnull hx hb hd ht (kk p l e R s m args below meth c Q hX hf hl hc hs hE H locs ls hW hS hL)
theorem z_ifnonnullN {off : Int} (hd : decode M.2.1 pc = .ok (.ifnonnull off, 3)) (kk : zS M G d mc ms k n hh sz (pc + 3) lv st Post) : zS M G d mc ms k n hh sz pc lv (.null :: st) Post := by
  intro p l e R s m args below meth c Q hX hf hl hc hs hE H locs ls hW hS hL
  obtain ⟨hx, hb, hml, hown, hts, hr, hlk, hin, hK⟩ := id hX
  exact lv_ifnonnullN hx hb hd (kk p l e R s m args below meth c Q hX hf hl hc hs hE H locs ls hW hS hL)
theorem z_tableIn {dflt lo hi : Int} {offs : Array Int} {len : Nat} {x : Int32} {off : Int} {tgt : Nat} (hd : decode M.2.1 pc = .ok (.tableswitch dflt lo hi offs, len)) (h1 : ¬ x.toInt < lo) (h2 : ¬ hi < x.toInt) (ho : offs[(x.toInt - lo).toNat]? = some off) (ht : (pc : Int) + off = (tgt : Int)) (kk : zS M G d mc ms k n hh sz tgt lv st Post) : zS M G d mc ms k n hh sz pc lv (.int x :: st) Post := by
  intro p l e R s m args below meth c Q hX hf hl hc hs hE H locs ls hW hS hL
  obtain ⟨hx, hb, hml, hown, hts, hr, hlk, hin, hK⟩ := id hX
  exact lv_tableIn hx hb hd h1 h2 ho ht (kk p l e R s m args below meth c Q hX hf hl hc hs hE H locs ls hW hS hL)
theorem z_tableOut {dflt lo hi : Int} {offs : Array Int} {len : Nat} {x : Int32} {tgt : Nat} (hd : decode M.2.1 pc = .ok (.tableswitch dflt lo hi offs, len)) (h : x.toInt < lo ∨ hi < x.toInt) (ht : (pc : Int) + dflt = (tgt : Int)) (kk : zS M G d mc ms k n hh sz tgt lv st Post) : zS M G d mc ms k n hh sz pc lv (.int x :: st) Post := by
  intro p l e R s m args below meth c Q hX hf hl hc hs hE H locs ls hW hS hL
  obtain ⟨hx, hb, hml, hown, hts, hr, hlk, hin, hK⟩ := id hX
  exact lv_tableOut hx hb hd h ht (kk p l e R s m args below meth c Q hX hf hl hc hs hE H locs ls hW hS hL)
theorem z_lookup {dflt : Int} {ps : Array (Int × Int)} {len : Nat} {x : Int32} {off : Int} {tgt : Nat} (hd : decode M.2.1 pc = .ok (.lookupswitch dflt ps, len)) (hp : (ps.toList.zip (ps.toList.drop 1)).all (fun (a, next) => a.1 < next.1) = true) (ho : Op.lookupswitch.offset ps.toList dflt x.toInt = off) (ht : (pc : Int) + off = (tgt : Int)) (kk : zS M G d mc ms k n hh sz tgt lv st Post) : zS M G d mc ms k n hh sz pc lv (.int x :: st) Post := by
  intro p l e R s m args below meth c Q hX hf hl hc hs hE H locs ls hW hS hL
  obtain ⟨hx, hb, hml, hown, hts, hr, hlk, hin, hK⟩ := id hX
  exact lv_lookup hx hb hd hp ho ht (kk p l e R s m args below meth c Q hX hf hl hc hs hE H locs ls hW hS hL)
theorem z_dup2 {v w : Value} (hd : decode M.2.1 pc = .ok (.dup2, 1)) (hv : v.category = 1) (hw : w.category = 1) (kk : zS M G d mc ms k n hh sz (pc + 1) lv (v :: w :: v :: w :: st) Post) : zS M G d mc ms k n hh sz pc lv (v :: w :: st) Post := by
  intro p l e R s m args below meth c Q hX hf hl hc hs hE H locs ls hW hS hL
  obtain ⟨hx, hb, hml, hown, hts, hr, hlk, hin, hK⟩ := id hX
  exact lv_dup2_11 hx hb hd hv hw (kk p l e R s m args below meth c Q hX hf hl hc hs hE H locs ls hW hS hL)
theorem z_lcmp {x y : Int64} (hd : decode M.2.1 pc = .ok (.lcmp, 1)) (kk : zS M G d mc ms k n hh sz (pc + 1) lv (.int (lg_cmp x y) :: st) Post) : zS M G d mc ms k n hh sz pc lv (.long y :: .long x :: st) Post := by
  intro p l e R s m args below meth c Q hX hf hl hc hs hE H locs ls hW hS hL
  obtain ⟨hx, hb, hml, hown, hts, hr, hlk, hin, hK⟩ := id hX
  exact W.lcmp hx hb hd (kk p l e R s m args below meth c Q hX hf hl hc hs hE H locs ls hW hS hL)
theorem z_ldc {i : Nat} {v : Int32} (hd : decode M.2.1 pc = .ok (.ldc i, 2)) (hw : Jvm.Cond.constant M.1 i v ∈ zT) (kk : zS M G d mc ms k n hh sz (pc + 2) lv (.int v :: st) Post) : zS M G d mc ms k n hh sz pc lv st Post := by
  intro p l e R s m args below meth c Q hX hf hl hc hs hE H locs ls hW hS hL
  obtain ⟨hx, hb, hml, hown, hts, hr, hlk, hin, hK⟩ := id hX
  exact lv_ldc hx hb hown (hts _ hw) hd (kk p l e R s m args below meth c Q hX hf hl hc hs hE H locs ls hW hS hL)
theorem z_ldcw {i : Nat} {v : Int32} (hd : decode M.2.1 pc = .ok (.ldc_w i, 3)) (hw : Jvm.Cond.constant M.1 i v ∈ zT) (kk : zS M G d mc ms k n hh sz (pc + 3) lv (.int v :: st) Post) : zS M G d mc ms k n hh sz pc lv st Post := by
  intro p l e R s m args below meth c Q hX hf hl hc hs hE H locs ls hW hS hL
  obtain ⟨hx, hb, hml, hown, hts, hr, hlk, hin, hK⟩ := id hX
  exact lv_ldcw hx hb hown (hts _ hw) hd (kk p l e R s m args below meth c Q hX hf hl hc hs hE H locs ls hW hS hL)
theorem z_ldc2 {i : Nat} {v : Int64} (hd : decode M.2.1 pc = .ok (.ldc2_w i, 3)) (hw : Jvm.Cond.constantLong M.1 i v ∈ zT) (kk : zS M G d mc ms k n hh sz (pc + 3) lv (.long v :: st) Post) : zS M G d mc ms k n hh sz pc lv st Post := by
  intro p l e R s m args below meth c Q hX hf hl hc hs hE H locs ls hW hS hL
  obtain ⟨hx, hb, hml, hown, hts, hr, hlk, hin, hK⟩ := id hX
  exact lv_ldc2 hx hb hown (hts _ hw) hd (kk p l e R s m args below meth c Q hX hf hl hc hs hE H locs ls hW hS hL)
theorem z_ireturn {x : Int32} (hd : decode M.2.1 pc = .ok (.ireturn, 1)) (hrt : ∃ ty, M.2.2.2.1 = some ty ∧ narrow ty (.int x) = .int x) (h : Post (some (.int x)) hh sz k n) : zS M G d mc ms k n hh sz pc lv [.int x] Post := by
  intro p l e R s m args below meth c Q hX hf hl hc hs hE H locs ls hW hS hL
  obtain ⟨hx, hb, hml, hown, hts, hr, hlk, hin, hK⟩ := id hX
  obtain ⟨ty, e1, e2⟩ := hrt
  exact hE _ hh sz k n H locs pc ls h hW hS (Or.inr (Or.inl ⟨x, ty, rfl, e1, e2, hd⟩))
theorem z_return (hd : decode M.2.1 pc = .ok (.return_, 1)) (hrt : M.2.2.2.1 = none) (h : Post none hh sz k n) : zS M G d mc ms k n hh sz pc lv [] Post := by
  intro p l e R s m args below meth c Q hX hf hl hc hs hE H locs ls hW hS hL
  obtain ⟨hx, hb, hml, hown, hts, hr, hlk, hin, hK⟩ := id hX
  exact hE _ hh sz k n H locs pc ls h hW hS (Or.inl ⟨rfl, hrt, hd⟩)
theorem z_areturn {a : Nat} {C : String} (hd : decode M.2.1 pc = .ok (.areturn, 1)) (hrt : M.2.2.2.1 = some (.object C)) (h : Post (some (.ref a)) hh sz k n) : zS M G d mc ms k n hh sz pc lv [.ref a] Post := by
  intro p l e R s m args below meth c Q hX hf hl hc hs hE H locs ls hW hS hL
  obtain ⟨hx, hb, hml, hown, hts, hr, hlk, hin, hK⟩ := id hX
  exact hE _ hh sz k n H locs pc ls h hW hS (Or.inr (Or.inr ⟨_, C, rfl, hrt, Or.inr ⟨a, rfl⟩, hd⟩))
theorem z_areturnN {C : String} (hd : decode M.2.1 pc = .ok (.areturn, 1)) (hrt : M.2.2.2.1 = some (.object C)) (h : Post (some .null) hh sz k n) : zS M G d mc ms k n hh sz pc lv [.null] Post := by
  intro p l e R s m args below meth c Q hX hf hl hc hs hE H locs ls hW hS hL
  obtain ⟨hx, hb, hml, hown, hts, hr, hlk, hin, hK⟩ := id hX
  exact hE _ hh sz k n H locs pc ls h hW hS (Or.inr (Or.inr ⟨_, C, rfl, hrt, Or.inl rfl, hd⟩))
theorem z_post {P2 : Option Value → zH → Nat → Nat → Nat → Prop} (hPQ : ∀ r h' s' k' n', P2 r h' s' k' n' → Post r h' s' k' n') (kk : zS M G d mc ms k n hh sz pc lv st P2) : zS M G d mc ms k n hh sz pc lv st Post := by
  intro p l e R s m args below meth c Q hX hf hl hc hs hE H locs ls hW hS hL
  obtain ⟨hx, hb, hml, hown, hts, hr, hlk, hin, hK⟩ := id hX
  exact kk p l e R s m args below meth c Q hX hf hl hc hs (fun r h' s' k' n' H' locs' pc' ls' h1 => hE r h' s' k' n' H' locs' pc' ls' (hPQ _ _ _ _ _ h1)) H locs ls hW hS hL
/-- the class of a kind -/
def zc (ci : Nat) : vw_C := vwCl.getD ci (RX0, TX0, 4)
/-- the words of a field instruction: own class, pool index, kind, field -/
def zfw (own : String) (idx ci f : Nat) : Prop := ci < 8 ∧ f < (zc ci).2.2 ∧ Cond.fieldLink own idx (zc ci).1 ((zc ci).2.1 f).2.1 ((zc ci).2.1 f).2.2.1 ∈ zT ∧ ((zc ci).2.1 f).1 = (zc ci).1
def zfn (own : String) (idx ci f : Nat) : Prop := ci < 8 ∧ f < (zc ci).2.2 ∧ Cond.fieldLinkNest own idx (zc ci).1 ((zc ci).2.1 f).2.1 ((zc ci).2.1 f).2.2.1 "WindowLetters" ∈ zN ∧ ((zc ci).2.1 f).1 = (zc ci).1
theorem zc_at {ci : Nat} (h : ci < 8) : vwCl[ci]? = some ((zc ci).1, (zc ci).2.1, (zc ci).2.2) := by
  match ci, h with
  | 0, _ => rfl
  | 1, _ => rfl
  | 2, _ => rfl
  | 3, _ => rfl
  | 4, _ => rfl
  | 5, _ => rfl
  | 6, _ => rfl
  | 7, _ => rfl
theorem zc_in {ci : Nat} (h : ci < 8) : ∀ w ∈ u_ws (zc ci).1 (zc ci).2.1 (zc ci).2.2, w ∈ zT := by
  match ci, h with
  | 0, _ => exact zin0
  | 1, _ => exact zin1
  | 2, _ => exact zin2
  | 3, _ => exact zin3
  | 4, _ => exact zin4
  | 5, _ => exact zin5
  | 6, _ => exact zin6
  | 7, _ => exact zin7
def zty (ci : Nat) : Nat → FieldType := match ci with
  | 0 => tyX0
  | 1 => tyX1
  | 2 => tyX2
  | 3 => tyX3
  | 4 => tyX4
  | 5 => tyX5
  | 6 => tyX6
  | _ => tyX7
theorem zty_ok {ci : Nat} (h : ci < 8) : ∀ k, k < (zc ci).2.2 → parseFieldDescriptor ((zc ci).2.1 k).2.2.1 = some (zty ci k) := by
  match ci, h with
  | 0, _ => exact tyX0_ok
  | 1, _ => exact tyX1_ok
  | 2, _ => exact tyX2_ok
  | 3, _ => exact tyX3_ok
  | 4, _ => exact tyX4_ok
  | 5, _ => exact tyX5_ok
  | 6, _ => exact tyX6_ok
  | 7, _ => exact tyX7_ok
theorem zty_nm {ci : Nat} (h : ci < 8) : ∀ a, a < (zc ci).2.2 → ∀ b, b < (zc ci).2.2 → a ≠ b → ((zc ci).2.1 a).2.1 ≠ ((zc ci).2.1 b).2.1 := by
  match ci, h with
  | 0, _ => exact nmX0
  | 1, _ => exact nmX1
  | 2, _ => exact nmX2
  | 3, _ => exact nmX3
  | 4, _ => exact nmX4
  | 5, _ => exact nmX5
  | 6, _ => exact nmX6
  | 7, _ => exact nmX7
theorem z_get {idx ci f a : Nat} {fs : List Value} {v : Value} (hd : decode M.2.1 pc = .ok (.getfield idx, 3)) (hq : zfw M.1 idx ci f) (he : hh a = some (.inr (ci, fs))) (hv : fs[f]? = some v) (kk : zS M G d mc ms k n hh sz (pc + 3) lv (v :: st) Post) : zS M G d mc ms k n hh sz pc lv (.ref a :: st) Post := by
  intro p l e R s m args below meth c Q hX hf hl hc hs hE H locs ls hW hS hL
  obtain ⟨hx, hb, hml, hown, hts, hr, hlk, hin, hK⟩ := id hX
  obtain ⟨q1, q2, q3, q4⟩ := (hq : zfw _ _ _ _)
  exact va_get (D := G.2.1) (ci := ci) (v := v) hx hb hts (zc_in q1) hown hK.1 (hW.one he) 0 rfl (zc_at q1) f q2 (hts _ q3) (fun _ h9 => by rw [q4] at h9; exact h9) hv hd (kk p l e R s m args below meth c Q hX hf hl hc hs hE H locs ls hW hS hL)
theorem z_getN {idx ci f a : Nat} {fs : List Value} {v : Value} (hd : decode M.2.1 pc = .ok (.getfield idx, 3)) (hq : zfn M.1 idx ci f) (he : hh a = some (.inr (ci, fs))) (hv : fs[f]? = some v) (kk : zS M G d mc ms k n hh sz (pc + 3) lv (v :: st) Post) : zS M G d mc ms k n hh sz pc lv (.ref a :: st) Post := by
  intro p l e R s m args below meth c Q hX hf hl hc hs hE H locs ls hW hS hL
  obtain ⟨hx, hb, hml, hown, hts, hr, hlk, hin, hK⟩ := id hX
  obtain ⟨q1, q2, q3, q4⟩ := (hq : zfn _ _ _ _)
  exact va_getN (D := G.2.1) (ci := ci) (v := v) (host := "WindowLetters") hx hb hts (zc_in q1) hown hK.1 (hW.one he) 0 rfl (zc_at q1) f q2 (va_Nw.use rfl (hK.2.2.2.2.2.1 _ q3)) (fun _ h9 => by rw [q4] at h9; exact h9) hv hd (kk p l e R s m args below meth c Q hX hf hl hc hs hE H locs ls hW hS hL)
theorem z_atset {D : va_G} {cl : List vw_C} {a ci f : Nat} {C : String} {T : u_T} {N : Nat} {fs : List Value} {v : Value} {cell : Cell} {H1 : Heap} (hc : cl[ci]? = some (C, T, N)) (q2 : cell.cls = D.1 ci) (q3 : cell.vm = .none) (q4 : ∀ k, k < N → cell.slots[D.2 ci k]? = some (vp_V fs k)) (hap : ∀ x y, x < N → y < N → x ≠ y → (D.2 ci) x ≠ (D.2 ci) y) (hf : f < N) (hl : f < fs.length) (e1 : H1[a]? = some (cell.setSlot (D.2 ci f) v)) : va_at D cl (a, .inr (ci, fs.set f v)) H1 :=
  ⟨_, hc, t_OB.to (V := updV (vp_V fs) f v) ⟨_, e1, q2, q3, t_set q4 hap hf v⟩ (fun j _ => vp_updV_set hl v j)⟩
theorem z_put {idx ci f a : Nat} {fs : List Value} {v : Value} (hd : decode M.2.1 pc = .ok (.putfield idx, 3)) (hq : zfw M.1 idx ci f) (he : hh a = some (.inr (ci, fs))) (hfin : ((zc ci).2.1 f).2.2.2 = false) (hn : narrow (zty ci f) v = v) (hfit : fits (zty ci f) v = true) (hl : f < fs.length) (kk : zS M G d mc ms k n (zup hh a (.inr (ci, fs.set f v))) sz (pc + 3) lv st Post) : zS M G d mc ms k n hh sz pc lv (v :: .ref a :: st) Post := by
  intro p l e R s m args below meth c Q hX hf hl9 hc hs hE H locs ls hW hS hL
  obtain ⟨hx, hb, hml, hown, hts, hr, hlk, hin, hK⟩ := id hX
  obtain ⟨q1, q2, q3, q4⟩ := (hq : zfw _ _ _ _)
  have hap := va_apart (own := M.1) hts (zc_in q1) (zty ci) (zty_ok q1) (zty_nm q1) hK.1 (zc_at q1)
  obtain ⟨r, h1, cell, g1, g2, g3, g4⟩ := (hW.2 a _ he).2
  have hr2 : r = ((zc ci).1, (zc ci).2.1, (zc ci).2.2) := Option.some.inj (h1.symm.trans (zc_at q1))
  subst hr2
  obtain ⟨hSl, hfc, kC, hkC, hkind⟩ := hK.1.1 ci _ (zc_at q1)
  obtain ⟨cf, kf, fi, fd, hi, hsl⟩ := hSl f q2
  have hlay := hts _ (zc_in q1 _ (u_in_lay q2))
  unfold u_lay at hlay
  rw [if_neg (by rw [hfin]; decide)] at hlay
  have hst := (u_facts hfc hkC (u_lays hts (zc_in q1) q2) hi).1
  have h6 := u_store hfc hkC hkind hlay hi (zty_ok q1 f q2) hn hfit
  refine W.putK hx hb (f := fd) ⟨hown, hts _ q3, ⟨_, _, _, q4 ▸ hi⟩, hst⟩ (by rw [g2]; exact h6) g1 g3 (by rw [hsl]; exact k2_hasslot (g4 f q2)) rfl rfl hd fun H' e1 e2 e3 => ?_
  rw [hsl] at e1 ⊢
  exact kk p l e R s m args below meth c Q hX hf hl9 hc hs hE H' _ ls (hW.set he (z_atset (zc_at q1) g2 g3 g4 hap q2 hl e1) e2 e3) (hS.put e2 e3 (hW.2 a _ he).1) hL
theorem z_putN {idx ci f a : Nat} {fs : List Value} {v : Value} (hd : decode M.2.1 pc = .ok (.putfield idx, 3)) (hq : zfn M.1 idx ci f) (he : hh a = some (.inr (ci, fs))) (hfin : ((zc ci).2.1 f).2.2.2 = false) (hn : narrow (zty ci f) v = v) (hfit : fits (zty ci f) v = true) (hl : f < fs.length) (kk : zS M G d mc ms k n (zup hh a (.inr (ci, fs.set f v))) sz (pc + 3) lv st Post) : zS M G d mc ms k n hh sz pc lv (v :: .ref a :: st) Post := by
  intro p l e R s m args below meth c Q hX hf hl9 hc hs hE H locs ls hW hS hL
  obtain ⟨hx, hb, hml, hown, hts, hr, hlk, hin, hK⟩ := id hX
  obtain ⟨q1, q2, q3, q4⟩ := (hq : zfn _ _ _ _)
  have hap := va_apart (own := M.1) hts (zc_in q1) (zty ci) (zty_ok q1) (zty_nm q1) hK.1 (zc_at q1)
  obtain ⟨r, h1, cell, g1, g2, g3, g4⟩ := (hW.2 a _ he).2
  have hr2 : r = ((zc ci).1, (zc ci).2.1, (zc ci).2.2) := Option.some.inj (h1.symm.trans (zc_at q1))
  subst hr2
  obtain ⟨hSl, hfc, kC, hkC, hkind⟩ := hK.1.1 ci _ (zc_at q1)
  obtain ⟨cf, kf, fi, fd, hi, hsl⟩ := hSl f q2
  have hlay := hts _ (zc_in q1 _ (u_in_lay q2))
  unfold u_lay at hlay
  rw [if_neg (by rw [hfin]; decide)] at hlay
  have hst := (u_facts hfc hkC (u_lays hts (zc_in q1) q2) hi).1
  have h6 := u_store hfc hkC hkind hlay hi (zty_ok q1 f q2) hn hfit
  refine va_WputK hx hb (f := fd) hown (va_Nw.use rfl (hK.2.2.2.2.2.1 _ q3)) (q4 ▸ hi) hst (by rw [g2]; exact h6) g1 g3 (by rw [hsl]; exact k2_hasslot (g4 f q2)) rfl rfl hd fun H' e1 e2 e3 => ?_
  rw [hsl] at e1 ⊢
  exact kk p l e R s m args below meth c Q hX hf hl9 hc hs hE H' _ ls (hW.set he (z_atset (zc_at q1) g2 g3 g4 hap q2 hl e1) e2 e3) (hS.put e2 e3 (hW.2 a _ he).1) hL
theorem z_putF {idx ci f a : Nat} {fs : List Value} {v : Value} (hd : decode M.2.1 pc = .ok (.putfield idx, 3)) (hq : zfw M.1 idx ci f) (he : hh a = some (.inr (ci, fs))) (hfin : ((zc ci).2.1 f).2.2.2 = true) (hini : M.2.2.2.2 = true) (hdecl : (zc ci).1 = M.1) (hn : narrow (zty ci f) v = v) (hfit : fits (zty ci f) v = true) (hl : f < fs.length) (kk : zS M G d mc ms k n (zup hh a (.inr (ci, fs.set f v))) sz (pc + 3) lv st Post) : zS M G d mc ms k n hh sz pc lv (v :: .ref a :: st) Post := by
  intro p l e R s m args below meth c Q hX hf hl9 hc hs hE H locs ls hW hS hL
  obtain ⟨hx, hb, hml, hown, hts, hr, hlk, hin, hK⟩ := id hX
  obtain ⟨q1, q2, q3, q4⟩ := (hq : zfw _ _ _ _)
  have hap := va_apart (own := M.1) hts (zc_in q1) (zty ci) (zty_ok q1) (zty_nm q1) hK.1 (zc_at q1)
  obtain ⟨r, h1, cell, g1, g2, g3, g4⟩ := (hW.2 a _ he).2
  have hr2 : r = ((zc ci).1, (zc ci).2.1, (zc ci).2.2) := Option.some.inj (h1.symm.trans (zc_at q1))
  subst hr2
  obtain ⟨hSl, hfc, kC, hkC, hkind⟩ := hK.1.1 ci _ (zc_at q1)
  obtain ⟨cf, kf, fi, fd, hi, hsl⟩ := hSl f q2
  have hlay := hts _ (zc_in q1 _ (u_in_lay q2))
  unfold u_lay at hlay
  rw [if_pos hfin] at hlay
  have hst := (u_facts hfc hkC (u_lays hts (zc_in q1) q2) hi).1
  have hcf : m.cls = cf := by
    obtain ⟨_, _, c', _, _, _, -, -, hf', -, -, -, hown2, -⟩ := Cond.laysFinal_spec hlay
    have e1 : c' = cf := by have := hi.symm.trans hf'; simp at this; exact this.1.symm
    rw [q4, hdecl] at hown2
    rw [← e1]; exact Option.some.inj (hown.symm.trans hown2)
  have h6 := u_fits hfc hkC hkind (Or.inr hlay) hi (zty_ok q1 f q2) hn hfit
  refine W.putFinK hx hb hown (hts _ q3) (q4 ▸ hi) hst hcf (hin hini) (by rw [g2]; exact h6) g1 g3 (by rw [hsl]; exact k2_hasslot (g4 f q2)) rfl rfl hd fun H' e1 e2 e3 => ?_
  rw [hsl] at e1 ⊢
  exact kk p l e R s m args below meth c Q hX hf hl9 hc hs hE H' _ ls (hW.set he (z_atset (zc_at q1) g2 g3 g4 hap q2 hl e1) e2 e3) (hS.put e2 e3 (hW.2 a _ he).1) hL
theorem z_iald {a N : Nat} {f : Nat → Int32} {x : Int32} (hd : decode M.2.1 pc = .ok (.iaload, 1)) (ha : hh a = some (.inl (G.2.2.1 0, N, .inl f))) (hi : vp_in x N) (kk : zS M G d mc ms k n hh sz (pc + 1) lv (.int (f x.toNatClampNeg) :: st) Post) : zS M G d mc ms k n hh sz pc lv (.int x :: .ref a :: st) Post := by
  intro p l e R s m args below meth c Q hX hf hl hc hs hE H locs ls hW hS hL
  obtain ⟨hx, hb, hml, hown, hts, hr, hlk, hin, hK⟩ := id hX
  exact va_iald hx hb hK.1 (hW.one ha) 0 0 rfl rfl hi hd (kk p l e R s m args below meth c Q hX hf hl hc hs hE H locs ls hW hS hL)
theorem z_cald {a N : Nat} {f : Nat → Int32} {x : Int32} (hd : decode M.2.1 pc = .ok (.caload, 1)) (ha : hh a = some (.inl (G.2.2.1 1, N, .inl f))) (hi : vp_in x N) (kk : zS M G d mc ms k n hh sz (pc + 1) lv (.int (f x.toNatClampNeg) :: st) Post) : zS M G d mc ms k n hh sz pc lv (.int x :: .ref a :: st) Post := by
  intro p l e R s m args below meth c Q hX hf hl hc hs hE H locs ls hW hS hL
  obtain ⟨hx, hb, hml, hown, hts, hr, hlk, hin, hK⟩ := id hX
  exact va_cald hx hb hK.1 (hW.one ha) 0 1 rfl rfl hi hd (kk p l e R s m args below meth c Q hX hf hl hc hs hE H locs ls hW hS hL)
theorem z_zald {a N : Nat} {f : Nat → Int32} {x : Int32} (hd : decode M.2.1 pc = .ok (.baload, 1)) (ha : hh a = some (.inl (G.2.2.1 2, N, .inl f))) (hi : vp_in x N) (kk : zS M G d mc ms k n hh sz (pc + 1) lv (.int (f x.toNatClampNeg) :: st) Post) : zS M G d mc ms k n hh sz pc lv (.int x :: .ref a :: st) Post := by
  intro p l e R s m args below meth c Q hX hf hl hc hs hE H locs ls hW hS hL
  obtain ⟨hx, hb, hml, hown, hts, hr, hlk, hin, hK⟩ := id hX
  exact va_zald hx hb hK.1 (hW.one ha) 0 2 rfl rfl hi hd (kk p l e R s m args below meth c Q hX hf hl hc hs hE H locs ls hW hS hL)
theorem z_iast {a N : Nat} {f : Nat → Int32} {x y : Int32} (hd : decode M.2.1 pc = .ok (.iastore, 1)) (ha : hh a = some (.inl (G.2.2.1 0, N, .inl f))) (hi : vp_in x N) (kk : zS M G d mc ms k n (zup hh a (.inl (G.2.2.1 0, N, .inl (upd f x.toNatClampNeg (y))))) sz (pc + 1) lv st Post) : zS M G d mc ms k n hh sz pc lv (.int y :: .int x :: .ref a :: st) Post := by
  intro p l e R s m args below meth c Q hX hf hl hc hs hE H locs ls hW hS hL
  obtain ⟨hx, hb, hml, hown, hts, hr, hlk, hin, hK⟩ := id hX
  refine W.iast hx hb (hW.2 a _ ha).2 ((hK.1.2 0 _ rfl).1 N (fun j => .int (f j))) (fun q => by cases q) (by show ¬ (x < 0 ∨ (arrV _ _ _).slots.size ≤ _); rw [arrV_size]; exact hi) rfl rfl hd fun H1 e1 z oq => ?_
  refine kk p l e R s m args below meth c Q hX hf hl hc hs hE H1 _ ls (hW.set ha ?_ z oq) (hS.put z oq (hW.2 a _ ha).1) hL
  show H1[a]? = some (vp_cell _ _)
  rw [e1]
  rw [vp_cell_i, vp_cell_i, arrV_store]
  congr 2
  funext q
  by_cases hq : q = x.toNatClampNeg
  · subst hq
    simp [updV, upd, vp_nar]
    try rfl
  · simp [updV, upd, hq]
theorem z_cast {a N : Nat} {f : Nat → Int32} {x y : Int32} (hd : decode M.2.1 pc = .ok (.castore, 1)) (ha : hh a = some (.inl (G.2.2.1 1, N, .inl f))) (hi : vp_in x N) (kk : zS M G d mc ms k n (zup hh a (.inl (G.2.2.1 1, N, .inl (upd f x.toNatClampNeg (vp_nar .char y))))) sz (pc + 1) lv st Post) : zS M G d mc ms k n hh sz pc lv (.int y :: .int x :: .ref a :: st) Post := by
  intro p l e R s m args below meth c Q hX hf hl hc hs hE H locs ls hW hS hL
  obtain ⟨hx, hb, hml, hown, hts, hr, hlk, hin, hK⟩ := id hX
  refine W.cast hx hb (hW.2 a _ ha).2 ((hK.1.2 1 _ rfl).1 N (fun j => .int (f j))) (fun q => by cases q) (by show ¬ (x < 0 ∨ (arrV _ _ _).slots.size ≤ _); rw [arrV_size]; exact hi) rfl rfl hd fun H1 e1 z oq => ?_
  refine kk p l e R s m args below meth c Q hX hf hl hc hs hE H1 _ ls (hW.set ha ?_ z oq) (hS.put z oq (hW.2 a _ ha).1) hL
  show H1[a]? = some (vp_cell _ _)
  rw [e1]
  rw [vp_cell_i, vp_cell_i, arrV_store]
  congr 2
  funext q
  by_cases hq : q = x.toNatClampNeg
  · subst hq
    simp [updV, upd, vp_nar]
    try rfl
  · simp [updV, upd, hq]
theorem z_zast {a N : Nat} {f : Nat → Int32} {x y : Int32} (hd : decode M.2.1 pc = .ok (.bastore, 1)) (ha : hh a = some (.inl (G.2.2.1 2, N, .inl f))) (hi : vp_in x N) (kk : zS M G d mc ms k n (zup hh a (.inl (G.2.2.1 2, N, .inl (upd f x.toNatClampNeg (vp_nar .boolean y))))) sz (pc + 1) lv st Post) : zS M G d mc ms k n hh sz pc lv (.int y :: .int x :: .ref a :: st) Post := by
  intro p l e R s m args below meth c Q hX hf hl hc hs hE H locs ls hW hS hL
  obtain ⟨hx, hb, hml, hown, hts, hr, hlk, hin, hK⟩ := id hX
  refine W.zast hx hb (hW.2 a _ ha).2 ((hK.1.2 2 _ rfl).1 N (fun j => .int (f j))) (fun q => by cases q) (by show ¬ (x < 0 ∨ (arrV _ _ _).slots.size ≤ _); rw [arrV_size]; exact hi) rfl rfl hd fun H1 e1 z oq => ?_
  refine kk p l e R s m args below meth c Q hX hf hl hc hs hE H1 _ ls (hW.set ha ?_ z oq) (hS.put z oq (hW.2 a _ ha).1) hL
  show H1[a]? = some (vp_cell _ _)
  rw [e1]
  rw [vp_cell_i, vp_cell_i, arrV_store]
  congr 2
  funext q
  by_cases hq : q = x.toNatClampNeg
  · subst hq
    simp [updV, upd, vp_nar]
    try rfl
  · simp [updV, upd, hq]
theorem z_aald {a N t : Nat} {C : String} {f : Nat → Option Nat} {x : Int32} (hd : decode M.2.1 pc = .ok (.aaload, 1)) (ha : hh a = some (.inl (G.2.2.1 t, N, .inr (.inr (.inr (.inr f)))))) (ht : (zTys G)[t]? = some (G.2.2.1 t, .object C)) (hi : vp_in x N) (kk : zS M G d mc ms k n hh sz (pc + 1) lv (va_rf (f x.toNatClampNeg) :: st) Post) : zS M G d mc ms k n hh sz pc lv (.int x :: .ref a :: st) Post := by
  intro p l e R s m args below meth c Q hX hf hl hc hs hE H locs ls hW hS hL
  obtain ⟨hx, hb, hml, hown, hts, hr, hlk, hin, hK⟩ := id hX
  exact va_aldq hx hb hK.1 (hW.one ha) 0 t rfl ht hi hd (kk p l e R s m args below meth c Q hX hf hl hc hs hE H locs ls hW hS hL)
theorem z_aast {a N t v ci : Nat} {vs : List Value} {f : Nat → Option Nat} {x : Int32} (hd : decode M.2.1 pc = .ok (.aastore, 1)) (ha : hh a = some (.inl (G.2.2.1 t, N, .inr (.inr (.inr (.inr f)))))) (hci : ci < 8) (ht : (zTys G)[t]? = some (G.2.2.1 t, .object (zc ci).1)) (hv : hh v = some (.inr (ci, vs))) (hi : vp_in x N) (kk : zS M G d mc ms k n (zup hh a (.inl (G.2.2.1 t, N, .inr (.inr (.inr (.inr (va_up f x.toNatClampNeg (some v)))))))) sz (pc + 1) lv st Post) : zS M G d mc ms k n hh sz pc lv (.ref v :: .int x :: .ref a :: st) Post := by
  intro p l e R s m args below meth c Q hX hf hl hc hs hE H locs ls hW hS hL
  obtain ⟨hx, hb, hml, hown, hts, hr, hlk, hin, hK⟩ := id hX
  have hlt : x.toNatClampNeg < N := Nat.not_le.mp fun q => hi (Or.inr q)
  have h0 : ¬ x < 0 := fun q => hi (Or.inl q)
  obtain ⟨r', hr', cellV, g1, g2, g3, -⟩ := (hW.2 v _ hv).2
  have hcls := (hK.1.1 ci _ (zc_at hci)).2
  obtain ⟨kA, comp, k1, k2, k3, -⟩ := (hK.1.2 t _ ht).2
  have hcomp : comp = G.2.1.1 ci := Option.some.inj (k3.symm.trans hcls.1)
  subst hcomp
  obtain ⟨kC, hkC, -⟩ := hcls.2
  refine W.aast hx hb (hW.2 a _ ha).2 (fun q h => by cases h) (fun h => by cases h) k1 k2 rfl hkC ⟨h0, by show _ < (arrV _ _ _).slots.size; rw [arrV_size]; exact hlt⟩ g1 (fun q h => by rw [g3] at h; cases h) (by rw [g2]; exact hkC) (by rw [g2]; exact va_assign hcls) rfl rfl hd fun H1 e1 z oq => ?_
  refine kk p l e R s m args below meth c Q hX hf hl hc hs hE H1 _ ls (hW.set ha ?_ z oq) (hS.put z oq (hW.2 a _ ha).1) hL
  show H1[a]? = some (vp_cell _ _)
  rw [e1]
  rw [vp_cell_q, vp_cell_q, arrV_store]
  congr 2
  funext q
  by_cases hq : q = x.toNatClampNeg
  · subst hq
    simp [updV, va_up, va_rf]
  · simp [updV, va_up, hq]
theorem z_alen {a t : Nat} {ty : FieldType} {x : vp_A} {v : Int32} (hd : decode M.2.1 pc = .ok (.arraylength, 1)) (ha : hh a = some (.inl (G.2.2.1 t, x))) (ht : (zTys G)[t]? = some (G.2.2.1 t, ty)) (hv : Int32.ofNat x.1 = v) (kk : zS M G d mc ms k n hh sz (pc + 1) lv (.int v :: st) Post) : zS M G d mc ms k n hh sz pc lv (.ref a :: st) Post := by
  intro p l e R s m args below meth c Q hX hf hl hc hs hE H locs ls hW hS hL
  obtain ⟨hx, hb, hml, hown, hts, hr, hlk, hin, hK⟩ := id hX
  exact va_alen hx hb hK.1 (hW.one ha) 0 t rfl ht hv hd (kk p l e R s m args below meth c Q hX hf hl hc hs hE H locs ls hW hS hL)
theorem z_new {idx ci : Nat} {fs : List Value} (hd : decode M.2.1 pc = .ok (.new idx, 3)) (hq : ci < 8 ∧ Cond.classLink M.1 idx (zc ci).1 ∈ zT ∧ Cond.instantiable (zc ci).1 (zc ci).2.2 ∈ zT ∧ Cond.initialized (zc ci).1 ∈ zT) (hfs : ∀ j, j < (zc ci).2.2 → defaultValue (zty ci j) = vp_V fs j) (hk : k + 1 ≤ mc) (hn : n + (zc ci).2.2 ≤ ms) (kk : zS M G d mc ms (k + 1) (n + (zc ci).2.2) (zup hh sz (.inr (ci, fs))) (sz + 1) (pc + 3) lv (.ref sz :: st) Post) : zS M G d mc ms k n hh sz pc lv st Post := by
  intro p l e R s m args below meth c Q hX hf hl hc hs hE H locs ls hW hS hL
  obtain ⟨hx, hb, hml, hown, hts, hr, hlk, hin, hK⟩ := id hX
  obtain ⟨q1, q2, q3, q4⟩ := hq
  have hb1 : G.1 ≤ sz := by rw [← hW.1]; exact Nat.le_trans hK.2.2.2.2.2.2 hS.1
  have hcells : k + 1 ≤ R.cells := Nat.le_trans hk hc
  have hKn := hK.1.1 ci _ (zc_at q1)
  refine W.newcK hx hb hown (hts _ q2) (hts _ q3) (hts _ q4) rfl hd hcells (Nat.le_trans hn hs) hKn.2.1 hW.1 fun H1 kC hkC e1 z1 o1 => ?_
  refine kk p l e R s m args below meth c Q hX hf hl hc hs hE H1 locs ls (hW.push hb1 ⟨_, zc_at q1, (u_born (zty ci) hts (zc_in q1) hKn hkC e1 (zty_ok q1)).to hfs⟩ z1 o1) ⟨Nat.le_trans hS.1 (by rw [z1, hW.1]; omega), fun q g1 g2 => (o1 q (by rw [← hW.1]; exact Nat.lt_of_lt_of_le g1 hS.1)).trans (hS.2.1 q g1 g2), hS.2.2⟩ hL
theorem z_newI {x : Int32} {N : Nat} (hd : decode M.2.1 pc = .ok (.newarray .int, 2)) (hq : Cond.arrayClass .int ∈ zT) (h0 : ¬ x < 0) (hN : x.toNatClampNeg = N) (hsm : N * 8 ≤ 536870912) (hk : k + 1 ≤ mc) (hn : n + N ≤ ms) (kk : zS M G d mc ms (k + 1) (n + N) (zup hh sz (.inl (G.2.2.1 0, N, .inl (fun _ => 0)))) (sz + 1) (pc + 2) lv (.ref sz :: st) Post) : zS M G d mc ms k n hh sz pc lv (.int x :: st) Post := by
  intro p l e R s m args below meth c Q hX hf hl hc hs hE H locs ls hW hS hL
  obtain ⟨hx, hb, hml, hown, hts, hr, hlk, hin, hK⟩ := id hX
  have hb1 : G.1 ≤ sz := by rw [← hW.1]; exact Nat.le_trans hK.2.2.2.2.2.2 hS.1
  have hcells : k + 1 ≤ R.cells := Nat.le_trans hk hc
  have hsm2 : N * componentBytes (newarray.typeOf .int) ≤ 536870912 := Nat.le_trans (Nat.mul_le_mul_left _ (by decide)) hsm
  refine va_newaK (atype := .int) hx hb (hts _ hq) rfl hd rfl h0 hN hsm2 hcells (Nat.le_trans hn hs) hW.1 fun H1 cA e1 z1 o1 hAr hNm => ?_
  have hcA : cA = G.2.2.1 0 := Option.some.inj (hNm.symm.trans (hK.1.2 0 _ rfl).2)
  subst hcA
  refine kk p l e R s m args below meth c Q hX hf hl hc hs hE H1 locs ls (hW.push hb1 ?_ z1 o1) ⟨Nat.le_trans hS.1 (by rw [z1, hW.1]; omega), fun q g1 g2 => (o1 q (by rw [← hW.1]; exact Nat.lt_of_lt_of_le g1 hS.1)).trans (hS.2.1 q g1 g2), hS.2.2⟩ hL
  show H1[sz]? = some (vp_cell _ _)
  rw [vp_cell_i]
  exact e1
theorem z_newC {x : Int32} {N : Nat} (hd : decode M.2.1 pc = .ok (.newarray .char, 2)) (hq : Cond.arrayClass .char ∈ zT) (h0 : ¬ x < 0) (hN : x.toNatClampNeg = N) (hsm : N * 8 ≤ 536870912) (hk : k + 1 ≤ mc) (hn : n + N ≤ ms) (kk : zS M G d mc ms (k + 1) (n + N) (zup hh sz (.inl (G.2.2.1 1, N, .inl (fun _ => 0)))) (sz + 1) (pc + 2) lv (.ref sz :: st) Post) : zS M G d mc ms k n hh sz pc lv (.int x :: st) Post := by
  intro p l e R s m args below meth c Q hX hf hl hc hs hE H locs ls hW hS hL
  obtain ⟨hx, hb, hml, hown, hts, hr, hlk, hin, hK⟩ := id hX
  have hb1 : G.1 ≤ sz := by rw [← hW.1]; exact Nat.le_trans hK.2.2.2.2.2.2 hS.1
  have hcells : k + 1 ≤ R.cells := Nat.le_trans hk hc
  have hsm2 : N * componentBytes (newarray.typeOf .char) ≤ 536870912 := Nat.le_trans (Nat.mul_le_mul_left _ (by decide)) hsm
  refine va_newaK (atype := .char) hx hb (hts _ hq) rfl hd rfl h0 hN hsm2 hcells (Nat.le_trans hn hs) hW.1 fun H1 cA e1 z1 o1 hAr hNm => ?_
  have hcA : cA = G.2.2.1 1 := Option.some.inj (hNm.symm.trans (hK.1.2 1 _ rfl).2)
  subst hcA
  refine kk p l e R s m args below meth c Q hX hf hl hc hs hE H1 locs ls (hW.push hb1 ?_ z1 o1) ⟨Nat.le_trans hS.1 (by rw [z1, hW.1]; omega), fun q g1 g2 => (o1 q (by rw [← hW.1]; exact Nat.lt_of_lt_of_le g1 hS.1)).trans (hS.2.1 q g1 g2), hS.2.2⟩ hL
  show H1[sz]? = some (vp_cell _ _)
  rw [vp_cell_i]
  exact e1
theorem z_newZ {x : Int32} {N : Nat} (hd : decode M.2.1 pc = .ok (.newarray .boolean, 2)) (hq : Cond.arrayClass .boolean ∈ zT) (h0 : ¬ x < 0) (hN : x.toNatClampNeg = N) (hsm : N * 8 ≤ 536870912) (hk : k + 1 ≤ mc) (hn : n + N ≤ ms) (kk : zS M G d mc ms (k + 1) (n + N) (zup hh sz (.inl (G.2.2.1 2, N, .inl (fun _ => 0)))) (sz + 1) (pc + 2) lv (.ref sz :: st) Post) : zS M G d mc ms k n hh sz pc lv (.int x :: st) Post := by
  intro p l e R s m args below meth c Q hX hf hl hc hs hE H locs ls hW hS hL
  obtain ⟨hx, hb, hml, hown, hts, hr, hlk, hin, hK⟩ := id hX
  have hb1 : G.1 ≤ sz := by rw [← hW.1]; exact Nat.le_trans hK.2.2.2.2.2.2 hS.1
  have hcells : k + 1 ≤ R.cells := Nat.le_trans hk hc
  have hsm2 : N * componentBytes (newarray.typeOf .boolean) ≤ 536870912 := Nat.le_trans (Nat.mul_le_mul_left _ (by decide)) hsm
  refine va_newaK (atype := .boolean) hx hb (hts _ hq) rfl hd rfl h0 hN hsm2 hcells (Nat.le_trans hn hs) hW.1 fun H1 cA e1 z1 o1 hAr hNm => ?_
  have hcA : cA = G.2.2.1 2 := Option.some.inj (hNm.symm.trans (hK.1.2 2 _ rfl).2)
  subst hcA
  refine kk p l e R s m args below meth c Q hX hf hl hc hs hE H1 locs ls (hW.push hb1 ?_ z1 o1) ⟨Nat.le_trans hS.1 (by rw [z1, hW.1]; omega), fun q g1 g2 => (o1 q (by rw [← hW.1]; exact Nat.lt_of_lt_of_le g1 hS.1)).trans (hS.2.1 q g1 g2), hS.2.2⟩ hL
  show H1[sz]? = some (vp_cell _ _)
  rw [vp_cell_i]
  exact e1
theorem z_newR {x : Int32} {N idx t : Nat} {C : String} (hd : decode M.2.1 pc = .ok (.anewarray idx, 3)) (hq : Cond.classLink M.1 idx C ∈ zT) (hC : C = RX5 ∧ t = 3 ∨ C = RX4 ∧ t = 4 ∨ C = RX2 ∧ t = 5) (h0 : ¬ x < 0) (hN : x.toNatClampNeg = N) (hsm : N * 4 ≤ 536870912) (hk : k + 1 ≤ mc) (hn : n + N ≤ ms) (kk : zS M G d mc ms (k + 1) (n + N) (zup hh sz (.inl (G.2.2.1 t, N, .inr (.inr (.inr (.inr (fun _ => none))))))) (sz + 1) (pc + 3) lv (.ref sz :: st) Post) : zS M G d mc ms k n hh sz pc lv (.int x :: st) Post := by
  intro p l e R s m args below meth c Q hX hf hl hc hs hE H locs ls hW hS hL
  obtain ⟨hx, hb, hml, hown, hts, hr, hlk, hin, hK⟩ := id hX
  have hb1 : G.1 ≤ sz := by rw [← hW.1]; exact Nat.le_trans hK.2.2.2.2.2.2 hS.1
  have hcells : k + 1 ≤ R.cells := Nat.le_trans hk hc
  have hAO : va_AO C s := by
    obtain ⟨a1, a2, a3⟩ := hK.2.2.2.1
    rcases hC with ⟨rfl, -⟩ | ⟨rfl, -⟩ | ⟨rfl, -⟩
    · exact a1
    · exact a2
    · exact a3
  have hT : (zTys G)[t]? = some (G.2.2.1 t, .object C) := by
    rcases hC with ⟨rfl, rfl⟩ | ⟨rfl, rfl⟩ | ⟨rfl, rfl⟩ <;> rfl
  subst hN
  refine W.anew hx hb hown (hts _ hq) (va_AO.use hAO) rfl hd rfl h0 hsm hcells (Nat.le_trans hn hs) fun cA kA comp f1 f2 f3 f4 => ?_
  generalize hH1 : H.push ({ cls := cA, slots := Array.replicate x.toNatClampNeg .null, vm := .none } : Cell) = H1
  have z1 : H1.size = sz + 1 := by rw [← hH1, Array.size_push, hW.1]
  have e1 : H1[sz]? = some (arrV cA x.toNatClampNeg (fun _ => .null)) := by rw [← hH1, ← hW.1, Array.getElem?_push_size, ← arrV_new]
  have o1 : ∀ q : Nat, q < sz → H1[q]? = H[q]? := fun q hq => by rw [← hH1, Array.getElem?_push, if_neg (Nat.ne_of_lt (by rw [hW.1]; exact hq))]
  have hcA : cA = G.2.2.1 t := by
    obtain ⟨_, _, _, _, _, h4⟩ := (hK.1.2 t _ hT).2
    exact Option.some.inj (f1.symm.trans h4)
  subst hcA
  refine W.eq (g2 := F0 m (pc + 3) ls (.ref sz :: st)) (by rw [← hW.1]) ?_
  refine kk p l e R s m args below meth c Q hX hf hl hc hs hE H1 locs ls (hW.push hb1 ?_ z1 o1) ⟨Nat.le_trans hS.1 (by rw [z1, hW.1]; omega), fun q g1 g2 => (o1 q (by rw [← hW.1]; exact Nat.lt_of_lt_of_le g1 hS.1)).trans (hS.2.1 q g1 g2), hS.2.2⟩ hL
  show H1[sz]? = some (vp_cell _ _)
  rw [vp_cell_q]
  exact e1
end ZR

/-! calls -/
theorem z_good {w : Cond} (h : w ∈ zT) : (w.onTables && w.keeps) = true ∨ ∃ ty, w = .arrayClass ty := good_of_word (zT_good h)
theorem z_goodIn {y : MethodName} {cc : ByteArray} {nL : Nat} {ret : Option FieldType} (h : Cond.code y cc nL ret ∈ zT) : GoodIn zT (.code y cc nL ret :: zT) := by
  intro w hw
  rcases List.mem_cons.mp hw with rfl | hw
  · exact ⟨h, z_good h⟩
  · exact ⟨hw, z_good hw⟩
/-- the callee's start -/
theorem z_blind {G : zG} {hh : zH} {sz : Nat} {as : List Value} : FrameBlind (va_Pc as (fun U => zW G hh sz U.heap ∧ zK G U)) := fun _ _ _ _ q => ⟨q.1, q.2.1, q.2.2.calling⟩
theorem z_start {G : zG} {hh : zH} {sz : Nat} {s U : State} {H : Heap} {locs : List Loc} (hK : zK G s) (hW : zW G hh sz H) (hS : va_S (zA G) s.heap H locs) (e : U.heap = H) (hw : s.WarmedH U.vm) : zW G hh sz U.heap ∧ zK G U :=
  ⟨by rw [e]; exact hW, hK.to hw (by rw [e]; exact hS.1) (fun q h1 h2 => by rw [e]; exact hS.2.1 q h1 h2)⟩
/-- behind a call -/
theorem z_cont {p : Program} {l : Launch} {e : Env} {R : Room} {s : State} {m : MethodId} {args : Array Value} {below : List Frame} {meth : Method} {c : Code} {H : Heap} {locs : List Loc} {cells slots mc ms : Nat} {Q : State → Prop} {pc : Nat} {ls : Array Slot} {rest st0 : List Value} {G : zG} {Post : Option Value → zH → Nat → Prop}
    (hr : va_Run p l e R s m args below meth c H locs cells slots mc ms (F0 m pc ls st0) rest (fun st oc t => ∃ (r : Option Value) (hh' : zH) (sz' : Nat), oc = .returned r ∧ Post r hh' sz' ∧ zW G hh' sz' t.heap ∧ va_F (zA G) st t) (zA G)) (hS : va_S (zA G) s.heap H locs)
    (kk : ∀ (r : Option Value) (hh' : zH) (sz' : Nat) (H1 : Heap) (locs1 : List Loc), Post r hh' sz' → zW G hh' sz' H1 → va_S (zA G) s.heap H1 locs1 → W p l e R s m args below meth c H1 locs1 (cells + mc) (slots + ms) Q (F0 m (pc + 3) ls (r.toList ++ rest))) : W p l e R s m args below meth c H locs cells slots Q (F0 m pc ls st0) := by
  intro T hT X
  obtain ⟨v, st₀, t, T', L, h0, X', hL, e1, e2, ⟨r, hh', sz', hv, hp, hw, hz, hk⟩, st⟩ := hr T hT X
  cases hv
  rw [h0] at hz hk
  obtain ⟨t2, a1, b1⟩ := kk _ hh' sz' T'.heap (locs ++ L) hp (by rw [e1]; exact hw)
    ⟨Nat.le_trans hS.1 (by rw [e1]; exact hz), fun q h1 h2 => by rw [e1, hk q (Nat.lt_of_lt_of_le h1 hS.1) h2]; exact hS.2.1 q h1 h2, fun q hq => by
      rcases List.mem_append.mp hq with h | h
      · exact hS.2.2 q h
      · exact hL q h⟩ T' rfl X'
  exact ⟨t2, st t2 a1, b1⟩
theorem z_weight {p : Program} {m : MethodId} {pc : Nat} {ls : Array Slot} {rest st : List Value} (h : (st.map fun v => v.category).sum ≤ 8) : 2 * (F0 m pc ls rest).monitorRoom + (st.map fun v => v.category).sum ≤ 8 := lv_room h
def zpar (y : MethodName) (n : Nat) : Prop := y.cls ≠ "java/lang/invoke/MethodHandle" ∧ y.cls ≠ "java/lang/invoke/VarHandle" ∧ (parseMethodDescriptor y.desc).map (fun d => d.parameters.length) = some n
section ZCALL
variable {M : zM} {G : zG} {d mc ms k n : Nat} {hh : zH} {sz : Nat} {pc : Nat} {lv : List (Option Value)} {rest : List Value} {Post : Option Value → zH → Nat → Nat → Nat → Prop}
variable {y : MethodName} {My : zM} {idx d' mc' ms' : Nat} {as : List Value} {P' : Option Value → zH → Nat → Prop}
theorem z_callS (hC : zC G d' My y as hh sz mc' ms' P') (hd : decode M.2.1 pc = .ok (.invokestatic idx, 3)) (hq : Cond.methodLink M.1 idx y ∈ zT ∧ Cond.code y My.2.1 My.2.2.1 My.2.2.2.1 ∈ zT ∧ Cond.initialized y.cls ∈ zT ∧ Cond.static y ∈ zT) (hroom : d' + 1 ≤ d ∧ My.2.2.1 ≤ 12) (hpar : zpar y as.length) (hwt : (rest.map fun v => v.category).sum ≤ 8) (hk : k + mc' ≤ mc) (hn : n + ms' ≤ ms) (kk : ∀ (r : Option Value) (hh' : zH) (sz' : Nat), P' r hh' sz' → zS M G d mc ms (k + mc') (n + ms') hh' sz' (pc + 3) lv (r.toList ++ rest) Post) {st : List Value} (hst : st = as.reverse ++ rest) : zS M G d mc ms k n hh sz pc lv st Post := by
  intro p l e R s m args below meth c Q hX hf hl hc hs hE H locs ls hW hS hL
  obtain ⟨hx, hb, hml, hown, hts, hr, hlk, hin, hK⟩ := id hX
  have hR : ({ frames := d', cells := mc', slots := ms', locals := 31 * d' } : Room).frames + 1 ≤ R.frames ∧ 8 + (My.2.2.1 + 11) + ({ frames := d', cells := mc', slots := ms', locals := 31 * d' } : Room).locals ≤ R.locals := ⟨by show d' + 1 ≤ _; omega, by show 8 + (My.2.2.1 + 11) + 31 * d' ≤ _; omega⟩
  subst hst
  obtain ⟨q1, q2, q3, q4⟩ := hq
  exact z_cont (va_runS (As := as) (rest := rest) ⟨hx, hb, hml, hown, fun w hw => hts w hw⟩ (hC l) ⟨callB_of (ws' := zT) as.length hts (z_goodIn q2) rfl rfl rfl (hts _ q3) (hts _ q1) hpar hR, hts _ q4⟩ ⟨z_blind, fun U hU hw => ⟨rfl, z_start hK hW hS hU hw⟩⟩ rfl rfl hL.size rfl (lv_room hwt) hd ⟨Nat.le_trans hk hc, Nat.le_trans hn hs⟩) hS (fun r hh1 sz1 H1 locs1 hp hW1 hS1 => kk r hh1 sz1 hp p l e R s m args below meth c Q hX hf hl hc hs hE H1 locs1 ls hW1 hS1 hL)
theorem z_callSN (hC : zC G d' My y as hh sz mc' ms' P') (hd : decode M.2.1 pc = .ok (.invokestatic idx, 3)) (hq : Cond.methodLinkNest M.1 idx y "WindowLetters" ∈ zN ∧ Cond.code y My.2.1 My.2.2.1 My.2.2.2.1 ∈ zT ∧ Cond.initialized y.cls ∈ zT ∧ Cond.static y ∈ zT) (hroom : d' + 1 ≤ d ∧ My.2.2.1 ≤ 12) (hpar : zpar y as.length) (hwt : (rest.map fun v => v.category).sum ≤ 8) (hk : k + mc' ≤ mc) (hn : n + ms' ≤ ms) (kk : ∀ (r : Option Value) (hh' : zH) (sz' : Nat), P' r hh' sz' → zS M G d mc ms (k + mc') (n + ms') hh' sz' (pc + 3) lv (r.toList ++ rest) Post) {st : List Value} (hst : st = as.reverse ++ rest) : zS M G d mc ms k n hh sz pc lv st Post := by
  intro p l e R s m args below meth c Q hX hf hl hc hs hE H locs ls hW hS hL
  obtain ⟨hx, hb, hml, hown, hts, hr, hlk, hin, hK⟩ := id hX
  have hR : ({ frames := d', cells := mc', slots := ms', locals := 31 * d' } : Room).frames + 1 ≤ R.frames ∧ 8 + (My.2.2.1 + 11) + ({ frames := d', cells := mc', slots := ms', locals := 31 * d' } : Room).locals ≤ R.locals := ⟨by show d' + 1 ≤ _; omega, by show 8 + (My.2.2.1 + 11) + 31 * d' ≤ _; omega⟩
  subst hst
  obtain ⟨q1, q2, q3, q4⟩ := hq
  exact z_cont (va_runSN (As := as) (rest := rest) ⟨hx, hb, hml, hown, fun w hw => hts w hw⟩ (hC l) ⟨va_cnB (ws' := zT) as.length hts (z_goodIn q2) rfl rfl rfl (hK.2.2.2.2.2.1 _ q1) (hts _ q3) hpar hR, hts _ q4, trivial⟩ ⟨z_blind, fun U hU hw => ⟨rfl, z_start hK hW hS hU hw⟩⟩ rfl rfl hL.size rfl (lv_room hwt) hd ⟨Nat.le_trans hk hc, Nat.le_trans hn hs⟩) hS (fun r hh1 sz1 H1 locs1 hp hW1 hS1 => kk r hh1 sz1 hp p l e R s m args below meth c Q hX hf hl hc hs hE H1 locs1 ls hW1 hS1 hL)
theorem z_callV {ci b : Nat} {fs : List Value} (hC : zC G d' My y (.ref b :: as) hh sz mc' ms' P') (hd : decode M.2.1 pc = .ok (.invokevirtual idx, 3)) (hq : Cond.methodLink M.1 idx y ∈ zT ∧ Cond.code y My.2.1 My.2.2.1 My.2.2.2.1 ∈ zT ∧ Cond.initialized y.cls ∈ zT ∧ Cond.instanceMethod y ∈ zT ∧ Cond.selects (zc ci).1 y y ∈ zT ∧ ci < 8) (he : hh b = some (.inr (ci, fs))) (hroom : d' + 1 ≤ d ∧ My.2.2.1 ≤ 12) (hpar : zpar y as.length) (hwt : (rest.map fun v => v.category).sum ≤ 8) (hk : k + mc' ≤ mc) (hn : n + ms' ≤ ms) (kk : ∀ (r : Option Value) (hh' : zH) (sz' : Nat), P' r hh' sz' → zS M G d mc ms (k + mc') (n + ms') hh' sz' (pc + 3) lv (r.toList ++ rest) Post) {st : List Value} (hst : st = as.reverse ++ .ref b :: rest) : zS M G d mc ms k n hh sz pc lv st Post := by
  intro p l e R s m args below meth c Q hX hf hl hc hs hE H locs ls hW hS hL
  obtain ⟨hx, hb, hml, hown, hts, hr, hlk, hin, hK⟩ := id hX
  have hR : ({ frames := d', cells := mc', slots := ms', locals := 31 * d' } : Room).frames + 1 ≤ R.frames ∧ 8 + (My.2.2.1 + 11) + ({ frames := d', cells := mc', slots := ms', locals := 31 * d' } : Room).locals ≤ R.locals := ⟨by show d' + 1 ≤ _; omega, by show 8 + (My.2.2.1 + 11) + 31 * d' ≤ _; omega⟩
  subst hst
  obtain ⟨q1, q2, q3, q4, q5, q6⟩ := hq
  exact z_cont (va_runV (C := (zc ci).1) (As := as) (rest := rest) ⟨hx, hb, hml, hown, fun w hw => hts w hw⟩ (hC l) ⟨callB_of (ws' := zT) as.length hts (z_goodIn q2) rfl rfl rfl (hts _ q3) (hts _ q1) hpar hR, hts _ q4, hts _ q5⟩ ⟨z_blind, va_recv hK.1 (hW.one he) (ci := ci) (q0 := 0) (zc_at q6) rfl, fun U hU hw => ⟨rfl, z_start hK hW hS hU hw⟩⟩ rfl rfl hL.size rfl (lv_room hwt) hd ⟨Nat.le_trans hk hc, Nat.le_trans hn hs⟩) hS (fun r hh1 sz1 H1 locs1 hp hW1 hS1 => kk r hh1 sz1 hp p l e R s m args below meth c Q hX hf hl hc hs hE H1 locs1 ls hW1 hS1 hL)
theorem z_callVN {ci b : Nat} {fs : List Value} (hC : zC G d' My y (.ref b :: as) hh sz mc' ms' P') (hd : decode M.2.1 pc = .ok (.invokevirtual idx, 3)) (hq : Cond.methodLinkNest M.1 idx y "WindowLetters" ∈ zN ∧ Cond.code y My.2.1 My.2.2.1 My.2.2.2.1 ∈ zT ∧ Cond.initialized y.cls ∈ zT ∧ Cond.instanceMethod y ∈ zT ∧ Cond.selects (zc ci).1 y y ∈ zT ∧ ci < 8) (he : hh b = some (.inr (ci, fs))) (hroom : d' + 1 ≤ d ∧ My.2.2.1 ≤ 12) (hpar : zpar y as.length) (hwt : (rest.map fun v => v.category).sum ≤ 8) (hk : k + mc' ≤ mc) (hn : n + ms' ≤ ms) (kk : ∀ (r : Option Value) (hh' : zH) (sz' : Nat), P' r hh' sz' → zS M G d mc ms (k + mc') (n + ms') hh' sz' (pc + 3) lv (r.toList ++ rest) Post) {st : List Value} (hst : st = as.reverse ++ .ref b :: rest) : zS M G d mc ms k n hh sz pc lv st Post := by
  intro p l e R s m args below meth c Q hX hf hl hc hs hE H locs ls hW hS hL
  obtain ⟨hx, hb, hml, hown, hts, hr, hlk, hin, hK⟩ := id hX
  have hR : ({ frames := d', cells := mc', slots := ms', locals := 31 * d' } : Room).frames + 1 ≤ R.frames ∧ 8 + (My.2.2.1 + 11) + ({ frames := d', cells := mc', slots := ms', locals := 31 * d' } : Room).locals ≤ R.locals := ⟨by show d' + 1 ≤ _; omega, by show 8 + (My.2.2.1 + 11) + 31 * d' ≤ _; omega⟩
  subst hst
  obtain ⟨q1, q2, q3, q4, q5, q6⟩ := hq
  exact z_cont (va_runVN (C := (zc ci).1) (As := as) (rest := rest) ⟨hx, hb, hml, hown, fun w hw => hts w hw⟩ (hC l) ⟨va_cnB (ws' := zT) as.length hts (z_goodIn q2) rfl rfl rfl (hK.2.2.2.2.2.1 _ q1) (hts _ q3) hpar hR, hts _ q4, hts _ q5⟩ ⟨z_blind, va_recv hK.1 (hW.one he) (ci := ci) (q0 := 0) (zc_at q6) rfl, fun U hU hw => ⟨rfl, z_start hK hW hS hU hw⟩⟩ rfl rfl hL.size rfl (lv_room hwt) hd ⟨Nat.le_trans hk hc, Nat.le_trans hn hs⟩) hS (fun r hh1 sz1 H1 locs1 hp hW1 hS1 => kk r hh1 sz1 hp p l e R s m args below meth c Q hX hf hl hc hs hE H1 locs1 ls hW1 hS1 hL)
theorem z_callI {b : Nat} (hC : zC G d' My y (.ref b :: as) hh sz mc' ms' P') (hd : decode M.2.1 pc = .ok (.invokespecial idx, 3)) (hq : Cond.methodLink M.1 idx y ∈ zT ∧ Cond.code y My.2.1 My.2.2.1 none ∈ zT ∧ Cond.initialized y.cls ∈ zT ∧ Cond.instanceMethod y ∈ zT ∧ y.name = "<init>") (hret : My.2.2.2.1 = none) (hroom : d' + 1 ≤ d ∧ My.2.2.1 ≤ 12) (hpar : zpar y as.length) (hwt : (rest.map fun v => v.category).sum ≤ 8) (hk : k + mc' ≤ mc) (hn : n + ms' ≤ ms) (kk : ∀ (r : Option Value) (hh' : zH) (sz' : Nat), P' r hh' sz' → zS M G d mc ms (k + mc') (n + ms') hh' sz' (pc + 3) lv (r.toList ++ rest) Post) {st : List Value} (hst : st = as.reverse ++ .ref b :: rest) : zS M G d mc ms k n hh sz pc lv st Post := by
  intro p l e R s m args below meth c Q hX hf hl hc hs hE H locs ls hW hS hL
  obtain ⟨hx, hb, hml, hown, hts, hr, hlk, hin, hK⟩ := id hX
  have hR : ({ frames := d', cells := mc', slots := ms', locals := 31 * d' } : Room).frames + 1 ≤ R.frames ∧ 8 + (My.2.2.1 + 11) + ({ frames := d', cells := mc', slots := ms', locals := 31 * d' } : Room).locals ≤ R.locals := ⟨by show d' + 1 ≤ _; omega, by show 8 + (My.2.2.1 + 11) + 31 * d' ≤ _; omega⟩
  subst hst
  obtain ⟨q1, q2, q3, q4, q5⟩ := hq
  exact z_cont (va_runI (As := as) (rest := rest) ⟨hx, hb, hml, hown, fun w hw => hts w hw⟩ (show Met l y (.code y My.2.1 My.2.2.1 none :: zT) _ _ _ _ _ _ from by rw [← hret]; exact hC l) ⟨callB_of (ws' := zT) as.length hts (z_goodIn q2) rfl rfl rfl (hts _ q3) (hts _ q1) hpar hR, q5, hts _ q4⟩ ⟨z_blind, fun U hU hw => ⟨rfl, z_start hK hW hS hU hw⟩⟩ rfl rfl hL.size rfl (lv_room hwt) hd ⟨Nat.le_trans hk hc, Nat.le_trans hn hs⟩) hS (fun r hh1 sz1 H1 locs1 hp hW1 hS1 => kk r hh1 sz1 hp p l e R s m args below meth c Q hX hf hl hc hs hE H1 locs1 ls hW1 hS1 hL)
theorem z_callIN {b : Nat} (hC : zC G d' My y (.ref b :: as) hh sz mc' ms' P') (hd : decode M.2.1 pc = .ok (.invokespecial idx, 3)) (hq : Cond.methodLinkNest M.1 idx y "WindowLetters" ∈ zN ∧ Cond.code y My.2.1 My.2.2.1 none ∈ zT ∧ Cond.initialized y.cls ∈ zT ∧ Cond.instanceMethod y ∈ zT ∧ y.name = "<init>") (hret : My.2.2.2.1 = none) (hroom : d' + 1 ≤ d ∧ My.2.2.1 ≤ 12) (hpar : zpar y as.length) (hwt : (rest.map fun v => v.category).sum ≤ 8) (hk : k + mc' ≤ mc) (hn : n + ms' ≤ ms) (kk : ∀ (r : Option Value) (hh' : zH) (sz' : Nat), P' r hh' sz' → zS M G d mc ms (k + mc') (n + ms') hh' sz' (pc + 3) lv (r.toList ++ rest) Post) {st : List Value} (hst : st = as.reverse ++ .ref b :: rest) : zS M G d mc ms k n hh sz pc lv st Post := by
  intro p l e R s m args below meth c Q hX hf hl hc hs hE H locs ls hW hS hL
  obtain ⟨hx, hb, hml, hown, hts, hr, hlk, hin, hK⟩ := id hX
  have hR : ({ frames := d', cells := mc', slots := ms', locals := 31 * d' } : Room).frames + 1 ≤ R.frames ∧ 8 + (My.2.2.1 + 11) + ({ frames := d', cells := mc', slots := ms', locals := 31 * d' } : Room).locals ≤ R.locals := ⟨by show d' + 1 ≤ _; omega, by show 8 + (My.2.2.1 + 11) + 31 * d' ≤ _; omega⟩
  subst hst
  obtain ⟨q1, q2, q3, q4, q5⟩ := hq
  exact z_cont (va_runIN (As := as) (rest := rest) ⟨hx, hb, hml, hown, fun w hw => hts w hw⟩ (show Met l y (.code y My.2.1 My.2.2.1 none :: zT) _ _ _ _ _ _ from by rw [← hret]; exact hC l) ⟨va_cnB (ws' := zT) as.length hts (z_goodIn q2) rfl rfl rfl (hK.2.2.2.2.2.1 _ q1) (hts _ q3) hpar hR, q5, hts _ q4⟩ ⟨z_blind, fun U hU hw => ⟨rfl, z_start hK hW hS hU hw⟩⟩ rfl rfl hL.size rfl (lv_room hwt) hd ⟨Nat.le_trans hk hc, Nat.le_trans hn hs⟩) hS (fun r hh1 sz1 H1 locs1 hp hW1 hS1 => kk r hh1 sz1 hp p l e R s m args below meth c Q hX hf hl hc hs hE H1 locs1 ls hW1 hS1 hL)
end ZCALL
section ZOI
variable {M : zM} {G : zG} {d mc ms k n : Nat} {hh : zH} {sz : Nat} {pc : Nat} {lv : List (Option Value)} {rest : List Value} {Post : Option Value → zH → Nat → Nat → Nat → Prop}
theorem z_objInit {idx b : Nat} (hd : decode M.2.1 pc = .ok (.invokespecial idx, 3)) (hq : Cond.methodLink M.1 idx objectInit ∈ zT ∧ Cond.instanceMethod objectInit ∈ zT ∧ Cond.code objectInit ⟨#[0xb1]⟩ 1 none ∈ zT) (h1 : 1 ≤ d) (hwt : (rest.map fun v => v.category).sum ≤ 8) (kk : zS M G d mc ms k n hh sz (pc + 3) lv rest Post) : zS M G d mc ms k n hh sz pc lv (.ref b :: rest) Post := by
  intro p l e R s m args below meth c Q hX hf hl hc hs hE H locs ls hW hS hL
  obtain ⟨hx, hb, hml, hown, hts, hr, hlk, hin, hK⟩ := id hX
  have hw : 2 * (F0 m pc ls (Value.ref b :: rest)).monitorRoom + (rest.map fun v => v.category).sum ≤ 8 := lv_room hwt
  exact W.objInit hx hb hown (hts _ hq.1) (hts _ hq.2.1) (hts _ hq.2.2) rfl (by rw [hml]; exact hL.size) rfl hd (by omega) (by omega) (kk p l e R s m args below meth c Q hX hf hl hc hs hE H locs ls hW hS hL)
end ZOI
end
section
abbrev MX6_init : zM := (RX6, cX6_init, 1, none, true)
theorem zy_X6_init : (plainName yX6_init.cls && (yX6_init.cls == MX6_init.1) && (!MX6_init.2.2.2.2 || yX6_init.name == "<init>")) = true := by decide +kernel
theorem zp_X6_init : zpar yX6_init 0 := ⟨by decide +kernel, by decide +kernel, by decide +kernel⟩
abbrev MX6_sheet : zM := (RX6, cX6_sheet, 2, some .int, false)
theorem zy_X6_sheet : (plainName yX6_sheet.cls && (yX6_sheet.cls == MX6_sheet.1) && (!MX6_sheet.2.2.2.2 || yX6_sheet.name == "<init>")) = true := by decide +kernel
theorem zp_X6_sheet : zpar yX6_sheet 1 := ⟨by decide +kernel, by decide +kernel, by decide +kernel⟩
abbrev MX6_cut : zM := (RX6, cX6_cut, 6, some .int, false)
theorem zy_X6_cut : (plainName yX6_cut.cls && (yX6_cut.cls == MX6_cut.1) && (!MX6_cut.2.2.2.2 || yX6_cut.name == "<init>")) = true := by decide +kernel
theorem zp_X6_cut : zpar yX6_cut 5 := ⟨by decide +kernel, by decide +kernel, by decide +kernel⟩
abbrev MX6_make : zM := (RX6, cX6_make, 4, some .int, false)
theorem zy_X6_make : (plainName yX6_make.cls && (yX6_make.cls == MX6_make.1) && (!MX6_make.2.2.2.2 || yX6_make.name == "<init>")) = true := by decide +kernel
theorem zp_X6_make : zpar yX6_make 3 := ⟨by decide +kernel, by decide +kernel, by decide +kernel⟩
abbrev MX6_write : zM := (RX6, cX6_write, 6, some .int, false)
theorem zy_X6_write : (plainName yX6_write.cls && (yX6_write.cls == MX6_write.1) && (!MX6_write.2.2.2.2 || yX6_write.name == "<init>")) = true := by decide +kernel
theorem zp_X6_write : zpar yX6_write 4 := ⟨by decide +kernel, by decide +kernel, by decide +kernel⟩
abbrev MX6_place : zM := (RX6, cX6_place, 4, some .int, false)
theorem zy_X6_place : (plainName yX6_place.cls && (yX6_place.cls == MX6_place.1) && (!MX6_place.2.2.2.2 || yX6_place.name == "<init>")) = true := by decide +kernel
theorem zp_X6_place : zpar yX6_place 3 := ⟨by decide +kernel, by decide +kernel, by decide +kernel⟩
abbrev MX6_clear : zM := (RX6, cX6_clear, 2, some .int, false)
theorem zy_X6_clear : (plainName yX6_clear.cls && (yX6_clear.cls == MX6_clear.1) && (!MX6_clear.2.2.2.2 || yX6_clear.name == "<init>")) = true := by decide +kernel
theorem zp_X6_clear : zpar yX6_clear 1 := ⟨by decide +kernel, by decide +kernel, by decide +kernel⟩
abbrev MX6_throwAway : zM := (RX6, cX6_throwAway, 2, some .int, false)
theorem zy_X6_throwAway : (plainName yX6_throwAway.cls && (yX6_throwAway.cls == MX6_throwAway.1) && (!MX6_throwAway.2.2.2.2 || yX6_throwAway.name == "<init>")) = true := by decide +kernel
theorem zp_X6_throwAway : zpar yX6_throwAway 1 := ⟨by decide +kernel, by decide +kernel, by decide +kernel⟩
abbrev MX6_scrap : zM := (RX6, cX6_scrap, 2, some .int, false)
theorem zy_X6_scrap : (plainName yX6_scrap.cls && (yX6_scrap.cls == MX6_scrap.1) && (!MX6_scrap.2.2.2.2 || yX6_scrap.name == "<init>")) = true := by decide +kernel
theorem zp_X6_scrap : zpar yX6_scrap 1 := ⟨by decide +kernel, by decide +kernel, by decide +kernel⟩
abbrev MX6_of : zM := (RX6, cX6_of, 4, some .int, false)
theorem zy_X6_of : (plainName yX6_of.cls && (yX6_of.cls == MX6_of.1) && (!MX6_of.2.2.2.2 || yX6_of.name == "<init>")) = true := by decide +kernel
theorem zp_X6_of : zpar yX6_of 2 := ⟨by decide +kernel, by decide +kernel, by decide +kernel⟩
abbrev MX6_ofSheet : zM := (RX6, cX6_ofSheet, 4, some .int, false)
theorem zy_X6_ofSheet : (plainName yX6_ofSheet.cls && (yX6_ofSheet.cls == MX6_ofSheet.1) && (!MX6_ofSheet.2.2.2.2 || yX6_ofSheet.name == "<init>")) = true := by decide +kernel
theorem zp_X6_ofSheet : zpar yX6_ofSheet 2 := ⟨by decide +kernel, by decide +kernel, by decide +kernel⟩
abbrev MX6_row : zM := (RX6, cX6_row, 4, some .int, false)
theorem zy_X6_row : (plainName yX6_row.cls && (yX6_row.cls == MX6_row.1) && (!MX6_row.2.2.2.2 || yX6_row.name == "<init>")) = true := by decide +kernel
theorem zp_X6_row : zpar yX6_row 2 := ⟨by decide +kernel, by decide +kernel, by decide +kernel⟩
abbrev MX6_pane : zM := (RX6, cX6_pane, 3, some .int, false)
theorem zy_X6_pane : (plainName yX6_pane.cls && (yX6_pane.cls == MX6_pane.1) && (!MX6_pane.2.2.2.2 || yX6_pane.name == "<init>")) = true := by decide +kernel
theorem zp_X6_pane : zpar yX6_pane 2 := ⟨by decide +kernel, by decide +kernel, by decide +kernel⟩
abbrev MX6_shape : zM := (RX6, cX6_shape, 4, some .int, false)
theorem zy_X6_shape : (plainName yX6_shape.cls && (yX6_shape.cls == MX6_shape.1) && (!MX6_shape.2.2.2.2 || yX6_shape.name == "<init>")) = true := by decide +kernel
theorem zp_X6_shape : zpar yX6_shape 3 := ⟨by decide +kernel, by decide +kernel, by decide +kernel⟩
abbrev MX6_count : zM := (RX6, cX6_count, 2, some .int, false)
theorem zy_X6_count : (plainName yX6_count.cls && (yX6_count.cls == MX6_count.1) && (!MX6_count.2.2.2.2 || yX6_count.name == "<init>")) = true := by decide +kernel
theorem zp_X6_count : zpar yX6_count 1 := ⟨by decide +kernel, by decide +kernel, by decide +kernel⟩
abbrev MX6_fit : zM := (RX6, cX6_fit, 7, some .int, false)
theorem zy_X6_fit : (plainName yX6_fit.cls && (yX6_fit.cls == MX6_fit.1) && (!MX6_fit.2.2.2.2 || yX6_fit.name == "<init>")) = true := by decide +kernel
theorem zp_X6_fit : zpar yX6_fit 4 := ⟨by decide +kernel, by decide +kernel, by decide +kernel⟩
abbrev MX6_manyOf : zM := (RX6, cX6_manyOf, 5, some .int, false)
theorem zy_X6_manyOf : (plainName yX6_manyOf.cls && (yX6_manyOf.cls == MX6_manyOf.1) && (!MX6_manyOf.2.2.2.2 || yX6_manyOf.name == "<init>")) = true := by decide +kernel
theorem zp_X6_manyOf : zpar yX6_manyOf 3 := ⟨by decide +kernel, by decide +kernel, by decide +kernel⟩
abbrev MX6_fits : zM := (RX6, cX6_fits, 4, some .int, false)
theorem zy_X6_fits : (plainName yX6_fits.cls && (yX6_fits.cls == MX6_fits.1) && (!MX6_fits.2.2.2.2 || yX6_fits.name == "<init>")) = true := by decide +kernel
theorem zp_X6_fits : zpar yX6_fits 2 := ⟨by decide +kernel, by decide +kernel, by decide +kernel⟩
abbrev MX6_colours : zM := (RX6, cX6_colours, 6, some .int, false)
theorem zy_X6_colours : (plainName yX6_colours.cls && (yX6_colours.cls == MX6_colours.1) && (!MX6_colours.2.2.2.2 || yX6_colours.name == "<init>")) = true := by decide +kernel
theorem zp_X6_colours : zpar yX6_colours 3 := ⟨by decide +kernel, by decide +kernel, by decide +kernel⟩
abbrev MX6_put : zM := (RX6, cX6_put, 3, some .int, false)
theorem zy_X6_put : (plainName yX6_put.cls && (yX6_put.cls == MX6_put.1) && (!MX6_put.2.2.2.2 || yX6_put.name == "<init>")) = true := by decide +kernel
theorem zp_X6_put : zpar yX6_put 1 := ⟨by decide +kernel, by decide +kernel, by decide +kernel⟩
abbrev MX6_wipe : zM := (RX6, cX6_wipe, 2, some .int, false)
theorem zy_X6_wipe : (plainName yX6_wipe.cls && (yX6_wipe.cls == MX6_wipe.1) && (!MX6_wipe.2.2.2.2 || yX6_wipe.name == "<init>")) = true := by decide +kernel
theorem zp_X6_wipe : zpar yX6_wipe 0 := ⟨by decide +kernel, by decide +kernel, by decide +kernel⟩
abbrev MX6_fault : zM := (RX6, cX6_fault, 1, some .int, false)
theorem zy_X6_fault : (plainName yX6_fault.cls && (yX6_fault.cls == MX6_fault.1) && (!MX6_fault.2.2.2.2 || yX6_fault.name == "<init>")) = true := by decide +kernel
theorem zp_X6_fault : zpar yX6_fault 0 := ⟨by decide +kernel, by decide +kernel, by decide +kernel⟩
abbrev MX6_undo : zM := (RX6, cX6_undo, 1, some .int, false)
theorem zy_X6_undo : (plainName yX6_undo.cls && (yX6_undo.cls == MX6_undo.1) && (!MX6_undo.2.2.2.2 || yX6_undo.name == "<init>")) = true := by decide +kernel
theorem zp_X6_undo : zpar yX6_undo 0 := ⟨by decide +kernel, by decide +kernel, by decide +kernel⟩
abbrev MX6_save : zM := (RX6, cX6_save, 3, some .int, false)
theorem zy_X6_save : (plainName yX6_save.cls && (yX6_save.cls == MX6_save.1) && (!MX6_save.2.2.2.2 || yX6_save.name == "<init>")) = true := by decide +kernel
theorem zp_X6_save : zpar yX6_save 1 := ⟨by decide +kernel, by decide +kernel, by decide +kernel⟩
abbrev MX6_restore : zM := (RX6, cX6_restore, 3, some .int, false)
theorem zy_X6_restore : (plainName yX6_restore.cls && (yX6_restore.cls == MX6_restore.1) && (!MX6_restore.2.2.2.2 || yX6_restore.name == "<init>")) = true := by decide +kernel
theorem zp_X6_restore : zpar yX6_restore 1 := ⟨by decide +kernel, by decide +kernel, by decide +kernel⟩
abbrev MX6_newDraft : zM := (RX6, cX6_newDraft, 1, some (.object "WindowLetters$Shop"), false)
theorem zy_X6_newDraft : (plainName yX6_newDraft.cls && (yX6_newDraft.cls == MX6_newDraft.1) && (!MX6_newDraft.2.2.2.2 || yX6_newDraft.name == "<init>")) = true := by decide +kernel
theorem zp_X6_newDraft : zpar yX6_newDraft 0 := ⟨by decide +kernel, by decide +kernel, by decide +kernel⟩
abbrev MX6_settle : zM := (RX6, cX6_settle, 2, some .int, false)
theorem zy_X6_settle : (plainName yX6_settle.cls && (yX6_settle.cls == MX6_settle.1) && (!MX6_settle.2.2.2.2 || yX6_settle.name == "<init>")) = true := by decide +kernel
theorem zp_X6_settle : zpar yX6_settle 1 := ⟨by decide +kernel, by decide +kernel, by decide +kernel⟩
abbrev MX6_isColour : zM := (RX6, cX6_isColour, 1, some .boolean, false)
theorem zy_X6_isColour : (plainName yX6_isColour.cls && (yX6_isColour.cls == MX6_isColour.1) && (!MX6_isColour.2.2.2.2 || yX6_isColour.name == "<init>")) = true := by decide +kernel
theorem zp_X6_isColour : zpar yX6_isColour 1 := ⟨by decide +kernel, by decide +kernel, by decide +kernel⟩
abbrev MX6_isLetter : zM := (RX6, cX6_isLetter, 1, some .boolean, false)
theorem zy_X6_isLetter : (plainName yX6_isLetter.cls && (yX6_isLetter.cls == MX6_isLetter.1) && (!MX6_isLetter.2.2.2.2 || yX6_isLetter.name == "<init>")) = true := by decide +kernel
theorem zp_X6_isLetter : zpar yX6_isLetter 1 := ⟨by decide +kernel, by decide +kernel, by decide +kernel⟩
abbrev MX6_isWay : zM := (RX6, cX6_isWay, 1, some .boolean, false)
theorem zy_X6_isWay : (plainName yX6_isWay.cls && (yX6_isWay.cls == MX6_isWay.1) && (!MX6_isWay.2.2.2.2 || yX6_isWay.name == "<init>")) = true := by decide +kernel
theorem zp_X6_isWay : zpar yX6_isWay 1 := ⟨by decide +kernel, by decide +kernel, by decide +kernel⟩
abbrev MX6_isMirroring : zM := (RX6, cX6_isMirroring, 1, some .boolean, false)
theorem zy_X6_isMirroring : (plainName yX6_isMirroring.cls && (yX6_isMirroring.cls == MX6_isMirroring.1) && (!MX6_isMirroring.2.2.2.2 || yX6_isMirroring.name == "<init>")) = true := by decide +kernel
theorem zp_X6_isMirroring : zpar yX6_isMirroring 1 := ⟨by decide +kernel, by decide +kernel, by decide +kernel⟩
abbrev MX6_isPane : zM := (RX6, cX6_isPane, 1, some .boolean, false)
theorem zy_X6_isPane : (plainName yX6_isPane.cls && (yX6_isPane.cls == MX6_isPane.1) && (!MX6_isPane.2.2.2.2 || yX6_isPane.name == "<init>")) = true := by decide +kernel
theorem zp_X6_isPane : zpar yX6_isPane 1 := ⟨by decide +kernel, by decide +kernel, by decide +kernel⟩
abbrev MX6_isPlace : zM := (RX6, cX6_isPlace, 1, some .boolean, false)
theorem zy_X6_isPlace : (plainName yX6_isPlace.cls && (yX6_isPlace.cls == MX6_isPlace.1) && (!MX6_isPlace.2.2.2.2 || yX6_isPlace.name == "<init>")) = true := by decide +kernel
theorem zp_X6_isPlace : zpar yX6_isPlace 1 := ⟨by decide +kernel, by decide +kernel, by decide +kernel⟩
abbrev MX6_isSlot : zM := (RX6, cX6_isSlot, 1, some .boolean, false)
theorem zy_X6_isSlot : (plainName yX6_isSlot.cls && (yX6_isSlot.cls == MX6_isSlot.1) && (!MX6_isSlot.2.2.2.2 || yX6_isSlot.name == "<init>")) = true := by decide +kernel
theorem zp_X6_isSlot : zpar yX6_isSlot 1 := ⟨by decide +kernel, by decide +kernel, by decide +kernel⟩
abbrev MX6_heightOf : zM := (RX6, cX6_heightOf, 1, some .int, false)
theorem zy_X6_heightOf : (plainName yX6_heightOf.cls && (yX6_heightOf.cls == MX6_heightOf.1) && (!MX6_heightOf.2.2.2.2 || yX6_heightOf.name == "<init>")) = true := by decide +kernel
theorem zp_X6_heightOf : zpar yX6_heightOf 1 := ⟨by decide +kernel, by decide +kernel, by decide +kernel⟩
abbrev MX6_widthOf : zM := (RX6, cX6_widthOf, 1, some .int, false)
theorem zy_X6_widthOf : (plainName yX6_widthOf.cls && (yX6_widthOf.cls == MX6_widthOf.1) && (!MX6_widthOf.2.2.2.2 || yX6_widthOf.name == "<init>")) = true := by decide +kernel
theorem zp_X6_widthOf : zpar yX6_widthOf 1 := ⟨by decide +kernel, by decide +kernel, by decide +kernel⟩
abbrev MX6_mirroringOf : zM := (RX6, cX6_mirroringOf, 1, some .int, false)
theorem zy_X6_mirroringOf : (plainName yX6_mirroringOf.cls && (yX6_mirroringOf.cls == MX6_mirroringOf.1) && (!MX6_mirroringOf.2.2.2.2 || yX6_mirroringOf.name == "<init>")) = true := by decide +kernel
theorem zp_X6_mirroringOf : zpar yX6_mirroringOf 1 := ⟨by decide +kernel, by decide +kernel, by decide +kernel⟩
abbrev MX6_rowIn : zM := (RX6, cX6_rowIn, 1, some .int, false)
theorem zy_X6_rowIn : (plainName yX6_rowIn.cls && (yX6_rowIn.cls == MX6_rowIn.1) && (!MX6_rowIn.2.2.2.2 || yX6_rowIn.name == "<init>")) = true := by decide +kernel
theorem zp_X6_rowIn : zpar yX6_rowIn 1 := ⟨by decide +kernel, by decide +kernel, by decide +kernel⟩
abbrev MX6_columnIn : zM := (RX6, cX6_columnIn, 1, some .int, false)
theorem zy_X6_columnIn : (plainName yX6_columnIn.cls && (yX6_columnIn.cls == MX6_columnIn.1) && (!MX6_columnIn.2.2.2.2 || yX6_columnIn.name == "<init>")) = true := by decide +kernel
theorem zp_X6_columnIn : zpar yX6_columnIn 1 := ⟨by decide +kernel, by decide +kernel, by decide +kernel⟩
abbrev MX6_wayIn : zM := (RX6, cX6_wayIn, 1, some .int, false)
theorem zy_X6_wayIn : (plainName yX6_wayIn.cls && (yX6_wayIn.cls == MX6_wayIn.1) && (!MX6_wayIn.2.2.2.2 || yX6_wayIn.name == "<init>")) = true := by decide +kernel
theorem zp_X6_wayIn : zpar yX6_wayIn 1 := ⟨by decide +kernel, by decide +kernel, by decide +kernel⟩
abbrev MX6_lowestIn : zM := (RX6, cX6_lowestIn, 1, some .int, false)
theorem zy_X6_lowestIn : (plainName yX6_lowestIn.cls && (yX6_lowestIn.cls == MX6_lowestIn.1) && (!MX6_lowestIn.2.2.2.2 || yX6_lowestIn.name == "<init>")) = true := by decide +kernel
theorem zp_X6_lowestIn : zpar yX6_lowestIn 1 := ⟨by decide +kernel, by decide +kernel, by decide +kernel⟩
abbrev MX7_init : zM := (RX7, cX7_init, 2, none, true)
theorem zy_X7_init : (plainName yX7_init.cls && (yX7_init.cls == MX7_init.1) && (!MX7_init.2.2.2.2 || yX7_init.name == "<init>")) = true := by decide +kernel
theorem zp_X7_init : zpar yX7_init 0 := ⟨by decide +kernel, by decide +kernel, by decide +kernel⟩
abbrev MX7_in : zM := (RX7, cX7_in, 3, some .boolean, false)
theorem zy_X7_in : (plainName yX7_in.cls && (yX7_in.cls == MX7_in.1) && (!MX7_in.2.2.2.2 || yX7_in.name == "<init>")) = true := by decide +kernel
theorem zp_X7_in : zpar yX7_in 3 := ⟨by decide +kernel, by decide +kernel, by decide +kernel⟩
abbrev MX7_digits : zM := (RX7, cX7_digits, 1, some .int, false)
theorem zy_X7_digits : (plainName yX7_digits.cls && (yX7_digits.cls == MX7_digits.1) && (!MX7_digits.2.2.2.2 || yX7_digits.name == "<init>")) = true := by decide +kernel
theorem zp_X7_digits : zpar yX7_digits 1 := ⟨by decide +kernel, by decide +kernel, by decide +kernel⟩
abbrev MX7_hasSquare : zM := (RX7, cX7_hasSquare, 6, some .boolean, false)
theorem zy_X7_hasSquare : (plainName yX7_hasSquare.cls && (yX7_hasSquare.cls == MX7_hasSquare.1) && (!MX7_hasSquare.2.2.2.2 || yX7_hasSquare.name == "<init>")) = true := by decide +kernel
theorem zp_X7_hasSquare : zpar yX7_hasSquare 4 := ⟨by decide +kernel, by decide +kernel, by decide +kernel⟩
abbrev MX7_high : zM := (RX7, cX7_high, 1, some .int, false)
theorem zy_X7_high : (plainName yX7_high.cls && (yX7_high.cls == MX7_high.1) && (!MX7_high.2.2.2.2 || yX7_high.name == "<init>")) = true := by decide +kernel
theorem zp_X7_high : zpar yX7_high 1 := ⟨by decide +kernel, by decide +kernel, by decide +kernel⟩
abbrev MX7_wide : zM := (RX7, cX7_wide, 1, some .int, false)
theorem zy_X7_wide : (plainName yX7_wide.cls && (yX7_wide.cls == MX7_wide.1) && (!MX7_wide.2.2.2.2 || yX7_wide.name == "<init>")) = true := by decide +kernel
theorem zp_X7_wide : zpar yX7_wide 1 := ⟨by decide +kernel, by decide +kernel, by decide +kernel⟩
abbrev MX7_drawn : zM := (RX7, cX7_drawn, 8, some .int, false)
theorem zy_X7_drawn : (plainName yX7_drawn.cls && (yX7_drawn.cls == MX7_drawn.1) && (!MX7_drawn.2.2.2.2 || yX7_drawn.name == "<init>")) = true := by decide +kernel
theorem zp_X7_drawn : zpar yX7_drawn 3 := ⟨by decide +kernel, by decide +kernel, by decide +kernel⟩
abbrev MX7_shapeOf : zM := (RX7, cX7_shapeOf, 4, some .int, false)
theorem zy_X7_shapeOf : (plainName yX7_shapeOf.cls && (yX7_shapeOf.cls == MX7_shapeOf.1) && (!MX7_shapeOf.2.2.2.2 || yX7_shapeOf.name == "<init>")) = true := by decide +kernel
theorem zp_X7_shapeOf : zpar yX7_shapeOf 3 := ⟨by decide +kernel, by decide +kernel, by decide +kernel⟩
abbrev MX7_bits : zM := (RX7, cX7_bits, 3, some .int, false)
theorem zy_X7_bits : (plainName yX7_bits.cls && (yX7_bits.cls == MX7_bits.1) && (!MX7_bits.2.2.2.2 || yX7_bits.name == "<init>")) = true := by decide +kernel
theorem zp_X7_bits : zpar yX7_bits 1 := ⟨by decide +kernel, by decide +kernel, by decide +kernel⟩
abbrev MX7_squaresOf : zM := (RX7, cX7_squaresOf, 4, some .int, false)
theorem zy_X7_squaresOf : (plainName yX7_squaresOf.cls && (yX7_squaresOf.cls == MX7_squaresOf.1) && (!MX7_squaresOf.2.2.2.2 || yX7_squaresOf.name == "<init>")) = true := by decide +kernel
theorem zp_X7_squaresOf : zpar yX7_squaresOf 1 := ⟨by decide +kernel, by decide +kernel, by decide +kernel⟩
abbrev MX7_isLetter : zM := (RX7, cX7_isLetter, 1, some .boolean, false)
theorem zy_X7_isLetter : (plainName yX7_isLetter.cls && (yX7_isLetter.cls == MX7_isLetter.1) && (!MX7_isLetter.2.2.2.2 || yX7_isLetter.name == "<init>")) = true := by decide +kernel
theorem zp_X7_isLetter : zpar yX7_isLetter 1 := ⟨by decide +kernel, by decide +kernel, by decide +kernel⟩
abbrev MX7_isSheet : zM := (RX7, cX7_isSheet, 2, some .boolean, false)
theorem zy_X7_isSheet : (plainName yX7_isSheet.cls && (yX7_isSheet.cls == MX7_isSheet.1) && (!MX7_isSheet.2.2.2.2 || yX7_isSheet.name == "<init>")) = true := by decide +kernel
theorem zp_X7_isSheet : zpar yX7_isSheet 1 := ⟨by decide +kernel, by decide +kernel, by decide +kernel⟩
abbrev MX7_isPiece : zM := (RX7, cX7_isPiece, 2, some .boolean, false)
theorem zy_X7_isPiece : (plainName yX7_isPiece.cls && (yX7_isPiece.cls == MX7_isPiece.1) && (!MX7_isPiece.2.2.2.2 || yX7_isPiece.name == "<init>")) = true := by decide +kernel
theorem zp_X7_isPiece : zpar yX7_isPiece 1 := ⟨by decide +kernel, by decide +kernel, by decide +kernel⟩
abbrev MX7_isSpot : zM := (RX7, cX7_isSpot, 2, some .boolean, false)
theorem zy_X7_isSpot : (plainName yX7_isSpot.cls && (yX7_isSpot.cls == MX7_isSpot.1) && (!MX7_isSpot.2.2.2.2 || yX7_isSpot.name == "<init>")) = true := by decide +kernel
theorem zp_X7_isSpot : zpar yX7_isSpot 2 := ⟨by decide +kernel, by decide +kernel, by decide +kernel⟩
abbrev MX7_ofOne : zM := (RX7, cX7_ofOne, 2, some .int, false)
theorem zy_X7_ofOne : (plainName yX7_ofOne.cls && (yX7_ofOne.cls == MX7_ofOne.1) && (!MX7_ofOne.2.2.2.2 || yX7_ofOne.name == "<init>")) = true := by decide +kernel
theorem zp_X7_ofOne : zpar yX7_ofOne 2 := ⟨by decide +kernel, by decide +kernel, by decide +kernel⟩
abbrev MX7_at : zM := (RX7, cX7_at, 2, some .int, false)
theorem zy_X7_at : (plainName yX7_at.cls && (yX7_at.cls == MX7_at.1) && (!MX7_at.2.2.2.2 || yX7_at.name == "<init>")) = true := by decide +kernel
theorem zp_X7_at : zpar yX7_at 2 := ⟨by decide +kernel, by decide +kernel, by decide +kernel⟩
abbrev MX7_canCut : zM := (RX7, cX7_canCut, 8, some .boolean, false)
theorem zy_X7_canCut : (plainName yX7_canCut.cls && (yX7_canCut.cls == MX7_canCut.1) && (!MX7_canCut.2.2.2.2 || yX7_canCut.name == "<init>")) = true := by decide +kernel
theorem zp_X7_canCut : zpar yX7_canCut 5 := ⟨by decide +kernel, by decide +kernel, by decide +kernel⟩
abbrev MX7_cutsOut : zM := (RX7, cX7_cutsOut, 7, none, false)
theorem zy_X7_cutsOut : (plainName yX7_cutsOut.cls && (yX7_cutsOut.cls == MX7_cutsOut.1) && (!MX7_cutsOut.2.2.2.2 || yX7_cutsOut.name == "<init>")) = true := by decide +kernel
theorem zp_X7_cutsOut : zpar yX7_cutsOut 5 := ⟨by decide +kernel, by decide +kernel, by decide +kernel⟩
abbrev MX7_findsFit : zM := (RX7, cX7_findsFit, 8, some .boolean, false)
theorem zy_X7_findsFit : (plainName yX7_findsFit.cls && (yX7_findsFit.cls == MX7_findsFit.1) && (!MX7_findsFit.2.2.2.2 || yX7_findsFit.name == "<init>")) = true := by decide +kernel
theorem zp_X7_findsFit : zpar yX7_findsFit 3 := ⟨by decide +kernel, by decide +kernel, by decide +kernel⟩
abbrev MX7_sheetFor : zM := (RX7, cX7_sheetFor, 5, some .int, false)
theorem zy_X7_sheetFor : (plainName yX7_sheetFor.cls && (yX7_sheetFor.cls == MX7_sheetFor.1) && (!MX7_sheetFor.2.2.2.2 || yX7_sheetFor.name == "<init>")) = true := by decide +kernel
theorem zp_X7_sheetFor : zpar yX7_sheetFor 3 := ⟨by decide +kernel, by decide +kernel, by decide +kernel⟩
abbrev MX7_uncut : zM := (RX7, cX7_uncut, 4, some .int, false)
theorem zy_X7_uncut : (plainName yX7_uncut.cls && (yX7_uncut.cls == MX7_uncut.1) && (!MX7_uncut.2.2.2.2 || yX7_uncut.name == "<init>")) = true := by decide +kernel
theorem zp_X7_uncut : zpar yX7_uncut 1 := ⟨by decide +kernel, by decide +kernel, by decide +kernel⟩
abbrev MX7_newPiece : zM := (RX7, cX7_newPiece, 7, some .int, false)
theorem zy_X7_newPiece : (plainName yX7_newPiece.cls && (yX7_newPiece.cls == MX7_newPiece.1) && (!MX7_newPiece.2.2.2.2 || yX7_newPiece.name == "<init>")) = true := by decide +kernel
theorem zp_X7_newPiece : zpar yX7_newPiece 5 := ⟨by decide +kernel, by decide +kernel, by decide +kernel⟩
abbrev MX7_looseOne : zM := (RX7, cX7_looseOne, 7, some .int, false)
theorem zy_X7_looseOne : (plainName yX7_looseOne.cls && (yX7_looseOne.cls == MX7_looseOne.1) && (!MX7_looseOne.2.2.2.2 || yX7_looseOne.name == "<init>")) = true := by decide +kernel
theorem zp_X7_looseOne : zpar yX7_looseOne 3 := ⟨by decide +kernel, by decide +kernel, by decide +kernel⟩
abbrev MX7_pieceAt : zM := (RX7, cX7_pieceAt, 5, some .int, false)
theorem zy_X7_pieceAt : (plainName yX7_pieceAt.cls && (yX7_pieceAt.cls == MX7_pieceAt.1) && (!MX7_pieceAt.2.2.2.2 || yX7_pieceAt.name == "<init>")) = true := by decide +kernel
theorem zp_X7_pieceAt : zpar yX7_pieceAt 2 := ⟨by decide +kernel, by decide +kernel, by decide +kernel⟩
abbrev MX7_inPane : zM := (RX7, cX7_inPane, 4, some .int, false)
theorem zy_X7_inPane : (plainName yX7_inPane.cls && (yX7_inPane.cls == MX7_inPane.1) && (!MX7_inPane.2.2.2.2 || yX7_inPane.name == "<init>")) = true := by decide +kernel
theorem zp_X7_inPane : zpar yX7_inPane 1 := ⟨by decide +kernel, by decide +kernel, by decide +kernel⟩
abbrev MX7_puts : zM := (RX7, cX7_puts, 4, none, false)
theorem zy_X7_puts : (plainName yX7_puts.cls && (yX7_puts.cls == MX7_puts.1) && (!MX7_puts.2.2.2.2 || yX7_puts.name == "<init>")) = true := by decide +kernel
theorem zp_X7_puts : zpar yX7_puts 3 := ⟨by decide +kernel, by decide +kernel, by decide +kernel⟩
abbrev MX7_pieceFor : zM := (RX7, cX7_pieceFor, 6, some .int, false)
theorem zy_X7_pieceFor : (plainName yX7_pieceFor.cls && (yX7_pieceFor.cls == MX7_pieceFor.1) && (!MX7_pieceFor.2.2.2.2 || yX7_pieceFor.name == "<init>")) = true := by decide +kernel
theorem zp_X7_pieceFor : zpar yX7_pieceFor 3 := ⟨by decide +kernel, by decide +kernel, by decide +kernel⟩
abbrev MX7_letterOf : zM := (RX7, cX7_letterOf, 1, some .int, false)
theorem zy_X7_letterOf : (plainName yX7_letterOf.cls && (yX7_letterOf.cls == MX7_letterOf.1) && (!MX7_letterOf.2.2.2.2 || yX7_letterOf.name == "<init>")) = true := by decide +kernel
theorem zp_X7_letterOf : zpar yX7_letterOf 1 := ⟨by decide +kernel, by decide +kernel, by decide +kernel⟩
abbrev MX7_writes : zM := (RX7, cX7_writes, 9, some .boolean, false)
theorem zy_X7_writes : (plainName yX7_writes.cls && (yX7_writes.cls == MX7_writes.1) && (!MX7_writes.2.2.2.2 || yX7_writes.name == "<init>")) = true := by decide +kernel
theorem zp_X7_writes : zpar yX7_writes 4 := ⟨by decide +kernel, by decide +kernel, by decide +kernel⟩
abbrev MX7_record : zM := (RX7, cX7_record, 2, none, false)
theorem zy_X7_record : (plainName yX7_record.cls && (yX7_record.cls == MX7_record.1) && (!MX7_record.2.2.2.2 || yX7_record.name == "<init>")) = true := by decide +kernel
theorem zp_X7_record : zpar yX7_record 0 := ⟨by decide +kernel, by decide +kernel, by decide +kernel⟩
abbrev MX7_putAside : zM := (RX7, cX7_putAside, 2, none, false)
theorem zy_X7_putAside : (plainName yX7_putAside.cls && (yX7_putAside.cls == MX7_putAside.1) && (!MX7_putAside.2.2.2.2 || yX7_putAside.name == "<init>")) = true := by decide +kernel
theorem zp_X7_putAside : zpar yX7_putAside 0 := ⟨by decide +kernel, by decide +kernel, by decide +kernel⟩
abbrev MX7_putBack : zM := (RX7, cX7_putBack, 2, none, false)
theorem zy_X7_putBack : (plainName yX7_putBack.cls && (yX7_putBack.cls == MX7_putBack.1) && (!MX7_putBack.2.2.2.2 || yX7_putBack.name == "<init>")) = true := by decide +kernel
theorem zp_X7_putBack : zpar yX7_putBack 0 := ⟨by decide +kernel, by decide +kernel, by decide +kernel⟩
abbrev MX7_isColour : zM := (RX7, cX7_isColour, 1, some .boolean, false)
theorem zy_X7_isColour : (plainName yX7_isColour.cls && (yX7_isColour.cls == MX7_isColour.1) && (!MX7_isColour.2.2.2.2 || yX7_isColour.name == "<init>")) = true := by decide +kernel
theorem zp_X7_isColour : zpar yX7_isColour 1 := ⟨by decide +kernel, by decide +kernel, by decide +kernel⟩
abbrev MX7_sheet : zM := (RX7, cX7_sheet, 4, some .int, false)
theorem zy_X7_sheet : (plainName yX7_sheet.cls && (yX7_sheet.cls == MX7_sheet.1) && (!MX7_sheet.2.2.2.2 || yX7_sheet.name == "<init>")) = true := by decide +kernel
theorem zp_X7_sheet : zpar yX7_sheet 1 := ⟨by decide +kernel, by decide +kernel, by decide +kernel⟩
abbrev MX7_cut : zM := (RX7, cX7_cut, 6, some .int, false)
theorem zy_X7_cut : (plainName yX7_cut.cls && (yX7_cut.cls == MX7_cut.1) && (!MX7_cut.2.2.2.2 || yX7_cut.name == "<init>")) = true := by decide +kernel
theorem zp_X7_cut : zpar yX7_cut 5 := ⟨by decide +kernel, by decide +kernel, by decide +kernel⟩
abbrev MX7_make : zM := (RX7, cX7_make, 5, some .int, false)
theorem zy_X7_make : (plainName yX7_make.cls && (yX7_make.cls == MX7_make.1) && (!MX7_make.2.2.2.2 || yX7_make.name == "<init>")) = true := by decide +kernel
theorem zp_X7_make : zpar yX7_make 3 := ⟨by decide +kernel, by decide +kernel, by decide +kernel⟩
abbrev MX7_canBeWritten : zM := (RX7, cX7_canBeWritten, 6, some .boolean, false)
theorem zy_X7_canBeWritten : (plainName yX7_canBeWritten.cls && (yX7_canBeWritten.cls == MX7_canBeWritten.1) && (!MX7_canBeWritten.2.2.2.2 || yX7_canBeWritten.name == "<init>")) = true := by decide +kernel
theorem zp_X7_canBeWritten : zpar yX7_canBeWritten 4 := ⟨by decide +kernel, by decide +kernel, by decide +kernel⟩
abbrev MX7_write : zM := (RX7, cX7_write, 7, some .int, false)
theorem zy_X7_write : (plainName yX7_write.cls && (yX7_write.cls == MX7_write.1) && (!MX7_write.2.2.2.2 || yX7_write.name == "<init>")) = true := by decide +kernel
theorem zp_X7_write : zpar yX7_write 4 := ⟨by decide +kernel, by decide +kernel, by decide +kernel⟩
abbrev MX7_isLoose : zM := (RX7, cX7_isLoose, 2, some .boolean, false)
theorem zy_X7_isLoose : (plainName yX7_isLoose.cls && (yX7_isLoose.cls == MX7_isLoose.1) && (!MX7_isLoose.2.2.2.2 || yX7_isLoose.name == "<init>")) = true := by decide +kernel
theorem zp_X7_isLoose : zpar yX7_isLoose 1 := ⟨by decide +kernel, by decide +kernel, by decide +kernel⟩
abbrev MX7_place : zM := (RX7, cX7_place, 4, some .int, false)
theorem zy_X7_place : (plainName yX7_place.cls && (yX7_place.cls == MX7_place.1) && (!MX7_place.2.2.2.2 || yX7_place.name == "<init>")) = true := by decide +kernel
theorem zp_X7_place : zpar yX7_place 3 := ⟨by decide +kernel, by decide +kernel, by decide +kernel⟩
abbrev MX7_clear : zM := (RX7, cX7_clear, 5, some .int, false)
theorem zy_X7_clear : (plainName yX7_clear.cls && (yX7_clear.cls == MX7_clear.1) && (!MX7_clear.2.2.2.2 || yX7_clear.name == "<init>")) = true := by decide +kernel
theorem zp_X7_clear : zpar yX7_clear 1 := ⟨by decide +kernel, by decide +kernel, by decide +kernel⟩
abbrev MX7_throwAway : zM := (RX7, cX7_throwAway, 2, some .int, false)
theorem zy_X7_throwAway : (plainName yX7_throwAway.cls && (yX7_throwAway.cls == MX7_throwAway.1) && (!MX7_throwAway.2.2.2.2 || yX7_throwAway.name == "<init>")) = true := by decide +kernel
theorem zp_X7_throwAway : zpar yX7_throwAway 1 := ⟨by decide +kernel, by decide +kernel, by decide +kernel⟩
abbrev MX7_scrap : zM := (RX7, cX7_scrap, 2, some .int, false)
theorem zy_X7_scrap : (plainName yX7_scrap.cls && (yX7_scrap.cls == MX7_scrap.1) && (!MX7_scrap.2.2.2.2 || yX7_scrap.name == "<init>")) = true := by decide +kernel
theorem zp_X7_scrap : zpar yX7_scrap 1 := ⟨by decide +kernel, by decide +kernel, by decide +kernel⟩
abbrev MX7_of : zM := (RX7, cX7_of, 3, some .int, false)
theorem zy_X7_of : (plainName yX7_of.cls && (yX7_of.cls == MX7_of.1) && (!MX7_of.2.2.2.2 || yX7_of.name == "<init>")) = true := by decide +kernel
theorem zp_X7_of : zpar yX7_of 2 := ⟨by decide +kernel, by decide +kernel, by decide +kernel⟩
abbrev MX7_piecesFrom : zM := (RX7, cX7_piecesFrom, 4, some .int, false)
theorem zy_X7_piecesFrom : (plainName yX7_piecesFrom.cls && (yX7_piecesFrom.cls == MX7_piecesFrom.1) && (!MX7_piecesFrom.2.2.2.2 || yX7_piecesFrom.name == "<init>")) = true := by decide +kernel
theorem zp_X7_piecesFrom : zpar yX7_piecesFrom 1 := ⟨by decide +kernel, by decide +kernel, by decide +kernel⟩
abbrev MX7_lettersThatFit : zM := (RX7, cX7_lettersThatFit, 4, some .int, false)
theorem zy_X7_lettersThatFit : (plainName yX7_lettersThatFit.cls && (yX7_lettersThatFit.cls == MX7_lettersThatFit.1) && (!MX7_lettersThatFit.2.2.2.2 || yX7_lettersThatFit.name == "<init>")) = true := by decide +kernel
theorem zp_X7_lettersThatFit : zpar yX7_lettersThatFit 1 := ⟨by decide +kernel, by decide +kernel, by decide +kernel⟩
abbrev MX7_ofSheet : zM := (RX7, cX7_ofSheet, 3, some .int, false)
theorem zy_X7_ofSheet : (plainName yX7_ofSheet.cls && (yX7_ofSheet.cls == MX7_ofSheet.1) && (!MX7_ofSheet.2.2.2.2 || yX7_ofSheet.name == "<init>")) = true := by decide +kernel
theorem zp_X7_ofSheet : zpar yX7_ofSheet 2 := ⟨by decide +kernel, by decide +kernel, by decide +kernel⟩
abbrev MX7_row : zM := (RX7, cX7_row, 3, some .int, false)
theorem zy_X7_row : (plainName yX7_row.cls && (yX7_row.cls == MX7_row.1) && (!MX7_row.2.2.2.2 || yX7_row.name == "<init>")) = true := by decide +kernel
theorem zp_X7_row : zpar yX7_row 2 := ⟨by decide +kernel, by decide +kernel, by decide +kernel⟩
abbrev MX7_pane : zM := (RX7, cX7_pane, 3, some .int, false)
theorem zy_X7_pane : (plainName yX7_pane.cls && (yX7_pane.cls == MX7_pane.1) && (!MX7_pane.2.2.2.2 || yX7_pane.name == "<init>")) = true := by decide +kernel
theorem zp_X7_pane : zpar yX7_pane 2 := ⟨by decide +kernel, by decide +kernel, by decide +kernel⟩
abbrev MX7_shape : zM := (RX7, cX7_shape, 4, some .int, false)
theorem zy_X7_shape : (plainName yX7_shape.cls && (yX7_shape.cls == MX7_shape.1) && (!MX7_shape.2.2.2.2 || yX7_shape.name == "<init>")) = true := by decide +kernel
theorem zp_X7_shape : zpar yX7_shape 3 := ⟨by decide +kernel, by decide +kernel, by decide +kernel⟩
abbrev MX7_piecesThatAre : zM := (RX7, cX7_piecesThatAre, 4, some .int, false)
theorem zy_X7_piecesThatAre : (plainName yX7_piecesThatAre.cls && (yX7_piecesThatAre.cls == MX7_piecesThatAre.1) && (!MX7_piecesThatAre.2.2.2.2 || yX7_piecesThatAre.name == "<init>")) = true := by decide +kernel
theorem zp_X7_piecesThatAre : zpar yX7_piecesThatAre 1 := ⟨by decide +kernel, by decide +kernel, by decide +kernel⟩
abbrev MX7_squaresOfPieces : zM := (RX7, cX7_squaresOfPieces, 3, some .int, false)
theorem zy_X7_squaresOfPieces : (plainName yX7_squaresOfPieces.cls && (yX7_squaresOfPieces.cls == MX7_squaresOfPieces.1) && (!MX7_squaresOfPieces.2.2.2.2 || yX7_squaresOfPieces.name == "<init>")) = true := by decide +kernel
theorem zp_X7_squaresOfPieces : zpar yX7_squaresOfPieces 0 := ⟨by decide +kernel, by decide +kernel, by decide +kernel⟩
abbrev MX7_squaresOfSheets : zM := (RX7, cX7_squaresOfSheets, 3, some .int, false)
theorem zy_X7_squaresOfSheets : (plainName yX7_squaresOfSheets.cls && (yX7_squaresOfSheets.cls == MX7_squaresOfSheets.1) && (!MX7_squaresOfSheets.2.2.2.2 || yX7_squaresOfSheets.name == "<init>")) = true := by decide +kernel
theorem zp_X7_squaresOfSheets : zpar yX7_squaresOfSheets 0 := ⟨by decide +kernel, by decide +kernel, by decide +kernel⟩
abbrev MX7_count : zM := (RX7, cX7_count, 2, some .int, false)
theorem zy_X7_count : (plainName yX7_count.cls && (yX7_count.cls == MX7_count.1) && (!MX7_count.2.2.2.2 || yX7_count.name == "<init>")) = true := by decide +kernel
theorem zp_X7_count : zpar yX7_count 1 := ⟨by decide +kernel, by decide +kernel, by decide +kernel⟩
abbrev MX7_fit : zM := (RX7, cX7_fit, 5, some .int, false)
theorem zy_X7_fit : (plainName yX7_fit.cls && (yX7_fit.cls == MX7_fit.1) && (!MX7_fit.2.2.2.2 || yX7_fit.name == "<init>")) = true := by decide +kernel
theorem zp_X7_fit : zpar yX7_fit 4 := ⟨by decide +kernel, by decide +kernel, by decide +kernel⟩
abbrev MX7_manyOf : zM := (RX7, cX7_manyOf, 5, some .int, false)
theorem zy_X7_manyOf : (plainName yX7_manyOf.cls && (yX7_manyOf.cls == MX7_manyOf.1) && (!MX7_manyOf.2.2.2.2 || yX7_manyOf.name == "<init>")) = true := by decide +kernel
theorem zp_X7_manyOf : zpar yX7_manyOf 3 := ⟨by decide +kernel, by decide +kernel, by decide +kernel⟩
abbrev MX7_fits : zM := (RX7, cX7_fits, 5, some .int, false)
theorem zy_X7_fits : (plainName yX7_fits.cls && (yX7_fits.cls == MX7_fits.1) && (!MX7_fits.2.2.2.2 || yX7_fits.name == "<init>")) = true := by decide +kernel
theorem zp_X7_fits : zpar yX7_fits 2 := ⟨by decide +kernel, by decide +kernel, by decide +kernel⟩
abbrev MX7_colours : zM := (RX7, cX7_colours, 6, some .int, false)
theorem zy_X7_colours : (plainName yX7_colours.cls && (yX7_colours.cls == MX7_colours.1) && (!MX7_colours.2.2.2.2 || yX7_colours.name == "<init>")) = true := by decide +kernel
theorem zp_X7_colours : zpar yX7_colours 3 := ⟨by decide +kernel, by decide +kernel, by decide +kernel⟩
abbrev MX7_put : zM := (RX7, cX7_put, 8, some .int, false)
theorem zy_X7_put : (plainName yX7_put.cls && (yX7_put.cls == MX7_put.1) && (!MX7_put.2.2.2.2 || yX7_put.name == "<init>")) = true := by decide +kernel
theorem zp_X7_put : zpar yX7_put 1 := ⟨by decide +kernel, by decide +kernel, by decide +kernel⟩
abbrev MX7_wipe : zM := (RX7, cX7_wipe, 2, some .int, false)
theorem zy_X7_wipe : (plainName yX7_wipe.cls && (yX7_wipe.cls == MX7_wipe.1) && (!MX7_wipe.2.2.2.2 || yX7_wipe.name == "<init>")) = true := by decide +kernel
theorem zp_X7_wipe : zpar yX7_wipe 0 := ⟨by decide +kernel, by decide +kernel, by decide +kernel⟩
abbrev MX7_fault : zM := (RX7, cX7_fault, 3, some .int, false)
theorem zy_X7_fault : (plainName yX7_fault.cls && (yX7_fault.cls == MX7_fault.1) && (!MX7_fault.2.2.2.2 || yX7_fault.name == "<init>")) = true := by decide +kernel
theorem zp_X7_fault : zpar yX7_fault 0 := ⟨by decide +kernel, by decide +kernel, by decide +kernel⟩
abbrev MX7_undo : zM := (RX7, cX7_undo, 2, some .int, false)
theorem zy_X7_undo : (plainName yX7_undo.cls && (yX7_undo.cls == MX7_undo.1) && (!MX7_undo.2.2.2.2 || yX7_undo.name == "<init>")) = true := by decide +kernel
theorem zp_X7_undo : zpar yX7_undo 0 := ⟨by decide +kernel, by decide +kernel, by decide +kernel⟩
abbrev MX7_save : zM := (RX7, cX7_save, 3, some .int, false)
theorem zy_X7_save : (plainName yX7_save.cls && (yX7_save.cls == MX7_save.1) && (!MX7_save.2.2.2.2 || yX7_save.name == "<init>")) = true := by decide +kernel
theorem zp_X7_save : zpar yX7_save 1 := ⟨by decide +kernel, by decide +kernel, by decide +kernel⟩
abbrev MX7_restore : zM := (RX7, cX7_restore, 3, some .int, false)
theorem zy_X7_restore : (plainName yX7_restore.cls && (yX7_restore.cls == MX7_restore.1) && (!MX7_restore.2.2.2.2 || yX7_restore.name == "<init>")) = true := by decide +kernel
theorem zp_X7_restore : zpar yX7_restore 1 := ⟨by decide +kernel, by decide +kernel, by decide +kernel⟩
abbrev MX0_init : zM := (RX0, cX0_init, 2, none, true)
theorem zy_X0_init : (plainName yX0_init.cls && (yX0_init.cls == MX0_init.1) && (!MX0_init.2.2.2.2 || yX0_init.name == "<init>")) = true := by decide +kernel
theorem zp_X0_init : zpar yX0_init 1 := ⟨by decide +kernel, by decide +kernel, by decide +kernel⟩
abbrev MX0_record : zM := (RX0, cX0_record, 4, none, false)
theorem zy_X0_record : (plainName yX0_record.cls && (yX0_record.cls == MX0_record.1) && (!MX0_record.2.2.2.2 || yX0_record.name == "<init>")) = true := by decide +kernel
theorem zp_X0_record : zpar yX0_record 1 := ⟨by decide +kernel, by decide +kernel, by decide +kernel⟩
abbrev MX0_takeBack : zM := (RX0, cX0_takeBack, 3, some .boolean, false)
theorem zy_X0_takeBack : (plainName yX0_takeBack.cls && (yX0_takeBack.cls == MX0_takeBack.1) && (!MX0_takeBack.2.2.2.2 || yX0_takeBack.name == "<init>")) = true := by decide +kernel
theorem zp_X0_takeBack : zpar yX0_takeBack 1 := ⟨by decide +kernel, by decide +kernel, by decide +kernel⟩
abbrev MX1_init : zM := (RX1, cX1_init, 1, none, true)
theorem zy_X1_init : (plainName yX1_init.cls && (yX1_init.cls == MX1_init.1) && (!MX1_init.2.2.2.2 || yX1_init.name == "<init>")) = true := by decide +kernel
theorem zp_X1_init : zpar yX1_init 0 := ⟨by decide +kernel, by decide +kernel, by decide +kernel⟩
abbrev MX1_empty : zM := (RX1, cX1_empty, 1, none, false)
theorem zy_X1_empty : (plainName yX1_empty.cls && (yX1_empty.cls == MX1_empty.1) && (!MX1_empty.2.2.2.2 || yX1_empty.name == "<init>")) = true := by decide +kernel
theorem zp_X1_empty : zpar yX1_empty 0 := ⟨by decide +kernel, by decide +kernel, by decide +kernel⟩
abbrev MX1_append : zM := (RX1, cX1_append, 5, some .int, false)
theorem zy_X1_append : (plainName yX1_append.cls && (yX1_append.cls == MX1_append.1) && (!MX1_append.2.2.2.2 || yX1_append.name == "<init>")) = true := by decide +kernel
theorem zp_X1_append : zpar yX1_append 1 := ⟨by decide +kernel, by decide +kernel, by decide +kernel⟩
abbrev MX1_signsIn : zM := (RX1, cX1_signsIn, 4, some .int, false)
theorem zy_X1_signsIn : (plainName yX1_signsIn.cls && (yX1_signsIn.cls == MX1_signsIn.1) && (!MX1_signsIn.2.2.2.2 || yX1_signsIn.name == "<init>")) = true := by decide +kernel
theorem zp_X1_signsIn : zpar yX1_signsIn 1 := ⟨by decide +kernel, by decide +kernel, by decide +kernel⟩
abbrev MX1_codeIn : zM := (RX1, cX1_codeIn, 3, some .int, false)
theorem zy_X1_codeIn : (plainName yX1_codeIn.cls && (yX1_codeIn.cls == MX1_codeIn.1) && (!MX1_codeIn.2.2.2.2 || yX1_codeIn.name == "<init>")) = true := by decide +kernel
theorem zp_X1_codeIn : zpar yX1_codeIn 2 := ⟨by decide +kernel, by decide +kernel, by decide +kernel⟩
abbrev MX1_letterAt : zM := (RX1, cX1_letterAt, 3, some .int, false)
theorem zy_X1_letterAt : (plainName yX1_letterAt.cls && (yX1_letterAt.cls == MX1_letterAt.1) && (!MX1_letterAt.2.2.2.2 || yX1_letterAt.name == "<init>")) = true := by decide +kernel
theorem zp_X1_letterAt : zpar yX1_letterAt 1 := ⟨by decide +kernel, by decide +kernel, by decide +kernel⟩
abbrev MX1_faultIndex : zM := (RX1, cX1_faultIndex, 2, some .int, false)
theorem zy_X1_faultIndex : (plainName yX1_faultIndex.cls && (yX1_faultIndex.cls == MX1_faultIndex.1) && (!MX1_faultIndex.2.2.2.2 || yX1_faultIndex.name == "<init>")) = true := by decide +kernel
theorem zp_X1_faultIndex : zpar yX1_faultIndex 0 := ⟨by decide +kernel, by decide +kernel, by decide +kernel⟩
abbrev MX2_init : zM := (RX2, cX2_init, 1, none, true)
theorem zy_X2_init : (plainName yX2_init.cls && (yX2_init.cls == MX2_init.1) && (!MX2_init.2.2.2.2 || yX2_init.name == "<init>")) = true := by decide +kernel
theorem zp_X2_init : zpar yX2_init 0 := ⟨by decide +kernel, by decide +kernel, by decide +kernel⟩
abbrev MX2_copyFrom : zM := (RX2, cX2_copyFrom, 2, none, false)
theorem zy_X2_copyFrom : (plainName yX2_copyFrom.cls && (yX2_copyFrom.cls == MX2_copyFrom.1) && (!MX2_copyFrom.2.2.2.2 || yX2_copyFrom.name == "<init>")) = true := by decide +kernel
theorem zp_X2_copyFrom : zpar yX2_copyFrom 1 := ⟨by decide +kernel, by decide +kernel, by decide +kernel⟩
abbrev MX2_becomeLoose : zM := (RX2, cX2_becomeLoose, 1, none, false)
theorem zy_X2_becomeLoose : (plainName yX2_becomeLoose.cls && (yX2_becomeLoose.cls == MX2_becomeLoose.1) && (!MX2_becomeLoose.2.2.2.2 || yX2_becomeLoose.name == "<init>")) = true := by decide +kernel
theorem zp_X2_becomeLoose : zpar yX2_becomeLoose 0 := ⟨by decide +kernel, by decide +kernel, by decide +kernel⟩
abbrev MX3_init : zM := (RX3, cX3_init, 4, none, true)
theorem zy_X3_init : (plainName yX3_init.cls && (yX3_init.cls == MX3_init.1) && (!MX3_init.2.2.2.2 || yX3_init.name == "<init>")) = true := by decide +kernel
theorem zp_X3_init : zpar yX3_init 0 := ⟨by decide +kernel, by decide +kernel, by decide +kernel⟩
abbrev MX3_columnsOf : zM := (RX3, cX3_columnsOf, 4, some .int, false)
theorem zy_X3_columnsOf : (plainName yX3_columnsOf.cls && (yX3_columnsOf.cls == MX3_columnsOf.1) && (!MX3_columnsOf.2.2.2.2 || yX3_columnsOf.name == "<init>")) = true := by decide +kernel
theorem zp_X3_columnsOf : zpar yX3_columnsOf 3 := ⟨by decide +kernel, by decide +kernel, by decide +kernel⟩
abbrev MX3_squaresOf : zM := (RX3, cX3_squaresOf, 4, some .int, false)
theorem zy_X3_squaresOf : (plainName yX3_squaresOf.cls && (yX3_squaresOf.cls == MX3_squaresOf.1) && (!MX3_squaresOf.2.2.2.2 || yX3_squaresOf.name == "<init>")) = true := by decide +kernel
theorem zp_X3_squaresOf : zpar yX3_squaresOf 1 := ⟨by decide +kernel, by decide +kernel, by decide +kernel⟩
abbrev MX3_turnedRow : zM := (RX3, cX3_turnedRow, 5, some .int, false)
theorem zy_X3_turnedRow : (plainName yX3_turnedRow.cls && (yX3_turnedRow.cls == MX3_turnedRow.1) && (!MX3_turnedRow.2.2.2.2 || yX3_turnedRow.name == "<init>")) = true := by decide +kernel
theorem zp_X3_turnedRow : zpar yX3_turnedRow 3 := ⟨by decide +kernel, by decide +kernel, by decide +kernel⟩
abbrev MX3_hasSquare : zM := (RX3, cX3_hasSquare, 6, some .boolean, false)
theorem zy_X3_hasSquare : (plainName yX3_hasSquare.cls && (yX3_hasSquare.cls == MX3_hasSquare.1) && (!MX3_hasSquare.2.2.2.2 || yX3_hasSquare.name == "<init>")) = true := by decide +kernel
theorem zp_X3_hasSquare : zpar yX3_hasSquare 4 := ⟨by decide +kernel, by decide +kernel, by decide +kernel⟩
abbrev MX3_uprightHas : zM := (RX3, cX3_uprightHas, 4, some .boolean, false)
theorem zy_X3_uprightHas : (plainName yX3_uprightHas.cls && (yX3_uprightHas.cls == MX3_uprightHas.1) && (!MX3_uprightHas.2.2.2.2 || yX3_uprightHas.name == "<init>")) = true := by decide +kernel
theorem zp_X3_uprightHas : zpar yX3_uprightHas 3 := ⟨by decide +kernel, by decide +kernel, by decide +kernel⟩
abbrev MX4_init : zM := (RX4, cX4_init, 2, none, true)
theorem zy_X4_init : (plainName yX4_init.cls && (yX4_init.cls == MX4_init.1) && (!MX4_init.2.2.2.2 || yX4_init.name == "<init>")) = true := by decide +kernel
theorem zp_X4_init : zpar yX4_init 1 := ⟨by decide +kernel, by decide +kernel, by decide +kernel⟩
abbrev MX4_copyFrom : zM := (RX4, cX4_copyFrom, 3, none, false)
theorem zy_X4_copyFrom : (plainName yX4_copyFrom.cls && (yX4_copyFrom.cls == MX4_copyFrom.1) && (!MX4_copyFrom.2.2.2.2 || yX4_copyFrom.name == "<init>")) = true := by decide +kernel
theorem zp_X4_copyFrom : zpar yX4_copyFrom 1 := ⟨by decide +kernel, by decide +kernel, by decide +kernel⟩
abbrev MX4_canCut : zM := (RX4, cX4_canCut, 5, some .boolean, false)
theorem zy_X4_canCut : (plainName yX4_canCut.cls && (yX4_canCut.cls == MX4_canCut.1) && (!MX4_canCut.2.2.2.2 || yX4_canCut.name == "<init>")) = true := by decide +kernel
theorem zp_X4_canCut : zpar yX4_canCut 4 := ⟨by decide +kernel, by decide +kernel, by decide +kernel⟩
abbrev MX4_freeColumns : zM := (RX4, cX4_freeColumns, 8, some .int, false)
theorem zy_X4_freeColumns : (plainName yX4_freeColumns.cls && (yX4_freeColumns.cls == MX4_freeColumns.1) && (!MX4_freeColumns.2.2.2.2 || yX4_freeColumns.name == "<init>")) = true := by decide +kernel
theorem zp_X4_freeColumns : zpar yX4_freeColumns 3 := ⟨by decide +kernel, by decide +kernel, by decide +kernel⟩
abbrev MX4_cutOut : zM := (RX4, cX4_cutOut, 6, none, false)
theorem zy_X4_cutOut : (plainName yX4_cutOut.cls && (yX4_cutOut.cls == MX4_cutOut.1) && (!MX4_cutOut.2.2.2.2 || yX4_cutOut.name == "<init>")) = true := by decide +kernel
theorem zp_X4_cutOut : zpar yX4_cutOut 4 := ⟨by decide +kernel, by decide +kernel, by decide +kernel⟩
abbrev MX4_isOnSheet : zM := (RX4, cX4_isOnSheet, 3, some .boolean, false)
theorem zy_X4_isOnSheet : (plainName yX4_isOnSheet.cls && (yX4_isOnSheet.cls == MX4_isOnSheet.1) && (!MX4_isOnSheet.2.2.2.2 || yX4_isOnSheet.name == "<init>")) = true := by decide +kernel
theorem zp_X4_isOnSheet : zpar yX4_isOnSheet 3 := ⟨by decide +kernel, by decide +kernel, by decide +kernel⟩
abbrev MX4_firstFit : zM := (RX4, cX4_firstFit, 9, some .int, false)
theorem zy_X4_firstFit : (plainName yX4_firstFit.cls && (yX4_firstFit.cls == MX4_firstFit.1) && (!MX4_firstFit.2.2.2.2 || yX4_firstFit.name == "<init>")) = true := by decide +kernel
theorem zp_X4_firstFit : zpar yX4_firstFit 2 := ⟨by decide +kernel, by decide +kernel, by decide +kernel⟩
abbrev MX4_cutUp : zM := (RX4, cX4_cutUp, 5, some .int, false)
theorem zy_X4_cutUp : (plainName yX4_cutUp.cls && (yX4_cutUp.cls == MX4_cutUp.1) && (!MX4_cutUp.2.2.2.2 || yX4_cutUp.name == "<init>")) = true := by decide +kernel
theorem zp_X4_cutUp : zpar yX4_cutUp 2 := ⟨by decide +kernel, by decide +kernel, by decide +kernel⟩
abbrev MX4_allFits : zM := (RX4, cX4_allFits, 5, some .int, false)
theorem zy_X4_allFits : (plainName yX4_allFits.cls && (yX4_allFits.cls == MX4_allFits.1) && (!MX4_allFits.2.2.2.2 || yX4_allFits.name == "<init>")) = true := by decide +kernel
theorem zp_X4_allFits : zpar yX4_allFits 1 := ⟨by decide +kernel, by decide +kernel, by decide +kernel⟩
abbrev MX4_lettersThatFit : zM := (RX4, cX4_lettersThatFit, 3, some .int, false)
theorem zy_X4_lettersThatFit : (plainName yX4_lettersThatFit.cls && (yX4_lettersThatFit.cls == MX4_lettersThatFit.1) && (!MX4_lettersThatFit.2.2.2.2 || yX4_lettersThatFit.name == "<init>")) = true := by decide +kernel
theorem zp_X4_lettersThatFit : zpar yX4_lettersThatFit 0 := ⟨by decide +kernel, by decide +kernel, by decide +kernel⟩
abbrev MX4_squaresLeft : zM := (RX4, cX4_squaresLeft, 3, some .int, false)
theorem zy_X4_squaresLeft : (plainName yX4_squaresLeft.cls && (yX4_squaresLeft.cls == MX4_squaresLeft.1) && (!MX4_squaresLeft.2.2.2.2 || yX4_squaresLeft.name == "<init>")) = true := by decide +kernel
theorem zp_X4_squaresLeft : zpar yX4_squaresLeft 0 := ⟨by decide +kernel, by decide +kernel, by decide +kernel⟩
abbrev MX5_init : zM := (RX5, cX5_init, 3, none, true)
theorem zy_X5_init : (plainName yX5_init.cls && (yX5_init.cls == MX5_init.1) && (!MX5_init.2.2.2.2 || yX5_init.name == "<init>")) = true := by decide +kernel
theorem zp_X5_init : zpar yX5_init 1 := ⟨by decide +kernel, by decide +kernel, by decide +kernel⟩
abbrev MX5_copyFrom : zM := (RX5, cX5_copyFrom, 3, none, false)
theorem zy_X5_copyFrom : (plainName yX5_copyFrom.cls && (yX5_copyFrom.cls == MX5_copyFrom.1) && (!MX5_copyFrom.2.2.2.2 || yX5_copyFrom.name == "<init>")) = true := by decide +kernel
theorem zp_X5_copyFrom : zpar yX5_copyFrom 1 := ⟨by decide +kernel, by decide +kernel, by decide +kernel⟩
abbrev MX5_sheetAt : zM := (RX5, cX5_sheetAt, 2, some (.object "WindowLetters$Sheet"), false)
theorem zy_X5_sheetAt : (plainName yX5_sheetAt.cls && (yX5_sheetAt.cls == MX5_sheetAt.1) && (!MX5_sheetAt.2.2.2.2 || yX5_sheetAt.name == "<init>")) = true := by decide +kernel
theorem zp_X5_sheetAt : zpar yX5_sheetAt 1 := ⟨by decide +kernel, by decide +kernel, by decide +kernel⟩
abbrev MX5_pieceAt : zM := (RX5, cX5_pieceAt, 2, some (.object "WindowLetters$Piece"), false)
theorem zy_X5_pieceAt : (plainName yX5_pieceAt.cls && (yX5_pieceAt.cls == MX5_pieceAt.1) && (!MX5_pieceAt.2.2.2.2 || yX5_pieceAt.name == "<init>")) = true := by decide +kernel
theorem zp_X5_pieceAt : zpar yX5_pieceAt 1 := ⟨by decide +kernel, by decide +kernel, by decide +kernel⟩
abbrev MX5_addSheet : zM := (RX5, cX5_addSheet, 3, some .int, false)
theorem zy_X5_addSheet : (plainName yX5_addSheet.cls && (yX5_addSheet.cls == MX5_addSheet.1) && (!MX5_addSheet.2.2.2.2 || yX5_addSheet.name == "<init>")) = true := by decide +kernel
theorem zp_X5_addSheet : zpar yX5_addSheet 1 := ⟨by decide +kernel, by decide +kernel, by decide +kernel⟩
abbrev MX5_cutPiece : zM := (RX5, cX5_cutPiece, 7, some .int, false)
theorem zy_X5_cutPiece : (plainName yX5_cutPiece.cls && (yX5_cutPiece.cls == MX5_cutPiece.1) && (!MX5_cutPiece.2.2.2.2 || yX5_cutPiece.name == "<init>")) = true := by decide +kernel
theorem zp_X5_cutPiece : zpar yX5_cutPiece 5 := ⟨by decide +kernel, by decide +kernel, by decide +kernel⟩
abbrev MX5_addPiece : zM := (RX5, cX5_addPiece, 9, some .int, false)
theorem zy_X5_addPiece : (plainName yX5_addPiece.cls && (yX5_addPiece.cls == MX5_addPiece.1) && (!MX5_addPiece.2.2.2.2 || yX5_addPiece.name == "<init>")) = true := by decide +kernel
theorem zp_X5_addPiece : zpar yX5_addPiece 5 := ⟨by decide +kernel, by decide +kernel, by decide +kernel⟩
abbrev MX5_makePiece : zM := (RX5, cX5_makePiece, 7, some .int, false)
theorem zy_X5_makePiece : (plainName yX5_makePiece.cls && (yX5_makePiece.cls == MX5_makePiece.1) && (!MX5_makePiece.2.2.2.2 || yX5_makePiece.name == "<init>")) = true := by decide +kernel
theorem zp_X5_makePiece : zpar yX5_makePiece 3 := ⟨by decide +kernel, by decide +kernel, by decide +kernel⟩
abbrev MX5_writeName : zM := (RX5, cX5_writeName, 10, some .int, false)
theorem zy_X5_writeName : (plainName yX5_writeName.cls && (yX5_writeName.cls == MX5_writeName.1) && (!MX5_writeName.2.2.2.2 || yX5_writeName.name == "<init>")) = true := by decide +kernel
theorem zp_X5_writeName : zpar yX5_writeName 5 := ⟨by decide +kernel, by decide +kernel, by decide +kernel⟩
abbrev MX5_lowestLoose : zM := (RX5, cX5_lowestLoose, 6, some .int, false)
theorem zy_X5_lowestLoose : (plainName yX5_lowestLoose.cls && (yX5_lowestLoose.cls == MX5_lowestLoose.1) && (!MX5_lowestLoose.2.2.2.2 || yX5_lowestLoose.name == "<init>")) = true := by decide +kernel
theorem zp_X5_lowestLoose : zpar yX5_lowestLoose 3 := ⟨by decide +kernel, by decide +kernel, by decide +kernel⟩
abbrev MX5_putIntoPane : zM := (RX5, cX5_putIntoPane, 6, some .int, false)
theorem zy_X5_putIntoPane : (plainName yX5_putIntoPane.cls && (yX5_putIntoPane.cls == MX5_putIntoPane.1) && (!MX5_putIntoPane.2.2.2.2 || yX5_putIntoPane.name == "<init>")) = true := by decide +kernel
theorem zp_X5_putIntoPane : zpar yX5_putIntoPane 3 := ⟨by decide +kernel, by decide +kernel, by decide +kernel⟩
abbrev MX5_clearPane : zM := (RX5, cX5_clearPane, 5, some .int, false)
theorem zy_X5_clearPane : (plainName yX5_clearPane.cls && (yX5_clearPane.cls == MX5_clearPane.1) && (!MX5_clearPane.2.2.2.2 || yX5_clearPane.name == "<init>")) = true := by decide +kernel
theorem zp_X5_clearPane : zpar yX5_clearPane 1 := ⟨by decide +kernel, by decide +kernel, by decide +kernel⟩
abbrev MX5_wastePiece : zM := (RX5, cX5_wastePiece, 3, some .int, false)
theorem zy_X5_wastePiece : (plainName yX5_wastePiece.cls && (yX5_wastePiece.cls == MX5_wastePiece.1) && (!MX5_wastePiece.2.2.2.2 || yX5_wastePiece.name == "<init>")) = true := by decide +kernel
theorem zp_X5_wastePiece : zpar yX5_wastePiece 1 := ⟨by decide +kernel, by decide +kernel, by decide +kernel⟩
abbrev MX5_scrapSheet : zM := (RX5, cX5_scrapSheet, 3, some .int, false)
theorem zy_X5_scrapSheet : (plainName yX5_scrapSheet.cls && (yX5_scrapSheet.cls == MX5_scrapSheet.1) && (!MX5_scrapSheet.2.2.2.2 || yX5_scrapSheet.name == "<init>")) = true := by decide +kernel
theorem zp_X5_scrapSheet : zpar yX5_scrapSheet 1 := ⟨by decide +kernel, by decide +kernel, by decide +kernel⟩
abbrev MX5_piecesIn : zM := (RX5, cX5_piecesIn, 5, some .int, false)
theorem zy_X5_piecesIn : (plainName yX5_piecesIn.cls && (yX5_piecesIn.cls == MX5_piecesIn.1) && (!MX5_piecesIn.2.2.2.2 || yX5_piecesIn.name == "<init>")) = true := by decide +kernel
theorem zp_X5_piecesIn : zpar yX5_piecesIn 1 := ⟨by decide +kernel, by decide +kernel, by decide +kernel⟩
abbrev MX5_piecesFrom : zM := (RX5, cX5_piecesFrom, 5, some .int, false)
theorem zy_X5_piecesFrom : (plainName yX5_piecesFrom.cls && (yX5_piecesFrom.cls == MX5_piecesFrom.1) && (!MX5_piecesFrom.2.2.2.2 || yX5_piecesFrom.name == "<init>")) = true := by decide +kernel
theorem zp_X5_piecesFrom : zpar yX5_piecesFrom 1 := ⟨by decide +kernel, by decide +kernel, by decide +kernel⟩
abbrev MX5_piecesThatAre : zM := (RX5, cX5_piecesThatAre, 5, some .int, false)
theorem zy_X5_piecesThatAre : (plainName yX5_piecesThatAre.cls && (yX5_piecesThatAre.cls == MX5_piecesThatAre.1) && (!MX5_piecesThatAre.2.2.2.2 || yX5_piecesThatAre.name == "<init>")) = true := by decide +kernel
theorem zp_X5_piecesThatAre : zpar yX5_piecesThatAre 1 := ⟨by decide +kernel, by decide +kernel, by decide +kernel⟩
abbrev MX5_squaresOfPieces : zM := (RX5, cX5_squaresOfPieces, 5, some .int, false)
theorem zy_X5_squaresOfPieces : (plainName yX5_squaresOfPieces.cls && (yX5_squaresOfPieces.cls == MX5_squaresOfPieces.1) && (!MX5_squaresOfPieces.2.2.2.2 || yX5_squaresOfPieces.name == "<init>")) = true := by decide +kernel
theorem zp_X5_squaresOfPieces : zpar yX5_squaresOfPieces 1 := ⟨by decide +kernel, by decide +kernel, by decide +kernel⟩
abbrev MX5_squaresOfSheets : zM := (RX5, cX5_squaresOfSheets, 5, some .int, false)
theorem zy_X5_squaresOfSheets : (plainName yX5_squaresOfSheets.cls && (yX5_squaresOfSheets.cls == MX5_squaresOfSheets.1) && (!MX5_squaresOfSheets.2.2.2.2 || yX5_squaresOfSheets.name == "<init>")) = true := by decide +kernel
theorem zp_X5_squaresOfSheets : zpar yX5_squaresOfSheets 1 := ⟨by decide +kernel, by decide +kernel, by decide +kernel⟩

/-- an exact answer, an exact world -/
def zR (x : Value) (hh : zH) (sz : Nat) : Option Value → zH → Nat → Prop := fun r h' s' => r = some x ∧ h' = hh ∧ s' = sz
def zV (hh : zH) (sz : Nat) : Option Value → zH → Nat → Prop := fun r h' s' => r = none ∧ h' = hh ∧ s' = sz
section Z5
variable {M : zM} {G : zG} {d mc ms k n : Nat} {hh : zH} {sz : Nat} {pc : Nat} {lv : List (Option Value)} {st rest : List Value} {Post : Option Value → zH → Nat → Nat → Nat → Prop}
variable {y : MethodName} {My : zM} {idx d' mc' ms' : Nat} {as : List Value} {hh' : zH} {sz' : Nat} {x : Value}
theorem z_iincC {i : Nat} {j : Int} {x c : Int32} {lv' : List (Option Value)} (hd : decode M.2.1 pc = .ok (.iinc i j, 3)) (hc : Int32.ofInt j = c) (hv : lv[i]? = some (some (.int x))) (hn : i < M.2.2.1) (hok : zok lv i = true) (hlv : lv.set i (some (.int (x + c))) = lv') (kk : zS M G d mc ms k n hh sz (pc + 3) lv' st Post) : zS M G d mc ms k n hh sz pc lv st Post := z_iinc hd hv (by rw [hc]) hn hok hlv kk
/-- the top of the stack by another name -/
theorem z_eq {a b : Int32} (e : a = b) (kk : zS M G d mc ms k n hh sz pc lv (.int b :: st) Post) : zS M G d mc ms k n hh sz pc lv (.int a :: st) Post := e ▸ kk
theorem z_heap {h2 : zH} (e : hh = h2) (kk : zS M G d mc ms k n h2 sz pc lv st Post) : zS M G d mc ms k n hh sz pc lv st Post := e ▸ kk
theorem z_ialdN {a N j : Nat} {f : Nat → Int32} {x : Int32} (hd : decode M.2.1 pc = .ok (.iaload, 1)) (ha : hh a = some (.inl (G.2.2.1 0, N, .inl f))) (hx : x = nI j) (hj : j < N) (hN : N < 2 ^ 31) (kk : zS M G d mc ms k n hh sz (pc + 1) lv (.int (f j) :: st) Post) : zS M G d mc ms k n hh sz pc lv (.int x :: .ref a :: st) Post := by
  subst hx
  refine z_iald hd ha (vp_in_nI hj hN) ?_
  rw [nI_clamp (by omega)]
  exact kk
theorem z_iastN {a N j : Nat} {f : Nat → Int32} {x y : Int32} (hd : decode M.2.1 pc = .ok (.iastore, 1)) (ha : hh a = some (.inl (G.2.2.1 0, N, .inl f))) (hx : x = nI j) (hj : j < N) (hN : N < 2 ^ 31) (kk : zS M G d mc ms k n (zup hh a (.inl (G.2.2.1 0, N, .inl (upd f j y)))) sz (pc + 1) lv st Post) : zS M G d mc ms k n hh sz pc lv (.int y :: .int x :: .ref a :: st) Post := by
  subst hx
  refine z_iast hd ha (vp_in_nI hj hN) ?_
  rw [nI_clamp (by omega)]
  exact kk
theorem z_aaldN {a N t j : Nat} {C : String} {f : Nat → Option Nat} {x : Int32} (hd : decode M.2.1 pc = .ok (.aaload, 1)) (ha : hh a = some (.inl (G.2.2.1 t, N, .inr (.inr (.inr (.inr f)))))) (ht : (zTys G)[t]? = some (G.2.2.1 t, .object C)) (hx : x = nI j) (hj : j < N) (hN : N < 2 ^ 31) (kk : zS M G d mc ms k n hh sz (pc + 1) lv (va_rf (f j) :: st) Post) : zS M G d mc ms k n hh sz pc lv (.int x :: .ref a :: st) Post := by
  subst hx
  refine z_aald hd ha ht (vp_in_nI hj hN) ?_
  rw [nI_clamp (by omega)]
  exact kk
theorem z_aastN {a N t v ci j : Nat} {vs : List Value} {f : Nat → Option Nat} {x : Int32} (hd : decode M.2.1 pc = .ok (.aastore, 1)) (ha : hh a = some (.inl (G.2.2.1 t, N, .inr (.inr (.inr (.inr f)))))) (hci : ci < 8) (ht : (zTys G)[t]? = some (G.2.2.1 t, .object (zc ci).1)) (hv : hh v = some (.inr (ci, vs))) (hx : x = nI j) (hj : j < N) (hN : N < 2 ^ 31) (kk : zS M G d mc ms k n (zup hh a (.inl (G.2.2.1 t, N, .inr (.inr (.inr (.inr (va_up f j (some v)))))))) sz (pc + 1) lv st Post) : zS M G d mc ms k n hh sz pc lv (.ref v :: .int x :: .ref a :: st) Post := by
  subst hx
  refine z_aast hd ha hci ht hv (vp_in_nI hj hN) ?_
  rw [nI_clamp (by omega)]
  exact kk
/-- a method's end, by an exact contract -/
theorem z_iretR {x y : Int32} {h2 : zH} {s2 : Nat} (hd : decode M.2.1 pc = .ok (.ireturn, 1)) (hrt : M.2.2.2.1 = some .int) (e : x = y) (eh : hh = h2) (es : sz = s2) (hk : k ≤ mc) (hn : n ≤ ms) : zS M G d mc ms k n hh sz pc lv [.int x] (fun r h' s' k' n' => zR (.int y) h2 s2 r h' s' ∧ k' ≤ mc ∧ n' ≤ ms) :=
  z_ireturn hd ⟨.int, hrt, rfl⟩ ⟨⟨by rw [e], eh, es⟩, hk, hn⟩
theorem z_narZ {x : Int32} (h : x = 0 ∨ x = 1) : narrow .boolean (.int x) = .int x := by rcases h with rfl | rfl <;> rfl
theorem z_zretR {x y : Int32} {h2 : zH} {s2 : Nat} (hd : decode M.2.1 pc = .ok (.ireturn, 1)) (hrt : M.2.2.2.1 = some .boolean) (hz : x = 0 ∨ x = 1) (e : x = y) (eh : hh = h2) (es : sz = s2) (hk : k ≤ mc) (hn : n ≤ ms) : zS M G d mc ms k n hh sz pc lv [.int x] (fun r h' s' k' n' => zR (.int y) h2 s2 r h' s' ∧ k' ≤ mc ∧ n' ≤ ms) :=
  z_ireturn hd ⟨.boolean, hrt, z_narZ hz⟩ ⟨⟨by rw [e], eh, es⟩, hk, hn⟩
theorem z_vretV {h2 : zH} {s2 : Nat} (hd : decode M.2.1 pc = .ok (.return_, 1)) (hrt : M.2.2.2.1 = none) (eh : hh = h2) (es : sz = s2) (hk : k ≤ mc) (hn : n ≤ ms) : zS M G d mc ms k n hh sz pc lv [] (fun r h' s' k' n' => zV h2 s2 r h' s' ∧ k' ≤ mc ∧ n' ≤ ms) :=
  z_return hd hrt ⟨⟨rfl, eh, es⟩, hk, hn⟩
theorem z_aretR {a b : Nat} {C : String} {h2 : zH} {s2 : Nat} (hd : decode M.2.1 pc = .ok (.areturn, 1)) (hrt : M.2.2.2.1 = some (.object C)) (e : a = b) (eh : hh = h2) (es : sz = s2) (hk : k ≤ mc) (hn : n ≤ ms) : zS M G d mc ms k n hh sz pc lv [.ref a] (fun r h' s' k' n' => zR (.ref b) h2 s2 r h' s' ∧ k' ≤ mc ∧ n' ≤ ms) :=
  z_areturn hd hrt ⟨⟨by rw [e], eh, es⟩, hk, hn⟩
theorem z_aretRN {C : String} {h2 : zH} {s2 : Nat} (hd : decode M.2.1 pc = .ok (.areturn, 1)) (hrt : M.2.2.2.1 = some (.object C)) (eh : hh = h2) (es : sz = s2) (hk : k ≤ mc) (hn : n ≤ ms) : zS M G d mc ms k n hh sz pc lv [.null] (fun r h' s' k' n' => zR .null h2 s2 r h' s' ∧ k' ≤ mc ∧ n' ≤ ms) :=
  z_areturnN hd hrt ⟨⟨rfl, eh, es⟩, hk, hn⟩

theorem z_callSR (hC : zC G d' My y as hh sz mc' ms' (zR x hh' sz')) (hd : decode M.2.1 pc = .ok (.invokestatic idx, 3)) (hq : Cond.methodLink M.1 idx y ∈ zT ∧ Cond.code y My.2.1 My.2.2.1 My.2.2.2.1 ∈ zT ∧ Cond.initialized y.cls ∈ zT ∧ Cond.static y ∈ zT) (hroom : d' + 1 ≤ d ∧ My.2.2.1 ≤ 12) (hpar : zpar y as.length) (hst : st = as.reverse ++ rest) (hwt : (rest.map fun v => v.category).sum ≤ 8) (hk : k + mc' ≤ mc) (hn : n + ms' ≤ ms) (kk : zS M G d mc ms (k + mc') (n + ms') hh' sz' (pc + 3) lv (x :: rest) Post) : zS M G d mc ms k n hh sz pc lv st Post :=
  z_callS hC hd hq hroom hpar hwt hk hn (fun r h1 s1 hp => by obtain ⟨rfl, rfl, rfl⟩ := hp; exact kk) hst
theorem z_callSU (hC : zC G d' My y as hh sz mc' ms' (zV hh' sz')) (hd : decode M.2.1 pc = .ok (.invokestatic idx, 3)) (hq : Cond.methodLink M.1 idx y ∈ zT ∧ Cond.code y My.2.1 My.2.2.1 My.2.2.2.1 ∈ zT ∧ Cond.initialized y.cls ∈ zT ∧ Cond.static y ∈ zT) (hroom : d' + 1 ≤ d ∧ My.2.2.1 ≤ 12) (hpar : zpar y as.length) (hst : st = as.reverse ++ rest) (hwt : (rest.map fun v => v.category).sum ≤ 8) (hk : k + mc' ≤ mc) (hn : n + ms' ≤ ms) (kk : zS M G d mc ms (k + mc') (n + ms') hh' sz' (pc + 3) lv (rest) Post) : zS M G d mc ms k n hh sz pc lv st Post :=
  z_callS hC hd hq hroom hpar hwt hk hn (fun r h1 s1 hp => by obtain ⟨rfl, rfl, rfl⟩ := hp; exact kk) hst
theorem z_callVR {ci b : Nat} {fs : List Value} (hC : zC G d' My y (.ref b :: as) hh sz mc' ms' (zR x hh' sz')) (hd : decode M.2.1 pc = .ok (.invokevirtual idx, 3)) (hq : Cond.methodLink M.1 idx y ∈ zT ∧ Cond.code y My.2.1 My.2.2.1 My.2.2.2.1 ∈ zT ∧ Cond.initialized y.cls ∈ zT ∧ Cond.instanceMethod y ∈ zT ∧ Cond.selects (zc ci).1 y y ∈ zT ∧ ci < 8) (he : hh b = some (.inr (ci, fs))) (hroom : d' + 1 ≤ d ∧ My.2.2.1 ≤ 12) (hpar : zpar y as.length) (hst : st = as.reverse ++ .ref b :: rest) (hwt : (rest.map fun v => v.category).sum ≤ 8) (hk : k + mc' ≤ mc) (hn : n + ms' ≤ ms) (kk : zS M G d mc ms (k + mc') (n + ms') hh' sz' (pc + 3) lv (x :: rest) Post) : zS M G d mc ms k n hh sz pc lv st Post :=
  z_callV hC hd hq he hroom hpar hwt hk hn (fun r h1 s1 hp => by obtain ⟨rfl, rfl, rfl⟩ := hp; exact kk) hst
theorem z_callVU {ci b : Nat} {fs : List Value} (hC : zC G d' My y (.ref b :: as) hh sz mc' ms' (zV hh' sz')) (hd : decode M.2.1 pc = .ok (.invokevirtual idx, 3)) (hq : Cond.methodLink M.1 idx y ∈ zT ∧ Cond.code y My.2.1 My.2.2.1 My.2.2.2.1 ∈ zT ∧ Cond.initialized y.cls ∈ zT ∧ Cond.instanceMethod y ∈ zT ∧ Cond.selects (zc ci).1 y y ∈ zT ∧ ci < 8) (he : hh b = some (.inr (ci, fs))) (hroom : d' + 1 ≤ d ∧ My.2.2.1 ≤ 12) (hpar : zpar y as.length) (hst : st = as.reverse ++ .ref b :: rest) (hwt : (rest.map fun v => v.category).sum ≤ 8) (hk : k + mc' ≤ mc) (hn : n + ms' ≤ ms) (kk : zS M G d mc ms (k + mc') (n + ms') hh' sz' (pc + 3) lv (rest) Post) : zS M G d mc ms k n hh sz pc lv st Post :=
  z_callV hC hd hq he hroom hpar hwt hk hn (fun r h1 s1 hp => by obtain ⟨rfl, rfl, rfl⟩ := hp; exact kk) hst
theorem z_callIU {b : Nat} (hC : zC G d' My y (.ref b :: as) hh sz mc' ms' (zV hh' sz')) (hd : decode M.2.1 pc = .ok (.invokespecial idx, 3)) (hq : Cond.methodLink M.1 idx y ∈ zT ∧ Cond.code y My.2.1 My.2.2.1 none ∈ zT ∧ Cond.initialized y.cls ∈ zT ∧ Cond.instanceMethod y ∈ zT ∧ y.name = "<init>") (hret : My.2.2.2.1 = none) (hroom : d' + 1 ≤ d ∧ My.2.2.1 ≤ 12) (hpar : zpar y as.length) (hst : st = as.reverse ++ .ref b :: rest) (hwt : (rest.map fun v => v.category).sum ≤ 8) (hk : k + mc' ≤ mc) (hn : n + ms' ≤ ms) (kk : zS M G d mc ms (k + mc') (n + ms') hh' sz' (pc + 3) lv (rest) Post) : zS M G d mc ms k n hh sz pc lv st Post :=
  z_callI hC hd hq hret hroom hpar hwt hk hn (fun r h1 s1 hp => by obtain ⟨rfl, rfl, rfl⟩ := hp; exact kk) hst
theorem z_callSNR (hC : zC G d' My y as hh sz mc' ms' (zR x hh' sz')) (hd : decode M.2.1 pc = .ok (.invokestatic idx, 3)) (hq : Cond.methodLinkNest M.1 idx y "WindowLetters" ∈ zN ∧ Cond.code y My.2.1 My.2.2.1 My.2.2.2.1 ∈ zT ∧ Cond.initialized y.cls ∈ zT ∧ Cond.static y ∈ zT) (hroom : d' + 1 ≤ d ∧ My.2.2.1 ≤ 12) (hpar : zpar y as.length) (hst : st = as.reverse ++ rest) (hwt : (rest.map fun v => v.category).sum ≤ 8) (hk : k + mc' ≤ mc) (hn : n + ms' ≤ ms) (kk : zS M G d mc ms (k + mc') (n + ms') hh' sz' (pc + 3) lv (x :: rest) Post) : zS M G d mc ms k n hh sz pc lv st Post :=
  z_callSN hC hd hq hroom hpar hwt hk hn (fun r h1 s1 hp => by obtain ⟨rfl, rfl, rfl⟩ := hp; exact kk) hst
theorem z_callSNU (hC : zC G d' My y as hh sz mc' ms' (zV hh' sz')) (hd : decode M.2.1 pc = .ok (.invokestatic idx, 3)) (hq : Cond.methodLinkNest M.1 idx y "WindowLetters" ∈ zN ∧ Cond.code y My.2.1 My.2.2.1 My.2.2.2.1 ∈ zT ∧ Cond.initialized y.cls ∈ zT ∧ Cond.static y ∈ zT) (hroom : d' + 1 ≤ d ∧ My.2.2.1 ≤ 12) (hpar : zpar y as.length) (hst : st = as.reverse ++ rest) (hwt : (rest.map fun v => v.category).sum ≤ 8) (hk : k + mc' ≤ mc) (hn : n + ms' ≤ ms) (kk : zS M G d mc ms (k + mc') (n + ms') hh' sz' (pc + 3) lv (rest) Post) : zS M G d mc ms k n hh sz pc lv st Post :=
  z_callSN hC hd hq hroom hpar hwt hk hn (fun r h1 s1 hp => by obtain ⟨rfl, rfl, rfl⟩ := hp; exact kk) hst
theorem z_callVNR {ci b : Nat} {fs : List Value} (hC : zC G d' My y (.ref b :: as) hh sz mc' ms' (zR x hh' sz')) (hd : decode M.2.1 pc = .ok (.invokevirtual idx, 3)) (hq : Cond.methodLinkNest M.1 idx y "WindowLetters" ∈ zN ∧ Cond.code y My.2.1 My.2.2.1 My.2.2.2.1 ∈ zT ∧ Cond.initialized y.cls ∈ zT ∧ Cond.instanceMethod y ∈ zT ∧ Cond.selects (zc ci).1 y y ∈ zT ∧ ci < 8) (he : hh b = some (.inr (ci, fs))) (hroom : d' + 1 ≤ d ∧ My.2.2.1 ≤ 12) (hpar : zpar y as.length) (hst : st = as.reverse ++ .ref b :: rest) (hwt : (rest.map fun v => v.category).sum ≤ 8) (hk : k + mc' ≤ mc) (hn : n + ms' ≤ ms) (kk : zS M G d mc ms (k + mc') (n + ms') hh' sz' (pc + 3) lv (x :: rest) Post) : zS M G d mc ms k n hh sz pc lv st Post :=
  z_callVN hC hd hq he hroom hpar hwt hk hn (fun r h1 s1 hp => by obtain ⟨rfl, rfl, rfl⟩ := hp; exact kk) hst
theorem z_callVNU {ci b : Nat} {fs : List Value} (hC : zC G d' My y (.ref b :: as) hh sz mc' ms' (zV hh' sz')) (hd : decode M.2.1 pc = .ok (.invokevirtual idx, 3)) (hq : Cond.methodLinkNest M.1 idx y "WindowLetters" ∈ zN ∧ Cond.code y My.2.1 My.2.2.1 My.2.2.2.1 ∈ zT ∧ Cond.initialized y.cls ∈ zT ∧ Cond.instanceMethod y ∈ zT ∧ Cond.selects (zc ci).1 y y ∈ zT ∧ ci < 8) (he : hh b = some (.inr (ci, fs))) (hroom : d' + 1 ≤ d ∧ My.2.2.1 ≤ 12) (hpar : zpar y as.length) (hst : st = as.reverse ++ .ref b :: rest) (hwt : (rest.map fun v => v.category).sum ≤ 8) (hk : k + mc' ≤ mc) (hn : n + ms' ≤ ms) (kk : zS M G d mc ms (k + mc') (n + ms') hh' sz' (pc + 3) lv (rest) Post) : zS M G d mc ms k n hh sz pc lv st Post :=
  z_callVN hC hd hq he hroom hpar hwt hk hn (fun r h1 s1 hp => by obtain ⟨rfl, rfl, rfl⟩ := hp; exact kk) hst
theorem z_callINU {b : Nat} (hC : zC G d' My y (.ref b :: as) hh sz mc' ms' (zV hh' sz')) (hd : decode M.2.1 pc = .ok (.invokespecial idx, 3)) (hq : Cond.methodLinkNest M.1 idx y "WindowLetters" ∈ zN ∧ Cond.code y My.2.1 My.2.2.1 none ∈ zT ∧ Cond.initialized y.cls ∈ zT ∧ Cond.instanceMethod y ∈ zT ∧ y.name = "<init>") (hret : My.2.2.2.1 = none) (hroom : d' + 1 ≤ d ∧ My.2.2.1 ≤ 12) (hpar : zpar y as.length) (hst : st = as.reverse ++ .ref b :: rest) (hwt : (rest.map fun v => v.category).sum ≤ 8) (hk : k + mc' ≤ mc) (hn : n + ms' ≤ ms) (kk : zS M G d mc ms (k + mc') (n + ms') hh' sz' (pc + 3) lv (rest) Post) : zS M G d mc ms k n hh sz pc lv st Post :=
  z_callIN hC hd hq hret hroom hpar hwt hk hn (fun r h1 s1 hp => by obtain ⟨rfl, rfl, rfl⟩ := hp; exact kk) hst
end Z5
end
section
theorem z_o {x : Int32} {n : Nat} (hn : n < 2 ^ 31) (h : ∀ j, j < n → ¬ x = nI j) : x.toInt < 0 ∨ (n : Int) - 1 < x.toInt := by
  rcases pk_ix x (n := n) hn with h1 | h1 | ⟨j, hj, e⟩
  · left
    rw [Int32.lt_iff_toInt_lt, Int32.toInt_zero] at h1
    exact h1
  · right
    rw [Int32.le_iff_toInt_le, nI_toInt hn] at h1
    omega
  · exact absurd e (h j hj)
theorem z_out5 {x : Int32} (h0 : ¬ x = nI 0) (h1 : ¬ x = nI 1) (h2 : ¬ x = nI 2) (h3 : ¬ x = nI 3) (h4 : ¬ x = nI 4) : x.toInt < 0 ∨ 4 < x.toInt := by
  have h := z_o (x := x) (n := 5) (by decide) (fun j hj => by
    match j, hj with
    | 0, _ => exact h0
    | 1, _ => exact h1
    | 2, _ => exact h2
    | 3, _ => exact h3
    | 4, _ => exact h4)
  simpa using h
theorem z_out7 {x : Int32} (h0 : ¬ x = nI 0) (h1 : ¬ x = nI 1) (h2 : ¬ x = nI 2) (h3 : ¬ x = nI 3) (h4 : ¬ x = nI 4) (h5 : ¬ x = nI 5) (h6 : ¬ x = nI 6) : x.toInt < 0 ∨ 6 < x.toInt := by
  have h := z_o (x := x) (n := 7) (by decide) (fun j hj => by
    match j, hj with
    | 0, _ => exact h0
    | 1, _ => exact h1
    | 2, _ => exact h2
    | 3, _ => exact h3
    | 4, _ => exact h4
    | 5, _ => exact h5
    | 6, _ => exact h6)
  simpa using h
theorem z_out8 {x : Int32} (h0 : ¬ x = nI 0) (h1 : ¬ x = nI 1) (h2 : ¬ x = nI 2) (h3 : ¬ x = nI 3) (h4 : ¬ x = nI 4) (h5 : ¬ x = nI 5) (h6 : ¬ x = nI 6) (h7 : ¬ x = nI 7) : x.toInt < 0 ∨ 7 < x.toInt := by
  have h := z_o (x := x) (n := 8) (by decide) (fun j hj => by
    match j, hj with
    | 0, _ => exact h0
    | 1, _ => exact h1
    | 2, _ => exact h2
    | 3, _ => exact h3
    | 4, _ => exact h4
    | 5, _ => exact h5
    | 6, _ => exact h6
    | 7, _ => exact h7)
  simpa using h
theorem z_out10 {x : Int32} (h0 : ¬ x = nI 0) (h1 : ¬ x = nI 1) (h2 : ¬ x = nI 2) (h3 : ¬ x = nI 3) (h4 : ¬ x = nI 4) (h5 : ¬ x = nI 5) (h6 : ¬ x = nI 6) (h7 : ¬ x = nI 7) (h8 : ¬ x = nI 8) (h9 : ¬ x = nI 9) : x.toInt < 0 ∨ 9 < x.toInt := by
  have h := z_o (x := x) (n := 10) (by decide) (fun j hj => by
    match j, hj with
    | 0, _ => exact h0
    | 1, _ => exact h1
    | 2, _ => exact h2
    | 3, _ => exact h3
    | 4, _ => exact h4
    | 5, _ => exact h5
    | 6, _ => exact h6
    | 7, _ => exact h7
    | 8, _ => exact h8
    | 9, _ => exact h9)
  simpa using h
def s_X7_in (a0 a1 a2 : Int32) : Int32 := (if a0 < a1 then (nI 0) else (if a2 < a0 then (nI 0) else (nI 1)))
set_option maxHeartbeats 4000000 in
set_option maxRecDepth 100000 in
theorem k_X7_in {G : zG} {hh : zH} {sz : Nat} {a0 a1 a2 : Int32} : zC G 0 MX7_in yX7_in [.int a0, .int a1, .int a2] hh sz 0 0 (zR (.int (s_X7_in a0 a1 a2)) hh sz) := by
  refine z_intro _ rfl zy_X7_in (Nat.le_of_ble_eq_true rfl) ?_
  refine z_iload_n dX7_in_0 rfl ?_
  refine z_iload_n dX7_in_1 rfl ?_
  refine z_icmp_lt (tgt := 14) dX7_in_2 (by decide) (fun c_2 => ?_) (fun c_2 => ?_)
  · refine z_iconst (v := (nI 0)) dX7_in_14 (by decide) ?_
    exact z_zretR dX7_in_15 rfl (by decide) (by unfold s_X7_in; rw [if_pos c_2]) rfl rfl (Nat.le_refl _) (Nat.le_refl _)
  · refine z_iload_n dX7_in_5 rfl ?_
    refine z_iload_n dX7_in_6 rfl ?_
    refine z_icmp_gt (tgt := 14) dX7_in_7 (by decide) (fun c_7 => ?_) (fun c_7 => ?_)
    · refine z_iconst (v := (nI 0)) dX7_in_14 (by decide) ?_
      exact z_zretR dX7_in_15 rfl (by decide) (by unfold s_X7_in; rw [if_neg c_2, if_pos c_7]) rfl rfl (Nat.le_refl _) (Nat.le_refl _)
    · refine z_iconst (v := (nI 1)) dX7_in_10 (by decide) ?_
      refine z_goto (tgt := 15) dX7_in_11 (by decide) ?_
      exact z_zretR dX7_in_15 rfl (by decide) (by unfold s_X7_in; rw [if_neg c_2, if_neg c_7]) rfl rfl (Nat.le_refl _) (Nat.le_refl _)
theorem s_X7_in_z (a b c : Int32) : s_X7_in a b c = 0 ∨ s_X7_in a b c = 1 := by
  unfold s_X7_in
  split
  · exact Or.inl (by decide)
  · split
    · exact Or.inl (by decide)
    · exact Or.inr (by decide)
def s_X7_digits (a0 : Int32) : Int32 := (if a0 = nI 0 then (nI 22222) else (if a0 = nI 1 then (44447) else (if a0 = nI 2 then (75557) else (if a0 = nI 3 then (72222) else (if a0 = nI 4 then (55557) else (if a0 = nI 5 then (74747) else (if a0 = nI 6 then (55755) else (74717))))))))
set_option maxHeartbeats 4000000 in
set_option maxRecDepth 100000 in
theorem k_X7_digits {G : zG} {hh : zH} {sz : Nat} {a0 : Int32} : zC G 0 MX7_digits yX7_digits [.int a0] hh sz 0 0 (zR (.int (s_X7_digits a0)) hh sz) := by
  refine z_intro _ rfl zy_X7_digits (Nat.le_of_ble_eq_true rfl) ?_
  refine z_iload_n dX7_digits_0 rfl ?_
  by_cases c_1_0 : a0 = nI 0
  · refine z_tableIn (tgt := 44) dX7_digits_1 (by rw [c_1_0]; decide) (by rw [c_1_0]; decide) (by rw [c_1_0]; rfl) (by decide) ?_
    refine z_sipush (v := (nI 22222)) dX7_digits_44 (by decide) ?_
    exact z_iretR dX7_digits_47 rfl (by unfold s_X7_digits; rw [if_pos c_1_0]) rfl rfl (Nat.le_refl _) (Nat.le_refl _)
  by_cases c_1_1 : a0 = nI 1
  · refine z_tableIn (tgt := 48) dX7_digits_1 (by rw [c_1_1]; decide) (by rw [c_1_1]; decide) (by rw [c_1_1]; rfl) (by decide) ?_
    refine z_ldc dX7_digits_48 zm_656 ?_
    exact z_iretR dX7_digits_50 rfl (by unfold s_X7_digits; rw [if_neg c_1_0, if_pos c_1_1]) rfl rfl (Nat.le_refl _) (Nat.le_refl _)
  by_cases c_1_2 : a0 = nI 2
  · refine z_tableIn (tgt := 51) dX7_digits_1 (by rw [c_1_2]; decide) (by rw [c_1_2]; decide) (by rw [c_1_2]; rfl) (by decide) ?_
    refine z_ldc dX7_digits_51 zm_657 ?_
    exact z_iretR dX7_digits_53 rfl (by unfold s_X7_digits; rw [if_neg c_1_0, if_neg c_1_1, if_pos c_1_2]) rfl rfl (Nat.le_refl _) (Nat.le_refl _)
  by_cases c_1_3 : a0 = nI 3
  · refine z_tableIn (tgt := 54) dX7_digits_1 (by rw [c_1_3]; decide) (by rw [c_1_3]; decide) (by rw [c_1_3]; rfl) (by decide) ?_
    refine z_ldc dX7_digits_54 zm_658 ?_
    exact z_iretR dX7_digits_56 rfl (by unfold s_X7_digits; rw [if_neg c_1_0, if_neg c_1_1, if_neg c_1_2, if_pos c_1_3]) rfl rfl (Nat.le_refl _) (Nat.le_refl _)
  by_cases c_1_4 : a0 = nI 4
  · refine z_tableIn (tgt := 57) dX7_digits_1 (by rw [c_1_4]; decide) (by rw [c_1_4]; decide) (by rw [c_1_4]; rfl) (by decide) ?_
    refine z_ldc dX7_digits_57 zm_659 ?_
    exact z_iretR dX7_digits_59 rfl (by unfold s_X7_digits; rw [if_neg c_1_0, if_neg c_1_1, if_neg c_1_2, if_neg c_1_3, if_pos c_1_4]) rfl rfl (Nat.le_refl _) (Nat.le_refl _)
  by_cases c_1_5 : a0 = nI 5
  · refine z_tableIn (tgt := 60) dX7_digits_1 (by rw [c_1_5]; decide) (by rw [c_1_5]; decide) (by rw [c_1_5]; rfl) (by decide) ?_
    refine z_ldc dX7_digits_60 zm_660 ?_
    exact z_iretR dX7_digits_62 rfl (by unfold s_X7_digits; rw [if_neg c_1_0, if_neg c_1_1, if_neg c_1_2, if_neg c_1_3, if_neg c_1_4, if_pos c_1_5]) rfl rfl (Nat.le_refl _) (Nat.le_refl _)
  by_cases c_1_6 : a0 = nI 6
  · refine z_tableIn (tgt := 63) dX7_digits_1 (by rw [c_1_6]; decide) (by rw [c_1_6]; decide) (by rw [c_1_6]; rfl) (by decide) ?_
    refine z_ldc dX7_digits_63 zm_661 ?_
    exact z_iretR dX7_digits_65 rfl (by unfold s_X7_digits; rw [if_neg c_1_0, if_neg c_1_1, if_neg c_1_2, if_neg c_1_3, if_neg c_1_4, if_neg c_1_5, if_pos c_1_6]) rfl rfl (Nat.le_refl _) (Nat.le_refl _)
  refine z_tableOut (tgt := 66) dX7_digits_1 (z_out7 c_1_0 c_1_1 c_1_2 c_1_3 c_1_4 c_1_5 c_1_6) (by decide) ?_
  refine z_ldc dX7_digits_66 zm_662 ?_
  exact z_iretR dX7_digits_68 rfl (by unfold s_X7_digits; rw [if_neg c_1_0, if_neg c_1_1, if_neg c_1_2, if_neg c_1_3, if_neg c_1_4, if_neg c_1_5, if_neg c_1_6]) rfl rfl (Nat.le_refl _) (Nat.le_refl _)
def s_X7_high (a0 : Int32) : Int32 := (if (a0 - a0 / (nI 2) * (nI 2)) = 0 then (nI 5) else (nI 3))
set_option maxHeartbeats 4000000 in
set_option maxRecDepth 100000 in
theorem k_X7_high {G : zG} {hh : zH} {sz : Nat} {a0 : Int32} : zC G 0 MX7_high yX7_high [.int a0] hh sz 0 0 (zR (.int (s_X7_high a0)) hh sz) := by
  refine z_intro _ rfl zy_X7_high (Nat.le_of_ble_eq_true rfl) ?_
  refine z_iload_n dX7_high_0 rfl ?_
  refine z_iconst (v := (nI 2)) dX7_high_1 (by decide) ?_
  refine z_irem dX7_high_2 (by decide) ?_
  refine z_if_ne (tgt := 10) dX7_high_3 (by decide) (fun c_3 => ?_) (fun c_3 => ?_)
  · refine z_iconst (v := (nI 3)) dX7_high_10 (by decide) ?_
    exact z_iretR dX7_high_11 rfl (by unfold s_X7_high; rw [if_neg c_3]) rfl rfl (Nat.le_refl _) (Nat.le_refl _)
  · refine z_iconst (v := (nI 5)) dX7_high_6 (by decide) ?_
    refine z_goto (tgt := 11) dX7_high_7 (by decide) ?_
    exact z_iretR dX7_high_11 rfl (by unfold s_X7_high; rw [if_pos c_3]) rfl rfl (Nat.le_refl _) (Nat.le_refl _)
def s_X7_wide (a0 : Int32) : Int32 := (if (a0 - a0 / (nI 2) * (nI 2)) = 0 then (nI 3) else (nI 5))
set_option maxHeartbeats 4000000 in
set_option maxRecDepth 100000 in
theorem k_X7_wide {G : zG} {hh : zH} {sz : Nat} {a0 : Int32} : zC G 0 MX7_wide yX7_wide [.int a0] hh sz 0 0 (zR (.int (s_X7_wide a0)) hh sz) := by
  refine z_intro _ rfl zy_X7_wide (Nat.le_of_ble_eq_true rfl) ?_
  refine z_iload_n dX7_wide_0 rfl ?_
  refine z_iconst (v := (nI 2)) dX7_wide_1 (by decide) ?_
  refine z_irem dX7_wide_2 (by decide) ?_
  refine z_if_ne (tgt := 10) dX7_wide_3 (by decide) (fun c_3 => ?_) (fun c_3 => ?_)
  · refine z_iconst (v := (nI 5)) dX7_wide_10 (by decide) ?_
    exact z_iretR dX7_wide_11 rfl (by unfold s_X7_wide; rw [if_neg c_3]) rfl rfl (Nat.le_refl _) (Nat.le_refl _)
  · refine z_iconst (v := (nI 3)) dX7_wide_6 (by decide) ?_
    refine z_goto (tgt := 11) dX7_wide_7 (by decide) ?_
    exact z_iretR dX7_wide_11 rfl (by unfold s_X7_wide; rw [if_pos c_3]) rfl rfl (Nat.le_refl _) (Nat.le_refl _)
def s_X7_isLetter (a0 : Int32) : Int32 := (s_X7_in a0 (nI 0) (nI 7))
set_option maxHeartbeats 4000000 in
set_option maxRecDepth 100000 in
theorem k_X7_isLetter {G : zG} {hh : zH} {sz : Nat} {a0 : Int32} : zC G 1 MX7_isLetter yX7_isLetter [.int a0] hh sz 0 0 (zR (.int (s_X7_isLetter a0)) hh sz) := by
  refine z_intro _ rfl zy_X7_isLetter (Nat.le_of_ble_eq_true rfl) ?_
  refine z_iload_n dX7_isLetter_0 rfl ?_
  refine z_iconst (v := (nI 0)) dX7_isLetter_1 (by decide) ?_
  refine z_bipush (v := (nI 7)) dX7_isLetter_2 (by decide) ?_
  refine z_callSR k_X7_in dX7_isLetter_4 ⟨zm_702, zm_704, zm_8, zm_703⟩  (by decide) zp_X7_in rfl (Nat.le_of_ble_eq_true rfl) (Nat.le_refl _) (Nat.le_refl _) ?_
  exact z_zretR dX7_isLetter_7 rfl (s_X7_in_z _ _ _) (rfl) rfl rfl (Nat.le_refl _) (Nat.le_refl _)
def s_X7_isColour (a0 : Int32) : Int32 := (s_X7_in a0 (nI 1) (nI 4))
set_option maxHeartbeats 4000000 in
set_option maxRecDepth 100000 in
theorem k_X7_isColour {G : zG} {hh : zH} {sz : Nat} {a0 : Int32} : zC G 1 MX7_isColour yX7_isColour [.int a0] hh sz 0 0 (zR (.int (s_X7_isColour a0)) hh sz) := by
  refine z_intro _ rfl zy_X7_isColour (Nat.le_of_ble_eq_true rfl) ?_
  refine z_iload_n dX7_isColour_0 rfl ?_
  refine z_iconst (v := (nI 1)) dX7_isColour_1 (by decide) ?_
  refine z_iconst (v := (nI 4)) dX7_isColour_2 (by decide) ?_
  refine z_callSR k_X7_in dX7_isColour_3 ⟨zm_702, zm_704, zm_8, zm_703⟩  (by decide) zp_X7_in rfl (Nat.le_of_ble_eq_true rfl) (Nat.le_refl _) (Nat.le_refl _) ?_
  exact z_zretR dX7_isColour_6 rfl (s_X7_in_z _ _ _) (rfl) rfl rfl (Nat.le_refl _) (Nat.le_refl _)
def s_X7_isSpot (a0 a1 : Int32) : Int32 := (if (s_X7_in a0 (nI 0) (nI 2)) = 0 then (nI 0) else (if (s_X7_in a1 (nI 0) (nI 11)) = 0 then (nI 0) else (nI 1)))
set_option maxHeartbeats 4000000 in
set_option maxRecDepth 100000 in
theorem k_X7_isSpot {G : zG} {hh : zH} {sz : Nat} {a0 a1 : Int32} : zC G 1 MX7_isSpot yX7_isSpot [.int a0, .int a1] hh sz 0 0 (zR (.int (s_X7_isSpot a0 a1)) hh sz) := by
  refine z_intro _ rfl zy_X7_isSpot (Nat.le_of_ble_eq_true rfl) ?_
  refine z_iload_n dX7_isSpot_0 rfl ?_
  refine z_iconst (v := (nI 0)) dX7_isSpot_1 (by decide) ?_
  refine z_iconst (v := (nI 2)) dX7_isSpot_2 (by decide) ?_
  refine z_callSR k_X7_in dX7_isSpot_3 ⟨zm_702, zm_704, zm_8, zm_703⟩  (by decide) zp_X7_in rfl (Nat.le_of_ble_eq_true rfl) (Nat.le_refl _) (Nat.le_refl _) ?_
  refine z_if_eq (tgt := 23) dX7_isSpot_6 (by decide) (fun c_6 => ?_) (fun c_6 => ?_)
  · refine z_iconst (v := (nI 0)) dX7_isSpot_23 (by decide) ?_
    exact z_zretR dX7_isSpot_24 rfl (by decide) (by unfold s_X7_isSpot; rw [if_pos c_6]) rfl rfl (Nat.le_refl _) (Nat.le_refl _)
  · refine z_iload_n dX7_isSpot_9 rfl ?_
    refine z_iconst (v := (nI 0)) dX7_isSpot_10 (by decide) ?_
    refine z_bipush (v := (nI 11)) dX7_isSpot_11 (by decide) ?_
    refine z_callSR k_X7_in dX7_isSpot_13 ⟨zm_702, zm_704, zm_8, zm_703⟩  (by decide) zp_X7_in rfl (Nat.le_of_ble_eq_true rfl) (Nat.le_refl _) (Nat.le_refl _) ?_
    refine z_if_eq (tgt := 23) dX7_isSpot_16 (by decide) (fun c_16 => ?_) (fun c_16 => ?_)
    · refine z_iconst (v := (nI 0)) dX7_isSpot_23 (by decide) ?_
      exact z_zretR dX7_isSpot_24 rfl (by decide) (by unfold s_X7_isSpot; rw [if_neg c_6, if_pos c_16]) rfl rfl (Nat.le_refl _) (Nat.le_refl _)
    · refine z_iconst (v := (nI 1)) dX7_isSpot_19 (by decide) ?_
      refine z_goto (tgt := 24) dX7_isSpot_20 (by decide) ?_
      exact z_zretR dX7_isSpot_24 rfl (by decide) (by unfold s_X7_isSpot; rw [if_neg c_6, if_neg c_16]) rfl rfl (Nat.le_refl _) (Nat.le_refl _)
def s_X7_ofOne (a0 a1 : Int32) : Int32 := (((nI 3) + ((nI 11) * a0)) + a1)
set_option maxHeartbeats 4000000 in
set_option maxRecDepth 100000 in
theorem k_X7_ofOne {G : zG} {hh : zH} {sz : Nat} {a0 a1 : Int32} : zC G 0 MX7_ofOne yX7_ofOne [.int a0, .int a1] hh sz 0 0 (zR (.int (s_X7_ofOne a0 a1)) hh sz) := by
  refine z_intro _ rfl zy_X7_ofOne (Nat.le_of_ble_eq_true rfl) ?_
  refine z_iconst (v := (nI 3)) dX7_ofOne_0 (by decide) ?_
  refine z_bipush (v := (nI 11)) dX7_ofOne_1 (by decide) ?_
  refine z_iload_n dX7_ofOne_3 rfl ?_
  refine z_imul dX7_ofOne_4 ?_
  refine z_iadd dX7_ofOne_5 ?_
  refine z_iload_n dX7_ofOne_6 rfl ?_
  refine z_iadd dX7_ofOne_7 ?_
  exact z_iretR dX7_ofOne_8 rfl (rfl) rfl rfl (Nat.le_refl _) (Nat.le_refl _)
def s_X7_at (a0 a1 : Int32) : Int32 := (((nI 69) + ((nI 8) * a0)) + a1)
set_option maxHeartbeats 4000000 in
set_option maxRecDepth 100000 in
theorem k_X7_at {G : zG} {hh : zH} {sz : Nat} {a0 a1 : Int32} : zC G 0 MX7_at yX7_at [.int a0, .int a1] hh sz 0 0 (zR (.int (s_X7_at a0 a1)) hh sz) := by
  refine z_intro _ rfl zy_X7_at (Nat.le_of_ble_eq_true rfl) ?_
  refine z_bipush (v := (nI 69)) dX7_at_0 (by decide) ?_
  refine z_bipush (v := (nI 8)) dX7_at_2 (by decide) ?_
  refine z_iload_n dX7_at_4 rfl ?_
  refine z_imul dX7_at_5 ?_
  refine z_iadd dX7_at_6 ?_
  refine z_iload_n dX7_at_7 rfl ?_
  refine z_iadd dX7_at_8 ?_
  exact z_iretR dX7_at_9 rfl (rfl) rfl rfl (Nat.le_refl _) (Nat.le_refl _)
def s_X6_isColour (a0 : Int32) : Int32 := (if a0 < (nI 1) then (nI 0) else (if (nI 4) < a0 then (nI 0) else (nI 1)))
set_option maxHeartbeats 4000000 in
set_option maxRecDepth 100000 in
theorem k_X6_isColour {G : zG} {hh : zH} {sz : Nat} {a0 : Int32} : zC G 0 MX6_isColour yX6_isColour [.int a0] hh sz 0 0 (zR (.int (s_X6_isColour a0)) hh sz) := by
  refine z_intro _ rfl zy_X6_isColour (Nat.le_of_ble_eq_true rfl) ?_
  refine z_iload_n dX6_isColour_0 rfl ?_
  refine z_iconst (v := (nI 1)) dX6_isColour_1 (by decide) ?_
  refine z_icmp_lt (tgt := 14) dX6_isColour_2 (by decide) (fun c_2 => ?_) (fun c_2 => ?_)
  · refine z_iconst (v := (nI 0)) dX6_isColour_14 (by decide) ?_
    exact z_zretR dX6_isColour_15 rfl (by decide) (by unfold s_X6_isColour; rw [if_pos c_2]) rfl rfl (Nat.le_refl _) (Nat.le_refl _)
  · refine z_iload_n dX6_isColour_5 rfl ?_
    refine z_iconst (v := (nI 4)) dX6_isColour_6 (by decide) ?_
    refine z_icmp_gt (tgt := 14) dX6_isColour_7 (by decide) (fun c_7 => ?_) (fun c_7 => ?_)
    · refine z_iconst (v := (nI 0)) dX6_isColour_14 (by decide) ?_
      exact z_zretR dX6_isColour_15 rfl (by decide) (by unfold s_X6_isColour; rw [if_neg c_2, if_pos c_7]) rfl rfl (Nat.le_refl _) (Nat.le_refl _)
    · refine z_iconst (v := (nI 1)) dX6_isColour_10 (by decide) ?_
      refine z_goto (tgt := 15) dX6_isColour_11 (by decide) ?_
      exact z_zretR dX6_isColour_15 rfl (by decide) (by unfold s_X6_isColour; rw [if_neg c_2, if_neg c_7]) rfl rfl (Nat.le_refl _) (Nat.le_refl _)
def s_X6_isLetter (a0 : Int32) : Int32 := (if a0 < 0 then (nI 0) else (if (nI 8) ≤ a0 then (nI 0) else (nI 1)))
set_option maxHeartbeats 4000000 in
set_option maxRecDepth 100000 in
theorem k_X6_isLetter {G : zG} {hh : zH} {sz : Nat} {a0 : Int32} : zC G 0 MX6_isLetter yX6_isLetter [.int a0] hh sz 0 0 (zR (.int (s_X6_isLetter a0)) hh sz) := by
  refine z_intro _ rfl zy_X6_isLetter (Nat.le_of_ble_eq_true rfl) ?_
  refine z_iload_n dX6_isLetter_0 rfl ?_
  refine z_if_lt (tgt := 14) dX6_isLetter_1 (by decide) (fun c_1 => ?_) (fun c_1 => ?_)
  · refine z_iconst (v := (nI 0)) dX6_isLetter_14 (by decide) ?_
    exact z_zretR dX6_isLetter_15 rfl (by decide) (by unfold s_X6_isLetter; rw [if_pos c_1]) rfl rfl (Nat.le_refl _) (Nat.le_refl _)
  · refine z_iload_n dX6_isLetter_4 rfl ?_
    refine z_bipush (v := (nI 8)) dX6_isLetter_5 (by decide) ?_
    refine z_icmp_ge (tgt := 14) dX6_isLetter_7 (by decide) (fun c_7 => ?_) (fun c_7 => ?_)
    · refine z_iconst (v := (nI 0)) dX6_isLetter_14 (by decide) ?_
      exact z_zretR dX6_isLetter_15 rfl (by decide) (by unfold s_X6_isLetter; rw [if_neg c_1, if_pos c_7]) rfl rfl (Nat.le_refl _) (Nat.le_refl _)
    · refine z_iconst (v := (nI 1)) dX6_isLetter_10 (by decide) ?_
      refine z_goto (tgt := 15) dX6_isLetter_11 (by decide) ?_
      exact z_zretR dX6_isLetter_15 rfl (by decide) (by unfold s_X6_isLetter; rw [if_neg c_1, if_neg c_7]) rfl rfl (Nat.le_refl _) (Nat.le_refl _)
def s_X6_isWay (a0 : Int32) : Int32 := (if a0 < 0 then (nI 0) else (if (nI 8) ≤ a0 then (nI 0) else (nI 1)))
set_option maxHeartbeats 4000000 in
set_option maxRecDepth 100000 in
theorem k_X6_isWay {G : zG} {hh : zH} {sz : Nat} {a0 : Int32} : zC G 0 MX6_isWay yX6_isWay [.int a0] hh sz 0 0 (zR (.int (s_X6_isWay a0)) hh sz) := by
  refine z_intro _ rfl zy_X6_isWay (Nat.le_of_ble_eq_true rfl) ?_
  refine z_iload_n dX6_isWay_0 rfl ?_
  refine z_if_lt (tgt := 14) dX6_isWay_1 (by decide) (fun c_1 => ?_) (fun c_1 => ?_)
  · refine z_iconst (v := (nI 0)) dX6_isWay_14 (by decide) ?_
    exact z_zretR dX6_isWay_15 rfl (by decide) (by unfold s_X6_isWay; rw [if_pos c_1]) rfl rfl (Nat.le_refl _) (Nat.le_refl _)
  · refine z_iload_n dX6_isWay_4 rfl ?_
    refine z_bipush (v := (nI 8)) dX6_isWay_5 (by decide) ?_
    refine z_icmp_ge (tgt := 14) dX6_isWay_7 (by decide) (fun c_7 => ?_) (fun c_7 => ?_)
    · refine z_iconst (v := (nI 0)) dX6_isWay_14 (by decide) ?_
      exact z_zretR dX6_isWay_15 rfl (by decide) (by unfold s_X6_isWay; rw [if_neg c_1, if_pos c_7]) rfl rfl (Nat.le_refl _) (Nat.le_refl _)
    · refine z_iconst (v := (nI 1)) dX6_isWay_10 (by decide) ?_
      refine z_goto (tgt := 15) dX6_isWay_11 (by decide) ?_
      exact z_zretR dX6_isWay_15 rfl (by decide) (by unfold s_X6_isWay; rw [if_neg c_1, if_neg c_7]) rfl rfl (Nat.le_refl _) (Nat.le_refl _)
def s_X6_isMirroring (a0 : Int32) : Int32 := (if a0 = 0 then (nI 1) else (if a0 = (nI 1) then (nI 1) else (nI 0)))
set_option maxHeartbeats 4000000 in
set_option maxRecDepth 100000 in
theorem k_X6_isMirroring {G : zG} {hh : zH} {sz : Nat} {a0 : Int32} : zC G 0 MX6_isMirroring yX6_isMirroring [.int a0] hh sz 0 0 (zR (.int (s_X6_isMirroring a0)) hh sz) := by
  refine z_intro _ rfl zy_X6_isMirroring (Nat.le_of_ble_eq_true rfl) ?_
  refine z_iload_n dX6_isMirroring_0 rfl ?_
  refine z_if_eq (tgt := 9) dX6_isMirroring_1 (by decide) (fun c_1 => ?_) (fun c_1 => ?_)
  · refine z_iconst (v := (nI 1)) dX6_isMirroring_9 (by decide) ?_
    refine z_goto (tgt := 14) dX6_isMirroring_10 (by decide) ?_
    exact z_zretR dX6_isMirroring_14 rfl (by decide) (by unfold s_X6_isMirroring; rw [if_pos c_1]) rfl rfl (Nat.le_refl _) (Nat.le_refl _)
  · refine z_iload_n dX6_isMirroring_4 rfl ?_
    refine z_iconst (v := (nI 1)) dX6_isMirroring_5 (by decide) ?_
    refine z_icmp_ne (tgt := 13) dX6_isMirroring_6 (by decide) (fun c_6 => ?_) (fun c_6 => ?_)
    · refine z_iconst (v := (nI 0)) dX6_isMirroring_13 (by decide) ?_
      exact z_zretR dX6_isMirroring_14 rfl (by decide) (by unfold s_X6_isMirroring; rw [if_neg c_1, if_neg c_6]) rfl rfl (Nat.le_refl _) (Nat.le_refl _)
    · refine z_iconst (v := (nI 1)) dX6_isMirroring_9 (by decide) ?_
      refine z_goto (tgt := 14) dX6_isMirroring_10 (by decide) ?_
      exact z_zretR dX6_isMirroring_14 rfl (by decide) (by unfold s_X6_isMirroring; rw [if_neg c_1, if_pos c_6]) rfl rfl (Nat.le_refl _) (Nat.le_refl _)
def s_X6_isPane (a0 : Int32) : Int32 := (if a0 < 0 then (nI 0) else (if (nI 3) ≤ a0 then (nI 0) else (nI 1)))
set_option maxHeartbeats 4000000 in
set_option maxRecDepth 100000 in
theorem k_X6_isPane {G : zG} {hh : zH} {sz : Nat} {a0 : Int32} : zC G 0 MX6_isPane yX6_isPane [.int a0] hh sz 0 0 (zR (.int (s_X6_isPane a0)) hh sz) := by
  refine z_intro _ rfl zy_X6_isPane (Nat.le_of_ble_eq_true rfl) ?_
  refine z_iload_n dX6_isPane_0 rfl ?_
  refine z_if_lt (tgt := 13) dX6_isPane_1 (by decide) (fun c_1 => ?_) (fun c_1 => ?_)
  · refine z_iconst (v := (nI 0)) dX6_isPane_13 (by decide) ?_
    exact z_zretR dX6_isPane_14 rfl (by decide) (by unfold s_X6_isPane; rw [if_pos c_1]) rfl rfl (Nat.le_refl _) (Nat.le_refl _)
  · refine z_iload_n dX6_isPane_4 rfl ?_
    refine z_iconst (v := (nI 3)) dX6_isPane_5 (by decide) ?_
    refine z_icmp_ge (tgt := 13) dX6_isPane_6 (by decide) (fun c_6 => ?_) (fun c_6 => ?_)
    · refine z_iconst (v := (nI 0)) dX6_isPane_13 (by decide) ?_
      exact z_zretR dX6_isPane_14 rfl (by decide) (by unfold s_X6_isPane; rw [if_neg c_1, if_pos c_6]) rfl rfl (Nat.le_refl _) (Nat.le_refl _)
    · refine z_iconst (v := (nI 1)) dX6_isPane_9 (by decide) ?_
      refine z_goto (tgt := 14) dX6_isPane_10 (by decide) ?_
      exact z_zretR dX6_isPane_14 rfl (by decide) (by unfold s_X6_isPane; rw [if_neg c_1, if_neg c_6]) rfl rfl (Nat.le_refl _) (Nat.le_refl _)
def s_X6_isPlace (a0 : Int32) : Int32 := (if a0 < 0 then (nI 0) else (if (nI 12) ≤ a0 then (nI 0) else (nI 1)))
set_option maxHeartbeats 4000000 in
set_option maxRecDepth 100000 in
theorem k_X6_isPlace {G : zG} {hh : zH} {sz : Nat} {a0 : Int32} : zC G 0 MX6_isPlace yX6_isPlace [.int a0] hh sz 0 0 (zR (.int (s_X6_isPlace a0)) hh sz) := by
  refine z_intro _ rfl zy_X6_isPlace (Nat.le_of_ble_eq_true rfl) ?_
  refine z_iload_n dX6_isPlace_0 rfl ?_
  refine z_if_lt (tgt := 14) dX6_isPlace_1 (by decide) (fun c_1 => ?_) (fun c_1 => ?_)
  · refine z_iconst (v := (nI 0)) dX6_isPlace_14 (by decide) ?_
    exact z_zretR dX6_isPlace_15 rfl (by decide) (by unfold s_X6_isPlace; rw [if_pos c_1]) rfl rfl (Nat.le_refl _) (Nat.le_refl _)
  · refine z_iload_n dX6_isPlace_4 rfl ?_
    refine z_bipush (v := (nI 12)) dX6_isPlace_5 (by decide) ?_
    refine z_icmp_ge (tgt := 14) dX6_isPlace_7 (by decide) (fun c_7 => ?_) (fun c_7 => ?_)
    · refine z_iconst (v := (nI 0)) dX6_isPlace_14 (by decide) ?_
      exact z_zretR dX6_isPlace_15 rfl (by decide) (by unfold s_X6_isPlace; rw [if_neg c_1, if_pos c_7]) rfl rfl (Nat.le_refl _) (Nat.le_refl _)
    · refine z_iconst (v := (nI 1)) dX6_isPlace_10 (by decide) ?_
      refine z_goto (tgt := 15) dX6_isPlace_11 (by decide) ?_
      exact z_zretR dX6_isPlace_15 rfl (by decide) (by unfold s_X6_isPlace; rw [if_neg c_1, if_neg c_7]) rfl rfl (Nat.le_refl _) (Nat.le_refl _)
def s_X6_isSlot (a0 : Int32) : Int32 := (if a0 < 0 then (nI 0) else (if (nI 2) ≤ a0 then (nI 0) else (nI 1)))
set_option maxHeartbeats 4000000 in
set_option maxRecDepth 100000 in
theorem k_X6_isSlot {G : zG} {hh : zH} {sz : Nat} {a0 : Int32} : zC G 0 MX6_isSlot yX6_isSlot [.int a0] hh sz 0 0 (zR (.int (s_X6_isSlot a0)) hh sz) := by
  refine z_intro _ rfl zy_X6_isSlot (Nat.le_of_ble_eq_true rfl) ?_
  refine z_iload_n dX6_isSlot_0 rfl ?_
  refine z_if_lt (tgt := 13) dX6_isSlot_1 (by decide) (fun c_1 => ?_) (fun c_1 => ?_)
  · refine z_iconst (v := (nI 0)) dX6_isSlot_13 (by decide) ?_
    exact z_zretR dX6_isSlot_14 rfl (by decide) (by unfold s_X6_isSlot; rw [if_pos c_1]) rfl rfl (Nat.le_refl _) (Nat.le_refl _)
  · refine z_iload_n dX6_isSlot_4 rfl ?_
    refine z_iconst (v := (nI 2)) dX6_isSlot_5 (by decide) ?_
    refine z_icmp_ge (tgt := 13) dX6_isSlot_6 (by decide) (fun c_6 => ?_) (fun c_6 => ?_)
    · refine z_iconst (v := (nI 0)) dX6_isSlot_13 (by decide) ?_
      exact z_zretR dX6_isSlot_14 rfl (by decide) (by unfold s_X6_isSlot; rw [if_neg c_1, if_pos c_6]) rfl rfl (Nat.le_refl _) (Nat.le_refl _)
    · refine z_iconst (v := (nI 1)) dX6_isSlot_9 (by decide) ?_
      refine z_goto (tgt := 14) dX6_isSlot_10 (by decide) ?_
      exact z_zretR dX6_isSlot_14 rfl (by decide) (by unfold s_X6_isSlot; rw [if_neg c_1, if_neg c_6]) rfl rfl (Nat.le_refl _) (Nat.le_refl _)
def s_X6_heightOf (a0 : Int32) : Int32 := (if (a0 - a0 / (nI 2) * (nI 2)) = 0 then (nI 5) else (nI 3))
set_option maxHeartbeats 4000000 in
set_option maxRecDepth 100000 in
theorem k_X6_heightOf {G : zG} {hh : zH} {sz : Nat} {a0 : Int32} : zC G 0 MX6_heightOf yX6_heightOf [.int a0] hh sz 0 0 (zR (.int (s_X6_heightOf a0)) hh sz) := by
  refine z_intro _ rfl zy_X6_heightOf (Nat.le_of_ble_eq_true rfl) ?_
  refine z_iload_n dX6_heightOf_0 rfl ?_
  refine z_iconst (v := (nI 2)) dX6_heightOf_1 (by decide) ?_
  refine z_irem dX6_heightOf_2 (by decide) ?_
  refine z_if_ne (tgt := 10) dX6_heightOf_3 (by decide) (fun c_3 => ?_) (fun c_3 => ?_)
  · refine z_iconst (v := (nI 3)) dX6_heightOf_10 (by decide) ?_
    exact z_iretR dX6_heightOf_11 rfl (by unfold s_X6_heightOf; rw [if_neg c_3]) rfl rfl (Nat.le_refl _) (Nat.le_refl _)
  · refine z_iconst (v := (nI 5)) dX6_heightOf_6 (by decide) ?_
    refine z_goto (tgt := 11) dX6_heightOf_7 (by decide) ?_
    exact z_iretR dX6_heightOf_11 rfl (by unfold s_X6_heightOf; rw [if_pos c_3]) rfl rfl (Nat.le_refl _) (Nat.le_refl _)
def s_X6_widthOf (a0 : Int32) : Int32 := (if (a0 - a0 / (nI 2) * (nI 2)) = 0 then (nI 3) else (nI 5))
set_option maxHeartbeats 4000000 in
set_option maxRecDepth 100000 in
theorem k_X6_widthOf {G : zG} {hh : zH} {sz : Nat} {a0 : Int32} : zC G 0 MX6_widthOf yX6_widthOf [.int a0] hh sz 0 0 (zR (.int (s_X6_widthOf a0)) hh sz) := by
  refine z_intro _ rfl zy_X6_widthOf (Nat.le_of_ble_eq_true rfl) ?_
  refine z_iload_n dX6_widthOf_0 rfl ?_
  refine z_iconst (v := (nI 2)) dX6_widthOf_1 (by decide) ?_
  refine z_irem dX6_widthOf_2 (by decide) ?_
  refine z_if_ne (tgt := 10) dX6_widthOf_3 (by decide) (fun c_3 => ?_) (fun c_3 => ?_)
  · refine z_iconst (v := (nI 5)) dX6_widthOf_10 (by decide) ?_
    exact z_iretR dX6_widthOf_11 rfl (by unfold s_X6_widthOf; rw [if_neg c_3]) rfl rfl (Nat.le_refl _) (Nat.le_refl _)
  · refine z_iconst (v := (nI 3)) dX6_widthOf_6 (by decide) ?_
    refine z_goto (tgt := 11) dX6_widthOf_7 (by decide) ?_
    exact z_iretR dX6_widthOf_11 rfl (by unfold s_X6_widthOf; rw [if_pos c_3]) rfl rfl (Nat.le_refl _) (Nat.le_refl _)
def s_X6_mirroringOf (a0 : Int32) : Int32 := (if (nI 4) ≤ a0 then (nI 1) else (nI 0))
set_option maxHeartbeats 4000000 in
set_option maxRecDepth 100000 in
theorem k_X6_mirroringOf {G : zG} {hh : zH} {sz : Nat} {a0 : Int32} : zC G 0 MX6_mirroringOf yX6_mirroringOf [.int a0] hh sz 0 0 (zR (.int (s_X6_mirroringOf a0)) hh sz) := by
  refine z_intro _ rfl zy_X6_mirroringOf (Nat.le_of_ble_eq_true rfl) ?_
  refine z_iload_n dX6_mirroringOf_0 rfl ?_
  refine z_iconst (v := (nI 4)) dX6_mirroringOf_1 (by decide) ?_
  refine z_icmp_ge (tgt := 9) dX6_mirroringOf_2 (by decide) (fun c_2 => ?_) (fun c_2 => ?_)
  · refine z_iconst (v := (nI 1)) dX6_mirroringOf_9 (by decide) ?_
    exact z_iretR dX6_mirroringOf_10 rfl (by unfold s_X6_mirroringOf; rw [if_pos c_2]) rfl rfl (Nat.le_refl _) (Nat.le_refl _)
  · refine z_iconst (v := (nI 0)) dX6_mirroringOf_5 (by decide) ?_
    refine z_goto (tgt := 10) dX6_mirroringOf_6 (by decide) ?_
    exact z_iretR dX6_mirroringOf_10 rfl (by unfold s_X6_mirroringOf; rw [if_neg c_2]) rfl rfl (Nat.le_refl _) (Nat.le_refl _)
def s_X6_rowIn (a0 : Int32) : Int32 := ((a0 / (nI 8)) / (nI 14))
set_option maxHeartbeats 4000000 in
set_option maxRecDepth 100000 in
theorem k_X6_rowIn {G : zG} {hh : zH} {sz : Nat} {a0 : Int32} : zC G 0 MX6_rowIn yX6_rowIn [.int a0] hh sz 0 0 (zR (.int (s_X6_rowIn a0)) hh sz) := by
  refine z_intro _ rfl zy_X6_rowIn (Nat.le_of_ble_eq_true rfl) ?_
  refine z_iload_n dX6_rowIn_0 rfl ?_
  refine z_bipush (v := (nI 8)) dX6_rowIn_1 (by decide) ?_
  refine z_idiv dX6_rowIn_3 (by decide) ?_
  refine z_bipush (v := (nI 14)) dX6_rowIn_4 (by decide) ?_
  refine z_idiv dX6_rowIn_6 (by decide) ?_
  exact z_iretR dX6_rowIn_7 rfl (rfl) rfl rfl (Nat.le_refl _) (Nat.le_refl _)
def s_X6_columnIn (a0 : Int32) : Int32 := ((a0 / (nI 8)) - (a0 / (nI 8)) / (nI 14) * (nI 14))
set_option maxHeartbeats 4000000 in
set_option maxRecDepth 100000 in
theorem k_X6_columnIn {G : zG} {hh : zH} {sz : Nat} {a0 : Int32} : zC G 0 MX6_columnIn yX6_columnIn [.int a0] hh sz 0 0 (zR (.int (s_X6_columnIn a0)) hh sz) := by
  refine z_intro _ rfl zy_X6_columnIn (Nat.le_of_ble_eq_true rfl) ?_
  refine z_iload_n dX6_columnIn_0 rfl ?_
  refine z_bipush (v := (nI 8)) dX6_columnIn_1 (by decide) ?_
  refine z_idiv dX6_columnIn_3 (by decide) ?_
  refine z_bipush (v := (nI 14)) dX6_columnIn_4 (by decide) ?_
  refine z_irem dX6_columnIn_6 (by decide) ?_
  exact z_iretR dX6_columnIn_7 rfl (rfl) rfl rfl (Nat.le_refl _) (Nat.le_refl _)
def s_X6_wayIn (a0 : Int32) : Int32 := (a0 - a0 / (nI 8) * (nI 8))
set_option maxHeartbeats 4000000 in
set_option maxRecDepth 100000 in
theorem k_X6_wayIn {G : zG} {hh : zH} {sz : Nat} {a0 : Int32} : zC G 0 MX6_wayIn yX6_wayIn [.int a0] hh sz 0 0 (zR (.int (s_X6_wayIn a0)) hh sz) := by
  refine z_intro _ rfl zy_X6_wayIn (Nat.le_of_ble_eq_true rfl) ?_
  refine z_iload_n dX6_wayIn_0 rfl ?_
  refine z_bipush (v := (nI 8)) dX6_wayIn_1 (by decide) ?_
  refine z_irem dX6_wayIn_3 (by decide) ?_
  exact z_iretR dX6_wayIn_4 rfl (rfl) rfl rfl (Nat.le_refl _) (Nat.le_refl _)
def s_X4_isOnSheet (a0 a1 a2 : Int32) : Int32 := (if a1 < 0 then (nI 0) else (if ((nI 9) - (s_X6_heightOf a0)) < a1 then (nI 0) else (if a2 < 0 then (nI 0) else (if ((nI 14) - (s_X6_widthOf a0)) < a2 then (nI 0) else (nI 1)))))
set_option maxHeartbeats 4000000 in
set_option maxRecDepth 100000 in
theorem k_X4_isOnSheet {G : zG} {hh : zH} {sz : Nat} {a0 a1 a2 : Int32} : zC G 1 MX4_isOnSheet yX4_isOnSheet [.int a0, .int a1, .int a2] hh sz 0 0 (zR (.int (s_X4_isOnSheet a0 a1 a2)) hh sz) := by
  refine z_intro _ rfl zy_X4_isOnSheet (Nat.le_of_ble_eq_true rfl) ?_
  refine z_iload_n dX4_isOnSheet_0 rfl ?_
  refine z_if_lt (tgt := 34) dX4_isOnSheet_1 (by decide) (fun c_1 => ?_) (fun c_1 => ?_)
  · refine z_iconst (v := (nI 0)) dX4_isOnSheet_34 (by decide) ?_
    exact z_zretR dX4_isOnSheet_35 rfl (by decide) (by unfold s_X4_isOnSheet; rw [if_pos c_1]) rfl rfl (Nat.le_refl _) (Nat.le_refl _)
  · refine z_iload_n dX4_isOnSheet_4 rfl ?_
    refine z_bipush (v := (nI 9)) dX4_isOnSheet_5 (by decide) ?_
    refine z_iload_n dX4_isOnSheet_7 rfl ?_
    refine z_callSNR k_X6_heightOf dX4_isOnSheet_8 ⟨zm_284, zm_32, zm_1, zm_31⟩  (by decide) zp_X6_heightOf rfl (Nat.le_of_ble_eq_true rfl) (Nat.le_refl _) (Nat.le_refl _) ?_
    refine z_isub dX4_isOnSheet_11 ?_
    refine z_icmp_gt (tgt := 34) dX4_isOnSheet_12 (by decide) (fun c_12 => ?_) (fun c_12 => ?_)
    · refine z_iconst (v := (nI 0)) dX4_isOnSheet_34 (by decide) ?_
      exact z_zretR dX4_isOnSheet_35 rfl (by decide) (by unfold s_X4_isOnSheet; rw [if_neg c_1, if_pos c_12]) rfl rfl (Nat.le_refl _) (Nat.le_refl _)
    · refine z_iload_n dX4_isOnSheet_15 rfl ?_
      refine z_if_lt (tgt := 34) dX4_isOnSheet_16 (by decide) (fun c_16 => ?_) (fun c_16 => ?_)
      · refine z_iconst (v := (nI 0)) dX4_isOnSheet_34 (by decide) ?_
        exact z_zretR dX4_isOnSheet_35 rfl (by decide) (by unfold s_X4_isOnSheet; rw [if_neg c_1, if_neg c_12, if_pos c_16]) rfl rfl (Nat.le_refl _) (Nat.le_refl _)
      · refine z_iload_n dX4_isOnSheet_19 rfl ?_
        refine z_bipush (v := (nI 14)) dX4_isOnSheet_20 (by decide) ?_
        refine z_iload_n dX4_isOnSheet_22 rfl ?_
        refine z_callSNR k_X6_widthOf dX4_isOnSheet_23 ⟨zm_285, zm_38, zm_1, zm_37⟩  (by decide) zp_X6_widthOf rfl (Nat.le_of_ble_eq_true rfl) (Nat.le_refl _) (Nat.le_refl _) ?_
        refine z_isub dX4_isOnSheet_26 ?_
        refine z_icmp_gt (tgt := 34) dX4_isOnSheet_27 (by decide) (fun c_27 => ?_) (fun c_27 => ?_)
        · refine z_iconst (v := (nI 0)) dX4_isOnSheet_34 (by decide) ?_
          exact z_zretR dX4_isOnSheet_35 rfl (by decide) (by unfold s_X4_isOnSheet; rw [if_neg c_1, if_neg c_12, if_neg c_16, if_pos c_27]) rfl rfl (Nat.le_refl _) (Nat.le_refl _)
        · refine z_iconst (v := (nI 1)) dX4_isOnSheet_30 (by decide) ?_
          refine z_goto (tgt := 35) dX4_isOnSheet_31 (by decide) ?_
          exact z_zretR dX4_isOnSheet_35 rfl (by decide) (by unfold s_X4_isOnSheet; rw [if_neg c_1, if_neg c_12, if_neg c_16, if_neg c_27]) rfl rfl (Nat.le_refl _) (Nat.le_refl _)
end
section
/-! numbers that stand for truth, for places -/
def zb (b : Bool) : Int32 := if b then 1 else 0
theorem zb_z (b : Bool) : zb b = 0 ∨ zb b = 1 := by cases b <;> simp [zb]
theorem zb_0 {b : Bool} (h : zb b = 0) : b = false := by cases b <;> simp_all [zb]
theorem zb_1 {b : Bool} (h : ¬ zb b = 0) : b = true := by cases b <;> simp_all [zb]
theorem zb_t : zb true = 1 := rfl
theorem zb_f : zb false = 0 := rfl
/-- x is a number below n -/
def isI (n : Nat) (x : Int32) : Bool := decide (0 ≤ x.toInt ∧ x.toInt < n)
theorem isI_iff {n : Nat} (hn : n < 2 ^ 31) {x : Int32} : isI n x = true ↔ ∃ j, j < n ∧ x = nI j := by
  unfold isI
  rw [decide_eq_true_iff]
  constructor
  · rintro ⟨h1, h2⟩
    rcases pk_ix x hn with h | h | h
    · rw [Int32.lt_iff_toInt_lt, Int32.toInt_zero] at h; omega
    · rw [Int32.le_iff_toInt_le, nI_toInt hn] at h; omega
    · exact h
  · rintro ⟨j, hj, rfl⟩
    rw [nI_toInt (by omega)]; omega
theorem isI_nI {n j : Nat} (hn : n < 2 ^ 31) (hj : j < n) : isI n (nI j) = true := (isI_iff hn).mpr ⟨j, hj, rfl⟩
theorem isI_not {n : Nat} {x : Int32} (h : isI n x = false) : x.toInt < 0 ∨ (n : Int) ≤ x.toInt := by
  unfold isI at h
  rw [decide_eq_false_iff_not] at h
  omega
/-- x is 1, 2, 3 or 4 -/
def isC (x : Int32) : Bool := decide (1 ≤ x.toInt ∧ x.toInt ≤ 4)
theorem nI_t {n : Nat} (h : n < 2 ^ 31) : (nI n).toInt = n := nI_toInt h
theorem in_of (x : Int32) {a b : Nat} (ha : a < 2 ^ 31) (hb : b < 2 ^ 31) : s_X7_in x (nI a) (nI b) = zb (decide ((a : Int) ≤ x.toInt ∧ x.toInt ≤ b)) := by
  unfold s_X7_in
  have e1 : (x < nI a) ↔ x.toInt < a := by rw [Int32.lt_iff_toInt_lt, nI_t ha]
  have e2 : (nI b < x) ↔ (b : Int) < x.toInt := by rw [Int32.lt_iff_toInt_lt, nI_t hb]
  by_cases h1 : x < nI a
  · rw [if_pos h1]
    rw [e1] at h1
    rw [decide_eq_false (by omega)]; rfl
  · rw [if_neg h1]
    rw [e1] at h1
    by_cases h2 : nI b < x
    · rw [if_pos h2]
      rw [e2] at h2
      rw [decide_eq_false (by omega)]; rfl
    · rw [if_neg h2]
      rw [e2] at h2
      rw [decide_eq_true (by omega)]; rfl
theorem in_I (x : Int32) {n : Nat} (hn : n < 2 ^ 31) : s_X7_in x (nI 0) (nI n - nI 1) = zb (isI n x) := by
  cases n with
  | zero =>
    unfold s_X7_in
    have e2 : (nI 0 - nI 1 < x) ↔ (-1 : Int) < x.toInt := by rw [Int32.lt_iff_toInt_lt, show (nI 0 - nI 1).toInt = -1 from by decide]
    have e1 : (x < nI 0) ↔ x.toInt < 0 := by rw [Int32.lt_iff_toInt_lt, show (nI 0).toInt = 0 from by decide]
    unfold isI
    rw [decide_eq_false (by omega)]
    by_cases h1 : x < nI 0
    · rw [if_pos h1]; rfl
    · rw [if_neg h1, if_pos (e2.mpr (by rw [e1] at h1; omega))]; rfl
  | succ n =>
    rw [pk_sub (by omega), in_of x (by omega) (by omega)]
    unfold isI
    congr 2
    apply propext
    omega
theorem in_I' (x : Int32) {n : Nat} (hn : n + 1 < 2 ^ 31) : s_X7_in x (nI 0) (nI n) = zb (isI (n + 1) x) := by
  rw [in_of x (by omega) (by omega)]
  unfold isI
  congr 2
  apply propext
  omega
theorem in_C (x : Int32) : s_X7_isColour x = zb (isC x) := by
  unfold s_X7_isColour
  rw [in_of x (by omega) (by omega)]
  rfl
theorem isL7 (x : Int32) : s_X7_isLetter x = zb (isI 8 x) := in_I' x (by omega)
theorem isSp7 (x y : Int32) : s_X7_isSpot x y = zb (isI 3 x && isI 12 y) := by
  unfold s_X7_isSpot
  rw [in_I' x (n := 2) (by omega), in_I' y (n := 11) (by omega)]
  cases isI (2 + 1) x <;> cases isI (11 + 1) y <;> rfl
theorem six_I (x : Int32) {n : Nat} (hn : n < 2 ^ 31) : (if x < 0 then nI 0 else if nI n ≤ x then nI 0 else nI 1) = zb (isI n x) := by
  have e1 : (x < 0) ↔ x.toInt < 0 := by rw [Int32.lt_iff_toInt_lt, Int32.toInt_zero]
  have e2 : (nI n ≤ x) ↔ (n : Int) ≤ x.toInt := by rw [Int32.le_iff_toInt_le, nI_t hn]
  unfold isI
  by_cases h1 : x < 0
  · rw [if_pos h1]
    rw [e1] at h1
    rw [decide_eq_false (by omega)]; rfl
  · rw [if_neg h1]
    rw [e1] at h1
    by_cases h2 : nI n ≤ x
    · rw [if_pos h2]
      rw [e2] at h2
      rw [decide_eq_false (by omega)]; rfl
    · rw [if_neg h2]
      rw [e2] at h2
      rw [decide_eq_true (by omega)]; rfl
theorem isL6 (x : Int32) : s_X6_isLetter x = zb (isI 8 x) := six_I x (by omega)
theorem isW6 (x : Int32) : s_X6_isWay x = zb (isI 8 x) := six_I x (by omega)
theorem isP6 (x : Int32) : s_X6_isPane x = zb (isI 3 x) := six_I x (by omega)
theorem isPl6 (x : Int32) : s_X6_isPlace x = zb (isI 12 x) := six_I x (by omega)
theorem isS6 (x : Int32) : s_X6_isSlot x = zb (isI 2 x) := six_I x (by omega)
theorem isC6 (x : Int32) : s_X6_isColour x = zb (isC x) := by
  unfold s_X6_isColour isC
  have e1 : (x < nI 1) ↔ x.toInt < 1 := by rw [Int32.lt_iff_toInt_lt]; rfl
  have e2 : (nI 4 < x) ↔ (4 : Int) < x.toInt := by rw [Int32.lt_iff_toInt_lt]; rfl
  by_cases h1 : x < nI 1
  · rw [if_pos h1]
    rw [e1] at h1
    rw [decide_eq_false (by omega)]; rfl
  · rw [if_neg h1]
    rw [e1] at h1
    by_cases h2 : nI 4 < x
    · rw [if_pos h2]
      rw [e2] at h2
      rw [decide_eq_false (by omega)]; rfl
    · rw [if_neg h2]
      rw [e2] at h2
      rw [decide_eq_true (by omega)]; rfl
theorem isM6 (x : Int32) : s_X6_isMirroring x = zb (isI 2 x) := by
  unfold s_X6_isMirroring
  by_cases h0 : x = 0
  · subst h0; rfl
  · rw [if_neg h0]
    by_cases h1 : x = nI 1
    · subst h1; rfl
    · rw [if_neg h1]
      cases h : isI 2 x with
      | false => rfl
      | true =>
        obtain ⟨j, hj, e⟩ := (isI_iff (by omega)).mp h
        exfalso
        match j, hj with
        | 0, _ => exact h0 (by rw [e]; rfl)
        | 1, _ => exact h1 e
/-! letters -/
def hiN (w : Nat) : Nat := if w % 2 = 0 then 5 else 3
def wiN (w : Nat) : Nat := if w % 2 = 0 then 3 else 5
theorem hi7 {w : Nat} (h : w < 8) : s_X7_high (nI w) = nI (hiN w) := by
  match w, h with
  | 0, _ => decide
  | 1, _ => decide
  | 2, _ => decide
  | 3, _ => decide
  | 4, _ => decide
  | 5, _ => decide
  | 6, _ => decide
  | 7, _ => decide
theorem wi7 {w : Nat} (h : w < 8) : s_X7_wide (nI w) = nI (wiN w) := by
  match w, h with
  | 0, _ => decide
  | 1, _ => decide
  | 2, _ => decide
  | 3, _ => decide
  | 4, _ => decide
  | 5, _ => decide
  | 6, _ => decide
  | 7, _ => decide
theorem hi6 (x : Int32) : s_X6_heightOf x = s_X7_high x := rfl
theorem wi6 (x : Int32) : s_X6_widthOf x = s_X7_wide x := rfl
theorem mir6 {w : Nat} (h : w < 8) : s_X6_mirroringOf (nI w) = nI (w / 4) := by
  match w, h with
  | 0, _ => decide
  | 1, _ => decide
  | 2, _ => decide
  | 3, _ => decide
  | 4, _ => decide
  | 5, _ => decide
  | 6, _ => decide
  | 7, _ => decide
theorem hiN_le (w : Nat) : hiN w ≤ 5 := by unfold hiN; split <;> omega
theorem wiN_le (w : Nat) : wiN w ≤ 5 := by unfold wiN; split <;> omega
theorem hiN_ge (w : Nat) : 3 ≤ hiN w := by unfold hiN; split <;> omega
theorem wiN_ge (w : Nat) : 3 ≤ wiN w := by unfold wiN; split <;> omega
theorem ofOne_nI (k w : Nat) : s_X7_ofOne (nI k) (nI w) = nI (3 + 11 * k + w) := by unfold s_X7_ofOne; rw [pk_mul, nI_add, nI_add]
theorem at_nI (k w : Nat) : s_X7_at (nI k) (nI w) = nI (69 + 8 * k + w) := by unfold s_X7_at; rw [pk_mul, nI_add, nI_add]
/-- the rows of all letters in all ways: 40 * letter + 5 * way + row -/
def wlT : List Nat := [2, 2, 2, 2, 2, 0, 31, 0, 0, 0, 2, 2, 2, 2, 2, 0, 31, 0, 0, 0, 2, 2, 2, 2, 2, 0, 31, 0, 0, 0, 2, 2, 2, 2, 2, 0, 31, 0, 0, 0, 1, 1, 1, 1, 7, 31, 1, 1, 0, 0, 7, 4, 4, 4, 4, 16, 16, 31, 0, 0, 4, 4, 4, 4, 7, 1, 1, 31, 0, 0, 7, 1, 1, 1, 1, 31, 16, 16, 0, 0, 7, 5, 5, 5, 7, 31, 17, 31, 0, 0, 7, 5, 5, 5, 7, 31, 17, 31, 0, 0, 7, 5, 5, 5, 7, 31, 17, 31, 0, 0, 7, 5, 5, 5, 7, 31, 17, 31, 0, 0, 7, 2, 2, 2, 2, 16, 31, 16, 0, 0, 2, 2, 2, 2, 7, 1, 31, 1, 0, 0, 7, 2, 2, 2, 2, 16, 31, 16, 0, 0, 2, 2, 2, 2, 7, 1, 31, 1, 0, 0, 5, 5, 5, 5, 7, 31, 1, 31, 0, 0, 7, 5, 5, 5, 5, 31, 16, 31, 0, 0, 5, 5, 5, 5, 7, 31, 1, 31, 0, 0, 7, 5, 5, 5, 5, 31, 16, 31, 0, 0, 7, 1, 7, 1, 7, 31, 21, 21, 0, 0, 7, 4, 7, 4, 7, 21, 21, 31, 0, 0, 7, 4, 7, 4, 7, 21, 21, 31, 0, 0, 7, 1, 7, 1, 7, 31, 21, 21, 0, 0, 5, 5, 7, 5, 5, 31, 4, 31, 0, 0, 5, 5, 7, 5, 5, 31, 4, 31, 0, 0, 5, 5, 7, 5, 5, 31, 4, 31, 0, 0, 5, 5, 7, 5, 5, 31, 4, 31, 0, 0, 7, 1, 7, 4, 7, 29, 21, 23, 0, 0, 7, 1, 7, 4, 7, 29, 21, 23, 0, 0, 7, 4, 7, 1, 7, 23, 21, 29, 0, 0, 7, 4, 7, 1, 7, 23, 21, 29, 0, 0]
def tabN (k : Nat) : Nat := wlT.getD k 0
def tabI (k : Nat) : Int32 := nI (tabN k)
theorem tabN_out {k : Nat} (h : 320 ≤ k) : tabN k = 0 := by
  unfold tabN
  rw [List.getD_eq_getElem?_getD, List.getElem?_eq_none (by rw [show wlT.length = 320 from by decide +kernel]; exact h)]
  rfl
theorem tabN_lt (k : Nat) : tabN k < 32 := by
  by_cases h : k < 320
  · have : ∀ k, k < 320 → tabN k < 32 := by decide +kernel
    exact this k h
  · rw [tabN_out (by omega)]; omega
/-- how many bits of m are 1, of f bits -/
def popF : Nat → Nat → Nat
  | 0, _ => 0
  | f + 1, m => m % 2 + popF f (m / 2)
def popc (m : Nat) : Nat := popF 32 m
/-- the squares of a letter -/
def sqN (l : Nat) : Nat := popc (tabN (40 * l)) + popc (tabN (40 * l + 1)) + popc (tabN (40 * l + 2)) + popc (tabN (40 * l + 3)) + popc (tabN (40 * l + 4))
end
section
theorem nI_and (a b : Nat) : nI a &&& nI b = nI (a &&& b) := by
  apply Int32.toBitVec_inj.mp
  show BitVec.ofNat 32 a &&& BitVec.ofNat 32 b = BitVec.ofNat 32 (a &&& b)
  rw [BitVec.ofNat_and]
theorem nI_or (a b : Nat) : nI a ||| nI b = nI (a ||| b) := by
  apply Int32.toBitVec_inj.mp
  show BitVec.ofNat 32 a ||| BitVec.ofNat 32 b = BitVec.ofNat 32 (a ||| b)
  rw [BitVec.ofNat_or]
theorem nI_sl : ∀ n, n < 32 → ((nI n &&& 31).toBitVec.smod 32).toNat = n := by decide
theorem nI_shl (a : Nat) {b : Nat} (hb : b < 32) : nI a <<< (nI b &&& 31) = nI (a * 2 ^ b) := by
  apply Int32.toBitVec_inj.mp
  rw [Int32.toBitVec_shiftLeft]
  apply BitVec.eq_of_toNat_eq
  rw [BitVec.shiftLeft_eq', nI_sl b hb]
  show (BitVec.ofNat 32 a <<< b).toNat = (BitVec.ofNat 32 (a * 2 ^ b)).toNat
  rw [BitVec.toNat_shiftLeft, BitVec.toNat_ofNat, BitVec.toNat_ofNat, Nat.shiftLeft_eq, Nat.mod_mul_mod]
theorem nI_shr {a b : Nat} (ha : a < 2 ^ 31) (hb : b < 32) : nI a >>> (nI b &&& 31) = nI (a / 2 ^ b) := pk_shrN ha _ b (nI_sl b hb)
section Z8
variable {M : zM} {G : zG} {d mc ms k n : Nat} {hh : zH} {sz : Nat} {pc : Nat} {lv : List (Option Value)} {st rest : List Value} {Post : Option Value → zH → Nat → Nat → Nat → Prop} {a b : Nat}
theorem z_iaddN (hd : decode M.2.1 pc = .ok (.iadd, 1)) (kk : zS M G d mc ms k n hh sz (pc + 1) lv (.int (nI (a + b)) :: st) Post) : zS M G d mc ms k n hh sz pc lv (.int (nI b) :: .int (nI a) :: st) Post := z_iadd hd (by rw [nI_add]; exact kk)
theorem z_imulN (hd : decode M.2.1 pc = .ok (.imul, 1)) (kk : zS M G d mc ms k n hh sz (pc + 1) lv (.int (nI (a * b)) :: st) Post) : zS M G d mc ms k n hh sz pc lv (.int (nI b) :: .int (nI a) :: st) Post := z_imul hd (by rw [pk_mul]; exact kk)
theorem z_isubN (hd : decode M.2.1 pc = .ok (.isub, 1)) (h : b ≤ a) (kk : zS M G d mc ms k n hh sz (pc + 1) lv (.int (nI (a - b)) :: st) Post) : zS M G d mc ms k n hh sz pc lv (.int (nI b) :: .int (nI a) :: st) Post := z_isub hd (by rw [pk_sub h]; exact kk)
theorem z_iandN (hd : decode M.2.1 pc = .ok (.iand, 1)) (kk : zS M G d mc ms k n hh sz (pc + 1) lv (.int (nI (a &&& b)) :: st) Post) : zS M G d mc ms k n hh sz pc lv (.int (nI b) :: .int (nI a) :: st) Post := z_iand hd (by rw [nI_and]; exact kk)
theorem z_iorN (hd : decode M.2.1 pc = .ok (.ior, 1)) (kk : zS M G d mc ms k n hh sz (pc + 1) lv (.int (nI (a ||| b)) :: st) Post) : zS M G d mc ms k n hh sz pc lv (.int (nI b) :: .int (nI a) :: st) Post := z_ior hd (by rw [nI_or]; exact kk)
theorem z_ishlN (hd : decode M.2.1 pc = .ok (.ishl, 1)) (hb : b < 32) (kk : zS M G d mc ms k n hh sz (pc + 1) lv (.int (nI (a * 2 ^ b)) :: st) Post) : zS M G d mc ms k n hh sz pc lv (.int (nI b) :: .int (nI a) :: st) Post := z_ishl hd (by rw [nI_shl a hb]; exact kk)
theorem z_ishrN (hd : decode M.2.1 pc = .ok (.ishr, 1)) (ha : a < 2 ^ 31) (hb : b < 32) (kk : zS M G d mc ms k n hh sz (pc + 1) lv (.int (nI (a / 2 ^ b)) :: st) Post) : zS M G d mc ms k n hh sz pc lv (.int (nI b) :: .int (nI a) :: st) Post := z_ishr hd (by rw [nI_shr ha hb]; exact kk)
theorem z_idivN (hd : decode M.2.1 pc = .ok (.idiv, 1)) (ha : a < 2 ^ 31) (h0 : 0 < b) (hb : b < 2 ^ 31) (kk : zS M G d mc ms k n hh sz (pc + 1) lv (.int (nI (a / b)) :: st) Post) : zS M G d mc ms k n hh sz pc lv (.int (nI b) :: .int (nI a) :: st) Post := z_idiv hd (nI_ne0 h0 hb) (by rw [pk_div ha h0 hb]; exact kk)
theorem z_iremN (hd : decode M.2.1 pc = .ok (.irem, 1)) (ha : a < 2 ^ 31) (h0 : 0 < b) (hb : b < 2 ^ 31) (kk : zS M G d mc ms k n hh sz (pc + 1) lv (.int (nI (a % b)) :: st) Post) : zS M G d mc ms k n hh sz pc lv (.int (nI b) :: .int (nI a) :: st) Post := z_irem hd (nI_ne0 h0 hb) (by rw [pk_rem ha h0 hb]; exact kk)
theorem z_iincU {i : Nat} {lv' : List (Option Value)} (hd : decode M.2.1 pc = .ok (.iinc i 1, 3)) (hv : lv[i]? = some (some (.int (nI a)))) (hn : i < M.2.2.1) (hok : zok lv i = true) (hlv : lv.set i (some (.int (nI (a + 1)))) = lv') (kk : zS M G d mc ms k n hh sz (pc + 3) lv' st Post) : zS M G d mc ms k n hh sz pc lv st Post := z_iinc (v := nI (a + 1)) hd hv (by rw [nI_succ]; rfl) hn hok hlv kk
theorem z_iincD {i : Nat} {lv' : List (Option Value)} (hd : decode M.2.1 pc = .ok (.iinc i (-1), 3)) (hv : lv[i]? = some (some (.int (nI (a + 1))))) (hn : i < M.2.2.1) (hok : zok lv i = true) (hlv : lv.set i (some (.int (nI a))) = lv') (kk : zS M G d mc ms k n hh sz (pc + 3) lv' st Post) : zS M G d mc ms k n hh sz pc lv st Post := z_iinc (v := nI a) hd hv (pk_m1 a) hn hok hlv kk
/-- branches over numbers -/
theorem z_ltN {t1 t2 : Prop} (ha : a < 2 ^ 31) (hb : b < 2 ^ 31) (h1 : a < b → t1) (h2 : ¬ a < b → t2) : (nI a < nI b → t1) ∧ (¬ nI a < nI b → t2) := ⟨fun h => h1 ((nI_ltI ha hb).mp h), fun h => h2 (fun z => h ((nI_ltI ha hb).mpr z))⟩
end Z8
/-! the reference's object: its arrays are numbered 0 to 7: s, aside, history, slots, isSaved, pad, shapes, found -/
def mLen (i : Nat) : Nat := ([453, 453, 2718, 906, 2, 80, 320, 3] : List Nat).getD i 0
def mCell (G : zG) (mo : Nat) (τ : Nat → Nat → Int32) (kp ln : Int32) (k : Nat) : va_E :=
  if k = 0 then .inr (7, [.ref (mo + 1), .ref (mo + 2), .ref (mo + 3), .int kp, .ref (mo + 4), .ref (mo + 5), .ref (mo + 6), .int ln, .ref (mo + 7), .ref (mo + 8)])
  else .inl (G.2.2.1 (if k = 5 then 2 else 0), mLen (k - 1), .inl (τ (k - 1)))
def mp (G : zG) (mo : Nat) (τ : Nat → Nat → Int32) (kp ln : Int32) (hh : zH) : zH := fun a => if mo ≤ a ∧ a < mo + 9 then some (mCell G mo τ kp ln (a - mo)) else hh a
def mu (τ : Nat → Nat → Int32) (i : Nat) (f : Nat → Int32) : Nat → Nat → Int32 := fun j => if j = i then f else τ j
theorem mu_eq (τ : Nat → Nat → Int32) (i : Nat) (f : Nat → Int32) : mu τ i f i = f := if_pos rfl
theorem mu_ne {τ : Nat → Nat → Int32} {i j : Nat} {f : Nat → Int32} (h : j ≠ i) : mu τ i f j = τ j := if_neg h
theorem mu_mu (τ : Nat → Nat → Int32) (i : Nat) (f g : Nat → Int32) : mu (mu τ i f) i g = mu τ i g := by
  funext j
  unfold mu
  split <;> rfl
theorem mu_self (τ : Nat → Nat → Int32) (i : Nat) : mu τ i (τ i) = τ := by
  funext j
  unfold mu
  split
  · next h => rw [h]
  · rfl
theorem mu_comm {τ : Nat → Nat → Int32} {i j : Nat} {f g : Nat → Int32} (h : i ≠ j) : mu (mu τ i f) j g = mu (mu τ j g) i f := by
  funext q
  unfold mu
  by_cases h1 : q = i
  · rw [if_pos h1, if_neg (by omega)]; simp [h1]
  · rw [if_neg h1]; simp [h1]
section M8
variable {G : zG} {mo : Nat} {τ : Nat → Nat → Int32} {kp ln : Int32} {hh : zH}
theorem mp_at {k : Nat} (h : k < 9) : mp G mo τ kp ln hh (mo + k) = some (mCell G mo τ kp ln k) := by
  unfold mp
  rw [if_pos (by omega)]
  congr 2
  omega
theorem mp_out {a : Nat} (h : ¬ (mo ≤ a ∧ a < mo + 9)) : mp G mo τ kp ln hh a = hh a := if_neg h
theorem mp_o : mp G mo τ kp ln hh mo = some (.inr (7, [.ref (mo + 1), .ref (mo + 2), .ref (mo + 3), .int kp, .ref (mo + 4), .ref (mo + 5), .ref (mo + 6), .int ln, .ref (mo + 7), .ref (mo + 8)])) := mp_at (k := 0) (by omega)
theorem mp_up {k : Nat} (h : k < 9) {e : va_E} {τ2 : Nat → Nat → Int32} {kp2 ln2 : Int32} (he : ∀ j, j < 9 → (if j = k then e else mCell G mo τ kp ln j) = mCell G mo τ2 kp2 ln2 j) : zup (mp G mo τ kp ln hh) (mo + k) e = mp G mo τ2 kp2 ln2 hh := by
  funext q
  by_cases hq : q = mo + k
  · subst hq
    rw [zup_eq, mp_at h, ← he k h, if_pos rfl]
  · rw [zup_ne hq]
    unfold mp
    by_cases hr : mo ≤ q ∧ q < mo + 9
    · rw [if_pos hr, if_pos hr, ← he (q - mo) (by omega), if_neg (by omega)]
    · rw [if_neg hr, if_neg hr]
theorem mp_ua {i : Nat} (h : i < 8) {f : Nat → Int32} : zup (mp G mo τ kp ln hh) (mo + (i + 1)) (.inl (G.2.2.1 (if i + 1 = 5 then 2 else 0), mLen i, .inl f)) = mp G mo (mu τ i f) kp ln hh := by
  refine mp_up (by omega) (fun j hj => ?_)
  by_cases hji : j = i + 1
  · subst hji
    rw [if_pos rfl]
    unfold mCell
    rw [if_neg (Nat.succ_ne_zero i), Nat.add_sub_cancel, mu_eq]
  · rw [if_neg hji]
    unfold mCell
    by_cases h0 : j = 0
    · rw [if_pos h0, if_pos h0]
    · rw [if_neg h0, if_neg h0, mu_ne (by omega)]
theorem mp_uk {v : Int32} : zup (mp G mo τ kp ln hh) mo (.inr (7, [.ref (mo + 1), .ref (mo + 2), .ref (mo + 3), .int v, .ref (mo + 4), .ref (mo + 5), .ref (mo + 6), .int ln, .ref (mo + 7), .ref (mo + 8)])) = mp G mo τ v ln hh := by
  refine mp_up (k := 0) (by omega) (fun j hj => ?_)
  by_cases h0 : j = 0
  · subst h0; rfl
  · rw [if_neg h0]; unfold mCell; rw [if_neg h0, if_neg h0]
theorem mp_ul {v : Int32} : zup (mp G mo τ kp ln hh) mo (.inr (7, [.ref (mo + 1), .ref (mo + 2), .ref (mo + 3), .int kp, .ref (mo + 4), .ref (mo + 5), .ref (mo + 6), .int v, .ref (mo + 7), .ref (mo + 8)])) = mp G mo τ kp v hh := by
  refine mp_up (k := 0) (by omega) (fun j hj => ?_)
  by_cases h0 : j = 0
  · subst h0; rfl
  · rw [if_neg h0]; unfold mCell; rw [if_neg h0, if_neg h0]
theorem mp_a0 : mp G mo τ kp ln hh (mo + 1) = some (.inl (G.2.2.1 0, 453, .inl (τ 0))) := mp_at (k := 1) (by omega)
theorem mp_u0 {f : Nat → Int32} : zup (mp G mo τ kp ln hh) (mo + 1) (.inl (G.2.2.1 0, 453, .inl f)) = mp G mo (mu τ 0 f) kp ln hh := mp_ua (i := 0) (by omega)
theorem mp_a1 : mp G mo τ kp ln hh (mo + 2) = some (.inl (G.2.2.1 0, 453, .inl (τ 1))) := mp_at (k := 2) (by omega)
theorem mp_u1 {f : Nat → Int32} : zup (mp G mo τ kp ln hh) (mo + 2) (.inl (G.2.2.1 0, 453, .inl f)) = mp G mo (mu τ 1 f) kp ln hh := mp_ua (i := 1) (by omega)
theorem mp_a2 : mp G mo τ kp ln hh (mo + 3) = some (.inl (G.2.2.1 0, 2718, .inl (τ 2))) := mp_at (k := 3) (by omega)
theorem mp_u2 {f : Nat → Int32} : zup (mp G mo τ kp ln hh) (mo + 3) (.inl (G.2.2.1 0, 2718, .inl f)) = mp G mo (mu τ 2 f) kp ln hh := mp_ua (i := 2) (by omega)
theorem mp_a3 : mp G mo τ kp ln hh (mo + 4) = some (.inl (G.2.2.1 0, 906, .inl (τ 3))) := mp_at (k := 4) (by omega)
theorem mp_u3 {f : Nat → Int32} : zup (mp G mo τ kp ln hh) (mo + 4) (.inl (G.2.2.1 0, 906, .inl f)) = mp G mo (mu τ 3 f) kp ln hh := mp_ua (i := 3) (by omega)
theorem mp_a4 : mp G mo τ kp ln hh (mo + 5) = some (.inl (G.2.2.1 2, 2, .inl (τ 4))) := mp_at (k := 5) (by omega)
theorem mp_u4 {f : Nat → Int32} : zup (mp G mo τ kp ln hh) (mo + 5) (.inl (G.2.2.1 2, 2, .inl f)) = mp G mo (mu τ 4 f) kp ln hh := mp_ua (i := 4) (by omega)
theorem mp_a5 : mp G mo τ kp ln hh (mo + 6) = some (.inl (G.2.2.1 0, 80, .inl (τ 5))) := mp_at (k := 6) (by omega)
theorem mp_u5 {f : Nat → Int32} : zup (mp G mo τ kp ln hh) (mo + 6) (.inl (G.2.2.1 0, 80, .inl f)) = mp G mo (mu τ 5 f) kp ln hh := mp_ua (i := 5) (by omega)
theorem mp_a6 : mp G mo τ kp ln hh (mo + 7) = some (.inl (G.2.2.1 0, 320, .inl (τ 6))) := mp_at (k := 7) (by omega)
theorem mp_u6 {f : Nat → Int32} : zup (mp G mo τ kp ln hh) (mo + 7) (.inl (G.2.2.1 0, 320, .inl f)) = mp G mo (mu τ 6 f) kp ln hh := mp_ua (i := 6) (by omega)
theorem mp_a7 : mp G mo τ kp ln hh (mo + 8) = some (.inl (G.2.2.1 0, 3, .inl (τ 7))) := mp_at (k := 8) (by omega)
theorem mp_u7 {f : Nat → Int32} : zup (mp G mo τ kp ln hh) (mo + 8) (.inl (G.2.2.1 0, 3, .inl f)) = mp G mo (mu τ 7 f) kp ln hh := mp_ua (i := 7) (by omega)
end M8
/-- with the row s and the row found of their own -/
def mqt (s fo : Nat → Int32) (τ : Nat → Nat → Int32) : Nat → Nat → Int32 := fun i => if i = 0 then s else if i = 7 then fo else τ i
def mq (G : zG) (mo : Nat) (s fo : Nat → Int32) (τ : Nat → Nat → Int32) (kp ln : Int32) (hh : zH) : zH := mp G mo (mqt s fo τ) kp ln hh
theorem mqt_0 (s fo f : Nat → Int32) (τ : Nat → Nat → Int32) : mu (mqt s fo τ) 0 f = mqt f fo τ := by
  funext j
  unfold mu mqt
  by_cases h : j = 0 <;> simp [h]
theorem mqt_7 (s fo f : Nat → Int32) (τ : Nat → Nat → Int32) : mu (mqt s fo τ) 7 f = mqt s f τ := by
  funext j
  unfold mu mqt
  by_cases h : j = 7
  · subst h; simp
  · simp [h]
theorem mqt_i {s fo f : Nat → Int32} {τ : Nat → Nat → Int32} {i : Nat} (h0 : i ≠ 0) (h7 : i ≠ 7) : mu (mqt s fo τ) i f = mqt s fo (mu τ i f) := by
  funext j
  unfold mu mqt
  by_cases h : j = i
  · subst h; simp [h0, h7]
  · simp [h]
section MQ8
variable {G : zG} {mo : Nat} {s fo : Nat → Int32} {τ : Nat → Nat → Int32} {kp ln : Int32} {hh : zH}
theorem mq_o : mq G mo s fo τ kp ln hh mo = some (.inr (7, [.ref (mo + 1), .ref (mo + 2), .ref (mo + 3), .int kp, .ref (mo + 4), .ref (mo + 5), .ref (mo + 6), .int ln, .ref (mo + 7), .ref (mo + 8)])) := mp_o
theorem mq_uk {v : Int32} : zup (mq G mo s fo τ kp ln hh) mo (.inr (7, [.ref (mo + 1), .ref (mo + 2), .ref (mo + 3), .int v, .ref (mo + 4), .ref (mo + 5), .ref (mo + 6), .int ln, .ref (mo + 7), .ref (mo + 8)])) = mq G mo s fo τ v ln hh := mp_uk
theorem mq_ul {v : Int32} : zup (mq G mo s fo τ kp ln hh) mo (.inr (7, [.ref (mo + 1), .ref (mo + 2), .ref (mo + 3), .int kp, .ref (mo + 4), .ref (mo + 5), .ref (mo + 6), .int v, .ref (mo + 7), .ref (mo + 8)])) = mq G mo s fo τ kp v hh := mp_ul
theorem mq_out {a : Nat} (h : ¬ (mo ≤ a ∧ a < mo + 9)) : mq G mo s fo τ kp ln hh a = hh a := if_neg h
theorem mq_a0 : mq G mo s fo τ kp ln hh (mo + 1) = some (.inl (G.2.2.1 0, 453, .inl (s))) := mp_a0
theorem mq_u0 {f : Nat → Int32} : zup (mq G mo s fo τ kp ln hh) (mo + 1) (.inl (G.2.2.1 0, 453, .inl f)) = mq G mo f fo τ kp ln hh := by unfold mq; rw [mp_u0, mqt_0]
theorem mq_a1 : mq G mo s fo τ kp ln hh (mo + 2) = some (.inl (G.2.2.1 0, 453, .inl (τ 1))) := mp_a1
theorem mq_u1 {f : Nat → Int32} : zup (mq G mo s fo τ kp ln hh) (mo + 2) (.inl (G.2.2.1 0, 453, .inl f)) = mq G mo s fo (mu τ 1 f) kp ln hh := by unfold mq; rw [mp_u1, mqt_i (i := 1) (by decide) (by decide)]
theorem mq_a2 : mq G mo s fo τ kp ln hh (mo + 3) = some (.inl (G.2.2.1 0, 2718, .inl (τ 2))) := mp_a2
theorem mq_u2 {f : Nat → Int32} : zup (mq G mo s fo τ kp ln hh) (mo + 3) (.inl (G.2.2.1 0, 2718, .inl f)) = mq G mo s fo (mu τ 2 f) kp ln hh := by unfold mq; rw [mp_u2, mqt_i (i := 2) (by decide) (by decide)]
theorem mq_a3 : mq G mo s fo τ kp ln hh (mo + 4) = some (.inl (G.2.2.1 0, 906, .inl (τ 3))) := mp_a3
theorem mq_u3 {f : Nat → Int32} : zup (mq G mo s fo τ kp ln hh) (mo + 4) (.inl (G.2.2.1 0, 906, .inl f)) = mq G mo s fo (mu τ 3 f) kp ln hh := by unfold mq; rw [mp_u3, mqt_i (i := 3) (by decide) (by decide)]
theorem mq_a4 : mq G mo s fo τ kp ln hh (mo + 5) = some (.inl (G.2.2.1 2, 2, .inl (τ 4))) := mp_a4
theorem mq_u4 {f : Nat → Int32} : zup (mq G mo s fo τ kp ln hh) (mo + 5) (.inl (G.2.2.1 2, 2, .inl f)) = mq G mo s fo (mu τ 4 f) kp ln hh := by unfold mq; rw [mp_u4, mqt_i (i := 4) (by decide) (by decide)]
theorem mq_a5 : mq G mo s fo τ kp ln hh (mo + 6) = some (.inl (G.2.2.1 0, 80, .inl (τ 5))) := mp_a5
theorem mq_u5 {f : Nat → Int32} : zup (mq G mo s fo τ kp ln hh) (mo + 6) (.inl (G.2.2.1 0, 80, .inl f)) = mq G mo s fo (mu τ 5 f) kp ln hh := by unfold mq; rw [mp_u5, mqt_i (i := 5) (by decide) (by decide)]
theorem mq_a6 : mq G mo s fo τ kp ln hh (mo + 7) = some (.inl (G.2.2.1 0, 320, .inl (τ 6))) := mp_a6
theorem mq_u6 {f : Nat → Int32} : zup (mq G mo s fo τ kp ln hh) (mo + 7) (.inl (G.2.2.1 0, 320, .inl f)) = mq G mo s fo (mu τ 6 f) kp ln hh := by unfold mq; rw [mp_u6, mqt_i (i := 6) (by decide) (by decide)]
theorem mq_a7 : mq G mo s fo τ kp ln hh (mo + 8) = some (.inl (G.2.2.1 0, 3, .inl (fo))) := mp_a7
theorem mq_u7 {f : Nat → Int32} : zup (mq G mo s fo τ kp ln hh) (mo + 8) (.inl (G.2.2.1 0, 3, .inl f)) = mq G mo s f τ kp ln hh := by unfold mq; rw [mp_u7, mqt_7]
end MQ8
end
section
theorem zC_eq {G : zG} {d : Nat} {M : zM} {y : MethodName} {as : List Value} {hh : zH} {sz mc ms : Nat} {x x' : Int32} {h' : zH} {s' : Nat} (e : x = x') (h : zC G d M y as hh sz mc ms (zR (.int x) h' s')) : zC G d M y as hh sz mc ms (zR (.int x') h' s') := e ▸ h
theorem kn_ofOne {G : zG} {hh : zH} {sz : Nat} {k w : Nat} : zC G 0 MX7_ofOne yX7_ofOne [.int (nI k), .int (nI w)] hh sz 0 0 (zR (.int (nI (3 + 11 * k + w))) hh sz) := zC_eq (ofOne_nI k w) k_X7_ofOne
theorem kn_at {G : zG} {hh : zH} {sz : Nat} {k w : Nat} : zC G 0 MX7_at yX7_at [.int (nI k), .int (nI w)] hh sz 0 0 (zR (.int (nI (69 + 8 * k + w))) hh sz) := zC_eq (at_nI k w) k_X7_at
theorem kn_high {G : zG} {hh : zH} {sz : Nat} {w : Nat} (h : w < 8) : zC G 0 MX7_high yX7_high [.int (nI w)] hh sz 0 0 (zR (.int (nI (hiN w))) hh sz) := zC_eq (hi7 h) k_X7_high
theorem kn_wide {G : zG} {hh : zH} {sz : Nat} {w : Nat} (h : w < 8) : zC G 0 MX7_wide yX7_wide [.int (nI w)] hh sz 0 0 (zR (.int (nI (wiN w))) hh sz) := zC_eq (wi7 h) k_X7_wide
theorem kn_isLetter {G : zG} {hh : zH} {sz : Nat} {x : Int32} : zC G 1 MX7_isLetter yX7_isLetter [.int x] hh sz 0 0 (zR (.int (zb (isI 8 x))) hh sz) := zC_eq (isL7 x) k_X7_isLetter
theorem kn_isColour {G : zG} {hh : zH} {sz : Nat} {x : Int32} : zC G 1 MX7_isColour yX7_isColour [.int x] hh sz 0 0 (zR (.int (zb (isC x))) hh sz) := zC_eq (in_C x) k_X7_isColour
theorem kn_isSpot {G : zG} {hh : zH} {sz : Nat} {x y : Int32} : zC G 1 MX7_isSpot yX7_isSpot [.int x, .int y] hh sz 0 0 (zR (.int (zb (isI 3 x && isI 12 y))) hh sz) := zC_eq (isSp7 x y) k_X7_isSpot
theorem kn_in {G : zG} {hh : zH} {sz : Nat} {x : Int32} {n : Nat} (h : n + 1 < 2 ^ 31) : zC G 0 MX7_in yX7_in [.int x, .int (nI 0), .int (nI n)] hh sz 0 0 (zR (.int (zb (isI (n + 1) x))) hh sz) := zC_eq (in_I' x h) k_X7_in
theorem kn_inM {G : zG} {hh : zH} {sz : Nat} {x : Int32} {n : Nat} (h : n < 2 ^ 31) : zC G 0 MX7_in yX7_in [.int x, .int (nI 0), .int (nI n - nI 1)] hh sz 0 0 (zR (.int (zb (isI n x))) hh sz) := zC_eq (in_I x h) k_X7_in
set_option maxHeartbeats 4000000 in
set_option maxRecDepth 100000 in
theorem k_X7_shapeOf {G : zG} {hh : zH} {sz mo : Nat} {s fo : Nat → Int32} {τ : Nat → Nat → Int32} {kp ln : Int32} {l w r : Nat} (hl : l < 8) (hw : w < 8) (hr : r < 5) (hT : τ 6 = tabI) : zC G 0 MX7_shapeOf yX7_shapeOf [.ref mo, .int (nI l), .int (nI w), .int (nI r)] (mq G mo s fo τ kp ln hh) sz 0 0 (zR (.int (tabI (40 * l + 5 * w + r))) (mq G mo s fo τ kp ln hh) sz) := by
  refine z_intro _ rfl zy_X7_shapeOf (Nat.le_of_ble_eq_true rfl) ?_
  refine z_aload_n dX7_shapeOf_0 rfl ?_
  refine z_get (ci := 7) (f := 8) dX7_shapeOf_1 ⟨by decide, by decide, zm_671, rfl⟩ mq_o rfl ?_
  refine z_bipush (v := (nI 40)) dX7_shapeOf_4 (by decide) ?_
  refine z_iload_n dX7_shapeOf_6 rfl ?_
  refine z_imulN dX7_shapeOf_7 ?_
  refine z_iconst (v := (nI 5)) dX7_shapeOf_8 (by decide) ?_
  refine z_iload_n dX7_shapeOf_9 rfl ?_
  refine z_imulN dX7_shapeOf_10 ?_
  refine z_iaddN dX7_shapeOf_11 ?_
  refine z_iload_n dX7_shapeOf_12 rfl ?_
  refine z_iaddN dX7_shapeOf_13 ?_
  refine z_ialdN dX7_shapeOf_14 mq_a6 rfl (by omega) (by decide) ?_
  exact z_iretR dX7_shapeOf_15 rfl (by rw [hT]) rfl rfl (Nat.le_refl _) (Nat.le_refl _)
theorem popF_0 : ∀ f, popF f 0 = 0
  | 0 => rfl
  | f + 1 => by unfold popF; rw [Nat.zero_div, popF_0 f]
set_option maxHeartbeats 4000000 in
set_option maxRecDepth 100000 in
theorem l_bits {G : zG} {hh : zH} {sz : Nat} {m0 : Nat} : ∀ (f a m : Nat), m < 2 ^ f → m < 2 ^ 31 → zS MX7_bits G 0 0 0 0 0 hh sz 4 [some (.int (nI m0)), some (.int (nI a)), some (.int (nI m))] [] (fun rr hh' ss' kk' nn' => zR (.int (nI (a + popF f m))) hh sz rr hh' ss' ∧ kk' ≤ 0 ∧ nn' ≤ 0) := by
  intro f; induction f with
  | zero =>
    intro a m hm hb
    refine z_iload_n dX7_bits_4 rfl ?_
    refine z_if_le (tgt := 21) dX7_bits_5 (by decide) (fun c_5 => ?_) (fun c_5 => absurd c_5 (not_not_intro (by rw [show m = 0 by omega]; decide)))
    refine z_iload_n dX7_bits_21 rfl ?_
    exact z_iretR dX7_bits_22 rfl (by rw [show m = 0 by omega, popF_0]; try rfl) rfl rfl (Nat.le_refl _) (Nat.le_refl _)
  | succ f ih =>
    intro a m hm hb
    have hm2 : m < 2 * 2 ^ f := by rw [Nat.pow_succ] at hm; omega
    unfold popF
    refine z_iload_n dX7_bits_4 rfl ?_
    refine z_if_le (tgt := 21) dX7_bits_5 (by decide) (fun c_5 => ?_) (fun c_5 => ?_)
    · refine z_iload_n dX7_bits_21 rfl ?_
      exact z_iretR dX7_bits_22 rfl (by rw [show m = 0 from by rcases Nat.eq_zero_or_pos m with h | h; exact h; exact absurd c_5 (nI_nle h (by omega)), popF_0]; try rfl) rfl rfl (Nat.le_refl _) (Nat.le_refl _)
    · refine z_iload_n dX7_bits_8 rfl ?_
      refine z_iload_n dX7_bits_9 rfl ?_
      refine z_iconst (v := (nI 2)) dX7_bits_10 (by decide) ?_
      refine z_iremN dX7_bits_11 (by omega) (by omega) (by omega) ?_
      refine z_iaddN dX7_bits_12 ?_
      refine z_istore_n dX7_bits_13 (by decide) rfl rfl ?_
      refine z_iload_n dX7_bits_14 rfl ?_
      refine z_iconst (v := (nI 2)) dX7_bits_15 (by decide) ?_
      refine z_idivN dX7_bits_16 (by omega) (by omega) (by omega) ?_
      refine z_istore_n dX7_bits_17 (by decide) rfl rfl ?_
      refine z_goto (tgt := 4) dX7_bits_18 (by decide) ?_
      have ih1 := ih (a + m % 2) (m / 2) (by omega) (by omega)
      rw [Nat.add_assoc] at ih1
      exact ih1
set_option maxHeartbeats 4000000 in
set_option maxRecDepth 100000 in
theorem k_X7_bits {G : zG} {hh : zH} {sz : Nat} {m : Nat} (hm : m < 2 ^ 31) : zC G 0 MX7_bits yX7_bits [.int (nI m)] hh sz 0 0 (zR (.int (nI (popc m))) hh sz) := by
  refine z_intro _ rfl zy_X7_bits (Nat.le_of_ble_eq_true rfl) ?_
  refine z_iconst (v := (nI 0)) dX7_bits_0 (by decide) ?_
  refine z_istore_n dX7_bits_1 (by decide) rfl rfl ?_
  refine z_iload_n dX7_bits_2 rfl ?_
  refine z_istore_n dX7_bits_3 (by decide) rfl rfl ?_
  exact (Nat.zero_add (popc m)) ▸ l_bits 32 0 m (by omega) (by omega)
def sqA (l : Nat) : Nat → Nat
  | 0 => 0
  | i + 1 => sqA l i + popc (tabN (40 * l + 5 * 0 + i))
set_option maxHeartbeats 4000000 in
set_option maxRecDepth 100000 in
theorem l_squaresOf {G : zG} {hh : zH} {sz mo : Nat} {s fo : Nat → Int32} {τ : Nat → Nat → Int32} {kp ln : Int32} {l : Nat} (hl : l < 8) (hT : τ 6 = tabI) : ∀ (n i : Nat), i + n = 5 → zS MX7_squaresOf G 1 0 0 0 0 (mq G mo s fo τ kp ln hh) sz 4 [some (.ref mo), some (.int (nI l)), some (.int (nI (sqA l i))), some (.int (nI i))] [] (fun rr hh' ss' kk' nn' => zR (.int (nI (sqA l 5))) (mq G mo s fo τ kp ln hh) sz rr hh' ss' ∧ kk' ≤ 0 ∧ nn' ≤ 0) := by
  intro n; induction n with
  | zero =>
    intro i hi
    refine z_iload_n dX7_squaresOf_4 rfl ?_
    refine z_iconst (v := (nI 5)) dX7_squaresOf_5 (by decide) ?_
    refine z_icmp_ge (tgt := 28) dX7_squaresOf_6 (by decide) (fun c_6 => ?_) (fun c_6 => absurd c_6 (not_not_intro (nI_le (by omega) (by omega))))
    refine z_iload_n dX7_squaresOf_28 rfl ?_
    exact z_iretR dX7_squaresOf_29 rfl (by rw [show i = 5 by omega]) rfl rfl (Nat.le_refl _) (Nat.le_refl _)
  | succ n ih =>
    intro i hi
    refine z_iload_n dX7_squaresOf_4 rfl ?_
    refine z_iconst (v := (nI 5)) dX7_squaresOf_5 (by decide) ?_
    refine z_icmp_ge (tgt := 28) dX7_squaresOf_6 (by decide) (fun c_6 => absurd c_6 (nI_ge (by omega) (by omega))) (fun c_6 => ?_)
    refine z_iload_n dX7_squaresOf_9 rfl ?_
    refine z_aload_n dX7_squaresOf_10 rfl ?_
    refine z_iload_n dX7_squaresOf_11 rfl ?_
    refine z_iconst (v := (nI 0)) dX7_squaresOf_12 (by decide) ?_
    refine z_iload_n dX7_squaresOf_13 rfl ?_
    refine z_callVR (ci := 7) (k_X7_shapeOf (by omega) (by omega) (by omega) hT) dX7_squaresOf_14 ⟨zm_727, zm_730, zm_8, zm_729, zmp_9, by decide⟩ mq_o (by decide) zp_X7_shapeOf rfl (Nat.le_of_ble_eq_true rfl) (Nat.le_refl _) (Nat.le_refl _) ?_
    refine z_callSR (k_X7_bits (by have := tabN_lt (40 * l + 5 * 0 + i); omega)) dX7_squaresOf_17 ⟨zm_828, zm_830, zm_8, zm_829⟩  (by decide) zp_X7_bits rfl (Nat.le_of_ble_eq_true rfl) (Nat.le_refl _) (Nat.le_refl _) ?_
    refine z_iaddN dX7_squaresOf_20 ?_
    refine z_istore_n dX7_squaresOf_21 (by decide) rfl rfl ?_
    refine z_iincU dX7_squaresOf_22 rfl (by decide) rfl rfl ?_
    refine z_goto (tgt := 4) dX7_squaresOf_25 (by decide) ?_
    exact ih (i + 1) (by omega)
set_option maxHeartbeats 4000000 in
set_option maxRecDepth 100000 in
theorem k_X7_squaresOf {G : zG} {hh : zH} {sz mo : Nat} {s fo : Nat → Int32} {τ : Nat → Nat → Int32} {kp ln : Int32} {l : Nat} (hl : l < 8) (hT : τ 6 = tabI) : zC G 1 MX7_squaresOf yX7_squaresOf [.ref mo, .int (nI l)] (mq G mo s fo τ kp ln hh) sz 0 0 (zR (.int (nI (sqA l 5))) (mq G mo s fo τ kp ln hh) sz) := by
  refine z_intro _ rfl zy_X7_squaresOf (Nat.le_of_ble_eq_true rfl) ?_
  refine z_iconst (v := (nI 0)) dX7_squaresOf_0 (by decide) ?_
  refine z_istore_n dX7_squaresOf_1 (by decide) rfl rfl ?_
  refine z_iconst (v := (nI 0)) dX7_squaresOf_2 (by decide) ?_
  refine z_istore_n dX7_squaresOf_3 (by decide) rfl rfl ?_
  exact l_squaresOf hl hT 5 0 (by omega)
set_option maxHeartbeats 4000000 in
set_option maxRecDepth 100000 in
theorem k_X7_isSheet {G : zG} {hh : zH} {sz mo : Nat} {s fo : Nat → Int32} {τ : Nat → Nat → Int32} {kp ln : Int32} {x : Int32} {n : Nat} (h0 : s 0 = nI n) (hn : n < 2 ^ 30) : zC G 1 MX7_isSheet yX7_isSheet [.ref mo, .int x] (mq G mo s fo τ kp ln hh) sz 0 0 (zR (.int (zb (isI n x))) (mq G mo s fo τ kp ln hh) sz) := by
  refine z_intro _ rfl zy_X7_isSheet (Nat.le_of_ble_eq_true rfl) ?_
  refine z_iload_n dX7_isSheet_0 rfl ?_
  refine z_iconst (v := (nI 0)) dX7_isSheet_1 (by decide) ?_
  refine z_aload_n dX7_isSheet_2 rfl ?_
  refine z_get (ci := 7) (f := 0) dX7_isSheet_3 ⟨by decide, by decide, zm_663, rfl⟩ mq_o rfl ?_
  refine z_iconst (v := (nI 0)) dX7_isSheet_6 (by decide) ?_
  refine z_ialdN dX7_isSheet_7 mq_a0 rfl (by omega) (by decide) ?_
  refine z_eq h0 ?_
  refine z_iconst (v := (nI 1)) dX7_isSheet_8 (by decide) ?_
  refine z_isub dX7_isSheet_9 ?_
  refine z_callSR (kn_inM (by omega)) dX7_isSheet_10 ⟨zm_702, zm_704, zm_8, zm_703⟩  (by decide) zp_X7_in rfl (Nat.le_of_ble_eq_true rfl) (Nat.le_refl _) (Nat.le_refl _) ?_
  exact z_zretR dX7_isSheet_13 rfl (zb_z _) rfl rfl rfl (Nat.le_refl _) (Nat.le_refl _)
set_option maxHeartbeats 4000000 in
set_option maxRecDepth 100000 in
theorem k_X7_isPiece {G : zG} {hh : zH} {sz mo : Nat} {s fo : Nat → Int32} {τ : Nat → Nat → Int32} {kp ln : Int32} {x : Int32} {n : Nat} (h0 : s 1 = nI n) (hn : n < 2 ^ 30) : zC G 1 MX7_isPiece yX7_isPiece [.ref mo, .int x] (mq G mo s fo τ kp ln hh) sz 0 0 (zR (.int (zb (isI n x))) (mq G mo s fo τ kp ln hh) sz) := by
  refine z_intro _ rfl zy_X7_isPiece (Nat.le_of_ble_eq_true rfl) ?_
  refine z_iload_n dX7_isPiece_0 rfl ?_
  refine z_iconst (v := (nI 0)) dX7_isPiece_1 (by decide) ?_
  refine z_aload_n dX7_isPiece_2 rfl ?_
  refine z_get (ci := 7) (f := 0) dX7_isPiece_3 ⟨by decide, by decide, zm_663, rfl⟩ mq_o rfl ?_
  refine z_iconst (v := (nI 1)) dX7_isPiece_6 (by decide) ?_
  refine z_ialdN dX7_isPiece_7 mq_a0 rfl (by omega) (by decide) ?_
  refine z_eq h0 ?_
  refine z_iconst (v := (nI 1)) dX7_isPiece_8 (by decide) ?_
  refine z_isub dX7_isPiece_9 ?_
  refine z_callSR (kn_inM (by omega)) dX7_isPiece_10 ⟨zm_702, zm_704, zm_8, zm_703⟩  (by decide) zp_X7_in rfl (Nat.le_of_ble_eq_true rfl) (Nat.le_refl _) (Nat.le_refl _) ?_
  exact z_zretR dX7_isPiece_13 rfl (zb_z _) rfl rfl rfl (Nat.le_refl _) (Nat.le_refl _)
end
section
/-- the columns cut of row r of sheet k -/
def rN (s : Nat → Int32) (k r : Nat) : Nat := (s (5 + 11 * k + r)).toNatClampNeg
def okR (s : Nat → Int32) : Prop := ∀ k r, k < 6 → r < 9 → s (5 + 11 * k + r) = nI (rN s k r) ∧ rN s k r < 2 ^ 14
/-- the first n rows of a letter are free at row r, column c -/
def okAt (s : Nat → Int32) (k l w r c : Nat) : Nat → Bool
  | 0 => true
  | i + 1 => okAt s k l w r c i && ((rN s k (r + i) / 2 ^ c) &&& tabN (40 * l + 5 * w + i)) == 0
theorem okAt_mono {s : Nat → Int32} {k l w r c i j : Nat} (h : i ≤ j) (hf : okAt s k l w r c i = false) : okAt s k l w r c j = false := by
  induction j with
  | zero => rw [show i = 0 by omega] at hf; exact hf
  | succ j ih =>
    by_cases e : i = j + 1
    · rw [← e]; exact hf
    · unfold okAt; rw [ih (by omega)]; rfl
/-- a letter can be cut at a row, a column (any ints) -/
def canI (s : Nat → Int32) (k l w : Nat) (row col : Int32) : Bool := decide (s (4 + 11 * k) = 0) && isI (10 - hiN w) row && isI (15 - wiN w) col && okAt s k l w row.toNatClampNeg col.toNatClampNeg (hiN w)
def canC (s : Nat → Int32) (k l w r c : Nat) : Bool := canI s k l w (nI r) (nI c)
theorem nI_z {m : Nat} (hm : m < 2 ^ 31) : nI m = 0 ↔ m = 0 := by
  constructor
  · intro h
    by_cases e : m = 0
    · exact e
    · exact absurd h (nI_ne0 (by omega) hm)
  · rintro rfl; rfl
theorem and_lt31 {a b : Nat} (h : b < 32) : a &&& b < 2 ^ 31 := Nat.lt_of_le_of_lt Nat.and_le_right (by omega)
set_option maxHeartbeats 4000000 in
set_option maxRecDepth 100000 in
theorem l_canCut {G : zG} {hh : zH} {sz mo : Nat} {s fo : Nat → Int32} {τ : Nat → Nat → Int32} {kp ln : Int32} {k l w : Nat} (hk : k < 6) (hl : l < 8) (hw : w < 8) (hT : τ 6 = tabI) (hR : okR s) {r c : Nat} (hr : r + hiN w ≤ 9) (hc : c + wiN w ≤ 14) : ∀ (n i : Nat) (x : Int32), i + n = hiN w → x = zb (okAt s k l w r c i) → zS MX7_canCut G 1 0 0 0 0 (mq G mo s fo τ kp ln hh) sz 55 [some (.ref mo), some (.int (nI k)), some (.int (nI l)), some (.int (nI w)), some (.int (nI r)), some (.int (nI c)), some (.int x), some (.int (nI i))] [] (fun rr hh' ss' kk' nn' => zR (.int (zb (okAt s k l w r c (hiN w)))) (mq G mo s fo τ kp ln hh) sz rr hh' ss' ∧ kk' ≤ 0 ∧ nn' ≤ 0) := by
  intro n; induction n with
  | zero =>
    intro i x hi hx
    have h5 := hiN_le w
    refine z_iload dX7_canCut_55 rfl ?_
    refine z_iload_n dX7_canCut_57 rfl ?_
    refine z_callSR (kn_high (by omega)) dX7_canCut_58 ⟨zm_647, zm_649, zm_8, zm_648⟩  (by decide) zp_X7_high rfl (Nat.le_of_ble_eq_true rfl) (Nat.le_refl _) (Nat.le_refl _) ?_
    refine z_icmp_ge (tgt := 113) dX7_canCut_61 (by decide) (fun c_61 => ?_) (fun c_61 => absurd c_61 (not_not_intro (nI_le (by omega) (by omega))))
    refine z_iload dX7_canCut_113 rfl ?_
    exact z_zretR dX7_canCut_115 rfl (by rw [hx]; exact zb_z _) (by rw [hx, show i = hiN w by omega]) rfl rfl (Nat.le_refl _) (Nat.le_refl _)
  | succ n ih =>
    intro i x hi hx
    have h5 := hiN_le w
    have hi9 : i < 5 := by omega
    have hb : ((rN s k (r + i) / 2 ^ c) &&& tabN (40 * l + 5 * w + i)) < 2 ^ 31 := and_lt31 (tabN_lt _)
    have hc14 := wiN_ge w
    refine z_iload dX7_canCut_55 rfl ?_
    refine z_iload_n dX7_canCut_57 rfl ?_
    refine z_callSR (kn_high (by omega)) dX7_canCut_58 ⟨zm_647, zm_649, zm_8, zm_648⟩  (by decide) zp_X7_high rfl (Nat.le_of_ble_eq_true rfl) (Nat.le_refl _) (Nat.le_refl _) ?_
    refine z_icmp_ge (tgt := 113) dX7_canCut_61 (by decide) (fun c_61 => absurd c_61 (nI_ge (by omega) (by omega))) (fun c_61 => ?_)
    refine z_iload dX7_canCut_64 rfl ?_
    refine z_if_eq (tgt := 113) dX7_canCut_66 (by decide) (fun c_66 => ?_) (fun c_66 => ?_)
    · refine z_iload dX7_canCut_113 rfl ?_
      exact z_zretR dX7_canCut_115 rfl (by rw [hx]; exact zb_z _) (by rw [hx] at c_66 ⊢; rw [zb_0 c_66, okAt_mono (by omega) (zb_0 c_66)]) rfl rfl (Nat.le_refl _) (Nat.le_refl _)
    · have ht := zb_1 (by rw [hx] at c_66; exact c_66)
      refine z_aload_n dX7_canCut_69 rfl ?_
      refine z_get (ci := 7) (f := 0) dX7_canCut_70 ⟨by decide, by decide, zm_663, rfl⟩ mq_o rfl ?_
      refine z_iload_n dX7_canCut_73 rfl ?_
      refine z_iconst (v := (nI 2)) dX7_canCut_74 (by decide) ?_
      refine z_iload dX7_canCut_75 rfl ?_
      refine z_iaddN dX7_canCut_77 ?_
      refine z_iload dX7_canCut_78 rfl ?_
      refine z_iaddN dX7_canCut_80 ?_
      refine z_callSR kn_ofOne dX7_canCut_81 ⟨zm_709, zm_711, zm_8, zm_710⟩  (by decide) zp_X7_ofOne rfl (Nat.le_of_ble_eq_true rfl) (Nat.le_refl _) (Nat.le_refl _) ?_
      refine z_ialdN (j := 5 + 11 * k + (r + i)) dX7_canCut_84 mq_a0 (by congr 1; omega) (by omega) (by decide) ?_
      refine z_eq (hR k (r + i) hk (by omega)).1 ?_
      refine z_iload dX7_canCut_85 rfl ?_
      refine z_ishrN dX7_canCut_87 (by have := (hR k (r + i) hk (by omega)).2; omega) (by omega) ?_
      refine z_aload_n dX7_canCut_88 rfl ?_
      refine z_iload_n dX7_canCut_89 rfl ?_
      refine z_iload_n dX7_canCut_90 rfl ?_
      refine z_iload dX7_canCut_91 rfl ?_
      refine z_callVR (ci := 7) (k_X7_shapeOf hl hw (by omega) hT) dX7_canCut_93 ⟨zm_727, zm_730, zm_8, zm_729, zmp_9, by decide⟩ mq_o (by decide) zp_X7_shapeOf rfl (Nat.le_of_ble_eq_true rfl) (Nat.le_refl _) (Nat.le_refl _) ?_
      unfold tabI
      refine z_iandN dX7_canCut_96 ?_
      refine z_if_ne (tgt := 104) dX7_canCut_97 (by decide) (fun c_97 => ?_) (fun c_97 => ?_)
      · refine z_iconst (v := (nI 0)) dX7_canCut_104 (by decide) ?_
        refine z_istore dX7_canCut_105 (by decide) rfl rfl ?_
        refine z_iincU dX7_canCut_107 rfl (by decide) rfl rfl ?_
        refine z_goto (tgt := 55) dX7_canCut_110 (by decide) ?_
        exact ih (i + 1) _ (by omega) (by unfold okAt; rw [ht, Bool.true_and, beq_eq_false_iff_ne.mpr (fun e => c_97 ((nI_z hb).mpr e))]; rfl)
      · refine z_iconst (v := (nI 1)) dX7_canCut_100 (by decide) ?_
        refine z_goto (tgt := 105) dX7_canCut_101 (by decide) ?_
        refine z_istore dX7_canCut_105 (by decide) rfl rfl ?_
        refine z_iincU dX7_canCut_107 rfl (by decide) rfl rfl ?_
        refine z_goto (tgt := 55) dX7_canCut_110 (by decide) ?_
        exact ih (i + 1) _ (by omega) (by unfold okAt; rw [ht, Bool.true_and, (nI_z hb).mp c_97]; rfl)
theorem kn_in1 {G : zG} {hh : zH} {sz : Nat} {x : Int32} {n : Nat} (h0 : 0 < n) (h : n < 2 ^ 31) : zC G 0 MX7_in yX7_in [.int x, .int (nI 0), .int (nI (n - 1))] hh sz 0 0 (zR (.int (zb (isI n x))) hh sz) := by
  have e : n = (n - 1) + 1 := by omega
  rw [show isI n x = isI ((n - 1) + 1) x by rw [← e]]
  exact kn_in (by omega)
set_option maxHeartbeats 4000000 in
set_option maxRecDepth 100000 in
theorem k_X7_canCut {G : zG} {hh : zH} {sz mo : Nat} {s fo : Nat → Int32} {τ : Nat → Nat → Int32} {kp ln : Int32} {k l w : Nat} (hk : k < 6) (hl : l < 8) (hw : w < 8) (hT : τ 6 = tabI) (hR : okR s) {row col : Int32} : zC G 1 MX7_canCut yX7_canCut [.ref mo, .int (nI k), .int (nI l), .int (nI w), .int row, .int col] (mq G mo s fo τ kp ln hh) sz 0 0 (zR (.int (zb (canI s k l w row col))) (mq G mo s fo τ kp ln hh) sz) := by
  refine z_intro _ rfl zy_X7_canCut (Nat.le_of_ble_eq_true rfl) ?_
  refine z_aload_n dX7_canCut_0 rfl ?_
  refine z_get (ci := 7) (f := 0) dX7_canCut_1 ⟨by decide, by decide, zm_663, rfl⟩ mq_o rfl ?_
  refine z_iload_n dX7_canCut_4 rfl ?_
  refine z_iconst (v := (nI 1)) dX7_canCut_5 (by decide) ?_
  refine z_callSR kn_ofOne dX7_canCut_6 ⟨zm_709, zm_711, zm_8, zm_710⟩  (by decide) zp_X7_ofOne rfl (Nat.le_of_ble_eq_true rfl) (Nat.le_refl _) (Nat.le_refl _) ?_
  refine z_ialdN (j := 4 + 11 * k) dX7_canCut_9 mq_a0 (by congr 1; omega) (by omega) (by decide) ?_
  refine z_if_ne (tgt := 49) dX7_canCut_10 (by decide) (fun c_10 => ?_) (fun c_10 => ?_)
  · refine z_iconst (v := (nI 0)) dX7_canCut_49 (by decide) ?_
    refine z_istore dX7_canCut_50 (by decide) rfl rfl ?_
    refine z_iconst (v := (nI 0)) dX7_canCut_52 (by decide) ?_
    refine z_istore dX7_canCut_53 (by decide) rfl rfl ?_
    refine z_iload dX7_canCut_55 rfl ?_
    refine z_iload_n dX7_canCut_57 rfl ?_
    refine z_callSR (kn_high (by omega)) dX7_canCut_58 ⟨zm_647, zm_649, zm_8, zm_648⟩  (by decide) zp_X7_high rfl (Nat.le_of_ble_eq_true rfl) (Nat.le_refl _) (Nat.le_refl _) ?_
    refine z_icmp_ge (tgt := 113) dX7_canCut_61 (by decide) (fun c_61 => absurd c_61 (nI_ge (by have := hiN_ge w; omega) (by have := hiN_le w; omega))) (fun c_61 => ?_)
    refine z_iload dX7_canCut_64 rfl ?_
    refine z_if_eq (tgt := 113) dX7_canCut_66 (by decide) (fun c_66 => ?_) (fun c_66 => absurd c_66 (by decide))
    refine z_iload dX7_canCut_113 rfl ?_
    exact z_zretR dX7_canCut_115 rfl (Or.inl rfl) (by rw [show canI s k l w row col = false from by unfold canI; rw [decide_eq_false (by intro e; exact c_10 e)]; rfl]; rfl) rfl rfl (Nat.le_refl _) (Nat.le_refl _)
  · refine z_iload dX7_canCut_13 rfl ?_
    refine z_iconst (v := (nI 0)) dX7_canCut_15 (by decide) ?_
    refine z_bipush (v := (nI 9)) dX7_canCut_16 (by decide) ?_
    refine z_iload_n dX7_canCut_18 rfl ?_
    refine z_callSR (kn_high (by omega)) dX7_canCut_19 ⟨zm_647, zm_649, zm_8, zm_648⟩  (by decide) zp_X7_high rfl (Nat.le_of_ble_eq_true rfl) (Nat.le_refl _) (Nat.le_refl _) ?_
    refine z_isub dX7_canCut_22 ?_
    rw [pk_sub (a := 9) (b := hiN w) (by have := hiN_le w; omega), show 9 - hiN w = (10 - hiN w) - 1 by have := hiN_le w; omega]
    refine z_callSR (kn_in1 (n := 10 - hiN w) (by have := hiN_le w; omega) (by omega)) dX7_canCut_23 ⟨zm_702, zm_704, zm_8, zm_703⟩  (by decide) zp_X7_in rfl (Nat.le_of_ble_eq_true rfl) (Nat.le_refl _) (Nat.le_refl _) ?_
    refine z_if_eq (tgt := 49) dX7_canCut_26 (by decide) (fun c_26 => ?_) (fun c_26 => ?_)
    · refine z_iconst (v := (nI 0)) dX7_canCut_49 (by decide) ?_
      refine z_istore dX7_canCut_50 (by decide) rfl rfl ?_
      refine z_iconst (v := (nI 0)) dX7_canCut_52 (by decide) ?_
      refine z_istore dX7_canCut_53 (by decide) rfl rfl ?_
      refine z_iload dX7_canCut_55 rfl ?_
      refine z_iload_n dX7_canCut_57 rfl ?_
      refine z_callSR (kn_high (by omega)) dX7_canCut_58 ⟨zm_647, zm_649, zm_8, zm_648⟩  (by decide) zp_X7_high rfl (Nat.le_of_ble_eq_true rfl) (Nat.le_refl _) (Nat.le_refl _) ?_
      refine z_icmp_ge (tgt := 113) dX7_canCut_61 (by decide) (fun c_61 => absurd c_61 (nI_ge (by have := hiN_ge w; omega) (by have := hiN_le w; omega))) (fun c_61 => ?_)
      refine z_iload dX7_canCut_64 rfl ?_
      refine z_if_eq (tgt := 113) dX7_canCut_66 (by decide) (fun c_66 => ?_) (fun c_66 => absurd c_66 (by decide))
      refine z_iload dX7_canCut_113 rfl ?_
      exact z_zretR dX7_canCut_115 rfl (Or.inl rfl) (by rw [show canI s k l w row col = false from by unfold canI; rw [show isI (10 - hiN w) row = false from zb_0 c_26]; simp]; rfl) rfl rfl (Nat.le_refl _) (Nat.le_refl _)
    · refine z_iload dX7_canCut_29 rfl ?_
      refine z_iconst (v := (nI 0)) dX7_canCut_31 (by decide) ?_
      refine z_bipush (v := (nI 14)) dX7_canCut_32 (by decide) ?_
      refine z_iload_n dX7_canCut_34 rfl ?_
      refine z_callSR (kn_wide (by omega)) dX7_canCut_35 ⟨zm_644, zm_646, zm_8, zm_645⟩  (by decide) zp_X7_wide rfl (Nat.le_of_ble_eq_true rfl) (Nat.le_refl _) (Nat.le_refl _) ?_
      refine z_isub dX7_canCut_38 ?_
      rw [pk_sub (a := 14) (b := wiN w) (by have := wiN_le w; omega), show 14 - wiN w = (15 - wiN w) - 1 by have := wiN_le w; omega]
      refine z_callSR (kn_in1 (n := 15 - wiN w) (by have := wiN_le w; omega) (by omega)) dX7_canCut_39 ⟨zm_702, zm_704, zm_8, zm_703⟩  (by decide) zp_X7_in rfl (Nat.le_of_ble_eq_true rfl) (Nat.le_refl _) (Nat.le_refl _) ?_
      refine z_if_eq (tgt := 49) dX7_canCut_42 (by decide) (fun c_42 => ?_) (fun c_42 => ?_)
      · refine z_iconst (v := (nI 0)) dX7_canCut_49 (by decide) ?_
        refine z_istore dX7_canCut_50 (by decide) rfl rfl ?_
        refine z_iconst (v := (nI 0)) dX7_canCut_52 (by decide) ?_
        refine z_istore dX7_canCut_53 (by decide) rfl rfl ?_
        refine z_iload dX7_canCut_55 rfl ?_
        refine z_iload_n dX7_canCut_57 rfl ?_
        refine z_callSR (kn_high (by omega)) dX7_canCut_58 ⟨zm_647, zm_649, zm_8, zm_648⟩  (by decide) zp_X7_high rfl (Nat.le_of_ble_eq_true rfl) (Nat.le_refl _) (Nat.le_refl _) ?_
        refine z_icmp_ge (tgt := 113) dX7_canCut_61 (by decide) (fun c_61 => absurd c_61 (nI_ge (by have := hiN_ge w; omega) (by have := hiN_le w; omega))) (fun c_61 => ?_)
        refine z_iload dX7_canCut_64 rfl ?_
        refine z_if_eq (tgt := 113) dX7_canCut_66 (by decide) (fun c_66 => ?_) (fun c_66 => absurd c_66 (by decide))
        refine z_iload dX7_canCut_113 rfl ?_
        exact z_zretR dX7_canCut_115 rfl (Or.inl rfl) (by rw [show canI s k l w row col = false from by unfold canI; rw [show isI (15 - wiN w) col = false from zb_0 c_42]; simp]; rfl) rfl rfl (Nat.le_refl _) (Nat.le_refl _)
      · refine z_iconst (v := (nI 1)) dX7_canCut_45 (by decide) ?_
        refine z_goto (tgt := 50) dX7_canCut_46 (by decide) ?_
        obtain ⟨r, hr, rfl⟩ := (isI_iff (by have := hiN_ge w; omega)).mp (zb_1 c_26)
        obtain ⟨c, hc, rfl⟩ := (isI_iff (by have := wiN_ge w; omega)).mp (zb_1 c_42)
        have h3 := hiN_ge w
        have h5 := hiN_le w
        have h3' := wiN_ge w
        have h5' := wiN_le w
        have e : canI s k l w (nI r) (nI c) = okAt s k l w r c (hiN w) := by
          unfold canI
          rw [decide_eq_true c_10, isI_nI (by omega) hr, isI_nI (by omega) hc, nI_clamp (by omega), nI_clamp (by omega)]; rfl
        rw [e]
        refine z_istore dX7_canCut_50 (by decide) rfl rfl ?_
        refine z_iconst (v := (nI 0)) dX7_canCut_52 (by decide) ?_
        refine z_istore dX7_canCut_53 (by decide) rfl rfl ?_
        exact l_canCut hk hl hw hT hR (by omega) (by omega) _ 0 _ (Nat.zero_add _) rfl
end
section
/-- the row of numbers behind n rows of a letter that is cut out -/
def cutS (s : Nat → Int32) (k l w r c : Nat) : Nat → (Nat → Int32)
  | 0 => s
  | i + 1 => upd (cutS s k l w r c i) (5 + 11 * k + (r + i)) (nI (rN s k (r + i) ||| tabN (40 * l + 5 * w + i) * 2 ^ c))
theorem cutS_ge {s : Nat → Int32} {k l w r c i j : Nat} (h : i ≤ j) : cutS s k l w r c i (5 + 11 * k + (r + j)) = s (5 + 11 * k + (r + j)) := by
  induction i with
  | zero => rfl
  | succ i ih =>
    unfold cutS
    rw [pk_un (by omega)]
    exact ih (by omega)
def uncA (s : Nat → Int32) (k : Nat) : Nat → Int32
  | 0 => nI 126
  | i + 1 => uncA s k i - nI (popc (rN s k i))
def canQ (s : Nat → Int32) (k l mi q : Nat) : Bool := canC s k l (4 * mi + q % 4) (q / 4 / 14) (q / 4 % 14)
/-- the first place and way from q on, of n -/
def ffA (s : Nat → Int32) (k l mi : Nat) : Nat → Nat → Nat
  | 0, q => q
  | n + 1, q => if canQ s k l mi q = true then q else ffA s k l mi n (q + 1)
def ff (s : Nat → Int32) (k l mi : Nat) : Nat := ffA s k l mi 504 0
theorem ffA_le {s : Nat → Int32} {k l mi : Nat} : ∀ n q, q ≤ ffA s k l mi n q ∧ ffA s k l mi n q ≤ q + n
  | 0, q => ⟨Nat.le_refl _, Nat.le_refl _⟩
  | n + 1, q => by
    unfold ffA
    split
    · omega
    · have := ffA_le (s := s) (k := k) (l := l) (mi := mi) n (q + 1)
      omega
def fo3 (mi q : Nat) (f : Nat → Int32) : Nat → Int32 := upd (upd (upd f 0 (nI (4 * mi + q % 4))) 1 (nI (q / 4 / 14))) 2 (nI (q / 4 % 14))
theorem fo3_fo3 (mi q p : Nat) (f : Nat → Int32) : fo3 mi q (fo3 mi p f) = fo3 mi q f := by
  funext j
  unfold fo3 upd
  split
  · rfl
  · split
    · rfl
    · split <;> rfl
set_option maxHeartbeats 4000000 in
set_option maxRecDepth 100000 in
theorem l_cutsOut {G : zG} {hh : zH} {sz mo : Nat} {s fo : Nat → Int32} {τ : Nat → Nat → Int32} {kp ln : Int32} {k l w : Nat} (hk : k < 6) (hl : l < 8) (hw : w < 8) (hT : τ 6 = tabI) (hR : okR s) {r c : Nat} (hr : r + hiN w ≤ 9) (hc : c < 32) : ∀ (n i : Nat), i + n = hiN w → zS MX7_cutsOut G 1 0 0 0 0 (mq G mo (cutS s k l w r c i) fo τ kp ln hh) sz 3 [some (.ref mo), some (.int (nI k)), some (.int (nI l)), some (.int (nI w)), some (.int (nI r)), some (.int (nI c)), some (.int (nI i))] [] (fun rr hh' ss' kk' nn' => zV (mq G mo (cutS s k l w r c (hiN w)) fo τ kp ln hh) sz rr hh' ss' ∧ kk' ≤ 0 ∧ nn' ≤ 0) := by
  intro n; induction n with
  | zero =>
    intro i hi
    have h5 := hiN_le w
    refine z_iload dX7_cutsOut_3 rfl ?_
    refine z_iload_n dX7_cutsOut_5 rfl ?_
    refine z_callSR (kn_high (by omega)) dX7_cutsOut_6 ⟨zm_647, zm_649, zm_8, zm_648⟩  (by decide) zp_X7_high rfl (Nat.le_of_ble_eq_true rfl) (Nat.le_refl _) (Nat.le_refl _) ?_
    refine z_icmp_ge (tgt := 48) dX7_cutsOut_9 (by decide) (fun c_9 => ?_) (fun c_9 => absurd c_9 (not_not_intro (nI_le (by omega) (by omega))))
    exact z_vretV dX7_cutsOut_48 rfl (by rw [show i = hiN w by omega]) rfl (Nat.le_refl _) (Nat.le_refl _)
  | succ n ih =>
    intro i hi
    have h5 := hiN_le w
    refine z_iload dX7_cutsOut_3 rfl ?_
    refine z_iload_n dX7_cutsOut_5 rfl ?_
    refine z_callSR (kn_high (by omega)) dX7_cutsOut_6 ⟨zm_647, zm_649, zm_8, zm_648⟩  (by decide) zp_X7_high rfl (Nat.le_of_ble_eq_true rfl) (Nat.le_refl _) (Nat.le_refl _) ?_
    refine z_icmp_ge (tgt := 48) dX7_cutsOut_9 (by decide) (fun c_9 => absurd c_9 (nI_ge (by omega) (by omega))) (fun c_9 => ?_)
    refine z_aload_n dX7_cutsOut_12 rfl ?_
    refine z_get (ci := 7) (f := 0) dX7_cutsOut_13 ⟨by decide, by decide, zm_663, rfl⟩ mq_o rfl ?_
    refine z_iload_n dX7_cutsOut_16 rfl ?_
    refine z_iconst (v := (nI 2)) dX7_cutsOut_17 (by decide) ?_
    refine z_iload dX7_cutsOut_18 rfl ?_
    refine z_iaddN dX7_cutsOut_20 ?_
    refine z_iload dX7_cutsOut_21 rfl ?_
    refine z_iaddN dX7_cutsOut_23 ?_
    refine z_callSR kn_ofOne dX7_cutsOut_24 ⟨zm_709, zm_711, zm_8, zm_710⟩  (by decide) zp_X7_ofOne rfl (Nat.le_of_ble_eq_true rfl) (Nat.le_refl _) (Nat.le_refl _) ?_
    refine z_dup2 dX7_cutsOut_27 rfl rfl ?_
    refine z_ialdN (j := 5 + 11 * k + (r + i)) dX7_cutsOut_28 mq_a0 (by congr 1; omega) (by omega) (by decide) ?_
    refine z_eq ((cutS_ge (Nat.le_refl i)).trans (hR k (r + i) hk (by omega)).1) ?_
    refine z_aload_n dX7_cutsOut_29 rfl ?_
    refine z_iload_n dX7_cutsOut_30 rfl ?_
    refine z_iload_n dX7_cutsOut_31 rfl ?_
    refine z_iload dX7_cutsOut_32 rfl ?_
    refine z_callVR (ci := 7) (k_X7_shapeOf hl hw (by omega) hT) dX7_cutsOut_34 ⟨zm_727, zm_730, zm_8, zm_729, zmp_9, by decide⟩ mq_o (by decide) zp_X7_shapeOf rfl (Nat.le_of_ble_eq_true rfl) (Nat.le_refl _) (Nat.le_refl _) ?_
    unfold tabI
    refine z_iload dX7_cutsOut_37 rfl ?_
    refine z_ishlN dX7_cutsOut_39 (by omega) ?_
    refine z_iorN dX7_cutsOut_40 ?_
    refine z_iastN (j := 5 + 11 * k + (r + i)) dX7_cutsOut_41 mq_a0 (by congr 1; omega) (by omega) (by decide) ?_
    refine z_heap mq_u0 ?_
    refine z_iincU dX7_cutsOut_42 rfl (by decide) rfl rfl ?_
    refine z_goto (tgt := 3) dX7_cutsOut_45 (by decide) ?_
    exact ih (i + 1) (by omega)
set_option maxHeartbeats 4000000 in
set_option maxRecDepth 100000 in
theorem k_X7_cutsOut {G : zG} {hh : zH} {sz mo : Nat} {s fo : Nat → Int32} {τ : Nat → Nat → Int32} {kp ln : Int32} {k l w : Nat} (hk : k < 6) (hl : l < 8) (hw : w < 8) (hT : τ 6 = tabI) (hR : okR s) {r c : Nat} (hr : r + hiN w ≤ 9) (hc : c < 32) : zC G 1 MX7_cutsOut yX7_cutsOut [.ref mo, .int (nI k), .int (nI l), .int (nI w), .int (nI r), .int (nI c)] (mq G mo s fo τ kp ln hh) sz 0 0 (zV (mq G mo (cutS s k l w r c (hiN w)) fo τ kp ln hh) sz) := by
  refine z_intro _ rfl zy_X7_cutsOut (Nat.le_of_ble_eq_true rfl) ?_
  refine z_iconst (v := (nI 0)) dX7_cutsOut_0 (by decide) ?_
  refine z_istore dX7_cutsOut_1 (by decide) rfl rfl ?_
  exact l_cutsOut hk hl hw hT hR hr hc _ 0 (Nat.zero_add _)
set_option maxHeartbeats 4000000 in
set_option maxRecDepth 100000 in
theorem l_uncut {G : zG} {hh : zH} {sz mo : Nat} {s fo : Nat → Int32} {τ : Nat → Nat → Int32} {kp ln : Int32} {k : Nat} (hk : k < 6) (hR : okR s) : ∀ (n i : Nat), i + n = 9 → zS MX7_uncut G 1 0 0 0 0 (mq G mo s fo τ kp ln hh) sz 5 [some (.ref mo), some (.int (nI k)), some (.int (uncA s k i)), some (.int (nI i))] [] (fun rr hh' ss' kk' nn' => zR (.int (uncA s k 9)) (mq G mo s fo τ kp ln hh) sz rr hh' ss' ∧ kk' ≤ 0 ∧ nn' ≤ 0) := by
  intro n; induction n with
  | zero =>
    intro i hi
    refine z_iload_n dX7_uncut_5 rfl ?_
    refine z_bipush (v := (nI 9)) dX7_uncut_6 (by decide) ?_
    refine z_icmp_ge (tgt := 35) dX7_uncut_8 (by decide) (fun c_8 => ?_) (fun c_8 => absurd c_8 (not_not_intro (nI_le (by omega) (by omega))))
    refine z_iload_n dX7_uncut_35 rfl ?_
    exact z_iretR dX7_uncut_36 rfl (by rw [show i = 9 by omega]) rfl rfl (Nat.le_refl _) (Nat.le_refl _)
  | succ n ih =>
    intro i hi
    refine z_iload_n dX7_uncut_5 rfl ?_
    refine z_bipush (v := (nI 9)) dX7_uncut_6 (by decide) ?_
    refine z_icmp_ge (tgt := 35) dX7_uncut_8 (by decide) (fun c_8 => absurd c_8 (nI_ge (by omega) (by omega))) (fun c_8 => ?_)
    refine z_iload_n dX7_uncut_11 rfl ?_
    refine z_aload_n dX7_uncut_12 rfl ?_
    refine z_get (ci := 7) (f := 0) dX7_uncut_13 ⟨by decide, by decide, zm_663, rfl⟩ mq_o rfl ?_
    refine z_iload_n dX7_uncut_16 rfl ?_
    refine z_iconst (v := (nI 2)) dX7_uncut_17 (by decide) ?_
    refine z_iload_n dX7_uncut_18 rfl ?_
    refine z_iaddN dX7_uncut_19 ?_
    refine z_callSR kn_ofOne dX7_uncut_20 ⟨zm_709, zm_711, zm_8, zm_710⟩  (by decide) zp_X7_ofOne rfl (Nat.le_of_ble_eq_true rfl) (Nat.le_refl _) (Nat.le_refl _) ?_
    refine z_ialdN (j := 5 + 11 * k + i) dX7_uncut_23 mq_a0 (by congr 1; omega) (by omega) (by decide) ?_
    refine z_eq (hR k i hk (by omega)).1 ?_
    refine z_callSR (k_X7_bits (by have := (hR k i hk (by omega)).2; omega)) dX7_uncut_24 ⟨zm_828, zm_830, zm_8, zm_829⟩  (by decide) zp_X7_bits rfl (Nat.le_of_ble_eq_true rfl) (Nat.le_refl _) (Nat.le_refl _) ?_
    refine z_isub dX7_uncut_27 ?_
    refine z_istore_n dX7_uncut_28 (by decide) rfl rfl ?_
    refine z_iincU dX7_uncut_29 rfl (by decide) rfl rfl ?_
    refine z_goto (tgt := 5) dX7_uncut_32 (by decide) ?_
    exact ih (i + 1) (by omega)
set_option maxHeartbeats 4000000 in
set_option maxRecDepth 100000 in
theorem k_X7_uncut {G : zG} {hh : zH} {sz mo : Nat} {s fo : Nat → Int32} {τ : Nat → Nat → Int32} {kp ln : Int32} {k : Nat} (hk : k < 6) (hR : okR s) : zC G 1 MX7_uncut yX7_uncut [.ref mo, .int (nI k)] (mq G mo s fo τ kp ln hh) sz 0 0 (zR (.int (uncA s k 9)) (mq G mo s fo τ kp ln hh) sz) := by
  refine z_intro _ rfl zy_X7_uncut (Nat.le_of_ble_eq_true rfl) ?_
  refine z_bipush (v := (nI 126)) dX7_uncut_0 (by decide) ?_
  refine z_istore_n dX7_uncut_2 (by decide) rfl rfl ?_
  refine z_iconst (v := (nI 0)) dX7_uncut_3 (by decide) ?_
  refine z_istore_n dX7_uncut_4 (by decide) rfl rfl ?_
  exact l_uncut hk hR 9 0 (Nat.zero_add _)
set_option maxHeartbeats 4000000 in
set_option maxRecDepth 100000 in
theorem l_findsFit {G : zG} {hh : zH} {sz mo : Nat} {s fo : Nat → Int32} {τ : Nat → Nat → Int32} {kp ln : Int32} {k l mi : Nat} (hk : k < 6) (hl : l < 8) (hm : mi < 2) (hT : τ 6 = tabI) (hR : okR s) : ∀ (n q : Nat) (p6 p7 : Option Value) (f : Nat → Int32), q + n = 504 → (∀ p, fo3 mi p f = fo3 mi p fo) → (n = 0 → f = fo3 mi 503 fo) → zS MX7_findsFit G 2 0 0 0 0 (mq G mo s f τ kp ln hh) sz 6 [some (.ref mo), some (.int (nI k)), some (.int (nI l)), some (.int (nI mi)), some (.int 0), some (.int (nI q)), p6, p7] [] (fun rr hh' ss' kk' nn' => zR (.int (zb (decide (ffA s k l mi n q < 504)))) (mq G mo s (fo3 mi (min (ffA s k l mi n q) 503) fo) τ kp ln hh) sz rr hh' ss' ∧ kk' ≤ 0 ∧ nn' ≤ 0) := by
  intro n; induction n with
  | zero =>
    intro q p6 p7 f hq0 hf hn
    refine z_iload dX7_findsFit_6 rfl ?_
    refine z_sipush (v := (nI 504)) dX7_findsFit_8 (by decide) ?_
    refine z_icmp_ge (tgt := 91) dX7_findsFit_11 (by decide) (fun c_11 => ?_) (fun c_11 => absurd c_11 (not_not_intro (nI_le (by omega) (by omega))))
    refine z_iload dX7_findsFit_91 rfl ?_
    exact z_zretR dX7_findsFit_93 rfl (Or.inl rfl) (by unfold ffA; rw [decide_eq_false (by omega)]; rfl) (by rw [hn rfl]; unfold ffA; rw [show min q 503 = 503 by omega]) rfl (Nat.le_refl _) (Nat.le_refl _)
  | succ n ih =>
    intro q p6 p7 f hq0 hf hn
    refine z_iload dX7_findsFit_6 rfl ?_
    refine z_sipush (v := (nI 504)) dX7_findsFit_8 (by decide) ?_
    refine z_icmp_ge (tgt := 91) dX7_findsFit_11 (by decide) (fun c_11 => absurd c_11 (nI_ge (by omega) (by omega))) (fun c_11 => ?_)
    refine z_iload dX7_findsFit_14 rfl ?_
    refine z_if_ne (tgt := 91) dX7_findsFit_16 (by decide) (fun c_16 => absurd rfl c_16) (fun c_16 => ?_)
    refine z_iload dX7_findsFit_19 rfl ?_
    refine z_iconst (v := (nI 4)) dX7_findsFit_21 (by decide) ?_
    refine z_idivN dX7_findsFit_22 (by omega) (by omega) (by omega) ?_
    refine z_istore dX7_findsFit_23 (by decide) rfl rfl ?_
    refine z_iconst (v := (nI 4)) dX7_findsFit_25 (by decide) ?_
    refine z_iload_n dX7_findsFit_26 rfl ?_
    refine z_imulN dX7_findsFit_27 ?_
    refine z_iload dX7_findsFit_28 rfl ?_
    refine z_iconst (v := (nI 4)) dX7_findsFit_30 (by decide) ?_
    refine z_iremN dX7_findsFit_31 (by omega) (by omega) (by omega) ?_
    refine z_iaddN dX7_findsFit_32 ?_
    refine z_istore dX7_findsFit_33 (by decide) rfl rfl ?_
    refine z_aload_n dX7_findsFit_35 rfl ?_
    refine z_iload_n dX7_findsFit_36 rfl ?_
    refine z_iload_n dX7_findsFit_37 rfl ?_
    refine z_iload dX7_findsFit_38 rfl ?_
    refine z_iload dX7_findsFit_40 rfl ?_
    refine z_bipush (v := (nI 14)) dX7_findsFit_42 (by decide) ?_
    refine z_idivN dX7_findsFit_44 (by omega) (by omega) (by omega) ?_
    refine z_iload dX7_findsFit_45 rfl ?_
    refine z_bipush (v := (nI 14)) dX7_findsFit_47 (by decide) ?_
    refine z_iremN dX7_findsFit_49 (by omega) (by omega) (by omega) ?_
    refine z_callVR (ci := 7) (k_X7_canCut hk hl (by omega) hT hR) dX7_findsFit_50 ⟨zm_723, zm_726, zm_8, zm_725, zmp_8, by decide⟩ mq_o (by decide) zp_X7_canCut rfl (Nat.le_of_ble_eq_true rfl) (Nat.le_refl _) (Nat.le_refl _) ?_
    rw [show canI s k l (4 * mi + q % 4) (nI (q / 4 / 14)) (nI (q / 4 % 14)) = canQ s k l mi q from rfl]
    refine z_istore dX7_findsFit_53 (by decide) rfl rfl ?_
    refine z_aload_n dX7_findsFit_55 rfl ?_
    refine z_get (ci := 7) (f := 9) dX7_findsFit_56 ⟨by decide, by decide, zm_672, rfl⟩ mq_o rfl ?_
    refine z_iconst (v := (nI 0)) dX7_findsFit_59 (by decide) ?_
    refine z_iload dX7_findsFit_60 rfl ?_
    refine z_iastN dX7_findsFit_62 mq_a7 rfl (by omega) (by decide) ?_
    refine z_heap mq_u7 ?_
    refine z_aload_n dX7_findsFit_63 rfl ?_
    refine z_get (ci := 7) (f := 9) dX7_findsFit_64 ⟨by decide, by decide, zm_672, rfl⟩ mq_o rfl ?_
    refine z_iconst (v := (nI 1)) dX7_findsFit_67 (by decide) ?_
    refine z_iload dX7_findsFit_68 rfl ?_
    refine z_bipush (v := (nI 14)) dX7_findsFit_70 (by decide) ?_
    refine z_idivN dX7_findsFit_72 (by omega) (by omega) (by omega) ?_
    refine z_iastN dX7_findsFit_73 mq_a7 rfl (by omega) (by decide) ?_
    refine z_heap mq_u7 ?_
    refine z_aload_n dX7_findsFit_74 rfl ?_
    refine z_get (ci := 7) (f := 9) dX7_findsFit_75 ⟨by decide, by decide, zm_672, rfl⟩ mq_o rfl ?_
    refine z_iconst (v := (nI 2)) dX7_findsFit_78 (by decide) ?_
    refine z_iload dX7_findsFit_79 rfl ?_
    refine z_bipush (v := (nI 14)) dX7_findsFit_81 (by decide) ?_
    refine z_iremN dX7_findsFit_83 (by omega) (by omega) (by omega) ?_
    refine z_iastN dX7_findsFit_84 mq_a7 rfl (by omega) (by decide) ?_
    refine z_heap mq_u7 ?_
    refine z_iincU dX7_findsFit_85 rfl (by decide) rfl rfl ?_
    refine z_goto (tgt := 6) dX7_findsFit_88 (by decide) ?_
    by_cases hq : canQ s k l mi q = true
    · rw [hq]
      have e : ffA s k l mi (n + 1) q = q := by unfold ffA; rw [if_pos hq]
      rw [e]
      refine z_iload dX7_findsFit_6 rfl ?_
      refine z_sipush (v := (nI 504)) dX7_findsFit_8 (by decide) ?_
      refine z_icmp_ge (tgt := 91) dX7_findsFit_11 (by decide) (fun c_11 => ?_) (fun c_11 => ?_)
      · refine z_iload dX7_findsFit_91 rfl ?_
        exact z_zretR dX7_findsFit_93 rfl (Or.inr rfl) (by rw [decide_eq_true (by omega)]) (by rw [show min q 503 = q by omega, ← hf q]; rfl) rfl (Nat.le_refl _) (Nat.le_refl _)
      · refine z_iload dX7_findsFit_14 rfl ?_
        refine z_if_ne (tgt := 91) dX7_findsFit_16 (by decide) (fun c_16 => ?_) (fun c_16 => absurd c_16 (by decide))
        refine z_iload dX7_findsFit_91 rfl ?_
        exact z_zretR dX7_findsFit_93 rfl (Or.inr rfl) (by rw [decide_eq_true (by omega)]) (by rw [show min q 503 = q by omega, ← hf q]; rfl) rfl (Nat.le_refl _) (Nat.le_refl _)
    · have hq0 : canQ s k l mi q = false := by simpa using hq
      rw [hq0]
      have e : ffA s k l mi (n + 1) q = ffA s k l mi n (q + 1) := by
        rw [ffA, if_neg hq]
      rw [e]
      exact ih (q + 1) _ _ (fo3 mi q f) (by omega) (fun p => by rw [fo3_fo3]; exact hf p) (fun e0 => by rw [hf, show q = 503 by omega])
set_option maxHeartbeats 4000000 in
set_option maxRecDepth 100000 in
theorem k_X7_findsFit {G : zG} {hh : zH} {sz mo : Nat} {s fo : Nat → Int32} {τ : Nat → Nat → Int32} {kp ln : Int32} {k l mi : Nat} (hk : k < 6) (hl : l < 8) (hm : mi < 2) (hT : τ 6 = tabI) (hR : okR s) : zC G 2 MX7_findsFit yX7_findsFit [.ref mo, .int (nI k), .int (nI l), .int (nI mi)] (mq G mo s fo τ kp ln hh) sz 0 0 (zR (.int (zb (decide (ff s k l mi < 504)))) (mq G mo s (fo3 mi (min (ff s k l mi) 503) fo) τ kp ln hh) sz) := by
  refine z_intro _ rfl zy_X7_findsFit (Nat.le_of_ble_eq_true rfl) ?_
  refine z_iconst (v := (nI 0)) dX7_findsFit_0 (by decide) ?_
  refine z_istore dX7_findsFit_1 (by decide) rfl rfl ?_
  refine z_iconst (v := (nI 0)) dX7_findsFit_3 (by decide) ?_
  refine z_istore dX7_findsFit_4 (by decide) rfl rfl ?_
  exact l_findsFit hk hl hm hT hR 504 0 _ _ fo (by omega) (fun _ => rfl) (fun e => absurd e (by decide))
end
section
section Z12
variable {M : zM} {G : zG} {d mc ms k n : Nat} {hh : zH} {sz : Nat} {pc : Nat} {lv : List (Option Value)} {st rest : List Value} {Post : Option Value → zH → Nat → Nat → Nat → Prop} {a b : Nat}
theorem z_iincM {i : Nat} {lv' : List (Option Value)} (hd : decode M.2.1 pc = .ok (.iinc i (-1), 3)) (hv : lv[i]? = some (some (.int (nI a)))) (hn : i < M.2.2.1) (hok : zok lv i = true) (hlv : lv.set i (some (.int (nI a - nI 1))) = lv') (kk : zS M G d mc ms k n hh sz (pc + 3) lv' st Post) : zS M G d mc ms k n hh sz pc lv st Post := z_iinc (v := nI a - nI 1) hd hv (by rw [Int32.sub_eq_add_neg]; rfl) hn hok hlv kk
end Z12
/-- the lowest sheet of a colour that has a fit, from i on, of m -/
def shF (s : Nat → Int32) (col : Int32) (l mi : Nat) : Nat → Nat → Nat
  | 0, i => i
  | m + 1, i => if s (3 + 11 * i) = col ∧ ff s i l mi < 504 then i else shF s col l mi m (i + 1)
def shO (s : Nat → Int32) (col : Int32) (l mi : Nat) : Nat → Nat → (Nat → Int32) → (Nat → Int32)
  | 0, _, f => f
  | m + 1, i, f => if s (3 + 11 * i) = col then (if ff s i l mi < 504 then fo3 mi (ff s i l mi) f else shO s col l mi m (i + 1) (fo3 mi 503 f)) else shO s col l mi m (i + 1) f
def shV (s : Nat → Int32) (col : Int32) (l mi n m i : Nat) : Int32 := if shF s col l mi m i < n then nI (shF s col l mi m i) else -6
theorem shF_ge {s : Nat → Int32} {col : Int32} {l mi : Nat} : ∀ m i, i ≤ shF s col l mi m i ∧ shF s col l mi m i ≤ i + m
  | 0, i => ⟨Nat.le_refl _, Nat.le_refl _⟩
  | m + 1, i => by
    unfold shF
    split
    · omega
    · have := shF_ge (s := s) (col := col) (l := l) (mi := mi) m (i + 1); omega
theorem shF_fit {s : Nat → Int32} {col : Int32} {l mi : Nat} : ∀ (m i : Nat) (f : Nat → Int32), shF s col l mi m i < i + m → ff s (shF s col l mi m i) l mi < 504 ∧ s (3 + 11 * shF s col l mi m i) = col ∧ ∃ g, shO s col l mi m i f = fo3 mi (ff s (shF s col l mi m i) l mi) g
  | 0, i, f, h => absurd h (by unfold shF; omega)
  | m + 1, i, f, h => by
    by_cases c : s (3 + 11 * i) = col ∧ ff s i l mi < 504
    · have e : shF s col l mi (m + 1) i = i := by rw [shF, if_pos c]
      rw [e]
      exact ⟨c.2, c.1, f, by rw [shO, if_pos c.1, if_pos c.2]⟩
    · have e : shF s col l mi (m + 1) i = shF s col l mi m (i + 1) := by rw [shF, if_neg c]
      rw [e] at h ⊢
      have key := fun g => shF_fit (s := s) (col := col) (l := l) (mi := mi) m (i + 1) g (by omega)
      by_cases c1 : s (3 + 11 * i) = col
      · have c2 : ¬ ff s i l mi < 504 := fun z => c ⟨c1, z⟩
        rw [shO, if_pos c1, if_neg c2]
        exact key _
      · rw [shO, if_neg c1]
        exact key _
/-- the row of numbers with a new piece, number m -/
def newS (s : Nat → Int32) (m k l w r c : Nat) : Nat → Int32 :=
  upd (upd (upd (upd (upd (upd (upd (upd (cutS (upd s 1 (nI (m + 1))) k l w r c (hiN w)) (69 + 8 * m + 0) (nI l)) (69 + 8 * m + 1) (s (3 + 11 * k))) (69 + 8 * m + 2) (nI (w / 4))) (69 + 8 * m + 3) (nI 0)) (69 + 8 * m + 4) (-6)) (69 + 8 * m + 5) (nI k)) (69 + 8 * m + 6) (nI (14 * r + c))) (69 + 8 * m + 7) (nI w)
theorem okR_1 {s : Nat → Int32} (h : okR s) (x : Int32) : okR (upd s 1 x) := by
  intro k r hk hr
  have e : upd s 1 x (5 + 11 * k + r) = s (5 + 11 * k + r) := pk_un (by omega)
  unfold rN
  rw [e]
  exact h k r hk hr
theorem cutS_out {s : Nat → Int32} {k l w r c : Nat} : ∀ (i j : Nat), (j < 5 + 11 * k + r ∨ 5 + 11 * k + r + i ≤ j) → cutS s k l w r c i j = s j
  | 0, _, _ => rfl
  | i + 1, j, h => by
    rw [cutS, pk_un (by omega)]
    exact cutS_out i j (by omega)
/-- the lowest loose piece of a kind among the first i, else f -/
def loF (s : Nat → Int32) (col lt mi : Int32) : Nat → Int32 → Int32
  | 0, f => f
  | i + 1, f => loF s col lt mi i (if s (69 + 8 * i + 0) = lt ∧ s (69 + 8 * i + 1) = col ∧ s (69 + 8 * i + 2) = mi ∧ s (69 + 8 * i + 3) = 0 then nI i else f)
/-- the piece at a spot -/
def paF (s : Nat → Int32) (v : Int32) : Nat → Int32
  | 0 => -6
  | i + 1 => if s (69 + 8 * i + 4) = v then nI i else paF s v i
def ipF (s : Nat → Int32) (m : Nat) (pane : Int32) : Nat → Int32
  | 0 => nI 0
  | i + 1 => ipF s m pane i + (if paF s (nI 12 * pane + nI i) m = -6 then nI 0 else nI 1)
def putS (s : Nat → Int32) (p : Nat) (v : Int32) : Nat → Int32 := upd (upd s (69 + 8 * p + 3) (nI 1)) (69 + 8 * p + 4) v
set_option maxHeartbeats 4000000 in
set_option maxRecDepth 100000 in
theorem l_sheetFor {G : zG} {hh : zH} {sz mo : Nat} {s fo : Nat → Int32} {τ : Nat → Nat → Int32} {kp ln : Int32} {col : Int32} {l mi n : Nat} (hn : n ≤ 6) (h0 : s 0 = nI n) (hl : l < 8) (hm : mi < 2) (hT : τ 6 = tabI) (hR : okR s) : ∀ (m i : Nat) (f : Nat → Int32), i + m = n → zS MX7_sheetFor G 3 0 0 0 0 (mq G mo s f τ kp ln hh) sz 3 [some (.ref mo), some (.int col), some (.int (nI l)), some (.int (nI mi)), some (.int (nI i))] [] (fun rr hh' ss' kk' nn' => zR (.int (shV s col l mi n m i)) (mq G mo s (shO s col l mi m i f) τ kp ln hh) sz rr hh' ss' ∧ kk' ≤ 0 ∧ nn' ≤ 0) := by
  intro m; induction m with
  | zero =>
    intro i f hi
    refine z_iload dX7_sheetFor_3 rfl ?_
    refine z_aload_n dX7_sheetFor_5 rfl ?_
    refine z_get (ci := 7) (f := 0) dX7_sheetFor_6 ⟨by decide, by decide, zm_663, rfl⟩ mq_o rfl ?_
    refine z_iconst (v := (nI 0)) dX7_sheetFor_9 (by decide) ?_
    refine z_ialdN dX7_sheetFor_10 mq_a0 rfl (by omega) (by decide) ?_
    refine z_eq h0 ?_
    refine z_icmp_ge (tgt := 49) dX7_sheetFor_11 (by decide) (fun c_11 => ?_) (fun c_11 => absurd c_11 (not_not_intro (nI_le (by omega) (by omega))))
    refine z_bipush (v := (-6)) dX7_sheetFor_49 (by decide) ?_
    exact z_iretR dX7_sheetFor_51 rfl (by unfold shV shF; rw [if_neg (by omega)]) rfl rfl (Nat.le_refl _) (Nat.le_refl _)
  | succ m ih =>
    intro i f hi
    refine z_iload dX7_sheetFor_3 rfl ?_
    refine z_aload_n dX7_sheetFor_5 rfl ?_
    refine z_get (ci := 7) (f := 0) dX7_sheetFor_6 ⟨by decide, by decide, zm_663, rfl⟩ mq_o rfl ?_
    refine z_iconst (v := (nI 0)) dX7_sheetFor_9 (by decide) ?_
    refine z_ialdN dX7_sheetFor_10 mq_a0 rfl (by omega) (by decide) ?_
    refine z_eq h0 ?_
    refine z_icmp_ge (tgt := 49) dX7_sheetFor_11 (by decide) (fun c_11 => absurd c_11 (nI_ge (by omega) (by omega))) (fun c_11 => ?_)
    refine z_aload_n dX7_sheetFor_14 rfl ?_
    refine z_get (ci := 7) (f := 0) dX7_sheetFor_15 ⟨by decide, by decide, zm_663, rfl⟩ mq_o rfl ?_
    refine z_iload dX7_sheetFor_18 rfl ?_
    refine z_iconst (v := (nI 0)) dX7_sheetFor_20 (by decide) ?_
    refine z_callSR kn_ofOne dX7_sheetFor_21 ⟨zm_709, zm_711, zm_8, zm_710⟩  (by decide) zp_X7_ofOne rfl (Nat.le_of_ble_eq_true rfl) (Nat.le_refl _) (Nat.le_refl _) ?_
    refine z_ialdN (j := 3 + 11 * i) dX7_sheetFor_24 mq_a0 (by congr 1) (by omega) (by decide) ?_
    refine z_iload_n dX7_sheetFor_25 rfl ?_
    refine z_icmp_ne (tgt := 43) dX7_sheetFor_26 (by decide) (fun c_26 => ?_) (fun c_26 => ?_)
    · have e0 : shF s col l mi (m + 1) i = shF s col l mi m (i + 1) := by rw [shF, if_neg (fun z => c_26 z.1)]
      have e1 : shV s col l mi n (m + 1) i = shV s col l mi n m (i + 1) := by unfold shV; rw [e0]
      have e2 : shO s col l mi (m + 1) i f = shO s col l mi m (i + 1) f := by rw [shO, if_neg c_26]
      rw [e1, e2]
      refine z_iincU dX7_sheetFor_43 rfl (by decide) rfl rfl ?_
      refine z_goto (tgt := 3) dX7_sheetFor_46 (by decide) ?_
      exact ih (i + 1) f (by omega)
    · refine z_aload_n dX7_sheetFor_29 rfl ?_
      refine z_iload dX7_sheetFor_30 rfl ?_
      refine z_iload_n dX7_sheetFor_32 rfl ?_
      refine z_iload_n dX7_sheetFor_33 rfl ?_
      refine z_callVR (ci := 7) (k_X7_findsFit (by omega) hl hm hT hR) dX7_sheetFor_34 ⟨zm_750, zm_753, zm_8, zm_752, zmp_13, by decide⟩ mq_o (by decide) zp_X7_findsFit rfl (Nat.le_of_ble_eq_true rfl) (Nat.le_refl _) (Nat.le_refl _) ?_
      refine z_if_eq (tgt := 43) dX7_sheetFor_37 (by decide) (fun c_37 => ?_) (fun c_37 => ?_)
      · have hf : ¬ ff s i l mi < 504 := by simpa using zb_0 c_37
        have hle : ff s i l mi = 504 := by have := (ffA_le (s := s) (k := i) (l := l) (mi := mi) 504 0).2; unfold ff at hf ⊢; omega
        have e0 : shF s col l mi (m + 1) i = shF s col l mi m (i + 1) := by rw [shF, if_neg (fun z => hf z.2)]
        have e1 : shV s col l mi n (m + 1) i = shV s col l mi n m (i + 1) := by unfold shV; rw [e0]
        have e2 : shO s col l mi (m + 1) i f = shO s col l mi m (i + 1) (fo3 mi 503 f) := by rw [shO, if_pos c_26, if_neg hf]
        rw [e1, e2, show min (ff s i l mi) 503 = 503 by omega]
        refine z_iincU dX7_sheetFor_43 rfl (by decide) rfl rfl ?_
        refine z_goto (tgt := 3) dX7_sheetFor_46 (by decide) ?_
        exact ih (i + 1) _ (by omega)
      · refine z_iload dX7_sheetFor_40 rfl ?_
        have hf : ff s i l mi < 504 := by simpa using zb_1 c_37
        have e1 : shF s col l mi (m + 1) i = i := by rw [shF, if_pos ⟨c_26, hf⟩]
        exact z_iretR dX7_sheetFor_42 rfl (by unfold shV; rw [e1, if_pos (by omega)]) (by rw [shO, if_pos c_26, if_pos hf, show min (ff s i l mi) 503 = ff s i l mi by omega]) rfl (Nat.le_refl _) (Nat.le_refl _)
set_option maxHeartbeats 4000000 in
set_option maxRecDepth 100000 in
theorem k_X7_sheetFor {G : zG} {hh : zH} {sz mo : Nat} {s fo : Nat → Int32} {τ : Nat → Nat → Int32} {kp ln : Int32} {col : Int32} {l mi n : Nat} (hn : n ≤ 6) (h0 : s 0 = nI n) (hl : l < 8) (hm : mi < 2) (hT : τ 6 = tabI) (hR : okR s) : zC G 3 MX7_sheetFor yX7_sheetFor [.ref mo, .int col, .int (nI l), .int (nI mi)] (mq G mo s fo τ kp ln hh) sz 0 0 (zR (.int (shV s col l mi n n 0)) (mq G mo s (shO s col l mi n 0 fo) τ kp ln hh) sz) := by
  refine z_intro _ rfl zy_X7_sheetFor (Nat.le_of_ble_eq_true rfl) ?_
  refine z_iconst (v := (nI 0)) dX7_sheetFor_0 (by decide) ?_
  refine z_istore dX7_sheetFor_1 (by decide) rfl rfl ?_
  exact l_sheetFor (fo := fo) hn h0 hl hm hT hR n 0 fo (Nat.zero_add _)
theorem y_X7_newPiece {s : Nat → Int32} {k l w r c m : Nat} (hm : m < 48) (hk : k < 6) (hr : r + hiN w ≤ 9) : (upd (cutS (upd s 1 (nI (m + 1))) k l w r c (hiN w)) (69 + 8 * m + 0) (nI l)) (3 + 11 * k) = s (3 + 11 * k) := by
  rw [pk_un (by omega), cutS_out _ _ (by omega), pk_un (by omega)]
set_option maxHeartbeats 4000000 in
set_option maxRecDepth 100000 in
theorem k_X7_newPiece {G : zG} {hh : zH} {sz mo : Nat} {s fo : Nat → Int32} {τ : Nat → Nat → Int32} {kp ln : Int32} {k l w r c m : Nat} (hk : k < 6) (hl : l < 8) (hw : w < 8) (hT : τ 6 = tabI) (hR : okR s) (h1 : s 1 = nI m) (hm : m < 48) (hr : r + hiN w ≤ 9) (hc : c < 32) : zC G 2 MX7_newPiece yX7_newPiece [.ref mo, .int (nI k), .int (nI l), .int (nI w), .int (nI r), .int (nI c)] (mq G mo s fo τ kp ln hh) sz 0 0 (zR (.int (nI m)) (mq G mo (newS s m k l w r c) fo τ kp ln hh) sz) := by
  refine z_intro _ rfl zy_X7_newPiece (Nat.le_of_ble_eq_true rfl) ?_
  refine z_aload_n dX7_newPiece_0 rfl ?_
  refine z_get (ci := 7) (f := 0) dX7_newPiece_1 ⟨by decide, by decide, zm_663, rfl⟩ mq_o rfl ?_
  refine z_iconst (v := (nI 1)) dX7_newPiece_4 (by decide) ?_
  refine z_ialdN dX7_newPiece_5 mq_a0 rfl (by omega) (by decide) ?_
  refine z_eq h1 ?_
  refine z_istore dX7_newPiece_6 (by decide) rfl rfl ?_
  refine z_aload_n dX7_newPiece_8 rfl ?_
  refine z_get (ci := 7) (f := 0) dX7_newPiece_9 ⟨by decide, by decide, zm_663, rfl⟩ mq_o rfl ?_
  refine z_iconst (v := (nI 1)) dX7_newPiece_12 (by decide) ?_
  refine z_dup2 dX7_newPiece_13 rfl rfl ?_
  refine z_ialdN dX7_newPiece_14 mq_a0 rfl (by omega) (by decide) ?_
  refine z_eq h1 ?_
  refine z_iconst (v := (nI 1)) dX7_newPiece_15 (by decide) ?_
  refine z_iaddN dX7_newPiece_16 ?_
  refine z_iastN dX7_newPiece_17 mq_a0 rfl (by omega) (by decide) ?_
  refine z_heap mq_u0 ?_
  refine z_aload_n dX7_newPiece_18 rfl ?_
  refine z_iload_n dX7_newPiece_19 rfl ?_
  refine z_iload_n dX7_newPiece_20 rfl ?_
  refine z_iload_n dX7_newPiece_21 rfl ?_
  refine z_iload dX7_newPiece_22 rfl ?_
  refine z_iload dX7_newPiece_24 rfl ?_
  refine z_callVU (ci := 7) (k_X7_cutsOut hk hl hw hT (okR_1 hR _) hr hc) dX7_newPiece_26 ⟨zm_735, zm_738, zm_8, zm_737, zmp_11, by decide⟩ mq_o (by decide) zp_X7_cutsOut rfl (Nat.le_of_ble_eq_true rfl) (Nat.le_refl _) (Nat.le_refl _) ?_
  refine z_aload_n dX7_newPiece_29 rfl ?_
  refine z_get (ci := 7) (f := 0) dX7_newPiece_30 ⟨by decide, by decide, zm_663, rfl⟩ mq_o rfl ?_
  refine z_iload dX7_newPiece_33 rfl ?_
  refine z_iconst (v := (nI 0)) dX7_newPiece_35 (by decide) ?_
  refine z_callSR kn_at dX7_newPiece_36 ⟨zm_739, zm_741, zm_8, zm_740⟩  (by decide) zp_X7_at rfl (Nat.le_of_ble_eq_true rfl) (Nat.le_refl _) (Nat.le_refl _) ?_
  refine z_iload_n dX7_newPiece_39 rfl ?_
  refine z_iastN dX7_newPiece_40 mq_a0 rfl (by omega) (by decide) ?_
  refine z_heap mq_u0 ?_
  refine z_aload_n dX7_newPiece_41 rfl ?_
  refine z_get (ci := 7) (f := 0) dX7_newPiece_42 ⟨by decide, by decide, zm_663, rfl⟩ mq_o rfl ?_
  refine z_iload dX7_newPiece_45 rfl ?_
  refine z_iconst (v := (nI 1)) dX7_newPiece_47 (by decide) ?_
  refine z_callSR kn_at dX7_newPiece_48 ⟨zm_739, zm_741, zm_8, zm_740⟩  (by decide) zp_X7_at rfl (Nat.le_of_ble_eq_true rfl) (Nat.le_refl _) (Nat.le_refl _) ?_
  refine z_aload_n dX7_newPiece_51 rfl ?_
  refine z_get (ci := 7) (f := 0) dX7_newPiece_52 ⟨by decide, by decide, zm_663, rfl⟩ mq_o rfl ?_
  refine z_iload_n dX7_newPiece_55 rfl ?_
  refine z_iconst (v := (nI 0)) dX7_newPiece_56 (by decide) ?_
  refine z_callSR kn_ofOne dX7_newPiece_57 ⟨zm_709, zm_711, zm_8, zm_710⟩  (by decide) zp_X7_ofOne rfl (Nat.le_of_ble_eq_true rfl) (Nat.le_refl _) (Nat.le_refl _) ?_
  refine z_ialdN (j := 3 + 11 * k) dX7_newPiece_60 mq_a0 (by congr 1) (by omega) (by decide) ?_
  refine z_eq (y_X7_newPiece hm hk hr) ?_
  refine z_iastN dX7_newPiece_61 mq_a0 rfl (by omega) (by decide) ?_
  refine z_heap mq_u0 ?_
  refine z_aload_n dX7_newPiece_62 rfl ?_
  refine z_get (ci := 7) (f := 0) dX7_newPiece_63 ⟨by decide, by decide, zm_663, rfl⟩ mq_o rfl ?_
  refine z_iload dX7_newPiece_66 rfl ?_
  refine z_iconst (v := (nI 2)) dX7_newPiece_68 (by decide) ?_
  refine z_callSR kn_at dX7_newPiece_69 ⟨zm_739, zm_741, zm_8, zm_740⟩  (by decide) zp_X7_at rfl (Nat.le_of_ble_eq_true rfl) (Nat.le_refl _) (Nat.le_refl _) ?_
  refine z_iload_n dX7_newPiece_72 rfl ?_
  refine z_iconst (v := (nI 4)) dX7_newPiece_73 (by decide) ?_
  refine z_idivN dX7_newPiece_74 (by omega) (by omega) (by omega) ?_
  refine z_iastN dX7_newPiece_75 mq_a0 rfl (by omega) (by decide) ?_
  refine z_heap mq_u0 ?_
  refine z_aload_n dX7_newPiece_76 rfl ?_
  refine z_get (ci := 7) (f := 0) dX7_newPiece_77 ⟨by decide, by decide, zm_663, rfl⟩ mq_o rfl ?_
  refine z_iload dX7_newPiece_80 rfl ?_
  refine z_iconst (v := (nI 3)) dX7_newPiece_82 (by decide) ?_
  refine z_callSR kn_at dX7_newPiece_83 ⟨zm_739, zm_741, zm_8, zm_740⟩  (by decide) zp_X7_at rfl (Nat.le_of_ble_eq_true rfl) (Nat.le_refl _) (Nat.le_refl _) ?_
  refine z_iconst (v := (nI 0)) dX7_newPiece_86 (by decide) ?_
  refine z_iastN dX7_newPiece_87 mq_a0 rfl (by omega) (by decide) ?_
  refine z_heap mq_u0 ?_
  refine z_aload_n dX7_newPiece_88 rfl ?_
  refine z_get (ci := 7) (f := 0) dX7_newPiece_89 ⟨by decide, by decide, zm_663, rfl⟩ mq_o rfl ?_
  refine z_iload dX7_newPiece_92 rfl ?_
  refine z_iconst (v := (nI 4)) dX7_newPiece_94 (by decide) ?_
  refine z_callSR kn_at dX7_newPiece_95 ⟨zm_739, zm_741, zm_8, zm_740⟩  (by decide) zp_X7_at rfl (Nat.le_of_ble_eq_true rfl) (Nat.le_refl _) (Nat.le_refl _) ?_
  refine z_bipush (v := (-6)) dX7_newPiece_98 (by decide) ?_
  refine z_iastN dX7_newPiece_100 mq_a0 rfl (by omega) (by decide) ?_
  refine z_heap mq_u0 ?_
  refine z_aload_n dX7_newPiece_101 rfl ?_
  refine z_get (ci := 7) (f := 0) dX7_newPiece_102 ⟨by decide, by decide, zm_663, rfl⟩ mq_o rfl ?_
  refine z_iload dX7_newPiece_105 rfl ?_
  refine z_iconst (v := (nI 5)) dX7_newPiece_107 (by decide) ?_
  refine z_callSR kn_at dX7_newPiece_108 ⟨zm_739, zm_741, zm_8, zm_740⟩  (by decide) zp_X7_at rfl (Nat.le_of_ble_eq_true rfl) (Nat.le_refl _) (Nat.le_refl _) ?_
  refine z_iload_n dX7_newPiece_111 rfl ?_
  refine z_iastN dX7_newPiece_112 mq_a0 rfl (by omega) (by decide) ?_
  refine z_heap mq_u0 ?_
  refine z_aload_n dX7_newPiece_113 rfl ?_
  refine z_get (ci := 7) (f := 0) dX7_newPiece_114 ⟨by decide, by decide, zm_663, rfl⟩ mq_o rfl ?_
  refine z_iload dX7_newPiece_117 rfl ?_
  refine z_bipush (v := (nI 6)) dX7_newPiece_119 (by decide) ?_
  refine z_callSR kn_at dX7_newPiece_121 ⟨zm_739, zm_741, zm_8, zm_740⟩  (by decide) zp_X7_at rfl (Nat.le_of_ble_eq_true rfl) (Nat.le_refl _) (Nat.le_refl _) ?_
  refine z_bipush (v := (nI 14)) dX7_newPiece_124 (by decide) ?_
  refine z_iload dX7_newPiece_126 rfl ?_
  refine z_imulN dX7_newPiece_128 ?_
  refine z_iload dX7_newPiece_129 rfl ?_
  refine z_iaddN dX7_newPiece_131 ?_
  refine z_iastN dX7_newPiece_132 mq_a0 rfl (by omega) (by decide) ?_
  refine z_heap mq_u0 ?_
  refine z_aload_n dX7_newPiece_133 rfl ?_
  refine z_get (ci := 7) (f := 0) dX7_newPiece_134 ⟨by decide, by decide, zm_663, rfl⟩ mq_o rfl ?_
  refine z_iload dX7_newPiece_137 rfl ?_
  refine z_bipush (v := (nI 7)) dX7_newPiece_139 (by decide) ?_
  refine z_callSR kn_at dX7_newPiece_141 ⟨zm_739, zm_741, zm_8, zm_740⟩  (by decide) zp_X7_at rfl (Nat.le_of_ble_eq_true rfl) (Nat.le_refl _) (Nat.le_refl _) ?_
  refine z_iload_n dX7_newPiece_144 rfl ?_
  refine z_iastN dX7_newPiece_145 mq_a0 rfl (by omega) (by decide) ?_
  refine z_heap mq_u0 ?_
  refine z_iload dX7_newPiece_146 rfl ?_
  exact z_iretR dX7_newPiece_148 rfl rfl rfl rfl (Nat.le_refl _) (Nat.le_refl _)
set_option maxHeartbeats 4000000 in
set_option maxRecDepth 100000 in
theorem l_looseOne {G : zG} {hh : zH} {sz mo : Nat} {s fo : Nat → Int32} {τ : Nat → Nat → Int32} {kp ln : Int32} {col lt mi : Int32} {m : Nat} (h1 : s 1 = nI m) (hm : m ≤ 48) : ∀ (i : Nat) (f : Int32) (p6 : Option Value), i ≤ 48 → zS MX7_looseOne G 1 0 0 0 0 (mq G mo s fo τ kp ln hh) sz 14 [some (.ref mo), some (.int col), some (.int lt), some (.int mi), some (.int f), some (.int (nI i - nI 1)), p6] [] (fun rr hh' ss' kk' nn' => zR (.int (loF s col lt mi i f)) (mq G mo s fo τ kp ln hh) sz rr hh' ss' ∧ kk' ≤ 0 ∧ nn' ≤ 0) := by
  intro i; induction i with
  | zero =>
    intro f p6 hi
    refine z_iload dX7_looseOne_14 rfl ?_
    refine z_if_lt (tgt := 105) dX7_looseOne_16 (by decide) (fun c_16 => ?_) (fun c_16 => absurd c_16 (not_not_intro (by decide)))
    refine z_iload dX7_looseOne_105 rfl ?_
    exact z_iretR dX7_looseOne_107 rfl rfl rfl rfl (Nat.le_refl _) (Nat.le_refl _)
  | succ i ih =>
    intro f p6 hi
    refine z_iload dX7_looseOne_14 rfl ?_
    rw [pk_sub (show 1 ≤ i + 1 by omega), Nat.add_sub_cancel]
    refine z_if_lt (tgt := 105) dX7_looseOne_16 (by decide) (fun c_16 => absurd c_16 (nI_pos (by omega))) (fun c_16 => ?_)
    refine z_aload_n dX7_looseOne_19 rfl ?_
    refine z_get (ci := 7) (f := 0) dX7_looseOne_20 ⟨by decide, by decide, zm_663, rfl⟩ mq_o rfl ?_
    refine z_iload dX7_looseOne_23 rfl ?_
    refine z_iconst (v := (nI 0)) dX7_looseOne_25 (by decide) ?_
    refine z_callSR kn_at dX7_looseOne_26 ⟨zm_739, zm_741, zm_8, zm_740⟩  (by decide) zp_X7_at rfl (Nat.le_of_ble_eq_true rfl) (Nat.le_refl _) (Nat.le_refl _) ?_
    refine z_ialdN dX7_looseOne_29 mq_a0 rfl (by omega) (by decide) ?_
    refine z_iload_n dX7_looseOne_30 rfl ?_
    refine z_icmp_ne (tgt := 68) dX7_looseOne_31 (by decide) (fun c_31 => ?_) (fun c_31 => ?_)
    · refine z_iconst (v := (nI 0)) dX7_looseOne_68 (by decide) ?_
      refine z_istore dX7_looseOne_69 (by decide) rfl rfl ?_
      refine z_iload dX7_looseOne_71 rfl ?_
      refine z_if_eq (tgt := 95) dX7_looseOne_73 (by decide) (fun c_73 => ?_) (fun c_73 => absurd c_73 (by decide))
      refine z_iload dX7_looseOne_95 rfl ?_
      refine z_istore dX7_looseOne_97 (by decide) rfl rfl ?_
      refine z_iincM dX7_looseOne_99 rfl (by decide) rfl rfl ?_
      refine z_goto (tgt := 14) dX7_looseOne_102 (by decide) ?_
      have e1 : loF s col lt mi (i + 1) f = loF s col lt mi i f := by rw [loF, if_neg (fun z => c_31 z.1)]
      rw [e1]
      exact ih _ _ (by omega)
    · refine z_aload_n dX7_looseOne_34 rfl ?_
      refine z_get (ci := 7) (f := 0) dX7_looseOne_35 ⟨by decide, by decide, zm_663, rfl⟩ mq_o rfl ?_
      refine z_iload dX7_looseOne_38 rfl ?_
      refine z_iconst (v := (nI 1)) dX7_looseOne_40 (by decide) ?_
      refine z_callSR kn_at dX7_looseOne_41 ⟨zm_739, zm_741, zm_8, zm_740⟩  (by decide) zp_X7_at rfl (Nat.le_of_ble_eq_true rfl) (Nat.le_refl _) (Nat.le_refl _) ?_
      refine z_ialdN dX7_looseOne_44 mq_a0 rfl (by omega) (by decide) ?_
      refine z_iload_n dX7_looseOne_45 rfl ?_
      refine z_icmp_ne (tgt := 68) dX7_looseOne_46 (by decide) (fun c_46 => ?_) (fun c_46 => ?_)
      · refine z_iconst (v := (nI 0)) dX7_looseOne_68 (by decide) ?_
        refine z_istore dX7_looseOne_69 (by decide) rfl rfl ?_
        refine z_iload dX7_looseOne_71 rfl ?_
        refine z_if_eq (tgt := 95) dX7_looseOne_73 (by decide) (fun c_73 => ?_) (fun c_73 => absurd c_73 (by decide))
        refine z_iload dX7_looseOne_95 rfl ?_
        refine z_istore dX7_looseOne_97 (by decide) rfl rfl ?_
        refine z_iincM dX7_looseOne_99 rfl (by decide) rfl rfl ?_
        refine z_goto (tgt := 14) dX7_looseOne_102 (by decide) ?_
        have e1 : loF s col lt mi (i + 1) f = loF s col lt mi i f := by rw [loF, if_neg (fun z => c_46 z.2.1)]
        rw [e1]
        exact ih _ _ (by omega)
      · refine z_aload_n dX7_looseOne_49 rfl ?_
        refine z_get (ci := 7) (f := 0) dX7_looseOne_50 ⟨by decide, by decide, zm_663, rfl⟩ mq_o rfl ?_
        refine z_iload dX7_looseOne_53 rfl ?_
        refine z_iconst (v := (nI 2)) dX7_looseOne_55 (by decide) ?_
        refine z_callSR kn_at dX7_looseOne_56 ⟨zm_739, zm_741, zm_8, zm_740⟩  (by decide) zp_X7_at rfl (Nat.le_of_ble_eq_true rfl) (Nat.le_refl _) (Nat.le_refl _) ?_
        refine z_ialdN dX7_looseOne_59 mq_a0 rfl (by omega) (by decide) ?_
        refine z_iload_n dX7_looseOne_60 rfl ?_
        refine z_icmp_ne (tgt := 68) dX7_looseOne_61 (by decide) (fun c_61 => ?_) (fun c_61 => ?_)
        · refine z_iconst (v := (nI 0)) dX7_looseOne_68 (by decide) ?_
          refine z_istore dX7_looseOne_69 (by decide) rfl rfl ?_
          refine z_iload dX7_looseOne_71 rfl ?_
          refine z_if_eq (tgt := 95) dX7_looseOne_73 (by decide) (fun c_73 => ?_) (fun c_73 => absurd c_73 (by decide))
          refine z_iload dX7_looseOne_95 rfl ?_
          refine z_istore dX7_looseOne_97 (by decide) rfl rfl ?_
          refine z_iincM dX7_looseOne_99 rfl (by decide) rfl rfl ?_
          refine z_goto (tgt := 14) dX7_looseOne_102 (by decide) ?_
          have e1 : loF s col lt mi (i + 1) f = loF s col lt mi i f := by rw [loF, if_neg (fun z => c_61 z.2.2.1)]
          rw [e1]
          exact ih _ _ (by omega)
        · refine z_iconst (v := (nI 1)) dX7_looseOne_64 (by decide) ?_
          refine z_goto (tgt := 69) dX7_looseOne_65 (by decide) ?_
          refine z_istore dX7_looseOne_69 (by decide) rfl rfl ?_
          refine z_iload dX7_looseOne_71 rfl ?_
          refine z_if_eq (tgt := 95) dX7_looseOne_73 (by decide) (fun c_73 => absurd c_73 (by decide)) (fun c_73 => ?_)
          refine z_aload_n dX7_looseOne_76 rfl ?_
          refine z_get (ci := 7) (f := 0) dX7_looseOne_77 ⟨by decide, by decide, zm_663, rfl⟩ mq_o rfl ?_
          refine z_iload dX7_looseOne_80 rfl ?_
          refine z_iconst (v := (nI 3)) dX7_looseOne_82 (by decide) ?_
          refine z_callSR kn_at dX7_looseOne_83 ⟨zm_739, zm_741, zm_8, zm_740⟩  (by decide) zp_X7_at rfl (Nat.le_of_ble_eq_true rfl) (Nat.le_refl _) (Nat.le_refl _) ?_
          refine z_ialdN dX7_looseOne_86 mq_a0 rfl (by omega) (by decide) ?_
          refine z_if_ne (tgt := 95) dX7_looseOne_87 (by decide) (fun c_87 => ?_) (fun c_87 => ?_)
          · refine z_iload dX7_looseOne_95 rfl ?_
            refine z_istore dX7_looseOne_97 (by decide) rfl rfl ?_
            refine z_iincM dX7_looseOne_99 rfl (by decide) rfl rfl ?_
            refine z_goto (tgt := 14) dX7_looseOne_102 (by decide) ?_
            have e1 : loF s col lt mi (i + 1) f = loF s col lt mi i f := by rw [loF, if_neg (fun z => c_87 z.2.2.2)]
            rw [e1]
            exact ih _ _ (by omega)
          · refine z_iload dX7_looseOne_90 rfl ?_
            refine z_goto (tgt := 97) dX7_looseOne_92 (by decide) ?_
            refine z_istore dX7_looseOne_97 (by decide) rfl rfl ?_
            refine z_iincM dX7_looseOne_99 rfl (by decide) rfl rfl ?_
            refine z_goto (tgt := 14) dX7_looseOne_102 (by decide) ?_
            have e1 : loF s col lt mi (i + 1) f = loF s col lt mi i (nI i) := by rw [loF, if_pos ⟨c_31, c_46, c_61, c_87⟩]
            rw [e1]
            exact ih _ _ (by omega)
set_option maxHeartbeats 4000000 in
set_option maxRecDepth 100000 in
theorem k_X7_looseOne {G : zG} {hh : zH} {sz mo : Nat} {s fo : Nat → Int32} {τ : Nat → Nat → Int32} {kp ln : Int32} {col lt mi : Int32} {m : Nat} (h1 : s 1 = nI m) (hm : m ≤ 48) : zC G 1 MX7_looseOne yX7_looseOne [.ref mo, .int col, .int lt, .int mi] (mq G mo s fo τ kp ln hh) sz 0 0 (zR (.int (loF s col lt mi m (-6))) (mq G mo s fo τ kp ln hh) sz) := by
  refine z_intro _ rfl zy_X7_looseOne (Nat.le_of_ble_eq_true rfl) ?_
  refine z_bipush (v := (-6)) dX7_looseOne_0 (by decide) ?_
  refine z_istore dX7_looseOne_2 (by decide) rfl rfl ?_
  refine z_aload_n dX7_looseOne_4 rfl ?_
  refine z_get (ci := 7) (f := 0) dX7_looseOne_5 ⟨by decide, by decide, zm_663, rfl⟩ mq_o rfl ?_
  refine z_iconst (v := (nI 1)) dX7_looseOne_8 (by decide) ?_
  refine z_ialdN dX7_looseOne_9 mq_a0 rfl (by omega) (by decide) ?_
  refine z_eq h1 ?_
  refine z_iconst (v := (nI 1)) dX7_looseOne_10 (by decide) ?_
  refine z_isub dX7_looseOne_11 ?_
  refine z_istore dX7_looseOne_12 (by decide) rfl rfl ?_
  exact l_looseOne h1 hm m _ _ hm
set_option maxHeartbeats 4000000 in
set_option maxRecDepth 100000 in
theorem l_pieceAt {G : zG} {hh : zH} {sz mo : Nat} {s fo : Nat → Int32} {τ : Nat → Nat → Int32} {kp ln : Int32} {pane place : Int32} {m : Nat} (h1 : s 1 = nI m) (hm : m ≤ 48) : ∀ (n i : Nat), i + n = m → zS MX7_pieceAt G 1 0 0 0 0 (mq G mo s fo τ kp ln hh) sz 6 [some (.ref mo), some (.int pane), some (.int place), some (.int (paF s (nI 12 * pane + place) i)), some (.int (nI i))] [] (fun rr hh' ss' kk' nn' => zR (.int (paF s (nI 12 * pane + place) m)) (mq G mo s fo τ kp ln hh) sz rr hh' ss' ∧ kk' ≤ 0 ∧ nn' ≤ 0) := by
  intro n; induction n with
  | zero =>
    intro i hi
    refine z_iload dX7_pieceAt_6 rfl ?_
    refine z_aload_n dX7_pieceAt_8 rfl ?_
    refine z_get (ci := 7) (f := 0) dX7_pieceAt_9 ⟨by decide, by decide, zm_663, rfl⟩ mq_o rfl ?_
    refine z_iconst (v := (nI 1)) dX7_pieceAt_12 (by decide) ?_
    refine z_ialdN dX7_pieceAt_13 mq_a0 rfl (by omega) (by decide) ?_
    refine z_eq h1 ?_
    refine z_icmp_ge (tgt := 50) dX7_pieceAt_14 (by decide) (fun c_14 => ?_) (fun c_14 => absurd c_14 (not_not_intro (nI_le (by omega) (by omega))))
    refine z_iload_n dX7_pieceAt_50 rfl ?_
    exact z_iretR dX7_pieceAt_51 rfl (by rw [show i = m by omega]) rfl rfl (Nat.le_refl _) (Nat.le_refl _)
  | succ n ih =>
    intro i hi
    refine z_iload dX7_pieceAt_6 rfl ?_
    refine z_aload_n dX7_pieceAt_8 rfl ?_
    refine z_get (ci := 7) (f := 0) dX7_pieceAt_9 ⟨by decide, by decide, zm_663, rfl⟩ mq_o rfl ?_
    refine z_iconst (v := (nI 1)) dX7_pieceAt_12 (by decide) ?_
    refine z_ialdN dX7_pieceAt_13 mq_a0 rfl (by omega) (by decide) ?_
    refine z_eq h1 ?_
    refine z_icmp_ge (tgt := 50) dX7_pieceAt_14 (by decide) (fun c_14 => absurd c_14 (nI_ge (by omega) (by omega))) (fun c_14 => ?_)
    refine z_aload_n dX7_pieceAt_17 rfl ?_
    refine z_get (ci := 7) (f := 0) dX7_pieceAt_18 ⟨by decide, by decide, zm_663, rfl⟩ mq_o rfl ?_
    refine z_iload dX7_pieceAt_21 rfl ?_
    refine z_iconst (v := (nI 4)) dX7_pieceAt_23 (by decide) ?_
    refine z_callSR kn_at dX7_pieceAt_24 ⟨zm_739, zm_741, zm_8, zm_740⟩  (by decide) zp_X7_at rfl (Nat.le_of_ble_eq_true rfl) (Nat.le_refl _) (Nat.le_refl _) ?_
    refine z_ialdN (j := 69 + 8 * i + 4) dX7_pieceAt_27 mq_a0 rfl (by omega) (by decide) ?_
    refine z_bipush (v := (nI 12)) dX7_pieceAt_28 (by decide) ?_
    refine z_iload_n dX7_pieceAt_30 rfl ?_
    refine z_imul dX7_pieceAt_31 ?_
    refine z_iload_n dX7_pieceAt_32 rfl ?_
    refine z_iadd dX7_pieceAt_33 ?_
    refine z_icmp_ne (tgt := 42) dX7_pieceAt_34 (by decide) (fun c_34 => ?_) (fun c_34 => ?_)
    · refine z_iload_n dX7_pieceAt_42 rfl ?_
      refine z_istore_n dX7_pieceAt_43 (by decide) rfl rfl ?_
      refine z_iincU dX7_pieceAt_44 rfl (by decide) rfl rfl ?_
      refine z_goto (tgt := 6) dX7_pieceAt_47 (by decide) ?_
      have e1 := ih (i + 1) (by omega)
      rw [show paF s (nI 12 * pane + place) (i + 1) = paF s (nI 12 * pane + place) i from by rw [paF, if_neg c_34]] at e1
      exact e1
    · refine z_iload dX7_pieceAt_37 rfl ?_
      refine z_goto (tgt := 43) dX7_pieceAt_39 (by decide) ?_
      refine z_istore_n dX7_pieceAt_43 (by decide) rfl rfl ?_
      refine z_iincU dX7_pieceAt_44 rfl (by decide) rfl rfl ?_
      refine z_goto (tgt := 6) dX7_pieceAt_47 (by decide) ?_
      have e1 := ih (i + 1) (by omega)
      rw [show paF s (nI 12 * pane + place) (i + 1) = nI i from by rw [paF, if_pos c_34]] at e1
      exact e1
set_option maxHeartbeats 4000000 in
set_option maxRecDepth 100000 in
theorem k_X7_pieceAt {G : zG} {hh : zH} {sz mo : Nat} {s fo : Nat → Int32} {τ : Nat → Nat → Int32} {kp ln : Int32} {pane place : Int32} {m : Nat} (h1 : s 1 = nI m) (hm : m ≤ 48) : zC G 1 MX7_pieceAt yX7_pieceAt [.ref mo, .int pane, .int place] (mq G mo s fo τ kp ln hh) sz 0 0 (zR (.int (paF s (nI 12 * pane + place) m)) (mq G mo s fo τ kp ln hh) sz) := by
  refine z_intro _ rfl zy_X7_pieceAt (Nat.le_of_ble_eq_true rfl) ?_
  refine z_bipush (v := (-6)) dX7_pieceAt_0 (by decide) ?_
  refine z_istore_n dX7_pieceAt_2 (by decide) rfl rfl ?_
  refine z_iconst (v := (nI 0)) dX7_pieceAt_3 (by decide) ?_
  refine z_istore dX7_pieceAt_4 (by decide) rfl rfl ?_
  exact l_pieceAt h1 hm m 0 (Nat.zero_add _)
set_option maxHeartbeats 4000000 in
set_option maxRecDepth 100000 in
theorem l_inPane {G : zG} {hh : zH} {sz mo : Nat} {s fo : Nat → Int32} {τ : Nat → Nat → Int32} {kp ln : Int32} {pane : Int32} {m : Nat} (h1 : s 1 = nI m) (hm : m ≤ 48) : ∀ (n i : Nat), i + n = 12 → zS MX7_inPane G 2 0 0 0 0 (mq G mo s fo τ kp ln hh) sz 4 [some (.ref mo), some (.int pane), some (.int (ipF s m pane i)), some (.int (nI i))] [] (fun rr hh' ss' kk' nn' => zR (.int (ipF s m pane 12)) (mq G mo s fo τ kp ln hh) sz rr hh' ss' ∧ kk' ≤ 0 ∧ nn' ≤ 0) := by
  intro n; induction n with
  | zero =>
    intro i hi
    refine z_iload_n dX7_inPane_4 rfl ?_
    refine z_bipush (v := (nI 12)) dX7_inPane_5 (by decide) ?_
    refine z_icmp_ge (tgt := 35) dX7_inPane_7 (by decide) (fun c_7 => ?_) (fun c_7 => absurd c_7 (not_not_intro (nI_le (by omega) (by omega))))
    refine z_iload_n dX7_inPane_35 rfl ?_
    exact z_iretR dX7_inPane_36 rfl (by rw [show i = 12 by omega]) rfl rfl (Nat.le_refl _) (Nat.le_refl _)
  | succ n ih =>
    intro i hi
    refine z_iload_n dX7_inPane_4 rfl ?_
    refine z_bipush (v := (nI 12)) dX7_inPane_5 (by decide) ?_
    refine z_icmp_ge (tgt := 35) dX7_inPane_7 (by decide) (fun c_7 => absurd c_7 (nI_ge (by omega) (by omega))) (fun c_7 => ?_)
    refine z_iload_n dX7_inPane_10 rfl ?_
    refine z_aload_n dX7_inPane_11 rfl ?_
    refine z_iload_n dX7_inPane_12 rfl ?_
    refine z_iload_n dX7_inPane_13 rfl ?_
    refine z_callVR (ci := 7) (k_X7_pieceAt h1 hm) dX7_inPane_14 ⟨zm_780, zm_783, zm_8, zm_782, zmp_17, by decide⟩ mq_o (by decide) zp_X7_pieceAt rfl (Nat.le_of_ble_eq_true rfl) (Nat.le_refl _) (Nat.le_refl _) ?_
    refine z_bipush (v := (-6)) dX7_inPane_17 (by decide) ?_
    refine z_icmp_ne (tgt := 26) dX7_inPane_19 (by decide) (fun c_19 => ?_) (fun c_19 => ?_)
    · refine z_iconst (v := (nI 1)) dX7_inPane_26 (by decide) ?_
      refine z_iadd dX7_inPane_27 ?_
      refine z_istore_n dX7_inPane_28 (by decide) rfl rfl ?_
      refine z_iincU dX7_inPane_29 rfl (by decide) rfl rfl ?_
      refine z_goto (tgt := 4) dX7_inPane_32 (by decide) ?_
      have e1 := ih (i + 1) (by omega)
      rw [ipF, if_neg c_19] at e1
      exact e1
    · refine z_iconst (v := (nI 0)) dX7_inPane_22 (by decide) ?_
      refine z_goto (tgt := 27) dX7_inPane_23 (by decide) ?_
      refine z_iadd dX7_inPane_27 ?_
      refine z_istore_n dX7_inPane_28 (by decide) rfl rfl ?_
      refine z_iincU dX7_inPane_29 rfl (by decide) rfl rfl ?_
      refine z_goto (tgt := 4) dX7_inPane_32 (by decide) ?_
      have e1 := ih (i + 1) (by omega)
      rw [ipF, if_pos c_19] at e1
      exact e1
set_option maxHeartbeats 4000000 in
set_option maxRecDepth 100000 in
theorem k_X7_inPane {G : zG} {hh : zH} {sz mo : Nat} {s fo : Nat → Int32} {τ : Nat → Nat → Int32} {kp ln : Int32} {pane : Int32} {m : Nat} (h1 : s 1 = nI m) (hm : m ≤ 48) : zC G 2 MX7_inPane yX7_inPane [.ref mo, .int pane] (mq G mo s fo τ kp ln hh) sz 0 0 (zR (.int (ipF s m pane 12)) (mq G mo s fo τ kp ln hh) sz) := by
  refine z_intro _ rfl zy_X7_inPane (Nat.le_of_ble_eq_true rfl) ?_
  refine z_iconst (v := (nI 0)) dX7_inPane_0 (by decide) ?_
  refine z_istore_n dX7_inPane_1 (by decide) rfl rfl ?_
  refine z_iconst (v := (nI 0)) dX7_inPane_2 (by decide) ?_
  refine z_istore_n dX7_inPane_3 (by decide) rfl rfl ?_
  exact l_inPane h1 hm 12 0 (Nat.zero_add _)
set_option maxHeartbeats 4000000 in
set_option maxRecDepth 100000 in
theorem k_X7_puts {G : zG} {hh : zH} {sz mo : Nat} {s fo : Nat → Int32} {τ : Nat → Nat → Int32} {kp ln : Int32} {p : Nat} {pane place : Int32} (hp : p < 48) : zC G 1 MX7_puts yX7_puts [.ref mo, .int (nI p), .int pane, .int place] (mq G mo s fo τ kp ln hh) sz 0 0 (zV (mq G mo (putS s p (nI 12 * pane + place)) fo τ kp ln hh) sz) := by
  refine z_intro _ rfl zy_X7_puts (Nat.le_of_ble_eq_true rfl) ?_
  refine z_aload_n dX7_puts_0 rfl ?_
  refine z_get (ci := 7) (f := 0) dX7_puts_1 ⟨by decide, by decide, zm_663, rfl⟩ mq_o rfl ?_
  refine z_iload_n dX7_puts_4 rfl ?_
  refine z_iconst (v := (nI 3)) dX7_puts_5 (by decide) ?_
  refine z_callSR kn_at dX7_puts_6 ⟨zm_739, zm_741, zm_8, zm_740⟩  (by decide) zp_X7_at rfl (Nat.le_of_ble_eq_true rfl) (Nat.le_refl _) (Nat.le_refl _) ?_
  refine z_iconst (v := (nI 1)) dX7_puts_9 (by decide) ?_
  refine z_iastN (j := 69 + 8 * p + 3) dX7_puts_10 mq_a0 rfl (by omega) (by decide) ?_
  refine z_heap mq_u0 ?_
  refine z_aload_n dX7_puts_11 rfl ?_
  refine z_get (ci := 7) (f := 0) dX7_puts_12 ⟨by decide, by decide, zm_663, rfl⟩ mq_o rfl ?_
  refine z_iload_n dX7_puts_15 rfl ?_
  refine z_iconst (v := (nI 4)) dX7_puts_16 (by decide) ?_
  refine z_callSR kn_at dX7_puts_17 ⟨zm_739, zm_741, zm_8, zm_740⟩  (by decide) zp_X7_at rfl (Nat.le_of_ble_eq_true rfl) (Nat.le_refl _) (Nat.le_refl _) ?_
  refine z_bipush (v := (nI 12)) dX7_puts_20 (by decide) ?_
  refine z_iload_n dX7_puts_22 rfl ?_
  refine z_imul dX7_puts_23 ?_
  refine z_iload_n dX7_puts_24 rfl ?_
  refine z_iadd dX7_puts_25 ?_
  refine z_iastN (j := 69 + 8 * p + 4) dX7_puts_26 mq_a0 rfl (by omega) (by decide) ?_
  refine z_heap mq_u0 ?_
  exact z_vretV dX7_puts_27 rfl rfl rfl (Nat.le_refl _) (Nat.le_refl _)
end
section
theorem ffA_can {s : Nat → Int32} {k l mi : Nat} : ∀ n q, ffA s k l mi n q < q + n → canQ s k l mi (ffA s k l mi n q) = true
  | 0, q, h => absurd h (by unfold ffA; omega)
  | n + 1, q, h => by
    by_cases c : canQ s k l mi q = true
    · rw [ffA, if_pos c]; exact c
    · rw [ffA, if_neg c] at h ⊢
      exact ffA_can n (q + 1) (by omega)
theorem canC_ok {s : Nat → Int32} {k l w r c : Nat} (hr : r < 2 ^ 31) (hc : c < 2 ^ 31) (h : canC s k l w r c = true) : r + hiN w ≤ 9 ∧ c + wiN w ≤ 14 ∧ s (4 + 11 * k) = 0 ∧ okAt s k l w r c (hiN w) = true := by
  unfold canC canI at h
  simp only [Bool.and_eq_true, decide_eq_true_eq] at h
  obtain ⟨⟨⟨h0, h1⟩, h2⟩, h3⟩ := h
  rw [nI_clamp hr, nI_clamp hc] at h3
  unfold isI at h1 h2
  rw [decide_eq_true_iff, nI_t hr] at h1
  rw [decide_eq_true_iff, nI_t hc] at h2
  have := hiN_le w
  have := wiN_le w
  exact ⟨by omega, by omega, h0, h3⟩
theorem ff_ok {s : Nat → Int32} {k l mi : Nat} (h : ff s k l mi < 504) : ff s k l mi / 4 / 14 + hiN (4 * mi + ff s k l mi % 4) ≤ 9 ∧ ff s k l mi / 4 % 14 + wiN (4 * mi + ff s k l mi % 4) ≤ 14 ∧ s (4 + 11 * k) = 0 ∧ okAt s k l (4 * mi + ff s k l mi % 4) (ff s k l mi / 4 / 14) (ff s k l mi / 4 % 14) (hiN (4 * mi + ff s k l mi % 4)) = true :=
  canC_ok (by omega) (by omega) (ffA_can 504 0 (by unfold ff at h; omega))
/-- the row of numbers with a new piece at the first fit -/
def fitS (s : Nat → Int32) (m k l mi : Nat) : Nat → Int32 := newS s m k l (4 * mi + ff s k l mi % 4) (ff s k l mi / 4 / 14) (ff s k l mi / 4 % 14)
def pfV (s : Nat → Int32) (col : Int32) (l mi n m : Nat) : Int32 :=
  if loF s col (nI l) (nI mi) m (-6) = -6 then (if m < 48 then (if shF s col l mi n 0 < n then nI m else -6) else -6) else loF s col (nI l) (nI mi) m (-6)
def pfS (s : Nat → Int32) (col : Int32) (l mi n m : Nat) : Nat → Int32 :=
  if loF s col (nI l) (nI mi) m (-6) = -6 then (if m < 48 then (if shF s col l mi n 0 < n then fitS s m (shF s col l mi n 0) l mi else s) else s) else s
def pfO (s : Nat → Int32) (col : Int32) (l mi n m : Nat) (fo : Nat → Int32) : Nat → Int32 :=
  if loF s col (nI l) (nI mi) m (-6) = -6 then (if m < 48 then shO s col l mi n 0 fo else fo) else fo
theorem fo3_0 (mi q : Nat) (f : Nat → Int32) : fo3 mi q f 0 = nI (4 * mi + q % 4) := rfl
theorem fo3_1 (mi q : Nat) (f : Nat → Int32) : fo3 mi q f 1 = nI (q / 4 / 14) := rfl
theorem fo3_2 (mi q : Nat) (f : Nat → Int32) : fo3 mi q f 2 = nI (q / 4 % 14) := rfl
def ltrI (c : Int32) : Int32 := if c = nI 105 then nI 0 else if c = nI 108 then nI 1 else if c = nI 111 then nI 2 else if c = nI 116 then nI 3 else if c = nI 117 then nI 4 else if c = nI 101 then nI 5 else if c = nI 104 then nI 6 else if c = nI 115 then nI 7 else -6
theorem ltrI_out {c : Int32} (h : c.toInt < 101 ∨ 117 < c.toInt) : ltrI c = -6 := by
  have key : ∀ j, 101 ≤ j → j ≤ 117 → ¬ c = nI j := by
    intro j h1 h2 e
    rw [e, nI_t (by omega)] at h
    omega
  unfold ltrI
  rw [if_neg (key 105 (by omega) (by omega)), if_neg (key 108 (by omega) (by omega)), if_neg (key 111 (by omega) (by omega)), if_neg (key 116 (by omega) (by omega)), if_neg (key 117 (by omega) (by omega)), if_neg (key 101 (by omega) (by omega)), if_neg (key 104 (by omega) (by omega)), if_neg (key 115 (by omega) (by omega))]
set_option maxHeartbeats 4000000 in
set_option maxRecDepth 100000 in
theorem k_X7_pieceFor {G : zG} {hh : zH} {sz mo : Nat} {s fo : Nat → Int32} {τ : Nat → Nat → Int32} {kp ln : Int32} {col : Int32} {l mi n m : Nat} (hn : n ≤ 6) (h0 : s 0 = nI n) (h1 : s 1 = nI m) (hm48 : m ≤ 48) (hl : l < 8) (hm : mi < 2) (hT : τ 6 = tabI) (hR : okR s) : zC G 4 MX7_pieceFor yX7_pieceFor [.ref mo, .int col, .int (nI l), .int (nI mi)] (mq G mo s fo τ kp ln hh) sz 0 0 (zR (.int (pfV s col l mi n m)) (mq G mo (pfS s col l mi n m) (pfO s col l mi n m fo) τ kp ln hh) sz) := by
  refine z_intro _ rfl zy_X7_pieceFor (Nat.le_of_ble_eq_true rfl) ?_
  refine z_aload_n dX7_pieceFor_0 rfl ?_
  refine z_iload_n dX7_pieceFor_1 rfl ?_
  refine z_iload_n dX7_pieceFor_2 rfl ?_
  refine z_iload_n dX7_pieceFor_3 rfl ?_
  refine z_callVR (ci := 7) (k_X7_looseOne h1 hm48) dX7_pieceFor_4 ⟨zm_788, zm_791, zm_8, zm_790, zmp_19, by decide⟩ mq_o (by decide) zp_X7_looseOne rfl (Nat.le_of_ble_eq_true rfl) (Nat.le_refl _) (Nat.le_refl _) ?_
  refine z_istore dX7_pieceFor_7 (by decide) rfl rfl ?_
  refine z_iload dX7_pieceFor_9 rfl ?_
  refine z_bipush (v := (-6)) dX7_pieceFor_11 (by decide) ?_
  refine z_icmp_ne (tgt := 75) dX7_pieceFor_13 (by decide) (fun c_13 => ?_) (fun c_13 => ?_)
  · refine z_iload dX7_pieceFor_75 rfl ?_
    exact z_iretR dX7_pieceFor_77 rfl (by unfold pfV; rw [if_neg c_13]) (by unfold pfS pfO; rw [if_neg c_13, if_neg c_13]) rfl (Nat.le_refl _) (Nat.le_refl _)
  · refine z_aload_n dX7_pieceFor_16 rfl ?_
    refine z_get (ci := 7) (f := 0) dX7_pieceFor_17 ⟨by decide, by decide, zm_663, rfl⟩ mq_o rfl ?_
    refine z_iconst (v := (nI 1)) dX7_pieceFor_20 (by decide) ?_
    refine z_ialdN dX7_pieceFor_21 mq_a0 rfl (by omega) (by decide) ?_
    refine z_eq h1 ?_
    refine z_bipush (v := (nI 48)) dX7_pieceFor_22 (by decide) ?_
    refine z_icmp_ge (tgt := 75) dX7_pieceFor_24 (by decide) (fun c_24 => ?_) (fun c_24 => ?_)
    · refine z_iload dX7_pieceFor_75 rfl ?_
      have hm4 : ¬ m < 48 := fun z => nI_ge z (by omega) c_24
      exact z_iretR dX7_pieceFor_77 rfl (by unfold pfV; rw [if_pos c_13, if_neg hm4, c_13]) (by unfold pfS pfO; rw [if_pos c_13, if_neg hm4, if_pos c_13, if_neg hm4]) rfl (Nat.le_refl _) (Nat.le_refl _)
    · refine z_aload_n dX7_pieceFor_27 rfl ?_
      refine z_iload_n dX7_pieceFor_28 rfl ?_
      refine z_iload_n dX7_pieceFor_29 rfl ?_
      refine z_iload_n dX7_pieceFor_30 rfl ?_
      have hm4 : m < 48 := by rcases Nat.lt_or_ge m 48 with z | z; exact z; exact absurd (nI_le z (by omega)) c_24
      refine z_callVR (ci := 7) (k_X7_sheetFor hn h0 hl hm hT hR) dX7_pieceFor_31 ⟨zm_746, zm_749, zm_8, zm_748, zmp_12, by decide⟩ mq_o (by decide) zp_X7_sheetFor rfl (Nat.le_of_ble_eq_true rfl) (Nat.le_refl _) (Nat.le_refl _) ?_
      refine z_istore dX7_pieceFor_34 (by decide) rfl rfl ?_
      refine z_iload dX7_pieceFor_36 rfl ?_
      refine z_bipush (v := (-6)) dX7_pieceFor_38 (by decide) ?_
      refine z_icmp_ne (tgt := 48) dX7_pieceFor_40 (by decide) (fun c_40 => ?_) (fun c_40 => ?_)
      · have hv : shF s col l mi n 0 < n := by
          by_cases z : shF s col l mi n 0 < n
          · exact z
          · exact absurd (by unfold shV; rw [if_neg z]) c_40
        obtain ⟨q1, q2, g, q3⟩ := shF_fit (s := s) (col := col) (l := l) (mi := mi) n 0 fo (by omega)
        obtain ⟨r1, r2, r3, r4⟩ := ff_ok q1
        have ev : shV s col l mi n n 0 = nI (shF s col l mi n 0) := by unfold shV; rw [if_pos hv]
        refine z_aload_n dX7_pieceFor_48 rfl ?_
        refine z_iload dX7_pieceFor_49 rfl ?_
        refine z_eq ev ?_
        refine z_iload_n dX7_pieceFor_51 rfl ?_
        refine z_aload_n dX7_pieceFor_52 rfl ?_
        refine z_get (ci := 7) (f := 9) dX7_pieceFor_53 ⟨by decide, by decide, zm_672, rfl⟩ mq_o rfl ?_
        refine z_iconst (v := (nI 0)) dX7_pieceFor_56 (by decide) ?_
        refine z_ialdN dX7_pieceFor_57 mq_a7 rfl (by omega) (by decide) ?_
        refine z_eq (by rw [q3, fo3_0]) ?_
        refine z_aload_n dX7_pieceFor_58 rfl ?_
        refine z_get (ci := 7) (f := 9) dX7_pieceFor_59 ⟨by decide, by decide, zm_672, rfl⟩ mq_o rfl ?_
        refine z_iconst (v := (nI 1)) dX7_pieceFor_62 (by decide) ?_
        refine z_ialdN dX7_pieceFor_63 mq_a7 rfl (by omega) (by decide) ?_
        refine z_eq (by rw [q3, fo3_1]) ?_
        refine z_aload_n dX7_pieceFor_64 rfl ?_
        refine z_get (ci := 7) (f := 9) dX7_pieceFor_65 ⟨by decide, by decide, zm_672, rfl⟩ mq_o rfl ?_
        refine z_iconst (v := (nI 2)) dX7_pieceFor_68 (by decide) ?_
        refine z_ialdN dX7_pieceFor_69 mq_a7 rfl (by omega) (by decide) ?_
        refine z_eq (by rw [q3, fo3_2]) ?_
        refine z_callVR (ci := 7) (k_X7_newPiece (by omega) hl (by omega) hT hR h1 hm4 r1 (by omega)) dX7_pieceFor_70 ⟨zm_731, zm_734, zm_8, zm_733, zmp_10, by decide⟩ mq_o (by decide) zp_X7_newPiece rfl (Nat.le_of_ble_eq_true rfl) (Nat.le_refl _) (Nat.le_refl _) ?_
        refine z_istore dX7_pieceFor_73 (by decide) rfl rfl ?_
        refine z_iload dX7_pieceFor_75 rfl ?_
        exact z_iretR dX7_pieceFor_77 rfl (by unfold pfV; rw [if_pos c_13, if_pos hm4, if_pos hv]) (by unfold pfS pfO; rw [if_pos c_13, if_pos hm4, if_pos hv, if_pos c_13, if_pos hm4]; rfl) rfl (Nat.le_refl _) (Nat.le_refl _)
      · refine z_bipush (v := (-6)) dX7_pieceFor_43 (by decide) ?_
        refine z_goto (tgt := 73) dX7_pieceFor_45 (by decide) ?_
        refine z_istore dX7_pieceFor_73 (by decide) rfl rfl ?_
        refine z_iload dX7_pieceFor_75 rfl ?_
        have hv : ¬ shF s col l mi n 0 < n := fun z => by unfold shV at c_40; rw [if_pos z] at c_40; exact nI_pos (n := shF s col l mi n 0) (by omega) (by rw [c_40]; decide)
        exact z_iretR dX7_pieceFor_77 rfl (by unfold pfV; rw [if_pos c_13, if_pos hm4, if_neg hv]) (by unfold pfS pfO; rw [if_pos c_13, if_pos hm4, if_neg hv, if_pos c_13, if_pos hm4]) rfl (Nat.le_refl _) (Nat.le_refl _)
set_option maxHeartbeats 4000000 in
set_option maxRecDepth 100000 in
theorem k_X7_letterOf {G : zG} {hh : zH} {sz : Nat} {c : Int32} : zC G 0 MX7_letterOf yX7_letterOf [.int c] hh sz 0 0 (zR (.int (ltrI c)) hh sz) := by
  refine z_intro _ rfl zy_X7_letterOf (Nat.le_of_ble_eq_true rfl) ?_
  refine z_iload_n dX7_letterOf_0 rfl ?_
  by_cases h : 101 ≤ c.toInt ∧ c.toInt ≤ 117
  · obtain ⟨j, hj, rfl⟩ : ∃ j, (101 ≤ j ∧ j ≤ 117) ∧ c = nI j := by
      rcases pk_ix c (n := 118) (by omega) with z | z | ⟨j, hj, e⟩
      · rw [Int32.lt_iff_toInt_lt, Int32.toInt_zero] at z; omega
      · rw [Int32.le_iff_toInt_le, nI_t (by omega)] at z; omega
      · exact ⟨j, ⟨by rw [e, nI_t (by omega)] at h; omega, by omega⟩, e⟩
    match j, hj with
    | j, hj =>
      have hj2 : j = 101 ∨ j = 102 ∨ j = 103 ∨ j = 104 ∨ j = 105 ∨ j = 106 ∨ j = 107 ∨ j = 108 ∨ j = 109 ∨ j = 110 ∨ j = 111 ∨ j = 112 ∨ j = 113 ∨ j = 114 ∨ j = 115 ∨ j = 116 ∨ j = 117 := by omega
      rcases hj2 with rfl | rfl | rfl | rfl | rfl | rfl | rfl | rfl | rfl | rfl | rfl | rfl | rfl | rfl | rfl | rfl | rfl
      · refine z_tableIn (tgt := 94) dX7_letterOf_1 (by decide) (by decide) rfl (by decide) ?_
        refine z_iconst (v := (nI 5)) dX7_letterOf_94 (by decide) ?_
        exact z_iretR dX7_letterOf_95 rfl (by decide) rfl rfl (Nat.le_refl _) (Nat.le_refl _)
      · refine z_tableIn (tgt := 102) dX7_letterOf_1 (by decide) (by decide) rfl (by decide) ?_
        refine z_bipush (v := (-6)) dX7_letterOf_102 (by decide) ?_
        exact z_iretR dX7_letterOf_104 rfl (by decide) rfl rfl (Nat.le_refl _) (Nat.le_refl _)
      · refine z_tableIn (tgt := 102) dX7_letterOf_1 (by decide) (by decide) rfl (by decide) ?_
        refine z_bipush (v := (-6)) dX7_letterOf_102 (by decide) ?_
        exact z_iretR dX7_letterOf_104 rfl (by decide) rfl rfl (Nat.le_refl _) (Nat.le_refl _)
      · refine z_tableIn (tgt := 96) dX7_letterOf_1 (by decide) (by decide) rfl (by decide) ?_
        refine z_bipush (v := (nI 6)) dX7_letterOf_96 (by decide) ?_
        exact z_iretR dX7_letterOf_98 rfl (by decide) rfl rfl (Nat.le_refl _) (Nat.le_refl _)
      · refine z_tableIn (tgt := 84) dX7_letterOf_1 (by decide) (by decide) rfl (by decide) ?_
        refine z_iconst (v := (nI 0)) dX7_letterOf_84 (by decide) ?_
        exact z_iretR dX7_letterOf_85 rfl (by decide) rfl rfl (Nat.le_refl _) (Nat.le_refl _)
      · refine z_tableIn (tgt := 102) dX7_letterOf_1 (by decide) (by decide) rfl (by decide) ?_
        refine z_bipush (v := (-6)) dX7_letterOf_102 (by decide) ?_
        exact z_iretR dX7_letterOf_104 rfl (by decide) rfl rfl (Nat.le_refl _) (Nat.le_refl _)
      · refine z_tableIn (tgt := 102) dX7_letterOf_1 (by decide) (by decide) rfl (by decide) ?_
        refine z_bipush (v := (-6)) dX7_letterOf_102 (by decide) ?_
        exact z_iretR dX7_letterOf_104 rfl (by decide) rfl rfl (Nat.le_refl _) (Nat.le_refl _)
      · refine z_tableIn (tgt := 86) dX7_letterOf_1 (by decide) (by decide) rfl (by decide) ?_
        refine z_iconst (v := (nI 1)) dX7_letterOf_86 (by decide) ?_
        exact z_iretR dX7_letterOf_87 rfl (by decide) rfl rfl (Nat.le_refl _) (Nat.le_refl _)
      · refine z_tableIn (tgt := 102) dX7_letterOf_1 (by decide) (by decide) rfl (by decide) ?_
        refine z_bipush (v := (-6)) dX7_letterOf_102 (by decide) ?_
        exact z_iretR dX7_letterOf_104 rfl (by decide) rfl rfl (Nat.le_refl _) (Nat.le_refl _)
      · refine z_tableIn (tgt := 102) dX7_letterOf_1 (by decide) (by decide) rfl (by decide) ?_
        refine z_bipush (v := (-6)) dX7_letterOf_102 (by decide) ?_
        exact z_iretR dX7_letterOf_104 rfl (by decide) rfl rfl (Nat.le_refl _) (Nat.le_refl _)
      · refine z_tableIn (tgt := 88) dX7_letterOf_1 (by decide) (by decide) rfl (by decide) ?_
        refine z_iconst (v := (nI 2)) dX7_letterOf_88 (by decide) ?_
        exact z_iretR dX7_letterOf_89 rfl (by decide) rfl rfl (Nat.le_refl _) (Nat.le_refl _)
      · refine z_tableIn (tgt := 102) dX7_letterOf_1 (by decide) (by decide) rfl (by decide) ?_
        refine z_bipush (v := (-6)) dX7_letterOf_102 (by decide) ?_
        exact z_iretR dX7_letterOf_104 rfl (by decide) rfl rfl (Nat.le_refl _) (Nat.le_refl _)
      · refine z_tableIn (tgt := 102) dX7_letterOf_1 (by decide) (by decide) rfl (by decide) ?_
        refine z_bipush (v := (-6)) dX7_letterOf_102 (by decide) ?_
        exact z_iretR dX7_letterOf_104 rfl (by decide) rfl rfl (Nat.le_refl _) (Nat.le_refl _)
      · refine z_tableIn (tgt := 102) dX7_letterOf_1 (by decide) (by decide) rfl (by decide) ?_
        refine z_bipush (v := (-6)) dX7_letterOf_102 (by decide) ?_
        exact z_iretR dX7_letterOf_104 rfl (by decide) rfl rfl (Nat.le_refl _) (Nat.le_refl _)
      · refine z_tableIn (tgt := 99) dX7_letterOf_1 (by decide) (by decide) rfl (by decide) ?_
        refine z_bipush (v := (nI 7)) dX7_letterOf_99 (by decide) ?_
        exact z_iretR dX7_letterOf_101 rfl (by decide) rfl rfl (Nat.le_refl _) (Nat.le_refl _)
      · refine z_tableIn (tgt := 90) dX7_letterOf_1 (by decide) (by decide) rfl (by decide) ?_
        refine z_iconst (v := (nI 3)) dX7_letterOf_90 (by decide) ?_
        exact z_iretR dX7_letterOf_91 rfl (by decide) rfl rfl (Nat.le_refl _) (Nat.le_refl _)
      · refine z_tableIn (tgt := 92) dX7_letterOf_1 (by decide) (by decide) rfl (by decide) ?_
        refine z_iconst (v := (nI 4)) dX7_letterOf_92 (by decide) ?_
        exact z_iretR dX7_letterOf_93 rfl (by decide) rfl rfl (Nat.le_refl _) (Nat.le_refl _)
  · refine z_tableOut (tgt := 102) dX7_letterOf_1 (by omega) (by decide) ?_
    refine z_bipush (v := (-6)) dX7_letterOf_102 (by decide) ?_
    exact z_iretR dX7_letterOf_104 rfl (ltrI_out (by omega)).symm rfl rfl (Nat.le_refl _) (Nat.le_refl _)
end
