abbrev MX6_init : zM := (RX6, cX6_init, 1, none, true)
theorem zy_X6_init : (plainName yX6_init.cls && (yX6_init.cls == MX6_init.1) && (!MX6_init.2.2.2.2 || yX6_init.name == "<init>")) = true := by decide +kernel
theorem zp_X6_init : zpar yX6_init 0 := ⟨by decide +kernel, by decide +kernel, by decide +kernel⟩
abbrev MX6_sheet : zM := (RX6, cX6_sheet, 2, some .int, false)
theorem zy_X6_sheet : (plainName yX6_sheet.cls && (yX6_sheet.cls == MX6_sheet.1) && (!MX6_sheet.2.2.2.2 || yX6_sheet.name == "<init>")) = true := by decide +kernel
theorem zp_X6_sheet : zpar yX6_sheet 1 := ⟨by decide +kernel, by decide +kernel, by decide +kernel⟩
abbrev MX6_cut : zM := (RX6, cX6_cut, 6, some .int, false)
theorem zy_X6_cut : (plainName yX6_cut.cls && (yX6_cut.cls == MX6_cut.1) && (!MX6_cut.2.2.2.2 || yX6_cut.name == "<init>")) = true := by decide +kernel
theorem zp_X6_cut : zpar yX6_cut 5 := ⟨by decide +kernel, by decide +kernel, by decide +kernel⟩
abbrev MX6_make : zM := (RX6, cX6_make, 4, some .int, false)
theorem zy_X6_make : (plainName yX6_make.cls && (yX6_make.cls == MX6_make.1) && (!MX6_make.2.2.2.2 || yX6_make.name == "<init>")) = true := by decide +kernel
theorem zp_X6_make : zpar yX6_make 3 := ⟨by decide +kernel, by decide +kernel, by decide +kernel⟩
abbrev MX6_write : zM := (RX6, cX6_write, 6, some .int, false)
theorem zy_X6_write : (plainName yX6_write.cls && (yX6_write.cls == MX6_write.1) && (!MX6_write.2.2.2.2 || yX6_write.name == "<init>")) = true := by decide +kernel
theorem zp_X6_write : zpar yX6_write 4 := ⟨by decide +kernel, by decide +kernel, by decide +kernel⟩
abbrev MX6_place : zM := (RX6, cX6_place, 4, some .int, false)
theorem zy_X6_place : (plainName yX6_place.cls && (yX6_place.cls == MX6_place.1) && (!MX6_place.2.2.2.2 || yX6_place.name == "<init>")) = true := by decide +kernel
theorem zp_X6_place : zpar yX6_place 3 := ⟨by decide +kernel, by decide +kernel, by decide +kernel⟩
abbrev MX6_clear : zM := (RX6, cX6_clear, 2, some .int, false)
theorem zy_X6_clear : (plainName yX6_clear.cls && (yX6_clear.cls == MX6_clear.1) && (!MX6_clear.2.2.2.2 || yX6_clear.name == "<init>")) = true := by decide +kernel
theorem zp_X6_clear : zpar yX6_clear 1 := ⟨by decide +kernel, by decide +kernel, by decide +kernel⟩
abbrev MX6_throwAway : zM := (RX6, cX6_throwAway, 2, some .int, false)
theorem zy_X6_throwAway : (plainName yX6_throwAway.cls && (yX6_throwAway.cls == MX6_throwAway.1) && (!MX6_throwAway.2.2.2.2 || yX6_throwAway.name == "<init>")) = true := by decide +kernel
theorem zp_X6_throwAway : zpar yX6_throwAway 1 := ⟨by decide +kernel, by decide +kernel, by decide +kernel⟩
abbrev MX6_scrap : zM := (RX6, cX6_scrap, 2, some .int, false)
theorem zy_X6_scrap : (plainName yX6_scrap.cls && (yX6_scrap.cls == MX6_scrap.1) && (!MX6_scrap.2.2.2.2 || yX6_scrap.name == "<init>")) = true := by decide +kernel
theorem zp_X6_scrap : zpar yX6_scrap 1 := ⟨by decide +kernel, by decide +kernel, by decide +kernel⟩
abbrev MX6_of : zM := (RX6, cX6_of, 4, some .int, false)
theorem zy_X6_of : (plainName yX6_of.cls && (yX6_of.cls == MX6_of.1) && (!MX6_of.2.2.2.2 || yX6_of.name == "<init>")) = true := by decide +kernel
theorem zp_X6_of : zpar yX6_of 2 := ⟨by decide +kernel, by decide +kernel, by decide +kernel⟩
abbrev MX6_ofSheet : zM := (RX6, cX6_ofSheet, 4, some .int, false)
theorem zy_X6_ofSheet : (plainName yX6_ofSheet.cls && (yX6_ofSheet.cls == MX6_ofSheet.1) && (!MX6_ofSheet.2.2.2.2 || yX6_ofSheet.name == "<init>")) = true := by decide +kernel
theorem zp_X6_ofSheet : zpar yX6_ofSheet 2 := ⟨by decide +kernel, by decide +kernel, by decide +kernel⟩
abbrev MX6_row : zM := (RX6, cX6_row, 4, some .int, false)
theorem zy_X6_row : (plainName yX6_row.cls && (yX6_row.cls == MX6_row.1) && (!MX6_row.2.2.2.2 || yX6_row.name == "<init>")) = true := by decide +kernel
theorem zp_X6_row : zpar yX6_row 2 := ⟨by decide +kernel, by decide +kernel, by decide +kernel⟩
abbrev MX6_pane : zM := (RX6, cX6_pane, 3, some .int, false)
theorem zy_X6_pane : (plainName yX6_pane.cls && (yX6_pane.cls == MX6_pane.1) && (!MX6_pane.2.2.2.2 || yX6_pane.name == "<init>")) = true := by decide +kernel
theorem zp_X6_pane : zpar yX6_pane 2 := ⟨by decide +kernel, by decide +kernel, by decide +kernel⟩
abbrev MX6_shape : zM := (RX6, cX6_shape, 4, some .int, false)
theorem zy_X6_shape : (plainName yX6_shape.cls && (yX6_shape.cls == MX6_shape.1) && (!MX6_shape.2.2.2.2 || yX6_shape.name == "<init>")) = true := by decide +kernel
theorem zp_X6_shape : zpar yX6_shape 3 := ⟨by decide +kernel, by decide +kernel, by decide +kernel⟩
abbrev MX6_count : zM := (RX6, cX6_count, 2, some .int, false)
theorem zy_X6_count : (plainName yX6_count.cls && (yX6_count.cls == MX6_count.1) && (!MX6_count.2.2.2.2 || yX6_count.name == "<init>")) = true := by decide +kernel
theorem zp_X6_count : zpar yX6_count 1 := ⟨by decide +kernel, by decide +kernel, by decide +kernel⟩
abbrev MX6_fit : zM := (RX6, cX6_fit, 7, some .int, false)
theorem zy_X6_fit : (plainName yX6_fit.cls && (yX6_fit.cls == MX6_fit.1) && (!MX6_fit.2.2.2.2 || yX6_fit.name == "<init>")) = true := by decide +kernel
theorem zp_X6_fit : zpar yX6_fit 4 := ⟨by decide +kernel, by decide +kernel, by decide +kernel⟩
abbrev MX6_manyOf : zM := (RX6, cX6_manyOf, 5, some .int, false)
theorem zy_X6_manyOf : (plainName yX6_manyOf.cls && (yX6_manyOf.cls == MX6_manyOf.1) && (!MX6_manyOf.2.2.2.2 || yX6_manyOf.name == "<init>")) = true := by decide +kernel
theorem zp_X6_manyOf : zpar yX6_manyOf 3 := ⟨by decide +kernel, by decide +kernel, by decide +kernel⟩
abbrev MX6_fits : zM := (RX6, cX6_fits, 4, some .int, false)
theorem zy_X6_fits : (plainName yX6_fits.cls && (yX6_fits.cls == MX6_fits.1) && (!MX6_fits.2.2.2.2 || yX6_fits.name == "<init>")) = true := by decide +kernel
theorem zp_X6_fits : zpar yX6_fits 2 := ⟨by decide +kernel, by decide +kernel, by decide +kernel⟩
abbrev MX6_colours : zM := (RX6, cX6_colours, 6, some .int, false)
theorem zy_X6_colours : (plainName yX6_colours.cls && (yX6_colours.cls == MX6_colours.1) && (!MX6_colours.2.2.2.2 || yX6_colours.name == "<init>")) = true := by decide +kernel
theorem zp_X6_colours : zpar yX6_colours 3 := ⟨by decide +kernel, by decide +kernel, by decide +kernel⟩
abbrev MX6_put : zM := (RX6, cX6_put, 3, some .int, false)
theorem zy_X6_put : (plainName yX6_put.cls && (yX6_put.cls == MX6_put.1) && (!MX6_put.2.2.2.2 || yX6_put.name == "<init>")) = true := by decide +kernel
theorem zp_X6_put : zpar yX6_put 1 := ⟨by decide +kernel, by decide +kernel, by decide +kernel⟩
abbrev MX6_wipe : zM := (RX6, cX6_wipe, 2, some .int, false)
theorem zy_X6_wipe : (plainName yX6_wipe.cls && (yX6_wipe.cls == MX6_wipe.1) && (!MX6_wipe.2.2.2.2 || yX6_wipe.name == "<init>")) = true := by decide +kernel
theorem zp_X6_wipe : zpar yX6_wipe 0 := ⟨by decide +kernel, by decide +kernel, by decide +kernel⟩
abbrev MX6_undo : zM := (RX6, cX6_undo, 1, some .int, false)
theorem zy_X6_undo : (plainName yX6_undo.cls && (yX6_undo.cls == MX6_undo.1) && (!MX6_undo.2.2.2.2 || yX6_undo.name == "<init>")) = true := by decide +kernel
theorem zp_X6_undo : zpar yX6_undo 0 := ⟨by decide +kernel, by decide +kernel, by decide +kernel⟩
abbrev MX6_newDraft : zM := (RX6, cX6_newDraft, 1, some (.object "WindowLetters$Shop"), false)
theorem zy_X6_newDraft : (plainName yX6_newDraft.cls && (yX6_newDraft.cls == MX6_newDraft.1) && (!MX6_newDraft.2.2.2.2 || yX6_newDraft.name == "<init>")) = true := by decide +kernel
theorem zp_X6_newDraft : zpar yX6_newDraft 0 := ⟨by decide +kernel, by decide +kernel, by decide +kernel⟩
abbrev MX6_settle : zM := (RX6, cX6_settle, 2, some .int, false)
theorem zy_X6_settle : (plainName yX6_settle.cls && (yX6_settle.cls == MX6_settle.1) && (!MX6_settle.2.2.2.2 || yX6_settle.name == "<init>")) = true := by decide +kernel
theorem zp_X6_settle : zpar yX6_settle 1 := ⟨by decide +kernel, by decide +kernel, by decide +kernel⟩
abbrev MX6_isColour : zM := (RX6, cX6_isColour, 1, some .boolean, false)
theorem zy_X6_isColour : (plainName yX6_isColour.cls && (yX6_isColour.cls == MX6_isColour.1) && (!MX6_isColour.2.2.2.2 || yX6_isColour.name == "<init>")) = true := by decide +kernel
theorem zp_X6_isColour : zpar yX6_isColour 1 := ⟨by decide +kernel, by decide +kernel, by decide +kernel⟩
abbrev MX6_isLetter : zM := (RX6, cX6_isLetter, 1, some .boolean, false)
theorem zy_X6_isLetter : (plainName yX6_isLetter.cls && (yX6_isLetter.cls == MX6_isLetter.1) && (!MX6_isLetter.2.2.2.2 || yX6_isLetter.name == "<init>")) = true := by decide +kernel
theorem zp_X6_isLetter : zpar yX6_isLetter 1 := ⟨by decide +kernel, by decide +kernel, by decide +kernel⟩
abbrev MX6_isWay : zM := (RX6, cX6_isWay, 1, some .boolean, false)
theorem zy_X6_isWay : (plainName yX6_isWay.cls && (yX6_isWay.cls == MX6_isWay.1) && (!MX6_isWay.2.2.2.2 || yX6_isWay.name == "<init>")) = true := by decide +kernel
theorem zp_X6_isWay : zpar yX6_isWay 1 := ⟨by decide +kernel, by decide +kernel, by decide +kernel⟩
abbrev MX6_isMirroring : zM := (RX6, cX6_isMirroring, 1, some .boolean, false)
theorem zy_X6_isMirroring : (plainName yX6_isMirroring.cls && (yX6_isMirroring.cls == MX6_isMirroring.1) && (!MX6_isMirroring.2.2.2.2 || yX6_isMirroring.name == "<init>")) = true := by decide +kernel
theorem zp_X6_isMirroring : zpar yX6_isMirroring 1 := ⟨by decide +kernel, by decide +kernel, by decide +kernel⟩
abbrev MX6_isPane : zM := (RX6, cX6_isPane, 1, some .boolean, false)
theorem zy_X6_isPane : (plainName yX6_isPane.cls && (yX6_isPane.cls == MX6_isPane.1) && (!MX6_isPane.2.2.2.2 || yX6_isPane.name == "<init>")) = true := by decide +kernel
theorem zp_X6_isPane : zpar yX6_isPane 1 := ⟨by decide +kernel, by decide +kernel, by decide +kernel⟩
abbrev MX6_isPlace : zM := (RX6, cX6_isPlace, 1, some .boolean, false)
theorem zy_X6_isPlace : (plainName yX6_isPlace.cls && (yX6_isPlace.cls == MX6_isPlace.1) && (!MX6_isPlace.2.2.2.2 || yX6_isPlace.name == "<init>")) = true := by decide +kernel
theorem zp_X6_isPlace : zpar yX6_isPlace 1 := ⟨by decide +kernel, by decide +kernel, by decide +kernel⟩
abbrev MX6_heightOf : zM := (RX6, cX6_heightOf, 1, some .int, false)
theorem zy_X6_heightOf : (plainName yX6_heightOf.cls && (yX6_heightOf.cls == MX6_heightOf.1) && (!MX6_heightOf.2.2.2.2 || yX6_heightOf.name == "<init>")) = true := by decide +kernel
theorem zp_X6_heightOf : zpar yX6_heightOf 1 := ⟨by decide +kernel, by decide +kernel, by decide +kernel⟩
abbrev MX6_widthOf : zM := (RX6, cX6_widthOf, 1, some .int, false)
theorem zy_X6_widthOf : (plainName yX6_widthOf.cls && (yX6_widthOf.cls == MX6_widthOf.1) && (!MX6_widthOf.2.2.2.2 || yX6_widthOf.name == "<init>")) = true := by decide +kernel
theorem zp_X6_widthOf : zpar yX6_widthOf 1 := ⟨by decide +kernel, by decide +kernel, by decide +kernel⟩
abbrev MX6_mirroringOf : zM := (RX6, cX6_mirroringOf, 1, some .int, false)
theorem zy_X6_mirroringOf : (plainName yX6_mirroringOf.cls && (yX6_mirroringOf.cls == MX6_mirroringOf.1) && (!MX6_mirroringOf.2.2.2.2 || yX6_mirroringOf.name == "<init>")) = true := by decide +kernel
theorem zp_X6_mirroringOf : zpar yX6_mirroringOf 1 := ⟨by decide +kernel, by decide +kernel, by decide +kernel⟩
abbrev MX6_rowIn : zM := (RX6, cX6_rowIn, 1, some .int, false)
theorem zy_X6_rowIn : (plainName yX6_rowIn.cls && (yX6_rowIn.cls == MX6_rowIn.1) && (!MX6_rowIn.2.2.2.2 || yX6_rowIn.name == "<init>")) = true := by decide +kernel
theorem zp_X6_rowIn : zpar yX6_rowIn 1 := ⟨by decide +kernel, by decide +kernel, by decide +kernel⟩
abbrev MX6_columnIn : zM := (RX6, cX6_columnIn, 1, some .int, false)
theorem zy_X6_columnIn : (plainName yX6_columnIn.cls && (yX6_columnIn.cls == MX6_columnIn.1) && (!MX6_columnIn.2.2.2.2 || yX6_columnIn.name == "<init>")) = true := by decide +kernel
theorem zp_X6_columnIn : zpar yX6_columnIn 1 := ⟨by decide +kernel, by decide +kernel, by decide +kernel⟩
abbrev MX6_wayIn : zM := (RX6, cX6_wayIn, 1, some .int, false)
theorem zy_X6_wayIn : (plainName yX6_wayIn.cls && (yX6_wayIn.cls == MX6_wayIn.1) && (!MX6_wayIn.2.2.2.2 || yX6_wayIn.name == "<init>")) = true := by decide +kernel
theorem zp_X6_wayIn : zpar yX6_wayIn 1 := ⟨by decide +kernel, by decide +kernel, by decide +kernel⟩
abbrev MX6_lowestIn : zM := (RX6, cX6_lowestIn, 1, some .int, false)
theorem zy_X6_lowestIn : (plainName yX6_lowestIn.cls && (yX6_lowestIn.cls == MX6_lowestIn.1) && (!MX6_lowestIn.2.2.2.2 || yX6_lowestIn.name == "<init>")) = true := by decide +kernel
theorem zp_X6_lowestIn : zpar yX6_lowestIn 1 := ⟨by decide +kernel, by decide +kernel, by decide +kernel⟩
abbrev MX0_init : zM := (RX0, cX0_init, 2, none, true)
theorem zy_X0_init : (plainName yX0_init.cls && (yX0_init.cls == MX0_init.1) && (!MX0_init.2.2.2.2 || yX0_init.name == "<init>")) = true := by decide +kernel
theorem zp_X0_init : zpar yX0_init 1 := ⟨by decide +kernel, by decide +kernel, by decide +kernel⟩
abbrev MX0_record : zM := (RX0, cX0_record, 4, none, false)
theorem zy_X0_record : (plainName yX0_record.cls && (yX0_record.cls == MX0_record.1) && (!MX0_record.2.2.2.2 || yX0_record.name == "<init>")) = true := by decide +kernel
theorem zp_X0_record : zpar yX0_record 1 := ⟨by decide +kernel, by decide +kernel, by decide +kernel⟩
abbrev MX0_takeBack : zM := (RX0, cX0_takeBack, 3, some .boolean, false)
theorem zy_X0_takeBack : (plainName yX0_takeBack.cls && (yX0_takeBack.cls == MX0_takeBack.1) && (!MX0_takeBack.2.2.2.2 || yX0_takeBack.name == "<init>")) = true := by decide +kernel
theorem zp_X0_takeBack : zpar yX0_takeBack 1 := ⟨by decide +kernel, by decide +kernel, by decide +kernel⟩
abbrev MX1_init : zM := (RX1, cX1_init, 1, none, true)
theorem zy_X1_init : (plainName yX1_init.cls && (yX1_init.cls == MX1_init.1) && (!MX1_init.2.2.2.2 || yX1_init.name == "<init>")) = true := by decide +kernel
theorem zp_X1_init : zpar yX1_init 0 := ⟨by decide +kernel, by decide +kernel, by decide +kernel⟩
abbrev MX1_empty : zM := (RX1, cX1_empty, 1, none, false)
theorem zy_X1_empty : (plainName yX1_empty.cls && (yX1_empty.cls == MX1_empty.1) && (!MX1_empty.2.2.2.2 || yX1_empty.name == "<init>")) = true := by decide +kernel
theorem zp_X1_empty : zpar yX1_empty 0 := ⟨by decide +kernel, by decide +kernel, by decide +kernel⟩
abbrev MX1_append : zM := (RX1, cX1_append, 5, some .int, false)
theorem zy_X1_append : (plainName yX1_append.cls && (yX1_append.cls == MX1_append.1) && (!MX1_append.2.2.2.2 || yX1_append.name == "<init>")) = true := by decide +kernel
theorem zp_X1_append : zpar yX1_append 1 := ⟨by decide +kernel, by decide +kernel, by decide +kernel⟩
abbrev MX1_signsIn : zM := (RX1, cX1_signsIn, 4, some .int, false)
theorem zy_X1_signsIn : (plainName yX1_signsIn.cls && (yX1_signsIn.cls == MX1_signsIn.1) && (!MX1_signsIn.2.2.2.2 || yX1_signsIn.name == "<init>")) = true := by decide +kernel
theorem zp_X1_signsIn : zpar yX1_signsIn 1 := ⟨by decide +kernel, by decide +kernel, by decide +kernel⟩
abbrev MX1_codeIn : zM := (RX1, cX1_codeIn, 3, some .int, false)
theorem zy_X1_codeIn : (plainName yX1_codeIn.cls && (yX1_codeIn.cls == MX1_codeIn.1) && (!MX1_codeIn.2.2.2.2 || yX1_codeIn.name == "<init>")) = true := by decide +kernel
theorem zp_X1_codeIn : zpar yX1_codeIn 2 := ⟨by decide +kernel, by decide +kernel, by decide +kernel⟩
abbrev MX1_letterAt : zM := (RX1, cX1_letterAt, 3, some .int, false)
theorem zy_X1_letterAt : (plainName yX1_letterAt.cls && (yX1_letterAt.cls == MX1_letterAt.1) && (!MX1_letterAt.2.2.2.2 || yX1_letterAt.name == "<init>")) = true := by decide +kernel
theorem zp_X1_letterAt : zpar yX1_letterAt 1 := ⟨by decide +kernel, by decide +kernel, by decide +kernel⟩
abbrev MX1_faultIndex : zM := (RX1, cX1_faultIndex, 2, some .int, false)
theorem zy_X1_faultIndex : (plainName yX1_faultIndex.cls && (yX1_faultIndex.cls == MX1_faultIndex.1) && (!MX1_faultIndex.2.2.2.2 || yX1_faultIndex.name == "<init>")) = true := by decide +kernel
theorem zp_X1_faultIndex : zpar yX1_faultIndex 0 := ⟨by decide +kernel, by decide +kernel, by decide +kernel⟩
abbrev MX2_init : zM := (RX2, cX2_init, 1, none, true)
theorem zy_X2_init : (plainName yX2_init.cls && (yX2_init.cls == MX2_init.1) && (!MX2_init.2.2.2.2 || yX2_init.name == "<init>")) = true := by decide +kernel
theorem zp_X2_init : zpar yX2_init 0 := ⟨by decide +kernel, by decide +kernel, by decide +kernel⟩
abbrev MX2_copyFrom : zM := (RX2, cX2_copyFrom, 2, none, false)
theorem zy_X2_copyFrom : (plainName yX2_copyFrom.cls && (yX2_copyFrom.cls == MX2_copyFrom.1) && (!MX2_copyFrom.2.2.2.2 || yX2_copyFrom.name == "<init>")) = true := by decide +kernel
theorem zp_X2_copyFrom : zpar yX2_copyFrom 1 := ⟨by decide +kernel, by decide +kernel, by decide +kernel⟩
abbrev MX2_becomeLoose : zM := (RX2, cX2_becomeLoose, 1, none, false)
theorem zy_X2_becomeLoose : (plainName yX2_becomeLoose.cls && (yX2_becomeLoose.cls == MX2_becomeLoose.1) && (!MX2_becomeLoose.2.2.2.2 || yX2_becomeLoose.name == "<init>")) = true := by decide +kernel
theorem zp_X2_becomeLoose : zpar yX2_becomeLoose 0 := ⟨by decide +kernel, by decide +kernel, by decide +kernel⟩
abbrev MX3_init : zM := (RX3, cX3_init, 4, none, true)
theorem zy_X3_init : (plainName yX3_init.cls && (yX3_init.cls == MX3_init.1) && (!MX3_init.2.2.2.2 || yX3_init.name == "<init>")) = true := by decide +kernel
theorem zp_X3_init : zpar yX3_init 0 := ⟨by decide +kernel, by decide +kernel, by decide +kernel⟩
abbrev MX3_columnsOf : zM := (RX3, cX3_columnsOf, 4, some .int, false)
theorem zy_X3_columnsOf : (plainName yX3_columnsOf.cls && (yX3_columnsOf.cls == MX3_columnsOf.1) && (!MX3_columnsOf.2.2.2.2 || yX3_columnsOf.name == "<init>")) = true := by decide +kernel
theorem zp_X3_columnsOf : zpar yX3_columnsOf 3 := ⟨by decide +kernel, by decide +kernel, by decide +kernel⟩
abbrev MX3_squaresOf : zM := (RX3, cX3_squaresOf, 4, some .int, false)
theorem zy_X3_squaresOf : (plainName yX3_squaresOf.cls && (yX3_squaresOf.cls == MX3_squaresOf.1) && (!MX3_squaresOf.2.2.2.2 || yX3_squaresOf.name == "<init>")) = true := by decide +kernel
theorem zp_X3_squaresOf : zpar yX3_squaresOf 1 := ⟨by decide +kernel, by decide +kernel, by decide +kernel⟩
abbrev MX3_turnedRow : zM := (RX3, cX3_turnedRow, 5, some .int, false)
theorem zy_X3_turnedRow : (plainName yX3_turnedRow.cls && (yX3_turnedRow.cls == MX3_turnedRow.1) && (!MX3_turnedRow.2.2.2.2 || yX3_turnedRow.name == "<init>")) = true := by decide +kernel
theorem zp_X3_turnedRow : zpar yX3_turnedRow 3 := ⟨by decide +kernel, by decide +kernel, by decide +kernel⟩
abbrev MX3_hasSquare : zM := (RX3, cX3_hasSquare, 6, some .boolean, false)
theorem zy_X3_hasSquare : (plainName yX3_hasSquare.cls && (yX3_hasSquare.cls == MX3_hasSquare.1) && (!MX3_hasSquare.2.2.2.2 || yX3_hasSquare.name == "<init>")) = true := by decide +kernel
theorem zp_X3_hasSquare : zpar yX3_hasSquare 4 := ⟨by decide +kernel, by decide +kernel, by decide +kernel⟩
abbrev MX3_uprightHas : zM := (RX3, cX3_uprightHas, 4, some .boolean, false)
theorem zy_X3_uprightHas : (plainName yX3_uprightHas.cls && (yX3_uprightHas.cls == MX3_uprightHas.1) && (!MX3_uprightHas.2.2.2.2 || yX3_uprightHas.name == "<init>")) = true := by decide +kernel
theorem zp_X3_uprightHas : zpar yX3_uprightHas 3 := ⟨by decide +kernel, by decide +kernel, by decide +kernel⟩
abbrev MX4_init : zM := (RX4, cX4_init, 2, none, true)
theorem zy_X4_init : (plainName yX4_init.cls && (yX4_init.cls == MX4_init.1) && (!MX4_init.2.2.2.2 || yX4_init.name == "<init>")) = true := by decide +kernel
theorem zp_X4_init : zpar yX4_init 1 := ⟨by decide +kernel, by decide +kernel, by decide +kernel⟩
abbrev MX4_copyFrom : zM := (RX4, cX4_copyFrom, 3, none, false)
theorem zy_X4_copyFrom : (plainName yX4_copyFrom.cls && (yX4_copyFrom.cls == MX4_copyFrom.1) && (!MX4_copyFrom.2.2.2.2 || yX4_copyFrom.name == "<init>")) = true := by decide +kernel
theorem zp_X4_copyFrom : zpar yX4_copyFrom 1 := ⟨by decide +kernel, by decide +kernel, by decide +kernel⟩
abbrev MX4_canCut : zM := (RX4, cX4_canCut, 5, some .boolean, false)
theorem zy_X4_canCut : (plainName yX4_canCut.cls && (yX4_canCut.cls == MX4_canCut.1) && (!MX4_canCut.2.2.2.2 || yX4_canCut.name == "<init>")) = true := by decide +kernel
theorem zp_X4_canCut : zpar yX4_canCut 4 := ⟨by decide +kernel, by decide +kernel, by decide +kernel⟩
abbrev MX4_freeColumns : zM := (RX4, cX4_freeColumns, 8, some .int, false)
theorem zy_X4_freeColumns : (plainName yX4_freeColumns.cls && (yX4_freeColumns.cls == MX4_freeColumns.1) && (!MX4_freeColumns.2.2.2.2 || yX4_freeColumns.name == "<init>")) = true := by decide +kernel
theorem zp_X4_freeColumns : zpar yX4_freeColumns 3 := ⟨by decide +kernel, by decide +kernel, by decide +kernel⟩
abbrev MX4_cutOut : zM := (RX4, cX4_cutOut, 6, none, false)
theorem zy_X4_cutOut : (plainName yX4_cutOut.cls && (yX4_cutOut.cls == MX4_cutOut.1) && (!MX4_cutOut.2.2.2.2 || yX4_cutOut.name == "<init>")) = true := by decide +kernel
theorem zp_X4_cutOut : zpar yX4_cutOut 4 := ⟨by decide +kernel, by decide +kernel, by decide +kernel⟩
abbrev MX4_isOnSheet : zM := (RX4, cX4_isOnSheet, 3, some .boolean, false)
theorem zy_X4_isOnSheet : (plainName yX4_isOnSheet.cls && (yX4_isOnSheet.cls == MX4_isOnSheet.1) && (!MX4_isOnSheet.2.2.2.2 || yX4_isOnSheet.name == "<init>")) = true := by decide +kernel
theorem zp_X4_isOnSheet : zpar yX4_isOnSheet 3 := ⟨by decide +kernel, by decide +kernel, by decide +kernel⟩
abbrev MX4_firstFit : zM := (RX4, cX4_firstFit, 9, some .int, false)
theorem zy_X4_firstFit : (plainName yX4_firstFit.cls && (yX4_firstFit.cls == MX4_firstFit.1) && (!MX4_firstFit.2.2.2.2 || yX4_firstFit.name == "<init>")) = true := by decide +kernel
theorem zp_X4_firstFit : zpar yX4_firstFit 2 := ⟨by decide +kernel, by decide +kernel, by decide +kernel⟩
abbrev MX4_cutUp : zM := (RX4, cX4_cutUp, 5, some .int, false)
theorem zy_X4_cutUp : (plainName yX4_cutUp.cls && (yX4_cutUp.cls == MX4_cutUp.1) && (!MX4_cutUp.2.2.2.2 || yX4_cutUp.name == "<init>")) = true := by decide +kernel
theorem zp_X4_cutUp : zpar yX4_cutUp 2 := ⟨by decide +kernel, by decide +kernel, by decide +kernel⟩
abbrev MX4_allFits : zM := (RX4, cX4_allFits, 5, some .int, false)
theorem zy_X4_allFits : (plainName yX4_allFits.cls && (yX4_allFits.cls == MX4_allFits.1) && (!MX4_allFits.2.2.2.2 || yX4_allFits.name == "<init>")) = true := by decide +kernel
theorem zp_X4_allFits : zpar yX4_allFits 1 := ⟨by decide +kernel, by decide +kernel, by decide +kernel⟩
abbrev MX4_lettersThatFit : zM := (RX4, cX4_lettersThatFit, 3, some .int, false)
theorem zy_X4_lettersThatFit : (plainName yX4_lettersThatFit.cls && (yX4_lettersThatFit.cls == MX4_lettersThatFit.1) && (!MX4_lettersThatFit.2.2.2.2 || yX4_lettersThatFit.name == "<init>")) = true := by decide +kernel
theorem zp_X4_lettersThatFit : zpar yX4_lettersThatFit 0 := ⟨by decide +kernel, by decide +kernel, by decide +kernel⟩
abbrev MX4_squaresLeft : zM := (RX4, cX4_squaresLeft, 3, some .int, false)
theorem zy_X4_squaresLeft : (plainName yX4_squaresLeft.cls && (yX4_squaresLeft.cls == MX4_squaresLeft.1) && (!MX4_squaresLeft.2.2.2.2 || yX4_squaresLeft.name == "<init>")) = true := by decide +kernel
theorem zp_X4_squaresLeft : zpar yX4_squaresLeft 0 := ⟨by decide +kernel, by decide +kernel, by decide +kernel⟩
abbrev MX5_init : zM := (RX5, cX5_init, 3, none, true)
theorem zy_X5_init : (plainName yX5_init.cls && (yX5_init.cls == MX5_init.1) && (!MX5_init.2.2.2.2 || yX5_init.name == "<init>")) = true := by decide +kernel
theorem zp_X5_init : zpar yX5_init 1 := ⟨by decide +kernel, by decide +kernel, by decide +kernel⟩
abbrev MX5_copyFrom : zM := (RX5, cX5_copyFrom, 3, none, false)
theorem zy_X5_copyFrom : (plainName yX5_copyFrom.cls && (yX5_copyFrom.cls == MX5_copyFrom.1) && (!MX5_copyFrom.2.2.2.2 || yX5_copyFrom.name == "<init>")) = true := by decide +kernel
theorem zp_X5_copyFrom : zpar yX5_copyFrom 1 := ⟨by decide +kernel, by decide +kernel, by decide +kernel⟩
abbrev MX5_sheetAt : zM := (RX5, cX5_sheetAt, 2, some (.object "WindowLetters$Sheet"), false)
theorem zy_X5_sheetAt : (plainName yX5_sheetAt.cls && (yX5_sheetAt.cls == MX5_sheetAt.1) && (!MX5_sheetAt.2.2.2.2 || yX5_sheetAt.name == "<init>")) = true := by decide +kernel
theorem zp_X5_sheetAt : zpar yX5_sheetAt 1 := ⟨by decide +kernel, by decide +kernel, by decide +kernel⟩
abbrev MX5_pieceAt : zM := (RX5, cX5_pieceAt, 2, some (.object "WindowLetters$Piece"), false)
theorem zy_X5_pieceAt : (plainName yX5_pieceAt.cls && (yX5_pieceAt.cls == MX5_pieceAt.1) && (!MX5_pieceAt.2.2.2.2 || yX5_pieceAt.name == "<init>")) = true := by decide +kernel
theorem zp_X5_pieceAt : zpar yX5_pieceAt 1 := ⟨by decide +kernel, by decide +kernel, by decide +kernel⟩
abbrev MX5_addSheet : zM := (RX5, cX5_addSheet, 3, some .int, false)
theorem zy_X5_addSheet : (plainName yX5_addSheet.cls && (yX5_addSheet.cls == MX5_addSheet.1) && (!MX5_addSheet.2.2.2.2 || yX5_addSheet.name == "<init>")) = true := by decide +kernel
theorem zp_X5_addSheet : zpar yX5_addSheet 1 := ⟨by decide +kernel, by decide +kernel, by decide +kernel⟩
abbrev MX5_cutPiece : zM := (RX5, cX5_cutPiece, 7, some .int, false)
theorem zy_X5_cutPiece : (plainName yX5_cutPiece.cls && (yX5_cutPiece.cls == MX5_cutPiece.1) && (!MX5_cutPiece.2.2.2.2 || yX5_cutPiece.name == "<init>")) = true := by decide +kernel
theorem zp_X5_cutPiece : zpar yX5_cutPiece 5 := ⟨by decide +kernel, by decide +kernel, by decide +kernel⟩
abbrev MX5_addPiece : zM := (RX5, cX5_addPiece, 9, some .int, false)
theorem zy_X5_addPiece : (plainName yX5_addPiece.cls && (yX5_addPiece.cls == MX5_addPiece.1) && (!MX5_addPiece.2.2.2.2 || yX5_addPiece.name == "<init>")) = true := by decide +kernel
theorem zp_X5_addPiece : zpar yX5_addPiece 5 := ⟨by decide +kernel, by decide +kernel, by decide +kernel⟩
abbrev MX5_makePiece : zM := (RX5, cX5_makePiece, 7, some .int, false)
theorem zy_X5_makePiece : (plainName yX5_makePiece.cls && (yX5_makePiece.cls == MX5_makePiece.1) && (!MX5_makePiece.2.2.2.2 || yX5_makePiece.name == "<init>")) = true := by decide +kernel
theorem zp_X5_makePiece : zpar yX5_makePiece 3 := ⟨by decide +kernel, by decide +kernel, by decide +kernel⟩
abbrev MX5_writeName : zM := (RX5, cX5_writeName, 10, some .int, false)
theorem zy_X5_writeName : (plainName yX5_writeName.cls && (yX5_writeName.cls == MX5_writeName.1) && (!MX5_writeName.2.2.2.2 || yX5_writeName.name == "<init>")) = true := by decide +kernel
theorem zp_X5_writeName : zpar yX5_writeName 5 := ⟨by decide +kernel, by decide +kernel, by decide +kernel⟩
abbrev MX5_lowestLoose : zM := (RX5, cX5_lowestLoose, 6, some .int, false)
theorem zy_X5_lowestLoose : (plainName yX5_lowestLoose.cls && (yX5_lowestLoose.cls == MX5_lowestLoose.1) && (!MX5_lowestLoose.2.2.2.2 || yX5_lowestLoose.name == "<init>")) = true := by decide +kernel
theorem zp_X5_lowestLoose : zpar yX5_lowestLoose 3 := ⟨by decide +kernel, by decide +kernel, by decide +kernel⟩
abbrev MX5_putIntoPane : zM := (RX5, cX5_putIntoPane, 6, some .int, false)
theorem zy_X5_putIntoPane : (plainName yX5_putIntoPane.cls && (yX5_putIntoPane.cls == MX5_putIntoPane.1) && (!MX5_putIntoPane.2.2.2.2 || yX5_putIntoPane.name == "<init>")) = true := by decide +kernel
theorem zp_X5_putIntoPane : zpar yX5_putIntoPane 3 := ⟨by decide +kernel, by decide +kernel, by decide +kernel⟩
abbrev MX5_clearPane : zM := (RX5, cX5_clearPane, 5, some .int, false)
theorem zy_X5_clearPane : (plainName yX5_clearPane.cls && (yX5_clearPane.cls == MX5_clearPane.1) && (!MX5_clearPane.2.2.2.2 || yX5_clearPane.name == "<init>")) = true := by decide +kernel
theorem zp_X5_clearPane : zpar yX5_clearPane 1 := ⟨by decide +kernel, by decide +kernel, by decide +kernel⟩
abbrev MX5_wastePiece : zM := (RX5, cX5_wastePiece, 3, some .int, false)
theorem zy_X5_wastePiece : (plainName yX5_wastePiece.cls && (yX5_wastePiece.cls == MX5_wastePiece.1) && (!MX5_wastePiece.2.2.2.2 || yX5_wastePiece.name == "<init>")) = true := by decide +kernel
theorem zp_X5_wastePiece : zpar yX5_wastePiece 1 := ⟨by decide +kernel, by decide +kernel, by decide +kernel⟩
abbrev MX5_scrapSheet : zM := (RX5, cX5_scrapSheet, 3, some .int, false)
theorem zy_X5_scrapSheet : (plainName yX5_scrapSheet.cls && (yX5_scrapSheet.cls == MX5_scrapSheet.1) && (!MX5_scrapSheet.2.2.2.2 || yX5_scrapSheet.name == "<init>")) = true := by decide +kernel
theorem zp_X5_scrapSheet : zpar yX5_scrapSheet 1 := ⟨by decide +kernel, by decide +kernel, by decide +kernel⟩
abbrev MX5_piecesIn : zM := (RX5, cX5_piecesIn, 5, some .int, false)
theorem zy_X5_piecesIn : (plainName yX5_piecesIn.cls && (yX5_piecesIn.cls == MX5_piecesIn.1) && (!MX5_piecesIn.2.2.2.2 || yX5_piecesIn.name == "<init>")) = true := by decide +kernel
theorem zp_X5_piecesIn : zpar yX5_piecesIn 1 := ⟨by decide +kernel, by decide +kernel, by decide +kernel⟩
abbrev MX5_piecesFrom : zM := (RX5, cX5_piecesFrom, 5, some .int, false)
theorem zy_X5_piecesFrom : (plainName yX5_piecesFrom.cls && (yX5_piecesFrom.cls == MX5_piecesFrom.1) && (!MX5_piecesFrom.2.2.2.2 || yX5_piecesFrom.name == "<init>")) = true := by decide +kernel
theorem zp_X5_piecesFrom : zpar yX5_piecesFrom 1 := ⟨by decide +kernel, by decide +kernel, by decide +kernel⟩
abbrev MX5_piecesThatAre : zM := (RX5, cX5_piecesThatAre, 5, some .int, false)
theorem zy_X5_piecesThatAre : (plainName yX5_piecesThatAre.cls && (yX5_piecesThatAre.cls == MX5_piecesThatAre.1) && (!MX5_piecesThatAre.2.2.2.2 || yX5_piecesThatAre.name == "<init>")) = true := by decide +kernel
theorem zp_X5_piecesThatAre : zpar yX5_piecesThatAre 1 := ⟨by decide +kernel, by decide +kernel, by decide +kernel⟩
abbrev MX5_squaresOfPieces : zM := (RX5, cX5_squaresOfPieces, 5, some .int, false)
theorem zy_X5_squaresOfPieces : (plainName yX5_squaresOfPieces.cls && (yX5_squaresOfPieces.cls == MX5_squaresOfPieces.1) && (!MX5_squaresOfPieces.2.2.2.2 || yX5_squaresOfPieces.name == "<init>")) = true := by decide +kernel
theorem zp_X5_squaresOfPieces : zpar yX5_squaresOfPieces 1 := ⟨by decide +kernel, by decide +kernel, by decide +kernel⟩
abbrev MX5_squaresOfSheets : zM := (RX5, cX5_squaresOfSheets, 5, some .int, false)
theorem zy_X5_squaresOfSheets : (plainName yX5_squaresOfSheets.cls && (yX5_squaresOfSheets.cls == MX5_squaresOfSheets.1) && (!MX5_squaresOfSheets.2.2.2.2 || yX5_squaresOfSheets.name == "<init>")) = true := by decide +kernel
theorem zp_X5_squaresOfSheets : zpar yX5_squaresOfSheets 1 := ⟨by decide +kernel, by decide +kernel, by decide +kernel⟩
abbrev ML_cell : zM := (RL, cL_cell, 2, some .int, false)
theorem zy_L_cell : (plainName yL_cell.cls && (yL_cell.cls == ML_cell.1) && (!ML_cell.2.2.2.2 || yL_cell.name == "<init>")) = true := by decide +kernel
theorem zp_L_cell : zpar yL_cell 2 := ⟨by decide +kernel, by decide +kernel, by decide +kernel⟩
abbrev ML_low : zM := (RL, cL_low, 2, some .int, false)
theorem zy_L_low : (plainName yL_low.cls && (yL_low.cls == ML_low.1) && (!ML_low.2.2.2.2 || yL_low.name == "<init>")) = true := by decide +kernel
theorem zp_L_low : zpar yL_low 2 := ⟨by decide +kernel, by decide +kernel, by decide +kernel⟩
abbrev ML_squares : zM := (RL, cL_squares, 1, some .int, false)
theorem zy_L_squares : (plainName yL_squares.cls && (yL_squares.cls == ML_squares.1) && (!ML_squares.2.2.2.2 || yL_squares.name == "<init>")) = true := by decide +kernel
theorem zp_L_squares : zpar yL_squares 1 := ⟨by decide +kernel, by decide +kernel, by decide +kernel⟩
abbrev ML_sign : zM := (RL, cL_sign, 1, some .int, false)
theorem zy_L_sign : (plainName yL_sign.cls && (yL_sign.cls == ML_sign.1) && (!ML_sign.2.2.2.2 || yL_sign.name == "<init>")) = true := by decide +kernel
theorem zp_L_sign : zpar yL_sign 1 := ⟨by decide +kernel, by decide +kernel, by decide +kernel⟩
abbrev ML_change : zM := (RL, cL_change, 8, some .int, false)
theorem zy_L_change : (plainName yL_change.cls && (yL_change.cls == ML_change.1) && (!ML_change.2.2.2.2 || yL_change.name == "<init>")) = true := by decide +kernel
theorem zp_L_change : zpar yL_change 4 := ⟨by decide +kernel, by decide +kernel, by decide +kernel⟩
abbrev ML_can : zM := (RL, cL_can, 9, some .boolean, false)
theorem zy_L_can : (plainName yL_can.cls && (yL_can.cls == ML_can.1) && (!ML_can.2.2.2.2 || yL_can.name == "<init>")) = true := by decide +kernel
theorem zp_L_can : zpar yL_can 6 := ⟨by decide +kernel, by decide +kernel, by decide +kernel⟩
abbrev ML_isPiece : zM := (RL, cL_isPiece, 12, some .boolean, false)
theorem zy_L_isPiece : (plainName yL_isPiece.cls && (yL_isPiece.cls == ML_isPiece.1) && (!ML_isPiece.2.2.2.2 || yL_isPiece.name == "<init>")) = true := by decide +kernel
theorem zp_L_isPiece : zpar yL_isPiece 3 := ⟨by decide +kernel, by decide +kernel, by decide +kernel⟩
abbrev ML_isSheet : zM := (RL, cL_isSheet, 8, some .boolean, false)
theorem zy_L_isSheet : (plainName yL_isSheet.cls && (yL_isSheet.cls == ML_isSheet.1) && (!ML_isSheet.2.2.2.2 || yL_isSheet.name == "<init>")) = true := by decide +kernel
theorem zp_L_isSheet : zpar yL_isSheet 3 := ⟨by decide +kernel, by decide +kernel, by decide +kernel⟩
abbrev ML_isFit : zM := (RL, cL_isFit, 8, some .boolean, false)
theorem zy_L_isFit : (plainName yL_isFit.cls && (yL_isFit.cls == ML_isFit.1) && (!ML_isFit.2.2.2.2 || yL_isFit.name == "<init>")) = true := by decide +kernel
theorem zp_L_isFit : zpar yL_isFit 4 := ⟨by decide +kernel, by decide +kernel, by decide +kernel⟩
abbrev ML_holds : zM := (RL, cL_holds, 9, some .boolean, false)
theorem zy_L_holds : (plainName yL_holds.cls && (yL_holds.cls == ML_holds.1) && (!ML_holds.2.2.2.2 || yL_holds.name == "<init>")) = true := by decide +kernel
theorem zp_L_holds : zpar yL_holds 2 := ⟨by decide +kernel, by decide +kernel, by decide +kernel⟩
abbrev ML_tries : zM := (RL, cL_tries, 12, some .boolean, false)
theorem zy_L_tries : (plainName yL_tries.cls && (yL_tries.cls == ML_tries.1) && (!ML_tries.2.2.2.2 || yL_tries.name == "<init>")) = true := by decide +kernel
theorem zp_L_tries : zpar yL_tries 2 := ⟨by decide +kernel, by decide +kernel, by decide +kernel⟩

/-- an exact answer, an exact world -/
def zR (x : Value) (hh : zH) (sz : Nat) : Option Value → zH → Nat → Prop := fun r h' s' => r = some x ∧ h' = hh ∧ s' = sz
def zV (hh : zH) (sz : Nat) : Option Value → zH → Nat → Prop := fun r h' s' => r = none ∧ h' = hh ∧ s' = sz
section Z5
variable {M : zM} {G : zG} {d mc ms k n : Nat} {hh : zH} {sz : Nat} {pc : Nat} {lv : List (Option Value)} {st rest : List Value} {Post : Option Value → zH → Nat → Nat → Nat → Prop}
variable {y : MethodName} {My : zM} {idx d' mc' ms' : Nat} {as : List Value} {hh' : zH} {sz' : Nat} {x : Value}
theorem z_iincC {i : Nat} {j : Int} {x c : Int32} {lv' : List (Option Value)} (hd : decode M.2.1 pc = .ok (.iinc i j, 3)) (hc : Int32.ofInt j = c) (hv : lv[i]? = some (some (.int x))) (hn : i < M.2.2.1) (hok : zok lv i = true) (hlv : lv.set i (some (.int (x + c))) = lv') (kk : zS M G d mc ms k n hh sz (pc + 3) lv' st Post) : zS M G d mc ms k n hh sz pc lv st Post := z_iinc hd hv (by rw [hc]) hn hok hlv kk
/-- the top of the stack by another name -/
theorem z_eq {a b : Int32} (e : a = b) (kk : zS M G d mc ms k n hh sz pc lv (.int b :: st) Post) : zS M G d mc ms k n hh sz pc lv (.int a :: st) Post := e ▸ kk
theorem z_heap {h2 : zH} (e : hh = h2) (kk : zS M G d mc ms k n h2 sz pc lv st Post) : zS M G d mc ms k n hh sz pc lv st Post := e ▸ kk
theorem z_ialdN {a N j : Nat} {f : Nat → Int32} {x : Int32} (hd : decode M.2.1 pc = .ok (.iaload, 1)) (ha : hh a = some (.inl (G.2.2.1 0, N, .inl f))) (hx : x = nI j) (hj : j < N) (hN : N < 2 ^ 31) (kk : zS M G d mc ms k n hh sz (pc + 1) lv (.int (f j) :: st) Post) : zS M G d mc ms k n hh sz pc lv (.int x :: .ref a :: st) Post := by
  subst hx
  refine z_iald hd ha (vp_in_nI hj hN) ?_
  rw [nI_clamp (by omega)]
  exact kk
theorem z_iastN {a N j : Nat} {f : Nat → Int32} {x y : Int32} (hd : decode M.2.1 pc = .ok (.iastore, 1)) (ha : hh a = some (.inl (G.2.2.1 0, N, .inl f))) (hx : x = nI j) (hj : j < N) (hN : N < 2 ^ 31) (kk : zS M G d mc ms k n (zup hh a (.inl (G.2.2.1 0, N, .inl (upd f j y)))) sz (pc + 1) lv st Post) : zS M G d mc ms k n hh sz pc lv (.int y :: .int x :: .ref a :: st) Post := by
  subst hx
  refine z_iast hd ha (vp_in_nI hj hN) ?_
  rw [nI_clamp (by omega)]
  exact kk
theorem z_aaldN {a N t j : Nat} {C : String} {f : Nat → Option Nat} {x : Int32} (hd : decode M.2.1 pc = .ok (.aaload, 1)) (ha : hh a = some (.inl (G.2.2.1 t, N, .inr (.inr (.inr (.inr f)))))) (ht : (zTys G)[t]? = some (G.2.2.1 t, .object C)) (hx : x = nI j) (hj : j < N) (hN : N < 2 ^ 31) (kk : zS M G d mc ms k n hh sz (pc + 1) lv (va_rf (f j) :: st) Post) : zS M G d mc ms k n hh sz pc lv (.int x :: .ref a :: st) Post := by
  subst hx
  refine z_aald hd ha ht (vp_in_nI hj hN) ?_
  rw [nI_clamp (by omega)]
  exact kk
theorem z_aastN {a N t v ci j : Nat} {vs : List Value} {f : Nat → Option Nat} {x : Int32} (hd : decode M.2.1 pc = .ok (.aastore, 1)) (ha : hh a = some (.inl (G.2.2.1 t, N, .inr (.inr (.inr (.inr f)))))) (hci : ci < 7) (ht : (zTys G)[t]? = some (G.2.2.1 t, .object (zc ci).1)) (hv : hh v = some (.inr (ci, vs))) (hx : x = nI j) (hj : j < N) (hN : N < 2 ^ 31) (kk : zS M G d mc ms k n (zup hh a (.inl (G.2.2.1 t, N, .inr (.inr (.inr (.inr (va_up f j (some v)))))))) sz (pc + 1) lv st Post) : zS M G d mc ms k n hh sz pc lv (.ref v :: .int x :: .ref a :: st) Post := by
  subst hx
  refine z_aast hd ha hci ht hv (vp_in_nI hj hN) ?_
  rw [nI_clamp (by omega)]
  exact kk
/-- a method's end, by an exact contract -/
theorem z_iretR {x y : Int32} {h2 : zH} {s2 : Nat} (hd : decode M.2.1 pc = .ok (.ireturn, 1)) (hrt : M.2.2.2.1 = some .int) (e : x = y) (eh : hh = h2) (es : sz = s2) (hk : k ≤ mc) (hn : n ≤ ms) : zS M G d mc ms k n hh sz pc lv [.int x] (fun r h' s' k' n' => zR (.int y) h2 s2 r h' s' ∧ k' ≤ mc ∧ n' ≤ ms) :=
  z_ireturn hd ⟨.int, hrt, rfl⟩ ⟨⟨by rw [e], eh, es⟩, hk, hn⟩
theorem z_narZ {x : Int32} (h : x = 0 ∨ x = 1) : narrow .boolean (.int x) = .int x := by rcases h with rfl | rfl <;> rfl
theorem z_zretR {x y : Int32} {h2 : zH} {s2 : Nat} (hd : decode M.2.1 pc = .ok (.ireturn, 1)) (hrt : M.2.2.2.1 = some .boolean) (hz : x = 0 ∨ x = 1) (e : x = y) (eh : hh = h2) (es : sz = s2) (hk : k ≤ mc) (hn : n ≤ ms) : zS M G d mc ms k n hh sz pc lv [.int x] (fun r h' s' k' n' => zR (.int y) h2 s2 r h' s' ∧ k' ≤ mc ∧ n' ≤ ms) :=
  z_ireturn hd ⟨.boolean, hrt, z_narZ hz⟩ ⟨⟨by rw [e], eh, es⟩, hk, hn⟩
theorem z_vretV {h2 : zH} {s2 : Nat} (hd : decode M.2.1 pc = .ok (.return_, 1)) (hrt : M.2.2.2.1 = none) (eh : hh = h2) (es : sz = s2) (hk : k ≤ mc) (hn : n ≤ ms) : zS M G d mc ms k n hh sz pc lv [] (fun r h' s' k' n' => zV h2 s2 r h' s' ∧ k' ≤ mc ∧ n' ≤ ms) :=
  z_return hd hrt ⟨⟨rfl, eh, es⟩, hk, hn⟩
theorem z_aretR {a b : Nat} {C : String} {h2 : zH} {s2 : Nat} (hd : decode M.2.1 pc = .ok (.areturn, 1)) (hrt : M.2.2.2.1 = some (.object C)) (e : a = b) (eh : hh = h2) (es : sz = s2) (hk : k ≤ mc) (hn : n ≤ ms) : zS M G d mc ms k n hh sz pc lv [.ref a] (fun r h' s' k' n' => zR (.ref b) h2 s2 r h' s' ∧ k' ≤ mc ∧ n' ≤ ms) :=
  z_areturn hd hrt ⟨⟨by rw [e], eh, es⟩, hk, hn⟩
theorem z_aretRN {C : String} {h2 : zH} {s2 : Nat} (hd : decode M.2.1 pc = .ok (.areturn, 1)) (hrt : M.2.2.2.1 = some (.object C)) (eh : hh = h2) (es : sz = s2) (hk : k ≤ mc) (hn : n ≤ ms) : zS M G d mc ms k n hh sz pc lv [.null] (fun r h' s' k' n' => zR .null h2 s2 r h' s' ∧ k' ≤ mc ∧ n' ≤ ms) :=
  z_areturnN hd hrt ⟨⟨rfl, eh, es⟩, hk, hn⟩

theorem z_callSR (hC : zC G d' My y as hh sz mc' ms' (zR x hh' sz')) (hd : decode M.2.1 pc = .ok (.invokestatic idx, 3)) (hq : Cond.methodLink M.1 idx y ∈ zT ∧ Cond.code y My.2.1 My.2.2.1 My.2.2.2.1 ∈ zT ∧ Cond.initialized y.cls ∈ zT ∧ Cond.static y ∈ zT) (hroom : d' + 1 ≤ d ∧ My.2.2.1 ≤ 12) (hpar : zpar y as.length) (hst : st = as.reverse ++ rest) (hwt : (rest.map fun v => v.category).sum ≤ 8) (hk : k + mc' ≤ mc) (hn : n + ms' ≤ ms) (kk : zS M G d mc ms (k + mc') (n + ms') hh' sz' (pc + 3) lv (x :: rest) Post) : zS M G d mc ms k n hh sz pc lv st Post :=
  z_callS hC hd hq hroom hpar hwt hk hn (fun r h1 s1 hp => by obtain ⟨rfl, rfl, rfl⟩ := hp; exact kk) hst
theorem z_callSU (hC : zC G d' My y as hh sz mc' ms' (zV hh' sz')) (hd : decode M.2.1 pc = .ok (.invokestatic idx, 3)) (hq : Cond.methodLink M.1 idx y ∈ zT ∧ Cond.code y My.2.1 My.2.2.1 My.2.2.2.1 ∈ zT ∧ Cond.initialized y.cls ∈ zT ∧ Cond.static y ∈ zT) (hroom : d' + 1 ≤ d ∧ My.2.2.1 ≤ 12) (hpar : zpar y as.length) (hst : st = as.reverse ++ rest) (hwt : (rest.map fun v => v.category).sum ≤ 8) (hk : k + mc' ≤ mc) (hn : n + ms' ≤ ms) (kk : zS M G d mc ms (k + mc') (n + ms') hh' sz' (pc + 3) lv (rest) Post) : zS M G d mc ms k n hh sz pc lv st Post :=
  z_callS hC hd hq hroom hpar hwt hk hn (fun r h1 s1 hp => by obtain ⟨rfl, rfl, rfl⟩ := hp; exact kk) hst
theorem z_callVR {ci b : Nat} {fs : List Value} (hC : zC G d' My y (.ref b :: as) hh sz mc' ms' (zR x hh' sz')) (hd : decode M.2.1 pc = .ok (.invokevirtual idx, 3)) (hq : Cond.methodLink M.1 idx y ∈ zT ∧ Cond.code y My.2.1 My.2.2.1 My.2.2.2.1 ∈ zT ∧ Cond.initialized y.cls ∈ zT ∧ Cond.instanceMethod y ∈ zT ∧ Cond.selects (zc ci).1 y y ∈ zT ∧ ci < 7) (he : hh b = some (.inr (ci, fs))) (hroom : d' + 1 ≤ d ∧ My.2.2.1 ≤ 12) (hpar : zpar y as.length) (hst : st = as.reverse ++ .ref b :: rest) (hwt : (rest.map fun v => v.category).sum ≤ 8) (hk : k + mc' ≤ mc) (hn : n + ms' ≤ ms) (kk : zS M G d mc ms (k + mc') (n + ms') hh' sz' (pc + 3) lv (x :: rest) Post) : zS M G d mc ms k n hh sz pc lv st Post :=
  z_callV hC hd hq he hroom hpar hwt hk hn (fun r h1 s1 hp => by obtain ⟨rfl, rfl, rfl⟩ := hp; exact kk) hst
theorem z_callVU {ci b : Nat} {fs : List Value} (hC : zC G d' My y (.ref b :: as) hh sz mc' ms' (zV hh' sz')) (hd : decode M.2.1 pc = .ok (.invokevirtual idx, 3)) (hq : Cond.methodLink M.1 idx y ∈ zT ∧ Cond.code y My.2.1 My.2.2.1 My.2.2.2.1 ∈ zT ∧ Cond.initialized y.cls ∈ zT ∧ Cond.instanceMethod y ∈ zT ∧ Cond.selects (zc ci).1 y y ∈ zT ∧ ci < 7) (he : hh b = some (.inr (ci, fs))) (hroom : d' + 1 ≤ d ∧ My.2.2.1 ≤ 12) (hpar : zpar y as.length) (hst : st = as.reverse ++ .ref b :: rest) (hwt : (rest.map fun v => v.category).sum ≤ 8) (hk : k + mc' ≤ mc) (hn : n + ms' ≤ ms) (kk : zS M G d mc ms (k + mc') (n + ms') hh' sz' (pc + 3) lv (rest) Post) : zS M G d mc ms k n hh sz pc lv st Post :=
  z_callV hC hd hq he hroom hpar hwt hk hn (fun r h1 s1 hp => by obtain ⟨rfl, rfl, rfl⟩ := hp; exact kk) hst
theorem z_callIU {b : Nat} (hC : zC G d' My y (.ref b :: as) hh sz mc' ms' (zV hh' sz')) (hd : decode M.2.1 pc = .ok (.invokespecial idx, 3)) (hq : Cond.methodLink M.1 idx y ∈ zT ∧ Cond.code y My.2.1 My.2.2.1 none ∈ zT ∧ Cond.initialized y.cls ∈ zT ∧ Cond.instanceMethod y ∈ zT ∧ y.name = "<init>") (hret : My.2.2.2.1 = none) (hroom : d' + 1 ≤ d ∧ My.2.2.1 ≤ 12) (hpar : zpar y as.length) (hst : st = as.reverse ++ .ref b :: rest) (hwt : (rest.map fun v => v.category).sum ≤ 8) (hk : k + mc' ≤ mc) (hn : n + ms' ≤ ms) (kk : zS M G d mc ms (k + mc') (n + ms') hh' sz' (pc + 3) lv (rest) Post) : zS M G d mc ms k n hh sz pc lv st Post :=
  z_callI hC hd hq hret hroom hpar hwt hk hn (fun r h1 s1 hp => by obtain ⟨rfl, rfl, rfl⟩ := hp; exact kk) hst
theorem z_callSNR (hC : zC G d' My y as hh sz mc' ms' (zR x hh' sz')) (hd : decode M.2.1 pc = .ok (.invokestatic idx, 3)) (hq : Cond.methodLinkNest M.1 idx y "WindowLetters" ∈ zN ∧ Cond.code y My.2.1 My.2.2.1 My.2.2.2.1 ∈ zT ∧ Cond.initialized y.cls ∈ zT ∧ Cond.static y ∈ zT) (hroom : d' + 1 ≤ d ∧ My.2.2.1 ≤ 12) (hpar : zpar y as.length) (hst : st = as.reverse ++ rest) (hwt : (rest.map fun v => v.category).sum ≤ 8) (hk : k + mc' ≤ mc) (hn : n + ms' ≤ ms) (kk : zS M G d mc ms (k + mc') (n + ms') hh' sz' (pc + 3) lv (x :: rest) Post) : zS M G d mc ms k n hh sz pc lv st Post :=
  z_callSN hC hd hq hroom hpar hwt hk hn (fun r h1 s1 hp => by obtain ⟨rfl, rfl, rfl⟩ := hp; exact kk) hst
theorem z_callSNU (hC : zC G d' My y as hh sz mc' ms' (zV hh' sz')) (hd : decode M.2.1 pc = .ok (.invokestatic idx, 3)) (hq : Cond.methodLinkNest M.1 idx y "WindowLetters" ∈ zN ∧ Cond.code y My.2.1 My.2.2.1 My.2.2.2.1 ∈ zT ∧ Cond.initialized y.cls ∈ zT ∧ Cond.static y ∈ zT) (hroom : d' + 1 ≤ d ∧ My.2.2.1 ≤ 12) (hpar : zpar y as.length) (hst : st = as.reverse ++ rest) (hwt : (rest.map fun v => v.category).sum ≤ 8) (hk : k + mc' ≤ mc) (hn : n + ms' ≤ ms) (kk : zS M G d mc ms (k + mc') (n + ms') hh' sz' (pc + 3) lv (rest) Post) : zS M G d mc ms k n hh sz pc lv st Post :=
  z_callSN hC hd hq hroom hpar hwt hk hn (fun r h1 s1 hp => by obtain ⟨rfl, rfl, rfl⟩ := hp; exact kk) hst
theorem z_callVNR {ci b : Nat} {fs : List Value} (hC : zC G d' My y (.ref b :: as) hh sz mc' ms' (zR x hh' sz')) (hd : decode M.2.1 pc = .ok (.invokevirtual idx, 3)) (hq : Cond.methodLinkNest M.1 idx y "WindowLetters" ∈ zN ∧ Cond.code y My.2.1 My.2.2.1 My.2.2.2.1 ∈ zT ∧ Cond.initialized y.cls ∈ zT ∧ Cond.instanceMethod y ∈ zT ∧ Cond.selects (zc ci).1 y y ∈ zT ∧ ci < 7) (he : hh b = some (.inr (ci, fs))) (hroom : d' + 1 ≤ d ∧ My.2.2.1 ≤ 12) (hpar : zpar y as.length) (hst : st = as.reverse ++ .ref b :: rest) (hwt : (rest.map fun v => v.category).sum ≤ 8) (hk : k + mc' ≤ mc) (hn : n + ms' ≤ ms) (kk : zS M G d mc ms (k + mc') (n + ms') hh' sz' (pc + 3) lv (x :: rest) Post) : zS M G d mc ms k n hh sz pc lv st Post :=
  z_callVN hC hd hq he hroom hpar hwt hk hn (fun r h1 s1 hp => by obtain ⟨rfl, rfl, rfl⟩ := hp; exact kk) hst
theorem z_callVNU {ci b : Nat} {fs : List Value} (hC : zC G d' My y (.ref b :: as) hh sz mc' ms' (zV hh' sz')) (hd : decode M.2.1 pc = .ok (.invokevirtual idx, 3)) (hq : Cond.methodLinkNest M.1 idx y "WindowLetters" ∈ zN ∧ Cond.code y My.2.1 My.2.2.1 My.2.2.2.1 ∈ zT ∧ Cond.initialized y.cls ∈ zT ∧ Cond.instanceMethod y ∈ zT ∧ Cond.selects (zc ci).1 y y ∈ zT ∧ ci < 7) (he : hh b = some (.inr (ci, fs))) (hroom : d' + 1 ≤ d ∧ My.2.2.1 ≤ 12) (hpar : zpar y as.length) (hst : st = as.reverse ++ .ref b :: rest) (hwt : (rest.map fun v => v.category).sum ≤ 8) (hk : k + mc' ≤ mc) (hn : n + ms' ≤ ms) (kk : zS M G d mc ms (k + mc') (n + ms') hh' sz' (pc + 3) lv (rest) Post) : zS M G d mc ms k n hh sz pc lv st Post :=
  z_callVN hC hd hq he hroom hpar hwt hk hn (fun r h1 s1 hp => by obtain ⟨rfl, rfl, rfl⟩ := hp; exact kk) hst
theorem z_callINU {b : Nat} (hC : zC G d' My y (.ref b :: as) hh sz mc' ms' (zV hh' sz')) (hd : decode M.2.1 pc = .ok (.invokespecial idx, 3)) (hq : Cond.methodLinkNest M.1 idx y "WindowLetters" ∈ zN ∧ Cond.code y My.2.1 My.2.2.1 none ∈ zT ∧ Cond.initialized y.cls ∈ zT ∧ Cond.instanceMethod y ∈ zT ∧ y.name = "<init>") (hret : My.2.2.2.1 = none) (hroom : d' + 1 ≤ d ∧ My.2.2.1 ≤ 12) (hpar : zpar y as.length) (hst : st = as.reverse ++ .ref b :: rest) (hwt : (rest.map fun v => v.category).sum ≤ 8) (hk : k + mc' ≤ mc) (hn : n + ms' ≤ ms) (kk : zS M G d mc ms (k + mc') (n + ms') hh' sz' (pc + 3) lv (rest) Post) : zS M G d mc ms k n hh sz pc lv st Post :=
  z_callIN hC hd hq hret hroom hpar hwt hk hn (fun r h1 s1 hp => by obtain ⟨rfl, rfl, rfl⟩ := hp; exact kk) hst
end Z5
