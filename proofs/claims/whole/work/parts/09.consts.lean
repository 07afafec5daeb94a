theorem cb_m10 : (Int8.ofInt (-10)).toInt32 = (-10) := by decide
theorem cb_m5 : (Int8.ofInt (-5)).toInt32 = (-5) := by decide
theorem cb_6 : (Int8.ofInt 6).toInt32 = 6 := by decide
theorem cb_7 : (Int8.ofInt 7).toInt32 = 7 := by decide
theorem cb_8 : (Int8.ofInt 8).toInt32 = 8 := by decide
theorem cb_9 : (Int8.ofInt 9).toInt32 = 9 := by decide
theorem cb_10 : (Int8.ofInt 10).toInt32 = 10 := by decide
theorem cb_11 : (Int8.ofInt 11).toInt32 = 11 := by decide
theorem cb_12 : (Int8.ofInt 12).toInt32 = 12 := by decide
theorem cb_13 : (Int8.ofInt 13).toInt32 = 13 := by decide
theorem cb_16 : (Int8.ofInt 16).toInt32 = 16 := by decide
theorem cb_20 : (Int8.ofInt 20).toInt32 = 20 := by decide
theorem cb_30 : (Int8.ofInt 30).toInt32 = 30 := by decide
theorem cb_32 : (Int8.ofInt 32).toInt32 = 32 := by decide
theorem cb_33 : (Int8.ofInt 33).toInt32 = 33 := by decide
theorem cb_37 : (Int8.ofInt 37).toInt32 = 37 := by decide
theorem cb_38 : (Int8.ofInt 38).toInt32 = 38 := by decide
theorem cb_40 : (Int8.ofInt 40).toInt32 = 40 := by decide
theorem cb_41 : (Int8.ofInt 41).toInt32 = 41 := by decide
theorem cb_42 : (Int8.ofInt 42).toInt32 = 42 := by decide
theorem cb_43 : (Int8.ofInt 43).toInt32 = 43 := by decide
theorem cb_45 : (Int8.ofInt 45).toInt32 = 45 := by decide
theorem cb_47 : (Int8.ofInt 47).toInt32 = 47 := by decide
theorem cb_48 : (Int8.ofInt 48).toInt32 = 48 := by decide
theorem cb_50 : (Int8.ofInt 50).toInt32 = 50 := by decide
theorem cb_52 : (Int8.ofInt 52).toInt32 = 52 := by decide
theorem cb_57 : (Int8.ofInt 57).toInt32 = 57 := by decide
theorem cb_60 : (Int8.ofInt 60).toInt32 = 60 := by decide
theorem cb_61 : (Int8.ofInt 61).toInt32 = 61 := by decide
theorem cb_62 : (Int8.ofInt 62).toInt32 = 62 := by decide
theorem cb_63 : (Int8.ofInt 63).toInt32 = 63 := by decide
theorem cb_70 : (Int8.ofInt 70).toInt32 = 70 := by decide
theorem cb_71 : (Int8.ofInt 71).toInt32 = 71 := by decide
theorem cb_80 : (Int8.ofInt 80).toInt32 = 80 := by decide
theorem cb_99 : (Int8.ofInt 99).toInt32 = 99 := by decide
theorem cb_120 : (Int8.ofInt 120).toInt32 = 120 := by decide
theorem cb_124 : (Int8.ofInt 124).toInt32 = 124 := by decide
theorem ci_m1 : Int32.ofInt (-1) = (-1) := by decide
theorem ci_0 : Int32.ofInt 0 = 0 := by decide
theorem ci_1 : Int32.ofInt 1 = 1 := by decide
theorem ci_2 : Int32.ofInt 2 = 2 := by decide
theorem ci_3 : Int32.ofInt 3 = 3 := by decide
theorem ci_4 : Int32.ofInt 4 = 4 := by decide
theorem ci_5 : Int32.ofInt 5 = 5 := by decide
theorem ci_6 : Int32.ofInt 6 = 6 := by decide
theorem cs_134 : (Int16.ofInt 134).toInt32 = 134 := by decide
theorem cs_140 : (Int16.ofInt 140).toInt32 = 140 := by decide
theorem cs_160 : (Int16.ofInt 160).toInt32 = 160 := by decide
theorem cs_190 : (Int16.ofInt 190).toInt32 = 190 := by decide
theorem cs_210 : (Int16.ofInt 210).toInt32 = 210 := by decide
theorem cs_255 : (Int16.ofInt 255).toInt32 = 255 := by decide
theorem cs_300 : (Int16.ofInt 300).toInt32 = 300 := by decide
theorem cs_314 : (Int16.ofInt 314).toInt32 = 314 := by decide
theorem cs_720 : (Int16.ofInt 720).toInt32 = 720 := by decide
theorem cs_999 : (Int16.ofInt 999).toInt32 = 999 := by decide
theorem cs_1000 : (Int16.ofInt 1000).toInt32 = 1000 := by decide
theorem cs_1439 : (Int16.ofInt 1439).toInt32 = 1439 := by decide
theorem cs_1440 : (Int16.ofInt 1440).toInt32 = 1440 := by decide
theorem cs_9999 : (Int16.ofInt 9999).toInt32 = 9999 := by decide
theorem cs_10000 : (Int16.ofInt 10000).toInt32 = 10000 := by decide
theorem cs_12345 : (Int16.ofInt 12345).toInt32 = 12345 := by decide
theorem cs_20000 : (Int16.ofInt 20000).toInt32 = 20000 := by decide
theorem cs_20001 : (Int16.ofInt 20001).toInt32 = 20001 := by decide
theorem cs_20002 : (Int16.ofInt 20002).toInt32 = 20002 := by decide
theorem cs_20003 : (Int16.ofInt 20003).toInt32 = 20003 := by decide
theorem cs_20004 : (Int16.ofInt 20004).toInt32 = 20004 := by decide
theorem cs_20005 : (Int16.ofInt 20005).toInt32 = 20005 := by decide
theorem cs_20006 : (Int16.ofInt 20006).toInt32 = 20006 := by decide
theorem cs_20007 : (Int16.ofInt 20007).toInt32 = 20007 := by decide
theorem cs_20008 : (Int16.ofInt 20008).toInt32 = 20008 := by decide
theorem cs_20009 : (Int16.ofInt 20009).toInt32 = 20009 := by decide
theorem cs_20010 : (Int16.ofInt 20010).toInt32 = 20010 := by decide
theorem np_X0_init : nPar mi_X0_init.1 0 := by unfold nPar; decide +kernel
theorem np_X0_begin : nPar mi_X0_begin.1 1 := by unfold nPar; decide +kernel
theorem np_X0_weigh : nPar mi_X0_weigh.1 2 := by unfold nPar; decide +kernel
theorem np_X0_chooseOrder : nPar mi_X0_chooseOrder.1 2 := by unfold nPar; decide +kernel
theorem np_X0_chooseLine : nPar mi_X0_chooseLine.1 1 := by unfold nPar; decide +kernel
theorem np_X0_chooseSpace : nPar mi_X0_chooseSpace.1 2 := by unfold nPar; decide +kernel
theorem np_X0_chooseParts : nPar mi_X0_chooseParts.1 3 := by unfold nPar; decide +kernel
theorem np_X0_chooseStart : nPar mi_X0_chooseStart.1 3 := by unfold nPar; decide +kernel
theorem np_X0_chooseLeft : nPar mi_X0_chooseLeft.1 1 := by unfold nPar; decide +kernel
theorem np_X0_chooseLead : nPar mi_X0_chooseLead.1 2 := by unfold nPar; decide +kernel
theorem np_X1_init : nPar mi_X1_init.1 0 := by unfold nPar; decide +kernel
theorem np_X1_cross : nPar mi_X1_cross.1 1 := by unfold nPar; decide +kernel
theorem np_X1_crossOne : nPar mi_X1_crossOne.1 3 := by unfold nPar; decide +kernel
theorem np_X1_cellOf : nPar mi_X1_cellOf.1 2 := by unfold nPar; decide +kernel
theorem np_X1_comesTo : nPar mi_X1_comesTo.1 2 := by unfold nPar; decide +kernel
theorem np_X1_isOff : nPar mi_X1_isOff.1 2 := by unfold nPar; decide +kernel
theorem np_X1_turnsHour : nPar mi_X1_turnsHour.1 1 := by unfold nPar; decide +kernel
theorem np_X1_riskOf : nPar mi_X1_riskOf.1 5 := by unfold nPar; decide +kernel
theorem np_X1_tollOf : nPar mi_X1_tollOf.1 1 := by unfold nPar; decide +kernel
theorem np_X1_tollAt : nPar mi_X1_tollAt.1 4 := by unfold nPar; decide +kernel
theorem np_X2_init : nPar mi_X2_init.1 0 := by unfold nPar; decide +kernel
theorem np_X2_copyFrom : nPar mi_X2_copyFrom.1 1 := by unfold nPar; decide +kernel
theorem np_X2_rowOf : nPar mi_X2_rowOf.1 1 := by unfold nPar; decide +kernel
theorem np_X2_textOf : nPar mi_X2_textOf.1 1 := by unfold nPar; decide +kernel
theorem np_X2_isInLine : nPar mi_X2_isInLine.1 1 := by unfold nPar; decide +kernel
theorem np_X2_ropeOf : nPar mi_X2_ropeOf.1 1 := by unfold nPar; decide +kernel
theorem np_X2_placeOf : nPar mi_X2_placeOf.1 1 := by unfold nPar; decide +kernel
theorem np_X2_aheadOf : nPar mi_X2_aheadOf.1 1 := by unfold nPar; decide +kernel
theorem np_X2_slowestPace : nPar mi_X2_slowestPace.1 1 := by unfold nPar; decide +kernel
theorem np_X2_pullOf : nPar mi_X2_pullOf.1 2 := by unfold nPar; decide +kernel
theorem np_X2_gripAt : nPar mi_X2_gripAt.1 3 := by unfold nPar; decide +kernel
theorem np_X2_holdAt : nPar mi_X2_holdAt.1 2 := by unfold nPar; decide +kernel
theorem np_X2_isHeld : nPar mi_X2_isHeld.1 3 := by unfold nPar; decide +kernel
theorem np_X2_lostWithOne : nPar mi_X2_lostWithOne.1 1 := by unfold nPar; decide +kernel
theorem np_X2_draw : nPar mi_X2_draw.1 0 := by unfold nPar; decide +kernel
theorem np_X3_init : nPar mi_X3_init.1 3 := by unfold nPar; decide +kernel
theorem np_X3_size : nPar mi_X3_size.1 0 := by unfold nPar; decide +kernel
theorem np_X3_has : nPar mi_X3_has.1 1 := by unfold nPar; decide +kernel
theorem np_X3_isFull : nPar mi_X3_isFull.1 0 := by unfold nPar; decide +kernel
theorem np_X3_fitsColumn : nPar mi_X3_fitsColumn.1 2 := by unfold nPar; decide +kernel
theorem np_X3_fits : nPar mi_X3_fits.1 4 := by unfold nPar; decide +kernel
theorem np_X3_add : nPar mi_X3_add.1 4 := by unfold nPar; decide +kernel
theorem np_X3_get : nPar mi_X3_get.1 2 := by unfold nPar; decide +kernel
theorem np_X3_change : nPar mi_X3_change.1 3 := by unfold nPar; decide +kernel
theorem np_X3_copyFrom : nPar mi_X3_copyFrom.1 1 := by unfold nPar; decide +kernel
theorem np_X4_init : nPar mi_X4_init.1 0 := by unfold nPar; decide +kernel
theorem np_X4_read : nPar mi_X4_read.1 2 := by unfold nPar; decide +kernel
theorem np_X4_levelOf : nPar mi_X4_levelOf.1 1 := by unfold nPar; decide +kernel
theorem np_X4_readLevel : nPar mi_X4_readLevel.1 2 := by unfold nPar; decide +kernel
theorem np_X4_readFactor : nPar mi_X4_readFactor.1 1 := by unfold nPar; decide +kernel
theorem np_X4_readOpened : nPar mi_X4_readOpened.1 2 := by unfold nPar; decide +kernel
theorem np_X4_readNumber : nPar mi_X4_readNumber.1 0 := by unfold nPar; decide +kernel
theorem np_X4_isDigit : nPar mi_X4_isDigit.1 1 := by unfold nPar; decide +kernel
theorem np_X5_init : nPar mi_X5_init.1 0 := by unfold nPar; decide +kernel
theorem np_X5_name : nPar mi_X5_name.1 5 := by unfold nPar; decide +kernel
theorem np_X5_give : nPar mi_X5_give.1 2 := by unfold nPar; decide +kernel
theorem np_X5_valueOf : nPar mi_X5_valueOf.1 1 := by unfold nPar; decide +kernel
theorem np_X5_applied : nPar mi_X5_applied.1 3 := by unfold nPar; decide +kernel
theorem np_X6_init : nPar mi_X6_init.1 1 := by unfold nPar; decide +kernel
theorem np_X6_size : nPar mi_X6_size.1 0 := by unfold nPar; decide +kernel
theorem np_X6_isFull : nPar mi_X6_isFull.1 0 := by unfold nPar; decide +kernel
theorem np_X6_at : nPar mi_X6_at.1 1 := by unfold nPar; decide +kernel
theorem np_X6_add : nPar mi_X6_add.1 1 := by unfold nPar; decide +kernel
theorem np_X6_change : nPar mi_X6_change.1 2 := by unfold nPar; decide +kernel
theorem np_X6_empty : nPar mi_X6_empty.1 0 := by unfold nPar; decide +kernel
theorem np_X6_placeOf : nPar mi_X6_placeOf.1 1 := by unfold nPar; decide +kernel
theorem np_X6_removeAt : nPar mi_X6_removeAt.1 1 := by unfold nPar; decide +kernel
theorem np_X6_exchange : nPar mi_X6_exchange.1 2 := by unfold nPar; decide +kernel
theorem np_X6_copyFrom : nPar mi_X6_copyFrom.1 1 := by unfold nPar; decide +kernel
theorem np_X6_bits : nPar mi_X6_bits.1 0 := by unfold nPar; decide +kernel
theorem np_X6_becomeBits : nPar mi_X6_becomeBits.1 1 := by unfold nPar; decide +kernel
theorem np_X6_sort : nPar mi_X6_sort.1 0 := by unfold nPar; decide +kernel
theorem np_X6_next : nPar mi_X6_next.1 0 := by unfold nPar; decide +kernel
theorem np_X7_init : nPar mi_X7_init.1 0 := by unfold nPar; decide +kernel
theorem np_X7_isMissing : nPar mi_X7_isMissing.1 0 := by unfold nPar; decide +kernel
theorem np_X7_size : nPar mi_X7_size.1 0 := by unfold nPar; decide +kernel
theorem np_X7_become : nPar mi_X7_become.1 2 := by unfold nPar; decide +kernel
theorem np_X7_stands : nPar mi_X7_stands.1 2 := by unfold nPar; decide +kernel
theorem np_X7_at : nPar mi_X7_at.1 1 := by unfold nPar; decide +kernel
theorem np_X7_write : nPar mi_X7_write.1 2 := by unfold nPar; decide +kernel
theorem np_X7_copyFrom : nPar mi_X7_copyFrom.1 4 := by unfold nPar; decide +kernel
theorem np_X8_init : nPar mi_X8_init.1 0 := by unfold nPar; decide +kernel
theorem np_X8_speak : nPar mi_X8_speak.1 4 := by unfold nPar; decide +kernel
theorem np_X8_bearerOf : nPar mi_X8_bearerOf.1 2 := by unfold nPar; decide +kernel
theorem np_X8_bodyOf : nPar mi_X8_bodyOf.1 2 := by unfold nPar; decide +kernel
theorem np_X8_say : nPar mi_X8_say.1 4 := by unfold nPar; decide +kernel
theorem np_X9_init : nPar mi_X9_init.1 0 := by unfold nPar; decide +kernel
theorem np_X9_person : nPar mi_X9_person.1 4 := by unfold nPar; decide +kernel
theorem np_X9_ofPerson : nPar mi_X9_ofPerson.1 2 := by unfold nPar; decide +kernel
theorem np_X9_people : nPar mi_X9_people.1 1 := by unfold nPar; decide +kernel
theorem np_X9_piece : nPar mi_X9_piece.1 4 := by unfold nPar; decide +kernel
theorem np_X9_ofPiece : nPar mi_X9_ofPiece.1 2 := by unfold nPar; decide +kernel
theorem np_X9_start : nPar mi_X9_start.1 1 := by unfold nPar; decide +kernel
theorem np_X9_rope : nPar mi_X9_rope.1 3 := by unfold nPar; decide +kernel
theorem np_X9_tie : nPar mi_X9_tie.1 2 := by unfold nPar; decide +kernel
theorem np_X9_untie : nPar mi_X9_untie.1 1 := by unfold nPar; decide +kernel
theorem np_X9_ofRope : nPar mi_X9_ofRope.1 2 := by unfold nPar; decide +kernel
theorem np_X9_as : nPar mi_X9_as.1 2 := by unfold nPar; decide +kernel
theorem np_X9_set : nPar mi_X9_set.1 3 := by unfold nPar; decide +kernel
theorem np_X9_swap : nPar mi_X9_swap.1 2 := by unfold nPar; decide +kernel
theorem np_X9_hold : nPar mi_X9_hold.1 1 := by unfold nPar; decide +kernel
theorem np_X9_held : nPar mi_X9_held.1 2 := by unfold nPar; decide +kernel
theorem np_X9_cost : nPar mi_X9_cost.1 2 := by unfold nPar; decide +kernel
theorem np_X9_haul : nPar mi_X9_haul.1 2 := by unfold nPar; decide +kernel
theorem np_X9_feed : nPar mi_X9_feed.1 2 := by unfold nPar; decide +kernel
theorem np_X9_text : nPar mi_X9_text.1 1 := by unfold nPar; decide +kernel
theorem np_X9_law : nPar mi_X9_law.1 5 := by unfold nPar; decide +kernel
theorem np_X9_join : nPar mi_X9_join.1 1 := by unfold nPar; decide +kernel
theorem np_X9_clear : nPar mi_X9_clear.1 0 := by unfold nPar; decide +kernel
theorem np_X9_when : nPar mi_X9_when.1 3 := by unfold nPar; decide +kernel
theorem np_X9_risk : nPar mi_X9_risk.1 2 := by unfold nPar; decide +kernel
theorem np_X9_over : nPar mi_X9_over.1 0 := by unfold nPar; decide +kernel
theorem np_X9_toll : nPar mi_X9_toll.1 0 := by unfold nPar; decide +kernel
theorem np_X9_order : nPar mi_X9_order.1 2 := by unfold nPar; decide +kernel
theorem np_X9_space : nPar mi_X9_space.1 1 := by unfold nPar; decide +kernel
theorem np_X9_line : nPar mi_X9_line.1 1 := by unfold nPar; decide +kernel
theorem np_X9_parts : nPar mi_X9_parts.1 2 := by unfold nPar; decide +kernel
theorem np_X9_latest : nPar mi_X9_latest.1 1 := by unfold nPar; decide +kernel
theorem np_X9_best : nPar mi_X9_best.1 2 := by unfold nPar; decide +kernel
theorem np_X9_left : nPar mi_X9_left.1 0 := by unfold nPar; decide +kernel
theorem np_X9_lead : nPar mi_X9_lead.1 1 := by unfold nPar; decide +kernel
theorem np_X9_take : nPar mi_X9_take.1 2 := by unfold nPar; decide +kernel
theorem np_X9_morning : nPar mi_X9_morning.1 0 := by unfold nPar; decide +kernel
theorem np_X9_mornings : nPar mi_X9_mornings.1 2 := by unfold nPar; decide +kernel
theorem np_X9_seed : nPar mi_X9_seed.1 1 := by unfold nPar; decide +kernel
theorem np_X9_voice : nPar mi_X9_voice.1 3 := by unfold nPar; decide +kernel
theorem np_X9_trace : nPar mi_X9_trace.1 1 := by unfold nPar; decide +kernel
theorem np_X9_sheet : nPar mi_X9_sheet.1 3 := by unfold nPar; decide +kernel
theorem np_X9_put : nPar mi_X9_put.1 3 := by unfold nPar; decide +kernel
theorem np_X9_move : nPar mi_X9_move.1 5 := by unfold nPar; decide +kernel
theorem np_X9_image : nPar mi_X9_image.1 0 := by unfold nPar; decide +kernel
theorem np_X9_restore : nPar mi_X9_restore.1 0 := by unfold nPar; decide +kernel
theorem np_X9_tell : nPar mi_X9_tell.1 1 := by unfold nPar; decide +kernel
theorem np_X9_check : nPar mi_X9_check.1 0 := by unfold nPar; decide +kernel
theorem np_X9_count : nPar mi_X9_count.1 1 := by unfold nPar; decide +kernel
theorem np_X9_told : nPar mi_X9_told.1 1 := by unfold nPar; decide +kernel
theorem np_X9_fail : nPar mi_X9_fail.1 1 := by unfold nPar; decide +kernel
theorem np_X9_newFour : nPar mi_X9_newFour.1 5 := by unfold nPar; decide +kernel
theorem np_X9_errorOnRope : nPar mi_X9_errorOnRope.1 2 := by unfold nPar; decide +kernel
theorem np_X9_sheetOf : nPar mi_X9_sheetOf.1 1 := by unfold nPar; decide +kernel
theorem np_X9_isMinute : nPar mi_X9_isMinute.1 1 := by unfold nPar; decide +kernel
theorem np_X9_isUse : nPar mi_X9_isUse.1 1 := by unfold nPar; decide +kernel
theorem np_X9_isUnder : nPar mi_X9_isUnder.1 2 := by unfold nPar; decide +kernel
theorem np_X9_placeOfWrong : nPar mi_X9_placeOfWrong.1 0 := by unfold nPar; decide +kernel
theorem np_X9_runMorning : nPar mi_X9_runMorning.1 0 := by unfold nPar; decide +kernel
theorem np_X9_lostOn : nPar mi_X9_lostOn.1 2 := by unfold nPar; decide +kernel
theorem np_X10_init : nPar mi_X10_init.1 0 := by unfold nPar; decide +kernel
theorem np_X10_finding : nPar mi_X10_finding.1 1 := by unfold nPar; decide +kernel
theorem np_X10_within : nPar mi_X10_within.1 3 := by unfold nPar; decide +kernel
theorem np_X10_is : nPar mi_X10_is.1 2 := by unfold nPar; decide +kernel
theorem np_X10_has : nPar mi_X10_has.1 2 := by unfold nPar; decide +kernel
theorem np_X10_copy : nPar mi_X10_copy.1 2 := by unfold nPar; decide +kernel
theorem np_X10_become : nPar mi_X10_become.1 2 := by unfold nPar; decide +kernel
theorem np_X10_back : nPar mi_X10_back.1 1 := by unfold nPar; decide +kernel
theorem np_X10_of : nPar mi_X10_of.1 2 := by unfold nPar; decide +kernel
theorem np_X10_isAsTold : nPar mi_X10_isAsTold.1 4 := by unfold nPar; decide +kernel
theorem np_X10_comes : nPar mi_X10_comes.1 4 := by unfold nPar; decide +kernel
theorem np_X10_person : nPar mi_X10_person.1 4 := by unfold nPar; decide +kernel
theorem np_X10_ofPerson : nPar mi_X10_ofPerson.1 2 := by unfold nPar; decide +kernel
theorem np_X10_people : nPar mi_X10_people.1 1 := by unfold nPar; decide +kernel
theorem np_X10_ofPieceAt : nPar mi_X10_ofPieceAt.1 2 := by unfold nPar; decide +kernel
theorem np_X10_piece : nPar mi_X10_piece.1 4 := by unfold nPar; decide +kernel
theorem np_X10_ofPiece : nPar mi_X10_ofPiece.1 2 := by unfold nPar; decide +kernel
theorem np_X10_start : nPar mi_X10_start.1 1 := by unfold nPar; decide +kernel
theorem np_X10_rope : nPar mi_X10_rope.1 2 := by unfold nPar; decide +kernel
theorem np_X10_many : nPar mi_X10_many.1 1 := by unfold nPar; decide +kernel
theorem np_X10_who : nPar mi_X10_who.1 2 := by unfold nPar; decide +kernel
theorem np_X10_seats : nPar mi_X10_seats.1 3 := by unfold nPar; decide +kernel
theorem np_X10_ropeOf : nPar mi_X10_ropeOf.1 1 := by unfold nPar; decide +kernel
theorem np_X10_placeOf : nPar mi_X10_placeOf.1 1 := by unfold nPar; decide +kernel
theorem np_X10_inLine : nPar mi_X10_inLine.1 1 := by unfold nPar; decide +kernel
theorem np_X10_isSpace : nPar mi_X10_isSpace.1 1 := by unfold nPar; decide +kernel
theorem np_X10_rope_ : nPar mi_X10_rope_.1 3 := by unfold nPar; decide +kernel
theorem np_X10_ties : nPar mi_X10_ties.1 3 := by unfold nPar; decide +kernel
theorem np_X10_unties : nPar mi_X10_unties.1 1 := by unfold nPar; decide +kernel
theorem np_X10_tie : nPar mi_X10_tie.1 2 := by unfold nPar; decide +kernel
theorem np_X10_untie : nPar mi_X10_untie.1 1 := by unfold nPar; decide +kernel
theorem np_X10_ofRope : nPar mi_X10_ofRope.1 2 := by unfold nPar; decide +kernel
theorem np_X10_above : nPar mi_X10_above.1 1 := by unfold nPar; decide +kernel
theorem np_X10_as : nPar mi_X10_as.1 2 := by unfold nPar; decide +kernel
theorem np_X10_set : nPar mi_X10_set.1 3 := by unfold nPar; decide +kernel
theorem np_X10_swap : nPar mi_X10_swap.1 2 := by unfold nPar; decide +kernel
theorem np_X10_place : nPar mi_X10_place.1 2 := by unfold nPar; decide +kernel
theorem np_X10_gripOf : nPar mi_X10_gripOf.1 3 := by unfold nPar; decide +kernel
theorem np_X10_isLast : nPar mi_X10_isLast.1 2 := by unfold nPar; decide +kernel
theorem np_X10_holdOf : nPar mi_X10_holdOf.1 2 := by unfold nPar; decide +kernel
theorem np_X10_isHeld : nPar mi_X10_isHeld.1 3 := by unfold nPar; decide +kernel
theorem np_X10_costOf : nPar mi_X10_costOf.1 3 := by unfold nPar; decide +kernel
theorem np_X10_hold : nPar mi_X10_hold.1 1 := by unfold nPar; decide +kernel
theorem np_X10_held : nPar mi_X10_held.1 2 := by unfold nPar; decide +kernel
theorem np_X10_cost : nPar mi_X10_cost.1 2 := by unfold nPar; decide +kernel
theorem np_X10_haul : nPar mi_X10_haul.1 2 := by unfold nPar; decide +kernel
theorem np_X10_feed : nPar mi_X10_feed.1 2 := by unfold nPar; decide +kernel
theorem np_X10_here : nPar mi_X10_here.1 0 := by unfold nPar; decide +kernel
theorem np_X10_takes : nPar mi_X10_takes.1 1 := by unfold nPar; decide +kernel
theorem np_X10_codes : nPar mi_X10_codes.1 1 := by unfold nPar; decide +kernel
theorem np_X10_either : nPar mi_X10_either.1 0 := by unfold nPar; decide +kernel
theorem np_X10_both : nPar mi_X10_both.1 0 := by unfold nPar; decide +kernel
theorem np_X10_compared : nPar mi_X10_compared.1 0 := by unfold nPar; decide +kernel
theorem np_X10_sum : nPar mi_X10_sum.1 0 := by unfold nPar; decide +kernel
theorem np_X10_product : nPar mi_X10_product.1 0 := by unfold nPar; decide +kernel
theorem np_X10_nameOf : nPar mi_X10_nameOf.1 1 := by unfold nPar; decide +kernel
theorem np_X10_one : nPar mi_X10_one.1 0 := by unfold nPar; decide +kernel
theorem np_X10_text : nPar mi_X10_text.1 1 := by unfold nPar; decide +kernel
theorem np_X10_done : nPar mi_X10_done.1 3 := by unfold nPar; decide +kernel
theorem np_X10_worked : nPar mi_X10_worked.1 1 := by unfold nPar; decide +kernel
theorem np_X10_given : nPar mi_X10_given.1 6 := by unfold nPar; decide +kernel
theorem np_X10_law : nPar mi_X10_law.1 5 := by unfold nPar; decide +kernel
theorem np_X10_paceOf : nPar mi_X10_paceOf.1 1 := by unfold nPar; decide +kernel
theorem np_X10_cross : nPar mi_X10_cross.1 0 := by unfold nPar; decide +kernel
theorem np_X10_riskOf : nPar mi_X10_riskOf.1 3 := by unfold nPar; decide +kernel
theorem np_X10_tollOf : nPar mi_X10_tollOf.1 0 := by unfold nPar; decide +kernel
theorem np_X10_join : nPar mi_X10_join.1 1 := by unfold nPar; decide +kernel
theorem np_X10_clear : nPar mi_X10_clear.1 0 := by unfold nPar; decide +kernel
theorem np_X10_when : nPar mi_X10_when.1 3 := by unfold nPar; decide +kernel
theorem np_X10_isInLine : nPar mi_X10_isInLine.1 1 := by unfold nPar; decide +kernel
theorem np_X10_risk : nPar mi_X10_risk.1 2 := by unfold nPar; decide +kernel
theorem np_X10_over : nPar mi_X10_over.1 0 := by unfold nPar; decide +kernel
theorem np_X10_toll : nPar mi_X10_toll.1 0 := by unfold nPar; decide +kernel
theorem np_X10_nexts : nPar mi_X10_nexts.1 2 := by unfold nPar; decide +kernel
theorem np_X10_swaps : nPar mi_X10_swaps.1 3 := by unfold nPar; decide +kernel
theorem np_X10_sorts : nPar mi_X10_sorts.1 2 := by unfold nPar; decide +kernel
theorem np_X10_findOrder : nPar mi_X10_findOrder.1 1 := by unfold nPar; decide +kernel
theorem np_X10_order : nPar mi_X10_order.1 2 := by unfold nPar; decide +kernel
theorem np_X10_spaceOf : nPar mi_X10_spaceOf.1 1 := by unfold nPar; decide +kernel
theorem np_X10_space : nPar mi_X10_space.1 1 := by unfold nPar; decide +kernel
theorem np_X10_findLine : nPar mi_X10_findLine.1 0 := by unfold nPar; decide +kernel
theorem np_X10_line : nPar mi_X10_line.1 1 := by unfold nPar; decide +kernel
theorem np_X10_parts : nPar mi_X10_parts.1 2 := by unfold nPar; decide +kernel
theorem np_X10_parted : nPar mi_X10_parted.1 2 := by unfold nPar; decide +kernel
theorem np_X10_latest : nPar mi_X10_latest.1 1 := by unfold nPar; decide +kernel
theorem np_X10_best : nPar mi_X10_best.1 2 := by unfold nPar; decide +kernel
theorem np_X10_left : nPar mi_X10_left.1 0 := by unfold nPar; decide +kernel
theorem np_X10_lead : nPar mi_X10_lead.1 1 := by unfold nPar; decide +kernel
theorem np_X10_take : nPar mi_X10_take.1 2 := by unfold nPar; decide +kernel
theorem np_X10_drawn : nPar mi_X10_drawn.1 1 := by unfold nPar; decide +kernel
theorem np_X10_lostBy : nPar mi_X10_lostBy.1 0 := by unfold nPar; decide +kernel
theorem np_X10_loses : nPar mi_X10_loses.1 2 := by unfold nPar; decide +kernel
theorem np_X10_morning : nPar mi_X10_morning.1 0 := by unfold nPar; decide +kernel
theorem np_X10_mornings : nPar mi_X10_mornings.1 2 := by unfold nPar; decide +kernel
theorem np_X10_seed : nPar mi_X10_seed.1 1 := by unfold nPar; decide +kernel
theorem np_X10_began : nPar mi_X10_began.1 1 := by unfold nPar; decide +kernel
theorem np_X10_hasOwn : nPar mi_X10_hasOwn.1 2 := by unfold nPar; decide +kernel
theorem np_X10_voiced : nPar mi_X10_voiced.1 2 := by unfold nPar; decide +kernel
theorem np_X10_bodyFrom : nPar mi_X10_bodyFrom.1 3 := by unfold nPar; decide +kernel
theorem np_X10_body : nPar mi_X10_body.1 3 := by unfold nPar; decide +kernel
theorem np_X10_voice : nPar mi_X10_voice.1 3 := by unfold nPar; decide +kernel
theorem np_X10_trace : nPar mi_X10_trace.1 1 := by unfold nPar; decide +kernel
theorem np_X10_isSheet : nPar mi_X10_isSheet.1 1 := by unfold nPar; decide +kernel
theorem np_X10_sheet : nPar mi_X10_sheet.1 3 := by unfold nPar; decide +kernel
theorem np_X10_put : nPar mi_X10_put.1 3 := by unfold nPar; decide +kernel
theorem np_X10_move : nPar mi_X10_move.1 5 := by unfold nPar; decide +kernel
theorem np_X10_image : nPar mi_X10_image.1 0 := by unfold nPar; decide +kernel
theorem np_X10_restore : nPar mi_X10_restore.1 0 := by unfold nPar; decide +kernel
theorem np_X10_tell : nPar mi_X10_tell.1 1 := by unfold nPar; decide +kernel
theorem np_X10_check : nPar mi_X10_check.1 0 := by unfold nPar; decide +kernel
theorem np_X10_count : nPar mi_X10_count.1 1 := by unfold nPar; decide +kernel
theorem np_X10_told : nPar mi_X10_told.1 1 := by unfold nPar; decide +kernel
theorem np_J6_bitCount_0f7a4 : nPar mi_J6_bitCount_0f7a4.1 1 := by unfold nPar; decide +kernel
theorem np_J0_length_8abf5 : nPar mi_J0_length_8abf5.1 0 := by unfold nPar; decide +kernel
theorem np_J0_charAt_5068e : nPar mi_J0_charAt_5068e.1 1 := by unfold nPar; decide +kernel
theorem np_J0_indexOf_0f7a4 : nPar mi_J0_indexOf_0f7a4.1 1 := by unfold nPar; decide +kernel
theorem np_J0_indexOf_7cf53 : nPar mi_J0_indexOf_7cf53.1 2 := by unfold nPar; decide +kernel
theorem np_J0_coder_7d493 : nPar mi_J0_coder_7d493.1 0 := by unfold nPar; decide +kernel
theorem np_J0_isLatin1_aae02 : nPar mi_J0_isLatin1_aae02.1 0 := by unfold nPar; decide +kernel
theorem np_J0_checkIndex_df160 : nPar mi_J0_checkIndex_df160.1 2 := by unfold nPar; decide +kernel
theorem np_J1_charAt_3b067 : nPar mi_J1_charAt_3b067.1 2 := by unfold nPar; decide +kernel
theorem np_J1_canEncode_9a6ad : nPar mi_J1_canEncode_9a6ad.1 1 := by unfold nPar; decide +kernel
theorem np_J1_indexOf_4cfef : nPar mi_J1_indexOf_4cfef.1 4 := by unfold nPar; decide +kernel
theorem np_J1_indexOfChar_4cfef : nPar mi_J1_indexOfChar_4cfef.1 4 := by unfold nPar; decide +kernel
theorem np_J7_fill_53178 : nPar mi_J7_fill_53178.1 2 := by unfold nPar; decide +kernel
theorem np_J3_checkIndex_8e157 : nPar mi_J3_checkIndex_8e157.1 3 := by unfold nPar; decide +kernel
