/-! the tables of an interpreter of the class's and the reference's methods (by program) -/
abbrev ir_MR : Type := MethodName × ByteArray × Nat × Option FieldType × Nat × Nat
def ir_ml0 : List ir_MR := [
  (yX0_reset, cX0_reset, 1, none, 0, 0),
  (yX0_size, cX0_size, 1, (some .int), 0, 0),
  (yX0_has, cX0_has, 2, (some .boolean), 0, 1),
  (yX0_allBits, cX0_allBits, 1, (some .int), 0, 0),
  (yX0_add, cX0_add, 7, (some .int), 0, 5),
  (yX0_get, cX0_get, 4, (some .int), 0, 2),
  (yX1_start, cX1_start, 3, none, 1, 2),
  (yX1_stop, cX1_stop, 1, none, 1, 0),
  (yX1_isGoing, cX1_isGoing, 1, (some .boolean), 1, 0),
  (yX1_itsCause, cX1_itsCause, 1, (some .int), 1, 0),
  (yX1_mendedFaults, cX1_mendedFaults, 1, (some .int), 1, 0),
  (yX1_isMended, cX1_isMended, 2, (some .boolean), 1, 1)]
def ir_ml1 : List ir_MR := [
  (yX1_possible, cX1_possible, 1, (some .int), 1, 0),
  (yX1_minutesSpent, cX1_minutesSpent, 1, (some .int), 1, 0),
  (yX1_looksUsed, cX1_looksUsed, 1, (some .int), 1, 0),
  (yX1_looksThatTold, cX1_looksThatTold, 1, (some .int), 1, 0),
  (yX1_wrongClaims, cX1_wrongClaims, 1, (some .int), 1, 0),
  (yX1_noteLook, cX1_noteLook, 4, none, 1, 2),
  (yX1_noteMend, cX1_noteMend, 2, none, 1, 1),
  (yX1_noteWrongClaim, cX1_noteWrongClaim, 1, none, 1, 0),
  (yX2_reset, cX2_reset, 1, none, 2, 0),
  (yX2_nodeCount, cX2_nodeCount, 1, (some .int), 2, 0),
  (yX2_lineCount, cX2_lineCount, 1, (some .int), 2, 0),
  (yX2_isNode, cX2_isNode, 2, (some .boolean), 2, 1)]
def ir_ml2 : List ir_MR := [
  (yX2_isHost, cX2_isHost, 2, (some .boolean), 2, 1),
  (yX2_isWall, cX2_isWall, 2, (some .boolean), 2, 1),
  (yX2_isGate, cX2_isGate, 2, (some .boolean), 2, 1),
  (yX2_isLine, cX2_isLine, 2, (some .boolean), 2, 1),
  (yX2_addNode, cX2_addNode, 2, (some .int), 2, 1),
  (yX2_addLine, cX2_addLine, 5, (some .int), 2, 2),
  (yX2_findNearestFor, cX2_findNearestFor, 8, none, 2, 1),
  (yX2_nearestOf, cX2_nearestOf, 4, (some .int), 2, 2),
  (yX2_lineBetween, cX2_lineBetween, 5, (some .int), 2, 2),
  (yX3_nextOf, cX3_nextOf, 4, (some .int), 3, 3),
  (yX3_carry, cX3_carry, 8, (some .boolean), 3, 4),
  (yX3_comeBoth, cX3_comeBoth, 5, (some .boolean), 3, 4)]
def ir_ml3 : List ir_MR := [
  (yX3_pathLength, cX3_pathLength, 1, (some .int), 3, 0),
  (yX3_pathNode, cX3_pathNode, 2, (some .int), 3, 1),
  (yX4_reset, cX4_reset, 1, none, 4, 0),
  (yX4_size, cX4_size, 1, (some .int), 4, 0),
  (yX4_add, cX4_add, 2, none, 4, 1),
  (yX4_get, cX4_get, 2, (some .int), 4, 1),
  (yX5_reset, cX5_reset, 1, none, 5, 0),
  (yX5_copy, cX5_copy, 2, none, 5, 1),
  (yX5_suffer, cX5_suffer, 5, none, 5, 4),
  (yX5_setRoute, cX5_setRoute, 5, none, 5, 3),
  (yX5_setDenied, cX5_setDenied, 7, none, 5, 4),
  (yX5_setOn, cX5_setOn, 5, none, 5, 3)]
def ir_ml4 : List ir_MR := [
  (yX5_setName, cX5_setName, 3, none, 5, 2),
  (yX5_setNamer, cX5_setNamer, 2, none, 5, 1),
  (yX5_nextOr, cX5_nextOr, 6, (some .int), 5, 3),
  (yX5_denies, cX5_denies, 5, (some .boolean), 5, 3),
  (yX5_isOn, cX5_isOn, 3, (some .boolean), 5, 2),
  (yX5_hostOf, cX5_hostOf, 2, (some .int), 5, 1),
  (yX5_itsNamer, cX5_itsNamer, 1, (some .int), 5, 0),
  (yX5_isCut, cX5_isCut, 2, (some .boolean), 5, 1),
  (yX5_isAstray, cX5_isAstray, 2, (some .boolean), 5, 1),
  (yX6_forget, cX6_forget, 1, none, 6, 0),
  (yX6_isReady, cX6_isReady, 1, (some .boolean), 6, 0),
  (yX6_start, cX6_start, 4, none, 6, 2)]
def ir_ml5 : List ir_MR := [
  (yX6_put, cX6_put, 5, none, 6, 3),
  (yX6_finish, cX6_finish, 7, none, 6, 2),
  (yX6_alikeTo, cX6_alikeTo, 4, (some .int), 6, 2),
  (yX6_looksThatPart, cX6_looksThatPart, 5, (some .int), 6, 2),
  (yX6_groupsOf, cX6_groupsOf, 6, (some .int), 6, 2),
  (yX6_leastCost, cX6_leastCost, 2, (some .int), 6, 1),
  (yX6_worstOf, cX6_worstOf, 6, (some .int), 6, 2),
  (yX6_costWith, cX6_costWith, 8, (some .int), 6, 3),
  (yX6_firstOfBestWay, cX6_firstOfBestWay, 4, (some .int), 6, 1),
  (yX6_mostTelling, cX6_mostTelling, 8, (some .int), 6, 1),
  (yX6_greatestPart, cX6_greatestPart, 5, (some .int), 6, 2),
  (yX7_tell, cX7_tell, 6, (some .int), 7, 2)]
def ir_ml6 : List ir_MR := [
  (yX7_tellTrace, cX7_tellTrace, 6, (some .int), 7, 3),
  (yX7_tellCall, cX7_tellCall, 7, (some .int), 7, 4),
  (yX8_node, cX8_node, 2, (some .int), 8, 1),
  (yX8_line, cX8_line, 3, (some .int), 8, 2),
  (yX8_route, cX8_route, 5, (some .boolean), 8, 3),
  (yX8_deny, cX8_deny, 5, (some .boolean), 8, 4),
  (yX8_on, cX8_on, 4, (some .boolean), 8, 3),
  (yX8_name, cX8_name, 3, (some .boolean), 8, 2),
  (yX8_namer, cX8_namer, 2, (some .boolean), 8, 1),
  (yX8_clear, cX8_clear, 2, (some .int), 8, 0),
  (yX8_count, cX8_count, 2, (some .int), 8, 1),
  (yX8_next, cX8_next, 4, (some .int), 8, 3)]
def ir_ml7 : List ir_MR := [
  (yX8_fault, cX8_fault, 5, (some .int), 8, 4),
  (yX8_cause, cX8_cause, 4, (some .int), 8, 2),
  (yX8_look, cX8_look, 7, (some .int), 8, 5),
  (yX8_answer, cX8_answer, 3, (some .int), 8, 2),
  (yX8_goes, cX8_goes, 6, (some .int), 8, 4),
  (yX8_unlike, cX8_unlike, 3, (some .int), 8, 2),
  (yX8_fair, cX8_fair, 3, (some .int), 8, 0),
  (yX8_groups, cX8_groups, 2, (some .int), 8, 1),
  (yX8_worst, cX8_worst, 2, (some .int), 8, 1),
  (yX8_tells, cX8_tells, 2, (some .int), 8, 1),
  (yX8_first, cX8_first, 2, (some .int), 8, 1),
  (yX8_begin, cX8_begin, 2, (some .boolean), 8, 1)]
def ir_ml8 : List ir_MR := [
  (yX8_use, cX8_use, 2, (some .int), 8, 1),
  (yX8_left, cX8_left, 1, (some .int), 8, 0),
  (yX8_mend, cX8_mend, 2, (some .int), 8, 1),
  (yX8_well, cX8_well, 2, (some .int), 8, 0),
  (yX8_claim, cX8_claim, 3, (some .int), 8, 1),
  (yX8_mark, cX8_mark, 2, (some .int), 8, 1),
  (yX8_row, cX8_row, 2, (some .int), 8, 1),
  (yX8_isService, cX8_isService, 1, (some .boolean), 8, 1),
  (yX8_isName, cX8_isName, 1, (some .boolean), 8, 1),
  (yX8_isTwoHosts, cX8_isTwoHosts, 3, (some .boolean), 8, 2),
  (yX8_isCauseOrNone, cX8_isCauseOrNone, 2, (some .boolean), 8, 1),
  (yX8_isSetOfCauses, cX8_isSetOfCauses, 2, (some .boolean), 8, 1)]
def ir_ml9 : List ir_MR := [
  (yX8_isFaultOfKind, cX8_isFaultOfKind, 5, (some .boolean), 8, 4),
  (yX8_isLookOfKind, cX8_isLookOfKind, 5, (some .boolean), 8, 4),
  (yX8_kept, cX8_kept, 2, (some .int), 8, 1),
  (yX8_changed, cX8_changed, 1, none, 8, 0),
  (yX8_breakBy, cX8_breakBy, 3, none, 8, 2),
  (yX8_breakWith, cX8_breakWith, 3, none, 8, 2),
  (yX8_unmended, cX8_unmended, 2, (some .int), 8, 1),
  (yX8_prepare, cX8_prepare, 3, none, 8, 0),
  (yX8_isBit, cX8_isBit, 2, (some .boolean), 8, 2),
  (yX8_lowestBit, cX8_lowestBit, 1, (some .int), 8, 1),
  (yX9_thrown, cX9_thrown, 1, (some .int), 9, 0),
  (yX9_in, cX9_in, 6, (some .boolean), 9, 3)]
def ir_ml10 : List ir_MR := [
  (yX9_refuse, cX9_refuse, 1, (some .int), 9, 0),
  (yX9_empties, cX9_empties, 2, none, 9, 0),
  (yX9_isNode, cX9_isNode, 2, (some .boolean), 9, 1),
  (yX9_isHost, cX9_isHost, 2, (some .boolean), 9, 1),
  (yX9_isRouter, cX9_isRouter, 2, (some .boolean), 9, 1),
  (yX9_isWall, cX9_isWall, 2, (some .boolean), 9, 1),
  (yX9_isService, cX9_isService, 1, (some .boolean), 9, 1),
  (yX9_isName, cX9_isName, 1, (some .boolean), 9, 1),
  (yX9_lineOf, cX9_lineOf, 4, (some .int), 9, 2),
  (yX9_told, cX9_told, 1, none, 9, 0),
  (yX9_node, cX9_node, 2, (some .int), 9, 1),
  (yX9_line, cX9_line, 3, (some .int), 9, 2)]
def ir_ml11 : List ir_MR := [
  (yX9_route, cX9_route, 4, (some .boolean), 9, 3),
  (yX9_deny, cX9_deny, 6, (some .boolean), 9, 4),
  (yX9_on, cX9_on, 4, (some .boolean), 9, 3),
  (yX9_name, cX9_name, 3, (some .boolean), 9, 2),
  (yX9_namer, cX9_namer, 2, (some .boolean), 9, 1),
  (yX9_clear, cX9_clear, 2, (some .int), 9, 0),
  (yX9_count, cX9_count, 2, (some .int), 9, 1),
  (yX9_measures, cX9_measures, 4, none, 9, 1),
  (yX9_eases, cX9_eases, 3, none, 9, 2),
  (yX9_nearest, cX9_nearest, 5, (some .int), 9, 2),
  (yX9_next, cX9_next, 4, (some .int), 9, 3),
  (yX9_fault, cX9_fault, 6, (some .int), 9, 4)]
def ir_ml12 : List ir_MR := [
  (yX9_isFault, cX9_isFault, 2, (some .boolean), 9, 1),
  (yX9_isCause, cX9_isCause, 2, (some .boolean), 9, 1),
  (yX9_cause, cX9_cause, 3, (some .int), 9, 2),
  (yX9_breaks, cX9_breaks, 5, none, 9, 2),
  (yX9_held, cX9_held, 8, (some .int), 9, 4),
  (yX9_nextOf, cX9_nextOf, 5, (some .int), 9, 2),
  (yX9_isDenied, cX9_isDenied, 7, (some .boolean), 9, 3),
  (yX9_isOn, cX9_isOn, 3, (some .boolean), 9, 2),
  (yX9_comes, cX9_comes, 8, (some .boolean), 9, 3),
  (yX9_answers, cX9_answers, 4, (some .boolean), 9, 3),
  (yX9_goes, cX9_goes, 7, (some .int), 9, 4),
  (yX9_look, cX9_look, 7, (some .int), 9, 5)]
def ir_ml13 : List ir_MR := [
  (yX9_isLook, cX9_isLook, 2, (some .boolean), 9, 1),
  (yX9_call, cX9_call, 6, (some .int), 9, 3),
  (yX9_sees, cX9_sees, 5, (some .int), 9, 1),
  (yX9_answer, cX9_answer, 3, (some .int), 9, 2),
  (yX9_asks, cX9_asks, 3, none, 9, 0),
  (yX9_alike, cX9_alike, 6, (some .int), 9, 3),
  (yX9_parts, cX9_parts, 3, (some .boolean), 9, 2),
  (yX9_unlike, cX9_unlike, 5, (some .int), 9, 2),
  (yX9_fair, cX9_fair, 3, (some .int), 9, 0),
  (yX9_groups, cX9_groups, 4, (some .int), 9, 1),
  (yX9_greatest, cX9_greatest, 6, (some .int), 9, 2),
  (yX9_worstOf, cX9_worstOf, 4, (some .int), 9, 1)]
def ir_ml14 : List ir_MR := [
  (yX9_isSet, cX9_isSet, 2, (some .boolean), 9, 1),
  (yX9_fresh, cX9_fresh, 2, none, 9, 0),
  (yX9_worst, cX9_worst, 2, (some .int), 9, 1),
  (yX9_largest, cX9_largest, 6, (some .int), 9, 2),
  (yX9_tells, cX9_tells, 5, (some .int), 9, 1),
  (yX9_first, cX9_first, 4, (some .int), 9, 1),
  (yX9_begin, cX9_begin, 2, (some .boolean), 9, 1),
  (yX9_use, cX9_use, 3, (some .int), 9, 1),
  (yX9_left, cX9_left, 1, (some .int), 9, 0),
  (yX9_mend, cX9_mend, 2, (some .int), 9, 1),
  (yX9_well, cX9_well, 4, (some .int), 9, 0),
  (yX9_claim, cX9_claim, 3, (some .int), 9, 1)]
def ir_ml15 : List ir_MR := [
  (yX9_mark, cX9_mark, 2, (some .int), 9, 1),
  (yX9_row, cX9_row, 2, (some .int), 9, 1),
  (yJ6_numberOfTrailingZeros_0f7a4, cJ6_numberOfTrailingZeros_0f7a4, 2, (some .int), 10, 1),
  (yJ6_bitCount_0f7a4, cJ6_bitCount_0f7a4, 1, (some .int), 10, 1),
  (yJ7_fill_53178, cJ7_fill_53178, 4, none, 12, 2)]
def ir_ml : List ir_MR := ir_ml0 ++ (ir_ml1 ++ (ir_ml2 ++ (ir_ml3 ++ (ir_ml4 ++ (ir_ml5 ++ (ir_ml6 ++ (ir_ml7 ++ (ir_ml8 ++ (ir_ml9 ++ (ir_ml10 ++ (ir_ml11 ++ (ir_ml12 ++ (ir_ml13 ++ (ir_ml14 ++ (ir_ml15)))))))))))))))
def ir_cls : List vw_C := vwCl
def ir_Rl : List String := [RX0, RX1, RX2, RX3, RX4, RX5, RX6, RX7, RX8, RX9, RJ6, RJ9, RJ7]
def ir_cl0_0 : List (Nat × Nat × Nat) := []
def ir_cl1_0 : List (Nat × Nat × Nat) := [(37, 2, 116)]
def ir_cl2_0 : List (Nat × Nat × Nat) := [(24, 0, 20), (37, 1, 184), (43, 0, 23), (47, 2, 116), (51, 0, 30), (55, 2, 117)]
def ir_cl3_0 : List (Nat × Nat × Nat) := [(19, 0, 31), (25, 0, 50), (35, 0, 24), (39, 0, 51), (43, 0, 32), (46, 0, 55), (49, 0, 56), (52, 0, 34)]
def ir_cl4_0 : List (Nat × Nat × Nat) := []
def ir_cl5_0 : List (Nat × Nat × Nat) := [(24, 0, 42), (27, 1, 184), (49, 0, 48), (53, 0, 46), (57, 0, 45), (61, 0, 47)]
def ir_cl6_0 : List (Nat × Nat × Nat) := [(28, 4, 0), (41, 0, 62), (44, 2, 116), (48, 2, 117), (52, 0, 66), (55, 0, 67), (59, 3, 0), (62, 0, 70), (65, 1, 183)]
def ir_cl7_0 : List (Nat × Nat × Nat) := [(23, 0, 5), (29, 0, 35), (35, 0, 72), (52, 0, 34), (55, 0, 36), (39, 0, 73), (59, 0, 54), (62, 0, 52), (66, 0, 53), (43, 0, 33)]
def ir_cl7_1 : List (Nat × Nat × Nat) := [(46, 0, 55)]
def ir_cl8_0 : List (Nat × Nat × Nat) := [(78, 0, 28), (82, 0, 110), (103, 0, 111), (290, 0, 57), (293, 0, 7), (85, 0, 29), (278, 1, 183), (89, 0, 26), (93, 0, 24), (96, 0, 23)]
def ir_cl8_1 : List (Nat × Nat × Nat) := [(99, 0, 45), (106, 0, 25), (109, 1, 103), (112, 0, 46), (116, 0, 47), (120, 1, 104), (123, 0, 48), (127, 0, 49), (131, 0, 21), (135, 0, 20)]
def ir_cl8_2 : List (Nat × Nat × Nat) := [(138, 0, 42), (139, 0, 0), (140, 0, 38), (141, 0, 22), (144, 0, 1), (147, 0, 39), (148, 0, 8), (152, 0, 33), (156, 0, 31), (159, 0, 108)]
def ir_cl8_3 : List (Nat × Nat × Nat) := [(287, 0, 27), (163, 0, 4), (167, 0, 2), (170, 0, 109), (190, 0, 105), (173, 0, 106), (183, 0, 112), (296, 0, 43), (233, 0, 5), (300, 0, 113)]
def ir_cl8_4 : List (Nat × Nat × Nat) := [(303, 1, 116), (306, 0, 44), (194, 0, 34), (198, 0, 36), (201, 0, 37), (204, 0, 40), (206, 0, 115), (310, 0, 58), (313, 0, 59), (186, 0, 71)]
def ir_cl8_5 : List (Nat × Nat × Nat) := [(314, 0, 60), (317, 0, 61), (209, 0, 63), (212, 0, 3), (215, 0, 64), (218, 0, 107), (221, 0, 65), (224, 0, 69), (227, 0, 68), (230, 0, 6)]
def ir_cl8_6 : List (Nat × Nat × Nat) := [(236, 0, 9), (239, 0, 62), (242, 0, 17), (245, 0, 10), (248, 0, 12), (251, 0, 11), (254, 0, 18), (257, 0, 114), (260, 0, 19), (263, 1, 117)]
def ir_cl8_7 : List (Nat × Nat × Nat) := [(266, 0, 13), (269, 0, 14), (272, 0, 15), (275, 0, 16), (285, 0, 41)]
def ir_cl9_0 : List (Nat × Nat × Nat) := [(92, 0, 121), (113, 1, 119), (125, 0, 129), (117, 0, 122), (128, 0, 128), (132, 0, 124), (135, 0, 123), (138, 0, 125), (141, 1, 126), (144, 1, 127)]
def ir_cl9_1 : List (Nat × Nat × Nat) := [(159, 0, 149), (168, 0, 148), (162, 0, 141), (152, 0, 139), (148, 0, 140), (165, 0, 144), (182, 0, 145), (185, 0, 147), (179, 0, 152), (175, 0, 150)]
def ir_cl9_2 : List (Nat × Nat × Nat) := [(203, 0, 156), (206, 0, 120), (210, 0, 158), (196, 0, 153), (199, 0, 157), (192, 0, 151), (222, 0, 160), (225, 0, 162), (214, 1, 182), (219, 0, 161)]
def ir_cl9_3 : List (Nat × Nat × Nat) := [(228, 0, 163), (245, 0, 168), (248, 0, 169), (231, 0, 167), (239, 0, 166), (234, 3, 0), (242, 4, 0), (254, 0, 171), (251, 1, 183), (275, 0, 170)]
def ir_cl10_0 : List (Nat × Nat × Nat) := []
def ir_cl11_0 : List (Nat × Nat × Nat) := []
def ir_cl12_0 : List (Nat × Nat × Nat) := []
def ir_cl : List (List (Nat × Nat × Nat)) := [ir_cl0_0, ir_cl1_0, ir_cl2_0, ir_cl3_0, ir_cl4_0, ir_cl5_0, ir_cl6_0, ir_cl7_0 ++ (ir_cl7_1), ir_cl8_0 ++ (ir_cl8_1 ++ (ir_cl8_2 ++ (ir_cl8_3 ++ (ir_cl8_4 ++ (ir_cl8_5 ++ (ir_cl8_6 ++ (ir_cl8_7))))))), ir_cl9_0 ++ (ir_cl9_1 ++ (ir_cl9_2 ++ (ir_cl9_3))), ir_cl10_0, ir_cl11_0, ir_cl12_0]
def ir_fl : List (List (Nat × Nat × Nat)) := [
  [(9, 0, 0), (15, 1, 1)],
  [(9, 0, 2), (15, 1, 1), (19, 2, 1), (22, 3, 1), (25, 4, 1), (28, 5, 1), (31, 6, 1), (34, 7, 1)],
  [(9, 0, 0), (15, 1, 0), (18, 2, 0), (21, 3, 0), (27, 4, 1), (31, 5, 1), (34, 6, 1)],
  [(15, 0, 0), (9, 1, 0), (31, 2, 1)],
  [(9, 0, 0), (15, 1, 1)],
  [(9, 0, 0), (15, 1, 0), (18, 2, 0), (21, 3, 0), (33, 4, 1), (37, 5, 1), (40, 6, 1)],
  [(9, 0, 0), (15, 1, 0), (18, 2, 0), (21, 3, 0), (34, 4, 1), (38, 5, 1), (24, 6, 2)],
  [(9, 0, 0), (15, 1, 0), (19, 2, 0)],
  [(12, 0, 0), (19, 1, 0), (23, 2, 0), (31, 3, 0), (38, 4, 0), (42, 5, 0), (45, 6, 0), (53, 7, 0), (60, 8, 0), (67, 9, 0), (74, 10, 0)],
  [(1, 0, 1), (95, 1, 1), (13, 2, 0), (98, 3, 1), (17, 4, 0), (20, 5, 0), (23, 6, 0), (26, 7, 0), (29, 8, 0), (32, 9, 0), (35, 10, 1), (38, 11, 0), (101, 12, 1), (41, 13, 0), (44, 14, 0), (47, 15, 0), (50, 16, 0), (104, 17, 1), (53, 18, 0), (56, 19, 0), (156, 20, 1), (59, 21, 0), (110, 22, 1), (62, 23, 0), (65, 24, 0), (172, 25, 1), (107, 26, 1), (68, 27, 0), (71, 28, 0), (74, 29, 0), (77, 30, 0), (80, 31, 0), (83, 32, 0), (86, 33, 0), (89, 34, 1), (257, 35, 1), (260, 36, 1), (263, 37, 1), (266, 38, 1), (269, 39, 1), (272, 40, 1)]]
def ir_kl : List (List (Nat × Int32)) := [[], [], [], [], [], [], [], [], [], [(147, 268435456)], [(265, 1431655765), (266, 858993459), (267, 252645135), (264, 65536)], [], []]
def ir_jl : List (List (Nat × Int64)) := [[], [], [], [], [], [], [], [], [], [(121, 3), (123, 5), (188, 100), (190, 4)], [], [], []]
def ir_aci : Nat := 43
abbrev ir_Sh : Type := Nat ⊕ (Nat × List (Option Nat))
def ir_shl : List ir_Sh := [
  .inr (8, [some 1, some 6, some 11, some 16, some 18, some 20, some 22, some 24, some 25, some 30, some 31]),
  .inr (2, [some 2, some 3, some 4, some 5, none, none, none]),
  .inl 12,
  .inl 12,
  .inl 144,
  .inl 144,
  .inr (5, [some 7, some 8, some 9, some 10, none, none, none]),
  .inl 144,
  .inl 144,
  .inl 12,
  .inl 6,
  .inr (5, [some 12, some 13, some 14, some 15, none, none, none]),
  .inl 144,
  .inl 144,
  .inl 12,
  .inl 6,
  .inr (3, [some 1, some 17, none]),
  .inl 31,
  .inr (0, [some 19, none]),
  .inl 60,
  .inr (0, [some 21, none]),
  .inl 60,
  .inr (0, [some 23, none]),
  .inl 60,
  .inr (7, [some 1, some 16, some 22]),
  .inr (6, [some 26, some 27, some 28, some 29, none, none, none]),
  .inl 144,
  .inl 144,
  .inl 12,
  .inl 4096,
  .inr (1, [none, none, none, none, none, none, none, none]),
  .inr (4, [some 32, none]),
  .inl 31,
  .inr (9, [none, none, some 34, none, some 35, some 36, some 37, some 38, some 39, some 40, none, some 41, none, some 42, some 43, some 44, some 45, none, some 46, some 47, none, some 48, none, some 49, some 50, none, none, some 51, some 52, some 53, some 54, some 55, some 56, some 57, none, none, none, none, none, none, none]),
  .inl 12,
  .inl 20,
  .inl 20,
  .inl 144,
  .inl 144,
  .inl 12,
  .inl 6,
  .inl 12,
  .inl 12,
  .inl 12,
  .inl 12,
  .inl 12,
  .inl 12,
  .inl 12,
  .inl 2,
  .inl 32,
  .inl 32,
  .inl 12,
  .inl 12,
  .inl 12,
  .inl 12,
  .inl 12,
  .inl 144,
  .inl 4096]
def ir_long : Nat := 119
def ir_m (mi : Nat) : ir_MR := ir_ml.getD mi (yX0_reset, cX0_reset, 1, none, 0, 0)
def ir_code (mi : Nat) : ByteArray := (ir_m mi).2.1
def ir_nL (mi : Nat) : Nat := (ir_m mi).2.2.1
def ir_ret (mi : Nat) : Option FieldType := (ir_m mi).2.2.2.1
def ir_own (mi : Nat) : Nat := (ir_m mi).2.2.2.2.1
def ir_na (mi : Nat) : Nat := (ir_m mi).2.2.2.2.2
