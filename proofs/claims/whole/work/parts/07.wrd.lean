/-! the interpreter's words and facts -/
def ir_C1 (c : Nat) : vw_C := ir_cls.getD c ("", TX0, 0)
def ir_Rn (c : Nat) : String := ir_Rl.getD c ""
def ir_w1 (q : ir_MR) : List Cond := [.code q.1 q.2.1 q.2.2.1 q.2.2.2.1, .initialized q.1.cls]
def ir_cw (c : Nat) (q : Nat × Nat × Nat) : List Cond := if q.2.1 = 0 then [.methodLink (ir_Rn c) q.1 (ir_m q.2.2).1, .instanceMethod (ir_m q.2.2).1, .selects (ir_m q.2.2).1.cls (ir_m q.2.2).1 (ir_m q.2.2).1] else if q.2.1 = 1 then [.methodLink (ir_Rn c) q.1 (ir_m q.2.2).1, .static (ir_m q.2.2).1] else if q.2.1 = 3 then [.methodLink (ir_Rn c) q.1 Lib.Math.max.name, .static Lib.Math.max.name, .initialized "java/lang/Math", .code Lib.Math.max.name Lib.Math.max.code 2 (some .int)] else if q.2.1 = 4 then [.methodLink (ir_Rn c) q.1 Lib.Math.min.name, .static Lib.Math.min.name, .initialized "java/lang/Math", .code Lib.Math.min.name Lib.Math.min.code 2 (some .int)] else [.static (ir_m q.2.2).1]
def ir_fw (c : Nat) (q : Nat × Nat × Nat) : Cond := .fieldLink (ir_C1 c).1 q.1 (ir_C1 c).1 ((ir_C1 c).2.1 q.2.1).2.1 ((ir_C1 c).2.1 q.2.1).2.2.1
def ir_T1 : List Cond := ir_ml.flatMap ir_w1
def ir_T2 : List Cond := (List.range 13).flatMap fun c => (ir_cl.getD c []).flatMap (ir_cw c)
def ir_T3 : List Cond := (List.range 10).flatMap fun c => (ir_fl.getD c []).map (ir_fw c)
def ir_T4 : List Cond := (List.range 10).flatMap fun c => u_ws (ir_C1 c).1 (ir_C1 c).2.1 (ir_C1 c).2.2
def ir_T5 : List Cond := (List.range 13).flatMap fun c => (ir_kl.getD c []).map fun q => .constant (ir_Rn c) q.1 q.2
def ir_T6 : List Cond := (List.range 13).flatMap fun c => (ir_jl.getD c []).map fun q => .constantLong (ir_Rn c) q.1 q.2
def ir_T7 : List Cond := [.methodLink (ir_Rn 5) ir_aci arraycopyName, .native arraycopyName, .static arraycopyName, .initialized "java/lang/System"]
def ir_T : List Cond := ir_T1 ++ (ir_T2 ++ (ir_T3 ++ (ir_T4 ++ (ir_T5 ++ (ir_T6 ++ ir_T7)))))
set_option maxRecDepth 100000 in
theorem ir_g1_0 : GoodIn lw_tbl (ir_ml0.flatMap ir_w1) := goodIn_r _ [420, 55, 436, 55, 485, 55, 648, 55, 477, 55, 520, 55, 705, 58, 319, 58, 444, 58, 713, 58, 722, 58, 738, 58] (by decide +kernel) (by decide +kernel)
set_option maxRecDepth 100000 in
theorem ir_g1_1 : GoodIn lw_tbl (ir_ml1.flatMap ir_w1) := goodIn_r _ [730, 58, 768, 58, 772, 58, 776, 58, 780, 58, 718, 58, 743, 58, 759, 58, 85, 51, 414, 51, 432, 51, 331, 51] (by decide +kernel) (by decide +kernel)
set_option maxRecDepth 100000 in
theorem ir_g1_2 : GoodIn lw_tbl (ir_ml2.flatMap ir_w1) := goodIn_r _ [359, 51, 372, 51, 355, 51, 473, 51, 303, 51, 327, 51, 338, 51, 456, 51, 546, 51, 452, 54, 537, 54, 594, 54] (by decide +kernel) (by decide +kernel)
set_option maxRecDepth 100000 in
theorem ir_g1_3 : GoodIn lw_tbl (ir_ml3.flatMap ir_w1) := goodIn_r _ [558, 54, 562, 54, 424, 59, 440, 59, 566, 59, 866, 59, 121, 53, 513, 53, 529, 53, 364, 53, 379, 53, 387, 53] (by decide +kernel) (by decide +kernel)
set_option maxRecDepth 100000 in
theorem ir_g1_4 : GoodIn lw_tbl (ir_ml4.flatMap ir_w1) := goodIn_r _ [398, 53, 406, 53, 460, 53, 542, 53, 613, 53, 617, 53, 609, 53, 550, 53, 554, 53, 315, 57, 578, 57, 582, 57] (by decide +kernel) (by decide +kernel)
set_option maxRecDepth 100000 in
theorem ir_g1_5 : GoodIn lw_tbl (ir_ml5.flatMap ir_w1) := goodIn_r _ [623, 57, 627, 57, 635, 57, 631, 57, 652, 57, 665, 57, 669, 57, 673, 57, 697, 57, 684, 57, 688, 57, 589, 56] (by decide +kernel) (by decide +kernel)
set_option maxRecDepth 100000 in
theorem ir_g1_6 : GoodIn lw_tbl (ir_ml6.flatMap ir_w1) := goodIn_r _ [599, 56, 605, 56, 299, 50, 323, 50, 351, 50, 368, 50, 383, 50, 391, 50, 402, 50, 410, 50, 428, 50, 448, 50] (by decide +kernel) (by decide +kernel)
set_option maxRecDepth 100000 in
theorem ir_g1_7 : GoodIn lw_tbl (ir_ml7.flatMap ir_w1) := goodIn_r _ [465, 50, 481, 50, 489, 50, 788, 50, 501, 50, 570, 50, 640, 50, 644, 50, 657, 50, 680, 50, 693, 50, 701, 50] (by decide +kernel) (by decide +kernel)
set_option maxRecDepth 100000 in
theorem ir_g1_8 : GoodIn lw_tbl (ir_ml8.flatMap ir_w1) := goodIn_r _ [709, 50, 726, 50, 734, 50, 751, 50, 755, 50, 764, 50, 861, 50, 375, 50, 394, 50, 497, 50, 505, 50, 661, 50] (by decide +kernel) (by decide +kernel)
set_option maxRecDepth 100000 in
theorem ir_g1_9 : GoodIn lw_tbl (ir_ml9.flatMap ir_w1) := goodIn_r _ [469, 50, 493, 50, 307, 50, 311, 50, 509, 50, 524, 50, 747, 50, 574, 50, 334, 50, 341, 50, 870, 60, 1012, 60] (by decide +kernel) (by decide +kernel)
set_option maxRecDepth 100000 in
theorem ir_g1_10 : GoodIn lw_tbl (ir_ml10.flatMap ir_w1) := goodIn_r _ [1150, 60, 880, 60, 1024, 60, 1040, 60, 1036, 60, 1048, 60, 1051, 60, 1062, 60, 1028, 60, 1016, 60, 1008, 60, 1020, 60] (by decide +kernel) (by decide +kernel)
set_option maxRecDepth 100000 in
theorem ir_g1_11 : GoodIn lw_tbl (ir_ml11.flatMap ir_w1) := goodIn_r _ [1032, 60, 1044, 60, 1055, 60, 1059, 60, 1067, 60, 1071, 60, 1075, 60, 1095, 60, 1100, 60, 1091, 60, 1079, 60, 1104, 60] (by decide +kernel) (by decide +kernel)
set_option maxRecDepth 100000 in
theorem ir_g1_12 : GoodIn lw_tbl (ir_ml12.flatMap ir_w1) := goodIn_r _ [1112, 60, 1120, 60, 1108, 60, 1124, 60, 1087, 60, 1083, 60, 1132, 60, 1166, 60, 1128, 60, 1158, 60, 1116, 60, 1136, 60] (by decide +kernel) (by decide +kernel)
set_option maxRecDepth 100000 in
theorem ir_g1_13 : GoodIn lw_tbl (ir_ml13.flatMap ir_w1) := goodIn_r _ [1146, 60, 1162, 60, 1154, 60, 1142, 60, 1174, 60, 1186, 60, 1178, 60, 1170, 60, 1190, 60, 1195, 60, 1215, 60, 1211, 60] (by decide +kernel) (by decide +kernel)
set_option maxRecDepth 100000 in
theorem ir_g1_14 : GoodIn lw_tbl (ir_ml14.flatMap ir_w1) := goodIn_r _ [1203, 60, 1207, 60, 1199, 60, 1225, 60, 1221, 60, 1230, 60, 1234, 60, 1238, 60, 1242, 60, 1246, 60, 1250, 60, 1254, 60] (by decide +kernel) (by decide +kernel)
set_option maxRecDepth 100000 in
theorem ir_g1_15 : GoodIn lw_tbl (ir_ml15.flatMap ir_w1) := goodIn_r _ [1258, 60, 1263, 60, 1181, 61, 344, 61, 88, 52] (by decide +kernel) (by decide +kernel)
theorem ir_g1 : GoodIn lw_tbl (ir_ml.flatMap ir_w1) := by
  unfold ir_ml
  try simp only [List.flatMap_append]
  exact (goodIn_app ir_g1_0 (goodIn_app ir_g1_1 (goodIn_app ir_g1_2 (goodIn_app ir_g1_3 (goodIn_app ir_g1_4 (goodIn_app ir_g1_5 (goodIn_app ir_g1_6 (goodIn_app ir_g1_7 (goodIn_app ir_g1_8 (goodIn_app ir_g1_9 (goodIn_app ir_g1_10 (goodIn_app ir_g1_11 (goodIn_app ir_g1_12 (goodIn_app ir_g1_13 (goodIn_app ir_g1_14 ir_g1_15)))))))))))))))
set_option maxRecDepth 100000 in
theorem ir_g2_0_0 : GoodIn lw_tbl (ir_cl0_0.flatMap (ir_cw 0)) := goodIn_r _ [] (by decide +kernel) (by decide +kernel)
theorem ir_g2_0 : GoodIn lw_tbl ((ir_cl.getD 0 []).flatMap (ir_cw 0)) := by
  show GoodIn lw_tbl ((ir_cl0_0).flatMap (ir_cw 0))
  try simp only [List.flatMap_append]
  exact ir_g2_0_0
set_option maxRecDepth 100000 in
theorem ir_g2_1_0 : GoodIn lw_tbl (ir_cl1_0.flatMap (ir_cw 1)) := goodIn_r _ [333] (by decide +kernel) (by decide +kernel)
theorem ir_g2_1 : GoodIn lw_tbl ((ir_cl.getD 1 []).flatMap (ir_cw 1)) := by
  show GoodIn lw_tbl ((ir_cl1_0).flatMap (ir_cw 1))
  try simp only [List.flatMap_append]
  exact ir_g2_1_0
set_option maxRecDepth 100000 in
theorem ir_g2_2_0 : GoodIn lw_tbl (ir_cl2_0.flatMap (ir_cw 2)) := goodIn_r _ [82, 83, 84, 86, 87, 328, 329, 330, 333, 335, 337, 2, 340] (by decide +kernel) (by decide +kernel)
theorem ir_g2_2 : GoodIn lw_tbl ((ir_cl.getD 2 []).flatMap (ir_cw 2)) := by
  show GoodIn lw_tbl ((ir_cl2_0).flatMap (ir_cw 2))
  try simp only [List.flatMap_append]
  exact ir_g2_2_0
set_option maxRecDepth 100000 in
theorem ir_g2_3_0 : GoodIn lw_tbl (ir_cl3_0.flatMap (ir_cw 3)) := goodIn_r _ [453, 454, 455, 457, 458, 459, 538, 357, 358, 539, 540, 541, 543, 544, 545, 547, 548, 549, 551, 552, 553, 595, 535, 536] (by decide +kernel) (by decide +kernel)
theorem ir_g2_3 : GoodIn lw_tbl ((ir_cl.getD 3 []).flatMap (ir_cw 3)) := by
  show GoodIn lw_tbl ((ir_cl3_0).flatMap (ir_cw 3))
  try simp only [List.flatMap_append]
  exact ir_g2_3_0
set_option maxRecDepth 100000 in
theorem ir_g2_4_0 : GoodIn lw_tbl (ir_cl4_0.flatMap (ir_cw 4)) := goodIn_r _ [] (by decide +kernel) (by decide +kernel)
theorem ir_g2_4 : GoodIn lw_tbl ((ir_cl.getD 4 []).flatMap (ir_cw 4)) := by
  show GoodIn lw_tbl ((ir_cl4_0).flatMap (ir_cw 4))
  try simp only [List.flatMap_append]
  exact ir_g2_4_0
set_option maxRecDepth 100000 in
theorem ir_g2_5_0 : GoodIn lw_tbl (ir_cl5_0.flatMap (ir_cw 5)) := goodIn_r _ [118, 119, 120, 122, 87, 530, 396, 397, 531, 377, 378, 532, 362, 363, 533, 385, 386] (by decide +kernel) (by decide +kernel)
theorem ir_g2_5 : GoodIn lw_tbl ((ir_cl.getD 5 []).flatMap (ir_cw 5)) := by
  show GoodIn lw_tbl ((ir_cl5_0).flatMap (ir_cw 5))
  try simp only [List.flatMap_append]
  exact ir_g2_5_0
set_option maxRecDepth 100000 in
theorem ir_g2_6_0 : GoodIn lw_tbl (ir_cl6_0.flatMap (ir_cw 6)) := goodIn_r _ [583, 584, 67, 585, 632, 633, 634, 333, 340, 666, 668, 13, 670, 672, 14, 674, 675, 67, 676, 685, 687, 15, 689, 343] (by decide +kernel) (by decide +kernel)
theorem ir_g2_6 : GoodIn lw_tbl ((ir_cl.getD 6 []).flatMap (ir_cw 6)) := by
  show GoodIn lw_tbl ((ir_cl6_0).flatMap (ir_cw 6))
  try simp only [List.flatMap_append]
  exact ir_g2_6_0
set_option maxRecDepth 100000 in
theorem ir_g2_7_0 : GoodIn lw_tbl (ir_cl7_0.flatMap (ir_cw 7)) := goodIn_r _ [590, 518, 519, 591, 592, 593, 596, 598, 10, 600, 535, 536, 601, 556, 557, 602, 604, 11, 606, 607, 608, 610, 611, 612, 614, 615, 616, 618, 450, 451] (by decide +kernel) (by decide +kernel)
set_option maxRecDepth 100000 in
theorem ir_g2_7_1 : GoodIn lw_tbl (ir_cl7_1.flatMap (ir_cw 7)) := goodIn_r _ [619, 548, 549] (by decide +kernel) (by decide +kernel)
theorem ir_g2_7 : GoodIn lw_tbl ((ir_cl.getD 7 []).flatMap (ir_cw 7)) := by
  show GoodIn lw_tbl ((ir_cl7_0 ++ (ir_cl7_1)).flatMap (ir_cw 7))
  try simp only [List.flatMap_append]
  exact (goodIn_app ir_g2_7_0 ir_g2_7_1)
set_option maxRecDepth 100000 in
theorem ir_g2_8_0 : GoodIn lw_tbl (ir_cl8_0.flatMap (ir_cw 8)) := goodIn_r _ [300, 301, 302, 304, 306, 0, 308, 310, 1, 312, 313, 314, 316, 317, 318, 324, 325, 326, 342, 343, 352, 353, 354, 356, 357, 358, 360, 329, 330] (by decide +kernel) (by decide +kernel)
set_option maxRecDepth 100000 in
theorem ir_g2_8_1 : GoodIn lw_tbl (ir_cl8_1.flatMap (ir_cw 8)) := goodIn_r _ [361, 362, 363, 369, 370, 371, 373, 374, 376, 377, 378, 384, 385, 386, 392, 393, 395, 396, 397, 403, 404, 405, 411, 412, 413, 415, 83, 84] (by decide +kernel) (by decide +kernel)
set_option maxRecDepth 100000 in
theorem ir_g2_8_2 : GoodIn lw_tbl (ir_cl8_2.flatMap (ir_cw 8)) := goodIn_r _ [416, 119, 120, 417, 418, 419, 421, 422, 423, 429, 430, 431, 433, 434, 435, 437, 438, 439, 441, 442, 443, 449, 450, 451, 461, 454, 455, 466, 468, 3] (by decide +kernel) (by decide +kernel)
set_option maxRecDepth 100000 in
theorem ir_g2_8_3 : GoodIn lw_tbl (ir_cl8_3.flatMap (ir_cw 8)) := goodIn_r _ [470, 471, 472, 474, 475, 476, 482, 483, 484, 490, 492, 4, 494, 496, 5, 502, 504, 6, 506, 508, 7, 510, 511, 512, 517, 518, 519, 521, 523, 8] (by decide +kernel) (by decide +kernel)
set_option maxRecDepth 100000 in
theorem ir_g2_8_4 : GoodIn lw_tbl (ir_cl8_4.flatMap (ir_cw 8)) := goodIn_r _ [525, 333, 526, 527, 528, 534, 535, 536, 555, 556, 557, 559, 560, 561, 563, 564, 565, 571, 573, 9, 575, 576, 577, 579, 580, 581, 586, 587, 588] (by decide +kernel) (by decide +kernel)
set_option maxRecDepth 100000 in
theorem ir_g2_8_5 : GoodIn lw_tbl (ir_cl8_5.flatMap (ir_cw 8)) := goodIn_r _ [620, 621, 622, 624, 625, 626, 628, 629, 630, 645, 646, 647, 649, 650, 651, 658, 660, 12, 662, 663, 664, 681, 682, 683, 694, 695, 696, 702, 703, 704] (by decide +kernel) (by decide +kernel)
set_option maxRecDepth 100000 in
theorem ir_g2_8_6 : GoodIn lw_tbl (ir_cl8_6.flatMap (ir_cw 8)) := goodIn_r _ [710, 711, 712, 714, 633, 634, 715, 716, 717, 719, 720, 721, 727, 728, 729, 735, 736, 737, 740, 741, 742, 744, 746, 16, 756, 757, 758, 760, 340] (by decide +kernel) (by decide +kernel)
set_option maxRecDepth 100000 in
theorem ir_g2_8_7 : GoodIn lw_tbl (ir_cl8_7.flatMap (ir_cw 8)) := goodIn_r _ [765, 766, 767, 769, 770, 771, 773, 774, 775, 777, 778, 779, 863, 864, 865] (by decide +kernel) (by decide +kernel)
theorem ir_g2_8 : GoodIn lw_tbl ((ir_cl.getD 8 []).flatMap (ir_cw 8)) := by
  show GoodIn lw_tbl ((ir_cl8_0 ++ (ir_cl8_1 ++ (ir_cl8_2 ++ (ir_cl8_3 ++ (ir_cl8_4 ++ (ir_cl8_5 ++ (ir_cl8_6 ++ (ir_cl8_7)))))))).flatMap (ir_cw 8))
  try simp only [List.flatMap_append]
  exact (goodIn_app ir_g2_8_0 (goodIn_app ir_g2_8_1 (goodIn_app ir_g2_8_2 (goodIn_app ir_g2_8_3 (goodIn_app ir_g2_8_4 (goodIn_app ir_g2_8_5 (goodIn_app ir_g2_8_6 ir_g2_8_7)))))))
set_option maxRecDepth 100000 in
theorem ir_g2_9_0 : GoodIn lw_tbl (ir_cl9_0.flatMap (ir_cw 9)) := goodIn_r _ [877, 879, 18, 1010, 1011, 1013, 1015, 19, 1021, 1023, 20, 1025, 1027, 21, 1033, 1035, 22, 1037, 1039, 23, 1045, 1047, 24, 1049, 1050, 1060, 1061] (by decide +kernel) (by decide +kernel)
set_option maxRecDepth 100000 in
theorem ir_g2_9_1 : GoodIn lw_tbl (ir_cl9_1.flatMap (ir_cw 9)) := goodIn_r _ [1080, 1082, 25, 1084, 1086, 26, 1088, 1090, 27, 1092, 1094, 28, 1097, 1099, 29, 1109, 1111, 30, 1117, 1119, 31, 1121, 1123, 32, 1125, 1127, 33, 1129, 1131, 34] (by decide +kernel) (by decide +kernel)
set_option maxRecDepth 100000 in
theorem ir_g2_9_2 : GoodIn lw_tbl (ir_cl9_2.flatMap (ir_cw 9)) := goodIn_r _ [1143, 1145, 35, 1147, 1149, 36, 1151, 1153, 37, 1155, 1157, 38, 1159, 1161, 39, 1163, 1165, 40, 1171, 1173, 41, 1175, 1177, 42, 1179, 1180, 1183, 1185, 43] (by decide +kernel) (by decide +kernel)
set_option maxRecDepth 100000 in
theorem ir_g2_9_3 : GoodIn lw_tbl (ir_cl9_3.flatMap (ir_cw 9)) := goodIn_r _ [1191, 1168, 1169, 1200, 1202, 44, 1204, 1206, 45, 1208, 1210, 46, 1212, 1214, 47, 1216, 675, 67, 676, 1217, 584, 67, 585, 1222, 1224, 48, 1226, 343, 1259, 1197, 1198] (by decide +kernel) (by decide +kernel)
theorem ir_g2_9 : GoodIn lw_tbl ((ir_cl.getD 9 []).flatMap (ir_cw 9)) := by
  show GoodIn lw_tbl ((ir_cl9_0 ++ (ir_cl9_1 ++ (ir_cl9_2 ++ (ir_cl9_3)))).flatMap (ir_cw 9))
  try simp only [List.flatMap_append]
  exact (goodIn_app ir_g2_9_0 (goodIn_app ir_g2_9_1 (goodIn_app ir_g2_9_2 ir_g2_9_3)))
set_option maxRecDepth 100000 in
theorem ir_g2_10_0 : GoodIn lw_tbl (ir_cl10_0.flatMap (ir_cw 10)) := goodIn_r _ [] (by decide +kernel) (by decide +kernel)
theorem ir_g2_10 : GoodIn lw_tbl ((ir_cl.getD 10 []).flatMap (ir_cw 10)) := by
  show GoodIn lw_tbl ((ir_cl10_0).flatMap (ir_cw 10))
  try simp only [List.flatMap_append]
  exact ir_g2_10_0
set_option maxRecDepth 100000 in
theorem ir_g2_11_0 : GoodIn lw_tbl (ir_cl11_0.flatMap (ir_cw 11)) := goodIn_r _ [] (by decide +kernel) (by decide +kernel)
theorem ir_g2_11 : GoodIn lw_tbl ((ir_cl.getD 11 []).flatMap (ir_cw 11)) := by
  show GoodIn lw_tbl ((ir_cl11_0).flatMap (ir_cw 11))
  try simp only [List.flatMap_append]
  exact ir_g2_11_0
set_option maxRecDepth 100000 in
theorem ir_g2_12_0 : GoodIn lw_tbl (ir_cl12_0.flatMap (ir_cw 12)) := goodIn_r _ [] (by decide +kernel) (by decide +kernel)
theorem ir_g2_12 : GoodIn lw_tbl ((ir_cl.getD 12 []).flatMap (ir_cw 12)) := by
  show GoodIn lw_tbl ((ir_cl12_0).flatMap (ir_cw 12))
  try simp only [List.flatMap_append]
  exact ir_g2_12_0
set_option maxRecDepth 100000 in
theorem ir_g3_0 : GoodIn lw_tbl ((ir_fl.getD 0 []).map (ir_fw 0)) := goodIn_r _ [167, 168] (by decide +kernel) (by decide +kernel)
set_option maxRecDepth 100000 in
theorem ir_g3_1 : GoodIn lw_tbl ((ir_fl.getD 1 []).map (ir_fw 1)) := goodIn_r _ [224, 225, 226, 227, 228, 229, 230, 231] (by decide +kernel) (by decide +kernel)
set_option maxRecDepth 100000 in
theorem ir_g3_2 : GoodIn lw_tbl ((ir_fl.getD 2 []).map (ir_fw 2)) := goodIn_r _ [89, 90, 91, 92, 93, 94, 95] (by decide +kernel) (by decide +kernel)
set_option maxRecDepth 100000 in
theorem ir_g3_3 : GoodIn lw_tbl ((ir_fl.getD 3 []).map (ir_fw 3)) := goodIn_r _ [151, 152, 153] (by decide +kernel) (by decide +kernel)
set_option maxRecDepth 100000 in
theorem ir_g3_4 : GoodIn lw_tbl ((ir_fl.getD 4 []).map (ir_fw 4)) := goodIn_r _ [255, 256] (by decide +kernel) (by decide +kernel)
set_option maxRecDepth 100000 in
theorem ir_g3_5 : GoodIn lw_tbl ((ir_fl.getD 5 []).map (ir_fw 5)) := goodIn_r _ [123, 124, 125, 126, 127, 128, 129] (by decide +kernel) (by decide +kernel)
set_option maxRecDepth 100000 in
theorem ir_g3_6 : GoodIn lw_tbl ((ir_fl.getD 6 []).map (ir_fw 6)) := goodIn_r _ [196, 197, 198, 199, 200, 201, 202] (by decide +kernel) (by decide +kernel)
set_option maxRecDepth 100000 in
theorem ir_g3_7 : GoodIn lw_tbl ((ir_fl.getD 7 []).map (ir_fw 7)) := goodIn_r _ [180, 181, 182] (by decide +kernel) (by decide +kernel)
set_option maxRecDepth 100000 in
theorem ir_g3_8 : GoodIn lw_tbl ((ir_fl.getD 8 []).map (ir_fw 8)) := goodIn_r _ [262, 263, 264, 265, 266, 267, 268, 269, 270, 271, 272] (by decide +kernel) (by decide +kernel)
set_option maxRecDepth 100000 in
theorem ir_g3_9 : GoodIn lw_tbl ((ir_fl.getD 9 []).map (ir_fw 9)) := goodIn_r _ [881, 882, 883, 884, 885, 886, 887, 888, 889, 890, 891, 892, 893, 894, 895, 896, 897, 898, 899, 900, 901, 902, 903, 904, 905, 906, 907, 908, 909, 910, 911, 912, 913, 914, 915, 916, 917, 918, 919, 920, 921] (by decide +kernel) (by decide +kernel)
set_option maxRecDepth 100000 in
theorem ir_g4_0 : GoodIn lw_tbl (u_ws (ir_C1 0).1 (ir_C1 0).2.1 (ir_C1 0).2.2) := goodIn_r _ [169, 171] (by decide +kernel) (by decide +kernel)
set_option maxRecDepth 100000 in
theorem ir_g4_1 : GoodIn lw_tbl (u_ws (ir_C1 1).1 (ir_C1 1).2.1 (ir_C1 1).2.2) := goodIn_r _ [232, 234, 236, 238, 240, 242, 244, 246] (by decide +kernel) (by decide +kernel)
set_option maxRecDepth 100000 in
theorem ir_g4_2 : GoodIn lw_tbl (u_ws (ir_C1 2).1 (ir_C1 2).2.1 (ir_C1 2).2.2) := goodIn_r _ [96, 98, 100, 102, 104, 106, 108] (by decide +kernel) (by decide +kernel)
set_option maxRecDepth 100000 in
theorem ir_g4_3 : GoodIn lw_tbl (u_ws (ir_C1 3).1 (ir_C1 3).2.1 (ir_C1 3).2.2) := goodIn_r _ [154, 156, 158] (by decide +kernel) (by decide +kernel)
set_option maxRecDepth 100000 in
theorem ir_g4_4 : GoodIn lw_tbl (u_ws (ir_C1 4).1 (ir_C1 4).2.1 (ir_C1 4).2.2) := goodIn_r _ [257, 259] (by decide +kernel) (by decide +kernel)
set_option maxRecDepth 100000 in
theorem ir_g4_5 : GoodIn lw_tbl (u_ws (ir_C1 5).1 (ir_C1 5).2.1 (ir_C1 5).2.2) := goodIn_r _ [130, 132, 134, 136, 138, 140, 142] (by decide +kernel) (by decide +kernel)
set_option maxRecDepth 100000 in
theorem ir_g4_6 : GoodIn lw_tbl (u_ws (ir_C1 6).1 (ir_C1 6).2.1 (ir_C1 6).2.2) := goodIn_r _ [203, 205, 207, 209, 211, 213, 215] (by decide +kernel) (by decide +kernel)
set_option maxRecDepth 100000 in
theorem ir_g4_7 : GoodIn lw_tbl (u_ws (ir_C1 7).1 (ir_C1 7).2.1 (ir_C1 7).2.2) := goodIn_r _ [183, 185, 187] (by decide +kernel) (by decide +kernel)
set_option maxRecDepth 100000 in
theorem ir_g4_8 : GoodIn lw_tbl (u_ws (ir_C1 8).1 (ir_C1 8).2.1 (ir_C1 8).2.2) := goodIn_r _ [273, 275, 277, 279, 281, 283, 285, 287, 289, 291, 293] (by decide +kernel) (by decide +kernel)
set_option maxRecDepth 100000 in
theorem ir_g4_9 : GoodIn lw_tbl (u_ws (ir_C1 9).1 (ir_C1 9).2.1 (ir_C1 9).2.2) := goodIn_r _ [922, 924, 926, 928, 930, 932, 934, 936, 938, 940, 942, 944, 946, 948, 950, 952, 954, 956, 958, 960, 962, 964, 966, 968, 970, 972, 974, 976, 978, 980, 982, 984, 986, 988, 990, 992, 994, 996, 998, 1000, 1002] (by decide +kernel) (by decide +kernel)
set_option maxRecDepth 100000 in
theorem ir_g5 : GoodIn lw_tbl ir_T5 := goodIn_r _ [1096, 345, 346, 347, 1182] (by decide +kernel) (by decide +kernel)
set_option maxRecDepth 100000 in
theorem ir_g6 : GoodIn lw_tbl ir_T6 := goodIn_r _ [1009, 1063, 1137, 1138] (by decide +kernel) (by decide +kernel)
set_option maxRecDepth 100000 in
theorem ir_g7 : GoodIn lw_tbl ir_T7 := goodIn_r _ [514, 516, 515, 66] (by decide +kernel) (by decide +kernel)
theorem ir_g_fm {n : Nat} {f : Nat → List Cond} (h : ∀ c, c < n → GoodIn lw_tbl (f c)) : GoodIn lw_tbl ((List.range n).flatMap f) := by
  intro w hw
  obtain ⟨c, hc, hw⟩ := List.mem_flatMap.mp hw
  exact h c (List.mem_range.mp hc) w hw
theorem ir_g2 : GoodIn lw_tbl ir_T2 := ir_g_fm fun c h => by
  match c, h with
  | 0, _ => exact ir_g2_0
  | 1, _ => exact ir_g2_1
  | 2, _ => exact ir_g2_2
  | 3, _ => exact ir_g2_3
  | 4, _ => exact ir_g2_4
  | 5, _ => exact ir_g2_5
  | 6, _ => exact ir_g2_6
  | 7, _ => exact ir_g2_7
  | 8, _ => exact ir_g2_8
  | 9, _ => exact ir_g2_9
  | 10, _ => exact ir_g2_10
  | 11, _ => exact ir_g2_11
  | 12, _ => exact ir_g2_12
  | k + 13, h => exact absurd h (by omega)
theorem ir_g3 : GoodIn lw_tbl ir_T3 := ir_g_fm fun c h => by
  match c, h with
  | 0, _ => exact ir_g3_0
  | 1, _ => exact ir_g3_1
  | 2, _ => exact ir_g3_2
  | 3, _ => exact ir_g3_3
  | 4, _ => exact ir_g3_4
  | 5, _ => exact ir_g3_5
  | 6, _ => exact ir_g3_6
  | 7, _ => exact ir_g3_7
  | 8, _ => exact ir_g3_8
  | 9, _ => exact ir_g3_9
  | k + 10, h => exact absurd h (by omega)
theorem ir_g4 : GoodIn lw_tbl ir_T4 := ir_g_fm fun c h => by
  match c, h with
  | 0, _ => exact ir_g4_0
  | 1, _ => exact ir_g4_1
  | 2, _ => exact ir_g4_2
  | 3, _ => exact ir_g4_3
  | 4, _ => exact ir_g4_4
  | 5, _ => exact ir_g4_5
  | 6, _ => exact ir_g4_6
  | 7, _ => exact ir_g4_7
  | 8, _ => exact ir_g4_8
  | 9, _ => exact ir_g4_9
  | k + 10, h => exact absurd h (by omega)
theorem ir_T_good : GoodIn lw_tbl ir_T := goodIn_app ir_g1 (goodIn_app ir_g2 (goodIn_app ir_g3 (goodIn_app ir_g4 (goodIn_app ir_g5 (goodIn_app ir_g6 ir_g7)))))
