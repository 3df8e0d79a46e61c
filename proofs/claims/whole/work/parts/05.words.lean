theorem gd_r {big : List Cond} (ws : List Cond) (ps : List Nat) (hp : ws = ps.filterMap (fun i => big[i]?)) : ∀ w ∈ ws, w ∈ big := by
  intro w hw
  rw [hp] at hw
  obtain ⟨i, -, hi⟩ := List.mem_filterMap.mp hw
  exact List.mem_of_getElem? hi
def lwg : List Cond := lw_tbl.filter goodWord
theorem lwg_in : ∀ w ∈ lwg, w ∈ lw_tbl := fun w h => (List.mem_filter.mp h).1
theorem lwg_of {w : Cond} (h : w ∈ lw_tbl) (hg : goodWord w = true) : w ∈ lwg := List.mem_filter.mpr ⟨h, hg⟩
theorem lwg_good : GoodIn lwg lwg := fun w h => ⟨h, good_of_word (List.mem_filter.mp h).2⟩
def cN (n : Nat) : String := cNl.getD n ""
def Tc (c : Nat) : u_T := match c with
  | 0 => TX0
  | 1 => TX1
  | 2 => TX2
  | 3 => TX3
  | 4 => TX4
  | 5 => TX5
  | _ => TX6
def tyc (c : Nat) : Nat → FieldType := match c with
  | 0 => tyX0
  | 1 => tyX1
  | 2 => tyX2
  | 3 => tyX3
  | 4 => tyX4
  | 5 => tyX5
  | _ => tyX6
def rty (n : Nat) : Option FieldType := match n with
  | 0 => none
  | 1 => some .int
  | 2 => some .boolean
  | 3 => some .long
  | _ => some (.array .boolean)
def wdF (e : Nat × Nat × Nat × Nat) : Cond := .fieldLink (cN e.1) e.2.1 (Tc e.2.2.1 e.2.2.2).1 (Tc e.2.2.1 e.2.2.2).2.1 (Tc e.2.2.1 e.2.2.2).2.2.1
def wdC (e : Nat × Nat × Nat) : Cond := .methodLink (cN e.1) e.2.1 (mN e.2.2)
def wdK (e : Nat × Nat × Int × Nat) : Cond := if e.2.2.2 = 0 then .constant (cN e.1) e.2.1 (Int32.ofInt e.2.2.1) else .constantLong (cN e.1) e.2.1 (Int64.ofInt e.2.2.1)
def wdS (e : Nat × Nat) : Cond := .methodLink (cN e.1) e.2 arraycopyName
def wdX (e : Nat × Nat) : Cond := .methodLink (cN e.1) e.2 Lib.Math.max.name
def wdN (e : Nat × Nat) : Cond := .methodLink (cN e.1) e.2 Lib.Math.min.name
def wdM1 (y : Nat) : Cond := if mS y then .static (mN y) else .instanceMethod (mN y)
def wdM2 (y : Nat) : Cond := if mS y then .initialized (cN (mO y)) else .selects (cN (mO y)) (mN y) (mN y)
def wdM3 (y : Nat) : Cond := .initialized (cN (mO y))
def wdM4 (y : Nat) : Cond := .code (mN y) (mB y) (mL y) (rty (mR y))
theorem wdF_in : ∀ w ∈ fLl.map wdF, w ∈ lw_tbl := gd_r _ [120, 125, 124, 127, 128, 145, 147, 142, 134, 131, 137, 96, 99, 102, 105, 139, 255, 257, 264, 259, 260, 261, 262, 263, 265, 266, 267, 93, 97, 100, 103, 233, 234, 235, 232, 236, 123, 143, 140, 191, 121, 192, 189, 180, 193, 94, 194, 195, 186, 184, 182, 136, 133, 129, 187, 188, 106, 190, 291, 135, 122, 132, 138, 95, 98, 101, 104, 130, 294, 181, 183, 146, 126, 300, 185, 299, 298, 295, 144, 141, 302, 303, 256, 258, 304, 305, 292, 293, 301, 296, 297, 847, 848, 849, 844, 850, 855, 854, 853, 851, 856, 852, 857, 858, 859, 860, 861, 862, 863, 864, 865, 866, 868, 869, 867, 870, 872, 871, 845, 846] (by decide +kernel)
theorem wdC_in : ∀ w ∈ cLl.map wdC, w ∈ lw_tbl := gd_r _ [356, 614, 117, 818, 822, 836, 801, 651, 773, 782, 786, 384, 390, 647, 652, 726, 734, 738, 730, 656, 660, 664, 722, 669, 431, 435, 439, 443, 447, 455, 459, 463, 467, 482, 510, 494, 341, 344, 348, 352, 371, 380, 402, 410, 413, 478, 490, 498, 506, 518, 526, 534, 538, 548, 552, 560, 563, 573, 417, 424, 592, 600, 643, 747, 761, 769, 778, 796, 814, 831, 567, 604, 610, 615, 619, 751, 577, 957, 1100, 937, 949, 940, 945, 953, 961, 974, 982, 987, 996, 1008, 1012, 1020, 1024, 1041, 1044, 1037, 1033, 1052, 1076, 1084, 1096, 1119, 1123, 1157, 1153, 1165, 1168, 1149, 1177, 1185, 1191, 1199, 1227, 337, 932, 359, 965, 363, 970, 367, 978, 375, 991, 394, 1004, 398, 1016, 406, 1028, 470, 1048, 474, 1056, 486, 1060, 502, 1064, 514, 1068, 522, 1072, 530, 1080, 544, 1087, 556, 1091, 580, 1103, 584, 1107, 588, 1111, 596, 1115, 623, 1127, 627, 1131, 631, 1136, 635, 1141, 639, 1145, 743, 1172, 755, 1181, 765, 1195, 774, 1203, 788, 1207, 792, 1211, 802, 1215, 806, 1219, 810, 1223, 826, 1231] (by decide +kernel)
theorem wdK_in : ∀ w ∈ kLl.map wdK, w ∈ lw_tbl := gd_r _ [835, 387, 388, 389, 393, 379, 572, 759, 760, 830, 837, 943, 985, 936, 944, 969, 986, 1000, 1001, 1002, 1003, 995, 1032, 1095, 1135, 1140, 1161, 1162, 1163, 1164, 1176, 1188, 1189, 1190, 1235, 1236, 785, 541, 542, 543, 1237] (by decide +kernel)
theorem wdS_in : ∀ w ∈ sLl.map wdS, w ∈ lw_tbl := gd_r _ [800, 608, 421, 571] (by decide +kernel)
theorem wdX_in : ∀ w ∈ xLl.map wdX, w ∈ lw_tbl := gd_r _ [451, 787, 428] (by decide +kernel)
theorem wdN_in : ∀ w ∈ nLl.map wdN, w ∈ lw_tbl := gd_r _ [452, 609] (by decide +kernel)
theorem wMx : ∀ w ∈ ([.static Lib.Math.max.name, .static Lib.Math.min.name, .initialized "java/lang/Math", .native arraycopyName, .static arraycopyName, .initialized "java/lang/System"] : List Cond), w ∈ lw_tbl := gd_r _ [429, 453, 67, 423, 422, 66] (by decide +kernel)
set_option maxRecDepth 100000 in
theorem wMx2 : Cond.code Lib.Math.max.name Lib.Math.max.code 2 (some .int) ∈ lw_tbl := List.mem_of_getElem? (i := 430) rfl
set_option maxRecDepth 100000 in
theorem wMn2 : Cond.code Lib.Math.min.name Lib.Math.min.code 2 (some .int) ∈ lw_tbl := List.mem_of_getElem? (i := 454) rfl
theorem wdM1_in : ∀ w ∈ (List.range 179).map wdM1, w ∈ lw_tbl := gd_r _ [349, 353, 357, 448, 611, 519, 527, 815, 820, 824, 832, 797, 648, 735, 739, 752, 762, 770, 779, 372, 381, 385, 391, 432, 605, 644, 728, 732, 654, 662, 658, 666, 671, 724, 418, 425, 437, 568, 441, 445, 468, 456, 461, 465, 496, 484, 512, 479, 507, 491, 499, 535, 549, 338, 360, 364, 368, 376, 395, 399, 407, 471, 475, 487, 503, 515, 523, 531, 545, 557, 581, 585, 589, 597, 624, 628, 632, 636, 640, 744, 756, 766, 775, 789, 793, 803, 807, 811, 827, 342, 404, 411, 346, 415, 554, 594, 565, 602, 617, 621, 749, 575, 578, 938, 959, 955, 976, 963, 1101, 1098, 1022, 941, 983, 951, 1010, 947, 933, 966, 971, 979, 989, 1014, 998, 992, 1005, 1026, 1017, 1046, 1042, 1039, 1035, 1029, 1054, 1049, 1057, 1061, 1065, 1069, 1078, 1073, 1085, 1081, 1088, 1092, 1104, 1108, 1112, 1121, 1125, 1116, 1128, 1132, 1137, 1142, 1159, 1155, 1170, 1166, 1151, 1146, 1179, 1173, 1193, 1186, 1182, 1201, 1196, 1204, 1208, 1212, 1216, 1220, 1229, 1224, 1232, 783, 539, 561, 118] (by decide +kernel)
theorem wdM2_in : ∀ w ∈ (List.range 179).map wdM2, w ∈ lw_tbl := gd_r _ [350, 354, 59, 449, 612, 520, 528, 816, 27, 28, 833, 798, 649, 736, 740, 753, 763, 771, 780, 373, 382, 60, 60, 433, 606, 645, 24, 25, 18, 20, 19, 21, 22, 23, 419, 426, 3, 569, 4, 5, 62, 62, 6, 7, 9, 8, 10, 480, 508, 492, 500, 536, 550, 339, 361, 365, 369, 377, 396, 400, 408, 472, 476, 488, 504, 516, 524, 532, 546, 558, 582, 586, 590, 598, 625, 629, 633, 637, 641, 745, 757, 767, 776, 790, 794, 804, 808, 812, 828, 58, 1, 58, 0, 2, 11, 14, 12, 15, 16, 17, 26, 13, 58, 65, 32, 31, 34, 33, 65, 46, 39, 65, 65, 30, 37, 29, 934, 967, 972, 980, 35, 38, 36, 993, 1006, 40, 1018, 43, 65, 42, 41, 1030, 44, 1050, 1058, 1062, 1066, 1070, 45, 1074, 65, 1082, 1089, 1093, 1105, 1109, 1113, 47, 48, 1117, 1129, 1133, 1138, 1143, 51, 50, 52, 65, 49, 1147, 53, 1174, 54, 65, 1183, 55, 1197, 1205, 1209, 1213, 1217, 1221, 56, 1225, 1233, 68, 68, 61, 61] (by decide +kernel)
theorem wdM3_in : ∀ w ∈ (List.range 179).map wdM3, w ∈ lw_tbl := gd_r _ [59, 59, 59, 59, 59, 59, 59, 59, 59, 59, 59, 59, 64, 64, 64, 64, 64, 64, 64, 60, 60, 60, 60, 60, 60, 63, 63, 63, 63, 63, 63, 63, 63, 63, 62, 62, 62, 62, 62, 62, 62, 62, 62, 62, 62, 62, 62, 62, 62, 62, 62, 62, 62, 58, 58, 58, 58, 58, 58, 58, 58, 58, 58, 58, 58, 58, 58, 58, 58, 58, 58, 58, 58, 58, 58, 58, 58, 58, 58, 58, 58, 58, 58, 58, 58, 58, 58, 58, 58, 58, 58, 58, 58, 58, 58, 58, 58, 58, 58, 58, 58, 58, 58, 65, 65, 65, 65, 65, 65, 65, 65, 65, 65, 65, 65, 65, 65, 65, 65, 65, 65, 65, 65, 65, 65, 65, 65, 65, 65, 65, 65, 65, 65, 65, 65, 65, 65, 65, 65, 65, 65, 65, 65, 65, 65, 65, 65, 65, 65, 65, 65, 65, 65, 65, 65, 65, 65, 65, 65, 65, 65, 65, 65, 65, 65, 65, 65, 65, 65, 65, 65, 65, 65, 65, 65, 68, 68, 61, 61] (by decide +kernel)
set_option maxRecDepth 100000 in
theorem cW_0 : Cond.code yX0_isFirstCell cX0_isFirstCell 3 (some .boolean) ∈ lw_tbl := List.mem_of_getElem? (i := 351) rfl
set_option maxRecDepth 100000 in
theorem cW_1 : Cond.code yX0_addStone cX0_addStone 5 (some .int) ∈ lw_tbl := List.mem_of_getElem? (i := 355) rfl
set_option maxRecDepth 100000 in
theorem cW_2 : Cond.code yX0_needBy cX0_needBy 5 (some .int) ∈ lw_tbl := List.mem_of_getElem? (i := 358) rfl
set_option maxRecDepth 100000 in
theorem cW_3 : Cond.code yX0_stepsBy cX0_stepsBy 6 (some .int) ∈ lw_tbl := List.mem_of_getElem? (i := 450) rfl
set_option maxRecDepth 100000 in
theorem cW_4 : Cond.code yX0_alikeBy cX0_alikeBy 6 (some .boolean) ∈ lw_tbl := List.mem_of_getElem? (i := 613) rfl
set_option maxRecDepth 100000 in
theorem cW_5 : Cond.code yX0_tellFound cX0_tellFound 4 none ∈ lw_tbl := List.mem_of_getElem? (i := 521) rfl
set_option maxRecDepth 100000 in
theorem cW_6 : Cond.code yX0_foundElsewhere cX0_foundElsewhere 4 (some .int) ∈ lw_tbl := List.mem_of_getElem? (i := 529) rfl
set_option maxRecDepth 100000 in
theorem cW_7 : Cond.code yX0_howMany cX0_howMany 2 (some .int) ∈ lw_tbl := List.mem_of_getElem? (i := 817) rfl
set_option maxRecDepth 100000 in
theorem cW_8 : Cond.code yX0_stakesThere cX0_stakesThere 3 (some .int) ∈ lw_tbl := List.mem_of_getElem? (i := 821) rfl
set_option maxRecDepth 100000 in
theorem cW_9 : Cond.code yX0_stonesFound cX0_stonesFound 3 (some .int) ∈ lw_tbl := List.mem_of_getElem? (i := 825) rfl
set_option maxRecDepth 100000 in
theorem cW_10 : Cond.code yX0_digestBehind cX0_digestBehind 4 (some .long) ∈ lw_tbl := List.mem_of_getElem? (i := 834) rfl
set_option maxRecDepth 100000 in
theorem cW_11 : Cond.code yX0_copyOf cX0_copyOf 2 none ∈ lw_tbl := List.mem_of_getElem? (i := 799) rfl
set_option maxRecDepth 100000 in
theorem cW_12 : Cond.code yX1_begin cX1_begin 1 none ∈ lw_tbl := List.mem_of_getElem? (i := 650) rfl
set_option maxRecDepth 100000 in
theorem cW_13 : Cond.code yX1_addClaim cX1_addClaim 2 none ∈ lw_tbl := List.mem_of_getElem? (i := 737) rfl
set_option maxRecDepth 100000 in
theorem cW_14 : Cond.code yX1_giveBack cX1_giveBack 4 none ∈ lw_tbl := List.mem_of_getElem? (i := 741) rfl
set_option maxRecDepth 100000 in
theorem cW_15 : Cond.code yX1_judge cX1_judge 7 none ∈ lw_tbl := List.mem_of_getElem? (i := 754) rfl
set_option maxRecDepth 100000 in
theorem cW_16 : Cond.code yX1_debt cX1_debt 3 (some .int) ∈ lw_tbl := List.mem_of_getElem? (i := 764) rfl
set_option maxRecDepth 100000 in
theorem cW_17 : Cond.code yX1_balance cX1_balance 4 (some .int) ∈ lw_tbl := List.mem_of_getElem? (i := 772) rfl
set_option maxRecDepth 100000 in
theorem cW_18 : Cond.code yX1_fewestPayments cX1_fewestPayments 5 (some .int) ∈ lw_tbl := List.mem_of_getElem? (i := 781) rfl
set_option maxRecDepth 100000 in
theorem cW_19 : Cond.code yX2_tell cX2_tell 6 none ∈ lw_tbl := List.mem_of_getElem? (i := 374) rfl
set_option maxRecDepth 100000 in
theorem cW_20 : Cond.code yX2_drawBy cX2_drawBy 5 none ∈ lw_tbl := List.mem_of_getElem? (i := 383) rfl
set_option maxRecDepth 100000 in
theorem cW_21 : Cond.code yX2_drawnAfter cX2_drawnAfter 2 (some .long) ∈ lw_tbl := List.mem_of_getElem? (i := 386) rfl
set_option maxRecDepth 100000 in
theorem cW_22 : Cond.code yX2_figureOf cX2_figureOf 3 (some .int) ∈ lw_tbl := List.mem_of_getElem? (i := 392) rfl
set_option maxRecDepth 100000 in
theorem cW_23 : Cond.code yX2_pushOf cX2_pushOf 2 (some .int) ∈ lw_tbl := List.mem_of_getElem? (i := 434) rfl
set_option maxRecDepth 100000 in
theorem cW_24 : Cond.code yX2_copyOf cX2_copyOf 2 none ∈ lw_tbl := List.mem_of_getElem? (i := 607) rfl
set_option maxRecDepth 100000 in
theorem cW_25 : Cond.code yX3_read cX3_read 6 (some .int) ∈ lw_tbl := List.mem_of_getElem? (i := 646) rfl
set_option maxRecDepth 100000 in
theorem cW_26 : Cond.code yX3_readItem cX3_readItem 4 (some .int) ∈ lw_tbl := List.mem_of_getElem? (i := 729) rfl
set_option maxRecDepth 100000 in
theorem cW_27 : Cond.code yX3_numberFits cX3_numberFits 3 (some .boolean) ∈ lw_tbl := List.mem_of_getElem? (i := 733) rfl
set_option maxRecDepth 100000 in
theorem cW_28 : Cond.code yX3_nextToken cX3_nextToken 2 (some .int) ∈ lw_tbl := List.mem_of_getElem? (i := 655) rfl
set_option maxRecDepth 100000 in
theorem cW_29 : Cond.code yX3_stands cX3_stands 3 (some .boolean) ∈ lw_tbl := List.mem_of_getElem? (i := 663) rfl
set_option maxRecDepth 100000 in
theorem cW_30 : Cond.code yX3_skip cX3_skip 4 none ∈ lw_tbl := List.mem_of_getElem? (i := 659) rfl
set_option maxRecDepth 100000 in
theorem cW_31 : Cond.code yX3_wordsKind cX3_wordsKind 1 (some .int) ∈ lw_tbl := List.mem_of_getElem? (i := 667) rfl
set_option maxRecDepth 100000 in
theorem cW_32 : Cond.code yX3_isWord cX3_isWord 3 (some .boolean) ∈ lw_tbl := List.mem_of_getElem? (i := 672) rfl
set_option maxRecDepth 100000 in
theorem cW_33 : Cond.code yX3_numbersKind cX3_numbersKind 2 (some .int) ∈ lw_tbl := List.mem_of_getElem? (i := 725) rfl
set_option maxRecDepth 100000 in
theorem cW_34 : Cond.code yX4_start cX4_start 4 none ∈ lw_tbl := List.mem_of_getElem? (i := 420) rfl
set_option maxRecDepth 100000 in
theorem cW_35 : Cond.code yX4_go cX4_go 5 none ∈ lw_tbl := List.mem_of_getElem? (i := 427) rfl
set_option maxRecDepth 100000 in
theorem cW_36 : Cond.code yX4_passNight cX4_passNight 2 none ∈ lw_tbl := List.mem_of_getElem? (i := 438) rfl
set_option maxRecDepth 100000 in
theorem cW_37 : Cond.code yX4_loneRoll cX4_loneRoll 6 (some .int) ∈ lw_tbl := List.mem_of_getElem? (i := 570) rfl
set_option maxRecDepth 100000 in
theorem cW_38 : Cond.code yX4_isPresent cX4_isPresent 2 (some .boolean) ∈ lw_tbl := List.mem_of_getElem? (i := 442) rfl
set_option maxRecDepth 100000 in
theorem cW_39 : Cond.code yX4_roll cX4_roll 8 none ∈ lw_tbl := List.mem_of_getElem? (i := 446) rfl
set_option maxRecDepth 100000 in
theorem cW_40 : Cond.code yX4_turned cX4_turned 2 (some .int) ∈ lw_tbl := List.mem_of_getElem? (i := 469) rfl
set_option maxRecDepth 100000 in
theorem cW_41 : Cond.code yX4_nextCell cX4_nextCell 3 (some .int) ∈ lw_tbl := List.mem_of_getElem? (i := 457) rfl
set_option maxRecDepth 100000 in
theorem cW_42 : Cond.code yX4_stoneIn cX4_stoneIn 3 (some .int) ∈ lw_tbl := List.mem_of_getElem? (i := 462) rfl
set_option maxRecDepth 100000 in
theorem cW_43 : Cond.code yX4_log cX4_log 4 none ∈ lw_tbl := List.mem_of_getElem? (i := 466) rfl
set_option maxRecDepth 100000 in
theorem cW_44 : Cond.code yX4_nightOf cX4_nightOf 2 (some .int) ∈ lw_tbl := List.mem_of_getElem? (i := 497) rfl
set_option maxRecDepth 100000 in
theorem cW_45 : Cond.code yX4_stoneOf cX4_stoneOf 2 (some .int) ∈ lw_tbl := List.mem_of_getElem? (i := 485) rfl
set_option maxRecDepth 100000 in
theorem cW_46 : Cond.code yX4_wayOfStep cX4_wayOfStep 2 (some .int) ∈ lw_tbl := List.mem_of_getElem? (i := 513) rfl
set_option maxRecDepth 100000 in
theorem cW_47 : Cond.code yX4_stepsOf cX4_stepsOf 4 (some .int) ∈ lw_tbl := List.mem_of_getElem? (i := 481) rfl
set_option maxRecDepth 100000 in
theorem cW_48 : Cond.code yX4_nightsOfStep cX4_nightsOfStep 6 (some .int) ∈ lw_tbl := List.mem_of_getElem? (i := 509) rfl
set_option maxRecDepth 100000 in
theorem cW_49 : Cond.code yX4_furrowsFrom cX4_furrowsFrom 6 (some .int) ∈ lw_tbl := List.mem_of_getElem? (i := 493) rfl
set_option maxRecDepth 100000 in
theorem cW_50 : Cond.code yX4_furrowFrom cX4_furrowFrom 7 (some .int) ∈ lw_tbl := List.mem_of_getElem? (i := 501) rfl
set_option maxRecDepth 100000 in
theorem cW_51 : Cond.code yX4_movedAmong cX4_movedAmong 4 (some .int) ∈ lw_tbl := List.mem_of_getElem? (i := 537) rfl
set_option maxRecDepth 100000 in
theorem cW_52 : Cond.code yX4_keepCellsComeTo cX4_keepCellsComeTo 3 (some (.array .boolean)) ∈ lw_tbl := List.mem_of_getElem? (i := 551) rfl
set_option maxRecDepth 100000 in
theorem cW_53 : Cond.code yX5_stone cX5_stone 4 (some .int) ∈ lw_tbl := List.mem_of_getElem? (i := 340) rfl
set_option maxRecDepth 100000 in
theorem cW_54 : Cond.code yX5_fence cX5_fence 4 (some .int) ∈ lw_tbl := List.mem_of_getElem? (i := 362) rfl
set_option maxRecDepth 100000 in
theorem cW_55 : Cond.code yX5_stake cX5_stake 4 (some .int) ∈ lw_tbl := List.mem_of_getElem? (i := 366) rfl
set_option maxRecDepth 100000 in
theorem cW_56 : Cond.code yX5_night cX5_night 6 (some .int) ∈ lw_tbl := List.mem_of_getElem? (i := 370) rfl
set_option maxRecDepth 100000 in
theorem cW_57 : Cond.code yX5_draw cX5_draw 2 (some .int) ∈ lw_tbl := List.mem_of_getElem? (i := 378) rfl
set_option maxRecDepth 100000 in
theorem cW_58 : Cond.code yX5_weather cX5_weather 3 (some .int) ∈ lw_tbl := List.mem_of_getElem? (i := 397) rfl
set_option maxRecDepth 100000 in
theorem cW_59 : Cond.code yX5_need cX5_need 3 (some .int) ∈ lw_tbl := List.mem_of_getElem? (i := 401) rfl
set_option maxRecDepth 100000 in
theorem cW_60 : Cond.code yX5_lies cX5_lies 3 (some .int) ∈ lw_tbl := List.mem_of_getElem? (i := 409) rfl
set_option maxRecDepth 100000 in
theorem cW_61 : Cond.code yX5_moved cX5_moved 2 (some .int) ∈ lw_tbl := List.mem_of_getElem? (i := 473) rfl
set_option maxRecDepth 100000 in
theorem cW_62 : Cond.code yX5_work cX5_work 3 (some .int) ∈ lw_tbl := List.mem_of_getElem? (i := 477) rfl
set_option maxRecDepth 100000 in
theorem cW_63 : Cond.code yX5_tracks cX5_tracks 5 (some .int) ∈ lw_tbl := List.mem_of_getElem? (i := 489) rfl
set_option maxRecDepth 100000 in
theorem cW_64 : Cond.code yX5_which cX5_which 5 (some .int) ∈ lw_tbl := List.mem_of_getElem? (i := 505) rfl
set_option maxRecDepth 100000 in
theorem cW_65 : Cond.code yX5_found cX5_found 4 (some .int) ∈ lw_tbl := List.mem_of_getElem? (i := 517) rfl
set_option maxRecDepth 100000 in
theorem cW_66 : Cond.code yX5_proof cX5_proof 1 (some .int) ∈ lw_tbl := List.mem_of_getElem? (i := 525) rfl
set_option maxRecDepth 100000 in
theorem cW_67 : Cond.code yX5_watch cX5_watch 6 (some .int) ∈ lw_tbl := List.mem_of_getElem? (i := 533) rfl
set_option maxRecDepth 100000 in
theorem cW_68 : Cond.code yX5_hold cX5_hold 6 (some .int) ∈ lw_tbl := List.mem_of_getElem? (i := 547) rfl
set_option maxRecDepth 100000 in
theorem cW_69 : Cond.code yX5_spring cX5_spring 9 (some .int) ∈ lw_tbl := List.mem_of_getElem? (i := 559) rfl
set_option maxRecDepth 100000 in
theorem cW_70 : Cond.code yX5_alone cX5_alone 4 (some .int) ∈ lw_tbl := List.mem_of_getElem? (i := 583) rfl
set_option maxRecDepth 100000 in
theorem cW_71 : Cond.code yX5_met cX5_met 2 (some .int) ∈ lw_tbl := List.mem_of_getElem? (i := 587) rfl
set_option maxRecDepth 100000 in
theorem cW_72 : Cond.code yX5_steer cX5_steer 9 (some .int) ∈ lw_tbl := List.mem_of_getElem? (i := 591) rfl
set_option maxRecDepth 100000 in
theorem cW_73 : Cond.code yX5_guess cX5_guess 4 (some .int) ∈ lw_tbl := List.mem_of_getElem? (i := 599) rfl
set_option maxRecDepth 100000 in
theorem cW_74 : Cond.code yX5_guessWay cX5_guessWay 4 (some .int) ∈ lw_tbl := List.mem_of_getElem? (i := 626) rfl
set_option maxRecDepth 100000 in
theorem cW_75 : Cond.code yX5_seeds cX5_seeds 4 (some .int) ∈ lw_tbl := List.mem_of_getElem? (i := 630) rfl
set_option maxRecDepth 100000 in
theorem cW_76 : Cond.code yX5_type cX5_type 5 (some .int) ∈ lw_tbl := List.mem_of_getElem? (i := 634) rfl
set_option maxRecDepth 100000 in
theorem cW_77 : Cond.code yX5_clear cX5_clear 2 (some .int) ∈ lw_tbl := List.mem_of_getElem? (i := 638) rfl
set_option maxRecDepth 100000 in
theorem cW_78 : Cond.code yX5_fault cX5_fault 1 (some .int) ∈ lw_tbl := List.mem_of_getElem? (i := 642) rfl
set_option maxRecDepth 100000 in
theorem cW_79 : Cond.code yX5_claims cX5_claims 2 (some .int) ∈ lw_tbl := List.mem_of_getElem? (i := 746) rfl
set_option maxRecDepth 100000 in
theorem cW_80 : Cond.code yX5_owed cX5_owed 3 (some .int) ∈ lw_tbl := List.mem_of_getElem? (i := 758) rfl
set_option maxRecDepth 100000 in
theorem cW_81 : Cond.code yX5_net cX5_net 2 (some .int) ∈ lw_tbl := List.mem_of_getElem? (i := 768) rfl
set_option maxRecDepth 100000 in
theorem cW_82 : Cond.code yX5_fewest cX5_fewest 1 (some .int) ∈ lw_tbl := List.mem_of_getElem? (i := 777) rfl
set_option maxRecDepth 100000 in
theorem cW_83 : Cond.code yX5_part cX5_part 2 (some .long) ∈ lw_tbl := List.mem_of_getElem? (i := 791) rfl
set_option maxRecDepth 100000 in
theorem cW_84 : Cond.code yX5_image cX5_image 2 (some .int) ∈ lw_tbl := List.mem_of_getElem? (i := 795) rfl
set_option maxRecDepth 100000 in
theorem cW_85 : Cond.code yX5_from cX5_from 2 (some .int) ∈ lw_tbl := List.mem_of_getElem? (i := 805) rfl
set_option maxRecDepth 100000 in
theorem cW_86 : Cond.code yX5_status cX5_status 2 (some .int) ∈ lw_tbl := List.mem_of_getElem? (i := 809) rfl
set_option maxRecDepth 100000 in
theorem cW_87 : Cond.code yX5_count cX5_count 2 (some .int) ∈ lw_tbl := List.mem_of_getElem? (i := 813) rfl
set_option maxRecDepth 100000 in
theorem cW_88 : Cond.code yX5_digest cX5_digest 3 (some .long) ∈ lw_tbl := List.mem_of_getElem? (i := 829) rfl
set_option maxRecDepth 100000 in
theorem cW_89 : Cond.code yX5_within cX5_within 2 (some .boolean) ∈ lw_tbl := List.mem_of_getElem? (i := 343) rfl
set_option maxRecDepth 100000 in
theorem cW_90 : Cond.code yX5_isStone cX5_isStone 2 (some .boolean) ∈ lw_tbl := List.mem_of_getElem? (i := 405) rfl
set_option maxRecDepth 100000 in
theorem cW_91 : Cond.code yX5_isBehind cX5_isBehind 1 (some .boolean) ∈ lw_tbl := List.mem_of_getElem? (i := 412) rfl
set_option maxRecDepth 100000 in
theorem cW_92 : Cond.code yX5_refuse cX5_refuse 3 (some .int) ∈ lw_tbl := List.mem_of_getElem? (i := 347) rfl
set_option maxRecDepth 100000 in
theorem cW_93 : Cond.code yX5_walkAll cX5_walkAll 2 none ∈ lw_tbl := List.mem_of_getElem? (i := 416) rfl
set_option maxRecDepth 100000 in
theorem cW_94 : Cond.code yX5_cellWithStake cX5_cellWithStake 4 (some .int) ∈ lw_tbl := List.mem_of_getElem? (i := 555) rfl
set_option maxRecDepth 100000 in
theorem cW_95 : Cond.code yX5_cellWithFence cX5_cellWithFence 6 (some .int) ∈ lw_tbl := List.mem_of_getElem? (i := 595) rfl
set_option maxRecDepth 100000 in
theorem cW_96 : Cond.code yX5_spread cX5_spread 6 none ∈ lw_tbl := List.mem_of_getElem? (i := 566) rfl
set_option maxRecDepth 100000 in
theorem cW_97 : Cond.code yX5_tryAllWeather cX5_tryAllWeather 6 (some .int) ∈ lw_tbl := List.mem_of_getElem? (i := 603) rfl
set_option maxRecDepth 100000 in
theorem cW_98 : Cond.code yX5_pushFits cX5_pushFits 4 (some .boolean) ∈ lw_tbl := List.mem_of_getElem? (i := 618) rfl
set_option maxRecDepth 100000 in
theorem cW_99 : Cond.code yX5_countFitting cX5_countFitting 5 (some .int) ∈ lw_tbl := List.mem_of_getElem? (i := 622) rfl
set_option maxRecDepth 100000 in
theorem cW_100 : Cond.code yX5_settle cX5_settle 1 (some .boolean) ∈ lw_tbl := List.mem_of_getElem? (i := 750) rfl
set_option maxRecDepth 100000 in
theorem cW_101 : Cond.code yX5_setFraction cX5_setFraction 7 none ∈ lw_tbl := List.mem_of_getElem? (i := 576) rfl
set_option maxRecDepth 100000 in
theorem cW_102 : Cond.code yX5_commonDivisor cX5_commonDivisor 7 (some .long) ∈ lw_tbl := List.mem_of_getElem? (i := 579) rfl
set_option maxRecDepth 100000 in
theorem cW_103 : Cond.code yX6_in cX6_in 6 (some .boolean) ∈ lw_tbl := List.mem_of_getElem? (i := 939) rfl
set_option maxRecDepth 100000 in
theorem cW_104 : Cond.code yX6_refuses cX6_refuses 3 (some .int) ∈ lw_tbl := List.mem_of_getElem? (i := 960) rfl
set_option maxRecDepth 100000 in
theorem cW_105 : Cond.code yX6_bad cX6_bad 1 (some .int) ∈ lw_tbl := List.mem_of_getElem? (i := 956) rfl
set_option maxRecDepth 100000 in
theorem cW_106 : Cond.code yX6_no cX6_no 1 (some .int) ∈ lw_tbl := List.mem_of_getElem? (i := 977) rfl
set_option maxRecDepth 100000 in
theorem cW_107 : Cond.code yX6_full cX6_full 1 (some .int) ∈ lw_tbl := List.mem_of_getElem? (i := 964) rfl
set_option maxRecDepth 100000 in
theorem cW_108 : Cond.code yX6_divisor cX6_divisor 10 (some .long) ∈ lw_tbl := List.mem_of_getElem? (i := 1102) rfl
set_option maxRecDepth 100000 in
theorem cW_109 : Cond.code yX6_tells cX6_tells 7 (some .int) ∈ lw_tbl := List.mem_of_getElem? (i := 1099) rfl
set_option maxRecDepth 100000 in
theorem cW_110 : Cond.code yX6_isStone cX6_isStone 2 (some .boolean) ∈ lw_tbl := List.mem_of_getElem? (i := 1023) rfl
set_option maxRecDepth 100000 in
theorem cW_111 : Cond.code yX6_isCell cX6_isCell 1 (some .boolean) ∈ lw_tbl := List.mem_of_getElem? (i := 942) rfl
set_option maxRecDepth 100000 in
theorem cW_112 : Cond.code yX6_isNight cX6_isNight 1 (some .boolean) ∈ lw_tbl := List.mem_of_getElem? (i := 984) rfl
set_option maxRecDepth 100000 in
theorem cW_113 : Cond.code yX6_ofStone cX6_ofStone 3 (some .int) ∈ lw_tbl := List.mem_of_getElem? (i := 952) rfl
set_option maxRecDepth 100000 in
theorem cW_114 : Cond.code yX6_ofNight cX6_ofNight 3 (some .int) ∈ lw_tbl := List.mem_of_getElem? (i := 1011) rfl
set_option maxRecDepth 100000 in
theorem cW_115 : Cond.code yX6_isFirst cX6_isFirst 4 (some .boolean) ∈ lw_tbl := List.mem_of_getElem? (i := 948) rfl
set_option maxRecDepth 100000 in
theorem cW_116 : Cond.code yX6_stone cX6_stone 5 (some .int) ∈ lw_tbl := List.mem_of_getElem? (i := 935) rfl
set_option maxRecDepth 100000 in
theorem cW_117 : Cond.code yX6_fence cX6_fence 4 (some .int) ∈ lw_tbl := List.mem_of_getElem? (i := 968) rfl
set_option maxRecDepth 100000 in
theorem cW_118 : Cond.code yX6_stake cX6_stake 3 (some .int) ∈ lw_tbl := List.mem_of_getElem? (i := 973) rfl
set_option maxRecDepth 100000 in
theorem cW_119 : Cond.code yX6_night cX6_night 6 (some .int) ∈ lw_tbl := List.mem_of_getElem? (i := 981) rfl
set_option maxRecDepth 100000 in
theorem cW_120 : Cond.code yX6_sets cX6_sets 6 none ∈ lw_tbl := List.mem_of_getElem? (i := 990) rfl
set_option maxRecDepth 100000 in
theorem cW_121 : Cond.code yX6_wetOf cX6_wetOf 2 (some .int) ∈ lw_tbl := List.mem_of_getElem? (i := 1015) rfl
set_option maxRecDepth 100000 in
theorem cW_122 : Cond.code yX6_draws cX6_draws 7 none ∈ lw_tbl := List.mem_of_getElem? (i := 999) rfl
set_option maxRecDepth 100000 in
theorem cW_123 : Cond.code yX6_draw cX6_draw 2 (some .int) ∈ lw_tbl := List.mem_of_getElem? (i := 994) rfl
set_option maxRecDepth 100000 in
theorem cW_124 : Cond.code yX6_weather cX6_weather 3 (some .int) ∈ lw_tbl := List.mem_of_getElem? (i := 1007) rfl
set_option maxRecDepth 100000 in
theorem cW_125 : Cond.code yX6_needOf cX6_needOf 6 (some .int) ∈ lw_tbl := List.mem_of_getElem? (i := 1027) rfl
set_option maxRecDepth 100000 in
theorem cW_126 : Cond.code yX6_need cX6_need 3 (some .int) ∈ lw_tbl := List.mem_of_getElem? (i := 1019) rfl
set_option maxRecDepth 100000 in
theorem cW_127 : Cond.code yX6_stoneAt cX6_stoneAt 4 (some .int) ∈ lw_tbl := List.mem_of_getElem? (i := 1047) rfl
set_option maxRecDepth 100000 in
theorem cW_128 : Cond.code yX6_next cX6_next 4 (some .int) ∈ lw_tbl := List.mem_of_getElem? (i := 1043) rfl
set_option maxRecDepth 100000 in
theorem cW_129 : Cond.code yX6_rolls cX6_rolls 11 none ∈ lw_tbl := List.mem_of_getElem? (i := 1040) rfl
set_option maxRecDepth 100000 in
theorem cW_130 : Cond.code yX6_goes cX6_goes 6 none ∈ lw_tbl := List.mem_of_getElem? (i := 1036) rfl
set_option maxRecDepth 100000 in
theorem cW_131 : Cond.code yX6_lies cX6_lies 3 (some .int) ∈ lw_tbl := List.mem_of_getElem? (i := 1031) rfl
set_option maxRecDepth 100000 in
theorem cW_132 : Cond.code yX6_movedIn cX6_movedIn 4 (some .int) ∈ lw_tbl := List.mem_of_getElem? (i := 1055) rfl
set_option maxRecDepth 100000 in
theorem cW_133 : Cond.code yX6_moved cX6_moved 2 (some .int) ∈ lw_tbl := List.mem_of_getElem? (i := 1051) rfl
set_option maxRecDepth 100000 in
theorem cW_134 : Cond.code yX6_work cX6_work 3 (some .int) ∈ lw_tbl := List.mem_of_getElem? (i := 1059) rfl
set_option maxRecDepth 100000 in
theorem cW_135 : Cond.code yX6_tracks cX6_tracks 8 (some .int) ∈ lw_tbl := List.mem_of_getElem? (i := 1063) rfl
set_option maxRecDepth 100000 in
theorem cW_136 : Cond.code yX6_which cX6_which 7 (some .int) ∈ lw_tbl := List.mem_of_getElem? (i := 1067) rfl
set_option maxRecDepth 100000 in
theorem cW_137 : Cond.code yX6_found cX6_found 5 (some .int) ∈ lw_tbl := List.mem_of_getElem? (i := 1071) rfl
set_option maxRecDepth 100000 in
theorem cW_138 : Cond.code yX6_proves cX6_proves 3 (some .int) ∈ lw_tbl := List.mem_of_getElem? (i := 1079) rfl
set_option maxRecDepth 100000 in
theorem cW_139 : Cond.code yX6_proof cX6_proof 1 (some .int) ∈ lw_tbl := List.mem_of_getElem? (i := 1075) rfl
set_option maxRecDepth 100000 in
theorem cW_140 : Cond.code yX6_bits cX6_bits 3 (some .int) ∈ lw_tbl := List.mem_of_getElem? (i := 1086) rfl
set_option maxRecDepth 100000 in
theorem cW_141 : Cond.code yX6_watch cX6_watch 7 (some .int) ∈ lw_tbl := List.mem_of_getElem? (i := 1083) rfl
set_option maxRecDepth 100000 in
theorem cW_142 : Cond.code yX6_hold cX6_hold 5 (some .int) ∈ lw_tbl := List.mem_of_getElem? (i := 1090) rfl
set_option maxRecDepth 100000 in
theorem cW_143 : Cond.code yX6_spring cX6_spring 11 (some .int) ∈ lw_tbl := List.mem_of_getElem? (i := 1094) rfl
set_option maxRecDepth 100000 in
theorem cW_144 : Cond.code yX6_alone cX6_alone 4 (some .int) ∈ lw_tbl := List.mem_of_getElem? (i := 1106) rfl
set_option maxRecDepth 100000 in
theorem cW_145 : Cond.code yX6_met cX6_met 2 (some .int) ∈ lw_tbl := List.mem_of_getElem? (i := 1110) rfl
set_option maxRecDepth 100000 in
theorem cW_146 : Cond.code yX6_steer cX6_steer 8 (some .int) ∈ lw_tbl := List.mem_of_getElem? (i := 1114) rfl
set_option maxRecDepth 100000 in
theorem cW_147 : Cond.code yX6_isAnyFound cX6_isAnyFound 1 (some .boolean) ∈ lw_tbl := List.mem_of_getElem? (i := 1122) rfl
set_option maxRecDepth 100000 in
theorem cW_148 : Cond.code yX6_guesses cX6_guesses 9 none ∈ lw_tbl := List.mem_of_getElem? (i := 1126) rfl
set_option maxRecDepth 100000 in
theorem cW_149 : Cond.code yX6_guess cX6_guess 3 (some .int) ∈ lw_tbl := List.mem_of_getElem? (i := 1118) rfl
set_option maxRecDepth 100000 in
theorem cW_150 : Cond.code yX6_guessWay cX6_guessWay 3 (some .int) ∈ lw_tbl := List.mem_of_getElem? (i := 1130) rfl
set_option maxRecDepth 100000 in
theorem cW_151 : Cond.code yX6_seeds cX6_seeds 5 (some .int) ∈ lw_tbl := List.mem_of_getElem? (i := 1134) rfl
set_option maxRecDepth 100000 in
theorem cW_152 : Cond.code yX6_type cX6_type 5 (some .int) ∈ lw_tbl := List.mem_of_getElem? (i := 1139) rfl
set_option maxRecDepth 100000 in
theorem cW_153 : Cond.code yX6_clear cX6_clear 2 (some .int) ∈ lw_tbl := List.mem_of_getElem? (i := 1144) rfl
set_option maxRecDepth 100000 in
theorem cW_154 : Cond.code yX6_isAt cX6_isAt 3 (some .boolean) ∈ lw_tbl := List.mem_of_getElem? (i := 1160) rfl
set_option maxRecDepth 100000 in
theorem cW_155 : Cond.code yX6_scans cX6_scans 3 none ∈ lw_tbl := List.mem_of_getElem? (i := 1156) rfl
set_option maxRecDepth 100000 in
theorem cW_156 : Cond.code yX6_isNumber cX6_isNumber 3 (some .boolean) ∈ lw_tbl := List.mem_of_getElem? (i := 1171) rfl
set_option maxRecDepth 100000 in
theorem cW_157 : Cond.code yX6_mostOf cX6_mostOf 2 (some .int) ∈ lw_tbl := List.mem_of_getElem? (i := 1167) rfl
set_option maxRecDepth 100000 in
theorem cW_158 : Cond.code yX6_reads cX6_reads 3 (some .boolean) ∈ lw_tbl := List.mem_of_getElem? (i := 1152) rfl
set_option maxRecDepth 100000 in
theorem cW_159 : Cond.code yX6_fault cX6_fault 1 (some .int) ∈ lw_tbl := List.mem_of_getElem? (i := 1148) rfl
set_option maxRecDepth 100000 in
theorem cW_160 : Cond.code yX6_judges cX6_judges 6 none ∈ lw_tbl := List.mem_of_getElem? (i := 1180) rfl
set_option maxRecDepth 100000 in
theorem cW_161 : Cond.code yX6_claims cX6_claims 4 (some .int) ∈ lw_tbl := List.mem_of_getElem? (i := 1175) rfl
set_option maxRecDepth 100000 in
theorem cW_162 : Cond.code yX6_owedBy cX6_owedBy 5 (some .int) ∈ lw_tbl := List.mem_of_getElem? (i := 1194) rfl
set_option maxRecDepth 100000 in
theorem cW_163 : Cond.code yX6_isFarmer cX6_isFarmer 1 (some .boolean) ∈ lw_tbl := List.mem_of_getElem? (i := 1187) rfl
set_option maxRecDepth 100000 in
theorem cW_164 : Cond.code yX6_owed cX6_owed 3 (some .int) ∈ lw_tbl := List.mem_of_getElem? (i := 1184) rfl
set_option maxRecDepth 100000 in
theorem cW_165 : Cond.code yX6_netOf cX6_netOf 4 (some .int) ∈ lw_tbl := List.mem_of_getElem? (i := 1202) rfl
set_option maxRecDepth 100000 in
theorem cW_166 : Cond.code yX6_net cX6_net 2 (some .int) ∈ lw_tbl := List.mem_of_getElem? (i := 1198) rfl
set_option maxRecDepth 100000 in
theorem cW_167 : Cond.code yX6_fewest cX6_fewest 7 (some .int) ∈ lw_tbl := List.mem_of_getElem? (i := 1206) rfl
set_option maxRecDepth 100000 in
theorem cW_168 : Cond.code yX6_part cX6_part 2 (some .long) ∈ lw_tbl := List.mem_of_getElem? (i := 1210) rfl
set_option maxRecDepth 100000 in
theorem cW_169 : Cond.code yX6_image cX6_image 3 (some .int) ∈ lw_tbl := List.mem_of_getElem? (i := 1214) rfl
set_option maxRecDepth 100000 in
theorem cW_170 : Cond.code yX6_from cX6_from 3 (some .int) ∈ lw_tbl := List.mem_of_getElem? (i := 1218) rfl
set_option maxRecDepth 100000 in
theorem cW_171 : Cond.code yX6_status cX6_status 2 (some .int) ∈ lw_tbl := List.mem_of_getElem? (i := 1222) rfl
set_option maxRecDepth 100000 in
theorem cW_172 : Cond.code yX6_countOf cX6_countOf 5 (some .int) ∈ lw_tbl := List.mem_of_getElem? (i := 1230) rfl
set_option maxRecDepth 100000 in
theorem cW_173 : Cond.code yX6_count cX6_count 2 (some .int) ∈ lw_tbl := List.mem_of_getElem? (i := 1226) rfl
set_option maxRecDepth 100000 in
theorem cW_174 : Cond.code yX6_digest cX6_digest 5 (some .long) ∈ lw_tbl := List.mem_of_getElem? (i := 1234) rfl
set_option maxRecDepth 100000 in
theorem cW_175 : Cond.code yJ6_numberOfTrailingZeros_0f7a4 cJ6_numberOfTrailingZeros_0f7a4 2 (some .int) ∈ lw_tbl := List.mem_of_getElem? (i := 784) rfl
set_option maxRecDepth 100000 in
theorem cW_176 : Cond.code yJ6_bitCount_0f7a4 cJ6_bitCount_0f7a4 1 (some .int) ∈ lw_tbl := List.mem_of_getElem? (i := 540) rfl
set_option maxRecDepth 100000 in
theorem cW_177 : Cond.code yJ7_fill_d0a16 cJ7_fill_d0a16 5 none ∈ lw_tbl := List.mem_of_getElem? (i := 562) rfl
set_option maxRecDepth 100000 in
theorem cW_178 : Cond.code yJ7_fill_53178 cJ7_fill_53178 4 none ∈ lw_tbl := List.mem_of_getElem? (i := 119) rfl
