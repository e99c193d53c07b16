def pj_T0 : pj_TT := ([(10, [11, 0, 452]), (19, [11, 1, 453]), (26, [11, 2, 454]), (35, [11, 3, 455]), (42, [11, 4, 456]), (49, [11, 5, 457]), (56, [11, 6, 458]), (63, [11, 7, 459]), (79, [10, 1, 301]), (102, [10, 0, 299]), (105, [5, 1, 179]), (113, [10, 2, 305]), (117, [8, 0, 223]), (129, [8, 5, 243]), (132, [10, 3, 309]), (152, [5, 2, 182]), (156, [5, 3, 184]), (159, [5, 4, 186]), (162, [5, 5, 190]), (176, [10, 4, 314]), (179, [8, 3, 237]), (182, [8, 1, 230]), (185, [8, 2, 233]), (188, [8, 4, 240]), (196, [8, 6, 247]), (199, [10, 5, 316]), (229, [10, 7, 318]), (232, [10, 8, 320]), (239, [8, 7, 251]), (243, [8, 8, 253]), (250, [0, 3, 415]), (253, [4, 2, 437]), (322, [5, 0, 175]), (370, [2, 3, 394]), (403, [4, 3, 439]), (419, [6, 1, 153]), (420, [9, 1, 128]), (423, [6, 0, 151])], [(67, [0, 2, 77, 9, 481]), (71, [0, 2, 78, 9, 489]), (75, [0, 2, 79, 9, 497]), (83, [0, 2, 41, 5, 504]), (89, [0, 1, 88, 9, 537]), (96, [0, 1, 90, 10, 544]), (99, [0, 1, 37, 4, 552]), (109, [0, 2, 91, 10, 564]), (122, [0, 2, 161, 11, 572]), (126, [0, 2, 92, 10, 581]), (136, [0, 2, 58, 7, 590]), (139, [0, 1, 59, 7, 733]), (142, [0, 2, 94, 10, 1113]), (165, [0, 2, 70, 8, 1348]), (168, [0, 2, 71, 8, 1349]), (171, [0, 2, 95, 10, 1114]), (191, [0, 2, 96, 10, 920]), (202, [0, 5, 97, 10, 742]), (206, [0, 3, 99, 10, 755]), (210, [0, 2, 33, 4, 801]), (214, [0, 3, 102, 10, 812]), (217, [0, 2, 34, 4, 817]), (220, [0, 3, 103, 10, 826]), (223, [0, 3, 104, 10, 835]), (226, [0, 2, 105, 10, 852]), (235, [0, 3, 56, 6, 864]), (242, [0, 2, 1, 0, 880]), (246, [0, 2, 3, 0, 895]), (254, [0, 1, 35, 4, 911]), (258, [0, 2, 68, 8, 915]), (261, [0, 2, 93, 10, 921]), (264, [0, 3, 108, 10, 925]), (267, [0, 4, 50, 5, 929]), (271, [0, 1, 53, 6, 940]), (274, [0, 6, 51, 5, 941]), (278, [0, 2, 49, 5, 955]), (281, [0, 2, 55, 6, 969]), (285, [0, 3, 47, 5, 973]), (292, [0, 3, 45, 5, 979]), (295, [0, 4, 48, 5, 984]), (299, [0, 5, 112, 10, 988]), (303, [0, 5, 113, 10, 1002]), (306, [0, 2, 69, 8, 1015]), (312, [0, 1, 23, 3, 1026]), (315, [0, 3, 24, 3, 1030]), (318, [0, 4, 25, 3, 1035]), (325, [0, 2, 27, 3, 1050]), (328, [0, 2, 30, 3, 1054]), (332, [0, 2, 31, 3, 1073]), (335, [0, 2, 28, 3, 1082]), (338, [0, 2, 109, 10, 1093]), (353, [0, 3, 6, 1, 1115]), (356, [0, 4, 7, 1, 1119]), (360, [0, 3, 10, 1, 1128]), (364, [0, 1, 9, 1, 1140]), (367, [0, 4, 17, 2, 1148]), (371, [0, 1, 20, 2, 1163]), (377, [0, 3, 21, 2, 1180]), (386, [0, 2, 115, 10, 1212]), (392, [0, 4, 12, 1, 1221]), (396, [0, 3, 38, 4, 1247]), (400, [0, 3, 39, 4, 1255]), (407, [0, 1, 36, 4, 576]), (410, [0, 1, 73, 8, 1263]), (413, [0, 1, 74, 8, 1267]), (416, [0, 1, 75, 8, 1271])], [(1, [6, 1, 0, 0, 117, 118, 119]), (9, [4, 1, 76, 0, 122]), (18, [4, 1, 52, 0, 146]), (25, [4, 1, 89, 0, 162]), (32, [4, 2, 22, 0, 343]), (41, [4, 2, 5, 0, 365]), (48, [4, 2, 15, 0, 386]), (55, [4, 1, 0, 0, 407]), (62, [4, 1, 32, 0, 427])], [(93, [2, 1, 162, 0, 541]), (288, [2, 2, 163, 0, 978]), (309, [2, 2, 164, 0, 1023]), (343, [2, 1, 287, 0, 1107]), (348, [11, 0, 0, 0, 1108, 502, 100, 503]), (374, [2, 2, 16, 0, 1179]), (380, [2, 4, 165, 0, 1191]), (383, [2, 3, 167, 0, 1202]), (389, [10, 0, 0, 0, 1216, 686, 100, 687]), (427, [2, 3, 166, 0, 1205])])
set_option maxRecDepth 100000 in
theorem pj_TA0_0 : pj_T0.1.all (fun e => pj_okf "BridgesAreLent" e.1 (e.2.getD 0 0) (e.2.getD 1 0) (e.2.getD 2 0)) = true := by decide +kernel
set_option maxRecDepth 100000 in
theorem pj_TA0_1 : pj_T0.2.1.all (fun e => pj_okvL "BridgesAreLent" e.1 e.2) = true := by decide +kernel
set_option maxRecDepth 100000 in
theorem pj_TA0_2 : pj_T0.2.2.1.all (fun e => pj_okcL "BridgesAreLent" e.1 e.2) = true := by decide +kernel
set_option maxRecDepth 100000 in
theorem pj_TA0_3 : pj_T0.2.2.2.all (fun e => pj_oksL "BridgesAreLent" e.1 e.2) = true := by decide +kernel
theorem pj_TH0 : pj_TH "BridgesAreLent" pj_T0 := ⟨List.all_eq_true.mp pj_TA0_0, List.all_eq_true.mp pj_TA0_1, List.all_eq_true.mp pj_TA0_2, List.all_eq_true.mp pj_TA0_3⟩
def pj_T1 : pj_TT := ([(11, [0, 0, 411]), (15, [0, 1, 412]), (18, [0, 2, 413]), (21, [0, 3, 414]), (65, [10, 2, 306]), (69, [8, 7, 250])], [(25, [0, 1, 80, 9, 884]), (31, [0, 3, 2, 0, 885]), (35, [0, 2, 82, 9, 892]), (41, [0, 2, 84, 9, 890]), (45, [0, 3, 83, 9, 891]), (49, [0, 2, 86, 9, 893]), (53, [0, 1, 81, 9, 894]), (56, [0, 3, 4, 0, 899]), (60, [0, 3, 102, 10, 903]), (74, [0, 3, 103, 10, 904]), (77, [0, 3, 104, 10, 905]), (80, [0, 2, 105, 10, 906])], [(3, [6, 1, 0, 0, 410, 118, 119])], [])
set_option maxRecDepth 100000 in
theorem pj_TA1_0 : pj_T1.1.all (fun e => pj_okf "BridgesAreLent$Day" e.1 (e.2.getD 0 0) (e.2.getD 1 0) (e.2.getD 2 0)) = true := by decide +kernel
set_option maxRecDepth 100000 in
theorem pj_TA1_1 : pj_T1.2.1.all (fun e => pj_okvL "BridgesAreLent$Day" e.1 e.2) = true := by decide +kernel
set_option maxRecDepth 100000 in
theorem pj_TA1_2 : pj_T1.2.2.1.all (fun e => pj_okcL "BridgesAreLent$Day" e.1 e.2) = true := by decide +kernel
set_option maxRecDepth 100000 in
theorem pj_TA1_3 : pj_T1.2.2.2.all (fun e => pj_oksL "BridgesAreLent$Day" e.1 e.2) = true := by decide +kernel
theorem pj_TH1 : pj_TH "BridgesAreLent$Day" pj_T1 := ⟨List.all_eq_true.mp pj_TA1_0, List.all_eq_true.mp pj_TA1_1, List.all_eq_true.mp pj_TA1_2, List.all_eq_true.mp pj_TA1_3⟩
def pj_T2 : pj_TT := ([(12, [1, 1, 372]), (18, [1, 2, 373]), (22, [1, 3, 374]), (26, [1, 0, 371]), (30, [10, 0, 298]), (36, [5, 6, 194]), (48, [5, 1, 178]), (52, [5, 7, 196]), (65, [10, 2, 307]), (72, [8, 0, 226]), (93, [8, 1, 229]), (103, [10, 4, 313]), (106, [5, 5, 191])], [(42, [0, 2, 8, 1, 1123]), (59, [0, 3, 56, 6, 1135]), (68, [0, 2, 68, 8, 1225]), (76, [0, 2, 13, 1, 1227]), (80, [0, 1, 14, 1, 1237]), (90, [0, 2, 69, 8, 1231]), (96, [0, 2, 43, 5, 1232]), (100, [0, 2, 72, 8, 1236]), (109, [0, 2, 49, 5, 1241])], [(3, [6, 1, 0, 0, 368, 118, 119]), (11, [4, 1, 67, 0, 370])], [(55, [2, 2, 11, 0, 1132]), (84, [11, 0, 0, 0, 1242, 502, 100, 503])])
set_option maxRecDepth 100000 in
theorem pj_TA2_0 : pj_T2.1.all (fun e => pj_okf "BridgesAreLent$Drifting" e.1 (e.2.getD 0 0) (e.2.getD 1 0) (e.2.getD 2 0)) = true := by decide +kernel
set_option maxRecDepth 100000 in
theorem pj_TA2_1 : pj_T2.2.1.all (fun e => pj_okvL "BridgesAreLent$Drifting" e.1 e.2) = true := by decide +kernel
set_option maxRecDepth 100000 in
theorem pj_TA2_2 : pj_T2.2.2.1.all (fun e => pj_okcL "BridgesAreLent$Drifting" e.1 e.2) = true := by decide +kernel
set_option maxRecDepth 100000 in
theorem pj_TA2_3 : pj_T2.2.2.2.all (fun e => pj_oksL "BridgesAreLent$Drifting" e.1 e.2) = true := by decide +kernel
theorem pj_TH2 : pj_TH "BridgesAreLent$Drifting" pj_T2 := ⟨List.all_eq_true.mp pj_TA2_0, List.all_eq_true.mp pj_TA2_1, List.all_eq_true.mp pj_TA2_2, List.all_eq_true.mp pj_TA2_3⟩
def pj_T3 : pj_TT := ([(11, [2, 1, 391]), (15, [2, 2, 392]), (19, [2, 0, 390]), (27, [2, 3, 393]), (31, [10, 4, 312]), (36, [10, 2, 304]), (40, [8, 3, 236]), (48, [8, 0, 224])], [(45, [0, 3, 18, 2, 1171]), (51, [0, 2, 19, 2, 1167])], [(5, [6, 1, 0, 0, 389, 118, 119])], [(23, [2, 2, 16, 0, 1152]), (55, [2, 2, 163, 0, 1184]), (58, [2, 1, 287, 0, 1185]), (64, [10, 0, 0, 0, 1186, 686, 100, 687])])
set_option maxRecDepth 100000 in
theorem pj_TA3_0 : pj_T3.1.all (fun e => pj_okf "BridgesAreLent$Finds" e.1 (e.2.getD 0 0) (e.2.getD 1 0) (e.2.getD 2 0)) = true := by decide +kernel
set_option maxRecDepth 100000 in
theorem pj_TA3_1 : pj_T3.2.1.all (fun e => pj_okvL "BridgesAreLent$Finds" e.1 e.2) = true := by decide +kernel
set_option maxRecDepth 100000 in
theorem pj_TA3_2 : pj_T3.2.2.1.all (fun e => pj_okcL "BridgesAreLent$Finds" e.1 e.2) = true := by decide +kernel
set_option maxRecDepth 100000 in
theorem pj_TA3_3 : pj_T3.2.2.2.all (fun e => pj_oksL "BridgesAreLent$Finds" e.1 e.2) = true := by decide +kernel
theorem pj_TH3 : pj_TH "BridgesAreLent$Finds" pj_T3 := ⟨List.all_eq_true.mp pj_TA3_0, List.all_eq_true.mp pj_TA3_1, List.all_eq_true.mp pj_TA3_2, List.all_eq_true.mp pj_TA3_3⟩
def pj_T4 : pj_TT := ([(9, [3, 1, 348]), (15, [3, 3, 350]), (18, [3, 4, 351]), (21, [3, 0, 347]), (25, [10, 0, 297]), (31, [5, 1, 177]), (37, [5, 5, 189]), (40, [10, 2, 303]), (44, [8, 0, 222]), (49, [10, 4, 311]), (75, [3, 2, 349]), (78, [5, 0, 174])], [(62, [0, 4, 26, 3, 1040]), (66, [0, 2, 54, 6, 1045]), (72, [0, 3, 24, 3, 1044]), (81, [0, 3, 87, 9, 1086]), (87, [0, 1, 81, 9, 1087]), (90, [0, 2, 82, 9, 1088]), (97, [0, 3, 47, 5, 1067]), (100, [0, 1, 23, 3, 1058]), (104, [0, 2, 29, 3, 1059]), (107, [0, 2, 55, 6, 1068]), (110, [0, 2, 49, 5, 1077])], [(3, [6, 1, 0, 0, 346, 118, 119])], [(52, [2, 1, 287, 0, 1034]), (58, [2, 2, 163, 0, 1039]), (94, [2, 1, 286, 0, 1063])])
set_option maxRecDepth 100000 in
theorem pj_TA4_0 : pj_T4.1.all (fun e => pj_okf "BridgesAreLent$Layouts" e.1 (e.2.getD 0 0) (e.2.getD 1 0) (e.2.getD 2 0)) = true := by decide +kernel
set_option maxRecDepth 100000 in
theorem pj_TA4_1 : pj_T4.2.1.all (fun e => pj_okvL "BridgesAreLent$Layouts" e.1 e.2) = true := by decide +kernel
set_option maxRecDepth 100000 in
theorem pj_TA4_2 : pj_T4.2.2.1.all (fun e => pj_okcL "BridgesAreLent$Layouts" e.1 e.2) = true := by decide +kernel
set_option maxRecDepth 100000 in
theorem pj_TA4_3 : pj_T4.2.2.2.all (fun e => pj_oksL "BridgesAreLent$Layouts" e.1 e.2) = true := by decide +kernel
theorem pj_TH4 : pj_TH "BridgesAreLent$Layouts" pj_T4 := ⟨List.all_eq_true.mp pj_TA4_0, List.all_eq_true.mp pj_TA4_1, List.all_eq_true.mp pj_TA4_2, List.all_eq_true.mp pj_TA4_3⟩
def pj_T5 : pj_TT := ([(11, [4, 0, 434]), (15, [4, 3, 438]), (18, [4, 4, 440]), (23, [4, 1, 435]), (31, [4, 2, 436]), (43, [8, 0, 225]), (46, [8, 5, 244])], [(27, [0, 2, 68, 8, 805]), (40, [0, 1, 36, 4, 556])], [(1, [6, 1, 0, 0, 430, 118, 119]), (22, [4, 1, 67, 0, 433])], [(34, [11, 0, 0, 0, 821, 502, 100, 503])])
set_option maxRecDepth 100000 in
theorem pj_TA5_0 : pj_T5.1.all (fun e => pj_okf "BridgesAreLent$Memory" e.1 (e.2.getD 0 0) (e.2.getD 1 0) (e.2.getD 2 0)) = true := by decide +kernel
set_option maxRecDepth 100000 in
theorem pj_TA5_1 : pj_T5.2.1.all (fun e => pj_okvL "BridgesAreLent$Memory" e.1 e.2) = true := by decide +kernel
set_option maxRecDepth 100000 in
theorem pj_TA5_2 : pj_T5.2.2.1.all (fun e => pj_okcL "BridgesAreLent$Memory" e.1 e.2) = true := by decide +kernel
set_option maxRecDepth 100000 in
theorem pj_TA5_3 : pj_T5.2.2.2.all (fun e => pj_oksL "BridgesAreLent$Memory" e.1 e.2) = true := by decide +kernel
theorem pj_TH5 : pj_TH "BridgesAreLent$Memory" pj_T5 := ⟨List.all_eq_true.mp pj_TA5_0, List.all_eq_true.mp pj_TA5_1, List.all_eq_true.mp pj_TA5_2, List.all_eq_true.mp pj_TA5_3⟩
def pj_T6 : pj_TT := ([(9, [5, 2, 181]), (15, [5, 3, 183]), (18, [5, 4, 185]), (21, [5, 5, 188]), (24, [5, 6, 193]), (27, [5, 7, 195]), (36, [5, 0, 172]), (40, [5, 1, 176])], [(30, [0, 3, 83, 9, 508]), (43, [0, 2, 82, 9, 520]), (47, [0, 3, 87, 9, 524]), (50, [0, 2, 86, 9, 529]), (58, [0, 3, 45, 5, 936]), (61, [0, 3, 47, 5, 959]), (69, [0, 4, 46, 5, 945]), (73, [0, 3, 44, 5, 949]), (76, [0, 2, 54, 6, 950])], [(3, [6, 1, 0, 0, 171, 118, 119])], [(54, [2, 2, 163, 0, 933]), (64, [2, 1, 287, 0, 963])])
set_option maxRecDepth 100000 in
theorem pj_TA6_0 : pj_T6.1.all (fun e => pj_okf "BridgesAreLent$River" e.1 (e.2.getD 0 0) (e.2.getD 1 0) (e.2.getD 2 0)) = true := by decide +kernel
set_option maxRecDepth 100000 in
theorem pj_TA6_1 : pj_T6.2.1.all (fun e => pj_okvL "BridgesAreLent$River" e.1 e.2) = true := by decide +kernel
set_option maxRecDepth 100000 in
theorem pj_TA6_2 : pj_T6.2.2.1.all (fun e => pj_okcL "BridgesAreLent$River" e.1 e.2) = true := by decide +kernel
set_option maxRecDepth 100000 in
theorem pj_TA6_3 : pj_T6.2.2.2.all (fun e => pj_oksL "BridgesAreLent$River" e.1 e.2) = true := by decide +kernel
theorem pj_TH6 : pj_TH "BridgesAreLent$River" pj_T6 := ⟨List.all_eq_true.mp pj_TA6_0, List.all_eq_true.mp pj_TA6_1, List.all_eq_true.mp pj_TA6_2, List.all_eq_true.mp pj_TA6_3⟩
def pj_T7 : pj_TT := ([(9, [6, 0, 150]), (15, [6, 1, 152])], [(19, [0, 1, 53, 6, 868]), (22, [0, 2, 54, 6, 872])], [(3, [6, 1, 0, 0, 149, 118, 119])], [])
set_option maxRecDepth 100000 in
theorem pj_TA7_0 : pj_T7.1.all (fun e => pj_okf "BridgesAreLent$Row" e.1 (e.2.getD 0 0) (e.2.getD 1 0) (e.2.getD 2 0)) = true := by decide +kernel
set_option maxRecDepth 100000 in
theorem pj_TA7_1 : pj_T7.2.1.all (fun e => pj_okvL "BridgesAreLent$Row" e.1 e.2) = true := by decide +kernel
set_option maxRecDepth 100000 in
theorem pj_TA7_2 : pj_T7.2.2.1.all (fun e => pj_okcL "BridgesAreLent$Row" e.1 e.2) = true := by decide +kernel
set_option maxRecDepth 100000 in
theorem pj_TA7_3 : pj_T7.2.2.2.all (fun e => pj_oksL "BridgesAreLent$Row" e.1 e.2) = true := by decide +kernel
theorem pj_TH7 : pj_TH "BridgesAreLent$Row" pj_T7 := ⟨List.all_eq_true.mp pj_TA7_0, List.all_eq_true.mp pj_TA7_1, List.all_eq_true.mp pj_TA7_2, List.all_eq_true.mp pj_TA7_3⟩
def pj_T8 : pj_TT := ([(9, [7, 0, 280]), (15, [7, 2, 282]), (18, [7, 4, 284]), (21, [7, 3, 283]), (35, [7, 1, 281])], [(25, [0, 1, 80, 9, 594]), (31, [0, 4, 62, 7, 595]), (44, [0, 3, 63, 7, 599]), (52, [0, 2, 84, 9, 616]), (56, [0, 2, 60, 7, 610]), (60, [0, 2, 82, 9, 603]), (64, [0, 3, 64, 7, 604]), (67, [0, 1, 85, 9, 608]), (71, [0, 2, 86, 9, 609]), (75, [0, 3, 83, 9, 614]), (81, [0, 1, 81, 9, 669]), (84, [8, 2, 290, 0, 670])], [(3, [6, 1, 0, 0, 279, 118, 119])], [(48, [2, 1, 61, 0, 727]), (89, [2, 3, 66, 0, 794])])
set_option maxRecDepth 100000 in
theorem pj_TA8_0 : pj_T8.1.all (fun e => pj_okf "BridgesAreLent$Rule" e.1 (e.2.getD 0 0) (e.2.getD 1 0) (e.2.getD 2 0)) = true := by decide +kernel
set_option maxRecDepth 100000 in
theorem pj_TA8_1 : pj_T8.2.1.all (fun e => pj_okvL "BridgesAreLent$Rule" e.1 e.2) = true := by decide +kernel
set_option maxRecDepth 100000 in
theorem pj_TA8_2 : pj_T8.2.2.1.all (fun e => pj_okcL "BridgesAreLent$Rule" e.1 e.2) = true := by decide +kernel
set_option maxRecDepth 100000 in
theorem pj_TA8_3 : pj_T8.2.2.2.all (fun e => pj_oksL "BridgesAreLent$Rule" e.1 e.2) = true := by decide +kernel
theorem pj_TH8 : pj_TH "BridgesAreLent$Rule" pj_T8 := ⟨List.all_eq_true.mp pj_TA8_0, List.all_eq_true.mp pj_TA8_1, List.all_eq_true.mp pj_TA8_2, List.all_eq_true.mp pj_TA8_3⟩
def pj_T9 : pj_TT := ([(9, [8, 1, 227]), (15, [8, 2, 231]), (18, [8, 3, 234]), (21, [8, 4, 238]), (24, [8, 6, 245]), (27, [8, 0, 220]), (37, [8, 5, 242]), (40, [8, 7, 249]), (43, [8, 8, 252])], [(46, [0, 2, 70, 8, 771]), (50, [0, 2, 71, 8, 775])], [(3, [6, 1, 0, 0, 219, 118, 119])], [(31, [7, 5, 0, 0, 809, 811, 810, 110])])
set_option maxRecDepth 100000 in
theorem pj_TA9_0 : pj_T9.1.all (fun e => pj_okf "BridgesAreLent$State" e.1 (e.2.getD 0 0) (e.2.getD 1 0) (e.2.getD 2 0)) = true := by decide +kernel
set_option maxRecDepth 100000 in
theorem pj_TA9_1 : pj_T9.2.1.all (fun e => pj_okvL "BridgesAreLent$State" e.1 e.2) = true := by decide +kernel
set_option maxRecDepth 100000 in
theorem pj_TA9_2 : pj_T9.2.2.1.all (fun e => pj_okcL "BridgesAreLent$State" e.1 e.2) = true := by decide +kernel
set_option maxRecDepth 100000 in
theorem pj_TA9_3 : pj_T9.2.2.2.all (fun e => pj_oksL "BridgesAreLent$State" e.1 e.2) = true := by decide +kernel
theorem pj_TH9 : pj_TH "BridgesAreLent$State" pj_T9 := ⟨List.all_eq_true.mp pj_TA9_0, List.all_eq_true.mp pj_TA9_1, List.all_eq_true.mp pj_TA9_2, List.all_eq_true.mp pj_TA9_3⟩
def pj_T10 : pj_TT := ([(9, [9, 0, 126]), (15, [9, 4, 131]), (19, [9, 1, 127]), (28, [9, 2, 129]), (31, [9, 3, 130])], [(34, [0, 1, 80, 9, 512]), (38, [0, 1, 81, 9, 516]), (41, [8, 1, 288, 0, 620]), (46, [8, 2, 289, 0, 630]), (50, [0, 2, 82, 9, 668]), (54, [0, 3, 83, 9, 528]), (57, [0, 1, 85, 9, 533])], [(3, [6, 1, 0, 0, 125, 118, 119])], [(22, [11, 0, 0, 0, 501, 502, 100, 503])])
set_option maxRecDepth 100000 in
theorem pj_TA10_0 : pj_T10.1.all (fun e => pj_okf "BridgesAreLent$Text" e.1 (e.2.getD 0 0) (e.2.getD 1 0) (e.2.getD 2 0)) = true := by decide +kernel
set_option maxRecDepth 100000 in
theorem pj_TA10_1 : pj_T10.2.1.all (fun e => pj_okvL "BridgesAreLent$Text" e.1 e.2) = true := by decide +kernel
set_option maxRecDepth 100000 in
theorem pj_TA10_2 : pj_T10.2.2.1.all (fun e => pj_okcL "BridgesAreLent$Text" e.1 e.2) = true := by decide +kernel
set_option maxRecDepth 100000 in
theorem pj_TA10_3 : pj_T10.2.2.2.all (fun e => pj_oksL "BridgesAreLent$Text" e.1 e.2) = true := by decide +kernel
theorem pj_TH10 : pj_TH "BridgesAreLent$Text" pj_T10 := ⟨List.all_eq_true.mp pj_TA10_0, List.all_eq_true.mp pj_TA10_1, List.all_eq_true.mp pj_TA10_2, List.all_eq_true.mp pj_TA10_3⟩
def pj_T11 : pj_TT := ([(12, [10, 0, 296]), (18, [10, 1, 300]), (24, [10, 2, 302]), (31, [10, 3, 308]), (35, [10, 4, 310]), (39, [10, 5, 315]), (42, [10, 6, 317]), (48, [8, 0, 221]), (52, [8, 5, 241]), (55, [8, 7, 248]), (68, [8, 3, 235]), (71, [8, 1, 228]), (74, [8, 2, 232]), (77, [8, 4, 239]), (87, [8, 6, 246]), (90, [5, 0, 173]), (96, [5, 1, 180]), (116, [5, 5, 192]), (125, [5, 4, 187]), (152, [10, 7, 319]), (155, [10, 8, 321]), (164, [8, 8, 254])], [(45, [0, 1, 42, 5, 548]), (58, [0, 1, 80, 9, 568]), (64, [0, 3, 83, 9, 569]), (80, [0, 1, 81, 9, 570]), (83, [0, 2, 82, 9, 571]), (93, [0, 3, 87, 9, 585]), (110, [0, 2, 95, 10, 759]), (113, [0, 2, 94, 10, 763]), (119, [0, 2, 72, 8, 767]), (122, [0, 3, 101, 10, 779]), (128, [0, 2, 100, 10, 783]), (135, [0, 2, 65, 7, 790]), (139, [0, 3, 99, 10, 816]), (143, [0, 2, 96, 10, 839]), (146, [0, 3, 44, 5, 843]), (149, [0, 2, 70, 8, 847]), (158, [0, 1, 106, 10, 856]), (161, [0, 1, 107, 10, 860]), (167, [0, 2, 69, 8, 1097]), (170, [0, 3, 110, 10, 992]), (174, [0, 5, 111, 10, 996]), (178, [0, 4, 48, 5, 1000]), (182, [0, 3, 56, 6, 1001]), (188, [0, 7, 114, 10, 1006]), (192, [0, 2, 54, 6, 1010])], [(3, [6, 1, 0, 0, 165, 118, 119]), (11, [4, 1, 40, 0, 168]), (23, [4, 1, 67, 0, 216]), (30, [4, 1, 57, 0, 276])], [(99, [2, 2, 98, 0, 746]), (102, [11, 0, 0, 0, 749, 502, 100, 503]), (107, [10, 0, 0, 0, 750, 686, 100, 687]), (132, [12, 0, 0, 0, 787, 788, 100, 789])])
set_option maxRecDepth 100000 in
theorem pj_TA11_0 : pj_T11.1.all (fun e => pj_okf "BridgesAreLent$Valley" e.1 (e.2.getD 0 0) (e.2.getD 1 0) (e.2.getD 2 0)) = true := by decide +kernel
set_option maxRecDepth 100000 in
theorem pj_TA11_1 : pj_T11.2.1.all (fun e => pj_okvL "BridgesAreLent$Valley" e.1 e.2) = true := by decide +kernel
set_option maxRecDepth 100000 in
theorem pj_TA11_2 : pj_T11.2.2.1.all (fun e => pj_okcL "BridgesAreLent$Valley" e.1 e.2) = true := by decide +kernel
set_option maxRecDepth 100000 in
theorem pj_TA11_3 : pj_T11.2.2.2.all (fun e => pj_oksL "BridgesAreLent$Valley" e.1 e.2) = true := by decide +kernel
theorem pj_TH11 : pj_TH "BridgesAreLent$Valley" pj_T11 := ⟨List.all_eq_true.mp pj_TA11_0, List.all_eq_true.mp pj_TA11_1, List.all_eq_true.mp pj_TA11_2, List.all_eq_true.mp pj_TA11_3⟩
def pj_T12 : pj_TT := ([(9, [12, 2, 1382]), (13, [12, 8, 1388]), (17, [12, 9, 1389]), (20, [12, 10, 1390]), (23, [12, 11, 1391]), (26, [12, 12, 1392]), (29, [12, 13, 1393]), (32, [12, 14, 1394]), (35, [12, 15, 1395]), (38, [12, 20, 1400]), (41, [12, 24, 1404]), (44, [12, 25, 1405]), (47, [12, 28, 1408]), (50, [12, 29, 1409]), (53, [12, 31, 1411]), (56, [12, 36, 1416]), (59, [12, 37, 1417]), (62, [12, 38, 1418]), (65, [12, 40, 1420]), (68, [12, 41, 1421]), (71, [12, 42, 1422]), (74, [12, 43, 1423]), (77, [12, 45, 1425]), (80, [12, 46, 1426]), (83, [12, 49, 1429]), (86, [12, 50, 1430]), (89, [12, 51, 1431]), (92, [12, 56, 1436]), (95, [12, 57, 1437]), (99, [12, 58, 1438]), (102, [12, 59, 1439]), (105, [12, 0, 1380]), (113, [12, 1, 1381]), (116, [12, 3, 1383]), (123, [12, 4, 1384]), (126, [12, 5, 1385]), (129, [12, 6, 1386]), (132, [12, 16, 1396]), (135, [12, 17, 1397]), (138, [12, 19, 1399]), (147, [12, 18, 1398]), (181, [12, 23, 1403]), (184, [12, 22, 1402]), (187, [12, 21, 1401]), (220, [12, 30, 1410]), (223, [12, 7, 1387]), (233, [12, 27, 1407]), (254, [12, 26, 1406]), (319, [12, 32, 1412]), (328, [12, 33, 1413]), (331, [12, 34, 1414]), (334, [12, 35, 1415]), (364, [12, 39, 1419]), (406, [12, 44, 1424]), (431, [12, 47, 1427]), (455, [12, 48, 1428]), (464, [12, 52, 1432]), (467, [12, 53, 1433]), (470, [12, 54, 1434]), (473, [12, 55, 1435])], [(158, [8, 1, 288, 0, 1590]), (163, [8, 2, 289, 0, 1591]), (167, [0, 2, 184, 12, 1586]), (171, [0, 1, 183, 12, 1616]), (177, [0, 2, 187, 12, 1607]), (190, [0, 2, 189, 12, 1603]), (193, [0, 2, 186, 12, 1612]), (196, [0, 2, 182, 12, 1595]), (202, [0, 2, 185, 12, 1582]), (205, [0, 2, 181, 12, 1576]), (210, [0, 1, 190, 12, 1599]), (213, [0, 4, 188, 12, 1623]), (217, [0, 1, 192, 12, 1627]), (226, [0, 2, 193, 12, 1639]), (230, [0, 2, 194, 12, 1635]), (236, [0, 1, 198, 12, 1655]), (239, [0, 2, 197, 12, 1659]), (245, [0, 2, 199, 12, 1651]), (264, [0, 2, 203, 12, 1723]), (270, [0, 1, 202, 12, 1728]), (277, [0, 3, 207, 12, 1833]), (280, [0, 3, 208, 12, 1829]), (288, [0, 2, 176, 12, 1671]), (293, [0, 1, 169, 12, 1676]), (296, [0, 3, 205, 12, 1680]), (300, [0, 2, 177, 12, 1688]), (305, [0, 2, 178, 12, 1697]), (310, [0, 2, 215, 12, 1751]), (313, [0, 3, 218, 12, 1715]), (316, [0, 3, 204, 12, 1719]), (325, [0, 3, 206, 12, 1772]), (337, [0, 1, 214, 12, 1739]), (340, [0, 3, 220, 12, 1743]), (343, [0, 2, 216, 12, 1747]), (346, [0, 3, 221, 12, 1759]), (349, [0, 3, 222, 12, 1768]), (354, [0, 1, 223, 12, 1784]), (357, [0, 1, 224, 12, 1788]), (360, [0, 2, 174, 12, 1792]), (369, [0, 1, 229, 12, 1800]), (372, [0, 2, 230, 12, 1805]), (375, [0, 2, 175, 12, 1813]), (378, [0, 3, 232, 12, 1817]), (382, [0, 2, 209, 12, 1825]), (385, [0, 2, 236, 12, 1854]), (388, [0, 4, 239, 12, 1846]), (392, [0, 3, 237, 12, 1850]), (395, [0, 5, 238, 12, 1858]), (399, [0, 5, 242, 12, 1874]), (403, [0, 1, 244, 12, 1870]), (409, [0, 2, 246, 12, 1887]), (412, [0, 2, 243, 12, 1891]), (418, [0, 1, 247, 12, 1883]), (421, [0, 2, 251, 12, 1912]), (426, [0, 2, 252, 12, 1908]), (437, [0, 2, 256, 12, 1939]), (442, [0, 2, 257, 12, 1931]), (445, [0, 4, 258, 12, 1935]), (449, [0, 2, 259, 12, 1943]), (458, [0, 4, 265, 12, 1973]), (461, [0, 1, 266, 12, 1969]), (477, [0, 4, 270, 12, 1985]), (480, [0, 5, 269, 12, 1990]), (491, [0, 2, 276, 12, 2012]), (497, [0, 2, 279, 12, 2023]), (500, [0, 1, 278, 12, 2027]), (505, [0, 2, 283, 12, 2044])], [(3, [6, 1, 0, 0, 1379, 118, 119])], [(109, [2, 2, 173, 0, 1947]), (119, [2, 3, 170, 0, 1569]), (141, [11, 0, 0, 0, 1580, 502, 100, 503]), (150, [2, 1, 172, 0, 1592]), (257, [2, 3, 201, 0, 1732]), (261, [10, 0, 0, 0, 1706, 686, 100, 687]), (267, [12, 0, 0, 0, 1727, 788, 100, 789]), (273, [2, 2, 171, 0, 1776]), (283, [2, 1, 287, 0, 1837]), (415, [2, 1, 286, 0, 1882]), (452, [2, 1, 262, 0, 1958]), (484, [2, 3, 273, 0, 2005]), (487, [2, 3, 274, 0, 2002])])
set_option maxRecDepth 100000 in
theorem pj_TA12_0 : pj_T12.1.all (fun e => pj_okf "BridgesAreLentModel" e.1 (e.2.getD 0 0) (e.2.getD 1 0) (e.2.getD 2 0)) = true := by decide +kernel
set_option maxRecDepth 100000 in
theorem pj_TA12_1 : pj_T12.2.1.all (fun e => pj_okvL "BridgesAreLentModel" e.1 e.2) = true := by decide +kernel
set_option maxRecDepth 100000 in
theorem pj_TA12_2 : pj_T12.2.2.1.all (fun e => pj_okcL "BridgesAreLentModel" e.1 e.2) = true := by decide +kernel
set_option maxRecDepth 100000 in
theorem pj_TA12_3 : pj_T12.2.2.2.all (fun e => pj_oksL "BridgesAreLentModel" e.1 e.2) = true := by decide +kernel
theorem pj_TH12 : pj_TH "BridgesAreLentModel" pj_T12 := ⟨List.all_eq_true.mp pj_TA12_0, List.all_eq_true.mp pj_TA12_1, List.all_eq_true.mp pj_TA12_2, List.all_eq_true.mp pj_TA12_3⟩
def pj_T13 : pj_TT := ([], [], [], [])
set_option maxRecDepth 100000 in
theorem pj_TA13_0 : pj_T13.1.all (fun e => pj_okf "java/lang/Integer" e.1 (e.2.getD 0 0) (e.2.getD 1 0) (e.2.getD 2 0)) = true := by decide +kernel
set_option maxRecDepth 100000 in
theorem pj_TA13_1 : pj_T13.2.1.all (fun e => pj_okvL "java/lang/Integer" e.1 e.2) = true := by decide +kernel
set_option maxRecDepth 100000 in
theorem pj_TA13_2 : pj_T13.2.2.1.all (fun e => pj_okcL "java/lang/Integer" e.1 e.2) = true := by decide +kernel
set_option maxRecDepth 100000 in
theorem pj_TA13_3 : pj_T13.2.2.2.all (fun e => pj_oksL "java/lang/Integer" e.1 e.2) = true := by decide +kernel
theorem pj_TH13 : pj_TH "java/lang/Integer" pj_T13 := ⟨List.all_eq_true.mp pj_TA13_0, List.all_eq_true.mp pj_TA13_1, List.all_eq_true.mp pj_TA13_2, List.all_eq_true.mp pj_TA13_3⟩
def pj_T14 : pj_TT := ([], [], [], [])
set_option maxRecDepth 100000 in
theorem pj_TA14_0 : pj_T14.1.all (fun e => pj_okf "java/lang/String" e.1 (e.2.getD 0 0) (e.2.getD 1 0) (e.2.getD 2 0)) = true := by decide +kernel
set_option maxRecDepth 100000 in
theorem pj_TA14_1 : pj_T14.2.1.all (fun e => pj_okvL "java/lang/String" e.1 e.2) = true := by decide +kernel
set_option maxRecDepth 100000 in
theorem pj_TA14_2 : pj_T14.2.2.1.all (fun e => pj_okcL "java/lang/String" e.1 e.2) = true := by decide +kernel
set_option maxRecDepth 100000 in
theorem pj_TA14_3 : pj_T14.2.2.2.all (fun e => pj_oksL "java/lang/String" e.1 e.2) = true := by decide +kernel
theorem pj_TH14 : pj_TH "java/lang/String" pj_T14 := ⟨List.all_eq_true.mp pj_TA14_0, List.all_eq_true.mp pj_TA14_1, List.all_eq_true.mp pj_TA14_2, List.all_eq_true.mp pj_TA14_3⟩
