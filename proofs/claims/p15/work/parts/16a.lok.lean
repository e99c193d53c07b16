def pj_TL : pj_TT := ([], [(29, [0, 2, 117, 11, 477]), (33, [0, 2, 179, 12, 1561]), (34, [0, 2, 118, 11, 485]), (38, [0, 2, 180, 12, 1565]), (39, [0, 1, 119, 11, 493]), (43, [0, 1, 191, 12, 1572]), (44, [0, 1, 120, 11, 560]), (47, [0, 1, 195, 12, 1631]), (48, [0, 1, 121, 11, 577]), (51, [0, 1, 196, 12, 1643]), (52, [0, 1, 122, 11, 586]), (55, [0, 1, 200, 12, 1647]), (61, [0, 3, 210, 12, 1667]), (64, [0, 3, 211, 12, 1684]), (67, [0, 3, 212, 12, 1693]), (68, [0, 5, 126, 11, 738]), (72, [0, 5, 213, 12, 1701]), (73, [0, 3, 127, 11, 751]), (76, [0, 3, 219, 12, 1711]), (77, [0, 3, 128, 11, 797]), (80, [0, 3, 225, 12, 1735]), (81, [0, 3, 129, 11, 822]), (84, [0, 3, 226, 12, 1755]), (85, [0, 3, 130, 11, 831]), (88, [0, 3, 227, 12, 1764]), (89, [0, 2, 131, 11, 848]), (92, [0, 2, 228, 12, 1779]), (93, [0, 1, 132, 11, 876]), (96, [0, 1, 231, 12, 1796]), (97, [0, 1, 133, 11, 907]), (100, [0, 1, 217, 12, 1707]), (101, [0, 3, 134, 11, 916]), (104, [0, 3, 233, 12, 1809]), (105, [0, 2, 135, 11, 951]), (108, [0, 2, 234, 12, 1821]), (109, [0, 3, 136, 11, 974]), (112, [0, 3, 235, 12, 1838]), (113, [0, 3, 137, 11, 980]), (116, [0, 3, 240, 12, 1842]), (117, [0, 1, 138, 11, 1011]), (120, [0, 1, 241, 12, 1862]), (121, [0, 2, 139, 11, 1019]), (124, [0, 2, 245, 12, 1866]), (125, [0, 2, 140, 11, 1046]), (128, [0, 2, 248, 12, 1878]), (129, [0, 1, 141, 11, 1069]), (132, [0, 1, 249, 12, 1895]), (133, [0, 1, 142, 11, 1078]), (136, [0, 1, 250, 12, 1899]), (137, [0, 2, 143, 11, 1089]), (140, [0, 2, 253, 12, 1903]), (141, [0, 1, 144, 11, 1098]), (144, [0, 1, 254, 12, 1916]), (145, [0, 2, 145, 11, 1103]), (148, [0, 2, 255, 12, 1921]), (149, [0, 5, 146, 11, 1109]), (152, [0, 5, 260, 12, 1925]), (153, [0, 4, 147, 11, 1136]), (157, [0, 4, 261, 12, 1950]), (158, [0, 4, 148, 11, 1144]), (161, [0, 4, 263, 12, 1954]), (162, [0, 1, 149, 11, 1155]), (165, [0, 1, 264, 12, 1961]), (166, [0, 1, 150, 11, 1159]), (169, [0, 1, 267, 12, 1965]), (170, [0, 1, 151, 11, 1175]), (173, [0, 1, 268, 12, 1977]), (174, [0, 5, 152, 11, 1187]), (177, [0, 5, 271, 12, 1981]), (178, [0, 4, 153, 11, 1194]), (181, [0, 4, 272, 12, 1994]), (182, [0, 2, 154, 11, 1198]), (185, [0, 2, 275, 12, 1998]), (186, [0, 1, 155, 11, 1208]), (189, [0, 1, 277, 12, 2008]), (190, [0, 3, 156, 11, 1217]), (193, [0, 3, 280, 12, 2017]), (194, [0, 2, 157, 11, 1243]), (197, [0, 2, 281, 12, 2031]), (198, [0, 2, 158, 11, 1251]), (201, [0, 2, 282, 12, 2036]), (202, [0, 2, 159, 11, 1259]), (205, [0, 2, 284, 12, 2040]), (209, [0, 2, 285, 12, 2048])], [(25, [4, 1, 116, 0, 114]), (28, [4, 1, 168, 0, 1376])], [(56, [9, 4, 1000, 0, 1275, 1276, 86, 1277]), (62, [9, 4, 1001, 0, 1350, 1351, 86, 1352]), (65, [9, 4, 1002, 0, 1358, 1359, 86, 1360]), (206, [9, 3, 1003, 0, 1366, 1367, 86, 1368])])
set_option maxRecDepth 100000 in
theorem pj_TAL_0 : pj_TL.1.all (fun e => pj_okf "BridgesAreLentLaw" e.1 (e.2.getD 0 0) (e.2.getD 1 0) (e.2.getD 2 0)) = true := by decide +kernel
set_option maxRecDepth 100000 in
theorem pj_TAL_1 : pj_TL.2.1.all (fun e => pj_okvL "BridgesAreLentLaw" e.1 e.2) = true := by decide +kernel
set_option maxRecDepth 100000 in
theorem pj_TAL_2 : pj_TL.2.2.1.all (fun e => pj_okcL "BridgesAreLentLaw" e.1 e.2) = true := by decide +kernel
set_option maxRecDepth 100000 in
theorem pj_TAL_3 : pj_TL.2.2.2.all (fun e => pj_oksL "BridgesAreLentLaw" e.1 e.2) = true := by decide +kernel
theorem pj_THL : pj_TH "BridgesAreLentLaw" pj_TL := ⟨List.all_eq_true.mp pj_TAL_0, List.all_eq_true.mp pj_TAL_1, List.all_eq_true.mp pj_TAL_2, List.all_eq_true.mp pj_TAL_3⟩
theorem pj_law_cls : pj_law.1.cls = "BridgesAreLentLaw" := rfl
def pj_lokf (q : pj_I) : Bool := pj_dr pj_law.2.1 q.1 q.2.1 q.2.2.1 && pj_okG pj_TL "BridgesAreLentLaw" (decide (pj_law.1.name = "<init>")) q.1 q.2.1 q.2.2.1 q.2.2.2.1 q.2.2.2.2
theorem pj_chunk {α : Type} {l : List α} {f : α → Bool} {k : Nat} (n : Nat) (h : ((l.drop k).take n).all f = true) (h2 : (l.drop (k + n)).all f = true) : (l.drop k).all f = true := by
  rw [← List.take_append_drop n (l.drop k), List.all_append, List.drop_drop, h, h2]
  rfl
set_option maxRecDepth 100000 in
theorem pj_lok0 : ((pj_law.2.2.2.2.2.drop 0).take 61).all pj_lokf = true := by decide +kernel
set_option maxRecDepth 100000 in
theorem pj_lok61 : ((pj_law.2.2.2.2.2.drop 61).take 61).all pj_lokf = true := by decide +kernel
set_option maxRecDepth 100000 in
theorem pj_lok122 : ((pj_law.2.2.2.2.2.drop 122).take 61).all pj_lokf = true := by decide +kernel
set_option maxRecDepth 100000 in
theorem pj_lok183 : ((pj_law.2.2.2.2.2.drop 183).take 61).all pj_lokf = true := by decide +kernel
set_option maxRecDepth 100000 in
theorem pj_lok244 : ((pj_law.2.2.2.2.2.drop 244).take 61).all pj_lokf = true := by decide +kernel
set_option maxRecDepth 100000 in
theorem pj_lok305 : ((pj_law.2.2.2.2.2.drop 305).take 61).all pj_lokf = true := by decide +kernel
set_option maxRecDepth 100000 in
theorem pj_lok366 : ((pj_law.2.2.2.2.2.drop 366).take 61).all pj_lokf = true := by decide +kernel
set_option maxRecDepth 100000 in
theorem pj_lok427 : ((pj_law.2.2.2.2.2.drop 427).take 61).all pj_lokf = true := by decide +kernel
set_option maxRecDepth 100000 in
theorem pj_lok488 : ((pj_law.2.2.2.2.2.drop 488).take 61).all pj_lokf = true := by decide +kernel
set_option maxRecDepth 100000 in
theorem pj_lok549 : ((pj_law.2.2.2.2.2.drop 549).take 61).all pj_lokf = true := by decide +kernel
set_option maxRecDepth 100000 in
theorem pj_lok610 : ((pj_law.2.2.2.2.2.drop 610).take 61).all pj_lokf = true := by decide +kernel
set_option maxRecDepth 100000 in
theorem pj_lok671 : ((pj_law.2.2.2.2.2.drop 671).take 61).all pj_lokf = true := by decide +kernel
set_option maxRecDepth 100000 in
theorem pj_lok732 : ((pj_law.2.2.2.2.2.drop 732).take 61).all pj_lokf = true := by decide +kernel
set_option maxRecDepth 100000 in
theorem pj_lok793 : ((pj_law.2.2.2.2.2.drop 793).take 61).all pj_lokf = true := by decide +kernel
set_option maxRecDepth 100000 in
theorem pj_lok854 : ((pj_law.2.2.2.2.2.drop 854).take 61).all pj_lokf = true := by decide +kernel
theorem pj_lokz : (pj_law.2.2.2.2.2.drop 915).all pj_lokf = true := by decide +kernel
theorem pj_law_all : (pj_law.2.2.2.2.2.drop 0).all pj_lokf = true := (pj_chunk 61 pj_lok0 (pj_chunk 61 pj_lok61 (pj_chunk 61 pj_lok122 (pj_chunk 61 pj_lok183 (pj_chunk 61 pj_lok244 (pj_chunk 61 pj_lok305 (pj_chunk 61 pj_lok366 (pj_chunk 61 pj_lok427 (pj_chunk 61 pj_lok488 (pj_chunk 61 pj_lok549 (pj_chunk 61 pj_lok610 (pj_chunk 61 pj_lok671 (pj_chunk 61 pj_lok732 (pj_chunk 61 pj_lok793 (pj_chunk 61 pj_lok854 pj_lokz)))))))))))))))
theorem pj_law_pl : plainName pj_law.1.cls = true := by decide +kernel
theorem pj_law_ok : pj_okR pj_prog pj_law = true := by
  unfold pj_okR
  rw [pj_law_pl, Bool.true_and]
  refine List.all_eq_true.mpr (fun q hq => ?_)
  have h1 := List.all_eq_true.mp pj_law_all q (show q ∈ pj_law.2.2.2.2.2.drop 0 from hq)
  unfold pj_lokf at h1
  rw [Bool.and_eq_true] at h1 ⊢
  rw [pj_law_cls]
  exact ⟨decide_eq_true (pj_dr_s h1.1), pj_okL_s pj_hm (pj_okG_s pj_THL h1.2)⟩
