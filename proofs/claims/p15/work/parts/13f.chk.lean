set_option maxRecDepth 100000 in
theorem pj_mwa134 : pj_wt 919 = some (.code pj_m134.1 pj_m134.2.1 pj_m134.2.2.1 pj_m134.2.2.2.1) := rfl
set_option maxRecDepth 100000 in
theorem pj_mwb134 : pj_wt 87 = some (.initialized pj_m134.1.cls) := rfl
set_option maxRecDepth 100000 in
theorem pj_mwc134 : pj_wt 917 = some (.instanceMethod pj_m134.1) := rfl
set_option maxRecDepth 100000 in
theorem pj_mwd134 : pj_wt 918 = some (.selects pj_m134.1.cls pj_m134.1 pj_m134.1) := rfl
set_option maxRecDepth 100000 in
theorem pj_ml134 : pj_okm pj_m134 (2, 1) = true := pj_okm1 (pj_okq_s (M := pj_m134) pj_mwa134 pj_mwb134 (by decide +kernel)) pj_mwc134 (by decide +kernel) pj_mwd134 (by decide +kernel)
set_option maxRecDepth 100000 in
theorem pj_mn134 : plainName pj_m134.1.cls = true := pj_pl0
set_option maxRecDepth 100000 in
theorem pj_mr134 : pj_okRL pj_m134 = true := pj_okRG_s (M := pj_m134) pj_TH0 rfl (by decide +kernel)
set_option maxRecDepth 100000 in
theorem pj_mwa135 : pj_wt 954 = some (.code pj_m135.1 pj_m135.2.1 pj_m135.2.2.1 pj_m135.2.2.2.1) := rfl
set_option maxRecDepth 100000 in
theorem pj_mwb135 : pj_wt 87 = some (.initialized pj_m135.1.cls) := rfl
set_option maxRecDepth 100000 in
theorem pj_mwc135 : pj_wt 952 = some (.instanceMethod pj_m135.1) := rfl
set_option maxRecDepth 100000 in
theorem pj_mwd135 : pj_wt 953 = some (.selects pj_m135.1.cls pj_m135.1 pj_m135.1) := rfl
set_option maxRecDepth 100000 in
theorem pj_ml135 : pj_okm pj_m135 (1, 1) = true := pj_okm1 (pj_okq_s (M := pj_m135) pj_mwa135 pj_mwb135 (by decide +kernel)) pj_mwc135 (by decide +kernel) pj_mwd135 (by decide +kernel)
set_option maxRecDepth 100000 in
theorem pj_mn135 : plainName pj_m135.1.cls = true := pj_pl0
set_option maxRecDepth 100000 in
theorem pj_mr135 : pj_okRL pj_m135 = true := pj_okRG_s (M := pj_m135) pj_TH0 rfl (by decide +kernel)
set_option maxRecDepth 100000 in
theorem pj_mwa136 : pj_wt 977 = some (.code pj_m136.1 pj_m136.2.1 pj_m136.2.2.1 pj_m136.2.2.2.1) := rfl
set_option maxRecDepth 100000 in
theorem pj_mwb136 : pj_wt 87 = some (.initialized pj_m136.1.cls) := rfl
set_option maxRecDepth 100000 in
theorem pj_mwc136 : pj_wt 975 = some (.instanceMethod pj_m136.1) := rfl
set_option maxRecDepth 100000 in
theorem pj_mwd136 : pj_wt 976 = some (.selects pj_m136.1.cls pj_m136.1 pj_m136.1) := rfl
set_option maxRecDepth 100000 in
theorem pj_ml136 : pj_okm pj_m136 (2, 1) = true := pj_okm1 (pj_okq_s (M := pj_m136) pj_mwa136 pj_mwb136 (by decide +kernel)) pj_mwc136 (by decide +kernel) pj_mwd136 (by decide +kernel)
set_option maxRecDepth 100000 in
theorem pj_mn136 : plainName pj_m136.1.cls = true := pj_pl0
set_option maxRecDepth 100000 in
theorem pj_mr136 : pj_okRL pj_m136 = true := pj_okRG_s (M := pj_m136) pj_TH0 rfl (by decide +kernel)
set_option maxRecDepth 100000 in
theorem pj_mwa137 : pj_wt 983 = some (.code pj_m137.1 pj_m137.2.1 pj_m137.2.2.1 pj_m137.2.2.2.1) := rfl
set_option maxRecDepth 100000 in
theorem pj_mwb137 : pj_wt 87 = some (.initialized pj_m137.1.cls) := rfl
set_option maxRecDepth 100000 in
theorem pj_mwc137 : pj_wt 981 = some (.instanceMethod pj_m137.1) := rfl
set_option maxRecDepth 100000 in
theorem pj_mwd137 : pj_wt 982 = some (.selects pj_m137.1.cls pj_m137.1 pj_m137.1) := rfl
set_option maxRecDepth 100000 in
theorem pj_ml137 : pj_okm pj_m137 (2, 1) = true := pj_okm1 (pj_okq_s (M := pj_m137) pj_mwa137 pj_mwb137 (by decide +kernel)) pj_mwc137 (by decide +kernel) pj_mwd137 (by decide +kernel)
set_option maxRecDepth 100000 in
theorem pj_mn137 : plainName pj_m137.1.cls = true := pj_pl0
set_option maxRecDepth 100000 in
theorem pj_mr137 : pj_okRL pj_m137 = true := pj_okRG_s (M := pj_m137) pj_TH0 rfl (by decide +kernel)
set_option maxRecDepth 100000 in
theorem pj_mwa138 : pj_wt 1014 = some (.code pj_m138.1 pj_m138.2.1 pj_m138.2.2.1 pj_m138.2.2.2.1) := rfl
set_option maxRecDepth 100000 in
theorem pj_mwb138 : pj_wt 87 = some (.initialized pj_m138.1.cls) := rfl
set_option maxRecDepth 100000 in
theorem pj_mwc138 : pj_wt 1012 = some (.instanceMethod pj_m138.1) := rfl
set_option maxRecDepth 100000 in
theorem pj_mwd138 : pj_wt 1013 = some (.selects pj_m138.1.cls pj_m138.1 pj_m138.1) := rfl
set_option maxRecDepth 100000 in
theorem pj_ml138 : pj_okm pj_m138 (0, 1) = true := pj_okm1 (pj_okq_s (M := pj_m138) pj_mwa138 pj_mwb138 (by decide +kernel)) pj_mwc138 (by decide +kernel) pj_mwd138 (by decide +kernel)
set_option maxRecDepth 100000 in
theorem pj_mn138 : plainName pj_m138.1.cls = true := pj_pl0
set_option maxRecDepth 100000 in
theorem pj_mr138 : pj_okRL pj_m138 = true := pj_okRG_s (M := pj_m138) pj_TH0 rfl (by decide +kernel)
set_option maxRecDepth 100000 in
theorem pj_mwa139 : pj_wt 1022 = some (.code pj_m139.1 pj_m139.2.1 pj_m139.2.2.1 pj_m139.2.2.2.1) := rfl
set_option maxRecDepth 100000 in
theorem pj_mwb139 : pj_wt 87 = some (.initialized pj_m139.1.cls) := rfl
set_option maxRecDepth 100000 in
theorem pj_mwc139 : pj_wt 1020 = some (.instanceMethod pj_m139.1) := rfl
set_option maxRecDepth 100000 in
theorem pj_mwd139 : pj_wt 1021 = some (.selects pj_m139.1.cls pj_m139.1 pj_m139.1) := rfl
set_option maxRecDepth 100000 in
theorem pj_ml139 : pj_okm pj_m139 (1, 1) = true := pj_okm1 (pj_okq_s (M := pj_m139) pj_mwa139 pj_mwb139 (by decide +kernel)) pj_mwc139 (by decide +kernel) pj_mwd139 (by decide +kernel)
set_option maxRecDepth 100000 in
theorem pj_mn139 : plainName pj_m139.1.cls = true := pj_pl0
set_option maxRecDepth 100000 in
theorem pj_mr139 : pj_okRL pj_m139 = true := pj_okRG_s (M := pj_m139) pj_TH0 rfl (by decide +kernel)
set_option maxRecDepth 100000 in
theorem pj_mwa140 : pj_wt 1049 = some (.code pj_m140.1 pj_m140.2.1 pj_m140.2.2.1 pj_m140.2.2.2.1) := rfl
set_option maxRecDepth 100000 in
theorem pj_mwb140 : pj_wt 87 = some (.initialized pj_m140.1.cls) := rfl
set_option maxRecDepth 100000 in
theorem pj_mwc140 : pj_wt 1047 = some (.instanceMethod pj_m140.1) := rfl
set_option maxRecDepth 100000 in
theorem pj_mwd140 : pj_wt 1048 = some (.selects pj_m140.1.cls pj_m140.1 pj_m140.1) := rfl
set_option maxRecDepth 100000 in
theorem pj_ml140 : pj_okm pj_m140 (1, 1) = true := pj_okm1 (pj_okq_s (M := pj_m140) pj_mwa140 pj_mwb140 (by decide +kernel)) pj_mwc140 (by decide +kernel) pj_mwd140 (by decide +kernel)
set_option maxRecDepth 100000 in
theorem pj_mn140 : plainName pj_m140.1.cls = true := pj_pl0
set_option maxRecDepth 100000 in
theorem pj_mr140 : pj_okRL pj_m140 = true := pj_okRG_s (M := pj_m140) pj_TH0 rfl (by decide +kernel)
set_option maxRecDepth 100000 in
theorem pj_mwa141 : pj_wt 1072 = some (.code pj_m141.1 pj_m141.2.1 pj_m141.2.2.1 pj_m141.2.2.2.1) := rfl
set_option maxRecDepth 100000 in
theorem pj_mwb141 : pj_wt 87 = some (.initialized pj_m141.1.cls) := rfl
set_option maxRecDepth 100000 in
theorem pj_mwc141 : pj_wt 1070 = some (.instanceMethod pj_m141.1) := rfl
set_option maxRecDepth 100000 in
theorem pj_mwd141 : pj_wt 1071 = some (.selects pj_m141.1.cls pj_m141.1 pj_m141.1) := rfl
set_option maxRecDepth 100000 in
theorem pj_ml141 : pj_okm pj_m141 (0, 1) = true := pj_okm1 (pj_okq_s (M := pj_m141) pj_mwa141 pj_mwb141 (by decide +kernel)) pj_mwc141 (by decide +kernel) pj_mwd141 (by decide +kernel)
set_option maxRecDepth 100000 in
theorem pj_mn141 : plainName pj_m141.1.cls = true := pj_pl0
set_option maxRecDepth 100000 in
theorem pj_mr141 : pj_okRL pj_m141 = true := pj_okRG_s (M := pj_m141) pj_TH0 rfl (by decide +kernel)
set_option maxRecDepth 100000 in
theorem pj_mwa142 : pj_wt 1081 = some (.code pj_m142.1 pj_m142.2.1 pj_m142.2.2.1 pj_m142.2.2.2.1) := rfl
set_option maxRecDepth 100000 in
theorem pj_mwb142 : pj_wt 87 = some (.initialized pj_m142.1.cls) := rfl
set_option maxRecDepth 100000 in
theorem pj_mwc142 : pj_wt 1079 = some (.instanceMethod pj_m142.1) := rfl
set_option maxRecDepth 100000 in
theorem pj_mwd142 : pj_wt 1080 = some (.selects pj_m142.1.cls pj_m142.1 pj_m142.1) := rfl
set_option maxRecDepth 100000 in
theorem pj_ml142 : pj_okm pj_m142 (0, 1) = true := pj_okm1 (pj_okq_s (M := pj_m142) pj_mwa142 pj_mwb142 (by decide +kernel)) pj_mwc142 (by decide +kernel) pj_mwd142 (by decide +kernel)
set_option maxRecDepth 100000 in
theorem pj_mn142 : plainName pj_m142.1.cls = true := pj_pl0
set_option maxRecDepth 100000 in
theorem pj_mr142 : pj_okRL pj_m142 = true := pj_okRG_s (M := pj_m142) pj_TH0 rfl (by decide +kernel)
set_option maxRecDepth 100000 in
theorem pj_mwa143 : pj_wt 1092 = some (.code pj_m143.1 pj_m143.2.1 pj_m143.2.2.1 pj_m143.2.2.2.1) := rfl
set_option maxRecDepth 100000 in
theorem pj_mwb143 : pj_wt 87 = some (.initialized pj_m143.1.cls) := rfl
set_option maxRecDepth 100000 in
theorem pj_mwc143 : pj_wt 1090 = some (.instanceMethod pj_m143.1) := rfl
set_option maxRecDepth 100000 in
theorem pj_mwd143 : pj_wt 1091 = some (.selects pj_m143.1.cls pj_m143.1 pj_m143.1) := rfl
set_option maxRecDepth 100000 in
theorem pj_ml143 : pj_okm pj_m143 (1, 1) = true := pj_okm1 (pj_okq_s (M := pj_m143) pj_mwa143 pj_mwb143 (by decide +kernel)) pj_mwc143 (by decide +kernel) pj_mwd143 (by decide +kernel)
set_option maxRecDepth 100000 in
theorem pj_mn143 : plainName pj_m143.1.cls = true := pj_pl0
set_option maxRecDepth 100000 in
theorem pj_mr143 : pj_okRL pj_m143 = true := pj_okRG_s (M := pj_m143) pj_TH0 rfl (by decide +kernel)
set_option maxRecDepth 100000 in
theorem pj_mwa144 : pj_wt 1101 = some (.code pj_m144.1 pj_m144.2.1 pj_m144.2.2.1 pj_m144.2.2.2.1) := rfl
set_option maxRecDepth 100000 in
theorem pj_mwb144 : pj_wt 87 = some (.initialized pj_m144.1.cls) := rfl
set_option maxRecDepth 100000 in
theorem pj_mwc144 : pj_wt 1099 = some (.instanceMethod pj_m144.1) := rfl
set_option maxRecDepth 100000 in
theorem pj_mwd144 : pj_wt 1100 = some (.selects pj_m144.1.cls pj_m144.1 pj_m144.1) := rfl
set_option maxRecDepth 100000 in
theorem pj_ml144 : pj_okm pj_m144 (0, 1) = true := pj_okm1 (pj_okq_s (M := pj_m144) pj_mwa144 pj_mwb144 (by decide +kernel)) pj_mwc144 (by decide +kernel) pj_mwd144 (by decide +kernel)
set_option maxRecDepth 100000 in
theorem pj_mn144 : plainName pj_m144.1.cls = true := pj_pl0
set_option maxRecDepth 100000 in
theorem pj_mr144 : pj_okRL pj_m144 = true := pj_okRG_s (M := pj_m144) pj_TH0 rfl (by decide +kernel)
set_option maxRecDepth 100000 in
theorem pj_mwa145 : pj_wt 1106 = some (.code pj_m145.1 pj_m145.2.1 pj_m145.2.2.1 pj_m145.2.2.2.1) := rfl
set_option maxRecDepth 100000 in
theorem pj_mwb145 : pj_wt 87 = some (.initialized pj_m145.1.cls) := rfl
set_option maxRecDepth 100000 in
theorem pj_mwc145 : pj_wt 1104 = some (.instanceMethod pj_m145.1) := rfl
set_option maxRecDepth 100000 in
theorem pj_mwd145 : pj_wt 1105 = some (.selects pj_m145.1.cls pj_m145.1 pj_m145.1) := rfl
set_option maxRecDepth 100000 in
theorem pj_ml145 : pj_okm pj_m145 (1, 1) = true := pj_okm1 (pj_okq_s (M := pj_m145) pj_mwa145 pj_mwb145 (by decide +kernel)) pj_mwc145 (by decide +kernel) pj_mwd145 (by decide +kernel)
set_option maxRecDepth 100000 in
theorem pj_mn145 : plainName pj_m145.1.cls = true := pj_pl0
set_option maxRecDepth 100000 in
theorem pj_mr145 : pj_okRL pj_m145 = true := pj_okRG_s (M := pj_m145) pj_TH0 rfl (by decide +kernel)
set_option maxRecDepth 100000 in
theorem pj_mwa146 : pj_wt 1112 = some (.code pj_m146.1 pj_m146.2.1 pj_m146.2.2.1 pj_m146.2.2.2.1) := rfl
set_option maxRecDepth 100000 in
theorem pj_mwb146 : pj_wt 87 = some (.initialized pj_m146.1.cls) := rfl
set_option maxRecDepth 100000 in
theorem pj_mwc146 : pj_wt 1110 = some (.instanceMethod pj_m146.1) := rfl
set_option maxRecDepth 100000 in
theorem pj_mwd146 : pj_wt 1111 = some (.selects pj_m146.1.cls pj_m146.1 pj_m146.1) := rfl
set_option maxRecDepth 100000 in
theorem pj_ml146 : pj_okm pj_m146 (4, 1) = true := pj_okm1 (pj_okq_s (M := pj_m146) pj_mwa146 pj_mwb146 (by decide +kernel)) pj_mwc146 (by decide +kernel) pj_mwd146 (by decide +kernel)
set_option maxRecDepth 100000 in
theorem pj_mn146 : plainName pj_m146.1.cls = true := pj_pl0
set_option maxRecDepth 100000 in
theorem pj_mr146 : pj_okRL pj_m146 = true := pj_okRG_s (M := pj_m146) pj_TH0 rfl (by decide +kernel)
set_option maxRecDepth 100000 in
theorem pj_mwa147 : pj_wt 1139 = some (.code pj_m147.1 pj_m147.2.1 pj_m147.2.2.1 pj_m147.2.2.2.1) := rfl
set_option maxRecDepth 100000 in
theorem pj_mwb147 : pj_wt 87 = some (.initialized pj_m147.1.cls) := rfl
set_option maxRecDepth 100000 in
theorem pj_mwc147 : pj_wt 1137 = some (.instanceMethod pj_m147.1) := rfl
set_option maxRecDepth 100000 in
theorem pj_mwd147 : pj_wt 1138 = some (.selects pj_m147.1.cls pj_m147.1 pj_m147.1) := rfl
set_option maxRecDepth 100000 in
theorem pj_ml147 : pj_okm pj_m147 (3, 1) = true := pj_okm1 (pj_okq_s (M := pj_m147) pj_mwa147 pj_mwb147 (by decide +kernel)) pj_mwc147 (by decide +kernel) pj_mwd147 (by decide +kernel)
set_option maxRecDepth 100000 in
theorem pj_mn147 : plainName pj_m147.1.cls = true := pj_pl0
set_option maxRecDepth 100000 in
theorem pj_mr147 : pj_okRL pj_m147 = true := pj_okRG_s (M := pj_m147) pj_TH0 rfl (by decide +kernel)
set_option maxRecDepth 100000 in
theorem pj_mwa148 : pj_wt 1147 = some (.code pj_m148.1 pj_m148.2.1 pj_m148.2.2.1 pj_m148.2.2.2.1) := rfl
set_option maxRecDepth 100000 in
theorem pj_mwb148 : pj_wt 87 = some (.initialized pj_m148.1.cls) := rfl
set_option maxRecDepth 100000 in
theorem pj_mwc148 : pj_wt 1145 = some (.instanceMethod pj_m148.1) := rfl
set_option maxRecDepth 100000 in
theorem pj_mwd148 : pj_wt 1146 = some (.selects pj_m148.1.cls pj_m148.1 pj_m148.1) := rfl
set_option maxRecDepth 100000 in
theorem pj_ml148 : pj_okm pj_m148 (3, 1) = true := pj_okm1 (pj_okq_s (M := pj_m148) pj_mwa148 pj_mwb148 (by decide +kernel)) pj_mwc148 (by decide +kernel) pj_mwd148 (by decide +kernel)
set_option maxRecDepth 100000 in
theorem pj_mn148 : plainName pj_m148.1.cls = true := pj_pl0
set_option maxRecDepth 100000 in
theorem pj_mr148 : pj_okRL pj_m148 = true := pj_okRG_s (M := pj_m148) pj_TH0 rfl (by decide +kernel)
set_option maxRecDepth 100000 in
theorem pj_mwa149 : pj_wt 1158 = some (.code pj_m149.1 pj_m149.2.1 pj_m149.2.2.1 pj_m149.2.2.2.1) := rfl
set_option maxRecDepth 100000 in
theorem pj_mwb149 : pj_wt 87 = some (.initialized pj_m149.1.cls) := rfl
set_option maxRecDepth 100000 in
theorem pj_mwc149 : pj_wt 1156 = some (.instanceMethod pj_m149.1) := rfl
set_option maxRecDepth 100000 in
theorem pj_mwd149 : pj_wt 1157 = some (.selects pj_m149.1.cls pj_m149.1 pj_m149.1) := rfl
set_option maxRecDepth 100000 in
theorem pj_ml149 : pj_okm pj_m149 (0, 1) = true := pj_okm1 (pj_okq_s (M := pj_m149) pj_mwa149 pj_mwb149 (by decide +kernel)) pj_mwc149 (by decide +kernel) pj_mwd149 (by decide +kernel)
set_option maxRecDepth 100000 in
theorem pj_mn149 : plainName pj_m149.1.cls = true := pj_pl0
set_option maxRecDepth 100000 in
theorem pj_mr149 : pj_okRL pj_m149 = true := pj_okRG_s (M := pj_m149) pj_TH0 rfl (by decide +kernel)
set_option maxRecDepth 100000 in
theorem pj_mwa150 : pj_wt 1162 = some (.code pj_m150.1 pj_m150.2.1 pj_m150.2.2.1 pj_m150.2.2.2.1) := rfl
set_option maxRecDepth 100000 in
theorem pj_mwb150 : pj_wt 87 = some (.initialized pj_m150.1.cls) := rfl
set_option maxRecDepth 100000 in
theorem pj_mwc150 : pj_wt 1160 = some (.instanceMethod pj_m150.1) := rfl
set_option maxRecDepth 100000 in
theorem pj_mwd150 : pj_wt 1161 = some (.selects pj_m150.1.cls pj_m150.1 pj_m150.1) := rfl
set_option maxRecDepth 100000 in
theorem pj_ml150 : pj_okm pj_m150 (0, 1) = true := pj_okm1 (pj_okq_s (M := pj_m150) pj_mwa150 pj_mwb150 (by decide +kernel)) pj_mwc150 (by decide +kernel) pj_mwd150 (by decide +kernel)
set_option maxRecDepth 100000 in
theorem pj_mn150 : plainName pj_m150.1.cls = true := pj_pl0
set_option maxRecDepth 100000 in
theorem pj_mr150 : pj_okRL pj_m150 = true := pj_okRG_s (M := pj_m150) pj_TH0 rfl (by decide +kernel)
set_option maxRecDepth 100000 in
theorem pj_mwa151 : pj_wt 1178 = some (.code pj_m151.1 pj_m151.2.1 pj_m151.2.2.1 pj_m151.2.2.2.1) := rfl
set_option maxRecDepth 100000 in
theorem pj_mwb151 : pj_wt 87 = some (.initialized pj_m151.1.cls) := rfl
set_option maxRecDepth 100000 in
theorem pj_mwc151 : pj_wt 1176 = some (.instanceMethod pj_m151.1) := rfl
set_option maxRecDepth 100000 in
theorem pj_mwd151 : pj_wt 1177 = some (.selects pj_m151.1.cls pj_m151.1 pj_m151.1) := rfl
set_option maxRecDepth 100000 in
theorem pj_ml151 : pj_okm pj_m151 (0, 1) = true := pj_okm1 (pj_okq_s (M := pj_m151) pj_mwa151 pj_mwb151 (by decide +kernel)) pj_mwc151 (by decide +kernel) pj_mwd151 (by decide +kernel)
set_option maxRecDepth 100000 in
theorem pj_mn151 : plainName pj_m151.1.cls = true := pj_pl0
set_option maxRecDepth 100000 in
theorem pj_mr151 : pj_okRL pj_m151 = true := pj_okRG_s (M := pj_m151) pj_TH0 rfl (by decide +kernel)
set_option maxRecDepth 100000 in
theorem pj_mwa152 : pj_wt 1190 = some (.code pj_m152.1 pj_m152.2.1 pj_m152.2.2.1 pj_m152.2.2.2.1) := rfl
set_option maxRecDepth 100000 in
theorem pj_mwb152 : pj_wt 87 = some (.initialized pj_m152.1.cls) := rfl
set_option maxRecDepth 100000 in
theorem pj_mwc152 : pj_wt 1188 = some (.instanceMethod pj_m152.1) := rfl
set_option maxRecDepth 100000 in
theorem pj_mwd152 : pj_wt 1189 = some (.selects pj_m152.1.cls pj_m152.1 pj_m152.1) := rfl
set_option maxRecDepth 100000 in
theorem pj_ml152 : pj_okm pj_m152 (4, 1) = true := pj_okm1 (pj_okq_s (M := pj_m152) pj_mwa152 pj_mwb152 (by decide +kernel)) pj_mwc152 (by decide +kernel) pj_mwd152 (by decide +kernel)
set_option maxRecDepth 100000 in
theorem pj_mn152 : plainName pj_m152.1.cls = true := pj_pl0
set_option maxRecDepth 100000 in
theorem pj_mr152 : pj_okRL pj_m152 = true := pj_okRG_s (M := pj_m152) pj_TH0 rfl (by decide +kernel)
set_option maxRecDepth 100000 in
theorem pj_mwa153 : pj_wt 1197 = some (.code pj_m153.1 pj_m153.2.1 pj_m153.2.2.1 pj_m153.2.2.2.1) := rfl
set_option maxRecDepth 100000 in
theorem pj_mwb153 : pj_wt 87 = some (.initialized pj_m153.1.cls) := rfl
set_option maxRecDepth 100000 in
theorem pj_mwc153 : pj_wt 1195 = some (.instanceMethod pj_m153.1) := rfl
set_option maxRecDepth 100000 in
theorem pj_mwd153 : pj_wt 1196 = some (.selects pj_m153.1.cls pj_m153.1 pj_m153.1) := rfl
set_option maxRecDepth 100000 in
theorem pj_ml153 : pj_okm pj_m153 (3, 1) = true := pj_okm1 (pj_okq_s (M := pj_m153) pj_mwa153 pj_mwb153 (by decide +kernel)) pj_mwc153 (by decide +kernel) pj_mwd153 (by decide +kernel)
set_option maxRecDepth 100000 in
theorem pj_mn153 : plainName pj_m153.1.cls = true := pj_pl0
set_option maxRecDepth 100000 in
theorem pj_mr153 : pj_okRL pj_m153 = true := pj_okRG_s (M := pj_m153) pj_TH0 rfl (by decide +kernel)
set_option maxRecDepth 100000 in
theorem pj_mwa154 : pj_wt 1201 = some (.code pj_m154.1 pj_m154.2.1 pj_m154.2.2.1 pj_m154.2.2.2.1) := rfl
set_option maxRecDepth 100000 in
theorem pj_mwb154 : pj_wt 87 = some (.initialized pj_m154.1.cls) := rfl
set_option maxRecDepth 100000 in
theorem pj_mwc154 : pj_wt 1199 = some (.instanceMethod pj_m154.1) := rfl
set_option maxRecDepth 100000 in
theorem pj_mwd154 : pj_wt 1200 = some (.selects pj_m154.1.cls pj_m154.1 pj_m154.1) := rfl
set_option maxRecDepth 100000 in
theorem pj_ml154 : pj_okm pj_m154 (1, 1) = true := pj_okm1 (pj_okq_s (M := pj_m154) pj_mwa154 pj_mwb154 (by decide +kernel)) pj_mwc154 (by decide +kernel) pj_mwd154 (by decide +kernel)
set_option maxRecDepth 100000 in
theorem pj_mn154 : plainName pj_m154.1.cls = true := pj_pl0
set_option maxRecDepth 100000 in
theorem pj_mr154 : pj_okRL pj_m154 = true := pj_okRG_s (M := pj_m154) pj_TH0 rfl (by decide +kernel)
