set_option maxRecDepth 100000 in
theorem pj_mwa0 : pj_wt 409 = some (.code pj_m0.1 pj_m0.2.1 pj_m0.2.2.1 pj_m0.2.2.2.1) := rfl
set_option maxRecDepth 100000 in
theorem pj_mwb0 : pj_wt 97 = some (.initialized pj_m0.1.cls) := rfl
set_option maxRecDepth 100000 in
theorem pj_mwc0 : pj_wt 408 = some (.instanceMethod pj_m0.1) := rfl
set_option maxRecDepth 100000 in
theorem pj_ml0 : pj_okm pj_m0 (0, 2) = true := pj_okm2 (pj_okq_s (M := pj_m0) pj_mwa0 pj_mwb0 (by decide +kernel)) pj_mwc0 (by decide +kernel) (by decide +kernel)
set_option maxRecDepth 100000 in
theorem pj_mn0 : plainName pj_m0.1.cls = true := pj_pl1
set_option maxRecDepth 100000 in
theorem pj_mr0 : pj_okRL pj_m0 = true := pj_okRG_s (M := pj_m0) pj_TH1 rfl (by decide +kernel)
set_option maxRecDepth 100000 in
theorem pj_mwa1 : pj_wt 883 = some (.code pj_m1.1 pj_m1.2.1 pj_m1.2.2.1 pj_m1.2.2.2.1) := rfl
set_option maxRecDepth 100000 in
theorem pj_mwb1 : pj_wt 97 = some (.initialized pj_m1.1.cls) := rfl
set_option maxRecDepth 100000 in
theorem pj_mwc1 : pj_wt 881 = some (.instanceMethod pj_m1.1) := rfl
set_option maxRecDepth 100000 in
theorem pj_mwd1 : pj_wt 882 = some (.selects pj_m1.1.cls pj_m1.1 pj_m1.1) := rfl
set_option maxRecDepth 100000 in
theorem pj_ml1 : pj_okm pj_m1 (1, 1) = true := pj_okm1 (pj_okq_s (M := pj_m1) pj_mwa1 pj_mwb1 (by decide +kernel)) pj_mwc1 (by decide +kernel) pj_mwd1 (by decide +kernel)
set_option maxRecDepth 100000 in
theorem pj_mn1 : plainName pj_m1.1.cls = true := pj_pl1
set_option maxRecDepth 100000 in
theorem pj_mr1 : pj_okRL pj_m1 = true := pj_okRG_s (M := pj_m1) pj_TH1 rfl (by decide +kernel)
set_option maxRecDepth 100000 in
theorem pj_mwa2 : pj_wt 888 = some (.code pj_m2.1 pj_m2.2.1 pj_m2.2.2.1 pj_m2.2.2.2.1) := rfl
set_option maxRecDepth 100000 in
theorem pj_mwb2 : pj_wt 97 = some (.initialized pj_m2.1.cls) := rfl
set_option maxRecDepth 100000 in
theorem pj_mwc2 : pj_wt 887 = some (.instanceMethod pj_m2.1) := rfl
set_option maxRecDepth 100000 in
theorem pj_mwd2 : pj_wt 8 = some (.selects pj_m2.1.cls pj_m2.1 pj_m2.1) := rfl
set_option maxRecDepth 100000 in
theorem pj_ml2 : pj_okm pj_m2 (2, 1) = true := pj_okm1 (pj_okq_s (M := pj_m2) pj_mwa2 pj_mwb2 (by decide +kernel)) pj_mwc2 (by decide +kernel) pj_mwd2 (by decide +kernel)
set_option maxRecDepth 100000 in
theorem pj_mn2 : plainName pj_m2.1.cls = true := pj_pl1
set_option maxRecDepth 100000 in
theorem pj_mr2 : pj_okRL pj_m2 = true := pj_okRG_s (M := pj_m2) pj_TH1 rfl (by decide +kernel)
set_option maxRecDepth 100000 in
theorem pj_mwa3 : pj_wt 898 = some (.code pj_m3.1 pj_m3.2.1 pj_m3.2.2.1 pj_m3.2.2.2.1) := rfl
set_option maxRecDepth 100000 in
theorem pj_mwb3 : pj_wt 97 = some (.initialized pj_m3.1.cls) := rfl
set_option maxRecDepth 100000 in
theorem pj_mwc3 : pj_wt 896 = some (.instanceMethod pj_m3.1) := rfl
set_option maxRecDepth 100000 in
theorem pj_mwd3 : pj_wt 897 = some (.selects pj_m3.1.cls pj_m3.1 pj_m3.1) := rfl
set_option maxRecDepth 100000 in
theorem pj_ml3 : pj_okm pj_m3 (1, 1) = true := pj_okm1 (pj_okq_s (M := pj_m3) pj_mwa3 pj_mwb3 (by decide +kernel)) pj_mwc3 (by decide +kernel) pj_mwd3 (by decide +kernel)
set_option maxRecDepth 100000 in
theorem pj_mn3 : plainName pj_m3.1.cls = true := pj_pl1
set_option maxRecDepth 100000 in
theorem pj_mr3 : pj_okRL pj_m3 = true := pj_okRG_s (M := pj_m3) pj_TH1 rfl (by decide +kernel)
set_option maxRecDepth 100000 in
theorem pj_mwa4 : pj_wt 902 = some (.code pj_m4.1 pj_m4.2.1 pj_m4.2.2.1 pj_m4.2.2.2.1) := rfl
set_option maxRecDepth 100000 in
theorem pj_mwb4 : pj_wt 97 = some (.initialized pj_m4.1.cls) := rfl
set_option maxRecDepth 100000 in
theorem pj_mwc4 : pj_wt 901 = some (.instanceMethod pj_m4.1) := rfl
set_option maxRecDepth 100000 in
theorem pj_mwd4 : pj_wt 9 = some (.selects pj_m4.1.cls pj_m4.1 pj_m4.1) := rfl
set_option maxRecDepth 100000 in
theorem pj_ml4 : pj_okm pj_m4 (2, 1) = true := pj_okm1 (pj_okq_s (M := pj_m4) pj_mwa4 pj_mwb4 (by decide +kernel)) pj_mwc4 (by decide +kernel) pj_mwd4 (by decide +kernel)
set_option maxRecDepth 100000 in
theorem pj_mn4 : plainName pj_m4.1.cls = true := pj_pl1
set_option maxRecDepth 100000 in
theorem pj_mr4 : pj_okRL pj_m4 = true := pj_okRG_s (M := pj_m4) pj_TH1 rfl (by decide +kernel)
set_option maxRecDepth 100000 in
theorem pj_mwa5 : pj_wt 367 = some (.code pj_m5.1 pj_m5.2.1 pj_m5.2.2.1 pj_m5.2.2.2.1) := rfl
set_option maxRecDepth 100000 in
theorem pj_mwb5 : pj_wt 95 = some (.initialized pj_m5.1.cls) := rfl
set_option maxRecDepth 100000 in
theorem pj_mwc5 : pj_wt 366 = some (.instanceMethod pj_m5.1) := rfl
set_option maxRecDepth 100000 in
theorem pj_ml5 : pj_okm pj_m5 (1, 2) = true := pj_okm2 (pj_okq_s (M := pj_m5) pj_mwa5 pj_mwb5 (by decide +kernel)) pj_mwc5 (by decide +kernel) (by decide +kernel)
set_option maxRecDepth 100000 in
theorem pj_mn5 : plainName pj_m5.1.cls = true := pj_pl2
set_option maxRecDepth 100000 in
theorem pj_mr5 : pj_okRL pj_m5 = true := pj_okRG_s (M := pj_m5) pj_TH2 rfl (by decide +kernel)
set_option maxRecDepth 100000 in
theorem pj_mwa6 : pj_wt 1118 = some (.code pj_m6.1 pj_m6.2.1 pj_m6.2.2.1 pj_m6.2.2.2.1) := rfl
set_option maxRecDepth 100000 in
theorem pj_mwb6 : pj_wt 95 = some (.initialized pj_m6.1.cls) := rfl
set_option maxRecDepth 100000 in
theorem pj_mwc6 : pj_wt 1116 = some (.instanceMethod pj_m6.1) := rfl
set_option maxRecDepth 100000 in
theorem pj_mwd6 : pj_wt 1117 = some (.selects pj_m6.1.cls pj_m6.1 pj_m6.1) := rfl
set_option maxRecDepth 100000 in
theorem pj_ml6 : pj_okm pj_m6 (2, 1) = true := pj_okm1 (pj_okq_s (M := pj_m6) pj_mwa6 pj_mwb6 (by decide +kernel)) pj_mwc6 (by decide +kernel) pj_mwd6 (by decide +kernel)
set_option maxRecDepth 100000 in
theorem pj_mn6 : plainName pj_m6.1.cls = true := pj_pl2
set_option maxRecDepth 100000 in
theorem pj_mr6 : pj_okRL pj_m6 = true := pj_okRG_s (M := pj_m6) pj_TH2 rfl (by decide +kernel)
set_option maxRecDepth 100000 in
theorem pj_mwa7 : pj_wt 1122 = some (.code pj_m7.1 pj_m7.2.1 pj_m7.2.2.1 pj_m7.2.2.2.1) := rfl
set_option maxRecDepth 100000 in
theorem pj_mwb7 : pj_wt 95 = some (.initialized pj_m7.1.cls) := rfl
set_option maxRecDepth 100000 in
theorem pj_mwc7 : pj_wt 1120 = some (.instanceMethod pj_m7.1) := rfl
set_option maxRecDepth 100000 in
theorem pj_mwd7 : pj_wt 1121 = some (.selects pj_m7.1.cls pj_m7.1 pj_m7.1) := rfl
set_option maxRecDepth 100000 in
theorem pj_ml7 : pj_okm pj_m7 (3, 1) = true := pj_okm1 (pj_okq_s (M := pj_m7) pj_mwa7 pj_mwb7 (by decide +kernel)) pj_mwc7 (by decide +kernel) pj_mwd7 (by decide +kernel)
set_option maxRecDepth 100000 in
theorem pj_mn7 : plainName pj_m7.1.cls = true := pj_pl2
set_option maxRecDepth 100000 in
theorem pj_mr7 : pj_okRL pj_m7 = true := pj_okRG_s (M := pj_m7) pj_TH2 rfl (by decide +kernel)
set_option maxRecDepth 100000 in
theorem pj_mwa8 : pj_wt 1126 = some (.code pj_m8.1 pj_m8.2.1 pj_m8.2.2.1 pj_m8.2.2.2.1) := rfl
set_option maxRecDepth 100000 in
theorem pj_mwb8 : pj_wt 95 = some (.initialized pj_m8.1.cls) := rfl
set_option maxRecDepth 100000 in
theorem pj_mwc8 : pj_wt 1125 = some (.instanceMethod pj_m8.1) := rfl
set_option maxRecDepth 100000 in
theorem pj_mwd8 : pj_wt 15 = some (.selects pj_m8.1.cls pj_m8.1 pj_m8.1) := rfl
set_option maxRecDepth 100000 in
theorem pj_ml8 : pj_okm pj_m8 (1, 1) = true := pj_okm1 (pj_okq_s (M := pj_m8) pj_mwa8 pj_mwb8 (by decide +kernel)) pj_mwc8 (by decide +kernel) pj_mwd8 (by decide +kernel)
set_option maxRecDepth 100000 in
theorem pj_mn8 : plainName pj_m8.1.cls = true := pj_pl2
set_option maxRecDepth 100000 in
theorem pj_mr8 : pj_okRL pj_m8 = true := pj_okRG_s (M := pj_m8) pj_TH2 rfl (by decide +kernel)
set_option maxRecDepth 100000 in
theorem pj_mwa9 : pj_wt 1143 = some (.code pj_m9.1 pj_m9.2.1 pj_m9.2.2.1 pj_m9.2.2.2.1) := rfl
set_option maxRecDepth 100000 in
theorem pj_mwb9 : pj_wt 95 = some (.initialized pj_m9.1.cls) := rfl
set_option maxRecDepth 100000 in
theorem pj_mwc9 : pj_wt 1141 = some (.instanceMethod pj_m9.1) := rfl
set_option maxRecDepth 100000 in
theorem pj_mwd9 : pj_wt 1142 = some (.selects pj_m9.1.cls pj_m9.1 pj_m9.1) := rfl
set_option maxRecDepth 100000 in
theorem pj_ml9 : pj_okm pj_m9 (0, 1) = true := pj_okm1 (pj_okq_s (M := pj_m9) pj_mwa9 pj_mwb9 (by decide +kernel)) pj_mwc9 (by decide +kernel) pj_mwd9 (by decide +kernel)
set_option maxRecDepth 100000 in
theorem pj_mn9 : plainName pj_m9.1.cls = true := pj_pl2
set_option maxRecDepth 100000 in
theorem pj_mr9 : pj_okRL pj_m9 = true := pj_okRG_s (M := pj_m9) pj_TH2 rfl (by decide +kernel)
set_option maxRecDepth 100000 in
theorem pj_mwa10 : pj_wt 1131 = some (.code pj_m10.1 pj_m10.2.1 pj_m10.2.2.1 pj_m10.2.2.2.1) := rfl
set_option maxRecDepth 100000 in
theorem pj_mwb10 : pj_wt 95 = some (.initialized pj_m10.1.cls) := rfl
set_option maxRecDepth 100000 in
theorem pj_mwc10 : pj_wt 1129 = some (.instanceMethod pj_m10.1) := rfl
set_option maxRecDepth 100000 in
theorem pj_mwd10 : pj_wt 1130 = some (.selects pj_m10.1.cls pj_m10.1 pj_m10.1) := rfl
set_option maxRecDepth 100000 in
theorem pj_ml10 : pj_okm pj_m10 (2, 1) = true := pj_okm1 (pj_okq_s (M := pj_m10) pj_mwa10 pj_mwb10 (by decide +kernel)) pj_mwc10 (by decide +kernel) pj_mwd10 (by decide +kernel)
set_option maxRecDepth 100000 in
theorem pj_mn10 : plainName pj_m10.1.cls = true := pj_pl2
set_option maxRecDepth 100000 in
theorem pj_mr10 : pj_okRL pj_m10 = true := pj_okRG_s (M := pj_m10) pj_TH2 rfl (by decide +kernel)
set_option maxRecDepth 100000 in
theorem pj_mwa11 : pj_wt 1134 = some (.code pj_m11.1 pj_m11.2.1 pj_m11.2.2.1 pj_m11.2.2.2.1) := rfl
set_option maxRecDepth 100000 in
theorem pj_mwb11 : pj_wt 95 = some (.initialized pj_m11.1.cls) := rfl
set_option maxRecDepth 100000 in
theorem pj_mwc11 : pj_wt 1133 = some (.static pj_m11.1) := rfl
set_option maxRecDepth 100000 in
theorem pj_ml11 : pj_okm pj_m11 (2, 0) = true := pj_okm0 (pj_okq_s (M := pj_m11) pj_mwa11 pj_mwb11 (by decide +kernel)) pj_mwc11 (by decide +kernel)
set_option maxRecDepth 100000 in
theorem pj_mn11 : plainName pj_m11.1.cls = true := pj_pl2
set_option maxRecDepth 100000 in
theorem pj_mr11 : pj_okRL pj_m11 = true := pj_okRG_s (M := pj_m11) pj_TH2 rfl (by decide +kernel)
set_option maxRecDepth 100000 in
theorem pj_mwa12 : pj_wt 1224 = some (.code pj_m12.1 pj_m12.2.1 pj_m12.2.2.1 pj_m12.2.2.2.1) := rfl
set_option maxRecDepth 100000 in
theorem pj_mwb12 : pj_wt 95 = some (.initialized pj_m12.1.cls) := rfl
set_option maxRecDepth 100000 in
theorem pj_mwc12 : pj_wt 1222 = some (.instanceMethod pj_m12.1) := rfl
set_option maxRecDepth 100000 in
theorem pj_mwd12 : pj_wt 1223 = some (.selects pj_m12.1.cls pj_m12.1 pj_m12.1) := rfl
set_option maxRecDepth 100000 in
theorem pj_ml12 : pj_okm pj_m12 (3, 1) = true := pj_okm1 (pj_okq_s (M := pj_m12) pj_mwa12 pj_mwb12 (by decide +kernel)) pj_mwc12 (by decide +kernel) pj_mwd12 (by decide +kernel)
set_option maxRecDepth 100000 in
theorem pj_mn12 : plainName pj_m12.1.cls = true := pj_pl2
set_option maxRecDepth 100000 in
theorem pj_mr12 : pj_okRL pj_m12 = true := pj_okRG_s (M := pj_m12) pj_TH2 rfl (by decide +kernel)
set_option maxRecDepth 100000 in
theorem pj_mwa13 : pj_wt 1230 = some (.code pj_m13.1 pj_m13.2.1 pj_m13.2.2.1 pj_m13.2.2.2.1) := rfl
set_option maxRecDepth 100000 in
theorem pj_mwb13 : pj_wt 95 = some (.initialized pj_m13.1.cls) := rfl
set_option maxRecDepth 100000 in
theorem pj_mwc13 : pj_wt 1229 = some (.instanceMethod pj_m13.1) := rfl
set_option maxRecDepth 100000 in
theorem pj_mwd13 : pj_wt 18 = some (.selects pj_m13.1.cls pj_m13.1 pj_m13.1) := rfl
set_option maxRecDepth 100000 in
theorem pj_ml13 : pj_okm pj_m13 (1, 1) = true := pj_okm1 (pj_okq_s (M := pj_m13) pj_mwa13 pj_mwb13 (by decide +kernel)) pj_mwc13 (by decide +kernel) pj_mwd13 (by decide +kernel)
set_option maxRecDepth 100000 in
theorem pj_mn13 : plainName pj_m13.1.cls = true := pj_pl2
set_option maxRecDepth 100000 in
theorem pj_mr13 : pj_okRL pj_m13 = true := pj_okRG_s (M := pj_m13) pj_TH2 rfl (by decide +kernel)
set_option maxRecDepth 100000 in
theorem pj_mwa14 : pj_wt 1240 = some (.code pj_m14.1 pj_m14.2.1 pj_m14.2.2.1 pj_m14.2.2.2.1) := rfl
set_option maxRecDepth 100000 in
theorem pj_mwb14 : pj_wt 95 = some (.initialized pj_m14.1.cls) := rfl
set_option maxRecDepth 100000 in
theorem pj_mwc14 : pj_wt 1239 = some (.instanceMethod pj_m14.1) := rfl
set_option maxRecDepth 100000 in
theorem pj_mwd14 : pj_wt 19 = some (.selects pj_m14.1.cls pj_m14.1 pj_m14.1) := rfl
set_option maxRecDepth 100000 in
theorem pj_ml14 : pj_okm pj_m14 (0, 1) = true := pj_okm1 (pj_okq_s (M := pj_m14) pj_mwa14 pj_mwb14 (by decide +kernel)) pj_mwc14 (by decide +kernel) pj_mwd14 (by decide +kernel)
set_option maxRecDepth 100000 in
theorem pj_mn14 : plainName pj_m14.1.cls = true := pj_pl2
set_option maxRecDepth 100000 in
theorem pj_mr14 : pj_okRL pj_m14 = true := pj_okRG_s (M := pj_m14) pj_TH2 rfl (by decide +kernel)
set_option maxRecDepth 100000 in
theorem pj_mwa15 : pj_wt 388 = some (.code pj_m15.1 pj_m15.2.1 pj_m15.2.2.1 pj_m15.2.2.2.1) := rfl
set_option maxRecDepth 100000 in
theorem pj_mwb15 : pj_wt 96 = some (.initialized pj_m15.1.cls) := rfl
set_option maxRecDepth 100000 in
theorem pj_mwc15 : pj_wt 387 = some (.instanceMethod pj_m15.1) := rfl
set_option maxRecDepth 100000 in
theorem pj_ml15 : pj_okm pj_m15 (1, 2) = true := pj_okm2 (pj_okq_s (M := pj_m15) pj_mwa15 pj_mwb15 (by decide +kernel)) pj_mwc15 (by decide +kernel) (by decide +kernel)
set_option maxRecDepth 100000 in
theorem pj_mn15 : plainName pj_m15.1.cls = true := pj_pl3
set_option maxRecDepth 100000 in
theorem pj_mr15 : pj_okRL pj_m15 = true := pj_okRG_s (M := pj_m15) pj_TH3 rfl (by decide +kernel)
set_option maxRecDepth 100000 in
theorem pj_mwa16 : pj_wt 1154 = some (.code pj_m16.1 pj_m16.2.1 pj_m16.2.2.1 pj_m16.2.2.2.1) := rfl
set_option maxRecDepth 100000 in
theorem pj_mwb16 : pj_wt 96 = some (.initialized pj_m16.1.cls) := rfl
set_option maxRecDepth 100000 in
theorem pj_mwc16 : pj_wt 1153 = some (.static pj_m16.1) := rfl
set_option maxRecDepth 100000 in
theorem pj_ml16 : pj_okm pj_m16 (2, 0) = true := pj_okm0 (pj_okq_s (M := pj_m16) pj_mwa16 pj_mwb16 (by decide +kernel)) pj_mwc16 (by decide +kernel)
set_option maxRecDepth 100000 in
theorem pj_mn16 : plainName pj_m16.1.cls = true := pj_pl3
set_option maxRecDepth 100000 in
theorem pj_mr16 : pj_okRL pj_m16 = true := pj_okRG_s (M := pj_m16) pj_TH3 rfl (by decide +kernel)
set_option maxRecDepth 100000 in
theorem pj_mwa17 : pj_wt 1151 = some (.code pj_m17.1 pj_m17.2.1 pj_m17.2.2.1 pj_m17.2.2.2.1) := rfl
set_option maxRecDepth 100000 in
theorem pj_mwb17 : pj_wt 96 = some (.initialized pj_m17.1.cls) := rfl
set_option maxRecDepth 100000 in
theorem pj_mwc17 : pj_wt 1149 = some (.instanceMethod pj_m17.1) := rfl
set_option maxRecDepth 100000 in
theorem pj_mwd17 : pj_wt 1150 = some (.selects pj_m17.1.cls pj_m17.1 pj_m17.1) := rfl
set_option maxRecDepth 100000 in
theorem pj_ml17 : pj_okm pj_m17 (3, 1) = true := pj_okm1 (pj_okq_s (M := pj_m17) pj_mwa17 pj_mwb17 (by decide +kernel)) pj_mwc17 (by decide +kernel) pj_mwd17 (by decide +kernel)
set_option maxRecDepth 100000 in
theorem pj_mn17 : plainName pj_m17.1.cls = true := pj_pl3
set_option maxRecDepth 100000 in
theorem pj_mr17 : pj_okRL pj_m17 = true := pj_okRG_s (M := pj_m17) pj_TH3 rfl (by decide +kernel)
set_option maxRecDepth 100000 in
theorem pj_mwa18 : pj_wt 1174 = some (.code pj_m18.1 pj_m18.2.1 pj_m18.2.2.1 pj_m18.2.2.2.1) := rfl
set_option maxRecDepth 100000 in
theorem pj_mwb18 : pj_wt 96 = some (.initialized pj_m18.1.cls) := rfl
set_option maxRecDepth 100000 in
theorem pj_mwc18 : pj_wt 1173 = some (.instanceMethod pj_m18.1) := rfl
set_option maxRecDepth 100000 in
theorem pj_mwd18 : pj_wt 17 = some (.selects pj_m18.1.cls pj_m18.1 pj_m18.1) := rfl
set_option maxRecDepth 100000 in
theorem pj_ml18 : pj_okm pj_m18 (2, 1) = true := pj_okm1 (pj_okq_s (M := pj_m18) pj_mwa18 pj_mwb18 (by decide +kernel)) pj_mwc18 (by decide +kernel) pj_mwd18 (by decide +kernel)
set_option maxRecDepth 100000 in
theorem pj_mn18 : plainName pj_m18.1.cls = true := pj_pl3
set_option maxRecDepth 100000 in
theorem pj_mr18 : pj_okRL pj_m18 = true := pj_okRG_s (M := pj_m18) pj_TH3 rfl (by decide +kernel)
set_option maxRecDepth 100000 in
theorem pj_mwa19 : pj_wt 1170 = some (.code pj_m19.1 pj_m19.2.1 pj_m19.2.2.1 pj_m19.2.2.2.1) := rfl
set_option maxRecDepth 100000 in
theorem pj_mwb19 : pj_wt 96 = some (.initialized pj_m19.1.cls) := rfl
set_option maxRecDepth 100000 in
theorem pj_mwc19 : pj_wt 1169 = some (.instanceMethod pj_m19.1) := rfl
set_option maxRecDepth 100000 in
theorem pj_mwd19 : pj_wt 16 = some (.selects pj_m19.1.cls pj_m19.1 pj_m19.1) := rfl
set_option maxRecDepth 100000 in
theorem pj_ml19 : pj_okm pj_m19 (1, 1) = true := pj_okm1 (pj_okq_s (M := pj_m19) pj_mwa19 pj_mwb19 (by decide +kernel)) pj_mwc19 (by decide +kernel) pj_mwd19 (by decide +kernel)
set_option maxRecDepth 100000 in
theorem pj_mn19 : plainName pj_m19.1.cls = true := pj_pl3
set_option maxRecDepth 100000 in
theorem pj_mr19 : pj_okRL pj_m19 = true := pj_okRG_s (M := pj_m19) pj_TH3 rfl (by decide +kernel)
set_option maxRecDepth 100000 in
theorem pj_mwa20 : pj_wt 1166 = some (.code pj_m20.1 pj_m20.2.1 pj_m20.2.2.1 pj_m20.2.2.2.1) := rfl
set_option maxRecDepth 100000 in
theorem pj_mwb20 : pj_wt 96 = some (.initialized pj_m20.1.cls) := rfl
set_option maxRecDepth 100000 in
theorem pj_mwc20 : pj_wt 1164 = some (.instanceMethod pj_m20.1) := rfl
set_option maxRecDepth 100000 in
theorem pj_mwd20 : pj_wt 1165 = some (.selects pj_m20.1.cls pj_m20.1 pj_m20.1) := rfl
set_option maxRecDepth 100000 in
theorem pj_ml20 : pj_okm pj_m20 (0, 1) = true := pj_okm1 (pj_okq_s (M := pj_m20) pj_mwa20 pj_mwb20 (by decide +kernel)) pj_mwc20 (by decide +kernel) pj_mwd20 (by decide +kernel)
set_option maxRecDepth 100000 in
theorem pj_mn20 : plainName pj_m20.1.cls = true := pj_pl3
set_option maxRecDepth 100000 in
theorem pj_mr20 : pj_okRL pj_m20 = true := pj_okRG_s (M := pj_m20) pj_TH3 rfl (by decide +kernel)
set_option maxRecDepth 100000 in
theorem pj_mwa21 : pj_wt 1183 = some (.code pj_m21.1 pj_m21.2.1 pj_m21.2.2.1 pj_m21.2.2.2.1) := rfl
set_option maxRecDepth 100000 in
theorem pj_mwb21 : pj_wt 96 = some (.initialized pj_m21.1.cls) := rfl
set_option maxRecDepth 100000 in
theorem pj_mwc21 : pj_wt 1181 = some (.instanceMethod pj_m21.1) := rfl
set_option maxRecDepth 100000 in
theorem pj_mwd21 : pj_wt 1182 = some (.selects pj_m21.1.cls pj_m21.1 pj_m21.1) := rfl
set_option maxRecDepth 100000 in
theorem pj_ml21 : pj_okm pj_m21 (2, 1) = true := pj_okm1 (pj_okq_s (M := pj_m21) pj_mwa21 pj_mwb21 (by decide +kernel)) pj_mwc21 (by decide +kernel) pj_mwd21 (by decide +kernel)
set_option maxRecDepth 100000 in
theorem pj_mn21 : plainName pj_m21.1.cls = true := pj_pl3
set_option maxRecDepth 100000 in
theorem pj_mr21 : pj_okRL pj_m21 = true := pj_okRG_s (M := pj_m21) pj_TH3 rfl (by decide +kernel)
set_option maxRecDepth 100000 in
theorem pj_mwa22 : pj_wt 345 = some (.code pj_m22.1 pj_m22.2.1 pj_m22.2.2.1 pj_m22.2.2.2.1) := rfl
set_option maxRecDepth 100000 in
theorem pj_mwb22 : pj_wt 94 = some (.initialized pj_m22.1.cls) := rfl
set_option maxRecDepth 100000 in
theorem pj_mwc22 : pj_wt 344 = some (.instanceMethod pj_m22.1) := rfl
set_option maxRecDepth 100000 in
theorem pj_ml22 : pj_okm pj_m22 (1, 2) = true := pj_okm2 (pj_okq_s (M := pj_m22) pj_mwa22 pj_mwb22 (by decide +kernel)) pj_mwc22 (by decide +kernel) (by decide +kernel)
set_option maxRecDepth 100000 in
theorem pj_mn22 : plainName pj_m22.1.cls = true := pj_pl4
set_option maxRecDepth 100000 in
theorem pj_mr22 : pj_okRL pj_m22 = true := pj_okRG_s (M := pj_m22) pj_TH4 rfl (by decide +kernel)
