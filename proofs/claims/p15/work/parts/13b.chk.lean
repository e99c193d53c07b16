set_option maxRecDepth 100000 in
theorem pj_mwa23 : pj_wt 1029 = some (.code pj_m23.1 pj_m23.2.1 pj_m23.2.2.1 pj_m23.2.2.2.1) := rfl
set_option maxRecDepth 100000 in
theorem pj_mwb23 : pj_wt 94 = some (.initialized pj_m23.1.cls) := rfl
set_option maxRecDepth 100000 in
theorem pj_mwc23 : pj_wt 1027 = some (.instanceMethod pj_m23.1) := rfl
set_option maxRecDepth 100000 in
theorem pj_mwd23 : pj_wt 1028 = some (.selects pj_m23.1.cls pj_m23.1 pj_m23.1) := rfl
set_option maxRecDepth 100000 in
theorem pj_ml23 : pj_okm pj_m23 (0, 1) = true := pj_okm1 (pj_okq_s (M := pj_m23) pj_mwa23 pj_mwb23 (by decide +kernel)) pj_mwc23 (by decide +kernel) pj_mwd23 (by decide +kernel)
set_option maxRecDepth 100000 in
theorem pj_mn23 : plainName pj_m23.1.cls = true := pj_pl4
set_option maxRecDepth 100000 in
theorem pj_mr23 : pj_okRL pj_m23 = true := pj_okRG_s (M := pj_m23) pj_TH4 rfl (by decide +kernel)
set_option maxRecDepth 100000 in
theorem pj_mwa24 : pj_wt 1033 = some (.code pj_m24.1 pj_m24.2.1 pj_m24.2.2.1 pj_m24.2.2.2.1) := rfl
set_option maxRecDepth 100000 in
theorem pj_mwb24 : pj_wt 94 = some (.initialized pj_m24.1.cls) := rfl
set_option maxRecDepth 100000 in
theorem pj_mwc24 : pj_wt 1031 = some (.instanceMethod pj_m24.1) := rfl
set_option maxRecDepth 100000 in
theorem pj_mwd24 : pj_wt 1032 = some (.selects pj_m24.1.cls pj_m24.1 pj_m24.1) := rfl
set_option maxRecDepth 100000 in
theorem pj_ml24 : pj_okm pj_m24 (2, 1) = true := pj_okm1 (pj_okq_s (M := pj_m24) pj_mwa24 pj_mwb24 (by decide +kernel)) pj_mwc24 (by decide +kernel) pj_mwd24 (by decide +kernel)
set_option maxRecDepth 100000 in
theorem pj_mn24 : plainName pj_m24.1.cls = true := pj_pl4
set_option maxRecDepth 100000 in
theorem pj_mr24 : pj_okRL pj_m24 = true := pj_okRG_s (M := pj_m24) pj_TH4 rfl (by decide +kernel)
set_option maxRecDepth 100000 in
theorem pj_mwa25 : pj_wt 1038 = some (.code pj_m25.1 pj_m25.2.1 pj_m25.2.2.1 pj_m25.2.2.2.1) := rfl
set_option maxRecDepth 100000 in
theorem pj_mwb25 : pj_wt 94 = some (.initialized pj_m25.1.cls) := rfl
set_option maxRecDepth 100000 in
theorem pj_mwc25 : pj_wt 1036 = some (.instanceMethod pj_m25.1) := rfl
set_option maxRecDepth 100000 in
theorem pj_mwd25 : pj_wt 1037 = some (.selects pj_m25.1.cls pj_m25.1 pj_m25.1) := rfl
set_option maxRecDepth 100000 in
theorem pj_ml25 : pj_okm pj_m25 (3, 1) = true := pj_okm1 (pj_okq_s (M := pj_m25) pj_mwa25 pj_mwb25 (by decide +kernel)) pj_mwc25 (by decide +kernel) pj_mwd25 (by decide +kernel)
set_option maxRecDepth 100000 in
theorem pj_mn25 : plainName pj_m25.1.cls = true := pj_pl4
set_option maxRecDepth 100000 in
theorem pj_mr25 : pj_okRL pj_m25 = true := pj_okRG_s (M := pj_m25) pj_TH4 rfl (by decide +kernel)
set_option maxRecDepth 100000 in
theorem pj_mwa26 : pj_wt 1043 = some (.code pj_m26.1 pj_m26.2.1 pj_m26.2.2.1 pj_m26.2.2.2.1) := rfl
set_option maxRecDepth 100000 in
theorem pj_mwb26 : pj_wt 94 = some (.initialized pj_m26.1.cls) := rfl
set_option maxRecDepth 100000 in
theorem pj_mwc26 : pj_wt 1042 = some (.instanceMethod pj_m26.1) := rfl
set_option maxRecDepth 100000 in
theorem pj_mwd26 : pj_wt 13 = some (.selects pj_m26.1.cls pj_m26.1 pj_m26.1) := rfl
set_option maxRecDepth 100000 in
theorem pj_ml26 : pj_okm pj_m26 (3, 1) = true := pj_okm1 (pj_okq_s (M := pj_m26) pj_mwa26 pj_mwb26 (by decide +kernel)) pj_mwc26 (by decide +kernel) pj_mwd26 (by decide +kernel)
set_option maxRecDepth 100000 in
theorem pj_mn26 : plainName pj_m26.1.cls = true := pj_pl4
set_option maxRecDepth 100000 in
theorem pj_mr26 : pj_okRL pj_m26 = true := pj_okRG_s (M := pj_m26) pj_TH4 rfl (by decide +kernel)
set_option maxRecDepth 100000 in
theorem pj_mwa27 : pj_wt 1053 = some (.code pj_m27.1 pj_m27.2.1 pj_m27.2.2.1 pj_m27.2.2.2.1) := rfl
set_option maxRecDepth 100000 in
theorem pj_mwb27 : pj_wt 94 = some (.initialized pj_m27.1.cls) := rfl
set_option maxRecDepth 100000 in
theorem pj_mwc27 : pj_wt 1051 = some (.instanceMethod pj_m27.1) := rfl
set_option maxRecDepth 100000 in
theorem pj_mwd27 : pj_wt 1052 = some (.selects pj_m27.1.cls pj_m27.1 pj_m27.1) := rfl
set_option maxRecDepth 100000 in
theorem pj_ml27 : pj_okm pj_m27 (1, 1) = true := pj_okm1 (pj_okq_s (M := pj_m27) pj_mwa27 pj_mwb27 (by decide +kernel)) pj_mwc27 (by decide +kernel) pj_mwd27 (by decide +kernel)
set_option maxRecDepth 100000 in
theorem pj_mn27 : plainName pj_m27.1.cls = true := pj_pl4
set_option maxRecDepth 100000 in
theorem pj_mr27 : pj_okRL pj_m27 = true := pj_okRG_s (M := pj_m27) pj_TH4 rfl (by decide +kernel)
set_option maxRecDepth 100000 in
theorem pj_mwa28 : pj_wt 1085 = some (.code pj_m28.1 pj_m28.2.1 pj_m28.2.2.1 pj_m28.2.2.2.1) := rfl
set_option maxRecDepth 100000 in
theorem pj_mwb28 : pj_wt 94 = some (.initialized pj_m28.1.cls) := rfl
set_option maxRecDepth 100000 in
theorem pj_mwc28 : pj_wt 1083 = some (.instanceMethod pj_m28.1) := rfl
set_option maxRecDepth 100000 in
theorem pj_mwd28 : pj_wt 1084 = some (.selects pj_m28.1.cls pj_m28.1 pj_m28.1) := rfl
set_option maxRecDepth 100000 in
theorem pj_ml28 : pj_okm pj_m28 (1, 1) = true := pj_okm1 (pj_okq_s (M := pj_m28) pj_mwa28 pj_mwb28 (by decide +kernel)) pj_mwc28 (by decide +kernel) pj_mwd28 (by decide +kernel)
set_option maxRecDepth 100000 in
theorem pj_mn28 : plainName pj_m28.1.cls = true := pj_pl4
set_option maxRecDepth 100000 in
theorem pj_mr28 : pj_okRL pj_m28 = true := pj_okRG_s (M := pj_m28) pj_TH4 rfl (by decide +kernel)
set_option maxRecDepth 100000 in
theorem pj_mwa29 : pj_wt 1062 = some (.code pj_m29.1 pj_m29.2.1 pj_m29.2.2.1 pj_m29.2.2.2.1) := rfl
set_option maxRecDepth 100000 in
theorem pj_mwb29 : pj_wt 94 = some (.initialized pj_m29.1.cls) := rfl
set_option maxRecDepth 100000 in
theorem pj_mwc29 : pj_wt 1061 = some (.instanceMethod pj_m29.1) := rfl
set_option maxRecDepth 100000 in
theorem pj_mwd29 : pj_wt 14 = some (.selects pj_m29.1.cls pj_m29.1 pj_m29.1) := rfl
set_option maxRecDepth 100000 in
theorem pj_ml29 : pj_okm pj_m29 (1, 1) = true := pj_okm1 (pj_okq_s (M := pj_m29) pj_mwa29 pj_mwb29 (by decide +kernel)) pj_mwc29 (by decide +kernel) pj_mwd29 (by decide +kernel)
set_option maxRecDepth 100000 in
theorem pj_mn29 : plainName pj_m29.1.cls = true := pj_pl4
set_option maxRecDepth 100000 in
theorem pj_mr29 : pj_okRL pj_m29 = true := pj_okRG_s (M := pj_m29) pj_TH4 rfl (by decide +kernel)
set_option maxRecDepth 100000 in
theorem pj_mwa30 : pj_wt 1057 = some (.code pj_m30.1 pj_m30.2.1 pj_m30.2.2.1 pj_m30.2.2.2.1) := rfl
set_option maxRecDepth 100000 in
theorem pj_mwb30 : pj_wt 94 = some (.initialized pj_m30.1.cls) := rfl
set_option maxRecDepth 100000 in
theorem pj_mwc30 : pj_wt 1055 = some (.instanceMethod pj_m30.1) := rfl
set_option maxRecDepth 100000 in
theorem pj_mwd30 : pj_wt 1056 = some (.selects pj_m30.1.cls pj_m30.1 pj_m30.1) := rfl
set_option maxRecDepth 100000 in
theorem pj_ml30 : pj_okm pj_m30 (1, 1) = true := pj_okm1 (pj_okq_s (M := pj_m30) pj_mwa30 pj_mwb30 (by decide +kernel)) pj_mwc30 (by decide +kernel) pj_mwd30 (by decide +kernel)
set_option maxRecDepth 100000 in
theorem pj_mn30 : plainName pj_m30.1.cls = true := pj_pl4
set_option maxRecDepth 100000 in
theorem pj_mr30 : pj_okRL pj_m30 = true := pj_okRG_s (M := pj_m30) pj_TH4 rfl (by decide +kernel)
set_option maxRecDepth 100000 in
theorem pj_mwa31 : pj_wt 1076 = some (.code pj_m31.1 pj_m31.2.1 pj_m31.2.2.1 pj_m31.2.2.2.1) := rfl
set_option maxRecDepth 100000 in
theorem pj_mwb31 : pj_wt 94 = some (.initialized pj_m31.1.cls) := rfl
set_option maxRecDepth 100000 in
theorem pj_mwc31 : pj_wt 1074 = some (.instanceMethod pj_m31.1) := rfl
set_option maxRecDepth 100000 in
theorem pj_mwd31 : pj_wt 1075 = some (.selects pj_m31.1.cls pj_m31.1 pj_m31.1) := rfl
set_option maxRecDepth 100000 in
theorem pj_ml31 : pj_okm pj_m31 (1, 1) = true := pj_okm1 (pj_okq_s (M := pj_m31) pj_mwa31 pj_mwb31 (by decide +kernel)) pj_mwc31 (by decide +kernel) pj_mwd31 (by decide +kernel)
set_option maxRecDepth 100000 in
theorem pj_mn31 : plainName pj_m31.1.cls = true := pj_pl4
set_option maxRecDepth 100000 in
theorem pj_mr31 : pj_okRL pj_m31 = true := pj_okRG_s (M := pj_m31) pj_TH4 rfl (by decide +kernel)
set_option maxRecDepth 100000 in
theorem pj_mwa32 : pj_wt 429 = some (.code pj_m32.1 pj_m32.2.1 pj_m32.2.2.1 pj_m32.2.2.2.1) := rfl
set_option maxRecDepth 100000 in
theorem pj_mwb32 : pj_wt 98 = some (.initialized pj_m32.1.cls) := rfl
set_option maxRecDepth 100000 in
theorem pj_mwc32 : pj_wt 428 = some (.instanceMethod pj_m32.1) := rfl
set_option maxRecDepth 100000 in
theorem pj_ml32 : pj_okm pj_m32 (0, 2) = true := pj_okm2 (pj_okq_s (M := pj_m32) pj_mwa32 pj_mwb32 (by decide +kernel)) pj_mwc32 (by decide +kernel) (by decide +kernel)
set_option maxRecDepth 100000 in
theorem pj_mn32 : plainName pj_m32.1.cls = true := pj_pl5
set_option maxRecDepth 100000 in
theorem pj_mr32 : pj_okRL pj_m32 = true := pj_okRG_s (M := pj_m32) pj_TH5 rfl (by decide +kernel)
set_option maxRecDepth 100000 in
theorem pj_mwa33 : pj_wt 804 = some (.code pj_m33.1 pj_m33.2.1 pj_m33.2.2.1 pj_m33.2.2.2.1) := rfl
set_option maxRecDepth 100000 in
theorem pj_mwb33 : pj_wt 98 = some (.initialized pj_m33.1.cls) := rfl
set_option maxRecDepth 100000 in
theorem pj_mwc33 : pj_wt 802 = some (.instanceMethod pj_m33.1) := rfl
set_option maxRecDepth 100000 in
theorem pj_mwd33 : pj_wt 803 = some (.selects pj_m33.1.cls pj_m33.1 pj_m33.1) := rfl
set_option maxRecDepth 100000 in
theorem pj_ml33 : pj_okm pj_m33 (1, 1) = true := pj_okm1 (pj_okq_s (M := pj_m33) pj_mwa33 pj_mwb33 (by decide +kernel)) pj_mwc33 (by decide +kernel) pj_mwd33 (by decide +kernel)
set_option maxRecDepth 100000 in
theorem pj_mn33 : plainName pj_m33.1.cls = true := pj_pl5
set_option maxRecDepth 100000 in
theorem pj_mr33 : pj_okRL pj_m33 = true := pj_okRG_s (M := pj_m33) pj_TH5 rfl (by decide +kernel)
set_option maxRecDepth 100000 in
theorem pj_mwa34 : pj_wt 820 = some (.code pj_m34.1 pj_m34.2.1 pj_m34.2.2.1 pj_m34.2.2.2.1) := rfl
set_option maxRecDepth 100000 in
theorem pj_mwb34 : pj_wt 98 = some (.initialized pj_m34.1.cls) := rfl
set_option maxRecDepth 100000 in
theorem pj_mwc34 : pj_wt 818 = some (.instanceMethod pj_m34.1) := rfl
set_option maxRecDepth 100000 in
theorem pj_mwd34 : pj_wt 819 = some (.selects pj_m34.1.cls pj_m34.1 pj_m34.1) := rfl
set_option maxRecDepth 100000 in
theorem pj_ml34 : pj_okm pj_m34 (1, 1) = true := pj_okm1 (pj_okq_s (M := pj_m34) pj_mwa34 pj_mwb34 (by decide +kernel)) pj_mwc34 (by decide +kernel) pj_mwd34 (by decide +kernel)
set_option maxRecDepth 100000 in
theorem pj_mn34 : plainName pj_m34.1.cls = true := pj_pl5
set_option maxRecDepth 100000 in
theorem pj_mr34 : pj_okRL pj_m34 = true := pj_okRG_s (M := pj_m34) pj_TH5 rfl (by decide +kernel)
set_option maxRecDepth 100000 in
theorem pj_mwa35 : pj_wt 914 = some (.code pj_m35.1 pj_m35.2.1 pj_m35.2.2.1 pj_m35.2.2.2.1) := rfl
set_option maxRecDepth 100000 in
theorem pj_mwb35 : pj_wt 98 = some (.initialized pj_m35.1.cls) := rfl
set_option maxRecDepth 100000 in
theorem pj_mwc35 : pj_wt 912 = some (.instanceMethod pj_m35.1) := rfl
set_option maxRecDepth 100000 in
theorem pj_mwd35 : pj_wt 913 = some (.selects pj_m35.1.cls pj_m35.1 pj_m35.1) := rfl
set_option maxRecDepth 100000 in
theorem pj_ml35 : pj_okm pj_m35 (0, 1) = true := pj_okm1 (pj_okq_s (M := pj_m35) pj_mwa35 pj_mwb35 (by decide +kernel)) pj_mwc35 (by decide +kernel) pj_mwd35 (by decide +kernel)
set_option maxRecDepth 100000 in
theorem pj_mn35 : plainName pj_m35.1.cls = true := pj_pl5
set_option maxRecDepth 100000 in
theorem pj_mr35 : pj_okRL pj_m35 = true := pj_okRG_s (M := pj_m35) pj_TH5 rfl (by decide +kernel)
set_option maxRecDepth 100000 in
theorem pj_mwa36 : pj_wt 559 = some (.code pj_m36.1 pj_m36.2.1 pj_m36.2.2.1 pj_m36.2.2.2.1) := rfl
set_option maxRecDepth 100000 in
theorem pj_mwb36 : pj_wt 98 = some (.initialized pj_m36.1.cls) := rfl
set_option maxRecDepth 100000 in
theorem pj_mwc36 : pj_wt 557 = some (.instanceMethod pj_m36.1) := rfl
set_option maxRecDepth 100000 in
theorem pj_mwd36 : pj_wt 558 = some (.selects pj_m36.1.cls pj_m36.1 pj_m36.1) := rfl
set_option maxRecDepth 100000 in
theorem pj_ml36 : pj_okm pj_m36 (0, 1) = true := pj_okm1 (pj_okq_s (M := pj_m36) pj_mwa36 pj_mwb36 (by decide +kernel)) pj_mwc36 (by decide +kernel) pj_mwd36 (by decide +kernel)
set_option maxRecDepth 100000 in
theorem pj_mn36 : plainName pj_m36.1.cls = true := pj_pl5
set_option maxRecDepth 100000 in
theorem pj_mr36 : pj_okRL pj_m36 = true := pj_okRG_s (M := pj_m36) pj_TH5 rfl (by decide +kernel)
set_option maxRecDepth 100000 in
theorem pj_mwa37 : pj_wt 555 = some (.code pj_m37.1 pj_m37.2.1 pj_m37.2.2.1 pj_m37.2.2.2.1) := rfl
set_option maxRecDepth 100000 in
theorem pj_mwb37 : pj_wt 98 = some (.initialized pj_m37.1.cls) := rfl
set_option maxRecDepth 100000 in
theorem pj_mwc37 : pj_wt 553 = some (.instanceMethod pj_m37.1) := rfl
set_option maxRecDepth 100000 in
theorem pj_mwd37 : pj_wt 554 = some (.selects pj_m37.1.cls pj_m37.1 pj_m37.1) := rfl
set_option maxRecDepth 100000 in
theorem pj_ml37 : pj_okm pj_m37 (0, 1) = true := pj_okm1 (pj_okq_s (M := pj_m37) pj_mwa37 pj_mwb37 (by decide +kernel)) pj_mwc37 (by decide +kernel) pj_mwd37 (by decide +kernel)
set_option maxRecDepth 100000 in
theorem pj_mn37 : plainName pj_m37.1.cls = true := pj_pl5
set_option maxRecDepth 100000 in
theorem pj_mr37 : pj_okRL pj_m37 = true := pj_okRG_s (M := pj_m37) pj_TH5 rfl (by decide +kernel)
set_option maxRecDepth 100000 in
theorem pj_mwa38 : pj_wt 1250 = some (.code pj_m38.1 pj_m38.2.1 pj_m38.2.2.1 pj_m38.2.2.2.1) := rfl
set_option maxRecDepth 100000 in
theorem pj_mwb38 : pj_wt 98 = some (.initialized pj_m38.1.cls) := rfl
set_option maxRecDepth 100000 in
theorem pj_mwc38 : pj_wt 1248 = some (.instanceMethod pj_m38.1) := rfl
set_option maxRecDepth 100000 in
theorem pj_mwd38 : pj_wt 1249 = some (.selects pj_m38.1.cls pj_m38.1 pj_m38.1) := rfl
set_option maxRecDepth 100000 in
theorem pj_ml38 : pj_okm pj_m38 (2, 1) = true := pj_okm1 (pj_okq_s (M := pj_m38) pj_mwa38 pj_mwb38 (by decide +kernel)) pj_mwc38 (by decide +kernel) pj_mwd38 (by decide +kernel)
set_option maxRecDepth 100000 in
theorem pj_mn38 : plainName pj_m38.1.cls = true := pj_pl5
set_option maxRecDepth 100000 in
theorem pj_mr38 : pj_okRL pj_m38 = true := pj_okRG_s (M := pj_m38) pj_TH5 rfl (by decide +kernel)
set_option maxRecDepth 100000 in
theorem pj_mwa39 : pj_wt 1258 = some (.code pj_m39.1 pj_m39.2.1 pj_m39.2.2.1 pj_m39.2.2.2.1) := rfl
set_option maxRecDepth 100000 in
theorem pj_mwb39 : pj_wt 98 = some (.initialized pj_m39.1.cls) := rfl
set_option maxRecDepth 100000 in
theorem pj_mwc39 : pj_wt 1256 = some (.instanceMethod pj_m39.1) := rfl
set_option maxRecDepth 100000 in
theorem pj_mwd39 : pj_wt 1257 = some (.selects pj_m39.1.cls pj_m39.1 pj_m39.1) := rfl
set_option maxRecDepth 100000 in
theorem pj_ml39 : pj_okm pj_m39 (2, 1) = true := pj_okm1 (pj_okq_s (M := pj_m39) pj_mwa39 pj_mwb39 (by decide +kernel)) pj_mwc39 (by decide +kernel) pj_mwd39 (by decide +kernel)
set_option maxRecDepth 100000 in
theorem pj_mn39 : plainName pj_m39.1.cls = true := pj_pl5
set_option maxRecDepth 100000 in
theorem pj_mr39 : pj_okRL pj_m39 = true := pj_okRG_s (M := pj_m39) pj_TH5 rfl (by decide +kernel)
set_option maxRecDepth 100000 in
theorem pj_mwa40 : pj_wt 170 = some (.code pj_m40.1 pj_m40.2.1 pj_m40.2.2.1 pj_m40.2.2.2.1) := rfl
set_option maxRecDepth 100000 in
theorem pj_mwb40 : pj_wt 91 = some (.initialized pj_m40.1.cls) := rfl
set_option maxRecDepth 100000 in
theorem pj_mwc40 : pj_wt 169 = some (.instanceMethod pj_m40.1) := rfl
set_option maxRecDepth 100000 in
theorem pj_ml40 : pj_okm pj_m40 (0, 2) = true := pj_okm2 (pj_okq_s (M := pj_m40) pj_mwa40 pj_mwb40 (by decide +kernel)) pj_mwc40 (by decide +kernel) (by decide +kernel)
set_option maxRecDepth 100000 in
theorem pj_mn40 : plainName pj_m40.1.cls = true := pj_pl6
set_option maxRecDepth 100000 in
theorem pj_mr40 : pj_okRL pj_m40 = true := pj_okRG_s (M := pj_m40) pj_TH6 rfl (by decide +kernel)
set_option maxRecDepth 100000 in
theorem pj_mwa41 : pj_wt 507 = some (.code pj_m41.1 pj_m41.2.1 pj_m41.2.2.1 pj_m41.2.2.2.1) := rfl
set_option maxRecDepth 100000 in
theorem pj_mwb41 : pj_wt 91 = some (.initialized pj_m41.1.cls) := rfl
set_option maxRecDepth 100000 in
theorem pj_mwc41 : pj_wt 505 = some (.instanceMethod pj_m41.1) := rfl
set_option maxRecDepth 100000 in
theorem pj_mwd41 : pj_wt 506 = some (.selects pj_m41.1.cls pj_m41.1 pj_m41.1) := rfl
set_option maxRecDepth 100000 in
theorem pj_ml41 : pj_okm pj_m41 (1, 1) = true := pj_okm1 (pj_okq_s (M := pj_m41) pj_mwa41 pj_mwb41 (by decide +kernel)) pj_mwc41 (by decide +kernel) pj_mwd41 (by decide +kernel)
set_option maxRecDepth 100000 in
theorem pj_mn41 : plainName pj_m41.1.cls = true := pj_pl6
set_option maxRecDepth 100000 in
theorem pj_mr41 : pj_okRL pj_m41 = true := pj_okRG_s (M := pj_m41) pj_TH6 rfl (by decide +kernel)
set_option maxRecDepth 100000 in
theorem pj_mwa42 : pj_wt 551 = some (.code pj_m42.1 pj_m42.2.1 pj_m42.2.2.1 pj_m42.2.2.2.1) := rfl
set_option maxRecDepth 100000 in
theorem pj_mwb42 : pj_wt 91 = some (.initialized pj_m42.1.cls) := rfl
set_option maxRecDepth 100000 in
theorem pj_mwc42 : pj_wt 549 = some (.instanceMethod pj_m42.1) := rfl
set_option maxRecDepth 100000 in
theorem pj_mwd42 : pj_wt 550 = some (.selects pj_m42.1.cls pj_m42.1 pj_m42.1) := rfl
set_option maxRecDepth 100000 in
theorem pj_ml42 : pj_okm pj_m42 (0, 1) = true := pj_okm1 (pj_okq_s (M := pj_m42) pj_mwa42 pj_mwb42 (by decide +kernel)) pj_mwc42 (by decide +kernel) pj_mwd42 (by decide +kernel)
set_option maxRecDepth 100000 in
theorem pj_mn42 : plainName pj_m42.1.cls = true := pj_pl6
set_option maxRecDepth 100000 in
theorem pj_mr42 : pj_okRL pj_m42 = true := pj_okRG_s (M := pj_m42) pj_TH6 rfl (by decide +kernel)
set_option maxRecDepth 100000 in
theorem pj_mwa43 : pj_wt 1235 = some (.code pj_m43.1 pj_m43.2.1 pj_m43.2.2.1 pj_m43.2.2.2.1) := rfl
set_option maxRecDepth 100000 in
theorem pj_mwb43 : pj_wt 91 = some (.initialized pj_m43.1.cls) := rfl
set_option maxRecDepth 100000 in
theorem pj_mwc43 : pj_wt 1233 = some (.instanceMethod pj_m43.1) := rfl
set_option maxRecDepth 100000 in
theorem pj_mwd43 : pj_wt 1234 = some (.selects pj_m43.1.cls pj_m43.1 pj_m43.1) := rfl
set_option maxRecDepth 100000 in
theorem pj_ml43 : pj_okm pj_m43 (1, 1) = true := pj_okm1 (pj_okq_s (M := pj_m43) pj_mwa43 pj_mwb43 (by decide +kernel)) pj_mwc43 (by decide +kernel) pj_mwd43 (by decide +kernel)
set_option maxRecDepth 100000 in
theorem pj_mn43 : plainName pj_m43.1.cls = true := pj_pl6
set_option maxRecDepth 100000 in
theorem pj_mr43 : pj_okRL pj_m43 = true := pj_okRG_s (M := pj_m43) pj_TH6 rfl (by decide +kernel)
set_option maxRecDepth 100000 in
theorem pj_mwa44 : pj_wt 846 = some (.code pj_m44.1 pj_m44.2.1 pj_m44.2.2.1 pj_m44.2.2.2.1) := rfl
set_option maxRecDepth 100000 in
theorem pj_mwb44 : pj_wt 91 = some (.initialized pj_m44.1.cls) := rfl
set_option maxRecDepth 100000 in
theorem pj_mwc44 : pj_wt 844 = some (.instanceMethod pj_m44.1) := rfl
set_option maxRecDepth 100000 in
theorem pj_mwd44 : pj_wt 845 = some (.selects pj_m44.1.cls pj_m44.1 pj_m44.1) := rfl
set_option maxRecDepth 100000 in
theorem pj_ml44 : pj_okm pj_m44 (2, 1) = true := pj_okm1 (pj_okq_s (M := pj_m44) pj_mwa44 pj_mwb44 (by decide +kernel)) pj_mwc44 (by decide +kernel) pj_mwd44 (by decide +kernel)
set_option maxRecDepth 100000 in
theorem pj_mn44 : plainName pj_m44.1.cls = true := pj_pl6
set_option maxRecDepth 100000 in
theorem pj_mr44 : pj_okRL pj_m44 = true := pj_okRG_s (M := pj_m44) pj_TH6 rfl (by decide +kernel)
set_option maxRecDepth 100000 in
theorem pj_mwa45 : pj_wt 939 = some (.code pj_m45.1 pj_m45.2.1 pj_m45.2.2.1 pj_m45.2.2.2.1) := rfl
set_option maxRecDepth 100000 in
theorem pj_mwb45 : pj_wt 91 = some (.initialized pj_m45.1.cls) := rfl
set_option maxRecDepth 100000 in
theorem pj_mwc45 : pj_wt 937 = some (.instanceMethod pj_m45.1) := rfl
set_option maxRecDepth 100000 in
theorem pj_mwd45 : pj_wt 938 = some (.selects pj_m45.1.cls pj_m45.1 pj_m45.1) := rfl
set_option maxRecDepth 100000 in
theorem pj_ml45 : pj_okm pj_m45 (2, 1) = true := pj_okm1 (pj_okq_s (M := pj_m45) pj_mwa45 pj_mwb45 (by decide +kernel)) pj_mwc45 (by decide +kernel) pj_mwd45 (by decide +kernel)
set_option maxRecDepth 100000 in
theorem pj_mn45 : plainName pj_m45.1.cls = true := pj_pl6
set_option maxRecDepth 100000 in
theorem pj_mr45 : pj_okRL pj_m45 = true := pj_okRG_s (M := pj_m45) pj_TH6 rfl (by decide +kernel)
set_option maxRecDepth 100000 in
theorem pj_mwa46 : pj_wt 948 = some (.code pj_m46.1 pj_m46.2.1 pj_m46.2.2.1 pj_m46.2.2.2.1) := rfl
set_option maxRecDepth 100000 in
theorem pj_mwb46 : pj_wt 91 = some (.initialized pj_m46.1.cls) := rfl
set_option maxRecDepth 100000 in
theorem pj_mwc46 : pj_wt 946 = some (.instanceMethod pj_m46.1) := rfl
set_option maxRecDepth 100000 in
theorem pj_mwd46 : pj_wt 947 = some (.selects pj_m46.1.cls pj_m46.1 pj_m46.1) := rfl
set_option maxRecDepth 100000 in
theorem pj_ml46 : pj_okm pj_m46 (3, 1) = true := pj_okm1 (pj_okq_s (M := pj_m46) pj_mwa46 pj_mwb46 (by decide +kernel)) pj_mwc46 (by decide +kernel) pj_mwd46 (by decide +kernel)
set_option maxRecDepth 100000 in
theorem pj_mn46 : plainName pj_m46.1.cls = true := pj_pl6
set_option maxRecDepth 100000 in
theorem pj_mr46 : pj_okRL pj_m46 = true := pj_okRG_s (M := pj_m46) pj_TH6 rfl (by decide +kernel)
set_option maxRecDepth 100000 in
theorem pj_mwa47 : pj_wt 962 = some (.code pj_m47.1 pj_m47.2.1 pj_m47.2.2.1 pj_m47.2.2.2.1) := rfl
set_option maxRecDepth 100000 in
theorem pj_mwb47 : pj_wt 91 = some (.initialized pj_m47.1.cls) := rfl
set_option maxRecDepth 100000 in
theorem pj_mwc47 : pj_wt 960 = some (.instanceMethod pj_m47.1) := rfl
set_option maxRecDepth 100000 in
theorem pj_mwd47 : pj_wt 961 = some (.selects pj_m47.1.cls pj_m47.1 pj_m47.1) := rfl
set_option maxRecDepth 100000 in
theorem pj_ml47 : pj_okm pj_m47 (2, 1) = true := pj_okm1 (pj_okq_s (M := pj_m47) pj_mwa47 pj_mwb47 (by decide +kernel)) pj_mwc47 (by decide +kernel) pj_mwd47 (by decide +kernel)
set_option maxRecDepth 100000 in
theorem pj_mn47 : plainName pj_m47.1.cls = true := pj_pl6
set_option maxRecDepth 100000 in
theorem pj_mr47 : pj_okRL pj_m47 = true := pj_okRG_s (M := pj_m47) pj_TH6 rfl (by decide +kernel)
set_option maxRecDepth 100000 in
theorem pj_mwa48 : pj_wt 987 = some (.code pj_m48.1 pj_m48.2.1 pj_m48.2.2.1 pj_m48.2.2.2.1) := rfl
set_option maxRecDepth 100000 in
theorem pj_mwb48 : pj_wt 91 = some (.initialized pj_m48.1.cls) := rfl
set_option maxRecDepth 100000 in
theorem pj_mwc48 : pj_wt 985 = some (.instanceMethod pj_m48.1) := rfl
set_option maxRecDepth 100000 in
theorem pj_mwd48 : pj_wt 986 = some (.selects pj_m48.1.cls pj_m48.1 pj_m48.1) := rfl
set_option maxRecDepth 100000 in
theorem pj_ml48 : pj_okm pj_m48 (3, 1) = true := pj_okm1 (pj_okq_s (M := pj_m48) pj_mwa48 pj_mwb48 (by decide +kernel)) pj_mwc48 (by decide +kernel) pj_mwd48 (by decide +kernel)
set_option maxRecDepth 100000 in
theorem pj_mn48 : plainName pj_m48.1.cls = true := pj_pl6
set_option maxRecDepth 100000 in
theorem pj_mr48 : pj_okRL pj_m48 = true := pj_okRG_s (M := pj_m48) pj_TH6 rfl (by decide +kernel)
