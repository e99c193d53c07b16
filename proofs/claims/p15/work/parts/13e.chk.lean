set_option maxRecDepth 100000 in
theorem pj_mwa109 : pj_wt 1096 = some (.code pj_m109.1 pj_m109.2.1 pj_m109.2.2.1 pj_m109.2.2.2.1) := rfl
set_option maxRecDepth 100000 in
theorem pj_mwb109 : pj_wt 90 = some (.initialized pj_m109.1.cls) := rfl
set_option maxRecDepth 100000 in
theorem pj_mwc109 : pj_wt 1094 = some (.instanceMethod pj_m109.1) := rfl
set_option maxRecDepth 100000 in
theorem pj_mwd109 : pj_wt 1095 = some (.selects pj_m109.1.cls pj_m109.1 pj_m109.1) := rfl
set_option maxRecDepth 100000 in
theorem pj_ml109 : pj_okm pj_m109 (1, 1) = true := pj_okm1 (pj_okq_s (M := pj_m109) pj_mwa109 pj_mwb109 (by decide +kernel)) pj_mwc109 (by decide +kernel) pj_mwd109 (by decide +kernel)
set_option maxRecDepth 100000 in
theorem pj_mn109 : plainName pj_m109.1.cls = true := pj_pl11
set_option maxRecDepth 100000 in
theorem pj_mr109 : pj_okRL pj_m109 = true := pj_okRG_s (M := pj_m109) pj_TH11 rfl (by decide +kernel)
set_option maxRecDepth 100000 in
theorem pj_mwa110 : pj_wt 995 = some (.code pj_m110.1 pj_m110.2.1 pj_m110.2.2.1 pj_m110.2.2.2.1) := rfl
set_option maxRecDepth 100000 in
theorem pj_mwb110 : pj_wt 90 = some (.initialized pj_m110.1.cls) := rfl
set_option maxRecDepth 100000 in
theorem pj_mwc110 : pj_wt 994 = some (.instanceMethod pj_m110.1) := rfl
set_option maxRecDepth 100000 in
theorem pj_mwd110 : pj_wt 10 = some (.selects pj_m110.1.cls pj_m110.1 pj_m110.1) := rfl
set_option maxRecDepth 100000 in
theorem pj_ml110 : pj_okm pj_m110 (2, 1) = true := pj_okm1 (pj_okq_s (M := pj_m110) pj_mwa110 pj_mwb110 (by decide +kernel)) pj_mwc110 (by decide +kernel) pj_mwd110 (by decide +kernel)
set_option maxRecDepth 100000 in
theorem pj_mn110 : plainName pj_m110.1.cls = true := pj_pl11
set_option maxRecDepth 100000 in
theorem pj_mr110 : pj_okRL pj_m110 = true := pj_okRG_s (M := pj_m110) pj_TH11 rfl (by decide +kernel)
set_option maxRecDepth 100000 in
theorem pj_mwa111 : pj_wt 999 = some (.code pj_m111.1 pj_m111.2.1 pj_m111.2.2.1 pj_m111.2.2.2.1) := rfl
set_option maxRecDepth 100000 in
theorem pj_mwb111 : pj_wt 90 = some (.initialized pj_m111.1.cls) := rfl
set_option maxRecDepth 100000 in
theorem pj_mwc111 : pj_wt 998 = some (.instanceMethod pj_m111.1) := rfl
set_option maxRecDepth 100000 in
theorem pj_mwd111 : pj_wt 11 = some (.selects pj_m111.1.cls pj_m111.1 pj_m111.1) := rfl
set_option maxRecDepth 100000 in
theorem pj_ml111 : pj_okm pj_m111 (4, 1) = true := pj_okm1 (pj_okq_s (M := pj_m111) pj_mwa111 pj_mwb111 (by decide +kernel)) pj_mwc111 (by decide +kernel) pj_mwd111 (by decide +kernel)
set_option maxRecDepth 100000 in
theorem pj_mn111 : plainName pj_m111.1.cls = true := pj_pl11
set_option maxRecDepth 100000 in
theorem pj_mr111 : pj_okRL pj_m111 = true := pj_okRG_s (M := pj_m111) pj_TH11 rfl (by decide +kernel)
set_option maxRecDepth 100000 in
theorem pj_mwa112 : pj_wt 991 = some (.code pj_m112.1 pj_m112.2.1 pj_m112.2.2.1 pj_m112.2.2.2.1) := rfl
set_option maxRecDepth 100000 in
theorem pj_mwb112 : pj_wt 90 = some (.initialized pj_m112.1.cls) := rfl
set_option maxRecDepth 100000 in
theorem pj_mwc112 : pj_wt 989 = some (.instanceMethod pj_m112.1) := rfl
set_option maxRecDepth 100000 in
theorem pj_mwd112 : pj_wt 990 = some (.selects pj_m112.1.cls pj_m112.1 pj_m112.1) := rfl
set_option maxRecDepth 100000 in
theorem pj_ml112 : pj_okm pj_m112 (4, 1) = true := pj_okm1 (pj_okq_s (M := pj_m112) pj_mwa112 pj_mwb112 (by decide +kernel)) pj_mwc112 (by decide +kernel) pj_mwd112 (by decide +kernel)
set_option maxRecDepth 100000 in
theorem pj_mn112 : plainName pj_m112.1.cls = true := pj_pl11
set_option maxRecDepth 100000 in
theorem pj_mr112 : pj_okRL pj_m112 = true := pj_okRG_s (M := pj_m112) pj_TH11 rfl (by decide +kernel)
set_option maxRecDepth 100000 in
theorem pj_mwa113 : pj_wt 1005 = some (.code pj_m113.1 pj_m113.2.1 pj_m113.2.2.1 pj_m113.2.2.2.1) := rfl
set_option maxRecDepth 100000 in
theorem pj_mwb113 : pj_wt 90 = some (.initialized pj_m113.1.cls) := rfl
set_option maxRecDepth 100000 in
theorem pj_mwc113 : pj_wt 1003 = some (.instanceMethod pj_m113.1) := rfl
set_option maxRecDepth 100000 in
theorem pj_mwd113 : pj_wt 1004 = some (.selects pj_m113.1.cls pj_m113.1 pj_m113.1) := rfl
set_option maxRecDepth 100000 in
theorem pj_ml113 : pj_okm pj_m113 (4, 1) = true := pj_okm1 (pj_okq_s (M := pj_m113) pj_mwa113 pj_mwb113 (by decide +kernel)) pj_mwc113 (by decide +kernel) pj_mwd113 (by decide +kernel)
set_option maxRecDepth 100000 in
theorem pj_mn113 : plainName pj_m113.1.cls = true := pj_pl11
set_option maxRecDepth 100000 in
theorem pj_mr113 : pj_okRL pj_m113 = true := pj_okRG_s (M := pj_m113) pj_TH11 rfl (by decide +kernel)
set_option maxRecDepth 100000 in
theorem pj_mwa114 : pj_wt 1009 = some (.code pj_m114.1 pj_m114.2.1 pj_m114.2.2.1 pj_m114.2.2.2.1) := rfl
set_option maxRecDepth 100000 in
theorem pj_mwb114 : pj_wt 90 = some (.initialized pj_m114.1.cls) := rfl
set_option maxRecDepth 100000 in
theorem pj_mwc114 : pj_wt 1008 = some (.instanceMethod pj_m114.1) := rfl
set_option maxRecDepth 100000 in
theorem pj_mwd114 : pj_wt 12 = some (.selects pj_m114.1.cls pj_m114.1 pj_m114.1) := rfl
set_option maxRecDepth 100000 in
theorem pj_ml114 : pj_okm pj_m114 (6, 1) = true := pj_okm1 (pj_okq_s (M := pj_m114) pj_mwa114 pj_mwb114 (by decide +kernel)) pj_mwc114 (by decide +kernel) pj_mwd114 (by decide +kernel)
set_option maxRecDepth 100000 in
theorem pj_mn114 : plainName pj_m114.1.cls = true := pj_pl11
set_option maxRecDepth 100000 in
theorem pj_mr114 : pj_okRL pj_m114 = true := pj_okRG_s (M := pj_m114) pj_TH11 rfl (by decide +kernel)
set_option maxRecDepth 100000 in
theorem pj_mwa115 : pj_wt 1215 = some (.code pj_m115.1 pj_m115.2.1 pj_m115.2.2.1 pj_m115.2.2.2.1) := rfl
set_option maxRecDepth 100000 in
theorem pj_mwb115 : pj_wt 90 = some (.initialized pj_m115.1.cls) := rfl
set_option maxRecDepth 100000 in
theorem pj_mwc115 : pj_wt 1213 = some (.instanceMethod pj_m115.1) := rfl
set_option maxRecDepth 100000 in
theorem pj_mwd115 : pj_wt 1214 = some (.selects pj_m115.1.cls pj_m115.1 pj_m115.1) := rfl
set_option maxRecDepth 100000 in
theorem pj_ml115 : pj_okm pj_m115 (1, 1) = true := pj_okm1 (pj_okq_s (M := pj_m115) pj_mwa115 pj_mwb115 (by decide +kernel)) pj_mwc115 (by decide +kernel) pj_mwd115 (by decide +kernel)
set_option maxRecDepth 100000 in
theorem pj_mn115 : plainName pj_m115.1.cls = true := pj_pl11
set_option maxRecDepth 100000 in
theorem pj_mr115 : pj_okRL pj_m115 = true := pj_okRG_s (M := pj_m115) pj_TH11 rfl (by decide +kernel)
set_option maxRecDepth 100000 in
theorem pj_mwa116 : pj_wt 116 = some (.code pj_m116.1 pj_m116.2.1 pj_m116.2.2.1 pj_m116.2.2.2.1) := rfl
set_option maxRecDepth 100000 in
theorem pj_mwb116 : pj_wt 87 = some (.initialized pj_m116.1.cls) := rfl
set_option maxRecDepth 100000 in
theorem pj_mwc116 : pj_wt 115 = some (.instanceMethod pj_m116.1) := rfl
set_option maxRecDepth 100000 in
theorem pj_ml116 : pj_okm pj_m116 (0, 2) = true := pj_okm2 (pj_okq_s (M := pj_m116) pj_mwa116 pj_mwb116 (by decide +kernel)) pj_mwc116 (by decide +kernel) (by decide +kernel)
set_option maxRecDepth 100000 in
theorem pj_mn116 : plainName pj_m116.1.cls = true := pj_pl0
set_option maxRecDepth 100000 in
theorem pj_mr116 : pj_okRL pj_m116 = true := pj_okRG_s (M := pj_m116) pj_TH0 rfl (by decide +kernel)
set_option maxRecDepth 100000 in
theorem pj_mwa117 : pj_wt 480 = some (.code pj_m117.1 pj_m117.2.1 pj_m117.2.2.1 pj_m117.2.2.2.1) := rfl
set_option maxRecDepth 100000 in
theorem pj_mwb117 : pj_wt 87 = some (.initialized pj_m117.1.cls) := rfl
set_option maxRecDepth 100000 in
theorem pj_mwc117 : pj_wt 478 = some (.instanceMethod pj_m117.1) := rfl
set_option maxRecDepth 100000 in
theorem pj_mwd117 : pj_wt 479 = some (.selects pj_m117.1.cls pj_m117.1 pj_m117.1) := rfl
set_option maxRecDepth 100000 in
theorem pj_ml117 : pj_okm pj_m117 (1, 1) = true := pj_okm1 (pj_okq_s (M := pj_m117) pj_mwa117 pj_mwb117 (by decide +kernel)) pj_mwc117 (by decide +kernel) pj_mwd117 (by decide +kernel)
set_option maxRecDepth 100000 in
theorem pj_mn117 : plainName pj_m117.1.cls = true := pj_pl0
set_option maxRecDepth 100000 in
theorem pj_mr117 : pj_okRL pj_m117 = true := pj_okRG_s (M := pj_m117) pj_TH0 rfl (by decide +kernel)
set_option maxRecDepth 100000 in
theorem pj_mwa118 : pj_wt 488 = some (.code pj_m118.1 pj_m118.2.1 pj_m118.2.2.1 pj_m118.2.2.2.1) := rfl
set_option maxRecDepth 100000 in
theorem pj_mwb118 : pj_wt 87 = some (.initialized pj_m118.1.cls) := rfl
set_option maxRecDepth 100000 in
theorem pj_mwc118 : pj_wt 486 = some (.instanceMethod pj_m118.1) := rfl
set_option maxRecDepth 100000 in
theorem pj_mwd118 : pj_wt 487 = some (.selects pj_m118.1.cls pj_m118.1 pj_m118.1) := rfl
set_option maxRecDepth 100000 in
theorem pj_ml118 : pj_okm pj_m118 (1, 1) = true := pj_okm1 (pj_okq_s (M := pj_m118) pj_mwa118 pj_mwb118 (by decide +kernel)) pj_mwc118 (by decide +kernel) pj_mwd118 (by decide +kernel)
set_option maxRecDepth 100000 in
theorem pj_mn118 : plainName pj_m118.1.cls = true := pj_pl0
set_option maxRecDepth 100000 in
theorem pj_mr118 : pj_okRL pj_m118 = true := pj_okRG_s (M := pj_m118) pj_TH0 rfl (by decide +kernel)
set_option maxRecDepth 100000 in
theorem pj_mwa119 : pj_wt 496 = some (.code pj_m119.1 pj_m119.2.1 pj_m119.2.2.1 pj_m119.2.2.2.1) := rfl
set_option maxRecDepth 100000 in
theorem pj_mwb119 : pj_wt 87 = some (.initialized pj_m119.1.cls) := rfl
set_option maxRecDepth 100000 in
theorem pj_mwc119 : pj_wt 494 = some (.instanceMethod pj_m119.1) := rfl
set_option maxRecDepth 100000 in
theorem pj_mwd119 : pj_wt 495 = some (.selects pj_m119.1.cls pj_m119.1 pj_m119.1) := rfl
set_option maxRecDepth 100000 in
theorem pj_ml119 : pj_okm pj_m119 (0, 1) = true := pj_okm1 (pj_okq_s (M := pj_m119) pj_mwa119 pj_mwb119 (by decide +kernel)) pj_mwc119 (by decide +kernel) pj_mwd119 (by decide +kernel)
set_option maxRecDepth 100000 in
theorem pj_mn119 : plainName pj_m119.1.cls = true := pj_pl0
set_option maxRecDepth 100000 in
theorem pj_mr119 : pj_okRL pj_m119 = true := pj_okRG_s (M := pj_m119) pj_TH0 rfl (by decide +kernel)
set_option maxRecDepth 100000 in
theorem pj_mwa120 : pj_wt 563 = some (.code pj_m120.1 pj_m120.2.1 pj_m120.2.2.1 pj_m120.2.2.2.1) := rfl
set_option maxRecDepth 100000 in
theorem pj_mwb120 : pj_wt 87 = some (.initialized pj_m120.1.cls) := rfl
set_option maxRecDepth 100000 in
theorem pj_mwc120 : pj_wt 561 = some (.instanceMethod pj_m120.1) := rfl
set_option maxRecDepth 100000 in
theorem pj_mwd120 : pj_wt 562 = some (.selects pj_m120.1.cls pj_m120.1 pj_m120.1) := rfl
set_option maxRecDepth 100000 in
theorem pj_ml120 : pj_okm pj_m120 (0, 1) = true := pj_okm1 (pj_okq_s (M := pj_m120) pj_mwa120 pj_mwb120 (by decide +kernel)) pj_mwc120 (by decide +kernel) pj_mwd120 (by decide +kernel)
set_option maxRecDepth 100000 in
theorem pj_mn120 : plainName pj_m120.1.cls = true := pj_pl0
set_option maxRecDepth 100000 in
theorem pj_mr120 : pj_okRL pj_m120 = true := pj_okRG_s (M := pj_m120) pj_TH0 rfl (by decide +kernel)
set_option maxRecDepth 100000 in
theorem pj_mwa121 : pj_wt 580 = some (.code pj_m121.1 pj_m121.2.1 pj_m121.2.2.1 pj_m121.2.2.2.1) := rfl
set_option maxRecDepth 100000 in
theorem pj_mwb121 : pj_wt 87 = some (.initialized pj_m121.1.cls) := rfl
set_option maxRecDepth 100000 in
theorem pj_mwc121 : pj_wt 578 = some (.instanceMethod pj_m121.1) := rfl
set_option maxRecDepth 100000 in
theorem pj_mwd121 : pj_wt 579 = some (.selects pj_m121.1.cls pj_m121.1 pj_m121.1) := rfl
set_option maxRecDepth 100000 in
theorem pj_ml121 : pj_okm pj_m121 (0, 1) = true := pj_okm1 (pj_okq_s (M := pj_m121) pj_mwa121 pj_mwb121 (by decide +kernel)) pj_mwc121 (by decide +kernel) pj_mwd121 (by decide +kernel)
set_option maxRecDepth 100000 in
theorem pj_mn121 : plainName pj_m121.1.cls = true := pj_pl0
set_option maxRecDepth 100000 in
theorem pj_mr121 : pj_okRL pj_m121 = true := pj_okRG_s (M := pj_m121) pj_TH0 rfl (by decide +kernel)
set_option maxRecDepth 100000 in
theorem pj_mwa122 : pj_wt 589 = some (.code pj_m122.1 pj_m122.2.1 pj_m122.2.2.1 pj_m122.2.2.2.1) := rfl
set_option maxRecDepth 100000 in
theorem pj_mwb122 : pj_wt 87 = some (.initialized pj_m122.1.cls) := rfl
set_option maxRecDepth 100000 in
theorem pj_mwc122 : pj_wt 587 = some (.instanceMethod pj_m122.1) := rfl
set_option maxRecDepth 100000 in
theorem pj_mwd122 : pj_wt 588 = some (.selects pj_m122.1.cls pj_m122.1 pj_m122.1) := rfl
set_option maxRecDepth 100000 in
theorem pj_ml122 : pj_okm pj_m122 (0, 1) = true := pj_okm1 (pj_okq_s (M := pj_m122) pj_mwa122 pj_mwb122 (by decide +kernel)) pj_mwc122 (by decide +kernel) pj_mwd122 (by decide +kernel)
set_option maxRecDepth 100000 in
theorem pj_mn122 : plainName pj_m122.1.cls = true := pj_pl0
set_option maxRecDepth 100000 in
theorem pj_mr122 : pj_okRL pj_m122 = true := pj_okRG_s (M := pj_m122) pj_TH0 rfl (by decide +kernel)
set_option maxRecDepth 100000 in
theorem pj_ml123 : pj_okm pj_m123 (0, 3) = true := rfl
set_option maxRecDepth 100000 in
theorem pj_mn123 : plainName pj_m123.1.cls = true := pj_pl0
set_option maxRecDepth 100000 in
theorem pj_mr123 : pj_okRL pj_m123 = true := pj_okRG_s (M := pj_m123) pj_TH0 rfl (by decide +kernel)
set_option maxRecDepth 100000 in
theorem pj_ml124 : pj_okm pj_m124 (0, 3) = true := rfl
set_option maxRecDepth 100000 in
theorem pj_mn124 : plainName pj_m124.1.cls = true := pj_pl0
set_option maxRecDepth 100000 in
theorem pj_mr124 : pj_okRL pj_m124 = true := pj_okRG_s (M := pj_m124) pj_TH0 rfl (by decide +kernel)
set_option maxRecDepth 100000 in
theorem pj_ml125 : pj_okm pj_m125 (0, 3) = true := rfl
set_option maxRecDepth 100000 in
theorem pj_mn125 : plainName pj_m125.1.cls = true := pj_pl0
set_option maxRecDepth 100000 in
theorem pj_mr125 : pj_okRL pj_m125 = true := pj_okRG_s (M := pj_m125) pj_TH0 rfl (by decide +kernel)
set_option maxRecDepth 100000 in
theorem pj_mwa126 : pj_wt 741 = some (.code pj_m126.1 pj_m126.2.1 pj_m126.2.2.1 pj_m126.2.2.2.1) := rfl
set_option maxRecDepth 100000 in
theorem pj_mwb126 : pj_wt 87 = some (.initialized pj_m126.1.cls) := rfl
set_option maxRecDepth 100000 in
theorem pj_mwc126 : pj_wt 739 = some (.instanceMethod pj_m126.1) := rfl
set_option maxRecDepth 100000 in
theorem pj_mwd126 : pj_wt 740 = some (.selects pj_m126.1.cls pj_m126.1 pj_m126.1) := rfl
set_option maxRecDepth 100000 in
theorem pj_ml126 : pj_okm pj_m126 (4, 1) = true := pj_okm1 (pj_okq_s (M := pj_m126) pj_mwa126 pj_mwb126 (by decide +kernel)) pj_mwc126 (by decide +kernel) pj_mwd126 (by decide +kernel)
set_option maxRecDepth 100000 in
theorem pj_mn126 : plainName pj_m126.1.cls = true := pj_pl0
set_option maxRecDepth 100000 in
theorem pj_mr126 : pj_okRL pj_m126 = true := pj_okRG_s (M := pj_m126) pj_TH0 rfl (by decide +kernel)
set_option maxRecDepth 100000 in
theorem pj_mwa127 : pj_wt 754 = some (.code pj_m127.1 pj_m127.2.1 pj_m127.2.2.1 pj_m127.2.2.2.1) := rfl
set_option maxRecDepth 100000 in
theorem pj_mwb127 : pj_wt 87 = some (.initialized pj_m127.1.cls) := rfl
set_option maxRecDepth 100000 in
theorem pj_mwc127 : pj_wt 752 = some (.instanceMethod pj_m127.1) := rfl
set_option maxRecDepth 100000 in
theorem pj_mwd127 : pj_wt 753 = some (.selects pj_m127.1.cls pj_m127.1 pj_m127.1) := rfl
set_option maxRecDepth 100000 in
theorem pj_ml127 : pj_okm pj_m127 (2, 1) = true := pj_okm1 (pj_okq_s (M := pj_m127) pj_mwa127 pj_mwb127 (by decide +kernel)) pj_mwc127 (by decide +kernel) pj_mwd127 (by decide +kernel)
set_option maxRecDepth 100000 in
theorem pj_mn127 : plainName pj_m127.1.cls = true := pj_pl0
set_option maxRecDepth 100000 in
theorem pj_mr127 : pj_okRL pj_m127 = true := pj_okRG_s (M := pj_m127) pj_TH0 rfl (by decide +kernel)
set_option maxRecDepth 100000 in
theorem pj_mwa128 : pj_wt 800 = some (.code pj_m128.1 pj_m128.2.1 pj_m128.2.2.1 pj_m128.2.2.2.1) := rfl
set_option maxRecDepth 100000 in
theorem pj_mwb128 : pj_wt 87 = some (.initialized pj_m128.1.cls) := rfl
set_option maxRecDepth 100000 in
theorem pj_mwc128 : pj_wt 798 = some (.instanceMethod pj_m128.1) := rfl
set_option maxRecDepth 100000 in
theorem pj_mwd128 : pj_wt 799 = some (.selects pj_m128.1.cls pj_m128.1 pj_m128.1) := rfl
set_option maxRecDepth 100000 in
theorem pj_ml128 : pj_okm pj_m128 (2, 1) = true := pj_okm1 (pj_okq_s (M := pj_m128) pj_mwa128 pj_mwb128 (by decide +kernel)) pj_mwc128 (by decide +kernel) pj_mwd128 (by decide +kernel)
set_option maxRecDepth 100000 in
theorem pj_mn128 : plainName pj_m128.1.cls = true := pj_pl0
set_option maxRecDepth 100000 in
theorem pj_mr128 : pj_okRL pj_m128 = true := pj_okRG_s (M := pj_m128) pj_TH0 rfl (by decide +kernel)
set_option maxRecDepth 100000 in
theorem pj_mwa129 : pj_wt 825 = some (.code pj_m129.1 pj_m129.2.1 pj_m129.2.2.1 pj_m129.2.2.2.1) := rfl
set_option maxRecDepth 100000 in
theorem pj_mwb129 : pj_wt 87 = some (.initialized pj_m129.1.cls) := rfl
set_option maxRecDepth 100000 in
theorem pj_mwc129 : pj_wt 823 = some (.instanceMethod pj_m129.1) := rfl
set_option maxRecDepth 100000 in
theorem pj_mwd129 : pj_wt 824 = some (.selects pj_m129.1.cls pj_m129.1 pj_m129.1) := rfl
set_option maxRecDepth 100000 in
theorem pj_ml129 : pj_okm pj_m129 (2, 1) = true := pj_okm1 (pj_okq_s (M := pj_m129) pj_mwa129 pj_mwb129 (by decide +kernel)) pj_mwc129 (by decide +kernel) pj_mwd129 (by decide +kernel)
set_option maxRecDepth 100000 in
theorem pj_mn129 : plainName pj_m129.1.cls = true := pj_pl0
set_option maxRecDepth 100000 in
theorem pj_mr129 : pj_okRL pj_m129 = true := pj_okRG_s (M := pj_m129) pj_TH0 rfl (by decide +kernel)
set_option maxRecDepth 100000 in
theorem pj_mwa130 : pj_wt 834 = some (.code pj_m130.1 pj_m130.2.1 pj_m130.2.2.1 pj_m130.2.2.2.1) := rfl
set_option maxRecDepth 100000 in
theorem pj_mwb130 : pj_wt 87 = some (.initialized pj_m130.1.cls) := rfl
set_option maxRecDepth 100000 in
theorem pj_mwc130 : pj_wt 832 = some (.instanceMethod pj_m130.1) := rfl
set_option maxRecDepth 100000 in
theorem pj_mwd130 : pj_wt 833 = some (.selects pj_m130.1.cls pj_m130.1 pj_m130.1) := rfl
set_option maxRecDepth 100000 in
theorem pj_ml130 : pj_okm pj_m130 (2, 1) = true := pj_okm1 (pj_okq_s (M := pj_m130) pj_mwa130 pj_mwb130 (by decide +kernel)) pj_mwc130 (by decide +kernel) pj_mwd130 (by decide +kernel)
set_option maxRecDepth 100000 in
theorem pj_mn130 : plainName pj_m130.1.cls = true := pj_pl0
set_option maxRecDepth 100000 in
theorem pj_mr130 : pj_okRL pj_m130 = true := pj_okRG_s (M := pj_m130) pj_TH0 rfl (by decide +kernel)
set_option maxRecDepth 100000 in
theorem pj_mwa131 : pj_wt 851 = some (.code pj_m131.1 pj_m131.2.1 pj_m131.2.2.1 pj_m131.2.2.2.1) := rfl
set_option maxRecDepth 100000 in
theorem pj_mwb131 : pj_wt 87 = some (.initialized pj_m131.1.cls) := rfl
set_option maxRecDepth 100000 in
theorem pj_mwc131 : pj_wt 849 = some (.instanceMethod pj_m131.1) := rfl
set_option maxRecDepth 100000 in
theorem pj_mwd131 : pj_wt 850 = some (.selects pj_m131.1.cls pj_m131.1 pj_m131.1) := rfl
set_option maxRecDepth 100000 in
theorem pj_ml131 : pj_okm pj_m131 (1, 1) = true := pj_okm1 (pj_okq_s (M := pj_m131) pj_mwa131 pj_mwb131 (by decide +kernel)) pj_mwc131 (by decide +kernel) pj_mwd131 (by decide +kernel)
set_option maxRecDepth 100000 in
theorem pj_mn131 : plainName pj_m131.1.cls = true := pj_pl0
set_option maxRecDepth 100000 in
theorem pj_mr131 : pj_okRL pj_m131 = true := pj_okRG_s (M := pj_m131) pj_TH0 rfl (by decide +kernel)
set_option maxRecDepth 100000 in
theorem pj_mwa132 : pj_wt 879 = some (.code pj_m132.1 pj_m132.2.1 pj_m132.2.2.1 pj_m132.2.2.2.1) := rfl
set_option maxRecDepth 100000 in
theorem pj_mwb132 : pj_wt 87 = some (.initialized pj_m132.1.cls) := rfl
set_option maxRecDepth 100000 in
theorem pj_mwc132 : pj_wt 877 = some (.instanceMethod pj_m132.1) := rfl
set_option maxRecDepth 100000 in
theorem pj_mwd132 : pj_wt 878 = some (.selects pj_m132.1.cls pj_m132.1 pj_m132.1) := rfl
set_option maxRecDepth 100000 in
theorem pj_ml132 : pj_okm pj_m132 (0, 1) = true := pj_okm1 (pj_okq_s (M := pj_m132) pj_mwa132 pj_mwb132 (by decide +kernel)) pj_mwc132 (by decide +kernel) pj_mwd132 (by decide +kernel)
set_option maxRecDepth 100000 in
theorem pj_mn132 : plainName pj_m132.1.cls = true := pj_pl0
set_option maxRecDepth 100000 in
theorem pj_mr132 : pj_okRL pj_m132 = true := pj_okRG_s (M := pj_m132) pj_TH0 rfl (by decide +kernel)
set_option maxRecDepth 100000 in
theorem pj_mwa133 : pj_wt 910 = some (.code pj_m133.1 pj_m133.2.1 pj_m133.2.2.1 pj_m133.2.2.2.1) := rfl
set_option maxRecDepth 100000 in
theorem pj_mwb133 : pj_wt 87 = some (.initialized pj_m133.1.cls) := rfl
set_option maxRecDepth 100000 in
theorem pj_mwc133 : pj_wt 908 = some (.instanceMethod pj_m133.1) := rfl
set_option maxRecDepth 100000 in
theorem pj_mwd133 : pj_wt 909 = some (.selects pj_m133.1.cls pj_m133.1 pj_m133.1) := rfl
set_option maxRecDepth 100000 in
theorem pj_ml133 : pj_okm pj_m133 (0, 1) = true := pj_okm1 (pj_okq_s (M := pj_m133) pj_mwa133 pj_mwb133 (by decide +kernel)) pj_mwc133 (by decide +kernel) pj_mwd133 (by decide +kernel)
set_option maxRecDepth 100000 in
theorem pj_mn133 : plainName pj_m133.1.cls = true := pj_pl0
set_option maxRecDepth 100000 in
theorem pj_mr133 : pj_okRL pj_m133 = true := pj_okRG_s (M := pj_m133) pj_TH0 rfl (by decide +kernel)
