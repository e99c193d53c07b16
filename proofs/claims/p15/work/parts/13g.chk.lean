set_option maxRecDepth 100000 in
theorem pj_mwa155 : pj_wt 1211 = some (.code pj_m155.1 pj_m155.2.1 pj_m155.2.2.1 pj_m155.2.2.2.1) := rfl
set_option maxRecDepth 100000 in
theorem pj_mwb155 : pj_wt 87 = some (.initialized pj_m155.1.cls) := rfl
set_option maxRecDepth 100000 in
theorem pj_mwc155 : pj_wt 1209 = some (.instanceMethod pj_m155.1) := rfl
set_option maxRecDepth 100000 in
theorem pj_mwd155 : pj_wt 1210 = some (.selects pj_m155.1.cls pj_m155.1 pj_m155.1) := rfl
set_option maxRecDepth 100000 in
theorem pj_ml155 : pj_okm pj_m155 (0, 1) = true := pj_okm1 (pj_okq_s (M := pj_m155) pj_mwa155 pj_mwb155 (by decide +kernel)) pj_mwc155 (by decide +kernel) pj_mwd155 (by decide +kernel)
set_option maxRecDepth 100000 in
theorem pj_mn155 : plainName pj_m155.1.cls = true := pj_pl0
set_option maxRecDepth 100000 in
theorem pj_mr155 : pj_okRL pj_m155 = true := pj_okRG_s (M := pj_m155) pj_TH0 rfl (by decide +kernel)
set_option maxRecDepth 100000 in
theorem pj_mwa156 : pj_wt 1220 = some (.code pj_m156.1 pj_m156.2.1 pj_m156.2.2.1 pj_m156.2.2.2.1) := rfl
set_option maxRecDepth 100000 in
theorem pj_mwb156 : pj_wt 87 = some (.initialized pj_m156.1.cls) := rfl
set_option maxRecDepth 100000 in
theorem pj_mwc156 : pj_wt 1218 = some (.instanceMethod pj_m156.1) := rfl
set_option maxRecDepth 100000 in
theorem pj_mwd156 : pj_wt 1219 = some (.selects pj_m156.1.cls pj_m156.1 pj_m156.1) := rfl
set_option maxRecDepth 100000 in
theorem pj_ml156 : pj_okm pj_m156 (2, 1) = true := pj_okm1 (pj_okq_s (M := pj_m156) pj_mwa156 pj_mwb156 (by decide +kernel)) pj_mwc156 (by decide +kernel) pj_mwd156 (by decide +kernel)
set_option maxRecDepth 100000 in
theorem pj_mn156 : plainName pj_m156.1.cls = true := pj_pl0
set_option maxRecDepth 100000 in
theorem pj_mr156 : pj_okRL pj_m156 = true := pj_okRG_s (M := pj_m156) pj_TH0 rfl (by decide +kernel)
set_option maxRecDepth 100000 in
theorem pj_mwa157 : pj_wt 1246 = some (.code pj_m157.1 pj_m157.2.1 pj_m157.2.2.1 pj_m157.2.2.2.1) := rfl
set_option maxRecDepth 100000 in
theorem pj_mwb157 : pj_wt 87 = some (.initialized pj_m157.1.cls) := rfl
set_option maxRecDepth 100000 in
theorem pj_mwc157 : pj_wt 1244 = some (.instanceMethod pj_m157.1) := rfl
set_option maxRecDepth 100000 in
theorem pj_mwd157 : pj_wt 1245 = some (.selects pj_m157.1.cls pj_m157.1 pj_m157.1) := rfl
set_option maxRecDepth 100000 in
theorem pj_ml157 : pj_okm pj_m157 (1, 1) = true := pj_okm1 (pj_okq_s (M := pj_m157) pj_mwa157 pj_mwb157 (by decide +kernel)) pj_mwc157 (by decide +kernel) pj_mwd157 (by decide +kernel)
set_option maxRecDepth 100000 in
theorem pj_mn157 : plainName pj_m157.1.cls = true := pj_pl0
set_option maxRecDepth 100000 in
theorem pj_mr157 : pj_okRL pj_m157 = true := pj_okRG_s (M := pj_m157) pj_TH0 rfl (by decide +kernel)
set_option maxRecDepth 100000 in
theorem pj_mwa158 : pj_wt 1254 = some (.code pj_m158.1 pj_m158.2.1 pj_m158.2.2.1 pj_m158.2.2.2.1) := rfl
set_option maxRecDepth 100000 in
theorem pj_mwb158 : pj_wt 87 = some (.initialized pj_m158.1.cls) := rfl
set_option maxRecDepth 100000 in
theorem pj_mwc158 : pj_wt 1252 = some (.instanceMethod pj_m158.1) := rfl
set_option maxRecDepth 100000 in
theorem pj_mwd158 : pj_wt 1253 = some (.selects pj_m158.1.cls pj_m158.1 pj_m158.1) := rfl
set_option maxRecDepth 100000 in
theorem pj_ml158 : pj_okm pj_m158 (1, 1) = true := pj_okm1 (pj_okq_s (M := pj_m158) pj_mwa158 pj_mwb158 (by decide +kernel)) pj_mwc158 (by decide +kernel) pj_mwd158 (by decide +kernel)
set_option maxRecDepth 100000 in
theorem pj_mn158 : plainName pj_m158.1.cls = true := pj_pl0
set_option maxRecDepth 100000 in
theorem pj_mr158 : pj_okRL pj_m158 = true := pj_okRG_s (M := pj_m158) pj_TH0 rfl (by decide +kernel)
set_option maxRecDepth 100000 in
theorem pj_mwa159 : pj_wt 1262 = some (.code pj_m159.1 pj_m159.2.1 pj_m159.2.2.1 pj_m159.2.2.2.1) := rfl
set_option maxRecDepth 100000 in
theorem pj_mwb159 : pj_wt 87 = some (.initialized pj_m159.1.cls) := rfl
set_option maxRecDepth 100000 in
theorem pj_mwc159 : pj_wt 1260 = some (.instanceMethod pj_m159.1) := rfl
set_option maxRecDepth 100000 in
theorem pj_mwd159 : pj_wt 1261 = some (.selects pj_m159.1.cls pj_m159.1 pj_m159.1) := rfl
set_option maxRecDepth 100000 in
theorem pj_ml159 : pj_okm pj_m159 (1, 1) = true := pj_okm1 (pj_okq_s (M := pj_m159) pj_mwa159 pj_mwb159 (by decide +kernel)) pj_mwc159 (by decide +kernel) pj_mwd159 (by decide +kernel)
set_option maxRecDepth 100000 in
theorem pj_mn159 : plainName pj_m159.1.cls = true := pj_pl0
set_option maxRecDepth 100000 in
theorem pj_mr159 : pj_okRL pj_m159 = true := pj_okRG_s (M := pj_m159) pj_TH0 rfl (by decide +kernel)
set_option maxRecDepth 100000 in
theorem pj_ml160 : pj_okm pj_m160 (0, 3) = true := rfl
set_option maxRecDepth 100000 in
theorem pj_mn160 : plainName pj_m160.1.cls = true := pj_pl0
set_option maxRecDepth 100000 in
theorem pj_mr160 : pj_okRL pj_m160 = true := pj_okRG_s (M := pj_m160) pj_TH0 rfl (by decide +kernel)
set_option maxRecDepth 100000 in
theorem pj_mwa161 : pj_wt 575 = some (.code pj_m161.1 pj_m161.2.1 pj_m161.2.2.1 pj_m161.2.2.2.1) := rfl
set_option maxRecDepth 100000 in
theorem pj_mwb161 : pj_wt 87 = some (.initialized pj_m161.1.cls) := rfl
set_option maxRecDepth 100000 in
theorem pj_mwc161 : pj_wt 574 = some (.instanceMethod pj_m161.1) := rfl
set_option maxRecDepth 100000 in
theorem pj_mwd161 : pj_wt 0 = some (.selects pj_m161.1.cls pj_m161.1 pj_m161.1) := rfl
set_option maxRecDepth 100000 in
theorem pj_ml161 : pj_okm pj_m161 (1, 1) = true := pj_okm1 (pj_okq_s (M := pj_m161) pj_mwa161 pj_mwb161 (by decide +kernel)) pj_mwc161 (by decide +kernel) pj_mwd161 (by decide +kernel)
set_option maxRecDepth 100000 in
theorem pj_mn161 : plainName pj_m161.1.cls = true := pj_pl0
set_option maxRecDepth 100000 in
theorem pj_mr161 : pj_okRL pj_m161 = true := pj_okRG_s (M := pj_m161) pj_TH0 rfl (by decide +kernel)
set_option maxRecDepth 100000 in
theorem pj_mwa162 : pj_wt 543 = some (.code pj_m162.1 pj_m162.2.1 pj_m162.2.2.1 pj_m162.2.2.2.1) := rfl
set_option maxRecDepth 100000 in
theorem pj_mwb162 : pj_wt 87 = some (.initialized pj_m162.1.cls) := rfl
set_option maxRecDepth 100000 in
theorem pj_mwc162 : pj_wt 542 = some (.static pj_m162.1) := rfl
set_option maxRecDepth 100000 in
theorem pj_ml162 : pj_okm pj_m162 (1, 0) = true := pj_okm0 (pj_okq_s (M := pj_m162) pj_mwa162 pj_mwb162 (by decide +kernel)) pj_mwc162 (by decide +kernel)
set_option maxRecDepth 100000 in
theorem pj_mn162 : plainName pj_m162.1.cls = true := pj_pl0
set_option maxRecDepth 100000 in
theorem pj_mr162 : pj_okRL pj_m162 = true := pj_okRG_s (M := pj_m162) pj_TH0 rfl (by decide +kernel)
set_option maxRecDepth 100000 in
theorem pj_mwa163 : pj_wt 935 = some (.code pj_m163.1 pj_m163.2.1 pj_m163.2.2.1 pj_m163.2.2.2.1) := rfl
set_option maxRecDepth 100000 in
theorem pj_mwb163 : pj_wt 87 = some (.initialized pj_m163.1.cls) := rfl
set_option maxRecDepth 100000 in
theorem pj_mwc163 : pj_wt 934 = some (.static pj_m163.1) := rfl
set_option maxRecDepth 100000 in
theorem pj_ml163 : pj_okm pj_m163 (2, 0) = true := pj_okm0 (pj_okq_s (M := pj_m163) pj_mwa163 pj_mwb163 (by decide +kernel)) pj_mwc163 (by decide +kernel)
set_option maxRecDepth 100000 in
theorem pj_mn163 : plainName pj_m163.1.cls = true := pj_pl0
set_option maxRecDepth 100000 in
theorem pj_mr163 : pj_okRL pj_m163 = true := pj_okRG_s (M := pj_m163) pj_TH0 rfl (by decide +kernel)
set_option maxRecDepth 100000 in
theorem pj_mwa164 : pj_wt 1025 = some (.code pj_m164.1 pj_m164.2.1 pj_m164.2.2.1 pj_m164.2.2.2.1) := rfl
set_option maxRecDepth 100000 in
theorem pj_mwb164 : pj_wt 87 = some (.initialized pj_m164.1.cls) := rfl
set_option maxRecDepth 100000 in
theorem pj_mwc164 : pj_wt 1024 = some (.static pj_m164.1) := rfl
set_option maxRecDepth 100000 in
theorem pj_ml164 : pj_okm pj_m164 (2, 0) = true := pj_okm0 (pj_okq_s (M := pj_m164) pj_mwa164 pj_mwb164 (by decide +kernel)) pj_mwc164 (by decide +kernel)
set_option maxRecDepth 100000 in
theorem pj_mn164 : plainName pj_m164.1.cls = true := pj_pl0
set_option maxRecDepth 100000 in
theorem pj_mr164 : pj_okRL pj_m164 = true := pj_okRG_s (M := pj_m164) pj_TH0 rfl (by decide +kernel)
set_option maxRecDepth 100000 in
theorem pj_mwa165 : pj_wt 1193 = some (.code pj_m165.1 pj_m165.2.1 pj_m165.2.2.1 pj_m165.2.2.2.1) := rfl
set_option maxRecDepth 100000 in
theorem pj_mwb165 : pj_wt 87 = some (.initialized pj_m165.1.cls) := rfl
set_option maxRecDepth 100000 in
theorem pj_mwc165 : pj_wt 1192 = some (.static pj_m165.1) := rfl
set_option maxRecDepth 100000 in
theorem pj_ml165 : pj_okm pj_m165 (4, 0) = true := pj_okm0 (pj_okq_s (M := pj_m165) pj_mwa165 pj_mwb165 (by decide +kernel)) pj_mwc165 (by decide +kernel)
set_option maxRecDepth 100000 in
theorem pj_mn165 : plainName pj_m165.1.cls = true := pj_pl0
set_option maxRecDepth 100000 in
theorem pj_mr165 : pj_okRL pj_m165 = true := pj_okRG_s (M := pj_m165) pj_TH0 rfl (by decide +kernel)
set_option maxRecDepth 100000 in
theorem pj_mwa166 : pj_wt 1207 = some (.code pj_m166.1 pj_m166.2.1 pj_m166.2.2.1 pj_m166.2.2.2.1) := rfl
set_option maxRecDepth 100000 in
theorem pj_mwb166 : pj_wt 87 = some (.initialized pj_m166.1.cls) := rfl
set_option maxRecDepth 100000 in
theorem pj_mwc166 : pj_wt 1206 = some (.static pj_m166.1) := rfl
set_option maxRecDepth 100000 in
theorem pj_ml166 : pj_okm pj_m166 (3, 0) = true := pj_okm0 (pj_okq_s (M := pj_m166) pj_mwa166 pj_mwb166 (by decide +kernel)) pj_mwc166 (by decide +kernel)
set_option maxRecDepth 100000 in
theorem pj_mn166 : plainName pj_m166.1.cls = true := pj_pl0
set_option maxRecDepth 100000 in
theorem pj_mr166 : pj_okRL pj_m166 = true := pj_okRG_s (M := pj_m166) pj_TH0 rfl (by decide +kernel)
set_option maxRecDepth 100000 in
theorem pj_mwa167 : pj_wt 1204 = some (.code pj_m167.1 pj_m167.2.1 pj_m167.2.2.1 pj_m167.2.2.2.1) := rfl
set_option maxRecDepth 100000 in
theorem pj_mwb167 : pj_wt 87 = some (.initialized pj_m167.1.cls) := rfl
set_option maxRecDepth 100000 in
theorem pj_mwc167 : pj_wt 1203 = some (.static pj_m167.1) := rfl
set_option maxRecDepth 100000 in
theorem pj_ml167 : pj_okm pj_m167 (3, 0) = true := pj_okm0 (pj_okq_s (M := pj_m167) pj_mwa167 pj_mwb167 (by decide +kernel)) pj_mwc167 (by decide +kernel)
set_option maxRecDepth 100000 in
theorem pj_mn167 : plainName pj_m167.1.cls = true := pj_pl0
set_option maxRecDepth 100000 in
theorem pj_mr167 : pj_okRL pj_m167 = true := pj_okRG_s (M := pj_m167) pj_TH0 rfl (by decide +kernel)
set_option maxRecDepth 100000 in
theorem pj_mwa168 : pj_wt 1378 = some (.code pj_m168.1 pj_m168.2.1 pj_m168.2.2.1 pj_m168.2.2.2.1) := rfl
set_option maxRecDepth 100000 in
theorem pj_mwb168 : pj_wt 99 = some (.initialized pj_m168.1.cls) := rfl
set_option maxRecDepth 100000 in
theorem pj_mwc168 : pj_wt 1377 = some (.instanceMethod pj_m168.1) := rfl
set_option maxRecDepth 100000 in
theorem pj_ml168 : pj_okm pj_m168 (0, 2) = true := pj_okm2 (pj_okq_s (M := pj_m168) pj_mwa168 pj_mwb168 (by decide +kernel)) pj_mwc168 (by decide +kernel) (by decide +kernel)
set_option maxRecDepth 100000 in
theorem pj_mn168 : plainName pj_m168.1.cls = true := pj_pl12
set_option maxRecDepth 100000 in
theorem pj_mr168 : pj_okRL pj_m168 = true := pj_okRG_s (M := pj_m168) pj_TH12 rfl (by decide +kernel)
set_option maxRecDepth 100000 in
theorem pj_mwa169 : pj_wt 1679 = some (.code pj_m169.1 pj_m169.2.1 pj_m169.2.2.1 pj_m169.2.2.2.1) := rfl
set_option maxRecDepth 100000 in
theorem pj_mwb169 : pj_wt 99 = some (.initialized pj_m169.1.cls) := rfl
set_option maxRecDepth 100000 in
theorem pj_mwc169 : pj_wt 1678 = some (.instanceMethod pj_m169.1) := rfl
set_option maxRecDepth 100000 in
theorem pj_mwd169 : pj_wt 38 = some (.selects pj_m169.1.cls pj_m169.1 pj_m169.1) := rfl
set_option maxRecDepth 100000 in
theorem pj_ml169 : pj_okm pj_m169 (0, 1) = true := pj_okm1 (pj_okq_s (M := pj_m169) pj_mwa169 pj_mwb169 (by decide +kernel)) pj_mwc169 (by decide +kernel) pj_mwd169 (by decide +kernel)
set_option maxRecDepth 100000 in
theorem pj_mn169 : plainName pj_m169.1.cls = true := pj_pl12
set_option maxRecDepth 100000 in
theorem pj_mr169 : pj_okRL pj_m169 = true := pj_okRG_s (M := pj_m169) pj_TH12 rfl (by decide +kernel)
set_option maxRecDepth 100000 in
theorem pj_mwa170 : pj_wt 1571 = some (.code pj_m170.1 pj_m170.2.1 pj_m170.2.2.1 pj_m170.2.2.2.1) := rfl
set_option maxRecDepth 100000 in
theorem pj_mwb170 : pj_wt 99 = some (.initialized pj_m170.1.cls) := rfl
set_option maxRecDepth 100000 in
theorem pj_mwc170 : pj_wt 1570 = some (.static pj_m170.1) := rfl
set_option maxRecDepth 100000 in
theorem pj_ml170 : pj_okm pj_m170 (3, 0) = true := pj_okm0 (pj_okq_s (M := pj_m170) pj_mwa170 pj_mwb170 (by decide +kernel)) pj_mwc170 (by decide +kernel)
set_option maxRecDepth 100000 in
theorem pj_mn170 : plainName pj_m170.1.cls = true := pj_pl12
set_option maxRecDepth 100000 in
theorem pj_mr170 : pj_okRL pj_m170 = true := pj_okRG_s (M := pj_m170) pj_TH12 rfl (by decide +kernel)
set_option maxRecDepth 100000 in
theorem pj_mwa171 : pj_wt 1778 = some (.code pj_m171.1 pj_m171.2.1 pj_m171.2.2.1 pj_m171.2.2.2.1) := rfl
set_option maxRecDepth 100000 in
theorem pj_mwb171 : pj_wt 99 = some (.initialized pj_m171.1.cls) := rfl
set_option maxRecDepth 100000 in
theorem pj_mwc171 : pj_wt 1777 = some (.static pj_m171.1) := rfl
set_option maxRecDepth 100000 in
theorem pj_ml171 : pj_okm pj_m171 (2, 0) = true := pj_okm0 (pj_okq_s (M := pj_m171) pj_mwa171 pj_mwb171 (by decide +kernel)) pj_mwc171 (by decide +kernel)
set_option maxRecDepth 100000 in
theorem pj_mn171 : plainName pj_m171.1.cls = true := pj_pl12
set_option maxRecDepth 100000 in
theorem pj_mr171 : pj_okRL pj_m171 = true := pj_okRG_s (M := pj_m171) pj_TH12 rfl (by decide +kernel)
set_option maxRecDepth 100000 in
theorem pj_mwa172 : pj_wt 1594 = some (.code pj_m172.1 pj_m172.2.1 pj_m172.2.2.1 pj_m172.2.2.2.1) := rfl
set_option maxRecDepth 100000 in
theorem pj_mwb172 : pj_wt 99 = some (.initialized pj_m172.1.cls) := rfl
set_option maxRecDepth 100000 in
theorem pj_mwc172 : pj_wt 1593 = some (.static pj_m172.1) := rfl
set_option maxRecDepth 100000 in
theorem pj_ml172 : pj_okm pj_m172 (1, 0) = true := pj_okm0 (pj_okq_s (M := pj_m172) pj_mwa172 pj_mwb172 (by decide +kernel)) pj_mwc172 (by decide +kernel)
set_option maxRecDepth 100000 in
theorem pj_mn172 : plainName pj_m172.1.cls = true := pj_pl12
set_option maxRecDepth 100000 in
theorem pj_mr172 : pj_okRL pj_m172 = true := pj_okRG_s (M := pj_m172) pj_TH12 rfl (by decide +kernel)
set_option maxRecDepth 100000 in
theorem pj_mwa173 : pj_wt 1949 = some (.code pj_m173.1 pj_m173.2.1 pj_m173.2.2.1 pj_m173.2.2.2.1) := rfl
set_option maxRecDepth 100000 in
theorem pj_mwb173 : pj_wt 99 = some (.initialized pj_m173.1.cls) := rfl
set_option maxRecDepth 100000 in
theorem pj_mwc173 : pj_wt 1948 = some (.static pj_m173.1) := rfl
set_option maxRecDepth 100000 in
theorem pj_ml173 : pj_okm pj_m173 (2, 0) = true := pj_okm0 (pj_okq_s (M := pj_m173) pj_mwa173 pj_mwb173 (by decide +kernel)) pj_mwc173 (by decide +kernel)
set_option maxRecDepth 100000 in
theorem pj_mn173 : plainName pj_m173.1.cls = true := pj_pl12
set_option maxRecDepth 100000 in
theorem pj_mr173 : pj_okRL pj_m173 = true := pj_okRG_s (M := pj_m173) pj_TH12 rfl (by decide +kernel)
set_option maxRecDepth 100000 in
theorem pj_mwa174 : pj_wt 1795 = some (.code pj_m174.1 pj_m174.2.1 pj_m174.2.2.1 pj_m174.2.2.2.1) := rfl
set_option maxRecDepth 100000 in
theorem pj_mwb174 : pj_wt 99 = some (.initialized pj_m174.1.cls) := rfl
set_option maxRecDepth 100000 in
theorem pj_mwc174 : pj_wt 1794 = some (.instanceMethod pj_m174.1) := rfl
set_option maxRecDepth 100000 in
theorem pj_mwd174 : pj_wt 55 = some (.selects pj_m174.1.cls pj_m174.1 pj_m174.1) := rfl
set_option maxRecDepth 100000 in
theorem pj_ml174 : pj_okm pj_m174 (1, 1) = true := pj_okm1 (pj_okq_s (M := pj_m174) pj_mwa174 pj_mwb174 (by decide +kernel)) pj_mwc174 (by decide +kernel) pj_mwd174 (by decide +kernel)
set_option maxRecDepth 100000 in
theorem pj_mn174 : plainName pj_m174.1.cls = true := pj_pl12
set_option maxRecDepth 100000 in
theorem pj_mr174 : pj_okRL pj_m174 = true := pj_okRG_s (M := pj_m174) pj_TH12 rfl (by decide +kernel)
set_option maxRecDepth 100000 in
theorem pj_mwa175 : pj_wt 1816 = some (.code pj_m175.1 pj_m175.2.1 pj_m175.2.2.1 pj_m175.2.2.2.1) := rfl
set_option maxRecDepth 100000 in
theorem pj_mwb175 : pj_wt 99 = some (.initialized pj_m175.1.cls) := rfl
set_option maxRecDepth 100000 in
theorem pj_mwc175 : pj_wt 1815 = some (.instanceMethod pj_m175.1) := rfl
set_option maxRecDepth 100000 in
theorem pj_mwd175 : pj_wt 58 = some (.selects pj_m175.1.cls pj_m175.1 pj_m175.1) := rfl
set_option maxRecDepth 100000 in
theorem pj_ml175 : pj_okm pj_m175 (1, 1) = true := pj_okm1 (pj_okq_s (M := pj_m175) pj_mwa175 pj_mwb175 (by decide +kernel)) pj_mwc175 (by decide +kernel) pj_mwd175 (by decide +kernel)
set_option maxRecDepth 100000 in
theorem pj_mn175 : plainName pj_m175.1.cls = true := pj_pl12
set_option maxRecDepth 100000 in
theorem pj_mr175 : pj_okRL pj_m175 = true := pj_okRG_s (M := pj_m175) pj_TH12 rfl (by decide +kernel)
set_option maxRecDepth 100000 in
theorem pj_mwa176 : pj_wt 1674 = some (.code pj_m176.1 pj_m176.2.1 pj_m176.2.2.1 pj_m176.2.2.2.1) := rfl
set_option maxRecDepth 100000 in
theorem pj_mwb176 : pj_wt 99 = some (.initialized pj_m176.1.cls) := rfl
set_option maxRecDepth 100000 in
theorem pj_mwc176 : pj_wt 1673 = some (.instanceMethod pj_m176.1) := rfl
set_option maxRecDepth 100000 in
theorem pj_mwd176 : pj_wt 37 = some (.selects pj_m176.1.cls pj_m176.1 pj_m176.1) := rfl
set_option maxRecDepth 100000 in
theorem pj_ml176 : pj_okm pj_m176 (1, 1) = true := pj_okm1 (pj_okq_s (M := pj_m176) pj_mwa176 pj_mwb176 (by decide +kernel)) pj_mwc176 (by decide +kernel) pj_mwd176 (by decide +kernel)
set_option maxRecDepth 100000 in
theorem pj_mn176 : plainName pj_m176.1.cls = true := pj_pl12
set_option maxRecDepth 100000 in
theorem pj_mr176 : pj_okRL pj_m176 = true := pj_okRG_s (M := pj_m176) pj_TH12 rfl (by decide +kernel)
set_option maxRecDepth 100000 in
theorem pj_mwa177 : pj_wt 1691 = some (.code pj_m177.1 pj_m177.2.1 pj_m177.2.2.1 pj_m177.2.2.2.1) := rfl
set_option maxRecDepth 100000 in
theorem pj_mwb177 : pj_wt 99 = some (.initialized pj_m177.1.cls) := rfl
set_option maxRecDepth 100000 in
theorem pj_mwc177 : pj_wt 1690 = some (.instanceMethod pj_m177.1) := rfl
set_option maxRecDepth 100000 in
theorem pj_mwd177 : pj_wt 40 = some (.selects pj_m177.1.cls pj_m177.1 pj_m177.1) := rfl
set_option maxRecDepth 100000 in
theorem pj_ml177 : pj_okm pj_m177 (1, 1) = true := pj_okm1 (pj_okq_s (M := pj_m177) pj_mwa177 pj_mwb177 (by decide +kernel)) pj_mwc177 (by decide +kernel) pj_mwd177 (by decide +kernel)
set_option maxRecDepth 100000 in
theorem pj_mn177 : plainName pj_m177.1.cls = true := pj_pl12
set_option maxRecDepth 100000 in
theorem pj_mr177 : pj_okRL pj_m177 = true := pj_okRG_s (M := pj_m177) pj_TH12 rfl (by decide +kernel)
set_option maxRecDepth 100000 in
theorem pj_mwa178 : pj_wt 1700 = some (.code pj_m178.1 pj_m178.2.1 pj_m178.2.2.1 pj_m178.2.2.2.1) := rfl
set_option maxRecDepth 100000 in
theorem pj_mwb178 : pj_wt 99 = some (.initialized pj_m178.1.cls) := rfl
set_option maxRecDepth 100000 in
theorem pj_mwc178 : pj_wt 1699 = some (.instanceMethod pj_m178.1) := rfl
set_option maxRecDepth 100000 in
theorem pj_mwd178 : pj_wt 41 = some (.selects pj_m178.1.cls pj_m178.1 pj_m178.1) := rfl
set_option maxRecDepth 100000 in
theorem pj_ml178 : pj_okm pj_m178 (1, 1) = true := pj_okm1 (pj_okq_s (M := pj_m178) pj_mwa178 pj_mwb178 (by decide +kernel)) pj_mwc178 (by decide +kernel) pj_mwd178 (by decide +kernel)
set_option maxRecDepth 100000 in
theorem pj_mn178 : plainName pj_m178.1.cls = true := pj_pl12
set_option maxRecDepth 100000 in
theorem pj_mr178 : pj_okRL pj_m178 = true := pj_okRG_s (M := pj_m178) pj_TH12 rfl (by decide +kernel)
set_option maxRecDepth 100000 in
theorem pj_mwa179 : pj_wt 1564 = some (.code pj_m179.1 pj_m179.2.1 pj_m179.2.2.1 pj_m179.2.2.2.1) := rfl
set_option maxRecDepth 100000 in
theorem pj_mwb179 : pj_wt 99 = some (.initialized pj_m179.1.cls) := rfl
set_option maxRecDepth 100000 in
theorem pj_mwc179 : pj_wt 1562 = some (.instanceMethod pj_m179.1) := rfl
set_option maxRecDepth 100000 in
theorem pj_mwd179 : pj_wt 1563 = some (.selects pj_m179.1.cls pj_m179.1 pj_m179.1) := rfl
set_option maxRecDepth 100000 in
theorem pj_ml179 : pj_okm pj_m179 (1, 1) = true := pj_okm1 (pj_okq_s (M := pj_m179) pj_mwa179 pj_mwb179 (by decide +kernel)) pj_mwc179 (by decide +kernel) pj_mwd179 (by decide +kernel)
set_option maxRecDepth 100000 in
theorem pj_mn179 : plainName pj_m179.1.cls = true := pj_pl12
set_option maxRecDepth 100000 in
theorem pj_mr179 : pj_okRL pj_m179 = true := pj_okRG_s (M := pj_m179) pj_TH12 rfl (by decide +kernel)
set_option maxRecDepth 100000 in
theorem pj_mwa180 : pj_wt 1568 = some (.code pj_m180.1 pj_m180.2.1 pj_m180.2.2.1 pj_m180.2.2.2.1) := rfl
set_option maxRecDepth 100000 in
theorem pj_mwb180 : pj_wt 99 = some (.initialized pj_m180.1.cls) := rfl
set_option maxRecDepth 100000 in
theorem pj_mwc180 : pj_wt 1566 = some (.instanceMethod pj_m180.1) := rfl
set_option maxRecDepth 100000 in
theorem pj_mwd180 : pj_wt 1567 = some (.selects pj_m180.1.cls pj_m180.1 pj_m180.1) := rfl
set_option maxRecDepth 100000 in
theorem pj_ml180 : pj_okm pj_m180 (1, 1) = true := pj_okm1 (pj_okq_s (M := pj_m180) pj_mwa180 pj_mwb180 (by decide +kernel)) pj_mwc180 (by decide +kernel) pj_mwd180 (by decide +kernel)
set_option maxRecDepth 100000 in
theorem pj_mn180 : plainName pj_m180.1.cls = true := pj_pl12
set_option maxRecDepth 100000 in
theorem pj_mr180 : pj_okRL pj_m180 = true := pj_okRG_s (M := pj_m180) pj_TH12 rfl (by decide +kernel)
set_option maxRecDepth 100000 in
theorem pj_mwa181 : pj_wt 1579 = some (.code pj_m181.1 pj_m181.2.1 pj_m181.2.2.1 pj_m181.2.2.2.1) := rfl
set_option maxRecDepth 100000 in
theorem pj_mwb181 : pj_wt 99 = some (.initialized pj_m181.1.cls) := rfl
set_option maxRecDepth 100000 in
theorem pj_mwc181 : pj_wt 1578 = some (.instanceMethod pj_m181.1) := rfl
set_option maxRecDepth 100000 in
theorem pj_mwd181 : pj_wt 21 = some (.selects pj_m181.1.cls pj_m181.1 pj_m181.1) := rfl
set_option maxRecDepth 100000 in
theorem pj_ml181 : pj_okm pj_m181 (1, 1) = true := pj_okm1 (pj_okq_s (M := pj_m181) pj_mwa181 pj_mwb181 (by decide +kernel)) pj_mwc181 (by decide +kernel) pj_mwd181 (by decide +kernel)
set_option maxRecDepth 100000 in
theorem pj_mn181 : plainName pj_m181.1.cls = true := pj_pl12
set_option maxRecDepth 100000 in
theorem pj_mr181 : pj_okRL pj_m181 = true := pj_okRG_s (M := pj_m181) pj_TH12 rfl (by decide +kernel)
set_option maxRecDepth 100000 in
theorem pj_mwa182 : pj_wt 1598 = some (.code pj_m182.1 pj_m182.2.1 pj_m182.2.2.1 pj_m182.2.2.2.1) := rfl
set_option maxRecDepth 100000 in
theorem pj_mwb182 : pj_wt 99 = some (.initialized pj_m182.1.cls) := rfl
set_option maxRecDepth 100000 in
theorem pj_mwc182 : pj_wt 1597 = some (.instanceMethod pj_m182.1) := rfl
set_option maxRecDepth 100000 in
theorem pj_mwd182 : pj_wt 24 = some (.selects pj_m182.1.cls pj_m182.1 pj_m182.1) := rfl
set_option maxRecDepth 100000 in
theorem pj_ml182 : pj_okm pj_m182 (1, 1) = true := pj_okm1 (pj_okq_s (M := pj_m182) pj_mwa182 pj_mwb182 (by decide +kernel)) pj_mwc182 (by decide +kernel) pj_mwd182 (by decide +kernel)
set_option maxRecDepth 100000 in
theorem pj_mn182 : plainName pj_m182.1.cls = true := pj_pl12
set_option maxRecDepth 100000 in
theorem pj_mr182 : pj_okRL pj_m182 = true := pj_okRG_s (M := pj_m182) pj_TH12 rfl (by decide +kernel)
set_option maxRecDepth 100000 in
theorem pj_mwa183 : pj_wt 1619 = some (.code pj_m183.1 pj_m183.2.1 pj_m183.2.2.1 pj_m183.2.2.2.1) := rfl
set_option maxRecDepth 100000 in
theorem pj_mwb183 : pj_wt 99 = some (.initialized pj_m183.1.cls) := rfl
set_option maxRecDepth 100000 in
theorem pj_mwc183 : pj_wt 1618 = some (.instanceMethod pj_m183.1) := rfl
set_option maxRecDepth 100000 in
theorem pj_mwd183 : pj_wt 29 = some (.selects pj_m183.1.cls pj_m183.1 pj_m183.1) := rfl
set_option maxRecDepth 100000 in
theorem pj_ml183 : pj_okm pj_m183 (0, 1) = true := pj_okm1 (pj_okq_s (M := pj_m183) pj_mwa183 pj_mwb183 (by decide +kernel)) pj_mwc183 (by decide +kernel) pj_mwd183 (by decide +kernel)
set_option maxRecDepth 100000 in
theorem pj_mn183 : plainName pj_m183.1.cls = true := pj_pl12
set_option maxRecDepth 100000 in
theorem pj_mr183 : pj_okRL pj_m183 = true := pj_okRG_s (M := pj_m183) pj_TH12 rfl (by decide +kernel)
set_option maxRecDepth 100000 in
theorem pj_mwa184 : pj_wt 1589 = some (.code pj_m184.1 pj_m184.2.1 pj_m184.2.2.1 pj_m184.2.2.2.1) := rfl
set_option maxRecDepth 100000 in
theorem pj_mwb184 : pj_wt 99 = some (.initialized pj_m184.1.cls) := rfl
set_option maxRecDepth 100000 in
theorem pj_mwc184 : pj_wt 1588 = some (.instanceMethod pj_m184.1) := rfl
set_option maxRecDepth 100000 in
theorem pj_mwd184 : pj_wt 23 = some (.selects pj_m184.1.cls pj_m184.1 pj_m184.1) := rfl
set_option maxRecDepth 100000 in
theorem pj_ml184 : pj_okm pj_m184 (1, 1) = true := pj_okm1 (pj_okq_s (M := pj_m184) pj_mwa184 pj_mwb184 (by decide +kernel)) pj_mwc184 (by decide +kernel) pj_mwd184 (by decide +kernel)
set_option maxRecDepth 100000 in
theorem pj_mn184 : plainName pj_m184.1.cls = true := pj_pl12
set_option maxRecDepth 100000 in
theorem pj_mr184 : pj_okRL pj_m184 = true := pj_okRG_s (M := pj_m184) pj_TH12 rfl (by decide +kernel)
set_option maxRecDepth 100000 in
theorem pj_mwa185 : pj_wt 1585 = some (.code pj_m185.1 pj_m185.2.1 pj_m185.2.2.1 pj_m185.2.2.2.1) := rfl
set_option maxRecDepth 100000 in
theorem pj_mwb185 : pj_wt 99 = some (.initialized pj_m185.1.cls) := rfl
set_option maxRecDepth 100000 in
theorem pj_mwc185 : pj_wt 1584 = some (.instanceMethod pj_m185.1) := rfl
set_option maxRecDepth 100000 in
theorem pj_mwd185 : pj_wt 22 = some (.selects pj_m185.1.cls pj_m185.1 pj_m185.1) := rfl
set_option maxRecDepth 100000 in
theorem pj_ml185 : pj_okm pj_m185 (1, 1) = true := pj_okm1 (pj_okq_s (M := pj_m185) pj_mwa185 pj_mwb185 (by decide +kernel)) pj_mwc185 (by decide +kernel) pj_mwd185 (by decide +kernel)
set_option maxRecDepth 100000 in
theorem pj_mn185 : plainName pj_m185.1.cls = true := pj_pl12
set_option maxRecDepth 100000 in
theorem pj_mr185 : pj_okRL pj_m185 = true := pj_okRG_s (M := pj_m185) pj_TH12 rfl (by decide +kernel)
set_option maxRecDepth 100000 in
theorem pj_mwa186 : pj_wt 1615 = some (.code pj_m186.1 pj_m186.2.1 pj_m186.2.2.1 pj_m186.2.2.2.1) := rfl
set_option maxRecDepth 100000 in
theorem pj_mwb186 : pj_wt 99 = some (.initialized pj_m186.1.cls) := rfl
set_option maxRecDepth 100000 in
theorem pj_mwc186 : pj_wt 1614 = some (.instanceMethod pj_m186.1) := rfl
set_option maxRecDepth 100000 in
theorem pj_mwd186 : pj_wt 28 = some (.selects pj_m186.1.cls pj_m186.1 pj_m186.1) := rfl
set_option maxRecDepth 100000 in
theorem pj_ml186 : pj_okm pj_m186 (1, 1) = true := pj_okm1 (pj_okq_s (M := pj_m186) pj_mwa186 pj_mwb186 (by decide +kernel)) pj_mwc186 (by decide +kernel) pj_mwd186 (by decide +kernel)
set_option maxRecDepth 100000 in
theorem pj_mn186 : plainName pj_m186.1.cls = true := pj_pl12
set_option maxRecDepth 100000 in
theorem pj_mr186 : pj_okRL pj_m186 = true := pj_okRG_s (M := pj_m186) pj_TH12 rfl (by decide +kernel)
set_option maxRecDepth 100000 in
theorem pj_mwa187 : pj_wt 1610 = some (.code pj_m187.1 pj_m187.2.1 pj_m187.2.2.1 pj_m187.2.2.2.1) := rfl
set_option maxRecDepth 100000 in
theorem pj_mwb187 : pj_wt 99 = some (.initialized pj_m187.1.cls) := rfl
set_option maxRecDepth 100000 in
theorem pj_mwc187 : pj_wt 1609 = some (.instanceMethod pj_m187.1) := rfl
set_option maxRecDepth 100000 in
theorem pj_mwd187 : pj_wt 27 = some (.selects pj_m187.1.cls pj_m187.1 pj_m187.1) := rfl
set_option maxRecDepth 100000 in
theorem pj_ml187 : pj_okm pj_m187 (1, 1) = true := pj_okm1 (pj_okq_s (M := pj_m187) pj_mwa187 pj_mwb187 (by decide +kernel)) pj_mwc187 (by decide +kernel) pj_mwd187 (by decide +kernel)
set_option maxRecDepth 100000 in
theorem pj_mn187 : plainName pj_m187.1.cls = true := pj_pl12
set_option maxRecDepth 100000 in
theorem pj_mr187 : pj_okRL pj_m187 = true := pj_okRG_s (M := pj_m187) pj_TH12 rfl (by decide +kernel)
set_option maxRecDepth 100000 in
theorem pj_mwa188 : pj_wt 1626 = some (.code pj_m188.1 pj_m188.2.1 pj_m188.2.2.1 pj_m188.2.2.2.1) := rfl
set_option maxRecDepth 100000 in
theorem pj_mwb188 : pj_wt 99 = some (.initialized pj_m188.1.cls) := rfl
set_option maxRecDepth 100000 in
theorem pj_mwc188 : pj_wt 1625 = some (.instanceMethod pj_m188.1) := rfl
set_option maxRecDepth 100000 in
theorem pj_mwd188 : pj_wt 30 = some (.selects pj_m188.1.cls pj_m188.1 pj_m188.1) := rfl
set_option maxRecDepth 100000 in
theorem pj_ml188 : pj_okm pj_m188 (3, 1) = true := pj_okm1 (pj_okq_s (M := pj_m188) pj_mwa188 pj_mwb188 (by decide +kernel)) pj_mwc188 (by decide +kernel) pj_mwd188 (by decide +kernel)
set_option maxRecDepth 100000 in
theorem pj_mn188 : plainName pj_m188.1.cls = true := pj_pl12
set_option maxRecDepth 100000 in
theorem pj_mr188 : pj_okRL pj_m188 = true := pj_okRG_s (M := pj_m188) pj_TH12 rfl (by decide +kernel)
set_option maxRecDepth 100000 in
theorem pj_mwa189 : pj_wt 1606 = some (.code pj_m189.1 pj_m189.2.1 pj_m189.2.2.1 pj_m189.2.2.2.1) := rfl
set_option maxRecDepth 100000 in
theorem pj_mwb189 : pj_wt 99 = some (.initialized pj_m189.1.cls) := rfl
set_option maxRecDepth 100000 in
theorem pj_mwc189 : pj_wt 1605 = some (.instanceMethod pj_m189.1) := rfl
set_option maxRecDepth 100000 in
theorem pj_mwd189 : pj_wt 26 = some (.selects pj_m189.1.cls pj_m189.1 pj_m189.1) := rfl
set_option maxRecDepth 100000 in
theorem pj_ml189 : pj_okm pj_m189 (1, 1) = true := pj_okm1 (pj_okq_s (M := pj_m189) pj_mwa189 pj_mwb189 (by decide +kernel)) pj_mwc189 (by decide +kernel) pj_mwd189 (by decide +kernel)
set_option maxRecDepth 100000 in
theorem pj_mn189 : plainName pj_m189.1.cls = true := pj_pl12
set_option maxRecDepth 100000 in
theorem pj_mr189 : pj_okRL pj_m189 = true := pj_okRG_s (M := pj_m189) pj_TH12 rfl (by decide +kernel)
