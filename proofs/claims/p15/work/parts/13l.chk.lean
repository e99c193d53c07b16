set_option maxRecDepth 100000 in
theorem pj_mwa256 : pj_wt 1942 = some (.code pj_m256.1 pj_m256.2.1 pj_m256.2.2.1 pj_m256.2.2.2.1) := rfl
set_option maxRecDepth 100000 in
theorem pj_mwb256 : pj_wt 99 = some (.initialized pj_m256.1.cls) := rfl
set_option maxRecDepth 100000 in
theorem pj_mwc256 : pj_wt 1941 = some (.instanceMethod pj_m256.1) := rfl
set_option maxRecDepth 100000 in
theorem pj_mwd256 : pj_wt 76 = some (.selects pj_m256.1.cls pj_m256.1 pj_m256.1) := rfl
set_option maxRecDepth 100000 in
theorem pj_ml256 : pj_okm pj_m256 (1, 1) = true := pj_okm1 (pj_okq_s (M := pj_m256) pj_mwa256 pj_mwb256 (by decide +kernel)) pj_mwc256 (by decide +kernel) pj_mwd256 (by decide +kernel)
set_option maxRecDepth 100000 in
theorem pj_mn256 : plainName pj_m256.1.cls = true := pj_pl12
set_option maxRecDepth 100000 in
theorem pj_mr256 : pj_okRL pj_m256 = true := pj_okRG_s (M := pj_m256) pj_TH12 rfl (by decide +kernel)
set_option maxRecDepth 100000 in
theorem pj_mwa257 : pj_wt 1934 = some (.code pj_m257.1 pj_m257.2.1 pj_m257.2.2.1 pj_m257.2.2.2.1) := rfl
set_option maxRecDepth 100000 in
theorem pj_mwb257 : pj_wt 99 = some (.initialized pj_m257.1.cls) := rfl
set_option maxRecDepth 100000 in
theorem pj_mwc257 : pj_wt 1933 = some (.instanceMethod pj_m257.1) := rfl
set_option maxRecDepth 100000 in
theorem pj_mwd257 : pj_wt 74 = some (.selects pj_m257.1.cls pj_m257.1 pj_m257.1) := rfl
set_option maxRecDepth 100000 in
theorem pj_ml257 : pj_okm pj_m257 (1, 1) = true := pj_okm1 (pj_okq_s (M := pj_m257) pj_mwa257 pj_mwb257 (by decide +kernel)) pj_mwc257 (by decide +kernel) pj_mwd257 (by decide +kernel)
set_option maxRecDepth 100000 in
theorem pj_mn257 : plainName pj_m257.1.cls = true := pj_pl12
set_option maxRecDepth 100000 in
theorem pj_mr257 : pj_okRL pj_m257 = true := pj_okRG_s (M := pj_m257) pj_TH12 rfl (by decide +kernel)
set_option maxRecDepth 100000 in
theorem pj_mwa258 : pj_wt 1938 = some (.code pj_m258.1 pj_m258.2.1 pj_m258.2.2.1 pj_m258.2.2.2.1) := rfl
set_option maxRecDepth 100000 in
theorem pj_mwb258 : pj_wt 99 = some (.initialized pj_m258.1.cls) := rfl
set_option maxRecDepth 100000 in
theorem pj_mwc258 : pj_wt 1937 = some (.instanceMethod pj_m258.1) := rfl
set_option maxRecDepth 100000 in
theorem pj_mwd258 : pj_wt 75 = some (.selects pj_m258.1.cls pj_m258.1 pj_m258.1) := rfl
set_option maxRecDepth 100000 in
theorem pj_ml258 : pj_okm pj_m258 (3, 1) = true := pj_okm1 (pj_okq_s (M := pj_m258) pj_mwa258 pj_mwb258 (by decide +kernel)) pj_mwc258 (by decide +kernel) pj_mwd258 (by decide +kernel)
set_option maxRecDepth 100000 in
theorem pj_mn258 : plainName pj_m258.1.cls = true := pj_pl12
set_option maxRecDepth 100000 in
theorem pj_mr258 : pj_okRL pj_m258 = true := pj_okRG_s (M := pj_m258) pj_TH12 rfl (by decide +kernel)
set_option maxRecDepth 100000 in
theorem pj_mwa259 : pj_wt 1946 = some (.code pj_m259.1 pj_m259.2.1 pj_m259.2.2.1 pj_m259.2.2.2.1) := rfl
set_option maxRecDepth 100000 in
theorem pj_mwb259 : pj_wt 99 = some (.initialized pj_m259.1.cls) := rfl
set_option maxRecDepth 100000 in
theorem pj_mwc259 : pj_wt 1945 = some (.instanceMethod pj_m259.1) := rfl
set_option maxRecDepth 100000 in
theorem pj_mwd259 : pj_wt 77 = some (.selects pj_m259.1.cls pj_m259.1 pj_m259.1) := rfl
set_option maxRecDepth 100000 in
theorem pj_ml259 : pj_okm pj_m259 (1, 1) = true := pj_okm1 (pj_okq_s (M := pj_m259) pj_mwa259 pj_mwb259 (by decide +kernel)) pj_mwc259 (by decide +kernel) pj_mwd259 (by decide +kernel)
set_option maxRecDepth 100000 in
theorem pj_mn259 : plainName pj_m259.1.cls = true := pj_pl12
set_option maxRecDepth 100000 in
theorem pj_mr259 : pj_okRL pj_m259 = true := pj_okRG_s (M := pj_m259) pj_TH12 rfl (by decide +kernel)
set_option maxRecDepth 100000 in
theorem pj_mwa260 : pj_wt 1928 = some (.code pj_m260.1 pj_m260.2.1 pj_m260.2.2.1 pj_m260.2.2.2.1) := rfl
set_option maxRecDepth 100000 in
theorem pj_mwb260 : pj_wt 99 = some (.initialized pj_m260.1.cls) := rfl
set_option maxRecDepth 100000 in
theorem pj_mwc260 : pj_wt 1926 = some (.instanceMethod pj_m260.1) := rfl
set_option maxRecDepth 100000 in
theorem pj_mwd260 : pj_wt 1927 = some (.selects pj_m260.1.cls pj_m260.1 pj_m260.1) := rfl
set_option maxRecDepth 100000 in
theorem pj_ml260 : pj_okm pj_m260 (4, 1) = true := pj_okm1 (pj_okq_s (M := pj_m260) pj_mwa260 pj_mwb260 (by decide +kernel)) pj_mwc260 (by decide +kernel) pj_mwd260 (by decide +kernel)
set_option maxRecDepth 100000 in
theorem pj_mn260 : plainName pj_m260.1.cls = true := pj_pl12
set_option maxRecDepth 100000 in
theorem pj_mr260 : pj_okRL pj_m260 = true := pj_okRG_s (M := pj_m260) pj_TH12 rfl (by decide +kernel)
set_option maxRecDepth 100000 in
theorem pj_mwa261 : pj_wt 1953 = some (.code pj_m261.1 pj_m261.2.1 pj_m261.2.2.1 pj_m261.2.2.2.1) := rfl
set_option maxRecDepth 100000 in
theorem pj_mwb261 : pj_wt 99 = some (.initialized pj_m261.1.cls) := rfl
set_option maxRecDepth 100000 in
theorem pj_mwc261 : pj_wt 1951 = some (.instanceMethod pj_m261.1) := rfl
set_option maxRecDepth 100000 in
theorem pj_mwd261 : pj_wt 1952 = some (.selects pj_m261.1.cls pj_m261.1 pj_m261.1) := rfl
set_option maxRecDepth 100000 in
theorem pj_ml261 : pj_okm pj_m261 (3, 1) = true := pj_okm1 (pj_okq_s (M := pj_m261) pj_mwa261 pj_mwb261 (by decide +kernel)) pj_mwc261 (by decide +kernel) pj_mwd261 (by decide +kernel)
set_option maxRecDepth 100000 in
theorem pj_mn261 : plainName pj_m261.1.cls = true := pj_pl12
set_option maxRecDepth 100000 in
theorem pj_mr261 : pj_okRL pj_m261 = true := pj_okRG_s (M := pj_m261) pj_TH12 rfl (by decide +kernel)
set_option maxRecDepth 100000 in
theorem pj_mwa262 : pj_wt 1960 = some (.code pj_m262.1 pj_m262.2.1 pj_m262.2.2.1 pj_m262.2.2.2.1) := rfl
set_option maxRecDepth 100000 in
theorem pj_mwb262 : pj_wt 99 = some (.initialized pj_m262.1.cls) := rfl
set_option maxRecDepth 100000 in
theorem pj_mwc262 : pj_wt 1959 = some (.static pj_m262.1) := rfl
set_option maxRecDepth 100000 in
theorem pj_ml262 : pj_okm pj_m262 (1, 0) = true := pj_okm0 (pj_okq_s (M := pj_m262) pj_mwa262 pj_mwb262 (by decide +kernel)) pj_mwc262 (by decide +kernel)
set_option maxRecDepth 100000 in
theorem pj_mn262 : plainName pj_m262.1.cls = true := pj_pl12
set_option maxRecDepth 100000 in
theorem pj_mr262 : pj_okRL pj_m262 = true := pj_okRG_s (M := pj_m262) pj_TH12 rfl (by decide +kernel)
set_option maxRecDepth 100000 in
theorem pj_mwa263 : pj_wt 1957 = some (.code pj_m263.1 pj_m263.2.1 pj_m263.2.2.1 pj_m263.2.2.2.1) := rfl
set_option maxRecDepth 100000 in
theorem pj_mwb263 : pj_wt 99 = some (.initialized pj_m263.1.cls) := rfl
set_option maxRecDepth 100000 in
theorem pj_mwc263 : pj_wt 1955 = some (.instanceMethod pj_m263.1) := rfl
set_option maxRecDepth 100000 in
theorem pj_mwd263 : pj_wt 1956 = some (.selects pj_m263.1.cls pj_m263.1 pj_m263.1) := rfl
set_option maxRecDepth 100000 in
theorem pj_ml263 : pj_okm pj_m263 (3, 1) = true := pj_okm1 (pj_okq_s (M := pj_m263) pj_mwa263 pj_mwb263 (by decide +kernel)) pj_mwc263 (by decide +kernel) pj_mwd263 (by decide +kernel)
set_option maxRecDepth 100000 in
theorem pj_mn263 : plainName pj_m263.1.cls = true := pj_pl12
set_option maxRecDepth 100000 in
theorem pj_mr263 : pj_okRL pj_m263 = true := pj_okRG_s (M := pj_m263) pj_TH12 rfl (by decide +kernel)
set_option maxRecDepth 100000 in
theorem pj_mwa264 : pj_wt 1964 = some (.code pj_m264.1 pj_m264.2.1 pj_m264.2.2.1 pj_m264.2.2.2.1) := rfl
set_option maxRecDepth 100000 in
theorem pj_mwb264 : pj_wt 99 = some (.initialized pj_m264.1.cls) := rfl
set_option maxRecDepth 100000 in
theorem pj_mwc264 : pj_wt 1962 = some (.instanceMethod pj_m264.1) := rfl
set_option maxRecDepth 100000 in
theorem pj_mwd264 : pj_wt 1963 = some (.selects pj_m264.1.cls pj_m264.1 pj_m264.1) := rfl
set_option maxRecDepth 100000 in
theorem pj_ml264 : pj_okm pj_m264 (0, 1) = true := pj_okm1 (pj_okq_s (M := pj_m264) pj_mwa264 pj_mwb264 (by decide +kernel)) pj_mwc264 (by decide +kernel) pj_mwd264 (by decide +kernel)
set_option maxRecDepth 100000 in
theorem pj_mn264 : plainName pj_m264.1.cls = true := pj_pl12
set_option maxRecDepth 100000 in
theorem pj_mr264 : pj_okRL pj_m264 = true := pj_okRG_s (M := pj_m264) pj_TH12 rfl (by decide +kernel)
set_option maxRecDepth 100000 in
theorem pj_mwa265 : pj_wt 1976 = some (.code pj_m265.1 pj_m265.2.1 pj_m265.2.2.1 pj_m265.2.2.2.1) := rfl
set_option maxRecDepth 100000 in
theorem pj_mwb265 : pj_wt 99 = some (.initialized pj_m265.1.cls) := rfl
set_option maxRecDepth 100000 in
theorem pj_mwc265 : pj_wt 1975 = some (.instanceMethod pj_m265.1) := rfl
set_option maxRecDepth 100000 in
theorem pj_mwd265 : pj_wt 79 = some (.selects pj_m265.1.cls pj_m265.1 pj_m265.1) := rfl
set_option maxRecDepth 100000 in
theorem pj_ml265 : pj_okm pj_m265 (3, 1) = true := pj_okm1 (pj_okq_s (M := pj_m265) pj_mwa265 pj_mwb265 (by decide +kernel)) pj_mwc265 (by decide +kernel) pj_mwd265 (by decide +kernel)
set_option maxRecDepth 100000 in
theorem pj_mn265 : plainName pj_m265.1.cls = true := pj_pl12
set_option maxRecDepth 100000 in
theorem pj_mr265 : pj_okRL pj_m265 = true := pj_okRG_s (M := pj_m265) pj_TH12 rfl (by decide +kernel)
set_option maxRecDepth 100000 in
theorem pj_mwa266 : pj_wt 1972 = some (.code pj_m266.1 pj_m266.2.1 pj_m266.2.2.1 pj_m266.2.2.2.1) := rfl
set_option maxRecDepth 100000 in
theorem pj_mwb266 : pj_wt 99 = some (.initialized pj_m266.1.cls) := rfl
set_option maxRecDepth 100000 in
theorem pj_mwc266 : pj_wt 1971 = some (.instanceMethod pj_m266.1) := rfl
set_option maxRecDepth 100000 in
theorem pj_mwd266 : pj_wt 78 = some (.selects pj_m266.1.cls pj_m266.1 pj_m266.1) := rfl
set_option maxRecDepth 100000 in
theorem pj_ml266 : pj_okm pj_m266 (0, 1) = true := pj_okm1 (pj_okq_s (M := pj_m266) pj_mwa266 pj_mwb266 (by decide +kernel)) pj_mwc266 (by decide +kernel) pj_mwd266 (by decide +kernel)
set_option maxRecDepth 100000 in
theorem pj_mn266 : plainName pj_m266.1.cls = true := pj_pl12
set_option maxRecDepth 100000 in
theorem pj_mr266 : pj_okRL pj_m266 = true := pj_okRG_s (M := pj_m266) pj_TH12 rfl (by decide +kernel)
set_option maxRecDepth 100000 in
theorem pj_mwa267 : pj_wt 1968 = some (.code pj_m267.1 pj_m267.2.1 pj_m267.2.2.1 pj_m267.2.2.2.1) := rfl
set_option maxRecDepth 100000 in
theorem pj_mwb267 : pj_wt 99 = some (.initialized pj_m267.1.cls) := rfl
set_option maxRecDepth 100000 in
theorem pj_mwc267 : pj_wt 1966 = some (.instanceMethod pj_m267.1) := rfl
set_option maxRecDepth 100000 in
theorem pj_mwd267 : pj_wt 1967 = some (.selects pj_m267.1.cls pj_m267.1 pj_m267.1) := rfl
set_option maxRecDepth 100000 in
theorem pj_ml267 : pj_okm pj_m267 (0, 1) = true := pj_okm1 (pj_okq_s (M := pj_m267) pj_mwa267 pj_mwb267 (by decide +kernel)) pj_mwc267 (by decide +kernel) pj_mwd267 (by decide +kernel)
set_option maxRecDepth 100000 in
theorem pj_mn267 : plainName pj_m267.1.cls = true := pj_pl12
set_option maxRecDepth 100000 in
theorem pj_mr267 : pj_okRL pj_m267 = true := pj_okRG_s (M := pj_m267) pj_TH12 rfl (by decide +kernel)
set_option maxRecDepth 100000 in
theorem pj_mwa268 : pj_wt 1980 = some (.code pj_m268.1 pj_m268.2.1 pj_m268.2.2.1 pj_m268.2.2.2.1) := rfl
set_option maxRecDepth 100000 in
theorem pj_mwb268 : pj_wt 99 = some (.initialized pj_m268.1.cls) := rfl
set_option maxRecDepth 100000 in
theorem pj_mwc268 : pj_wt 1978 = some (.instanceMethod pj_m268.1) := rfl
set_option maxRecDepth 100000 in
theorem pj_mwd268 : pj_wt 1979 = some (.selects pj_m268.1.cls pj_m268.1 pj_m268.1) := rfl
set_option maxRecDepth 100000 in
theorem pj_ml268 : pj_okm pj_m268 (0, 1) = true := pj_okm1 (pj_okq_s (M := pj_m268) pj_mwa268 pj_mwb268 (by decide +kernel)) pj_mwc268 (by decide +kernel) pj_mwd268 (by decide +kernel)
set_option maxRecDepth 100000 in
theorem pj_mn268 : plainName pj_m268.1.cls = true := pj_pl12
set_option maxRecDepth 100000 in
theorem pj_mr268 : pj_okRL pj_m268 = true := pj_okRG_s (M := pj_m268) pj_TH12 rfl (by decide +kernel)
set_option maxRecDepth 100000 in
theorem pj_mwa269 : pj_wt 1993 = some (.code pj_m269.1 pj_m269.2.1 pj_m269.2.2.1 pj_m269.2.2.2.1) := rfl
set_option maxRecDepth 100000 in
theorem pj_mwb269 : pj_wt 99 = some (.initialized pj_m269.1.cls) := rfl
set_option maxRecDepth 100000 in
theorem pj_mwc269 : pj_wt 1992 = some (.instanceMethod pj_m269.1) := rfl
set_option maxRecDepth 100000 in
theorem pj_mwd269 : pj_wt 81 = some (.selects pj_m269.1.cls pj_m269.1 pj_m269.1) := rfl
set_option maxRecDepth 100000 in
theorem pj_ml269 : pj_okm pj_m269 (4, 1) = true := pj_okm1 (pj_okq_s (M := pj_m269) pj_mwa269 pj_mwb269 (by decide +kernel)) pj_mwc269 (by decide +kernel) pj_mwd269 (by decide +kernel)
set_option maxRecDepth 100000 in
theorem pj_mn269 : plainName pj_m269.1.cls = true := pj_pl12
set_option maxRecDepth 100000 in
theorem pj_mr269 : pj_okRL pj_m269 = true := pj_okRG_s (M := pj_m269) pj_TH12 rfl (by decide +kernel)
set_option maxRecDepth 100000 in
theorem pj_mwa270 : pj_wt 1988 = some (.code pj_m270.1 pj_m270.2.1 pj_m270.2.2.1 pj_m270.2.2.2.1) := rfl
set_option maxRecDepth 100000 in
theorem pj_mwb270 : pj_wt 99 = some (.initialized pj_m270.1.cls) := rfl
set_option maxRecDepth 100000 in
theorem pj_mwc270 : pj_wt 1987 = some (.instanceMethod pj_m270.1) := rfl
set_option maxRecDepth 100000 in
theorem pj_mwd270 : pj_wt 80 = some (.selects pj_m270.1.cls pj_m270.1 pj_m270.1) := rfl
set_option maxRecDepth 100000 in
theorem pj_ml270 : pj_okm pj_m270 (3, 1) = true := pj_okm1 (pj_okq_s (M := pj_m270) pj_mwa270 pj_mwb270 (by decide +kernel)) pj_mwc270 (by decide +kernel) pj_mwd270 (by decide +kernel)
set_option maxRecDepth 100000 in
theorem pj_mn270 : plainName pj_m270.1.cls = true := pj_pl12
set_option maxRecDepth 100000 in
theorem pj_mr270 : pj_okRL pj_m270 = true := pj_okRG_s (M := pj_m270) pj_TH12 rfl (by decide +kernel)
set_option maxRecDepth 100000 in
theorem pj_mwa271 : pj_wt 1984 = some (.code pj_m271.1 pj_m271.2.1 pj_m271.2.2.1 pj_m271.2.2.2.1) := rfl
set_option maxRecDepth 100000 in
theorem pj_mwb271 : pj_wt 99 = some (.initialized pj_m271.1.cls) := rfl
set_option maxRecDepth 100000 in
theorem pj_mwc271 : pj_wt 1982 = some (.instanceMethod pj_m271.1) := rfl
set_option maxRecDepth 100000 in
theorem pj_mwd271 : pj_wt 1983 = some (.selects pj_m271.1.cls pj_m271.1 pj_m271.1) := rfl
set_option maxRecDepth 100000 in
theorem pj_ml271 : pj_okm pj_m271 (4, 1) = true := pj_okm1 (pj_okq_s (M := pj_m271) pj_mwa271 pj_mwb271 (by decide +kernel)) pj_mwc271 (by decide +kernel) pj_mwd271 (by decide +kernel)
set_option maxRecDepth 100000 in
theorem pj_mn271 : plainName pj_m271.1.cls = true := pj_pl12
set_option maxRecDepth 100000 in
theorem pj_mr271 : pj_okRL pj_m271 = true := pj_okRG_s (M := pj_m271) pj_TH12 rfl (by decide +kernel)
set_option maxRecDepth 100000 in
theorem pj_mwa272 : pj_wt 1997 = some (.code pj_m272.1 pj_m272.2.1 pj_m272.2.2.1 pj_m272.2.2.2.1) := rfl
set_option maxRecDepth 100000 in
theorem pj_mwb272 : pj_wt 99 = some (.initialized pj_m272.1.cls) := rfl
set_option maxRecDepth 100000 in
theorem pj_mwc272 : pj_wt 1995 = some (.instanceMethod pj_m272.1) := rfl
set_option maxRecDepth 100000 in
theorem pj_mwd272 : pj_wt 1996 = some (.selects pj_m272.1.cls pj_m272.1 pj_m272.1) := rfl
set_option maxRecDepth 100000 in
theorem pj_ml272 : pj_okm pj_m272 (3, 1) = true := pj_okm1 (pj_okq_s (M := pj_m272) pj_mwa272 pj_mwb272 (by decide +kernel)) pj_mwc272 (by decide +kernel) pj_mwd272 (by decide +kernel)
set_option maxRecDepth 100000 in
theorem pj_mn272 : plainName pj_m272.1.cls = true := pj_pl12
set_option maxRecDepth 100000 in
theorem pj_mr272 : pj_okRL pj_m272 = true := pj_okRG_s (M := pj_m272) pj_TH12 rfl (by decide +kernel)
set_option maxRecDepth 100000 in
theorem pj_mwa273 : pj_wt 2007 = some (.code pj_m273.1 pj_m273.2.1 pj_m273.2.2.1 pj_m273.2.2.2.1) := rfl
set_option maxRecDepth 100000 in
theorem pj_mwb273 : pj_wt 99 = some (.initialized pj_m273.1.cls) := rfl
set_option maxRecDepth 100000 in
theorem pj_mwc273 : pj_wt 2006 = some (.static pj_m273.1) := rfl
set_option maxRecDepth 100000 in
theorem pj_ml273 : pj_okm pj_m273 (3, 0) = true := pj_okm0 (pj_okq_s (M := pj_m273) pj_mwa273 pj_mwb273 (by decide +kernel)) pj_mwc273 (by decide +kernel)
set_option maxRecDepth 100000 in
theorem pj_mn273 : plainName pj_m273.1.cls = true := pj_pl12
set_option maxRecDepth 100000 in
theorem pj_mr273 : pj_okRL pj_m273 = true := pj_okRG_s (M := pj_m273) pj_TH12 rfl (by decide +kernel)
