set_option maxRecDepth 100000 in
theorem pj_mwa274 : pj_wt 2004 = some (.code pj_m274.1 pj_m274.2.1 pj_m274.2.2.1 pj_m274.2.2.2.1) := rfl
set_option maxRecDepth 100000 in
theorem pj_mwb274 : pj_wt 99 = some (.initialized pj_m274.1.cls) := rfl
set_option maxRecDepth 100000 in
theorem pj_mwc274 : pj_wt 2003 = some (.static pj_m274.1) := rfl
set_option maxRecDepth 100000 in
theorem pj_ml274 : pj_okm pj_m274 (3, 0) = true := pj_okm0 (pj_okq_s (M := pj_m274) pj_mwa274 pj_mwb274 (by decide +kernel)) pj_mwc274 (by decide +kernel)
set_option maxRecDepth 100000 in
theorem pj_mn274 : plainName pj_m274.1.cls = true := pj_pl12
set_option maxRecDepth 100000 in
theorem pj_mr274 : pj_okRL pj_m274 = true := pj_okRG_s (M := pj_m274) pj_TH12 rfl (by decide +kernel)
set_option maxRecDepth 100000 in
theorem pj_mwa275 : pj_wt 2001 = some (.code pj_m275.1 pj_m275.2.1 pj_m275.2.2.1 pj_m275.2.2.2.1) := rfl
set_option maxRecDepth 100000 in
theorem pj_mwb275 : pj_wt 99 = some (.initialized pj_m275.1.cls) := rfl
set_option maxRecDepth 100000 in
theorem pj_mwc275 : pj_wt 1999 = some (.instanceMethod pj_m275.1) := rfl
set_option maxRecDepth 100000 in
theorem pj_mwd275 : pj_wt 2000 = some (.selects pj_m275.1.cls pj_m275.1 pj_m275.1) := rfl
set_option maxRecDepth 100000 in
theorem pj_ml275 : pj_okm pj_m275 (1, 1) = true := pj_okm1 (pj_okq_s (M := pj_m275) pj_mwa275 pj_mwb275 (by decide +kernel)) pj_mwc275 (by decide +kernel) pj_mwd275 (by decide +kernel)
set_option maxRecDepth 100000 in
theorem pj_mn275 : plainName pj_m275.1.cls = true := pj_pl12
set_option maxRecDepth 100000 in
theorem pj_mr275 : pj_okRL pj_m275 = true := pj_okRG_s (M := pj_m275) pj_TH12 rfl (by decide +kernel)
set_option maxRecDepth 100000 in
theorem pj_mwa276 : pj_wt 2015 = some (.code pj_m276.1 pj_m276.2.1 pj_m276.2.2.1 pj_m276.2.2.2.1) := rfl
set_option maxRecDepth 100000 in
theorem pj_mwb276 : pj_wt 99 = some (.initialized pj_m276.1.cls) := rfl
set_option maxRecDepth 100000 in
theorem pj_mwc276 : pj_wt 2014 = some (.instanceMethod pj_m276.1) := rfl
set_option maxRecDepth 100000 in
theorem pj_mwd276 : pj_wt 82 = some (.selects pj_m276.1.cls pj_m276.1 pj_m276.1) := rfl
set_option maxRecDepth 100000 in
theorem pj_ml276 : pj_okm pj_m276 (1, 1) = true := pj_okm1 (pj_okq_s (M := pj_m276) pj_mwa276 pj_mwb276 (by decide +kernel)) pj_mwc276 (by decide +kernel) pj_mwd276 (by decide +kernel)
set_option maxRecDepth 100000 in
theorem pj_mn276 : plainName pj_m276.1.cls = true := pj_pl12
set_option maxRecDepth 100000 in
theorem pj_mr276 : pj_okRL pj_m276 = true := pj_okRG_s (M := pj_m276) pj_TH12 rfl (by decide +kernel)
set_option maxRecDepth 100000 in
theorem pj_mwa277 : pj_wt 2011 = some (.code pj_m277.1 pj_m277.2.1 pj_m277.2.2.1 pj_m277.2.2.2.1) := rfl
set_option maxRecDepth 100000 in
theorem pj_mwb277 : pj_wt 99 = some (.initialized pj_m277.1.cls) := rfl
set_option maxRecDepth 100000 in
theorem pj_mwc277 : pj_wt 2009 = some (.instanceMethod pj_m277.1) := rfl
set_option maxRecDepth 100000 in
theorem pj_mwd277 : pj_wt 2010 = some (.selects pj_m277.1.cls pj_m277.1 pj_m277.1) := rfl
set_option maxRecDepth 100000 in
theorem pj_ml277 : pj_okm pj_m277 (0, 1) = true := pj_okm1 (pj_okq_s (M := pj_m277) pj_mwa277 pj_mwb277 (by decide +kernel)) pj_mwc277 (by decide +kernel) pj_mwd277 (by decide +kernel)
set_option maxRecDepth 100000 in
theorem pj_mn277 : plainName pj_m277.1.cls = true := pj_pl12
set_option maxRecDepth 100000 in
theorem pj_mr277 : pj_okRL pj_m277 = true := pj_okRG_s (M := pj_m277) pj_TH12 rfl (by decide +kernel)
set_option maxRecDepth 100000 in
theorem pj_mwa278 : pj_wt 2030 = some (.code pj_m278.1 pj_m278.2.1 pj_m278.2.2.1 pj_m278.2.2.2.1) := rfl
set_option maxRecDepth 100000 in
theorem pj_mwb278 : pj_wt 99 = some (.initialized pj_m278.1.cls) := rfl
set_option maxRecDepth 100000 in
theorem pj_mwc278 : pj_wt 2029 = some (.instanceMethod pj_m278.1) := rfl
set_option maxRecDepth 100000 in
theorem pj_mwd278 : pj_wt 84 = some (.selects pj_m278.1.cls pj_m278.1 pj_m278.1) := rfl
set_option maxRecDepth 100000 in
theorem pj_ml278 : pj_okm pj_m278 (0, 1) = true := pj_okm1 (pj_okq_s (M := pj_m278) pj_mwa278 pj_mwb278 (by decide +kernel)) pj_mwc278 (by decide +kernel) pj_mwd278 (by decide +kernel)
set_option maxRecDepth 100000 in
theorem pj_mn278 : plainName pj_m278.1.cls = true := pj_pl12
set_option maxRecDepth 100000 in
theorem pj_mr278 : pj_okRL pj_m278 = true := pj_okRG_s (M := pj_m278) pj_TH12 rfl (by decide +kernel)
set_option maxRecDepth 100000 in
theorem pj_mwa279 : pj_wt 2026 = some (.code pj_m279.1 pj_m279.2.1 pj_m279.2.2.1 pj_m279.2.2.2.1) := rfl
set_option maxRecDepth 100000 in
theorem pj_mwb279 : pj_wt 99 = some (.initialized pj_m279.1.cls) := rfl
set_option maxRecDepth 100000 in
theorem pj_mwc279 : pj_wt 2025 = some (.instanceMethod pj_m279.1) := rfl
set_option maxRecDepth 100000 in
theorem pj_mwd279 : pj_wt 83 = some (.selects pj_m279.1.cls pj_m279.1 pj_m279.1) := rfl
set_option maxRecDepth 100000 in
theorem pj_ml279 : pj_okm pj_m279 (1, 1) = true := pj_okm1 (pj_okq_s (M := pj_m279) pj_mwa279 pj_mwb279 (by decide +kernel)) pj_mwc279 (by decide +kernel) pj_mwd279 (by decide +kernel)
set_option maxRecDepth 100000 in
theorem pj_mn279 : plainName pj_m279.1.cls = true := pj_pl12
set_option maxRecDepth 100000 in
theorem pj_mr279 : pj_okRL pj_m279 = true := pj_okRG_s (M := pj_m279) pj_TH12 rfl (by decide +kernel)
set_option maxRecDepth 100000 in
theorem pj_mwa280 : pj_wt 2020 = some (.code pj_m280.1 pj_m280.2.1 pj_m280.2.2.1 pj_m280.2.2.2.1) := rfl
set_option maxRecDepth 100000 in
theorem pj_mwb280 : pj_wt 99 = some (.initialized pj_m280.1.cls) := rfl
set_option maxRecDepth 100000 in
theorem pj_mwc280 : pj_wt 2018 = some (.instanceMethod pj_m280.1) := rfl
set_option maxRecDepth 100000 in
theorem pj_mwd280 : pj_wt 2019 = some (.selects pj_m280.1.cls pj_m280.1 pj_m280.1) := rfl
set_option maxRecDepth 100000 in
theorem pj_ml280 : pj_okm pj_m280 (2, 1) = true := pj_okm1 (pj_okq_s (M := pj_m280) pj_mwa280 pj_mwb280 (by decide +kernel)) pj_mwc280 (by decide +kernel) pj_mwd280 (by decide +kernel)
set_option maxRecDepth 100000 in
theorem pj_mn280 : plainName pj_m280.1.cls = true := pj_pl12
set_option maxRecDepth 100000 in
theorem pj_mr280 : pj_okRL pj_m280 = true := pj_okRG_s (M := pj_m280) pj_TH12 rfl (by decide +kernel)
set_option maxRecDepth 100000 in
theorem pj_mwa281 : pj_wt 2034 = some (.code pj_m281.1 pj_m281.2.1 pj_m281.2.2.1 pj_m281.2.2.2.1) := rfl
set_option maxRecDepth 100000 in
theorem pj_mwb281 : pj_wt 99 = some (.initialized pj_m281.1.cls) := rfl
set_option maxRecDepth 100000 in
theorem pj_mwc281 : pj_wt 2032 = some (.instanceMethod pj_m281.1) := rfl
set_option maxRecDepth 100000 in
theorem pj_mwd281 : pj_wt 2033 = some (.selects pj_m281.1.cls pj_m281.1 pj_m281.1) := rfl
set_option maxRecDepth 100000 in
theorem pj_ml281 : pj_okm pj_m281 (1, 1) = true := pj_okm1 (pj_okq_s (M := pj_m281) pj_mwa281 pj_mwb281 (by decide +kernel)) pj_mwc281 (by decide +kernel) pj_mwd281 (by decide +kernel)
set_option maxRecDepth 100000 in
theorem pj_mn281 : plainName pj_m281.1.cls = true := pj_pl12
set_option maxRecDepth 100000 in
theorem pj_mr281 : pj_okRL pj_m281 = true := pj_okRG_s (M := pj_m281) pj_TH12 rfl (by decide +kernel)
set_option maxRecDepth 100000 in
theorem pj_mwa282 : pj_wt 2039 = some (.code pj_m282.1 pj_m282.2.1 pj_m282.2.2.1 pj_m282.2.2.2.1) := rfl
set_option maxRecDepth 100000 in
theorem pj_mwb282 : pj_wt 99 = some (.initialized pj_m282.1.cls) := rfl
set_option maxRecDepth 100000 in
theorem pj_mwc282 : pj_wt 2037 = some (.instanceMethod pj_m282.1) := rfl
set_option maxRecDepth 100000 in
theorem pj_mwd282 : pj_wt 2038 = some (.selects pj_m282.1.cls pj_m282.1 pj_m282.1) := rfl
set_option maxRecDepth 100000 in
theorem pj_ml282 : pj_okm pj_m282 (1, 1) = true := pj_okm1 (pj_okq_s (M := pj_m282) pj_mwa282 pj_mwb282 (by decide +kernel)) pj_mwc282 (by decide +kernel) pj_mwd282 (by decide +kernel)
set_option maxRecDepth 100000 in
theorem pj_mn282 : plainName pj_m282.1.cls = true := pj_pl12
set_option maxRecDepth 100000 in
theorem pj_mr282 : pj_okRL pj_m282 = true := pj_okRG_s (M := pj_m282) pj_TH12 rfl (by decide +kernel)
set_option maxRecDepth 100000 in
theorem pj_mwa283 : pj_wt 2047 = some (.code pj_m283.1 pj_m283.2.1 pj_m283.2.2.1 pj_m283.2.2.2.1) := rfl
set_option maxRecDepth 100000 in
theorem pj_mwb283 : pj_wt 99 = some (.initialized pj_m283.1.cls) := rfl
set_option maxRecDepth 100000 in
theorem pj_mwc283 : pj_wt 2046 = some (.instanceMethod pj_m283.1) := rfl
set_option maxRecDepth 100000 in
theorem pj_mwd283 : pj_wt 85 = some (.selects pj_m283.1.cls pj_m283.1 pj_m283.1) := rfl
set_option maxRecDepth 100000 in
theorem pj_ml283 : pj_okm pj_m283 (1, 1) = true := pj_okm1 (pj_okq_s (M := pj_m283) pj_mwa283 pj_mwb283 (by decide +kernel)) pj_mwc283 (by decide +kernel) pj_mwd283 (by decide +kernel)
set_option maxRecDepth 100000 in
theorem pj_mn283 : plainName pj_m283.1.cls = true := pj_pl12
set_option maxRecDepth 100000 in
theorem pj_mr283 : pj_okRL pj_m283 = true := pj_okRG_s (M := pj_m283) pj_TH12 rfl (by decide +kernel)
set_option maxRecDepth 100000 in
theorem pj_mwa284 : pj_wt 2043 = some (.code pj_m284.1 pj_m284.2.1 pj_m284.2.2.1 pj_m284.2.2.2.1) := rfl
set_option maxRecDepth 100000 in
theorem pj_mwb284 : pj_wt 99 = some (.initialized pj_m284.1.cls) := rfl
set_option maxRecDepth 100000 in
theorem pj_mwc284 : pj_wt 2041 = some (.instanceMethod pj_m284.1) := rfl
set_option maxRecDepth 100000 in
theorem pj_mwd284 : pj_wt 2042 = some (.selects pj_m284.1.cls pj_m284.1 pj_m284.1) := rfl
set_option maxRecDepth 100000 in
theorem pj_ml284 : pj_okm pj_m284 (1, 1) = true := pj_okm1 (pj_okq_s (M := pj_m284) pj_mwa284 pj_mwb284 (by decide +kernel)) pj_mwc284 (by decide +kernel) pj_mwd284 (by decide +kernel)
set_option maxRecDepth 100000 in
theorem pj_mn284 : plainName pj_m284.1.cls = true := pj_pl12
set_option maxRecDepth 100000 in
theorem pj_mr284 : pj_okRL pj_m284 = true := pj_okRG_s (M := pj_m284) pj_TH12 rfl (by decide +kernel)
set_option maxRecDepth 100000 in
theorem pj_mwa285 : pj_wt 2051 = some (.code pj_m285.1 pj_m285.2.1 pj_m285.2.2.1 pj_m285.2.2.2.1) := rfl
set_option maxRecDepth 100000 in
theorem pj_mwb285 : pj_wt 99 = some (.initialized pj_m285.1.cls) := rfl
set_option maxRecDepth 100000 in
theorem pj_mwc285 : pj_wt 2049 = some (.instanceMethod pj_m285.1) := rfl
set_option maxRecDepth 100000 in
theorem pj_mwd285 : pj_wt 2050 = some (.selects pj_m285.1.cls pj_m285.1 pj_m285.1) := rfl
set_option maxRecDepth 100000 in
theorem pj_ml285 : pj_okm pj_m285 (1, 1) = true := pj_okm1 (pj_okq_s (M := pj_m285) pj_mwa285 pj_mwb285 (by decide +kernel)) pj_mwc285 (by decide +kernel) pj_mwd285 (by decide +kernel)
set_option maxRecDepth 100000 in
theorem pj_mn285 : plainName pj_m285.1.cls = true := pj_pl12
set_option maxRecDepth 100000 in
theorem pj_mr285 : pj_okRL pj_m285 = true := pj_okRG_s (M := pj_m285) pj_TH12 rfl (by decide +kernel)
set_option maxRecDepth 100000 in
theorem pj_mwa286 : pj_wt 1065 = some (.code pj_m286.1 pj_m286.2.1 pj_m286.2.2.1 pj_m286.2.2.2.1) := rfl
set_option maxRecDepth 100000 in
theorem pj_mwb286 : pj_wt 111 = some (.initialized pj_m286.1.cls) := rfl
set_option maxRecDepth 100000 in
theorem pj_mwc286 : pj_wt 1064 = some (.static pj_m286.1) := rfl
set_option maxRecDepth 100000 in
theorem pj_ml286 : pj_okm pj_m286 (1, 0) = true := pj_okm0 (pj_okq_s (M := pj_m286) pj_mwa286 pj_mwb286 (by decide +kernel)) pj_mwc286 (by decide +kernel)
set_option maxRecDepth 100000 in
theorem pj_mn286 : plainName pj_m286.1.cls = true := pj_pl13
set_option maxRecDepth 100000 in
theorem pj_mr286 : pj_okRL pj_m286 = true := pj_okRG_s (M := pj_m286) pj_TH13 rfl (by decide +kernel)
set_option maxRecDepth 100000 in
theorem pj_mwa287 : pj_wt 965 = some (.code pj_m287.1 pj_m287.2.1 pj_m287.2.2.1 pj_m287.2.2.2.1) := rfl
set_option maxRecDepth 100000 in
theorem pj_mwb287 : pj_wt 111 = some (.initialized pj_m287.1.cls) := rfl
set_option maxRecDepth 100000 in
theorem pj_mwc287 : pj_wt 964 = some (.static pj_m287.1) := rfl
set_option maxRecDepth 100000 in
theorem pj_ml287 : pj_okm pj_m287 (1, 0) = true := pj_okm0 (pj_okq_s (M := pj_m287) pj_mwa287 pj_mwb287 (by decide +kernel)) pj_mwc287 (by decide +kernel)
set_option maxRecDepth 100000 in
theorem pj_mn287 : plainName pj_m287.1.cls = true := pj_pl13
set_option maxRecDepth 100000 in
theorem pj_mr287 : pj_okRL pj_m287 = true := pj_okRG_s (M := pj_m287) pj_TH13 rfl (by decide +kernel)
set_option maxRecDepth 100000 in
theorem pj_mwa288 : pj_wt 623 = some (.code pj_m288.1 pj_m288.2.1 pj_m288.2.2.1 pj_m288.2.2.2.1) := rfl
set_option maxRecDepth 100000 in
theorem pj_mwb288 : pj_wt 101 = some (.initialized pj_m288.1.cls) := rfl
set_option maxRecDepth 100000 in
theorem pj_mwc288 : pj_wt 621 = some (.instanceMethod pj_m288.1) := rfl
set_option maxRecDepth 100000 in
theorem pj_mwd288 : pj_wt 622 = some (.selects pj_m288.1.cls pj_m288.1 pj_m288.1) := rfl
set_option maxRecDepth 100000 in
theorem pj_ml288 : pj_okm pj_m288 (0, 1) = true := pj_okm1 (pj_okq_s (M := pj_m288) pj_mwa288 pj_mwb288 (by decide +kernel)) pj_mwc288 (by decide +kernel) pj_mwd288 (by decide +kernel)
set_option maxRecDepth 100000 in
theorem pj_mn288 : plainName pj_m288.1.cls = true := pj_pl14
set_option maxRecDepth 100000 in
theorem pj_mr288 : pj_okRL pj_m288 = true := pj_okRG_s (M := pj_m288) pj_TH14 rfl (by decide +kernel)
set_option maxRecDepth 100000 in
theorem pj_mwa289 : pj_wt 633 = some (.code pj_m289.1 pj_m289.2.1 pj_m289.2.2.1 pj_m289.2.2.2.1) := rfl
set_option maxRecDepth 100000 in
theorem pj_mwb289 : pj_wt 101 = some (.initialized pj_m289.1.cls) := rfl
set_option maxRecDepth 100000 in
theorem pj_mwc289 : pj_wt 631 = some (.instanceMethod pj_m289.1) := rfl
set_option maxRecDepth 100000 in
theorem pj_mwd289 : pj_wt 632 = some (.selects pj_m289.1.cls pj_m289.1 pj_m289.1) := rfl
set_option maxRecDepth 100000 in
theorem pj_ml289 : pj_okm pj_m289 (1, 1) = true := pj_okm1 (pj_okq_s (M := pj_m289) pj_mwa289 pj_mwb289 (by decide +kernel)) pj_mwc289 (by decide +kernel) pj_mwd289 (by decide +kernel)
set_option maxRecDepth 100000 in
theorem pj_mn289 : plainName pj_m289.1.cls = true := pj_pl14
set_option maxRecDepth 100000 in
theorem pj_mr289 : pj_okRL pj_m289 = true := pj_okRG_s (M := pj_m289) pj_TH14 rfl (by decide +kernel)
set_option maxRecDepth 100000 in
theorem pj_mwa290 : pj_wt 673 = some (.code pj_m290.1 pj_m290.2.1 pj_m290.2.2.1 pj_m290.2.2.2.1) := rfl
set_option maxRecDepth 100000 in
theorem pj_mwb290 : pj_wt 101 = some (.initialized pj_m290.1.cls) := rfl
set_option maxRecDepth 100000 in
theorem pj_mwc290 : pj_wt 671 = some (.instanceMethod pj_m290.1) := rfl
set_option maxRecDepth 100000 in
theorem pj_mwd290 : pj_wt 672 = some (.selects pj_m290.1.cls pj_m290.1 pj_m290.1) := rfl
set_option maxRecDepth 100000 in
theorem pj_ml290 : pj_okm pj_m290 (1, 1) = true := pj_okm1 (pj_okq_s (M := pj_m290) pj_mwa290 pj_mwb290 (by decide +kernel)) pj_mwc290 (by decide +kernel) pj_mwd290 (by decide +kernel)
set_option maxRecDepth 100000 in
theorem pj_mn290 : plainName pj_m290.1.cls = true := pj_pl14
set_option maxRecDepth 100000 in
theorem pj_mr290 : pj_okRL pj_m290 = true := pj_okRG_s (M := pj_m290) pj_TH14 rfl (by decide +kernel)
