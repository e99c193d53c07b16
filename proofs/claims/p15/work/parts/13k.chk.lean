set_option maxRecDepth 100000 in
theorem pj_mwa240 : pj_wt 1845 = some (.code pj_m240.1 pj_m240.2.1 pj_m240.2.2.1 pj_m240.2.2.2.1) := rfl
set_option maxRecDepth 100000 in
theorem pj_mwb240 : pj_wt 99 = some (.initialized pj_m240.1.cls) := rfl
set_option maxRecDepth 100000 in
theorem pj_mwc240 : pj_wt 1843 = some (.instanceMethod pj_m240.1) := rfl
set_option maxRecDepth 100000 in
theorem pj_mwd240 : pj_wt 1844 = some (.selects pj_m240.1.cls pj_m240.1 pj_m240.1) := rfl
set_option maxRecDepth 100000 in
theorem pj_ml240 : pj_okm pj_m240 (2, 1) = true := pj_okm1 (pj_okq_s (M := pj_m240) pj_mwa240 pj_mwb240 (by decide +kernel)) pj_mwc240 (by decide +kernel) pj_mwd240 (by decide +kernel)
set_option maxRecDepth 100000 in
theorem pj_mn240 : plainName pj_m240.1.cls = true := pj_pl12
set_option maxRecDepth 100000 in
theorem pj_mr240 : pj_okRL pj_m240 = true := pj_okRG_s (M := pj_m240) pj_TH12 rfl (by decide +kernel)
set_option maxRecDepth 100000 in
theorem pj_mwa241 : pj_wt 1865 = some (.code pj_m241.1 pj_m241.2.1 pj_m241.2.2.1 pj_m241.2.2.2.1) := rfl
set_option maxRecDepth 100000 in
theorem pj_mwb241 : pj_wt 99 = some (.initialized pj_m241.1.cls) := rfl
set_option maxRecDepth 100000 in
theorem pj_mwc241 : pj_wt 1863 = some (.instanceMethod pj_m241.1) := rfl
set_option maxRecDepth 100000 in
theorem pj_mwd241 : pj_wt 1864 = some (.selects pj_m241.1.cls pj_m241.1 pj_m241.1) := rfl
set_option maxRecDepth 100000 in
theorem pj_ml241 : pj_okm pj_m241 (0, 1) = true := pj_okm1 (pj_okq_s (M := pj_m241) pj_mwa241 pj_mwb241 (by decide +kernel)) pj_mwc241 (by decide +kernel) pj_mwd241 (by decide +kernel)
set_option maxRecDepth 100000 in
theorem pj_mn241 : plainName pj_m241.1.cls = true := pj_pl12
set_option maxRecDepth 100000 in
theorem pj_mr241 : pj_okRL pj_m241 = true := pj_okRG_s (M := pj_m241) pj_TH12 rfl (by decide +kernel)
set_option maxRecDepth 100000 in
theorem pj_mwa242 : pj_wt 1877 = some (.code pj_m242.1 pj_m242.2.1 pj_m242.2.2.1 pj_m242.2.2.2.1) := rfl
set_option maxRecDepth 100000 in
theorem pj_mwb242 : pj_wt 99 = some (.initialized pj_m242.1.cls) := rfl
set_option maxRecDepth 100000 in
theorem pj_mwc242 : pj_wt 1876 = some (.instanceMethod pj_m242.1) := rfl
set_option maxRecDepth 100000 in
theorem pj_mwd242 : pj_wt 68 = some (.selects pj_m242.1.cls pj_m242.1 pj_m242.1) := rfl
set_option maxRecDepth 100000 in
theorem pj_ml242 : pj_okm pj_m242 (4, 1) = true := pj_okm1 (pj_okq_s (M := pj_m242) pj_mwa242 pj_mwb242 (by decide +kernel)) pj_mwc242 (by decide +kernel) pj_mwd242 (by decide +kernel)
set_option maxRecDepth 100000 in
theorem pj_mn242 : plainName pj_m242.1.cls = true := pj_pl12
set_option maxRecDepth 100000 in
theorem pj_mr242 : pj_okRL pj_m242 = true := pj_okRG_s (M := pj_m242) pj_TH12 rfl (by decide +kernel)
set_option maxRecDepth 100000 in
theorem pj_mwa243 : pj_wt 1894 = some (.code pj_m243.1 pj_m243.2.1 pj_m243.2.2.1 pj_m243.2.2.2.1) := rfl
set_option maxRecDepth 100000 in
theorem pj_mwb243 : pj_wt 99 = some (.initialized pj_m243.1.cls) := rfl
set_option maxRecDepth 100000 in
theorem pj_mwc243 : pj_wt 1893 = some (.instanceMethod pj_m243.1) := rfl
set_option maxRecDepth 100000 in
theorem pj_mwd243 : pj_wt 71 = some (.selects pj_m243.1.cls pj_m243.1 pj_m243.1) := rfl
set_option maxRecDepth 100000 in
theorem pj_ml243 : pj_okm pj_m243 (1, 1) = true := pj_okm1 (pj_okq_s (M := pj_m243) pj_mwa243 pj_mwb243 (by decide +kernel)) pj_mwc243 (by decide +kernel) pj_mwd243 (by decide +kernel)
set_option maxRecDepth 100000 in
theorem pj_mn243 : plainName pj_m243.1.cls = true := pj_pl12
set_option maxRecDepth 100000 in
theorem pj_mr243 : pj_okRL pj_m243 = true := pj_okRG_s (M := pj_m243) pj_TH12 rfl (by decide +kernel)
set_option maxRecDepth 100000 in
theorem pj_mwa244 : pj_wt 1873 = some (.code pj_m244.1 pj_m244.2.1 pj_m244.2.2.1 pj_m244.2.2.2.1) := rfl
set_option maxRecDepth 100000 in
theorem pj_mwb244 : pj_wt 99 = some (.initialized pj_m244.1.cls) := rfl
set_option maxRecDepth 100000 in
theorem pj_mwc244 : pj_wt 1872 = some (.instanceMethod pj_m244.1) := rfl
set_option maxRecDepth 100000 in
theorem pj_mwd244 : pj_wt 67 = some (.selects pj_m244.1.cls pj_m244.1 pj_m244.1) := rfl
set_option maxRecDepth 100000 in
theorem pj_ml244 : pj_okm pj_m244 (0, 1) = true := pj_okm1 (pj_okq_s (M := pj_m244) pj_mwa244 pj_mwb244 (by decide +kernel)) pj_mwc244 (by decide +kernel) pj_mwd244 (by decide +kernel)
set_option maxRecDepth 100000 in
theorem pj_mn244 : plainName pj_m244.1.cls = true := pj_pl12
set_option maxRecDepth 100000 in
theorem pj_mr244 : pj_okRL pj_m244 = true := pj_okRG_s (M := pj_m244) pj_TH12 rfl (by decide +kernel)
set_option maxRecDepth 100000 in
theorem pj_mwa245 : pj_wt 1869 = some (.code pj_m245.1 pj_m245.2.1 pj_m245.2.2.1 pj_m245.2.2.2.1) := rfl
set_option maxRecDepth 100000 in
theorem pj_mwb245 : pj_wt 99 = some (.initialized pj_m245.1.cls) := rfl
set_option maxRecDepth 100000 in
theorem pj_mwc245 : pj_wt 1867 = some (.instanceMethod pj_m245.1) := rfl
set_option maxRecDepth 100000 in
theorem pj_mwd245 : pj_wt 1868 = some (.selects pj_m245.1.cls pj_m245.1 pj_m245.1) := rfl
set_option maxRecDepth 100000 in
theorem pj_ml245 : pj_okm pj_m245 (1, 1) = true := pj_okm1 (pj_okq_s (M := pj_m245) pj_mwa245 pj_mwb245 (by decide +kernel)) pj_mwc245 (by decide +kernel) pj_mwd245 (by decide +kernel)
set_option maxRecDepth 100000 in
theorem pj_mn245 : plainName pj_m245.1.cls = true := pj_pl12
set_option maxRecDepth 100000 in
theorem pj_mr245 : pj_okRL pj_m245 = true := pj_okRG_s (M := pj_m245) pj_TH12 rfl (by decide +kernel)
set_option maxRecDepth 100000 in
theorem pj_mwa246 : pj_wt 1890 = some (.code pj_m246.1 pj_m246.2.1 pj_m246.2.2.1 pj_m246.2.2.2.1) := rfl
set_option maxRecDepth 100000 in
theorem pj_mwb246 : pj_wt 99 = some (.initialized pj_m246.1.cls) := rfl
set_option maxRecDepth 100000 in
theorem pj_mwc246 : pj_wt 1889 = some (.instanceMethod pj_m246.1) := rfl
set_option maxRecDepth 100000 in
theorem pj_mwd246 : pj_wt 70 = some (.selects pj_m246.1.cls pj_m246.1 pj_m246.1) := rfl
set_option maxRecDepth 100000 in
theorem pj_ml246 : pj_okm pj_m246 (1, 1) = true := pj_okm1 (pj_okq_s (M := pj_m246) pj_mwa246 pj_mwb246 (by decide +kernel)) pj_mwc246 (by decide +kernel) pj_mwd246 (by decide +kernel)
set_option maxRecDepth 100000 in
theorem pj_mn246 : plainName pj_m246.1.cls = true := pj_pl12
set_option maxRecDepth 100000 in
theorem pj_mr246 : pj_okRL pj_m246 = true := pj_okRG_s (M := pj_m246) pj_TH12 rfl (by decide +kernel)
set_option maxRecDepth 100000 in
theorem pj_mwa247 : pj_wt 1886 = some (.code pj_m247.1 pj_m247.2.1 pj_m247.2.2.1 pj_m247.2.2.2.1) := rfl
set_option maxRecDepth 100000 in
theorem pj_mwb247 : pj_wt 99 = some (.initialized pj_m247.1.cls) := rfl
set_option maxRecDepth 100000 in
theorem pj_mwc247 : pj_wt 1885 = some (.instanceMethod pj_m247.1) := rfl
set_option maxRecDepth 100000 in
theorem pj_mwd247 : pj_wt 69 = some (.selects pj_m247.1.cls pj_m247.1 pj_m247.1) := rfl
set_option maxRecDepth 100000 in
theorem pj_ml247 : pj_okm pj_m247 (0, 1) = true := pj_okm1 (pj_okq_s (M := pj_m247) pj_mwa247 pj_mwb247 (by decide +kernel)) pj_mwc247 (by decide +kernel) pj_mwd247 (by decide +kernel)
set_option maxRecDepth 100000 in
theorem pj_mn247 : plainName pj_m247.1.cls = true := pj_pl12
set_option maxRecDepth 100000 in
theorem pj_mr247 : pj_okRL pj_m247 = true := pj_okRG_s (M := pj_m247) pj_TH12 rfl (by decide +kernel)
set_option maxRecDepth 100000 in
theorem pj_mwa248 : pj_wt 1881 = some (.code pj_m248.1 pj_m248.2.1 pj_m248.2.2.1 pj_m248.2.2.2.1) := rfl
set_option maxRecDepth 100000 in
theorem pj_mwb248 : pj_wt 99 = some (.initialized pj_m248.1.cls) := rfl
set_option maxRecDepth 100000 in
theorem pj_mwc248 : pj_wt 1879 = some (.instanceMethod pj_m248.1) := rfl
set_option maxRecDepth 100000 in
theorem pj_mwd248 : pj_wt 1880 = some (.selects pj_m248.1.cls pj_m248.1 pj_m248.1) := rfl
set_option maxRecDepth 100000 in
theorem pj_ml248 : pj_okm pj_m248 (1, 1) = true := pj_okm1 (pj_okq_s (M := pj_m248) pj_mwa248 pj_mwb248 (by decide +kernel)) pj_mwc248 (by decide +kernel) pj_mwd248 (by decide +kernel)
set_option maxRecDepth 100000 in
theorem pj_mn248 : plainName pj_m248.1.cls = true := pj_pl12
set_option maxRecDepth 100000 in
theorem pj_mr248 : pj_okRL pj_m248 = true := pj_okRG_s (M := pj_m248) pj_TH12 rfl (by decide +kernel)
set_option maxRecDepth 100000 in
theorem pj_mwa249 : pj_wt 1898 = some (.code pj_m249.1 pj_m249.2.1 pj_m249.2.2.1 pj_m249.2.2.2.1) := rfl
set_option maxRecDepth 100000 in
theorem pj_mwb249 : pj_wt 99 = some (.initialized pj_m249.1.cls) := rfl
set_option maxRecDepth 100000 in
theorem pj_mwc249 : pj_wt 1896 = some (.instanceMethod pj_m249.1) := rfl
set_option maxRecDepth 100000 in
theorem pj_mwd249 : pj_wt 1897 = some (.selects pj_m249.1.cls pj_m249.1 pj_m249.1) := rfl
set_option maxRecDepth 100000 in
theorem pj_ml249 : pj_okm pj_m249 (0, 1) = true := pj_okm1 (pj_okq_s (M := pj_m249) pj_mwa249 pj_mwb249 (by decide +kernel)) pj_mwc249 (by decide +kernel) pj_mwd249 (by decide +kernel)
set_option maxRecDepth 100000 in
theorem pj_mn249 : plainName pj_m249.1.cls = true := pj_pl12
set_option maxRecDepth 100000 in
theorem pj_mr249 : pj_okRL pj_m249 = true := pj_okRG_s (M := pj_m249) pj_TH12 rfl (by decide +kernel)
set_option maxRecDepth 100000 in
theorem pj_mwa250 : pj_wt 1902 = some (.code pj_m250.1 pj_m250.2.1 pj_m250.2.2.1 pj_m250.2.2.2.1) := rfl
set_option maxRecDepth 100000 in
theorem pj_mwb250 : pj_wt 99 = some (.initialized pj_m250.1.cls) := rfl
set_option maxRecDepth 100000 in
theorem pj_mwc250 : pj_wt 1900 = some (.instanceMethod pj_m250.1) := rfl
set_option maxRecDepth 100000 in
theorem pj_mwd250 : pj_wt 1901 = some (.selects pj_m250.1.cls pj_m250.1 pj_m250.1) := rfl
set_option maxRecDepth 100000 in
theorem pj_ml250 : pj_okm pj_m250 (0, 1) = true := pj_okm1 (pj_okq_s (M := pj_m250) pj_mwa250 pj_mwb250 (by decide +kernel)) pj_mwc250 (by decide +kernel) pj_mwd250 (by decide +kernel)
set_option maxRecDepth 100000 in
theorem pj_mn250 : plainName pj_m250.1.cls = true := pj_pl12
set_option maxRecDepth 100000 in
theorem pj_mr250 : pj_okRL pj_m250 = true := pj_okRG_s (M := pj_m250) pj_TH12 rfl (by decide +kernel)
set_option maxRecDepth 100000 in
theorem pj_mwa251 : pj_wt 1915 = some (.code pj_m251.1 pj_m251.2.1 pj_m251.2.2.1 pj_m251.2.2.2.1) := rfl
set_option maxRecDepth 100000 in
theorem pj_mwb251 : pj_wt 99 = some (.initialized pj_m251.1.cls) := rfl
set_option maxRecDepth 100000 in
theorem pj_mwc251 : pj_wt 1914 = some (.instanceMethod pj_m251.1) := rfl
set_option maxRecDepth 100000 in
theorem pj_mwd251 : pj_wt 73 = some (.selects pj_m251.1.cls pj_m251.1 pj_m251.1) := rfl
set_option maxRecDepth 100000 in
theorem pj_ml251 : pj_okm pj_m251 (1, 1) = true := pj_okm1 (pj_okq_s (M := pj_m251) pj_mwa251 pj_mwb251 (by decide +kernel)) pj_mwc251 (by decide +kernel) pj_mwd251 (by decide +kernel)
set_option maxRecDepth 100000 in
theorem pj_mn251 : plainName pj_m251.1.cls = true := pj_pl12
set_option maxRecDepth 100000 in
theorem pj_mr251 : pj_okRL pj_m251 = true := pj_okRG_s (M := pj_m251) pj_TH12 rfl (by decide +kernel)
set_option maxRecDepth 100000 in
theorem pj_mwa252 : pj_wt 1911 = some (.code pj_m252.1 pj_m252.2.1 pj_m252.2.2.1 pj_m252.2.2.2.1) := rfl
set_option maxRecDepth 100000 in
theorem pj_mwb252 : pj_wt 99 = some (.initialized pj_m252.1.cls) := rfl
set_option maxRecDepth 100000 in
theorem pj_mwc252 : pj_wt 1910 = some (.instanceMethod pj_m252.1) := rfl
set_option maxRecDepth 100000 in
theorem pj_mwd252 : pj_wt 72 = some (.selects pj_m252.1.cls pj_m252.1 pj_m252.1) := rfl
set_option maxRecDepth 100000 in
theorem pj_ml252 : pj_okm pj_m252 (1, 1) = true := pj_okm1 (pj_okq_s (M := pj_m252) pj_mwa252 pj_mwb252 (by decide +kernel)) pj_mwc252 (by decide +kernel) pj_mwd252 (by decide +kernel)
set_option maxRecDepth 100000 in
theorem pj_mn252 : plainName pj_m252.1.cls = true := pj_pl12
set_option maxRecDepth 100000 in
theorem pj_mr252 : pj_okRL pj_m252 = true := pj_okRG_s (M := pj_m252) pj_TH12 rfl (by decide +kernel)
set_option maxRecDepth 100000 in
theorem pj_mwa253 : pj_wt 1906 = some (.code pj_m253.1 pj_m253.2.1 pj_m253.2.2.1 pj_m253.2.2.2.1) := rfl
set_option maxRecDepth 100000 in
theorem pj_mwb253 : pj_wt 99 = some (.initialized pj_m253.1.cls) := rfl
set_option maxRecDepth 100000 in
theorem pj_mwc253 : pj_wt 1904 = some (.instanceMethod pj_m253.1) := rfl
set_option maxRecDepth 100000 in
theorem pj_mwd253 : pj_wt 1905 = some (.selects pj_m253.1.cls pj_m253.1 pj_m253.1) := rfl
set_option maxRecDepth 100000 in
theorem pj_ml253 : pj_okm pj_m253 (1, 1) = true := pj_okm1 (pj_okq_s (M := pj_m253) pj_mwa253 pj_mwb253 (by decide +kernel)) pj_mwc253 (by decide +kernel) pj_mwd253 (by decide +kernel)
set_option maxRecDepth 100000 in
theorem pj_mn253 : plainName pj_m253.1.cls = true := pj_pl12
set_option maxRecDepth 100000 in
theorem pj_mr253 : pj_okRL pj_m253 = true := pj_okRG_s (M := pj_m253) pj_TH12 rfl (by decide +kernel)
set_option maxRecDepth 100000 in
theorem pj_mwa254 : pj_wt 1919 = some (.code pj_m254.1 pj_m254.2.1 pj_m254.2.2.1 pj_m254.2.2.2.1) := rfl
set_option maxRecDepth 100000 in
theorem pj_mwb254 : pj_wt 99 = some (.initialized pj_m254.1.cls) := rfl
set_option maxRecDepth 100000 in
theorem pj_mwc254 : pj_wt 1917 = some (.instanceMethod pj_m254.1) := rfl
set_option maxRecDepth 100000 in
theorem pj_mwd254 : pj_wt 1918 = some (.selects pj_m254.1.cls pj_m254.1 pj_m254.1) := rfl
set_option maxRecDepth 100000 in
theorem pj_ml254 : pj_okm pj_m254 (0, 1) = true := pj_okm1 (pj_okq_s (M := pj_m254) pj_mwa254 pj_mwb254 (by decide +kernel)) pj_mwc254 (by decide +kernel) pj_mwd254 (by decide +kernel)
set_option maxRecDepth 100000 in
theorem pj_mn254 : plainName pj_m254.1.cls = true := pj_pl12
set_option maxRecDepth 100000 in
theorem pj_mr254 : pj_okRL pj_m254 = true := pj_okRG_s (M := pj_m254) pj_TH12 rfl (by decide +kernel)
set_option maxRecDepth 100000 in
theorem pj_mwa255 : pj_wt 1924 = some (.code pj_m255.1 pj_m255.2.1 pj_m255.2.2.1 pj_m255.2.2.2.1) := rfl
set_option maxRecDepth 100000 in
theorem pj_mwb255 : pj_wt 99 = some (.initialized pj_m255.1.cls) := rfl
set_option maxRecDepth 100000 in
theorem pj_mwc255 : pj_wt 1922 = some (.instanceMethod pj_m255.1) := rfl
set_option maxRecDepth 100000 in
theorem pj_mwd255 : pj_wt 1923 = some (.selects pj_m255.1.cls pj_m255.1 pj_m255.1) := rfl
set_option maxRecDepth 100000 in
theorem pj_ml255 : pj_okm pj_m255 (1, 1) = true := pj_okm1 (pj_okq_s (M := pj_m255) pj_mwa255 pj_mwb255 (by decide +kernel)) pj_mwc255 (by decide +kernel) pj_mwd255 (by decide +kernel)
set_option maxRecDepth 100000 in
theorem pj_mn255 : plainName pj_m255.1.cls = true := pj_pl12
set_option maxRecDepth 100000 in
theorem pj_mr255 : pj_okRL pj_m255 = true := pj_okRG_s (M := pj_m255) pj_TH12 rfl (by decide +kernel)
