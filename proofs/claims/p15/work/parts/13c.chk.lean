set_option maxRecDepth 100000 in
theorem pj_mwa49 : pj_wt 958 = some (.code pj_m49.1 pj_m49.2.1 pj_m49.2.2.1 pj_m49.2.2.2.1) := rfl
set_option maxRecDepth 100000 in
theorem pj_mwb49 : pj_wt 91 = some (.initialized pj_m49.1.cls) := rfl
set_option maxRecDepth 100000 in
theorem pj_mwc49 : pj_wt 956 = some (.instanceMethod pj_m49.1) := rfl
set_option maxRecDepth 100000 in
theorem pj_mwd49 : pj_wt 957 = some (.selects pj_m49.1.cls pj_m49.1 pj_m49.1) := rfl
set_option maxRecDepth 100000 in
theorem pj_ml49 : pj_okm pj_m49 (1, 1) = true := pj_okm1 (pj_okq_s (M := pj_m49) pj_mwa49 pj_mwb49 (by decide +kernel)) pj_mwc49 (by decide +kernel) pj_mwd49 (by decide +kernel)
set_option maxRecDepth 100000 in
theorem pj_mn49 : plainName pj_m49.1.cls = true := pj_pl6
set_option maxRecDepth 100000 in
theorem pj_mr49 : pj_okRL pj_m49 = true := pj_okRG_s (M := pj_m49) pj_TH6 rfl (by decide +kernel)
set_option maxRecDepth 100000 in
theorem pj_mwa50 : pj_wt 932 = some (.code pj_m50.1 pj_m50.2.1 pj_m50.2.2.1 pj_m50.2.2.2.1) := rfl
set_option maxRecDepth 100000 in
theorem pj_mwb50 : pj_wt 91 = some (.initialized pj_m50.1.cls) := rfl
set_option maxRecDepth 100000 in
theorem pj_mwc50 : pj_wt 930 = some (.instanceMethod pj_m50.1) := rfl
set_option maxRecDepth 100000 in
theorem pj_mwd50 : pj_wt 931 = some (.selects pj_m50.1.cls pj_m50.1 pj_m50.1) := rfl
set_option maxRecDepth 100000 in
theorem pj_ml50 : pj_okm pj_m50 (3, 1) = true := pj_okm1 (pj_okq_s (M := pj_m50) pj_mwa50 pj_mwb50 (by decide +kernel)) pj_mwc50 (by decide +kernel) pj_mwd50 (by decide +kernel)
set_option maxRecDepth 100000 in
theorem pj_mn50 : plainName pj_m50.1.cls = true := pj_pl6
set_option maxRecDepth 100000 in
theorem pj_mr50 : pj_okRL pj_m50 = true := pj_okRG_s (M := pj_m50) pj_TH6 rfl (by decide +kernel)
set_option maxRecDepth 100000 in
theorem pj_mwa51 : pj_wt 944 = some (.code pj_m51.1 pj_m51.2.1 pj_m51.2.2.1 pj_m51.2.2.2.1) := rfl
set_option maxRecDepth 100000 in
theorem pj_mwb51 : pj_wt 91 = some (.initialized pj_m51.1.cls) := rfl
set_option maxRecDepth 100000 in
theorem pj_mwc51 : pj_wt 942 = some (.instanceMethod pj_m51.1) := rfl
set_option maxRecDepth 100000 in
theorem pj_mwd51 : pj_wt 943 = some (.selects pj_m51.1.cls pj_m51.1 pj_m51.1) := rfl
set_option maxRecDepth 100000 in
theorem pj_ml51 : pj_okm pj_m51 (5, 1) = true := pj_okm1 (pj_okq_s (M := pj_m51) pj_mwa51 pj_mwb51 (by decide +kernel)) pj_mwc51 (by decide +kernel) pj_mwd51 (by decide +kernel)
set_option maxRecDepth 100000 in
theorem pj_mn51 : plainName pj_m51.1.cls = true := pj_pl6
set_option maxRecDepth 100000 in
theorem pj_mr51 : pj_okRL pj_m51 = true := pj_okRG_s (M := pj_m51) pj_TH6 rfl (by decide +kernel)
set_option maxRecDepth 100000 in
theorem pj_mwa52 : pj_wt 148 = some (.code pj_m52.1 pj_m52.2.1 pj_m52.2.2.1 pj_m52.2.2.2.1) := rfl
set_option maxRecDepth 100000 in
theorem pj_mwb52 : pj_wt 89 = some (.initialized pj_m52.1.cls) := rfl
set_option maxRecDepth 100000 in
theorem pj_mwc52 : pj_wt 147 = some (.instanceMethod pj_m52.1) := rfl
set_option maxRecDepth 100000 in
theorem pj_ml52 : pj_okm pj_m52 (0, 2) = true := pj_okm2 (pj_okq_s (M := pj_m52) pj_mwa52 pj_mwb52 (by decide +kernel)) pj_mwc52 (by decide +kernel) (by decide +kernel)
set_option maxRecDepth 100000 in
theorem pj_mn52 : plainName pj_m52.1.cls = true := pj_pl7
set_option maxRecDepth 100000 in
theorem pj_mr52 : pj_okRL pj_m52 = true := pj_okRG_s (M := pj_m52) pj_TH7 rfl (by decide +kernel)
set_option maxRecDepth 100000 in
theorem pj_mwa53 : pj_wt 871 = some (.code pj_m53.1 pj_m53.2.1 pj_m53.2.2.1 pj_m53.2.2.2.1) := rfl
set_option maxRecDepth 100000 in
theorem pj_mwb53 : pj_wt 89 = some (.initialized pj_m53.1.cls) := rfl
set_option maxRecDepth 100000 in
theorem pj_mwc53 : pj_wt 869 = some (.instanceMethod pj_m53.1) := rfl
set_option maxRecDepth 100000 in
theorem pj_mwd53 : pj_wt 870 = some (.selects pj_m53.1.cls pj_m53.1 pj_m53.1) := rfl
set_option maxRecDepth 100000 in
theorem pj_ml53 : pj_okm pj_m53 (0, 1) = true := pj_okm1 (pj_okq_s (M := pj_m53) pj_mwa53 pj_mwb53 (by decide +kernel)) pj_mwc53 (by decide +kernel) pj_mwd53 (by decide +kernel)
set_option maxRecDepth 100000 in
theorem pj_mn53 : plainName pj_m53.1.cls = true := pj_pl7
set_option maxRecDepth 100000 in
theorem pj_mr53 : pj_okRL pj_m53 = true := pj_okRG_s (M := pj_m53) pj_TH7 rfl (by decide +kernel)
set_option maxRecDepth 100000 in
theorem pj_mwa54 : pj_wt 875 = some (.code pj_m54.1 pj_m54.2.1 pj_m54.2.2.1 pj_m54.2.2.2.1) := rfl
set_option maxRecDepth 100000 in
theorem pj_mwb54 : pj_wt 89 = some (.initialized pj_m54.1.cls) := rfl
set_option maxRecDepth 100000 in
theorem pj_mwc54 : pj_wt 873 = some (.instanceMethod pj_m54.1) := rfl
set_option maxRecDepth 100000 in
theorem pj_mwd54 : pj_wt 874 = some (.selects pj_m54.1.cls pj_m54.1 pj_m54.1) := rfl
set_option maxRecDepth 100000 in
theorem pj_ml54 : pj_okm pj_m54 (1, 1) = true := pj_okm1 (pj_okq_s (M := pj_m54) pj_mwa54 pj_mwb54 (by decide +kernel)) pj_mwc54 (by decide +kernel) pj_mwd54 (by decide +kernel)
set_option maxRecDepth 100000 in
theorem pj_mn54 : plainName pj_m54.1.cls = true := pj_pl7
set_option maxRecDepth 100000 in
theorem pj_mr54 : pj_okRL pj_m54 = true := pj_okRG_s (M := pj_m54) pj_TH7 rfl (by decide +kernel)
set_option maxRecDepth 100000 in
theorem pj_mwa55 : pj_wt 972 = some (.code pj_m55.1 pj_m55.2.1 pj_m55.2.2.1 pj_m55.2.2.2.1) := rfl
set_option maxRecDepth 100000 in
theorem pj_mwb55 : pj_wt 89 = some (.initialized pj_m55.1.cls) := rfl
set_option maxRecDepth 100000 in
theorem pj_mwc55 : pj_wt 970 = some (.instanceMethod pj_m55.1) := rfl
set_option maxRecDepth 100000 in
theorem pj_mwd55 : pj_wt 971 = some (.selects pj_m55.1.cls pj_m55.1 pj_m55.1) := rfl
set_option maxRecDepth 100000 in
theorem pj_ml55 : pj_okm pj_m55 (1, 1) = true := pj_okm1 (pj_okq_s (M := pj_m55) pj_mwa55 pj_mwb55 (by decide +kernel)) pj_mwc55 (by decide +kernel) pj_mwd55 (by decide +kernel)
set_option maxRecDepth 100000 in
theorem pj_mn55 : plainName pj_m55.1.cls = true := pj_pl7
set_option maxRecDepth 100000 in
theorem pj_mr55 : pj_okRL pj_m55 = true := pj_okRG_s (M := pj_m55) pj_TH7 rfl (by decide +kernel)
set_option maxRecDepth 100000 in
theorem pj_mwa56 : pj_wt 867 = some (.code pj_m56.1 pj_m56.2.1 pj_m56.2.2.1 pj_m56.2.2.2.1) := rfl
set_option maxRecDepth 100000 in
theorem pj_mwb56 : pj_wt 89 = some (.initialized pj_m56.1.cls) := rfl
set_option maxRecDepth 100000 in
theorem pj_mwc56 : pj_wt 865 = some (.instanceMethod pj_m56.1) := rfl
set_option maxRecDepth 100000 in
theorem pj_mwd56 : pj_wt 866 = some (.selects pj_m56.1.cls pj_m56.1 pj_m56.1) := rfl
set_option maxRecDepth 100000 in
theorem pj_ml56 : pj_okm pj_m56 (2, 1) = true := pj_okm1 (pj_okq_s (M := pj_m56) pj_mwa56 pj_mwb56 (by decide +kernel)) pj_mwc56 (by decide +kernel) pj_mwd56 (by decide +kernel)
set_option maxRecDepth 100000 in
theorem pj_mn56 : plainName pj_m56.1.cls = true := pj_pl7
set_option maxRecDepth 100000 in
theorem pj_mr56 : pj_okRL pj_m56 = true := pj_okRG_s (M := pj_m56) pj_TH7 rfl (by decide +kernel)
set_option maxRecDepth 100000 in
theorem pj_mwa57 : pj_wt 278 = some (.code pj_m57.1 pj_m57.2.1 pj_m57.2.2.1 pj_m57.2.2.2.1) := rfl
set_option maxRecDepth 100000 in
theorem pj_mwb57 : pj_wt 93 = some (.initialized pj_m57.1.cls) := rfl
set_option maxRecDepth 100000 in
theorem pj_mwc57 : pj_wt 277 = some (.instanceMethod pj_m57.1) := rfl
set_option maxRecDepth 100000 in
theorem pj_ml57 : pj_okm pj_m57 (0, 2) = true := pj_okm2 (pj_okq_s (M := pj_m57) pj_mwa57 pj_mwb57 (by decide +kernel)) pj_mwc57 (by decide +kernel) (by decide +kernel)
set_option maxRecDepth 100000 in
theorem pj_mn57 : plainName pj_m57.1.cls = true := pj_pl8
set_option maxRecDepth 100000 in
theorem pj_mr57 : pj_okRL pj_m57 = true := pj_okRG_s (M := pj_m57) pj_TH8 rfl (by decide +kernel)
set_option maxRecDepth 100000 in
theorem pj_mwa58 : pj_wt 593 = some (.code pj_m58.1 pj_m58.2.1 pj_m58.2.2.1 pj_m58.2.2.2.1) := rfl
set_option maxRecDepth 100000 in
theorem pj_mwb58 : pj_wt 93 = some (.initialized pj_m58.1.cls) := rfl
set_option maxRecDepth 100000 in
theorem pj_mwc58 : pj_wt 591 = some (.instanceMethod pj_m58.1) := rfl
set_option maxRecDepth 100000 in
theorem pj_mwd58 : pj_wt 592 = some (.selects pj_m58.1.cls pj_m58.1 pj_m58.1) := rfl
set_option maxRecDepth 100000 in
theorem pj_ml58 : pj_okm pj_m58 (1, 1) = true := pj_okm1 (pj_okq_s (M := pj_m58) pj_mwa58 pj_mwb58 (by decide +kernel)) pj_mwc58 (by decide +kernel) pj_mwd58 (by decide +kernel)
set_option maxRecDepth 100000 in
theorem pj_mn58 : plainName pj_m58.1.cls = true := pj_pl8
set_option maxRecDepth 100000 in
theorem pj_mr58 : pj_okRL pj_m58 = true := pj_okRG_s (M := pj_m58) pj_TH8 rfl (by decide +kernel)
set_option maxRecDepth 100000 in
theorem pj_mwa59 : pj_wt 736 = some (.code pj_m59.1 pj_m59.2.1 pj_m59.2.2.1 pj_m59.2.2.2.1) := rfl
set_option maxRecDepth 100000 in
theorem pj_mwb59 : pj_wt 93 = some (.initialized pj_m59.1.cls) := rfl
set_option maxRecDepth 100000 in
theorem pj_mwc59 : pj_wt 734 = some (.instanceMethod pj_m59.1) := rfl
set_option maxRecDepth 100000 in
theorem pj_mwd59 : pj_wt 735 = some (.selects pj_m59.1.cls pj_m59.1 pj_m59.1) := rfl
set_option maxRecDepth 100000 in
theorem pj_ml59 : pj_okm pj_m59 (0, 1) = true := pj_okm1 (pj_okq_s (M := pj_m59) pj_mwa59 pj_mwb59 (by decide +kernel)) pj_mwc59 (by decide +kernel) pj_mwd59 (by decide +kernel)
set_option maxRecDepth 100000 in
theorem pj_mn59 : plainName pj_m59.1.cls = true := pj_pl8
set_option maxRecDepth 100000 in
theorem pj_mr59 : pj_okRL pj_m59 = true := pj_okRG_s (M := pj_m59) pj_TH8 rfl (by decide +kernel)
set_option maxRecDepth 100000 in
theorem pj_mwa60 : pj_wt 613 = some (.code pj_m60.1 pj_m60.2.1 pj_m60.2.2.1 pj_m60.2.2.2.1) := rfl
set_option maxRecDepth 100000 in
theorem pj_mwb60 : pj_wt 93 = some (.initialized pj_m60.1.cls) := rfl
set_option maxRecDepth 100000 in
theorem pj_mwc60 : pj_wt 612 = some (.instanceMethod pj_m60.1) := rfl
set_option maxRecDepth 100000 in
theorem pj_mwd60 : pj_wt 4 = some (.selects pj_m60.1.cls pj_m60.1 pj_m60.1) := rfl
set_option maxRecDepth 100000 in
theorem pj_ml60 : pj_okm pj_m60 (1, 1) = true := pj_okm1 (pj_okq_s (M := pj_m60) pj_mwa60 pj_mwb60 (by decide +kernel)) pj_mwc60 (by decide +kernel) pj_mwd60 (by decide +kernel)
set_option maxRecDepth 100000 in
theorem pj_mn60 : plainName pj_m60.1.cls = true := pj_pl8
set_option maxRecDepth 100000 in
theorem pj_mr60 : pj_okRL pj_m60 = true := pj_okRG_s (M := pj_m60) pj_TH8 rfl (by decide +kernel)
set_option maxRecDepth 100000 in
theorem pj_mwa61 : pj_wt 729 = some (.code pj_m61.1 pj_m61.2.1 pj_m61.2.2.1 pj_m61.2.2.2.1) := rfl
set_option maxRecDepth 100000 in
theorem pj_mwb61 : pj_wt 93 = some (.initialized pj_m61.1.cls) := rfl
set_option maxRecDepth 100000 in
theorem pj_mwc61 : pj_wt 728 = some (.static pj_m61.1) := rfl
set_option maxRecDepth 100000 in
theorem pj_ml61 : pj_okm pj_m61 (1, 0) = true := pj_okm0 (pj_okq_s (M := pj_m61) pj_mwa61 pj_mwb61 (by decide +kernel)) pj_mwc61 (by decide +kernel)
set_option maxRecDepth 100000 in
theorem pj_mn61 : plainName pj_m61.1.cls = true := pj_pl8
set_option maxRecDepth 100000 in
theorem pj_mr61 : pj_okRL pj_m61 = true := pj_okRG_s (M := pj_m61) pj_TH8 rfl (by decide +kernel)
set_option maxRecDepth 100000 in
theorem pj_mwa62 : pj_wt 598 = some (.code pj_m62.1 pj_m62.2.1 pj_m62.2.2.1 pj_m62.2.2.2.1) := rfl
set_option maxRecDepth 100000 in
theorem pj_mwb62 : pj_wt 93 = some (.initialized pj_m62.1.cls) := rfl
set_option maxRecDepth 100000 in
theorem pj_mwc62 : pj_wt 597 = some (.instanceMethod pj_m62.1) := rfl
set_option maxRecDepth 100000 in
theorem pj_mwd62 : pj_wt 1 = some (.selects pj_m62.1.cls pj_m62.1 pj_m62.1) := rfl
set_option maxRecDepth 100000 in
theorem pj_ml62 : pj_okm pj_m62 (3, 1) = true := pj_okm1 (pj_okq_s (M := pj_m62) pj_mwa62 pj_mwb62 (by decide +kernel)) pj_mwc62 (by decide +kernel) pj_mwd62 (by decide +kernel)
set_option maxRecDepth 100000 in
theorem pj_mn62 : plainName pj_m62.1.cls = true := pj_pl8
set_option maxRecDepth 100000 in
theorem pj_mr62 : pj_okRL pj_m62 = true := pj_okRG_s (M := pj_m62) pj_TH8 rfl (by decide +kernel)
set_option maxRecDepth 100000 in
theorem pj_mwa63 : pj_wt 602 = some (.code pj_m63.1 pj_m63.2.1 pj_m63.2.2.1 pj_m63.2.2.2.1) := rfl
set_option maxRecDepth 100000 in
theorem pj_mwb63 : pj_wt 93 = some (.initialized pj_m63.1.cls) := rfl
set_option maxRecDepth 100000 in
theorem pj_mwc63 : pj_wt 601 = some (.instanceMethod pj_m63.1) := rfl
set_option maxRecDepth 100000 in
theorem pj_mwd63 : pj_wt 2 = some (.selects pj_m63.1.cls pj_m63.1 pj_m63.1) := rfl
set_option maxRecDepth 100000 in
theorem pj_ml63 : pj_okm pj_m63 (2, 1) = true := pj_okm1 (pj_okq_s (M := pj_m63) pj_mwa63 pj_mwb63 (by decide +kernel)) pj_mwc63 (by decide +kernel) pj_mwd63 (by decide +kernel)
set_option maxRecDepth 100000 in
theorem pj_mn63 : plainName pj_m63.1.cls = true := pj_pl8
set_option maxRecDepth 100000 in
theorem pj_mr63 : pj_okRL pj_m63 = true := pj_okRG_s (M := pj_m63) pj_TH8 rfl (by decide +kernel)
set_option maxRecDepth 100000 in
theorem pj_mwa64 : pj_wt 607 = some (.code pj_m64.1 pj_m64.2.1 pj_m64.2.2.1 pj_m64.2.2.2.1) := rfl
set_option maxRecDepth 100000 in
theorem pj_mwb64 : pj_wt 93 = some (.initialized pj_m64.1.cls) := rfl
set_option maxRecDepth 100000 in
theorem pj_mwc64 : pj_wt 606 = some (.instanceMethod pj_m64.1) := rfl
set_option maxRecDepth 100000 in
theorem pj_mwd64 : pj_wt 3 = some (.selects pj_m64.1.cls pj_m64.1 pj_m64.1) := rfl
set_option maxRecDepth 100000 in
theorem pj_ml64 : pj_okm pj_m64 (2, 1) = true := pj_okm1 (pj_okq_s (M := pj_m64) pj_mwa64 pj_mwb64 (by decide +kernel)) pj_mwc64 (by decide +kernel) pj_mwd64 (by decide +kernel)
set_option maxRecDepth 100000 in
theorem pj_mn64 : plainName pj_m64.1.cls = true := pj_pl8
set_option maxRecDepth 100000 in
theorem pj_mr64 : pj_okRL pj_m64 = true := pj_okRG_s (M := pj_m64) pj_TH8 rfl (by decide +kernel)
set_option maxRecDepth 100000 in
theorem pj_mwa65 : pj_wt 793 = some (.code pj_m65.1 pj_m65.2.1 pj_m65.2.2.1 pj_m65.2.2.2.1) := rfl
set_option maxRecDepth 100000 in
theorem pj_mwb65 : pj_wt 93 = some (.initialized pj_m65.1.cls) := rfl
set_option maxRecDepth 100000 in
theorem pj_mwc65 : pj_wt 791 = some (.instanceMethod pj_m65.1) := rfl
set_option maxRecDepth 100000 in
theorem pj_mwd65 : pj_wt 792 = some (.selects pj_m65.1.cls pj_m65.1 pj_m65.1) := rfl
set_option maxRecDepth 100000 in
theorem pj_ml65 : pj_okm pj_m65 (1, 1) = true := pj_okm1 (pj_okq_s (M := pj_m65) pj_mwa65 pj_mwb65 (by decide +kernel)) pj_mwc65 (by decide +kernel) pj_mwd65 (by decide +kernel)
set_option maxRecDepth 100000 in
theorem pj_mn65 : plainName pj_m65.1.cls = true := pj_pl8
set_option maxRecDepth 100000 in
theorem pj_mr65 : pj_okRL pj_m65 = true := pj_okRG_s (M := pj_m65) pj_TH8 rfl (by decide +kernel)
set_option maxRecDepth 100000 in
theorem pj_mwa66 : pj_wt 796 = some (.code pj_m66.1 pj_m66.2.1 pj_m66.2.2.1 pj_m66.2.2.2.1) := rfl
set_option maxRecDepth 100000 in
theorem pj_mwb66 : pj_wt 93 = some (.initialized pj_m66.1.cls) := rfl
set_option maxRecDepth 100000 in
theorem pj_mwc66 : pj_wt 795 = some (.static pj_m66.1) := rfl
set_option maxRecDepth 100000 in
theorem pj_ml66 : pj_okm pj_m66 (3, 0) = true := pj_okm0 (pj_okq_s (M := pj_m66) pj_mwa66 pj_mwb66 (by decide +kernel)) pj_mwc66 (by decide +kernel)
set_option maxRecDepth 100000 in
theorem pj_mn66 : plainName pj_m66.1.cls = true := pj_pl8
set_option maxRecDepth 100000 in
theorem pj_mr66 : pj_okRL pj_m66 = true := pj_okRG_s (M := pj_m66) pj_TH8 rfl (by decide +kernel)
set_option maxRecDepth 100000 in
theorem pj_mwa67 : pj_wt 218 = some (.code pj_m67.1 pj_m67.2.1 pj_m67.2.2.1 pj_m67.2.2.2.1) := rfl
set_option maxRecDepth 100000 in
theorem pj_mwb67 : pj_wt 92 = some (.initialized pj_m67.1.cls) := rfl
set_option maxRecDepth 100000 in
theorem pj_mwc67 : pj_wt 217 = some (.instanceMethod pj_m67.1) := rfl
set_option maxRecDepth 100000 in
theorem pj_ml67 : pj_okm pj_m67 (0, 2) = true := pj_okm2 (pj_okq_s (M := pj_m67) pj_mwa67 pj_mwb67 (by decide +kernel)) pj_mwc67 (by decide +kernel) (by decide +kernel)
set_option maxRecDepth 100000 in
theorem pj_mn67 : plainName pj_m67.1.cls = true := pj_pl9
set_option maxRecDepth 100000 in
theorem pj_mr67 : pj_okRL pj_m67 = true := pj_okRG_s (M := pj_m67) pj_TH9 rfl (by decide +kernel)
set_option maxRecDepth 100000 in
theorem pj_mwa68 : pj_wt 808 = some (.code pj_m68.1 pj_m68.2.1 pj_m68.2.2.1 pj_m68.2.2.2.1) := rfl
set_option maxRecDepth 100000 in
theorem pj_mwb68 : pj_wt 92 = some (.initialized pj_m68.1.cls) := rfl
set_option maxRecDepth 100000 in
theorem pj_mwc68 : pj_wt 806 = some (.instanceMethod pj_m68.1) := rfl
set_option maxRecDepth 100000 in
theorem pj_mwd68 : pj_wt 807 = some (.selects pj_m68.1.cls pj_m68.1 pj_m68.1) := rfl
set_option maxRecDepth 100000 in
theorem pj_ml68 : pj_okm pj_m68 (1, 1) = true := pj_okm1 (pj_okq_s (M := pj_m68) pj_mwa68 pj_mwb68 (by decide +kernel)) pj_mwc68 (by decide +kernel) pj_mwd68 (by decide +kernel)
set_option maxRecDepth 100000 in
theorem pj_mn68 : plainName pj_m68.1.cls = true := pj_pl9
set_option maxRecDepth 100000 in
theorem pj_mr68 : pj_okRL pj_m68 = true := pj_okRG_s (M := pj_m68) pj_TH9 rfl (by decide +kernel)
set_option maxRecDepth 100000 in
theorem pj_mwa69 : pj_wt 1018 = some (.code pj_m69.1 pj_m69.2.1 pj_m69.2.2.1 pj_m69.2.2.2.1) := rfl
set_option maxRecDepth 100000 in
theorem pj_mwb69 : pj_wt 92 = some (.initialized pj_m69.1.cls) := rfl
set_option maxRecDepth 100000 in
theorem pj_mwc69 : pj_wt 1016 = some (.instanceMethod pj_m69.1) := rfl
set_option maxRecDepth 100000 in
theorem pj_mwd69 : pj_wt 1017 = some (.selects pj_m69.1.cls pj_m69.1 pj_m69.1) := rfl
set_option maxRecDepth 100000 in
theorem pj_ml69 : pj_okm pj_m69 (1, 1) = true := pj_okm1 (pj_okq_s (M := pj_m69) pj_mwa69 pj_mwb69 (by decide +kernel)) pj_mwc69 (by decide +kernel) pj_mwd69 (by decide +kernel)
set_option maxRecDepth 100000 in
theorem pj_mn69 : plainName pj_m69.1.cls = true := pj_pl9
set_option maxRecDepth 100000 in
theorem pj_mr69 : pj_okRL pj_m69 = true := pj_okRG_s (M := pj_m69) pj_TH9 rfl (by decide +kernel)
set_option maxRecDepth 100000 in
theorem pj_mwa70 : pj_wt 774 = some (.code pj_m70.1 pj_m70.2.1 pj_m70.2.2.1 pj_m70.2.2.2.1) := rfl
set_option maxRecDepth 100000 in
theorem pj_mwb70 : pj_wt 92 = some (.initialized pj_m70.1.cls) := rfl
set_option maxRecDepth 100000 in
theorem pj_mwc70 : pj_wt 772 = some (.instanceMethod pj_m70.1) := rfl
set_option maxRecDepth 100000 in
theorem pj_mwd70 : pj_wt 773 = some (.selects pj_m70.1.cls pj_m70.1 pj_m70.1) := rfl
set_option maxRecDepth 100000 in
theorem pj_ml70 : pj_okm pj_m70 (1, 1) = true := pj_okm1 (pj_okq_s (M := pj_m70) pj_mwa70 pj_mwb70 (by decide +kernel)) pj_mwc70 (by decide +kernel) pj_mwd70 (by decide +kernel)
set_option maxRecDepth 100000 in
theorem pj_mn70 : plainName pj_m70.1.cls = true := pj_pl9
set_option maxRecDepth 100000 in
theorem pj_mr70 : pj_okRL pj_m70 = true := pj_okRG_s (M := pj_m70) pj_TH9 rfl (by decide +kernel)
set_option maxRecDepth 100000 in
theorem pj_mwa71 : pj_wt 778 = some (.code pj_m71.1 pj_m71.2.1 pj_m71.2.2.1 pj_m71.2.2.2.1) := rfl
set_option maxRecDepth 100000 in
theorem pj_mwb71 : pj_wt 92 = some (.initialized pj_m71.1.cls) := rfl
set_option maxRecDepth 100000 in
theorem pj_mwc71 : pj_wt 776 = some (.instanceMethod pj_m71.1) := rfl
set_option maxRecDepth 100000 in
theorem pj_mwd71 : pj_wt 777 = some (.selects pj_m71.1.cls pj_m71.1 pj_m71.1) := rfl
set_option maxRecDepth 100000 in
theorem pj_ml71 : pj_okm pj_m71 (1, 1) = true := pj_okm1 (pj_okq_s (M := pj_m71) pj_mwa71 pj_mwb71 (by decide +kernel)) pj_mwc71 (by decide +kernel) pj_mwd71 (by decide +kernel)
set_option maxRecDepth 100000 in
theorem pj_mn71 : plainName pj_m71.1.cls = true := pj_pl9
set_option maxRecDepth 100000 in
theorem pj_mr71 : pj_okRL pj_m71 = true := pj_okRG_s (M := pj_m71) pj_TH9 rfl (by decide +kernel)
set_option maxRecDepth 100000 in
theorem pj_mwa72 : pj_wt 770 = some (.code pj_m72.1 pj_m72.2.1 pj_m72.2.2.1 pj_m72.2.2.2.1) := rfl
set_option maxRecDepth 100000 in
theorem pj_mwb72 : pj_wt 92 = some (.initialized pj_m72.1.cls) := rfl
set_option maxRecDepth 100000 in
theorem pj_mwc72 : pj_wt 768 = some (.instanceMethod pj_m72.1) := rfl
set_option maxRecDepth 100000 in
theorem pj_mwd72 : pj_wt 769 = some (.selects pj_m72.1.cls pj_m72.1 pj_m72.1) := rfl
set_option maxRecDepth 100000 in
theorem pj_ml72 : pj_okm pj_m72 (1, 1) = true := pj_okm1 (pj_okq_s (M := pj_m72) pj_mwa72 pj_mwb72 (by decide +kernel)) pj_mwc72 (by decide +kernel) pj_mwd72 (by decide +kernel)
set_option maxRecDepth 100000 in
theorem pj_mn72 : plainName pj_m72.1.cls = true := pj_pl9
set_option maxRecDepth 100000 in
theorem pj_mr72 : pj_okRL pj_m72 = true := pj_okRG_s (M := pj_m72) pj_TH9 rfl (by decide +kernel)
set_option maxRecDepth 100000 in
theorem pj_mwa73 : pj_wt 1266 = some (.code pj_m73.1 pj_m73.2.1 pj_m73.2.2.1 pj_m73.2.2.2.1) := rfl
set_option maxRecDepth 100000 in
theorem pj_mwb73 : pj_wt 92 = some (.initialized pj_m73.1.cls) := rfl
set_option maxRecDepth 100000 in
theorem pj_mwc73 : pj_wt 1264 = some (.instanceMethod pj_m73.1) := rfl
set_option maxRecDepth 100000 in
theorem pj_mwd73 : pj_wt 1265 = some (.selects pj_m73.1.cls pj_m73.1 pj_m73.1) := rfl
set_option maxRecDepth 100000 in
theorem pj_ml73 : pj_okm pj_m73 (0, 1) = true := pj_okm1 (pj_okq_s (M := pj_m73) pj_mwa73 pj_mwb73 (by decide +kernel)) pj_mwc73 (by decide +kernel) pj_mwd73 (by decide +kernel)
set_option maxRecDepth 100000 in
theorem pj_mn73 : plainName pj_m73.1.cls = true := pj_pl9
set_option maxRecDepth 100000 in
theorem pj_mr73 : pj_okRL pj_m73 = true := pj_okRG_s (M := pj_m73) pj_TH9 rfl (by decide +kernel)
set_option maxRecDepth 100000 in
theorem pj_mwa74 : pj_wt 1270 = some (.code pj_m74.1 pj_m74.2.1 pj_m74.2.2.1 pj_m74.2.2.2.1) := rfl
set_option maxRecDepth 100000 in
theorem pj_mwb74 : pj_wt 92 = some (.initialized pj_m74.1.cls) := rfl
set_option maxRecDepth 100000 in
theorem pj_mwc74 : pj_wt 1268 = some (.instanceMethod pj_m74.1) := rfl
set_option maxRecDepth 100000 in
theorem pj_mwd74 : pj_wt 1269 = some (.selects pj_m74.1.cls pj_m74.1 pj_m74.1) := rfl
set_option maxRecDepth 100000 in
theorem pj_ml74 : pj_okm pj_m74 (0, 1) = true := pj_okm1 (pj_okq_s (M := pj_m74) pj_mwa74 pj_mwb74 (by decide +kernel)) pj_mwc74 (by decide +kernel) pj_mwd74 (by decide +kernel)
set_option maxRecDepth 100000 in
theorem pj_mn74 : plainName pj_m74.1.cls = true := pj_pl9
set_option maxRecDepth 100000 in
theorem pj_mr74 : pj_okRL pj_m74 = true := pj_okRG_s (M := pj_m74) pj_TH9 rfl (by decide +kernel)
set_option maxRecDepth 100000 in
theorem pj_mwa75 : pj_wt 1274 = some (.code pj_m75.1 pj_m75.2.1 pj_m75.2.2.1 pj_m75.2.2.2.1) := rfl
set_option maxRecDepth 100000 in
theorem pj_mwb75 : pj_wt 92 = some (.initialized pj_m75.1.cls) := rfl
set_option maxRecDepth 100000 in
theorem pj_mwc75 : pj_wt 1272 = some (.instanceMethod pj_m75.1) := rfl
set_option maxRecDepth 100000 in
theorem pj_mwd75 : pj_wt 1273 = some (.selects pj_m75.1.cls pj_m75.1 pj_m75.1) := rfl
set_option maxRecDepth 100000 in
theorem pj_ml75 : pj_okm pj_m75 (0, 1) = true := pj_okm1 (pj_okq_s (M := pj_m75) pj_mwa75 pj_mwb75 (by decide +kernel)) pj_mwc75 (by decide +kernel) pj_mwd75 (by decide +kernel)
set_option maxRecDepth 100000 in
theorem pj_mn75 : plainName pj_m75.1.cls = true := pj_pl9
set_option maxRecDepth 100000 in
theorem pj_mr75 : pj_okRL pj_m75 = true := pj_okRG_s (M := pj_m75) pj_TH9 rfl (by decide +kernel)
set_option maxRecDepth 100000 in
theorem pj_mwa76 : pj_wt 124 = some (.code pj_m76.1 pj_m76.2.1 pj_m76.2.2.1 pj_m76.2.2.2.1) := rfl
set_option maxRecDepth 100000 in
theorem pj_mwb76 : pj_wt 88 = some (.initialized pj_m76.1.cls) := rfl
set_option maxRecDepth 100000 in
theorem pj_mwc76 : pj_wt 123 = some (.instanceMethod pj_m76.1) := rfl
set_option maxRecDepth 100000 in
theorem pj_ml76 : pj_okm pj_m76 (0, 2) = true := pj_okm2 (pj_okq_s (M := pj_m76) pj_mwa76 pj_mwb76 (by decide +kernel)) pj_mwc76 (by decide +kernel) (by decide +kernel)
set_option maxRecDepth 100000 in
theorem pj_mn76 : plainName pj_m76.1.cls = true := pj_pl10
set_option maxRecDepth 100000 in
theorem pj_mr76 : pj_okRL pj_m76 = true := pj_okRG_s (M := pj_m76) pj_TH10 rfl (by decide +kernel)
set_option maxRecDepth 100000 in
theorem pj_mwa77 : pj_wt 484 = some (.code pj_m77.1 pj_m77.2.1 pj_m77.2.2.1 pj_m77.2.2.2.1) := rfl
set_option maxRecDepth 100000 in
theorem pj_mwb77 : pj_wt 88 = some (.initialized pj_m77.1.cls) := rfl
set_option maxRecDepth 100000 in
theorem pj_mwc77 : pj_wt 482 = some (.instanceMethod pj_m77.1) := rfl
set_option maxRecDepth 100000 in
theorem pj_mwd77 : pj_wt 483 = some (.selects pj_m77.1.cls pj_m77.1 pj_m77.1) := rfl
set_option maxRecDepth 100000 in
theorem pj_ml77 : pj_okm pj_m77 (1, 1) = true := pj_okm1 (pj_okq_s (M := pj_m77) pj_mwa77 pj_mwb77 (by decide +kernel)) pj_mwc77 (by decide +kernel) pj_mwd77 (by decide +kernel)
set_option maxRecDepth 100000 in
theorem pj_mn77 : plainName pj_m77.1.cls = true := pj_pl10
set_option maxRecDepth 100000 in
theorem pj_mr77 : pj_okRL pj_m77 = true := pj_okRG_s (M := pj_m77) pj_TH10 rfl (by decide +kernel)
set_option maxRecDepth 100000 in
theorem pj_mwa78 : pj_wt 492 = some (.code pj_m78.1 pj_m78.2.1 pj_m78.2.2.1 pj_m78.2.2.2.1) := rfl
set_option maxRecDepth 100000 in
theorem pj_mwb78 : pj_wt 88 = some (.initialized pj_m78.1.cls) := rfl
set_option maxRecDepth 100000 in
theorem pj_mwc78 : pj_wt 490 = some (.instanceMethod pj_m78.1) := rfl
set_option maxRecDepth 100000 in
theorem pj_mwd78 : pj_wt 491 = some (.selects pj_m78.1.cls pj_m78.1 pj_m78.1) := rfl
set_option maxRecDepth 100000 in
theorem pj_ml78 : pj_okm pj_m78 (1, 1) = true := pj_okm1 (pj_okq_s (M := pj_m78) pj_mwa78 pj_mwb78 (by decide +kernel)) pj_mwc78 (by decide +kernel) pj_mwd78 (by decide +kernel)
set_option maxRecDepth 100000 in
theorem pj_mn78 : plainName pj_m78.1.cls = true := pj_pl10
set_option maxRecDepth 100000 in
theorem pj_mr78 : pj_okRL pj_m78 = true := pj_okRG_s (M := pj_m78) pj_TH10 rfl (by decide +kernel)
set_option maxRecDepth 100000 in
theorem pj_mwa79 : pj_wt 500 = some (.code pj_m79.1 pj_m79.2.1 pj_m79.2.2.1 pj_m79.2.2.2.1) := rfl
set_option maxRecDepth 100000 in
theorem pj_mwb79 : pj_wt 88 = some (.initialized pj_m79.1.cls) := rfl
set_option maxRecDepth 100000 in
theorem pj_mwc79 : pj_wt 498 = some (.instanceMethod pj_m79.1) := rfl
set_option maxRecDepth 100000 in
theorem pj_mwd79 : pj_wt 499 = some (.selects pj_m79.1.cls pj_m79.1 pj_m79.1) := rfl
set_option maxRecDepth 100000 in
theorem pj_ml79 : pj_okm pj_m79 (1, 1) = true := pj_okm1 (pj_okq_s (M := pj_m79) pj_mwa79 pj_mwb79 (by decide +kernel)) pj_mwc79 (by decide +kernel) pj_mwd79 (by decide +kernel)
set_option maxRecDepth 100000 in
theorem pj_mn79 : plainName pj_m79.1.cls = true := pj_pl10
set_option maxRecDepth 100000 in
theorem pj_mr79 : pj_okRL pj_m79 = true := pj_okRG_s (M := pj_m79) pj_TH10 rfl (by decide +kernel)
set_option maxRecDepth 100000 in
theorem pj_mwa80 : pj_wt 515 = some (.code pj_m80.1 pj_m80.2.1 pj_m80.2.2.1 pj_m80.2.2.2.1) := rfl
set_option maxRecDepth 100000 in
theorem pj_mwb80 : pj_wt 88 = some (.initialized pj_m80.1.cls) := rfl
set_option maxRecDepth 100000 in
theorem pj_mwc80 : pj_wt 513 = some (.instanceMethod pj_m80.1) := rfl
set_option maxRecDepth 100000 in
theorem pj_mwd80 : pj_wt 514 = some (.selects pj_m80.1.cls pj_m80.1 pj_m80.1) := rfl
set_option maxRecDepth 100000 in
theorem pj_ml80 : pj_okm pj_m80 (0, 1) = true := pj_okm1 (pj_okq_s (M := pj_m80) pj_mwa80 pj_mwb80 (by decide +kernel)) pj_mwc80 (by decide +kernel) pj_mwd80 (by decide +kernel)
set_option maxRecDepth 100000 in
theorem pj_mn80 : plainName pj_m80.1.cls = true := pj_pl10
set_option maxRecDepth 100000 in
theorem pj_mr80 : pj_okRL pj_m80 = true := pj_okRG_s (M := pj_m80) pj_TH10 rfl (by decide +kernel)
set_option maxRecDepth 100000 in
theorem pj_mwa81 : pj_wt 519 = some (.code pj_m81.1 pj_m81.2.1 pj_m81.2.2.1 pj_m81.2.2.2.1) := rfl
set_option maxRecDepth 100000 in
theorem pj_mwb81 : pj_wt 88 = some (.initialized pj_m81.1.cls) := rfl
set_option maxRecDepth 100000 in
theorem pj_mwc81 : pj_wt 517 = some (.instanceMethod pj_m81.1) := rfl
set_option maxRecDepth 100000 in
theorem pj_mwd81 : pj_wt 518 = some (.selects pj_m81.1.cls pj_m81.1 pj_m81.1) := rfl
set_option maxRecDepth 100000 in
theorem pj_ml81 : pj_okm pj_m81 (0, 1) = true := pj_okm1 (pj_okq_s (M := pj_m81) pj_mwa81 pj_mwb81 (by decide +kernel)) pj_mwc81 (by decide +kernel) pj_mwd81 (by decide +kernel)
set_option maxRecDepth 100000 in
theorem pj_mn81 : plainName pj_m81.1.cls = true := pj_pl10
set_option maxRecDepth 100000 in
theorem pj_mr81 : pj_okRL pj_m81 = true := pj_okRG_s (M := pj_m81) pj_TH10 rfl (by decide +kernel)
set_option maxRecDepth 100000 in
theorem pj_mwa82 : pj_wt 523 = some (.code pj_m82.1 pj_m82.2.1 pj_m82.2.2.1 pj_m82.2.2.2.1) := rfl
set_option maxRecDepth 100000 in
theorem pj_mwb82 : pj_wt 88 = some (.initialized pj_m82.1.cls) := rfl
set_option maxRecDepth 100000 in
theorem pj_mwc82 : pj_wt 521 = some (.instanceMethod pj_m82.1) := rfl
set_option maxRecDepth 100000 in
theorem pj_mwd82 : pj_wt 522 = some (.selects pj_m82.1.cls pj_m82.1 pj_m82.1) := rfl
set_option maxRecDepth 100000 in
theorem pj_ml82 : pj_okm pj_m82 (1, 1) = true := pj_okm1 (pj_okq_s (M := pj_m82) pj_mwa82 pj_mwb82 (by decide +kernel)) pj_mwc82 (by decide +kernel) pj_mwd82 (by decide +kernel)
set_option maxRecDepth 100000 in
theorem pj_mn82 : plainName pj_m82.1.cls = true := pj_pl10
set_option maxRecDepth 100000 in
theorem pj_mr82 : pj_okRL pj_m82 = true := pj_okRG_s (M := pj_m82) pj_TH10 rfl (by decide +kernel)
