set_option maxRecDepth 100000 in
theorem pj_mwa83 : pj_wt 511 = some (.code pj_m83.1 pj_m83.2.1 pj_m83.2.2.1 pj_m83.2.2.2.1) := rfl
set_option maxRecDepth 100000 in
theorem pj_mwb83 : pj_wt 88 = some (.initialized pj_m83.1.cls) := rfl
set_option maxRecDepth 100000 in
theorem pj_mwc83 : pj_wt 509 = some (.instanceMethod pj_m83.1) := rfl
set_option maxRecDepth 100000 in
theorem pj_mwd83 : pj_wt 510 = some (.selects pj_m83.1.cls pj_m83.1 pj_m83.1) := rfl
set_option maxRecDepth 100000 in
theorem pj_ml83 : pj_okm pj_m83 (2, 1) = true := pj_okm1 (pj_okq_s (M := pj_m83) pj_mwa83 pj_mwb83 (by decide +kernel)) pj_mwc83 (by decide +kernel) pj_mwd83 (by decide +kernel)
set_option maxRecDepth 100000 in
theorem pj_mn83 : plainName pj_m83.1.cls = true := pj_pl10
set_option maxRecDepth 100000 in
theorem pj_mr83 : pj_okRL pj_m83 = true := pj_okRG_s (M := pj_m83) pj_TH10 rfl (by decide +kernel)
set_option maxRecDepth 100000 in
theorem pj_mwa84 : pj_wt 619 = some (.code pj_m84.1 pj_m84.2.1 pj_m84.2.2.1 pj_m84.2.2.2.1) := rfl
set_option maxRecDepth 100000 in
theorem pj_mwb84 : pj_wt 88 = some (.initialized pj_m84.1.cls) := rfl
set_option maxRecDepth 100000 in
theorem pj_mwc84 : pj_wt 617 = some (.instanceMethod pj_m84.1) := rfl
set_option maxRecDepth 100000 in
theorem pj_mwd84 : pj_wt 618 = some (.selects pj_m84.1.cls pj_m84.1 pj_m84.1) := rfl
set_option maxRecDepth 100000 in
theorem pj_ml84 : pj_okm pj_m84 (1, 1) = true := pj_okm1 (pj_okq_s (M := pj_m84) pj_mwa84 pj_mwb84 (by decide +kernel)) pj_mwc84 (by decide +kernel) pj_mwd84 (by decide +kernel)
set_option maxRecDepth 100000 in
theorem pj_mn84 : plainName pj_m84.1.cls = true := pj_pl10
set_option maxRecDepth 100000 in
theorem pj_mr84 : pj_okRL pj_m84 = true := pj_okRG_s (M := pj_m84) pj_TH10 rfl (by decide +kernel)
set_option maxRecDepth 100000 in
theorem pj_mwa85 : pj_wt 536 = some (.code pj_m85.1 pj_m85.2.1 pj_m85.2.2.1 pj_m85.2.2.2.1) := rfl
set_option maxRecDepth 100000 in
theorem pj_mwb85 : pj_wt 88 = some (.initialized pj_m85.1.cls) := rfl
set_option maxRecDepth 100000 in
theorem pj_mwc85 : pj_wt 534 = some (.instanceMethod pj_m85.1) := rfl
set_option maxRecDepth 100000 in
theorem pj_mwd85 : pj_wt 535 = some (.selects pj_m85.1.cls pj_m85.1 pj_m85.1) := rfl
set_option maxRecDepth 100000 in
theorem pj_ml85 : pj_okm pj_m85 (0, 1) = true := pj_okm1 (pj_okq_s (M := pj_m85) pj_mwa85 pj_mwb85 (by decide +kernel)) pj_mwc85 (by decide +kernel) pj_mwd85 (by decide +kernel)
set_option maxRecDepth 100000 in
theorem pj_mn85 : plainName pj_m85.1.cls = true := pj_pl10
set_option maxRecDepth 100000 in
theorem pj_mr85 : pj_okRL pj_m85 = true := pj_okRG_s (M := pj_m85) pj_TH10 rfl (by decide +kernel)
set_option maxRecDepth 100000 in
theorem pj_mwa86 : pj_wt 532 = some (.code pj_m86.1 pj_m86.2.1 pj_m86.2.2.1 pj_m86.2.2.2.1) := rfl
set_option maxRecDepth 100000 in
theorem pj_mwb86 : pj_wt 88 = some (.initialized pj_m86.1.cls) := rfl
set_option maxRecDepth 100000 in
theorem pj_mwc86 : pj_wt 530 = some (.instanceMethod pj_m86.1) := rfl
set_option maxRecDepth 100000 in
theorem pj_mwd86 : pj_wt 531 = some (.selects pj_m86.1.cls pj_m86.1 pj_m86.1) := rfl
set_option maxRecDepth 100000 in
theorem pj_ml86 : pj_okm pj_m86 (1, 1) = true := pj_okm1 (pj_okq_s (M := pj_m86) pj_mwa86 pj_mwb86 (by decide +kernel)) pj_mwc86 (by decide +kernel) pj_mwd86 (by decide +kernel)
set_option maxRecDepth 100000 in
theorem pj_mn86 : plainName pj_m86.1.cls = true := pj_pl10
set_option maxRecDepth 100000 in
theorem pj_mr86 : pj_okRL pj_m86 = true := pj_okRG_s (M := pj_m86) pj_TH10 rfl (by decide +kernel)
set_option maxRecDepth 100000 in
theorem pj_mwa87 : pj_wt 527 = some (.code pj_m87.1 pj_m87.2.1 pj_m87.2.2.1 pj_m87.2.2.2.1) := rfl
set_option maxRecDepth 100000 in
theorem pj_mwb87 : pj_wt 88 = some (.initialized pj_m87.1.cls) := rfl
set_option maxRecDepth 100000 in
theorem pj_mwc87 : pj_wt 525 = some (.instanceMethod pj_m87.1) := rfl
set_option maxRecDepth 100000 in
theorem pj_mwd87 : pj_wt 526 = some (.selects pj_m87.1.cls pj_m87.1 pj_m87.1) := rfl
set_option maxRecDepth 100000 in
theorem pj_ml87 : pj_okm pj_m87 (2, 1) = true := pj_okm1 (pj_okq_s (M := pj_m87) pj_mwa87 pj_mwb87 (by decide +kernel)) pj_mwc87 (by decide +kernel) pj_mwd87 (by decide +kernel)
set_option maxRecDepth 100000 in
theorem pj_mn87 : plainName pj_m87.1.cls = true := pj_pl10
set_option maxRecDepth 100000 in
theorem pj_mr87 : pj_okRL pj_m87 = true := pj_okRG_s (M := pj_m87) pj_TH10 rfl (by decide +kernel)
set_option maxRecDepth 100000 in
theorem pj_mwa88 : pj_wt 540 = some (.code pj_m88.1 pj_m88.2.1 pj_m88.2.2.1 pj_m88.2.2.2.1) := rfl
set_option maxRecDepth 100000 in
theorem pj_mwb88 : pj_wt 88 = some (.initialized pj_m88.1.cls) := rfl
set_option maxRecDepth 100000 in
theorem pj_mwc88 : pj_wt 538 = some (.instanceMethod pj_m88.1) := rfl
set_option maxRecDepth 100000 in
theorem pj_mwd88 : pj_wt 539 = some (.selects pj_m88.1.cls pj_m88.1 pj_m88.1) := rfl
set_option maxRecDepth 100000 in
theorem pj_ml88 : pj_okm pj_m88 (0, 1) = true := pj_okm1 (pj_okq_s (M := pj_m88) pj_mwa88 pj_mwb88 (by decide +kernel)) pj_mwc88 (by decide +kernel) pj_mwd88 (by decide +kernel)
set_option maxRecDepth 100000 in
theorem pj_mn88 : plainName pj_m88.1.cls = true := pj_pl10
set_option maxRecDepth 100000 in
theorem pj_mr88 : pj_okRL pj_m88 = true := pj_okRG_s (M := pj_m88) pj_TH10 rfl (by decide +kernel)
set_option maxRecDepth 100000 in
theorem pj_mwa89 : pj_wt 164 = some (.code pj_m89.1 pj_m89.2.1 pj_m89.2.2.1 pj_m89.2.2.2.1) := rfl
set_option maxRecDepth 100000 in
theorem pj_mwb89 : pj_wt 90 = some (.initialized pj_m89.1.cls) := rfl
set_option maxRecDepth 100000 in
theorem pj_mwc89 : pj_wt 163 = some (.instanceMethod pj_m89.1) := rfl
set_option maxRecDepth 100000 in
theorem pj_ml89 : pj_okm pj_m89 (0, 2) = true := pj_okm2 (pj_okq_s (M := pj_m89) pj_mwa89 pj_mwb89 (by decide +kernel)) pj_mwc89 (by decide +kernel) (by decide +kernel)
set_option maxRecDepth 100000 in
theorem pj_mn89 : plainName pj_m89.1.cls = true := pj_pl11
set_option maxRecDepth 100000 in
theorem pj_mr89 : pj_okRL pj_m89 = true := pj_okRG_s (M := pj_m89) pj_TH11 rfl (by decide +kernel)
set_option maxRecDepth 100000 in
theorem pj_mwa90 : pj_wt 547 = some (.code pj_m90.1 pj_m90.2.1 pj_m90.2.2.1 pj_m90.2.2.2.1) := rfl
set_option maxRecDepth 100000 in
theorem pj_mwb90 : pj_wt 90 = some (.initialized pj_m90.1.cls) := rfl
set_option maxRecDepth 100000 in
theorem pj_mwc90 : pj_wt 545 = some (.instanceMethod pj_m90.1) := rfl
set_option maxRecDepth 100000 in
theorem pj_mwd90 : pj_wt 546 = some (.selects pj_m90.1.cls pj_m90.1 pj_m90.1) := rfl
set_option maxRecDepth 100000 in
theorem pj_ml90 : pj_okm pj_m90 (0, 1) = true := pj_okm1 (pj_okq_s (M := pj_m90) pj_mwa90 pj_mwb90 (by decide +kernel)) pj_mwc90 (by decide +kernel) pj_mwd90 (by decide +kernel)
set_option maxRecDepth 100000 in
theorem pj_mn90 : plainName pj_m90.1.cls = true := pj_pl11
set_option maxRecDepth 100000 in
theorem pj_mr90 : pj_okRL pj_m90 = true := pj_okRG_s (M := pj_m90) pj_TH11 rfl (by decide +kernel)
set_option maxRecDepth 100000 in
theorem pj_mwa91 : pj_wt 567 = some (.code pj_m91.1 pj_m91.2.1 pj_m91.2.2.1 pj_m91.2.2.2.1) := rfl
set_option maxRecDepth 100000 in
theorem pj_mwb91 : pj_wt 90 = some (.initialized pj_m91.1.cls) := rfl
set_option maxRecDepth 100000 in
theorem pj_mwc91 : pj_wt 565 = some (.instanceMethod pj_m91.1) := rfl
set_option maxRecDepth 100000 in
theorem pj_mwd91 : pj_wt 566 = some (.selects pj_m91.1.cls pj_m91.1 pj_m91.1) := rfl
set_option maxRecDepth 100000 in
theorem pj_ml91 : pj_okm pj_m91 (1, 1) = true := pj_okm1 (pj_okq_s (M := pj_m91) pj_mwa91 pj_mwb91 (by decide +kernel)) pj_mwc91 (by decide +kernel) pj_mwd91 (by decide +kernel)
set_option maxRecDepth 100000 in
theorem pj_mn91 : plainName pj_m91.1.cls = true := pj_pl11
set_option maxRecDepth 100000 in
theorem pj_mr91 : pj_okRL pj_m91 = true := pj_okRG_s (M := pj_m91) pj_TH11 rfl (by decide +kernel)
set_option maxRecDepth 100000 in
theorem pj_mwa92 : pj_wt 584 = some (.code pj_m92.1 pj_m92.2.1 pj_m92.2.2.1 pj_m92.2.2.2.1) := rfl
set_option maxRecDepth 100000 in
theorem pj_mwb92 : pj_wt 90 = some (.initialized pj_m92.1.cls) := rfl
set_option maxRecDepth 100000 in
theorem pj_mwc92 : pj_wt 582 = some (.instanceMethod pj_m92.1) := rfl
set_option maxRecDepth 100000 in
theorem pj_mwd92 : pj_wt 583 = some (.selects pj_m92.1.cls pj_m92.1 pj_m92.1) := rfl
set_option maxRecDepth 100000 in
theorem pj_ml92 : pj_okm pj_m92 (1, 1) = true := pj_okm1 (pj_okq_s (M := pj_m92) pj_mwa92 pj_mwb92 (by decide +kernel)) pj_mwc92 (by decide +kernel) pj_mwd92 (by decide +kernel)
set_option maxRecDepth 100000 in
theorem pj_mn92 : plainName pj_m92.1.cls = true := pj_pl11
set_option maxRecDepth 100000 in
theorem pj_mr92 : pj_okRL pj_m92 = true := pj_okRG_s (M := pj_m92) pj_TH11 rfl (by decide +kernel)
set_option maxRecDepth 100000 in
theorem pj_mwa93 : pj_wt 924 = some (.code pj_m93.1 pj_m93.2.1 pj_m93.2.2.1 pj_m93.2.2.2.1) := rfl
set_option maxRecDepth 100000 in
theorem pj_mwb93 : pj_wt 90 = some (.initialized pj_m93.1.cls) := rfl
set_option maxRecDepth 100000 in
theorem pj_mwc93 : pj_wt 922 = some (.instanceMethod pj_m93.1) := rfl
set_option maxRecDepth 100000 in
theorem pj_mwd93 : pj_wt 923 = some (.selects pj_m93.1.cls pj_m93.1 pj_m93.1) := rfl
set_option maxRecDepth 100000 in
theorem pj_ml93 : pj_okm pj_m93 (1, 1) = true := pj_okm1 (pj_okq_s (M := pj_m93) pj_mwa93 pj_mwb93 (by decide +kernel)) pj_mwc93 (by decide +kernel) pj_mwd93 (by decide +kernel)
set_option maxRecDepth 100000 in
theorem pj_mn93 : plainName pj_m93.1.cls = true := pj_pl11
set_option maxRecDepth 100000 in
theorem pj_mr93 : pj_okRL pj_m93 = true := pj_okRG_s (M := pj_m93) pj_TH11 rfl (by decide +kernel)
set_option maxRecDepth 100000 in
theorem pj_mwa94 : pj_wt 766 = some (.code pj_m94.1 pj_m94.2.1 pj_m94.2.2.1 pj_m94.2.2.2.1) := rfl
set_option maxRecDepth 100000 in
theorem pj_mwb94 : pj_wt 90 = some (.initialized pj_m94.1.cls) := rfl
set_option maxRecDepth 100000 in
theorem pj_mwc94 : pj_wt 764 = some (.instanceMethod pj_m94.1) := rfl
set_option maxRecDepth 100000 in
theorem pj_mwd94 : pj_wt 765 = some (.selects pj_m94.1.cls pj_m94.1 pj_m94.1) := rfl
set_option maxRecDepth 100000 in
theorem pj_ml94 : pj_okm pj_m94 (1, 1) = true := pj_okm1 (pj_okq_s (M := pj_m94) pj_mwa94 pj_mwb94 (by decide +kernel)) pj_mwc94 (by decide +kernel) pj_mwd94 (by decide +kernel)
set_option maxRecDepth 100000 in
theorem pj_mn94 : plainName pj_m94.1.cls = true := pj_pl11
set_option maxRecDepth 100000 in
theorem pj_mr94 : pj_okRL pj_m94 = true := pj_okRG_s (M := pj_m94) pj_TH11 rfl (by decide +kernel)
set_option maxRecDepth 100000 in
theorem pj_mwa95 : pj_wt 762 = some (.code pj_m95.1 pj_m95.2.1 pj_m95.2.2.1 pj_m95.2.2.2.1) := rfl
set_option maxRecDepth 100000 in
theorem pj_mwb95 : pj_wt 90 = some (.initialized pj_m95.1.cls) := rfl
set_option maxRecDepth 100000 in
theorem pj_mwc95 : pj_wt 760 = some (.instanceMethod pj_m95.1) := rfl
set_option maxRecDepth 100000 in
theorem pj_mwd95 : pj_wt 761 = some (.selects pj_m95.1.cls pj_m95.1 pj_m95.1) := rfl
set_option maxRecDepth 100000 in
theorem pj_ml95 : pj_okm pj_m95 (1, 1) = true := pj_okm1 (pj_okq_s (M := pj_m95) pj_mwa95 pj_mwb95 (by decide +kernel)) pj_mwc95 (by decide +kernel) pj_mwd95 (by decide +kernel)
set_option maxRecDepth 100000 in
theorem pj_mn95 : plainName pj_m95.1.cls = true := pj_pl11
set_option maxRecDepth 100000 in
theorem pj_mr95 : pj_okRL pj_m95 = true := pj_okRG_s (M := pj_m95) pj_TH11 rfl (by decide +kernel)
set_option maxRecDepth 100000 in
theorem pj_mwa96 : pj_wt 842 = some (.code pj_m96.1 pj_m96.2.1 pj_m96.2.2.1 pj_m96.2.2.2.1) := rfl
set_option maxRecDepth 100000 in
theorem pj_mwb96 : pj_wt 90 = some (.initialized pj_m96.1.cls) := rfl
set_option maxRecDepth 100000 in
theorem pj_mwc96 : pj_wt 840 = some (.instanceMethod pj_m96.1) := rfl
set_option maxRecDepth 100000 in
theorem pj_mwd96 : pj_wt 841 = some (.selects pj_m96.1.cls pj_m96.1 pj_m96.1) := rfl
set_option maxRecDepth 100000 in
theorem pj_ml96 : pj_okm pj_m96 (1, 1) = true := pj_okm1 (pj_okq_s (M := pj_m96) pj_mwa96 pj_mwb96 (by decide +kernel)) pj_mwc96 (by decide +kernel) pj_mwd96 (by decide +kernel)
set_option maxRecDepth 100000 in
theorem pj_mn96 : plainName pj_m96.1.cls = true := pj_pl11
set_option maxRecDepth 100000 in
theorem pj_mr96 : pj_okRL pj_m96 = true := pj_okRG_s (M := pj_m96) pj_TH11 rfl (by decide +kernel)
set_option maxRecDepth 100000 in
theorem pj_mwa97 : pj_wt 745 = some (.code pj_m97.1 pj_m97.2.1 pj_m97.2.2.1 pj_m97.2.2.2.1) := rfl
set_option maxRecDepth 100000 in
theorem pj_mwb97 : pj_wt 90 = some (.initialized pj_m97.1.cls) := rfl
set_option maxRecDepth 100000 in
theorem pj_mwc97 : pj_wt 743 = some (.instanceMethod pj_m97.1) := rfl
set_option maxRecDepth 100000 in
theorem pj_mwd97 : pj_wt 744 = some (.selects pj_m97.1.cls pj_m97.1 pj_m97.1) := rfl
set_option maxRecDepth 100000 in
theorem pj_ml97 : pj_okm pj_m97 (4, 1) = true := pj_okm1 (pj_okq_s (M := pj_m97) pj_mwa97 pj_mwb97 (by decide +kernel)) pj_mwc97 (by decide +kernel) pj_mwd97 (by decide +kernel)
set_option maxRecDepth 100000 in
theorem pj_mn97 : plainName pj_m97.1.cls = true := pj_pl11
set_option maxRecDepth 100000 in
theorem pj_mr97 : pj_okRL pj_m97 = true := pj_okRG_s (M := pj_m97) pj_TH11 rfl (by decide +kernel)
set_option maxRecDepth 100000 in
theorem pj_mwa98 : pj_wt 748 = some (.code pj_m98.1 pj_m98.2.1 pj_m98.2.2.1 pj_m98.2.2.2.1) := rfl
set_option maxRecDepth 100000 in
theorem pj_mwb98 : pj_wt 90 = some (.initialized pj_m98.1.cls) := rfl
set_option maxRecDepth 100000 in
theorem pj_mwc98 : pj_wt 747 = some (.static pj_m98.1) := rfl
set_option maxRecDepth 100000 in
theorem pj_ml98 : pj_okm pj_m98 (2, 0) = true := pj_okm0 (pj_okq_s (M := pj_m98) pj_mwa98 pj_mwb98 (by decide +kernel)) pj_mwc98 (by decide +kernel)
set_option maxRecDepth 100000 in
theorem pj_mn98 : plainName pj_m98.1.cls = true := pj_pl11
set_option maxRecDepth 100000 in
theorem pj_mr98 : pj_okRL pj_m98 = true := pj_okRG_s (M := pj_m98) pj_TH11 rfl (by decide +kernel)
set_option maxRecDepth 100000 in
theorem pj_mwa99 : pj_wt 758 = some (.code pj_m99.1 pj_m99.2.1 pj_m99.2.2.1 pj_m99.2.2.2.1) := rfl
set_option maxRecDepth 100000 in
theorem pj_mwb99 : pj_wt 90 = some (.initialized pj_m99.1.cls) := rfl
set_option maxRecDepth 100000 in
theorem pj_mwc99 : pj_wt 756 = some (.instanceMethod pj_m99.1) := rfl
set_option maxRecDepth 100000 in
theorem pj_mwd99 : pj_wt 757 = some (.selects pj_m99.1.cls pj_m99.1 pj_m99.1) := rfl
set_option maxRecDepth 100000 in
theorem pj_ml99 : pj_okm pj_m99 (2, 1) = true := pj_okm1 (pj_okq_s (M := pj_m99) pj_mwa99 pj_mwb99 (by decide +kernel)) pj_mwc99 (by decide +kernel) pj_mwd99 (by decide +kernel)
set_option maxRecDepth 100000 in
theorem pj_mn99 : plainName pj_m99.1.cls = true := pj_pl11
set_option maxRecDepth 100000 in
theorem pj_mr99 : pj_okRL pj_m99 = true := pj_okRG_s (M := pj_m99) pj_TH11 rfl (by decide +kernel)
set_option maxRecDepth 100000 in
theorem pj_mwa100 : pj_wt 786 = some (.code pj_m100.1 pj_m100.2.1 pj_m100.2.2.1 pj_m100.2.2.2.1) := rfl
set_option maxRecDepth 100000 in
theorem pj_mwb100 : pj_wt 90 = some (.initialized pj_m100.1.cls) := rfl
set_option maxRecDepth 100000 in
theorem pj_mwc100 : pj_wt 785 = some (.instanceMethod pj_m100.1) := rfl
set_option maxRecDepth 100000 in
theorem pj_mwd100 : pj_wt 5 = some (.selects pj_m100.1.cls pj_m100.1 pj_m100.1) := rfl
set_option maxRecDepth 100000 in
theorem pj_ml100 : pj_okm pj_m100 (1, 1) = true := pj_okm1 (pj_okq_s (M := pj_m100) pj_mwa100 pj_mwb100 (by decide +kernel)) pj_mwc100 (by decide +kernel) pj_mwd100 (by decide +kernel)
set_option maxRecDepth 100000 in
theorem pj_mn100 : plainName pj_m100.1.cls = true := pj_pl11
set_option maxRecDepth 100000 in
theorem pj_mr100 : pj_okRL pj_m100 = true := pj_okRG_s (M := pj_m100) pj_TH11 rfl (by decide +kernel)
set_option maxRecDepth 100000 in
theorem pj_mwa101 : pj_wt 782 = some (.code pj_m101.1 pj_m101.2.1 pj_m101.2.2.1 pj_m101.2.2.2.1) := rfl
set_option maxRecDepth 100000 in
theorem pj_mwb101 : pj_wt 90 = some (.initialized pj_m101.1.cls) := rfl
set_option maxRecDepth 100000 in
theorem pj_mwc101 : pj_wt 780 = some (.instanceMethod pj_m101.1) := rfl
set_option maxRecDepth 100000 in
theorem pj_mwd101 : pj_wt 781 = some (.selects pj_m101.1.cls pj_m101.1 pj_m101.1) := rfl
set_option maxRecDepth 100000 in
theorem pj_ml101 : pj_okm pj_m101 (2, 1) = true := pj_okm1 (pj_okq_s (M := pj_m101) pj_mwa101 pj_mwb101 (by decide +kernel)) pj_mwc101 (by decide +kernel) pj_mwd101 (by decide +kernel)
set_option maxRecDepth 100000 in
theorem pj_mn101 : plainName pj_m101.1.cls = true := pj_pl11
set_option maxRecDepth 100000 in
theorem pj_mr101 : pj_okRL pj_m101 = true := pj_okRG_s (M := pj_m101) pj_TH11 rfl (by decide +kernel)
set_option maxRecDepth 100000 in
theorem pj_mwa102 : pj_wt 815 = some (.code pj_m102.1 pj_m102.2.1 pj_m102.2.2.1 pj_m102.2.2.2.1) := rfl
set_option maxRecDepth 100000 in
theorem pj_mwb102 : pj_wt 90 = some (.initialized pj_m102.1.cls) := rfl
set_option maxRecDepth 100000 in
theorem pj_mwc102 : pj_wt 813 = some (.instanceMethod pj_m102.1) := rfl
set_option maxRecDepth 100000 in
theorem pj_mwd102 : pj_wt 814 = some (.selects pj_m102.1.cls pj_m102.1 pj_m102.1) := rfl
set_option maxRecDepth 100000 in
theorem pj_ml102 : pj_okm pj_m102 (2, 1) = true := pj_okm1 (pj_okq_s (M := pj_m102) pj_mwa102 pj_mwb102 (by decide +kernel)) pj_mwc102 (by decide +kernel) pj_mwd102 (by decide +kernel)
set_option maxRecDepth 100000 in
theorem pj_mn102 : plainName pj_m102.1.cls = true := pj_pl11
set_option maxRecDepth 100000 in
theorem pj_mr102 : pj_okRL pj_m102 = true := pj_okRG_s (M := pj_m102) pj_TH11 rfl (by decide +kernel)
set_option maxRecDepth 100000 in
theorem pj_mwa103 : pj_wt 829 = some (.code pj_m103.1 pj_m103.2.1 pj_m103.2.2.1 pj_m103.2.2.2.1) := rfl
set_option maxRecDepth 100000 in
theorem pj_mwb103 : pj_wt 90 = some (.initialized pj_m103.1.cls) := rfl
set_option maxRecDepth 100000 in
theorem pj_mwc103 : pj_wt 827 = some (.instanceMethod pj_m103.1) := rfl
set_option maxRecDepth 100000 in
theorem pj_mwd103 : pj_wt 828 = some (.selects pj_m103.1.cls pj_m103.1 pj_m103.1) := rfl
set_option maxRecDepth 100000 in
theorem pj_ml103 : pj_okm pj_m103 (2, 1) = true := pj_okm1 (pj_okq_s (M := pj_m103) pj_mwa103 pj_mwb103 (by decide +kernel)) pj_mwc103 (by decide +kernel) pj_mwd103 (by decide +kernel)
set_option maxRecDepth 100000 in
theorem pj_mn103 : plainName pj_m103.1.cls = true := pj_pl11
set_option maxRecDepth 100000 in
theorem pj_mr103 : pj_okRL pj_m103 = true := pj_okRG_s (M := pj_m103) pj_TH11 rfl (by decide +kernel)
set_option maxRecDepth 100000 in
theorem pj_mwa104 : pj_wt 838 = some (.code pj_m104.1 pj_m104.2.1 pj_m104.2.2.1 pj_m104.2.2.2.1) := rfl
set_option maxRecDepth 100000 in
theorem pj_mwb104 : pj_wt 90 = some (.initialized pj_m104.1.cls) := rfl
set_option maxRecDepth 100000 in
theorem pj_mwc104 : pj_wt 836 = some (.instanceMethod pj_m104.1) := rfl
set_option maxRecDepth 100000 in
theorem pj_mwd104 : pj_wt 837 = some (.selects pj_m104.1.cls pj_m104.1 pj_m104.1) := rfl
set_option maxRecDepth 100000 in
theorem pj_ml104 : pj_okm pj_m104 (2, 1) = true := pj_okm1 (pj_okq_s (M := pj_m104) pj_mwa104 pj_mwb104 (by decide +kernel)) pj_mwc104 (by decide +kernel) pj_mwd104 (by decide +kernel)
set_option maxRecDepth 100000 in
theorem pj_mn104 : plainName pj_m104.1.cls = true := pj_pl11
set_option maxRecDepth 100000 in
theorem pj_mr104 : pj_okRL pj_m104 = true := pj_okRG_s (M := pj_m104) pj_TH11 rfl (by decide +kernel)
set_option maxRecDepth 100000 in
theorem pj_mwa105 : pj_wt 855 = some (.code pj_m105.1 pj_m105.2.1 pj_m105.2.2.1 pj_m105.2.2.2.1) := rfl
set_option maxRecDepth 100000 in
theorem pj_mwb105 : pj_wt 90 = some (.initialized pj_m105.1.cls) := rfl
set_option maxRecDepth 100000 in
theorem pj_mwc105 : pj_wt 853 = some (.instanceMethod pj_m105.1) := rfl
set_option maxRecDepth 100000 in
theorem pj_mwd105 : pj_wt 854 = some (.selects pj_m105.1.cls pj_m105.1 pj_m105.1) := rfl
set_option maxRecDepth 100000 in
theorem pj_ml105 : pj_okm pj_m105 (1, 1) = true := pj_okm1 (pj_okq_s (M := pj_m105) pj_mwa105 pj_mwb105 (by decide +kernel)) pj_mwc105 (by decide +kernel) pj_mwd105 (by decide +kernel)
set_option maxRecDepth 100000 in
theorem pj_mn105 : plainName pj_m105.1.cls = true := pj_pl11
set_option maxRecDepth 100000 in
theorem pj_mr105 : pj_okRL pj_m105 = true := pj_okRG_s (M := pj_m105) pj_TH11 rfl (by decide +kernel)
set_option maxRecDepth 100000 in
theorem pj_mwa106 : pj_wt 859 = some (.code pj_m106.1 pj_m106.2.1 pj_m106.2.2.1 pj_m106.2.2.2.1) := rfl
set_option maxRecDepth 100000 in
theorem pj_mwb106 : pj_wt 90 = some (.initialized pj_m106.1.cls) := rfl
set_option maxRecDepth 100000 in
theorem pj_mwc106 : pj_wt 858 = some (.instanceMethod pj_m106.1) := rfl
set_option maxRecDepth 100000 in
theorem pj_mwd106 : pj_wt 6 = some (.selects pj_m106.1.cls pj_m106.1 pj_m106.1) := rfl
set_option maxRecDepth 100000 in
theorem pj_ml106 : pj_okm pj_m106 (0, 1) = true := pj_okm1 (pj_okq_s (M := pj_m106) pj_mwa106 pj_mwb106 (by decide +kernel)) pj_mwc106 (by decide +kernel) pj_mwd106 (by decide +kernel)
set_option maxRecDepth 100000 in
theorem pj_mn106 : plainName pj_m106.1.cls = true := pj_pl11
set_option maxRecDepth 100000 in
theorem pj_mr106 : pj_okRL pj_m106 = true := pj_okRG_s (M := pj_m106) pj_TH11 rfl (by decide +kernel)
set_option maxRecDepth 100000 in
theorem pj_mwa107 : pj_wt 863 = some (.code pj_m107.1 pj_m107.2.1 pj_m107.2.2.1 pj_m107.2.2.2.1) := rfl
set_option maxRecDepth 100000 in
theorem pj_mwb107 : pj_wt 90 = some (.initialized pj_m107.1.cls) := rfl
set_option maxRecDepth 100000 in
theorem pj_mwc107 : pj_wt 862 = some (.instanceMethod pj_m107.1) := rfl
set_option maxRecDepth 100000 in
theorem pj_mwd107 : pj_wt 7 = some (.selects pj_m107.1.cls pj_m107.1 pj_m107.1) := rfl
set_option maxRecDepth 100000 in
theorem pj_ml107 : pj_okm pj_m107 (0, 1) = true := pj_okm1 (pj_okq_s (M := pj_m107) pj_mwa107 pj_mwb107 (by decide +kernel)) pj_mwc107 (by decide +kernel) pj_mwd107 (by decide +kernel)
set_option maxRecDepth 100000 in
theorem pj_mn107 : plainName pj_m107.1.cls = true := pj_pl11
set_option maxRecDepth 100000 in
theorem pj_mr107 : pj_okRL pj_m107 = true := pj_okRG_s (M := pj_m107) pj_TH11 rfl (by decide +kernel)
set_option maxRecDepth 100000 in
theorem pj_mwa108 : pj_wt 928 = some (.code pj_m108.1 pj_m108.2.1 pj_m108.2.2.1 pj_m108.2.2.2.1) := rfl
set_option maxRecDepth 100000 in
theorem pj_mwb108 : pj_wt 90 = some (.initialized pj_m108.1.cls) := rfl
set_option maxRecDepth 100000 in
theorem pj_mwc108 : pj_wt 926 = some (.instanceMethod pj_m108.1) := rfl
set_option maxRecDepth 100000 in
theorem pj_mwd108 : pj_wt 927 = some (.selects pj_m108.1.cls pj_m108.1 pj_m108.1) := rfl
set_option maxRecDepth 100000 in
theorem pj_ml108 : pj_okm pj_m108 (2, 1) = true := pj_okm1 (pj_okq_s (M := pj_m108) pj_mwa108 pj_mwb108 (by decide +kernel)) pj_mwc108 (by decide +kernel) pj_mwd108 (by decide +kernel)
set_option maxRecDepth 100000 in
theorem pj_mn108 : plainName pj_m108.1.cls = true := pj_pl11
set_option maxRecDepth 100000 in
theorem pj_mr108 : pj_okRL pj_m108 = true := pj_okRG_s (M := pj_m108) pj_TH11 rfl (by decide +kernel)
