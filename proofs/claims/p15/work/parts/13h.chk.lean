set_option maxRecDepth 100000 in
theorem pj_mwa190 : pj_wt 1602 = some (.code pj_m190.1 pj_m190.2.1 pj_m190.2.2.1 pj_m190.2.2.2.1) := rfl
set_option maxRecDepth 100000 in
theorem pj_mwb190 : pj_wt 99 = some (.initialized pj_m190.1.cls) := rfl
set_option maxRecDepth 100000 in
theorem pj_mwc190 : pj_wt 1601 = some (.instanceMethod pj_m190.1) := rfl
set_option maxRecDepth 100000 in
theorem pj_mwd190 : pj_wt 25 = some (.selects pj_m190.1.cls pj_m190.1 pj_m190.1) := rfl
set_option maxRecDepth 100000 in
theorem pj_ml190 : pj_okm pj_m190 (0, 1) = true := pj_okm1 (pj_okq_s (M := pj_m190) pj_mwa190 pj_mwb190 (by decide +kernel)) pj_mwc190 (by decide +kernel) pj_mwd190 (by decide +kernel)
set_option maxRecDepth 100000 in
theorem pj_mn190 : plainName pj_m190.1.cls = true := pj_pl12
set_option maxRecDepth 100000 in
theorem pj_mr190 : pj_okRL pj_m190 = true := pj_okRG_s (M := pj_m190) pj_TH12 rfl (by decide +kernel)
set_option maxRecDepth 100000 in
theorem pj_mwa191 : pj_wt 1575 = some (.code pj_m191.1 pj_m191.2.1 pj_m191.2.2.1 pj_m191.2.2.2.1) := rfl
set_option maxRecDepth 100000 in
theorem pj_mwb191 : pj_wt 99 = some (.initialized pj_m191.1.cls) := rfl
set_option maxRecDepth 100000 in
theorem pj_mwc191 : pj_wt 1573 = some (.instanceMethod pj_m191.1) := rfl
set_option maxRecDepth 100000 in
theorem pj_mwd191 : pj_wt 1574 = some (.selects pj_m191.1.cls pj_m191.1 pj_m191.1) := rfl
set_option maxRecDepth 100000 in
theorem pj_ml191 : pj_okm pj_m191 (0, 1) = true := pj_okm1 (pj_okq_s (M := pj_m191) pj_mwa191 pj_mwb191 (by decide +kernel)) pj_mwc191 (by decide +kernel) pj_mwd191 (by decide +kernel)
set_option maxRecDepth 100000 in
theorem pj_mn191 : plainName pj_m191.1.cls = true := pj_pl12
set_option maxRecDepth 100000 in
theorem pj_mr191 : pj_okRL pj_m191 = true := pj_okRG_s (M := pj_m191) pj_TH12 rfl (by decide +kernel)
set_option maxRecDepth 100000 in
theorem pj_mwa192 : pj_wt 1630 = some (.code pj_m192.1 pj_m192.2.1 pj_m192.2.2.1 pj_m192.2.2.2.1) := rfl
set_option maxRecDepth 100000 in
theorem pj_mwb192 : pj_wt 99 = some (.initialized pj_m192.1.cls) := rfl
set_option maxRecDepth 100000 in
theorem pj_mwc192 : pj_wt 1629 = some (.instanceMethod pj_m192.1) := rfl
set_option maxRecDepth 100000 in
theorem pj_mwd192 : pj_wt 31 = some (.selects pj_m192.1.cls pj_m192.1 pj_m192.1) := rfl
set_option maxRecDepth 100000 in
theorem pj_ml192 : pj_okm pj_m192 (0, 1) = true := pj_okm1 (pj_okq_s (M := pj_m192) pj_mwa192 pj_mwb192 (by decide +kernel)) pj_mwc192 (by decide +kernel) pj_mwd192 (by decide +kernel)
set_option maxRecDepth 100000 in
theorem pj_mn192 : plainName pj_m192.1.cls = true := pj_pl12
set_option maxRecDepth 100000 in
theorem pj_mr192 : pj_okRL pj_m192 = true := pj_okRG_s (M := pj_m192) pj_TH12 rfl (by decide +kernel)
set_option maxRecDepth 100000 in
theorem pj_mwa193 : pj_wt 1642 = some (.code pj_m193.1 pj_m193.2.1 pj_m193.2.2.1 pj_m193.2.2.2.1) := rfl
set_option maxRecDepth 100000 in
theorem pj_mwb193 : pj_wt 99 = some (.initialized pj_m193.1.cls) := rfl
set_option maxRecDepth 100000 in
theorem pj_mwc193 : pj_wt 1641 = some (.instanceMethod pj_m193.1) := rfl
set_option maxRecDepth 100000 in
theorem pj_mwd193 : pj_wt 33 = some (.selects pj_m193.1.cls pj_m193.1 pj_m193.1) := rfl
set_option maxRecDepth 100000 in
theorem pj_ml193 : pj_okm pj_m193 (1, 1) = true := pj_okm1 (pj_okq_s (M := pj_m193) pj_mwa193 pj_mwb193 (by decide +kernel)) pj_mwc193 (by decide +kernel) pj_mwd193 (by decide +kernel)
set_option maxRecDepth 100000 in
theorem pj_mn193 : plainName pj_m193.1.cls = true := pj_pl12
set_option maxRecDepth 100000 in
theorem pj_mr193 : pj_okRL pj_m193 = true := pj_okRG_s (M := pj_m193) pj_TH12 rfl (by decide +kernel)
set_option maxRecDepth 100000 in
theorem pj_mwa194 : pj_wt 1638 = some (.code pj_m194.1 pj_m194.2.1 pj_m194.2.2.1 pj_m194.2.2.2.1) := rfl
set_option maxRecDepth 100000 in
theorem pj_mwb194 : pj_wt 99 = some (.initialized pj_m194.1.cls) := rfl
set_option maxRecDepth 100000 in
theorem pj_mwc194 : pj_wt 1637 = some (.instanceMethod pj_m194.1) := rfl
set_option maxRecDepth 100000 in
theorem pj_mwd194 : pj_wt 32 = some (.selects pj_m194.1.cls pj_m194.1 pj_m194.1) := rfl
set_option maxRecDepth 100000 in
theorem pj_ml194 : pj_okm pj_m194 (1, 1) = true := pj_okm1 (pj_okq_s (M := pj_m194) pj_mwa194 pj_mwb194 (by decide +kernel)) pj_mwc194 (by decide +kernel) pj_mwd194 (by decide +kernel)
set_option maxRecDepth 100000 in
theorem pj_mn194 : plainName pj_m194.1.cls = true := pj_pl12
set_option maxRecDepth 100000 in
theorem pj_mr194 : pj_okRL pj_m194 = true := pj_okRG_s (M := pj_m194) pj_TH12 rfl (by decide +kernel)
set_option maxRecDepth 100000 in
theorem pj_mwa195 : pj_wt 1634 = some (.code pj_m195.1 pj_m195.2.1 pj_m195.2.2.1 pj_m195.2.2.2.1) := rfl
set_option maxRecDepth 100000 in
theorem pj_mwb195 : pj_wt 99 = some (.initialized pj_m195.1.cls) := rfl
set_option maxRecDepth 100000 in
theorem pj_mwc195 : pj_wt 1632 = some (.instanceMethod pj_m195.1) := rfl
set_option maxRecDepth 100000 in
theorem pj_mwd195 : pj_wt 1633 = some (.selects pj_m195.1.cls pj_m195.1 pj_m195.1) := rfl
set_option maxRecDepth 100000 in
theorem pj_ml195 : pj_okm pj_m195 (0, 1) = true := pj_okm1 (pj_okq_s (M := pj_m195) pj_mwa195 pj_mwb195 (by decide +kernel)) pj_mwc195 (by decide +kernel) pj_mwd195 (by decide +kernel)
set_option maxRecDepth 100000 in
theorem pj_mn195 : plainName pj_m195.1.cls = true := pj_pl12
set_option maxRecDepth 100000 in
theorem pj_mr195 : pj_okRL pj_m195 = true := pj_okRG_s (M := pj_m195) pj_TH12 rfl (by decide +kernel)
set_option maxRecDepth 100000 in
theorem pj_mwa196 : pj_wt 1646 = some (.code pj_m196.1 pj_m196.2.1 pj_m196.2.2.1 pj_m196.2.2.2.1) := rfl
set_option maxRecDepth 100000 in
theorem pj_mwb196 : pj_wt 99 = some (.initialized pj_m196.1.cls) := rfl
set_option maxRecDepth 100000 in
theorem pj_mwc196 : pj_wt 1644 = some (.instanceMethod pj_m196.1) := rfl
set_option maxRecDepth 100000 in
theorem pj_mwd196 : pj_wt 1645 = some (.selects pj_m196.1.cls pj_m196.1 pj_m196.1) := rfl
set_option maxRecDepth 100000 in
theorem pj_ml196 : pj_okm pj_m196 (0, 1) = true := pj_okm1 (pj_okq_s (M := pj_m196) pj_mwa196 pj_mwb196 (by decide +kernel)) pj_mwc196 (by decide +kernel) pj_mwd196 (by decide +kernel)
set_option maxRecDepth 100000 in
theorem pj_mn196 : plainName pj_m196.1.cls = true := pj_pl12
set_option maxRecDepth 100000 in
theorem pj_mr196 : pj_okRL pj_m196 = true := pj_okRG_s (M := pj_m196) pj_TH12 rfl (by decide +kernel)
set_option maxRecDepth 100000 in
theorem pj_mwa197 : pj_wt 1662 = some (.code pj_m197.1 pj_m197.2.1 pj_m197.2.2.1 pj_m197.2.2.2.1) := rfl
set_option maxRecDepth 100000 in
theorem pj_mwb197 : pj_wt 99 = some (.initialized pj_m197.1.cls) := rfl
set_option maxRecDepth 100000 in
theorem pj_mwc197 : pj_wt 1661 = some (.instanceMethod pj_m197.1) := rfl
set_option maxRecDepth 100000 in
theorem pj_mwd197 : pj_wt 36 = some (.selects pj_m197.1.cls pj_m197.1 pj_m197.1) := rfl
set_option maxRecDepth 100000 in
theorem pj_ml197 : pj_okm pj_m197 (1, 1) = true := pj_okm1 (pj_okq_s (M := pj_m197) pj_mwa197 pj_mwb197 (by decide +kernel)) pj_mwc197 (by decide +kernel) pj_mwd197 (by decide +kernel)
set_option maxRecDepth 100000 in
theorem pj_mn197 : plainName pj_m197.1.cls = true := pj_pl12
set_option maxRecDepth 100000 in
theorem pj_mr197 : pj_okRL pj_m197 = true := pj_okRG_s (M := pj_m197) pj_TH12 rfl (by decide +kernel)
set_option maxRecDepth 100000 in
theorem pj_mwa198 : pj_wt 1658 = some (.code pj_m198.1 pj_m198.2.1 pj_m198.2.2.1 pj_m198.2.2.2.1) := rfl
set_option maxRecDepth 100000 in
theorem pj_mwb198 : pj_wt 99 = some (.initialized pj_m198.1.cls) := rfl
set_option maxRecDepth 100000 in
theorem pj_mwc198 : pj_wt 1657 = some (.instanceMethod pj_m198.1) := rfl
set_option maxRecDepth 100000 in
theorem pj_mwd198 : pj_wt 35 = some (.selects pj_m198.1.cls pj_m198.1 pj_m198.1) := rfl
set_option maxRecDepth 100000 in
theorem pj_ml198 : pj_okm pj_m198 (0, 1) = true := pj_okm1 (pj_okq_s (M := pj_m198) pj_mwa198 pj_mwb198 (by decide +kernel)) pj_mwc198 (by decide +kernel) pj_mwd198 (by decide +kernel)
set_option maxRecDepth 100000 in
theorem pj_mn198 : plainName pj_m198.1.cls = true := pj_pl12
set_option maxRecDepth 100000 in
theorem pj_mr198 : pj_okRL pj_m198 = true := pj_okRG_s (M := pj_m198) pj_TH12 rfl (by decide +kernel)
set_option maxRecDepth 100000 in
theorem pj_mwa199 : pj_wt 1654 = some (.code pj_m199.1 pj_m199.2.1 pj_m199.2.2.1 pj_m199.2.2.2.1) := rfl
set_option maxRecDepth 100000 in
theorem pj_mwb199 : pj_wt 99 = some (.initialized pj_m199.1.cls) := rfl
set_option maxRecDepth 100000 in
theorem pj_mwc199 : pj_wt 1653 = some (.instanceMethod pj_m199.1) := rfl
set_option maxRecDepth 100000 in
theorem pj_mwd199 : pj_wt 34 = some (.selects pj_m199.1.cls pj_m199.1 pj_m199.1) := rfl
set_option maxRecDepth 100000 in
theorem pj_ml199 : pj_okm pj_m199 (1, 1) = true := pj_okm1 (pj_okq_s (M := pj_m199) pj_mwa199 pj_mwb199 (by decide +kernel)) pj_mwc199 (by decide +kernel) pj_mwd199 (by decide +kernel)
set_option maxRecDepth 100000 in
theorem pj_mn199 : plainName pj_m199.1.cls = true := pj_pl12
set_option maxRecDepth 100000 in
theorem pj_mr199 : pj_okRL pj_m199 = true := pj_okRG_s (M := pj_m199) pj_TH12 rfl (by decide +kernel)
set_option maxRecDepth 100000 in
theorem pj_mwa200 : pj_wt 1650 = some (.code pj_m200.1 pj_m200.2.1 pj_m200.2.2.1 pj_m200.2.2.2.1) := rfl
set_option maxRecDepth 100000 in
theorem pj_mwb200 : pj_wt 99 = some (.initialized pj_m200.1.cls) := rfl
set_option maxRecDepth 100000 in
theorem pj_mwc200 : pj_wt 1648 = some (.instanceMethod pj_m200.1) := rfl
set_option maxRecDepth 100000 in
theorem pj_mwd200 : pj_wt 1649 = some (.selects pj_m200.1.cls pj_m200.1 pj_m200.1) := rfl
set_option maxRecDepth 100000 in
theorem pj_ml200 : pj_okm pj_m200 (0, 1) = true := pj_okm1 (pj_okq_s (M := pj_m200) pj_mwa200 pj_mwb200 (by decide +kernel)) pj_mwc200 (by decide +kernel) pj_mwd200 (by decide +kernel)
set_option maxRecDepth 100000 in
theorem pj_mn200 : plainName pj_m200.1.cls = true := pj_pl12
set_option maxRecDepth 100000 in
theorem pj_mr200 : pj_okRL pj_m200 = true := pj_okRG_s (M := pj_m200) pj_TH12 rfl (by decide +kernel)
set_option maxRecDepth 100000 in
theorem pj_mwa201 : pj_wt 1734 = some (.code pj_m201.1 pj_m201.2.1 pj_m201.2.2.1 pj_m201.2.2.2.1) := rfl
set_option maxRecDepth 100000 in
theorem pj_mwb201 : pj_wt 99 = some (.initialized pj_m201.1.cls) := rfl
set_option maxRecDepth 100000 in
theorem pj_mwc201 : pj_wt 1733 = some (.static pj_m201.1) := rfl
set_option maxRecDepth 100000 in
theorem pj_ml201 : pj_okm pj_m201 (3, 0) = true := pj_okm0 (pj_okq_s (M := pj_m201) pj_mwa201 pj_mwb201 (by decide +kernel)) pj_mwc201 (by decide +kernel)
set_option maxRecDepth 100000 in
theorem pj_mn201 : plainName pj_m201.1.cls = true := pj_pl12
set_option maxRecDepth 100000 in
theorem pj_mr201 : pj_okRL pj_m201 = true := pj_okRG_s (M := pj_m201) pj_TH12 rfl (by decide +kernel)
set_option maxRecDepth 100000 in
theorem pj_mwa202 : pj_wt 1731 = some (.code pj_m202.1 pj_m202.2.1 pj_m202.2.2.1 pj_m202.2.2.2.1) := rfl
set_option maxRecDepth 100000 in
theorem pj_mwb202 : pj_wt 99 = some (.initialized pj_m202.1.cls) := rfl
set_option maxRecDepth 100000 in
theorem pj_mwc202 : pj_wt 1730 = some (.instanceMethod pj_m202.1) := rfl
set_option maxRecDepth 100000 in
theorem pj_mwd202 : pj_wt 45 = some (.selects pj_m202.1.cls pj_m202.1 pj_m202.1) := rfl
set_option maxRecDepth 100000 in
theorem pj_ml202 : pj_okm pj_m202 (0, 1) = true := pj_okm1 (pj_okq_s (M := pj_m202) pj_mwa202 pj_mwb202 (by decide +kernel)) pj_mwc202 (by decide +kernel) pj_mwd202 (by decide +kernel)
set_option maxRecDepth 100000 in
theorem pj_mn202 : plainName pj_m202.1.cls = true := pj_pl12
set_option maxRecDepth 100000 in
theorem pj_mr202 : pj_okRL pj_m202 = true := pj_okRG_s (M := pj_m202) pj_TH12 rfl (by decide +kernel)
set_option maxRecDepth 100000 in
theorem pj_mwa203 : pj_wt 1726 = some (.code pj_m203.1 pj_m203.2.1 pj_m203.2.2.1 pj_m203.2.2.2.1) := rfl
set_option maxRecDepth 100000 in
theorem pj_mwb203 : pj_wt 99 = some (.initialized pj_m203.1.cls) := rfl
set_option maxRecDepth 100000 in
theorem pj_mwc203 : pj_wt 1725 = some (.instanceMethod pj_m203.1) := rfl
set_option maxRecDepth 100000 in
theorem pj_mwd203 : pj_wt 44 = some (.selects pj_m203.1.cls pj_m203.1 pj_m203.1) := rfl
set_option maxRecDepth 100000 in
theorem pj_ml203 : pj_okm pj_m203 (1, 1) = true := pj_okm1 (pj_okq_s (M := pj_m203) pj_mwa203 pj_mwb203 (by decide +kernel)) pj_mwc203 (by decide +kernel) pj_mwd203 (by decide +kernel)
set_option maxRecDepth 100000 in
theorem pj_mn203 : plainName pj_m203.1.cls = true := pj_pl12
set_option maxRecDepth 100000 in
theorem pj_mr203 : pj_okRL pj_m203 = true := pj_okRG_s (M := pj_m203) pj_TH12 rfl (by decide +kernel)
