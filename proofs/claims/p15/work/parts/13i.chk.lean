set_option maxRecDepth 100000 in
theorem pj_mwa204 : pj_wt 1722 = some (.code pj_m204.1 pj_m204.2.1 pj_m204.2.2.1 pj_m204.2.2.2.1) := rfl
set_option maxRecDepth 100000 in
theorem pj_mwb204 : pj_wt 99 = some (.initialized pj_m204.1.cls) := rfl
set_option maxRecDepth 100000 in
theorem pj_mwc204 : pj_wt 1721 = some (.instanceMethod pj_m204.1) := rfl
set_option maxRecDepth 100000 in
theorem pj_mwd204 : pj_wt 43 = some (.selects pj_m204.1.cls pj_m204.1 pj_m204.1) := rfl
set_option maxRecDepth 100000 in
theorem pj_ml204 : pj_okm pj_m204 (2, 1) = true := pj_okm1 (pj_okq_s (M := pj_m204) pj_mwa204 pj_mwb204 (by decide +kernel)) pj_mwc204 (by decide +kernel) pj_mwd204 (by decide +kernel)
set_option maxRecDepth 100000 in
theorem pj_mn204 : plainName pj_m204.1.cls = true := pj_pl12
set_option maxRecDepth 100000 in
theorem pj_mr204 : pj_okRL pj_m204 = true := pj_okRG_s (M := pj_m204) pj_TH12 rfl (by decide +kernel)
set_option maxRecDepth 100000 in
theorem pj_mwa205 : pj_wt 1683 = some (.code pj_m205.1 pj_m205.2.1 pj_m205.2.2.1 pj_m205.2.2.2.1) := rfl
set_option maxRecDepth 100000 in
theorem pj_mwb205 : pj_wt 99 = some (.initialized pj_m205.1.cls) := rfl
set_option maxRecDepth 100000 in
theorem pj_mwc205 : pj_wt 1682 = some (.instanceMethod pj_m205.1) := rfl
set_option maxRecDepth 100000 in
theorem pj_mwd205 : pj_wt 39 = some (.selects pj_m205.1.cls pj_m205.1 pj_m205.1) := rfl
set_option maxRecDepth 100000 in
theorem pj_ml205 : pj_okm pj_m205 (2, 1) = true := pj_okm1 (pj_okq_s (M := pj_m205) pj_mwa205 pj_mwb205 (by decide +kernel)) pj_mwc205 (by decide +kernel) pj_mwd205 (by decide +kernel)
set_option maxRecDepth 100000 in
theorem pj_mn205 : plainName pj_m205.1.cls = true := pj_pl12
set_option maxRecDepth 100000 in
theorem pj_mr205 : pj_okRL pj_m205 = true := pj_okRG_s (M := pj_m205) pj_TH12 rfl (by decide +kernel)
set_option maxRecDepth 100000 in
theorem pj_mwa206 : pj_wt 1775 = some (.code pj_m206.1 pj_m206.2.1 pj_m206.2.2.1 pj_m206.2.2.2.1) := rfl
set_option maxRecDepth 100000 in
theorem pj_mwb206 : pj_wt 99 = some (.initialized pj_m206.1.cls) := rfl
set_option maxRecDepth 100000 in
theorem pj_mwc206 : pj_wt 1774 = some (.instanceMethod pj_m206.1) := rfl
set_option maxRecDepth 100000 in
theorem pj_mwd206 : pj_wt 52 = some (.selects pj_m206.1.cls pj_m206.1 pj_m206.1) := rfl
set_option maxRecDepth 100000 in
theorem pj_ml206 : pj_okm pj_m206 (2, 1) = true := pj_okm1 (pj_okq_s (M := pj_m206) pj_mwa206 pj_mwb206 (by decide +kernel)) pj_mwc206 (by decide +kernel) pj_mwd206 (by decide +kernel)
set_option maxRecDepth 100000 in
theorem pj_mn206 : plainName pj_m206.1.cls = true := pj_pl12
set_option maxRecDepth 100000 in
theorem pj_mr206 : pj_okRL pj_m206 = true := pj_okRG_s (M := pj_m206) pj_TH12 rfl (by decide +kernel)
set_option maxRecDepth 100000 in
theorem pj_mwa207 : pj_wt 1836 = some (.code pj_m207.1 pj_m207.2.1 pj_m207.2.2.1 pj_m207.2.2.2.1) := rfl
set_option maxRecDepth 100000 in
theorem pj_mwb207 : pj_wt 99 = some (.initialized pj_m207.1.cls) := rfl
set_option maxRecDepth 100000 in
theorem pj_mwc207 : pj_wt 1835 = some (.instanceMethod pj_m207.1) := rfl
set_option maxRecDepth 100000 in
theorem pj_mwd207 : pj_wt 62 = some (.selects pj_m207.1.cls pj_m207.1 pj_m207.1) := rfl
set_option maxRecDepth 100000 in
theorem pj_ml207 : pj_okm pj_m207 (2, 1) = true := pj_okm1 (pj_okq_s (M := pj_m207) pj_mwa207 pj_mwb207 (by decide +kernel)) pj_mwc207 (by decide +kernel) pj_mwd207 (by decide +kernel)
set_option maxRecDepth 100000 in
theorem pj_mn207 : plainName pj_m207.1.cls = true := pj_pl12
set_option maxRecDepth 100000 in
theorem pj_mr207 : pj_okRL pj_m207 = true := pj_okRG_s (M := pj_m207) pj_TH12 rfl (by decide +kernel)
set_option maxRecDepth 100000 in
theorem pj_mwa208 : pj_wt 1832 = some (.code pj_m208.1 pj_m208.2.1 pj_m208.2.2.1 pj_m208.2.2.2.1) := rfl
set_option maxRecDepth 100000 in
theorem pj_mwb208 : pj_wt 99 = some (.initialized pj_m208.1.cls) := rfl
set_option maxRecDepth 100000 in
theorem pj_mwc208 : pj_wt 1831 = some (.instanceMethod pj_m208.1) := rfl
set_option maxRecDepth 100000 in
theorem pj_mwd208 : pj_wt 61 = some (.selects pj_m208.1.cls pj_m208.1 pj_m208.1) := rfl
set_option maxRecDepth 100000 in
theorem pj_ml208 : pj_okm pj_m208 (2, 1) = true := pj_okm1 (pj_okq_s (M := pj_m208) pj_mwa208 pj_mwb208 (by decide +kernel)) pj_mwc208 (by decide +kernel) pj_mwd208 (by decide +kernel)
set_option maxRecDepth 100000 in
theorem pj_mn208 : plainName pj_m208.1.cls = true := pj_pl12
set_option maxRecDepth 100000 in
theorem pj_mr208 : pj_okRL pj_m208 = true := pj_okRG_s (M := pj_m208) pj_TH12 rfl (by decide +kernel)
set_option maxRecDepth 100000 in
theorem pj_mwa209 : pj_wt 1828 = some (.code pj_m209.1 pj_m209.2.1 pj_m209.2.2.1 pj_m209.2.2.2.1) := rfl
set_option maxRecDepth 100000 in
theorem pj_mwb209 : pj_wt 99 = some (.initialized pj_m209.1.cls) := rfl
set_option maxRecDepth 100000 in
theorem pj_mwc209 : pj_wt 1827 = some (.instanceMethod pj_m209.1) := rfl
set_option maxRecDepth 100000 in
theorem pj_mwd209 : pj_wt 60 = some (.selects pj_m209.1.cls pj_m209.1 pj_m209.1) := rfl
set_option maxRecDepth 100000 in
theorem pj_ml209 : pj_okm pj_m209 (1, 1) = true := pj_okm1 (pj_okq_s (M := pj_m209) pj_mwa209 pj_mwb209 (by decide +kernel)) pj_mwc209 (by decide +kernel) pj_mwd209 (by decide +kernel)
set_option maxRecDepth 100000 in
theorem pj_mn209 : plainName pj_m209.1.cls = true := pj_pl12
set_option maxRecDepth 100000 in
theorem pj_mr209 : pj_okRL pj_m209 = true := pj_okRG_s (M := pj_m209) pj_TH12 rfl (by decide +kernel)
set_option maxRecDepth 100000 in
theorem pj_mwa210 : pj_wt 1670 = some (.code pj_m210.1 pj_m210.2.1 pj_m210.2.2.1 pj_m210.2.2.2.1) := rfl
set_option maxRecDepth 100000 in
theorem pj_mwb210 : pj_wt 99 = some (.initialized pj_m210.1.cls) := rfl
set_option maxRecDepth 100000 in
theorem pj_mwc210 : pj_wt 1668 = some (.instanceMethod pj_m210.1) := rfl
set_option maxRecDepth 100000 in
theorem pj_mwd210 : pj_wt 1669 = some (.selects pj_m210.1.cls pj_m210.1 pj_m210.1) := rfl
set_option maxRecDepth 100000 in
theorem pj_ml210 : pj_okm pj_m210 (2, 1) = true := pj_okm1 (pj_okq_s (M := pj_m210) pj_mwa210 pj_mwb210 (by decide +kernel)) pj_mwc210 (by decide +kernel) pj_mwd210 (by decide +kernel)
set_option maxRecDepth 100000 in
theorem pj_mn210 : plainName pj_m210.1.cls = true := pj_pl12
set_option maxRecDepth 100000 in
theorem pj_mr210 : pj_okRL pj_m210 = true := pj_okRG_s (M := pj_m210) pj_TH12 rfl (by decide +kernel)
set_option maxRecDepth 100000 in
theorem pj_mwa211 : pj_wt 1687 = some (.code pj_m211.1 pj_m211.2.1 pj_m211.2.2.1 pj_m211.2.2.2.1) := rfl
set_option maxRecDepth 100000 in
theorem pj_mwb211 : pj_wt 99 = some (.initialized pj_m211.1.cls) := rfl
set_option maxRecDepth 100000 in
theorem pj_mwc211 : pj_wt 1685 = some (.instanceMethod pj_m211.1) := rfl
set_option maxRecDepth 100000 in
theorem pj_mwd211 : pj_wt 1686 = some (.selects pj_m211.1.cls pj_m211.1 pj_m211.1) := rfl
set_option maxRecDepth 100000 in
theorem pj_ml211 : pj_okm pj_m211 (2, 1) = true := pj_okm1 (pj_okq_s (M := pj_m211) pj_mwa211 pj_mwb211 (by decide +kernel)) pj_mwc211 (by decide +kernel) pj_mwd211 (by decide +kernel)
set_option maxRecDepth 100000 in
theorem pj_mn211 : plainName pj_m211.1.cls = true := pj_pl12
set_option maxRecDepth 100000 in
theorem pj_mr211 : pj_okRL pj_m211 = true := pj_okRG_s (M := pj_m211) pj_TH12 rfl (by decide +kernel)
set_option maxRecDepth 100000 in
theorem pj_mwa212 : pj_wt 1696 = some (.code pj_m212.1 pj_m212.2.1 pj_m212.2.2.1 pj_m212.2.2.2.1) := rfl
set_option maxRecDepth 100000 in
theorem pj_mwb212 : pj_wt 99 = some (.initialized pj_m212.1.cls) := rfl
set_option maxRecDepth 100000 in
theorem pj_mwc212 : pj_wt 1694 = some (.instanceMethod pj_m212.1) := rfl
set_option maxRecDepth 100000 in
theorem pj_mwd212 : pj_wt 1695 = some (.selects pj_m212.1.cls pj_m212.1 pj_m212.1) := rfl
set_option maxRecDepth 100000 in
theorem pj_ml212 : pj_okm pj_m212 (2, 1) = true := pj_okm1 (pj_okq_s (M := pj_m212) pj_mwa212 pj_mwb212 (by decide +kernel)) pj_mwc212 (by decide +kernel) pj_mwd212 (by decide +kernel)
set_option maxRecDepth 100000 in
theorem pj_mn212 : plainName pj_m212.1.cls = true := pj_pl12
set_option maxRecDepth 100000 in
theorem pj_mr212 : pj_okRL pj_m212 = true := pj_okRG_s (M := pj_m212) pj_TH12 rfl (by decide +kernel)
set_option maxRecDepth 100000 in
theorem pj_mwa213 : pj_wt 1704 = some (.code pj_m213.1 pj_m213.2.1 pj_m213.2.2.1 pj_m213.2.2.2.1) := rfl
set_option maxRecDepth 100000 in
theorem pj_mwb213 : pj_wt 99 = some (.initialized pj_m213.1.cls) := rfl
set_option maxRecDepth 100000 in
theorem pj_mwc213 : pj_wt 1702 = some (.instanceMethod pj_m213.1) := rfl
set_option maxRecDepth 100000 in
theorem pj_mwd213 : pj_wt 1703 = some (.selects pj_m213.1.cls pj_m213.1 pj_m213.1) := rfl
set_option maxRecDepth 100000 in
theorem pj_ml213 : pj_okm pj_m213 (4, 1) = true := pj_okm1 (pj_okq_s (M := pj_m213) pj_mwa213 pj_mwb213 (by decide +kernel)) pj_mwc213 (by decide +kernel) pj_mwd213 (by decide +kernel)
set_option maxRecDepth 100000 in
theorem pj_mn213 : plainName pj_m213.1.cls = true := pj_pl12
set_option maxRecDepth 100000 in
theorem pj_mr213 : pj_okRL pj_m213 = true := pj_okRG_s (M := pj_m213) pj_TH12 rfl (by decide +kernel)
set_option maxRecDepth 100000 in
theorem pj_mwa214 : pj_wt 1742 = some (.code pj_m214.1 pj_m214.2.1 pj_m214.2.2.1 pj_m214.2.2.2.1) := rfl
set_option maxRecDepth 100000 in
theorem pj_mwb214 : pj_wt 99 = some (.initialized pj_m214.1.cls) := rfl
set_option maxRecDepth 100000 in
theorem pj_mwc214 : pj_wt 1741 = some (.instanceMethod pj_m214.1) := rfl
set_option maxRecDepth 100000 in
theorem pj_mwd214 : pj_wt 46 = some (.selects pj_m214.1.cls pj_m214.1 pj_m214.1) := rfl
set_option maxRecDepth 100000 in
theorem pj_ml214 : pj_okm pj_m214 (0, 1) = true := pj_okm1 (pj_okq_s (M := pj_m214) pj_mwa214 pj_mwb214 (by decide +kernel)) pj_mwc214 (by decide +kernel) pj_mwd214 (by decide +kernel)
set_option maxRecDepth 100000 in
theorem pj_mn214 : plainName pj_m214.1.cls = true := pj_pl12
set_option maxRecDepth 100000 in
theorem pj_mr214 : pj_okRL pj_m214 = true := pj_okRG_s (M := pj_m214) pj_TH12 rfl (by decide +kernel)
set_option maxRecDepth 100000 in
theorem pj_mwa215 : pj_wt 1754 = some (.code pj_m215.1 pj_m215.2.1 pj_m215.2.2.1 pj_m215.2.2.2.1) := rfl
set_option maxRecDepth 100000 in
theorem pj_mwb215 : pj_wt 99 = some (.initialized pj_m215.1.cls) := rfl
set_option maxRecDepth 100000 in
theorem pj_mwc215 : pj_wt 1753 = some (.instanceMethod pj_m215.1) := rfl
set_option maxRecDepth 100000 in
theorem pj_mwd215 : pj_wt 49 = some (.selects pj_m215.1.cls pj_m215.1 pj_m215.1) := rfl
set_option maxRecDepth 100000 in
theorem pj_ml215 : pj_okm pj_m215 (1, 1) = true := pj_okm1 (pj_okq_s (M := pj_m215) pj_mwa215 pj_mwb215 (by decide +kernel)) pj_mwc215 (by decide +kernel) pj_mwd215 (by decide +kernel)
set_option maxRecDepth 100000 in
theorem pj_mn215 : plainName pj_m215.1.cls = true := pj_pl12
set_option maxRecDepth 100000 in
theorem pj_mr215 : pj_okRL pj_m215 = true := pj_okRG_s (M := pj_m215) pj_TH12 rfl (by decide +kernel)
set_option maxRecDepth 100000 in
theorem pj_mwa216 : pj_wt 1750 = some (.code pj_m216.1 pj_m216.2.1 pj_m216.2.2.1 pj_m216.2.2.2.1) := rfl
set_option maxRecDepth 100000 in
theorem pj_mwb216 : pj_wt 99 = some (.initialized pj_m216.1.cls) := rfl
set_option maxRecDepth 100000 in
theorem pj_mwc216 : pj_wt 1749 = some (.instanceMethod pj_m216.1) := rfl
set_option maxRecDepth 100000 in
theorem pj_mwd216 : pj_wt 48 = some (.selects pj_m216.1.cls pj_m216.1 pj_m216.1) := rfl
set_option maxRecDepth 100000 in
theorem pj_ml216 : pj_okm pj_m216 (1, 1) = true := pj_okm1 (pj_okq_s (M := pj_m216) pj_mwa216 pj_mwb216 (by decide +kernel)) pj_mwc216 (by decide +kernel) pj_mwd216 (by decide +kernel)
set_option maxRecDepth 100000 in
theorem pj_mn216 : plainName pj_m216.1.cls = true := pj_pl12
set_option maxRecDepth 100000 in
theorem pj_mr216 : pj_okRL pj_m216 = true := pj_okRG_s (M := pj_m216) pj_TH12 rfl (by decide +kernel)
set_option maxRecDepth 100000 in
theorem pj_mwa217 : pj_wt 1710 = some (.code pj_m217.1 pj_m217.2.1 pj_m217.2.2.1 pj_m217.2.2.2.1) := rfl
set_option maxRecDepth 100000 in
theorem pj_mwb217 : pj_wt 99 = some (.initialized pj_m217.1.cls) := rfl
set_option maxRecDepth 100000 in
theorem pj_mwc217 : pj_wt 1708 = some (.instanceMethod pj_m217.1) := rfl
set_option maxRecDepth 100000 in
theorem pj_mwd217 : pj_wt 1709 = some (.selects pj_m217.1.cls pj_m217.1 pj_m217.1) := rfl
set_option maxRecDepth 100000 in
theorem pj_ml217 : pj_okm pj_m217 (0, 1) = true := pj_okm1 (pj_okq_s (M := pj_m217) pj_mwa217 pj_mwb217 (by decide +kernel)) pj_mwc217 (by decide +kernel) pj_mwd217 (by decide +kernel)
set_option maxRecDepth 100000 in
theorem pj_mn217 : plainName pj_m217.1.cls = true := pj_pl12
set_option maxRecDepth 100000 in
theorem pj_mr217 : pj_okRL pj_m217 = true := pj_okRG_s (M := pj_m217) pj_TH12 rfl (by decide +kernel)
set_option maxRecDepth 100000 in
theorem pj_mwa218 : pj_wt 1718 = some (.code pj_m218.1 pj_m218.2.1 pj_m218.2.2.1 pj_m218.2.2.2.1) := rfl
set_option maxRecDepth 100000 in
theorem pj_mwb218 : pj_wt 99 = some (.initialized pj_m218.1.cls) := rfl
set_option maxRecDepth 100000 in
theorem pj_mwc218 : pj_wt 1717 = some (.instanceMethod pj_m218.1) := rfl
set_option maxRecDepth 100000 in
theorem pj_mwd218 : pj_wt 42 = some (.selects pj_m218.1.cls pj_m218.1 pj_m218.1) := rfl
set_option maxRecDepth 100000 in
theorem pj_ml218 : pj_okm pj_m218 (2, 1) = true := pj_okm1 (pj_okq_s (M := pj_m218) pj_mwa218 pj_mwb218 (by decide +kernel)) pj_mwc218 (by decide +kernel) pj_mwd218 (by decide +kernel)
set_option maxRecDepth 100000 in
theorem pj_mn218 : plainName pj_m218.1.cls = true := pj_pl12
set_option maxRecDepth 100000 in
theorem pj_mr218 : pj_okRL pj_m218 = true := pj_okRG_s (M := pj_m218) pj_TH12 rfl (by decide +kernel)
set_option maxRecDepth 100000 in
theorem pj_mwa219 : pj_wt 1714 = some (.code pj_m219.1 pj_m219.2.1 pj_m219.2.2.1 pj_m219.2.2.2.1) := rfl
set_option maxRecDepth 100000 in
theorem pj_mwb219 : pj_wt 99 = some (.initialized pj_m219.1.cls) := rfl
set_option maxRecDepth 100000 in
theorem pj_mwc219 : pj_wt 1712 = some (.instanceMethod pj_m219.1) := rfl
set_option maxRecDepth 100000 in
theorem pj_mwd219 : pj_wt 1713 = some (.selects pj_m219.1.cls pj_m219.1 pj_m219.1) := rfl
set_option maxRecDepth 100000 in
theorem pj_ml219 : pj_okm pj_m219 (2, 1) = true := pj_okm1 (pj_okq_s (M := pj_m219) pj_mwa219 pj_mwb219 (by decide +kernel)) pj_mwc219 (by decide +kernel) pj_mwd219 (by decide +kernel)
set_option maxRecDepth 100000 in
theorem pj_mn219 : plainName pj_m219.1.cls = true := pj_pl12
set_option maxRecDepth 100000 in
theorem pj_mr219 : pj_okRL pj_m219 = true := pj_okRG_s (M := pj_m219) pj_TH12 rfl (by decide +kernel)
set_option maxRecDepth 100000 in
theorem pj_mwa220 : pj_wt 1746 = some (.code pj_m220.1 pj_m220.2.1 pj_m220.2.2.1 pj_m220.2.2.2.1) := rfl
set_option maxRecDepth 100000 in
theorem pj_mwb220 : pj_wt 99 = some (.initialized pj_m220.1.cls) := rfl
set_option maxRecDepth 100000 in
theorem pj_mwc220 : pj_wt 1745 = some (.instanceMethod pj_m220.1) := rfl
set_option maxRecDepth 100000 in
theorem pj_mwd220 : pj_wt 47 = some (.selects pj_m220.1.cls pj_m220.1 pj_m220.1) := rfl
set_option maxRecDepth 100000 in
theorem pj_ml220 : pj_okm pj_m220 (2, 1) = true := pj_okm1 (pj_okq_s (M := pj_m220) pj_mwa220 pj_mwb220 (by decide +kernel)) pj_mwc220 (by decide +kernel) pj_mwd220 (by decide +kernel)
set_option maxRecDepth 100000 in
theorem pj_mn220 : plainName pj_m220.1.cls = true := pj_pl12
set_option maxRecDepth 100000 in
theorem pj_mr220 : pj_okRL pj_m220 = true := pj_okRG_s (M := pj_m220) pj_TH12 rfl (by decide +kernel)
set_option maxRecDepth 100000 in
theorem pj_mwa221 : pj_wt 1762 = some (.code pj_m221.1 pj_m221.2.1 pj_m221.2.2.1 pj_m221.2.2.2.1) := rfl
set_option maxRecDepth 100000 in
theorem pj_mwb221 : pj_wt 99 = some (.initialized pj_m221.1.cls) := rfl
set_option maxRecDepth 100000 in
theorem pj_mwc221 : pj_wt 1761 = some (.instanceMethod pj_m221.1) := rfl
set_option maxRecDepth 100000 in
theorem pj_mwd221 : pj_wt 50 = some (.selects pj_m221.1.cls pj_m221.1 pj_m221.1) := rfl
set_option maxRecDepth 100000 in
theorem pj_ml221 : pj_okm pj_m221 (2, 1) = true := pj_okm1 (pj_okq_s (M := pj_m221) pj_mwa221 pj_mwb221 (by decide +kernel)) pj_mwc221 (by decide +kernel) pj_mwd221 (by decide +kernel)
set_option maxRecDepth 100000 in
theorem pj_mn221 : plainName pj_m221.1.cls = true := pj_pl12
set_option maxRecDepth 100000 in
theorem pj_mr221 : pj_okRL pj_m221 = true := pj_okRG_s (M := pj_m221) pj_TH12 rfl (by decide +kernel)
set_option maxRecDepth 100000 in
theorem pj_mwa222 : pj_wt 1771 = some (.code pj_m222.1 pj_m222.2.1 pj_m222.2.2.1 pj_m222.2.2.2.1) := rfl
set_option maxRecDepth 100000 in
theorem pj_mwb222 : pj_wt 99 = some (.initialized pj_m222.1.cls) := rfl
set_option maxRecDepth 100000 in
theorem pj_mwc222 : pj_wt 1770 = some (.instanceMethod pj_m222.1) := rfl
set_option maxRecDepth 100000 in
theorem pj_mwd222 : pj_wt 51 = some (.selects pj_m222.1.cls pj_m222.1 pj_m222.1) := rfl
set_option maxRecDepth 100000 in
theorem pj_ml222 : pj_okm pj_m222 (2, 1) = true := pj_okm1 (pj_okq_s (M := pj_m222) pj_mwa222 pj_mwb222 (by decide +kernel)) pj_mwc222 (by decide +kernel) pj_mwd222 (by decide +kernel)
set_option maxRecDepth 100000 in
theorem pj_mn222 : plainName pj_m222.1.cls = true := pj_pl12
set_option maxRecDepth 100000 in
theorem pj_mr222 : pj_okRL pj_m222 = true := pj_okRG_s (M := pj_m222) pj_TH12 rfl (by decide +kernel)
set_option maxRecDepth 100000 in
theorem pj_mwa223 : pj_wt 1787 = some (.code pj_m223.1 pj_m223.2.1 pj_m223.2.2.1 pj_m223.2.2.2.1) := rfl
set_option maxRecDepth 100000 in
theorem pj_mwb223 : pj_wt 99 = some (.initialized pj_m223.1.cls) := rfl
set_option maxRecDepth 100000 in
theorem pj_mwc223 : pj_wt 1786 = some (.instanceMethod pj_m223.1) := rfl
set_option maxRecDepth 100000 in
theorem pj_mwd223 : pj_wt 53 = some (.selects pj_m223.1.cls pj_m223.1 pj_m223.1) := rfl
set_option maxRecDepth 100000 in
theorem pj_ml223 : pj_okm pj_m223 (0, 1) = true := pj_okm1 (pj_okq_s (M := pj_m223) pj_mwa223 pj_mwb223 (by decide +kernel)) pj_mwc223 (by decide +kernel) pj_mwd223 (by decide +kernel)
set_option maxRecDepth 100000 in
theorem pj_mn223 : plainName pj_m223.1.cls = true := pj_pl12
set_option maxRecDepth 100000 in
theorem pj_mr223 : pj_okRL pj_m223 = true := pj_okRG_s (M := pj_m223) pj_TH12 rfl (by decide +kernel)
