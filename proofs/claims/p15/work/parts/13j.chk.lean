set_option maxRecDepth 100000 in
theorem pj_mwa224 : pj_wt 1791 = some (.code pj_m224.1 pj_m224.2.1 pj_m224.2.2.1 pj_m224.2.2.2.1) := rfl
set_option maxRecDepth 100000 in
theorem pj_mwb224 : pj_wt 99 = some (.initialized pj_m224.1.cls) := rfl
set_option maxRecDepth 100000 in
theorem pj_mwc224 : pj_wt 1790 = some (.instanceMethod pj_m224.1) := rfl
set_option maxRecDepth 100000 in
theorem pj_mwd224 : pj_wt 54 = some (.selects pj_m224.1.cls pj_m224.1 pj_m224.1) := rfl
set_option maxRecDepth 100000 in
theorem pj_ml224 : pj_okm pj_m224 (0, 1) = true := pj_okm1 (pj_okq_s (M := pj_m224) pj_mwa224 pj_mwb224 (by decide +kernel)) pj_mwc224 (by decide +kernel) pj_mwd224 (by decide +kernel)
set_option maxRecDepth 100000 in
theorem pj_mn224 : plainName pj_m224.1.cls = true := pj_pl12
set_option maxRecDepth 100000 in
theorem pj_mr224 : pj_okRL pj_m224 = true := pj_okRG_s (M := pj_m224) pj_TH12 rfl (by decide +kernel)
set_option maxRecDepth 100000 in
theorem pj_mwa225 : pj_wt 1738 = some (.code pj_m225.1 pj_m225.2.1 pj_m225.2.2.1 pj_m225.2.2.2.1) := rfl
set_option maxRecDepth 100000 in
theorem pj_mwb225 : pj_wt 99 = some (.initialized pj_m225.1.cls) := rfl
set_option maxRecDepth 100000 in
theorem pj_mwc225 : pj_wt 1736 = some (.instanceMethod pj_m225.1) := rfl
set_option maxRecDepth 100000 in
theorem pj_mwd225 : pj_wt 1737 = some (.selects pj_m225.1.cls pj_m225.1 pj_m225.1) := rfl
set_option maxRecDepth 100000 in
theorem pj_ml225 : pj_okm pj_m225 (2, 1) = true := pj_okm1 (pj_okq_s (M := pj_m225) pj_mwa225 pj_mwb225 (by decide +kernel)) pj_mwc225 (by decide +kernel) pj_mwd225 (by decide +kernel)
set_option maxRecDepth 100000 in
theorem pj_mn225 : plainName pj_m225.1.cls = true := pj_pl12
set_option maxRecDepth 100000 in
theorem pj_mr225 : pj_okRL pj_m225 = true := pj_okRG_s (M := pj_m225) pj_TH12 rfl (by decide +kernel)
set_option maxRecDepth 100000 in
theorem pj_mwa226 : pj_wt 1758 = some (.code pj_m226.1 pj_m226.2.1 pj_m226.2.2.1 pj_m226.2.2.2.1) := rfl
set_option maxRecDepth 100000 in
theorem pj_mwb226 : pj_wt 99 = some (.initialized pj_m226.1.cls) := rfl
set_option maxRecDepth 100000 in
theorem pj_mwc226 : pj_wt 1756 = some (.instanceMethod pj_m226.1) := rfl
set_option maxRecDepth 100000 in
theorem pj_mwd226 : pj_wt 1757 = some (.selects pj_m226.1.cls pj_m226.1 pj_m226.1) := rfl
set_option maxRecDepth 100000 in
theorem pj_ml226 : pj_okm pj_m226 (2, 1) = true := pj_okm1 (pj_okq_s (M := pj_m226) pj_mwa226 pj_mwb226 (by decide +kernel)) pj_mwc226 (by decide +kernel) pj_mwd226 (by decide +kernel)
set_option maxRecDepth 100000 in
theorem pj_mn226 : plainName pj_m226.1.cls = true := pj_pl12
set_option maxRecDepth 100000 in
theorem pj_mr226 : pj_okRL pj_m226 = true := pj_okRG_s (M := pj_m226) pj_TH12 rfl (by decide +kernel)
set_option maxRecDepth 100000 in
theorem pj_mwa227 : pj_wt 1767 = some (.code pj_m227.1 pj_m227.2.1 pj_m227.2.2.1 pj_m227.2.2.2.1) := rfl
set_option maxRecDepth 100000 in
theorem pj_mwb227 : pj_wt 99 = some (.initialized pj_m227.1.cls) := rfl
set_option maxRecDepth 100000 in
theorem pj_mwc227 : pj_wt 1765 = some (.instanceMethod pj_m227.1) := rfl
set_option maxRecDepth 100000 in
theorem pj_mwd227 : pj_wt 1766 = some (.selects pj_m227.1.cls pj_m227.1 pj_m227.1) := rfl
set_option maxRecDepth 100000 in
theorem pj_ml227 : pj_okm pj_m227 (2, 1) = true := pj_okm1 (pj_okq_s (M := pj_m227) pj_mwa227 pj_mwb227 (by decide +kernel)) pj_mwc227 (by decide +kernel) pj_mwd227 (by decide +kernel)
set_option maxRecDepth 100000 in
theorem pj_mn227 : plainName pj_m227.1.cls = true := pj_pl12
set_option maxRecDepth 100000 in
theorem pj_mr227 : pj_okRL pj_m227 = true := pj_okRG_s (M := pj_m227) pj_TH12 rfl (by decide +kernel)
set_option maxRecDepth 100000 in
theorem pj_mwa228 : pj_wt 1782 = some (.code pj_m228.1 pj_m228.2.1 pj_m228.2.2.1 pj_m228.2.2.2.1) := rfl
set_option maxRecDepth 100000 in
theorem pj_mwb228 : pj_wt 99 = some (.initialized pj_m228.1.cls) := rfl
set_option maxRecDepth 100000 in
theorem pj_mwc228 : pj_wt 1780 = some (.instanceMethod pj_m228.1) := rfl
set_option maxRecDepth 100000 in
theorem pj_mwd228 : pj_wt 1781 = some (.selects pj_m228.1.cls pj_m228.1 pj_m228.1) := rfl
set_option maxRecDepth 100000 in
theorem pj_ml228 : pj_okm pj_m228 (1, 1) = true := pj_okm1 (pj_okq_s (M := pj_m228) pj_mwa228 pj_mwb228 (by decide +kernel)) pj_mwc228 (by decide +kernel) pj_mwd228 (by decide +kernel)
set_option maxRecDepth 100000 in
theorem pj_mn228 : plainName pj_m228.1.cls = true := pj_pl12
set_option maxRecDepth 100000 in
theorem pj_mr228 : pj_okRL pj_m228 = true := pj_okRG_s (M := pj_m228) pj_TH12 rfl (by decide +kernel)
set_option maxRecDepth 100000 in
theorem pj_mwa229 : pj_wt 1803 = some (.code pj_m229.1 pj_m229.2.1 pj_m229.2.2.1 pj_m229.2.2.2.1) := rfl
set_option maxRecDepth 100000 in
theorem pj_mwb229 : pj_wt 99 = some (.initialized pj_m229.1.cls) := rfl
set_option maxRecDepth 100000 in
theorem pj_mwc229 : pj_wt 1802 = some (.instanceMethod pj_m229.1) := rfl
set_option maxRecDepth 100000 in
theorem pj_mwd229 : pj_wt 56 = some (.selects pj_m229.1.cls pj_m229.1 pj_m229.1) := rfl
set_option maxRecDepth 100000 in
theorem pj_ml229 : pj_okm pj_m229 (0, 1) = true := pj_okm1 (pj_okq_s (M := pj_m229) pj_mwa229 pj_mwb229 (by decide +kernel)) pj_mwc229 (by decide +kernel) pj_mwd229 (by decide +kernel)
set_option maxRecDepth 100000 in
theorem pj_mn229 : plainName pj_m229.1.cls = true := pj_pl12
set_option maxRecDepth 100000 in
theorem pj_mr229 : pj_okRL pj_m229 = true := pj_okRG_s (M := pj_m229) pj_TH12 rfl (by decide +kernel)
set_option maxRecDepth 100000 in
theorem pj_mwa230 : pj_wt 1808 = some (.code pj_m230.1 pj_m230.2.1 pj_m230.2.2.1 pj_m230.2.2.2.1) := rfl
set_option maxRecDepth 100000 in
theorem pj_mwb230 : pj_wt 99 = some (.initialized pj_m230.1.cls) := rfl
set_option maxRecDepth 100000 in
theorem pj_mwc230 : pj_wt 1807 = some (.instanceMethod pj_m230.1) := rfl
set_option maxRecDepth 100000 in
theorem pj_mwd230 : pj_wt 57 = some (.selects pj_m230.1.cls pj_m230.1 pj_m230.1) := rfl
set_option maxRecDepth 100000 in
theorem pj_ml230 : pj_okm pj_m230 (1, 1) = true := pj_okm1 (pj_okq_s (M := pj_m230) pj_mwa230 pj_mwb230 (by decide +kernel)) pj_mwc230 (by decide +kernel) pj_mwd230 (by decide +kernel)
set_option maxRecDepth 100000 in
theorem pj_mn230 : plainName pj_m230.1.cls = true := pj_pl12
set_option maxRecDepth 100000 in
theorem pj_mr230 : pj_okRL pj_m230 = true := pj_okRG_s (M := pj_m230) pj_TH12 rfl (by decide +kernel)
set_option maxRecDepth 100000 in
theorem pj_mwa231 : pj_wt 1799 = some (.code pj_m231.1 pj_m231.2.1 pj_m231.2.2.1 pj_m231.2.2.2.1) := rfl
set_option maxRecDepth 100000 in
theorem pj_mwb231 : pj_wt 99 = some (.initialized pj_m231.1.cls) := rfl
set_option maxRecDepth 100000 in
theorem pj_mwc231 : pj_wt 1797 = some (.instanceMethod pj_m231.1) := rfl
set_option maxRecDepth 100000 in
theorem pj_mwd231 : pj_wt 1798 = some (.selects pj_m231.1.cls pj_m231.1 pj_m231.1) := rfl
set_option maxRecDepth 100000 in
theorem pj_ml231 : pj_okm pj_m231 (0, 1) = true := pj_okm1 (pj_okq_s (M := pj_m231) pj_mwa231 pj_mwb231 (by decide +kernel)) pj_mwc231 (by decide +kernel) pj_mwd231 (by decide +kernel)
set_option maxRecDepth 100000 in
theorem pj_mn231 : plainName pj_m231.1.cls = true := pj_pl12
set_option maxRecDepth 100000 in
theorem pj_mr231 : pj_okRL pj_m231 = true := pj_okRG_s (M := pj_m231) pj_TH12 rfl (by decide +kernel)
set_option maxRecDepth 100000 in
theorem pj_mwa232 : pj_wt 1820 = some (.code pj_m232.1 pj_m232.2.1 pj_m232.2.2.1 pj_m232.2.2.2.1) := rfl
set_option maxRecDepth 100000 in
theorem pj_mwb232 : pj_wt 99 = some (.initialized pj_m232.1.cls) := rfl
set_option maxRecDepth 100000 in
theorem pj_mwc232 : pj_wt 1819 = some (.instanceMethod pj_m232.1) := rfl
set_option maxRecDepth 100000 in
theorem pj_mwd232 : pj_wt 59 = some (.selects pj_m232.1.cls pj_m232.1 pj_m232.1) := rfl
set_option maxRecDepth 100000 in
theorem pj_ml232 : pj_okm pj_m232 (2, 1) = true := pj_okm1 (pj_okq_s (M := pj_m232) pj_mwa232 pj_mwb232 (by decide +kernel)) pj_mwc232 (by decide +kernel) pj_mwd232 (by decide +kernel)
set_option maxRecDepth 100000 in
theorem pj_mn232 : plainName pj_m232.1.cls = true := pj_pl12
set_option maxRecDepth 100000 in
theorem pj_mr232 : pj_okRL pj_m232 = true := pj_okRG_s (M := pj_m232) pj_TH12 rfl (by decide +kernel)
set_option maxRecDepth 100000 in
theorem pj_mwa233 : pj_wt 1812 = some (.code pj_m233.1 pj_m233.2.1 pj_m233.2.2.1 pj_m233.2.2.2.1) := rfl
set_option maxRecDepth 100000 in
theorem pj_mwb233 : pj_wt 99 = some (.initialized pj_m233.1.cls) := rfl
set_option maxRecDepth 100000 in
theorem pj_mwc233 : pj_wt 1810 = some (.instanceMethod pj_m233.1) := rfl
set_option maxRecDepth 100000 in
theorem pj_mwd233 : pj_wt 1811 = some (.selects pj_m233.1.cls pj_m233.1 pj_m233.1) := rfl
set_option maxRecDepth 100000 in
theorem pj_ml233 : pj_okm pj_m233 (2, 1) = true := pj_okm1 (pj_okq_s (M := pj_m233) pj_mwa233 pj_mwb233 (by decide +kernel)) pj_mwc233 (by decide +kernel) pj_mwd233 (by decide +kernel)
set_option maxRecDepth 100000 in
theorem pj_mn233 : plainName pj_m233.1.cls = true := pj_pl12
set_option maxRecDepth 100000 in
theorem pj_mr233 : pj_okRL pj_m233 = true := pj_okRG_s (M := pj_m233) pj_TH12 rfl (by decide +kernel)
set_option maxRecDepth 100000 in
theorem pj_mwa234 : pj_wt 1824 = some (.code pj_m234.1 pj_m234.2.1 pj_m234.2.2.1 pj_m234.2.2.2.1) := rfl
set_option maxRecDepth 100000 in
theorem pj_mwb234 : pj_wt 99 = some (.initialized pj_m234.1.cls) := rfl
set_option maxRecDepth 100000 in
theorem pj_mwc234 : pj_wt 1822 = some (.instanceMethod pj_m234.1) := rfl
set_option maxRecDepth 100000 in
theorem pj_mwd234 : pj_wt 1823 = some (.selects pj_m234.1.cls pj_m234.1 pj_m234.1) := rfl
set_option maxRecDepth 100000 in
theorem pj_ml234 : pj_okm pj_m234 (1, 1) = true := pj_okm1 (pj_okq_s (M := pj_m234) pj_mwa234 pj_mwb234 (by decide +kernel)) pj_mwc234 (by decide +kernel) pj_mwd234 (by decide +kernel)
set_option maxRecDepth 100000 in
theorem pj_mn234 : plainName pj_m234.1.cls = true := pj_pl12
set_option maxRecDepth 100000 in
theorem pj_mr234 : pj_okRL pj_m234 = true := pj_okRG_s (M := pj_m234) pj_TH12 rfl (by decide +kernel)
set_option maxRecDepth 100000 in
theorem pj_mwa235 : pj_wt 1841 = some (.code pj_m235.1 pj_m235.2.1 pj_m235.2.2.1 pj_m235.2.2.2.1) := rfl
set_option maxRecDepth 100000 in
theorem pj_mwb235 : pj_wt 99 = some (.initialized pj_m235.1.cls) := rfl
set_option maxRecDepth 100000 in
theorem pj_mwc235 : pj_wt 1839 = some (.instanceMethod pj_m235.1) := rfl
set_option maxRecDepth 100000 in
theorem pj_mwd235 : pj_wt 1840 = some (.selects pj_m235.1.cls pj_m235.1 pj_m235.1) := rfl
set_option maxRecDepth 100000 in
theorem pj_ml235 : pj_okm pj_m235 (2, 1) = true := pj_okm1 (pj_okq_s (M := pj_m235) pj_mwa235 pj_mwb235 (by decide +kernel)) pj_mwc235 (by decide +kernel) pj_mwd235 (by decide +kernel)
set_option maxRecDepth 100000 in
theorem pj_mn235 : plainName pj_m235.1.cls = true := pj_pl12
set_option maxRecDepth 100000 in
theorem pj_mr235 : pj_okRL pj_m235 = true := pj_okRG_s (M := pj_m235) pj_TH12 rfl (by decide +kernel)
set_option maxRecDepth 100000 in
theorem pj_mwa236 : pj_wt 1857 = some (.code pj_m236.1 pj_m236.2.1 pj_m236.2.2.1 pj_m236.2.2.2.1) := rfl
set_option maxRecDepth 100000 in
theorem pj_mwb236 : pj_wt 99 = some (.initialized pj_m236.1.cls) := rfl
set_option maxRecDepth 100000 in
theorem pj_mwc236 : pj_wt 1856 = some (.instanceMethod pj_m236.1) := rfl
set_option maxRecDepth 100000 in
theorem pj_mwd236 : pj_wt 65 = some (.selects pj_m236.1.cls pj_m236.1 pj_m236.1) := rfl
set_option maxRecDepth 100000 in
theorem pj_ml236 : pj_okm pj_m236 (1, 1) = true := pj_okm1 (pj_okq_s (M := pj_m236) pj_mwa236 pj_mwb236 (by decide +kernel)) pj_mwc236 (by decide +kernel) pj_mwd236 (by decide +kernel)
set_option maxRecDepth 100000 in
theorem pj_mn236 : plainName pj_m236.1.cls = true := pj_pl12
set_option maxRecDepth 100000 in
theorem pj_mr236 : pj_okRL pj_m236 = true := pj_okRG_s (M := pj_m236) pj_TH12 rfl (by decide +kernel)
set_option maxRecDepth 100000 in
theorem pj_mwa237 : pj_wt 1853 = some (.code pj_m237.1 pj_m237.2.1 pj_m237.2.2.1 pj_m237.2.2.2.1) := rfl
set_option maxRecDepth 100000 in
theorem pj_mwb237 : pj_wt 99 = some (.initialized pj_m237.1.cls) := rfl
set_option maxRecDepth 100000 in
theorem pj_mwc237 : pj_wt 1852 = some (.instanceMethod pj_m237.1) := rfl
set_option maxRecDepth 100000 in
theorem pj_mwd237 : pj_wt 64 = some (.selects pj_m237.1.cls pj_m237.1 pj_m237.1) := rfl
set_option maxRecDepth 100000 in
theorem pj_ml237 : pj_okm pj_m237 (2, 1) = true := pj_okm1 (pj_okq_s (M := pj_m237) pj_mwa237 pj_mwb237 (by decide +kernel)) pj_mwc237 (by decide +kernel) pj_mwd237 (by decide +kernel)
set_option maxRecDepth 100000 in
theorem pj_mn237 : plainName pj_m237.1.cls = true := pj_pl12
set_option maxRecDepth 100000 in
theorem pj_mr237 : pj_okRL pj_m237 = true := pj_okRG_s (M := pj_m237) pj_TH12 rfl (by decide +kernel)
set_option maxRecDepth 100000 in
theorem pj_mwa238 : pj_wt 1861 = some (.code pj_m238.1 pj_m238.2.1 pj_m238.2.2.1 pj_m238.2.2.2.1) := rfl
set_option maxRecDepth 100000 in
theorem pj_mwb238 : pj_wt 99 = some (.initialized pj_m238.1.cls) := rfl
set_option maxRecDepth 100000 in
theorem pj_mwc238 : pj_wt 1860 = some (.instanceMethod pj_m238.1) := rfl
set_option maxRecDepth 100000 in
theorem pj_mwd238 : pj_wt 66 = some (.selects pj_m238.1.cls pj_m238.1 pj_m238.1) := rfl
set_option maxRecDepth 100000 in
theorem pj_ml238 : pj_okm pj_m238 (4, 1) = true := pj_okm1 (pj_okq_s (M := pj_m238) pj_mwa238 pj_mwb238 (by decide +kernel)) pj_mwc238 (by decide +kernel) pj_mwd238 (by decide +kernel)
set_option maxRecDepth 100000 in
theorem pj_mn238 : plainName pj_m238.1.cls = true := pj_pl12
set_option maxRecDepth 100000 in
theorem pj_mr238 : pj_okRL pj_m238 = true := pj_okRG_s (M := pj_m238) pj_TH12 rfl (by decide +kernel)
set_option maxRecDepth 100000 in
theorem pj_mwa239 : pj_wt 1849 = some (.code pj_m239.1 pj_m239.2.1 pj_m239.2.2.1 pj_m239.2.2.2.1) := rfl
set_option maxRecDepth 100000 in
theorem pj_mwb239 : pj_wt 99 = some (.initialized pj_m239.1.cls) := rfl
set_option maxRecDepth 100000 in
theorem pj_mwc239 : pj_wt 1848 = some (.instanceMethod pj_m239.1) := rfl
set_option maxRecDepth 100000 in
theorem pj_mwd239 : pj_wt 63 = some (.selects pj_m239.1.cls pj_m239.1 pj_m239.1) := rfl
set_option maxRecDepth 100000 in
theorem pj_ml239 : pj_okm pj_m239 (3, 1) = true := pj_okm1 (pj_okq_s (M := pj_m239) pj_mwa239 pj_mwb239 (by decide +kernel)) pj_mwc239 (by decide +kernel) pj_mwd239 (by decide +kernel)
set_option maxRecDepth 100000 in
theorem pj_mn239 : plainName pj_m239.1.cls = true := pj_pl12
set_option maxRecDepth 100000 in
theorem pj_mr239 : pj_okRL pj_m239 = true := pj_okRG_s (M := pj_m239) pj_TH12 rfl (by decide +kernel)
