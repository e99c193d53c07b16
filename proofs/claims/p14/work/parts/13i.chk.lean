set_option maxRecDepth 100000 in
theorem pj_ml204 : pj_okm pj_m204 (2, 1) = true := by decide +kernel
set_option maxRecDepth 100000 in
theorem pj_mn204 : plainName pj_m204.1.cls = true := pj_pl12
set_option maxRecDepth 100000 in
theorem pj_mr204 : pj_okRL pj_m204 = true := by decide +kernel
set_option maxRecDepth 100000 in
theorem pj_ml205 : pj_okm pj_m205 (2, 1) = true := by decide +kernel
set_option maxRecDepth 100000 in
theorem pj_mn205 : plainName pj_m205.1.cls = true := pj_pl12
set_option maxRecDepth 100000 in
theorem pj_mr205 : pj_okRL pj_m205 = true := by decide +kernel
set_option maxRecDepth 100000 in
theorem pj_ml206 : pj_okm pj_m206 (2, 1) = true := by decide +kernel
set_option maxRecDepth 100000 in
theorem pj_mn206 : plainName pj_m206.1.cls = true := pj_pl12
set_option maxRecDepth 100000 in
theorem pj_mr206 : pj_okRL pj_m206 = true := by decide +kernel
set_option maxRecDepth 100000 in
theorem pj_ml207 : pj_okm pj_m207 (2, 1) = true := by decide +kernel
set_option maxRecDepth 100000 in
theorem pj_mn207 : plainName pj_m207.1.cls = true := pj_pl12
set_option maxRecDepth 100000 in
theorem pj_mr207 : pj_okRL pj_m207 = true := by decide +kernel
set_option maxRecDepth 100000 in
theorem pj_ml208 : pj_okm pj_m208 (2, 1) = true := by decide +kernel
set_option maxRecDepth 100000 in
theorem pj_mn208 : plainName pj_m208.1.cls = true := pj_pl12
set_option maxRecDepth 100000 in
theorem pj_mr208 : pj_okRL pj_m208 = true := by decide +kernel
set_option maxRecDepth 100000 in
theorem pj_ml209 : pj_okm pj_m209 (1, 1) = true := by decide +kernel
set_option maxRecDepth 100000 in
theorem pj_mn209 : plainName pj_m209.1.cls = true := pj_pl12
set_option maxRecDepth 100000 in
theorem pj_mr209 : pj_okRL pj_m209 = true := by decide +kernel
set_option maxRecDepth 100000 in
theorem pj_ml210 : pj_okm pj_m210 (2, 1) = true := by decide +kernel
set_option maxRecDepth 100000 in
theorem pj_mn210 : plainName pj_m210.1.cls = true := pj_pl12
set_option maxRecDepth 100000 in
theorem pj_mr210 : pj_okRL pj_m210 = true := by decide +kernel
set_option maxRecDepth 100000 in
theorem pj_ml211 : pj_okm pj_m211 (2, 1) = true := by decide +kernel
set_option maxRecDepth 100000 in
theorem pj_mn211 : plainName pj_m211.1.cls = true := pj_pl12
set_option maxRecDepth 100000 in
theorem pj_mr211 : pj_okRL pj_m211 = true := by decide +kernel
set_option maxRecDepth 100000 in
theorem pj_ml212 : pj_okm pj_m212 (2, 1) = true := by decide +kernel
set_option maxRecDepth 100000 in
theorem pj_mn212 : plainName pj_m212.1.cls = true := pj_pl12
set_option maxRecDepth 100000 in
theorem pj_mr212 : pj_okRL pj_m212 = true := by decide +kernel
set_option maxRecDepth 100000 in
theorem pj_ml213 : pj_okm pj_m213 (4, 1) = true := by decide +kernel
set_option maxRecDepth 100000 in
theorem pj_mn213 : plainName pj_m213.1.cls = true := pj_pl12
set_option maxRecDepth 100000 in
theorem pj_mr213 : pj_okRL pj_m213 = true := by decide +kernel
set_option maxRecDepth 100000 in
theorem pj_ml214 : pj_okm pj_m214 (0, 1) = true := by decide +kernel
set_option maxRecDepth 100000 in
theorem pj_mn214 : plainName pj_m214.1.cls = true := pj_pl12
set_option maxRecDepth 100000 in
theorem pj_mr214 : pj_okRL pj_m214 = true := by decide +kernel
set_option maxRecDepth 100000 in
theorem pj_ml215 : pj_okm pj_m215 (1, 1) = true := by decide +kernel
set_option maxRecDepth 100000 in
theorem pj_mn215 : plainName pj_m215.1.cls = true := pj_pl12
set_option maxRecDepth 100000 in
theorem pj_mr215 : pj_okRL pj_m215 = true := by decide +kernel
set_option maxRecDepth 100000 in
theorem pj_ml216 : pj_okm pj_m216 (1, 1) = true := by decide +kernel
set_option maxRecDepth 100000 in
theorem pj_mn216 : plainName pj_m216.1.cls = true := pj_pl12
set_option maxRecDepth 100000 in
theorem pj_mr216 : pj_okRL pj_m216 = true := by decide +kernel
set_option maxRecDepth 100000 in
theorem pj_ml217 : pj_okm pj_m217 (0, 1) = true := by decide +kernel
set_option maxRecDepth 100000 in
theorem pj_mn217 : plainName pj_m217.1.cls = true := pj_pl12
set_option maxRecDepth 100000 in
theorem pj_mr217 : pj_okRL pj_m217 = true := by decide +kernel
set_option maxRecDepth 100000 in
theorem pj_ml218 : pj_okm pj_m218 (2, 1) = true := by decide +kernel
set_option maxRecDepth 100000 in
theorem pj_mn218 : plainName pj_m218.1.cls = true := pj_pl12
set_option maxRecDepth 100000 in
theorem pj_mr218 : pj_okRL pj_m218 = true := by decide +kernel
set_option maxRecDepth 100000 in
theorem pj_ml219 : pj_okm pj_m219 (2, 1) = true := by decide +kernel
set_option maxRecDepth 100000 in
theorem pj_mn219 : plainName pj_m219.1.cls = true := pj_pl12
set_option maxRecDepth 100000 in
theorem pj_mr219 : pj_okRL pj_m219 = true := by decide +kernel
set_option maxRecDepth 100000 in
theorem pj_ml220 : pj_okm pj_m220 (2, 1) = true := by decide +kernel
set_option maxRecDepth 100000 in
theorem pj_mn220 : plainName pj_m220.1.cls = true := pj_pl12
set_option maxRecDepth 100000 in
theorem pj_mr220 : pj_okRL pj_m220 = true := by decide +kernel
set_option maxRecDepth 100000 in
theorem pj_ml221 : pj_okm pj_m221 (2, 1) = true := by decide +kernel
set_option maxRecDepth 100000 in
theorem pj_mn221 : plainName pj_m221.1.cls = true := pj_pl12
set_option maxRecDepth 100000 in
theorem pj_mr221 : pj_okRL pj_m221 = true := by decide +kernel
set_option maxRecDepth 100000 in
theorem pj_ml222 : pj_okm pj_m222 (2, 1) = true := by decide +kernel
set_option maxRecDepth 100000 in
theorem pj_mn222 : plainName pj_m222.1.cls = true := pj_pl12
set_option maxRecDepth 100000 in
theorem pj_mr222 : pj_okRL pj_m222 = true := by decide +kernel
set_option maxRecDepth 100000 in
theorem pj_ml223 : pj_okm pj_m223 (0, 1) = true := by decide +kernel
set_option maxRecDepth 100000 in
theorem pj_mn223 : plainName pj_m223.1.cls = true := pj_pl12
set_option maxRecDepth 100000 in
theorem pj_mr223 : pj_okRL pj_m223 = true := by decide +kernel
