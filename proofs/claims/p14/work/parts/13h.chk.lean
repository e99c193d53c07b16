set_option maxRecDepth 100000 in
theorem pj_ml190 : pj_okm pj_m190 (0, 1) = true := by decide +kernel
set_option maxRecDepth 100000 in
theorem pj_mn190 : plainName pj_m190.1.cls = true := pj_pl12
set_option maxRecDepth 100000 in
theorem pj_mr190 : pj_okRL pj_m190 = true := by decide +kernel
set_option maxRecDepth 100000 in
theorem pj_ml191 : pj_okm pj_m191 (0, 1) = true := by decide +kernel
set_option maxRecDepth 100000 in
theorem pj_mn191 : plainName pj_m191.1.cls = true := pj_pl12
set_option maxRecDepth 100000 in
theorem pj_mr191 : pj_okRL pj_m191 = true := by decide +kernel
set_option maxRecDepth 100000 in
theorem pj_ml192 : pj_okm pj_m192 (0, 1) = true := by decide +kernel
set_option maxRecDepth 100000 in
theorem pj_mn192 : plainName pj_m192.1.cls = true := pj_pl12
set_option maxRecDepth 100000 in
theorem pj_mr192 : pj_okRL pj_m192 = true := by decide +kernel
set_option maxRecDepth 100000 in
theorem pj_ml193 : pj_okm pj_m193 (1, 1) = true := by decide +kernel
set_option maxRecDepth 100000 in
theorem pj_mn193 : plainName pj_m193.1.cls = true := pj_pl12
set_option maxRecDepth 100000 in
theorem pj_mr193 : pj_okRL pj_m193 = true := by decide +kernel
set_option maxRecDepth 100000 in
theorem pj_ml194 : pj_okm pj_m194 (1, 1) = true := by decide +kernel
set_option maxRecDepth 100000 in
theorem pj_mn194 : plainName pj_m194.1.cls = true := pj_pl12
set_option maxRecDepth 100000 in
theorem pj_mr194 : pj_okRL pj_m194 = true := by decide +kernel
set_option maxRecDepth 100000 in
theorem pj_ml195 : pj_okm pj_m195 (0, 1) = true := by decide +kernel
set_option maxRecDepth 100000 in
theorem pj_mn195 : plainName pj_m195.1.cls = true := pj_pl12
set_option maxRecDepth 100000 in
theorem pj_mr195 : pj_okRL pj_m195 = true := by decide +kernel
set_option maxRecDepth 100000 in
theorem pj_ml196 : pj_okm pj_m196 (0, 1) = true := by decide +kernel
set_option maxRecDepth 100000 in
theorem pj_mn196 : plainName pj_m196.1.cls = true := pj_pl12
set_option maxRecDepth 100000 in
theorem pj_mr196 : pj_okRL pj_m196 = true := by decide +kernel
set_option maxRecDepth 100000 in
theorem pj_ml197 : pj_okm pj_m197 (1, 1) = true := by decide +kernel
set_option maxRecDepth 100000 in
theorem pj_mn197 : plainName pj_m197.1.cls = true := pj_pl12
set_option maxRecDepth 100000 in
theorem pj_mr197 : pj_okRL pj_m197 = true := by decide +kernel
set_option maxRecDepth 100000 in
theorem pj_ml198 : pj_okm pj_m198 (0, 1) = true := by decide +kernel
set_option maxRecDepth 100000 in
theorem pj_mn198 : plainName pj_m198.1.cls = true := pj_pl12
set_option maxRecDepth 100000 in
theorem pj_mr198 : pj_okRL pj_m198 = true := by decide +kernel
set_option maxRecDepth 100000 in
theorem pj_ml199 : pj_okm pj_m199 (1, 1) = true := by decide +kernel
set_option maxRecDepth 100000 in
theorem pj_mn199 : plainName pj_m199.1.cls = true := pj_pl12
set_option maxRecDepth 100000 in
theorem pj_mr199 : pj_okRL pj_m199 = true := by decide +kernel
set_option maxRecDepth 100000 in
theorem pj_ml200 : pj_okm pj_m200 (0, 1) = true := by decide +kernel
set_option maxRecDepth 100000 in
theorem pj_mn200 : plainName pj_m200.1.cls = true := pj_pl12
set_option maxRecDepth 100000 in
theorem pj_mr200 : pj_okRL pj_m200 = true := by decide +kernel
set_option maxRecDepth 100000 in
theorem pj_ml201 : pj_okm pj_m201 (3, 0) = true := by decide +kernel
set_option maxRecDepth 100000 in
theorem pj_mn201 : plainName pj_m201.1.cls = true := pj_pl12
set_option maxRecDepth 100000 in
theorem pj_mr201 : pj_okRL pj_m201 = true := by decide +kernel
set_option maxRecDepth 100000 in
theorem pj_ml202 : pj_okm pj_m202 (0, 1) = true := by decide +kernel
set_option maxRecDepth 100000 in
theorem pj_mn202 : plainName pj_m202.1.cls = true := pj_pl12
set_option maxRecDepth 100000 in
theorem pj_mr202 : pj_okRL pj_m202 = true := by decide +kernel
set_option maxRecDepth 100000 in
theorem pj_ml203 : pj_okm pj_m203 (1, 1) = true := by decide +kernel
set_option maxRecDepth 100000 in
theorem pj_mn203 : plainName pj_m203.1.cls = true := pj_pl12
set_option maxRecDepth 100000 in
theorem pj_mr203 : pj_okRL pj_m203 = true := by decide +kernel
