set_option maxRecDepth 100000 in
theorem pj_ml155 : pj_okm pj_m155 (0, 1) = true := by decide +kernel
set_option maxRecDepth 100000 in
theorem pj_mn155 : plainName pj_m155.1.cls = true := pj_pl0
set_option maxRecDepth 100000 in
theorem pj_mr155 : pj_okRL pj_m155 = true := by decide +kernel
set_option maxRecDepth 100000 in
theorem pj_ml156 : pj_okm pj_m156 (2, 1) = true := by decide +kernel
set_option maxRecDepth 100000 in
theorem pj_mn156 : plainName pj_m156.1.cls = true := pj_pl0
set_option maxRecDepth 100000 in
theorem pj_mr156 : pj_okRL pj_m156 = true := by decide +kernel
set_option maxRecDepth 100000 in
theorem pj_ml157 : pj_okm pj_m157 (1, 1) = true := by decide +kernel
set_option maxRecDepth 100000 in
theorem pj_mn157 : plainName pj_m157.1.cls = true := pj_pl0
set_option maxRecDepth 100000 in
theorem pj_mr157 : pj_okRL pj_m157 = true := by decide +kernel
set_option maxRecDepth 100000 in
theorem pj_ml158 : pj_okm pj_m158 (1, 1) = true := by decide +kernel
set_option maxRecDepth 100000 in
theorem pj_mn158 : plainName pj_m158.1.cls = true := pj_pl0
set_option maxRecDepth 100000 in
theorem pj_mr158 : pj_okRL pj_m158 = true := by decide +kernel
set_option maxRecDepth 100000 in
theorem pj_ml159 : pj_okm pj_m159 (1, 1) = true := by decide +kernel
set_option maxRecDepth 100000 in
theorem pj_mn159 : plainName pj_m159.1.cls = true := pj_pl0
set_option maxRecDepth 100000 in
theorem pj_mr159 : pj_okRL pj_m159 = true := by decide +kernel
set_option maxRecDepth 100000 in
theorem pj_ml160 : pj_okm pj_m160 (0, 3) = true := by decide +kernel
set_option maxRecDepth 100000 in
theorem pj_mn160 : plainName pj_m160.1.cls = true := pj_pl0
set_option maxRecDepth 100000 in
theorem pj_mr160 : pj_okRL pj_m160 = true := by decide +kernel
set_option maxRecDepth 100000 in
theorem pj_ml161 : pj_okm pj_m161 (1, 1) = true := by decide +kernel
set_option maxRecDepth 100000 in
theorem pj_mn161 : plainName pj_m161.1.cls = true := pj_pl0
set_option maxRecDepth 100000 in
theorem pj_mr161 : pj_okRL pj_m161 = true := by decide +kernel
set_option maxRecDepth 100000 in
theorem pj_ml162 : pj_okm pj_m162 (1, 0) = true := by decide +kernel
set_option maxRecDepth 100000 in
theorem pj_mn162 : plainName pj_m162.1.cls = true := pj_pl0
set_option maxRecDepth 100000 in
theorem pj_mr162 : pj_okRL pj_m162 = true := by decide +kernel
set_option maxRecDepth 100000 in
theorem pj_ml163 : pj_okm pj_m163 (2, 0) = true := by decide +kernel
set_option maxRecDepth 100000 in
theorem pj_mn163 : plainName pj_m163.1.cls = true := pj_pl0
set_option maxRecDepth 100000 in
theorem pj_mr163 : pj_okRL pj_m163 = true := by decide +kernel
set_option maxRecDepth 100000 in
theorem pj_ml164 : pj_okm pj_m164 (2, 0) = true := by decide +kernel
set_option maxRecDepth 100000 in
theorem pj_mn164 : plainName pj_m164.1.cls = true := pj_pl0
set_option maxRecDepth 100000 in
theorem pj_mr164 : pj_okRL pj_m164 = true := by decide +kernel
set_option maxRecDepth 100000 in
theorem pj_ml165 : pj_okm pj_m165 (4, 0) = true := by decide +kernel
set_option maxRecDepth 100000 in
theorem pj_mn165 : plainName pj_m165.1.cls = true := pj_pl0
set_option maxRecDepth 100000 in
theorem pj_mr165 : pj_okRL pj_m165 = true := by decide +kernel
set_option maxRecDepth 100000 in
theorem pj_ml166 : pj_okm pj_m166 (3, 0) = true := by decide +kernel
set_option maxRecDepth 100000 in
theorem pj_mn166 : plainName pj_m166.1.cls = true := pj_pl0
set_option maxRecDepth 100000 in
theorem pj_mr166 : pj_okRL pj_m166 = true := by decide +kernel
set_option maxRecDepth 100000 in
theorem pj_ml167 : pj_okm pj_m167 (3, 0) = true := by decide +kernel
set_option maxRecDepth 100000 in
theorem pj_mn167 : plainName pj_m167.1.cls = true := pj_pl0
set_option maxRecDepth 100000 in
theorem pj_mr167 : pj_okRL pj_m167 = true := by decide +kernel
set_option maxRecDepth 100000 in
theorem pj_ml168 : pj_okm pj_m168 (0, 2) = true := by decide +kernel
set_option maxRecDepth 100000 in
theorem pj_mn168 : plainName pj_m168.1.cls = true := pj_pl12
set_option maxRecDepth 100000 in
theorem pj_mr168 : pj_okRL pj_m168 = true := by decide +kernel
set_option maxRecDepth 100000 in
theorem pj_ml169 : pj_okm pj_m169 (0, 1) = true := by decide +kernel
set_option maxRecDepth 100000 in
theorem pj_mn169 : plainName pj_m169.1.cls = true := pj_pl12
set_option maxRecDepth 100000 in
theorem pj_mr169 : pj_okRL pj_m169 = true := by decide +kernel
set_option maxRecDepth 100000 in
theorem pj_ml170 : pj_okm pj_m170 (3, 0) = true := by decide +kernel
set_option maxRecDepth 100000 in
theorem pj_mn170 : plainName pj_m170.1.cls = true := pj_pl12
set_option maxRecDepth 100000 in
theorem pj_mr170 : pj_okRL pj_m170 = true := by decide +kernel
set_option maxRecDepth 100000 in
theorem pj_ml171 : pj_okm pj_m171 (2, 0) = true := by decide +kernel
set_option maxRecDepth 100000 in
theorem pj_mn171 : plainName pj_m171.1.cls = true := pj_pl12
set_option maxRecDepth 100000 in
theorem pj_mr171 : pj_okRL pj_m171 = true := by decide +kernel
set_option maxRecDepth 100000 in
theorem pj_ml172 : pj_okm pj_m172 (1, 0) = true := by decide +kernel
set_option maxRecDepth 100000 in
theorem pj_mn172 : plainName pj_m172.1.cls = true := pj_pl12
set_option maxRecDepth 100000 in
theorem pj_mr172 : pj_okRL pj_m172 = true := by decide +kernel
set_option maxRecDepth 100000 in
theorem pj_ml173 : pj_okm pj_m173 (2, 0) = true := by decide +kernel
set_option maxRecDepth 100000 in
theorem pj_mn173 : plainName pj_m173.1.cls = true := pj_pl12
set_option maxRecDepth 100000 in
theorem pj_mr173 : pj_okRL pj_m173 = true := by decide +kernel
set_option maxRecDepth 100000 in
theorem pj_ml174 : pj_okm pj_m174 (1, 1) = true := by decide +kernel
set_option maxRecDepth 100000 in
theorem pj_mn174 : plainName pj_m174.1.cls = true := pj_pl12
set_option maxRecDepth 100000 in
theorem pj_mr174 : pj_okRL pj_m174 = true := by decide +kernel
set_option maxRecDepth 100000 in
theorem pj_ml175 : pj_okm pj_m175 (1, 1) = true := by decide +kernel
set_option maxRecDepth 100000 in
theorem pj_mn175 : plainName pj_m175.1.cls = true := pj_pl12
set_option maxRecDepth 100000 in
theorem pj_mr175 : pj_okRL pj_m175 = true := by decide +kernel
set_option maxRecDepth 100000 in
theorem pj_ml176 : pj_okm pj_m176 (1, 1) = true := by decide +kernel
set_option maxRecDepth 100000 in
theorem pj_mn176 : plainName pj_m176.1.cls = true := pj_pl12
set_option maxRecDepth 100000 in
theorem pj_mr176 : pj_okRL pj_m176 = true := by decide +kernel
set_option maxRecDepth 100000 in
theorem pj_ml177 : pj_okm pj_m177 (1, 1) = true := by decide +kernel
set_option maxRecDepth 100000 in
theorem pj_mn177 : plainName pj_m177.1.cls = true := pj_pl12
set_option maxRecDepth 100000 in
theorem pj_mr177 : pj_okRL pj_m177 = true := by decide +kernel
set_option maxRecDepth 100000 in
theorem pj_ml178 : pj_okm pj_m178 (1, 1) = true := by decide +kernel
set_option maxRecDepth 100000 in
theorem pj_mn178 : plainName pj_m178.1.cls = true := pj_pl12
set_option maxRecDepth 100000 in
theorem pj_mr178 : pj_okRL pj_m178 = true := by decide +kernel
set_option maxRecDepth 100000 in
theorem pj_ml179 : pj_okm pj_m179 (1, 1) = true := by decide +kernel
set_option maxRecDepth 100000 in
theorem pj_mn179 : plainName pj_m179.1.cls = true := pj_pl12
set_option maxRecDepth 100000 in
theorem pj_mr179 : pj_okRL pj_m179 = true := by decide +kernel
set_option maxRecDepth 100000 in
theorem pj_ml180 : pj_okm pj_m180 (1, 1) = true := by decide +kernel
set_option maxRecDepth 100000 in
theorem pj_mn180 : plainName pj_m180.1.cls = true := pj_pl12
set_option maxRecDepth 100000 in
theorem pj_mr180 : pj_okRL pj_m180 = true := by decide +kernel
set_option maxRecDepth 100000 in
theorem pj_ml181 : pj_okm pj_m181 (1, 1) = true := by decide +kernel
set_option maxRecDepth 100000 in
theorem pj_mn181 : plainName pj_m181.1.cls = true := pj_pl12
set_option maxRecDepth 100000 in
theorem pj_mr181 : pj_okRL pj_m181 = true := by decide +kernel
set_option maxRecDepth 100000 in
theorem pj_ml182 : pj_okm pj_m182 (1, 1) = true := by decide +kernel
set_option maxRecDepth 100000 in
theorem pj_mn182 : plainName pj_m182.1.cls = true := pj_pl12
set_option maxRecDepth 100000 in
theorem pj_mr182 : pj_okRL pj_m182 = true := by decide +kernel
set_option maxRecDepth 100000 in
theorem pj_ml183 : pj_okm pj_m183 (0, 1) = true := by decide +kernel
set_option maxRecDepth 100000 in
theorem pj_mn183 : plainName pj_m183.1.cls = true := pj_pl12
set_option maxRecDepth 100000 in
theorem pj_mr183 : pj_okRL pj_m183 = true := by decide +kernel
set_option maxRecDepth 100000 in
theorem pj_ml184 : pj_okm pj_m184 (1, 1) = true := by decide +kernel
set_option maxRecDepth 100000 in
theorem pj_mn184 : plainName pj_m184.1.cls = true := pj_pl12
set_option maxRecDepth 100000 in
theorem pj_mr184 : pj_okRL pj_m184 = true := by decide +kernel
set_option maxRecDepth 100000 in
theorem pj_ml185 : pj_okm pj_m185 (1, 1) = true := by decide +kernel
set_option maxRecDepth 100000 in
theorem pj_mn185 : plainName pj_m185.1.cls = true := pj_pl12
set_option maxRecDepth 100000 in
theorem pj_mr185 : pj_okRL pj_m185 = true := by decide +kernel
set_option maxRecDepth 100000 in
theorem pj_ml186 : pj_okm pj_m186 (1, 1) = true := by decide +kernel
set_option maxRecDepth 100000 in
theorem pj_mn186 : plainName pj_m186.1.cls = true := pj_pl12
set_option maxRecDepth 100000 in
theorem pj_mr186 : pj_okRL pj_m186 = true := by decide +kernel
set_option maxRecDepth 100000 in
theorem pj_ml187 : pj_okm pj_m187 (1, 1) = true := by decide +kernel
set_option maxRecDepth 100000 in
theorem pj_mn187 : plainName pj_m187.1.cls = true := pj_pl12
set_option maxRecDepth 100000 in
theorem pj_mr187 : pj_okRL pj_m187 = true := by decide +kernel
set_option maxRecDepth 100000 in
theorem pj_ml188 : pj_okm pj_m188 (3, 1) = true := by decide +kernel
set_option maxRecDepth 100000 in
theorem pj_mn188 : plainName pj_m188.1.cls = true := pj_pl12
set_option maxRecDepth 100000 in
theorem pj_mr188 : pj_okRL pj_m188 = true := by decide +kernel
set_option maxRecDepth 100000 in
theorem pj_ml189 : pj_okm pj_m189 (1, 1) = true := by decide +kernel
set_option maxRecDepth 100000 in
theorem pj_mn189 : plainName pj_m189.1.cls = true := pj_pl12
set_option maxRecDepth 100000 in
theorem pj_mr189 : pj_okRL pj_m189 = true := by decide +kernel
