set_option maxRecDepth 100000 in
theorem pj_mk155 : pj_okR pj_prog pj_m155 = true := by decide +kernel
set_option maxRecDepth 100000 in
theorem pj_mk156 : pj_okR pj_prog pj_m156 = true := by decide +kernel
set_option maxRecDepth 100000 in
theorem pj_mk157 : pj_okR pj_prog pj_m157 = true := by decide +kernel
set_option maxRecDepth 100000 in
theorem pj_mk158 : pj_okR pj_prog pj_m158 = true := by decide +kernel
set_option maxRecDepth 100000 in
theorem pj_mk159 : pj_okR pj_prog pj_m159 = true := by decide +kernel
set_option maxRecDepth 100000 in
theorem pj_mk160 : pj_okR pj_prog pj_m160 = true := by decide +kernel
set_option maxRecDepth 100000 in
theorem pj_mk161 : pj_okR pj_prog pj_m161 = true := by decide +kernel
set_option maxRecDepth 100000 in
theorem pj_mk162 : pj_okR pj_prog pj_m162 = true := by decide +kernel
set_option maxRecDepth 100000 in
theorem pj_mk163 : pj_okR pj_prog pj_m163 = true := by decide +kernel
set_option maxRecDepth 100000 in
theorem pj_mk164 : pj_okR pj_prog pj_m164 = true := by decide +kernel
set_option maxRecDepth 100000 in
theorem pj_mk165 : pj_okR pj_prog pj_m165 = true := by decide +kernel
set_option maxRecDepth 100000 in
theorem pj_mk166 : pj_okR pj_prog pj_m166 = true := by decide +kernel
set_option maxRecDepth 100000 in
theorem pj_mk167 : pj_okR pj_prog pj_m167 = true := by decide +kernel
set_option maxRecDepth 100000 in
theorem pj_mk168 : pj_okR pj_prog pj_m168 = true := by decide +kernel
set_option maxRecDepth 100000 in
theorem pj_mk169 : pj_okR pj_prog pj_m169 = true := by decide +kernel
set_option maxRecDepth 100000 in
theorem pj_mk170 : pj_okR pj_prog pj_m170 = true := by decide +kernel
set_option maxRecDepth 100000 in
theorem pj_mk171 : pj_okR pj_prog pj_m171 = true := by decide +kernel
set_option maxRecDepth 100000 in
theorem pj_mk172 : pj_okR pj_prog pj_m172 = true := by decide +kernel
set_option maxRecDepth 100000 in
theorem pj_mk173 : pj_okR pj_prog pj_m173 = true := by decide +kernel
set_option maxRecDepth 100000 in
theorem pj_mk174 : pj_okR pj_prog pj_m174 = true := by decide +kernel
set_option maxRecDepth 100000 in
theorem pj_mk175 : pj_okR pj_prog pj_m175 = true := by decide +kernel
set_option maxRecDepth 100000 in
theorem pj_mk176 : pj_okR pj_prog pj_m176 = true := by decide +kernel
set_option maxRecDepth 100000 in
theorem pj_mk177 : pj_okR pj_prog pj_m177 = true := by decide +kernel
set_option maxRecDepth 100000 in
theorem pj_mk178 : pj_okR pj_prog pj_m178 = true := by decide +kernel
set_option maxRecDepth 100000 in
theorem pj_mk179 : pj_okR pj_prog pj_m179 = true := by decide +kernel
set_option maxRecDepth 100000 in
theorem pj_mk180 : pj_okR pj_prog pj_m180 = true := by decide +kernel
set_option maxRecDepth 100000 in
theorem pj_mk181 : pj_okR pj_prog pj_m181 = true := by decide +kernel
set_option maxRecDepth 100000 in
theorem pj_mk182 : pj_okR pj_prog pj_m182 = true := by decide +kernel
set_option maxRecDepth 100000 in
theorem pj_mk183 : pj_okR pj_prog pj_m183 = true := by decide +kernel
set_option maxRecDepth 100000 in
theorem pj_mk184 : pj_okR pj_prog pj_m184 = true := by decide +kernel
set_option maxRecDepth 100000 in
theorem pj_mk185 : pj_okR pj_prog pj_m185 = true := by decide +kernel
set_option maxRecDepth 100000 in
theorem pj_mk186 : pj_okR pj_prog pj_m186 = true := by decide +kernel
set_option maxRecDepth 100000 in
theorem pj_mk187 : pj_okR pj_prog pj_m187 = true := by decide +kernel
set_option maxRecDepth 100000 in
theorem pj_mk188 : pj_okR pj_prog pj_m188 = true := by decide +kernel
set_option maxRecDepth 100000 in
theorem pj_mk189 : pj_okR pj_prog pj_m189 = true := by decide +kernel
