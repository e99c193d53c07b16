set_option maxRecDepth 100000 in
theorem pj_h291 : ∀ p ∈ pj_pm.drop 291, pj_okm p.1 p.2 = true := fun p h => absurd (show p ∈ ([] : List (pj_M × Nat × Nat)) from h) List.not_mem_nil
set_option maxRecDepth 100000 in
theorem pj_h290 : ∀ p ∈ pj_pm.drop 290, pj_okm p.1 p.2 = true := fun p h => (List.mem_cons.mp (show p ∈ (pj_m290, 1, 1) :: pj_pm.drop 291 from h)).elim (fun e => e ▸ pj_ml290) (pj_h291 p)
set_option maxRecDepth 100000 in
theorem pj_h289 : ∀ p ∈ pj_pm.drop 289, pj_okm p.1 p.2 = true := fun p h => (List.mem_cons.mp (show p ∈ (pj_m289, 1, 1) :: pj_pm.drop 290 from h)).elim (fun e => e ▸ pj_ml289) (pj_h290 p)
set_option maxRecDepth 100000 in
theorem pj_h288 : ∀ p ∈ pj_pm.drop 288, pj_okm p.1 p.2 = true := fun p h => (List.mem_cons.mp (show p ∈ (pj_m288, 0, 1) :: pj_pm.drop 289 from h)).elim (fun e => e ▸ pj_ml288) (pj_h289 p)
set_option maxRecDepth 100000 in
theorem pj_h287 : ∀ p ∈ pj_pm.drop 287, pj_okm p.1 p.2 = true := fun p h => (List.mem_cons.mp (show p ∈ (pj_m287, 1, 0) :: pj_pm.drop 288 from h)).elim (fun e => e ▸ pj_ml287) (pj_h288 p)
set_option maxRecDepth 100000 in
theorem pj_h286 : ∀ p ∈ pj_pm.drop 286, pj_okm p.1 p.2 = true := fun p h => (List.mem_cons.mp (show p ∈ (pj_m286, 1, 0) :: pj_pm.drop 287 from h)).elim (fun e => e ▸ pj_ml286) (pj_h287 p)
set_option maxRecDepth 100000 in
theorem pj_h285 : ∀ p ∈ pj_pm.drop 285, pj_okm p.1 p.2 = true := fun p h => (List.mem_cons.mp (show p ∈ (pj_m285, 1, 1) :: pj_pm.drop 286 from h)).elim (fun e => e ▸ pj_ml285) (pj_h286 p)
set_option maxRecDepth 100000 in
theorem pj_h284 : ∀ p ∈ pj_pm.drop 284, pj_okm p.1 p.2 = true := fun p h => (List.mem_cons.mp (show p ∈ (pj_m284, 1, 1) :: pj_pm.drop 285 from h)).elim (fun e => e ▸ pj_ml284) (pj_h285 p)
set_option maxRecDepth 100000 in
theorem pj_h283 : ∀ p ∈ pj_pm.drop 283, pj_okm p.1 p.2 = true := fun p h => (List.mem_cons.mp (show p ∈ (pj_m283, 1, 1) :: pj_pm.drop 284 from h)).elim (fun e => e ▸ pj_ml283) (pj_h284 p)
set_option maxRecDepth 100000 in
theorem pj_h282 : ∀ p ∈ pj_pm.drop 282, pj_okm p.1 p.2 = true := fun p h => (List.mem_cons.mp (show p ∈ (pj_m282, 1, 1) :: pj_pm.drop 283 from h)).elim (fun e => e ▸ pj_ml282) (pj_h283 p)
set_option maxRecDepth 100000 in
theorem pj_h281 : ∀ p ∈ pj_pm.drop 281, pj_okm p.1 p.2 = true := fun p h => (List.mem_cons.mp (show p ∈ (pj_m281, 1, 1) :: pj_pm.drop 282 from h)).elim (fun e => e ▸ pj_ml281) (pj_h282 p)
set_option maxRecDepth 100000 in
theorem pj_h280 : ∀ p ∈ pj_pm.drop 280, pj_okm p.1 p.2 = true := fun p h => (List.mem_cons.mp (show p ∈ (pj_m280, 2, 1) :: pj_pm.drop 281 from h)).elim (fun e => e ▸ pj_ml280) (pj_h281 p)
set_option maxRecDepth 100000 in
theorem pj_h279 : ∀ p ∈ pj_pm.drop 279, pj_okm p.1 p.2 = true := fun p h => (List.mem_cons.mp (show p ∈ (pj_m279, 1, 1) :: pj_pm.drop 280 from h)).elim (fun e => e ▸ pj_ml279) (pj_h280 p)
set_option maxRecDepth 100000 in
theorem pj_h278 : ∀ p ∈ pj_pm.drop 278, pj_okm p.1 p.2 = true := fun p h => (List.mem_cons.mp (show p ∈ (pj_m278, 0, 1) :: pj_pm.drop 279 from h)).elim (fun e => e ▸ pj_ml278) (pj_h279 p)
set_option maxRecDepth 100000 in
theorem pj_h277 : ∀ p ∈ pj_pm.drop 277, pj_okm p.1 p.2 = true := fun p h => (List.mem_cons.mp (show p ∈ (pj_m277, 0, 1) :: pj_pm.drop 278 from h)).elim (fun e => e ▸ pj_ml277) (pj_h278 p)
set_option maxRecDepth 100000 in
theorem pj_h276 : ∀ p ∈ pj_pm.drop 276, pj_okm p.1 p.2 = true := fun p h => (List.mem_cons.mp (show p ∈ (pj_m276, 1, 1) :: pj_pm.drop 277 from h)).elim (fun e => e ▸ pj_ml276) (pj_h277 p)
set_option maxRecDepth 100000 in
theorem pj_h275 : ∀ p ∈ pj_pm.drop 275, pj_okm p.1 p.2 = true := fun p h => (List.mem_cons.mp (show p ∈ (pj_m275, 1, 1) :: pj_pm.drop 276 from h)).elim (fun e => e ▸ pj_ml275) (pj_h276 p)
set_option maxRecDepth 100000 in
theorem pj_h274 : ∀ p ∈ pj_pm.drop 274, pj_okm p.1 p.2 = true := fun p h => (List.mem_cons.mp (show p ∈ (pj_m274, 3, 0) :: pj_pm.drop 275 from h)).elim (fun e => e ▸ pj_ml274) (pj_h275 p)
set_option maxRecDepth 100000 in
theorem pj_h273 : ∀ p ∈ pj_pm.drop 273, pj_okm p.1 p.2 = true := fun p h => (List.mem_cons.mp (show p ∈ (pj_m273, 3, 0) :: pj_pm.drop 274 from h)).elim (fun e => e ▸ pj_ml273) (pj_h274 p)
set_option maxRecDepth 100000 in
theorem pj_h272 : ∀ p ∈ pj_pm.drop 272, pj_okm p.1 p.2 = true := fun p h => (List.mem_cons.mp (show p ∈ (pj_m272, 3, 1) :: pj_pm.drop 273 from h)).elim (fun e => e ▸ pj_ml272) (pj_h273 p)
set_option maxRecDepth 100000 in
theorem pj_h271 : ∀ p ∈ pj_pm.drop 271, pj_okm p.1 p.2 = true := fun p h => (List.mem_cons.mp (show p ∈ (pj_m271, 4, 1) :: pj_pm.drop 272 from h)).elim (fun e => e ▸ pj_ml271) (pj_h272 p)
set_option maxRecDepth 100000 in
theorem pj_h270 : ∀ p ∈ pj_pm.drop 270, pj_okm p.1 p.2 = true := fun p h => (List.mem_cons.mp (show p ∈ (pj_m270, 3, 1) :: pj_pm.drop 271 from h)).elim (fun e => e ▸ pj_ml270) (pj_h271 p)
set_option maxRecDepth 100000 in
theorem pj_h269 : ∀ p ∈ pj_pm.drop 269, pj_okm p.1 p.2 = true := fun p h => (List.mem_cons.mp (show p ∈ (pj_m269, 4, 1) :: pj_pm.drop 270 from h)).elim (fun e => e ▸ pj_ml269) (pj_h270 p)
set_option maxRecDepth 100000 in
theorem pj_h268 : ∀ p ∈ pj_pm.drop 268, pj_okm p.1 p.2 = true := fun p h => (List.mem_cons.mp (show p ∈ (pj_m268, 0, 1) :: pj_pm.drop 269 from h)).elim (fun e => e ▸ pj_ml268) (pj_h269 p)
set_option maxRecDepth 100000 in
theorem pj_h267 : ∀ p ∈ pj_pm.drop 267, pj_okm p.1 p.2 = true := fun p h => (List.mem_cons.mp (show p ∈ (pj_m267, 0, 1) :: pj_pm.drop 268 from h)).elim (fun e => e ▸ pj_ml267) (pj_h268 p)
set_option maxRecDepth 100000 in
theorem pj_h266 : ∀ p ∈ pj_pm.drop 266, pj_okm p.1 p.2 = true := fun p h => (List.mem_cons.mp (show p ∈ (pj_m266, 0, 1) :: pj_pm.drop 267 from h)).elim (fun e => e ▸ pj_ml266) (pj_h267 p)
set_option maxRecDepth 100000 in
theorem pj_h265 : ∀ p ∈ pj_pm.drop 265, pj_okm p.1 p.2 = true := fun p h => (List.mem_cons.mp (show p ∈ (pj_m265, 3, 1) :: pj_pm.drop 266 from h)).elim (fun e => e ▸ pj_ml265) (pj_h266 p)
set_option maxRecDepth 100000 in
theorem pj_h264 : ∀ p ∈ pj_pm.drop 264, pj_okm p.1 p.2 = true := fun p h => (List.mem_cons.mp (show p ∈ (pj_m264, 0, 1) :: pj_pm.drop 265 from h)).elim (fun e => e ▸ pj_ml264) (pj_h265 p)
set_option maxRecDepth 100000 in
theorem pj_h263 : ∀ p ∈ pj_pm.drop 263, pj_okm p.1 p.2 = true := fun p h => (List.mem_cons.mp (show p ∈ (pj_m263, 3, 1) :: pj_pm.drop 264 from h)).elim (fun e => e ▸ pj_ml263) (pj_h264 p)
set_option maxRecDepth 100000 in
theorem pj_h262 : ∀ p ∈ pj_pm.drop 262, pj_okm p.1 p.2 = true := fun p h => (List.mem_cons.mp (show p ∈ (pj_m262, 1, 0) :: pj_pm.drop 263 from h)).elim (fun e => e ▸ pj_ml262) (pj_h263 p)
set_option maxRecDepth 100000 in
theorem pj_h261 : ∀ p ∈ pj_pm.drop 261, pj_okm p.1 p.2 = true := fun p h => (List.mem_cons.mp (show p ∈ (pj_m261, 3, 1) :: pj_pm.drop 262 from h)).elim (fun e => e ▸ pj_ml261) (pj_h262 p)
set_option maxRecDepth 100000 in
theorem pj_h260 : ∀ p ∈ pj_pm.drop 260, pj_okm p.1 p.2 = true := fun p h => (List.mem_cons.mp (show p ∈ (pj_m260, 4, 1) :: pj_pm.drop 261 from h)).elim (fun e => e ▸ pj_ml260) (pj_h261 p)
set_option maxRecDepth 100000 in
theorem pj_h259 : ∀ p ∈ pj_pm.drop 259, pj_okm p.1 p.2 = true := fun p h => (List.mem_cons.mp (show p ∈ (pj_m259, 1, 1) :: pj_pm.drop 260 from h)).elim (fun e => e ▸ pj_ml259) (pj_h260 p)
set_option maxRecDepth 100000 in
theorem pj_h258 : ∀ p ∈ pj_pm.drop 258, pj_okm p.1 p.2 = true := fun p h => (List.mem_cons.mp (show p ∈ (pj_m258, 3, 1) :: pj_pm.drop 259 from h)).elim (fun e => e ▸ pj_ml258) (pj_h259 p)
set_option maxRecDepth 100000 in
theorem pj_h257 : ∀ p ∈ pj_pm.drop 257, pj_okm p.1 p.2 = true := fun p h => (List.mem_cons.mp (show p ∈ (pj_m257, 1, 1) :: pj_pm.drop 258 from h)).elim (fun e => e ▸ pj_ml257) (pj_h258 p)
set_option maxRecDepth 100000 in
theorem pj_h256 : ∀ p ∈ pj_pm.drop 256, pj_okm p.1 p.2 = true := fun p h => (List.mem_cons.mp (show p ∈ (pj_m256, 1, 1) :: pj_pm.drop 257 from h)).elim (fun e => e ▸ pj_ml256) (pj_h257 p)
set_option maxRecDepth 100000 in
theorem pj_h255 : ∀ p ∈ pj_pm.drop 255, pj_okm p.1 p.2 = true := fun p h => (List.mem_cons.mp (show p ∈ (pj_m255, 1, 1) :: pj_pm.drop 256 from h)).elim (fun e => e ▸ pj_ml255) (pj_h256 p)
set_option maxRecDepth 100000 in
theorem pj_h254 : ∀ p ∈ pj_pm.drop 254, pj_okm p.1 p.2 = true := fun p h => (List.mem_cons.mp (show p ∈ (pj_m254, 0, 1) :: pj_pm.drop 255 from h)).elim (fun e => e ▸ pj_ml254) (pj_h255 p)
set_option maxRecDepth 100000 in
theorem pj_h253 : ∀ p ∈ pj_pm.drop 253, pj_okm p.1 p.2 = true := fun p h => (List.mem_cons.mp (show p ∈ (pj_m253, 1, 1) :: pj_pm.drop 254 from h)).elim (fun e => e ▸ pj_ml253) (pj_h254 p)
set_option maxRecDepth 100000 in
theorem pj_h252 : ∀ p ∈ pj_pm.drop 252, pj_okm p.1 p.2 = true := fun p h => (List.mem_cons.mp (show p ∈ (pj_m252, 1, 1) :: pj_pm.drop 253 from h)).elim (fun e => e ▸ pj_ml252) (pj_h253 p)
set_option maxRecDepth 100000 in
theorem pj_h251 : ∀ p ∈ pj_pm.drop 251, pj_okm p.1 p.2 = true := fun p h => (List.mem_cons.mp (show p ∈ (pj_m251, 1, 1) :: pj_pm.drop 252 from h)).elim (fun e => e ▸ pj_ml251) (pj_h252 p)
set_option maxRecDepth 100000 in
theorem pj_h250 : ∀ p ∈ pj_pm.drop 250, pj_okm p.1 p.2 = true := fun p h => (List.mem_cons.mp (show p ∈ (pj_m250, 0, 1) :: pj_pm.drop 251 from h)).elim (fun e => e ▸ pj_ml250) (pj_h251 p)
set_option maxRecDepth 100000 in
theorem pj_h249 : ∀ p ∈ pj_pm.drop 249, pj_okm p.1 p.2 = true := fun p h => (List.mem_cons.mp (show p ∈ (pj_m249, 0, 1) :: pj_pm.drop 250 from h)).elim (fun e => e ▸ pj_ml249) (pj_h250 p)
set_option maxRecDepth 100000 in
theorem pj_h248 : ∀ p ∈ pj_pm.drop 248, pj_okm p.1 p.2 = true := fun p h => (List.mem_cons.mp (show p ∈ (pj_m248, 1, 1) :: pj_pm.drop 249 from h)).elim (fun e => e ▸ pj_ml248) (pj_h249 p)
set_option maxRecDepth 100000 in
theorem pj_h247 : ∀ p ∈ pj_pm.drop 247, pj_okm p.1 p.2 = true := fun p h => (List.mem_cons.mp (show p ∈ (pj_m247, 0, 1) :: pj_pm.drop 248 from h)).elim (fun e => e ▸ pj_ml247) (pj_h248 p)
set_option maxRecDepth 100000 in
theorem pj_h246 : ∀ p ∈ pj_pm.drop 246, pj_okm p.1 p.2 = true := fun p h => (List.mem_cons.mp (show p ∈ (pj_m246, 1, 1) :: pj_pm.drop 247 from h)).elim (fun e => e ▸ pj_ml246) (pj_h247 p)
set_option maxRecDepth 100000 in
theorem pj_h245 : ∀ p ∈ pj_pm.drop 245, pj_okm p.1 p.2 = true := fun p h => (List.mem_cons.mp (show p ∈ (pj_m245, 1, 1) :: pj_pm.drop 246 from h)).elim (fun e => e ▸ pj_ml245) (pj_h246 p)
set_option maxRecDepth 100000 in
theorem pj_h244 : ∀ p ∈ pj_pm.drop 244, pj_okm p.1 p.2 = true := fun p h => (List.mem_cons.mp (show p ∈ (pj_m244, 0, 1) :: pj_pm.drop 245 from h)).elim (fun e => e ▸ pj_ml244) (pj_h245 p)
set_option maxRecDepth 100000 in
theorem pj_h243 : ∀ p ∈ pj_pm.drop 243, pj_okm p.1 p.2 = true := fun p h => (List.mem_cons.mp (show p ∈ (pj_m243, 1, 1) :: pj_pm.drop 244 from h)).elim (fun e => e ▸ pj_ml243) (pj_h244 p)
set_option maxRecDepth 100000 in
theorem pj_h242 : ∀ p ∈ pj_pm.drop 242, pj_okm p.1 p.2 = true := fun p h => (List.mem_cons.mp (show p ∈ (pj_m242, 4, 1) :: pj_pm.drop 243 from h)).elim (fun e => e ▸ pj_ml242) (pj_h243 p)
set_option maxRecDepth 100000 in
theorem pj_h241 : ∀ p ∈ pj_pm.drop 241, pj_okm p.1 p.2 = true := fun p h => (List.mem_cons.mp (show p ∈ (pj_m241, 0, 1) :: pj_pm.drop 242 from h)).elim (fun e => e ▸ pj_ml241) (pj_h242 p)
set_option maxRecDepth 100000 in
theorem pj_h240 : ∀ p ∈ pj_pm.drop 240, pj_okm p.1 p.2 = true := fun p h => (List.mem_cons.mp (show p ∈ (pj_m240, 2, 1) :: pj_pm.drop 241 from h)).elim (fun e => e ▸ pj_ml240) (pj_h241 p)
set_option maxRecDepth 100000 in
theorem pj_h239 : ∀ p ∈ pj_pm.drop 239, pj_okm p.1 p.2 = true := fun p h => (List.mem_cons.mp (show p ∈ (pj_m239, 3, 1) :: pj_pm.drop 240 from h)).elim (fun e => e ▸ pj_ml239) (pj_h240 p)
set_option maxRecDepth 100000 in
theorem pj_h238 : ∀ p ∈ pj_pm.drop 238, pj_okm p.1 p.2 = true := fun p h => (List.mem_cons.mp (show p ∈ (pj_m238, 4, 1) :: pj_pm.drop 239 from h)).elim (fun e => e ▸ pj_ml238) (pj_h239 p)
set_option maxRecDepth 100000 in
theorem pj_h237 : ∀ p ∈ pj_pm.drop 237, pj_okm p.1 p.2 = true := fun p h => (List.mem_cons.mp (show p ∈ (pj_m237, 2, 1) :: pj_pm.drop 238 from h)).elim (fun e => e ▸ pj_ml237) (pj_h238 p)
set_option maxRecDepth 100000 in
theorem pj_h236 : ∀ p ∈ pj_pm.drop 236, pj_okm p.1 p.2 = true := fun p h => (List.mem_cons.mp (show p ∈ (pj_m236, 1, 1) :: pj_pm.drop 237 from h)).elim (fun e => e ▸ pj_ml236) (pj_h237 p)
set_option maxRecDepth 100000 in
theorem pj_h235 : ∀ p ∈ pj_pm.drop 235, pj_okm p.1 p.2 = true := fun p h => (List.mem_cons.mp (show p ∈ (pj_m235, 2, 1) :: pj_pm.drop 236 from h)).elim (fun e => e ▸ pj_ml235) (pj_h236 p)
set_option maxRecDepth 100000 in
theorem pj_h234 : ∀ p ∈ pj_pm.drop 234, pj_okm p.1 p.2 = true := fun p h => (List.mem_cons.mp (show p ∈ (pj_m234, 1, 1) :: pj_pm.drop 235 from h)).elim (fun e => e ▸ pj_ml234) (pj_h235 p)
set_option maxRecDepth 100000 in
theorem pj_h233 : ∀ p ∈ pj_pm.drop 233, pj_okm p.1 p.2 = true := fun p h => (List.mem_cons.mp (show p ∈ (pj_m233, 2, 1) :: pj_pm.drop 234 from h)).elim (fun e => e ▸ pj_ml233) (pj_h234 p)
set_option maxRecDepth 100000 in
theorem pj_h232 : ∀ p ∈ pj_pm.drop 232, pj_okm p.1 p.2 = true := fun p h => (List.mem_cons.mp (show p ∈ (pj_m232, 2, 1) :: pj_pm.drop 233 from h)).elim (fun e => e ▸ pj_ml232) (pj_h233 p)
set_option maxRecDepth 100000 in
theorem pj_h231 : ∀ p ∈ pj_pm.drop 231, pj_okm p.1 p.2 = true := fun p h => (List.mem_cons.mp (show p ∈ (pj_m231, 0, 1) :: pj_pm.drop 232 from h)).elim (fun e => e ▸ pj_ml231) (pj_h232 p)
set_option maxRecDepth 100000 in
theorem pj_h230 : ∀ p ∈ pj_pm.drop 230, pj_okm p.1 p.2 = true := fun p h => (List.mem_cons.mp (show p ∈ (pj_m230, 1, 1) :: pj_pm.drop 231 from h)).elim (fun e => e ▸ pj_ml230) (pj_h231 p)
set_option maxRecDepth 100000 in
theorem pj_h229 : ∀ p ∈ pj_pm.drop 229, pj_okm p.1 p.2 = true := fun p h => (List.mem_cons.mp (show p ∈ (pj_m229, 0, 1) :: pj_pm.drop 230 from h)).elim (fun e => e ▸ pj_ml229) (pj_h230 p)
set_option maxRecDepth 100000 in
theorem pj_h228 : ∀ p ∈ pj_pm.drop 228, pj_okm p.1 p.2 = true := fun p h => (List.mem_cons.mp (show p ∈ (pj_m228, 1, 1) :: pj_pm.drop 229 from h)).elim (fun e => e ▸ pj_ml228) (pj_h229 p)
set_option maxRecDepth 100000 in
theorem pj_h227 : ∀ p ∈ pj_pm.drop 227, pj_okm p.1 p.2 = true := fun p h => (List.mem_cons.mp (show p ∈ (pj_m227, 2, 1) :: pj_pm.drop 228 from h)).elim (fun e => e ▸ pj_ml227) (pj_h228 p)
set_option maxRecDepth 100000 in
theorem pj_h226 : ∀ p ∈ pj_pm.drop 226, pj_okm p.1 p.2 = true := fun p h => (List.mem_cons.mp (show p ∈ (pj_m226, 2, 1) :: pj_pm.drop 227 from h)).elim (fun e => e ▸ pj_ml226) (pj_h227 p)
set_option maxRecDepth 100000 in
theorem pj_h225 : ∀ p ∈ pj_pm.drop 225, pj_okm p.1 p.2 = true := fun p h => (List.mem_cons.mp (show p ∈ (pj_m225, 2, 1) :: pj_pm.drop 226 from h)).elim (fun e => e ▸ pj_ml225) (pj_h226 p)
set_option maxRecDepth 100000 in
theorem pj_h224 : ∀ p ∈ pj_pm.drop 224, pj_okm p.1 p.2 = true := fun p h => (List.mem_cons.mp (show p ∈ (pj_m224, 0, 1) :: pj_pm.drop 225 from h)).elim (fun e => e ▸ pj_ml224) (pj_h225 p)
set_option maxRecDepth 100000 in
theorem pj_h223 : ∀ p ∈ pj_pm.drop 223, pj_okm p.1 p.2 = true := fun p h => (List.mem_cons.mp (show p ∈ (pj_m223, 0, 1) :: pj_pm.drop 224 from h)).elim (fun e => e ▸ pj_ml223) (pj_h224 p)
set_option maxRecDepth 100000 in
theorem pj_h222 : ∀ p ∈ pj_pm.drop 222, pj_okm p.1 p.2 = true := fun p h => (List.mem_cons.mp (show p ∈ (pj_m222, 2, 1) :: pj_pm.drop 223 from h)).elim (fun e => e ▸ pj_ml222) (pj_h223 p)
set_option maxRecDepth 100000 in
theorem pj_h221 : ∀ p ∈ pj_pm.drop 221, pj_okm p.1 p.2 = true := fun p h => (List.mem_cons.mp (show p ∈ (pj_m221, 2, 1) :: pj_pm.drop 222 from h)).elim (fun e => e ▸ pj_ml221) (pj_h222 p)
set_option maxRecDepth 100000 in
theorem pj_h220 : ∀ p ∈ pj_pm.drop 220, pj_okm p.1 p.2 = true := fun p h => (List.mem_cons.mp (show p ∈ (pj_m220, 2, 1) :: pj_pm.drop 221 from h)).elim (fun e => e ▸ pj_ml220) (pj_h221 p)
set_option maxRecDepth 100000 in
theorem pj_h219 : ∀ p ∈ pj_pm.drop 219, pj_okm p.1 p.2 = true := fun p h => (List.mem_cons.mp (show p ∈ (pj_m219, 2, 1) :: pj_pm.drop 220 from h)).elim (fun e => e ▸ pj_ml219) (pj_h220 p)
set_option maxRecDepth 100000 in
theorem pj_h218 : ∀ p ∈ pj_pm.drop 218, pj_okm p.1 p.2 = true := fun p h => (List.mem_cons.mp (show p ∈ (pj_m218, 2, 1) :: pj_pm.drop 219 from h)).elim (fun e => e ▸ pj_ml218) (pj_h219 p)
set_option maxRecDepth 100000 in
theorem pj_h217 : ∀ p ∈ pj_pm.drop 217, pj_okm p.1 p.2 = true := fun p h => (List.mem_cons.mp (show p ∈ (pj_m217, 0, 1) :: pj_pm.drop 218 from h)).elim (fun e => e ▸ pj_ml217) (pj_h218 p)
set_option maxRecDepth 100000 in
theorem pj_h216 : ∀ p ∈ pj_pm.drop 216, pj_okm p.1 p.2 = true := fun p h => (List.mem_cons.mp (show p ∈ (pj_m216, 1, 1) :: pj_pm.drop 217 from h)).elim (fun e => e ▸ pj_ml216) (pj_h217 p)
set_option maxRecDepth 100000 in
theorem pj_h215 : ∀ p ∈ pj_pm.drop 215, pj_okm p.1 p.2 = true := fun p h => (List.mem_cons.mp (show p ∈ (pj_m215, 1, 1) :: pj_pm.drop 216 from h)).elim (fun e => e ▸ pj_ml215) (pj_h216 p)
set_option maxRecDepth 100000 in
theorem pj_h214 : ∀ p ∈ pj_pm.drop 214, pj_okm p.1 p.2 = true := fun p h => (List.mem_cons.mp (show p ∈ (pj_m214, 0, 1) :: pj_pm.drop 215 from h)).elim (fun e => e ▸ pj_ml214) (pj_h215 p)
set_option maxRecDepth 100000 in
theorem pj_h213 : ∀ p ∈ pj_pm.drop 213, pj_okm p.1 p.2 = true := fun p h => (List.mem_cons.mp (show p ∈ (pj_m213, 4, 1) :: pj_pm.drop 214 from h)).elim (fun e => e ▸ pj_ml213) (pj_h214 p)
set_option maxRecDepth 100000 in
theorem pj_h212 : ∀ p ∈ pj_pm.drop 212, pj_okm p.1 p.2 = true := fun p h => (List.mem_cons.mp (show p ∈ (pj_m212, 2, 1) :: pj_pm.drop 213 from h)).elim (fun e => e ▸ pj_ml212) (pj_h213 p)
set_option maxRecDepth 100000 in
theorem pj_h211 : ∀ p ∈ pj_pm.drop 211, pj_okm p.1 p.2 = true := fun p h => (List.mem_cons.mp (show p ∈ (pj_m211, 2, 1) :: pj_pm.drop 212 from h)).elim (fun e => e ▸ pj_ml211) (pj_h212 p)
set_option maxRecDepth 100000 in
theorem pj_h210 : ∀ p ∈ pj_pm.drop 210, pj_okm p.1 p.2 = true := fun p h => (List.mem_cons.mp (show p ∈ (pj_m210, 2, 1) :: pj_pm.drop 211 from h)).elim (fun e => e ▸ pj_ml210) (pj_h211 p)
set_option maxRecDepth 100000 in
theorem pj_h209 : ∀ p ∈ pj_pm.drop 209, pj_okm p.1 p.2 = true := fun p h => (List.mem_cons.mp (show p ∈ (pj_m209, 1, 1) :: pj_pm.drop 210 from h)).elim (fun e => e ▸ pj_ml209) (pj_h210 p)
set_option maxRecDepth 100000 in
theorem pj_h208 : ∀ p ∈ pj_pm.drop 208, pj_okm p.1 p.2 = true := fun p h => (List.mem_cons.mp (show p ∈ (pj_m208, 2, 1) :: pj_pm.drop 209 from h)).elim (fun e => e ▸ pj_ml208) (pj_h209 p)
set_option maxRecDepth 100000 in
theorem pj_h207 : ∀ p ∈ pj_pm.drop 207, pj_okm p.1 p.2 = true := fun p h => (List.mem_cons.mp (show p ∈ (pj_m207, 2, 1) :: pj_pm.drop 208 from h)).elim (fun e => e ▸ pj_ml207) (pj_h208 p)
set_option maxRecDepth 100000 in
theorem pj_h206 : ∀ p ∈ pj_pm.drop 206, pj_okm p.1 p.2 = true := fun p h => (List.mem_cons.mp (show p ∈ (pj_m206, 2, 1) :: pj_pm.drop 207 from h)).elim (fun e => e ▸ pj_ml206) (pj_h207 p)
set_option maxRecDepth 100000 in
theorem pj_h205 : ∀ p ∈ pj_pm.drop 205, pj_okm p.1 p.2 = true := fun p h => (List.mem_cons.mp (show p ∈ (pj_m205, 2, 1) :: pj_pm.drop 206 from h)).elim (fun e => e ▸ pj_ml205) (pj_h206 p)
set_option maxRecDepth 100000 in
theorem pj_h204 : ∀ p ∈ pj_pm.drop 204, pj_okm p.1 p.2 = true := fun p h => (List.mem_cons.mp (show p ∈ (pj_m204, 2, 1) :: pj_pm.drop 205 from h)).elim (fun e => e ▸ pj_ml204) (pj_h205 p)
set_option maxRecDepth 100000 in
theorem pj_h203 : ∀ p ∈ pj_pm.drop 203, pj_okm p.1 p.2 = true := fun p h => (List.mem_cons.mp (show p ∈ (pj_m203, 1, 1) :: pj_pm.drop 204 from h)).elim (fun e => e ▸ pj_ml203) (pj_h204 p)
set_option maxRecDepth 100000 in
theorem pj_h202 : ∀ p ∈ pj_pm.drop 202, pj_okm p.1 p.2 = true := fun p h => (List.mem_cons.mp (show p ∈ (pj_m202, 0, 1) :: pj_pm.drop 203 from h)).elim (fun e => e ▸ pj_ml202) (pj_h203 p)
set_option maxRecDepth 100000 in
theorem pj_h201 : ∀ p ∈ pj_pm.drop 201, pj_okm p.1 p.2 = true := fun p h => (List.mem_cons.mp (show p ∈ (pj_m201, 3, 0) :: pj_pm.drop 202 from h)).elim (fun e => e ▸ pj_ml201) (pj_h202 p)
set_option maxRecDepth 100000 in
theorem pj_h200 : ∀ p ∈ pj_pm.drop 200, pj_okm p.1 p.2 = true := fun p h => (List.mem_cons.mp (show p ∈ (pj_m200, 0, 1) :: pj_pm.drop 201 from h)).elim (fun e => e ▸ pj_ml200) (pj_h201 p)
set_option maxRecDepth 100000 in
theorem pj_h199 : ∀ p ∈ pj_pm.drop 199, pj_okm p.1 p.2 = true := fun p h => (List.mem_cons.mp (show p ∈ (pj_m199, 1, 1) :: pj_pm.drop 200 from h)).elim (fun e => e ▸ pj_ml199) (pj_h200 p)
set_option maxRecDepth 100000 in
theorem pj_h198 : ∀ p ∈ pj_pm.drop 198, pj_okm p.1 p.2 = true := fun p h => (List.mem_cons.mp (show p ∈ (pj_m198, 0, 1) :: pj_pm.drop 199 from h)).elim (fun e => e ▸ pj_ml198) (pj_h199 p)
set_option maxRecDepth 100000 in
theorem pj_h197 : ∀ p ∈ pj_pm.drop 197, pj_okm p.1 p.2 = true := fun p h => (List.mem_cons.mp (show p ∈ (pj_m197, 1, 1) :: pj_pm.drop 198 from h)).elim (fun e => e ▸ pj_ml197) (pj_h198 p)
set_option maxRecDepth 100000 in
theorem pj_h196 : ∀ p ∈ pj_pm.drop 196, pj_okm p.1 p.2 = true := fun p h => (List.mem_cons.mp (show p ∈ (pj_m196, 0, 1) :: pj_pm.drop 197 from h)).elim (fun e => e ▸ pj_ml196) (pj_h197 p)
set_option maxRecDepth 100000 in
theorem pj_h195 : ∀ p ∈ pj_pm.drop 195, pj_okm p.1 p.2 = true := fun p h => (List.mem_cons.mp (show p ∈ (pj_m195, 0, 1) :: pj_pm.drop 196 from h)).elim (fun e => e ▸ pj_ml195) (pj_h196 p)
set_option maxRecDepth 100000 in
theorem pj_h194 : ∀ p ∈ pj_pm.drop 194, pj_okm p.1 p.2 = true := fun p h => (List.mem_cons.mp (show p ∈ (pj_m194, 1, 1) :: pj_pm.drop 195 from h)).elim (fun e => e ▸ pj_ml194) (pj_h195 p)
set_option maxRecDepth 100000 in
theorem pj_h193 : ∀ p ∈ pj_pm.drop 193, pj_okm p.1 p.2 = true := fun p h => (List.mem_cons.mp (show p ∈ (pj_m193, 1, 1) :: pj_pm.drop 194 from h)).elim (fun e => e ▸ pj_ml193) (pj_h194 p)
set_option maxRecDepth 100000 in
theorem pj_h192 : ∀ p ∈ pj_pm.drop 192, pj_okm p.1 p.2 = true := fun p h => (List.mem_cons.mp (show p ∈ (pj_m192, 0, 1) :: pj_pm.drop 193 from h)).elim (fun e => e ▸ pj_ml192) (pj_h193 p)
set_option maxRecDepth 100000 in
theorem pj_h191 : ∀ p ∈ pj_pm.drop 191, pj_okm p.1 p.2 = true := fun p h => (List.mem_cons.mp (show p ∈ (pj_m191, 0, 1) :: pj_pm.drop 192 from h)).elim (fun e => e ▸ pj_ml191) (pj_h192 p)
set_option maxRecDepth 100000 in
theorem pj_h190 : ∀ p ∈ pj_pm.drop 190, pj_okm p.1 p.2 = true := fun p h => (List.mem_cons.mp (show p ∈ (pj_m190, 0, 1) :: pj_pm.drop 191 from h)).elim (fun e => e ▸ pj_ml190) (pj_h191 p)
set_option maxRecDepth 100000 in
theorem pj_h189 : ∀ p ∈ pj_pm.drop 189, pj_okm p.1 p.2 = true := fun p h => (List.mem_cons.mp (show p ∈ (pj_m189, 1, 1) :: pj_pm.drop 190 from h)).elim (fun e => e ▸ pj_ml189) (pj_h190 p)
set_option maxRecDepth 100000 in
theorem pj_h188 : ∀ p ∈ pj_pm.drop 188, pj_okm p.1 p.2 = true := fun p h => (List.mem_cons.mp (show p ∈ (pj_m188, 3, 1) :: pj_pm.drop 189 from h)).elim (fun e => e ▸ pj_ml188) (pj_h189 p)
set_option maxRecDepth 100000 in
theorem pj_h187 : ∀ p ∈ pj_pm.drop 187, pj_okm p.1 p.2 = true := fun p h => (List.mem_cons.mp (show p ∈ (pj_m187, 1, 1) :: pj_pm.drop 188 from h)).elim (fun e => e ▸ pj_ml187) (pj_h188 p)
set_option maxRecDepth 100000 in
theorem pj_h186 : ∀ p ∈ pj_pm.drop 186, pj_okm p.1 p.2 = true := fun p h => (List.mem_cons.mp (show p ∈ (pj_m186, 1, 1) :: pj_pm.drop 187 from h)).elim (fun e => e ▸ pj_ml186) (pj_h187 p)
set_option maxRecDepth 100000 in
theorem pj_h185 : ∀ p ∈ pj_pm.drop 185, pj_okm p.1 p.2 = true := fun p h => (List.mem_cons.mp (show p ∈ (pj_m185, 1, 1) :: pj_pm.drop 186 from h)).elim (fun e => e ▸ pj_ml185) (pj_h186 p)
set_option maxRecDepth 100000 in
theorem pj_h184 : ∀ p ∈ pj_pm.drop 184, pj_okm p.1 p.2 = true := fun p h => (List.mem_cons.mp (show p ∈ (pj_m184, 1, 1) :: pj_pm.drop 185 from h)).elim (fun e => e ▸ pj_ml184) (pj_h185 p)
set_option maxRecDepth 100000 in
theorem pj_h183 : ∀ p ∈ pj_pm.drop 183, pj_okm p.1 p.2 = true := fun p h => (List.mem_cons.mp (show p ∈ (pj_m183, 0, 1) :: pj_pm.drop 184 from h)).elim (fun e => e ▸ pj_ml183) (pj_h184 p)
set_option maxRecDepth 100000 in
theorem pj_h182 : ∀ p ∈ pj_pm.drop 182, pj_okm p.1 p.2 = true := fun p h => (List.mem_cons.mp (show p ∈ (pj_m182, 1, 1) :: pj_pm.drop 183 from h)).elim (fun e => e ▸ pj_ml182) (pj_h183 p)
set_option maxRecDepth 100000 in
theorem pj_h181 : ∀ p ∈ pj_pm.drop 181, pj_okm p.1 p.2 = true := fun p h => (List.mem_cons.mp (show p ∈ (pj_m181, 1, 1) :: pj_pm.drop 182 from h)).elim (fun e => e ▸ pj_ml181) (pj_h182 p)
set_option maxRecDepth 100000 in
theorem pj_h180 : ∀ p ∈ pj_pm.drop 180, pj_okm p.1 p.2 = true := fun p h => (List.mem_cons.mp (show p ∈ (pj_m180, 1, 1) :: pj_pm.drop 181 from h)).elim (fun e => e ▸ pj_ml180) (pj_h181 p)
set_option maxRecDepth 100000 in
theorem pj_h179 : ∀ p ∈ pj_pm.drop 179, pj_okm p.1 p.2 = true := fun p h => (List.mem_cons.mp (show p ∈ (pj_m179, 1, 1) :: pj_pm.drop 180 from h)).elim (fun e => e ▸ pj_ml179) (pj_h180 p)
set_option maxRecDepth 100000 in
theorem pj_h178 : ∀ p ∈ pj_pm.drop 178, pj_okm p.1 p.2 = true := fun p h => (List.mem_cons.mp (show p ∈ (pj_m178, 1, 1) :: pj_pm.drop 179 from h)).elim (fun e => e ▸ pj_ml178) (pj_h179 p)
set_option maxRecDepth 100000 in
theorem pj_h177 : ∀ p ∈ pj_pm.drop 177, pj_okm p.1 p.2 = true := fun p h => (List.mem_cons.mp (show p ∈ (pj_m177, 1, 1) :: pj_pm.drop 178 from h)).elim (fun e => e ▸ pj_ml177) (pj_h178 p)
set_option maxRecDepth 100000 in
theorem pj_h176 : ∀ p ∈ pj_pm.drop 176, pj_okm p.1 p.2 = true := fun p h => (List.mem_cons.mp (show p ∈ (pj_m176, 1, 1) :: pj_pm.drop 177 from h)).elim (fun e => e ▸ pj_ml176) (pj_h177 p)
set_option maxRecDepth 100000 in
theorem pj_h175 : ∀ p ∈ pj_pm.drop 175, pj_okm p.1 p.2 = true := fun p h => (List.mem_cons.mp (show p ∈ (pj_m175, 1, 1) :: pj_pm.drop 176 from h)).elim (fun e => e ▸ pj_ml175) (pj_h176 p)
set_option maxRecDepth 100000 in
theorem pj_h174 : ∀ p ∈ pj_pm.drop 174, pj_okm p.1 p.2 = true := fun p h => (List.mem_cons.mp (show p ∈ (pj_m174, 1, 1) :: pj_pm.drop 175 from h)).elim (fun e => e ▸ pj_ml174) (pj_h175 p)
set_option maxRecDepth 100000 in
theorem pj_h173 : ∀ p ∈ pj_pm.drop 173, pj_okm p.1 p.2 = true := fun p h => (List.mem_cons.mp (show p ∈ (pj_m173, 2, 0) :: pj_pm.drop 174 from h)).elim (fun e => e ▸ pj_ml173) (pj_h174 p)
set_option maxRecDepth 100000 in
theorem pj_h172 : ∀ p ∈ pj_pm.drop 172, pj_okm p.1 p.2 = true := fun p h => (List.mem_cons.mp (show p ∈ (pj_m172, 1, 0) :: pj_pm.drop 173 from h)).elim (fun e => e ▸ pj_ml172) (pj_h173 p)
set_option maxRecDepth 100000 in
theorem pj_h171 : ∀ p ∈ pj_pm.drop 171, pj_okm p.1 p.2 = true := fun p h => (List.mem_cons.mp (show p ∈ (pj_m171, 2, 0) :: pj_pm.drop 172 from h)).elim (fun e => e ▸ pj_ml171) (pj_h172 p)
set_option maxRecDepth 100000 in
theorem pj_h170 : ∀ p ∈ pj_pm.drop 170, pj_okm p.1 p.2 = true := fun p h => (List.mem_cons.mp (show p ∈ (pj_m170, 3, 0) :: pj_pm.drop 171 from h)).elim (fun e => e ▸ pj_ml170) (pj_h171 p)
set_option maxRecDepth 100000 in
theorem pj_h169 : ∀ p ∈ pj_pm.drop 169, pj_okm p.1 p.2 = true := fun p h => (List.mem_cons.mp (show p ∈ (pj_m169, 0, 1) :: pj_pm.drop 170 from h)).elim (fun e => e ▸ pj_ml169) (pj_h170 p)
set_option maxRecDepth 100000 in
theorem pj_h168 : ∀ p ∈ pj_pm.drop 168, pj_okm p.1 p.2 = true := fun p h => (List.mem_cons.mp (show p ∈ (pj_m168, 0, 2) :: pj_pm.drop 169 from h)).elim (fun e => e ▸ pj_ml168) (pj_h169 p)
set_option maxRecDepth 100000 in
theorem pj_h167 : ∀ p ∈ pj_pm.drop 167, pj_okm p.1 p.2 = true := fun p h => (List.mem_cons.mp (show p ∈ (pj_m167, 3, 0) :: pj_pm.drop 168 from h)).elim (fun e => e ▸ pj_ml167) (pj_h168 p)
set_option maxRecDepth 100000 in
theorem pj_h166 : ∀ p ∈ pj_pm.drop 166, pj_okm p.1 p.2 = true := fun p h => (List.mem_cons.mp (show p ∈ (pj_m166, 3, 0) :: pj_pm.drop 167 from h)).elim (fun e => e ▸ pj_ml166) (pj_h167 p)
set_option maxRecDepth 100000 in
theorem pj_h165 : ∀ p ∈ pj_pm.drop 165, pj_okm p.1 p.2 = true := fun p h => (List.mem_cons.mp (show p ∈ (pj_m165, 4, 0) :: pj_pm.drop 166 from h)).elim (fun e => e ▸ pj_ml165) (pj_h166 p)
set_option maxRecDepth 100000 in
theorem pj_h164 : ∀ p ∈ pj_pm.drop 164, pj_okm p.1 p.2 = true := fun p h => (List.mem_cons.mp (show p ∈ (pj_m164, 2, 0) :: pj_pm.drop 165 from h)).elim (fun e => e ▸ pj_ml164) (pj_h165 p)
set_option maxRecDepth 100000 in
theorem pj_h163 : ∀ p ∈ pj_pm.drop 163, pj_okm p.1 p.2 = true := fun p h => (List.mem_cons.mp (show p ∈ (pj_m163, 2, 0) :: pj_pm.drop 164 from h)).elim (fun e => e ▸ pj_ml163) (pj_h164 p)
set_option maxRecDepth 100000 in
theorem pj_h162 : ∀ p ∈ pj_pm.drop 162, pj_okm p.1 p.2 = true := fun p h => (List.mem_cons.mp (show p ∈ (pj_m162, 1, 0) :: pj_pm.drop 163 from h)).elim (fun e => e ▸ pj_ml162) (pj_h163 p)
set_option maxRecDepth 100000 in
theorem pj_h161 : ∀ p ∈ pj_pm.drop 161, pj_okm p.1 p.2 = true := fun p h => (List.mem_cons.mp (show p ∈ (pj_m161, 1, 1) :: pj_pm.drop 162 from h)).elim (fun e => e ▸ pj_ml161) (pj_h162 p)
set_option maxRecDepth 100000 in
theorem pj_h160 : ∀ p ∈ pj_pm.drop 160, pj_okm p.1 p.2 = true := fun p h => (List.mem_cons.mp (show p ∈ (pj_m160, 0, 3) :: pj_pm.drop 161 from h)).elim (fun e => e ▸ pj_ml160) (pj_h161 p)
set_option maxRecDepth 100000 in
theorem pj_h159 : ∀ p ∈ pj_pm.drop 159, pj_okm p.1 p.2 = true := fun p h => (List.mem_cons.mp (show p ∈ (pj_m159, 1, 1) :: pj_pm.drop 160 from h)).elim (fun e => e ▸ pj_ml159) (pj_h160 p)
set_option maxRecDepth 100000 in
theorem pj_h158 : ∀ p ∈ pj_pm.drop 158, pj_okm p.1 p.2 = true := fun p h => (List.mem_cons.mp (show p ∈ (pj_m158, 1, 1) :: pj_pm.drop 159 from h)).elim (fun e => e ▸ pj_ml158) (pj_h159 p)
set_option maxRecDepth 100000 in
theorem pj_h157 : ∀ p ∈ pj_pm.drop 157, pj_okm p.1 p.2 = true := fun p h => (List.mem_cons.mp (show p ∈ (pj_m157, 1, 1) :: pj_pm.drop 158 from h)).elim (fun e => e ▸ pj_ml157) (pj_h158 p)
set_option maxRecDepth 100000 in
theorem pj_h156 : ∀ p ∈ pj_pm.drop 156, pj_okm p.1 p.2 = true := fun p h => (List.mem_cons.mp (show p ∈ (pj_m156, 2, 1) :: pj_pm.drop 157 from h)).elim (fun e => e ▸ pj_ml156) (pj_h157 p)
set_option maxRecDepth 100000 in
theorem pj_h155 : ∀ p ∈ pj_pm.drop 155, pj_okm p.1 p.2 = true := fun p h => (List.mem_cons.mp (show p ∈ (pj_m155, 0, 1) :: pj_pm.drop 156 from h)).elim (fun e => e ▸ pj_ml155) (pj_h156 p)
set_option maxRecDepth 100000 in
theorem pj_h154 : ∀ p ∈ pj_pm.drop 154, pj_okm p.1 p.2 = true := fun p h => (List.mem_cons.mp (show p ∈ (pj_m154, 1, 1) :: pj_pm.drop 155 from h)).elim (fun e => e ▸ pj_ml154) (pj_h155 p)
set_option maxRecDepth 100000 in
theorem pj_h153 : ∀ p ∈ pj_pm.drop 153, pj_okm p.1 p.2 = true := fun p h => (List.mem_cons.mp (show p ∈ (pj_m153, 3, 1) :: pj_pm.drop 154 from h)).elim (fun e => e ▸ pj_ml153) (pj_h154 p)
set_option maxRecDepth 100000 in
theorem pj_h152 : ∀ p ∈ pj_pm.drop 152, pj_okm p.1 p.2 = true := fun p h => (List.mem_cons.mp (show p ∈ (pj_m152, 4, 1) :: pj_pm.drop 153 from h)).elim (fun e => e ▸ pj_ml152) (pj_h153 p)
set_option maxRecDepth 100000 in
theorem pj_h151 : ∀ p ∈ pj_pm.drop 151, pj_okm p.1 p.2 = true := fun p h => (List.mem_cons.mp (show p ∈ (pj_m151, 0, 1) :: pj_pm.drop 152 from h)).elim (fun e => e ▸ pj_ml151) (pj_h152 p)
set_option maxRecDepth 100000 in
theorem pj_h150 : ∀ p ∈ pj_pm.drop 150, pj_okm p.1 p.2 = true := fun p h => (List.mem_cons.mp (show p ∈ (pj_m150, 0, 1) :: pj_pm.drop 151 from h)).elim (fun e => e ▸ pj_ml150) (pj_h151 p)
set_option maxRecDepth 100000 in
theorem pj_h149 : ∀ p ∈ pj_pm.drop 149, pj_okm p.1 p.2 = true := fun p h => (List.mem_cons.mp (show p ∈ (pj_m149, 0, 1) :: pj_pm.drop 150 from h)).elim (fun e => e ▸ pj_ml149) (pj_h150 p)
set_option maxRecDepth 100000 in
theorem pj_h148 : ∀ p ∈ pj_pm.drop 148, pj_okm p.1 p.2 = true := fun p h => (List.mem_cons.mp (show p ∈ (pj_m148, 3, 1) :: pj_pm.drop 149 from h)).elim (fun e => e ▸ pj_ml148) (pj_h149 p)
set_option maxRecDepth 100000 in
theorem pj_h147 : ∀ p ∈ pj_pm.drop 147, pj_okm p.1 p.2 = true := fun p h => (List.mem_cons.mp (show p ∈ (pj_m147, 3, 1) :: pj_pm.drop 148 from h)).elim (fun e => e ▸ pj_ml147) (pj_h148 p)
set_option maxRecDepth 100000 in
theorem pj_h146 : ∀ p ∈ pj_pm.drop 146, pj_okm p.1 p.2 = true := fun p h => (List.mem_cons.mp (show p ∈ (pj_m146, 4, 1) :: pj_pm.drop 147 from h)).elim (fun e => e ▸ pj_ml146) (pj_h147 p)
set_option maxRecDepth 100000 in
theorem pj_h145 : ∀ p ∈ pj_pm.drop 145, pj_okm p.1 p.2 = true := fun p h => (List.mem_cons.mp (show p ∈ (pj_m145, 1, 1) :: pj_pm.drop 146 from h)).elim (fun e => e ▸ pj_ml145) (pj_h146 p)
set_option maxRecDepth 100000 in
theorem pj_h144 : ∀ p ∈ pj_pm.drop 144, pj_okm p.1 p.2 = true := fun p h => (List.mem_cons.mp (show p ∈ (pj_m144, 0, 1) :: pj_pm.drop 145 from h)).elim (fun e => e ▸ pj_ml144) (pj_h145 p)
set_option maxRecDepth 100000 in
theorem pj_h143 : ∀ p ∈ pj_pm.drop 143, pj_okm p.1 p.2 = true := fun p h => (List.mem_cons.mp (show p ∈ (pj_m143, 1, 1) :: pj_pm.drop 144 from h)).elim (fun e => e ▸ pj_ml143) (pj_h144 p)
set_option maxRecDepth 100000 in
theorem pj_h142 : ∀ p ∈ pj_pm.drop 142, pj_okm p.1 p.2 = true := fun p h => (List.mem_cons.mp (show p ∈ (pj_m142, 0, 1) :: pj_pm.drop 143 from h)).elim (fun e => e ▸ pj_ml142) (pj_h143 p)
set_option maxRecDepth 100000 in
theorem pj_h141 : ∀ p ∈ pj_pm.drop 141, pj_okm p.1 p.2 = true := fun p h => (List.mem_cons.mp (show p ∈ (pj_m141, 0, 1) :: pj_pm.drop 142 from h)).elim (fun e => e ▸ pj_ml141) (pj_h142 p)
set_option maxRecDepth 100000 in
theorem pj_h140 : ∀ p ∈ pj_pm.drop 140, pj_okm p.1 p.2 = true := fun p h => (List.mem_cons.mp (show p ∈ (pj_m140, 1, 1) :: pj_pm.drop 141 from h)).elim (fun e => e ▸ pj_ml140) (pj_h141 p)
set_option maxRecDepth 100000 in
theorem pj_h139 : ∀ p ∈ pj_pm.drop 139, pj_okm p.1 p.2 = true := fun p h => (List.mem_cons.mp (show p ∈ (pj_m139, 1, 1) :: pj_pm.drop 140 from h)).elim (fun e => e ▸ pj_ml139) (pj_h140 p)
set_option maxRecDepth 100000 in
theorem pj_h138 : ∀ p ∈ pj_pm.drop 138, pj_okm p.1 p.2 = true := fun p h => (List.mem_cons.mp (show p ∈ (pj_m138, 0, 1) :: pj_pm.drop 139 from h)).elim (fun e => e ▸ pj_ml138) (pj_h139 p)
set_option maxRecDepth 100000 in
theorem pj_h137 : ∀ p ∈ pj_pm.drop 137, pj_okm p.1 p.2 = true := fun p h => (List.mem_cons.mp (show p ∈ (pj_m137, 2, 1) :: pj_pm.drop 138 from h)).elim (fun e => e ▸ pj_ml137) (pj_h138 p)
set_option maxRecDepth 100000 in
theorem pj_h136 : ∀ p ∈ pj_pm.drop 136, pj_okm p.1 p.2 = true := fun p h => (List.mem_cons.mp (show p ∈ (pj_m136, 2, 1) :: pj_pm.drop 137 from h)).elim (fun e => e ▸ pj_ml136) (pj_h137 p)
set_option maxRecDepth 100000 in
theorem pj_h135 : ∀ p ∈ pj_pm.drop 135, pj_okm p.1 p.2 = true := fun p h => (List.mem_cons.mp (show p ∈ (pj_m135, 1, 1) :: pj_pm.drop 136 from h)).elim (fun e => e ▸ pj_ml135) (pj_h136 p)
set_option maxRecDepth 100000 in
theorem pj_h134 : ∀ p ∈ pj_pm.drop 134, pj_okm p.1 p.2 = true := fun p h => (List.mem_cons.mp (show p ∈ (pj_m134, 2, 1) :: pj_pm.drop 135 from h)).elim (fun e => e ▸ pj_ml134) (pj_h135 p)
set_option maxRecDepth 100000 in
theorem pj_h133 : ∀ p ∈ pj_pm.drop 133, pj_okm p.1 p.2 = true := fun p h => (List.mem_cons.mp (show p ∈ (pj_m133, 0, 1) :: pj_pm.drop 134 from h)).elim (fun e => e ▸ pj_ml133) (pj_h134 p)
set_option maxRecDepth 100000 in
theorem pj_h132 : ∀ p ∈ pj_pm.drop 132, pj_okm p.1 p.2 = true := fun p h => (List.mem_cons.mp (show p ∈ (pj_m132, 0, 1) :: pj_pm.drop 133 from h)).elim (fun e => e ▸ pj_ml132) (pj_h133 p)
set_option maxRecDepth 100000 in
theorem pj_h131 : ∀ p ∈ pj_pm.drop 131, pj_okm p.1 p.2 = true := fun p h => (List.mem_cons.mp (show p ∈ (pj_m131, 1, 1) :: pj_pm.drop 132 from h)).elim (fun e => e ▸ pj_ml131) (pj_h132 p)
set_option maxRecDepth 100000 in
theorem pj_h130 : ∀ p ∈ pj_pm.drop 130, pj_okm p.1 p.2 = true := fun p h => (List.mem_cons.mp (show p ∈ (pj_m130, 2, 1) :: pj_pm.drop 131 from h)).elim (fun e => e ▸ pj_ml130) (pj_h131 p)
set_option maxRecDepth 100000 in
theorem pj_h129 : ∀ p ∈ pj_pm.drop 129, pj_okm p.1 p.2 = true := fun p h => (List.mem_cons.mp (show p ∈ (pj_m129, 2, 1) :: pj_pm.drop 130 from h)).elim (fun e => e ▸ pj_ml129) (pj_h130 p)
set_option maxRecDepth 100000 in
theorem pj_h128 : ∀ p ∈ pj_pm.drop 128, pj_okm p.1 p.2 = true := fun p h => (List.mem_cons.mp (show p ∈ (pj_m128, 2, 1) :: pj_pm.drop 129 from h)).elim (fun e => e ▸ pj_ml128) (pj_h129 p)
set_option maxRecDepth 100000 in
theorem pj_h127 : ∀ p ∈ pj_pm.drop 127, pj_okm p.1 p.2 = true := fun p h => (List.mem_cons.mp (show p ∈ (pj_m127, 2, 1) :: pj_pm.drop 128 from h)).elim (fun e => e ▸ pj_ml127) (pj_h128 p)
set_option maxRecDepth 100000 in
theorem pj_h126 : ∀ p ∈ pj_pm.drop 126, pj_okm p.1 p.2 = true := fun p h => (List.mem_cons.mp (show p ∈ (pj_m126, 4, 1) :: pj_pm.drop 127 from h)).elim (fun e => e ▸ pj_ml126) (pj_h127 p)
set_option maxRecDepth 100000 in
theorem pj_h125 : ∀ p ∈ pj_pm.drop 125, pj_okm p.1 p.2 = true := fun p h => (List.mem_cons.mp (show p ∈ (pj_m125, 0, 3) :: pj_pm.drop 126 from h)).elim (fun e => e ▸ pj_ml125) (pj_h126 p)
set_option maxRecDepth 100000 in
theorem pj_h124 : ∀ p ∈ pj_pm.drop 124, pj_okm p.1 p.2 = true := fun p h => (List.mem_cons.mp (show p ∈ (pj_m124, 0, 3) :: pj_pm.drop 125 from h)).elim (fun e => e ▸ pj_ml124) (pj_h125 p)
set_option maxRecDepth 100000 in
theorem pj_h123 : ∀ p ∈ pj_pm.drop 123, pj_okm p.1 p.2 = true := fun p h => (List.mem_cons.mp (show p ∈ (pj_m123, 0, 3) :: pj_pm.drop 124 from h)).elim (fun e => e ▸ pj_ml123) (pj_h124 p)
set_option maxRecDepth 100000 in
theorem pj_h122 : ∀ p ∈ pj_pm.drop 122, pj_okm p.1 p.2 = true := fun p h => (List.mem_cons.mp (show p ∈ (pj_m122, 0, 1) :: pj_pm.drop 123 from h)).elim (fun e => e ▸ pj_ml122) (pj_h123 p)
set_option maxRecDepth 100000 in
theorem pj_h121 : ∀ p ∈ pj_pm.drop 121, pj_okm p.1 p.2 = true := fun p h => (List.mem_cons.mp (show p ∈ (pj_m121, 0, 1) :: pj_pm.drop 122 from h)).elim (fun e => e ▸ pj_ml121) (pj_h122 p)
set_option maxRecDepth 100000 in
theorem pj_h120 : ∀ p ∈ pj_pm.drop 120, pj_okm p.1 p.2 = true := fun p h => (List.mem_cons.mp (show p ∈ (pj_m120, 0, 1) :: pj_pm.drop 121 from h)).elim (fun e => e ▸ pj_ml120) (pj_h121 p)
set_option maxRecDepth 100000 in
theorem pj_h119 : ∀ p ∈ pj_pm.drop 119, pj_okm p.1 p.2 = true := fun p h => (List.mem_cons.mp (show p ∈ (pj_m119, 0, 1) :: pj_pm.drop 120 from h)).elim (fun e => e ▸ pj_ml119) (pj_h120 p)
set_option maxRecDepth 100000 in
theorem pj_h118 : ∀ p ∈ pj_pm.drop 118, pj_okm p.1 p.2 = true := fun p h => (List.mem_cons.mp (show p ∈ (pj_m118, 1, 1) :: pj_pm.drop 119 from h)).elim (fun e => e ▸ pj_ml118) (pj_h119 p)
set_option maxRecDepth 100000 in
theorem pj_h117 : ∀ p ∈ pj_pm.drop 117, pj_okm p.1 p.2 = true := fun p h => (List.mem_cons.mp (show p ∈ (pj_m117, 1, 1) :: pj_pm.drop 118 from h)).elim (fun e => e ▸ pj_ml117) (pj_h118 p)
set_option maxRecDepth 100000 in
theorem pj_h116 : ∀ p ∈ pj_pm.drop 116, pj_okm p.1 p.2 = true := fun p h => (List.mem_cons.mp (show p ∈ (pj_m116, 0, 2) :: pj_pm.drop 117 from h)).elim (fun e => e ▸ pj_ml116) (pj_h117 p)
set_option maxRecDepth 100000 in
theorem pj_h115 : ∀ p ∈ pj_pm.drop 115, pj_okm p.1 p.2 = true := fun p h => (List.mem_cons.mp (show p ∈ (pj_m115, 1, 1) :: pj_pm.drop 116 from h)).elim (fun e => e ▸ pj_ml115) (pj_h116 p)
set_option maxRecDepth 100000 in
theorem pj_h114 : ∀ p ∈ pj_pm.drop 114, pj_okm p.1 p.2 = true := fun p h => (List.mem_cons.mp (show p ∈ (pj_m114, 6, 1) :: pj_pm.drop 115 from h)).elim (fun e => e ▸ pj_ml114) (pj_h115 p)
set_option maxRecDepth 100000 in
theorem pj_h113 : ∀ p ∈ pj_pm.drop 113, pj_okm p.1 p.2 = true := fun p h => (List.mem_cons.mp (show p ∈ (pj_m113, 4, 1) :: pj_pm.drop 114 from h)).elim (fun e => e ▸ pj_ml113) (pj_h114 p)
set_option maxRecDepth 100000 in
theorem pj_h112 : ∀ p ∈ pj_pm.drop 112, pj_okm p.1 p.2 = true := fun p h => (List.mem_cons.mp (show p ∈ (pj_m112, 4, 1) :: pj_pm.drop 113 from h)).elim (fun e => e ▸ pj_ml112) (pj_h113 p)
set_option maxRecDepth 100000 in
theorem pj_h111 : ∀ p ∈ pj_pm.drop 111, pj_okm p.1 p.2 = true := fun p h => (List.mem_cons.mp (show p ∈ (pj_m111, 4, 1) :: pj_pm.drop 112 from h)).elim (fun e => e ▸ pj_ml111) (pj_h112 p)
set_option maxRecDepth 100000 in
theorem pj_h110 : ∀ p ∈ pj_pm.drop 110, pj_okm p.1 p.2 = true := fun p h => (List.mem_cons.mp (show p ∈ (pj_m110, 2, 1) :: pj_pm.drop 111 from h)).elim (fun e => e ▸ pj_ml110) (pj_h111 p)
set_option maxRecDepth 100000 in
theorem pj_h109 : ∀ p ∈ pj_pm.drop 109, pj_okm p.1 p.2 = true := fun p h => (List.mem_cons.mp (show p ∈ (pj_m109, 1, 1) :: pj_pm.drop 110 from h)).elim (fun e => e ▸ pj_ml109) (pj_h110 p)
set_option maxRecDepth 100000 in
theorem pj_h108 : ∀ p ∈ pj_pm.drop 108, pj_okm p.1 p.2 = true := fun p h => (List.mem_cons.mp (show p ∈ (pj_m108, 2, 1) :: pj_pm.drop 109 from h)).elim (fun e => e ▸ pj_ml108) (pj_h109 p)
set_option maxRecDepth 100000 in
theorem pj_h107 : ∀ p ∈ pj_pm.drop 107, pj_okm p.1 p.2 = true := fun p h => (List.mem_cons.mp (show p ∈ (pj_m107, 0, 1) :: pj_pm.drop 108 from h)).elim (fun e => e ▸ pj_ml107) (pj_h108 p)
set_option maxRecDepth 100000 in
theorem pj_h106 : ∀ p ∈ pj_pm.drop 106, pj_okm p.1 p.2 = true := fun p h => (List.mem_cons.mp (show p ∈ (pj_m106, 0, 1) :: pj_pm.drop 107 from h)).elim (fun e => e ▸ pj_ml106) (pj_h107 p)
set_option maxRecDepth 100000 in
theorem pj_h105 : ∀ p ∈ pj_pm.drop 105, pj_okm p.1 p.2 = true := fun p h => (List.mem_cons.mp (show p ∈ (pj_m105, 1, 1) :: pj_pm.drop 106 from h)).elim (fun e => e ▸ pj_ml105) (pj_h106 p)
set_option maxRecDepth 100000 in
theorem pj_h104 : ∀ p ∈ pj_pm.drop 104, pj_okm p.1 p.2 = true := fun p h => (List.mem_cons.mp (show p ∈ (pj_m104, 2, 1) :: pj_pm.drop 105 from h)).elim (fun e => e ▸ pj_ml104) (pj_h105 p)
set_option maxRecDepth 100000 in
theorem pj_h103 : ∀ p ∈ pj_pm.drop 103, pj_okm p.1 p.2 = true := fun p h => (List.mem_cons.mp (show p ∈ (pj_m103, 2, 1) :: pj_pm.drop 104 from h)).elim (fun e => e ▸ pj_ml103) (pj_h104 p)
set_option maxRecDepth 100000 in
theorem pj_h102 : ∀ p ∈ pj_pm.drop 102, pj_okm p.1 p.2 = true := fun p h => (List.mem_cons.mp (show p ∈ (pj_m102, 2, 1) :: pj_pm.drop 103 from h)).elim (fun e => e ▸ pj_ml102) (pj_h103 p)
set_option maxRecDepth 100000 in
theorem pj_h101 : ∀ p ∈ pj_pm.drop 101, pj_okm p.1 p.2 = true := fun p h => (List.mem_cons.mp (show p ∈ (pj_m101, 2, 1) :: pj_pm.drop 102 from h)).elim (fun e => e ▸ pj_ml101) (pj_h102 p)
set_option maxRecDepth 100000 in
theorem pj_h100 : ∀ p ∈ pj_pm.drop 100, pj_okm p.1 p.2 = true := fun p h => (List.mem_cons.mp (show p ∈ (pj_m100, 1, 1) :: pj_pm.drop 101 from h)).elim (fun e => e ▸ pj_ml100) (pj_h101 p)
set_option maxRecDepth 100000 in
theorem pj_h99 : ∀ p ∈ pj_pm.drop 99, pj_okm p.1 p.2 = true := fun p h => (List.mem_cons.mp (show p ∈ (pj_m99, 2, 1) :: pj_pm.drop 100 from h)).elim (fun e => e ▸ pj_ml99) (pj_h100 p)
set_option maxRecDepth 100000 in
theorem pj_h98 : ∀ p ∈ pj_pm.drop 98, pj_okm p.1 p.2 = true := fun p h => (List.mem_cons.mp (show p ∈ (pj_m98, 2, 0) :: pj_pm.drop 99 from h)).elim (fun e => e ▸ pj_ml98) (pj_h99 p)
set_option maxRecDepth 100000 in
theorem pj_h97 : ∀ p ∈ pj_pm.drop 97, pj_okm p.1 p.2 = true := fun p h => (List.mem_cons.mp (show p ∈ (pj_m97, 4, 1) :: pj_pm.drop 98 from h)).elim (fun e => e ▸ pj_ml97) (pj_h98 p)
set_option maxRecDepth 100000 in
theorem pj_h96 : ∀ p ∈ pj_pm.drop 96, pj_okm p.1 p.2 = true := fun p h => (List.mem_cons.mp (show p ∈ (pj_m96, 1, 1) :: pj_pm.drop 97 from h)).elim (fun e => e ▸ pj_ml96) (pj_h97 p)
set_option maxRecDepth 100000 in
theorem pj_h95 : ∀ p ∈ pj_pm.drop 95, pj_okm p.1 p.2 = true := fun p h => (List.mem_cons.mp (show p ∈ (pj_m95, 1, 1) :: pj_pm.drop 96 from h)).elim (fun e => e ▸ pj_ml95) (pj_h96 p)
set_option maxRecDepth 100000 in
theorem pj_h94 : ∀ p ∈ pj_pm.drop 94, pj_okm p.1 p.2 = true := fun p h => (List.mem_cons.mp (show p ∈ (pj_m94, 1, 1) :: pj_pm.drop 95 from h)).elim (fun e => e ▸ pj_ml94) (pj_h95 p)
set_option maxRecDepth 100000 in
theorem pj_h93 : ∀ p ∈ pj_pm.drop 93, pj_okm p.1 p.2 = true := fun p h => (List.mem_cons.mp (show p ∈ (pj_m93, 1, 1) :: pj_pm.drop 94 from h)).elim (fun e => e ▸ pj_ml93) (pj_h94 p)
set_option maxRecDepth 100000 in
theorem pj_h92 : ∀ p ∈ pj_pm.drop 92, pj_okm p.1 p.2 = true := fun p h => (List.mem_cons.mp (show p ∈ (pj_m92, 1, 1) :: pj_pm.drop 93 from h)).elim (fun e => e ▸ pj_ml92) (pj_h93 p)
set_option maxRecDepth 100000 in
theorem pj_h91 : ∀ p ∈ pj_pm.drop 91, pj_okm p.1 p.2 = true := fun p h => (List.mem_cons.mp (show p ∈ (pj_m91, 1, 1) :: pj_pm.drop 92 from h)).elim (fun e => e ▸ pj_ml91) (pj_h92 p)
set_option maxRecDepth 100000 in
theorem pj_h90 : ∀ p ∈ pj_pm.drop 90, pj_okm p.1 p.2 = true := fun p h => (List.mem_cons.mp (show p ∈ (pj_m90, 0, 1) :: pj_pm.drop 91 from h)).elim (fun e => e ▸ pj_ml90) (pj_h91 p)
set_option maxRecDepth 100000 in
theorem pj_h89 : ∀ p ∈ pj_pm.drop 89, pj_okm p.1 p.2 = true := fun p h => (List.mem_cons.mp (show p ∈ (pj_m89, 0, 2) :: pj_pm.drop 90 from h)).elim (fun e => e ▸ pj_ml89) (pj_h90 p)
set_option maxRecDepth 100000 in
theorem pj_h88 : ∀ p ∈ pj_pm.drop 88, pj_okm p.1 p.2 = true := fun p h => (List.mem_cons.mp (show p ∈ (pj_m88, 0, 1) :: pj_pm.drop 89 from h)).elim (fun e => e ▸ pj_ml88) (pj_h89 p)
set_option maxRecDepth 100000 in
theorem pj_h87 : ∀ p ∈ pj_pm.drop 87, pj_okm p.1 p.2 = true := fun p h => (List.mem_cons.mp (show p ∈ (pj_m87, 2, 1) :: pj_pm.drop 88 from h)).elim (fun e => e ▸ pj_ml87) (pj_h88 p)
set_option maxRecDepth 100000 in
theorem pj_h86 : ∀ p ∈ pj_pm.drop 86, pj_okm p.1 p.2 = true := fun p h => (List.mem_cons.mp (show p ∈ (pj_m86, 1, 1) :: pj_pm.drop 87 from h)).elim (fun e => e ▸ pj_ml86) (pj_h87 p)
set_option maxRecDepth 100000 in
theorem pj_h85 : ∀ p ∈ pj_pm.drop 85, pj_okm p.1 p.2 = true := fun p h => (List.mem_cons.mp (show p ∈ (pj_m85, 0, 1) :: pj_pm.drop 86 from h)).elim (fun e => e ▸ pj_ml85) (pj_h86 p)
set_option maxRecDepth 100000 in
theorem pj_h84 : ∀ p ∈ pj_pm.drop 84, pj_okm p.1 p.2 = true := fun p h => (List.mem_cons.mp (show p ∈ (pj_m84, 1, 1) :: pj_pm.drop 85 from h)).elim (fun e => e ▸ pj_ml84) (pj_h85 p)
set_option maxRecDepth 100000 in
theorem pj_h83 : ∀ p ∈ pj_pm.drop 83, pj_okm p.1 p.2 = true := fun p h => (List.mem_cons.mp (show p ∈ (pj_m83, 2, 1) :: pj_pm.drop 84 from h)).elim (fun e => e ▸ pj_ml83) (pj_h84 p)
set_option maxRecDepth 100000 in
theorem pj_h82 : ∀ p ∈ pj_pm.drop 82, pj_okm p.1 p.2 = true := fun p h => (List.mem_cons.mp (show p ∈ (pj_m82, 1, 1) :: pj_pm.drop 83 from h)).elim (fun e => e ▸ pj_ml82) (pj_h83 p)
set_option maxRecDepth 100000 in
theorem pj_h81 : ∀ p ∈ pj_pm.drop 81, pj_okm p.1 p.2 = true := fun p h => (List.mem_cons.mp (show p ∈ (pj_m81, 0, 1) :: pj_pm.drop 82 from h)).elim (fun e => e ▸ pj_ml81) (pj_h82 p)
set_option maxRecDepth 100000 in
theorem pj_h80 : ∀ p ∈ pj_pm.drop 80, pj_okm p.1 p.2 = true := fun p h => (List.mem_cons.mp (show p ∈ (pj_m80, 0, 1) :: pj_pm.drop 81 from h)).elim (fun e => e ▸ pj_ml80) (pj_h81 p)
set_option maxRecDepth 100000 in
theorem pj_h79 : ∀ p ∈ pj_pm.drop 79, pj_okm p.1 p.2 = true := fun p h => (List.mem_cons.mp (show p ∈ (pj_m79, 1, 1) :: pj_pm.drop 80 from h)).elim (fun e => e ▸ pj_ml79) (pj_h80 p)
set_option maxRecDepth 100000 in
theorem pj_h78 : ∀ p ∈ pj_pm.drop 78, pj_okm p.1 p.2 = true := fun p h => (List.mem_cons.mp (show p ∈ (pj_m78, 1, 1) :: pj_pm.drop 79 from h)).elim (fun e => e ▸ pj_ml78) (pj_h79 p)
set_option maxRecDepth 100000 in
theorem pj_h77 : ∀ p ∈ pj_pm.drop 77, pj_okm p.1 p.2 = true := fun p h => (List.mem_cons.mp (show p ∈ (pj_m77, 1, 1) :: pj_pm.drop 78 from h)).elim (fun e => e ▸ pj_ml77) (pj_h78 p)
set_option maxRecDepth 100000 in
theorem pj_h76 : ∀ p ∈ pj_pm.drop 76, pj_okm p.1 p.2 = true := fun p h => (List.mem_cons.mp (show p ∈ (pj_m76, 0, 2) :: pj_pm.drop 77 from h)).elim (fun e => e ▸ pj_ml76) (pj_h77 p)
set_option maxRecDepth 100000 in
theorem pj_h75 : ∀ p ∈ pj_pm.drop 75, pj_okm p.1 p.2 = true := fun p h => (List.mem_cons.mp (show p ∈ (pj_m75, 0, 1) :: pj_pm.drop 76 from h)).elim (fun e => e ▸ pj_ml75) (pj_h76 p)
set_option maxRecDepth 100000 in
theorem pj_h74 : ∀ p ∈ pj_pm.drop 74, pj_okm p.1 p.2 = true := fun p h => (List.mem_cons.mp (show p ∈ (pj_m74, 0, 1) :: pj_pm.drop 75 from h)).elim (fun e => e ▸ pj_ml74) (pj_h75 p)
set_option maxRecDepth 100000 in
theorem pj_h73 : ∀ p ∈ pj_pm.drop 73, pj_okm p.1 p.2 = true := fun p h => (List.mem_cons.mp (show p ∈ (pj_m73, 0, 1) :: pj_pm.drop 74 from h)).elim (fun e => e ▸ pj_ml73) (pj_h74 p)
set_option maxRecDepth 100000 in
theorem pj_h72 : ∀ p ∈ pj_pm.drop 72, pj_okm p.1 p.2 = true := fun p h => (List.mem_cons.mp (show p ∈ (pj_m72, 1, 1) :: pj_pm.drop 73 from h)).elim (fun e => e ▸ pj_ml72) (pj_h73 p)
set_option maxRecDepth 100000 in
theorem pj_h71 : ∀ p ∈ pj_pm.drop 71, pj_okm p.1 p.2 = true := fun p h => (List.mem_cons.mp (show p ∈ (pj_m71, 1, 1) :: pj_pm.drop 72 from h)).elim (fun e => e ▸ pj_ml71) (pj_h72 p)
set_option maxRecDepth 100000 in
theorem pj_h70 : ∀ p ∈ pj_pm.drop 70, pj_okm p.1 p.2 = true := fun p h => (List.mem_cons.mp (show p ∈ (pj_m70, 1, 1) :: pj_pm.drop 71 from h)).elim (fun e => e ▸ pj_ml70) (pj_h71 p)
set_option maxRecDepth 100000 in
theorem pj_h69 : ∀ p ∈ pj_pm.drop 69, pj_okm p.1 p.2 = true := fun p h => (List.mem_cons.mp (show p ∈ (pj_m69, 1, 1) :: pj_pm.drop 70 from h)).elim (fun e => e ▸ pj_ml69) (pj_h70 p)
set_option maxRecDepth 100000 in
theorem pj_h68 : ∀ p ∈ pj_pm.drop 68, pj_okm p.1 p.2 = true := fun p h => (List.mem_cons.mp (show p ∈ (pj_m68, 1, 1) :: pj_pm.drop 69 from h)).elim (fun e => e ▸ pj_ml68) (pj_h69 p)
set_option maxRecDepth 100000 in
theorem pj_h67 : ∀ p ∈ pj_pm.drop 67, pj_okm p.1 p.2 = true := fun p h => (List.mem_cons.mp (show p ∈ (pj_m67, 0, 2) :: pj_pm.drop 68 from h)).elim (fun e => e ▸ pj_ml67) (pj_h68 p)
set_option maxRecDepth 100000 in
theorem pj_h66 : ∀ p ∈ pj_pm.drop 66, pj_okm p.1 p.2 = true := fun p h => (List.mem_cons.mp (show p ∈ (pj_m66, 3, 0) :: pj_pm.drop 67 from h)).elim (fun e => e ▸ pj_ml66) (pj_h67 p)
set_option maxRecDepth 100000 in
theorem pj_h65 : ∀ p ∈ pj_pm.drop 65, pj_okm p.1 p.2 = true := fun p h => (List.mem_cons.mp (show p ∈ (pj_m65, 1, 1) :: pj_pm.drop 66 from h)).elim (fun e => e ▸ pj_ml65) (pj_h66 p)
set_option maxRecDepth 100000 in
theorem pj_h64 : ∀ p ∈ pj_pm.drop 64, pj_okm p.1 p.2 = true := fun p h => (List.mem_cons.mp (show p ∈ (pj_m64, 2, 1) :: pj_pm.drop 65 from h)).elim (fun e => e ▸ pj_ml64) (pj_h65 p)
set_option maxRecDepth 100000 in
theorem pj_h63 : ∀ p ∈ pj_pm.drop 63, pj_okm p.1 p.2 = true := fun p h => (List.mem_cons.mp (show p ∈ (pj_m63, 2, 1) :: pj_pm.drop 64 from h)).elim (fun e => e ▸ pj_ml63) (pj_h64 p)
set_option maxRecDepth 100000 in
theorem pj_h62 : ∀ p ∈ pj_pm.drop 62, pj_okm p.1 p.2 = true := fun p h => (List.mem_cons.mp (show p ∈ (pj_m62, 3, 1) :: pj_pm.drop 63 from h)).elim (fun e => e ▸ pj_ml62) (pj_h63 p)
set_option maxRecDepth 100000 in
theorem pj_h61 : ∀ p ∈ pj_pm.drop 61, pj_okm p.1 p.2 = true := fun p h => (List.mem_cons.mp (show p ∈ (pj_m61, 1, 0) :: pj_pm.drop 62 from h)).elim (fun e => e ▸ pj_ml61) (pj_h62 p)
set_option maxRecDepth 100000 in
theorem pj_h60 : ∀ p ∈ pj_pm.drop 60, pj_okm p.1 p.2 = true := fun p h => (List.mem_cons.mp (show p ∈ (pj_m60, 1, 1) :: pj_pm.drop 61 from h)).elim (fun e => e ▸ pj_ml60) (pj_h61 p)
set_option maxRecDepth 100000 in
theorem pj_h59 : ∀ p ∈ pj_pm.drop 59, pj_okm p.1 p.2 = true := fun p h => (List.mem_cons.mp (show p ∈ (pj_m59, 0, 1) :: pj_pm.drop 60 from h)).elim (fun e => e ▸ pj_ml59) (pj_h60 p)
set_option maxRecDepth 100000 in
theorem pj_h58 : ∀ p ∈ pj_pm.drop 58, pj_okm p.1 p.2 = true := fun p h => (List.mem_cons.mp (show p ∈ (pj_m58, 1, 1) :: pj_pm.drop 59 from h)).elim (fun e => e ▸ pj_ml58) (pj_h59 p)
set_option maxRecDepth 100000 in
theorem pj_h57 : ∀ p ∈ pj_pm.drop 57, pj_okm p.1 p.2 = true := fun p h => (List.mem_cons.mp (show p ∈ (pj_m57, 0, 2) :: pj_pm.drop 58 from h)).elim (fun e => e ▸ pj_ml57) (pj_h58 p)
set_option maxRecDepth 100000 in
theorem pj_h56 : ∀ p ∈ pj_pm.drop 56, pj_okm p.1 p.2 = true := fun p h => (List.mem_cons.mp (show p ∈ (pj_m56, 2, 1) :: pj_pm.drop 57 from h)).elim (fun e => e ▸ pj_ml56) (pj_h57 p)
set_option maxRecDepth 100000 in
theorem pj_h55 : ∀ p ∈ pj_pm.drop 55, pj_okm p.1 p.2 = true := fun p h => (List.mem_cons.mp (show p ∈ (pj_m55, 1, 1) :: pj_pm.drop 56 from h)).elim (fun e => e ▸ pj_ml55) (pj_h56 p)
set_option maxRecDepth 100000 in
theorem pj_h54 : ∀ p ∈ pj_pm.drop 54, pj_okm p.1 p.2 = true := fun p h => (List.mem_cons.mp (show p ∈ (pj_m54, 1, 1) :: pj_pm.drop 55 from h)).elim (fun e => e ▸ pj_ml54) (pj_h55 p)
set_option maxRecDepth 100000 in
theorem pj_h53 : ∀ p ∈ pj_pm.drop 53, pj_okm p.1 p.2 = true := fun p h => (List.mem_cons.mp (show p ∈ (pj_m53, 0, 1) :: pj_pm.drop 54 from h)).elim (fun e => e ▸ pj_ml53) (pj_h54 p)
set_option maxRecDepth 100000 in
theorem pj_h52 : ∀ p ∈ pj_pm.drop 52, pj_okm p.1 p.2 = true := fun p h => (List.mem_cons.mp (show p ∈ (pj_m52, 0, 2) :: pj_pm.drop 53 from h)).elim (fun e => e ▸ pj_ml52) (pj_h53 p)
set_option maxRecDepth 100000 in
theorem pj_h51 : ∀ p ∈ pj_pm.drop 51, pj_okm p.1 p.2 = true := fun p h => (List.mem_cons.mp (show p ∈ (pj_m51, 5, 1) :: pj_pm.drop 52 from h)).elim (fun e => e ▸ pj_ml51) (pj_h52 p)
set_option maxRecDepth 100000 in
theorem pj_h50 : ∀ p ∈ pj_pm.drop 50, pj_okm p.1 p.2 = true := fun p h => (List.mem_cons.mp (show p ∈ (pj_m50, 3, 1) :: pj_pm.drop 51 from h)).elim (fun e => e ▸ pj_ml50) (pj_h51 p)
set_option maxRecDepth 100000 in
theorem pj_h49 : ∀ p ∈ pj_pm.drop 49, pj_okm p.1 p.2 = true := fun p h => (List.mem_cons.mp (show p ∈ (pj_m49, 1, 1) :: pj_pm.drop 50 from h)).elim (fun e => e ▸ pj_ml49) (pj_h50 p)
set_option maxRecDepth 100000 in
theorem pj_h48 : ∀ p ∈ pj_pm.drop 48, pj_okm p.1 p.2 = true := fun p h => (List.mem_cons.mp (show p ∈ (pj_m48, 3, 1) :: pj_pm.drop 49 from h)).elim (fun e => e ▸ pj_ml48) (pj_h49 p)
set_option maxRecDepth 100000 in
theorem pj_h47 : ∀ p ∈ pj_pm.drop 47, pj_okm p.1 p.2 = true := fun p h => (List.mem_cons.mp (show p ∈ (pj_m47, 2, 1) :: pj_pm.drop 48 from h)).elim (fun e => e ▸ pj_ml47) (pj_h48 p)
set_option maxRecDepth 100000 in
theorem pj_h46 : ∀ p ∈ pj_pm.drop 46, pj_okm p.1 p.2 = true := fun p h => (List.mem_cons.mp (show p ∈ (pj_m46, 3, 1) :: pj_pm.drop 47 from h)).elim (fun e => e ▸ pj_ml46) (pj_h47 p)
set_option maxRecDepth 100000 in
theorem pj_h45 : ∀ p ∈ pj_pm.drop 45, pj_okm p.1 p.2 = true := fun p h => (List.mem_cons.mp (show p ∈ (pj_m45, 2, 1) :: pj_pm.drop 46 from h)).elim (fun e => e ▸ pj_ml45) (pj_h46 p)
set_option maxRecDepth 100000 in
theorem pj_h44 : ∀ p ∈ pj_pm.drop 44, pj_okm p.1 p.2 = true := fun p h => (List.mem_cons.mp (show p ∈ (pj_m44, 2, 1) :: pj_pm.drop 45 from h)).elim (fun e => e ▸ pj_ml44) (pj_h45 p)
set_option maxRecDepth 100000 in
theorem pj_h43 : ∀ p ∈ pj_pm.drop 43, pj_okm p.1 p.2 = true := fun p h => (List.mem_cons.mp (show p ∈ (pj_m43, 1, 1) :: pj_pm.drop 44 from h)).elim (fun e => e ▸ pj_ml43) (pj_h44 p)
set_option maxRecDepth 100000 in
theorem pj_h42 : ∀ p ∈ pj_pm.drop 42, pj_okm p.1 p.2 = true := fun p h => (List.mem_cons.mp (show p ∈ (pj_m42, 0, 1) :: pj_pm.drop 43 from h)).elim (fun e => e ▸ pj_ml42) (pj_h43 p)
set_option maxRecDepth 100000 in
theorem pj_h41 : ∀ p ∈ pj_pm.drop 41, pj_okm p.1 p.2 = true := fun p h => (List.mem_cons.mp (show p ∈ (pj_m41, 1, 1) :: pj_pm.drop 42 from h)).elim (fun e => e ▸ pj_ml41) (pj_h42 p)
set_option maxRecDepth 100000 in
theorem pj_h40 : ∀ p ∈ pj_pm.drop 40, pj_okm p.1 p.2 = true := fun p h => (List.mem_cons.mp (show p ∈ (pj_m40, 0, 2) :: pj_pm.drop 41 from h)).elim (fun e => e ▸ pj_ml40) (pj_h41 p)
set_option maxRecDepth 100000 in
theorem pj_h39 : ∀ p ∈ pj_pm.drop 39, pj_okm p.1 p.2 = true := fun p h => (List.mem_cons.mp (show p ∈ (pj_m39, 2, 1) :: pj_pm.drop 40 from h)).elim (fun e => e ▸ pj_ml39) (pj_h40 p)
set_option maxRecDepth 100000 in
theorem pj_h38 : ∀ p ∈ pj_pm.drop 38, pj_okm p.1 p.2 = true := fun p h => (List.mem_cons.mp (show p ∈ (pj_m38, 2, 1) :: pj_pm.drop 39 from h)).elim (fun e => e ▸ pj_ml38) (pj_h39 p)
set_option maxRecDepth 100000 in
theorem pj_h37 : ∀ p ∈ pj_pm.drop 37, pj_okm p.1 p.2 = true := fun p h => (List.mem_cons.mp (show p ∈ (pj_m37, 0, 1) :: pj_pm.drop 38 from h)).elim (fun e => e ▸ pj_ml37) (pj_h38 p)
set_option maxRecDepth 100000 in
theorem pj_h36 : ∀ p ∈ pj_pm.drop 36, pj_okm p.1 p.2 = true := fun p h => (List.mem_cons.mp (show p ∈ (pj_m36, 0, 1) :: pj_pm.drop 37 from h)).elim (fun e => e ▸ pj_ml36) (pj_h37 p)
set_option maxRecDepth 100000 in
theorem pj_h35 : ∀ p ∈ pj_pm.drop 35, pj_okm p.1 p.2 = true := fun p h => (List.mem_cons.mp (show p ∈ (pj_m35, 0, 1) :: pj_pm.drop 36 from h)).elim (fun e => e ▸ pj_ml35) (pj_h36 p)
set_option maxRecDepth 100000 in
theorem pj_h34 : ∀ p ∈ pj_pm.drop 34, pj_okm p.1 p.2 = true := fun p h => (List.mem_cons.mp (show p ∈ (pj_m34, 1, 1) :: pj_pm.drop 35 from h)).elim (fun e => e ▸ pj_ml34) (pj_h35 p)
set_option maxRecDepth 100000 in
theorem pj_h33 : ∀ p ∈ pj_pm.drop 33, pj_okm p.1 p.2 = true := fun p h => (List.mem_cons.mp (show p ∈ (pj_m33, 1, 1) :: pj_pm.drop 34 from h)).elim (fun e => e ▸ pj_ml33) (pj_h34 p)
set_option maxRecDepth 100000 in
theorem pj_h32 : ∀ p ∈ pj_pm.drop 32, pj_okm p.1 p.2 = true := fun p h => (List.mem_cons.mp (show p ∈ (pj_m32, 0, 2) :: pj_pm.drop 33 from h)).elim (fun e => e ▸ pj_ml32) (pj_h33 p)
set_option maxRecDepth 100000 in
theorem pj_h31 : ∀ p ∈ pj_pm.drop 31, pj_okm p.1 p.2 = true := fun p h => (List.mem_cons.mp (show p ∈ (pj_m31, 1, 1) :: pj_pm.drop 32 from h)).elim (fun e => e ▸ pj_ml31) (pj_h32 p)
set_option maxRecDepth 100000 in
theorem pj_h30 : ∀ p ∈ pj_pm.drop 30, pj_okm p.1 p.2 = true := fun p h => (List.mem_cons.mp (show p ∈ (pj_m30, 1, 1) :: pj_pm.drop 31 from h)).elim (fun e => e ▸ pj_ml30) (pj_h31 p)
set_option maxRecDepth 100000 in
theorem pj_h29 : ∀ p ∈ pj_pm.drop 29, pj_okm p.1 p.2 = true := fun p h => (List.mem_cons.mp (show p ∈ (pj_m29, 1, 1) :: pj_pm.drop 30 from h)).elim (fun e => e ▸ pj_ml29) (pj_h30 p)
set_option maxRecDepth 100000 in
theorem pj_h28 : ∀ p ∈ pj_pm.drop 28, pj_okm p.1 p.2 = true := fun p h => (List.mem_cons.mp (show p ∈ (pj_m28, 1, 1) :: pj_pm.drop 29 from h)).elim (fun e => e ▸ pj_ml28) (pj_h29 p)
set_option maxRecDepth 100000 in
theorem pj_h27 : ∀ p ∈ pj_pm.drop 27, pj_okm p.1 p.2 = true := fun p h => (List.mem_cons.mp (show p ∈ (pj_m27, 1, 1) :: pj_pm.drop 28 from h)).elim (fun e => e ▸ pj_ml27) (pj_h28 p)
set_option maxRecDepth 100000 in
theorem pj_h26 : ∀ p ∈ pj_pm.drop 26, pj_okm p.1 p.2 = true := fun p h => (List.mem_cons.mp (show p ∈ (pj_m26, 3, 1) :: pj_pm.drop 27 from h)).elim (fun e => e ▸ pj_ml26) (pj_h27 p)
set_option maxRecDepth 100000 in
theorem pj_h25 : ∀ p ∈ pj_pm.drop 25, pj_okm p.1 p.2 = true := fun p h => (List.mem_cons.mp (show p ∈ (pj_m25, 3, 1) :: pj_pm.drop 26 from h)).elim (fun e => e ▸ pj_ml25) (pj_h26 p)
set_option maxRecDepth 100000 in
theorem pj_h24 : ∀ p ∈ pj_pm.drop 24, pj_okm p.1 p.2 = true := fun p h => (List.mem_cons.mp (show p ∈ (pj_m24, 2, 1) :: pj_pm.drop 25 from h)).elim (fun e => e ▸ pj_ml24) (pj_h25 p)
set_option maxRecDepth 100000 in
theorem pj_h23 : ∀ p ∈ pj_pm.drop 23, pj_okm p.1 p.2 = true := fun p h => (List.mem_cons.mp (show p ∈ (pj_m23, 0, 1) :: pj_pm.drop 24 from h)).elim (fun e => e ▸ pj_ml23) (pj_h24 p)
set_option maxRecDepth 100000 in
theorem pj_h22 : ∀ p ∈ pj_pm.drop 22, pj_okm p.1 p.2 = true := fun p h => (List.mem_cons.mp (show p ∈ (pj_m22, 1, 2) :: pj_pm.drop 23 from h)).elim (fun e => e ▸ pj_ml22) (pj_h23 p)
set_option maxRecDepth 100000 in
theorem pj_h21 : ∀ p ∈ pj_pm.drop 21, pj_okm p.1 p.2 = true := fun p h => (List.mem_cons.mp (show p ∈ (pj_m21, 2, 1) :: pj_pm.drop 22 from h)).elim (fun e => e ▸ pj_ml21) (pj_h22 p)
set_option maxRecDepth 100000 in
theorem pj_h20 : ∀ p ∈ pj_pm.drop 20, pj_okm p.1 p.2 = true := fun p h => (List.mem_cons.mp (show p ∈ (pj_m20, 0, 1) :: pj_pm.drop 21 from h)).elim (fun e => e ▸ pj_ml20) (pj_h21 p)
set_option maxRecDepth 100000 in
theorem pj_h19 : ∀ p ∈ pj_pm.drop 19, pj_okm p.1 p.2 = true := fun p h => (List.mem_cons.mp (show p ∈ (pj_m19, 1, 1) :: pj_pm.drop 20 from h)).elim (fun e => e ▸ pj_ml19) (pj_h20 p)
set_option maxRecDepth 100000 in
theorem pj_h18 : ∀ p ∈ pj_pm.drop 18, pj_okm p.1 p.2 = true := fun p h => (List.mem_cons.mp (show p ∈ (pj_m18, 2, 1) :: pj_pm.drop 19 from h)).elim (fun e => e ▸ pj_ml18) (pj_h19 p)
set_option maxRecDepth 100000 in
theorem pj_h17 : ∀ p ∈ pj_pm.drop 17, pj_okm p.1 p.2 = true := fun p h => (List.mem_cons.mp (show p ∈ (pj_m17, 3, 1) :: pj_pm.drop 18 from h)).elim (fun e => e ▸ pj_ml17) (pj_h18 p)
set_option maxRecDepth 100000 in
theorem pj_h16 : ∀ p ∈ pj_pm.drop 16, pj_okm p.1 p.2 = true := fun p h => (List.mem_cons.mp (show p ∈ (pj_m16, 2, 0) :: pj_pm.drop 17 from h)).elim (fun e => e ▸ pj_ml16) (pj_h17 p)
set_option maxRecDepth 100000 in
theorem pj_h15 : ∀ p ∈ pj_pm.drop 15, pj_okm p.1 p.2 = true := fun p h => (List.mem_cons.mp (show p ∈ (pj_m15, 1, 2) :: pj_pm.drop 16 from h)).elim (fun e => e ▸ pj_ml15) (pj_h16 p)
set_option maxRecDepth 100000 in
theorem pj_h14 : ∀ p ∈ pj_pm.drop 14, pj_okm p.1 p.2 = true := fun p h => (List.mem_cons.mp (show p ∈ (pj_m14, 0, 1) :: pj_pm.drop 15 from h)).elim (fun e => e ▸ pj_ml14) (pj_h15 p)
set_option maxRecDepth 100000 in
theorem pj_h13 : ∀ p ∈ pj_pm.drop 13, pj_okm p.1 p.2 = true := fun p h => (List.mem_cons.mp (show p ∈ (pj_m13, 1, 1) :: pj_pm.drop 14 from h)).elim (fun e => e ▸ pj_ml13) (pj_h14 p)
set_option maxRecDepth 100000 in
theorem pj_h12 : ∀ p ∈ pj_pm.drop 12, pj_okm p.1 p.2 = true := fun p h => (List.mem_cons.mp (show p ∈ (pj_m12, 3, 1) :: pj_pm.drop 13 from h)).elim (fun e => e ▸ pj_ml12) (pj_h13 p)
set_option maxRecDepth 100000 in
theorem pj_h11 : ∀ p ∈ pj_pm.drop 11, pj_okm p.1 p.2 = true := fun p h => (List.mem_cons.mp (show p ∈ (pj_m11, 2, 0) :: pj_pm.drop 12 from h)).elim (fun e => e ▸ pj_ml11) (pj_h12 p)
set_option maxRecDepth 100000 in
theorem pj_h10 : ∀ p ∈ pj_pm.drop 10, pj_okm p.1 p.2 = true := fun p h => (List.mem_cons.mp (show p ∈ (pj_m10, 2, 1) :: pj_pm.drop 11 from h)).elim (fun e => e ▸ pj_ml10) (pj_h11 p)
set_option maxRecDepth 100000 in
theorem pj_h9 : ∀ p ∈ pj_pm.drop 9, pj_okm p.1 p.2 = true := fun p h => (List.mem_cons.mp (show p ∈ (pj_m9, 0, 1) :: pj_pm.drop 10 from h)).elim (fun e => e ▸ pj_ml9) (pj_h10 p)
set_option maxRecDepth 100000 in
theorem pj_h8 : ∀ p ∈ pj_pm.drop 8, pj_okm p.1 p.2 = true := fun p h => (List.mem_cons.mp (show p ∈ (pj_m8, 1, 1) :: pj_pm.drop 9 from h)).elim (fun e => e ▸ pj_ml8) (pj_h9 p)
set_option maxRecDepth 100000 in
theorem pj_h7 : ∀ p ∈ pj_pm.drop 7, pj_okm p.1 p.2 = true := fun p h => (List.mem_cons.mp (show p ∈ (pj_m7, 3, 1) :: pj_pm.drop 8 from h)).elim (fun e => e ▸ pj_ml7) (pj_h8 p)
set_option maxRecDepth 100000 in
theorem pj_h6 : ∀ p ∈ pj_pm.drop 6, pj_okm p.1 p.2 = true := fun p h => (List.mem_cons.mp (show p ∈ (pj_m6, 2, 1) :: pj_pm.drop 7 from h)).elim (fun e => e ▸ pj_ml6) (pj_h7 p)
set_option maxRecDepth 100000 in
theorem pj_h5 : ∀ p ∈ pj_pm.drop 5, pj_okm p.1 p.2 = true := fun p h => (List.mem_cons.mp (show p ∈ (pj_m5, 1, 2) :: pj_pm.drop 6 from h)).elim (fun e => e ▸ pj_ml5) (pj_h6 p)
set_option maxRecDepth 100000 in
theorem pj_h4 : ∀ p ∈ pj_pm.drop 4, pj_okm p.1 p.2 = true := fun p h => (List.mem_cons.mp (show p ∈ (pj_m4, 2, 1) :: pj_pm.drop 5 from h)).elim (fun e => e ▸ pj_ml4) (pj_h5 p)
set_option maxRecDepth 100000 in
theorem pj_h3 : ∀ p ∈ pj_pm.drop 3, pj_okm p.1 p.2 = true := fun p h => (List.mem_cons.mp (show p ∈ (pj_m3, 1, 1) :: pj_pm.drop 4 from h)).elim (fun e => e ▸ pj_ml3) (pj_h4 p)
set_option maxRecDepth 100000 in
theorem pj_h2 : ∀ p ∈ pj_pm.drop 2, pj_okm p.1 p.2 = true := fun p h => (List.mem_cons.mp (show p ∈ (pj_m2, 2, 1) :: pj_pm.drop 3 from h)).elim (fun e => e ▸ pj_ml2) (pj_h3 p)
set_option maxRecDepth 100000 in
theorem pj_h1 : ∀ p ∈ pj_pm.drop 1, pj_okm p.1 p.2 = true := fun p h => (List.mem_cons.mp (show p ∈ (pj_m1, 1, 1) :: pj_pm.drop 2 from h)).elim (fun e => e ▸ pj_ml1) (pj_h2 p)
set_option maxRecDepth 100000 in
theorem pj_h0 : ∀ p ∈ pj_pm.drop 0, pj_okm p.1 p.2 = true := fun p h => (List.mem_cons.mp (show p ∈ (pj_m0, 0, 2) :: pj_pm.drop 1 from h)).elim (fun e => e ▸ pj_ml0) (pj_h1 p)
theorem pj_hm : pj_HM := pj_h0
theorem pj_mk0 : pj_okR pj_prog pj_m0 = true := pj_okRL_s pj_hm pj_mn0 pj_mr0
theorem pj_mk1 : pj_okR pj_prog pj_m1 = true := pj_okRL_s pj_hm pj_mn1 pj_mr1
theorem pj_mk2 : pj_okR pj_prog pj_m2 = true := pj_okRL_s pj_hm pj_mn2 pj_mr2
theorem pj_mk3 : pj_okR pj_prog pj_m3 = true := pj_okRL_s pj_hm pj_mn3 pj_mr3
theorem pj_mk4 : pj_okR pj_prog pj_m4 = true := pj_okRL_s pj_hm pj_mn4 pj_mr4
theorem pj_mk5 : pj_okR pj_prog pj_m5 = true := pj_okRL_s pj_hm pj_mn5 pj_mr5
theorem pj_mk6 : pj_okR pj_prog pj_m6 = true := pj_okRL_s pj_hm pj_mn6 pj_mr6
theorem pj_mk7 : pj_okR pj_prog pj_m7 = true := pj_okRL_s pj_hm pj_mn7 pj_mr7
theorem pj_mk8 : pj_okR pj_prog pj_m8 = true := pj_okRL_s pj_hm pj_mn8 pj_mr8
theorem pj_mk9 : pj_okR pj_prog pj_m9 = true := pj_okRL_s pj_hm pj_mn9 pj_mr9
theorem pj_mk10 : pj_okR pj_prog pj_m10 = true := pj_okRL_s pj_hm pj_mn10 pj_mr10
theorem pj_mk11 : pj_okR pj_prog pj_m11 = true := pj_okRL_s pj_hm pj_mn11 pj_mr11
theorem pj_mk12 : pj_okR pj_prog pj_m12 = true := pj_okRL_s pj_hm pj_mn12 pj_mr12
theorem pj_mk13 : pj_okR pj_prog pj_m13 = true := pj_okRL_s pj_hm pj_mn13 pj_mr13
theorem pj_mk14 : pj_okR pj_prog pj_m14 = true := pj_okRL_s pj_hm pj_mn14 pj_mr14
theorem pj_mk15 : pj_okR pj_prog pj_m15 = true := pj_okRL_s pj_hm pj_mn15 pj_mr15
theorem pj_mk16 : pj_okR pj_prog pj_m16 = true := pj_okRL_s pj_hm pj_mn16 pj_mr16
theorem pj_mk17 : pj_okR pj_prog pj_m17 = true := pj_okRL_s pj_hm pj_mn17 pj_mr17
theorem pj_mk18 : pj_okR pj_prog pj_m18 = true := pj_okRL_s pj_hm pj_mn18 pj_mr18
theorem pj_mk19 : pj_okR pj_prog pj_m19 = true := pj_okRL_s pj_hm pj_mn19 pj_mr19
theorem pj_mk20 : pj_okR pj_prog pj_m20 = true := pj_okRL_s pj_hm pj_mn20 pj_mr20
theorem pj_mk21 : pj_okR pj_prog pj_m21 = true := pj_okRL_s pj_hm pj_mn21 pj_mr21
theorem pj_mk22 : pj_okR pj_prog pj_m22 = true := pj_okRL_s pj_hm pj_mn22 pj_mr22
theorem pj_mk23 : pj_okR pj_prog pj_m23 = true := pj_okRL_s pj_hm pj_mn23 pj_mr23
theorem pj_mk24 : pj_okR pj_prog pj_m24 = true := pj_okRL_s pj_hm pj_mn24 pj_mr24
theorem pj_mk25 : pj_okR pj_prog pj_m25 = true := pj_okRL_s pj_hm pj_mn25 pj_mr25
theorem pj_mk26 : pj_okR pj_prog pj_m26 = true := pj_okRL_s pj_hm pj_mn26 pj_mr26
theorem pj_mk27 : pj_okR pj_prog pj_m27 = true := pj_okRL_s pj_hm pj_mn27 pj_mr27
theorem pj_mk28 : pj_okR pj_prog pj_m28 = true := pj_okRL_s pj_hm pj_mn28 pj_mr28
theorem pj_mk29 : pj_okR pj_prog pj_m29 = true := pj_okRL_s pj_hm pj_mn29 pj_mr29
theorem pj_mk30 : pj_okR pj_prog pj_m30 = true := pj_okRL_s pj_hm pj_mn30 pj_mr30
theorem pj_mk31 : pj_okR pj_prog pj_m31 = true := pj_okRL_s pj_hm pj_mn31 pj_mr31
theorem pj_mk32 : pj_okR pj_prog pj_m32 = true := pj_okRL_s pj_hm pj_mn32 pj_mr32
theorem pj_mk33 : pj_okR pj_prog pj_m33 = true := pj_okRL_s pj_hm pj_mn33 pj_mr33
theorem pj_mk34 : pj_okR pj_prog pj_m34 = true := pj_okRL_s pj_hm pj_mn34 pj_mr34
theorem pj_mk35 : pj_okR pj_prog pj_m35 = true := pj_okRL_s pj_hm pj_mn35 pj_mr35
theorem pj_mk36 : pj_okR pj_prog pj_m36 = true := pj_okRL_s pj_hm pj_mn36 pj_mr36
theorem pj_mk37 : pj_okR pj_prog pj_m37 = true := pj_okRL_s pj_hm pj_mn37 pj_mr37
theorem pj_mk38 : pj_okR pj_prog pj_m38 = true := pj_okRL_s pj_hm pj_mn38 pj_mr38
theorem pj_mk39 : pj_okR pj_prog pj_m39 = true := pj_okRL_s pj_hm pj_mn39 pj_mr39
theorem pj_mk40 : pj_okR pj_prog pj_m40 = true := pj_okRL_s pj_hm pj_mn40 pj_mr40
theorem pj_mk41 : pj_okR pj_prog pj_m41 = true := pj_okRL_s pj_hm pj_mn41 pj_mr41
theorem pj_mk42 : pj_okR pj_prog pj_m42 = true := pj_okRL_s pj_hm pj_mn42 pj_mr42
theorem pj_mk43 : pj_okR pj_prog pj_m43 = true := pj_okRL_s pj_hm pj_mn43 pj_mr43
theorem pj_mk44 : pj_okR pj_prog pj_m44 = true := pj_okRL_s pj_hm pj_mn44 pj_mr44
theorem pj_mk45 : pj_okR pj_prog pj_m45 = true := pj_okRL_s pj_hm pj_mn45 pj_mr45
theorem pj_mk46 : pj_okR pj_prog pj_m46 = true := pj_okRL_s pj_hm pj_mn46 pj_mr46
theorem pj_mk47 : pj_okR pj_prog pj_m47 = true := pj_okRL_s pj_hm pj_mn47 pj_mr47
theorem pj_mk48 : pj_okR pj_prog pj_m48 = true := pj_okRL_s pj_hm pj_mn48 pj_mr48
theorem pj_mk49 : pj_okR pj_prog pj_m49 = true := pj_okRL_s pj_hm pj_mn49 pj_mr49
theorem pj_mk50 : pj_okR pj_prog pj_m50 = true := pj_okRL_s pj_hm pj_mn50 pj_mr50
theorem pj_mk51 : pj_okR pj_prog pj_m51 = true := pj_okRL_s pj_hm pj_mn51 pj_mr51
theorem pj_mk52 : pj_okR pj_prog pj_m52 = true := pj_okRL_s pj_hm pj_mn52 pj_mr52
theorem pj_mk53 : pj_okR pj_prog pj_m53 = true := pj_okRL_s pj_hm pj_mn53 pj_mr53
theorem pj_mk54 : pj_okR pj_prog pj_m54 = true := pj_okRL_s pj_hm pj_mn54 pj_mr54
theorem pj_mk55 : pj_okR pj_prog pj_m55 = true := pj_okRL_s pj_hm pj_mn55 pj_mr55
theorem pj_mk56 : pj_okR pj_prog pj_m56 = true := pj_okRL_s pj_hm pj_mn56 pj_mr56
theorem pj_mk57 : pj_okR pj_prog pj_m57 = true := pj_okRL_s pj_hm pj_mn57 pj_mr57
theorem pj_mk58 : pj_okR pj_prog pj_m58 = true := pj_okRL_s pj_hm pj_mn58 pj_mr58
theorem pj_mk59 : pj_okR pj_prog pj_m59 = true := pj_okRL_s pj_hm pj_mn59 pj_mr59
theorem pj_mk60 : pj_okR pj_prog pj_m60 = true := pj_okRL_s pj_hm pj_mn60 pj_mr60
theorem pj_mk61 : pj_okR pj_prog pj_m61 = true := pj_okRL_s pj_hm pj_mn61 pj_mr61
theorem pj_mk62 : pj_okR pj_prog pj_m62 = true := pj_okRL_s pj_hm pj_mn62 pj_mr62
theorem pj_mk63 : pj_okR pj_prog pj_m63 = true := pj_okRL_s pj_hm pj_mn63 pj_mr63
theorem pj_mk64 : pj_okR pj_prog pj_m64 = true := pj_okRL_s pj_hm pj_mn64 pj_mr64
theorem pj_mk65 : pj_okR pj_prog pj_m65 = true := pj_okRL_s pj_hm pj_mn65 pj_mr65
theorem pj_mk66 : pj_okR pj_prog pj_m66 = true := pj_okRL_s pj_hm pj_mn66 pj_mr66
theorem pj_mk67 : pj_okR pj_prog pj_m67 = true := pj_okRL_s pj_hm pj_mn67 pj_mr67
theorem pj_mk68 : pj_okR pj_prog pj_m68 = true := pj_okRL_s pj_hm pj_mn68 pj_mr68
theorem pj_mk69 : pj_okR pj_prog pj_m69 = true := pj_okRL_s pj_hm pj_mn69 pj_mr69
theorem pj_mk70 : pj_okR pj_prog pj_m70 = true := pj_okRL_s pj_hm pj_mn70 pj_mr70
theorem pj_mk71 : pj_okR pj_prog pj_m71 = true := pj_okRL_s pj_hm pj_mn71 pj_mr71
theorem pj_mk72 : pj_okR pj_prog pj_m72 = true := pj_okRL_s pj_hm pj_mn72 pj_mr72
theorem pj_mk73 : pj_okR pj_prog pj_m73 = true := pj_okRL_s pj_hm pj_mn73 pj_mr73
theorem pj_mk74 : pj_okR pj_prog pj_m74 = true := pj_okRL_s pj_hm pj_mn74 pj_mr74
theorem pj_mk75 : pj_okR pj_prog pj_m75 = true := pj_okRL_s pj_hm pj_mn75 pj_mr75
theorem pj_mk76 : pj_okR pj_prog pj_m76 = true := pj_okRL_s pj_hm pj_mn76 pj_mr76
theorem pj_mk77 : pj_okR pj_prog pj_m77 = true := pj_okRL_s pj_hm pj_mn77 pj_mr77
theorem pj_mk78 : pj_okR pj_prog pj_m78 = true := pj_okRL_s pj_hm pj_mn78 pj_mr78
theorem pj_mk79 : pj_okR pj_prog pj_m79 = true := pj_okRL_s pj_hm pj_mn79 pj_mr79
theorem pj_mk80 : pj_okR pj_prog pj_m80 = true := pj_okRL_s pj_hm pj_mn80 pj_mr80
theorem pj_mk81 : pj_okR pj_prog pj_m81 = true := pj_okRL_s pj_hm pj_mn81 pj_mr81
theorem pj_mk82 : pj_okR pj_prog pj_m82 = true := pj_okRL_s pj_hm pj_mn82 pj_mr82
theorem pj_mk83 : pj_okR pj_prog pj_m83 = true := pj_okRL_s pj_hm pj_mn83 pj_mr83
theorem pj_mk84 : pj_okR pj_prog pj_m84 = true := pj_okRL_s pj_hm pj_mn84 pj_mr84
theorem pj_mk85 : pj_okR pj_prog pj_m85 = true := pj_okRL_s pj_hm pj_mn85 pj_mr85
theorem pj_mk86 : pj_okR pj_prog pj_m86 = true := pj_okRL_s pj_hm pj_mn86 pj_mr86
theorem pj_mk87 : pj_okR pj_prog pj_m87 = true := pj_okRL_s pj_hm pj_mn87 pj_mr87
theorem pj_mk88 : pj_okR pj_prog pj_m88 = true := pj_okRL_s pj_hm pj_mn88 pj_mr88
theorem pj_mk89 : pj_okR pj_prog pj_m89 = true := pj_okRL_s pj_hm pj_mn89 pj_mr89
theorem pj_mk90 : pj_okR pj_prog pj_m90 = true := pj_okRL_s pj_hm pj_mn90 pj_mr90
theorem pj_mk91 : pj_okR pj_prog pj_m91 = true := pj_okRL_s pj_hm pj_mn91 pj_mr91
theorem pj_mk92 : pj_okR pj_prog pj_m92 = true := pj_okRL_s pj_hm pj_mn92 pj_mr92
theorem pj_mk93 : pj_okR pj_prog pj_m93 = true := pj_okRL_s pj_hm pj_mn93 pj_mr93
theorem pj_mk94 : pj_okR pj_prog pj_m94 = true := pj_okRL_s pj_hm pj_mn94 pj_mr94
theorem pj_mk95 : pj_okR pj_prog pj_m95 = true := pj_okRL_s pj_hm pj_mn95 pj_mr95
theorem pj_mk96 : pj_okR pj_prog pj_m96 = true := pj_okRL_s pj_hm pj_mn96 pj_mr96
theorem pj_mk97 : pj_okR pj_prog pj_m97 = true := pj_okRL_s pj_hm pj_mn97 pj_mr97
theorem pj_mk98 : pj_okR pj_prog pj_m98 = true := pj_okRL_s pj_hm pj_mn98 pj_mr98
theorem pj_mk99 : pj_okR pj_prog pj_m99 = true := pj_okRL_s pj_hm pj_mn99 pj_mr99
theorem pj_mk100 : pj_okR pj_prog pj_m100 = true := pj_okRL_s pj_hm pj_mn100 pj_mr100
theorem pj_mk101 : pj_okR pj_prog pj_m101 = true := pj_okRL_s pj_hm pj_mn101 pj_mr101
theorem pj_mk102 : pj_okR pj_prog pj_m102 = true := pj_okRL_s pj_hm pj_mn102 pj_mr102
theorem pj_mk103 : pj_okR pj_prog pj_m103 = true := pj_okRL_s pj_hm pj_mn103 pj_mr103
theorem pj_mk104 : pj_okR pj_prog pj_m104 = true := pj_okRL_s pj_hm pj_mn104 pj_mr104
theorem pj_mk105 : pj_okR pj_prog pj_m105 = true := pj_okRL_s pj_hm pj_mn105 pj_mr105
theorem pj_mk106 : pj_okR pj_prog pj_m106 = true := pj_okRL_s pj_hm pj_mn106 pj_mr106
theorem pj_mk107 : pj_okR pj_prog pj_m107 = true := pj_okRL_s pj_hm pj_mn107 pj_mr107
theorem pj_mk108 : pj_okR pj_prog pj_m108 = true := pj_okRL_s pj_hm pj_mn108 pj_mr108
theorem pj_mk109 : pj_okR pj_prog pj_m109 = true := pj_okRL_s pj_hm pj_mn109 pj_mr109
theorem pj_mk110 : pj_okR pj_prog pj_m110 = true := pj_okRL_s pj_hm pj_mn110 pj_mr110
theorem pj_mk111 : pj_okR pj_prog pj_m111 = true := pj_okRL_s pj_hm pj_mn111 pj_mr111
theorem pj_mk112 : pj_okR pj_prog pj_m112 = true := pj_okRL_s pj_hm pj_mn112 pj_mr112
theorem pj_mk113 : pj_okR pj_prog pj_m113 = true := pj_okRL_s pj_hm pj_mn113 pj_mr113
theorem pj_mk114 : pj_okR pj_prog pj_m114 = true := pj_okRL_s pj_hm pj_mn114 pj_mr114
theorem pj_mk115 : pj_okR pj_prog pj_m115 = true := pj_okRL_s pj_hm pj_mn115 pj_mr115
theorem pj_mk116 : pj_okR pj_prog pj_m116 = true := pj_okRL_s pj_hm pj_mn116 pj_mr116
theorem pj_mk117 : pj_okR pj_prog pj_m117 = true := pj_okRL_s pj_hm pj_mn117 pj_mr117
theorem pj_mk118 : pj_okR pj_prog pj_m118 = true := pj_okRL_s pj_hm pj_mn118 pj_mr118
theorem pj_mk119 : pj_okR pj_prog pj_m119 = true := pj_okRL_s pj_hm pj_mn119 pj_mr119
theorem pj_mk120 : pj_okR pj_prog pj_m120 = true := pj_okRL_s pj_hm pj_mn120 pj_mr120
theorem pj_mk121 : pj_okR pj_prog pj_m121 = true := pj_okRL_s pj_hm pj_mn121 pj_mr121
theorem pj_mk122 : pj_okR pj_prog pj_m122 = true := pj_okRL_s pj_hm pj_mn122 pj_mr122
theorem pj_mk123 : pj_okR pj_prog pj_m123 = true := pj_okRL_s pj_hm pj_mn123 pj_mr123
theorem pj_mk124 : pj_okR pj_prog pj_m124 = true := pj_okRL_s pj_hm pj_mn124 pj_mr124
theorem pj_mk125 : pj_okR pj_prog pj_m125 = true := pj_okRL_s pj_hm pj_mn125 pj_mr125
theorem pj_mk126 : pj_okR pj_prog pj_m126 = true := pj_okRL_s pj_hm pj_mn126 pj_mr126
theorem pj_mk127 : pj_okR pj_prog pj_m127 = true := pj_okRL_s pj_hm pj_mn127 pj_mr127
theorem pj_mk128 : pj_okR pj_prog pj_m128 = true := pj_okRL_s pj_hm pj_mn128 pj_mr128
theorem pj_mk129 : pj_okR pj_prog pj_m129 = true := pj_okRL_s pj_hm pj_mn129 pj_mr129
theorem pj_mk130 : pj_okR pj_prog pj_m130 = true := pj_okRL_s pj_hm pj_mn130 pj_mr130
theorem pj_mk131 : pj_okR pj_prog pj_m131 = true := pj_okRL_s pj_hm pj_mn131 pj_mr131
theorem pj_mk132 : pj_okR pj_prog pj_m132 = true := pj_okRL_s pj_hm pj_mn132 pj_mr132
theorem pj_mk133 : pj_okR pj_prog pj_m133 = true := pj_okRL_s pj_hm pj_mn133 pj_mr133
theorem pj_mk134 : pj_okR pj_prog pj_m134 = true := pj_okRL_s pj_hm pj_mn134 pj_mr134
theorem pj_mk135 : pj_okR pj_prog pj_m135 = true := pj_okRL_s pj_hm pj_mn135 pj_mr135
theorem pj_mk136 : pj_okR pj_prog pj_m136 = true := pj_okRL_s pj_hm pj_mn136 pj_mr136
theorem pj_mk137 : pj_okR pj_prog pj_m137 = true := pj_okRL_s pj_hm pj_mn137 pj_mr137
theorem pj_mk138 : pj_okR pj_prog pj_m138 = true := pj_okRL_s pj_hm pj_mn138 pj_mr138
theorem pj_mk139 : pj_okR pj_prog pj_m139 = true := pj_okRL_s pj_hm pj_mn139 pj_mr139
theorem pj_mk140 : pj_okR pj_prog pj_m140 = true := pj_okRL_s pj_hm pj_mn140 pj_mr140
theorem pj_mk141 : pj_okR pj_prog pj_m141 = true := pj_okRL_s pj_hm pj_mn141 pj_mr141
theorem pj_mk142 : pj_okR pj_prog pj_m142 = true := pj_okRL_s pj_hm pj_mn142 pj_mr142
theorem pj_mk143 : pj_okR pj_prog pj_m143 = true := pj_okRL_s pj_hm pj_mn143 pj_mr143
theorem pj_mk144 : pj_okR pj_prog pj_m144 = true := pj_okRL_s pj_hm pj_mn144 pj_mr144
theorem pj_mk145 : pj_okR pj_prog pj_m145 = true := pj_okRL_s pj_hm pj_mn145 pj_mr145
theorem pj_mk146 : pj_okR pj_prog pj_m146 = true := pj_okRL_s pj_hm pj_mn146 pj_mr146
theorem pj_mk147 : pj_okR pj_prog pj_m147 = true := pj_okRL_s pj_hm pj_mn147 pj_mr147
theorem pj_mk148 : pj_okR pj_prog pj_m148 = true := pj_okRL_s pj_hm pj_mn148 pj_mr148
theorem pj_mk149 : pj_okR pj_prog pj_m149 = true := pj_okRL_s pj_hm pj_mn149 pj_mr149
theorem pj_mk150 : pj_okR pj_prog pj_m150 = true := pj_okRL_s pj_hm pj_mn150 pj_mr150
theorem pj_mk151 : pj_okR pj_prog pj_m151 = true := pj_okRL_s pj_hm pj_mn151 pj_mr151
theorem pj_mk152 : pj_okR pj_prog pj_m152 = true := pj_okRL_s pj_hm pj_mn152 pj_mr152
theorem pj_mk153 : pj_okR pj_prog pj_m153 = true := pj_okRL_s pj_hm pj_mn153 pj_mr153
theorem pj_mk154 : pj_okR pj_prog pj_m154 = true := pj_okRL_s pj_hm pj_mn154 pj_mr154
theorem pj_mk155 : pj_okR pj_prog pj_m155 = true := pj_okRL_s pj_hm pj_mn155 pj_mr155
theorem pj_mk156 : pj_okR pj_prog pj_m156 = true := pj_okRL_s pj_hm pj_mn156 pj_mr156
theorem pj_mk157 : pj_okR pj_prog pj_m157 = true := pj_okRL_s pj_hm pj_mn157 pj_mr157
theorem pj_mk158 : pj_okR pj_prog pj_m158 = true := pj_okRL_s pj_hm pj_mn158 pj_mr158
theorem pj_mk159 : pj_okR pj_prog pj_m159 = true := pj_okRL_s pj_hm pj_mn159 pj_mr159
theorem pj_mk160 : pj_okR pj_prog pj_m160 = true := pj_okRL_s pj_hm pj_mn160 pj_mr160
theorem pj_mk161 : pj_okR pj_prog pj_m161 = true := pj_okRL_s pj_hm pj_mn161 pj_mr161
theorem pj_mk162 : pj_okR pj_prog pj_m162 = true := pj_okRL_s pj_hm pj_mn162 pj_mr162
theorem pj_mk163 : pj_okR pj_prog pj_m163 = true := pj_okRL_s pj_hm pj_mn163 pj_mr163
theorem pj_mk164 : pj_okR pj_prog pj_m164 = true := pj_okRL_s pj_hm pj_mn164 pj_mr164
theorem pj_mk165 : pj_okR pj_prog pj_m165 = true := pj_okRL_s pj_hm pj_mn165 pj_mr165
theorem pj_mk166 : pj_okR pj_prog pj_m166 = true := pj_okRL_s pj_hm pj_mn166 pj_mr166
theorem pj_mk167 : pj_okR pj_prog pj_m167 = true := pj_okRL_s pj_hm pj_mn167 pj_mr167
theorem pj_mk168 : pj_okR pj_prog pj_m168 = true := pj_okRL_s pj_hm pj_mn168 pj_mr168
theorem pj_mk169 : pj_okR pj_prog pj_m169 = true := pj_okRL_s pj_hm pj_mn169 pj_mr169
theorem pj_mk170 : pj_okR pj_prog pj_m170 = true := pj_okRL_s pj_hm pj_mn170 pj_mr170
theorem pj_mk171 : pj_okR pj_prog pj_m171 = true := pj_okRL_s pj_hm pj_mn171 pj_mr171
theorem pj_mk172 : pj_okR pj_prog pj_m172 = true := pj_okRL_s pj_hm pj_mn172 pj_mr172
theorem pj_mk173 : pj_okR pj_prog pj_m173 = true := pj_okRL_s pj_hm pj_mn173 pj_mr173
theorem pj_mk174 : pj_okR pj_prog pj_m174 = true := pj_okRL_s pj_hm pj_mn174 pj_mr174
theorem pj_mk175 : pj_okR pj_prog pj_m175 = true := pj_okRL_s pj_hm pj_mn175 pj_mr175
theorem pj_mk176 : pj_okR pj_prog pj_m176 = true := pj_okRL_s pj_hm pj_mn176 pj_mr176
theorem pj_mk177 : pj_okR pj_prog pj_m177 = true := pj_okRL_s pj_hm pj_mn177 pj_mr177
theorem pj_mk178 : pj_okR pj_prog pj_m178 = true := pj_okRL_s pj_hm pj_mn178 pj_mr178
theorem pj_mk179 : pj_okR pj_prog pj_m179 = true := pj_okRL_s pj_hm pj_mn179 pj_mr179
theorem pj_mk180 : pj_okR pj_prog pj_m180 = true := pj_okRL_s pj_hm pj_mn180 pj_mr180
theorem pj_mk181 : pj_okR pj_prog pj_m181 = true := pj_okRL_s pj_hm pj_mn181 pj_mr181
theorem pj_mk182 : pj_okR pj_prog pj_m182 = true := pj_okRL_s pj_hm pj_mn182 pj_mr182
theorem pj_mk183 : pj_okR pj_prog pj_m183 = true := pj_okRL_s pj_hm pj_mn183 pj_mr183
theorem pj_mk184 : pj_okR pj_prog pj_m184 = true := pj_okRL_s pj_hm pj_mn184 pj_mr184
theorem pj_mk185 : pj_okR pj_prog pj_m185 = true := pj_okRL_s pj_hm pj_mn185 pj_mr185
theorem pj_mk186 : pj_okR pj_prog pj_m186 = true := pj_okRL_s pj_hm pj_mn186 pj_mr186
theorem pj_mk187 : pj_okR pj_prog pj_m187 = true := pj_okRL_s pj_hm pj_mn187 pj_mr187
theorem pj_mk188 : pj_okR pj_prog pj_m188 = true := pj_okRL_s pj_hm pj_mn188 pj_mr188
theorem pj_mk189 : pj_okR pj_prog pj_m189 = true := pj_okRL_s pj_hm pj_mn189 pj_mr189
theorem pj_mk190 : pj_okR pj_prog pj_m190 = true := pj_okRL_s pj_hm pj_mn190 pj_mr190
theorem pj_mk191 : pj_okR pj_prog pj_m191 = true := pj_okRL_s pj_hm pj_mn191 pj_mr191
theorem pj_mk192 : pj_okR pj_prog pj_m192 = true := pj_okRL_s pj_hm pj_mn192 pj_mr192
theorem pj_mk193 : pj_okR pj_prog pj_m193 = true := pj_okRL_s pj_hm pj_mn193 pj_mr193
theorem pj_mk194 : pj_okR pj_prog pj_m194 = true := pj_okRL_s pj_hm pj_mn194 pj_mr194
theorem pj_mk195 : pj_okR pj_prog pj_m195 = true := pj_okRL_s pj_hm pj_mn195 pj_mr195
theorem pj_mk196 : pj_okR pj_prog pj_m196 = true := pj_okRL_s pj_hm pj_mn196 pj_mr196
theorem pj_mk197 : pj_okR pj_prog pj_m197 = true := pj_okRL_s pj_hm pj_mn197 pj_mr197
theorem pj_mk198 : pj_okR pj_prog pj_m198 = true := pj_okRL_s pj_hm pj_mn198 pj_mr198
theorem pj_mk199 : pj_okR pj_prog pj_m199 = true := pj_okRL_s pj_hm pj_mn199 pj_mr199
theorem pj_mk200 : pj_okR pj_prog pj_m200 = true := pj_okRL_s pj_hm pj_mn200 pj_mr200
theorem pj_mk201 : pj_okR pj_prog pj_m201 = true := pj_okRL_s pj_hm pj_mn201 pj_mr201
theorem pj_mk202 : pj_okR pj_prog pj_m202 = true := pj_okRL_s pj_hm pj_mn202 pj_mr202
theorem pj_mk203 : pj_okR pj_prog pj_m203 = true := pj_okRL_s pj_hm pj_mn203 pj_mr203
theorem pj_mk204 : pj_okR pj_prog pj_m204 = true := pj_okRL_s pj_hm pj_mn204 pj_mr204
theorem pj_mk205 : pj_okR pj_prog pj_m205 = true := pj_okRL_s pj_hm pj_mn205 pj_mr205
theorem pj_mk206 : pj_okR pj_prog pj_m206 = true := pj_okRL_s pj_hm pj_mn206 pj_mr206
theorem pj_mk207 : pj_okR pj_prog pj_m207 = true := pj_okRL_s pj_hm pj_mn207 pj_mr207
theorem pj_mk208 : pj_okR pj_prog pj_m208 = true := pj_okRL_s pj_hm pj_mn208 pj_mr208
theorem pj_mk209 : pj_okR pj_prog pj_m209 = true := pj_okRL_s pj_hm pj_mn209 pj_mr209
theorem pj_mk210 : pj_okR pj_prog pj_m210 = true := pj_okRL_s pj_hm pj_mn210 pj_mr210
theorem pj_mk211 : pj_okR pj_prog pj_m211 = true := pj_okRL_s pj_hm pj_mn211 pj_mr211
theorem pj_mk212 : pj_okR pj_prog pj_m212 = true := pj_okRL_s pj_hm pj_mn212 pj_mr212
theorem pj_mk213 : pj_okR pj_prog pj_m213 = true := pj_okRL_s pj_hm pj_mn213 pj_mr213
theorem pj_mk214 : pj_okR pj_prog pj_m214 = true := pj_okRL_s pj_hm pj_mn214 pj_mr214
theorem pj_mk215 : pj_okR pj_prog pj_m215 = true := pj_okRL_s pj_hm pj_mn215 pj_mr215
theorem pj_mk216 : pj_okR pj_prog pj_m216 = true := pj_okRL_s pj_hm pj_mn216 pj_mr216
theorem pj_mk217 : pj_okR pj_prog pj_m217 = true := pj_okRL_s pj_hm pj_mn217 pj_mr217
theorem pj_mk218 : pj_okR pj_prog pj_m218 = true := pj_okRL_s pj_hm pj_mn218 pj_mr218
theorem pj_mk219 : pj_okR pj_prog pj_m219 = true := pj_okRL_s pj_hm pj_mn219 pj_mr219
theorem pj_mk220 : pj_okR pj_prog pj_m220 = true := pj_okRL_s pj_hm pj_mn220 pj_mr220
theorem pj_mk221 : pj_okR pj_prog pj_m221 = true := pj_okRL_s pj_hm pj_mn221 pj_mr221
theorem pj_mk222 : pj_okR pj_prog pj_m222 = true := pj_okRL_s pj_hm pj_mn222 pj_mr222
theorem pj_mk223 : pj_okR pj_prog pj_m223 = true := pj_okRL_s pj_hm pj_mn223 pj_mr223
theorem pj_mk224 : pj_okR pj_prog pj_m224 = true := pj_okRL_s pj_hm pj_mn224 pj_mr224
theorem pj_mk225 : pj_okR pj_prog pj_m225 = true := pj_okRL_s pj_hm pj_mn225 pj_mr225
theorem pj_mk226 : pj_okR pj_prog pj_m226 = true := pj_okRL_s pj_hm pj_mn226 pj_mr226
theorem pj_mk227 : pj_okR pj_prog pj_m227 = true := pj_okRL_s pj_hm pj_mn227 pj_mr227
theorem pj_mk228 : pj_okR pj_prog pj_m228 = true := pj_okRL_s pj_hm pj_mn228 pj_mr228
theorem pj_mk229 : pj_okR pj_prog pj_m229 = true := pj_okRL_s pj_hm pj_mn229 pj_mr229
theorem pj_mk230 : pj_okR pj_prog pj_m230 = true := pj_okRL_s pj_hm pj_mn230 pj_mr230
theorem pj_mk231 : pj_okR pj_prog pj_m231 = true := pj_okRL_s pj_hm pj_mn231 pj_mr231
theorem pj_mk232 : pj_okR pj_prog pj_m232 = true := pj_okRL_s pj_hm pj_mn232 pj_mr232
theorem pj_mk233 : pj_okR pj_prog pj_m233 = true := pj_okRL_s pj_hm pj_mn233 pj_mr233
theorem pj_mk234 : pj_okR pj_prog pj_m234 = true := pj_okRL_s pj_hm pj_mn234 pj_mr234
theorem pj_mk235 : pj_okR pj_prog pj_m235 = true := pj_okRL_s pj_hm pj_mn235 pj_mr235
theorem pj_mk236 : pj_okR pj_prog pj_m236 = true := pj_okRL_s pj_hm pj_mn236 pj_mr236
theorem pj_mk237 : pj_okR pj_prog pj_m237 = true := pj_okRL_s pj_hm pj_mn237 pj_mr237
theorem pj_mk238 : pj_okR pj_prog pj_m238 = true := pj_okRL_s pj_hm pj_mn238 pj_mr238
theorem pj_mk239 : pj_okR pj_prog pj_m239 = true := pj_okRL_s pj_hm pj_mn239 pj_mr239
theorem pj_mk240 : pj_okR pj_prog pj_m240 = true := pj_okRL_s pj_hm pj_mn240 pj_mr240
theorem pj_mk241 : pj_okR pj_prog pj_m241 = true := pj_okRL_s pj_hm pj_mn241 pj_mr241
theorem pj_mk242 : pj_okR pj_prog pj_m242 = true := pj_okRL_s pj_hm pj_mn242 pj_mr242
theorem pj_mk243 : pj_okR pj_prog pj_m243 = true := pj_okRL_s pj_hm pj_mn243 pj_mr243
theorem pj_mk244 : pj_okR pj_prog pj_m244 = true := pj_okRL_s pj_hm pj_mn244 pj_mr244
theorem pj_mk245 : pj_okR pj_prog pj_m245 = true := pj_okRL_s pj_hm pj_mn245 pj_mr245
theorem pj_mk246 : pj_okR pj_prog pj_m246 = true := pj_okRL_s pj_hm pj_mn246 pj_mr246
theorem pj_mk247 : pj_okR pj_prog pj_m247 = true := pj_okRL_s pj_hm pj_mn247 pj_mr247
theorem pj_mk248 : pj_okR pj_prog pj_m248 = true := pj_okRL_s pj_hm pj_mn248 pj_mr248
theorem pj_mk249 : pj_okR pj_prog pj_m249 = true := pj_okRL_s pj_hm pj_mn249 pj_mr249
theorem pj_mk250 : pj_okR pj_prog pj_m250 = true := pj_okRL_s pj_hm pj_mn250 pj_mr250
theorem pj_mk251 : pj_okR pj_prog pj_m251 = true := pj_okRL_s pj_hm pj_mn251 pj_mr251
theorem pj_mk252 : pj_okR pj_prog pj_m252 = true := pj_okRL_s pj_hm pj_mn252 pj_mr252
theorem pj_mk253 : pj_okR pj_prog pj_m253 = true := pj_okRL_s pj_hm pj_mn253 pj_mr253
theorem pj_mk254 : pj_okR pj_prog pj_m254 = true := pj_okRL_s pj_hm pj_mn254 pj_mr254
theorem pj_mk255 : pj_okR pj_prog pj_m255 = true := pj_okRL_s pj_hm pj_mn255 pj_mr255
theorem pj_mk256 : pj_okR pj_prog pj_m256 = true := pj_okRL_s pj_hm pj_mn256 pj_mr256
theorem pj_mk257 : pj_okR pj_prog pj_m257 = true := pj_okRL_s pj_hm pj_mn257 pj_mr257
theorem pj_mk258 : pj_okR pj_prog pj_m258 = true := pj_okRL_s pj_hm pj_mn258 pj_mr258
theorem pj_mk259 : pj_okR pj_prog pj_m259 = true := pj_okRL_s pj_hm pj_mn259 pj_mr259
theorem pj_mk260 : pj_okR pj_prog pj_m260 = true := pj_okRL_s pj_hm pj_mn260 pj_mr260
theorem pj_mk261 : pj_okR pj_prog pj_m261 = true := pj_okRL_s pj_hm pj_mn261 pj_mr261
theorem pj_mk262 : pj_okR pj_prog pj_m262 = true := pj_okRL_s pj_hm pj_mn262 pj_mr262
theorem pj_mk263 : pj_okR pj_prog pj_m263 = true := pj_okRL_s pj_hm pj_mn263 pj_mr263
theorem pj_mk264 : pj_okR pj_prog pj_m264 = true := pj_okRL_s pj_hm pj_mn264 pj_mr264
theorem pj_mk265 : pj_okR pj_prog pj_m265 = true := pj_okRL_s pj_hm pj_mn265 pj_mr265
theorem pj_mk266 : pj_okR pj_prog pj_m266 = true := pj_okRL_s pj_hm pj_mn266 pj_mr266
theorem pj_mk267 : pj_okR pj_prog pj_m267 = true := pj_okRL_s pj_hm pj_mn267 pj_mr267
theorem pj_mk268 : pj_okR pj_prog pj_m268 = true := pj_okRL_s pj_hm pj_mn268 pj_mr268
theorem pj_mk269 : pj_okR pj_prog pj_m269 = true := pj_okRL_s pj_hm pj_mn269 pj_mr269
theorem pj_mk270 : pj_okR pj_prog pj_m270 = true := pj_okRL_s pj_hm pj_mn270 pj_mr270
theorem pj_mk271 : pj_okR pj_prog pj_m271 = true := pj_okRL_s pj_hm pj_mn271 pj_mr271
theorem pj_mk272 : pj_okR pj_prog pj_m272 = true := pj_okRL_s pj_hm pj_mn272 pj_mr272
theorem pj_mk273 : pj_okR pj_prog pj_m273 = true := pj_okRL_s pj_hm pj_mn273 pj_mr273
theorem pj_mk274 : pj_okR pj_prog pj_m274 = true := pj_okRL_s pj_hm pj_mn274 pj_mr274
theorem pj_mk275 : pj_okR pj_prog pj_m275 = true := pj_okRL_s pj_hm pj_mn275 pj_mr275
theorem pj_mk276 : pj_okR pj_prog pj_m276 = true := pj_okRL_s pj_hm pj_mn276 pj_mr276
theorem pj_mk277 : pj_okR pj_prog pj_m277 = true := pj_okRL_s pj_hm pj_mn277 pj_mr277
theorem pj_mk278 : pj_okR pj_prog pj_m278 = true := pj_okRL_s pj_hm pj_mn278 pj_mr278
theorem pj_mk279 : pj_okR pj_prog pj_m279 = true := pj_okRL_s pj_hm pj_mn279 pj_mr279
theorem pj_mk280 : pj_okR pj_prog pj_m280 = true := pj_okRL_s pj_hm pj_mn280 pj_mr280
theorem pj_mk281 : pj_okR pj_prog pj_m281 = true := pj_okRL_s pj_hm pj_mn281 pj_mr281
theorem pj_mk282 : pj_okR pj_prog pj_m282 = true := pj_okRL_s pj_hm pj_mn282 pj_mr282
theorem pj_mk283 : pj_okR pj_prog pj_m283 = true := pj_okRL_s pj_hm pj_mn283 pj_mr283
theorem pj_mk284 : pj_okR pj_prog pj_m284 = true := pj_okRL_s pj_hm pj_mn284 pj_mr284
theorem pj_mk285 : pj_okR pj_prog pj_m285 = true := pj_okRL_s pj_hm pj_mn285 pj_mr285
theorem pj_mk286 : pj_okR pj_prog pj_m286 = true := pj_okRL_s pj_hm pj_mn286 pj_mr286
theorem pj_mk287 : pj_okR pj_prog pj_m287 = true := pj_okRL_s pj_hm pj_mn287 pj_mr287
theorem pj_mk288 : pj_okR pj_prog pj_m288 = true := pj_okRL_s pj_hm pj_mn288 pj_mr288
theorem pj_mk289 : pj_okR pj_prog pj_m289 = true := pj_okRL_s pj_hm pj_mn289 pj_mr289
theorem pj_mk290 : pj_okR pj_prog pj_m290 = true := pj_okRL_s pj_hm pj_mn290 pj_mr290
theorem pj_q291 : ∀ M ∈ pj_prog.drop 291, pj_okR pj_prog M = true := fun M h => absurd (show M ∈ ([] : List pj_M) from h) List.not_mem_nil
set_option maxRecDepth 100000 in
theorem pj_q290 : ∀ M ∈ pj_prog.drop 290, pj_okR pj_prog M = true := fun M h => (List.mem_cons.mp (show M ∈ pj_m290 :: pj_prog.drop 291 from h)).elim (fun e => e ▸ pj_mk290) (pj_q291 M)
set_option maxRecDepth 100000 in
theorem pj_q289 : ∀ M ∈ pj_prog.drop 289, pj_okR pj_prog M = true := fun M h => (List.mem_cons.mp (show M ∈ pj_m289 :: pj_prog.drop 290 from h)).elim (fun e => e ▸ pj_mk289) (pj_q290 M)
set_option maxRecDepth 100000 in
theorem pj_q288 : ∀ M ∈ pj_prog.drop 288, pj_okR pj_prog M = true := fun M h => (List.mem_cons.mp (show M ∈ pj_m288 :: pj_prog.drop 289 from h)).elim (fun e => e ▸ pj_mk288) (pj_q289 M)
set_option maxRecDepth 100000 in
theorem pj_q287 : ∀ M ∈ pj_prog.drop 287, pj_okR pj_prog M = true := fun M h => (List.mem_cons.mp (show M ∈ pj_m287 :: pj_prog.drop 288 from h)).elim (fun e => e ▸ pj_mk287) (pj_q288 M)
set_option maxRecDepth 100000 in
theorem pj_q286 : ∀ M ∈ pj_prog.drop 286, pj_okR pj_prog M = true := fun M h => (List.mem_cons.mp (show M ∈ pj_m286 :: pj_prog.drop 287 from h)).elim (fun e => e ▸ pj_mk286) (pj_q287 M)
set_option maxRecDepth 100000 in
theorem pj_q285 : ∀ M ∈ pj_prog.drop 285, pj_okR pj_prog M = true := fun M h => (List.mem_cons.mp (show M ∈ pj_m285 :: pj_prog.drop 286 from h)).elim (fun e => e ▸ pj_mk285) (pj_q286 M)
set_option maxRecDepth 100000 in
theorem pj_q284 : ∀ M ∈ pj_prog.drop 284, pj_okR pj_prog M = true := fun M h => (List.mem_cons.mp (show M ∈ pj_m284 :: pj_prog.drop 285 from h)).elim (fun e => e ▸ pj_mk284) (pj_q285 M)
set_option maxRecDepth 100000 in
theorem pj_q283 : ∀ M ∈ pj_prog.drop 283, pj_okR pj_prog M = true := fun M h => (List.mem_cons.mp (show M ∈ pj_m283 :: pj_prog.drop 284 from h)).elim (fun e => e ▸ pj_mk283) (pj_q284 M)
set_option maxRecDepth 100000 in
theorem pj_q282 : ∀ M ∈ pj_prog.drop 282, pj_okR pj_prog M = true := fun M h => (List.mem_cons.mp (show M ∈ pj_m282 :: pj_prog.drop 283 from h)).elim (fun e => e ▸ pj_mk282) (pj_q283 M)
set_option maxRecDepth 100000 in
theorem pj_q281 : ∀ M ∈ pj_prog.drop 281, pj_okR pj_prog M = true := fun M h => (List.mem_cons.mp (show M ∈ pj_m281 :: pj_prog.drop 282 from h)).elim (fun e => e ▸ pj_mk281) (pj_q282 M)
set_option maxRecDepth 100000 in
theorem pj_q280 : ∀ M ∈ pj_prog.drop 280, pj_okR pj_prog M = true := fun M h => (List.mem_cons.mp (show M ∈ pj_m280 :: pj_prog.drop 281 from h)).elim (fun e => e ▸ pj_mk280) (pj_q281 M)
set_option maxRecDepth 100000 in
theorem pj_q279 : ∀ M ∈ pj_prog.drop 279, pj_okR pj_prog M = true := fun M h => (List.mem_cons.mp (show M ∈ pj_m279 :: pj_prog.drop 280 from h)).elim (fun e => e ▸ pj_mk279) (pj_q280 M)
set_option maxRecDepth 100000 in
theorem pj_q278 : ∀ M ∈ pj_prog.drop 278, pj_okR pj_prog M = true := fun M h => (List.mem_cons.mp (show M ∈ pj_m278 :: pj_prog.drop 279 from h)).elim (fun e => e ▸ pj_mk278) (pj_q279 M)
set_option maxRecDepth 100000 in
theorem pj_q277 : ∀ M ∈ pj_prog.drop 277, pj_okR pj_prog M = true := fun M h => (List.mem_cons.mp (show M ∈ pj_m277 :: pj_prog.drop 278 from h)).elim (fun e => e ▸ pj_mk277) (pj_q278 M)
set_option maxRecDepth 100000 in
theorem pj_q276 : ∀ M ∈ pj_prog.drop 276, pj_okR pj_prog M = true := fun M h => (List.mem_cons.mp (show M ∈ pj_m276 :: pj_prog.drop 277 from h)).elim (fun e => e ▸ pj_mk276) (pj_q277 M)
set_option maxRecDepth 100000 in
theorem pj_q275 : ∀ M ∈ pj_prog.drop 275, pj_okR pj_prog M = true := fun M h => (List.mem_cons.mp (show M ∈ pj_m275 :: pj_prog.drop 276 from h)).elim (fun e => e ▸ pj_mk275) (pj_q276 M)
set_option maxRecDepth 100000 in
theorem pj_q274 : ∀ M ∈ pj_prog.drop 274, pj_okR pj_prog M = true := fun M h => (List.mem_cons.mp (show M ∈ pj_m274 :: pj_prog.drop 275 from h)).elim (fun e => e ▸ pj_mk274) (pj_q275 M)
set_option maxRecDepth 100000 in
theorem pj_q273 : ∀ M ∈ pj_prog.drop 273, pj_okR pj_prog M = true := fun M h => (List.mem_cons.mp (show M ∈ pj_m273 :: pj_prog.drop 274 from h)).elim (fun e => e ▸ pj_mk273) (pj_q274 M)
set_option maxRecDepth 100000 in
theorem pj_q272 : ∀ M ∈ pj_prog.drop 272, pj_okR pj_prog M = true := fun M h => (List.mem_cons.mp (show M ∈ pj_m272 :: pj_prog.drop 273 from h)).elim (fun e => e ▸ pj_mk272) (pj_q273 M)
set_option maxRecDepth 100000 in
theorem pj_q271 : ∀ M ∈ pj_prog.drop 271, pj_okR pj_prog M = true := fun M h => (List.mem_cons.mp (show M ∈ pj_m271 :: pj_prog.drop 272 from h)).elim (fun e => e ▸ pj_mk271) (pj_q272 M)
set_option maxRecDepth 100000 in
theorem pj_q270 : ∀ M ∈ pj_prog.drop 270, pj_okR pj_prog M = true := fun M h => (List.mem_cons.mp (show M ∈ pj_m270 :: pj_prog.drop 271 from h)).elim (fun e => e ▸ pj_mk270) (pj_q271 M)
set_option maxRecDepth 100000 in
theorem pj_q269 : ∀ M ∈ pj_prog.drop 269, pj_okR pj_prog M = true := fun M h => (List.mem_cons.mp (show M ∈ pj_m269 :: pj_prog.drop 270 from h)).elim (fun e => e ▸ pj_mk269) (pj_q270 M)
set_option maxRecDepth 100000 in
theorem pj_q268 : ∀ M ∈ pj_prog.drop 268, pj_okR pj_prog M = true := fun M h => (List.mem_cons.mp (show M ∈ pj_m268 :: pj_prog.drop 269 from h)).elim (fun e => e ▸ pj_mk268) (pj_q269 M)
set_option maxRecDepth 100000 in
theorem pj_q267 : ∀ M ∈ pj_prog.drop 267, pj_okR pj_prog M = true := fun M h => (List.mem_cons.mp (show M ∈ pj_m267 :: pj_prog.drop 268 from h)).elim (fun e => e ▸ pj_mk267) (pj_q268 M)
set_option maxRecDepth 100000 in
theorem pj_q266 : ∀ M ∈ pj_prog.drop 266, pj_okR pj_prog M = true := fun M h => (List.mem_cons.mp (show M ∈ pj_m266 :: pj_prog.drop 267 from h)).elim (fun e => e ▸ pj_mk266) (pj_q267 M)
set_option maxRecDepth 100000 in
theorem pj_q265 : ∀ M ∈ pj_prog.drop 265, pj_okR pj_prog M = true := fun M h => (List.mem_cons.mp (show M ∈ pj_m265 :: pj_prog.drop 266 from h)).elim (fun e => e ▸ pj_mk265) (pj_q266 M)
set_option maxRecDepth 100000 in
theorem pj_q264 : ∀ M ∈ pj_prog.drop 264, pj_okR pj_prog M = true := fun M h => (List.mem_cons.mp (show M ∈ pj_m264 :: pj_prog.drop 265 from h)).elim (fun e => e ▸ pj_mk264) (pj_q265 M)
set_option maxRecDepth 100000 in
theorem pj_q263 : ∀ M ∈ pj_prog.drop 263, pj_okR pj_prog M = true := fun M h => (List.mem_cons.mp (show M ∈ pj_m263 :: pj_prog.drop 264 from h)).elim (fun e => e ▸ pj_mk263) (pj_q264 M)
set_option maxRecDepth 100000 in
theorem pj_q262 : ∀ M ∈ pj_prog.drop 262, pj_okR pj_prog M = true := fun M h => (List.mem_cons.mp (show M ∈ pj_m262 :: pj_prog.drop 263 from h)).elim (fun e => e ▸ pj_mk262) (pj_q263 M)
set_option maxRecDepth 100000 in
theorem pj_q261 : ∀ M ∈ pj_prog.drop 261, pj_okR pj_prog M = true := fun M h => (List.mem_cons.mp (show M ∈ pj_m261 :: pj_prog.drop 262 from h)).elim (fun e => e ▸ pj_mk261) (pj_q262 M)
set_option maxRecDepth 100000 in
theorem pj_q260 : ∀ M ∈ pj_prog.drop 260, pj_okR pj_prog M = true := fun M h => (List.mem_cons.mp (show M ∈ pj_m260 :: pj_prog.drop 261 from h)).elim (fun e => e ▸ pj_mk260) (pj_q261 M)
set_option maxRecDepth 100000 in
theorem pj_q259 : ∀ M ∈ pj_prog.drop 259, pj_okR pj_prog M = true := fun M h => (List.mem_cons.mp (show M ∈ pj_m259 :: pj_prog.drop 260 from h)).elim (fun e => e ▸ pj_mk259) (pj_q260 M)
set_option maxRecDepth 100000 in
theorem pj_q258 : ∀ M ∈ pj_prog.drop 258, pj_okR pj_prog M = true := fun M h => (List.mem_cons.mp (show M ∈ pj_m258 :: pj_prog.drop 259 from h)).elim (fun e => e ▸ pj_mk258) (pj_q259 M)
set_option maxRecDepth 100000 in
theorem pj_q257 : ∀ M ∈ pj_prog.drop 257, pj_okR pj_prog M = true := fun M h => (List.mem_cons.mp (show M ∈ pj_m257 :: pj_prog.drop 258 from h)).elim (fun e => e ▸ pj_mk257) (pj_q258 M)
set_option maxRecDepth 100000 in
theorem pj_q256 : ∀ M ∈ pj_prog.drop 256, pj_okR pj_prog M = true := fun M h => (List.mem_cons.mp (show M ∈ pj_m256 :: pj_prog.drop 257 from h)).elim (fun e => e ▸ pj_mk256) (pj_q257 M)
set_option maxRecDepth 100000 in
theorem pj_q255 : ∀ M ∈ pj_prog.drop 255, pj_okR pj_prog M = true := fun M h => (List.mem_cons.mp (show M ∈ pj_m255 :: pj_prog.drop 256 from h)).elim (fun e => e ▸ pj_mk255) (pj_q256 M)
set_option maxRecDepth 100000 in
theorem pj_q254 : ∀ M ∈ pj_prog.drop 254, pj_okR pj_prog M = true := fun M h => (List.mem_cons.mp (show M ∈ pj_m254 :: pj_prog.drop 255 from h)).elim (fun e => e ▸ pj_mk254) (pj_q255 M)
set_option maxRecDepth 100000 in
theorem pj_q253 : ∀ M ∈ pj_prog.drop 253, pj_okR pj_prog M = true := fun M h => (List.mem_cons.mp (show M ∈ pj_m253 :: pj_prog.drop 254 from h)).elim (fun e => e ▸ pj_mk253) (pj_q254 M)
set_option maxRecDepth 100000 in
theorem pj_q252 : ∀ M ∈ pj_prog.drop 252, pj_okR pj_prog M = true := fun M h => (List.mem_cons.mp (show M ∈ pj_m252 :: pj_prog.drop 253 from h)).elim (fun e => e ▸ pj_mk252) (pj_q253 M)
set_option maxRecDepth 100000 in
theorem pj_q251 : ∀ M ∈ pj_prog.drop 251, pj_okR pj_prog M = true := fun M h => (List.mem_cons.mp (show M ∈ pj_m251 :: pj_prog.drop 252 from h)).elim (fun e => e ▸ pj_mk251) (pj_q252 M)
set_option maxRecDepth 100000 in
theorem pj_q250 : ∀ M ∈ pj_prog.drop 250, pj_okR pj_prog M = true := fun M h => (List.mem_cons.mp (show M ∈ pj_m250 :: pj_prog.drop 251 from h)).elim (fun e => e ▸ pj_mk250) (pj_q251 M)
set_option maxRecDepth 100000 in
theorem pj_q249 : ∀ M ∈ pj_prog.drop 249, pj_okR pj_prog M = true := fun M h => (List.mem_cons.mp (show M ∈ pj_m249 :: pj_prog.drop 250 from h)).elim (fun e => e ▸ pj_mk249) (pj_q250 M)
set_option maxRecDepth 100000 in
theorem pj_q248 : ∀ M ∈ pj_prog.drop 248, pj_okR pj_prog M = true := fun M h => (List.mem_cons.mp (show M ∈ pj_m248 :: pj_prog.drop 249 from h)).elim (fun e => e ▸ pj_mk248) (pj_q249 M)
set_option maxRecDepth 100000 in
theorem pj_q247 : ∀ M ∈ pj_prog.drop 247, pj_okR pj_prog M = true := fun M h => (List.mem_cons.mp (show M ∈ pj_m247 :: pj_prog.drop 248 from h)).elim (fun e => e ▸ pj_mk247) (pj_q248 M)
set_option maxRecDepth 100000 in
theorem pj_q246 : ∀ M ∈ pj_prog.drop 246, pj_okR pj_prog M = true := fun M h => (List.mem_cons.mp (show M ∈ pj_m246 :: pj_prog.drop 247 from h)).elim (fun e => e ▸ pj_mk246) (pj_q247 M)
set_option maxRecDepth 100000 in
theorem pj_q245 : ∀ M ∈ pj_prog.drop 245, pj_okR pj_prog M = true := fun M h => (List.mem_cons.mp (show M ∈ pj_m245 :: pj_prog.drop 246 from h)).elim (fun e => e ▸ pj_mk245) (pj_q246 M)
set_option maxRecDepth 100000 in
theorem pj_q244 : ∀ M ∈ pj_prog.drop 244, pj_okR pj_prog M = true := fun M h => (List.mem_cons.mp (show M ∈ pj_m244 :: pj_prog.drop 245 from h)).elim (fun e => e ▸ pj_mk244) (pj_q245 M)
set_option maxRecDepth 100000 in
theorem pj_q243 : ∀ M ∈ pj_prog.drop 243, pj_okR pj_prog M = true := fun M h => (List.mem_cons.mp (show M ∈ pj_m243 :: pj_prog.drop 244 from h)).elim (fun e => e ▸ pj_mk243) (pj_q244 M)
set_option maxRecDepth 100000 in
theorem pj_q242 : ∀ M ∈ pj_prog.drop 242, pj_okR pj_prog M = true := fun M h => (List.mem_cons.mp (show M ∈ pj_m242 :: pj_prog.drop 243 from h)).elim (fun e => e ▸ pj_mk242) (pj_q243 M)
set_option maxRecDepth 100000 in
theorem pj_q241 : ∀ M ∈ pj_prog.drop 241, pj_okR pj_prog M = true := fun M h => (List.mem_cons.mp (show M ∈ pj_m241 :: pj_prog.drop 242 from h)).elim (fun e => e ▸ pj_mk241) (pj_q242 M)
set_option maxRecDepth 100000 in
theorem pj_q240 : ∀ M ∈ pj_prog.drop 240, pj_okR pj_prog M = true := fun M h => (List.mem_cons.mp (show M ∈ pj_m240 :: pj_prog.drop 241 from h)).elim (fun e => e ▸ pj_mk240) (pj_q241 M)
set_option maxRecDepth 100000 in
theorem pj_q239 : ∀ M ∈ pj_prog.drop 239, pj_okR pj_prog M = true := fun M h => (List.mem_cons.mp (show M ∈ pj_m239 :: pj_prog.drop 240 from h)).elim (fun e => e ▸ pj_mk239) (pj_q240 M)
set_option maxRecDepth 100000 in
theorem pj_q238 : ∀ M ∈ pj_prog.drop 238, pj_okR pj_prog M = true := fun M h => (List.mem_cons.mp (show M ∈ pj_m238 :: pj_prog.drop 239 from h)).elim (fun e => e ▸ pj_mk238) (pj_q239 M)
set_option maxRecDepth 100000 in
theorem pj_q237 : ∀ M ∈ pj_prog.drop 237, pj_okR pj_prog M = true := fun M h => (List.mem_cons.mp (show M ∈ pj_m237 :: pj_prog.drop 238 from h)).elim (fun e => e ▸ pj_mk237) (pj_q238 M)
set_option maxRecDepth 100000 in
theorem pj_q236 : ∀ M ∈ pj_prog.drop 236, pj_okR pj_prog M = true := fun M h => (List.mem_cons.mp (show M ∈ pj_m236 :: pj_prog.drop 237 from h)).elim (fun e => e ▸ pj_mk236) (pj_q237 M)
set_option maxRecDepth 100000 in
theorem pj_q235 : ∀ M ∈ pj_prog.drop 235, pj_okR pj_prog M = true := fun M h => (List.mem_cons.mp (show M ∈ pj_m235 :: pj_prog.drop 236 from h)).elim (fun e => e ▸ pj_mk235) (pj_q236 M)
set_option maxRecDepth 100000 in
theorem pj_q234 : ∀ M ∈ pj_prog.drop 234, pj_okR pj_prog M = true := fun M h => (List.mem_cons.mp (show M ∈ pj_m234 :: pj_prog.drop 235 from h)).elim (fun e => e ▸ pj_mk234) (pj_q235 M)
set_option maxRecDepth 100000 in
theorem pj_q233 : ∀ M ∈ pj_prog.drop 233, pj_okR pj_prog M = true := fun M h => (List.mem_cons.mp (show M ∈ pj_m233 :: pj_prog.drop 234 from h)).elim (fun e => e ▸ pj_mk233) (pj_q234 M)
set_option maxRecDepth 100000 in
theorem pj_q232 : ∀ M ∈ pj_prog.drop 232, pj_okR pj_prog M = true := fun M h => (List.mem_cons.mp (show M ∈ pj_m232 :: pj_prog.drop 233 from h)).elim (fun e => e ▸ pj_mk232) (pj_q233 M)
set_option maxRecDepth 100000 in
theorem pj_q231 : ∀ M ∈ pj_prog.drop 231, pj_okR pj_prog M = true := fun M h => (List.mem_cons.mp (show M ∈ pj_m231 :: pj_prog.drop 232 from h)).elim (fun e => e ▸ pj_mk231) (pj_q232 M)
set_option maxRecDepth 100000 in
theorem pj_q230 : ∀ M ∈ pj_prog.drop 230, pj_okR pj_prog M = true := fun M h => (List.mem_cons.mp (show M ∈ pj_m230 :: pj_prog.drop 231 from h)).elim (fun e => e ▸ pj_mk230) (pj_q231 M)
set_option maxRecDepth 100000 in
theorem pj_q229 : ∀ M ∈ pj_prog.drop 229, pj_okR pj_prog M = true := fun M h => (List.mem_cons.mp (show M ∈ pj_m229 :: pj_prog.drop 230 from h)).elim (fun e => e ▸ pj_mk229) (pj_q230 M)
set_option maxRecDepth 100000 in
theorem pj_q228 : ∀ M ∈ pj_prog.drop 228, pj_okR pj_prog M = true := fun M h => (List.mem_cons.mp (show M ∈ pj_m228 :: pj_prog.drop 229 from h)).elim (fun e => e ▸ pj_mk228) (pj_q229 M)
set_option maxRecDepth 100000 in
theorem pj_q227 : ∀ M ∈ pj_prog.drop 227, pj_okR pj_prog M = true := fun M h => (List.mem_cons.mp (show M ∈ pj_m227 :: pj_prog.drop 228 from h)).elim (fun e => e ▸ pj_mk227) (pj_q228 M)
set_option maxRecDepth 100000 in
theorem pj_q226 : ∀ M ∈ pj_prog.drop 226, pj_okR pj_prog M = true := fun M h => (List.mem_cons.mp (show M ∈ pj_m226 :: pj_prog.drop 227 from h)).elim (fun e => e ▸ pj_mk226) (pj_q227 M)
set_option maxRecDepth 100000 in
theorem pj_q225 : ∀ M ∈ pj_prog.drop 225, pj_okR pj_prog M = true := fun M h => (List.mem_cons.mp (show M ∈ pj_m225 :: pj_prog.drop 226 from h)).elim (fun e => e ▸ pj_mk225) (pj_q226 M)
set_option maxRecDepth 100000 in
theorem pj_q224 : ∀ M ∈ pj_prog.drop 224, pj_okR pj_prog M = true := fun M h => (List.mem_cons.mp (show M ∈ pj_m224 :: pj_prog.drop 225 from h)).elim (fun e => e ▸ pj_mk224) (pj_q225 M)
set_option maxRecDepth 100000 in
theorem pj_q223 : ∀ M ∈ pj_prog.drop 223, pj_okR pj_prog M = true := fun M h => (List.mem_cons.mp (show M ∈ pj_m223 :: pj_prog.drop 224 from h)).elim (fun e => e ▸ pj_mk223) (pj_q224 M)
set_option maxRecDepth 100000 in
theorem pj_q222 : ∀ M ∈ pj_prog.drop 222, pj_okR pj_prog M = true := fun M h => (List.mem_cons.mp (show M ∈ pj_m222 :: pj_prog.drop 223 from h)).elim (fun e => e ▸ pj_mk222) (pj_q223 M)
set_option maxRecDepth 100000 in
theorem pj_q221 : ∀ M ∈ pj_prog.drop 221, pj_okR pj_prog M = true := fun M h => (List.mem_cons.mp (show M ∈ pj_m221 :: pj_prog.drop 222 from h)).elim (fun e => e ▸ pj_mk221) (pj_q222 M)
set_option maxRecDepth 100000 in
theorem pj_q220 : ∀ M ∈ pj_prog.drop 220, pj_okR pj_prog M = true := fun M h => (List.mem_cons.mp (show M ∈ pj_m220 :: pj_prog.drop 221 from h)).elim (fun e => e ▸ pj_mk220) (pj_q221 M)
set_option maxRecDepth 100000 in
theorem pj_q219 : ∀ M ∈ pj_prog.drop 219, pj_okR pj_prog M = true := fun M h => (List.mem_cons.mp (show M ∈ pj_m219 :: pj_prog.drop 220 from h)).elim (fun e => e ▸ pj_mk219) (pj_q220 M)
set_option maxRecDepth 100000 in
theorem pj_q218 : ∀ M ∈ pj_prog.drop 218, pj_okR pj_prog M = true := fun M h => (List.mem_cons.mp (show M ∈ pj_m218 :: pj_prog.drop 219 from h)).elim (fun e => e ▸ pj_mk218) (pj_q219 M)
set_option maxRecDepth 100000 in
theorem pj_q217 : ∀ M ∈ pj_prog.drop 217, pj_okR pj_prog M = true := fun M h => (List.mem_cons.mp (show M ∈ pj_m217 :: pj_prog.drop 218 from h)).elim (fun e => e ▸ pj_mk217) (pj_q218 M)
set_option maxRecDepth 100000 in
theorem pj_q216 : ∀ M ∈ pj_prog.drop 216, pj_okR pj_prog M = true := fun M h => (List.mem_cons.mp (show M ∈ pj_m216 :: pj_prog.drop 217 from h)).elim (fun e => e ▸ pj_mk216) (pj_q217 M)
set_option maxRecDepth 100000 in
theorem pj_q215 : ∀ M ∈ pj_prog.drop 215, pj_okR pj_prog M = true := fun M h => (List.mem_cons.mp (show M ∈ pj_m215 :: pj_prog.drop 216 from h)).elim (fun e => e ▸ pj_mk215) (pj_q216 M)
set_option maxRecDepth 100000 in
theorem pj_q214 : ∀ M ∈ pj_prog.drop 214, pj_okR pj_prog M = true := fun M h => (List.mem_cons.mp (show M ∈ pj_m214 :: pj_prog.drop 215 from h)).elim (fun e => e ▸ pj_mk214) (pj_q215 M)
set_option maxRecDepth 100000 in
theorem pj_q213 : ∀ M ∈ pj_prog.drop 213, pj_okR pj_prog M = true := fun M h => (List.mem_cons.mp (show M ∈ pj_m213 :: pj_prog.drop 214 from h)).elim (fun e => e ▸ pj_mk213) (pj_q214 M)
set_option maxRecDepth 100000 in
theorem pj_q212 : ∀ M ∈ pj_prog.drop 212, pj_okR pj_prog M = true := fun M h => (List.mem_cons.mp (show M ∈ pj_m212 :: pj_prog.drop 213 from h)).elim (fun e => e ▸ pj_mk212) (pj_q213 M)
set_option maxRecDepth 100000 in
theorem pj_q211 : ∀ M ∈ pj_prog.drop 211, pj_okR pj_prog M = true := fun M h => (List.mem_cons.mp (show M ∈ pj_m211 :: pj_prog.drop 212 from h)).elim (fun e => e ▸ pj_mk211) (pj_q212 M)
set_option maxRecDepth 100000 in
theorem pj_q210 : ∀ M ∈ pj_prog.drop 210, pj_okR pj_prog M = true := fun M h => (List.mem_cons.mp (show M ∈ pj_m210 :: pj_prog.drop 211 from h)).elim (fun e => e ▸ pj_mk210) (pj_q211 M)
set_option maxRecDepth 100000 in
theorem pj_q209 : ∀ M ∈ pj_prog.drop 209, pj_okR pj_prog M = true := fun M h => (List.mem_cons.mp (show M ∈ pj_m209 :: pj_prog.drop 210 from h)).elim (fun e => e ▸ pj_mk209) (pj_q210 M)
set_option maxRecDepth 100000 in
theorem pj_q208 : ∀ M ∈ pj_prog.drop 208, pj_okR pj_prog M = true := fun M h => (List.mem_cons.mp (show M ∈ pj_m208 :: pj_prog.drop 209 from h)).elim (fun e => e ▸ pj_mk208) (pj_q209 M)
set_option maxRecDepth 100000 in
theorem pj_q207 : ∀ M ∈ pj_prog.drop 207, pj_okR pj_prog M = true := fun M h => (List.mem_cons.mp (show M ∈ pj_m207 :: pj_prog.drop 208 from h)).elim (fun e => e ▸ pj_mk207) (pj_q208 M)
set_option maxRecDepth 100000 in
theorem pj_q206 : ∀ M ∈ pj_prog.drop 206, pj_okR pj_prog M = true := fun M h => (List.mem_cons.mp (show M ∈ pj_m206 :: pj_prog.drop 207 from h)).elim (fun e => e ▸ pj_mk206) (pj_q207 M)
set_option maxRecDepth 100000 in
theorem pj_q205 : ∀ M ∈ pj_prog.drop 205, pj_okR pj_prog M = true := fun M h => (List.mem_cons.mp (show M ∈ pj_m205 :: pj_prog.drop 206 from h)).elim (fun e => e ▸ pj_mk205) (pj_q206 M)
set_option maxRecDepth 100000 in
theorem pj_q204 : ∀ M ∈ pj_prog.drop 204, pj_okR pj_prog M = true := fun M h => (List.mem_cons.mp (show M ∈ pj_m204 :: pj_prog.drop 205 from h)).elim (fun e => e ▸ pj_mk204) (pj_q205 M)
set_option maxRecDepth 100000 in
theorem pj_q203 : ∀ M ∈ pj_prog.drop 203, pj_okR pj_prog M = true := fun M h => (List.mem_cons.mp (show M ∈ pj_m203 :: pj_prog.drop 204 from h)).elim (fun e => e ▸ pj_mk203) (pj_q204 M)
set_option maxRecDepth 100000 in
theorem pj_q202 : ∀ M ∈ pj_prog.drop 202, pj_okR pj_prog M = true := fun M h => (List.mem_cons.mp (show M ∈ pj_m202 :: pj_prog.drop 203 from h)).elim (fun e => e ▸ pj_mk202) (pj_q203 M)
set_option maxRecDepth 100000 in
theorem pj_q201 : ∀ M ∈ pj_prog.drop 201, pj_okR pj_prog M = true := fun M h => (List.mem_cons.mp (show M ∈ pj_m201 :: pj_prog.drop 202 from h)).elim (fun e => e ▸ pj_mk201) (pj_q202 M)
set_option maxRecDepth 100000 in
theorem pj_q200 : ∀ M ∈ pj_prog.drop 200, pj_okR pj_prog M = true := fun M h => (List.mem_cons.mp (show M ∈ pj_m200 :: pj_prog.drop 201 from h)).elim (fun e => e ▸ pj_mk200) (pj_q201 M)
set_option maxRecDepth 100000 in
theorem pj_q199 : ∀ M ∈ pj_prog.drop 199, pj_okR pj_prog M = true := fun M h => (List.mem_cons.mp (show M ∈ pj_m199 :: pj_prog.drop 200 from h)).elim (fun e => e ▸ pj_mk199) (pj_q200 M)
set_option maxRecDepth 100000 in
theorem pj_q198 : ∀ M ∈ pj_prog.drop 198, pj_okR pj_prog M = true := fun M h => (List.mem_cons.mp (show M ∈ pj_m198 :: pj_prog.drop 199 from h)).elim (fun e => e ▸ pj_mk198) (pj_q199 M)
set_option maxRecDepth 100000 in
theorem pj_q197 : ∀ M ∈ pj_prog.drop 197, pj_okR pj_prog M = true := fun M h => (List.mem_cons.mp (show M ∈ pj_m197 :: pj_prog.drop 198 from h)).elim (fun e => e ▸ pj_mk197) (pj_q198 M)
set_option maxRecDepth 100000 in
theorem pj_q196 : ∀ M ∈ pj_prog.drop 196, pj_okR pj_prog M = true := fun M h => (List.mem_cons.mp (show M ∈ pj_m196 :: pj_prog.drop 197 from h)).elim (fun e => e ▸ pj_mk196) (pj_q197 M)
set_option maxRecDepth 100000 in
theorem pj_q195 : ∀ M ∈ pj_prog.drop 195, pj_okR pj_prog M = true := fun M h => (List.mem_cons.mp (show M ∈ pj_m195 :: pj_prog.drop 196 from h)).elim (fun e => e ▸ pj_mk195) (pj_q196 M)
set_option maxRecDepth 100000 in
theorem pj_q194 : ∀ M ∈ pj_prog.drop 194, pj_okR pj_prog M = true := fun M h => (List.mem_cons.mp (show M ∈ pj_m194 :: pj_prog.drop 195 from h)).elim (fun e => e ▸ pj_mk194) (pj_q195 M)
set_option maxRecDepth 100000 in
theorem pj_q193 : ∀ M ∈ pj_prog.drop 193, pj_okR pj_prog M = true := fun M h => (List.mem_cons.mp (show M ∈ pj_m193 :: pj_prog.drop 194 from h)).elim (fun e => e ▸ pj_mk193) (pj_q194 M)
set_option maxRecDepth 100000 in
theorem pj_q192 : ∀ M ∈ pj_prog.drop 192, pj_okR pj_prog M = true := fun M h => (List.mem_cons.mp (show M ∈ pj_m192 :: pj_prog.drop 193 from h)).elim (fun e => e ▸ pj_mk192) (pj_q193 M)
set_option maxRecDepth 100000 in
theorem pj_q191 : ∀ M ∈ pj_prog.drop 191, pj_okR pj_prog M = true := fun M h => (List.mem_cons.mp (show M ∈ pj_m191 :: pj_prog.drop 192 from h)).elim (fun e => e ▸ pj_mk191) (pj_q192 M)
set_option maxRecDepth 100000 in
theorem pj_q190 : ∀ M ∈ pj_prog.drop 190, pj_okR pj_prog M = true := fun M h => (List.mem_cons.mp (show M ∈ pj_m190 :: pj_prog.drop 191 from h)).elim (fun e => e ▸ pj_mk190) (pj_q191 M)
set_option maxRecDepth 100000 in
theorem pj_q189 : ∀ M ∈ pj_prog.drop 189, pj_okR pj_prog M = true := fun M h => (List.mem_cons.mp (show M ∈ pj_m189 :: pj_prog.drop 190 from h)).elim (fun e => e ▸ pj_mk189) (pj_q190 M)
set_option maxRecDepth 100000 in
theorem pj_q188 : ∀ M ∈ pj_prog.drop 188, pj_okR pj_prog M = true := fun M h => (List.mem_cons.mp (show M ∈ pj_m188 :: pj_prog.drop 189 from h)).elim (fun e => e ▸ pj_mk188) (pj_q189 M)
set_option maxRecDepth 100000 in
theorem pj_q187 : ∀ M ∈ pj_prog.drop 187, pj_okR pj_prog M = true := fun M h => (List.mem_cons.mp (show M ∈ pj_m187 :: pj_prog.drop 188 from h)).elim (fun e => e ▸ pj_mk187) (pj_q188 M)
set_option maxRecDepth 100000 in
theorem pj_q186 : ∀ M ∈ pj_prog.drop 186, pj_okR pj_prog M = true := fun M h => (List.mem_cons.mp (show M ∈ pj_m186 :: pj_prog.drop 187 from h)).elim (fun e => e ▸ pj_mk186) (pj_q187 M)
set_option maxRecDepth 100000 in
theorem pj_q185 : ∀ M ∈ pj_prog.drop 185, pj_okR pj_prog M = true := fun M h => (List.mem_cons.mp (show M ∈ pj_m185 :: pj_prog.drop 186 from h)).elim (fun e => e ▸ pj_mk185) (pj_q186 M)
set_option maxRecDepth 100000 in
theorem pj_q184 : ∀ M ∈ pj_prog.drop 184, pj_okR pj_prog M = true := fun M h => (List.mem_cons.mp (show M ∈ pj_m184 :: pj_prog.drop 185 from h)).elim (fun e => e ▸ pj_mk184) (pj_q185 M)
set_option maxRecDepth 100000 in
theorem pj_q183 : ∀ M ∈ pj_prog.drop 183, pj_okR pj_prog M = true := fun M h => (List.mem_cons.mp (show M ∈ pj_m183 :: pj_prog.drop 184 from h)).elim (fun e => e ▸ pj_mk183) (pj_q184 M)
set_option maxRecDepth 100000 in
theorem pj_q182 : ∀ M ∈ pj_prog.drop 182, pj_okR pj_prog M = true := fun M h => (List.mem_cons.mp (show M ∈ pj_m182 :: pj_prog.drop 183 from h)).elim (fun e => e ▸ pj_mk182) (pj_q183 M)
set_option maxRecDepth 100000 in
theorem pj_q181 : ∀ M ∈ pj_prog.drop 181, pj_okR pj_prog M = true := fun M h => (List.mem_cons.mp (show M ∈ pj_m181 :: pj_prog.drop 182 from h)).elim (fun e => e ▸ pj_mk181) (pj_q182 M)
set_option maxRecDepth 100000 in
theorem pj_q180 : ∀ M ∈ pj_prog.drop 180, pj_okR pj_prog M = true := fun M h => (List.mem_cons.mp (show M ∈ pj_m180 :: pj_prog.drop 181 from h)).elim (fun e => e ▸ pj_mk180) (pj_q181 M)
set_option maxRecDepth 100000 in
theorem pj_q179 : ∀ M ∈ pj_prog.drop 179, pj_okR pj_prog M = true := fun M h => (List.mem_cons.mp (show M ∈ pj_m179 :: pj_prog.drop 180 from h)).elim (fun e => e ▸ pj_mk179) (pj_q180 M)
set_option maxRecDepth 100000 in
theorem pj_q178 : ∀ M ∈ pj_prog.drop 178, pj_okR pj_prog M = true := fun M h => (List.mem_cons.mp (show M ∈ pj_m178 :: pj_prog.drop 179 from h)).elim (fun e => e ▸ pj_mk178) (pj_q179 M)
set_option maxRecDepth 100000 in
theorem pj_q177 : ∀ M ∈ pj_prog.drop 177, pj_okR pj_prog M = true := fun M h => (List.mem_cons.mp (show M ∈ pj_m177 :: pj_prog.drop 178 from h)).elim (fun e => e ▸ pj_mk177) (pj_q178 M)
set_option maxRecDepth 100000 in
theorem pj_q176 : ∀ M ∈ pj_prog.drop 176, pj_okR pj_prog M = true := fun M h => (List.mem_cons.mp (show M ∈ pj_m176 :: pj_prog.drop 177 from h)).elim (fun e => e ▸ pj_mk176) (pj_q177 M)
set_option maxRecDepth 100000 in
theorem pj_q175 : ∀ M ∈ pj_prog.drop 175, pj_okR pj_prog M = true := fun M h => (List.mem_cons.mp (show M ∈ pj_m175 :: pj_prog.drop 176 from h)).elim (fun e => e ▸ pj_mk175) (pj_q176 M)
set_option maxRecDepth 100000 in
theorem pj_q174 : ∀ M ∈ pj_prog.drop 174, pj_okR pj_prog M = true := fun M h => (List.mem_cons.mp (show M ∈ pj_m174 :: pj_prog.drop 175 from h)).elim (fun e => e ▸ pj_mk174) (pj_q175 M)
set_option maxRecDepth 100000 in
theorem pj_q173 : ∀ M ∈ pj_prog.drop 173, pj_okR pj_prog M = true := fun M h => (List.mem_cons.mp (show M ∈ pj_m173 :: pj_prog.drop 174 from h)).elim (fun e => e ▸ pj_mk173) (pj_q174 M)
set_option maxRecDepth 100000 in
theorem pj_q172 : ∀ M ∈ pj_prog.drop 172, pj_okR pj_prog M = true := fun M h => (List.mem_cons.mp (show M ∈ pj_m172 :: pj_prog.drop 173 from h)).elim (fun e => e ▸ pj_mk172) (pj_q173 M)
set_option maxRecDepth 100000 in
theorem pj_q171 : ∀ M ∈ pj_prog.drop 171, pj_okR pj_prog M = true := fun M h => (List.mem_cons.mp (show M ∈ pj_m171 :: pj_prog.drop 172 from h)).elim (fun e => e ▸ pj_mk171) (pj_q172 M)
set_option maxRecDepth 100000 in
theorem pj_q170 : ∀ M ∈ pj_prog.drop 170, pj_okR pj_prog M = true := fun M h => (List.mem_cons.mp (show M ∈ pj_m170 :: pj_prog.drop 171 from h)).elim (fun e => e ▸ pj_mk170) (pj_q171 M)
set_option maxRecDepth 100000 in
theorem pj_q169 : ∀ M ∈ pj_prog.drop 169, pj_okR pj_prog M = true := fun M h => (List.mem_cons.mp (show M ∈ pj_m169 :: pj_prog.drop 170 from h)).elim (fun e => e ▸ pj_mk169) (pj_q170 M)
set_option maxRecDepth 100000 in
theorem pj_q168 : ∀ M ∈ pj_prog.drop 168, pj_okR pj_prog M = true := fun M h => (List.mem_cons.mp (show M ∈ pj_m168 :: pj_prog.drop 169 from h)).elim (fun e => e ▸ pj_mk168) (pj_q169 M)
set_option maxRecDepth 100000 in
theorem pj_q167 : ∀ M ∈ pj_prog.drop 167, pj_okR pj_prog M = true := fun M h => (List.mem_cons.mp (show M ∈ pj_m167 :: pj_prog.drop 168 from h)).elim (fun e => e ▸ pj_mk167) (pj_q168 M)
set_option maxRecDepth 100000 in
theorem pj_q166 : ∀ M ∈ pj_prog.drop 166, pj_okR pj_prog M = true := fun M h => (List.mem_cons.mp (show M ∈ pj_m166 :: pj_prog.drop 167 from h)).elim (fun e => e ▸ pj_mk166) (pj_q167 M)
set_option maxRecDepth 100000 in
theorem pj_q165 : ∀ M ∈ pj_prog.drop 165, pj_okR pj_prog M = true := fun M h => (List.mem_cons.mp (show M ∈ pj_m165 :: pj_prog.drop 166 from h)).elim (fun e => e ▸ pj_mk165) (pj_q166 M)
set_option maxRecDepth 100000 in
theorem pj_q164 : ∀ M ∈ pj_prog.drop 164, pj_okR pj_prog M = true := fun M h => (List.mem_cons.mp (show M ∈ pj_m164 :: pj_prog.drop 165 from h)).elim (fun e => e ▸ pj_mk164) (pj_q165 M)
set_option maxRecDepth 100000 in
theorem pj_q163 : ∀ M ∈ pj_prog.drop 163, pj_okR pj_prog M = true := fun M h => (List.mem_cons.mp (show M ∈ pj_m163 :: pj_prog.drop 164 from h)).elim (fun e => e ▸ pj_mk163) (pj_q164 M)
set_option maxRecDepth 100000 in
theorem pj_q162 : ∀ M ∈ pj_prog.drop 162, pj_okR pj_prog M = true := fun M h => (List.mem_cons.mp (show M ∈ pj_m162 :: pj_prog.drop 163 from h)).elim (fun e => e ▸ pj_mk162) (pj_q163 M)
set_option maxRecDepth 100000 in
theorem pj_q161 : ∀ M ∈ pj_prog.drop 161, pj_okR pj_prog M = true := fun M h => (List.mem_cons.mp (show M ∈ pj_m161 :: pj_prog.drop 162 from h)).elim (fun e => e ▸ pj_mk161) (pj_q162 M)
set_option maxRecDepth 100000 in
theorem pj_q160 : ∀ M ∈ pj_prog.drop 160, pj_okR pj_prog M = true := fun M h => (List.mem_cons.mp (show M ∈ pj_m160 :: pj_prog.drop 161 from h)).elim (fun e => e ▸ pj_mk160) (pj_q161 M)
set_option maxRecDepth 100000 in
theorem pj_q159 : ∀ M ∈ pj_prog.drop 159, pj_okR pj_prog M = true := fun M h => (List.mem_cons.mp (show M ∈ pj_m159 :: pj_prog.drop 160 from h)).elim (fun e => e ▸ pj_mk159) (pj_q160 M)
set_option maxRecDepth 100000 in
theorem pj_q158 : ∀ M ∈ pj_prog.drop 158, pj_okR pj_prog M = true := fun M h => (List.mem_cons.mp (show M ∈ pj_m158 :: pj_prog.drop 159 from h)).elim (fun e => e ▸ pj_mk158) (pj_q159 M)
set_option maxRecDepth 100000 in
theorem pj_q157 : ∀ M ∈ pj_prog.drop 157, pj_okR pj_prog M = true := fun M h => (List.mem_cons.mp (show M ∈ pj_m157 :: pj_prog.drop 158 from h)).elim (fun e => e ▸ pj_mk157) (pj_q158 M)
set_option maxRecDepth 100000 in
theorem pj_q156 : ∀ M ∈ pj_prog.drop 156, pj_okR pj_prog M = true := fun M h => (List.mem_cons.mp (show M ∈ pj_m156 :: pj_prog.drop 157 from h)).elim (fun e => e ▸ pj_mk156) (pj_q157 M)
set_option maxRecDepth 100000 in
theorem pj_q155 : ∀ M ∈ pj_prog.drop 155, pj_okR pj_prog M = true := fun M h => (List.mem_cons.mp (show M ∈ pj_m155 :: pj_prog.drop 156 from h)).elim (fun e => e ▸ pj_mk155) (pj_q156 M)
set_option maxRecDepth 100000 in
theorem pj_q154 : ∀ M ∈ pj_prog.drop 154, pj_okR pj_prog M = true := fun M h => (List.mem_cons.mp (show M ∈ pj_m154 :: pj_prog.drop 155 from h)).elim (fun e => e ▸ pj_mk154) (pj_q155 M)
set_option maxRecDepth 100000 in
theorem pj_q153 : ∀ M ∈ pj_prog.drop 153, pj_okR pj_prog M = true := fun M h => (List.mem_cons.mp (show M ∈ pj_m153 :: pj_prog.drop 154 from h)).elim (fun e => e ▸ pj_mk153) (pj_q154 M)
set_option maxRecDepth 100000 in
theorem pj_q152 : ∀ M ∈ pj_prog.drop 152, pj_okR pj_prog M = true := fun M h => (List.mem_cons.mp (show M ∈ pj_m152 :: pj_prog.drop 153 from h)).elim (fun e => e ▸ pj_mk152) (pj_q153 M)
set_option maxRecDepth 100000 in
theorem pj_q151 : ∀ M ∈ pj_prog.drop 151, pj_okR pj_prog M = true := fun M h => (List.mem_cons.mp (show M ∈ pj_m151 :: pj_prog.drop 152 from h)).elim (fun e => e ▸ pj_mk151) (pj_q152 M)
set_option maxRecDepth 100000 in
theorem pj_q150 : ∀ M ∈ pj_prog.drop 150, pj_okR pj_prog M = true := fun M h => (List.mem_cons.mp (show M ∈ pj_m150 :: pj_prog.drop 151 from h)).elim (fun e => e ▸ pj_mk150) (pj_q151 M)
set_option maxRecDepth 100000 in
theorem pj_q149 : ∀ M ∈ pj_prog.drop 149, pj_okR pj_prog M = true := fun M h => (List.mem_cons.mp (show M ∈ pj_m149 :: pj_prog.drop 150 from h)).elim (fun e => e ▸ pj_mk149) (pj_q150 M)
set_option maxRecDepth 100000 in
theorem pj_q148 : ∀ M ∈ pj_prog.drop 148, pj_okR pj_prog M = true := fun M h => (List.mem_cons.mp (show M ∈ pj_m148 :: pj_prog.drop 149 from h)).elim (fun e => e ▸ pj_mk148) (pj_q149 M)
set_option maxRecDepth 100000 in
theorem pj_q147 : ∀ M ∈ pj_prog.drop 147, pj_okR pj_prog M = true := fun M h => (List.mem_cons.mp (show M ∈ pj_m147 :: pj_prog.drop 148 from h)).elim (fun e => e ▸ pj_mk147) (pj_q148 M)
set_option maxRecDepth 100000 in
theorem pj_q146 : ∀ M ∈ pj_prog.drop 146, pj_okR pj_prog M = true := fun M h => (List.mem_cons.mp (show M ∈ pj_m146 :: pj_prog.drop 147 from h)).elim (fun e => e ▸ pj_mk146) (pj_q147 M)
set_option maxRecDepth 100000 in
theorem pj_q145 : ∀ M ∈ pj_prog.drop 145, pj_okR pj_prog M = true := fun M h => (List.mem_cons.mp (show M ∈ pj_m145 :: pj_prog.drop 146 from h)).elim (fun e => e ▸ pj_mk145) (pj_q146 M)
set_option maxRecDepth 100000 in
theorem pj_q144 : ∀ M ∈ pj_prog.drop 144, pj_okR pj_prog M = true := fun M h => (List.mem_cons.mp (show M ∈ pj_m144 :: pj_prog.drop 145 from h)).elim (fun e => e ▸ pj_mk144) (pj_q145 M)
set_option maxRecDepth 100000 in
theorem pj_q143 : ∀ M ∈ pj_prog.drop 143, pj_okR pj_prog M = true := fun M h => (List.mem_cons.mp (show M ∈ pj_m143 :: pj_prog.drop 144 from h)).elim (fun e => e ▸ pj_mk143) (pj_q144 M)
set_option maxRecDepth 100000 in
theorem pj_q142 : ∀ M ∈ pj_prog.drop 142, pj_okR pj_prog M = true := fun M h => (List.mem_cons.mp (show M ∈ pj_m142 :: pj_prog.drop 143 from h)).elim (fun e => e ▸ pj_mk142) (pj_q143 M)
set_option maxRecDepth 100000 in
theorem pj_q141 : ∀ M ∈ pj_prog.drop 141, pj_okR pj_prog M = true := fun M h => (List.mem_cons.mp (show M ∈ pj_m141 :: pj_prog.drop 142 from h)).elim (fun e => e ▸ pj_mk141) (pj_q142 M)
set_option maxRecDepth 100000 in
theorem pj_q140 : ∀ M ∈ pj_prog.drop 140, pj_okR pj_prog M = true := fun M h => (List.mem_cons.mp (show M ∈ pj_m140 :: pj_prog.drop 141 from h)).elim (fun e => e ▸ pj_mk140) (pj_q141 M)
set_option maxRecDepth 100000 in
theorem pj_q139 : ∀ M ∈ pj_prog.drop 139, pj_okR pj_prog M = true := fun M h => (List.mem_cons.mp (show M ∈ pj_m139 :: pj_prog.drop 140 from h)).elim (fun e => e ▸ pj_mk139) (pj_q140 M)
set_option maxRecDepth 100000 in
theorem pj_q138 : ∀ M ∈ pj_prog.drop 138, pj_okR pj_prog M = true := fun M h => (List.mem_cons.mp (show M ∈ pj_m138 :: pj_prog.drop 139 from h)).elim (fun e => e ▸ pj_mk138) (pj_q139 M)
set_option maxRecDepth 100000 in
theorem pj_q137 : ∀ M ∈ pj_prog.drop 137, pj_okR pj_prog M = true := fun M h => (List.mem_cons.mp (show M ∈ pj_m137 :: pj_prog.drop 138 from h)).elim (fun e => e ▸ pj_mk137) (pj_q138 M)
set_option maxRecDepth 100000 in
theorem pj_q136 : ∀ M ∈ pj_prog.drop 136, pj_okR pj_prog M = true := fun M h => (List.mem_cons.mp (show M ∈ pj_m136 :: pj_prog.drop 137 from h)).elim (fun e => e ▸ pj_mk136) (pj_q137 M)
set_option maxRecDepth 100000 in
theorem pj_q135 : ∀ M ∈ pj_prog.drop 135, pj_okR pj_prog M = true := fun M h => (List.mem_cons.mp (show M ∈ pj_m135 :: pj_prog.drop 136 from h)).elim (fun e => e ▸ pj_mk135) (pj_q136 M)
set_option maxRecDepth 100000 in
theorem pj_q134 : ∀ M ∈ pj_prog.drop 134, pj_okR pj_prog M = true := fun M h => (List.mem_cons.mp (show M ∈ pj_m134 :: pj_prog.drop 135 from h)).elim (fun e => e ▸ pj_mk134) (pj_q135 M)
set_option maxRecDepth 100000 in
theorem pj_q133 : ∀ M ∈ pj_prog.drop 133, pj_okR pj_prog M = true := fun M h => (List.mem_cons.mp (show M ∈ pj_m133 :: pj_prog.drop 134 from h)).elim (fun e => e ▸ pj_mk133) (pj_q134 M)
set_option maxRecDepth 100000 in
theorem pj_q132 : ∀ M ∈ pj_prog.drop 132, pj_okR pj_prog M = true := fun M h => (List.mem_cons.mp (show M ∈ pj_m132 :: pj_prog.drop 133 from h)).elim (fun e => e ▸ pj_mk132) (pj_q133 M)
set_option maxRecDepth 100000 in
theorem pj_q131 : ∀ M ∈ pj_prog.drop 131, pj_okR pj_prog M = true := fun M h => (List.mem_cons.mp (show M ∈ pj_m131 :: pj_prog.drop 132 from h)).elim (fun e => e ▸ pj_mk131) (pj_q132 M)
set_option maxRecDepth 100000 in
theorem pj_q130 : ∀ M ∈ pj_prog.drop 130, pj_okR pj_prog M = true := fun M h => (List.mem_cons.mp (show M ∈ pj_m130 :: pj_prog.drop 131 from h)).elim (fun e => e ▸ pj_mk130) (pj_q131 M)
set_option maxRecDepth 100000 in
theorem pj_q129 : ∀ M ∈ pj_prog.drop 129, pj_okR pj_prog M = true := fun M h => (List.mem_cons.mp (show M ∈ pj_m129 :: pj_prog.drop 130 from h)).elim (fun e => e ▸ pj_mk129) (pj_q130 M)
set_option maxRecDepth 100000 in
theorem pj_q128 : ∀ M ∈ pj_prog.drop 128, pj_okR pj_prog M = true := fun M h => (List.mem_cons.mp (show M ∈ pj_m128 :: pj_prog.drop 129 from h)).elim (fun e => e ▸ pj_mk128) (pj_q129 M)
set_option maxRecDepth 100000 in
theorem pj_q127 : ∀ M ∈ pj_prog.drop 127, pj_okR pj_prog M = true := fun M h => (List.mem_cons.mp (show M ∈ pj_m127 :: pj_prog.drop 128 from h)).elim (fun e => e ▸ pj_mk127) (pj_q128 M)
set_option maxRecDepth 100000 in
theorem pj_q126 : ∀ M ∈ pj_prog.drop 126, pj_okR pj_prog M = true := fun M h => (List.mem_cons.mp (show M ∈ pj_m126 :: pj_prog.drop 127 from h)).elim (fun e => e ▸ pj_mk126) (pj_q127 M)
set_option maxRecDepth 100000 in
theorem pj_q125 : ∀ M ∈ pj_prog.drop 125, pj_okR pj_prog M = true := fun M h => (List.mem_cons.mp (show M ∈ pj_m125 :: pj_prog.drop 126 from h)).elim (fun e => e ▸ pj_mk125) (pj_q126 M)
set_option maxRecDepth 100000 in
theorem pj_q124 : ∀ M ∈ pj_prog.drop 124, pj_okR pj_prog M = true := fun M h => (List.mem_cons.mp (show M ∈ pj_m124 :: pj_prog.drop 125 from h)).elim (fun e => e ▸ pj_mk124) (pj_q125 M)
set_option maxRecDepth 100000 in
theorem pj_q123 : ∀ M ∈ pj_prog.drop 123, pj_okR pj_prog M = true := fun M h => (List.mem_cons.mp (show M ∈ pj_m123 :: pj_prog.drop 124 from h)).elim (fun e => e ▸ pj_mk123) (pj_q124 M)
set_option maxRecDepth 100000 in
theorem pj_q122 : ∀ M ∈ pj_prog.drop 122, pj_okR pj_prog M = true := fun M h => (List.mem_cons.mp (show M ∈ pj_m122 :: pj_prog.drop 123 from h)).elim (fun e => e ▸ pj_mk122) (pj_q123 M)
set_option maxRecDepth 100000 in
theorem pj_q121 : ∀ M ∈ pj_prog.drop 121, pj_okR pj_prog M = true := fun M h => (List.mem_cons.mp (show M ∈ pj_m121 :: pj_prog.drop 122 from h)).elim (fun e => e ▸ pj_mk121) (pj_q122 M)
set_option maxRecDepth 100000 in
theorem pj_q120 : ∀ M ∈ pj_prog.drop 120, pj_okR pj_prog M = true := fun M h => (List.mem_cons.mp (show M ∈ pj_m120 :: pj_prog.drop 121 from h)).elim (fun e => e ▸ pj_mk120) (pj_q121 M)
set_option maxRecDepth 100000 in
theorem pj_q119 : ∀ M ∈ pj_prog.drop 119, pj_okR pj_prog M = true := fun M h => (List.mem_cons.mp (show M ∈ pj_m119 :: pj_prog.drop 120 from h)).elim (fun e => e ▸ pj_mk119) (pj_q120 M)
set_option maxRecDepth 100000 in
theorem pj_q118 : ∀ M ∈ pj_prog.drop 118, pj_okR pj_prog M = true := fun M h => (List.mem_cons.mp (show M ∈ pj_m118 :: pj_prog.drop 119 from h)).elim (fun e => e ▸ pj_mk118) (pj_q119 M)
set_option maxRecDepth 100000 in
theorem pj_q117 : ∀ M ∈ pj_prog.drop 117, pj_okR pj_prog M = true := fun M h => (List.mem_cons.mp (show M ∈ pj_m117 :: pj_prog.drop 118 from h)).elim (fun e => e ▸ pj_mk117) (pj_q118 M)
set_option maxRecDepth 100000 in
theorem pj_q116 : ∀ M ∈ pj_prog.drop 116, pj_okR pj_prog M = true := fun M h => (List.mem_cons.mp (show M ∈ pj_m116 :: pj_prog.drop 117 from h)).elim (fun e => e ▸ pj_mk116) (pj_q117 M)
set_option maxRecDepth 100000 in
theorem pj_q115 : ∀ M ∈ pj_prog.drop 115, pj_okR pj_prog M = true := fun M h => (List.mem_cons.mp (show M ∈ pj_m115 :: pj_prog.drop 116 from h)).elim (fun e => e ▸ pj_mk115) (pj_q116 M)
set_option maxRecDepth 100000 in
theorem pj_q114 : ∀ M ∈ pj_prog.drop 114, pj_okR pj_prog M = true := fun M h => (List.mem_cons.mp (show M ∈ pj_m114 :: pj_prog.drop 115 from h)).elim (fun e => e ▸ pj_mk114) (pj_q115 M)
set_option maxRecDepth 100000 in
theorem pj_q113 : ∀ M ∈ pj_prog.drop 113, pj_okR pj_prog M = true := fun M h => (List.mem_cons.mp (show M ∈ pj_m113 :: pj_prog.drop 114 from h)).elim (fun e => e ▸ pj_mk113) (pj_q114 M)
set_option maxRecDepth 100000 in
theorem pj_q112 : ∀ M ∈ pj_prog.drop 112, pj_okR pj_prog M = true := fun M h => (List.mem_cons.mp (show M ∈ pj_m112 :: pj_prog.drop 113 from h)).elim (fun e => e ▸ pj_mk112) (pj_q113 M)
set_option maxRecDepth 100000 in
theorem pj_q111 : ∀ M ∈ pj_prog.drop 111, pj_okR pj_prog M = true := fun M h => (List.mem_cons.mp (show M ∈ pj_m111 :: pj_prog.drop 112 from h)).elim (fun e => e ▸ pj_mk111) (pj_q112 M)
set_option maxRecDepth 100000 in
theorem pj_q110 : ∀ M ∈ pj_prog.drop 110, pj_okR pj_prog M = true := fun M h => (List.mem_cons.mp (show M ∈ pj_m110 :: pj_prog.drop 111 from h)).elim (fun e => e ▸ pj_mk110) (pj_q111 M)
set_option maxRecDepth 100000 in
theorem pj_q109 : ∀ M ∈ pj_prog.drop 109, pj_okR pj_prog M = true := fun M h => (List.mem_cons.mp (show M ∈ pj_m109 :: pj_prog.drop 110 from h)).elim (fun e => e ▸ pj_mk109) (pj_q110 M)
set_option maxRecDepth 100000 in
theorem pj_q108 : ∀ M ∈ pj_prog.drop 108, pj_okR pj_prog M = true := fun M h => (List.mem_cons.mp (show M ∈ pj_m108 :: pj_prog.drop 109 from h)).elim (fun e => e ▸ pj_mk108) (pj_q109 M)
set_option maxRecDepth 100000 in
theorem pj_q107 : ∀ M ∈ pj_prog.drop 107, pj_okR pj_prog M = true := fun M h => (List.mem_cons.mp (show M ∈ pj_m107 :: pj_prog.drop 108 from h)).elim (fun e => e ▸ pj_mk107) (pj_q108 M)
set_option maxRecDepth 100000 in
theorem pj_q106 : ∀ M ∈ pj_prog.drop 106, pj_okR pj_prog M = true := fun M h => (List.mem_cons.mp (show M ∈ pj_m106 :: pj_prog.drop 107 from h)).elim (fun e => e ▸ pj_mk106) (pj_q107 M)
set_option maxRecDepth 100000 in
theorem pj_q105 : ∀ M ∈ pj_prog.drop 105, pj_okR pj_prog M = true := fun M h => (List.mem_cons.mp (show M ∈ pj_m105 :: pj_prog.drop 106 from h)).elim (fun e => e ▸ pj_mk105) (pj_q106 M)
set_option maxRecDepth 100000 in
theorem pj_q104 : ∀ M ∈ pj_prog.drop 104, pj_okR pj_prog M = true := fun M h => (List.mem_cons.mp (show M ∈ pj_m104 :: pj_prog.drop 105 from h)).elim (fun e => e ▸ pj_mk104) (pj_q105 M)
set_option maxRecDepth 100000 in
theorem pj_q103 : ∀ M ∈ pj_prog.drop 103, pj_okR pj_prog M = true := fun M h => (List.mem_cons.mp (show M ∈ pj_m103 :: pj_prog.drop 104 from h)).elim (fun e => e ▸ pj_mk103) (pj_q104 M)
set_option maxRecDepth 100000 in
theorem pj_q102 : ∀ M ∈ pj_prog.drop 102, pj_okR pj_prog M = true := fun M h => (List.mem_cons.mp (show M ∈ pj_m102 :: pj_prog.drop 103 from h)).elim (fun e => e ▸ pj_mk102) (pj_q103 M)
set_option maxRecDepth 100000 in
theorem pj_q101 : ∀ M ∈ pj_prog.drop 101, pj_okR pj_prog M = true := fun M h => (List.mem_cons.mp (show M ∈ pj_m101 :: pj_prog.drop 102 from h)).elim (fun e => e ▸ pj_mk101) (pj_q102 M)
set_option maxRecDepth 100000 in
theorem pj_q100 : ∀ M ∈ pj_prog.drop 100, pj_okR pj_prog M = true := fun M h => (List.mem_cons.mp (show M ∈ pj_m100 :: pj_prog.drop 101 from h)).elim (fun e => e ▸ pj_mk100) (pj_q101 M)
set_option maxRecDepth 100000 in
theorem pj_q99 : ∀ M ∈ pj_prog.drop 99, pj_okR pj_prog M = true := fun M h => (List.mem_cons.mp (show M ∈ pj_m99 :: pj_prog.drop 100 from h)).elim (fun e => e ▸ pj_mk99) (pj_q100 M)
set_option maxRecDepth 100000 in
theorem pj_q98 : ∀ M ∈ pj_prog.drop 98, pj_okR pj_prog M = true := fun M h => (List.mem_cons.mp (show M ∈ pj_m98 :: pj_prog.drop 99 from h)).elim (fun e => e ▸ pj_mk98) (pj_q99 M)
set_option maxRecDepth 100000 in
theorem pj_q97 : ∀ M ∈ pj_prog.drop 97, pj_okR pj_prog M = true := fun M h => (List.mem_cons.mp (show M ∈ pj_m97 :: pj_prog.drop 98 from h)).elim (fun e => e ▸ pj_mk97) (pj_q98 M)
set_option maxRecDepth 100000 in
theorem pj_q96 : ∀ M ∈ pj_prog.drop 96, pj_okR pj_prog M = true := fun M h => (List.mem_cons.mp (show M ∈ pj_m96 :: pj_prog.drop 97 from h)).elim (fun e => e ▸ pj_mk96) (pj_q97 M)
set_option maxRecDepth 100000 in
theorem pj_q95 : ∀ M ∈ pj_prog.drop 95, pj_okR pj_prog M = true := fun M h => (List.mem_cons.mp (show M ∈ pj_m95 :: pj_prog.drop 96 from h)).elim (fun e => e ▸ pj_mk95) (pj_q96 M)
set_option maxRecDepth 100000 in
theorem pj_q94 : ∀ M ∈ pj_prog.drop 94, pj_okR pj_prog M = true := fun M h => (List.mem_cons.mp (show M ∈ pj_m94 :: pj_prog.drop 95 from h)).elim (fun e => e ▸ pj_mk94) (pj_q95 M)
set_option maxRecDepth 100000 in
theorem pj_q93 : ∀ M ∈ pj_prog.drop 93, pj_okR pj_prog M = true := fun M h => (List.mem_cons.mp (show M ∈ pj_m93 :: pj_prog.drop 94 from h)).elim (fun e => e ▸ pj_mk93) (pj_q94 M)
set_option maxRecDepth 100000 in
theorem pj_q92 : ∀ M ∈ pj_prog.drop 92, pj_okR pj_prog M = true := fun M h => (List.mem_cons.mp (show M ∈ pj_m92 :: pj_prog.drop 93 from h)).elim (fun e => e ▸ pj_mk92) (pj_q93 M)
set_option maxRecDepth 100000 in
theorem pj_q91 : ∀ M ∈ pj_prog.drop 91, pj_okR pj_prog M = true := fun M h => (List.mem_cons.mp (show M ∈ pj_m91 :: pj_prog.drop 92 from h)).elim (fun e => e ▸ pj_mk91) (pj_q92 M)
set_option maxRecDepth 100000 in
theorem pj_q90 : ∀ M ∈ pj_prog.drop 90, pj_okR pj_prog M = true := fun M h => (List.mem_cons.mp (show M ∈ pj_m90 :: pj_prog.drop 91 from h)).elim (fun e => e ▸ pj_mk90) (pj_q91 M)
set_option maxRecDepth 100000 in
theorem pj_q89 : ∀ M ∈ pj_prog.drop 89, pj_okR pj_prog M = true := fun M h => (List.mem_cons.mp (show M ∈ pj_m89 :: pj_prog.drop 90 from h)).elim (fun e => e ▸ pj_mk89) (pj_q90 M)
set_option maxRecDepth 100000 in
theorem pj_q88 : ∀ M ∈ pj_prog.drop 88, pj_okR pj_prog M = true := fun M h => (List.mem_cons.mp (show M ∈ pj_m88 :: pj_prog.drop 89 from h)).elim (fun e => e ▸ pj_mk88) (pj_q89 M)
set_option maxRecDepth 100000 in
theorem pj_q87 : ∀ M ∈ pj_prog.drop 87, pj_okR pj_prog M = true := fun M h => (List.mem_cons.mp (show M ∈ pj_m87 :: pj_prog.drop 88 from h)).elim (fun e => e ▸ pj_mk87) (pj_q88 M)
set_option maxRecDepth 100000 in
theorem pj_q86 : ∀ M ∈ pj_prog.drop 86, pj_okR pj_prog M = true := fun M h => (List.mem_cons.mp (show M ∈ pj_m86 :: pj_prog.drop 87 from h)).elim (fun e => e ▸ pj_mk86) (pj_q87 M)
set_option maxRecDepth 100000 in
theorem pj_q85 : ∀ M ∈ pj_prog.drop 85, pj_okR pj_prog M = true := fun M h => (List.mem_cons.mp (show M ∈ pj_m85 :: pj_prog.drop 86 from h)).elim (fun e => e ▸ pj_mk85) (pj_q86 M)
set_option maxRecDepth 100000 in
theorem pj_q84 : ∀ M ∈ pj_prog.drop 84, pj_okR pj_prog M = true := fun M h => (List.mem_cons.mp (show M ∈ pj_m84 :: pj_prog.drop 85 from h)).elim (fun e => e ▸ pj_mk84) (pj_q85 M)
set_option maxRecDepth 100000 in
theorem pj_q83 : ∀ M ∈ pj_prog.drop 83, pj_okR pj_prog M = true := fun M h => (List.mem_cons.mp (show M ∈ pj_m83 :: pj_prog.drop 84 from h)).elim (fun e => e ▸ pj_mk83) (pj_q84 M)
set_option maxRecDepth 100000 in
theorem pj_q82 : ∀ M ∈ pj_prog.drop 82, pj_okR pj_prog M = true := fun M h => (List.mem_cons.mp (show M ∈ pj_m82 :: pj_prog.drop 83 from h)).elim (fun e => e ▸ pj_mk82) (pj_q83 M)
set_option maxRecDepth 100000 in
theorem pj_q81 : ∀ M ∈ pj_prog.drop 81, pj_okR pj_prog M = true := fun M h => (List.mem_cons.mp (show M ∈ pj_m81 :: pj_prog.drop 82 from h)).elim (fun e => e ▸ pj_mk81) (pj_q82 M)
set_option maxRecDepth 100000 in
theorem pj_q80 : ∀ M ∈ pj_prog.drop 80, pj_okR pj_prog M = true := fun M h => (List.mem_cons.mp (show M ∈ pj_m80 :: pj_prog.drop 81 from h)).elim (fun e => e ▸ pj_mk80) (pj_q81 M)
set_option maxRecDepth 100000 in
theorem pj_q79 : ∀ M ∈ pj_prog.drop 79, pj_okR pj_prog M = true := fun M h => (List.mem_cons.mp (show M ∈ pj_m79 :: pj_prog.drop 80 from h)).elim (fun e => e ▸ pj_mk79) (pj_q80 M)
set_option maxRecDepth 100000 in
theorem pj_q78 : ∀ M ∈ pj_prog.drop 78, pj_okR pj_prog M = true := fun M h => (List.mem_cons.mp (show M ∈ pj_m78 :: pj_prog.drop 79 from h)).elim (fun e => e ▸ pj_mk78) (pj_q79 M)
set_option maxRecDepth 100000 in
theorem pj_q77 : ∀ M ∈ pj_prog.drop 77, pj_okR pj_prog M = true := fun M h => (List.mem_cons.mp (show M ∈ pj_m77 :: pj_prog.drop 78 from h)).elim (fun e => e ▸ pj_mk77) (pj_q78 M)
set_option maxRecDepth 100000 in
theorem pj_q76 : ∀ M ∈ pj_prog.drop 76, pj_okR pj_prog M = true := fun M h => (List.mem_cons.mp (show M ∈ pj_m76 :: pj_prog.drop 77 from h)).elim (fun e => e ▸ pj_mk76) (pj_q77 M)
set_option maxRecDepth 100000 in
theorem pj_q75 : ∀ M ∈ pj_prog.drop 75, pj_okR pj_prog M = true := fun M h => (List.mem_cons.mp (show M ∈ pj_m75 :: pj_prog.drop 76 from h)).elim (fun e => e ▸ pj_mk75) (pj_q76 M)
set_option maxRecDepth 100000 in
theorem pj_q74 : ∀ M ∈ pj_prog.drop 74, pj_okR pj_prog M = true := fun M h => (List.mem_cons.mp (show M ∈ pj_m74 :: pj_prog.drop 75 from h)).elim (fun e => e ▸ pj_mk74) (pj_q75 M)
set_option maxRecDepth 100000 in
theorem pj_q73 : ∀ M ∈ pj_prog.drop 73, pj_okR pj_prog M = true := fun M h => (List.mem_cons.mp (show M ∈ pj_m73 :: pj_prog.drop 74 from h)).elim (fun e => e ▸ pj_mk73) (pj_q74 M)
set_option maxRecDepth 100000 in
theorem pj_q72 : ∀ M ∈ pj_prog.drop 72, pj_okR pj_prog M = true := fun M h => (List.mem_cons.mp (show M ∈ pj_m72 :: pj_prog.drop 73 from h)).elim (fun e => e ▸ pj_mk72) (pj_q73 M)
set_option maxRecDepth 100000 in
theorem pj_q71 : ∀ M ∈ pj_prog.drop 71, pj_okR pj_prog M = true := fun M h => (List.mem_cons.mp (show M ∈ pj_m71 :: pj_prog.drop 72 from h)).elim (fun e => e ▸ pj_mk71) (pj_q72 M)
set_option maxRecDepth 100000 in
theorem pj_q70 : ∀ M ∈ pj_prog.drop 70, pj_okR pj_prog M = true := fun M h => (List.mem_cons.mp (show M ∈ pj_m70 :: pj_prog.drop 71 from h)).elim (fun e => e ▸ pj_mk70) (pj_q71 M)
set_option maxRecDepth 100000 in
theorem pj_q69 : ∀ M ∈ pj_prog.drop 69, pj_okR pj_prog M = true := fun M h => (List.mem_cons.mp (show M ∈ pj_m69 :: pj_prog.drop 70 from h)).elim (fun e => e ▸ pj_mk69) (pj_q70 M)
set_option maxRecDepth 100000 in
theorem pj_q68 : ∀ M ∈ pj_prog.drop 68, pj_okR pj_prog M = true := fun M h => (List.mem_cons.mp (show M ∈ pj_m68 :: pj_prog.drop 69 from h)).elim (fun e => e ▸ pj_mk68) (pj_q69 M)
set_option maxRecDepth 100000 in
theorem pj_q67 : ∀ M ∈ pj_prog.drop 67, pj_okR pj_prog M = true := fun M h => (List.mem_cons.mp (show M ∈ pj_m67 :: pj_prog.drop 68 from h)).elim (fun e => e ▸ pj_mk67) (pj_q68 M)
set_option maxRecDepth 100000 in
theorem pj_q66 : ∀ M ∈ pj_prog.drop 66, pj_okR pj_prog M = true := fun M h => (List.mem_cons.mp (show M ∈ pj_m66 :: pj_prog.drop 67 from h)).elim (fun e => e ▸ pj_mk66) (pj_q67 M)
set_option maxRecDepth 100000 in
theorem pj_q65 : ∀ M ∈ pj_prog.drop 65, pj_okR pj_prog M = true := fun M h => (List.mem_cons.mp (show M ∈ pj_m65 :: pj_prog.drop 66 from h)).elim (fun e => e ▸ pj_mk65) (pj_q66 M)
set_option maxRecDepth 100000 in
theorem pj_q64 : ∀ M ∈ pj_prog.drop 64, pj_okR pj_prog M = true := fun M h => (List.mem_cons.mp (show M ∈ pj_m64 :: pj_prog.drop 65 from h)).elim (fun e => e ▸ pj_mk64) (pj_q65 M)
set_option maxRecDepth 100000 in
theorem pj_q63 : ∀ M ∈ pj_prog.drop 63, pj_okR pj_prog M = true := fun M h => (List.mem_cons.mp (show M ∈ pj_m63 :: pj_prog.drop 64 from h)).elim (fun e => e ▸ pj_mk63) (pj_q64 M)
set_option maxRecDepth 100000 in
theorem pj_q62 : ∀ M ∈ pj_prog.drop 62, pj_okR pj_prog M = true := fun M h => (List.mem_cons.mp (show M ∈ pj_m62 :: pj_prog.drop 63 from h)).elim (fun e => e ▸ pj_mk62) (pj_q63 M)
set_option maxRecDepth 100000 in
theorem pj_q61 : ∀ M ∈ pj_prog.drop 61, pj_okR pj_prog M = true := fun M h => (List.mem_cons.mp (show M ∈ pj_m61 :: pj_prog.drop 62 from h)).elim (fun e => e ▸ pj_mk61) (pj_q62 M)
set_option maxRecDepth 100000 in
theorem pj_q60 : ∀ M ∈ pj_prog.drop 60, pj_okR pj_prog M = true := fun M h => (List.mem_cons.mp (show M ∈ pj_m60 :: pj_prog.drop 61 from h)).elim (fun e => e ▸ pj_mk60) (pj_q61 M)
set_option maxRecDepth 100000 in
theorem pj_q59 : ∀ M ∈ pj_prog.drop 59, pj_okR pj_prog M = true := fun M h => (List.mem_cons.mp (show M ∈ pj_m59 :: pj_prog.drop 60 from h)).elim (fun e => e ▸ pj_mk59) (pj_q60 M)
set_option maxRecDepth 100000 in
theorem pj_q58 : ∀ M ∈ pj_prog.drop 58, pj_okR pj_prog M = true := fun M h => (List.mem_cons.mp (show M ∈ pj_m58 :: pj_prog.drop 59 from h)).elim (fun e => e ▸ pj_mk58) (pj_q59 M)
set_option maxRecDepth 100000 in
theorem pj_q57 : ∀ M ∈ pj_prog.drop 57, pj_okR pj_prog M = true := fun M h => (List.mem_cons.mp (show M ∈ pj_m57 :: pj_prog.drop 58 from h)).elim (fun e => e ▸ pj_mk57) (pj_q58 M)
set_option maxRecDepth 100000 in
theorem pj_q56 : ∀ M ∈ pj_prog.drop 56, pj_okR pj_prog M = true := fun M h => (List.mem_cons.mp (show M ∈ pj_m56 :: pj_prog.drop 57 from h)).elim (fun e => e ▸ pj_mk56) (pj_q57 M)
set_option maxRecDepth 100000 in
theorem pj_q55 : ∀ M ∈ pj_prog.drop 55, pj_okR pj_prog M = true := fun M h => (List.mem_cons.mp (show M ∈ pj_m55 :: pj_prog.drop 56 from h)).elim (fun e => e ▸ pj_mk55) (pj_q56 M)
set_option maxRecDepth 100000 in
theorem pj_q54 : ∀ M ∈ pj_prog.drop 54, pj_okR pj_prog M = true := fun M h => (List.mem_cons.mp (show M ∈ pj_m54 :: pj_prog.drop 55 from h)).elim (fun e => e ▸ pj_mk54) (pj_q55 M)
set_option maxRecDepth 100000 in
theorem pj_q53 : ∀ M ∈ pj_prog.drop 53, pj_okR pj_prog M = true := fun M h => (List.mem_cons.mp (show M ∈ pj_m53 :: pj_prog.drop 54 from h)).elim (fun e => e ▸ pj_mk53) (pj_q54 M)
set_option maxRecDepth 100000 in
theorem pj_q52 : ∀ M ∈ pj_prog.drop 52, pj_okR pj_prog M = true := fun M h => (List.mem_cons.mp (show M ∈ pj_m52 :: pj_prog.drop 53 from h)).elim (fun e => e ▸ pj_mk52) (pj_q53 M)
set_option maxRecDepth 100000 in
theorem pj_q51 : ∀ M ∈ pj_prog.drop 51, pj_okR pj_prog M = true := fun M h => (List.mem_cons.mp (show M ∈ pj_m51 :: pj_prog.drop 52 from h)).elim (fun e => e ▸ pj_mk51) (pj_q52 M)
set_option maxRecDepth 100000 in
theorem pj_q50 : ∀ M ∈ pj_prog.drop 50, pj_okR pj_prog M = true := fun M h => (List.mem_cons.mp (show M ∈ pj_m50 :: pj_prog.drop 51 from h)).elim (fun e => e ▸ pj_mk50) (pj_q51 M)
set_option maxRecDepth 100000 in
theorem pj_q49 : ∀ M ∈ pj_prog.drop 49, pj_okR pj_prog M = true := fun M h => (List.mem_cons.mp (show M ∈ pj_m49 :: pj_prog.drop 50 from h)).elim (fun e => e ▸ pj_mk49) (pj_q50 M)
set_option maxRecDepth 100000 in
theorem pj_q48 : ∀ M ∈ pj_prog.drop 48, pj_okR pj_prog M = true := fun M h => (List.mem_cons.mp (show M ∈ pj_m48 :: pj_prog.drop 49 from h)).elim (fun e => e ▸ pj_mk48) (pj_q49 M)
set_option maxRecDepth 100000 in
theorem pj_q47 : ∀ M ∈ pj_prog.drop 47, pj_okR pj_prog M = true := fun M h => (List.mem_cons.mp (show M ∈ pj_m47 :: pj_prog.drop 48 from h)).elim (fun e => e ▸ pj_mk47) (pj_q48 M)
set_option maxRecDepth 100000 in
theorem pj_q46 : ∀ M ∈ pj_prog.drop 46, pj_okR pj_prog M = true := fun M h => (List.mem_cons.mp (show M ∈ pj_m46 :: pj_prog.drop 47 from h)).elim (fun e => e ▸ pj_mk46) (pj_q47 M)
set_option maxRecDepth 100000 in
theorem pj_q45 : ∀ M ∈ pj_prog.drop 45, pj_okR pj_prog M = true := fun M h => (List.mem_cons.mp (show M ∈ pj_m45 :: pj_prog.drop 46 from h)).elim (fun e => e ▸ pj_mk45) (pj_q46 M)
set_option maxRecDepth 100000 in
theorem pj_q44 : ∀ M ∈ pj_prog.drop 44, pj_okR pj_prog M = true := fun M h => (List.mem_cons.mp (show M ∈ pj_m44 :: pj_prog.drop 45 from h)).elim (fun e => e ▸ pj_mk44) (pj_q45 M)
set_option maxRecDepth 100000 in
theorem pj_q43 : ∀ M ∈ pj_prog.drop 43, pj_okR pj_prog M = true := fun M h => (List.mem_cons.mp (show M ∈ pj_m43 :: pj_prog.drop 44 from h)).elim (fun e => e ▸ pj_mk43) (pj_q44 M)
set_option maxRecDepth 100000 in
theorem pj_q42 : ∀ M ∈ pj_prog.drop 42, pj_okR pj_prog M = true := fun M h => (List.mem_cons.mp (show M ∈ pj_m42 :: pj_prog.drop 43 from h)).elim (fun e => e ▸ pj_mk42) (pj_q43 M)
set_option maxRecDepth 100000 in
theorem pj_q41 : ∀ M ∈ pj_prog.drop 41, pj_okR pj_prog M = true := fun M h => (List.mem_cons.mp (show M ∈ pj_m41 :: pj_prog.drop 42 from h)).elim (fun e => e ▸ pj_mk41) (pj_q42 M)
set_option maxRecDepth 100000 in
theorem pj_q40 : ∀ M ∈ pj_prog.drop 40, pj_okR pj_prog M = true := fun M h => (List.mem_cons.mp (show M ∈ pj_m40 :: pj_prog.drop 41 from h)).elim (fun e => e ▸ pj_mk40) (pj_q41 M)
set_option maxRecDepth 100000 in
theorem pj_q39 : ∀ M ∈ pj_prog.drop 39, pj_okR pj_prog M = true := fun M h => (List.mem_cons.mp (show M ∈ pj_m39 :: pj_prog.drop 40 from h)).elim (fun e => e ▸ pj_mk39) (pj_q40 M)
set_option maxRecDepth 100000 in
theorem pj_q38 : ∀ M ∈ pj_prog.drop 38, pj_okR pj_prog M = true := fun M h => (List.mem_cons.mp (show M ∈ pj_m38 :: pj_prog.drop 39 from h)).elim (fun e => e ▸ pj_mk38) (pj_q39 M)
set_option maxRecDepth 100000 in
theorem pj_q37 : ∀ M ∈ pj_prog.drop 37, pj_okR pj_prog M = true := fun M h => (List.mem_cons.mp (show M ∈ pj_m37 :: pj_prog.drop 38 from h)).elim (fun e => e ▸ pj_mk37) (pj_q38 M)
set_option maxRecDepth 100000 in
theorem pj_q36 : ∀ M ∈ pj_prog.drop 36, pj_okR pj_prog M = true := fun M h => (List.mem_cons.mp (show M ∈ pj_m36 :: pj_prog.drop 37 from h)).elim (fun e => e ▸ pj_mk36) (pj_q37 M)
set_option maxRecDepth 100000 in
theorem pj_q35 : ∀ M ∈ pj_prog.drop 35, pj_okR pj_prog M = true := fun M h => (List.mem_cons.mp (show M ∈ pj_m35 :: pj_prog.drop 36 from h)).elim (fun e => e ▸ pj_mk35) (pj_q36 M)
set_option maxRecDepth 100000 in
theorem pj_q34 : ∀ M ∈ pj_prog.drop 34, pj_okR pj_prog M = true := fun M h => (List.mem_cons.mp (show M ∈ pj_m34 :: pj_prog.drop 35 from h)).elim (fun e => e ▸ pj_mk34) (pj_q35 M)
set_option maxRecDepth 100000 in
theorem pj_q33 : ∀ M ∈ pj_prog.drop 33, pj_okR pj_prog M = true := fun M h => (List.mem_cons.mp (show M ∈ pj_m33 :: pj_prog.drop 34 from h)).elim (fun e => e ▸ pj_mk33) (pj_q34 M)
set_option maxRecDepth 100000 in
theorem pj_q32 : ∀ M ∈ pj_prog.drop 32, pj_okR pj_prog M = true := fun M h => (List.mem_cons.mp (show M ∈ pj_m32 :: pj_prog.drop 33 from h)).elim (fun e => e ▸ pj_mk32) (pj_q33 M)
set_option maxRecDepth 100000 in
theorem pj_q31 : ∀ M ∈ pj_prog.drop 31, pj_okR pj_prog M = true := fun M h => (List.mem_cons.mp (show M ∈ pj_m31 :: pj_prog.drop 32 from h)).elim (fun e => e ▸ pj_mk31) (pj_q32 M)
set_option maxRecDepth 100000 in
theorem pj_q30 : ∀ M ∈ pj_prog.drop 30, pj_okR pj_prog M = true := fun M h => (List.mem_cons.mp (show M ∈ pj_m30 :: pj_prog.drop 31 from h)).elim (fun e => e ▸ pj_mk30) (pj_q31 M)
set_option maxRecDepth 100000 in
theorem pj_q29 : ∀ M ∈ pj_prog.drop 29, pj_okR pj_prog M = true := fun M h => (List.mem_cons.mp (show M ∈ pj_m29 :: pj_prog.drop 30 from h)).elim (fun e => e ▸ pj_mk29) (pj_q30 M)
set_option maxRecDepth 100000 in
theorem pj_q28 : ∀ M ∈ pj_prog.drop 28, pj_okR pj_prog M = true := fun M h => (List.mem_cons.mp (show M ∈ pj_m28 :: pj_prog.drop 29 from h)).elim (fun e => e ▸ pj_mk28) (pj_q29 M)
set_option maxRecDepth 100000 in
theorem pj_q27 : ∀ M ∈ pj_prog.drop 27, pj_okR pj_prog M = true := fun M h => (List.mem_cons.mp (show M ∈ pj_m27 :: pj_prog.drop 28 from h)).elim (fun e => e ▸ pj_mk27) (pj_q28 M)
set_option maxRecDepth 100000 in
theorem pj_q26 : ∀ M ∈ pj_prog.drop 26, pj_okR pj_prog M = true := fun M h => (List.mem_cons.mp (show M ∈ pj_m26 :: pj_prog.drop 27 from h)).elim (fun e => e ▸ pj_mk26) (pj_q27 M)
set_option maxRecDepth 100000 in
theorem pj_q25 : ∀ M ∈ pj_prog.drop 25, pj_okR pj_prog M = true := fun M h => (List.mem_cons.mp (show M ∈ pj_m25 :: pj_prog.drop 26 from h)).elim (fun e => e ▸ pj_mk25) (pj_q26 M)
set_option maxRecDepth 100000 in
theorem pj_q24 : ∀ M ∈ pj_prog.drop 24, pj_okR pj_prog M = true := fun M h => (List.mem_cons.mp (show M ∈ pj_m24 :: pj_prog.drop 25 from h)).elim (fun e => e ▸ pj_mk24) (pj_q25 M)
set_option maxRecDepth 100000 in
theorem pj_q23 : ∀ M ∈ pj_prog.drop 23, pj_okR pj_prog M = true := fun M h => (List.mem_cons.mp (show M ∈ pj_m23 :: pj_prog.drop 24 from h)).elim (fun e => e ▸ pj_mk23) (pj_q24 M)
set_option maxRecDepth 100000 in
theorem pj_q22 : ∀ M ∈ pj_prog.drop 22, pj_okR pj_prog M = true := fun M h => (List.mem_cons.mp (show M ∈ pj_m22 :: pj_prog.drop 23 from h)).elim (fun e => e ▸ pj_mk22) (pj_q23 M)
set_option maxRecDepth 100000 in
theorem pj_q21 : ∀ M ∈ pj_prog.drop 21, pj_okR pj_prog M = true := fun M h => (List.mem_cons.mp (show M ∈ pj_m21 :: pj_prog.drop 22 from h)).elim (fun e => e ▸ pj_mk21) (pj_q22 M)
set_option maxRecDepth 100000 in
theorem pj_q20 : ∀ M ∈ pj_prog.drop 20, pj_okR pj_prog M = true := fun M h => (List.mem_cons.mp (show M ∈ pj_m20 :: pj_prog.drop 21 from h)).elim (fun e => e ▸ pj_mk20) (pj_q21 M)
set_option maxRecDepth 100000 in
theorem pj_q19 : ∀ M ∈ pj_prog.drop 19, pj_okR pj_prog M = true := fun M h => (List.mem_cons.mp (show M ∈ pj_m19 :: pj_prog.drop 20 from h)).elim (fun e => e ▸ pj_mk19) (pj_q20 M)
set_option maxRecDepth 100000 in
theorem pj_q18 : ∀ M ∈ pj_prog.drop 18, pj_okR pj_prog M = true := fun M h => (List.mem_cons.mp (show M ∈ pj_m18 :: pj_prog.drop 19 from h)).elim (fun e => e ▸ pj_mk18) (pj_q19 M)
set_option maxRecDepth 100000 in
theorem pj_q17 : ∀ M ∈ pj_prog.drop 17, pj_okR pj_prog M = true := fun M h => (List.mem_cons.mp (show M ∈ pj_m17 :: pj_prog.drop 18 from h)).elim (fun e => e ▸ pj_mk17) (pj_q18 M)
set_option maxRecDepth 100000 in
theorem pj_q16 : ∀ M ∈ pj_prog.drop 16, pj_okR pj_prog M = true := fun M h => (List.mem_cons.mp (show M ∈ pj_m16 :: pj_prog.drop 17 from h)).elim (fun e => e ▸ pj_mk16) (pj_q17 M)
set_option maxRecDepth 100000 in
theorem pj_q15 : ∀ M ∈ pj_prog.drop 15, pj_okR pj_prog M = true := fun M h => (List.mem_cons.mp (show M ∈ pj_m15 :: pj_prog.drop 16 from h)).elim (fun e => e ▸ pj_mk15) (pj_q16 M)
set_option maxRecDepth 100000 in
theorem pj_q14 : ∀ M ∈ pj_prog.drop 14, pj_okR pj_prog M = true := fun M h => (List.mem_cons.mp (show M ∈ pj_m14 :: pj_prog.drop 15 from h)).elim (fun e => e ▸ pj_mk14) (pj_q15 M)
set_option maxRecDepth 100000 in
theorem pj_q13 : ∀ M ∈ pj_prog.drop 13, pj_okR pj_prog M = true := fun M h => (List.mem_cons.mp (show M ∈ pj_m13 :: pj_prog.drop 14 from h)).elim (fun e => e ▸ pj_mk13) (pj_q14 M)
set_option maxRecDepth 100000 in
theorem pj_q12 : ∀ M ∈ pj_prog.drop 12, pj_okR pj_prog M = true := fun M h => (List.mem_cons.mp (show M ∈ pj_m12 :: pj_prog.drop 13 from h)).elim (fun e => e ▸ pj_mk12) (pj_q13 M)
set_option maxRecDepth 100000 in
theorem pj_q11 : ∀ M ∈ pj_prog.drop 11, pj_okR pj_prog M = true := fun M h => (List.mem_cons.mp (show M ∈ pj_m11 :: pj_prog.drop 12 from h)).elim (fun e => e ▸ pj_mk11) (pj_q12 M)
set_option maxRecDepth 100000 in
theorem pj_q10 : ∀ M ∈ pj_prog.drop 10, pj_okR pj_prog M = true := fun M h => (List.mem_cons.mp (show M ∈ pj_m10 :: pj_prog.drop 11 from h)).elim (fun e => e ▸ pj_mk10) (pj_q11 M)
set_option maxRecDepth 100000 in
theorem pj_q9 : ∀ M ∈ pj_prog.drop 9, pj_okR pj_prog M = true := fun M h => (List.mem_cons.mp (show M ∈ pj_m9 :: pj_prog.drop 10 from h)).elim (fun e => e ▸ pj_mk9) (pj_q10 M)
set_option maxRecDepth 100000 in
theorem pj_q8 : ∀ M ∈ pj_prog.drop 8, pj_okR pj_prog M = true := fun M h => (List.mem_cons.mp (show M ∈ pj_m8 :: pj_prog.drop 9 from h)).elim (fun e => e ▸ pj_mk8) (pj_q9 M)
set_option maxRecDepth 100000 in
theorem pj_q7 : ∀ M ∈ pj_prog.drop 7, pj_okR pj_prog M = true := fun M h => (List.mem_cons.mp (show M ∈ pj_m7 :: pj_prog.drop 8 from h)).elim (fun e => e ▸ pj_mk7) (pj_q8 M)
set_option maxRecDepth 100000 in
theorem pj_q6 : ∀ M ∈ pj_prog.drop 6, pj_okR pj_prog M = true := fun M h => (List.mem_cons.mp (show M ∈ pj_m6 :: pj_prog.drop 7 from h)).elim (fun e => e ▸ pj_mk6) (pj_q7 M)
set_option maxRecDepth 100000 in
theorem pj_q5 : ∀ M ∈ pj_prog.drop 5, pj_okR pj_prog M = true := fun M h => (List.mem_cons.mp (show M ∈ pj_m5 :: pj_prog.drop 6 from h)).elim (fun e => e ▸ pj_mk5) (pj_q6 M)
set_option maxRecDepth 100000 in
theorem pj_q4 : ∀ M ∈ pj_prog.drop 4, pj_okR pj_prog M = true := fun M h => (List.mem_cons.mp (show M ∈ pj_m4 :: pj_prog.drop 5 from h)).elim (fun e => e ▸ pj_mk4) (pj_q5 M)
set_option maxRecDepth 100000 in
theorem pj_q3 : ∀ M ∈ pj_prog.drop 3, pj_okR pj_prog M = true := fun M h => (List.mem_cons.mp (show M ∈ pj_m3 :: pj_prog.drop 4 from h)).elim (fun e => e ▸ pj_mk3) (pj_q4 M)
set_option maxRecDepth 100000 in
theorem pj_q2 : ∀ M ∈ pj_prog.drop 2, pj_okR pj_prog M = true := fun M h => (List.mem_cons.mp (show M ∈ pj_m2 :: pj_prog.drop 3 from h)).elim (fun e => e ▸ pj_mk2) (pj_q3 M)
set_option maxRecDepth 100000 in
theorem pj_q1 : ∀ M ∈ pj_prog.drop 1, pj_okR pj_prog M = true := fun M h => (List.mem_cons.mp (show M ∈ pj_m1 :: pj_prog.drop 2 from h)).elim (fun e => e ▸ pj_mk1) (pj_q2 M)
set_option maxRecDepth 100000 in
theorem pj_q0 : ∀ M ∈ pj_prog.drop 0, pj_okR pj_prog M = true := fun M h => (List.mem_cons.mp (show M ∈ pj_m0 :: pj_prog.drop 1 from h)).elim (fun e => e ▸ pj_mk0) (pj_q1 M)
theorem pj_prog_ok : ∀ M ∈ pj_prog, pj_okR pj_prog M = true := pj_q0
