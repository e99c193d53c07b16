theorem pj_q291 : ∀ M ∈ pj_prog.drop 291, pj_okR pj_prog M = true := fun M h => absurd (show M ∈ ([] : List pj_M) from h) List.not_mem_nil
set_option maxRecDepth 100000 in
theorem pj_q290 : ∀ M ∈ pj_prog.drop 290, pj_okR pj_prog M = true := fun M h => (List.mem_cons.mp (show M ∈ pj_m290 :: pj_prog.drop 291 from h)).elim (fun e => e ▸ pj_mk290) (pj_q291 M)
set_option maxRecDepth 100000 in
theorem pj_q289 : ∀ M ∈ pj_prog.drop 289, pj_okR pj_prog M = true := fun M h => (List.mem_cons.mp (show M ∈ pj_m289 :: pj_prog.drop 290 from h)).elim (fun e => e ▸ pj_mk289) (pj_q290 M)
set_option maxRecDepth 100000 in
theorem pj_q288 : ∀ M ∈ pj_prog.drop 288, pj_okR pj_prog M = true := fun M h => (List.mem_cons.mp (show M ∈ pj_m288 :: pj_prog.drop 289 from h)).elim (fun e => e ▸ pj_mk288) (pj_q289 M)
set_option maxRecDepth 100000 in
theorem pj_q287 : ∀ M ∈ pj_prog.drop 287, pj_okR pj_prog M = true := fun M h => (List.mem_cons.mp (show M ∈ pj_m287 :: pj_prog.drop 288 from h)).elim (fun e => e ▸ pj_mk287) (pj_q288 M)
set_option maxRecDepth 100000 in
theorem pj_q286 : ∀ M ∈ pj_prog.drop 286, pj_okR pj_prog M = true := fun M h => (List.mem_cons.mp (show M ∈ pj_m286 :: pj_prog.drop 287 from h)).elim (fun e => e ▸ pj_mk286) (pj_q287 M)
set_option maxRecDepth 100000 in
theorem pj_q285 : ∀ M ∈ pj_prog.drop 285, pj_okR pj_prog M = true := fun M h => (List.mem_cons.mp (show M ∈ pj_m285 :: pj_prog.drop 286 from h)).elim (fun e => e ▸ pj_mk285) (pj_q286 M)
set_option maxRecDepth 100000 in
theorem pj_q284 : ∀ M ∈ pj_prog.drop 284, pj_okR pj_prog M = true := fun M h => (List.mem_cons.mp (show M ∈ pj_m284 :: pj_prog.drop 285 from h)).elim (fun e => e ▸ pj_mk284) (pj_q285 M)
set_option maxRecDepth 100000 in
theorem pj_q283 : ∀ M ∈ pj_prog.drop 283, pj_okR pj_prog M = true := fun M h => (List.mem_cons.mp (show M ∈ pj_m283 :: pj_prog.drop 284 from h)).elim (fun e => e ▸ pj_mk283) (pj_q284 M)
set_option maxRecDepth 100000 in
theorem pj_q282 : ∀ M ∈ pj_prog.drop 282, pj_okR pj_prog M = true := fun M h => (List.mem_cons.mp (show M ∈ pj_m282 :: pj_prog.drop 283 from h)).elim (fun e => e ▸ pj_mk282) (pj_q283 M)
set_option maxRecDepth 100000 in
theorem pj_q281 : ∀ M ∈ pj_prog.drop 281, pj_okR pj_prog M = true := fun M h => (List.mem_cons.mp (show M ∈ pj_m281 :: pj_prog.drop 282 from h)).elim (fun e => e ▸ pj_mk281) (pj_q282 M)
set_option maxRecDepth 100000 in
theorem pj_q280 : ∀ M ∈ pj_prog.drop 280, pj_okR pj_prog M = true := fun M h => (List.mem_cons.mp (show M ∈ pj_m280 :: pj_prog.drop 281 from h)).elim (fun e => e ▸ pj_mk280) (pj_q281 M)
set_option maxRecDepth 100000 in
theorem pj_q279 : ∀ M ∈ pj_prog.drop 279, pj_okR pj_prog M = true := fun M h => (List.mem_cons.mp (show M ∈ pj_m279 :: pj_prog.drop 280 from h)).elim (fun e => e ▸ pj_mk279) (pj_q280 M)
set_option maxRecDepth 100000 in
theorem pj_q278 : ∀ M ∈ pj_prog.drop 278, pj_okR pj_prog M = true := fun M h => (List.mem_cons.mp (show M ∈ pj_m278 :: pj_prog.drop 279 from h)).elim (fun e => e ▸ pj_mk278) (pj_q279 M)
set_option maxRecDepth 100000 in
theorem pj_q277 : ∀ M ∈ pj_prog.drop 277, pj_okR pj_prog M = true := fun M h => (List.mem_cons.mp (show M ∈ pj_m277 :: pj_prog.drop 278 from h)).elim (fun e => e ▸ pj_mk277) (pj_q278 M)
set_option maxRecDepth 100000 in
theorem pj_q276 : ∀ M ∈ pj_prog.drop 276, pj_okR pj_prog M = true := fun M h => (List.mem_cons.mp (show M ∈ pj_m276 :: pj_prog.drop 277 from h)).elim (fun e => e ▸ pj_mk276) (pj_q277 M)
set_option maxRecDepth 100000 in
theorem pj_q275 : ∀ M ∈ pj_prog.drop 275, pj_okR pj_prog M = true := fun M h => (List.mem_cons.mp (show M ∈ pj_m275 :: pj_prog.drop 276 from h)).elim (fun e => e ▸ pj_mk275) (pj_q276 M)
set_option maxRecDepth 100000 in
theorem pj_q274 : ∀ M ∈ pj_prog.drop 274, pj_okR pj_prog M = true := fun M h => (List.mem_cons.mp (show M ∈ pj_m274 :: pj_prog.drop 275 from h)).elim (fun e => e ▸ pj_mk274) (pj_q275 M)
set_option maxRecDepth 100000 in
theorem pj_q273 : ∀ M ∈ pj_prog.drop 273, pj_okR pj_prog M = true := fun M h => (List.mem_cons.mp (show M ∈ pj_m273 :: pj_prog.drop 274 from h)).elim (fun e => e ▸ pj_mk273) (pj_q274 M)
set_option maxRecDepth 100000 in
theorem pj_q272 : ∀ M ∈ pj_prog.drop 272, pj_okR pj_prog M = true := fun M h => (List.mem_cons.mp (show M ∈ pj_m272 :: pj_prog.drop 273 from h)).elim (fun e => e ▸ pj_mk272) (pj_q273 M)
set_option maxRecDepth 100000 in
theorem pj_q271 : ∀ M ∈ pj_prog.drop 271, pj_okR pj_prog M = true := fun M h => (List.mem_cons.mp (show M ∈ pj_m271 :: pj_prog.drop 272 from h)).elim (fun e => e ▸ pj_mk271) (pj_q272 M)
set_option maxRecDepth 100000 in
theorem pj_q270 : ∀ M ∈ pj_prog.drop 270, pj_okR pj_prog M = true := fun M h => (List.mem_cons.mp (show M ∈ pj_m270 :: pj_prog.drop 271 from h)).elim (fun e => e ▸ pj_mk270) (pj_q271 M)
set_option maxRecDepth 100000 in
theorem pj_q269 : ∀ M ∈ pj_prog.drop 269, pj_okR pj_prog M = true := fun M h => (List.mem_cons.mp (show M ∈ pj_m269 :: pj_prog.drop 270 from h)).elim (fun e => e ▸ pj_mk269) (pj_q270 M)
set_option maxRecDepth 100000 in
theorem pj_q268 : ∀ M ∈ pj_prog.drop 268, pj_okR pj_prog M = true := fun M h => (List.mem_cons.mp (show M ∈ pj_m268 :: pj_prog.drop 269 from h)).elim (fun e => e ▸ pj_mk268) (pj_q269 M)
set_option maxRecDepth 100000 in
theorem pj_q267 : ∀ M ∈ pj_prog.drop 267, pj_okR pj_prog M = true := fun M h => (List.mem_cons.mp (show M ∈ pj_m267 :: pj_prog.drop 268 from h)).elim (fun e => e ▸ pj_mk267) (pj_q268 M)
set_option maxRecDepth 100000 in
theorem pj_q266 : ∀ M ∈ pj_prog.drop 266, pj_okR pj_prog M = true := fun M h => (List.mem_cons.mp (show M ∈ pj_m266 :: pj_prog.drop 267 from h)).elim (fun e => e ▸ pj_mk266) (pj_q267 M)
set_option maxRecDepth 100000 in
theorem pj_q265 : ∀ M ∈ pj_prog.drop 265, pj_okR pj_prog M = true := fun M h => (List.mem_cons.mp (show M ∈ pj_m265 :: pj_prog.drop 266 from h)).elim (fun e => e ▸ pj_mk265) (pj_q266 M)
set_option maxRecDepth 100000 in
theorem pj_q264 : ∀ M ∈ pj_prog.drop 264, pj_okR pj_prog M = true := fun M h => (List.mem_cons.mp (show M ∈ pj_m264 :: pj_prog.drop 265 from h)).elim (fun e => e ▸ pj_mk264) (pj_q265 M)
set_option maxRecDepth 100000 in
theorem pj_q263 : ∀ M ∈ pj_prog.drop 263, pj_okR pj_prog M = true := fun M h => (List.mem_cons.mp (show M ∈ pj_m263 :: pj_prog.drop 264 from h)).elim (fun e => e ▸ pj_mk263) (pj_q264 M)
set_option maxRecDepth 100000 in
theorem pj_q262 : ∀ M ∈ pj_prog.drop 262, pj_okR pj_prog M = true := fun M h => (List.mem_cons.mp (show M ∈ pj_m262 :: pj_prog.drop 263 from h)).elim (fun e => e ▸ pj_mk262) (pj_q263 M)
set_option maxRecDepth 100000 in
theorem pj_q261 : ∀ M ∈ pj_prog.drop 261, pj_okR pj_prog M = true := fun M h => (List.mem_cons.mp (show M ∈ pj_m261 :: pj_prog.drop 262 from h)).elim (fun e => e ▸ pj_mk261) (pj_q262 M)
set_option maxRecDepth 100000 in
theorem pj_q260 : ∀ M ∈ pj_prog.drop 260, pj_okR pj_prog M = true := fun M h => (List.mem_cons.mp (show M ∈ pj_m260 :: pj_prog.drop 261 from h)).elim (fun e => e ▸ pj_mk260) (pj_q261 M)
set_option maxRecDepth 100000 in
theorem pj_q259 : ∀ M ∈ pj_prog.drop 259, pj_okR pj_prog M = true := fun M h => (List.mem_cons.mp (show M ∈ pj_m259 :: pj_prog.drop 260 from h)).elim (fun e => e ▸ pj_mk259) (pj_q260 M)
set_option maxRecDepth 100000 in
theorem pj_q258 : ∀ M ∈ pj_prog.drop 258, pj_okR pj_prog M = true := fun M h => (List.mem_cons.mp (show M ∈ pj_m258 :: pj_prog.drop 259 from h)).elim (fun e => e ▸ pj_mk258) (pj_q259 M)
set_option maxRecDepth 100000 in
theorem pj_q257 : ∀ M ∈ pj_prog.drop 257, pj_okR pj_prog M = true := fun M h => (List.mem_cons.mp (show M ∈ pj_m257 :: pj_prog.drop 258 from h)).elim (fun e => e ▸ pj_mk257) (pj_q258 M)
set_option maxRecDepth 100000 in
theorem pj_q256 : ∀ M ∈ pj_prog.drop 256, pj_okR pj_prog M = true := fun M h => (List.mem_cons.mp (show M ∈ pj_m256 :: pj_prog.drop 257 from h)).elim (fun e => e ▸ pj_mk256) (pj_q257 M)
set_option maxRecDepth 100000 in
theorem pj_q255 : ∀ M ∈ pj_prog.drop 255, pj_okR pj_prog M = true := fun M h => (List.mem_cons.mp (show M ∈ pj_m255 :: pj_prog.drop 256 from h)).elim (fun e => e ▸ pj_mk255) (pj_q256 M)
set_option maxRecDepth 100000 in
theorem pj_q254 : ∀ M ∈ pj_prog.drop 254, pj_okR pj_prog M = true := fun M h => (List.mem_cons.mp (show M ∈ pj_m254 :: pj_prog.drop 255 from h)).elim (fun e => e ▸ pj_mk254) (pj_q255 M)
set_option maxRecDepth 100000 in
theorem pj_q253 : ∀ M ∈ pj_prog.drop 253, pj_okR pj_prog M = true := fun M h => (List.mem_cons.mp (show M ∈ pj_m253 :: pj_prog.drop 254 from h)).elim (fun e => e ▸ pj_mk253) (pj_q254 M)
set_option maxRecDepth 100000 in
theorem pj_q252 : ∀ M ∈ pj_prog.drop 252, pj_okR pj_prog M = true := fun M h => (List.mem_cons.mp (show M ∈ pj_m252 :: pj_prog.drop 253 from h)).elim (fun e => e ▸ pj_mk252) (pj_q253 M)
set_option maxRecDepth 100000 in
theorem pj_q251 : ∀ M ∈ pj_prog.drop 251, pj_okR pj_prog M = true := fun M h => (List.mem_cons.mp (show M ∈ pj_m251 :: pj_prog.drop 252 from h)).elim (fun e => e ▸ pj_mk251) (pj_q252 M)
set_option maxRecDepth 100000 in
theorem pj_q250 : ∀ M ∈ pj_prog.drop 250, pj_okR pj_prog M = true := fun M h => (List.mem_cons.mp (show M ∈ pj_m250 :: pj_prog.drop 251 from h)).elim (fun e => e ▸ pj_mk250) (pj_q251 M)
set_option maxRecDepth 100000 in
theorem pj_q249 : ∀ M ∈ pj_prog.drop 249, pj_okR pj_prog M = true := fun M h => (List.mem_cons.mp (show M ∈ pj_m249 :: pj_prog.drop 250 from h)).elim (fun e => e ▸ pj_mk249) (pj_q250 M)
set_option maxRecDepth 100000 in
theorem pj_q248 : ∀ M ∈ pj_prog.drop 248, pj_okR pj_prog M = true := fun M h => (List.mem_cons.mp (show M ∈ pj_m248 :: pj_prog.drop 249 from h)).elim (fun e => e ▸ pj_mk248) (pj_q249 M)
set_option maxRecDepth 100000 in
theorem pj_q247 : ∀ M ∈ pj_prog.drop 247, pj_okR pj_prog M = true := fun M h => (List.mem_cons.mp (show M ∈ pj_m247 :: pj_prog.drop 248 from h)).elim (fun e => e ▸ pj_mk247) (pj_q248 M)
set_option maxRecDepth 100000 in
theorem pj_q246 : ∀ M ∈ pj_prog.drop 246, pj_okR pj_prog M = true := fun M h => (List.mem_cons.mp (show M ∈ pj_m246 :: pj_prog.drop 247 from h)).elim (fun e => e ▸ pj_mk246) (pj_q247 M)
set_option maxRecDepth 100000 in
theorem pj_q245 : ∀ M ∈ pj_prog.drop 245, pj_okR pj_prog M = true := fun M h => (List.mem_cons.mp (show M ∈ pj_m245 :: pj_prog.drop 246 from h)).elim (fun e => e ▸ pj_mk245) (pj_q246 M)
set_option maxRecDepth 100000 in
theorem pj_q244 : ∀ M ∈ pj_prog.drop 244, pj_okR pj_prog M = true := fun M h => (List.mem_cons.mp (show M ∈ pj_m244 :: pj_prog.drop 245 from h)).elim (fun e => e ▸ pj_mk244) (pj_q245 M)
set_option maxRecDepth 100000 in
theorem pj_q243 : ∀ M ∈ pj_prog.drop 243, pj_okR pj_prog M = true := fun M h => (List.mem_cons.mp (show M ∈ pj_m243 :: pj_prog.drop 244 from h)).elim (fun e => e ▸ pj_mk243) (pj_q244 M)
set_option maxRecDepth 100000 in
theorem pj_q242 : ∀ M ∈ pj_prog.drop 242, pj_okR pj_prog M = true := fun M h => (List.mem_cons.mp (show M ∈ pj_m242 :: pj_prog.drop 243 from h)).elim (fun e => e ▸ pj_mk242) (pj_q243 M)
set_option maxRecDepth 100000 in
theorem pj_q241 : ∀ M ∈ pj_prog.drop 241, pj_okR pj_prog M = true := fun M h => (List.mem_cons.mp (show M ∈ pj_m241 :: pj_prog.drop 242 from h)).elim (fun e => e ▸ pj_mk241) (pj_q242 M)
set_option maxRecDepth 100000 in
theorem pj_q240 : ∀ M ∈ pj_prog.drop 240, pj_okR pj_prog M = true := fun M h => (List.mem_cons.mp (show M ∈ pj_m240 :: pj_prog.drop 241 from h)).elim (fun e => e ▸ pj_mk240) (pj_q241 M)
set_option maxRecDepth 100000 in
theorem pj_q239 : ∀ M ∈ pj_prog.drop 239, pj_okR pj_prog M = true := fun M h => (List.mem_cons.mp (show M ∈ pj_m239 :: pj_prog.drop 240 from h)).elim (fun e => e ▸ pj_mk239) (pj_q240 M)
set_option maxRecDepth 100000 in
theorem pj_q238 : ∀ M ∈ pj_prog.drop 238, pj_okR pj_prog M = true := fun M h => (List.mem_cons.mp (show M ∈ pj_m238 :: pj_prog.drop 239 from h)).elim (fun e => e ▸ pj_mk238) (pj_q239 M)
set_option maxRecDepth 100000 in
theorem pj_q237 : ∀ M ∈ pj_prog.drop 237, pj_okR pj_prog M = true := fun M h => (List.mem_cons.mp (show M ∈ pj_m237 :: pj_prog.drop 238 from h)).elim (fun e => e ▸ pj_mk237) (pj_q238 M)
set_option maxRecDepth 100000 in
theorem pj_q236 : ∀ M ∈ pj_prog.drop 236, pj_okR pj_prog M = true := fun M h => (List.mem_cons.mp (show M ∈ pj_m236 :: pj_prog.drop 237 from h)).elim (fun e => e ▸ pj_mk236) (pj_q237 M)
set_option maxRecDepth 100000 in
theorem pj_q235 : ∀ M ∈ pj_prog.drop 235, pj_okR pj_prog M = true := fun M h => (List.mem_cons.mp (show M ∈ pj_m235 :: pj_prog.drop 236 from h)).elim (fun e => e ▸ pj_mk235) (pj_q236 M)
set_option maxRecDepth 100000 in
theorem pj_q234 : ∀ M ∈ pj_prog.drop 234, pj_okR pj_prog M = true := fun M h => (List.mem_cons.mp (show M ∈ pj_m234 :: pj_prog.drop 235 from h)).elim (fun e => e ▸ pj_mk234) (pj_q235 M)
set_option maxRecDepth 100000 in
theorem pj_q233 : ∀ M ∈ pj_prog.drop 233, pj_okR pj_prog M = true := fun M h => (List.mem_cons.mp (show M ∈ pj_m233 :: pj_prog.drop 234 from h)).elim (fun e => e ▸ pj_mk233) (pj_q234 M)
set_option maxRecDepth 100000 in
theorem pj_q232 : ∀ M ∈ pj_prog.drop 232, pj_okR pj_prog M = true := fun M h => (List.mem_cons.mp (show M ∈ pj_m232 :: pj_prog.drop 233 from h)).elim (fun e => e ▸ pj_mk232) (pj_q233 M)
set_option maxRecDepth 100000 in
theorem pj_q231 : ∀ M ∈ pj_prog.drop 231, pj_okR pj_prog M = true := fun M h => (List.mem_cons.mp (show M ∈ pj_m231 :: pj_prog.drop 232 from h)).elim (fun e => e ▸ pj_mk231) (pj_q232 M)
set_option maxRecDepth 100000 in
theorem pj_q230 : ∀ M ∈ pj_prog.drop 230, pj_okR pj_prog M = true := fun M h => (List.mem_cons.mp (show M ∈ pj_m230 :: pj_prog.drop 231 from h)).elim (fun e => e ▸ pj_mk230) (pj_q231 M)
set_option maxRecDepth 100000 in
theorem pj_q229 : ∀ M ∈ pj_prog.drop 229, pj_okR pj_prog M = true := fun M h => (List.mem_cons.mp (show M ∈ pj_m229 :: pj_prog.drop 230 from h)).elim (fun e => e ▸ pj_mk229) (pj_q230 M)
set_option maxRecDepth 100000 in
theorem pj_q228 : ∀ M ∈ pj_prog.drop 228, pj_okR pj_prog M = true := fun M h => (List.mem_cons.mp (show M ∈ pj_m228 :: pj_prog.drop 229 from h)).elim (fun e => e ▸ pj_mk228) (pj_q229 M)
set_option maxRecDepth 100000 in
theorem pj_q227 : ∀ M ∈ pj_prog.drop 227, pj_okR pj_prog M = true := fun M h => (List.mem_cons.mp (show M ∈ pj_m227 :: pj_prog.drop 228 from h)).elim (fun e => e ▸ pj_mk227) (pj_q228 M)
set_option maxRecDepth 100000 in
theorem pj_q226 : ∀ M ∈ pj_prog.drop 226, pj_okR pj_prog M = true := fun M h => (List.mem_cons.mp (show M ∈ pj_m226 :: pj_prog.drop 227 from h)).elim (fun e => e ▸ pj_mk226) (pj_q227 M)
set_option maxRecDepth 100000 in
theorem pj_q225 : ∀ M ∈ pj_prog.drop 225, pj_okR pj_prog M = true := fun M h => (List.mem_cons.mp (show M ∈ pj_m225 :: pj_prog.drop 226 from h)).elim (fun e => e ▸ pj_mk225) (pj_q226 M)
set_option maxRecDepth 100000 in
theorem pj_q224 : ∀ M ∈ pj_prog.drop 224, pj_okR pj_prog M = true := fun M h => (List.mem_cons.mp (show M ∈ pj_m224 :: pj_prog.drop 225 from h)).elim (fun e => e ▸ pj_mk224) (pj_q225 M)
set_option maxRecDepth 100000 in
theorem pj_q223 : ∀ M ∈ pj_prog.drop 223, pj_okR pj_prog M = true := fun M h => (List.mem_cons.mp (show M ∈ pj_m223 :: pj_prog.drop 224 from h)).elim (fun e => e ▸ pj_mk223) (pj_q224 M)
set_option maxRecDepth 100000 in
theorem pj_q222 : ∀ M ∈ pj_prog.drop 222, pj_okR pj_prog M = true := fun M h => (List.mem_cons.mp (show M ∈ pj_m222 :: pj_prog.drop 223 from h)).elim (fun e => e ▸ pj_mk222) (pj_q223 M)
set_option maxRecDepth 100000 in
theorem pj_q221 : ∀ M ∈ pj_prog.drop 221, pj_okR pj_prog M = true := fun M h => (List.mem_cons.mp (show M ∈ pj_m221 :: pj_prog.drop 222 from h)).elim (fun e => e ▸ pj_mk221) (pj_q222 M)
set_option maxRecDepth 100000 in
theorem pj_q220 : ∀ M ∈ pj_prog.drop 220, pj_okR pj_prog M = true := fun M h => (List.mem_cons.mp (show M ∈ pj_m220 :: pj_prog.drop 221 from h)).elim (fun e => e ▸ pj_mk220) (pj_q221 M)
set_option maxRecDepth 100000 in
theorem pj_q219 : ∀ M ∈ pj_prog.drop 219, pj_okR pj_prog M = true := fun M h => (List.mem_cons.mp (show M ∈ pj_m219 :: pj_prog.drop 220 from h)).elim (fun e => e ▸ pj_mk219) (pj_q220 M)
set_option maxRecDepth 100000 in
theorem pj_q218 : ∀ M ∈ pj_prog.drop 218, pj_okR pj_prog M = true := fun M h => (List.mem_cons.mp (show M ∈ pj_m218 :: pj_prog.drop 219 from h)).elim (fun e => e ▸ pj_mk218) (pj_q219 M)
set_option maxRecDepth 100000 in
theorem pj_q217 : ∀ M ∈ pj_prog.drop 217, pj_okR pj_prog M = true := fun M h => (List.mem_cons.mp (show M ∈ pj_m217 :: pj_prog.drop 218 from h)).elim (fun e => e ▸ pj_mk217) (pj_q218 M)
set_option maxRecDepth 100000 in
theorem pj_q216 : ∀ M ∈ pj_prog.drop 216, pj_okR pj_prog M = true := fun M h => (List.mem_cons.mp (show M ∈ pj_m216 :: pj_prog.drop 217 from h)).elim (fun e => e ▸ pj_mk216) (pj_q217 M)
set_option maxRecDepth 100000 in
theorem pj_q215 : ∀ M ∈ pj_prog.drop 215, pj_okR pj_prog M = true := fun M h => (List.mem_cons.mp (show M ∈ pj_m215 :: pj_prog.drop 216 from h)).elim (fun e => e ▸ pj_mk215) (pj_q216 M)
set_option maxRecDepth 100000 in
theorem pj_q214 : ∀ M ∈ pj_prog.drop 214, pj_okR pj_prog M = true := fun M h => (List.mem_cons.mp (show M ∈ pj_m214 :: pj_prog.drop 215 from h)).elim (fun e => e ▸ pj_mk214) (pj_q215 M)
set_option maxRecDepth 100000 in
theorem pj_q213 : ∀ M ∈ pj_prog.drop 213, pj_okR pj_prog M = true := fun M h => (List.mem_cons.mp (show M ∈ pj_m213 :: pj_prog.drop 214 from h)).elim (fun e => e ▸ pj_mk213) (pj_q214 M)
set_option maxRecDepth 100000 in
theorem pj_q212 : ∀ M ∈ pj_prog.drop 212, pj_okR pj_prog M = true := fun M h => (List.mem_cons.mp (show M ∈ pj_m212 :: pj_prog.drop 213 from h)).elim (fun e => e ▸ pj_mk212) (pj_q213 M)
set_option maxRecDepth 100000 in
theorem pj_q211 : ∀ M ∈ pj_prog.drop 211, pj_okR pj_prog M = true := fun M h => (List.mem_cons.mp (show M ∈ pj_m211 :: pj_prog.drop 212 from h)).elim (fun e => e ▸ pj_mk211) (pj_q212 M)
set_option maxRecDepth 100000 in
theorem pj_q210 : ∀ M ∈ pj_prog.drop 210, pj_okR pj_prog M = true := fun M h => (List.mem_cons.mp (show M ∈ pj_m210 :: pj_prog.drop 211 from h)).elim (fun e => e ▸ pj_mk210) (pj_q211 M)
set_option maxRecDepth 100000 in
theorem pj_q209 : ∀ M ∈ pj_prog.drop 209, pj_okR pj_prog M = true := fun M h => (List.mem_cons.mp (show M ∈ pj_m209 :: pj_prog.drop 210 from h)).elim (fun e => e ▸ pj_mk209) (pj_q210 M)
set_option maxRecDepth 100000 in
theorem pj_q208 : ∀ M ∈ pj_prog.drop 208, pj_okR pj_prog M = true := fun M h => (List.mem_cons.mp (show M ∈ pj_m208 :: pj_prog.drop 209 from h)).elim (fun e => e ▸ pj_mk208) (pj_q209 M)
set_option maxRecDepth 100000 in
theorem pj_q207 : ∀ M ∈ pj_prog.drop 207, pj_okR pj_prog M = true := fun M h => (List.mem_cons.mp (show M ∈ pj_m207 :: pj_prog.drop 208 from h)).elim (fun e => e ▸ pj_mk207) (pj_q208 M)
set_option maxRecDepth 100000 in
theorem pj_q206 : ∀ M ∈ pj_prog.drop 206, pj_okR pj_prog M = true := fun M h => (List.mem_cons.mp (show M ∈ pj_m206 :: pj_prog.drop 207 from h)).elim (fun e => e ▸ pj_mk206) (pj_q207 M)
set_option maxRecDepth 100000 in
theorem pj_q205 : ∀ M ∈ pj_prog.drop 205, pj_okR pj_prog M = true := fun M h => (List.mem_cons.mp (show M ∈ pj_m205 :: pj_prog.drop 206 from h)).elim (fun e => e ▸ pj_mk205) (pj_q206 M)
set_option maxRecDepth 100000 in
theorem pj_q204 : ∀ M ∈ pj_prog.drop 204, pj_okR pj_prog M = true := fun M h => (List.mem_cons.mp (show M ∈ pj_m204 :: pj_prog.drop 205 from h)).elim (fun e => e ▸ pj_mk204) (pj_q205 M)
set_option maxRecDepth 100000 in
theorem pj_q203 : ∀ M ∈ pj_prog.drop 203, pj_okR pj_prog M = true := fun M h => (List.mem_cons.mp (show M ∈ pj_m203 :: pj_prog.drop 204 from h)).elim (fun e => e ▸ pj_mk203) (pj_q204 M)
set_option maxRecDepth 100000 in
theorem pj_q202 : ∀ M ∈ pj_prog.drop 202, pj_okR pj_prog M = true := fun M h => (List.mem_cons.mp (show M ∈ pj_m202 :: pj_prog.drop 203 from h)).elim (fun e => e ▸ pj_mk202) (pj_q203 M)
set_option maxRecDepth 100000 in
theorem pj_q201 : ∀ M ∈ pj_prog.drop 201, pj_okR pj_prog M = true := fun M h => (List.mem_cons.mp (show M ∈ pj_m201 :: pj_prog.drop 202 from h)).elim (fun e => e ▸ pj_mk201) (pj_q202 M)
set_option maxRecDepth 100000 in
theorem pj_q200 : ∀ M ∈ pj_prog.drop 200, pj_okR pj_prog M = true := fun M h => (List.mem_cons.mp (show M ∈ pj_m200 :: pj_prog.drop 201 from h)).elim (fun e => e ▸ pj_mk200) (pj_q201 M)
set_option maxRecDepth 100000 in
theorem pj_q199 : ∀ M ∈ pj_prog.drop 199, pj_okR pj_prog M = true := fun M h => (List.mem_cons.mp (show M ∈ pj_m199 :: pj_prog.drop 200 from h)).elim (fun e => e ▸ pj_mk199) (pj_q200 M)
set_option maxRecDepth 100000 in
theorem pj_q198 : ∀ M ∈ pj_prog.drop 198, pj_okR pj_prog M = true := fun M h => (List.mem_cons.mp (show M ∈ pj_m198 :: pj_prog.drop 199 from h)).elim (fun e => e ▸ pj_mk198) (pj_q199 M)
set_option maxRecDepth 100000 in
theorem pj_q197 : ∀ M ∈ pj_prog.drop 197, pj_okR pj_prog M = true := fun M h => (List.mem_cons.mp (show M ∈ pj_m197 :: pj_prog.drop 198 from h)).elim (fun e => e ▸ pj_mk197) (pj_q198 M)
set_option maxRecDepth 100000 in
theorem pj_q196 : ∀ M ∈ pj_prog.drop 196, pj_okR pj_prog M = true := fun M h => (List.mem_cons.mp (show M ∈ pj_m196 :: pj_prog.drop 197 from h)).elim (fun e => e ▸ pj_mk196) (pj_q197 M)
set_option maxRecDepth 100000 in
theorem pj_q195 : ∀ M ∈ pj_prog.drop 195, pj_okR pj_prog M = true := fun M h => (List.mem_cons.mp (show M ∈ pj_m195 :: pj_prog.drop 196 from h)).elim (fun e => e ▸ pj_mk195) (pj_q196 M)
set_option maxRecDepth 100000 in
theorem pj_q194 : ∀ M ∈ pj_prog.drop 194, pj_okR pj_prog M = true := fun M h => (List.mem_cons.mp (show M ∈ pj_m194 :: pj_prog.drop 195 from h)).elim (fun e => e ▸ pj_mk194) (pj_q195 M)
set_option maxRecDepth 100000 in
theorem pj_q193 : ∀ M ∈ pj_prog.drop 193, pj_okR pj_prog M = true := fun M h => (List.mem_cons.mp (show M ∈ pj_m193 :: pj_prog.drop 194 from h)).elim (fun e => e ▸ pj_mk193) (pj_q194 M)
set_option maxRecDepth 100000 in
theorem pj_q192 : ∀ M ∈ pj_prog.drop 192, pj_okR pj_prog M = true := fun M h => (List.mem_cons.mp (show M ∈ pj_m192 :: pj_prog.drop 193 from h)).elim (fun e => e ▸ pj_mk192) (pj_q193 M)
set_option maxRecDepth 100000 in
theorem pj_q191 : ∀ M ∈ pj_prog.drop 191, pj_okR pj_prog M = true := fun M h => (List.mem_cons.mp (show M ∈ pj_m191 :: pj_prog.drop 192 from h)).elim (fun e => e ▸ pj_mk191) (pj_q192 M)
set_option maxRecDepth 100000 in
theorem pj_q190 : ∀ M ∈ pj_prog.drop 190, pj_okR pj_prog M = true := fun M h => (List.mem_cons.mp (show M ∈ pj_m190 :: pj_prog.drop 191 from h)).elim (fun e => e ▸ pj_mk190) (pj_q191 M)
set_option maxRecDepth 100000 in
theorem pj_q189 : ∀ M ∈ pj_prog.drop 189, pj_okR pj_prog M = true := fun M h => (List.mem_cons.mp (show M ∈ pj_m189 :: pj_prog.drop 190 from h)).elim (fun e => e ▸ pj_mk189) (pj_q190 M)
set_option maxRecDepth 100000 in
theorem pj_q188 : ∀ M ∈ pj_prog.drop 188, pj_okR pj_prog M = true := fun M h => (List.mem_cons.mp (show M ∈ pj_m188 :: pj_prog.drop 189 from h)).elim (fun e => e ▸ pj_mk188) (pj_q189 M)
set_option maxRecDepth 100000 in
theorem pj_q187 : ∀ M ∈ pj_prog.drop 187, pj_okR pj_prog M = true := fun M h => (List.mem_cons.mp (show M ∈ pj_m187 :: pj_prog.drop 188 from h)).elim (fun e => e ▸ pj_mk187) (pj_q188 M)
set_option maxRecDepth 100000 in
theorem pj_q186 : ∀ M ∈ pj_prog.drop 186, pj_okR pj_prog M = true := fun M h => (List.mem_cons.mp (show M ∈ pj_m186 :: pj_prog.drop 187 from h)).elim (fun e => e ▸ pj_mk186) (pj_q187 M)
set_option maxRecDepth 100000 in
theorem pj_q185 : ∀ M ∈ pj_prog.drop 185, pj_okR pj_prog M = true := fun M h => (List.mem_cons.mp (show M ∈ pj_m185 :: pj_prog.drop 186 from h)).elim (fun e => e ▸ pj_mk185) (pj_q186 M)
set_option maxRecDepth 100000 in
theorem pj_q184 : ∀ M ∈ pj_prog.drop 184, pj_okR pj_prog M = true := fun M h => (List.mem_cons.mp (show M ∈ pj_m184 :: pj_prog.drop 185 from h)).elim (fun e => e ▸ pj_mk184) (pj_q185 M)
set_option maxRecDepth 100000 in
theorem pj_q183 : ∀ M ∈ pj_prog.drop 183, pj_okR pj_prog M = true := fun M h => (List.mem_cons.mp (show M ∈ pj_m183 :: pj_prog.drop 184 from h)).elim (fun e => e ▸ pj_mk183) (pj_q184 M)
set_option maxRecDepth 100000 in
theorem pj_q182 : ∀ M ∈ pj_prog.drop 182, pj_okR pj_prog M = true := fun M h => (List.mem_cons.mp (show M ∈ pj_m182 :: pj_prog.drop 183 from h)).elim (fun e => e ▸ pj_mk182) (pj_q183 M)
set_option maxRecDepth 100000 in
theorem pj_q181 : ∀ M ∈ pj_prog.drop 181, pj_okR pj_prog M = true := fun M h => (List.mem_cons.mp (show M ∈ pj_m181 :: pj_prog.drop 182 from h)).elim (fun e => e ▸ pj_mk181) (pj_q182 M)
set_option maxRecDepth 100000 in
theorem pj_q180 : ∀ M ∈ pj_prog.drop 180, pj_okR pj_prog M = true := fun M h => (List.mem_cons.mp (show M ∈ pj_m180 :: pj_prog.drop 181 from h)).elim (fun e => e ▸ pj_mk180) (pj_q181 M)
set_option maxRecDepth 100000 in
theorem pj_q179 : ∀ M ∈ pj_prog.drop 179, pj_okR pj_prog M = true := fun M h => (List.mem_cons.mp (show M ∈ pj_m179 :: pj_prog.drop 180 from h)).elim (fun e => e ▸ pj_mk179) (pj_q180 M)
set_option maxRecDepth 100000 in
theorem pj_q178 : ∀ M ∈ pj_prog.drop 178, pj_okR pj_prog M = true := fun M h => (List.mem_cons.mp (show M ∈ pj_m178 :: pj_prog.drop 179 from h)).elim (fun e => e ▸ pj_mk178) (pj_q179 M)
set_option maxRecDepth 100000 in
theorem pj_q177 : ∀ M ∈ pj_prog.drop 177, pj_okR pj_prog M = true := fun M h => (List.mem_cons.mp (show M ∈ pj_m177 :: pj_prog.drop 178 from h)).elim (fun e => e ▸ pj_mk177) (pj_q178 M)
set_option maxRecDepth 100000 in
theorem pj_q176 : ∀ M ∈ pj_prog.drop 176, pj_okR pj_prog M = true := fun M h => (List.mem_cons.mp (show M ∈ pj_m176 :: pj_prog.drop 177 from h)).elim (fun e => e ▸ pj_mk176) (pj_q177 M)
set_option maxRecDepth 100000 in
theorem pj_q175 : ∀ M ∈ pj_prog.drop 175, pj_okR pj_prog M = true := fun M h => (List.mem_cons.mp (show M ∈ pj_m175 :: pj_prog.drop 176 from h)).elim (fun e => e ▸ pj_mk175) (pj_q176 M)
set_option maxRecDepth 100000 in
theorem pj_q174 : ∀ M ∈ pj_prog.drop 174, pj_okR pj_prog M = true := fun M h => (List.mem_cons.mp (show M ∈ pj_m174 :: pj_prog.drop 175 from h)).elim (fun e => e ▸ pj_mk174) (pj_q175 M)
set_option maxRecDepth 100000 in
theorem pj_q173 : ∀ M ∈ pj_prog.drop 173, pj_okR pj_prog M = true := fun M h => (List.mem_cons.mp (show M ∈ pj_m173 :: pj_prog.drop 174 from h)).elim (fun e => e ▸ pj_mk173) (pj_q174 M)
set_option maxRecDepth 100000 in
theorem pj_q172 : ∀ M ∈ pj_prog.drop 172, pj_okR pj_prog M = true := fun M h => (List.mem_cons.mp (show M ∈ pj_m172 :: pj_prog.drop 173 from h)).elim (fun e => e ▸ pj_mk172) (pj_q173 M)
set_option maxRecDepth 100000 in
theorem pj_q171 : ∀ M ∈ pj_prog.drop 171, pj_okR pj_prog M = true := fun M h => (List.mem_cons.mp (show M ∈ pj_m171 :: pj_prog.drop 172 from h)).elim (fun e => e ▸ pj_mk171) (pj_q172 M)
set_option maxRecDepth 100000 in
theorem pj_q170 : ∀ M ∈ pj_prog.drop 170, pj_okR pj_prog M = true := fun M h => (List.mem_cons.mp (show M ∈ pj_m170 :: pj_prog.drop 171 from h)).elim (fun e => e ▸ pj_mk170) (pj_q171 M)
set_option maxRecDepth 100000 in
theorem pj_q169 : ∀ M ∈ pj_prog.drop 169, pj_okR pj_prog M = true := fun M h => (List.mem_cons.mp (show M ∈ pj_m169 :: pj_prog.drop 170 from h)).elim (fun e => e ▸ pj_mk169) (pj_q170 M)
set_option maxRecDepth 100000 in
theorem pj_q168 : ∀ M ∈ pj_prog.drop 168, pj_okR pj_prog M = true := fun M h => (List.mem_cons.mp (show M ∈ pj_m168 :: pj_prog.drop 169 from h)).elim (fun e => e ▸ pj_mk168) (pj_q169 M)
set_option maxRecDepth 100000 in
theorem pj_q167 : ∀ M ∈ pj_prog.drop 167, pj_okR pj_prog M = true := fun M h => (List.mem_cons.mp (show M ∈ pj_m167 :: pj_prog.drop 168 from h)).elim (fun e => e ▸ pj_mk167) (pj_q168 M)
set_option maxRecDepth 100000 in
theorem pj_q166 : ∀ M ∈ pj_prog.drop 166, pj_okR pj_prog M = true := fun M h => (List.mem_cons.mp (show M ∈ pj_m166 :: pj_prog.drop 167 from h)).elim (fun e => e ▸ pj_mk166) (pj_q167 M)
set_option maxRecDepth 100000 in
theorem pj_q165 : ∀ M ∈ pj_prog.drop 165, pj_okR pj_prog M = true := fun M h => (List.mem_cons.mp (show M ∈ pj_m165 :: pj_prog.drop 166 from h)).elim (fun e => e ▸ pj_mk165) (pj_q166 M)
set_option maxRecDepth 100000 in
theorem pj_q164 : ∀ M ∈ pj_prog.drop 164, pj_okR pj_prog M = true := fun M h => (List.mem_cons.mp (show M ∈ pj_m164 :: pj_prog.drop 165 from h)).elim (fun e => e ▸ pj_mk164) (pj_q165 M)
set_option maxRecDepth 100000 in
theorem pj_q163 : ∀ M ∈ pj_prog.drop 163, pj_okR pj_prog M = true := fun M h => (List.mem_cons.mp (show M ∈ pj_m163 :: pj_prog.drop 164 from h)).elim (fun e => e ▸ pj_mk163) (pj_q164 M)
set_option maxRecDepth 100000 in
theorem pj_q162 : ∀ M ∈ pj_prog.drop 162, pj_okR pj_prog M = true := fun M h => (List.mem_cons.mp (show M ∈ pj_m162 :: pj_prog.drop 163 from h)).elim (fun e => e ▸ pj_mk162) (pj_q163 M)
set_option maxRecDepth 100000 in
theorem pj_q161 : ∀ M ∈ pj_prog.drop 161, pj_okR pj_prog M = true := fun M h => (List.mem_cons.mp (show M ∈ pj_m161 :: pj_prog.drop 162 from h)).elim (fun e => e ▸ pj_mk161) (pj_q162 M)
set_option maxRecDepth 100000 in
theorem pj_q160 : ∀ M ∈ pj_prog.drop 160, pj_okR pj_prog M = true := fun M h => (List.mem_cons.mp (show M ∈ pj_m160 :: pj_prog.drop 161 from h)).elim (fun e => e ▸ pj_mk160) (pj_q161 M)
set_option maxRecDepth 100000 in
theorem pj_q159 : ∀ M ∈ pj_prog.drop 159, pj_okR pj_prog M = true := fun M h => (List.mem_cons.mp (show M ∈ pj_m159 :: pj_prog.drop 160 from h)).elim (fun e => e ▸ pj_mk159) (pj_q160 M)
set_option maxRecDepth 100000 in
theorem pj_q158 : ∀ M ∈ pj_prog.drop 158, pj_okR pj_prog M = true := fun M h => (List.mem_cons.mp (show M ∈ pj_m158 :: pj_prog.drop 159 from h)).elim (fun e => e ▸ pj_mk158) (pj_q159 M)
set_option maxRecDepth 100000 in
theorem pj_q157 : ∀ M ∈ pj_prog.drop 157, pj_okR pj_prog M = true := fun M h => (List.mem_cons.mp (show M ∈ pj_m157 :: pj_prog.drop 158 from h)).elim (fun e => e ▸ pj_mk157) (pj_q158 M)
set_option maxRecDepth 100000 in
theorem pj_q156 : ∀ M ∈ pj_prog.drop 156, pj_okR pj_prog M = true := fun M h => (List.mem_cons.mp (show M ∈ pj_m156 :: pj_prog.drop 157 from h)).elim (fun e => e ▸ pj_mk156) (pj_q157 M)
set_option maxRecDepth 100000 in
theorem pj_q155 : ∀ M ∈ pj_prog.drop 155, pj_okR pj_prog M = true := fun M h => (List.mem_cons.mp (show M ∈ pj_m155 :: pj_prog.drop 156 from h)).elim (fun e => e ▸ pj_mk155) (pj_q156 M)
set_option maxRecDepth 100000 in
theorem pj_q154 : ∀ M ∈ pj_prog.drop 154, pj_okR pj_prog M = true := fun M h => (List.mem_cons.mp (show M ∈ pj_m154 :: pj_prog.drop 155 from h)).elim (fun e => e ▸ pj_mk154) (pj_q155 M)
set_option maxRecDepth 100000 in
theorem pj_q153 : ∀ M ∈ pj_prog.drop 153, pj_okR pj_prog M = true := fun M h => (List.mem_cons.mp (show M ∈ pj_m153 :: pj_prog.drop 154 from h)).elim (fun e => e ▸ pj_mk153) (pj_q154 M)
set_option maxRecDepth 100000 in
theorem pj_q152 : ∀ M ∈ pj_prog.drop 152, pj_okR pj_prog M = true := fun M h => (List.mem_cons.mp (show M ∈ pj_m152 :: pj_prog.drop 153 from h)).elim (fun e => e ▸ pj_mk152) (pj_q153 M)
set_option maxRecDepth 100000 in
theorem pj_q151 : ∀ M ∈ pj_prog.drop 151, pj_okR pj_prog M = true := fun M h => (List.mem_cons.mp (show M ∈ pj_m151 :: pj_prog.drop 152 from h)).elim (fun e => e ▸ pj_mk151) (pj_q152 M)
set_option maxRecDepth 100000 in
theorem pj_q150 : ∀ M ∈ pj_prog.drop 150, pj_okR pj_prog M = true := fun M h => (List.mem_cons.mp (show M ∈ pj_m150 :: pj_prog.drop 151 from h)).elim (fun e => e ▸ pj_mk150) (pj_q151 M)
set_option maxRecDepth 100000 in
theorem pj_q149 : ∀ M ∈ pj_prog.drop 149, pj_okR pj_prog M = true := fun M h => (List.mem_cons.mp (show M ∈ pj_m149 :: pj_prog.drop 150 from h)).elim (fun e => e ▸ pj_mk149) (pj_q150 M)
set_option maxRecDepth 100000 in
theorem pj_q148 : ∀ M ∈ pj_prog.drop 148, pj_okR pj_prog M = true := fun M h => (List.mem_cons.mp (show M ∈ pj_m148 :: pj_prog.drop 149 from h)).elim (fun e => e ▸ pj_mk148) (pj_q149 M)
set_option maxRecDepth 100000 in
theorem pj_q147 : ∀ M ∈ pj_prog.drop 147, pj_okR pj_prog M = true := fun M h => (List.mem_cons.mp (show M ∈ pj_m147 :: pj_prog.drop 148 from h)).elim (fun e => e ▸ pj_mk147) (pj_q148 M)
set_option maxRecDepth 100000 in
theorem pj_q146 : ∀ M ∈ pj_prog.drop 146, pj_okR pj_prog M = true := fun M h => (List.mem_cons.mp (show M ∈ pj_m146 :: pj_prog.drop 147 from h)).elim (fun e => e ▸ pj_mk146) (pj_q147 M)
set_option maxRecDepth 100000 in
theorem pj_q145 : ∀ M ∈ pj_prog.drop 145, pj_okR pj_prog M = true := fun M h => (List.mem_cons.mp (show M ∈ pj_m145 :: pj_prog.drop 146 from h)).elim (fun e => e ▸ pj_mk145) (pj_q146 M)
set_option maxRecDepth 100000 in
theorem pj_q144 : ∀ M ∈ pj_prog.drop 144, pj_okR pj_prog M = true := fun M h => (List.mem_cons.mp (show M ∈ pj_m144 :: pj_prog.drop 145 from h)).elim (fun e => e ▸ pj_mk144) (pj_q145 M)
set_option maxRecDepth 100000 in
theorem pj_q143 : ∀ M ∈ pj_prog.drop 143, pj_okR pj_prog M = true := fun M h => (List.mem_cons.mp (show M ∈ pj_m143 :: pj_prog.drop 144 from h)).elim (fun e => e ▸ pj_mk143) (pj_q144 M)
set_option maxRecDepth 100000 in
theorem pj_q142 : ∀ M ∈ pj_prog.drop 142, pj_okR pj_prog M = true := fun M h => (List.mem_cons.mp (show M ∈ pj_m142 :: pj_prog.drop 143 from h)).elim (fun e => e ▸ pj_mk142) (pj_q143 M)
set_option maxRecDepth 100000 in
theorem pj_q141 : ∀ M ∈ pj_prog.drop 141, pj_okR pj_prog M = true := fun M h => (List.mem_cons.mp (show M ∈ pj_m141 :: pj_prog.drop 142 from h)).elim (fun e => e ▸ pj_mk141) (pj_q142 M)
set_option maxRecDepth 100000 in
theorem pj_q140 : ∀ M ∈ pj_prog.drop 140, pj_okR pj_prog M = true := fun M h => (List.mem_cons.mp (show M ∈ pj_m140 :: pj_prog.drop 141 from h)).elim (fun e => e ▸ pj_mk140) (pj_q141 M)
set_option maxRecDepth 100000 in
theorem pj_q139 : ∀ M ∈ pj_prog.drop 139, pj_okR pj_prog M = true := fun M h => (List.mem_cons.mp (show M ∈ pj_m139 :: pj_prog.drop 140 from h)).elim (fun e => e ▸ pj_mk139) (pj_q140 M)
set_option maxRecDepth 100000 in
theorem pj_q138 : ∀ M ∈ pj_prog.drop 138, pj_okR pj_prog M = true := fun M h => (List.mem_cons.mp (show M ∈ pj_m138 :: pj_prog.drop 139 from h)).elim (fun e => e ▸ pj_mk138) (pj_q139 M)
set_option maxRecDepth 100000 in
theorem pj_q137 : ∀ M ∈ pj_prog.drop 137, pj_okR pj_prog M = true := fun M h => (List.mem_cons.mp (show M ∈ pj_m137 :: pj_prog.drop 138 from h)).elim (fun e => e ▸ pj_mk137) (pj_q138 M)
set_option maxRecDepth 100000 in
theorem pj_q136 : ∀ M ∈ pj_prog.drop 136, pj_okR pj_prog M = true := fun M h => (List.mem_cons.mp (show M ∈ pj_m136 :: pj_prog.drop 137 from h)).elim (fun e => e ▸ pj_mk136) (pj_q137 M)
set_option maxRecDepth 100000 in
theorem pj_q135 : ∀ M ∈ pj_prog.drop 135, pj_okR pj_prog M = true := fun M h => (List.mem_cons.mp (show M ∈ pj_m135 :: pj_prog.drop 136 from h)).elim (fun e => e ▸ pj_mk135) (pj_q136 M)
set_option maxRecDepth 100000 in
theorem pj_q134 : ∀ M ∈ pj_prog.drop 134, pj_okR pj_prog M = true := fun M h => (List.mem_cons.mp (show M ∈ pj_m134 :: pj_prog.drop 135 from h)).elim (fun e => e ▸ pj_mk134) (pj_q135 M)
set_option maxRecDepth 100000 in
theorem pj_q133 : ∀ M ∈ pj_prog.drop 133, pj_okR pj_prog M = true := fun M h => (List.mem_cons.mp (show M ∈ pj_m133 :: pj_prog.drop 134 from h)).elim (fun e => e ▸ pj_mk133) (pj_q134 M)
set_option maxRecDepth 100000 in
theorem pj_q132 : ∀ M ∈ pj_prog.drop 132, pj_okR pj_prog M = true := fun M h => (List.mem_cons.mp (show M ∈ pj_m132 :: pj_prog.drop 133 from h)).elim (fun e => e ▸ pj_mk132) (pj_q133 M)
set_option maxRecDepth 100000 in
theorem pj_q131 : ∀ M ∈ pj_prog.drop 131, pj_okR pj_prog M = true := fun M h => (List.mem_cons.mp (show M ∈ pj_m131 :: pj_prog.drop 132 from h)).elim (fun e => e ▸ pj_mk131) (pj_q132 M)
set_option maxRecDepth 100000 in
theorem pj_q130 : ∀ M ∈ pj_prog.drop 130, pj_okR pj_prog M = true := fun M h => (List.mem_cons.mp (show M ∈ pj_m130 :: pj_prog.drop 131 from h)).elim (fun e => e ▸ pj_mk130) (pj_q131 M)
set_option maxRecDepth 100000 in
theorem pj_q129 : ∀ M ∈ pj_prog.drop 129, pj_okR pj_prog M = true := fun M h => (List.mem_cons.mp (show M ∈ pj_m129 :: pj_prog.drop 130 from h)).elim (fun e => e ▸ pj_mk129) (pj_q130 M)
set_option maxRecDepth 100000 in
theorem pj_q128 : ∀ M ∈ pj_prog.drop 128, pj_okR pj_prog M = true := fun M h => (List.mem_cons.mp (show M ∈ pj_m128 :: pj_prog.drop 129 from h)).elim (fun e => e ▸ pj_mk128) (pj_q129 M)
set_option maxRecDepth 100000 in
theorem pj_q127 : ∀ M ∈ pj_prog.drop 127, pj_okR pj_prog M = true := fun M h => (List.mem_cons.mp (show M ∈ pj_m127 :: pj_prog.drop 128 from h)).elim (fun e => e ▸ pj_mk127) (pj_q128 M)
set_option maxRecDepth 100000 in
theorem pj_q126 : ∀ M ∈ pj_prog.drop 126, pj_okR pj_prog M = true := fun M h => (List.mem_cons.mp (show M ∈ pj_m126 :: pj_prog.drop 127 from h)).elim (fun e => e ▸ pj_mk126) (pj_q127 M)
set_option maxRecDepth 100000 in
theorem pj_q125 : ∀ M ∈ pj_prog.drop 125, pj_okR pj_prog M = true := fun M h => (List.mem_cons.mp (show M ∈ pj_m125 :: pj_prog.drop 126 from h)).elim (fun e => e ▸ pj_mk125) (pj_q126 M)
set_option maxRecDepth 100000 in
theorem pj_q124 : ∀ M ∈ pj_prog.drop 124, pj_okR pj_prog M = true := fun M h => (List.mem_cons.mp (show M ∈ pj_m124 :: pj_prog.drop 125 from h)).elim (fun e => e ▸ pj_mk124) (pj_q125 M)
set_option maxRecDepth 100000 in
theorem pj_q123 : ∀ M ∈ pj_prog.drop 123, pj_okR pj_prog M = true := fun M h => (List.mem_cons.mp (show M ∈ pj_m123 :: pj_prog.drop 124 from h)).elim (fun e => e ▸ pj_mk123) (pj_q124 M)
set_option maxRecDepth 100000 in
theorem pj_q122 : ∀ M ∈ pj_prog.drop 122, pj_okR pj_prog M = true := fun M h => (List.mem_cons.mp (show M ∈ pj_m122 :: pj_prog.drop 123 from h)).elim (fun e => e ▸ pj_mk122) (pj_q123 M)
set_option maxRecDepth 100000 in
theorem pj_q121 : ∀ M ∈ pj_prog.drop 121, pj_okR pj_prog M = true := fun M h => (List.mem_cons.mp (show M ∈ pj_m121 :: pj_prog.drop 122 from h)).elim (fun e => e ▸ pj_mk121) (pj_q122 M)
set_option maxRecDepth 100000 in
theorem pj_q120 : ∀ M ∈ pj_prog.drop 120, pj_okR pj_prog M = true := fun M h => (List.mem_cons.mp (show M ∈ pj_m120 :: pj_prog.drop 121 from h)).elim (fun e => e ▸ pj_mk120) (pj_q121 M)
set_option maxRecDepth 100000 in
theorem pj_q119 : ∀ M ∈ pj_prog.drop 119, pj_okR pj_prog M = true := fun M h => (List.mem_cons.mp (show M ∈ pj_m119 :: pj_prog.drop 120 from h)).elim (fun e => e ▸ pj_mk119) (pj_q120 M)
set_option maxRecDepth 100000 in
theorem pj_q118 : ∀ M ∈ pj_prog.drop 118, pj_okR pj_prog M = true := fun M h => (List.mem_cons.mp (show M ∈ pj_m118 :: pj_prog.drop 119 from h)).elim (fun e => e ▸ pj_mk118) (pj_q119 M)
set_option maxRecDepth 100000 in
theorem pj_q117 : ∀ M ∈ pj_prog.drop 117, pj_okR pj_prog M = true := fun M h => (List.mem_cons.mp (show M ∈ pj_m117 :: pj_prog.drop 118 from h)).elim (fun e => e ▸ pj_mk117) (pj_q118 M)
set_option maxRecDepth 100000 in
theorem pj_q116 : ∀ M ∈ pj_prog.drop 116, pj_okR pj_prog M = true := fun M h => (List.mem_cons.mp (show M ∈ pj_m116 :: pj_prog.drop 117 from h)).elim (fun e => e ▸ pj_mk116) (pj_q117 M)
set_option maxRecDepth 100000 in
theorem pj_q115 : ∀ M ∈ pj_prog.drop 115, pj_okR pj_prog M = true := fun M h => (List.mem_cons.mp (show M ∈ pj_m115 :: pj_prog.drop 116 from h)).elim (fun e => e ▸ pj_mk115) (pj_q116 M)
set_option maxRecDepth 100000 in
theorem pj_q114 : ∀ M ∈ pj_prog.drop 114, pj_okR pj_prog M = true := fun M h => (List.mem_cons.mp (show M ∈ pj_m114 :: pj_prog.drop 115 from h)).elim (fun e => e ▸ pj_mk114) (pj_q115 M)
set_option maxRecDepth 100000 in
theorem pj_q113 : ∀ M ∈ pj_prog.drop 113, pj_okR pj_prog M = true := fun M h => (List.mem_cons.mp (show M ∈ pj_m113 :: pj_prog.drop 114 from h)).elim (fun e => e ▸ pj_mk113) (pj_q114 M)
set_option maxRecDepth 100000 in
theorem pj_q112 : ∀ M ∈ pj_prog.drop 112, pj_okR pj_prog M = true := fun M h => (List.mem_cons.mp (show M ∈ pj_m112 :: pj_prog.drop 113 from h)).elim (fun e => e ▸ pj_mk112) (pj_q113 M)
set_option maxRecDepth 100000 in
theorem pj_q111 : ∀ M ∈ pj_prog.drop 111, pj_okR pj_prog M = true := fun M h => (List.mem_cons.mp (show M ∈ pj_m111 :: pj_prog.drop 112 from h)).elim (fun e => e ▸ pj_mk111) (pj_q112 M)
set_option maxRecDepth 100000 in
theorem pj_q110 : ∀ M ∈ pj_prog.drop 110, pj_okR pj_prog M = true := fun M h => (List.mem_cons.mp (show M ∈ pj_m110 :: pj_prog.drop 111 from h)).elim (fun e => e ▸ pj_mk110) (pj_q111 M)
set_option maxRecDepth 100000 in
theorem pj_q109 : ∀ M ∈ pj_prog.drop 109, pj_okR pj_prog M = true := fun M h => (List.mem_cons.mp (show M ∈ pj_m109 :: pj_prog.drop 110 from h)).elim (fun e => e ▸ pj_mk109) (pj_q110 M)
set_option maxRecDepth 100000 in
theorem pj_q108 : ∀ M ∈ pj_prog.drop 108, pj_okR pj_prog M = true := fun M h => (List.mem_cons.mp (show M ∈ pj_m108 :: pj_prog.drop 109 from h)).elim (fun e => e ▸ pj_mk108) (pj_q109 M)
set_option maxRecDepth 100000 in
theorem pj_q107 : ∀ M ∈ pj_prog.drop 107, pj_okR pj_prog M = true := fun M h => (List.mem_cons.mp (show M ∈ pj_m107 :: pj_prog.drop 108 from h)).elim (fun e => e ▸ pj_mk107) (pj_q108 M)
set_option maxRecDepth 100000 in
theorem pj_q106 : ∀ M ∈ pj_prog.drop 106, pj_okR pj_prog M = true := fun M h => (List.mem_cons.mp (show M ∈ pj_m106 :: pj_prog.drop 107 from h)).elim (fun e => e ▸ pj_mk106) (pj_q107 M)
set_option maxRecDepth 100000 in
theorem pj_q105 : ∀ M ∈ pj_prog.drop 105, pj_okR pj_prog M = true := fun M h => (List.mem_cons.mp (show M ∈ pj_m105 :: pj_prog.drop 106 from h)).elim (fun e => e ▸ pj_mk105) (pj_q106 M)
set_option maxRecDepth 100000 in
theorem pj_q104 : ∀ M ∈ pj_prog.drop 104, pj_okR pj_prog M = true := fun M h => (List.mem_cons.mp (show M ∈ pj_m104 :: pj_prog.drop 105 from h)).elim (fun e => e ▸ pj_mk104) (pj_q105 M)
set_option maxRecDepth 100000 in
theorem pj_q103 : ∀ M ∈ pj_prog.drop 103, pj_okR pj_prog M = true := fun M h => (List.mem_cons.mp (show M ∈ pj_m103 :: pj_prog.drop 104 from h)).elim (fun e => e ▸ pj_mk103) (pj_q104 M)
set_option maxRecDepth 100000 in
theorem pj_q102 : ∀ M ∈ pj_prog.drop 102, pj_okR pj_prog M = true := fun M h => (List.mem_cons.mp (show M ∈ pj_m102 :: pj_prog.drop 103 from h)).elim (fun e => e ▸ pj_mk102) (pj_q103 M)
set_option maxRecDepth 100000 in
theorem pj_q101 : ∀ M ∈ pj_prog.drop 101, pj_okR pj_prog M = true := fun M h => (List.mem_cons.mp (show M ∈ pj_m101 :: pj_prog.drop 102 from h)).elim (fun e => e ▸ pj_mk101) (pj_q102 M)
set_option maxRecDepth 100000 in
theorem pj_q100 : ∀ M ∈ pj_prog.drop 100, pj_okR pj_prog M = true := fun M h => (List.mem_cons.mp (show M ∈ pj_m100 :: pj_prog.drop 101 from h)).elim (fun e => e ▸ pj_mk100) (pj_q101 M)
set_option maxRecDepth 100000 in
theorem pj_q99 : ∀ M ∈ pj_prog.drop 99, pj_okR pj_prog M = true := fun M h => (List.mem_cons.mp (show M ∈ pj_m99 :: pj_prog.drop 100 from h)).elim (fun e => e ▸ pj_mk99) (pj_q100 M)
set_option maxRecDepth 100000 in
theorem pj_q98 : ∀ M ∈ pj_prog.drop 98, pj_okR pj_prog M = true := fun M h => (List.mem_cons.mp (show M ∈ pj_m98 :: pj_prog.drop 99 from h)).elim (fun e => e ▸ pj_mk98) (pj_q99 M)
set_option maxRecDepth 100000 in
theorem pj_q97 : ∀ M ∈ pj_prog.drop 97, pj_okR pj_prog M = true := fun M h => (List.mem_cons.mp (show M ∈ pj_m97 :: pj_prog.drop 98 from h)).elim (fun e => e ▸ pj_mk97) (pj_q98 M)
set_option maxRecDepth 100000 in
theorem pj_q96 : ∀ M ∈ pj_prog.drop 96, pj_okR pj_prog M = true := fun M h => (List.mem_cons.mp (show M ∈ pj_m96 :: pj_prog.drop 97 from h)).elim (fun e => e ▸ pj_mk96) (pj_q97 M)
set_option maxRecDepth 100000 in
theorem pj_q95 : ∀ M ∈ pj_prog.drop 95, pj_okR pj_prog M = true := fun M h => (List.mem_cons.mp (show M ∈ pj_m95 :: pj_prog.drop 96 from h)).elim (fun e => e ▸ pj_mk95) (pj_q96 M)
set_option maxRecDepth 100000 in
theorem pj_q94 : ∀ M ∈ pj_prog.drop 94, pj_okR pj_prog M = true := fun M h => (List.mem_cons.mp (show M ∈ pj_m94 :: pj_prog.drop 95 from h)).elim (fun e => e ▸ pj_mk94) (pj_q95 M)
set_option maxRecDepth 100000 in
theorem pj_q93 : ∀ M ∈ pj_prog.drop 93, pj_okR pj_prog M = true := fun M h => (List.mem_cons.mp (show M ∈ pj_m93 :: pj_prog.drop 94 from h)).elim (fun e => e ▸ pj_mk93) (pj_q94 M)
set_option maxRecDepth 100000 in
theorem pj_q92 : ∀ M ∈ pj_prog.drop 92, pj_okR pj_prog M = true := fun M h => (List.mem_cons.mp (show M ∈ pj_m92 :: pj_prog.drop 93 from h)).elim (fun e => e ▸ pj_mk92) (pj_q93 M)
set_option maxRecDepth 100000 in
theorem pj_q91 : ∀ M ∈ pj_prog.drop 91, pj_okR pj_prog M = true := fun M h => (List.mem_cons.mp (show M ∈ pj_m91 :: pj_prog.drop 92 from h)).elim (fun e => e ▸ pj_mk91) (pj_q92 M)
set_option maxRecDepth 100000 in
theorem pj_q90 : ∀ M ∈ pj_prog.drop 90, pj_okR pj_prog M = true := fun M h => (List.mem_cons.mp (show M ∈ pj_m90 :: pj_prog.drop 91 from h)).elim (fun e => e ▸ pj_mk90) (pj_q91 M)
set_option maxRecDepth 100000 in
theorem pj_q89 : ∀ M ∈ pj_prog.drop 89, pj_okR pj_prog M = true := fun M h => (List.mem_cons.mp (show M ∈ pj_m89 :: pj_prog.drop 90 from h)).elim (fun e => e ▸ pj_mk89) (pj_q90 M)
set_option maxRecDepth 100000 in
theorem pj_q88 : ∀ M ∈ pj_prog.drop 88, pj_okR pj_prog M = true := fun M h => (List.mem_cons.mp (show M ∈ pj_m88 :: pj_prog.drop 89 from h)).elim (fun e => e ▸ pj_mk88) (pj_q89 M)
set_option maxRecDepth 100000 in
theorem pj_q87 : ∀ M ∈ pj_prog.drop 87, pj_okR pj_prog M = true := fun M h => (List.mem_cons.mp (show M ∈ pj_m87 :: pj_prog.drop 88 from h)).elim (fun e => e ▸ pj_mk87) (pj_q88 M)
set_option maxRecDepth 100000 in
theorem pj_q86 : ∀ M ∈ pj_prog.drop 86, pj_okR pj_prog M = true := fun M h => (List.mem_cons.mp (show M ∈ pj_m86 :: pj_prog.drop 87 from h)).elim (fun e => e ▸ pj_mk86) (pj_q87 M)
set_option maxRecDepth 100000 in
theorem pj_q85 : ∀ M ∈ pj_prog.drop 85, pj_okR pj_prog M = true := fun M h => (List.mem_cons.mp (show M ∈ pj_m85 :: pj_prog.drop 86 from h)).elim (fun e => e ▸ pj_mk85) (pj_q86 M)
set_option maxRecDepth 100000 in
theorem pj_q84 : ∀ M ∈ pj_prog.drop 84, pj_okR pj_prog M = true := fun M h => (List.mem_cons.mp (show M ∈ pj_m84 :: pj_prog.drop 85 from h)).elim (fun e => e ▸ pj_mk84) (pj_q85 M)
set_option maxRecDepth 100000 in
theorem pj_q83 : ∀ M ∈ pj_prog.drop 83, pj_okR pj_prog M = true := fun M h => (List.mem_cons.mp (show M ∈ pj_m83 :: pj_prog.drop 84 from h)).elim (fun e => e ▸ pj_mk83) (pj_q84 M)
set_option maxRecDepth 100000 in
theorem pj_q82 : ∀ M ∈ pj_prog.drop 82, pj_okR pj_prog M = true := fun M h => (List.mem_cons.mp (show M ∈ pj_m82 :: pj_prog.drop 83 from h)).elim (fun e => e ▸ pj_mk82) (pj_q83 M)
set_option maxRecDepth 100000 in
theorem pj_q81 : ∀ M ∈ pj_prog.drop 81, pj_okR pj_prog M = true := fun M h => (List.mem_cons.mp (show M ∈ pj_m81 :: pj_prog.drop 82 from h)).elim (fun e => e ▸ pj_mk81) (pj_q82 M)
set_option maxRecDepth 100000 in
theorem pj_q80 : ∀ M ∈ pj_prog.drop 80, pj_okR pj_prog M = true := fun M h => (List.mem_cons.mp (show M ∈ pj_m80 :: pj_prog.drop 81 from h)).elim (fun e => e ▸ pj_mk80) (pj_q81 M)
set_option maxRecDepth 100000 in
theorem pj_q79 : ∀ M ∈ pj_prog.drop 79, pj_okR pj_prog M = true := fun M h => (List.mem_cons.mp (show M ∈ pj_m79 :: pj_prog.drop 80 from h)).elim (fun e => e ▸ pj_mk79) (pj_q80 M)
set_option maxRecDepth 100000 in
theorem pj_q78 : ∀ M ∈ pj_prog.drop 78, pj_okR pj_prog M = true := fun M h => (List.mem_cons.mp (show M ∈ pj_m78 :: pj_prog.drop 79 from h)).elim (fun e => e ▸ pj_mk78) (pj_q79 M)
set_option maxRecDepth 100000 in
theorem pj_q77 : ∀ M ∈ pj_prog.drop 77, pj_okR pj_prog M = true := fun M h => (List.mem_cons.mp (show M ∈ pj_m77 :: pj_prog.drop 78 from h)).elim (fun e => e ▸ pj_mk77) (pj_q78 M)
set_option maxRecDepth 100000 in
theorem pj_q76 : ∀ M ∈ pj_prog.drop 76, pj_okR pj_prog M = true := fun M h => (List.mem_cons.mp (show M ∈ pj_m76 :: pj_prog.drop 77 from h)).elim (fun e => e ▸ pj_mk76) (pj_q77 M)
set_option maxRecDepth 100000 in
theorem pj_q75 : ∀ M ∈ pj_prog.drop 75, pj_okR pj_prog M = true := fun M h => (List.mem_cons.mp (show M ∈ pj_m75 :: pj_prog.drop 76 from h)).elim (fun e => e ▸ pj_mk75) (pj_q76 M)
set_option maxRecDepth 100000 in
theorem pj_q74 : ∀ M ∈ pj_prog.drop 74, pj_okR pj_prog M = true := fun M h => (List.mem_cons.mp (show M ∈ pj_m74 :: pj_prog.drop 75 from h)).elim (fun e => e ▸ pj_mk74) (pj_q75 M)
set_option maxRecDepth 100000 in
theorem pj_q73 : ∀ M ∈ pj_prog.drop 73, pj_okR pj_prog M = true := fun M h => (List.mem_cons.mp (show M ∈ pj_m73 :: pj_prog.drop 74 from h)).elim (fun e => e ▸ pj_mk73) (pj_q74 M)
set_option maxRecDepth 100000 in
theorem pj_q72 : ∀ M ∈ pj_prog.drop 72, pj_okR pj_prog M = true := fun M h => (List.mem_cons.mp (show M ∈ pj_m72 :: pj_prog.drop 73 from h)).elim (fun e => e ▸ pj_mk72) (pj_q73 M)
set_option maxRecDepth 100000 in
theorem pj_q71 : ∀ M ∈ pj_prog.drop 71, pj_okR pj_prog M = true := fun M h => (List.mem_cons.mp (show M ∈ pj_m71 :: pj_prog.drop 72 from h)).elim (fun e => e ▸ pj_mk71) (pj_q72 M)
set_option maxRecDepth 100000 in
theorem pj_q70 : ∀ M ∈ pj_prog.drop 70, pj_okR pj_prog M = true := fun M h => (List.mem_cons.mp (show M ∈ pj_m70 :: pj_prog.drop 71 from h)).elim (fun e => e ▸ pj_mk70) (pj_q71 M)
set_option maxRecDepth 100000 in
theorem pj_q69 : ∀ M ∈ pj_prog.drop 69, pj_okR pj_prog M = true := fun M h => (List.mem_cons.mp (show M ∈ pj_m69 :: pj_prog.drop 70 from h)).elim (fun e => e ▸ pj_mk69) (pj_q70 M)
set_option maxRecDepth 100000 in
theorem pj_q68 : ∀ M ∈ pj_prog.drop 68, pj_okR pj_prog M = true := fun M h => (List.mem_cons.mp (show M ∈ pj_m68 :: pj_prog.drop 69 from h)).elim (fun e => e ▸ pj_mk68) (pj_q69 M)
set_option maxRecDepth 100000 in
theorem pj_q67 : ∀ M ∈ pj_prog.drop 67, pj_okR pj_prog M = true := fun M h => (List.mem_cons.mp (show M ∈ pj_m67 :: pj_prog.drop 68 from h)).elim (fun e => e ▸ pj_mk67) (pj_q68 M)
set_option maxRecDepth 100000 in
theorem pj_q66 : ∀ M ∈ pj_prog.drop 66, pj_okR pj_prog M = true := fun M h => (List.mem_cons.mp (show M ∈ pj_m66 :: pj_prog.drop 67 from h)).elim (fun e => e ▸ pj_mk66) (pj_q67 M)
set_option maxRecDepth 100000 in
theorem pj_q65 : ∀ M ∈ pj_prog.drop 65, pj_okR pj_prog M = true := fun M h => (List.mem_cons.mp (show M ∈ pj_m65 :: pj_prog.drop 66 from h)).elim (fun e => e ▸ pj_mk65) (pj_q66 M)
set_option maxRecDepth 100000 in
theorem pj_q64 : ∀ M ∈ pj_prog.drop 64, pj_okR pj_prog M = true := fun M h => (List.mem_cons.mp (show M ∈ pj_m64 :: pj_prog.drop 65 from h)).elim (fun e => e ▸ pj_mk64) (pj_q65 M)
set_option maxRecDepth 100000 in
theorem pj_q63 : ∀ M ∈ pj_prog.drop 63, pj_okR pj_prog M = true := fun M h => (List.mem_cons.mp (show M ∈ pj_m63 :: pj_prog.drop 64 from h)).elim (fun e => e ▸ pj_mk63) (pj_q64 M)
set_option maxRecDepth 100000 in
theorem pj_q62 : ∀ M ∈ pj_prog.drop 62, pj_okR pj_prog M = true := fun M h => (List.mem_cons.mp (show M ∈ pj_m62 :: pj_prog.drop 63 from h)).elim (fun e => e ▸ pj_mk62) (pj_q63 M)
set_option maxRecDepth 100000 in
theorem pj_q61 : ∀ M ∈ pj_prog.drop 61, pj_okR pj_prog M = true := fun M h => (List.mem_cons.mp (show M ∈ pj_m61 :: pj_prog.drop 62 from h)).elim (fun e => e ▸ pj_mk61) (pj_q62 M)
set_option maxRecDepth 100000 in
theorem pj_q60 : ∀ M ∈ pj_prog.drop 60, pj_okR pj_prog M = true := fun M h => (List.mem_cons.mp (show M ∈ pj_m60 :: pj_prog.drop 61 from h)).elim (fun e => e ▸ pj_mk60) (pj_q61 M)
set_option maxRecDepth 100000 in
theorem pj_q59 : ∀ M ∈ pj_prog.drop 59, pj_okR pj_prog M = true := fun M h => (List.mem_cons.mp (show M ∈ pj_m59 :: pj_prog.drop 60 from h)).elim (fun e => e ▸ pj_mk59) (pj_q60 M)
set_option maxRecDepth 100000 in
theorem pj_q58 : ∀ M ∈ pj_prog.drop 58, pj_okR pj_prog M = true := fun M h => (List.mem_cons.mp (show M ∈ pj_m58 :: pj_prog.drop 59 from h)).elim (fun e => e ▸ pj_mk58) (pj_q59 M)
set_option maxRecDepth 100000 in
theorem pj_q57 : ∀ M ∈ pj_prog.drop 57, pj_okR pj_prog M = true := fun M h => (List.mem_cons.mp (show M ∈ pj_m57 :: pj_prog.drop 58 from h)).elim (fun e => e ▸ pj_mk57) (pj_q58 M)
set_option maxRecDepth 100000 in
theorem pj_q56 : ∀ M ∈ pj_prog.drop 56, pj_okR pj_prog M = true := fun M h => (List.mem_cons.mp (show M ∈ pj_m56 :: pj_prog.drop 57 from h)).elim (fun e => e ▸ pj_mk56) (pj_q57 M)
set_option maxRecDepth 100000 in
theorem pj_q55 : ∀ M ∈ pj_prog.drop 55, pj_okR pj_prog M = true := fun M h => (List.mem_cons.mp (show M ∈ pj_m55 :: pj_prog.drop 56 from h)).elim (fun e => e ▸ pj_mk55) (pj_q56 M)
set_option maxRecDepth 100000 in
theorem pj_q54 : ∀ M ∈ pj_prog.drop 54, pj_okR pj_prog M = true := fun M h => (List.mem_cons.mp (show M ∈ pj_m54 :: pj_prog.drop 55 from h)).elim (fun e => e ▸ pj_mk54) (pj_q55 M)
set_option maxRecDepth 100000 in
theorem pj_q53 : ∀ M ∈ pj_prog.drop 53, pj_okR pj_prog M = true := fun M h => (List.mem_cons.mp (show M ∈ pj_m53 :: pj_prog.drop 54 from h)).elim (fun e => e ▸ pj_mk53) (pj_q54 M)
set_option maxRecDepth 100000 in
theorem pj_q52 : ∀ M ∈ pj_prog.drop 52, pj_okR pj_prog M = true := fun M h => (List.mem_cons.mp (show M ∈ pj_m52 :: pj_prog.drop 53 from h)).elim (fun e => e ▸ pj_mk52) (pj_q53 M)
set_option maxRecDepth 100000 in
theorem pj_q51 : ∀ M ∈ pj_prog.drop 51, pj_okR pj_prog M = true := fun M h => (List.mem_cons.mp (show M ∈ pj_m51 :: pj_prog.drop 52 from h)).elim (fun e => e ▸ pj_mk51) (pj_q52 M)
set_option maxRecDepth 100000 in
theorem pj_q50 : ∀ M ∈ pj_prog.drop 50, pj_okR pj_prog M = true := fun M h => (List.mem_cons.mp (show M ∈ pj_m50 :: pj_prog.drop 51 from h)).elim (fun e => e ▸ pj_mk50) (pj_q51 M)
set_option maxRecDepth 100000 in
theorem pj_q49 : ∀ M ∈ pj_prog.drop 49, pj_okR pj_prog M = true := fun M h => (List.mem_cons.mp (show M ∈ pj_m49 :: pj_prog.drop 50 from h)).elim (fun e => e ▸ pj_mk49) (pj_q50 M)
set_option maxRecDepth 100000 in
theorem pj_q48 : ∀ M ∈ pj_prog.drop 48, pj_okR pj_prog M = true := fun M h => (List.mem_cons.mp (show M ∈ pj_m48 :: pj_prog.drop 49 from h)).elim (fun e => e ▸ pj_mk48) (pj_q49 M)
set_option maxRecDepth 100000 in
theorem pj_q47 : ∀ M ∈ pj_prog.drop 47, pj_okR pj_prog M = true := fun M h => (List.mem_cons.mp (show M ∈ pj_m47 :: pj_prog.drop 48 from h)).elim (fun e => e ▸ pj_mk47) (pj_q48 M)
set_option maxRecDepth 100000 in
theorem pj_q46 : ∀ M ∈ pj_prog.drop 46, pj_okR pj_prog M = true := fun M h => (List.mem_cons.mp (show M ∈ pj_m46 :: pj_prog.drop 47 from h)).elim (fun e => e ▸ pj_mk46) (pj_q47 M)
set_option maxRecDepth 100000 in
theorem pj_q45 : ∀ M ∈ pj_prog.drop 45, pj_okR pj_prog M = true := fun M h => (List.mem_cons.mp (show M ∈ pj_m45 :: pj_prog.drop 46 from h)).elim (fun e => e ▸ pj_mk45) (pj_q46 M)
set_option maxRecDepth 100000 in
theorem pj_q44 : ∀ M ∈ pj_prog.drop 44, pj_okR pj_prog M = true := fun M h => (List.mem_cons.mp (show M ∈ pj_m44 :: pj_prog.drop 45 from h)).elim (fun e => e ▸ pj_mk44) (pj_q45 M)
set_option maxRecDepth 100000 in
theorem pj_q43 : ∀ M ∈ pj_prog.drop 43, pj_okR pj_prog M = true := fun M h => (List.mem_cons.mp (show M ∈ pj_m43 :: pj_prog.drop 44 from h)).elim (fun e => e ▸ pj_mk43) (pj_q44 M)
set_option maxRecDepth 100000 in
theorem pj_q42 : ∀ M ∈ pj_prog.drop 42, pj_okR pj_prog M = true := fun M h => (List.mem_cons.mp (show M ∈ pj_m42 :: pj_prog.drop 43 from h)).elim (fun e => e ▸ pj_mk42) (pj_q43 M)
set_option maxRecDepth 100000 in
theorem pj_q41 : ∀ M ∈ pj_prog.drop 41, pj_okR pj_prog M = true := fun M h => (List.mem_cons.mp (show M ∈ pj_m41 :: pj_prog.drop 42 from h)).elim (fun e => e ▸ pj_mk41) (pj_q42 M)
set_option maxRecDepth 100000 in
theorem pj_q40 : ∀ M ∈ pj_prog.drop 40, pj_okR pj_prog M = true := fun M h => (List.mem_cons.mp (show M ∈ pj_m40 :: pj_prog.drop 41 from h)).elim (fun e => e ▸ pj_mk40) (pj_q41 M)
set_option maxRecDepth 100000 in
theorem pj_q39 : ∀ M ∈ pj_prog.drop 39, pj_okR pj_prog M = true := fun M h => (List.mem_cons.mp (show M ∈ pj_m39 :: pj_prog.drop 40 from h)).elim (fun e => e ▸ pj_mk39) (pj_q40 M)
set_option maxRecDepth 100000 in
theorem pj_q38 : ∀ M ∈ pj_prog.drop 38, pj_okR pj_prog M = true := fun M h => (List.mem_cons.mp (show M ∈ pj_m38 :: pj_prog.drop 39 from h)).elim (fun e => e ▸ pj_mk38) (pj_q39 M)
set_option maxRecDepth 100000 in
theorem pj_q37 : ∀ M ∈ pj_prog.drop 37, pj_okR pj_prog M = true := fun M h => (List.mem_cons.mp (show M ∈ pj_m37 :: pj_prog.drop 38 from h)).elim (fun e => e ▸ pj_mk37) (pj_q38 M)
set_option maxRecDepth 100000 in
theorem pj_q36 : ∀ M ∈ pj_prog.drop 36, pj_okR pj_prog M = true := fun M h => (List.mem_cons.mp (show M ∈ pj_m36 :: pj_prog.drop 37 from h)).elim (fun e => e ▸ pj_mk36) (pj_q37 M)
set_option maxRecDepth 100000 in
theorem pj_q35 : ∀ M ∈ pj_prog.drop 35, pj_okR pj_prog M = true := fun M h => (List.mem_cons.mp (show M ∈ pj_m35 :: pj_prog.drop 36 from h)).elim (fun e => e ▸ pj_mk35) (pj_q36 M)
set_option maxRecDepth 100000 in
theorem pj_q34 : ∀ M ∈ pj_prog.drop 34, pj_okR pj_prog M = true := fun M h => (List.mem_cons.mp (show M ∈ pj_m34 :: pj_prog.drop 35 from h)).elim (fun e => e ▸ pj_mk34) (pj_q35 M)
set_option maxRecDepth 100000 in
theorem pj_q33 : ∀ M ∈ pj_prog.drop 33, pj_okR pj_prog M = true := fun M h => (List.mem_cons.mp (show M ∈ pj_m33 :: pj_prog.drop 34 from h)).elim (fun e => e ▸ pj_mk33) (pj_q34 M)
set_option maxRecDepth 100000 in
theorem pj_q32 : ∀ M ∈ pj_prog.drop 32, pj_okR pj_prog M = true := fun M h => (List.mem_cons.mp (show M ∈ pj_m32 :: pj_prog.drop 33 from h)).elim (fun e => e ▸ pj_mk32) (pj_q33 M)
set_option maxRecDepth 100000 in
theorem pj_q31 : ∀ M ∈ pj_prog.drop 31, pj_okR pj_prog M = true := fun M h => (List.mem_cons.mp (show M ∈ pj_m31 :: pj_prog.drop 32 from h)).elim (fun e => e ▸ pj_mk31) (pj_q32 M)
set_option maxRecDepth 100000 in
theorem pj_q30 : ∀ M ∈ pj_prog.drop 30, pj_okR pj_prog M = true := fun M h => (List.mem_cons.mp (show M ∈ pj_m30 :: pj_prog.drop 31 from h)).elim (fun e => e ▸ pj_mk30) (pj_q31 M)
set_option maxRecDepth 100000 in
theorem pj_q29 : ∀ M ∈ pj_prog.drop 29, pj_okR pj_prog M = true := fun M h => (List.mem_cons.mp (show M ∈ pj_m29 :: pj_prog.drop 30 from h)).elim (fun e => e ▸ pj_mk29) (pj_q30 M)
set_option maxRecDepth 100000 in
theorem pj_q28 : ∀ M ∈ pj_prog.drop 28, pj_okR pj_prog M = true := fun M h => (List.mem_cons.mp (show M ∈ pj_m28 :: pj_prog.drop 29 from h)).elim (fun e => e ▸ pj_mk28) (pj_q29 M)
set_option maxRecDepth 100000 in
theorem pj_q27 : ∀ M ∈ pj_prog.drop 27, pj_okR pj_prog M = true := fun M h => (List.mem_cons.mp (show M ∈ pj_m27 :: pj_prog.drop 28 from h)).elim (fun e => e ▸ pj_mk27) (pj_q28 M)
set_option maxRecDepth 100000 in
theorem pj_q26 : ∀ M ∈ pj_prog.drop 26, pj_okR pj_prog M = true := fun M h => (List.mem_cons.mp (show M ∈ pj_m26 :: pj_prog.drop 27 from h)).elim (fun e => e ▸ pj_mk26) (pj_q27 M)
set_option maxRecDepth 100000 in
theorem pj_q25 : ∀ M ∈ pj_prog.drop 25, pj_okR pj_prog M = true := fun M h => (List.mem_cons.mp (show M ∈ pj_m25 :: pj_prog.drop 26 from h)).elim (fun e => e ▸ pj_mk25) (pj_q26 M)
set_option maxRecDepth 100000 in
theorem pj_q24 : ∀ M ∈ pj_prog.drop 24, pj_okR pj_prog M = true := fun M h => (List.mem_cons.mp (show M ∈ pj_m24 :: pj_prog.drop 25 from h)).elim (fun e => e ▸ pj_mk24) (pj_q25 M)
set_option maxRecDepth 100000 in
theorem pj_q23 : ∀ M ∈ pj_prog.drop 23, pj_okR pj_prog M = true := fun M h => (List.mem_cons.mp (show M ∈ pj_m23 :: pj_prog.drop 24 from h)).elim (fun e => e ▸ pj_mk23) (pj_q24 M)
set_option maxRecDepth 100000 in
theorem pj_q22 : ∀ M ∈ pj_prog.drop 22, pj_okR pj_prog M = true := fun M h => (List.mem_cons.mp (show M ∈ pj_m22 :: pj_prog.drop 23 from h)).elim (fun e => e ▸ pj_mk22) (pj_q23 M)
set_option maxRecDepth 100000 in
theorem pj_q21 : ∀ M ∈ pj_prog.drop 21, pj_okR pj_prog M = true := fun M h => (List.mem_cons.mp (show M ∈ pj_m21 :: pj_prog.drop 22 from h)).elim (fun e => e ▸ pj_mk21) (pj_q22 M)
set_option maxRecDepth 100000 in
theorem pj_q20 : ∀ M ∈ pj_prog.drop 20, pj_okR pj_prog M = true := fun M h => (List.mem_cons.mp (show M ∈ pj_m20 :: pj_prog.drop 21 from h)).elim (fun e => e ▸ pj_mk20) (pj_q21 M)
set_option maxRecDepth 100000 in
theorem pj_q19 : ∀ M ∈ pj_prog.drop 19, pj_okR pj_prog M = true := fun M h => (List.mem_cons.mp (show M ∈ pj_m19 :: pj_prog.drop 20 from h)).elim (fun e => e ▸ pj_mk19) (pj_q20 M)
set_option maxRecDepth 100000 in
theorem pj_q18 : ∀ M ∈ pj_prog.drop 18, pj_okR pj_prog M = true := fun M h => (List.mem_cons.mp (show M ∈ pj_m18 :: pj_prog.drop 19 from h)).elim (fun e => e ▸ pj_mk18) (pj_q19 M)
set_option maxRecDepth 100000 in
theorem pj_q17 : ∀ M ∈ pj_prog.drop 17, pj_okR pj_prog M = true := fun M h => (List.mem_cons.mp (show M ∈ pj_m17 :: pj_prog.drop 18 from h)).elim (fun e => e ▸ pj_mk17) (pj_q18 M)
set_option maxRecDepth 100000 in
theorem pj_q16 : ∀ M ∈ pj_prog.drop 16, pj_okR pj_prog M = true := fun M h => (List.mem_cons.mp (show M ∈ pj_m16 :: pj_prog.drop 17 from h)).elim (fun e => e ▸ pj_mk16) (pj_q17 M)
set_option maxRecDepth 100000 in
theorem pj_q15 : ∀ M ∈ pj_prog.drop 15, pj_okR pj_prog M = true := fun M h => (List.mem_cons.mp (show M ∈ pj_m15 :: pj_prog.drop 16 from h)).elim (fun e => e ▸ pj_mk15) (pj_q16 M)
set_option maxRecDepth 100000 in
theorem pj_q14 : ∀ M ∈ pj_prog.drop 14, pj_okR pj_prog M = true := fun M h => (List.mem_cons.mp (show M ∈ pj_m14 :: pj_prog.drop 15 from h)).elim (fun e => e ▸ pj_mk14) (pj_q15 M)
set_option maxRecDepth 100000 in
theorem pj_q13 : ∀ M ∈ pj_prog.drop 13, pj_okR pj_prog M = true := fun M h => (List.mem_cons.mp (show M ∈ pj_m13 :: pj_prog.drop 14 from h)).elim (fun e => e ▸ pj_mk13) (pj_q14 M)
set_option maxRecDepth 100000 in
theorem pj_q12 : ∀ M ∈ pj_prog.drop 12, pj_okR pj_prog M = true := fun M h => (List.mem_cons.mp (show M ∈ pj_m12 :: pj_prog.drop 13 from h)).elim (fun e => e ▸ pj_mk12) (pj_q13 M)
set_option maxRecDepth 100000 in
theorem pj_q11 : ∀ M ∈ pj_prog.drop 11, pj_okR pj_prog M = true := fun M h => (List.mem_cons.mp (show M ∈ pj_m11 :: pj_prog.drop 12 from h)).elim (fun e => e ▸ pj_mk11) (pj_q12 M)
set_option maxRecDepth 100000 in
theorem pj_q10 : ∀ M ∈ pj_prog.drop 10, pj_okR pj_prog M = true := fun M h => (List.mem_cons.mp (show M ∈ pj_m10 :: pj_prog.drop 11 from h)).elim (fun e => e ▸ pj_mk10) (pj_q11 M)
set_option maxRecDepth 100000 in
theorem pj_q9 : ∀ M ∈ pj_prog.drop 9, pj_okR pj_prog M = true := fun M h => (List.mem_cons.mp (show M ∈ pj_m9 :: pj_prog.drop 10 from h)).elim (fun e => e ▸ pj_mk9) (pj_q10 M)
set_option maxRecDepth 100000 in
theorem pj_q8 : ∀ M ∈ pj_prog.drop 8, pj_okR pj_prog M = true := fun M h => (List.mem_cons.mp (show M ∈ pj_m8 :: pj_prog.drop 9 from h)).elim (fun e => e ▸ pj_mk8) (pj_q9 M)
set_option maxRecDepth 100000 in
theorem pj_q7 : ∀ M ∈ pj_prog.drop 7, pj_okR pj_prog M = true := fun M h => (List.mem_cons.mp (show M ∈ pj_m7 :: pj_prog.drop 8 from h)).elim (fun e => e ▸ pj_mk7) (pj_q8 M)
set_option maxRecDepth 100000 in
theorem pj_q6 : ∀ M ∈ pj_prog.drop 6, pj_okR pj_prog M = true := fun M h => (List.mem_cons.mp (show M ∈ pj_m6 :: pj_prog.drop 7 from h)).elim (fun e => e ▸ pj_mk6) (pj_q7 M)
set_option maxRecDepth 100000 in
theorem pj_q5 : ∀ M ∈ pj_prog.drop 5, pj_okR pj_prog M = true := fun M h => (List.mem_cons.mp (show M ∈ pj_m5 :: pj_prog.drop 6 from h)).elim (fun e => e ▸ pj_mk5) (pj_q6 M)
set_option maxRecDepth 100000 in
theorem pj_q4 : ∀ M ∈ pj_prog.drop 4, pj_okR pj_prog M = true := fun M h => (List.mem_cons.mp (show M ∈ pj_m4 :: pj_prog.drop 5 from h)).elim (fun e => e ▸ pj_mk4) (pj_q5 M)
set_option maxRecDepth 100000 in
theorem pj_q3 : ∀ M ∈ pj_prog.drop 3, pj_okR pj_prog M = true := fun M h => (List.mem_cons.mp (show M ∈ pj_m3 :: pj_prog.drop 4 from h)).elim (fun e => e ▸ pj_mk3) (pj_q4 M)
set_option maxRecDepth 100000 in
theorem pj_q2 : ∀ M ∈ pj_prog.drop 2, pj_okR pj_prog M = true := fun M h => (List.mem_cons.mp (show M ∈ pj_m2 :: pj_prog.drop 3 from h)).elim (fun e => e ▸ pj_mk2) (pj_q3 M)
set_option maxRecDepth 100000 in
theorem pj_q1 : ∀ M ∈ pj_prog.drop 1, pj_okR pj_prog M = true := fun M h => (List.mem_cons.mp (show M ∈ pj_m1 :: pj_prog.drop 2 from h)).elim (fun e => e ▸ pj_mk1) (pj_q2 M)
set_option maxRecDepth 100000 in
theorem pj_q0 : ∀ M ∈ pj_prog.drop 0, pj_okR pj_prog M = true := fun M h => (List.mem_cons.mp (show M ∈ pj_m0 :: pj_prog.drop 1 from h)).elim (fun e => e ▸ pj_mk0) (pj_q1 M)
theorem pj_prog_ok : ∀ M ∈ pj_prog, pj_okR pj_prog M = true := pj_q0
