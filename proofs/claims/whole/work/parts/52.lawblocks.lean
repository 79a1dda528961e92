theorem kw_202 : Cond.methodLink R_law 13 y_Sw_setOrder ∈ wd_T := wd_in (List.mem_of_getElem? (i := 101) (by decide +kernel)) rfl
theorem kw_203 : Cond.code y_Sw_setOrder b_Sw_setOrder 3 (some .boolean) ∈ wd_T := wd_in (List.mem_of_getElem? (i := 104) (by decide +kernel)) rfl
theorem kw_204 : Cond.instanceMethod y_Sw_setOrder ∈ wd_T := wd_in (List.mem_of_getElem? (i := 102) (by decide +kernel)) rfl
theorem kw_205 : Cond.selects R_Sw y_Sw_setOrder y_Sw_setOrder ∈ wd_T := wd_in (List.mem_of_getElem? (i := 103) (by decide +kernel)) rfl
theorem kw_206 : Cond.methodLink R_law 17 y_Md_setOrder ∈ wd_T := wd_in (List.mem_of_getElem? (i := 338) (by decide +kernel)) rfl
theorem kw_207 : Cond.code y_Md_setOrder b_Md_setOrder 3 (some .boolean) ∈ wd_T := wd_in (List.mem_of_getElem? (i := 341) (by decide +kernel)) rfl
theorem kw_208 : Cond.instanceMethod y_Md_setOrder ∈ wd_T := wd_in (List.mem_of_getElem? (i := 339) (by decide +kernel)) rfl
theorem kw_209 : Cond.selects R_Md y_Md_setOrder y_Md_setOrder ∈ wd_T := wd_in (List.mem_of_getElem? (i := 340) (by decide +kernel)) rfl
theorem kw_210 : Cond.methodLink R_law 18 y_Sw_setWeight ∈ wd_T := wd_in (List.mem_of_getElem? (i := 112) (by decide +kernel)) rfl
theorem kw_211 : Cond.code y_Sw_setWeight b_Sw_setWeight 4 (some .boolean) ∈ wd_T := wd_in (List.mem_of_getElem? (i := 115) (by decide +kernel)) rfl
theorem kw_212 : Cond.instanceMethod y_Sw_setWeight ∈ wd_T := wd_in (List.mem_of_getElem? (i := 113) (by decide +kernel)) rfl
theorem kw_213 : Cond.selects R_Sw y_Sw_setWeight y_Sw_setWeight ∈ wd_T := wd_in (List.mem_of_getElem? (i := 114) (by decide +kernel)) rfl
theorem kw_214 : Cond.methodLink R_law 22 y_Md_setWeight ∈ wd_T := wd_in (List.mem_of_getElem? (i := 349) (by decide +kernel)) rfl
theorem kw_215 : Cond.code y_Md_setWeight b_Md_setWeight 4 (some .boolean) ∈ wd_T := wd_in (List.mem_of_getElem? (i := 352) (by decide +kernel)) rfl
theorem kw_216 : Cond.instanceMethod y_Md_setWeight ∈ wd_T := wd_in (List.mem_of_getElem? (i := 350) (by decide +kernel)) rfl
theorem kw_217 : Cond.selects R_Md y_Md_setWeight y_Md_setWeight ∈ wd_T := wd_in (List.mem_of_getElem? (i := 351) (by decide +kernel)) rfl
theorem kw_218 : Cond.methodLink R_law 23 y_Sw_offer ∈ wd_T := wd_in (List.mem_of_getElem? (i := 120) (by decide +kernel)) rfl
theorem kw_219 : Cond.code y_Sw_offer b_Sw_offer 6 (some .boolean) ∈ wd_T := wd_in (List.mem_of_getElem? (i := 123) (by decide +kernel)) rfl
theorem kw_220 : Cond.instanceMethod y_Sw_offer ∈ wd_T := wd_in (List.mem_of_getElem? (i := 121) (by decide +kernel)) rfl
theorem kw_221 : Cond.selects R_Sw y_Sw_offer y_Sw_offer ∈ wd_T := wd_in (List.mem_of_getElem? (i := 122) (by decide +kernel)) rfl
theorem kw_222 : Cond.methodLink R_law 27 y_Md_offer ∈ wd_T := wd_in (List.mem_of_getElem? (i := 353) (by decide +kernel)) rfl
theorem kw_223 : Cond.code y_Md_offer b_Md_offer 5 (some .boolean) ∈ wd_T := wd_in (List.mem_of_getElem? (i := 356) (by decide +kernel)) rfl
theorem kw_224 : Cond.instanceMethod y_Md_offer ∈ wd_T := wd_in (List.mem_of_getElem? (i := 354) (by decide +kernel)) rfl
theorem kw_225 : Cond.selects R_Md y_Md_offer y_Md_offer ∈ wd_T := wd_in (List.mem_of_getElem? (i := 355) (by decide +kernel)) rfl
theorem kw_226 : Cond.methodLink R_law 28 y_Sw_slot ∈ wd_T := wd_in (List.mem_of_getElem? (i := 163) (by decide +kernel)) rfl
theorem kw_227 : Cond.code y_Sw_slot b_Sw_slot 2 (some .int) ∈ wd_T := wd_in (List.mem_of_getElem? (i := 166) (by decide +kernel)) rfl
theorem kw_228 : Cond.instanceMethod y_Sw_slot ∈ wd_T := wd_in (List.mem_of_getElem? (i := 164) (by decide +kernel)) rfl
theorem kw_229 : Cond.selects R_Sw y_Sw_slot y_Sw_slot ∈ wd_T := wd_in (List.mem_of_getElem? (i := 165) (by decide +kernel)) rfl
theorem kw_230 : Cond.methodLink R_law 32 y_Md_slot ∈ wd_T := wd_in (List.mem_of_getElem? (i := 361) (by decide +kernel)) rfl
theorem kw_231 : Cond.code y_Md_slot b_Md_slot 3 (some .int) ∈ wd_T := wd_in (List.mem_of_getElem? (i := 364) (by decide +kernel)) rfl
theorem kw_232 : Cond.instanceMethod y_Md_slot ∈ wd_T := wd_in (List.mem_of_getElem? (i := 362) (by decide +kernel)) rfl
theorem kw_233 : Cond.selects R_Md y_Md_slot y_Md_slot ∈ wd_T := wd_in (List.mem_of_getElem? (i := 363) (by decide +kernel)) rfl
theorem kw_234 : Cond.methodLink R_law 33 y_Sw_slots ∈ wd_T := wd_in (List.mem_of_getElem? (i := 206) (by decide +kernel)) rfl
theorem kw_235 : Cond.code y_Sw_slots b_Sw_slots 1 (some .int) ∈ wd_T := wd_in (List.mem_of_getElem? (i := 209) (by decide +kernel)) rfl
theorem kw_236 : Cond.instanceMethod y_Sw_slots ∈ wd_T := wd_in (List.mem_of_getElem? (i := 207) (by decide +kernel)) rfl
theorem kw_237 : Cond.selects R_Sw y_Sw_slots y_Sw_slots ∈ wd_T := wd_in (List.mem_of_getElem? (i := 208) (by decide +kernel)) rfl
theorem kw_238 : Cond.methodLink R_law 36 y_Md_slots ∈ wd_T := wd_in (List.mem_of_getElem? (i := 387) (by decide +kernel)) rfl
theorem kw_239 : Cond.code y_Md_slots b_Md_slots 1 (some .int) ∈ wd_T := wd_in (List.mem_of_getElem? (i := 390) (by decide +kernel)) rfl
theorem kw_240 : Cond.instanceMethod y_Md_slots ∈ wd_T := wd_in (List.mem_of_getElem? (i := 388) (by decide +kernel)) rfl
theorem kw_241 : Cond.selects R_Md y_Md_slots y_Md_slots ∈ wd_T := wd_in (List.mem_of_getElem? (i := 389) (by decide +kernel)) rfl
theorem kw_242 : Cond.methodLink R_law 37 y_Sw_hasSent ∈ wd_T := wd_in (List.mem_of_getElem? (i := 210) (by decide +kernel)) rfl
theorem kw_243 : Cond.code y_Sw_hasSent b_Sw_hasSent 2 (some .boolean) ∈ wd_T := wd_in (List.mem_of_getElem? (i := 213) (by decide +kernel)) rfl
theorem kw_244 : Cond.instanceMethod y_Sw_hasSent ∈ wd_T := wd_in (List.mem_of_getElem? (i := 211) (by decide +kernel)) rfl
theorem kw_245 : Cond.selects R_Sw y_Sw_hasSent y_Sw_hasSent ∈ wd_T := wd_in (List.mem_of_getElem? (i := 212) (by decide +kernel)) rfl
theorem kw_246 : Cond.methodLink R_law 41 y_Md_hasSent ∈ wd_T := wd_in (List.mem_of_getElem? (i := 391) (by decide +kernel)) rfl
theorem kw_247 : Cond.code y_Md_hasSent b_Md_hasSent 2 (some .boolean) ∈ wd_T := wd_in (List.mem_of_getElem? (i := 394) (by decide +kernel)) rfl
theorem kw_248 : Cond.instanceMethod y_Md_hasSent ∈ wd_T := wd_in (List.mem_of_getElem? (i := 392) (by decide +kernel)) rfl
theorem kw_249 : Cond.selects R_Md y_Md_hasSent y_Md_hasSent ∈ wd_T := wd_in (List.mem_of_getElem? (i := 393) (by decide +kernel)) rfl
theorem kw_250 : Cond.methodLink R_law 42 y_Sw_sent ∈ wd_T := wd_in (List.mem_of_getElem? (i := 218) (by decide +kernel)) rfl
theorem kw_251 : Cond.code y_Sw_sent b_Sw_sent 3 (some .int) ∈ wd_T := wd_in (List.mem_of_getElem? (i := 221) (by decide +kernel)) rfl
theorem kw_252 : Cond.instanceMethod y_Sw_sent ∈ wd_T := wd_in (List.mem_of_getElem? (i := 219) (by decide +kernel)) rfl
theorem kw_253 : Cond.selects R_Sw y_Sw_sent y_Sw_sent ∈ wd_T := wd_in (List.mem_of_getElem? (i := 220) (by decide +kernel)) rfl
theorem kw_254 : Cond.methodLink R_law 46 y_Md_sent ∈ wd_T := wd_in (List.mem_of_getElem? (i := 399) (by decide +kernel)) rfl
theorem kw_255 : Cond.code y_Md_sent b_Md_sent 2 (some .int) ∈ wd_T := wd_in (List.mem_of_getElem? (i := 402) (by decide +kernel)) rfl
theorem kw_256 : Cond.instanceMethod y_Md_sent ∈ wd_T := wd_in (List.mem_of_getElem? (i := 400) (by decide +kernel)) rfl
theorem kw_257 : Cond.selects R_Md y_Md_sent y_Md_sent ∈ wd_T := wd_in (List.mem_of_getElem? (i := 401) (by decide +kernel)) rfl
theorem kw_258 : Cond.methodLink R_law 47 y_Sw_sentFrom ∈ wd_T := wd_in (List.mem_of_getElem? (i := 222) (by decide +kernel)) rfl
theorem kw_259 : Cond.code y_Sw_sentFrom b_Sw_sentFrom 3 (some .int) ∈ wd_T := wd_in (List.mem_of_getElem? (i := 225) (by decide +kernel)) rfl
theorem kw_260 : Cond.instanceMethod y_Sw_sentFrom ∈ wd_T := wd_in (List.mem_of_getElem? (i := 223) (by decide +kernel)) rfl
theorem kw_261 : Cond.selects R_Sw y_Sw_sentFrom y_Sw_sentFrom ∈ wd_T := wd_in (List.mem_of_getElem? (i := 224) (by decide +kernel)) rfl
theorem kw_262 : Cond.methodLink R_law 50 y_Md_sentFrom ∈ wd_T := wd_in (List.mem_of_getElem? (i := 403) (by decide +kernel)) rfl
theorem kw_263 : Cond.code y_Md_sentFrom b_Md_sentFrom 2 (some .int) ∈ wd_T := wd_in (List.mem_of_getElem? (i := 406) (by decide +kernel)) rfl
theorem kw_264 : Cond.instanceMethod y_Md_sentFrom ∈ wd_T := wd_in (List.mem_of_getElem? (i := 404) (by decide +kernel)) rfl
theorem kw_265 : Cond.selects R_Md y_Md_sentFrom y_Md_sentFrom ∈ wd_T := wd_in (List.mem_of_getElem? (i := 405) (by decide +kernel)) rfl
theorem kw_266 : Cond.methodLink R_law 51 y_Sw_waited ∈ wd_T := wd_in (List.mem_of_getElem? (i := 226) (by decide +kernel)) rfl
theorem kw_267 : Cond.code y_Sw_waited b_Sw_waited 3 (some .int) ∈ wd_T := wd_in (List.mem_of_getElem? (i := 229) (by decide +kernel)) rfl
theorem kw_268 : Cond.instanceMethod y_Sw_waited ∈ wd_T := wd_in (List.mem_of_getElem? (i := 227) (by decide +kernel)) rfl
theorem kw_269 : Cond.selects R_Sw y_Sw_waited y_Sw_waited ∈ wd_T := wd_in (List.mem_of_getElem? (i := 228) (by decide +kernel)) rfl
theorem kw_270 : Cond.methodLink R_law 54 y_Md_waited ∈ wd_T := wd_in (List.mem_of_getElem? (i := 407) (by decide +kernel)) rfl
theorem kw_271 : Cond.code y_Md_waited b_Md_waited 2 (some .int) ∈ wd_T := wd_in (List.mem_of_getElem? (i := 410) (by decide +kernel)) rfl
theorem kw_272 : Cond.instanceMethod y_Md_waited ∈ wd_T := wd_in (List.mem_of_getElem? (i := 408) (by decide +kernel)) rfl
theorem kw_273 : Cond.selects R_Md y_Md_waited y_Md_waited ∈ wd_T := wd_in (List.mem_of_getElem? (i := 409) (by decide +kernel)) rfl
theorem kw_274 : Cond.methodLink R_law 55 y_Sw_inside ∈ wd_T := wd_in (List.mem_of_getElem? (i := 230) (by decide +kernel)) rfl
theorem kw_275 : Cond.code y_Sw_inside b_Sw_inside 2 (some .int) ∈ wd_T := wd_in (List.mem_of_getElem? (i := 233) (by decide +kernel)) rfl
theorem kw_276 : Cond.instanceMethod y_Sw_inside ∈ wd_T := wd_in (List.mem_of_getElem? (i := 231) (by decide +kernel)) rfl
theorem kw_277 : Cond.selects R_Sw y_Sw_inside y_Sw_inside ∈ wd_T := wd_in (List.mem_of_getElem? (i := 232) (by decide +kernel)) rfl
theorem kw_278 : Cond.methodLink R_law 58 y_Md_inside ∈ wd_T := wd_in (List.mem_of_getElem? (i := 411) (by decide +kernel)) rfl
theorem kw_279 : Cond.code y_Md_inside b_Md_inside 2 (some .int) ∈ wd_T := wd_in (List.mem_of_getElem? (i := 414) (by decide +kernel)) rfl
theorem kw_280 : Cond.instanceMethod y_Md_inside ∈ wd_T := wd_in (List.mem_of_getElem? (i := 412) (by decide +kernel)) rfl
theorem kw_281 : Cond.selects R_Md y_Md_inside y_Md_inside ∈ wd_T := wd_in (List.mem_of_getElem? (i := 413) (by decide +kernel)) rfl
theorem kw_282 : Cond.methodLink R_law 59 y_Sw_waiting ∈ wd_T := wd_in (List.mem_of_getElem? (i := 234) (by decide +kernel)) rfl
theorem kw_283 : Cond.code y_Sw_waiting b_Sw_waiting 2 (some .int) ∈ wd_T := wd_in (List.mem_of_getElem? (i := 237) (by decide +kernel)) rfl
theorem kw_284 : Cond.instanceMethod y_Sw_waiting ∈ wd_T := wd_in (List.mem_of_getElem? (i := 235) (by decide +kernel)) rfl
theorem kw_285 : Cond.selects R_Sw y_Sw_waiting y_Sw_waiting ∈ wd_T := wd_in (List.mem_of_getElem? (i := 236) (by decide +kernel)) rfl
theorem kw_286 : Cond.methodLink R_law 62 y_Md_waiting ∈ wd_T := wd_in (List.mem_of_getElem? (i := 415) (by decide +kernel)) rfl
theorem kw_287 : Cond.code y_Md_waiting b_Md_waiting 2 (some .int) ∈ wd_T := wd_in (List.mem_of_getElem? (i := 418) (by decide +kernel)) rfl
theorem kw_288 : Cond.instanceMethod y_Md_waiting ∈ wd_T := wd_in (List.mem_of_getElem? (i := 416) (by decide +kernel)) rfl
theorem kw_289 : Cond.selects R_Md y_Md_waiting y_Md_waiting ∈ wd_T := wd_in (List.mem_of_getElem? (i := 417) (by decide +kernel)) rfl
theorem kw_290 : Cond.methodLink R_law 63 y_Sw_first ∈ wd_T := wd_in (List.mem_of_getElem? (i := 238) (by decide +kernel)) rfl
theorem kw_291 : Cond.code y_Sw_first b_Sw_first 4 (some .int) ∈ wd_T := wd_in (List.mem_of_getElem? (i := 241) (by decide +kernel)) rfl
theorem kw_292 : Cond.instanceMethod y_Sw_first ∈ wd_T := wd_in (List.mem_of_getElem? (i := 239) (by decide +kernel)) rfl
theorem kw_293 : Cond.selects R_Sw y_Sw_first y_Sw_first ∈ wd_T := wd_in (List.mem_of_getElem? (i := 240) (by decide +kernel)) rfl
theorem kw_294 : Cond.methodLink R_law 67 y_Md_first ∈ wd_T := wd_in (List.mem_of_getElem? (i := 419) (by decide +kernel)) rfl
theorem kw_295 : Cond.code y_Md_first b_Md_first 3 (some .int) ∈ wd_T := wd_in (List.mem_of_getElem? (i := 422) (by decide +kernel)) rfl
theorem kw_296 : Cond.instanceMethod y_Md_first ∈ wd_T := wd_in (List.mem_of_getElem? (i := 420) (by decide +kernel)) rfl
theorem kw_297 : Cond.selects R_Md y_Md_first y_Md_first ∈ wd_T := wd_in (List.mem_of_getElem? (i := 421) (by decide +kernel)) rfl
theorem kw_298 : Cond.methodLink R_law 68 y_Sw_time ∈ wd_T := wd_in (List.mem_of_getElem? (i := 246) (by decide +kernel)) rfl
theorem kw_299 : Cond.code y_Sw_time b_Sw_time 4 (some .long) ∈ wd_T := wd_in (List.mem_of_getElem? (i := 249) (by decide +kernel)) rfl
theorem kw_300 : Cond.instanceMethod y_Sw_time ∈ wd_T := wd_in (List.mem_of_getElem? (i := 247) (by decide +kernel)) rfl
theorem kw_301 : Cond.selects R_Sw y_Sw_time y_Sw_time ∈ wd_T := wd_in (List.mem_of_getElem? (i := 248) (by decide +kernel)) rfl
theorem kw_302 : Cond.methodLink R_law 72 y_Md_time ∈ wd_T := wd_in (List.mem_of_getElem? (i := 427) (by decide +kernel)) rfl
theorem kw_303 : Cond.code y_Md_time b_Md_time 3 (some .long) ∈ wd_T := wd_in (List.mem_of_getElem? (i := 430) (by decide +kernel)) rfl
theorem kw_304 : Cond.instanceMethod y_Md_time ∈ wd_T := wd_in (List.mem_of_getElem? (i := 428) (by decide +kernel)) rfl
theorem kw_305 : Cond.selects R_Md y_Md_time y_Md_time ∈ wd_T := wd_in (List.mem_of_getElem? (i := 429) (by decide +kernel)) rfl
theorem kw_306 : Cond.methodLink R_law 73 y_Sw_leaves ∈ wd_T := wd_in (List.mem_of_getElem? (i := 251) (by decide +kernel)) rfl
theorem kw_307 : Cond.code y_Sw_leaves b_Sw_leaves 7 (some .int) ∈ wd_T := wd_in (List.mem_of_getElem? (i := 254) (by decide +kernel)) rfl
theorem kw_308 : Cond.instanceMethod y_Sw_leaves ∈ wd_T := wd_in (List.mem_of_getElem? (i := 252) (by decide +kernel)) rfl
theorem kw_309 : Cond.selects R_Sw y_Sw_leaves y_Sw_leaves ∈ wd_T := wd_in (List.mem_of_getElem? (i := 253) (by decide +kernel)) rfl
theorem kw_310 : Cond.methodLink R_law 76 y_Md_leaves ∈ wd_T := wd_in (List.mem_of_getElem? (i := 432) (by decide +kernel)) rfl
theorem kw_311 : Cond.code y_Md_leaves b_Md_leaves 7 (some .int) ∈ wd_T := wd_in (List.mem_of_getElem? (i := 435) (by decide +kernel)) rfl
theorem kw_312 : Cond.instanceMethod y_Md_leaves ∈ wd_T := wd_in (List.mem_of_getElem? (i := 433) (by decide +kernel)) rfl
theorem kw_313 : Cond.selects R_Md y_Md_leaves y_Md_leaves ∈ wd_T := wd_in (List.mem_of_getElem? (i := 434) (by decide +kernel)) rfl
theorem kw_314 : Cond.methodLink R_law 77 y_Sw_reset ∈ wd_T := wd_in (List.mem_of_getElem? (i := 255) (by decide +kernel)) rfl
theorem kw_315 : Cond.code y_Sw_reset b_Sw_reset 2 none ∈ wd_T := wd_in (List.mem_of_getElem? (i := 258) (by decide +kernel)) rfl
theorem kw_316 : Cond.instanceMethod y_Sw_reset ∈ wd_T := wd_in (List.mem_of_getElem? (i := 256) (by decide +kernel)) rfl
theorem kw_317 : Cond.selects R_Sw y_Sw_reset y_Sw_reset ∈ wd_T := wd_in (List.mem_of_getElem? (i := 257) (by decide +kernel)) rfl
theorem kw_318 : Cond.methodLink R_law 80 y_Md_reset ∈ wd_T := wd_in (List.mem_of_getElem? (i := 436) (by decide +kernel)) rfl
theorem kw_319 : Cond.code y_Md_reset b_Md_reset 1 none ∈ wd_T := wd_in (List.mem_of_getElem? (i := 439) (by decide +kernel)) rfl
theorem kw_320 : Cond.instanceMethod y_Md_reset ∈ wd_T := wd_in (List.mem_of_getElem? (i := 437) (by decide +kernel)) rfl
theorem kw_321 : Cond.selects R_Md y_Md_reset y_Md_reset ∈ wd_T := wd_in (List.mem_of_getElem? (i := 438) (by decide +kernel)) rfl
theorem d_law_0 : decode code 0 = .ok (.new 7, 3) := by decide +kernel
theorem d_law_3 : decode code 3 = .ok (.dup, 1) := by decide +kernel
theorem d_law_4 : decode code 4 = .ok (.invokespecial 9, 3) := by decide +kernel
theorem d_law_7 : decode code 7 = .ok (.astore_n 1, 1) := by decide +kernel
theorem d_law_8 : decode code 8 = .ok (.new 10, 3) := by decide +kernel
theorem d_law_11 : decode code 11 = .ok (.dup, 1) := by decide +kernel
theorem d_law_12 : decode code 12 = .ok (.invokespecial 12, 3) := by decide +kernel
theorem d_law_15 : decode code 15 = .ok (.astore_n 2, 1) := by decide +kernel
theorem d_law_16 : decode code 16 = .ok (.iconst 0, 1) := by decide +kernel
theorem d_law_17 : decode code 17 = .ok (.istore_n 3, 1) := by decide +kernel
theorem d_law_18 : decode code 18 = .ok (.iload_n 3, 1) := by decide +kernel
theorem d_law_19 : decode code 19 = .ok (.aload_n 0, 1) := by decide +kernel
theorem d_law_20 : decode code 20 = .ok (.arraylength, 1) := by decide +kernel
theorem d_law_21 : decode code 21 = .ok (.iconst 5, 1) := by decide +kernel
theorem d_law_22 : decode code 22 = .ok (.isub, 1) := by decide +kernel
theorem d_law_23 : decode code 23 = .ok (.if_icmp .gt 485, 3) := by decide +kernel
theorem d_law_26 : decode code 26 = .ok (.aload_n 0, 1) := by decide +kernel
theorem d_law_27 : decode code 27 = .ok (.iload_n 3, 1) := by decide +kernel
theorem d_law_28 : decode code 28 = .ok (.iaload, 1) := by decide +kernel
theorem d_law_29 : decode code 29 = .ok (.bipush 15, 2) := by decide +kernel
theorem d_law_31 : decode code 31 = .ok (.iand, 1) := by decide +kernel
theorem d_law_32 : decode code 32 = .ok (.tableswitch 470 0 14 #[76, 109, 152, 205, 218, 231, 254, 277, 300, 323, 346, 369, 402, 436, 459], 76) := by decide +kernel
theorem d_law_108 : decode code 108 = .ok (.aload_n 1, 1) := by decide +kernel
theorem d_law_109 : decode code 109 = .ok (.aload_n 0, 1) := by decide +kernel
theorem d_law_110 : decode code 110 = .ok (.iload_n 3, 1) := by decide +kernel
theorem d_law_111 : decode code 111 = .ok (.iconst 1, 1) := by decide +kernel
theorem d_law_112 : decode code 112 = .ok (.iadd, 1) := by decide +kernel
theorem d_law_113 : decode code 113 = .ok (.iaload, 1) := by decide +kernel
theorem d_law_114 : decode code 114 = .ok (.aload_n 0, 1) := by decide +kernel
theorem d_law_115 : decode code 115 = .ok (.iload_n 3, 1) := by decide +kernel
theorem d_law_116 : decode code 116 = .ok (.iconst 2, 1) := by decide +kernel
theorem d_law_117 : decode code 117 = .ok (.iadd, 1) := by decide +kernel
theorem d_law_118 : decode code 118 = .ok (.iaload, 1) := by decide +kernel
theorem d_law_119 : decode code 119 = .ok (.invokevirtual 13, 3) := by decide +kernel
theorem d_law_122 : decode code 122 = .ok (.aload_n 2, 1) := by decide +kernel
theorem d_law_123 : decode code 123 = .ok (.aload_n 0, 1) := by decide +kernel
theorem d_law_124 : decode code 124 = .ok (.iload_n 3, 1) := by decide +kernel
theorem d_law_125 : decode code 125 = .ok (.iconst 1, 1) := by decide +kernel
theorem d_law_126 : decode code 126 = .ok (.iadd, 1) := by decide +kernel
theorem d_law_127 : decode code 127 = .ok (.iaload, 1) := by decide +kernel
theorem d_law_128 : decode code 128 = .ok (.aload_n 0, 1) := by decide +kernel
theorem d_law_129 : decode code 129 = .ok (.iload_n 3, 1) := by decide +kernel
theorem d_law_130 : decode code 130 = .ok (.iconst 2, 1) := by decide +kernel
theorem d_law_131 : decode code 131 = .ok (.iadd, 1) := by decide +kernel
theorem d_law_132 : decode code 132 = .ok (.iaload, 1) := by decide +kernel
theorem d_law_133 : decode code 133 = .ok (.invokevirtual 17, 3) := by decide +kernel
theorem d_law_136 : decode code 136 = .ok (.if_icmp .eq 366, 3) := by decide +kernel
theorem d_law_139 : decode code 139 = .ok (.iconst 0, 1) := by decide +kernel
theorem d_law_140 : decode code 140 = .ok (.ireturn, 1) := by decide +kernel
theorem d_law_141 : decode code 141 = .ok (.aload_n 1, 1) := by decide +kernel
theorem d_law_142 : decode code 142 = .ok (.aload_n 0, 1) := by decide +kernel
theorem d_law_143 : decode code 143 = .ok (.iload_n 3, 1) := by decide +kernel
theorem d_law_144 : decode code 144 = .ok (.iconst 1, 1) := by decide +kernel
theorem d_law_145 : decode code 145 = .ok (.iadd, 1) := by decide +kernel
theorem d_law_146 : decode code 146 = .ok (.iaload, 1) := by decide +kernel
theorem d_law_147 : decode code 147 = .ok (.aload_n 0, 1) := by decide +kernel
theorem d_law_148 : decode code 148 = .ok (.iload_n 3, 1) := by decide +kernel
theorem d_law_149 : decode code 149 = .ok (.iconst 2, 1) := by decide +kernel
theorem d_law_150 : decode code 150 = .ok (.iadd, 1) := by decide +kernel
theorem d_law_151 : decode code 151 = .ok (.iaload, 1) := by decide +kernel
theorem d_law_152 : decode code 152 = .ok (.aload_n 0, 1) := by decide +kernel
theorem d_law_153 : decode code 153 = .ok (.iload_n 3, 1) := by decide +kernel
theorem d_law_154 : decode code 154 = .ok (.iconst 3, 1) := by decide +kernel
theorem d_law_155 : decode code 155 = .ok (.iadd, 1) := by decide +kernel
theorem d_law_156 : decode code 156 = .ok (.iaload, 1) := by decide +kernel
theorem d_law_157 : decode code 157 = .ok (.invokevirtual 18, 3) := by decide +kernel
theorem d_law_160 : decode code 160 = .ok (.aload_n 2, 1) := by decide +kernel
theorem d_law_161 : decode code 161 = .ok (.aload_n 0, 1) := by decide +kernel
theorem d_law_162 : decode code 162 = .ok (.iload_n 3, 1) := by decide +kernel
theorem d_law_163 : decode code 163 = .ok (.iconst 1, 1) := by decide +kernel
theorem d_law_164 : decode code 164 = .ok (.iadd, 1) := by decide +kernel
theorem d_law_165 : decode code 165 = .ok (.iaload, 1) := by decide +kernel
theorem d_law_166 : decode code 166 = .ok (.aload_n 0, 1) := by decide +kernel
theorem d_law_167 : decode code 167 = .ok (.iload_n 3, 1) := by decide +kernel
theorem d_law_168 : decode code 168 = .ok (.iconst 2, 1) := by decide +kernel
theorem d_law_169 : decode code 169 = .ok (.iadd, 1) := by decide +kernel
theorem d_law_170 : decode code 170 = .ok (.iaload, 1) := by decide +kernel
theorem d_law_171 : decode code 171 = .ok (.aload_n 0, 1) := by decide +kernel
theorem d_law_172 : decode code 172 = .ok (.iload_n 3, 1) := by decide +kernel
theorem d_law_173 : decode code 173 = .ok (.iconst 3, 1) := by decide +kernel
theorem d_law_174 : decode code 174 = .ok (.iadd, 1) := by decide +kernel
theorem d_law_175 : decode code 175 = .ok (.iaload, 1) := by decide +kernel
theorem d_law_176 : decode code 176 = .ok (.invokevirtual 22, 3) := by decide +kernel
theorem d_law_179 : decode code 179 = .ok (.if_icmp .eq 323, 3) := by decide +kernel
theorem d_law_182 : decode code 182 = .ok (.iconst 0, 1) := by decide +kernel
theorem d_law_183 : decode code 183 = .ok (.ireturn, 1) := by decide +kernel
theorem d_law_184 : decode code 184 = .ok (.aload_n 1, 1) := by decide +kernel
theorem d_law_185 : decode code 185 = .ok (.aload_n 0, 1) := by decide +kernel
theorem d_law_186 : decode code 186 = .ok (.iload_n 3, 1) := by decide +kernel
theorem d_law_187 : decode code 187 = .ok (.iconst 1, 1) := by decide +kernel
theorem d_law_188 : decode code 188 = .ok (.iadd, 1) := by decide +kernel
theorem d_law_189 : decode code 189 = .ok (.iaload, 1) := by decide +kernel
theorem d_law_190 : decode code 190 = .ok (.aload_n 0, 1) := by decide +kernel
theorem d_law_191 : decode code 191 = .ok (.iload_n 3, 1) := by decide +kernel
theorem d_law_192 : decode code 192 = .ok (.iconst 2, 1) := by decide +kernel
theorem d_law_193 : decode code 193 = .ok (.iadd, 1) := by decide +kernel
theorem d_law_194 : decode code 194 = .ok (.iaload, 1) := by decide +kernel
theorem d_law_195 : decode code 195 = .ok (.aload_n 0, 1) := by decide +kernel
theorem d_law_196 : decode code 196 = .ok (.iload_n 3, 1) := by decide +kernel
theorem d_law_197 : decode code 197 = .ok (.iconst 3, 1) := by decide +kernel
theorem d_law_198 : decode code 198 = .ok (.iadd, 1) := by decide +kernel
theorem d_law_199 : decode code 199 = .ok (.iaload, 1) := by decide +kernel
theorem d_law_200 : decode code 200 = .ok (.aload_n 0, 1) := by decide +kernel
theorem d_law_201 : decode code 201 = .ok (.iload_n 3, 1) := by decide +kernel
theorem d_law_202 : decode code 202 = .ok (.iconst 4, 1) := by decide +kernel
theorem d_law_203 : decode code 203 = .ok (.iadd, 1) := by decide +kernel
theorem d_law_204 : decode code 204 = .ok (.iaload, 1) := by decide +kernel
theorem d_law_205 : decode code 205 = .ok (.invokevirtual 23, 3) := by decide +kernel
theorem d_law_208 : decode code 208 = .ok (.aload_n 2, 1) := by decide +kernel
theorem d_law_209 : decode code 209 = .ok (.aload_n 0, 1) := by decide +kernel
theorem d_law_210 : decode code 210 = .ok (.iload_n 3, 1) := by decide +kernel
theorem d_law_211 : decode code 211 = .ok (.iconst 1, 1) := by decide +kernel
theorem d_law_212 : decode code 212 = .ok (.iadd, 1) := by decide +kernel
theorem d_law_213 : decode code 213 = .ok (.iaload, 1) := by decide +kernel
theorem d_law_214 : decode code 214 = .ok (.aload_n 0, 1) := by decide +kernel
theorem d_law_215 : decode code 215 = .ok (.iload_n 3, 1) := by decide +kernel
theorem d_law_216 : decode code 216 = .ok (.iconst 2, 1) := by decide +kernel
theorem d_law_217 : decode code 217 = .ok (.iadd, 1) := by decide +kernel
theorem d_law_218 : decode code 218 = .ok (.iaload, 1) := by decide +kernel
theorem d_law_219 : decode code 219 = .ok (.aload_n 0, 1) := by decide +kernel
theorem d_law_220 : decode code 220 = .ok (.iload_n 3, 1) := by decide +kernel
theorem d_law_221 : decode code 221 = .ok (.iconst 3, 1) := by decide +kernel
theorem d_law_222 : decode code 222 = .ok (.iadd, 1) := by decide +kernel
theorem d_law_223 : decode code 223 = .ok (.iaload, 1) := by decide +kernel
theorem d_law_224 : decode code 224 = .ok (.aload_n 0, 1) := by decide +kernel
theorem d_law_225 : decode code 225 = .ok (.iload_n 3, 1) := by decide +kernel
theorem d_law_226 : decode code 226 = .ok (.iconst 4, 1) := by decide +kernel
theorem d_law_227 : decode code 227 = .ok (.iadd, 1) := by decide +kernel
theorem d_law_228 : decode code 228 = .ok (.iaload, 1) := by decide +kernel
theorem d_law_229 : decode code 229 = .ok (.invokevirtual 27, 3) := by decide +kernel
theorem d_law_232 : decode code 232 = .ok (.if_icmp .eq 270, 3) := by decide +kernel
theorem d_law_235 : decode code 235 = .ok (.iconst 0, 1) := by decide +kernel
theorem d_law_236 : decode code 236 = .ok (.ireturn, 1) := by decide +kernel
theorem d_law_237 : decode code 237 = .ok (.aload_n 1, 1) := by decide +kernel
theorem d_law_238 : decode code 238 = .ok (.invokevirtual 28, 3) := by decide +kernel
theorem d_law_241 : decode code 241 = .ok (.aload_n 2, 1) := by decide +kernel
theorem d_law_242 : decode code 242 = .ok (.invokevirtual 32, 3) := by decide +kernel
theorem d_law_245 : decode code 245 = .ok (.if_icmp .eq 257, 3) := by decide +kernel
theorem d_law_248 : decode code 248 = .ok (.iconst 0, 1) := by decide +kernel
theorem d_law_249 : decode code 249 = .ok (.ireturn, 1) := by decide +kernel
theorem d_law_250 : decode code 250 = .ok (.aload_n 1, 1) := by decide +kernel
theorem d_law_251 : decode code 251 = .ok (.invokevirtual 33, 3) := by decide +kernel
theorem d_law_254 : decode code 254 = .ok (.aload_n 2, 1) := by decide +kernel
theorem d_law_255 : decode code 255 = .ok (.invokevirtual 36, 3) := by decide +kernel
theorem d_law_258 : decode code 258 = .ok (.if_icmp .eq 244, 3) := by decide +kernel
theorem d_law_261 : decode code 261 = .ok (.iconst 0, 1) := by decide +kernel
theorem d_law_262 : decode code 262 = .ok (.ireturn, 1) := by decide +kernel
theorem d_law_263 : decode code 263 = .ok (.aload_n 1, 1) := by decide +kernel
theorem d_law_264 : decode code 264 = .ok (.aload_n 0, 1) := by decide +kernel
theorem d_law_265 : decode code 265 = .ok (.iload_n 3, 1) := by decide +kernel
theorem d_law_266 : decode code 266 = .ok (.iconst 1, 1) := by decide +kernel
theorem d_law_267 : decode code 267 = .ok (.iadd, 1) := by decide +kernel
theorem d_law_268 : decode code 268 = .ok (.iaload, 1) := by decide +kernel
theorem d_law_269 : decode code 269 = .ok (.invokevirtual 37, 3) := by decide +kernel
theorem d_law_272 : decode code 272 = .ok (.aload_n 2, 1) := by decide +kernel
theorem d_law_273 : decode code 273 = .ok (.aload_n 0, 1) := by decide +kernel
theorem d_law_274 : decode code 274 = .ok (.iload_n 3, 1) := by decide +kernel
theorem d_law_275 : decode code 275 = .ok (.iconst 1, 1) := by decide +kernel
theorem d_law_276 : decode code 276 = .ok (.iadd, 1) := by decide +kernel
theorem d_law_277 : decode code 277 = .ok (.iaload, 1) := by decide +kernel
theorem d_law_278 : decode code 278 = .ok (.invokevirtual 41, 3) := by decide +kernel
theorem d_law_281 : decode code 281 = .ok (.if_icmp .eq 221, 3) := by decide +kernel
theorem d_law_284 : decode code 284 = .ok (.iconst 0, 1) := by decide +kernel
theorem d_law_285 : decode code 285 = .ok (.ireturn, 1) := by decide +kernel
theorem d_law_286 : decode code 286 = .ok (.aload_n 1, 1) := by decide +kernel
theorem d_law_287 : decode code 287 = .ok (.aload_n 0, 1) := by decide +kernel
theorem d_law_288 : decode code 288 = .ok (.iload_n 3, 1) := by decide +kernel
theorem d_law_289 : decode code 289 = .ok (.iconst 1, 1) := by decide +kernel
theorem d_law_290 : decode code 290 = .ok (.iadd, 1) := by decide +kernel
theorem d_law_291 : decode code 291 = .ok (.iaload, 1) := by decide +kernel
theorem d_law_292 : decode code 292 = .ok (.invokevirtual 42, 3) := by decide +kernel
theorem d_law_295 : decode code 295 = .ok (.aload_n 2, 1) := by decide +kernel
theorem d_law_296 : decode code 296 = .ok (.aload_n 0, 1) := by decide +kernel
theorem d_law_297 : decode code 297 = .ok (.iload_n 3, 1) := by decide +kernel
theorem d_law_298 : decode code 298 = .ok (.iconst 1, 1) := by decide +kernel
theorem d_law_299 : decode code 299 = .ok (.iadd, 1) := by decide +kernel
theorem d_law_300 : decode code 300 = .ok (.iaload, 1) := by decide +kernel
theorem d_law_301 : decode code 301 = .ok (.invokevirtual 46, 3) := by decide +kernel
theorem d_law_304 : decode code 304 = .ok (.if_icmp .eq 198, 3) := by decide +kernel
theorem d_law_307 : decode code 307 = .ok (.iconst 0, 1) := by decide +kernel
theorem d_law_308 : decode code 308 = .ok (.ireturn, 1) := by decide +kernel
theorem d_law_309 : decode code 309 = .ok (.aload_n 1, 1) := by decide +kernel
theorem d_law_310 : decode code 310 = .ok (.aload_n 0, 1) := by decide +kernel
theorem d_law_311 : decode code 311 = .ok (.iload_n 3, 1) := by decide +kernel
theorem d_law_312 : decode code 312 = .ok (.iconst 1, 1) := by decide +kernel
theorem d_law_313 : decode code 313 = .ok (.iadd, 1) := by decide +kernel
theorem d_law_314 : decode code 314 = .ok (.iaload, 1) := by decide +kernel
theorem d_law_315 : decode code 315 = .ok (.invokevirtual 47, 3) := by decide +kernel
theorem d_law_318 : decode code 318 = .ok (.aload_n 2, 1) := by decide +kernel
theorem d_law_319 : decode code 319 = .ok (.aload_n 0, 1) := by decide +kernel
theorem d_law_320 : decode code 320 = .ok (.iload_n 3, 1) := by decide +kernel
theorem d_law_321 : decode code 321 = .ok (.iconst 1, 1) := by decide +kernel
theorem d_law_322 : decode code 322 = .ok (.iadd, 1) := by decide +kernel
theorem d_law_323 : decode code 323 = .ok (.iaload, 1) := by decide +kernel
theorem d_law_324 : decode code 324 = .ok (.invokevirtual 50, 3) := by decide +kernel
theorem d_law_327 : decode code 327 = .ok (.if_icmp .eq 175, 3) := by decide +kernel
theorem d_law_330 : decode code 330 = .ok (.iconst 0, 1) := by decide +kernel
theorem d_law_331 : decode code 331 = .ok (.ireturn, 1) := by decide +kernel
theorem d_law_332 : decode code 332 = .ok (.aload_n 1, 1) := by decide +kernel
theorem d_law_333 : decode code 333 = .ok (.aload_n 0, 1) := by decide +kernel
theorem d_law_334 : decode code 334 = .ok (.iload_n 3, 1) := by decide +kernel
theorem d_law_335 : decode code 335 = .ok (.iconst 1, 1) := by decide +kernel
theorem d_law_336 : decode code 336 = .ok (.iadd, 1) := by decide +kernel
theorem d_law_337 : decode code 337 = .ok (.iaload, 1) := by decide +kernel
theorem d_law_338 : decode code 338 = .ok (.invokevirtual 51, 3) := by decide +kernel
theorem d_law_341 : decode code 341 = .ok (.aload_n 2, 1) := by decide +kernel
theorem d_law_342 : decode code 342 = .ok (.aload_n 0, 1) := by decide +kernel
theorem d_law_343 : decode code 343 = .ok (.iload_n 3, 1) := by decide +kernel
theorem d_law_344 : decode code 344 = .ok (.iconst 1, 1) := by decide +kernel
theorem d_law_345 : decode code 345 = .ok (.iadd, 1) := by decide +kernel
theorem d_law_346 : decode code 346 = .ok (.iaload, 1) := by decide +kernel
theorem d_law_347 : decode code 347 = .ok (.invokevirtual 54, 3) := by decide +kernel
theorem d_law_350 : decode code 350 = .ok (.if_icmp .eq 152, 3) := by decide +kernel
theorem d_law_353 : decode code 353 = .ok (.iconst 0, 1) := by decide +kernel
theorem d_law_354 : decode code 354 = .ok (.ireturn, 1) := by decide +kernel
theorem d_law_355 : decode code 355 = .ok (.aload_n 1, 1) := by decide +kernel
theorem d_law_356 : decode code 356 = .ok (.aload_n 0, 1) := by decide +kernel
theorem d_law_357 : decode code 357 = .ok (.iload_n 3, 1) := by decide +kernel
theorem d_law_358 : decode code 358 = .ok (.iconst 1, 1) := by decide +kernel
theorem d_law_359 : decode code 359 = .ok (.iadd, 1) := by decide +kernel
theorem d_law_360 : decode code 360 = .ok (.iaload, 1) := by decide +kernel
theorem d_law_361 : decode code 361 = .ok (.invokevirtual 55, 3) := by decide +kernel
theorem d_law_364 : decode code 364 = .ok (.aload_n 2, 1) := by decide +kernel
theorem d_law_365 : decode code 365 = .ok (.aload_n 0, 1) := by decide +kernel
theorem d_law_366 : decode code 366 = .ok (.iload_n 3, 1) := by decide +kernel
theorem d_law_367 : decode code 367 = .ok (.iconst 1, 1) := by decide +kernel
theorem d_law_368 : decode code 368 = .ok (.iadd, 1) := by decide +kernel
theorem d_law_369 : decode code 369 = .ok (.iaload, 1) := by decide +kernel
theorem d_law_370 : decode code 370 = .ok (.invokevirtual 58, 3) := by decide +kernel
theorem d_law_373 : decode code 373 = .ok (.if_icmp .eq 129, 3) := by decide +kernel
theorem d_law_376 : decode code 376 = .ok (.iconst 0, 1) := by decide +kernel
theorem d_law_377 : decode code 377 = .ok (.ireturn, 1) := by decide +kernel
theorem d_law_378 : decode code 378 = .ok (.aload_n 1, 1) := by decide +kernel
theorem d_law_379 : decode code 379 = .ok (.aload_n 0, 1) := by decide +kernel
theorem d_law_380 : decode code 380 = .ok (.iload_n 3, 1) := by decide +kernel
theorem d_law_381 : decode code 381 = .ok (.iconst 1, 1) := by decide +kernel
theorem d_law_382 : decode code 382 = .ok (.iadd, 1) := by decide +kernel
theorem d_law_383 : decode code 383 = .ok (.iaload, 1) := by decide +kernel
theorem d_law_384 : decode code 384 = .ok (.invokevirtual 59, 3) := by decide +kernel
theorem d_law_387 : decode code 387 = .ok (.aload_n 2, 1) := by decide +kernel
theorem d_law_388 : decode code 388 = .ok (.aload_n 0, 1) := by decide +kernel
theorem d_law_389 : decode code 389 = .ok (.iload_n 3, 1) := by decide +kernel
theorem d_law_390 : decode code 390 = .ok (.iconst 1, 1) := by decide +kernel
theorem d_law_391 : decode code 391 = .ok (.iadd, 1) := by decide +kernel
theorem d_law_392 : decode code 392 = .ok (.iaload, 1) := by decide +kernel
theorem d_law_393 : decode code 393 = .ok (.invokevirtual 62, 3) := by decide +kernel
theorem d_law_396 : decode code 396 = .ok (.if_icmp .eq 106, 3) := by decide +kernel
theorem d_law_399 : decode code 399 = .ok (.iconst 0, 1) := by decide +kernel
theorem d_law_400 : decode code 400 = .ok (.ireturn, 1) := by decide +kernel
theorem d_law_401 : decode code 401 = .ok (.aload_n 1, 1) := by decide +kernel
theorem d_law_402 : decode code 402 = .ok (.aload_n 0, 1) := by decide +kernel
theorem d_law_403 : decode code 403 = .ok (.iload_n 3, 1) := by decide +kernel
theorem d_law_404 : decode code 404 = .ok (.iconst 1, 1) := by decide +kernel
theorem d_law_405 : decode code 405 = .ok (.iadd, 1) := by decide +kernel
theorem d_law_406 : decode code 406 = .ok (.iaload, 1) := by decide +kernel
theorem d_law_407 : decode code 407 = .ok (.aload_n 0, 1) := by decide +kernel
theorem d_law_408 : decode code 408 = .ok (.iload_n 3, 1) := by decide +kernel
theorem d_law_409 : decode code 409 = .ok (.iconst 2, 1) := by decide +kernel
theorem d_law_410 : decode code 410 = .ok (.iadd, 1) := by decide +kernel
theorem d_law_411 : decode code 411 = .ok (.iaload, 1) := by decide +kernel
theorem d_law_412 : decode code 412 = .ok (.invokevirtual 63, 3) := by decide +kernel
theorem d_law_415 : decode code 415 = .ok (.aload_n 2, 1) := by decide +kernel
theorem d_law_416 : decode code 416 = .ok (.aload_n 0, 1) := by decide +kernel
theorem d_law_417 : decode code 417 = .ok (.iload_n 3, 1) := by decide +kernel
theorem d_law_418 : decode code 418 = .ok (.iconst 1, 1) := by decide +kernel
theorem d_law_419 : decode code 419 = .ok (.iadd, 1) := by decide +kernel
theorem d_law_420 : decode code 420 = .ok (.iaload, 1) := by decide +kernel
theorem d_law_421 : decode code 421 = .ok (.aload_n 0, 1) := by decide +kernel
theorem d_law_422 : decode code 422 = .ok (.iload_n 3, 1) := by decide +kernel
theorem d_law_423 : decode code 423 = .ok (.iconst 2, 1) := by decide +kernel
theorem d_law_424 : decode code 424 = .ok (.iadd, 1) := by decide +kernel
theorem d_law_425 : decode code 425 = .ok (.iaload, 1) := by decide +kernel
theorem d_law_426 : decode code 426 = .ok (.invokevirtual 67, 3) := by decide +kernel
theorem d_law_429 : decode code 429 = .ok (.if_icmp .eq 73, 3) := by decide +kernel
theorem d_law_432 : decode code 432 = .ok (.iconst 0, 1) := by decide +kernel
theorem d_law_433 : decode code 433 = .ok (.ireturn, 1) := by decide +kernel
theorem d_law_434 : decode code 434 = .ok (.aload_n 1, 1) := by decide +kernel
theorem d_law_435 : decode code 435 = .ok (.aload_n 0, 1) := by decide +kernel
theorem d_law_436 : decode code 436 = .ok (.iload_n 3, 1) := by decide +kernel
theorem d_law_437 : decode code 437 = .ok (.iconst 1, 1) := by decide +kernel
theorem d_law_438 : decode code 438 = .ok (.iadd, 1) := by decide +kernel
theorem d_law_439 : decode code 439 = .ok (.iaload, 1) := by decide +kernel
theorem d_law_440 : decode code 440 = .ok (.aload_n 0, 1) := by decide +kernel
theorem d_law_441 : decode code 441 = .ok (.iload_n 3, 1) := by decide +kernel
theorem d_law_442 : decode code 442 = .ok (.iconst 2, 1) := by decide +kernel
theorem d_law_443 : decode code 443 = .ok (.iadd, 1) := by decide +kernel
theorem d_law_444 : decode code 444 = .ok (.iaload, 1) := by decide +kernel
theorem d_law_445 : decode code 445 = .ok (.invokevirtual 68, 3) := by decide +kernel
theorem d_law_448 : decode code 448 = .ok (.aload_n 2, 1) := by decide +kernel
theorem d_law_449 : decode code 449 = .ok (.aload_n 0, 1) := by decide +kernel
theorem d_law_450 : decode code 450 = .ok (.iload_n 3, 1) := by decide +kernel
theorem d_law_451 : decode code 451 = .ok (.iconst 1, 1) := by decide +kernel
theorem d_law_452 : decode code 452 = .ok (.iadd, 1) := by decide +kernel
theorem d_law_453 : decode code 453 = .ok (.iaload, 1) := by decide +kernel
theorem d_law_454 : decode code 454 = .ok (.aload_n 0, 1) := by decide +kernel
theorem d_law_455 : decode code 455 = .ok (.iload_n 3, 1) := by decide +kernel
theorem d_law_456 : decode code 456 = .ok (.iconst 2, 1) := by decide +kernel
theorem d_law_457 : decode code 457 = .ok (.iadd, 1) := by decide +kernel
theorem d_law_458 : decode code 458 = .ok (.iaload, 1) := by decide +kernel
theorem d_law_459 : decode code 459 = .ok (.invokevirtual 72, 3) := by decide +kernel
theorem d_law_462 : decode code 462 = .ok (.lcmp, 1) := by decide +kernel
theorem d_law_463 : decode code 463 = .ok (.ifCond .eq 39, 3) := by decide +kernel
theorem d_law_466 : decode code 466 = .ok (.iconst 0, 1) := by decide +kernel
theorem d_law_467 : decode code 467 = .ok (.ireturn, 1) := by decide +kernel
theorem d_law_468 : decode code 468 = .ok (.aload_n 1, 1) := by decide +kernel
theorem d_law_469 : decode code 469 = .ok (.aload_n 0, 1) := by decide +kernel
theorem d_law_470 : decode code 470 = .ok (.iload_n 3, 1) := by decide +kernel
theorem d_law_471 : decode code 471 = .ok (.iconst 1, 1) := by decide +kernel
theorem d_law_472 : decode code 472 = .ok (.iadd, 1) := by decide +kernel
theorem d_law_473 : decode code 473 = .ok (.iaload, 1) := by decide +kernel
theorem d_law_474 : decode code 474 = .ok (.invokevirtual 73, 3) := by decide +kernel
theorem d_law_477 : decode code 477 = .ok (.aload_n 2, 1) := by decide +kernel
theorem d_law_478 : decode code 478 = .ok (.aload_n 0, 1) := by decide +kernel
theorem d_law_479 : decode code 479 = .ok (.iload_n 3, 1) := by decide +kernel
theorem d_law_480 : decode code 480 = .ok (.iconst 1, 1) := by decide +kernel
theorem d_law_481 : decode code 481 = .ok (.iadd, 1) := by decide +kernel
theorem d_law_482 : decode code 482 = .ok (.iaload, 1) := by decide +kernel
theorem d_law_483 : decode code 483 = .ok (.invokevirtual 76, 3) := by decide +kernel
theorem d_law_486 : decode code 486 = .ok (.if_icmp .eq 16, 3) := by decide +kernel
theorem d_law_489 : decode code 489 = .ok (.iconst 0, 1) := by decide +kernel
theorem d_law_490 : decode code 490 = .ok (.ireturn, 1) := by decide +kernel
theorem d_law_491 : decode code 491 = .ok (.aload_n 1, 1) := by decide +kernel
theorem d_law_492 : decode code 492 = .ok (.invokevirtual 77, 3) := by decide +kernel
theorem d_law_495 : decode code 495 = .ok (.aload_n 2, 1) := by decide +kernel
theorem d_law_496 : decode code 496 = .ok (.invokevirtual 80, 3) := by decide +kernel
theorem d_law_499 : decode code 499 = .ok (.goto 3, 3) := by decide +kernel
theorem d_law_502 : decode code 502 = .ok (.iinc 3 5, 3) := by decide +kernel
theorem d_law_505 : decode code 505 = .ok (.goto (-487), 3) := by decide +kernel
theorem d_law_508 : decode code 508 = .ok (.iconst 1, 1) := by decide +kernel
theorem d_law_509 : decode code 509 = .ok (.ireturn, 1) := by decide +kernel
set_option maxHeartbeats 4000000 in
set_option maxRecDepth 100000 in
theorem lw_b0 {p : Program} {l : Launch} {e : Env} {s : State} {m : MethodId} {below : List Frame} {meth : Method} {c : Code} {D : va_G} {B bs L : Nat} {xs : Nat → Int32} (hL : L ≤ 2560) (C0 : lw_At p s m meth c bs L xs) (hB0 : B = s.heap.size) (hK : va_K D classes (hp_T D) s) {q0 q1 : Nat} {ad : Nat → Nat} {i : Nat} (hi : 5 * i + 5 ≤ L) {M : hp_M} {H : Heap} {locs : List Loc} {ls : Array Slot} {σ : sg_S} {th of sl : Int32} {ct : Nat → Nat → Int32} {cl : Nat → Nat → Int64} (hac0 : sg_ac σ ≤ i) (hsw : sw_H D M q0 σ (lw_F q1 ad)) (hm : md_H D M q1 ad th of sl ct cl) (hR : mo_R σ (fun _ => sg_sl σ - 1) of sl ct cl) (hinv : sg_inv σ) (hsei : sg_sei σ) (hH : hp_H D B M H) (hS : va_S (hp_ub B) s.heap H locs) (hl : lv_has ls 4 [(3, .int (nI (5 * i))), (0, .ref bs), (1, .ref q0), (2, .ref q1)]) (K : lw_K p l e s m below meth c D B bs q0 q1 ad i) : W p l e room_1 s m #[Value.ref bs] below meth c H locs (53 + i) (25008 + 8 * i) (lw_Z below #[Value.ref bs] s) (F0 m 108 ls []) := by
  obtain ⟨hx, hb, hr, hml, hown, hts0, hX, hbl, hlocks, hgv⟩ := C0
  have hts : ∀ w ∈ wd_T, w.before #[Value.ref bs] s = true := fun w h => hts0 w (wd_out h)
  have hB : B ≤ s.heap.size := by omega
  have hbA : ¬ hp_ub B bs := fun w => by have w : B ≤ bs := w; omega
  have hac : sg_ac σ ≤ 512 := by omega
  have hsw0 := hsw
  obtain ⟨aI, aO, fI, fO, oa, la, ip, op, sp, lp, LQ, ow, ⟨h1, -⟩, -⟩ := hsw0
  refine lv_aload_n hx hb d_law_108 rfl (lv_at hl 2 rfl) ?_
  refine lv_aload_n hx hb d_law_109 rfl (lv_at hl 1 rfl) ?_
  refine lv_iload_n hx hb d_law_110 rfl (lv_at hl 0 rfl) ?_
  refine lv_iconst (v := 1) hx hb d_law_111 (by decide) ?_
  refine lv_iadd hx hb d_law_112 ?_
  refine hp_sld hx hb hX hbl hbA hS (5 * i + 1) (nI_1 _) (by omega) (by omega) d_law_113 ?_
  refine lv_aload_n hx hb d_law_114 rfl (lv_at hl 1 rfl) ?_
  refine lv_iload_n hx hb d_law_115 rfl (lv_at hl 0 rfl) ?_
  refine lv_iconst (v := 2) hx hb d_law_116 (by decide) ?_
  refine lv_iadd hx hb d_law_117 ?_
  refine hp_sld hx hb hX hbl hbA hS (5 * i + 2) (nI_add _ 2) (by omega) (by omega) d_law_118 ?_
  refine hp_calli (hp_runV (b := q0) (As := [.int (xs (5 * i + 1)), .int (xs (5 * i + 2))]) (rest := []) hx hb hml hown (cn_Sw_setOrder l D B M q0 σ (lw_F q1 ad) (xs (5 * i + 1)) (xs (5 * i + 2)) hsw hinv hac) (hp_cwV 2 hts kw_202 kw_204 kw_205 kw_2 kw_203 rfl rfl (by decide +kernel) ⟨(Nat.le_of_ble_eq_true rfl), (Nat.le_of_ble_eq_true rfl)⟩) hK hH h1 rfl rfl hl.1 rfl (Nat.le_of_ble_eq_true rfl) d_law_119 ⟨by show _ ≤ 600000; omega, by show _ ≤ 7302249; omega⟩) hS (fun r_1 M_2 H locs w_3 hH hS => ?_)
  obtain ⟨τ, t1, hs1, fr1⟩ := w_3
  have hm1 := lw_md hm fr1
  refine lv_aload_n hx hb d_law_122 rfl (lv_at hl 3 rfl) ?_
  refine lv_aload_n hx hb d_law_123 rfl (lv_at hl 1 rfl) ?_
  refine lv_iload_n hx hb d_law_124 rfl (lv_at hl 0 rfl) ?_
  refine lv_iconst (v := 1) hx hb d_law_125 (by decide) ?_
  refine lv_iadd hx hb d_law_126 ?_
  refine hp_sld hx hb hX hbl hbA hS (5 * i + 1) (nI_1 _) (by omega) (by omega) d_law_127 ?_
  refine lv_aload_n hx hb d_law_128 rfl (lv_at hl 1 rfl) ?_
  refine lv_iload_n hx hb d_law_129 rfl (lv_at hl 0 rfl) ?_
  refine lv_iconst (v := 2) hx hb d_law_130 (by decide) ?_
  refine lv_iadd hx hb d_law_131 ?_
  refine hp_sld hx hb hX hbl hbA hS (5 * i + 2) (nI_add _ 2) (by omega) (by omega) d_law_132 ?_
  refine hp_calli (hp_runV (b := q1) (As := [.int (xs (5 * i + 1)), .int (xs (5 * i + 2))]) (rest := [.int r_1]) hx hb hml hown (cn_Md_setOrder l D B M_2 q1 ad th of sl ct cl σ (xs (5 * i + 1)) (xs (5 * i + 2)) hm1 hR hinv hac hsei) (hp_cwV 2 hts kw_206 kw_208 kw_209 kw_137 kw_207 rfl rfl (by decide +kernel) ⟨(Nat.le_of_ble_eq_true rfl), (Nat.le_of_ble_eq_true rfl)⟩) hK hH hm1.1 rfl rfl hl.1 rfl (Nat.le_of_ble_eq_true rfl) d_law_133 ⟨by show _ ≤ 600000; omega, by show _ ≤ 7302249; omega⟩) hS (fun r_4 M_5 H locs w_6 hH hS => ?_)
  obtain ⟨τ', of', ct', t2, hm', hf', hR'⟩ := w_6
  obtain ⟨er, eτ⟩ := tr_setOrder_1 t1 t2
  rw [eτ] at hs1
  obtain ⟨iv1, iv2⟩ := tr_setOrder_inv t2 hinv
  refine lv_icmp_eq (tgt := 502) hx hb d_law_136 (by decide) (fun c_7 => ?_) (fun c_7 => absurd er c_7)
  refine W.widen (k := 53 + (i + 1)) (n := 25008 + 8 * (i + 1)) (by omega) (by omega) ?_
  exact K M_5 _ _ ls τ' 0 of' sl ct' cl (by omega) (lw_sw hs1 hf' hm') hm' hR' iv1 (tr_setOrder_sei t2 hsei) hH hS (lv_sub hl [0, 1, 2, 3] rfl)
set_option maxHeartbeats 4000000 in
set_option maxRecDepth 100000 in
theorem lw_b1 {p : Program} {l : Launch} {e : Env} {s : State} {m : MethodId} {below : List Frame} {meth : Method} {c : Code} {D : va_G} {B bs L : Nat} {xs : Nat → Int32} (hL : L ≤ 2560) (C0 : lw_At p s m meth c bs L xs) (hB0 : B = s.heap.size) (hK : va_K D classes (hp_T D) s) {q0 q1 : Nat} {ad : Nat → Nat} {i : Nat} (hi : 5 * i + 5 ≤ L) {M : hp_M} {H : Heap} {locs : List Loc} {ls : Array Slot} {σ : sg_S} {th of sl : Int32} {ct : Nat → Nat → Int32} {cl : Nat → Nat → Int64} (hac0 : sg_ac σ ≤ i) (hsw : sw_H D M q0 σ (lw_F q1 ad)) (hm : md_H D M q1 ad th of sl ct cl) (hR : mo_R σ (fun _ => sg_sl σ - 1) of sl ct cl) (hinv : sg_inv σ) (hsei : sg_sei σ) (hH : hp_H D B M H) (hS : va_S (hp_ub B) s.heap H locs) (hl : lv_has ls 4 [(3, .int (nI (5 * i))), (0, .ref bs), (1, .ref q0), (2, .ref q1)]) (K : lw_K p l e s m below meth c D B bs q0 q1 ad i) : W p l e room_1 s m #[Value.ref bs] below meth c H locs (53 + i) (25008 + 8 * i) (lw_Z below #[Value.ref bs] s) (F0 m 141 ls []) := by
  obtain ⟨hx, hb, hr, hml, hown, hts0, hX, hbl, hlocks, hgv⟩ := C0
  have hts : ∀ w ∈ wd_T, w.before #[Value.ref bs] s = true := fun w h => hts0 w (wd_out h)
  have hB : B ≤ s.heap.size := by omega
  have hbA : ¬ hp_ub B bs := fun w => by have w : B ≤ bs := w; omega
  have hac : sg_ac σ ≤ 512 := by omega
  have hsw0 := hsw
  obtain ⟨aI, aO, fI, fO, oa, la, ip, op, sp, lp, LQ, ow, ⟨h1, -⟩, -⟩ := hsw0
  refine lv_aload_n hx hb d_law_141 rfl (lv_at hl 2 rfl) ?_
  refine lv_aload_n hx hb d_law_142 rfl (lv_at hl 1 rfl) ?_
  refine lv_iload_n hx hb d_law_143 rfl (lv_at hl 0 rfl) ?_
  refine lv_iconst (v := 1) hx hb d_law_144 (by decide) ?_
  refine lv_iadd hx hb d_law_145 ?_
  refine hp_sld hx hb hX hbl hbA hS (5 * i + 1) (nI_1 _) (by omega) (by omega) d_law_146 ?_
  refine lv_aload_n hx hb d_law_147 rfl (lv_at hl 1 rfl) ?_
  refine lv_iload_n hx hb d_law_148 rfl (lv_at hl 0 rfl) ?_
  refine lv_iconst (v := 2) hx hb d_law_149 (by decide) ?_
  refine lv_iadd hx hb d_law_150 ?_
  refine hp_sld hx hb hX hbl hbA hS (5 * i + 2) (nI_add _ 2) (by omega) (by omega) d_law_151 ?_
  refine lv_aload_n hx hb d_law_152 rfl (lv_at hl 1 rfl) ?_
  refine lv_iload_n hx hb d_law_153 rfl (lv_at hl 0 rfl) ?_
  refine lv_iconst (v := 3) hx hb d_law_154 (by decide) ?_
  refine lv_iadd hx hb d_law_155 ?_
  refine hp_sld hx hb hX hbl hbA hS (5 * i + 3) (nI_add _ 3) (by omega) (by omega) d_law_156 ?_
  refine hp_calli (hp_runV (b := q0) (As := [.int (xs (5 * i + 1)), .int (xs (5 * i + 2)), .int (xs (5 * i + 3))]) (rest := []) hx hb hml hown (cn_Sw_setWeight l D B M q0 σ (lw_F q1 ad) (xs (5 * i + 1)) (xs (5 * i + 2)) (xs (5 * i + 3)) hsw hinv hac) (hp_cwV 3 hts kw_210 kw_212 kw_213 kw_2 kw_211 rfl rfl (by decide +kernel) ⟨(Nat.le_of_ble_eq_true rfl), (Nat.le_of_ble_eq_true rfl)⟩) hK hH h1 rfl rfl hl.1 rfl (Nat.le_of_ble_eq_true rfl) d_law_157 ⟨by show _ ≤ 600000; omega, by show _ ≤ 7302249; omega⟩) hS (fun r_1 M_2 H locs w_3 hH hS => ?_)
  obtain ⟨τ, t1, hs1, fr1⟩ := w_3
  have hm1 := lw_md hm fr1
  refine lv_aload_n hx hb d_law_160 rfl (lv_at hl 3 rfl) ?_
  refine lv_aload_n hx hb d_law_161 rfl (lv_at hl 1 rfl) ?_
  refine lv_iload_n hx hb d_law_162 rfl (lv_at hl 0 rfl) ?_
  refine lv_iconst (v := 1) hx hb d_law_163 (by decide) ?_
  refine lv_iadd hx hb d_law_164 ?_
  refine hp_sld hx hb hX hbl hbA hS (5 * i + 1) (nI_1 _) (by omega) (by omega) d_law_165 ?_
  refine lv_aload_n hx hb d_law_166 rfl (lv_at hl 1 rfl) ?_
  refine lv_iload_n hx hb d_law_167 rfl (lv_at hl 0 rfl) ?_
  refine lv_iconst (v := 2) hx hb d_law_168 (by decide) ?_
  refine lv_iadd hx hb d_law_169 ?_
  refine hp_sld hx hb hX hbl hbA hS (5 * i + 2) (nI_add _ 2) (by omega) (by omega) d_law_170 ?_
  refine lv_aload_n hx hb d_law_171 rfl (lv_at hl 1 rfl) ?_
  refine lv_iload_n hx hb d_law_172 rfl (lv_at hl 0 rfl) ?_
  refine lv_iconst (v := 3) hx hb d_law_173 (by decide) ?_
  refine lv_iadd hx hb d_law_174 ?_
  refine hp_sld hx hb hX hbl hbA hS (5 * i + 3) (nI_add _ 3) (by omega) (by omega) d_law_175 ?_
  refine hp_calli (hp_runV (b := q1) (As := [.int (xs (5 * i + 1)), .int (xs (5 * i + 2)), .int (xs (5 * i + 3))]) (rest := [.int r_1]) hx hb hml hown (cn_Md_setWeight l D B M_2 q1 ad th of sl ct cl σ (xs (5 * i + 1)) (xs (5 * i + 2)) (xs (5 * i + 3)) hm1 hR hinv hac hsei) (hp_cwV 3 hts kw_214 kw_216 kw_217 kw_137 kw_215 rfl rfl (by decide +kernel) ⟨(Nat.le_of_ble_eq_true rfl), (Nat.le_of_ble_eq_true rfl)⟩) hK hH hm1.1 rfl rfl hl.1 rfl (Nat.le_of_ble_eq_true rfl) d_law_176 ⟨by show _ ≤ 600000; omega, by show _ ≤ 7302249; omega⟩) hS (fun r_4 M_5 H locs w_6 hH hS => ?_)
  obtain ⟨τ', of', ct', t2, hm', hf', hR'⟩ := w_6
  obtain ⟨er, eτ⟩ := tr_setWeight_1 t1 t2
  rw [eτ] at hs1
  obtain ⟨iv1, iv2⟩ := tr_setWeight_inv t2 hinv
  refine lv_icmp_eq (tgt := 502) hx hb d_law_179 (by decide) (fun c_7 => ?_) (fun c_7 => absurd er c_7)
  refine W.widen (k := 53 + (i + 1)) (n := 25008 + 8 * (i + 1)) (by omega) (by omega) ?_
  exact K M_5 _ _ ls τ' 0 of' sl ct' cl (by omega) (lw_sw hs1 hf' hm') hm' hR' iv1 (tr_setWeight_sei t2 hsei) hH hS (lv_sub hl [0, 1, 2, 3] rfl)
set_option maxHeartbeats 4000000 in
set_option maxRecDepth 100000 in
theorem lw_b2 {p : Program} {l : Launch} {e : Env} {s : State} {m : MethodId} {below : List Frame} {meth : Method} {c : Code} {D : va_G} {B bs L : Nat} {xs : Nat → Int32} (hL : L ≤ 2560) (C0 : lw_At p s m meth c bs L xs) (hB0 : B = s.heap.size) (hK : va_K D classes (hp_T D) s) {q0 q1 : Nat} {ad : Nat → Nat} {i : Nat} (hi : 5 * i + 5 ≤ L) {M : hp_M} {H : Heap} {locs : List Loc} {ls : Array Slot} {σ : sg_S} {th of sl : Int32} {ct : Nat → Nat → Int32} {cl : Nat → Nat → Int64} (hac0 : sg_ac σ ≤ i) (hsw : sw_H D M q0 σ (lw_F q1 ad)) (hm : md_H D M q1 ad th of sl ct cl) (hR : mo_R σ (fun _ => sg_sl σ - 1) of sl ct cl) (hinv : sg_inv σ) (hsei : sg_sei σ) (hH : hp_H D B M H) (hS : va_S (hp_ub B) s.heap H locs) (hl : lv_has ls 4 [(3, .int (nI (5 * i))), (0, .ref bs), (1, .ref q0), (2, .ref q1)]) (K : lw_K p l e s m below meth c D B bs q0 q1 ad i) : W p l e room_1 s m #[Value.ref bs] below meth c H locs (53 + i) (25008 + 8 * i) (lw_Z below #[Value.ref bs] s) (F0 m 184 ls []) := by
  obtain ⟨hx, hb, hr, hml, hown, hts0, hX, hbl, hlocks, hgv⟩ := C0
  have hts : ∀ w ∈ wd_T, w.before #[Value.ref bs] s = true := fun w h => hts0 w (wd_out h)
  have hB : B ≤ s.heap.size := by omega
  have hbA : ¬ hp_ub B bs := fun w => by have w : B ≤ bs := w; omega
  have hac : sg_ac σ ≤ 512 := by omega
  have hsw0 := hsw
  obtain ⟨aI, aO, fI, fO, oa, la, ip, op, sp, lp, LQ, ow, ⟨h1, -⟩, -⟩ := hsw0
  refine lv_aload_n hx hb d_law_184 rfl (lv_at hl 2 rfl) ?_
  refine lv_aload_n hx hb d_law_185 rfl (lv_at hl 1 rfl) ?_
  refine lv_iload_n hx hb d_law_186 rfl (lv_at hl 0 rfl) ?_
  refine lv_iconst (v := 1) hx hb d_law_187 (by decide) ?_
  refine lv_iadd hx hb d_law_188 ?_
  refine hp_sld hx hb hX hbl hbA hS (5 * i + 1) (nI_1 _) (by omega) (by omega) d_law_189 ?_
  refine lv_aload_n hx hb d_law_190 rfl (lv_at hl 1 rfl) ?_
  refine lv_iload_n hx hb d_law_191 rfl (lv_at hl 0 rfl) ?_
  refine lv_iconst (v := 2) hx hb d_law_192 (by decide) ?_
  refine lv_iadd hx hb d_law_193 ?_
  refine hp_sld hx hb hX hbl hbA hS (5 * i + 2) (nI_add _ 2) (by omega) (by omega) d_law_194 ?_
  refine lv_aload_n hx hb d_law_195 rfl (lv_at hl 1 rfl) ?_
  refine lv_iload_n hx hb d_law_196 rfl (lv_at hl 0 rfl) ?_
  refine lv_iconst (v := 3) hx hb d_law_197 (by decide) ?_
  refine lv_iadd hx hb d_law_198 ?_
  refine hp_sld hx hb hX hbl hbA hS (5 * i + 3) (nI_add _ 3) (by omega) (by omega) d_law_199 ?_
  refine lv_aload_n hx hb d_law_200 rfl (lv_at hl 1 rfl) ?_
  refine lv_iload_n hx hb d_law_201 rfl (lv_at hl 0 rfl) ?_
  refine lv_iconst (v := 4) hx hb d_law_202 (by decide) ?_
  refine lv_iadd hx hb d_law_203 ?_
  refine hp_sld hx hb hX hbl hbA hS (5 * i + 4) (nI_add _ 4) (by omega) (by omega) d_law_204 ?_
  refine hp_calli (hp_runV (b := q0) (As := [.int (xs (5 * i + 1)), .int (xs (5 * i + 2)), .int (xs (5 * i + 3)), .int (xs (5 * i + 4))]) (rest := []) hx hb hml hown (cn_Sw_offer l D B M q0 σ (lw_F q1 ad) (xs (5 * i + 1)) (xs (5 * i + 2)) (xs (5 * i + 3)) (xs (5 * i + 4)) hsw hinv hac) (hp_cwV 4 hts kw_218 kw_220 kw_221 kw_2 kw_219 rfl rfl (by decide +kernel) ⟨(Nat.le_of_ble_eq_true rfl), (Nat.le_of_ble_eq_true rfl)⟩) hK hH h1 rfl rfl hl.1 rfl (Nat.le_of_ble_eq_true rfl) d_law_205 ⟨by show _ ≤ 600000; omega, by show _ ≤ 7302249; omega⟩) hS (fun r_1 M_2 H locs w_3 hH hS => ?_)
  obtain ⟨τ, t1, hs1, fr1⟩ := w_3
  have hm1 := lw_md hm fr1
  refine lv_aload_n hx hb d_law_208 rfl (lv_at hl 3 rfl) ?_
  refine lv_aload_n hx hb d_law_209 rfl (lv_at hl 1 rfl) ?_
  refine lv_iload_n hx hb d_law_210 rfl (lv_at hl 0 rfl) ?_
  refine lv_iconst (v := 1) hx hb d_law_211 (by decide) ?_
  refine lv_iadd hx hb d_law_212 ?_
  refine hp_sld hx hb hX hbl hbA hS (5 * i + 1) (nI_1 _) (by omega) (by omega) d_law_213 ?_
  refine lv_aload_n hx hb d_law_214 rfl (lv_at hl 1 rfl) ?_
  refine lv_iload_n hx hb d_law_215 rfl (lv_at hl 0 rfl) ?_
  refine lv_iconst (v := 2) hx hb d_law_216 (by decide) ?_
  refine lv_iadd hx hb d_law_217 ?_
  refine hp_sld hx hb hX hbl hbA hS (5 * i + 2) (nI_add _ 2) (by omega) (by omega) d_law_218 ?_
  refine lv_aload_n hx hb d_law_219 rfl (lv_at hl 1 rfl) ?_
  refine lv_iload_n hx hb d_law_220 rfl (lv_at hl 0 rfl) ?_
  refine lv_iconst (v := 3) hx hb d_law_221 (by decide) ?_
  refine lv_iadd hx hb d_law_222 ?_
  refine hp_sld hx hb hX hbl hbA hS (5 * i + 3) (nI_add _ 3) (by omega) (by omega) d_law_223 ?_
  refine lv_aload_n hx hb d_law_224 rfl (lv_at hl 1 rfl) ?_
  refine lv_iload_n hx hb d_law_225 rfl (lv_at hl 0 rfl) ?_
  refine lv_iconst (v := 4) hx hb d_law_226 (by decide) ?_
  refine lv_iadd hx hb d_law_227 ?_
  refine hp_sld hx hb hX hbl hbA hS (5 * i + 4) (nI_add _ 4) (by omega) (by omega) d_law_228 ?_
  refine hp_calli (hp_runV (b := q1) (As := [.int (xs (5 * i + 1)), .int (xs (5 * i + 2)), .int (xs (5 * i + 3)), .int (xs (5 * i + 4))]) (rest := [.int r_1]) hx hb hml hown (cn_Md_offer l D B M_2 q1 ad th of sl ct cl σ (xs (5 * i + 1)) (xs (5 * i + 2)) (xs (5 * i + 3)) (xs (5 * i + 4)) hm1 hR hinv hac hsei) (hp_cwV 4 hts kw_222 kw_224 kw_225 kw_137 kw_223 rfl rfl (by decide +kernel) ⟨(Nat.le_of_ble_eq_true rfl), (Nat.le_of_ble_eq_true rfl)⟩) hK hH hm1.1 rfl rfl hl.1 rfl (Nat.le_of_ble_eq_true rfl) d_law_229 ⟨by show _ ≤ 600000; omega, by show _ ≤ 7302249; omega⟩) hS (fun r_4 M_5 H locs w_6 hH hS => ?_)
  obtain ⟨τ', of', ct', t2, hm', hf', hR'⟩ := w_6
  obtain ⟨er, eτ⟩ := tr_offer_1 t1 t2
  rw [eτ] at hs1
  obtain ⟨iv1, iv2⟩ := tr_offer_inv t2 hinv
  refine lv_icmp_eq (tgt := 502) hx hb d_law_232 (by decide) (fun c_7 => ?_) (fun c_7 => absurd er c_7)
  refine W.widen (k := 53 + (i + 1)) (n := 25008 + 8 * (i + 1)) (by omega) (by omega) ?_
  exact K M_5 _ _ ls τ' 0 of' sl ct' cl (by omega) (lw_sw hs1 hf' hm') hm' hR' iv1 (tr_offer_sei t2 hsei) hH hS (lv_sub hl [0, 1, 2, 3] rfl)
set_option maxHeartbeats 4000000 in
set_option maxRecDepth 100000 in
theorem lw_b3 {p : Program} {l : Launch} {e : Env} {s : State} {m : MethodId} {below : List Frame} {meth : Method} {c : Code} {D : va_G} {B bs L : Nat} {xs : Nat → Int32} (hL : L ≤ 2560) (C0 : lw_At p s m meth c bs L xs) (hB0 : B = s.heap.size) (hK : va_K D classes (hp_T D) s) {q0 q1 : Nat} {ad : Nat → Nat} {i : Nat} (hi : 5 * i + 5 ≤ L) {M : hp_M} {H : Heap} {locs : List Loc} {ls : Array Slot} {σ : sg_S} {th of sl : Int32} {ct : Nat → Nat → Int32} {cl : Nat → Nat → Int64} (hac0 : sg_ac σ ≤ i) (hsw : sw_H D M q0 σ (lw_F q1 ad)) (hm : md_H D M q1 ad th of sl ct cl) (hR : mo_R σ (fun _ => sg_sl σ - 1) of sl ct cl) (hinv : sg_inv σ) (hsei : sg_sei σ) (hH : hp_H D B M H) (hS : va_S (hp_ub B) s.heap H locs) (hl : lv_has ls 4 [(3, .int (nI (5 * i))), (0, .ref bs), (1, .ref q0), (2, .ref q1)]) (K : lw_K p l e s m below meth c D B bs q0 q1 ad i) : W p l e room_1 s m #[Value.ref bs] below meth c H locs (53 + i) (25008 + 8 * i) (lw_Z below #[Value.ref bs] s) (F0 m 237 ls []) := by
  obtain ⟨hx, hb, hr, hml, hown, hts0, hX, hbl, hlocks, hgv⟩ := C0
  have hts : ∀ w ∈ wd_T, w.before #[Value.ref bs] s = true := fun w h => hts0 w (wd_out h)
  have hB : B ≤ s.heap.size := by omega
  have hbA : ¬ hp_ub B bs := fun w => by have w : B ≤ bs := w; omega
  have hac : sg_ac σ ≤ 512 := by omega
  have hsw0 := hsw
  obtain ⟨aI, aO, fI, fO, oa, la, ip, op, sp, lp, LQ, ow, ⟨h1, -⟩, -⟩ := hsw0
  refine lv_aload_n hx hb d_law_237 rfl (lv_at hl 2 rfl) ?_
  refine hp_calli (hp_runV (b := q0) (As := []) (rest := []) hx hb hml hown (cn_Sw_slot l D B M q0 σ (lw_F q1 ad)  hsw hinv) (hp_cwV 0 hts kw_226 kw_228 kw_229 kw_2 kw_227 rfl rfl (by decide +kernel) ⟨(Nat.le_of_ble_eq_true rfl), (Nat.le_of_ble_eq_true rfl)⟩) hK hH h1 rfl rfl hl.1 rfl (Nat.le_of_ble_eq_true rfl) d_law_238 ⟨by show _ ≤ 600000; omega, by show _ ≤ 7302249; omega⟩) hS (fun r_1 M_2 H locs w_3 hH hS => ?_)
  obtain ⟨eR, hs1, fr1⟩ := w_3
  rw [eR]
  have hm1 := lw_md hm fr1
  refine lv_aload_n hx hb d_law_241 rfl (lv_at hl 3 rfl) ?_
  refine hp_calli (hp_runV (b := q1) (As := []) (rest := [.int (nI (sg_count (sg_comes σ 8) 8))]) hx hb hml hown (cn_Md_slot l D B M_2 q1 ad th of sl ct cl σ  hm1 hR hinv hac hsei) (hp_cwV 0 hts kw_230 kw_232 kw_233 kw_137 kw_231 rfl rfl (by decide +kernel) ⟨(Nat.le_of_ble_eq_true rfl), (Nat.le_of_ble_eq_true rfl)⟩) hK hH hm1.1 rfl rfl hl.1 rfl (Nat.le_of_ble_eq_true rfl) d_law_242 ⟨by show _ ≤ 600000; omega, by show _ ≤ 7302249; omega⟩) hS (fun r_4 M_5 H locs w_6 hH hS => ?_)
  obtain ⟨ct', cl', hm', hf', eR, hR'⟩ := w_6
  rw [eR]
  refine lv_icmp_eq (tgt := 502) hx hb d_law_245 (by decide) (fun c_7 => ?_) (fun c_7 => absurd rfl c_7)
  refine W.widen (k := 53 + (i + 1)) (n := 25008 + 8 * (i + 1)) (by omega) (by omega) ?_
  exact K M_5 _ _ ls (sg_slot σ) 0 of (sl + 1) ct' cl' (by rw [sg_ac_slot]; omega) (lw_sw hs1 hf' hm') hm' hR' (sg_inv_slot hinv) (sg_sei_slot hsei hinv) hH hS (lv_sub hl [0, 1, 2, 3] rfl)
set_option maxHeartbeats 4000000 in
set_option maxRecDepth 100000 in
theorem lw_b4 {p : Program} {l : Launch} {e : Env} {s : State} {m : MethodId} {below : List Frame} {meth : Method} {c : Code} {D : va_G} {B bs L : Nat} {xs : Nat → Int32} (hL : L ≤ 2560) (C0 : lw_At p s m meth c bs L xs) (hB0 : B = s.heap.size) (hK : va_K D classes (hp_T D) s) {q0 q1 : Nat} {ad : Nat → Nat} {i : Nat} (hi : 5 * i + 5 ≤ L) {M : hp_M} {H : Heap} {locs : List Loc} {ls : Array Slot} {σ : sg_S} {th of sl : Int32} {ct : Nat → Nat → Int32} {cl : Nat → Nat → Int64} (hac0 : sg_ac σ ≤ i) (hsw : sw_H D M q0 σ (lw_F q1 ad)) (hm : md_H D M q1 ad th of sl ct cl) (hR : mo_R σ (fun _ => sg_sl σ - 1) of sl ct cl) (hinv : sg_inv σ) (hsei : sg_sei σ) (hH : hp_H D B M H) (hS : va_S (hp_ub B) s.heap H locs) (hl : lv_has ls 4 [(3, .int (nI (5 * i))), (0, .ref bs), (1, .ref q0), (2, .ref q1)]) (K : lw_K p l e s m below meth c D B bs q0 q1 ad i) : W p l e room_1 s m #[Value.ref bs] below meth c H locs (53 + i) (25008 + 8 * i) (lw_Z below #[Value.ref bs] s) (F0 m 250 ls []) := by
  obtain ⟨hx, hb, hr, hml, hown, hts0, hX, hbl, hlocks, hgv⟩ := C0
  have hts : ∀ w ∈ wd_T, w.before #[Value.ref bs] s = true := fun w h => hts0 w (wd_out h)
  have hB : B ≤ s.heap.size := by omega
  have hbA : ¬ hp_ub B bs := fun w => by have w : B ≤ bs := w; omega
  have hac : sg_ac σ ≤ 512 := by omega
  have hsw0 := hsw
  obtain ⟨aI, aO, fI, fO, oa, la, ip, op, sp, lp, LQ, ow, ⟨h1, -⟩, -⟩ := hsw0
  refine lv_aload_n hx hb d_law_250 rfl (lv_at hl 2 rfl) ?_
  refine hp_calli (hp_runV (b := q0) (As := []) (rest := []) hx hb hml hown (cn_Sw_slots l D B M q0 σ (lw_F q1 ad)  hsw) (hp_cwV 0 hts kw_234 kw_236 kw_237 kw_2 kw_235 rfl rfl (by decide +kernel) ⟨(Nat.le_of_ble_eq_true rfl), (Nat.le_of_ble_eq_true rfl)⟩) hK hH h1 rfl rfl hl.1 rfl (Nat.le_of_ble_eq_true rfl) d_law_251 ⟨by show _ ≤ 600000; omega, by show _ ≤ 7302249; omega⟩) hS (fun r_1 M_2 H locs w_3 hH hS => ?_)
  obtain ⟨eM, eR⟩ := w_3
  rw [eM] at hH
  rw [eR]
  refine lv_aload_n hx hb d_law_254 rfl (lv_at hl 3 rfl) ?_
  refine hp_calli (hp_runV (b := q1) (As := []) (rest := [.int (sg_sl σ)]) hx hb hml hown (cn_Md_slots l D B M q1 ad th of sl ct cl σ  hm hR hinv hac hsei) (hp_cwV 0 hts kw_238 kw_240 kw_241 kw_137 kw_239 rfl rfl (by decide +kernel) ⟨(Nat.le_of_ble_eq_true rfl), (Nat.le_of_ble_eq_true rfl)⟩) hK hH hm.1 rfl rfl hl.1 rfl (Nat.le_of_ble_eq_true rfl) d_law_255 ⟨by show _ ≤ 600000; omega, by show _ ≤ 7302249; omega⟩) hS (fun r_4 M_5 H locs w_6 hH hS => ?_)
  obtain ⟨hm', hf', eR⟩ := w_6
  rw [eR]
  refine lv_icmp_eq (tgt := 502) hx hb d_law_258 (by decide) (fun c_7 => ?_) (fun c_7 => absurd rfl c_7)
  refine W.widen (k := 53 + (i + 1)) (n := 25008 + 8 * (i + 1)) (by omega) (by omega) ?_
  exact K M_5 _ _ ls σ 0 of sl ct cl (by omega) (lw_sw hsw hf' hm') hm' hR hinv hsei hH hS (lv_sub hl [0, 1, 2, 3] rfl)
set_option maxHeartbeats 4000000 in
set_option maxRecDepth 100000 in
theorem lw_b5 {p : Program} {l : Launch} {e : Env} {s : State} {m : MethodId} {below : List Frame} {meth : Method} {c : Code} {D : va_G} {B bs L : Nat} {xs : Nat → Int32} (hL : L ≤ 2560) (C0 : lw_At p s m meth c bs L xs) (hB0 : B = s.heap.size) (hK : va_K D classes (hp_T D) s) {q0 q1 : Nat} {ad : Nat → Nat} {i : Nat} (hi : 5 * i + 5 ≤ L) {M : hp_M} {H : Heap} {locs : List Loc} {ls : Array Slot} {σ : sg_S} {th of sl : Int32} {ct : Nat → Nat → Int32} {cl : Nat → Nat → Int64} (hac0 : sg_ac σ ≤ i) (hsw : sw_H D M q0 σ (lw_F q1 ad)) (hm : md_H D M q1 ad th of sl ct cl) (hR : mo_R σ (fun _ => sg_sl σ - 1) of sl ct cl) (hinv : sg_inv σ) (hsei : sg_sei σ) (hH : hp_H D B M H) (hS : va_S (hp_ub B) s.heap H locs) (hl : lv_has ls 4 [(3, .int (nI (5 * i))), (0, .ref bs), (1, .ref q0), (2, .ref q1)]) (K : lw_K p l e s m below meth c D B bs q0 q1 ad i) : W p l e room_1 s m #[Value.ref bs] below meth c H locs (53 + i) (25008 + 8 * i) (lw_Z below #[Value.ref bs] s) (F0 m 263 ls []) := by
  obtain ⟨hx, hb, hr, hml, hown, hts0, hX, hbl, hlocks, hgv⟩ := C0
  have hts : ∀ w ∈ wd_T, w.before #[Value.ref bs] s = true := fun w h => hts0 w (wd_out h)
  have hB : B ≤ s.heap.size := by omega
  have hbA : ¬ hp_ub B bs := fun w => by have w : B ≤ bs := w; omega
  have hac : sg_ac σ ≤ 512 := by omega
  have hsw0 := hsw
  obtain ⟨aI, aO, fI, fO, oa, la, ip, op, sp, lp, LQ, ow, ⟨h1, -⟩, -⟩ := hsw0
  refine lv_aload_n hx hb d_law_263 rfl (lv_at hl 2 rfl) ?_
  refine lv_aload_n hx hb d_law_264 rfl (lv_at hl 1 rfl) ?_
  refine lv_iload_n hx hb d_law_265 rfl (lv_at hl 0 rfl) ?_
  refine lv_iconst (v := 1) hx hb d_law_266 (by decide) ?_
  refine lv_iadd hx hb d_law_267 ?_
  refine hp_sld hx hb hX hbl hbA hS (5 * i + 1) (nI_1 _) (by omega) (by omega) d_law_268 ?_
  refine hp_calli (hp_runV (b := q0) (As := [.int (xs (5 * i + 1))]) (rest := []) hx hb hml hown (cn_Sw_hasSent l D B M q0 σ (lw_F q1 ad) (xs (5 * i + 1)) hsw) (hp_cwV 1 hts kw_242 kw_244 kw_245 kw_2 kw_243 rfl rfl (by decide +kernel) ⟨(Nat.le_of_ble_eq_true rfl), (Nat.le_of_ble_eq_true rfl)⟩) hK hH h1 rfl rfl hl.1 rfl (Nat.le_of_ble_eq_true rfl) d_law_269 ⟨by show _ ≤ 600000; omega, by show _ ≤ 7302249; omega⟩) hS (fun r_1 M_2 H locs w_3 hH hS => ?_)
  obtain ⟨eM, eR⟩ := w_3
  rw [eM] at hH
  rw [eR]
  refine lv_aload_n hx hb d_law_272 rfl (lv_at hl 3 rfl) ?_
  refine lv_aload_n hx hb d_law_273 rfl (lv_at hl 1 rfl) ?_
  refine lv_iload_n hx hb d_law_274 rfl (lv_at hl 0 rfl) ?_
  refine lv_iconst (v := 1) hx hb d_law_275 (by decide) ?_
  refine lv_iadd hx hb d_law_276 ?_
  refine hp_sld hx hb hX hbl hbA hS (5 * i + 1) (nI_1 _) (by omega) (by omega) d_law_277 ?_
  refine hp_calli (hp_runV (b := q1) (As := [.int (xs (5 * i + 1))]) (rest := [.int (an_hasSent σ (xs (5 * i + 1)))]) hx hb hml hown (cn_Md_hasSent l D B M q1 ad th of sl ct cl σ (xs (5 * i + 1)) hm hR hinv hac hsei) (hp_cwV 1 hts kw_246 kw_248 kw_249 kw_137 kw_247 rfl rfl (by decide +kernel) ⟨(Nat.le_of_ble_eq_true rfl), (Nat.le_of_ble_eq_true rfl)⟩) hK hH hm.1 rfl rfl hl.1 rfl (Nat.le_of_ble_eq_true rfl) d_law_278 ⟨by show _ ≤ 600000; omega, by show _ ≤ 7302249; omega⟩) hS (fun r_4 M_5 H locs w_6 hH hS => ?_)
  obtain ⟨hm', hf', eR⟩ := w_6
  rw [eR]
  refine lv_icmp_eq (tgt := 502) hx hb d_law_281 (by decide) (fun c_7 => ?_) (fun c_7 => absurd rfl c_7)
  refine W.widen (k := 53 + (i + 1)) (n := 25008 + 8 * (i + 1)) (by omega) (by omega) ?_
  exact K M_5 _ _ ls σ 0 of sl ct cl (by omega) (lw_sw hsw hf' hm') hm' hR hinv hsei hH hS (lv_sub hl [0, 1, 2, 3] rfl)
set_option maxHeartbeats 4000000 in
set_option maxRecDepth 100000 in
theorem lw_b6 {p : Program} {l : Launch} {e : Env} {s : State} {m : MethodId} {below : List Frame} {meth : Method} {c : Code} {D : va_G} {B bs L : Nat} {xs : Nat → Int32} (hL : L ≤ 2560) (C0 : lw_At p s m meth c bs L xs) (hB0 : B = s.heap.size) (hK : va_K D classes (hp_T D) s) {q0 q1 : Nat} {ad : Nat → Nat} {i : Nat} (hi : 5 * i + 5 ≤ L) {M : hp_M} {H : Heap} {locs : List Loc} {ls : Array Slot} {σ : sg_S} {th of sl : Int32} {ct : Nat → Nat → Int32} {cl : Nat → Nat → Int64} (hac0 : sg_ac σ ≤ i) (hsw : sw_H D M q0 σ (lw_F q1 ad)) (hm : md_H D M q1 ad th of sl ct cl) (hR : mo_R σ (fun _ => sg_sl σ - 1) of sl ct cl) (hinv : sg_inv σ) (hsei : sg_sei σ) (hH : hp_H D B M H) (hS : va_S (hp_ub B) s.heap H locs) (hl : lv_has ls 4 [(3, .int (nI (5 * i))), (0, .ref bs), (1, .ref q0), (2, .ref q1)]) (K : lw_K p l e s m below meth c D B bs q0 q1 ad i) : W p l e room_1 s m #[Value.ref bs] below meth c H locs (53 + i) (25008 + 8 * i) (lw_Z below #[Value.ref bs] s) (F0 m 286 ls []) := by
  obtain ⟨hx, hb, hr, hml, hown, hts0, hX, hbl, hlocks, hgv⟩ := C0
  have hts : ∀ w ∈ wd_T, w.before #[Value.ref bs] s = true := fun w h => hts0 w (wd_out h)
  have hB : B ≤ s.heap.size := by omega
  have hbA : ¬ hp_ub B bs := fun w => by have w : B ≤ bs := w; omega
  have hac : sg_ac σ ≤ 512 := by omega
  have hsw0 := hsw
  obtain ⟨aI, aO, fI, fO, oa, la, ip, op, sp, lp, LQ, ow, ⟨h1, -⟩, -⟩ := hsw0
  refine lv_aload_n hx hb d_law_286 rfl (lv_at hl 2 rfl) ?_
  refine lv_aload_n hx hb d_law_287 rfl (lv_at hl 1 rfl) ?_
  refine lv_iload_n hx hb d_law_288 rfl (lv_at hl 0 rfl) ?_
  refine lv_iconst (v := 1) hx hb d_law_289 (by decide) ?_
  refine lv_iadd hx hb d_law_290 ?_
  refine hp_sld hx hb hX hbl hbA hS (5 * i + 1) (nI_1 _) (by omega) (by omega) d_law_291 ?_
  refine hp_calli (hp_runV (b := q0) (As := [.int (xs (5 * i + 1))]) (rest := []) hx hb hml hown (cn_Sw_sent l D B M q0 σ (lw_F q1 ad) (xs (5 * i + 1)) hsw) (hp_cwV 1 hts kw_250 kw_252 kw_253 kw_2 kw_251 rfl rfl (by decide +kernel) ⟨(Nat.le_of_ble_eq_true rfl), (Nat.le_of_ble_eq_true rfl)⟩) hK hH h1 rfl rfl hl.1 rfl (Nat.le_of_ble_eq_true rfl) d_law_292 ⟨by show _ ≤ 600000; omega, by show _ ≤ 7302249; omega⟩) hS (fun r_1 M_2 H locs w_3 hH hS => ?_)
  obtain ⟨eM, eR⟩ := w_3
  rw [eM] at hH
  rw [eR]
  refine lv_aload_n hx hb d_law_295 rfl (lv_at hl 3 rfl) ?_
  refine lv_aload_n hx hb d_law_296 rfl (lv_at hl 1 rfl) ?_
  refine lv_iload_n hx hb d_law_297 rfl (lv_at hl 0 rfl) ?_
  refine lv_iconst (v := 1) hx hb d_law_298 (by decide) ?_
  refine lv_iadd hx hb d_law_299 ?_
  refine hp_sld hx hb hX hbl hbA hS (5 * i + 1) (nI_1 _) (by omega) (by omega) d_law_300 ?_
  refine hp_calli (hp_runV (b := q1) (As := [.int (xs (5 * i + 1))]) (rest := [.int (an_sent σ (xs (5 * i + 1)))]) hx hb hml hown (cn_Md_sent l D B M q1 ad th of sl ct cl σ (xs (5 * i + 1)) hm hR hinv hac hsei) (hp_cwV 1 hts kw_254 kw_256 kw_257 kw_137 kw_255 rfl rfl (by decide +kernel) ⟨(Nat.le_of_ble_eq_true rfl), (Nat.le_of_ble_eq_true rfl)⟩) hK hH hm.1 rfl rfl hl.1 rfl (Nat.le_of_ble_eq_true rfl) d_law_301 ⟨by show _ ≤ 600000; omega, by show _ ≤ 7302249; omega⟩) hS (fun r_4 M_5 H locs w_6 hH hS => ?_)
  obtain ⟨hm', hf', eR⟩ := w_6
  rw [eR]
  refine lv_icmp_eq (tgt := 502) hx hb d_law_304 (by decide) (fun c_7 => ?_) (fun c_7 => absurd rfl c_7)
  refine W.widen (k := 53 + (i + 1)) (n := 25008 + 8 * (i + 1)) (by omega) (by omega) ?_
  exact K M_5 _ _ ls σ 0 of sl ct cl (by omega) (lw_sw hsw hf' hm') hm' hR hinv hsei hH hS (lv_sub hl [0, 1, 2, 3] rfl)
set_option maxHeartbeats 4000000 in
set_option maxRecDepth 100000 in
theorem lw_b7 {p : Program} {l : Launch} {e : Env} {s : State} {m : MethodId} {below : List Frame} {meth : Method} {c : Code} {D : va_G} {B bs L : Nat} {xs : Nat → Int32} (hL : L ≤ 2560) (C0 : lw_At p s m meth c bs L xs) (hB0 : B = s.heap.size) (hK : va_K D classes (hp_T D) s) {q0 q1 : Nat} {ad : Nat → Nat} {i : Nat} (hi : 5 * i + 5 ≤ L) {M : hp_M} {H : Heap} {locs : List Loc} {ls : Array Slot} {σ : sg_S} {th of sl : Int32} {ct : Nat → Nat → Int32} {cl : Nat → Nat → Int64} (hac0 : sg_ac σ ≤ i) (hsw : sw_H D M q0 σ (lw_F q1 ad)) (hm : md_H D M q1 ad th of sl ct cl) (hR : mo_R σ (fun _ => sg_sl σ - 1) of sl ct cl) (hinv : sg_inv σ) (hsei : sg_sei σ) (hH : hp_H D B M H) (hS : va_S (hp_ub B) s.heap H locs) (hl : lv_has ls 4 [(3, .int (nI (5 * i))), (0, .ref bs), (1, .ref q0), (2, .ref q1)]) (K : lw_K p l e s m below meth c D B bs q0 q1 ad i) : W p l e room_1 s m #[Value.ref bs] below meth c H locs (53 + i) (25008 + 8 * i) (lw_Z below #[Value.ref bs] s) (F0 m 309 ls []) := by
  obtain ⟨hx, hb, hr, hml, hown, hts0, hX, hbl, hlocks, hgv⟩ := C0
  have hts : ∀ w ∈ wd_T, w.before #[Value.ref bs] s = true := fun w h => hts0 w (wd_out h)
  have hB : B ≤ s.heap.size := by omega
  have hbA : ¬ hp_ub B bs := fun w => by have w : B ≤ bs := w; omega
  have hac : sg_ac σ ≤ 512 := by omega
  have hsw0 := hsw
  obtain ⟨aI, aO, fI, fO, oa, la, ip, op, sp, lp, LQ, ow, ⟨h1, -⟩, -⟩ := hsw0
  refine lv_aload_n hx hb d_law_309 rfl (lv_at hl 2 rfl) ?_
  refine lv_aload_n hx hb d_law_310 rfl (lv_at hl 1 rfl) ?_
  refine lv_iload_n hx hb d_law_311 rfl (lv_at hl 0 rfl) ?_
  refine lv_iconst (v := 1) hx hb d_law_312 (by decide) ?_
  refine lv_iadd hx hb d_law_313 ?_
  refine hp_sld hx hb hX hbl hbA hS (5 * i + 1) (nI_1 _) (by omega) (by omega) d_law_314 ?_
  refine hp_calli (hp_runV (b := q0) (As := [.int (xs (5 * i + 1))]) (rest := []) hx hb hml hown (cn_Sw_sentFrom l D B M q0 σ (lw_F q1 ad) (xs (5 * i + 1)) hsw) (hp_cwV 1 hts kw_258 kw_260 kw_261 kw_2 kw_259 rfl rfl (by decide +kernel) ⟨(Nat.le_of_ble_eq_true rfl), (Nat.le_of_ble_eq_true rfl)⟩) hK hH h1 rfl rfl hl.1 rfl (Nat.le_of_ble_eq_true rfl) d_law_315 ⟨by show _ ≤ 600000; omega, by show _ ≤ 7302249; omega⟩) hS (fun r_1 M_2 H locs w_3 hH hS => ?_)
  obtain ⟨eM, eR⟩ := w_3
  rw [eM] at hH
  rw [eR]
  refine lv_aload_n hx hb d_law_318 rfl (lv_at hl 3 rfl) ?_
  refine lv_aload_n hx hb d_law_319 rfl (lv_at hl 1 rfl) ?_
  refine lv_iload_n hx hb d_law_320 rfl (lv_at hl 0 rfl) ?_
  refine lv_iconst (v := 1) hx hb d_law_321 (by decide) ?_
  refine lv_iadd hx hb d_law_322 ?_
  refine hp_sld hx hb hX hbl hbA hS (5 * i + 1) (nI_1 _) (by omega) (by omega) d_law_323 ?_
  refine hp_calli (hp_runV (b := q1) (As := [.int (xs (5 * i + 1))]) (rest := [.int (an_sentFrom σ (xs (5 * i + 1)))]) hx hb hml hown (cn_Md_sentFrom l D B M q1 ad th of sl ct cl σ (xs (5 * i + 1)) hm hR hinv hac hsei) (hp_cwV 1 hts kw_262 kw_264 kw_265 kw_137 kw_263 rfl rfl (by decide +kernel) ⟨(Nat.le_of_ble_eq_true rfl), (Nat.le_of_ble_eq_true rfl)⟩) hK hH hm.1 rfl rfl hl.1 rfl (Nat.le_of_ble_eq_true rfl) d_law_324 ⟨by show _ ≤ 600000; omega, by show _ ≤ 7302249; omega⟩) hS (fun r_4 M_5 H locs w_6 hH hS => ?_)
  obtain ⟨hm', hf', eR⟩ := w_6
  rw [eR]
  refine lv_icmp_eq (tgt := 502) hx hb d_law_327 (by decide) (fun c_7 => ?_) (fun c_7 => absurd rfl c_7)
  refine W.widen (k := 53 + (i + 1)) (n := 25008 + 8 * (i + 1)) (by omega) (by omega) ?_
  exact K M_5 _ _ ls σ 0 of sl ct cl (by omega) (lw_sw hsw hf' hm') hm' hR hinv hsei hH hS (lv_sub hl [0, 1, 2, 3] rfl)
set_option maxHeartbeats 4000000 in
set_option maxRecDepth 100000 in
theorem lw_b8 {p : Program} {l : Launch} {e : Env} {s : State} {m : MethodId} {below : List Frame} {meth : Method} {c : Code} {D : va_G} {B bs L : Nat} {xs : Nat → Int32} (hL : L ≤ 2560) (C0 : lw_At p s m meth c bs L xs) (hB0 : B = s.heap.size) (hK : va_K D classes (hp_T D) s) {q0 q1 : Nat} {ad : Nat → Nat} {i : Nat} (hi : 5 * i + 5 ≤ L) {M : hp_M} {H : Heap} {locs : List Loc} {ls : Array Slot} {σ : sg_S} {th of sl : Int32} {ct : Nat → Nat → Int32} {cl : Nat → Nat → Int64} (hac0 : sg_ac σ ≤ i) (hsw : sw_H D M q0 σ (lw_F q1 ad)) (hm : md_H D M q1 ad th of sl ct cl) (hR : mo_R σ (fun _ => sg_sl σ - 1) of sl ct cl) (hinv : sg_inv σ) (hsei : sg_sei σ) (hH : hp_H D B M H) (hS : va_S (hp_ub B) s.heap H locs) (hl : lv_has ls 4 [(3, .int (nI (5 * i))), (0, .ref bs), (1, .ref q0), (2, .ref q1)]) (K : lw_K p l e s m below meth c D B bs q0 q1 ad i) : W p l e room_1 s m #[Value.ref bs] below meth c H locs (53 + i) (25008 + 8 * i) (lw_Z below #[Value.ref bs] s) (F0 m 332 ls []) := by
  obtain ⟨hx, hb, hr, hml, hown, hts0, hX, hbl, hlocks, hgv⟩ := C0
  have hts : ∀ w ∈ wd_T, w.before #[Value.ref bs] s = true := fun w h => hts0 w (wd_out h)
  have hB : B ≤ s.heap.size := by omega
  have hbA : ¬ hp_ub B bs := fun w => by have w : B ≤ bs := w; omega
  have hac : sg_ac σ ≤ 512 := by omega
  have hsw0 := hsw
  obtain ⟨aI, aO, fI, fO, oa, la, ip, op, sp, lp, LQ, ow, ⟨h1, -⟩, -⟩ := hsw0
  refine lv_aload_n hx hb d_law_332 rfl (lv_at hl 2 rfl) ?_
  refine lv_aload_n hx hb d_law_333 rfl (lv_at hl 1 rfl) ?_
  refine lv_iload_n hx hb d_law_334 rfl (lv_at hl 0 rfl) ?_
  refine lv_iconst (v := 1) hx hb d_law_335 (by decide) ?_
  refine lv_iadd hx hb d_law_336 ?_
  refine hp_sld hx hb hX hbl hbA hS (5 * i + 1) (nI_1 _) (by omega) (by omega) d_law_337 ?_
  refine hp_calli (hp_runV (b := q0) (As := [.int (xs (5 * i + 1))]) (rest := []) hx hb hml hown (cn_Sw_waited l D B M q0 σ (lw_F q1 ad) (xs (5 * i + 1)) hsw) (hp_cwV 1 hts kw_266 kw_268 kw_269 kw_2 kw_267 rfl rfl (by decide +kernel) ⟨(Nat.le_of_ble_eq_true rfl), (Nat.le_of_ble_eq_true rfl)⟩) hK hH h1 rfl rfl hl.1 rfl (Nat.le_of_ble_eq_true rfl) d_law_338 ⟨by show _ ≤ 600000; omega, by show _ ≤ 7302249; omega⟩) hS (fun r_1 M_2 H locs w_3 hH hS => ?_)
  obtain ⟨eM, eR⟩ := w_3
  rw [eM] at hH
  rw [eR]
  refine lv_aload_n hx hb d_law_341 rfl (lv_at hl 3 rfl) ?_
  refine lv_aload_n hx hb d_law_342 rfl (lv_at hl 1 rfl) ?_
  refine lv_iload_n hx hb d_law_343 rfl (lv_at hl 0 rfl) ?_
  refine lv_iconst (v := 1) hx hb d_law_344 (by decide) ?_
  refine lv_iadd hx hb d_law_345 ?_
  refine hp_sld hx hb hX hbl hbA hS (5 * i + 1) (nI_1 _) (by omega) (by omega) d_law_346 ?_
  refine hp_calli (hp_runV (b := q1) (As := [.int (xs (5 * i + 1))]) (rest := [.int (an_waited σ (xs (5 * i + 1)))]) hx hb hml hown (cn_Md_waited l D B M q1 ad th of sl ct cl σ (xs (5 * i + 1)) hm hR hinv hac hsei) (hp_cwV 1 hts kw_270 kw_272 kw_273 kw_137 kw_271 rfl rfl (by decide +kernel) ⟨(Nat.le_of_ble_eq_true rfl), (Nat.le_of_ble_eq_true rfl)⟩) hK hH hm.1 rfl rfl hl.1 rfl (Nat.le_of_ble_eq_true rfl) d_law_347 ⟨by show _ ≤ 600000; omega, by show _ ≤ 7302249; omega⟩) hS (fun r_4 M_5 H locs w_6 hH hS => ?_)
  obtain ⟨hm', hf', eR⟩ := w_6
  rw [eR]
  refine lv_icmp_eq (tgt := 502) hx hb d_law_350 (by decide) (fun c_7 => ?_) (fun c_7 => absurd rfl c_7)
  refine W.widen (k := 53 + (i + 1)) (n := 25008 + 8 * (i + 1)) (by omega) (by omega) ?_
  exact K M_5 _ _ ls σ 0 of sl ct cl (by omega) (lw_sw hsw hf' hm') hm' hR hinv hsei hH hS (lv_sub hl [0, 1, 2, 3] rfl)
set_option maxHeartbeats 4000000 in
set_option maxRecDepth 100000 in
theorem lw_b9 {p : Program} {l : Launch} {e : Env} {s : State} {m : MethodId} {below : List Frame} {meth : Method} {c : Code} {D : va_G} {B bs L : Nat} {xs : Nat → Int32} (hL : L ≤ 2560) (C0 : lw_At p s m meth c bs L xs) (hB0 : B = s.heap.size) (hK : va_K D classes (hp_T D) s) {q0 q1 : Nat} {ad : Nat → Nat} {i : Nat} (hi : 5 * i + 5 ≤ L) {M : hp_M} {H : Heap} {locs : List Loc} {ls : Array Slot} {σ : sg_S} {th of sl : Int32} {ct : Nat → Nat → Int32} {cl : Nat → Nat → Int64} (hac0 : sg_ac σ ≤ i) (hsw : sw_H D M q0 σ (lw_F q1 ad)) (hm : md_H D M q1 ad th of sl ct cl) (hR : mo_R σ (fun _ => sg_sl σ - 1) of sl ct cl) (hinv : sg_inv σ) (hsei : sg_sei σ) (hH : hp_H D B M H) (hS : va_S (hp_ub B) s.heap H locs) (hl : lv_has ls 4 [(3, .int (nI (5 * i))), (0, .ref bs), (1, .ref q0), (2, .ref q1)]) (K : lw_K p l e s m below meth c D B bs q0 q1 ad i) : W p l e room_1 s m #[Value.ref bs] below meth c H locs (53 + i) (25008 + 8 * i) (lw_Z below #[Value.ref bs] s) (F0 m 355 ls []) := by
  obtain ⟨hx, hb, hr, hml, hown, hts0, hX, hbl, hlocks, hgv⟩ := C0
  have hts : ∀ w ∈ wd_T, w.before #[Value.ref bs] s = true := fun w h => hts0 w (wd_out h)
  have hB : B ≤ s.heap.size := by omega
  have hbA : ¬ hp_ub B bs := fun w => by have w : B ≤ bs := w; omega
  have hac : sg_ac σ ≤ 512 := by omega
  have hsw0 := hsw
  obtain ⟨aI, aO, fI, fO, oa, la, ip, op, sp, lp, LQ, ow, ⟨h1, -⟩, -⟩ := hsw0
  refine lv_aload_n hx hb d_law_355 rfl (lv_at hl 2 rfl) ?_
  refine lv_aload_n hx hb d_law_356 rfl (lv_at hl 1 rfl) ?_
  refine lv_iload_n hx hb d_law_357 rfl (lv_at hl 0 rfl) ?_
  refine lv_iconst (v := 1) hx hb d_law_358 (by decide) ?_
  refine lv_iadd hx hb d_law_359 ?_
  refine hp_sld hx hb hX hbl hbA hS (5 * i + 1) (nI_1 _) (by omega) (by omega) d_law_360 ?_
  refine hp_calli (hp_runV (b := q0) (As := [.int (xs (5 * i + 1))]) (rest := []) hx hb hml hown (cn_Sw_inside l D B M q0 σ (lw_F q1 ad) (xs (5 * i + 1)) hsw) (hp_cwV 1 hts kw_274 kw_276 kw_277 kw_2 kw_275 rfl rfl (by decide +kernel) ⟨(Nat.le_of_ble_eq_true rfl), (Nat.le_of_ble_eq_true rfl)⟩) hK hH h1 rfl rfl hl.1 rfl (Nat.le_of_ble_eq_true rfl) d_law_361 ⟨by show _ ≤ 600000; omega, by show _ ≤ 7302249; omega⟩) hS (fun r_1 M_2 H locs w_3 hH hS => ?_)
  obtain ⟨eM, eR⟩ := w_3
  rw [eM] at hH
  rw [eR]
  refine lv_aload_n hx hb d_law_364 rfl (lv_at hl 3 rfl) ?_
  refine lv_aload_n hx hb d_law_365 rfl (lv_at hl 1 rfl) ?_
  refine lv_iload_n hx hb d_law_366 rfl (lv_at hl 0 rfl) ?_
  refine lv_iconst (v := 1) hx hb d_law_367 (by decide) ?_
  refine lv_iadd hx hb d_law_368 ?_
  refine hp_sld hx hb hX hbl hbA hS (5 * i + 1) (nI_1 _) (by omega) (by omega) d_law_369 ?_
  refine hp_calli (hp_runV (b := q1) (As := [.int (xs (5 * i + 1))]) (rest := [.int (an_inside σ (xs (5 * i + 1)))]) hx hb hml hown (cn_Md_inside l D B M q1 ad th of sl ct cl σ (xs (5 * i + 1)) hm hR hinv hac hsei) (hp_cwV 1 hts kw_278 kw_280 kw_281 kw_137 kw_279 rfl rfl (by decide +kernel) ⟨(Nat.le_of_ble_eq_true rfl), (Nat.le_of_ble_eq_true rfl)⟩) hK hH hm.1 rfl rfl hl.1 rfl (Nat.le_of_ble_eq_true rfl) d_law_370 ⟨by show _ ≤ 600000; omega, by show _ ≤ 7302249; omega⟩) hS (fun r_4 M_5 H locs w_6 hH hS => ?_)
  obtain ⟨hm', hf', eR⟩ := w_6
  rw [eR]
  refine lv_icmp_eq (tgt := 502) hx hb d_law_373 (by decide) (fun c_7 => ?_) (fun c_7 => absurd rfl c_7)
  refine W.widen (k := 53 + (i + 1)) (n := 25008 + 8 * (i + 1)) (by omega) (by omega) ?_
  exact K M_5 _ _ ls σ 0 of sl ct cl (by omega) (lw_sw hsw hf' hm') hm' hR hinv hsei hH hS (lv_sub hl [0, 1, 2, 3] rfl)
set_option maxHeartbeats 4000000 in
set_option maxRecDepth 100000 in
theorem lw_b10 {p : Program} {l : Launch} {e : Env} {s : State} {m : MethodId} {below : List Frame} {meth : Method} {c : Code} {D : va_G} {B bs L : Nat} {xs : Nat → Int32} (hL : L ≤ 2560) (C0 : lw_At p s m meth c bs L xs) (hB0 : B = s.heap.size) (hK : va_K D classes (hp_T D) s) {q0 q1 : Nat} {ad : Nat → Nat} {i : Nat} (hi : 5 * i + 5 ≤ L) {M : hp_M} {H : Heap} {locs : List Loc} {ls : Array Slot} {σ : sg_S} {th of sl : Int32} {ct : Nat → Nat → Int32} {cl : Nat → Nat → Int64} (hac0 : sg_ac σ ≤ i) (hsw : sw_H D M q0 σ (lw_F q1 ad)) (hm : md_H D M q1 ad th of sl ct cl) (hR : mo_R σ (fun _ => sg_sl σ - 1) of sl ct cl) (hinv : sg_inv σ) (hsei : sg_sei σ) (hH : hp_H D B M H) (hS : va_S (hp_ub B) s.heap H locs) (hl : lv_has ls 4 [(3, .int (nI (5 * i))), (0, .ref bs), (1, .ref q0), (2, .ref q1)]) (K : lw_K p l e s m below meth c D B bs q0 q1 ad i) : W p l e room_1 s m #[Value.ref bs] below meth c H locs (53 + i) (25008 + 8 * i) (lw_Z below #[Value.ref bs] s) (F0 m 378 ls []) := by
  obtain ⟨hx, hb, hr, hml, hown, hts0, hX, hbl, hlocks, hgv⟩ := C0
  have hts : ∀ w ∈ wd_T, w.before #[Value.ref bs] s = true := fun w h => hts0 w (wd_out h)
  have hB : B ≤ s.heap.size := by omega
  have hbA : ¬ hp_ub B bs := fun w => by have w : B ≤ bs := w; omega
  have hac : sg_ac σ ≤ 512 := by omega
  have hsw0 := hsw
  obtain ⟨aI, aO, fI, fO, oa, la, ip, op, sp, lp, LQ, ow, ⟨h1, -⟩, -⟩ := hsw0
  refine lv_aload_n hx hb d_law_378 rfl (lv_at hl 2 rfl) ?_
  refine lv_aload_n hx hb d_law_379 rfl (lv_at hl 1 rfl) ?_
  refine lv_iload_n hx hb d_law_380 rfl (lv_at hl 0 rfl) ?_
  refine lv_iconst (v := 1) hx hb d_law_381 (by decide) ?_
  refine lv_iadd hx hb d_law_382 ?_
  refine hp_sld hx hb hX hbl hbA hS (5 * i + 1) (nI_1 _) (by omega) (by omega) d_law_383 ?_
  refine hp_calli (hp_runV (b := q0) (As := [.int (xs (5 * i + 1))]) (rest := []) hx hb hml hown (cn_Sw_waiting l D B M q0 σ (lw_F q1 ad) (xs (5 * i + 1)) hsw) (hp_cwV 1 hts kw_282 kw_284 kw_285 kw_2 kw_283 rfl rfl (by decide +kernel) ⟨(Nat.le_of_ble_eq_true rfl), (Nat.le_of_ble_eq_true rfl)⟩) hK hH h1 rfl rfl hl.1 rfl (Nat.le_of_ble_eq_true rfl) d_law_384 ⟨by show _ ≤ 600000; omega, by show _ ≤ 7302249; omega⟩) hS (fun r_1 M_2 H locs w_3 hH hS => ?_)
  obtain ⟨eM, eR⟩ := w_3
  rw [eM] at hH
  rw [eR]
  refine lv_aload_n hx hb d_law_387 rfl (lv_at hl 3 rfl) ?_
  refine lv_aload_n hx hb d_law_388 rfl (lv_at hl 1 rfl) ?_
  refine lv_iload_n hx hb d_law_389 rfl (lv_at hl 0 rfl) ?_
  refine lv_iconst (v := 1) hx hb d_law_390 (by decide) ?_
  refine lv_iadd hx hb d_law_391 ?_
  refine hp_sld hx hb hX hbl hbA hS (5 * i + 1) (nI_1 _) (by omega) (by omega) d_law_392 ?_
  refine hp_calli (hp_runV (b := q1) (As := [.int (xs (5 * i + 1))]) (rest := [.int (an_waiting σ (xs (5 * i + 1)))]) hx hb hml hown (cn_Md_waiting l D B M q1 ad th of sl ct cl σ (xs (5 * i + 1)) hm hR hinv hac hsei) (hp_cwV 1 hts kw_286 kw_288 kw_289 kw_137 kw_287 rfl rfl (by decide +kernel) ⟨(Nat.le_of_ble_eq_true rfl), (Nat.le_of_ble_eq_true rfl)⟩) hK hH hm.1 rfl rfl hl.1 rfl (Nat.le_of_ble_eq_true rfl) d_law_393 ⟨by show _ ≤ 600000; omega, by show _ ≤ 7302249; omega⟩) hS (fun r_4 M_5 H locs w_6 hH hS => ?_)
  obtain ⟨hm', hf', eR⟩ := w_6
  rw [eR]
  refine lv_icmp_eq (tgt := 502) hx hb d_law_396 (by decide) (fun c_7 => ?_) (fun c_7 => absurd rfl c_7)
  refine W.widen (k := 53 + (i + 1)) (n := 25008 + 8 * (i + 1)) (by omega) (by omega) ?_
  exact K M_5 _ _ ls σ 0 of sl ct cl (by omega) (lw_sw hsw hf' hm') hm' hR hinv hsei hH hS (lv_sub hl [0, 1, 2, 3] rfl)
set_option maxHeartbeats 4000000 in
set_option maxRecDepth 100000 in
theorem lw_b11 {p : Program} {l : Launch} {e : Env} {s : State} {m : MethodId} {below : List Frame} {meth : Method} {c : Code} {D : va_G} {B bs L : Nat} {xs : Nat → Int32} (hL : L ≤ 2560) (C0 : lw_At p s m meth c bs L xs) (hB0 : B = s.heap.size) (hK : va_K D classes (hp_T D) s) {q0 q1 : Nat} {ad : Nat → Nat} {i : Nat} (hi : 5 * i + 5 ≤ L) {M : hp_M} {H : Heap} {locs : List Loc} {ls : Array Slot} {σ : sg_S} {th of sl : Int32} {ct : Nat → Nat → Int32} {cl : Nat → Nat → Int64} (hac0 : sg_ac σ ≤ i) (hsw : sw_H D M q0 σ (lw_F q1 ad)) (hm : md_H D M q1 ad th of sl ct cl) (hR : mo_R σ (fun _ => sg_sl σ - 1) of sl ct cl) (hinv : sg_inv σ) (hsei : sg_sei σ) (hH : hp_H D B M H) (hS : va_S (hp_ub B) s.heap H locs) (hl : lv_has ls 4 [(3, .int (nI (5 * i))), (0, .ref bs), (1, .ref q0), (2, .ref q1)]) (K : lw_K p l e s m below meth c D B bs q0 q1 ad i) : W p l e room_1 s m #[Value.ref bs] below meth c H locs (53 + i) (25008 + 8 * i) (lw_Z below #[Value.ref bs] s) (F0 m 401 ls []) := by
  obtain ⟨hx, hb, hr, hml, hown, hts0, hX, hbl, hlocks, hgv⟩ := C0
  have hts : ∀ w ∈ wd_T, w.before #[Value.ref bs] s = true := fun w h => hts0 w (wd_out h)
  have hB : B ≤ s.heap.size := by omega
  have hbA : ¬ hp_ub B bs := fun w => by have w : B ≤ bs := w; omega
  have hac : sg_ac σ ≤ 512 := by omega
  have hsw0 := hsw
  obtain ⟨aI, aO, fI, fO, oa, la, ip, op, sp, lp, LQ, ow, ⟨h1, -⟩, -⟩ := hsw0
  refine lv_aload_n hx hb d_law_401 rfl (lv_at hl 2 rfl) ?_
  refine lv_aload_n hx hb d_law_402 rfl (lv_at hl 1 rfl) ?_
  refine lv_iload_n hx hb d_law_403 rfl (lv_at hl 0 rfl) ?_
  refine lv_iconst (v := 1) hx hb d_law_404 (by decide) ?_
  refine lv_iadd hx hb d_law_405 ?_
  refine hp_sld hx hb hX hbl hbA hS (5 * i + 1) (nI_1 _) (by omega) (by omega) d_law_406 ?_
  refine lv_aload_n hx hb d_law_407 rfl (lv_at hl 1 rfl) ?_
  refine lv_iload_n hx hb d_law_408 rfl (lv_at hl 0 rfl) ?_
  refine lv_iconst (v := 2) hx hb d_law_409 (by decide) ?_
  refine lv_iadd hx hb d_law_410 ?_
  refine hp_sld hx hb hX hbl hbA hS (5 * i + 2) (nI_add _ 2) (by omega) (by omega) d_law_411 ?_
  refine hp_calli (hp_runV (b := q0) (As := [.int (xs (5 * i + 1)), .int (xs (5 * i + 2))]) (rest := []) hx hb hml hown (cn_Sw_first l D B M q0 σ (lw_F q1 ad) (xs (5 * i + 1)) (xs (5 * i + 2)) hsw hinv hac) (hp_cwV 2 hts kw_290 kw_292 kw_293 kw_2 kw_291 rfl rfl (by decide +kernel) ⟨(Nat.le_of_ble_eq_true rfl), (Nat.le_of_ble_eq_true rfl)⟩) hK hH h1 rfl rfl hl.1 rfl (Nat.le_of_ble_eq_true rfl) d_law_412 ⟨by show _ ≤ 600000; omega, by show _ ≤ 7302249; omega⟩) hS (fun r_1 M_2 H locs w_3 hH hS => ?_)
  obtain ⟨eM, eR⟩ := w_3
  rw [eM] at hH
  rw [eR]
  refine lv_aload_n hx hb d_law_415 rfl (lv_at hl 3 rfl) ?_
  refine lv_aload_n hx hb d_law_416 rfl (lv_at hl 1 rfl) ?_
  refine lv_iload_n hx hb d_law_417 rfl (lv_at hl 0 rfl) ?_
  refine lv_iconst (v := 1) hx hb d_law_418 (by decide) ?_
  refine lv_iadd hx hb d_law_419 ?_
  refine hp_sld hx hb hX hbl hbA hS (5 * i + 1) (nI_1 _) (by omega) (by omega) d_law_420 ?_
  refine lv_aload_n hx hb d_law_421 rfl (lv_at hl 1 rfl) ?_
  refine lv_iload_n hx hb d_law_422 rfl (lv_at hl 0 rfl) ?_
  refine lv_iconst (v := 2) hx hb d_law_423 (by decide) ?_
  refine lv_iadd hx hb d_law_424 ?_
  refine hp_sld hx hb hX hbl hbA hS (5 * i + 2) (nI_add _ 2) (by omega) (by omega) d_law_425 ?_
  refine hp_calli (hp_runV (b := q1) (As := [.int (xs (5 * i + 1)), .int (xs (5 * i + 2))]) (rest := [.int (an_first σ (xs (5 * i + 1)) (xs (5 * i + 2)))]) hx hb hml hown (cn_Md_first l D B M q1 ad th of sl ct cl σ (xs (5 * i + 1)) (xs (5 * i + 2)) hm hR hinv hac hsei) (hp_cwV 2 hts kw_294 kw_296 kw_297 kw_137 kw_295 rfl rfl (by decide +kernel) ⟨(Nat.le_of_ble_eq_true rfl), (Nat.le_of_ble_eq_true rfl)⟩) hK hH hm.1 rfl rfl hl.1 rfl (Nat.le_of_ble_eq_true rfl) d_law_426 ⟨by show _ ≤ 600000; omega, by show _ ≤ 7302249; omega⟩) hS (fun r_4 M_5 H locs w_6 hH hS => ?_)
  obtain ⟨hm', hf', eR⟩ := w_6
  rw [eR]
  refine lv_icmp_eq (tgt := 502) hx hb d_law_429 (by decide) (fun c_7 => ?_) (fun c_7 => absurd rfl c_7)
  refine W.widen (k := 53 + (i + 1)) (n := 25008 + 8 * (i + 1)) (by omega) (by omega) ?_
  exact K M_5 _ _ ls σ 0 of sl ct cl (by omega) (lw_sw hsw hf' hm') hm' hR hinv hsei hH hS (lv_sub hl [0, 1, 2, 3] rfl)
set_option maxHeartbeats 4000000 in
set_option maxRecDepth 100000 in
theorem lw_b12 {p : Program} {l : Launch} {e : Env} {s : State} {m : MethodId} {below : List Frame} {meth : Method} {c : Code} {D : va_G} {B bs L : Nat} {xs : Nat → Int32} (hL : L ≤ 2560) (C0 : lw_At p s m meth c bs L xs) (hB0 : B = s.heap.size) (hK : va_K D classes (hp_T D) s) {q0 q1 : Nat} {ad : Nat → Nat} {i : Nat} (hi : 5 * i + 5 ≤ L) {M : hp_M} {H : Heap} {locs : List Loc} {ls : Array Slot} {σ : sg_S} {th of sl : Int32} {ct : Nat → Nat → Int32} {cl : Nat → Nat → Int64} (hac0 : sg_ac σ ≤ i) (hsw : sw_H D M q0 σ (lw_F q1 ad)) (hm : md_H D M q1 ad th of sl ct cl) (hR : mo_R σ (fun _ => sg_sl σ - 1) of sl ct cl) (hinv : sg_inv σ) (hsei : sg_sei σ) (hH : hp_H D B M H) (hS : va_S (hp_ub B) s.heap H locs) (hl : lv_has ls 4 [(3, .int (nI (5 * i))), (0, .ref bs), (1, .ref q0), (2, .ref q1)]) (K : lw_K p l e s m below meth c D B bs q0 q1 ad i) : W p l e room_1 s m #[Value.ref bs] below meth c H locs (53 + i) (25008 + 8 * i) (lw_Z below #[Value.ref bs] s) (F0 m 434 ls []) := by
  obtain ⟨hx, hb, hr, hml, hown, hts0, hX, hbl, hlocks, hgv⟩ := C0
  have hts : ∀ w ∈ wd_T, w.before #[Value.ref bs] s = true := fun w h => hts0 w (wd_out h)
  have hB : B ≤ s.heap.size := by omega
  have hbA : ¬ hp_ub B bs := fun w => by have w : B ≤ bs := w; omega
  have hac : sg_ac σ ≤ 512 := by omega
  have hsw0 := hsw
  obtain ⟨aI, aO, fI, fO, oa, la, ip, op, sp, lp, LQ, ow, ⟨h1, -⟩, -⟩ := hsw0
  refine lv_aload_n hx hb d_law_434 rfl (lv_at hl 2 rfl) ?_
  refine lv_aload_n hx hb d_law_435 rfl (lv_at hl 1 rfl) ?_
  refine lv_iload_n hx hb d_law_436 rfl (lv_at hl 0 rfl) ?_
  refine lv_iconst (v := 1) hx hb d_law_437 (by decide) ?_
  refine lv_iadd hx hb d_law_438 ?_
  refine hp_sld hx hb hX hbl hbA hS (5 * i + 1) (nI_1 _) (by omega) (by omega) d_law_439 ?_
  refine lv_aload_n hx hb d_law_440 rfl (lv_at hl 1 rfl) ?_
  refine lv_iload_n hx hb d_law_441 rfl (lv_at hl 0 rfl) ?_
  refine lv_iconst (v := 2) hx hb d_law_442 (by decide) ?_
  refine lv_iadd hx hb d_law_443 ?_
  refine hp_sld hx hb hX hbl hbA hS (5 * i + 2) (nI_add _ 2) (by omega) (by omega) d_law_444 ?_
  refine hp_calll (hp_runV (b := q0) (As := [.int (xs (5 * i + 1)), .int (xs (5 * i + 2))]) (rest := []) hx hb hml hown (cn_Sw_time l D B M q0 σ (lw_F q1 ad) (xs (5 * i + 1)) (xs (5 * i + 2)) hsw hinv hac) (hp_cwV 2 hts kw_298 kw_300 kw_301 kw_2 kw_299 rfl rfl (by decide +kernel) ⟨(Nat.le_of_ble_eq_true rfl), (Nat.le_of_ble_eq_true rfl)⟩) hK hH h1 rfl rfl hl.1 rfl (Nat.le_of_ble_eq_true rfl) d_law_445 ⟨by show _ ≤ 600000; omega, by show _ ≤ 7302249; omega⟩) hS (fun r_1 M_2 H locs w_3 hH hS => ?_)
  obtain ⟨eM, eR⟩ := w_3
  rw [eM] at hH
  rw [eR]
  refine lv_aload_n hx hb d_law_448 rfl (lv_at hl 3 rfl) ?_
  refine lv_aload_n hx hb d_law_449 rfl (lv_at hl 1 rfl) ?_
  refine lv_iload_n hx hb d_law_450 rfl (lv_at hl 0 rfl) ?_
  refine lv_iconst (v := 1) hx hb d_law_451 (by decide) ?_
  refine lv_iadd hx hb d_law_452 ?_
  refine hp_sld hx hb hX hbl hbA hS (5 * i + 1) (nI_1 _) (by omega) (by omega) d_law_453 ?_
  refine lv_aload_n hx hb d_law_454 rfl (lv_at hl 1 rfl) ?_
  refine lv_iload_n hx hb d_law_455 rfl (lv_at hl 0 rfl) ?_
  refine lv_iconst (v := 2) hx hb d_law_456 (by decide) ?_
  refine lv_iadd hx hb d_law_457 ?_
  refine hp_sld hx hb hX hbl hbA hS (5 * i + 2) (nI_add _ 2) (by omega) (by omega) d_law_458 ?_
  refine hp_calll (hp_runV (b := q1) (As := [.int (xs (5 * i + 1)), .int (xs (5 * i + 2))]) (rest := [.long (an_time σ (xs (5 * i + 1)) (xs (5 * i + 2)))]) hx hb hml hown (cn_Md_time l D B M q1 ad th of sl ct cl σ (xs (5 * i + 1)) (xs (5 * i + 2)) hm hR hinv hac hsei) (hp_cwV 2 hts kw_302 kw_304 kw_305 kw_137 kw_303 rfl rfl (by decide +kernel) ⟨(Nat.le_of_ble_eq_true rfl), (Nat.le_of_ble_eq_true rfl)⟩) hK hH hm.1 rfl rfl hl.1 rfl (Nat.le_of_ble_eq_true rfl) d_law_459 ⟨by show _ ≤ 600000; omega, by show _ ≤ 7302249; omega⟩) hS (fun r_4 M_5 H locs w_6 hH hS => ?_)
  obtain ⟨hm', hf', eR⟩ := w_6
  rw [eR]
  refine W.lcmp hx hb d_law_462 ?_
  refine lv_if_eq (tgt := 502) hx hb d_law_463 (by decide) (fun c_7 => ?_) (fun c_7 => absurd ((lg_cmp_eq _ _).mpr rfl) c_7)
  refine W.widen (k := 53 + (i + 1)) (n := 25008 + 8 * (i + 1)) (by omega) (by omega) ?_
  exact K M_5 _ _ ls σ 0 of sl ct cl (by omega) (lw_sw hsw hf' hm') hm' hR hinv hsei hH hS (lv_sub hl [0, 1, 2, 3] rfl)
set_option maxHeartbeats 4000000 in
set_option maxRecDepth 100000 in
theorem lw_b13 {p : Program} {l : Launch} {e : Env} {s : State} {m : MethodId} {below : List Frame} {meth : Method} {c : Code} {D : va_G} {B bs L : Nat} {xs : Nat → Int32} (hL : L ≤ 2560) (C0 : lw_At p s m meth c bs L xs) (hB0 : B = s.heap.size) (hK : va_K D classes (hp_T D) s) {q0 q1 : Nat} {ad : Nat → Nat} {i : Nat} (hi : 5 * i + 5 ≤ L) {M : hp_M} {H : Heap} {locs : List Loc} {ls : Array Slot} {σ : sg_S} {th of sl : Int32} {ct : Nat → Nat → Int32} {cl : Nat → Nat → Int64} (hac0 : sg_ac σ ≤ i) (hsw : sw_H D M q0 σ (lw_F q1 ad)) (hm : md_H D M q1 ad th of sl ct cl) (hR : mo_R σ (fun _ => sg_sl σ - 1) of sl ct cl) (hinv : sg_inv σ) (hsei : sg_sei σ) (hH : hp_H D B M H) (hS : va_S (hp_ub B) s.heap H locs) (hl : lv_has ls 4 [(3, .int (nI (5 * i))), (0, .ref bs), (1, .ref q0), (2, .ref q1)]) (K : lw_K p l e s m below meth c D B bs q0 q1 ad i) : W p l e room_1 s m #[Value.ref bs] below meth c H locs (53 + i) (25008 + 8 * i) (lw_Z below #[Value.ref bs] s) (F0 m 468 ls []) := by
  obtain ⟨hx, hb, hr, hml, hown, hts0, hX, hbl, hlocks, hgv⟩ := C0
  have hts : ∀ w ∈ wd_T, w.before #[Value.ref bs] s = true := fun w h => hts0 w (wd_out h)
  have hB : B ≤ s.heap.size := by omega
  have hbA : ¬ hp_ub B bs := fun w => by have w : B ≤ bs := w; omega
  have hac : sg_ac σ ≤ 512 := by omega
  have hsw0 := hsw
  obtain ⟨aI, aO, fI, fO, oa, la, ip, op, sp, lp, LQ, ow, ⟨h1, -⟩, -⟩ := hsw0
  refine lv_aload_n hx hb d_law_468 rfl (lv_at hl 2 rfl) ?_
  refine lv_aload_n hx hb d_law_469 rfl (lv_at hl 1 rfl) ?_
  refine lv_iload_n hx hb d_law_470 rfl (lv_at hl 0 rfl) ?_
  refine lv_iconst (v := 1) hx hb d_law_471 (by decide) ?_
  refine lv_iadd hx hb d_law_472 ?_
  refine hp_sld hx hb hX hbl hbA hS (5 * i + 1) (nI_1 _) (by omega) (by omega) d_law_473 ?_
  refine hp_calli (hp_runV (b := q0) (As := [.int (xs (5 * i + 1))]) (rest := []) hx hb hml hown (cn_Sw_leaves l D B M q0 σ (lw_F q1 ad) (xs (5 * i + 1)) hsw hinv hac) (hp_cwV 1 hts kw_306 kw_308 kw_309 kw_2 kw_307 rfl rfl (by decide +kernel) ⟨(Nat.le_of_ble_eq_true rfl), (Nat.le_of_ble_eq_true rfl)⟩) hK hH h1 rfl rfl hl.1 rfl (Nat.le_of_ble_eq_true rfl) d_law_474 ⟨by show _ ≤ 600000; omega, by show _ ≤ 7302249; omega⟩) hS (fun r_1 M_2 H locs w_3 hH hS => ?_)
  obtain ⟨eM, eR⟩ := w_3
  rw [eM] at hH
  rw [eR]
  refine lv_aload_n hx hb d_law_477 rfl (lv_at hl 3 rfl) ?_
  refine lv_aload_n hx hb d_law_478 rfl (lv_at hl 1 rfl) ?_
  refine lv_iload_n hx hb d_law_479 rfl (lv_at hl 0 rfl) ?_
  refine lv_iconst (v := 1) hx hb d_law_480 (by decide) ?_
  refine lv_iadd hx hb d_law_481 ?_
  refine hp_sld hx hb hX hbl hbA hS (5 * i + 1) (nI_1 _) (by omega) (by omega) d_law_482 ?_
  refine hp_calli (hp_runV (b := q1) (As := [.int (xs (5 * i + 1))]) (rest := [.int (an_leaves σ (xs (5 * i + 1)))]) hx hb hml hown (cn_Md_leaves l D B M q1 ad th of sl ct cl σ (xs (5 * i + 1)) hm hR hinv hac hsei) (hp_cwV 1 hts kw_310 kw_312 kw_313 kw_137 kw_311 rfl rfl (by decide +kernel) ⟨(Nat.le_of_ble_eq_true rfl), (Nat.le_of_ble_eq_true rfl)⟩) hK hH hm.1 rfl rfl hl.1 rfl (Nat.le_of_ble_eq_true rfl) d_law_483 ⟨by show _ ≤ 600000; omega, by show _ ≤ 7302249; omega⟩) hS (fun r_4 M_5 H locs w_6 hH hS => ?_)
  obtain ⟨hm', hf', eR⟩ := w_6
  rw [eR]
  refine lv_icmp_eq (tgt := 502) hx hb d_law_486 (by decide) (fun c_7 => ?_) (fun c_7 => absurd rfl c_7)
  refine W.widen (k := 53 + (i + 1)) (n := 25008 + 8 * (i + 1)) (by omega) (by omega) ?_
  exact K M_5 _ _ ls σ 0 of sl ct cl (by omega) (lw_sw hsw hf' hm') hm' hR hinv hsei hH hS (lv_sub hl [0, 1, 2, 3] rfl)
set_option maxHeartbeats 4000000 in
set_option maxRecDepth 100000 in
theorem lw_b14 {p : Program} {l : Launch} {e : Env} {s : State} {m : MethodId} {below : List Frame} {meth : Method} {c : Code} {D : va_G} {B bs L : Nat} {xs : Nat → Int32} (hL : L ≤ 2560) (C0 : lw_At p s m meth c bs L xs) (hB0 : B = s.heap.size) (hK : va_K D classes (hp_T D) s) {q0 q1 : Nat} {ad : Nat → Nat} {i : Nat} (hi : 5 * i + 5 ≤ L) {M : hp_M} {H : Heap} {locs : List Loc} {ls : Array Slot} {σ : sg_S} {th of sl : Int32} {ct : Nat → Nat → Int32} {cl : Nat → Nat → Int64} (hac0 : sg_ac σ ≤ i) (hsw : sw_H D M q0 σ (lw_F q1 ad)) (hm : md_H D M q1 ad th of sl ct cl) (hR : mo_R σ (fun _ => sg_sl σ - 1) of sl ct cl) (hinv : sg_inv σ) (hsei : sg_sei σ) (hH : hp_H D B M H) (hS : va_S (hp_ub B) s.heap H locs) (hl : lv_has ls 4 [(3, .int (nI (5 * i))), (0, .ref bs), (1, .ref q0), (2, .ref q1)]) (K : lw_K p l e s m below meth c D B bs q0 q1 ad i) : W p l e room_1 s m #[Value.ref bs] below meth c H locs (53 + i) (25008 + 8 * i) (lw_Z below #[Value.ref bs] s) (F0 m 491 ls []) := by
  obtain ⟨hx, hb, hr, hml, hown, hts0, hX, hbl, hlocks, hgv⟩ := C0
  have hts : ∀ w ∈ wd_T, w.before #[Value.ref bs] s = true := fun w h => hts0 w (wd_out h)
  have hB : B ≤ s.heap.size := by omega
  have hbA : ¬ hp_ub B bs := fun w => by have w : B ≤ bs := w; omega
  have hac : sg_ac σ ≤ 512 := by omega
  have hsw0 := hsw
  obtain ⟨aI, aO, fI, fO, oa, la, ip, op, sp, lp, LQ, ow, ⟨h1, -⟩, -⟩ := hsw0
  refine lv_aload_n hx hb d_law_491 rfl (lv_at hl 2 rfl) ?_
  refine hp_callv (hp_runV (b := q0) (As := []) (rest := []) hx hb hml hown (cn_Sw_reset l D B M q0 σ (lw_F q1 ad)  hsw) (hp_cwV 0 hts kw_314 kw_316 kw_317 kw_2 kw_315 rfl rfl (by decide +kernel) ⟨(Nat.le_of_ble_eq_true rfl), (Nat.le_of_ble_eq_true rfl)⟩) hK hH h1 rfl rfl hl.1 rfl (Nat.le_of_ble_eq_true rfl) d_law_492 ⟨by show _ ≤ 600000; omega, by show _ ≤ 7302249; omega⟩) hS (fun M_2 H locs w_3 hH hS => ?_)
  obtain ⟨hs1, fr1⟩ := w_3
  have hm1 := lw_md hm fr1
  refine lv_aload_n hx hb d_law_495 rfl (lv_at hl 3 rfl) ?_
  refine hp_callv (hp_runV (b := q1) (As := []) (rest := []) hx hb hml hown (cn_Md_reset l D B M_2 q1 ad th of sl ct cl σ  hm1 hR hinv hac hsei) (hp_cwV 0 hts kw_318 kw_320 kw_321 kw_137 kw_319 rfl rfl (by decide +kernel) ⟨(Nat.le_of_ble_eq_true rfl), (Nat.le_of_ble_eq_true rfl)⟩) hK hH hm1.1 rfl rfl hl.1 rfl (Nat.le_of_ble_eq_true rfl) d_law_496 ⟨by show _ ≤ 600000; omega, by show _ ≤ 7302249; omega⟩) hS (fun M_5 H locs w_6 hH hS => ?_)
  obtain ⟨ct', cl', hm', hf', hR'⟩ := w_6
  refine lv_goto (tgt := 502) hx hb d_law_499 (by decide) ?_
  refine W.widen (k := 53 + (i + 1)) (n := 25008 + 8 * (i + 1)) (by omega) (by omega) ?_
  exact K M_5 _ _ ls (sg_reset σ) 0 of sl ct' cl' (Nat.le_trans hac0 (Nat.le_succ i)) (lw_sw hs1 hf' hm') hm' hR' (sg_inv_reset hinv) (fun o _ d hd => by cases hd) hH hS (lv_sub hl [0, 1, 2, 3] rfl)
