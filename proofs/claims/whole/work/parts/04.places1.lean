set_option maxRecDepth 20000 in
theorem mw_180 : (Cond.instanceMethod yX3_cut) ∈ wsL_law := List.mem_of_getElem? (i := 180) rfl
set_option maxRecDepth 20000 in
theorem mw_181 : (Cond.selects RX3 yX3_cut yX3_cut) ∈ wsL_law := List.mem_of_getElem? (i := 181) rfl
set_option maxRecDepth 20000 in
theorem mw_182 : (Cond.code yX3_cut cX3_cut 3 (some .int)) ∈ wsL_law := List.mem_of_getElem? (i := 182) rfl
set_option maxRecDepth 20000 in
theorem mw_183 : (Cond.methodLink RX3 67 yX3_findCut) ∈ wsL_law := List.mem_of_getElem? (i := 183) rfl
set_option maxRecDepth 20000 in
theorem mw_184 : (Cond.instanceMethod yX3_findCut) ∈ wsL_law := List.mem_of_getElem? (i := 184) rfl
set_option maxRecDepth 20000 in
theorem mw_185 : (Cond.selects RX3 yX3_findCut yX3_findCut) ∈ wsL_law := List.mem_of_getElem? (i := 185) rfl
set_option maxRecDepth 20000 in
theorem mw_186 : (Cond.code yX3_findCut cX3_findCut 3 (some .boolean)) ∈ wsL_law := List.mem_of_getElem? (i := 186) rfl
set_option maxRecDepth 20000 in
theorem mw_187 : (Cond.methodLink RX3 146 yX3_prepareSums) ∈ wsL_law := List.mem_of_getElem? (i := 187) rfl
set_option maxRecDepth 20000 in
theorem mw_188 : (Cond.instanceMethod yX3_prepareSums) ∈ wsL_law := List.mem_of_getElem? (i := 188) rfl
set_option maxRecDepth 20000 in
theorem mw_189 : (Cond.selects RX3 yX3_prepareSums yX3_prepareSums) ∈ wsL_law := List.mem_of_getElem? (i := 189) rfl
set_option maxRecDepth 20000 in
theorem mw_190 : (Cond.code yX3_prepareSums cX3_prepareSums 2 none) ∈ wsL_law := List.mem_of_getElem? (i := 190) rfl
set_option maxRecDepth 20000 in
theorem mw_191 : (Cond.fieldLink RX3 134 "NetCuts$Net" "posts" "I") ∈ wsL_law := List.mem_of_getElem? (i := 191) rfl
set_option maxRecDepth 20000 in
theorem mw_192 : (Cond.fieldLink RX3 159 "NetCuts$Net" "lines" "I") ∈ wsL_law := List.mem_of_getElem? (i := 192) rfl
set_option maxRecDepth 20000 in
theorem mw_193 : (Cond.fieldLink RX3 162 "NetCuts$Net" "ended" "[Z") ∈ wsL_law := List.mem_of_getElem? (i := 193) rfl
set_option maxRecDepth 20000 in
theorem mw_194 : (Cond.fieldLink RX3 87 "NetCuts$Net" "from" "[I") ∈ wsL_law := List.mem_of_getElem? (i := 194) rfl
set_option maxRecDepth 20000 in
theorem mw_195 : (Cond.fieldLink RX3 90 "NetCuts$Net" "to" "[I") ∈ wsL_law := List.mem_of_getElem? (i := 195) rfl
set_option maxRecDepth 20000 in
theorem mw_196 : (Cond.fieldLink RX3 166 "NetCuts$Net" "linePrice" "[I") ∈ wsL_law := List.mem_of_getElem? (i := 196) rfl
set_option maxRecDepth 20000 in
theorem mw_197 : (Cond.methodLink RX3 156 yX2_begin) ∈ wsL_law := List.mem_of_getElem? (i := 197) rfl
set_option maxRecDepth 20000 in
theorem mw_198 : (Cond.instanceMethod yX2_begin) ∈ wsL_law := List.mem_of_getElem? (i := 198) rfl
set_option maxRecDepth 20000 in
theorem mw_199 : (Cond.selects RX2 yX2_begin yX2_begin) ∈ wsL_law := List.mem_of_getElem? (i := 199) rfl
set_option maxRecDepth 20000 in
theorem mw_200 : (Cond.code yX2_begin cX2_begin 4 none) ∈ wsL_law := List.mem_of_getElem? (i := 200) rfl
set_option maxRecDepth 20000 in
theorem mw_201 : (Cond.methodLink RX2 52 Lib.Math.min.name) ∈ wsL_law := List.mem_of_getElem? (i := 201) rfl
set_option maxRecDepth 20000 in
theorem mw_202 : (Cond.static Lib.Math.min.name) ∈ wsL_law := List.mem_of_getElem? (i := 202) rfl
set_option maxRecDepth 20000 in
theorem mw_203 : (Cond.initialized "java/lang/Math") ∈ wsL_law := List.mem_of_getElem? (i := 203) rfl
set_option maxRecDepth 20000 in
theorem mw_204 : (Cond.code Lib.Math.min.name Lib.Math.min.code 2 (some .int)) ∈ wsL_law := List.mem_of_getElem? (i := 204) rfl
set_option maxRecDepth 20000 in
theorem mw_205 : (Cond.methodLink RX3 172 yX2_addCost) ∈ wsL_law := List.mem_of_getElem? (i := 205) rfl
set_option maxRecDepth 20000 in
theorem mw_206 : (Cond.instanceMethod yX2_addCost) ∈ wsL_law := List.mem_of_getElem? (i := 206) rfl
set_option maxRecDepth 20000 in
theorem mw_207 : (Cond.selects RX2 yX2_addCost yX2_addCost) ∈ wsL_law := List.mem_of_getElem? (i := 207) rfl
set_option maxRecDepth 20000 in
theorem mw_208 : (Cond.code yX2_addCost cX2_addCost 7 none) ∈ wsL_law := List.mem_of_getElem? (i := 208) rfl
set_option maxRecDepth 20000 in
theorem mw_209 : (Cond.methodLink RX2 58 Lib.Math.max.name) ∈ wsL_law := List.mem_of_getElem? (i := 209) rfl
set_option maxRecDepth 20000 in
theorem mw_210 : (Cond.static Lib.Math.max.name) ∈ wsL_law := List.mem_of_getElem? (i := 210) rfl
set_option maxRecDepth 20000 in
theorem mw_211 : (Cond.code Lib.Math.max.name Lib.Math.max.code 2 (some .int)) ∈ wsL_law := List.mem_of_getElem? (i := 211) rfl
set_option maxRecDepth 20000 in
theorem mw_212 : (Cond.methodLink RX3 102 yX2_keepApart) ∈ wsL_law := List.mem_of_getElem? (i := 212) rfl
set_option maxRecDepth 20000 in
theorem mw_213 : (Cond.instanceMethod yX2_keepApart) ∈ wsL_law := List.mem_of_getElem? (i := 213) rfl
set_option maxRecDepth 20000 in
theorem mw_214 : (Cond.selects RX2 yX2_keepApart yX2_keepApart) ∈ wsL_law := List.mem_of_getElem? (i := 214) rfl
set_option maxRecDepth 20000 in
theorem mw_215 : (Cond.code yX2_keepApart cX2_keepApart 3 none) ∈ wsL_law := List.mem_of_getElem? (i := 215) rfl
set_option maxRecDepth 20000 in
theorem mw_216 : (Cond.methodLink RX2 61 yX2_keepApartFrom) ∈ wsL_law := List.mem_of_getElem? (i := 216) rfl
set_option maxRecDepth 20000 in
theorem mw_217 : (Cond.instanceMethod yX2_keepApartFrom) ∈ wsL_law := List.mem_of_getElem? (i := 217) rfl
set_option maxRecDepth 20000 in
theorem mw_218 : (Cond.selects RX2 yX2_keepApartFrom yX2_keepApartFrom) ∈ wsL_law := List.mem_of_getElem? (i := 218) rfl
set_option maxRecDepth 20000 in
theorem mw_219 : (Cond.code yX2_keepApartFrom cX2_keepApartFrom 3 none) ∈ wsL_law := List.mem_of_getElem? (i := 219) rfl
set_option maxRecDepth 20000 in
theorem mw_220 : (Cond.methodLink RX3 99 yX2_run) ∈ wsL_law := List.mem_of_getElem? (i := 220) rfl
set_option maxRecDepth 20000 in
theorem mw_221 : (Cond.instanceMethod yX2_run) ∈ wsL_law := List.mem_of_getElem? (i := 221) rfl
set_option maxRecDepth 20000 in
theorem mw_222 : (Cond.selects RX2 yX2_run yX2_run) ∈ wsL_law := List.mem_of_getElem? (i := 222) rfl
set_option maxRecDepth 20000 in
theorem mw_223 : (Cond.code yX2_run cX2_run 2 none) ∈ wsL_law := List.mem_of_getElem? (i := 223) rfl
set_option maxRecDepth 20000 in
theorem mw_224 : (Cond.methodLink RX2 65 yX2_place) ∈ wsL_law := List.mem_of_getElem? (i := 224) rfl
set_option maxRecDepth 20000 in
theorem mw_225 : (Cond.static yX2_place) ∈ wsL_law := List.mem_of_getElem? (i := 225) rfl
set_option maxRecDepth 20000 in
theorem mw_226 : (Cond.code yX2_place cX2_place 6 none) ∈ wsL_law := List.mem_of_getElem? (i := 226) rfl
set_option maxRecDepth 20000 in
theorem mw_227 : (Cond.methodLink RX2 69 yX2_keepBest) ∈ wsL_law := List.mem_of_getElem? (i := 227) rfl
set_option maxRecDepth 20000 in
theorem mw_228 : (Cond.instanceMethod yX2_keepBest) ∈ wsL_law := List.mem_of_getElem? (i := 228) rfl
set_option maxRecDepth 20000 in
theorem mw_229 : (Cond.selects RX2 yX2_keepBest yX2_keepBest) ∈ wsL_law := List.mem_of_getElem? (i := 229) rfl
set_option maxRecDepth 20000 in
theorem mw_230 : (Cond.code yX2_keepBest cX2_keepBest 3 none) ∈ wsL_law := List.mem_of_getElem? (i := 230) rfl
set_option maxRecDepth 20000 in
theorem mw_231 : (Cond.methodLink RX2 73 yX2_weigh) ∈ wsL_law := List.mem_of_getElem? (i := 231) rfl
set_option maxRecDepth 20000 in
theorem mw_232 : (Cond.instanceMethod yX2_weigh) ∈ wsL_law := List.mem_of_getElem? (i := 232) rfl
set_option maxRecDepth 20000 in
theorem mw_233 : (Cond.selects RX2 yX2_weigh yX2_weigh) ∈ wsL_law := List.mem_of_getElem? (i := 233) rfl
set_option maxRecDepth 20000 in
theorem mw_234 : (Cond.code yX2_weigh cX2_weigh 5 none) ∈ wsL_law := List.mem_of_getElem? (i := 234) rfl
set_option maxRecDepth 20000 in
theorem mw_235 : (Cond.methodLink RX2 76 yX2_allows) ∈ wsL_law := List.mem_of_getElem? (i := 235) rfl
set_option maxRecDepth 20000 in
theorem mw_236 : (Cond.instanceMethod yX2_allows) ∈ wsL_law := List.mem_of_getElem? (i := 236) rfl
set_option maxRecDepth 20000 in
theorem mw_237 : (Cond.selects RX2 yX2_allows yX2_allows) ∈ wsL_law := List.mem_of_getElem? (i := 237) rfl
set_option maxRecDepth 20000 in
theorem mw_238 : (Cond.code yX2_allows cX2_allows 4 (some .boolean)) ∈ wsL_law := List.mem_of_getElem? (i := 238) rfl
set_option maxRecDepth 20000 in
theorem mw_239 : (Cond.methodLink RX3 70 yX2_leastCost) ∈ wsL_law := List.mem_of_getElem? (i := 239) rfl
set_option maxRecDepth 20000 in
theorem mw_240 : (Cond.instanceMethod yX2_leastCost) ∈ wsL_law := List.mem_of_getElem? (i := 240) rfl
set_option maxRecDepth 20000 in
theorem mw_241 : (Cond.selects RX2 yX2_leastCost yX2_leastCost) ∈ wsL_law := List.mem_of_getElem? (i := 241) rfl
set_option maxRecDepth 20000 in
theorem mw_242 : (Cond.code yX2_leastCost cX2_leastCost 1 (some .int)) ∈ wsL_law := List.mem_of_getElem? (i := 242) rfl
set_option maxRecDepth 20000 in
theorem mw_243 : (Cond.methodLink RL 46 yX4_cut) ∈ wsL_law := List.mem_of_getElem? (i := 243) rfl
set_option maxRecDepth 20000 in
theorem mw_244 : (Cond.instanceMethod yX4_cut) ∈ wsL_law := List.mem_of_getElem? (i := 244) rfl
set_option maxRecDepth 20000 in
theorem mw_245 : (Cond.selects RX4 yX4_cut yX4_cut) ∈ wsL_law := List.mem_of_getElem? (i := 245) rfl
set_option maxRecDepth 20000 in
theorem mw_246 : (Cond.code yX4_cut cX4_cut 3 (some .int)) ∈ wsL_law := List.mem_of_getElem? (i := 246) rfl
set_option maxRecDepth 20000 in
theorem mw_247 : (Cond.fieldLink RX4 94 "NetCutsModel" "least" "I") ∈ wsL_law := List.mem_of_getElem? (i := 247) rfl
set_option maxRecDepth 20000 in
theorem mw_248 : (Cond.methodLink RX4 112 yX4_canTwo) ∈ wsL_law := List.mem_of_getElem? (i := 248) rfl
set_option maxRecDepth 20000 in
theorem mw_249 : (Cond.instanceMethod yX4_canTwo) ∈ wsL_law := List.mem_of_getElem? (i := 249) rfl
set_option maxRecDepth 20000 in
theorem mw_250 : (Cond.selects RX4 yX4_canTwo yX4_canTwo) ∈ wsL_law := List.mem_of_getElem? (i := 250) rfl
set_option maxRecDepth 20000 in
theorem mw_251 : (Cond.code yX4_canTwo cX4_canTwo 3 (some .boolean)) ∈ wsL_law := List.mem_of_getElem? (i := 251) rfl
set_option maxRecDepth 20000 in
theorem mw_252 : (Cond.fieldLink RX4 78 "NetCutsModel" "x0" "I") ∈ wsL_law := List.mem_of_getElem? (i := 252) rfl
set_option maxRecDepth 20000 in
theorem mw_253 : (Cond.fieldLink RX4 81 "NetCutsModel" "y0" "I") ∈ wsL_law := List.mem_of_getElem? (i := 253) rfl
set_option maxRecDepth 20000 in
theorem mw_254 : (Cond.methodLink RX4 116 yX4_goesThrough) ∈ wsL_law := List.mem_of_getElem? (i := 254) rfl
set_option maxRecDepth 20000 in
theorem mw_255 : (Cond.instanceMethod yX4_goesThrough) ∈ wsL_law := List.mem_of_getElem? (i := 255) rfl
set_option maxRecDepth 20000 in
theorem mw_256 : (Cond.selects RX4 yX4_goesThrough yX4_goesThrough) ∈ wsL_law := List.mem_of_getElem? (i := 256) rfl
set_option maxRecDepth 20000 in
theorem mw_257 : (Cond.code yX4_goesThrough cX4_goesThrough 3 none) ∈ wsL_law := List.mem_of_getElem? (i := 257) rfl
set_option maxRecDepth 20000 in
theorem mw_258 : (Cond.fieldLink RX4 75 "NetCutsModel" "asked" "I") ∈ wsL_law := List.mem_of_getElem? (i := 258) rfl
set_option maxRecDepth 20000 in
theorem mw_259 : (Cond.fieldLink RX4 100 "NetCutsModel" "wanted" "I") ∈ wsL_law := List.mem_of_getElem? (i := 259) rfl
set_option maxRecDepth 20000 in
theorem mw_260 : (Cond.constant RX4 111 (1000000)) ∈ wsL_law := List.mem_of_getElem? (i := 260) rfl
set_option maxRecDepth 20000 in
theorem mw_261 : (Cond.fieldLink RX4 97 "NetCutsModel" "manyLeast" "I") ∈ wsL_law := List.mem_of_getElem? (i := 261) rfl
set_option maxRecDepth 20000 in
theorem mw_262 : (Cond.methodLink RX4 107 yX4_parts) ∈ wsL_law := List.mem_of_getElem? (i := 262) rfl
set_option maxRecDepth 20000 in
theorem mw_263 : (Cond.instanceMethod yX4_parts) ∈ wsL_law := List.mem_of_getElem? (i := 263) rfl
set_option maxRecDepth 20000 in
theorem mw_264 : (Cond.selects RX4 yX4_parts yX4_parts) ∈ wsL_law := List.mem_of_getElem? (i := 264) rfl
set_option maxRecDepth 20000 in
theorem mw_265 : (Cond.code yX4_parts cX4_parts 4 none) ∈ wsL_law := List.mem_of_getElem? (i := 265) rfl
set_option maxRecDepth 20000 in
theorem mw_266 : (Cond.methodLink RX4 103 yX4_looks) ∈ wsL_law := List.mem_of_getElem? (i := 266) rfl
set_option maxRecDepth 20000 in
theorem mw_267 : (Cond.instanceMethod yX4_looks) ∈ wsL_law := List.mem_of_getElem? (i := 267) rfl
set_option maxRecDepth 20000 in
theorem mw_268 : (Cond.selects RX4 yX4_looks yX4_looks) ∈ wsL_law := List.mem_of_getElem? (i := 268) rfl
set_option maxRecDepth 20000 in
theorem mw_269 : (Cond.code yX4_looks cX4_looks 4 none) ∈ wsL_law := List.mem_of_getElem? (i := 269) rfl
set_option maxRecDepth 20000 in
theorem mw_270 : (Cond.methodLink RX4 87 yX4_isWanted) ∈ wsL_law := List.mem_of_getElem? (i := 270) rfl
set_option maxRecDepth 20000 in
theorem mw_271 : (Cond.instanceMethod yX4_isWanted) ∈ wsL_law := List.mem_of_getElem? (i := 271) rfl
set_option maxRecDepth 20000 in
theorem mw_272 : (Cond.selects RX4 yX4_isWanted yX4_isWanted) ∈ wsL_law := List.mem_of_getElem? (i := 272) rfl
set_option maxRecDepth 20000 in
theorem mw_273 : (Cond.code yX4_isWanted cX4_isWanted 5 (some .boolean)) ∈ wsL_law := List.mem_of_getElem? (i := 273) rfl
set_option maxRecDepth 20000 in
theorem mw_274 : (Cond.fieldLink RX4 84 "NetCutsModel" "k0" "I") ∈ wsL_law := List.mem_of_getElem? (i := 274) rfl
set_option maxRecDepth 20000 in
theorem mw_275 : (Cond.methodLink RX4 90 yX4_sum) ∈ wsL_law := List.mem_of_getElem? (i := 275) rfl
set_option maxRecDepth 20000 in
theorem mw_276 : (Cond.instanceMethod yX4_sum) ∈ wsL_law := List.mem_of_getElem? (i := 276) rfl
set_option maxRecDepth 20000 in
theorem mw_277 : (Cond.selects RX4 yX4_sum yX4_sum) ∈ wsL_law := List.mem_of_getElem? (i := 277) rfl
set_option maxRecDepth 20000 in
theorem mw_278 : (Cond.code yX4_sum cX4_sum 4 (some .int)) ∈ wsL_law := List.mem_of_getElem? (i := 278) rfl
set_option maxRecDepth 20000 in
theorem mw_279 : (Cond.methodLink RL 47 yX3_cutPart) ∈ wsL_law := List.mem_of_getElem? (i := 279) rfl
set_option maxRecDepth 20000 in
theorem mw_280 : (Cond.instanceMethod yX3_cutPart) ∈ wsL_law := List.mem_of_getElem? (i := 280) rfl
set_option maxRecDepth 20000 in
theorem mw_281 : (Cond.selects RX3 yX3_cutPart yX3_cutPart) ∈ wsL_law := List.mem_of_getElem? (i := 281) rfl
set_option maxRecDepth 20000 in
theorem mw_282 : (Cond.code yX3_cutPart cX3_cutPart 4 (some .int)) ∈ wsL_law := List.mem_of_getElem? (i := 282) rfl
set_option maxRecDepth 20000 in
theorem mw_283 : (Cond.methodLink RX3 74 yX2_partOf) ∈ wsL_law := List.mem_of_getElem? (i := 283) rfl
set_option maxRecDepth 20000 in
theorem mw_284 : (Cond.instanceMethod yX2_partOf) ∈ wsL_law := List.mem_of_getElem? (i := 284) rfl
set_option maxRecDepth 20000 in
theorem mw_285 : (Cond.selects RX2 yX2_partOf yX2_partOf) ∈ wsL_law := List.mem_of_getElem? (i := 285) rfl
set_option maxRecDepth 20000 in
theorem mw_286 : (Cond.code yX2_partOf cX2_partOf 2 (some .int)) ∈ wsL_law := List.mem_of_getElem? (i := 286) rfl
set_option maxRecDepth 20000 in
theorem mw_287 : (Cond.methodLink RL 51 yX4_cutPart) ∈ wsL_law := List.mem_of_getElem? (i := 287) rfl
set_option maxRecDepth 20000 in
theorem mw_288 : (Cond.instanceMethod yX4_cutPart) ∈ wsL_law := List.mem_of_getElem? (i := 288) rfl
set_option maxRecDepth 20000 in
theorem mw_289 : (Cond.selects RX4 yX4_cutPart yX4_cutPart) ∈ wsL_law := List.mem_of_getElem? (i := 289) rfl
set_option maxRecDepth 20000 in
theorem mw_290 : (Cond.code yX4_cutPart cX4_cutPart 4 (some .int)) ∈ wsL_law := List.mem_of_getElem? (i := 290) rfl
set_option maxRecDepth 20000 in
theorem mw_291 : (Cond.methodLink RL 52 yX3_terminals) ∈ wsL_law := List.mem_of_getElem? (i := 291) rfl
set_option maxRecDepth 20000 in
theorem mw_292 : (Cond.instanceMethod yX3_terminals) ∈ wsL_law := List.mem_of_getElem? (i := 292) rfl
set_option maxRecDepth 20000 in
theorem mw_293 : (Cond.selects RX3 yX3_terminals yX3_terminals) ∈ wsL_law := List.mem_of_getElem? (i := 293) rfl
set_option maxRecDepth 20000 in
theorem mw_294 : (Cond.code yX3_terminals cX3_terminals 1 (some .int)) ∈ wsL_law := List.mem_of_getElem? (i := 294) rfl
set_option maxRecDepth 20000 in
theorem mw_295 : (Cond.methodLink RX3 77 yX3_findTerminals) ∈ wsL_law := List.mem_of_getElem? (i := 295) rfl
set_option maxRecDepth 20000 in
theorem mw_296 : (Cond.instanceMethod yX3_findTerminals) ∈ wsL_law := List.mem_of_getElem? (i := 296) rfl
set_option maxRecDepth 20000 in
theorem mw_297 : (Cond.selects RX3 yX3_findTerminals yX3_findTerminals) ∈ wsL_law := List.mem_of_getElem? (i := 297) rfl
set_option maxRecDepth 20000 in
theorem mw_298 : (Cond.code yX3_findTerminals cX3_findTerminals 2 (some .boolean)) ∈ wsL_law := List.mem_of_getElem? (i := 298) rfl
set_option maxRecDepth 20000 in
theorem mw_299 : (Cond.methodLink RX3 149 yX2_keepApartFrom) ∈ wsL_law := List.mem_of_getElem? (i := 299) rfl
set_option maxRecDepth 20000 in
theorem mw_300 : (Cond.methodLink RL 56 yX4_terminals) ∈ wsL_law := List.mem_of_getElem? (i := 300) rfl
set_option maxRecDepth 20000 in
theorem mw_301 : (Cond.instanceMethod yX4_terminals) ∈ wsL_law := List.mem_of_getElem? (i := 301) rfl
set_option maxRecDepth 20000 in
theorem mw_302 : (Cond.selects RX4 yX4_terminals yX4_terminals) ∈ wsL_law := List.mem_of_getElem? (i := 302) rfl
set_option maxRecDepth 20000 in
theorem mw_303 : (Cond.code yX4_terminals cX4_terminals 1 (some .int)) ∈ wsL_law := List.mem_of_getElem? (i := 303) rfl
set_option maxRecDepth 20000 in
theorem mw_304 : (Cond.methodLink RX4 119 yX4_told) ∈ wsL_law := List.mem_of_getElem? (i := 304) rfl
set_option maxRecDepth 20000 in
theorem mw_305 : (Cond.instanceMethod yX4_told) ∈ wsL_law := List.mem_of_getElem? (i := 305) rfl
set_option maxRecDepth 20000 in
theorem mw_306 : (Cond.selects RX4 yX4_told yX4_told) ∈ wsL_law := List.mem_of_getElem? (i := 306) rfl
set_option maxRecDepth 20000 in
theorem mw_307 : (Cond.code yX4_told cX4_told 2 (some .int)) ∈ wsL_law := List.mem_of_getElem? (i := 307) rfl
set_option maxRecDepth 20000 in
theorem mw_308 : (Cond.methodLink RL 57 yX3_terminalPart) ∈ wsL_law := List.mem_of_getElem? (i := 308) rfl
set_option maxRecDepth 20000 in
theorem mw_309 : (Cond.instanceMethod yX3_terminalPart) ∈ wsL_law := List.mem_of_getElem? (i := 309) rfl
set_option maxRecDepth 20000 in
theorem mw_310 : (Cond.selects RX3 yX3_terminalPart yX3_terminalPart) ∈ wsL_law := List.mem_of_getElem? (i := 310) rfl
set_option maxRecDepth 20000 in
theorem mw_311 : (Cond.code yX3_terminalPart cX3_terminalPart 2 (some .int)) ∈ wsL_law := List.mem_of_getElem? (i := 311) rfl
set_option maxRecDepth 20000 in
theorem mw_312 : (Cond.methodLink RL 60 yX4_terminalPart) ∈ wsL_law := List.mem_of_getElem? (i := 312) rfl
set_option maxRecDepth 20000 in
theorem mw_313 : (Cond.instanceMethod yX4_terminalPart) ∈ wsL_law := List.mem_of_getElem? (i := 313) rfl
set_option maxRecDepth 20000 in
theorem mw_314 : (Cond.selects RX4 yX4_terminalPart yX4_terminalPart) ∈ wsL_law := List.mem_of_getElem? (i := 314) rfl
set_option maxRecDepth 20000 in
theorem mw_315 : (Cond.code yX4_terminalPart cX4_terminalPart 2 (some .int)) ∈ wsL_law := List.mem_of_getElem? (i := 315) rfl
set_option maxRecDepth 20000 in
theorem mw_316 : (Cond.methodLink RX4 123 yX4_toldPart) ∈ wsL_law := List.mem_of_getElem? (i := 316) rfl
set_option maxRecDepth 20000 in
theorem mw_317 : (Cond.instanceMethod yX4_toldPart) ∈ wsL_law := List.mem_of_getElem? (i := 317) rfl
set_option maxRecDepth 20000 in
theorem mw_318 : (Cond.selects RX4 yX4_toldPart yX4_toldPart) ∈ wsL_law := List.mem_of_getElem? (i := 318) rfl
set_option maxRecDepth 20000 in
theorem mw_319 : (Cond.code yX4_toldPart cX4_toldPart 3 (some .int)) ∈ wsL_law := List.mem_of_getElem? (i := 319) rfl
set_option maxRecDepth 20000 in
theorem mw_320 : (Cond.methodLink RL 61 yX3_apart) ∈ wsL_law := List.mem_of_getElem? (i := 320) rfl
set_option maxRecDepth 20000 in
theorem mw_321 : (Cond.instanceMethod yX3_apart) ∈ wsL_law := List.mem_of_getElem? (i := 321) rfl
set_option maxRecDepth 20000 in
theorem mw_322 : (Cond.selects RX3 yX3_apart yX3_apart) ∈ wsL_law := List.mem_of_getElem? (i := 322) rfl
set_option maxRecDepth 20000 in
theorem mw_323 : (Cond.code yX3_apart cX3_apart 1 (some .int)) ∈ wsL_law := List.mem_of_getElem? (i := 323) rfl
set_option maxRecDepth 20000 in
theorem mw_324 : (Cond.methodLink RX3 81 yX3_findApart) ∈ wsL_law := List.mem_of_getElem? (i := 324) rfl
set_option maxRecDepth 20000 in
theorem mw_325 : (Cond.instanceMethod yX3_findApart) ∈ wsL_law := List.mem_of_getElem? (i := 325) rfl
set_option maxRecDepth 20000 in
theorem mw_326 : (Cond.selects RX3 yX3_findApart yX3_findApart) ∈ wsL_law := List.mem_of_getElem? (i := 326) rfl
set_option maxRecDepth 20000 in
theorem mw_327 : (Cond.code yX3_findApart cX3_findApart 1 (some .boolean)) ∈ wsL_law := List.mem_of_getElem? (i := 327) rfl
set_option maxRecDepth 20000 in
theorem mw_328 : (Cond.methodLink RX3 93 yX3_preparePairs) ∈ wsL_law := List.mem_of_getElem? (i := 328) rfl
set_option maxRecDepth 20000 in
theorem mw_329 : (Cond.instanceMethod yX3_preparePairs) ∈ wsL_law := List.mem_of_getElem? (i := 329) rfl
set_option maxRecDepth 20000 in
theorem mw_330 : (Cond.selects RX3 yX3_preparePairs yX3_preparePairs) ∈ wsL_law := List.mem_of_getElem? (i := 330) rfl
set_option maxRecDepth 20000 in
theorem mw_331 : (Cond.code yX3_preparePairs cX3_preparePairs 2 none) ∈ wsL_law := List.mem_of_getElem? (i := 331) rfl
set_option maxRecDepth 20000 in
theorem mw_332 : (Cond.methodLink RL 64 yX4_apart) ∈ wsL_law := List.mem_of_getElem? (i := 332) rfl
set_option maxRecDepth 20000 in
theorem mw_333 : (Cond.instanceMethod yX4_apart) ∈ wsL_law := List.mem_of_getElem? (i := 333) rfl
set_option maxRecDepth 20000 in
theorem mw_334 : (Cond.selects RX4 yX4_apart yX4_apart) ∈ wsL_law := List.mem_of_getElem? (i := 334) rfl
set_option maxRecDepth 20000 in
theorem mw_335 : (Cond.code yX4_apart cX4_apart 1 (some .int)) ∈ wsL_law := List.mem_of_getElem? (i := 335) rfl
set_option maxRecDepth 20000 in
theorem mw_336 : (Cond.methodLink RL 65 yX3_apartPart) ∈ wsL_law := List.mem_of_getElem? (i := 336) rfl
set_option maxRecDepth 20000 in
theorem mw_337 : (Cond.instanceMethod yX3_apartPart) ∈ wsL_law := List.mem_of_getElem? (i := 337) rfl
set_option maxRecDepth 20000 in
theorem mw_338 : (Cond.selects RX3 yX3_apartPart yX3_apartPart) ∈ wsL_law := List.mem_of_getElem? (i := 338) rfl
set_option maxRecDepth 20000 in
theorem mw_339 : (Cond.code yX3_apartPart cX3_apartPart 2 (some .int)) ∈ wsL_law := List.mem_of_getElem? (i := 339) rfl
set_option maxRecDepth 20000 in
theorem mw_340 : (Cond.methodLink RL 68 yX4_apartPart) ∈ wsL_law := List.mem_of_getElem? (i := 340) rfl
set_option maxRecDepth 20000 in
theorem mw_341 : (Cond.instanceMethod yX4_apartPart) ∈ wsL_law := List.mem_of_getElem? (i := 341) rfl
set_option maxRecDepth 20000 in
theorem mw_342 : (Cond.selects RX4 yX4_apartPart yX4_apartPart) ∈ wsL_law := List.mem_of_getElem? (i := 342) rfl
set_option maxRecDepth 20000 in
theorem mw_343 : (Cond.code yX4_apartPart cX4_apartPart 2 (some .int)) ∈ wsL_law := List.mem_of_getElem? (i := 343) rfl
set_option maxRecDepth 20000 in
theorem mw_344 : (Cond.methodLink RL 69 yX3_sure) ∈ wsL_law := List.mem_of_getElem? (i := 344) rfl
set_option maxRecDepth 20000 in
theorem mw_345 : (Cond.instanceMethod yX3_sure) ∈ wsL_law := List.mem_of_getElem? (i := 345) rfl
set_option maxRecDepth 20000 in
theorem mw_346 : (Cond.selects RX3 yX3_sure yX3_sure) ∈ wsL_law := List.mem_of_getElem? (i := 346) rfl
set_option maxRecDepth 20000 in
theorem mw_347 : (Cond.code yX3_sure cX3_sure 6 (some .int)) ∈ wsL_law := List.mem_of_getElem? (i := 347) rfl
set_option maxRecDepth 20000 in
theorem mw_348 : (Cond.methodLink RX3 84 yX1_hasLine) ∈ wsL_law := List.mem_of_getElem? (i := 348) rfl
set_option maxRecDepth 20000 in
theorem mw_349 : (Cond.methodLink RX3 96 yX2_keepTogether) ∈ wsL_law := List.mem_of_getElem? (i := 349) rfl
set_option maxRecDepth 20000 in
theorem mw_350 : (Cond.instanceMethod yX2_keepTogether) ∈ wsL_law := List.mem_of_getElem? (i := 350) rfl
set_option maxRecDepth 20000 in
theorem mw_351 : (Cond.selects RX2 yX2_keepTogether yX2_keepTogether) ∈ wsL_law := List.mem_of_getElem? (i := 351) rfl
set_option maxRecDepth 20000 in
theorem mw_352 : (Cond.code yX2_keepTogether cX2_keepTogether 3 none) ∈ wsL_law := List.mem_of_getElem? (i := 352) rfl
set_option maxRecDepth 20000 in
theorem mw_353 : (Cond.methodLink RL 72 yX4_sure) ∈ wsL_law := List.mem_of_getElem? (i := 353) rfl
set_option maxRecDepth 20000 in
theorem mw_354 : (Cond.instanceMethod yX4_sure) ∈ wsL_law := List.mem_of_getElem? (i := 354) rfl
set_option maxRecDepth 20000 in
theorem mw_355 : (Cond.selects RX4 yX4_sure yX4_sure) ∈ wsL_law := List.mem_of_getElem? (i := 355) rfl
set_option maxRecDepth 20000 in
theorem mw_356 : (Cond.code yX4_sure cX4_sure 2 (some .int)) ∈ wsL_law := List.mem_of_getElem? (i := 356) rfl
set_option maxRecDepth 20000 in
theorem mw_357 : (Cond.methodLink RL 73 yX3_pieces) ∈ wsL_law := List.mem_of_getElem? (i := 357) rfl
set_option maxRecDepth 20000 in
theorem mw_358 : (Cond.instanceMethod yX3_pieces) ∈ wsL_law := List.mem_of_getElem? (i := 358) rfl
set_option maxRecDepth 20000 in
theorem mw_359 : (Cond.selects RX3 yX3_pieces yX3_pieces) ∈ wsL_law := List.mem_of_getElem? (i := 359) rfl
