/-! THE LAW'S CASES: each calls both objects and finds one answer -/
section lawcases
variable {K : KT} {p : Program} {l : Launch} {e : Env} {s : State} {m : MethodId} {args : Array Value} {below : List Frame} {meth : Method} {c : Code} {Q : State → Prop} {rr : Option FieldType}
variable {V V0 : VW} {sz cells slots b L i x o B : Nat} {xs : Nat → Int32}
set_option maxRecDepth 100000 in
theorem lc_0 (cx : Cx K p s m args meth c RL cL_law 4 rr) (hX : va_X b L xs s s.heap) (hbl : b < s.heap.size) (hbA : ¬ kA K b) (hi : i + 4 ≤ L) (hL : L ≤ 2048) (ho : x + 194 ≤ o) (hB : B + 60 < 1000000) (hV : Two K x o V0 B V) (hcs : cells ≤ room_1.cells ∧ slots ≤ room_1.slots)
    (kk : ∀ V2, Two K x o V0 (B + 64) V2 → G K p l e room_1 s m args below meth c Q 4 V2 sz cells slots 921 [(0, .ref b), (1, .ref x), (2, .ref o), (3, .int (nI i))] []) : G K p l e room_1 s m args below meth c Q 4 V sz cells slots 164 [(0, .ref b), (1, .ref x), (2, .ref o), (3, .int (nI i))] [] := by
  obtain ⟨z, t, h, π, f, u, g, r, N, n, L', rfl, hs, hR⟩ := hV
  obtain ⟨v, V1, V2, h1, h2, ⟨f1, e1⟩, ⟨f2, e2⟩, hT⟩ := pr_sign (l := l) (K := K) (sz := sz) (V0 := V0) (t := t) (u := u) ho hs hR (xs (i + 1)) (xs (i + 2))
  refine G.aload_n (pc := 164) cx dL_law_164 rfl 1 rfl ?_
  refine G.aload_n (pc := 165) cx dL_law_165 rfl 0 rfl ?_
  refine G.iload_n (pc := 166) cx dL_law_166 rfl 3 rfl ?_
  refine G.iconst (pc := 167) cx dL_law_167 (v := nI 1) (by decide) ?_
  refine G.iaddN (pc := 168) cx dL_law_168 i 1 ?_
  refine G.sld (pc := 169) cx hX hbl hbA dL_law_169 (i + 1) (by omega) hL ?_
  refine G.aload_n (pc := 170) cx dL_law_170 rfl 0 rfl ?_
  refine G.iload_n (pc := 171) cx dL_law_171 rfl 3 rfl ?_
  refine G.iconst (pc := 172) cx dL_law_172 (v := nI 2) (by decide) ?_
  refine G.iaddN (pc := 173) cx dL_law_173 i 2 ?_
  refine G.sld (pc := 174) cx hX hbl hbA dL_law_174 (i + 2) (by omega) hL ?_
  refine G.callVc (pc := 175) (rest := []) cx h1 ok_X9_sign dL_law_175 wm_ml_L_13 rfl e1 rfl (Nat.le_of_ble_eq_true rfl) ⟨Nat.le_of_ble_eq_true rfl, Nat.le_of_ble_eq_true rfl⟩ hcs ?_
  refine G.aload_n (pc := 178) cx dL_law_178 rfl 2 rfl ?_
  refine G.aload_n (pc := 179) cx dL_law_179 rfl 0 rfl ?_
  refine G.iload_n (pc := 180) cx dL_law_180 rfl 3 rfl ?_
  refine G.iconst (pc := 181) cx dL_law_181 (v := nI 1) (by decide) ?_
  refine G.iaddN (pc := 182) cx dL_law_182 i 1 ?_
  refine G.sld (pc := 183) cx hX hbl hbA dL_law_183 (i + 1) (by omega) hL ?_
  refine G.aload_n (pc := 184) cx dL_law_184 rfl 0 rfl ?_
  refine G.iload_n (pc := 185) cx dL_law_185 rfl 3 rfl ?_
  refine G.iconst (pc := 186) cx dL_law_186 (v := nI 2) (by decide) ?_
  refine G.iaddN (pc := 187) cx dL_law_187 i 2 ?_
  refine G.sld (pc := 188) cx hX hbl hbA dL_law_188 (i + 2) (by omega) hL ?_
  refine G.callVc (pc := 189) (rest := [.int v]) cx h2 ok_X10_sign dL_law_189 wm_ml_L_17 rfl e2 rfl (Nat.le_of_ble_eq_true rfl) ⟨Nat.le_of_ble_eq_true rfl, Nat.le_of_ble_eq_true rfl⟩ hcs ?_
  exact G.icmp_eq (pc := 192) cx dL_law_192 (tgt := 921) (by decide) (fun _ => kk V2 hT) (fun cq => absurd rfl cq)
set_option maxRecDepth 100000 in
theorem lc_1 (cx : Cx K p s m args meth c RL cL_law 4 rr) (hX : va_X b L xs s s.heap) (hbl : b < s.heap.size) (hbA : ¬ kA K b) (hi : i + 4 ≤ L) (hL : L ≤ 2048) (ho : x + 194 ≤ o) (hB : B + 60 < 1000000) (hV : Two K x o V0 B V) (hcs : cells ≤ room_1.cells ∧ slots ≤ room_1.slots)
    (kk : ∀ V2, Two K x o V0 (B + 64) V2 → G K p l e room_1 s m args below meth c Q 4 V2 sz cells slots 921 [(0, .ref b), (1, .ref x), (2, .ref o), (3, .int (nI i))] []) : G K p l e room_1 s m args below meth c Q 4 V sz cells slots 197 [(0, .ref b), (1, .ref x), (2, .ref o), (3, .int (nI i))] [] := by
  obtain ⟨z, t, h, π, f, u, g, r, N, n, L', rfl, hs, hR⟩ := hV
  obtain ⟨v, V1, V2, h1, h2, ⟨f1, e1⟩, ⟨f2, e2⟩, hT⟩ := pr_stock (l := l) (K := K) (sz := sz) (V0 := V0) (t := t) (u := u) ho hs hR (xs (i + 1)) (xs (i + 2)) (xs (i + 3))
  refine G.aload_n (pc := 197) cx dL_law_197 rfl 1 rfl ?_
  refine G.aload_n (pc := 198) cx dL_law_198 rfl 0 rfl ?_
  refine G.iload_n (pc := 199) cx dL_law_199 rfl 3 rfl ?_
  refine G.iconst (pc := 200) cx dL_law_200 (v := nI 1) (by decide) ?_
  refine G.iaddN (pc := 201) cx dL_law_201 i 1 ?_
  refine G.sld (pc := 202) cx hX hbl hbA dL_law_202 (i + 1) (by omega) hL ?_
  refine G.aload_n (pc := 203) cx dL_law_203 rfl 0 rfl ?_
  refine G.iload_n (pc := 204) cx dL_law_204 rfl 3 rfl ?_
  refine G.iconst (pc := 205) cx dL_law_205 (v := nI 2) (by decide) ?_
  refine G.iaddN (pc := 206) cx dL_law_206 i 2 ?_
  refine G.sld (pc := 207) cx hX hbl hbA dL_law_207 (i + 2) (by omega) hL ?_
  refine G.aload_n (pc := 208) cx dL_law_208 rfl 0 rfl ?_
  refine G.iload_n (pc := 209) cx dL_law_209 rfl 3 rfl ?_
  refine G.iconst (pc := 210) cx dL_law_210 (v := nI 3) (by decide) ?_
  refine G.iaddN (pc := 211) cx dL_law_211 i 3 ?_
  refine G.sld (pc := 212) cx hX hbl hbA dL_law_212 (i + 3) (by omega) hL ?_
  refine G.callVc (pc := 213) (rest := []) cx h1 ok_X9_stock dL_law_213 wm_ml_L_18 rfl e1 rfl (Nat.le_of_ble_eq_true rfl) ⟨Nat.le_of_ble_eq_true rfl, Nat.le_of_ble_eq_true rfl⟩ hcs ?_
  refine G.aload_n (pc := 216) cx dL_law_216 rfl 2 rfl ?_
  refine G.aload_n (pc := 217) cx dL_law_217 rfl 0 rfl ?_
  refine G.iload_n (pc := 218) cx dL_law_218 rfl 3 rfl ?_
  refine G.iconst (pc := 219) cx dL_law_219 (v := nI 1) (by decide) ?_
  refine G.iaddN (pc := 220) cx dL_law_220 i 1 ?_
  refine G.sld (pc := 221) cx hX hbl hbA dL_law_221 (i + 1) (by omega) hL ?_
  refine G.aload_n (pc := 222) cx dL_law_222 rfl 0 rfl ?_
  refine G.iload_n (pc := 223) cx dL_law_223 rfl 3 rfl ?_
  refine G.iconst (pc := 224) cx dL_law_224 (v := nI 2) (by decide) ?_
  refine G.iaddN (pc := 225) cx dL_law_225 i 2 ?_
  refine G.sld (pc := 226) cx hX hbl hbA dL_law_226 (i + 2) (by omega) hL ?_
  refine G.aload_n (pc := 227) cx dL_law_227 rfl 0 rfl ?_
  refine G.iload_n (pc := 228) cx dL_law_228 rfl 3 rfl ?_
  refine G.iconst (pc := 229) cx dL_law_229 (v := nI 3) (by decide) ?_
  refine G.iaddN (pc := 230) cx dL_law_230 i 3 ?_
  refine G.sld (pc := 231) cx hX hbl hbA dL_law_231 (i + 3) (by omega) hL ?_
  refine G.callVc (pc := 232) (rest := [.int v]) cx h2 ok_X10_stock dL_law_232 wm_ml_L_22 rfl e2 rfl (Nat.le_of_ble_eq_true rfl) ⟨Nat.le_of_ble_eq_true rfl, Nat.le_of_ble_eq_true rfl⟩ hcs ?_
  exact G.icmp_eq (pc := 235) cx dL_law_235 (tgt := 921) (by decide) (fun _ => kk V2 hT) (fun cq => absurd rfl cq)
set_option maxRecDepth 100000 in
theorem lc_2 (cx : Cx K p s m args meth c RL cL_law 4 rr) (hX : va_X b L xs s s.heap) (hbl : b < s.heap.size) (hbA : ¬ kA K b) (hi : i + 4 ≤ L) (hL : L ≤ 2048) (ho : x + 194 ≤ o) (hB : B + 60 < 1000000) (hV : Two K x o V0 B V) (hcs : cells ≤ room_1.cells ∧ slots ≤ room_1.slots)
    (kk : ∀ V2, Two K x o V0 (B + 64) V2 → G K p l e room_1 s m args below meth c Q 4 V2 sz cells slots 921 [(0, .ref b), (1, .ref x), (2, .ref o), (3, .int (nI i))] []) : G K p l e room_1 s m args below meth c Q 4 V sz cells slots 240 [(0, .ref b), (1, .ref x), (2, .ref o), (3, .int (nI i))] [] := by
  obtain ⟨z, t, h, π, f, u, g, r, N, n, L', rfl, hs, hR⟩ := hV
  obtain ⟨v, V1, V2, h1, h2, ⟨f1, e1⟩, ⟨f2, e2⟩, hT⟩ := pr_sell (l := l) (K := K) (sz := sz) (V0 := V0) (t := t) (u := u) ho hs hR (xs (i + 1)) (xs (i + 2)) (xs (i + 3))
  refine G.aload_n (pc := 240) cx dL_law_240 rfl 1 rfl ?_
  refine G.aload_n (pc := 241) cx dL_law_241 rfl 0 rfl ?_
  refine G.iload_n (pc := 242) cx dL_law_242 rfl 3 rfl ?_
  refine G.iconst (pc := 243) cx dL_law_243 (v := nI 1) (by decide) ?_
  refine G.iaddN (pc := 244) cx dL_law_244 i 1 ?_
  refine G.sld (pc := 245) cx hX hbl hbA dL_law_245 (i + 1) (by omega) hL ?_
  refine G.aload_n (pc := 246) cx dL_law_246 rfl 0 rfl ?_
  refine G.iload_n (pc := 247) cx dL_law_247 rfl 3 rfl ?_
  refine G.iconst (pc := 248) cx dL_law_248 (v := nI 2) (by decide) ?_
  refine G.iaddN (pc := 249) cx dL_law_249 i 2 ?_
  refine G.sld (pc := 250) cx hX hbl hbA dL_law_250 (i + 2) (by omega) hL ?_
  refine G.aload_n (pc := 251) cx dL_law_251 rfl 0 rfl ?_
  refine G.iload_n (pc := 252) cx dL_law_252 rfl 3 rfl ?_
  refine G.iconst (pc := 253) cx dL_law_253 (v := nI 3) (by decide) ?_
  refine G.iaddN (pc := 254) cx dL_law_254 i 3 ?_
  refine G.sld (pc := 255) cx hX hbl hbA dL_law_255 (i + 3) (by omega) hL ?_
  refine G.callVc (pc := 256) (rest := []) cx h1 ok_X9_sell dL_law_256 wm_ml_L_23 rfl e1 rfl (Nat.le_of_ble_eq_true rfl) ⟨Nat.le_of_ble_eq_true rfl, Nat.le_of_ble_eq_true rfl⟩ hcs ?_
  refine G.aload_n (pc := 259) cx dL_law_259 rfl 2 rfl ?_
  refine G.aload_n (pc := 260) cx dL_law_260 rfl 0 rfl ?_
  refine G.iload_n (pc := 261) cx dL_law_261 rfl 3 rfl ?_
  refine G.iconst (pc := 262) cx dL_law_262 (v := nI 1) (by decide) ?_
  refine G.iaddN (pc := 263) cx dL_law_263 i 1 ?_
  refine G.sld (pc := 264) cx hX hbl hbA dL_law_264 (i + 1) (by omega) hL ?_
  refine G.aload_n (pc := 265) cx dL_law_265 rfl 0 rfl ?_
  refine G.iload_n (pc := 266) cx dL_law_266 rfl 3 rfl ?_
  refine G.iconst (pc := 267) cx dL_law_267 (v := nI 2) (by decide) ?_
  refine G.iaddN (pc := 268) cx dL_law_268 i 2 ?_
  refine G.sld (pc := 269) cx hX hbl hbA dL_law_269 (i + 2) (by omega) hL ?_
  refine G.aload_n (pc := 270) cx dL_law_270 rfl 0 rfl ?_
  refine G.iload_n (pc := 271) cx dL_law_271 rfl 3 rfl ?_
  refine G.iconst (pc := 272) cx dL_law_272 (v := nI 3) (by decide) ?_
  refine G.iaddN (pc := 273) cx dL_law_273 i 3 ?_
  refine G.sld (pc := 274) cx hX hbl hbA dL_law_274 (i + 3) (by omega) hL ?_
  refine G.callVc (pc := 275) (rest := [.int v]) cx h2 ok_X10_sell dL_law_275 wm_ml_L_26 rfl e2 rfl (Nat.le_of_ble_eq_true rfl) ⟨Nat.le_of_ble_eq_true rfl, Nat.le_of_ble_eq_true rfl⟩ hcs ?_
  exact G.icmp_eq (pc := 278) cx dL_law_278 (tgt := 921) (by decide) (fun _ => kk V2 hT) (fun cq => absurd rfl cq)
set_option maxRecDepth 100000 in
theorem lc_3 (cx : Cx K p s m args meth c RL cL_law 4 rr) (hX : va_X b L xs s s.heap) (hbl : b < s.heap.size) (hbA : ¬ kA K b) (hi : i + 4 ≤ L) (hL : L ≤ 2048) (ho : x + 194 ≤ o) (hB : B + 60 < 1000000) (hV : Two K x o V0 B V) (hcs : cells ≤ room_1.cells ∧ slots ≤ room_1.slots)
    (kk : ∀ V2, Two K x o V0 (B + 64) V2 → G K p l e room_1 s m args below meth c Q 4 V2 sz cells slots 921 [(0, .ref b), (1, .ref x), (2, .ref o), (3, .int (nI i))] []) : G K p l e room_1 s m args below meth c Q 4 V sz cells slots 283 [(0, .ref b), (1, .ref x), (2, .ref o), (3, .int (nI i))] [] := by
  obtain ⟨z, t, h, π, f, u, g, r, N, n, L', rfl, hs, hR⟩ := hV
  obtain ⟨v, V1, V2, h1, h2, ⟨f1, e1⟩, ⟨f2, e2⟩, hT⟩ := pr_advance (l := l) (K := K) (sz := sz) (V0 := V0) (t := t) (u := u) ho hs hR (xs (i + 1)) (xs (i + 2))
  refine G.aload_n (pc := 283) cx dL_law_283 rfl 1 rfl ?_
  refine G.aload_n (pc := 284) cx dL_law_284 rfl 0 rfl ?_
  refine G.iload_n (pc := 285) cx dL_law_285 rfl 3 rfl ?_
  refine G.iconst (pc := 286) cx dL_law_286 (v := nI 1) (by decide) ?_
  refine G.iaddN (pc := 287) cx dL_law_287 i 1 ?_
  refine G.sld (pc := 288) cx hX hbl hbA dL_law_288 (i + 1) (by omega) hL ?_
  refine G.aload_n (pc := 289) cx dL_law_289 rfl 0 rfl ?_
  refine G.iload_n (pc := 290) cx dL_law_290 rfl 3 rfl ?_
  refine G.iconst (pc := 291) cx dL_law_291 (v := nI 2) (by decide) ?_
  refine G.iaddN (pc := 292) cx dL_law_292 i 2 ?_
  refine G.sld (pc := 293) cx hX hbl hbA dL_law_293 (i + 2) (by omega) hL ?_
  refine G.callVc (pc := 294) (rest := []) cx h1 ok_X9_advance dL_law_294 wm_ml_L_27 rfl e1 rfl (Nat.le_of_ble_eq_true rfl) ⟨Nat.le_of_ble_eq_true rfl, Nat.le_of_ble_eq_true rfl⟩ hcs ?_
  refine G.aload_n (pc := 297) cx dL_law_297 rfl 2 rfl ?_
  refine G.aload_n (pc := 298) cx dL_law_298 rfl 0 rfl ?_
  refine G.iload_n (pc := 299) cx dL_law_299 rfl 3 rfl ?_
  refine G.iconst (pc := 300) cx dL_law_300 (v := nI 1) (by decide) ?_
  refine G.iaddN (pc := 301) cx dL_law_301 i 1 ?_
  refine G.sld (pc := 302) cx hX hbl hbA dL_law_302 (i + 1) (by omega) hL ?_
  refine G.aload_n (pc := 303) cx dL_law_303 rfl 0 rfl ?_
  refine G.iload_n (pc := 304) cx dL_law_304 rfl 3 rfl ?_
  refine G.iconst (pc := 305) cx dL_law_305 (v := nI 2) (by decide) ?_
  refine G.iaddN (pc := 306) cx dL_law_306 i 2 ?_
  refine G.sld (pc := 307) cx hX hbl hbA dL_law_307 (i + 2) (by omega) hL ?_
  refine G.callVc (pc := 308) (rest := [.int v]) cx h2 ok_X10_advance dL_law_308 wm_ml_L_30 rfl e2 rfl (Nat.le_of_ble_eq_true rfl) ⟨Nat.le_of_ble_eq_true rfl, Nat.le_of_ble_eq_true rfl⟩ hcs ?_
  exact G.icmp_eq (pc := 311) cx dL_law_311 (tgt := 921) (by decide) (fun _ => kk V2 hT) (fun cq => absurd rfl cq)
set_option maxRecDepth 100000 in
theorem lc_4 (cx : Cx K p s m args meth c RL cL_law 4 rr) (hX : va_X b L xs s s.heap) (hbl : b < s.heap.size) (hbA : ¬ kA K b) (hi : i + 4 ≤ L) (hL : L ≤ 2048) (ho : x + 194 ≤ o) (hB : B + 60 < 1000000) (hV : Two K x o V0 B V) (hcs : cells ≤ room_1.cells ∧ slots ≤ room_1.slots)
    (kk : ∀ V2, Two K x o V0 (B + 64) V2 → G K p l e room_1 s m args below meth c Q 4 V2 sz cells slots 921 [(0, .ref b), (1, .ref x), (2, .ref o), (3, .int (nI i))] []) : G K p l e room_1 s m args below meth c Q 4 V sz cells slots 316 [(0, .ref b), (1, .ref x), (2, .ref o), (3, .int (nI i))] [] := by
  obtain ⟨z, t, h, π, f, u, g, r, N, n, L', rfl, hs, hR⟩ := hV
  obtain ⟨v, V1, V2, h1, h2, ⟨f1, e1⟩, ⟨f2, e2⟩, hT⟩ := pr_fine (l := l) (K := K) (sz := sz) (V0 := V0) (t := t) (u := u) ho hs hR (xs (i + 1)) (xs (i + 2))
  refine G.aload_n (pc := 316) cx dL_law_316 rfl 1 rfl ?_
  refine G.aload_n (pc := 317) cx dL_law_317 rfl 0 rfl ?_
  refine G.iload_n (pc := 318) cx dL_law_318 rfl 3 rfl ?_
  refine G.iconst (pc := 319) cx dL_law_319 (v := nI 1) (by decide) ?_
  refine G.iaddN (pc := 320) cx dL_law_320 i 1 ?_
  refine G.sld (pc := 321) cx hX hbl hbA dL_law_321 (i + 1) (by omega) hL ?_
  refine G.aload_n (pc := 322) cx dL_law_322 rfl 0 rfl ?_
  refine G.iload_n (pc := 323) cx dL_law_323 rfl 3 rfl ?_
  refine G.iconst (pc := 324) cx dL_law_324 (v := nI 2) (by decide) ?_
  refine G.iaddN (pc := 325) cx dL_law_325 i 2 ?_
  refine G.sld (pc := 326) cx hX hbl hbA dL_law_326 (i + 2) (by omega) hL ?_
  refine G.callVc (pc := 327) (rest := []) cx h1 ok_X9_fine dL_law_327 wm_ml_L_31 rfl e1 rfl (Nat.le_of_ble_eq_true rfl) ⟨Nat.le_of_ble_eq_true rfl, Nat.le_of_ble_eq_true rfl⟩ hcs ?_
  refine G.aload_n (pc := 330) cx dL_law_330 rfl 2 rfl ?_
  refine G.aload_n (pc := 331) cx dL_law_331 rfl 0 rfl ?_
  refine G.iload_n (pc := 332) cx dL_law_332 rfl 3 rfl ?_
  refine G.iconst (pc := 333) cx dL_law_333 (v := nI 1) (by decide) ?_
  refine G.iaddN (pc := 334) cx dL_law_334 i 1 ?_
  refine G.sld (pc := 335) cx hX hbl hbA dL_law_335 (i + 1) (by omega) hL ?_
  refine G.aload_n (pc := 336) cx dL_law_336 rfl 0 rfl ?_
  refine G.iload_n (pc := 337) cx dL_law_337 rfl 3 rfl ?_
  refine G.iconst (pc := 338) cx dL_law_338 (v := nI 2) (by decide) ?_
  refine G.iaddN (pc := 339) cx dL_law_339 i 2 ?_
  refine G.sld (pc := 340) cx hX hbl hbA dL_law_340 (i + 2) (by omega) hL ?_
  refine G.callVc (pc := 341) (rest := [.int v]) cx h2 ok_X10_fine dL_law_341 wm_ml_L_34 rfl e2 rfl (Nat.le_of_ble_eq_true rfl) ⟨Nat.le_of_ble_eq_true rfl, Nat.le_of_ble_eq_true rfl⟩ hcs ?_
  exact G.icmp_eq (pc := 344) cx dL_law_344 (tgt := 921) (by decide) (fun _ => kk V2 hT) (fun cq => absurd rfl cq)
set_option maxRecDepth 100000 in
theorem lc_5 (cx : Cx K p s m args meth c RL cL_law 4 rr) (hX : va_X b L xs s s.heap) (hbl : b < s.heap.size) (hbA : ¬ kA K b) (hi : i + 4 ≤ L) (hL : L ≤ 2048) (ho : x + 194 ≤ o) (hB : B + 60 < 1000000) (hV : Two K x o V0 B V) (hcs : cells ≤ room_1.cells ∧ slots ≤ room_1.slots)
    (kk : ∀ V2, Two K x o V0 (B + 64) V2 → G K p l e room_1 s m args below meth c Q 4 V2 sz cells slots 921 [(0, .ref b), (1, .ref x), (2, .ref o), (3, .int (nI i))] []) : G K p l e room_1 s m args below meth c Q 4 V sz cells slots 349 [(0, .ref b), (1, .ref x), (2, .ref o), (3, .int (nI i))] [] := by
  obtain ⟨z, t, h, π, f, u, g, r, N, n, L', rfl, hs, hR⟩ := hV
  obtain ⟨v, V1, V2, h1, h2, ⟨f1, e1⟩, ⟨f2, e2⟩, hT⟩ := pr_fineWatch (l := l) (K := K) (sz := sz) (V0 := V0) (t := t) (u := u) ho hs hR (xs (i + 1)) (xs (i + 2))
  refine G.aload_n (pc := 349) cx dL_law_349 rfl 1 rfl ?_
  refine G.aload_n (pc := 350) cx dL_law_350 rfl 0 rfl ?_
  refine G.iload_n (pc := 351) cx dL_law_351 rfl 3 rfl ?_
  refine G.iconst (pc := 352) cx dL_law_352 (v := nI 1) (by decide) ?_
  refine G.iaddN (pc := 353) cx dL_law_353 i 1 ?_
  refine G.sld (pc := 354) cx hX hbl hbA dL_law_354 (i + 1) (by omega) hL ?_
  refine G.aload_n (pc := 355) cx dL_law_355 rfl 0 rfl ?_
  refine G.iload_n (pc := 356) cx dL_law_356 rfl 3 rfl ?_
  refine G.iconst (pc := 357) cx dL_law_357 (v := nI 2) (by decide) ?_
  refine G.iaddN (pc := 358) cx dL_law_358 i 2 ?_
  refine G.sld (pc := 359) cx hX hbl hbA dL_law_359 (i + 2) (by omega) hL ?_
  refine G.callVc (pc := 360) (rest := []) cx h1 ok_X9_fineWatch dL_law_360 wm_ml_L_35 rfl e1 rfl (Nat.le_of_ble_eq_true rfl) ⟨Nat.le_of_ble_eq_true rfl, Nat.le_of_ble_eq_true rfl⟩ hcs ?_
  refine G.aload_n (pc := 363) cx dL_law_363 rfl 2 rfl ?_
  refine G.aload_n (pc := 364) cx dL_law_364 rfl 0 rfl ?_
  refine G.iload_n (pc := 365) cx dL_law_365 rfl 3 rfl ?_
  refine G.iconst (pc := 366) cx dL_law_366 (v := nI 1) (by decide) ?_
  refine G.iaddN (pc := 367) cx dL_law_367 i 1 ?_
  refine G.sld (pc := 368) cx hX hbl hbA dL_law_368 (i + 1) (by omega) hL ?_
  refine G.aload_n (pc := 369) cx dL_law_369 rfl 0 rfl ?_
  refine G.iload_n (pc := 370) cx dL_law_370 rfl 3 rfl ?_
  refine G.iconst (pc := 371) cx dL_law_371 (v := nI 2) (by decide) ?_
  refine G.iaddN (pc := 372) cx dL_law_372 i 2 ?_
  refine G.sld (pc := 373) cx hX hbl hbA dL_law_373 (i + 2) (by omega) hL ?_
  refine G.callVc (pc := 374) (rest := [.int v]) cx h2 ok_X10_fineWatch dL_law_374 wm_ml_L_38 rfl e2 rfl (Nat.le_of_ble_eq_true rfl) ⟨Nat.le_of_ble_eq_true rfl, Nat.le_of_ble_eq_true rfl⟩ hcs ?_
  exact G.icmp_eq (pc := 377) cx dL_law_377 (tgt := 921) (by decide) (fun _ => kk V2 hT) (fun cq => absurd rfl cq)
set_option maxRecDepth 100000 in
theorem lc_6 (cx : Cx K p s m args meth c RL cL_law 4 rr) (hX : va_X b L xs s s.heap) (hbl : b < s.heap.size) (hbA : ¬ kA K b) (hi : i + 4 ≤ L) (hL : L ≤ 2048) (ho : x + 194 ≤ o) (hB : B + 60 < 1000000) (hV : Two K x o V0 B V) (hcs : cells ≤ room_1.cells ∧ slots ≤ room_1.slots)
    (kk : ∀ V2, Two K x o V0 (B + 64) V2 → G K p l e room_1 s m args below meth c Q 4 V2 sz cells slots 921 [(0, .ref b), (1, .ref x), (2, .ref o), (3, .int (nI i))] []) : G K p l e room_1 s m args below meth c Q 4 V sz cells slots 382 [(0, .ref b), (1, .ref x), (2, .ref o), (3, .int (nI i))] [] := by
  obtain ⟨z, t, h, π, f, u, g, r, N, n, L', rfl, hs, hR⟩ := hV
  obtain ⟨v, V1, V2, h1, h2, ⟨f1, e1⟩, ⟨f2, e2⟩, hT⟩ := pr_leave (l := l) (K := K) (sz := sz) (V0 := V0) (t := t) (u := u) ho hs hR (xs (i + 1))
  refine G.aload_n (pc := 382) cx dL_law_382 rfl 1 rfl ?_
  refine G.aload_n (pc := 383) cx dL_law_383 rfl 0 rfl ?_
  refine G.iload_n (pc := 384) cx dL_law_384 rfl 3 rfl ?_
  refine G.iconst (pc := 385) cx dL_law_385 (v := nI 1) (by decide) ?_
  refine G.iaddN (pc := 386) cx dL_law_386 i 1 ?_
  refine G.sld (pc := 387) cx hX hbl hbA dL_law_387 (i + 1) (by omega) hL ?_
  refine G.callVc (pc := 388) (rest := []) cx h1 ok_X9_leave dL_law_388 wm_ml_L_39 rfl e1 rfl (Nat.le_of_ble_eq_true rfl) ⟨Nat.le_of_ble_eq_true rfl, Nat.le_of_ble_eq_true rfl⟩ hcs ?_
  refine G.aload_n (pc := 391) cx dL_law_391 rfl 2 rfl ?_
  refine G.aload_n (pc := 392) cx dL_law_392 rfl 0 rfl ?_
  refine G.iload_n (pc := 393) cx dL_law_393 rfl 3 rfl ?_
  refine G.iconst (pc := 394) cx dL_law_394 (v := nI 1) (by decide) ?_
  refine G.iaddN (pc := 395) cx dL_law_395 i 1 ?_
  refine G.sld (pc := 396) cx hX hbl hbA dL_law_396 (i + 1) (by omega) hL ?_
  refine G.callVc (pc := 397) (rest := [.int v]) cx h2 ok_X10_leave dL_law_397 wm_ml_L_43 rfl e2 rfl (Nat.le_of_ble_eq_true rfl) ⟨Nat.le_of_ble_eq_true rfl, Nat.le_of_ble_eq_true rfl⟩ hcs ?_
  exact G.icmp_eq (pc := 400) cx dL_law_400 (tgt := 921) (by decide) (fun _ => kk V2 hT) (fun cq => absurd rfl cq)
set_option maxRecDepth 100000 in
theorem lc_7 (cx : Cx K p s m args meth c RL cL_law 4 rr) (hX : va_X b L xs s s.heap) (hbl : b < s.heap.size) (hbA : ¬ kA K b) (hi : i + 4 ≤ L) (hL : L ≤ 2048) (ho : x + 194 ≤ o) (hB : B + 60 < 1000000) (hV : Two K x o V0 B V) (hcs : cells ≤ room_1.cells ∧ slots ≤ room_1.slots)
    (kk : ∀ V2, Two K x o V0 (B + 64) V2 → G K p l e room_1 s m args below meth c Q 4 V2 sz cells slots 921 [(0, .ref b), (1, .ref x), (2, .ref o), (3, .int (nI i))] []) : G K p l e room_1 s m args below meth c Q 4 V sz cells slots 405 [(0, .ref b), (1, .ref x), (2, .ref o), (3, .int (nI i))] [] := by
  obtain ⟨z, t, h, π, f, u, g, r, N, n, L', rfl, hs, hR⟩ := hV
  obtain ⟨v, V1, V2, h1, h2, ⟨f1, e1⟩, ⟨f2, e2⟩, hT⟩ := pr_back (l := l) (K := K) (sz := sz) (V0 := V0) (t := t) (u := u) ho hs hR (xs (i + 1)) (xs (i + 2))
  refine G.aload_n (pc := 405) cx dL_law_405 rfl 1 rfl ?_
  refine G.aload_n (pc := 406) cx dL_law_406 rfl 0 rfl ?_
  refine G.iload_n (pc := 407) cx dL_law_407 rfl 3 rfl ?_
  refine G.iconst (pc := 408) cx dL_law_408 (v := nI 1) (by decide) ?_
  refine G.iaddN (pc := 409) cx dL_law_409 i 1 ?_
  refine G.sld (pc := 410) cx hX hbl hbA dL_law_410 (i + 1) (by omega) hL ?_
  refine G.aload_n (pc := 411) cx dL_law_411 rfl 0 rfl ?_
  refine G.iload_n (pc := 412) cx dL_law_412 rfl 3 rfl ?_
  refine G.iconst (pc := 413) cx dL_law_413 (v := nI 2) (by decide) ?_
  refine G.iaddN (pc := 414) cx dL_law_414 i 2 ?_
  refine G.sld (pc := 415) cx hX hbl hbA dL_law_415 (i + 2) (by omega) hL ?_
  refine G.callVc (pc := 416) (rest := []) cx h1 ok_X9_back dL_law_416 wm_ml_L_44 rfl e1 rfl (Nat.le_of_ble_eq_true rfl) ⟨Nat.le_of_ble_eq_true rfl, Nat.le_of_ble_eq_true rfl⟩ hcs ?_
  refine G.aload_n (pc := 419) cx dL_law_419 rfl 2 rfl ?_
  refine G.aload_n (pc := 420) cx dL_law_420 rfl 0 rfl ?_
  refine G.iload_n (pc := 421) cx dL_law_421 rfl 3 rfl ?_
  refine G.iconst (pc := 422) cx dL_law_422 (v := nI 1) (by decide) ?_
  refine G.iaddN (pc := 423) cx dL_law_423 i 1 ?_
  refine G.sld (pc := 424) cx hX hbl hbA dL_law_424 (i + 1) (by omega) hL ?_
  refine G.aload_n (pc := 425) cx dL_law_425 rfl 0 rfl ?_
  refine G.iload_n (pc := 426) cx dL_law_426 rfl 3 rfl ?_
  refine G.iconst (pc := 427) cx dL_law_427 (v := nI 2) (by decide) ?_
  refine G.iaddN (pc := 428) cx dL_law_428 i 2 ?_
  refine G.sld (pc := 429) cx hX hbl hbA dL_law_429 (i + 2) (by omega) hL ?_
  refine G.callVc (pc := 430) (rest := [.int v]) cx h2 ok_X10_back dL_law_430 wm_ml_L_47 rfl e2 rfl (Nat.le_of_ble_eq_true rfl) ⟨Nat.le_of_ble_eq_true rfl, Nat.le_of_ble_eq_true rfl⟩ hcs ?_
  exact G.icmp_eq (pc := 433) cx dL_law_433 (tgt := 921) (by decide) (fun _ => kk V2 hT) (fun cq => absurd rfl cq)
set_option maxRecDepth 100000 in
theorem lc_8 (cx : Cx K p s m args meth c RL cL_law 4 rr) (hX : va_X b L xs s s.heap) (hbl : b < s.heap.size) (hbA : ¬ kA K b) (hi : i + 4 ≤ L) (hL : L ≤ 2048) (ho : x + 194 ≤ o) (hB : B + 60 < 1000000) (hV : Two K x o V0 B V) (hcs : cells ≤ room_1.cells ∧ slots ≤ room_1.slots)
    (kk : ∀ V2, Two K x o V0 (B + 64) V2 → G K p l e room_1 s m args below meth c Q 4 V2 sz cells slots 921 [(0, .ref b), (1, .ref x), (2, .ref o), (3, .int (nI i))] []) : G K p l e room_1 s m args below meth c Q 4 V sz cells slots 438 [(0, .ref b), (1, .ref x), (2, .ref o), (3, .int (nI i))] [] := by
  obtain ⟨z, t, h, π, f, u, g, r, N, n, L', rfl, hs, hR⟩ := hV
  obtain ⟨v, V1, V2, h1, h2, ⟨f1, e1⟩, ⟨f2, e2⟩, hT⟩ := pr_sail (l := l) (K := K) (sz := sz) (V0 := V0) (t := t) (u := u) ho hs hR 
  refine G.aload_n (pc := 438) cx dL_law_438 rfl 1 rfl ?_
  refine G.callVc (pc := 439) (rest := []) cx h1 ok_X9_sail dL_law_439 wm_ml_L_48 rfl e1 rfl (Nat.le_of_ble_eq_true rfl) ⟨Nat.le_of_ble_eq_true rfl, Nat.le_of_ble_eq_true rfl⟩ hcs ?_
  refine G.aload_n (pc := 442) cx dL_law_442 rfl 2 rfl ?_
  refine G.callVc (pc := 443) (rest := [.int v]) cx h2 ok_X10_sail dL_law_443 wm_ml_L_52 rfl e2 rfl (Nat.le_of_ble_eq_true rfl) ⟨Nat.le_of_ble_eq_true rfl, Nat.le_of_ble_eq_true rfl⟩ hcs ?_
  exact G.icmp_eq (pc := 446) cx dL_law_446 (tgt := 921) (by decide) (fun _ => kk V2 hT) (fun cq => absurd rfl cq)
set_option maxRecDepth 100000 in
theorem lc_9 (cx : Cx K p s m args meth c RL cL_law 4 rr) (hX : va_X b L xs s s.heap) (hbl : b < s.heap.size) (hbA : ¬ kA K b) (hi : i + 4 ≤ L) (hL : L ≤ 2048) (ho : x + 194 ≤ o) (hB : B + 60 < 1000000) (hV : Two K x o V0 B V) (hcs : cells ≤ room_1.cells ∧ slots ≤ room_1.slots)
    (kk : ∀ V2, Two K x o V0 (B + 64) V2 → G K p l e room_1 s m args below meth c Q 4 V2 sz cells slots 921 [(0, .ref b), (1, .ref x), (2, .ref o), (3, .int (nI i))] []) : G K p l e room_1 s m args below meth c Q 4 V sz cells slots 451 [(0, .ref b), (1, .ref x), (2, .ref o), (3, .int (nI i))] [] := by
  obtain ⟨z, t, h, π, f, u, g, r, N, n, L', rfl, hs, hR⟩ := hV
  obtain ⟨v, V1, V2, h1, h2, ⟨f1, e1⟩, ⟨f2, e2⟩, hT⟩ := pr_port (l := l) (K := K) (sz := sz) (V0 := V0) (t := t) (u := u) ho hs hR (by omega)
  refine G.aload_n (pc := 451) cx dL_law_451 rfl 1 rfl ?_
  refine G.callVc (pc := 452) (rest := []) cx h1 ok_X9_port dL_law_452 wm_ml_L_53 rfl e1 rfl (Nat.le_of_ble_eq_true rfl) ⟨Nat.le_of_ble_eq_true rfl, Nat.le_of_ble_eq_true rfl⟩ hcs ?_
  refine G.aload_n (pc := 455) cx dL_law_455 rfl 2 rfl ?_
  refine G.callVc (pc := 456) (rest := [.int v]) cx h2 ok_X10_port dL_law_456 wm_ml_L_56 rfl e2 rfl (Nat.le_of_ble_eq_true rfl) ⟨Nat.le_of_ble_eq_true rfl, Nat.le_of_ble_eq_true rfl⟩ hcs ?_
  exact G.icmp_eq (pc := 459) cx dL_law_459 (tgt := 921) (by decide) (fun _ => kk V2 hT) (fun cq => absurd rfl cq)
set_option maxRecDepth 100000 in
theorem lc_10 (cx : Cx K p s m args meth c RL cL_law 4 rr) (hX : va_X b L xs s s.heap) (hbl : b < s.heap.size) (hbA : ¬ kA K b) (hi : i + 4 ≤ L) (hL : L ≤ 2048) (ho : x + 194 ≤ o) (hB : B + 60 < 1000000) (hV : Two K x o V0 B V) (hcs : cells ≤ room_1.cells ∧ slots ≤ room_1.slots)
    (kk : ∀ V2, Two K x o V0 (B + 64) V2 → G K p l e room_1 s m args below meth c Q 4 V2 sz cells slots 921 [(0, .ref b), (1, .ref x), (2, .ref o), (3, .int (nI i))] []) : G K p l e room_1 s m args below meth c Q 4 V sz cells slots 464 [(0, .ref b), (1, .ref x), (2, .ref o), (3, .int (nI i))] [] := by
  obtain ⟨z, t, h, π, f, u, g, r, N, n, L', rfl, hs, hR⟩ := hV
  obtain ⟨v, V1, V2, h1, h2, ⟨f1, e1⟩, ⟨f2, e2⟩, hT⟩ := pr_days (l := l) (K := K) (sz := sz) (V0 := V0) (t := t) (u := u) ho hs hR (xs (i + 1))
  refine G.aload_n (pc := 464) cx dL_law_464 rfl 1 rfl ?_
  refine G.aload_n (pc := 465) cx dL_law_465 rfl 0 rfl ?_
  refine G.iload_n (pc := 466) cx dL_law_466 rfl 3 rfl ?_
  refine G.iconst (pc := 467) cx dL_law_467 (v := nI 1) (by decide) ?_
  refine G.iaddN (pc := 468) cx dL_law_468 i 1 ?_
  refine G.sld (pc := 469) cx hX hbl hbA dL_law_469 (i + 1) (by omega) hL ?_
  refine G.callVc (pc := 470) (rest := []) cx h1 ok_X9_days dL_law_470 wm_ml_L_57 rfl e1 rfl (Nat.le_of_ble_eq_true rfl) ⟨Nat.le_of_ble_eq_true rfl, Nat.le_of_ble_eq_true rfl⟩ hcs ?_
  refine G.aload_n (pc := 473) cx dL_law_473 rfl 2 rfl ?_
  refine G.aload_n (pc := 474) cx dL_law_474 rfl 0 rfl ?_
  refine G.iload_n (pc := 475) cx dL_law_475 rfl 3 rfl ?_
  refine G.iconst (pc := 476) cx dL_law_476 (v := nI 1) (by decide) ?_
  refine G.iaddN (pc := 477) cx dL_law_477 i 1 ?_
  refine G.sld (pc := 478) cx hX hbl hbA dL_law_478 (i + 1) (by omega) hL ?_
  refine G.callVc (pc := 479) (rest := [.int v]) cx h2 ok_X10_days dL_law_479 wm_ml_L_60 rfl e2 rfl (Nat.le_of_ble_eq_true rfl) ⟨Nat.le_of_ble_eq_true rfl, Nat.le_of_ble_eq_true rfl⟩ hcs ?_
  exact G.icmp_eq (pc := 482) cx dL_law_482 (tgt := 921) (by decide) (fun _ => kk V2 hT) (fun cq => absurd rfl cq)
set_option maxRecDepth 100000 in
theorem lc_11 (cx : Cx K p s m args meth c RL cL_law 4 rr) (hX : va_X b L xs s s.heap) (hbl : b < s.heap.size) (hbA : ¬ kA K b) (hi : i + 4 ≤ L) (hL : L ≤ 2048) (ho : x + 194 ≤ o) (hB : B + 60 < 1000000) (hV : Two K x o V0 B V) (hcs : cells ≤ room_1.cells ∧ slots ≤ room_1.slots)
    (kk : ∀ V2, Two K x o V0 (B + 64) V2 → G K p l e room_1 s m args below meth c Q 4 V2 sz cells slots 921 [(0, .ref b), (1, .ref x), (2, .ref o), (3, .int (nI i))] []) : G K p l e room_1 s m args below meth c Q 4 V sz cells slots 487 [(0, .ref b), (1, .ref x), (2, .ref o), (3, .int (nI i))] [] := by
  obtain ⟨z, t, h, π, f, u, g, r, N, n, L', rfl, hs, hR⟩ := hV
  obtain ⟨v, V1, V2, h1, h2, ⟨f1, e1⟩, ⟨f2, e2⟩, hT⟩ := pr_dismiss (l := l) (K := K) (sz := sz) (V0 := V0) (t := t) (u := u) ho hs hR (xs (i + 1))
  refine G.aload_n (pc := 487) cx dL_law_487 rfl 1 rfl ?_
  refine G.aload_n (pc := 488) cx dL_law_488 rfl 0 rfl ?_
  refine G.iload_n (pc := 489) cx dL_law_489 rfl 3 rfl ?_
  refine G.iconst (pc := 490) cx dL_law_490 (v := nI 1) (by decide) ?_
  refine G.iaddN (pc := 491) cx dL_law_491 i 1 ?_
  refine G.sld (pc := 492) cx hX hbl hbA dL_law_492 (i + 1) (by omega) hL ?_
  refine G.callVc (pc := 493) (rest := []) cx h1 ok_X9_dismiss dL_law_493 wm_ml_L_61 rfl e1 rfl (Nat.le_of_ble_eq_true rfl) ⟨Nat.le_of_ble_eq_true rfl, Nat.le_of_ble_eq_true rfl⟩ hcs ?_
  refine G.aload_n (pc := 496) cx dL_law_496 rfl 2 rfl ?_
  refine G.aload_n (pc := 497) cx dL_law_497 rfl 0 rfl ?_
  refine G.iload_n (pc := 498) cx dL_law_498 rfl 3 rfl ?_
  refine G.iconst (pc := 499) cx dL_law_499 (v := nI 1) (by decide) ?_
  refine G.iaddN (pc := 500) cx dL_law_500 i 1 ?_
  refine G.sld (pc := 501) cx hX hbl hbA dL_law_501 (i + 1) (by omega) hL ?_
  refine G.callVc (pc := 502) (rest := [.int v]) cx h2 ok_X10_dismiss dL_law_502 wm_ml_L_64 rfl e2 rfl (Nat.le_of_ble_eq_true rfl) ⟨Nat.le_of_ble_eq_true rfl, Nat.le_of_ble_eq_true rfl⟩ hcs ?_
  exact G.icmp_eq (pc := 505) cx dL_law_505 (tgt := 921) (by decide) (fun _ => kk V2 hT) (fun cq => absurd rfl cq)
set_option maxRecDepth 100000 in
theorem lc_12 (cx : Cx K p s m args meth c RL cL_law 4 rr) (hX : va_X b L xs s s.heap) (hbl : b < s.heap.size) (hbA : ¬ kA K b) (hi : i + 4 ≤ L) (hL : L ≤ 2048) (ho : x + 194 ≤ o) (hB : B + 60 < 1000000) (hV : Two K x o V0 B V) (hcs : cells ≤ room_1.cells ∧ slots ≤ room_1.slots)
    (kk : ∀ V2, Two K x o V0 (B + 64) V2 → G K p l e room_1 s m args below meth c Q 4 V2 sz cells slots 921 [(0, .ref b), (1, .ref x), (2, .ref o), (3, .int (nI i))] []) : G K p l e room_1 s m args below meth c Q 4 V sz cells slots 510 [(0, .ref b), (1, .ref x), (2, .ref o), (3, .int (nI i))] [] := by
  obtain ⟨z, t, h, π, f, u, g, r, N, n, L', rfl, hs, hR⟩ := hV
  obtain ⟨v, V1, V2, h1, h2, ⟨f1, e1⟩, ⟨f2, e2⟩, hT⟩ := pr_payOff (l := l) (K := K) (sz := sz) (V0 := V0) (t := t) (u := u) ho hs hR 
  refine G.aload_n (pc := 510) cx dL_law_510 rfl 1 rfl ?_
  refine G.callVc (pc := 511) (rest := []) cx h1 ok_X9_payOff dL_law_511 wm_ml_L_65 rfl e1 rfl (Nat.le_of_ble_eq_true rfl) ⟨Nat.le_of_ble_eq_true rfl, Nat.le_of_ble_eq_true rfl⟩ hcs ?_
  refine G.aload_n (pc := 514) cx dL_law_514 rfl 2 rfl ?_
  refine G.callVc (pc := 515) (rest := [.int v]) cx h2 ok_X10_payOff dL_law_515 wm_ml_L_68 rfl e2 rfl (Nat.le_of_ble_eq_true rfl) ⟨Nat.le_of_ble_eq_true rfl, Nat.le_of_ble_eq_true rfl⟩ hcs ?_
  exact G.icmp_eq (pc := 518) cx dL_law_518 (tgt := 921) (by decide) (fun _ => kk V2 hT) (fun cq => absurd rfl cq)
set_option maxRecDepth 100000 in
theorem lc_13 (cx : Cx K p s m args meth c RL cL_law 4 rr) (hX : va_X b L xs s s.heap) (hbl : b < s.heap.size) (hbA : ¬ kA K b) (hi : i + 4 ≤ L) (hL : L ≤ 2048) (ho : x + 194 ≤ o) (hB : B + 60 < 1000000) (hV : Two K x o V0 B V) (hcs : cells ≤ room_1.cells ∧ slots ≤ room_1.slots)
    (kk : ∀ V2, Two K x o V0 (B + 64) V2 → G K p l e room_1 s m args below meth c Q 4 V2 sz cells slots 921 [(0, .ref b), (1, .ref x), (2, .ref o), (3, .int (nI i))] []) : G K p l e room_1 s m args below meth c Q 4 V sz cells slots 523 [(0, .ref b), (1, .ref x), (2, .ref o), (3, .int (nI i))] [] := by
  obtain ⟨z, t, h, π, f, u, g, r, N, n, L', rfl, hs, hR⟩ := hV
  obtain ⟨v, V1, V2, h1, h2, ⟨f1, e1⟩, ⟨f2, e2⟩, hT⟩ := pr_set (l := l) (K := K) (sz := sz) (V0 := V0) (t := t) (u := u) ho hs hR (xs (i + 1)) (xs (i + 2))
  refine G.aload_n (pc := 523) cx dL_law_523 rfl 1 rfl ?_
  refine G.aload_n (pc := 524) cx dL_law_524 rfl 0 rfl ?_
  refine G.iload_n (pc := 525) cx dL_law_525 rfl 3 rfl ?_
  refine G.iconst (pc := 526) cx dL_law_526 (v := nI 1) (by decide) ?_
  refine G.iaddN (pc := 527) cx dL_law_527 i 1 ?_
  refine G.sld (pc := 528) cx hX hbl hbA dL_law_528 (i + 1) (by omega) hL ?_
  refine G.aload_n (pc := 529) cx dL_law_529 rfl 0 rfl ?_
  refine G.iload_n (pc := 530) cx dL_law_530 rfl 3 rfl ?_
  refine G.iconst (pc := 531) cx dL_law_531 (v := nI 2) (by decide) ?_
  refine G.iaddN (pc := 532) cx dL_law_532 i 2 ?_
  refine G.sld (pc := 533) cx hX hbl hbA dL_law_533 (i + 2) (by omega) hL ?_
  refine G.callVc (pc := 534) (rest := []) cx h1 ok_X9_set dL_law_534 wm_ml_L_69 rfl e1 rfl (Nat.le_of_ble_eq_true rfl) ⟨Nat.le_of_ble_eq_true rfl, Nat.le_of_ble_eq_true rfl⟩ hcs ?_
  refine G.aload_n (pc := 537) cx dL_law_537 rfl 2 rfl ?_
  refine G.aload_n (pc := 538) cx dL_law_538 rfl 0 rfl ?_
  refine G.iload_n (pc := 539) cx dL_law_539 rfl 3 rfl ?_
  refine G.iconst (pc := 540) cx dL_law_540 (v := nI 1) (by decide) ?_
  refine G.iaddN (pc := 541) cx dL_law_541 i 1 ?_
  refine G.sld (pc := 542) cx hX hbl hbA dL_law_542 (i + 1) (by omega) hL ?_
  refine G.aload_n (pc := 543) cx dL_law_543 rfl 0 rfl ?_
  refine G.iload_n (pc := 544) cx dL_law_544 rfl 3 rfl ?_
  refine G.iconst (pc := 545) cx dL_law_545 (v := nI 2) (by decide) ?_
  refine G.iaddN (pc := 546) cx dL_law_546 i 2 ?_
  refine G.sld (pc := 547) cx hX hbl hbA dL_law_547 (i + 2) (by omega) hL ?_
  refine G.callVc (pc := 548) (rest := [.int v]) cx h2 ok_X10_set dL_law_548 wm_ml_L_72 rfl e2 rfl (Nat.le_of_ble_eq_true rfl) ⟨Nat.le_of_ble_eq_true rfl, Nat.le_of_ble_eq_true rfl⟩ hcs ?_
  exact G.icmp_eq (pc := 551) cx dL_law_551 (tgt := 921) (by decide) (fun _ => kk V2 hT) (fun cq => absurd rfl cq)
set_option maxRecDepth 100000 in
theorem lc_14 (cx : Cx K p s m args meth c RL cL_law 4 rr) (hX : va_X b L xs s s.heap) (hbl : b < s.heap.size) (hbA : ¬ kA K b) (hi : i + 4 ≤ L) (hL : L ≤ 2048) (ho : x + 194 ≤ o) (hB : B + 60 < 1000000) (hV : Two K x o V0 B V) (hcs : cells ≤ room_1.cells ∧ slots ≤ room_1.slots)
    (kk : ∀ V2, Two K x o V0 (B + 64) V2 → G K p l e room_1 s m args below meth c Q 4 V2 sz cells slots 921 [(0, .ref b), (1, .ref x), (2, .ref o), (3, .int (nI i))] []) : G K p l e room_1 s m args below meth c Q 4 V sz cells slots 556 [(0, .ref b), (1, .ref x), (2, .ref o), (3, .int (nI i))] [] := by
  obtain ⟨z, t, h, π, f, u, g, r, N, n, L', rfl, hs, hR⟩ := hV
  obtain ⟨v, V1, V2, h1, h2, ⟨f1, e1⟩, ⟨f2, e2⟩, hT⟩ := pr_sailor (l := l) (K := K) (sz := sz) (V0 := V0) (t := t) (u := u) ho hs hR (xs (i + 1)) (xs (i + 2))
  refine G.aload_n (pc := 556) cx dL_law_556 rfl 1 rfl ?_
  refine G.aload_n (pc := 557) cx dL_law_557 rfl 0 rfl ?_
  refine G.iload_n (pc := 558) cx dL_law_558 rfl 3 rfl ?_
  refine G.iconst (pc := 559) cx dL_law_559 (v := nI 1) (by decide) ?_
  refine G.iaddN (pc := 560) cx dL_law_560 i 1 ?_
  refine G.sld (pc := 561) cx hX hbl hbA dL_law_561 (i + 1) (by omega) hL ?_
  refine G.aload_n (pc := 562) cx dL_law_562 rfl 0 rfl ?_
  refine G.iload_n (pc := 563) cx dL_law_563 rfl 3 rfl ?_
  refine G.iconst (pc := 564) cx dL_law_564 (v := nI 2) (by decide) ?_
  refine G.iaddN (pc := 565) cx dL_law_565 i 2 ?_
  refine G.sld (pc := 566) cx hX hbl hbA dL_law_566 (i + 2) (by omega) hL ?_
  refine G.callVc (pc := 567) (rest := []) cx h1 ok_X9_sailor dL_law_567 wm_ml_L_73 rfl e1 rfl (Nat.le_of_ble_eq_true rfl) ⟨Nat.le_of_ble_eq_true rfl, Nat.le_of_ble_eq_true rfl⟩ hcs ?_
  refine G.aload_n (pc := 570) cx dL_law_570 rfl 2 rfl ?_
  refine G.aload_n (pc := 571) cx dL_law_571 rfl 0 rfl ?_
  refine G.iload_n (pc := 572) cx dL_law_572 rfl 3 rfl ?_
  refine G.iconst (pc := 573) cx dL_law_573 (v := nI 1) (by decide) ?_
  refine G.iaddN (pc := 574) cx dL_law_574 i 1 ?_
  refine G.sld (pc := 575) cx hX hbl hbA dL_law_575 (i + 1) (by omega) hL ?_
  refine G.aload_n (pc := 576) cx dL_law_576 rfl 0 rfl ?_
  refine G.iload_n (pc := 577) cx dL_law_577 rfl 3 rfl ?_
  refine G.iconst (pc := 578) cx dL_law_578 (v := nI 2) (by decide) ?_
  refine G.iaddN (pc := 579) cx dL_law_579 i 2 ?_
  refine G.sld (pc := 580) cx hX hbl hbA dL_law_580 (i + 2) (by omega) hL ?_
  refine G.callVc (pc := 581) (rest := [.int v]) cx h2 ok_X10_sailor dL_law_581 wm_ml_L_76 rfl e2 rfl (Nat.le_of_ble_eq_true rfl) ⟨Nat.le_of_ble_eq_true rfl, Nat.le_of_ble_eq_true rfl⟩ hcs ?_
  exact G.icmp_eq (pc := 584) cx dL_law_584 (tgt := 921) (by decide) (fun _ => kk V2 hT) (fun cq => absurd rfl cq)
set_option maxRecDepth 100000 in
theorem lc_15 (cx : Cx K p s m args meth c RL cL_law 4 rr) (hX : va_X b L xs s s.heap) (hbl : b < s.heap.size) (hbA : ¬ kA K b) (hi : i + 4 ≤ L) (hL : L ≤ 2048) (ho : x + 194 ≤ o) (hB : B + 60 < 1000000) (hV : Two K x o V0 B V) (hcs : cells ≤ room_1.cells ∧ slots ≤ room_1.slots)
    (kk : ∀ V2, Two K x o V0 (B + 64) V2 → G K p l e room_1 s m args below meth c Q 4 V2 sz cells slots 921 [(0, .ref b), (1, .ref x), (2, .ref o), (3, .int (nI i))] []) : G K p l e room_1 s m args below meth c Q 4 V sz cells slots 589 [(0, .ref b), (1, .ref x), (2, .ref o), (3, .int (nI i))] [] := by
  obtain ⟨z, t, h, π, f, u, g, r, N, n, L', rfl, hs, hR⟩ := hV
  obtain ⟨v, V1, V2, h1, h2, ⟨f1, e1⟩, ⟨f2, e2⟩, hT⟩ := pr_item (l := l) (K := K) (sz := sz) (V0 := V0) (t := t) (u := u) ho hs hR (xs (i + 1)) (xs (i + 2))
  refine G.aload_n (pc := 589) cx dL_law_589 rfl 1 rfl ?_
  refine G.aload_n (pc := 590) cx dL_law_590 rfl 0 rfl ?_
  refine G.iload_n (pc := 591) cx dL_law_591 rfl 3 rfl ?_
  refine G.iconst (pc := 592) cx dL_law_592 (v := nI 1) (by decide) ?_
  refine G.iaddN (pc := 593) cx dL_law_593 i 1 ?_
  refine G.sld (pc := 594) cx hX hbl hbA dL_law_594 (i + 1) (by omega) hL ?_
  refine G.aload_n (pc := 595) cx dL_law_595 rfl 0 rfl ?_
  refine G.iload_n (pc := 596) cx dL_law_596 rfl 3 rfl ?_
  refine G.iconst (pc := 597) cx dL_law_597 (v := nI 2) (by decide) ?_
  refine G.iaddN (pc := 598) cx dL_law_598 i 2 ?_
  refine G.sld (pc := 599) cx hX hbl hbA dL_law_599 (i + 2) (by omega) hL ?_
  refine G.callVc (pc := 600) (rest := []) cx h1 ok_X9_item dL_law_600 wm_ml_L_77 rfl e1 rfl (Nat.le_of_ble_eq_true rfl) ⟨Nat.le_of_ble_eq_true rfl, Nat.le_of_ble_eq_true rfl⟩ hcs ?_
  refine G.aload_n (pc := 603) cx dL_law_603 rfl 2 rfl ?_
  refine G.aload_n (pc := 604) cx dL_law_604 rfl 0 rfl ?_
  refine G.iload_n (pc := 605) cx dL_law_605 rfl 3 rfl ?_
  refine G.iconst (pc := 606) cx dL_law_606 (v := nI 1) (by decide) ?_
  refine G.iaddN (pc := 607) cx dL_law_607 i 1 ?_
  refine G.sld (pc := 608) cx hX hbl hbA dL_law_608 (i + 1) (by omega) hL ?_
  refine G.aload_n (pc := 609) cx dL_law_609 rfl 0 rfl ?_
  refine G.iload_n (pc := 610) cx dL_law_610 rfl 3 rfl ?_
  refine G.iconst (pc := 611) cx dL_law_611 (v := nI 2) (by decide) ?_
  refine G.iaddN (pc := 612) cx dL_law_612 i 2 ?_
  refine G.sld (pc := 613) cx hX hbl hbA dL_law_613 (i + 2) (by omega) hL ?_
  refine G.callVc (pc := 614) (rest := [.int v]) cx h2 ok_X10_item dL_law_614 wm_ml_L_80 rfl e2 rfl (Nat.le_of_ble_eq_true rfl) ⟨Nat.le_of_ble_eq_true rfl, Nat.le_of_ble_eq_true rfl⟩ hcs ?_
  exact G.icmp_eq (pc := 617) cx dL_law_617 (tgt := 921) (by decide) (fun _ => kk V2 hT) (fun cq => absurd rfl cq)
set_option maxRecDepth 100000 in
theorem lc_16 (cx : Cx K p s m args meth c RL cL_law 4 rr) (hX : va_X b L xs s s.heap) (hbl : b < s.heap.size) (hbA : ¬ kA K b) (hi : i + 4 ≤ L) (hL : L ≤ 2048) (ho : x + 194 ≤ o) (hB : B + 60 < 1000000) (hV : Two K x o V0 B V) (hcs : cells ≤ room_1.cells ∧ slots ≤ room_1.slots)
    (kk : ∀ V2, Two K x o V0 (B + 64) V2 → G K p l e room_1 s m args below meth c Q 4 V2 sz cells slots 921 [(0, .ref b), (1, .ref x), (2, .ref o), (3, .int (nI i))] []) : G K p l e room_1 s m args below meth c Q 4 V sz cells slots 622 [(0, .ref b), (1, .ref x), (2, .ref o), (3, .int (nI i))] [] := by
  obtain ⟨z, t, h, π, f, u, g, r, N, n, L', rfl, hs, hR⟩ := hV
  obtain ⟨v, V1, V2, h1, h2, ⟨f1, e1⟩, ⟨f2, e2⟩, hT⟩ := pr_book (l := l) (K := K) (sz := sz) (V0 := V0) (t := t) (u := u) ho hs hR (xs (i + 1)) (xs (i + 2))
  refine G.aload_n (pc := 622) cx dL_law_622 rfl 1 rfl ?_
  refine G.aload_n (pc := 623) cx dL_law_623 rfl 0 rfl ?_
  refine G.iload_n (pc := 624) cx dL_law_624 rfl 3 rfl ?_
  refine G.iconst (pc := 625) cx dL_law_625 (v := nI 1) (by decide) ?_
  refine G.iaddN (pc := 626) cx dL_law_626 i 1 ?_
  refine G.sld (pc := 627) cx hX hbl hbA dL_law_627 (i + 1) (by omega) hL ?_
  refine G.aload_n (pc := 628) cx dL_law_628 rfl 0 rfl ?_
  refine G.iload_n (pc := 629) cx dL_law_629 rfl 3 rfl ?_
  refine G.iconst (pc := 630) cx dL_law_630 (v := nI 2) (by decide) ?_
  refine G.iaddN (pc := 631) cx dL_law_631 i 2 ?_
  refine G.sld (pc := 632) cx hX hbl hbA dL_law_632 (i + 2) (by omega) hL ?_
  refine G.callVc (pc := 633) (rest := []) cx h1 ok_X9_book dL_law_633 wm_ml_L_81 rfl e1 rfl (Nat.le_of_ble_eq_true rfl) ⟨Nat.le_of_ble_eq_true rfl, Nat.le_of_ble_eq_true rfl⟩ hcs ?_
  refine G.aload_n (pc := 636) cx dL_law_636 rfl 2 rfl ?_
  refine G.aload_n (pc := 637) cx dL_law_637 rfl 0 rfl ?_
  refine G.iload_n (pc := 638) cx dL_law_638 rfl 3 rfl ?_
  refine G.iconst (pc := 639) cx dL_law_639 (v := nI 1) (by decide) ?_
  refine G.iaddN (pc := 640) cx dL_law_640 i 1 ?_
  refine G.sld (pc := 641) cx hX hbl hbA dL_law_641 (i + 1) (by omega) hL ?_
  refine G.aload_n (pc := 642) cx dL_law_642 rfl 0 rfl ?_
  refine G.iload_n (pc := 643) cx dL_law_643 rfl 3 rfl ?_
  refine G.iconst (pc := 644) cx dL_law_644 (v := nI 2) (by decide) ?_
  refine G.iaddN (pc := 645) cx dL_law_645 i 2 ?_
  refine G.sld (pc := 646) cx hX hbl hbA dL_law_646 (i + 2) (by omega) hL ?_
  refine G.callVc (pc := 647) (rest := [.int v]) cx h2 ok_X10_book dL_law_647 wm_ml_L_84 rfl e2 rfl (Nat.le_of_ble_eq_true rfl) ⟨Nat.le_of_ble_eq_true rfl, Nat.le_of_ble_eq_true rfl⟩ hcs ?_
  exact G.icmp_eq (pc := 650) cx dL_law_650 (tgt := 921) (by decide) (fun _ => kk V2 hT) (fun cq => absurd rfl cq)
set_option maxRecDepth 100000 in
theorem lc_17 (cx : Cx K p s m args meth c RL cL_law 4 rr) (hX : va_X b L xs s s.heap) (hbl : b < s.heap.size) (hbA : ¬ kA K b) (hi : i + 4 ≤ L) (hL : L ≤ 2048) (ho : x + 194 ≤ o) (hB : B + 60 < 1000000) (hV : Two K x o V0 B V) (hcs : cells ≤ room_1.cells ∧ slots ≤ room_1.slots)
    (kk : ∀ V2, Two K x o V0 (B + 64) V2 → G K p l e room_1 s m args below meth c Q 4 V2 sz cells slots 921 [(0, .ref b), (1, .ref x), (2, .ref o), (3, .int (nI i))] []) : G K p l e room_1 s m args below meth c Q 4 V sz cells slots 655 [(0, .ref b), (1, .ref x), (2, .ref o), (3, .int (nI i))] [] := by
  obtain ⟨z, t, h, π, f, u, g, r, N, n, L', rfl, hs, hR⟩ := hV
  obtain ⟨v, V1, V2, h1, h2, ⟨f1, e1⟩, ⟨f2, e2⟩, hT⟩ := pr_why (l := l) (K := K) (sz := sz) (V0 := V0) (t := t) (u := u) ho hs hR (xs (i + 1)) (xs (i + 2)) (xs (i + 3))
  refine G.aload_n (pc := 655) cx dL_law_655 rfl 1 rfl ?_
  refine G.aload_n (pc := 656) cx dL_law_656 rfl 0 rfl ?_
  refine G.iload_n (pc := 657) cx dL_law_657 rfl 3 rfl ?_
  refine G.iconst (pc := 658) cx dL_law_658 (v := nI 1) (by decide) ?_
  refine G.iaddN (pc := 659) cx dL_law_659 i 1 ?_
  refine G.sld (pc := 660) cx hX hbl hbA dL_law_660 (i + 1) (by omega) hL ?_
  refine G.aload_n (pc := 661) cx dL_law_661 rfl 0 rfl ?_
  refine G.iload_n (pc := 662) cx dL_law_662 rfl 3 rfl ?_
  refine G.iconst (pc := 663) cx dL_law_663 (v := nI 2) (by decide) ?_
  refine G.iaddN (pc := 664) cx dL_law_664 i 2 ?_
  refine G.sld (pc := 665) cx hX hbl hbA dL_law_665 (i + 2) (by omega) hL ?_
  refine G.aload_n (pc := 666) cx dL_law_666 rfl 0 rfl ?_
  refine G.iload_n (pc := 667) cx dL_law_667 rfl 3 rfl ?_
  refine G.iconst (pc := 668) cx dL_law_668 (v := nI 3) (by decide) ?_
  refine G.iaddN (pc := 669) cx dL_law_669 i 3 ?_
  refine G.sld (pc := 670) cx hX hbl hbA dL_law_670 (i + 3) (by omega) hL ?_
  refine G.callVc (pc := 671) (rest := []) cx h1 ok_X9_why dL_law_671 wm_ml_L_85 rfl e1 rfl (Nat.le_of_ble_eq_true rfl) ⟨Nat.le_of_ble_eq_true rfl, Nat.le_of_ble_eq_true rfl⟩ hcs ?_
  refine G.aload_n (pc := 674) cx dL_law_674 rfl 2 rfl ?_
  refine G.aload_n (pc := 675) cx dL_law_675 rfl 0 rfl ?_
  refine G.iload_n (pc := 676) cx dL_law_676 rfl 3 rfl ?_
  refine G.iconst (pc := 677) cx dL_law_677 (v := nI 1) (by decide) ?_
  refine G.iaddN (pc := 678) cx dL_law_678 i 1 ?_
  refine G.sld (pc := 679) cx hX hbl hbA dL_law_679 (i + 1) (by omega) hL ?_
  refine G.aload_n (pc := 680) cx dL_law_680 rfl 0 rfl ?_
  refine G.iload_n (pc := 681) cx dL_law_681 rfl 3 rfl ?_
  refine G.iconst (pc := 682) cx dL_law_682 (v := nI 2) (by decide) ?_
  refine G.iaddN (pc := 683) cx dL_law_683 i 2 ?_
  refine G.sld (pc := 684) cx hX hbl hbA dL_law_684 (i + 2) (by omega) hL ?_
  refine G.aload_n (pc := 685) cx dL_law_685 rfl 0 rfl ?_
  refine G.iload_n (pc := 686) cx dL_law_686 rfl 3 rfl ?_
  refine G.iconst (pc := 687) cx dL_law_687 (v := nI 3) (by decide) ?_
  refine G.iaddN (pc := 688) cx dL_law_688 i 3 ?_
  refine G.sld (pc := 689) cx hX hbl hbA dL_law_689 (i + 3) (by omega) hL ?_
  refine G.callVc (pc := 690) (rest := [.int v]) cx h2 ok_X10_why dL_law_690 wm_ml_L_88 rfl e2 rfl (Nat.le_of_ble_eq_true rfl) ⟨Nat.le_of_ble_eq_true rfl, Nat.le_of_ble_eq_true rfl⟩ hcs ?_
  exact G.icmp_eq (pc := 693) cx dL_law_693 (tgt := 921) (by decide) (fun _ => kk V2 hT) (fun cq => absurd rfl cq)
set_option maxRecDepth 100000 in
theorem lc_18 (cx : Cx K p s m args meth c RL cL_law 4 rr) (hX : va_X b L xs s s.heap) (hbl : b < s.heap.size) (hbA : ¬ kA K b) (hi : i + 4 ≤ L) (hL : L ≤ 2048) (ho : x + 194 ≤ o) (hB : B + 60 < 1000000) (hV : Two K x o V0 B V) (hcs : cells ≤ room_1.cells ∧ slots ≤ room_1.slots)
    (kk : ∀ V2, Two K x o V0 (B + 64) V2 → G K p l e room_1 s m args below meth c Q 4 V2 sz cells slots 921 [(0, .ref b), (1, .ref x), (2, .ref o), (3, .int (nI i))] []) : G K p l e room_1 s m args below meth c Q 4 V sz cells slots 698 [(0, .ref b), (1, .ref x), (2, .ref o), (3, .int (nI i))] [] := by
  obtain ⟨z, t, h, π, f, u, g, r, N, n, L', rfl, hs, hR⟩ := hV
  obtain ⟨v, V1, V2, h1, h2, ⟨f1, e1⟩, ⟨f2, e2⟩, hT⟩ := pr_most (l := l) (K := K) (sz := sz) (V0 := V0) (t := t) (u := u) ho hs hR (xs (i + 1)) (xs (i + 2))
  refine G.aload_n (pc := 698) cx dL_law_698 rfl 1 rfl ?_
  refine G.aload_n (pc := 699) cx dL_law_699 rfl 0 rfl ?_
  refine G.iload_n (pc := 700) cx dL_law_700 rfl 3 rfl ?_
  refine G.iconst (pc := 701) cx dL_law_701 (v := nI 1) (by decide) ?_
  refine G.iaddN (pc := 702) cx dL_law_702 i 1 ?_
  refine G.sld (pc := 703) cx hX hbl hbA dL_law_703 (i + 1) (by omega) hL ?_
  refine G.aload_n (pc := 704) cx dL_law_704 rfl 0 rfl ?_
  refine G.iload_n (pc := 705) cx dL_law_705 rfl 3 rfl ?_
  refine G.iconst (pc := 706) cx dL_law_706 (v := nI 2) (by decide) ?_
  refine G.iaddN (pc := 707) cx dL_law_707 i 2 ?_
  refine G.sld (pc := 708) cx hX hbl hbA dL_law_708 (i + 2) (by omega) hL ?_
  refine G.callVc (pc := 709) (rest := []) cx h1 ok_X9_most dL_law_709 wm_ml_L_89 rfl e1 rfl (Nat.le_of_ble_eq_true rfl) ⟨Nat.le_of_ble_eq_true rfl, Nat.le_of_ble_eq_true rfl⟩ hcs ?_
  refine G.aload_n (pc := 712) cx dL_law_712 rfl 2 rfl ?_
  refine G.aload_n (pc := 713) cx dL_law_713 rfl 0 rfl ?_
  refine G.iload_n (pc := 714) cx dL_law_714 rfl 3 rfl ?_
  refine G.iconst (pc := 715) cx dL_law_715 (v := nI 1) (by decide) ?_
  refine G.iaddN (pc := 716) cx dL_law_716 i 1 ?_
  refine G.sld (pc := 717) cx hX hbl hbA dL_law_717 (i + 1) (by omega) hL ?_
  refine G.aload_n (pc := 718) cx dL_law_718 rfl 0 rfl ?_
  refine G.iload_n (pc := 719) cx dL_law_719 rfl 3 rfl ?_
  refine G.iconst (pc := 720) cx dL_law_720 (v := nI 2) (by decide) ?_
  refine G.iaddN (pc := 721) cx dL_law_721 i 2 ?_
  refine G.sld (pc := 722) cx hX hbl hbA dL_law_722 (i + 2) (by omega) hL ?_
  refine G.callVc (pc := 723) (rest := [.int v]) cx h2 ok_X10_most dL_law_723 wm_ml_L_92 rfl e2 rfl (Nat.le_of_ble_eq_true rfl) ⟨Nat.le_of_ble_eq_true rfl, Nat.le_of_ble_eq_true rfl⟩ hcs ?_
  exact G.icmp_eq (pc := 726) cx dL_law_726 (tgt := 921) (by decide) (fun _ => kk V2 hT) (fun cq => absurd rfl cq)
set_option maxRecDepth 100000 in
theorem lc_19 (cx : Cx K p s m args meth c RL cL_law 4 rr) (hX : va_X b L xs s s.heap) (hbl : b < s.heap.size) (hbA : ¬ kA K b) (hi : i + 4 ≤ L) (hL : L ≤ 2048) (ho : x + 194 ≤ o) (hB : B + 60 < 1000000) (hV : Two K x o V0 B V) (hcs : cells ≤ room_1.cells ∧ slots ≤ room_1.slots)
    (kk : ∀ V2, Two K x o V0 (B + 64) V2 → G K p l e room_1 s m args below meth c Q 4 V2 sz cells slots 921 [(0, .ref b), (1, .ref x), (2, .ref o), (3, .int (nI i))] []) : G K p l e room_1 s m args below meth c Q 4 V sz cells slots 731 [(0, .ref b), (1, .ref x), (2, .ref o), (3, .int (nI i))] [] := by
  obtain ⟨z, t, h, π, f, u, g, r, N, n, L', rfl, hs, hR⟩ := hV
  obtain ⟨v, V1, V2, h1, h2, ⟨f1, e1⟩, ⟨f2, e2⟩, hT⟩ := pr_clearIn (l := l) (K := K) (sz := sz) (V0 := V0) (t := t) (u := u) ho hs hR (xs (i + 1))
  refine G.aload_n (pc := 731) cx dL_law_731 rfl 1 rfl ?_
  refine G.aload_n (pc := 732) cx dL_law_732 rfl 0 rfl ?_
  refine G.iload_n (pc := 733) cx dL_law_733 rfl 3 rfl ?_
  refine G.iconst (pc := 734) cx dL_law_734 (v := nI 1) (by decide) ?_
  refine G.iaddN (pc := 735) cx dL_law_735 i 1 ?_
  refine G.sld (pc := 736) cx hX hbl hbA dL_law_736 (i + 1) (by omega) hL ?_
  refine G.callVc (pc := 737) (rest := []) cx h1 ok_X9_clearIn dL_law_737 wm_ml_L_93 rfl e1 rfl (Nat.le_of_ble_eq_true rfl) ⟨Nat.le_of_ble_eq_true rfl, Nat.le_of_ble_eq_true rfl⟩ hcs ?_
  refine G.aload_n (pc := 740) cx dL_law_740 rfl 2 rfl ?_
  refine G.aload_n (pc := 741) cx dL_law_741 rfl 0 rfl ?_
  refine G.iload_n (pc := 742) cx dL_law_742 rfl 3 rfl ?_
  refine G.iconst (pc := 743) cx dL_law_743 (v := nI 1) (by decide) ?_
  refine G.iaddN (pc := 744) cx dL_law_744 i 1 ?_
  refine G.sld (pc := 745) cx hX hbl hbA dL_law_745 (i + 1) (by omega) hL ?_
  refine G.callVc (pc := 746) (rest := [.int v]) cx h2 ok_X10_clearIn dL_law_746 wm_ml_L_96 rfl e2 rfl (Nat.le_of_ble_eq_true rfl) ⟨Nat.le_of_ble_eq_true rfl, Nat.le_of_ble_eq_true rfl⟩ hcs ?_
  exact G.icmp_eq (pc := 749) cx dL_law_749 (tgt := 921) (by decide) (fun _ => kk V2 hT) (fun cq => absurd rfl cq)
set_option maxRecDepth 100000 in
theorem lc_20 (cx : Cx K p s m args meth c RL cL_law 4 rr) (hX : va_X b L xs s s.heap) (hbl : b < s.heap.size) (hbA : ¬ kA K b) (hi : i + 4 ≤ L) (hL : L ≤ 2048) (ho : x + 194 ≤ o) (hB : B + 60 < 1000000) (hV : Two K x o V0 B V) (hcs : cells ≤ room_1.cells ∧ slots ≤ room_1.slots)
    (kk : ∀ V2, Two K x o V0 (B + 64) V2 → G K p l e room_1 s m args below meth c Q 4 V2 sz cells slots 921 [(0, .ref b), (1, .ref x), (2, .ref o), (3, .int (nI i))] []) : G K p l e room_1 s m args below meth c Q 4 V sz cells slots 754 [(0, .ref b), (1, .ref x), (2, .ref o), (3, .int (nI i))] [] := by
  obtain ⟨z, t, h, π, f, u, g, r, N, n, L', rfl, hs, hR⟩ := hV
  obtain ⟨v, V1, V2, h1, h2, ⟨f1, e1⟩, ⟨f2, e2⟩, hT⟩ := pr_ifPaidOff (l := l) (K := K) (sz := sz) (V0 := V0) (t := t) (u := u) ho hs hR (xs (i + 1))
  refine G.aload_n (pc := 754) cx dL_law_754 rfl 1 rfl ?_
  refine G.aload_n (pc := 755) cx dL_law_755 rfl 0 rfl ?_
  refine G.iload_n (pc := 756) cx dL_law_756 rfl 3 rfl ?_
  refine G.iconst (pc := 757) cx dL_law_757 (v := nI 1) (by decide) ?_
  refine G.iaddN (pc := 758) cx dL_law_758 i 1 ?_
  refine G.sld (pc := 759) cx hX hbl hbA dL_law_759 (i + 1) (by omega) hL ?_
  refine G.callVc (pc := 760) (rest := []) cx h1 ok_X9_ifPaidOff dL_law_760 wm_ml_L_97 rfl e1 rfl (Nat.le_of_ble_eq_true rfl) ⟨Nat.le_of_ble_eq_true rfl, Nat.le_of_ble_eq_true rfl⟩ hcs ?_
  refine G.aload_n (pc := 763) cx dL_law_763 rfl 2 rfl ?_
  refine G.aload_n (pc := 764) cx dL_law_764 rfl 0 rfl ?_
  refine G.iload_n (pc := 765) cx dL_law_765 rfl 3 rfl ?_
  refine G.iconst (pc := 766) cx dL_law_766 (v := nI 1) (by decide) ?_
  refine G.iaddN (pc := 767) cx dL_law_767 i 1 ?_
  refine G.sld (pc := 768) cx hX hbl hbA dL_law_768 (i + 1) (by omega) hL ?_
  refine G.callVc (pc := 769) (rest := [.int v]) cx h2 ok_X10_ifPaidOff dL_law_769 wm_ml_L_100 rfl e2 rfl (Nat.le_of_ble_eq_true rfl) ⟨Nat.le_of_ble_eq_true rfl, Nat.le_of_ble_eq_true rfl⟩ hcs ?_
  exact G.icmp_eq (pc := 772) cx dL_law_772 (tgt := 921) (by decide) (fun _ => kk V2 hT) (fun cq => absurd rfl cq)
set_option maxRecDepth 100000 in
theorem lc_21 (cx : Cx K p s m args meth c RL cL_law 4 rr) (hX : va_X b L xs s s.heap) (hbl : b < s.heap.size) (hbA : ¬ kA K b) (hi : i + 4 ≤ L) (hL : L ≤ 2048) (ho : x + 194 ≤ o) (hB : B + 60 < 1000000) (hV : Two K x o V0 B V) (hcs : cells ≤ room_1.cells ∧ slots ≤ room_1.slots)
    (kk : ∀ V2, Two K x o V0 (B + 64) V2 → G K p l e room_1 s m args below meth c Q 4 V2 sz cells slots 921 [(0, .ref b), (1, .ref x), (2, .ref o), (3, .int (nI i))] []) : G K p l e room_1 s m args below meth c Q 4 V sz cells slots 777 [(0, .ref b), (1, .ref x), (2, .ref o), (3, .int (nI i))] [] := by
  obtain ⟨z, t, h, π, f, u, g, r, N, n, L', rfl, hs, hR⟩ := hV
  obtain ⟨v, V1, V2, h1, h2, ⟨f1, e1⟩, ⟨f2, e2⟩, hT⟩ := pr_poorest (l := l) (K := K) (sz := sz) (V0 := V0) (t := t) (u := u) ho hs hR (xs (i + 1))
  refine G.aload_n (pc := 777) cx dL_law_777 rfl 1 rfl ?_
  refine G.aload_n (pc := 778) cx dL_law_778 rfl 0 rfl ?_
  refine G.iload_n (pc := 779) cx dL_law_779 rfl 3 rfl ?_
  refine G.iconst (pc := 780) cx dL_law_780 (v := nI 1) (by decide) ?_
  refine G.iaddN (pc := 781) cx dL_law_781 i 1 ?_
  refine G.sld (pc := 782) cx hX hbl hbA dL_law_782 (i + 1) (by omega) hL ?_
  refine G.callVc (pc := 783) (rest := []) cx h1 ok_X9_poorest dL_law_783 wm_ml_L_101 rfl e1 rfl (Nat.le_of_ble_eq_true rfl) ⟨Nat.le_of_ble_eq_true rfl, Nat.le_of_ble_eq_true rfl⟩ hcs ?_
  refine G.aload_n (pc := 786) cx dL_law_786 rfl 2 rfl ?_
  refine G.aload_n (pc := 787) cx dL_law_787 rfl 0 rfl ?_
  refine G.iload_n (pc := 788) cx dL_law_788 rfl 3 rfl ?_
  refine G.iconst (pc := 789) cx dL_law_789 (v := nI 1) (by decide) ?_
  refine G.iaddN (pc := 790) cx dL_law_790 i 1 ?_
  refine G.sld (pc := 791) cx hX hbl hbA dL_law_791 (i + 1) (by omega) hL ?_
  refine G.callVc (pc := 792) (rest := [.int v]) cx h2 ok_X10_poorest dL_law_792 wm_ml_L_104 rfl e2 rfl (Nat.le_of_ble_eq_true rfl) ⟨Nat.le_of_ble_eq_true rfl, Nat.le_of_ble_eq_true rfl⟩ hcs ?_
  exact G.icmp_eq (pc := 795) cx dL_law_795 (tgt := 921) (by decide) (fun _ => kk V2 hT) (fun cq => absurd rfl cq)
set_option maxRecDepth 100000 in
theorem lc_22 (cx : Cx K p s m args meth c RL cL_law 4 rr) (hX : va_X b L xs s s.heap) (hbl : b < s.heap.size) (hbA : ¬ kA K b) (hi : i + 4 ≤ L) (hL : L ≤ 2048) (ho : x + 194 ≤ o) (hB : B + 60 < 1000000) (hV : Two K x o V0 B V) (hcs : cells ≤ room_1.cells ∧ slots ≤ room_1.slots)
    (kk : ∀ V2, Two K x o V0 (B + 64) V2 → G K p l e room_1 s m args below meth c Q 4 V2 sz cells slots 921 [(0, .ref b), (1, .ref x), (2, .ref o), (3, .int (nI i))] []) : G K p l e room_1 s m args below meth c Q 4 V sz cells slots 800 [(0, .ref b), (1, .ref x), (2, .ref o), (3, .int (nI i))] [] := by
  obtain ⟨z, t, h, π, f, u, g, r, N, n, L', rfl, hs, hR⟩ := hV
  obtain ⟨v, V1, V2, h1, h2, ⟨f1, e1⟩, ⟨f2, e2⟩, hT⟩ := pr_share (l := l) (K := K) (sz := sz) (V0 := V0) (t := t) (u := u) ho hs hR 
  refine G.aload_n (pc := 800) cx dL_law_800 rfl 1 rfl ?_
  refine G.callVc (pc := 801) (rest := []) cx h1 ok_X9_share dL_law_801 wm_ml_L_105 rfl e1 rfl (Nat.le_of_ble_eq_true rfl) ⟨Nat.le_of_ble_eq_true rfl, Nat.le_of_ble_eq_true rfl⟩ hcs ?_
  refine G.aload_n (pc := 804) cx dL_law_804 rfl 2 rfl ?_
  refine G.callVc (pc := 805) (rest := [.int v]) cx h2 ok_X10_share dL_law_805 wm_ml_L_108 rfl e2 rfl (Nat.le_of_ble_eq_true rfl) ⟨Nat.le_of_ble_eq_true rfl, Nat.le_of_ble_eq_true rfl⟩ hcs ?_
  exact G.icmp_eq (pc := 808) cx dL_law_808 (tgt := 921) (by decide) (fun _ => kk V2 hT) (fun cq => absurd rfl cq)
set_option maxRecDepth 100000 in
theorem lc_23 (cx : Cx K p s m args meth c RL cL_law 4 rr) (hX : va_X b L xs s s.heap) (hbl : b < s.heap.size) (hbA : ¬ kA K b) (hi : i + 4 ≤ L) (hL : L ≤ 2048) (ho : x + 194 ≤ o) (hB : B + 60 < 1000000) (hV : Two K x o V0 B V) (hcs : cells ≤ room_1.cells ∧ slots ≤ room_1.slots)
    (kk : ∀ V2, Two K x o V0 (B + 64) V2 → G K p l e room_1 s m args below meth c Q 4 V2 sz cells slots 921 [(0, .ref b), (1, .ref x), (2, .ref o), (3, .int (nI i))] []) : G K p l e room_1 s m args below meth c Q 4 V sz cells slots 813 [(0, .ref b), (1, .ref x), (2, .ref o), (3, .int (nI i))] [] := by
  obtain ⟨z, t, h, π, f, u, g, r, N, n, L', rfl, hs, hR⟩ := hV
  obtain ⟨v, V1, V2, h1, h2, ⟨f1, e1⟩, ⟨f2, e2⟩, hT⟩ := pr_count (l := l) (K := K) (sz := sz) (V0 := V0) (t := t) (u := u) ho hs hR (xs (i + 1))
  refine G.aload_n (pc := 813) cx dL_law_813 rfl 1 rfl ?_
  refine G.aload_n (pc := 814) cx dL_law_814 rfl 0 rfl ?_
  refine G.iload_n (pc := 815) cx dL_law_815 rfl 3 rfl ?_
  refine G.iconst (pc := 816) cx dL_law_816 (v := nI 1) (by decide) ?_
  refine G.iaddN (pc := 817) cx dL_law_817 i 1 ?_
  refine G.sld (pc := 818) cx hX hbl hbA dL_law_818 (i + 1) (by omega) hL ?_
  refine G.callVc (pc := 819) (rest := []) cx h1 ok_X9_count dL_law_819 wm_ml_L_109 rfl e1 rfl (Nat.le_of_ble_eq_true rfl) ⟨Nat.le_of_ble_eq_true rfl, Nat.le_of_ble_eq_true rfl⟩ hcs ?_
  refine G.aload_n (pc := 822) cx dL_law_822 rfl 2 rfl ?_
  refine G.aload_n (pc := 823) cx dL_law_823 rfl 0 rfl ?_
  refine G.iload_n (pc := 824) cx dL_law_824 rfl 3 rfl ?_
  refine G.iconst (pc := 825) cx dL_law_825 (v := nI 1) (by decide) ?_
  refine G.iaddN (pc := 826) cx dL_law_826 i 1 ?_
  refine G.sld (pc := 827) cx hX hbl hbA dL_law_827 (i + 1) (by omega) hL ?_
  refine G.callVc (pc := 828) (rest := [.int v]) cx h2 ok_X10_count dL_law_828 wm_ml_L_112 rfl e2 rfl (Nat.le_of_ble_eq_true rfl) ⟨Nat.le_of_ble_eq_true rfl, Nat.le_of_ble_eq_true rfl⟩ hcs ?_
  exact G.icmp_eq (pc := 831) cx dL_law_831 (tgt := 921) (by decide) (fun _ => kk V2 hT) (fun cq => absurd rfl cq)
set_option maxRecDepth 100000 in
theorem lc_24 (cx : Cx K p s m args meth c RL cL_law 4 rr) (hX : va_X b L xs s s.heap) (hbl : b < s.heap.size) (hbA : ¬ kA K b) (hi : i + 4 ≤ L) (hL : L ≤ 2048) (ho : x + 194 ≤ o) (hB : B + 60 < 1000000) (hV : Two K x o V0 B V) (hcs : cells ≤ room_1.cells ∧ slots ≤ room_1.slots)
    (kk : ∀ V2, Two K x o V0 (B + 64) V2 → G K p l e room_1 s m args below meth c Q 4 V2 sz cells slots 921 [(0, .ref b), (1, .ref x), (2, .ref o), (3, .int (nI i))] []) : G K p l e room_1 s m args below meth c Q 4 V sz cells slots 836 [(0, .ref b), (1, .ref x), (2, .ref o), (3, .int (nI i))] [] := by
  obtain ⟨z, t, h, π, f, u, g, r, N, n, L', rfl, hs, hR⟩ := hV
  obtain ⟨v, V1, V2, h1, h2, ⟨f1, e1⟩, ⟨f2, e2⟩, hT⟩ := pr_undo (l := l) (K := K) (sz := sz) (V0 := V0) (t := t) (u := u) ho hs hR 
  refine G.aload_n (pc := 836) cx dL_law_836 rfl 1 rfl ?_
  refine G.callVc (pc := 837) (rest := []) cx h1 ok_X9_undo dL_law_837 wm_ml_L_113 rfl e1 rfl (Nat.le_of_ble_eq_true rfl) ⟨Nat.le_of_ble_eq_true rfl, Nat.le_of_ble_eq_true rfl⟩ hcs ?_
  refine G.aload_n (pc := 840) cx dL_law_840 rfl 2 rfl ?_
  refine G.callVc (pc := 841) (rest := [.int v]) cx h2 ok_X10_undo dL_law_841 wm_ml_L_116 rfl e2 rfl (Nat.le_of_ble_eq_true rfl) ⟨Nat.le_of_ble_eq_true rfl, Nat.le_of_ble_eq_true rfl⟩ hcs ?_
  exact G.icmp_eq (pc := 844) cx dL_law_844 (tgt := 921) (by decide) (fun _ => kk V2 hT) (fun cq => absurd rfl cq)
set_option maxRecDepth 100000 in
theorem lc_25 (cx : Cx K p s m args meth c RL cL_law 4 rr) (hX : va_X b L xs s s.heap) (hbl : b < s.heap.size) (hbA : ¬ kA K b) (hi : i + 4 ≤ L) (hL : L ≤ 2048) (ho : x + 194 ≤ o) (hB : B + 60 < 1000000) (hV : Two K x o V0 B V) (hcs : cells ≤ room_1.cells ∧ slots ≤ room_1.slots)
    (kk : ∀ V2, Two K x o V0 (B + 64) V2 → G K p l e room_1 s m args below meth c Q 4 V2 sz cells slots 921 [(0, .ref b), (1, .ref x), (2, .ref o), (3, .int (nI i))] []) : G K p l e room_1 s m args below meth c Q 4 V sz cells slots 849 [(0, .ref b), (1, .ref x), (2, .ref o), (3, .int (nI i))] [] := by
  obtain ⟨z, t, h, π, f, u, g, r, N, n, L', rfl, hs, hR⟩ := hV
  obtain ⟨v, V1, V2, h1, h2, ⟨f1, e1⟩, ⟨f2, e2⟩, hT⟩ := pr_type (l := l) (K := K) (sz := sz) (V0 := V0) (t := t) (u := u) ho hs hR (xs (i + 1))
  refine G.aload_n (pc := 849) cx dL_law_849 rfl 1 rfl ?_
  refine G.aload_n (pc := 850) cx dL_law_850 rfl 0 rfl ?_
  refine G.iload_n (pc := 851) cx dL_law_851 rfl 3 rfl ?_
  refine G.iconst (pc := 852) cx dL_law_852 (v := nI 1) (by decide) ?_
  refine G.iaddN (pc := 853) cx dL_law_853 i 1 ?_
  refine G.sld (pc := 854) cx hX hbl hbA dL_law_854 (i + 1) (by omega) hL ?_
  refine G.callVc (pc := 855) (rest := []) cx h1 ok_X9_type dL_law_855 wm_ml_L_117 rfl e1 rfl (Nat.le_of_ble_eq_true rfl) ⟨Nat.le_of_ble_eq_true rfl, Nat.le_of_ble_eq_true rfl⟩ hcs ?_
  refine G.aload_n (pc := 858) cx dL_law_858 rfl 2 rfl ?_
  refine G.aload_n (pc := 859) cx dL_law_859 rfl 0 rfl ?_
  refine G.iload_n (pc := 860) cx dL_law_860 rfl 3 rfl ?_
  refine G.iconst (pc := 861) cx dL_law_861 (v := nI 1) (by decide) ?_
  refine G.iaddN (pc := 862) cx dL_law_862 i 1 ?_
  refine G.sld (pc := 863) cx hX hbl hbA dL_law_863 (i + 1) (by omega) hL ?_
  refine G.callVc (pc := 864) (rest := [.int v]) cx h2 ok_X10_type dL_law_864 wm_ml_L_120 rfl e2 rfl (Nat.le_of_ble_eq_true rfl) ⟨Nat.le_of_ble_eq_true rfl, Nat.le_of_ble_eq_true rfl⟩ hcs ?_
  exact G.icmp_eq (pc := 867) cx dL_law_867 (tgt := 921) (by decide) (fun _ => kk V2 hT) (fun cq => absurd rfl cq)
set_option maxRecDepth 100000 in
theorem lc_26 (cx : Cx K p s m args meth c RL cL_law 4 rr) (hX : va_X b L xs s s.heap) (hbl : b < s.heap.size) (hbA : ¬ kA K b) (hi : i + 4 ≤ L) (hL : L ≤ 2048) (ho : x + 194 ≤ o) (hB : B + 60 < 1000000) (hV : Two K x o V0 B V) (hcs : cells ≤ room_1.cells ∧ slots ≤ room_1.slots)
    (kk : ∀ V2, Two K x o V0 (B + 64) V2 → G K p l e room_1 s m args below meth c Q 4 V2 sz cells slots 921 [(0, .ref b), (1, .ref x), (2, .ref o), (3, .int (nI i))] []) : G K p l e room_1 s m args below meth c Q 4 V sz cells slots 872 [(0, .ref b), (1, .ref x), (2, .ref o), (3, .int (nI i))] [] := by
  obtain ⟨z, t, h, π, f, u, g, r, N, n, L', rfl, hs, hR⟩ := hV
  obtain ⟨v, V1, V2, h1, h2, ⟨f1, e1⟩, ⟨f2, e2⟩, hT⟩ := pr_clearText (l := l) (K := K) (sz := sz) (V0 := V0) (t := t) (u := u) ho hs hR 
  refine G.aload_n (pc := 872) cx dL_law_872 rfl 1 rfl ?_
  refine G.callVc (pc := 873) (rest := []) cx h1 ok_X9_clearText dL_law_873 wm_ml_L_121 rfl e1 rfl (Nat.le_of_ble_eq_true rfl) ⟨Nat.le_of_ble_eq_true rfl, Nat.le_of_ble_eq_true rfl⟩ hcs ?_
  refine G.aload_n (pc := 876) cx dL_law_876 rfl 2 rfl ?_
  refine G.callVc (pc := 877) (rest := [.int v]) cx h2 ok_X10_clearText dL_law_877 wm_ml_L_124 rfl e2 rfl (Nat.le_of_ble_eq_true rfl) ⟨Nat.le_of_ble_eq_true rfl, Nat.le_of_ble_eq_true rfl⟩ hcs ?_
  exact G.icmp_eq (pc := 880) cx dL_law_880 (tgt := 921) (by decide) (fun _ => kk V2 hT) (fun cq => absurd rfl cq)
set_option maxRecDepth 100000 in
theorem lc_27 (cx : Cx K p s m args meth c RL cL_law 4 rr) (hX : va_X b L xs s s.heap) (hbl : b < s.heap.size) (hbA : ¬ kA K b) (hi : i + 4 ≤ L) (hL : L ≤ 2048) (ho : x + 194 ≤ o) (hB : B + 60 < 1000000) (hV : Two K x o V0 B V) (hcs : cells ≤ room_1.cells ∧ slots ≤ room_1.slots)
    (kk : ∀ V2, Two K x o V0 (B + 64) V2 → G K p l e room_1 s m args below meth c Q 4 V2 sz cells slots 921 [(0, .ref b), (1, .ref x), (2, .ref o), (3, .int (nI i))] []) : G K p l e room_1 s m args below meth c Q 4 V sz cells slots 885 [(0, .ref b), (1, .ref x), (2, .ref o), (3, .int (nI i))] [] := by
  obtain ⟨z, t, h, π, f, u, g, r, N, n, L', rfl, hs, hR⟩ := hV
  obtain ⟨v, V1, V2, h1, h2, ⟨f1, e1⟩, ⟨f2, e2⟩, hT⟩ := pr_fault (l := l) (K := K) (sz := sz) (V0 := V0) (t := t) (u := u) ho hs hR (by omega) (xs (i + 1))
  refine G.aload_n (pc := 885) cx dL_law_885 rfl 1 rfl ?_
  refine G.aload_n (pc := 886) cx dL_law_886 rfl 0 rfl ?_
  refine G.iload_n (pc := 887) cx dL_law_887 rfl 3 rfl ?_
  refine G.iconst (pc := 888) cx dL_law_888 (v := nI 1) (by decide) ?_
  refine G.iaddN (pc := 889) cx dL_law_889 i 1 ?_
  refine G.sld (pc := 890) cx hX hbl hbA dL_law_890 (i + 1) (by omega) hL ?_
  refine G.callVc (pc := 891) (rest := []) cx h1 ok_X9_fault dL_law_891 wm_ml_L_125 rfl e1 rfl (Nat.le_of_ble_eq_true rfl) ⟨Nat.le_of_ble_eq_true rfl, Nat.le_of_ble_eq_true rfl⟩ hcs ?_
  refine G.aload_n (pc := 894) cx dL_law_894 rfl 2 rfl ?_
  refine G.aload_n (pc := 895) cx dL_law_895 rfl 0 rfl ?_
  refine G.iload_n (pc := 896) cx dL_law_896 rfl 3 rfl ?_
  refine G.iconst (pc := 897) cx dL_law_897 (v := nI 1) (by decide) ?_
  refine G.iaddN (pc := 898) cx dL_law_898 i 1 ?_
  refine G.sld (pc := 899) cx hX hbl hbA dL_law_899 (i + 1) (by omega) hL ?_
  refine G.callVc (pc := 900) (rest := [.int v]) cx h2 ok_X10_fault dL_law_900 wm_ml_L_128 rfl e2 rfl (Nat.le_of_ble_eq_true rfl) ⟨Nat.le_of_ble_eq_true rfl, Nat.le_of_ble_eq_true rfl⟩ hcs ?_
  exact G.icmp_eq (pc := 903) cx dL_law_903 (tgt := 921) (by decide) (fun _ => kk V2 hT) (fun cq => absurd rfl cq)
set_option maxRecDepth 100000 in
theorem lc_28 (cx : Cx K p s m args meth c RL cL_law 4 rr) (hX : va_X b L xs s s.heap) (hbl : b < s.heap.size) (hbA : ¬ kA K b) (hi : i + 4 ≤ L) (hL : L ≤ 2048) (ho : x + 194 ≤ o) (hB : B + 60 < 1000000) (hV : Two K x o V0 B V) (hcs : cells ≤ room_1.cells ∧ slots ≤ room_1.slots)
    (kk : ∀ V2, Two K x o V0 (B + 64) V2 → G K p l e room_1 s m args below meth c Q 4 V2 sz cells slots 921 [(0, .ref b), (1, .ref x), (2, .ref o), (3, .int (nI i))] []) : G K p l e room_1 s m args below meth c Q 4 V sz cells slots 908 [(0, .ref b), (1, .ref x), (2, .ref o), (3, .int (nI i))] [] := by
  obtain ⟨z, t, h, π, f, u, g, r, N, n, L', rfl, hs, hR⟩ := hV
  obtain ⟨v, V1, V2, h1, h2, ⟨f1, e1⟩, ⟨f2, e2⟩, hT⟩ := pr_play (l := l) (K := K) (sz := sz) (V0 := V0) (t := t) (u := u) ho hs hR (by omega)
  refine G.aload_n (pc := 908) cx dL_law_908 rfl 1 rfl ?_
  refine G.callVc (pc := 909) (rest := []) cx h1 ok_X9_play dL_law_909 wm_ml_L_129 rfl e1 rfl (Nat.le_of_ble_eq_true rfl) ⟨Nat.le_of_ble_eq_true rfl, Nat.le_of_ble_eq_true rfl⟩ hcs ?_
  refine G.aload_n (pc := 912) cx dL_law_912 rfl 2 rfl ?_
  refine G.callVc (pc := 913) (rest := [.int v]) cx h2 ok_X10_play dL_law_913 wm_ml_L_132 rfl e2 rfl (Nat.le_of_ble_eq_true rfl) ⟨Nat.le_of_ble_eq_true rfl, Nat.le_of_ble_eq_true rfl⟩ hcs ?_
  exact G.icmp_eq (pc := 916) cx dL_law_916 (tgt := 921) (by decide) (fun _ => kk V2 hT) (fun cq => absurd rfl cq)
end lawcases
