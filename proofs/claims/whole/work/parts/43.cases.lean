/-! the law's cases: the class's answer, the reference's, they are equal -/
theorem RQ.inv {σ μ : St} (h : RQ σ μ) : Inv (μ 0) := h.1.2.2.1.2
theorem RQ.shs {σ μ : St} (h : RQ σ μ) : ∀ s, s < 4 → isN (μ 5 s) 24 := fun s hs => (h.1.2.2.2.2.1 s hs).2.2.1
theorem RQ.trc {σ μ : St} (h : RQ σ μ) : isN (μ 18 0) 30 := h.1.2.2.2.2.2.2.1
set_option maxHeartbeats 1000000 in
set_option maxRecDepth 20000 in
theorem law_c0 {X : Cx} {l : Launch} {D : va_G} {k : Nat → ClassId} {g : Nat → Nat} {fr lo b L : Nat} {xs : Nat → Int32} {a c : Nat → Nat} (hC : Ok X l D k g cL_law RL 4 fr lo) (hX : Scr X b L xs) (hfr : 100 ≤ fr) (hlo : 2000 ≤ lo) (hL : L ≤ 3072) {i : Nat} (hi : i + 6 ≤ L) {σ μ ν ν2 : St} (hRQ : RQ σ μ) (kk : ∀ σ ν μ ν2 : St, RQ σ μ → V X (wX k g a σ ν ++ wM k c μ ν2) [(3, .int (nI i)), (2, .ref (c 20)), (1, .ref (a 0)), (0, .ref b)] [] 1441) : V X (wX k g a σ ν ++ wM k c μ ν2) [(3, .int (nI i)), (2, .ref (c 20)), (1, .ref (a 0)), (0, .ref b)] [] 204 := by
  refine V.aload_n (pc := 204) 2 hC dL_law_204 rfl ?_
  refine V.aload_n (pc := 205) 3 hC dL_law_205 rfl ?_
  refine V.iload_n (pc := 206) 0 hC dL_law_206 rfl ?_
  refine V.iconst (pc := 207) 1 hC dL_law_207 (by decide) ?_
  refine V.iadd (pc := 208) hC dL_law_208 ?_
  refine V.sld (pc := 209) (i + 1) hC hX (nadd rfl (nl 1)) (by omega) hL dL_law_209 ?_
  refine V.aload_n (pc := 210) 3 hC dL_law_210 rfl ?_
  refine V.iload_n (pc := 211) 0 hC dL_law_211 rfl ?_
  refine V.iconst (pc := 212) 2 hC dL_law_212 (by decide) ?_
  refine V.iadd (pc := 213) hC dL_law_213 ?_
  refine V.sld (pc := 214) (i + 2) hC hX (nadd rfl (nl 2)) (by omega) hL dL_law_214 ?_
  refine V.callL (pc := 215) (as := [.int (xs (i + 1)), .int (xs (i + 2))]) (rest := []) hC (c_X6_hand σ ν μ ((xs (i + 1))) ((xs (i + 2))) hRQ) mu_X6_hand ml_L_13 ⟨by omega, by omega⟩ ⟨0, 6, TX6, 8, _, rfl, gx_0⟩ rfl (Nat.le_of_ble_eq_true rfl) dL_law_215 ?_
  rintro _ ⟨σ1, ν1⟩ ⟨rfl, hRQ1⟩
  show V X (wX k g a σ1 ν1 ++ wM k c μ ν2) [(3, .int (nI i)), (2, .ref (c 20)), (1, .ref (a 0)), (0, .ref b)] [.int (op_hand ((xs (i + 1))) ((xs (i + 2))) μ).1] 218
  refine V.aload_n (pc := 218) 1 hC dL_law_218 rfl ?_
  refine V.aload_n (pc := 219) 3 hC dL_law_219 rfl ?_
  refine V.iload_n (pc := 220) 0 hC dL_law_220 rfl ?_
  refine V.iconst (pc := 221) 1 hC dL_law_221 (by decide) ?_
  refine V.iadd (pc := 222) hC dL_law_222 ?_
  refine V.sld (pc := 223) (i + 1) hC hX (nadd rfl (nl 1)) (by omega) hL dL_law_223 ?_
  refine V.aload_n (pc := 224) 3 hC dL_law_224 rfl ?_
  refine V.iload_n (pc := 225) 0 hC dL_law_225 rfl ?_
  refine V.iconst (pc := 226) 2 hC dL_law_226 (by decide) ?_
  refine V.iadd (pc := 227) hC dL_law_227 ?_
  refine V.sld (pc := 228) (i + 2) hC hX (nadd rfl (nl 2)) (by omega) hL dL_law_228 ?_
  refine V.callR (pc := 229) (as := [.int (xs (i + 1)), .int (xs (i + 2))]) (rest := [.int (op_hand ((xs (i + 1))) ((xs (i + 2))) μ).1]) hC (c_X7_hand μ ν2 ((xs (i + 1))) ((xs (i + 2))) hRQ.inv) mu_X7_hand ml_L_17 ⟨by omega, by omega⟩ ⟨0, 7, TX7, 20, _, rfl, gm_0⟩ rfl (Nat.le_of_ble_eq_true rfl) dL_law_229 ?_
  rintro _ uu ⟨rfl, hu⟩
  refine V.icmp_eq (pc := 232) 1441 hC dL_law_232 (by decide) (fun _ => ?_) (fun h => absurd rfl h)
  exact kk σ1 ν1 _ _ (by rw [hu]; exact hRQ1)
set_option maxHeartbeats 1000000 in
set_option maxRecDepth 20000 in
theorem law_c1 {X : Cx} {l : Launch} {D : va_G} {k : Nat → ClassId} {g : Nat → Nat} {fr lo b L : Nat} {xs : Nat → Int32} {a c : Nat → Nat} (hC : Ok X l D k g cL_law RL 4 fr lo) (hX : Scr X b L xs) (hfr : 100 ≤ fr) (hlo : 2000 ≤ lo) (hL : L ≤ 3072) {i : Nat} (hi : i + 6 ≤ L) {σ μ ν ν2 : St} (hRQ : RQ σ μ) (kk : ∀ σ ν μ ν2 : St, RQ σ μ → V X (wX k g a σ ν ++ wM k c μ ν2) [(3, .int (nI i)), (2, .ref (c 20)), (1, .ref (a 0)), (0, .ref b)] [] 1441) : V X (wX k g a σ ν ++ wM k c μ ν2) [(3, .int (nI i)), (2, .ref (c 20)), (1, .ref (a 0)), (0, .ref b)] [] 237 := by
  refine V.aload_n (pc := 237) 2 hC dL_law_237 rfl ?_
  refine V.aload_n (pc := 238) 3 hC dL_law_238 rfl ?_
  refine V.iload_n (pc := 239) 0 hC dL_law_239 rfl ?_
  refine V.iconst (pc := 240) 1 hC dL_law_240 (by decide) ?_
  refine V.iadd (pc := 241) hC dL_law_241 ?_
  refine V.sld (pc := 242) (i + 1) hC hX (nadd rfl (nl 1)) (by omega) hL dL_law_242 ?_
  refine V.aload_n (pc := 243) 3 hC dL_law_243 rfl ?_
  refine V.iload_n (pc := 244) 0 hC dL_law_244 rfl ?_
  refine V.iconst (pc := 245) 2 hC dL_law_245 (by decide) ?_
  refine V.iadd (pc := 246) hC dL_law_246 ?_
  refine V.sld (pc := 247) (i + 2) hC hX (nadd rfl (nl 2)) (by omega) hL dL_law_247 ?_
  refine V.callL (pc := 248) (as := [.int (xs (i + 1)), .int (xs (i + 2))]) (rest := []) hC (c_X6_handIs σ ν μ ((xs (i + 1))) ((xs (i + 2))) hRQ) mu_X6_handIs ml_L_18 ⟨by omega, by omega⟩ ⟨0, 6, TX6, 8, _, rfl, gx_0⟩ rfl (Nat.le_of_ble_eq_true rfl) dL_law_248 ?_
  rintro _ ⟨σ1, ν1⟩ ⟨rfl, hRQ1⟩
  show V X (wX k g a σ1 ν1 ++ wM k c μ ν2) [(3, .int (nI i)), (2, .ref (c 20)), (1, .ref (a 0)), (0, .ref b)] [.int (op_handIs ((xs (i + 1))) ((xs (i + 2))) μ).1] 251
  refine V.aload_n (pc := 251) 1 hC dL_law_251 rfl ?_
  refine V.aload_n (pc := 252) 3 hC dL_law_252 rfl ?_
  refine V.iload_n (pc := 253) 0 hC dL_law_253 rfl ?_
  refine V.iconst (pc := 254) 1 hC dL_law_254 (by decide) ?_
  refine V.iadd (pc := 255) hC dL_law_255 ?_
  refine V.sld (pc := 256) (i + 1) hC hX (nadd rfl (nl 1)) (by omega) hL dL_law_256 ?_
  refine V.aload_n (pc := 257) 3 hC dL_law_257 rfl ?_
  refine V.iload_n (pc := 258) 0 hC dL_law_258 rfl ?_
  refine V.iconst (pc := 259) 2 hC dL_law_259 (by decide) ?_
  refine V.iadd (pc := 260) hC dL_law_260 ?_
  refine V.sld (pc := 261) (i + 2) hC hX (nadd rfl (nl 2)) (by omega) hL dL_law_261 ?_
  refine V.callR (pc := 262) (as := [.int (xs (i + 1)), .int (xs (i + 2))]) (rest := [.int (op_handIs ((xs (i + 1))) ((xs (i + 2))) μ).1]) hC (c_X7_handIs μ ν2 ((xs (i + 1))) ((xs (i + 2))) hRQ.inv) mu_X7_handIs ml_L_21 ⟨by omega, by omega⟩ ⟨0, 7, TX7, 20, _, rfl, gm_0⟩ rfl (Nat.le_of_ble_eq_true rfl) dL_law_262 ?_
  rintro _ uu ⟨rfl, hu⟩
  refine V.icmp_eq (pc := 265) 1441 hC dL_law_265 (by decide) (fun _ => ?_) (fun h => absurd rfl h)
  exact kk σ1 ν1 _ _ (by rw [hu]; exact hRQ1)
set_option maxHeartbeats 1000000 in
set_option maxRecDepth 20000 in
theorem law_c2 {X : Cx} {l : Launch} {D : va_G} {k : Nat → ClassId} {g : Nat → Nat} {fr lo b L : Nat} {xs : Nat → Int32} {a c : Nat → Nat} (hC : Ok X l D k g cL_law RL 4 fr lo) (hX : Scr X b L xs) (hfr : 100 ≤ fr) (hlo : 2000 ≤ lo) (hL : L ≤ 3072) {i : Nat} (hi : i + 6 ≤ L) {σ μ ν ν2 : St} (hRQ : RQ σ μ) (kk : ∀ σ ν μ ν2 : St, RQ σ μ → V X (wX k g a σ ν ++ wM k c μ ν2) [(3, .int (nI i)), (2, .ref (c 20)), (1, .ref (a 0)), (0, .ref b)] [] 1441) : V X (wX k g a σ ν ++ wM k c μ ν2) [(3, .int (nI i)), (2, .ref (c 20)), (1, .ref (a 0)), (0, .ref b)] [] 270 := by
  refine V.aload_n (pc := 270) 2 hC dL_law_270 rfl ?_
  refine V.aload_n (pc := 271) 3 hC dL_law_271 rfl ?_
  refine V.iload_n (pc := 272) 0 hC dL_law_272 rfl ?_
  refine V.iconst (pc := 273) 1 hC dL_law_273 (by decide) ?_
  refine V.iadd (pc := 274) hC dL_law_274 ?_
  refine V.sld (pc := 275) (i + 1) hC hX (nadd rfl (nl 1)) (by omega) hL dL_law_275 ?_
  refine V.aload_n (pc := 276) 3 hC dL_law_276 rfl ?_
  refine V.iload_n (pc := 277) 0 hC dL_law_277 rfl ?_
  refine V.iconst (pc := 278) 2 hC dL_law_278 (by decide) ?_
  refine V.iadd (pc := 279) hC dL_law_279 ?_
  refine V.sld (pc := 280) (i + 2) hC hX (nadd rfl (nl 2)) (by omega) hL dL_law_280 ?_
  refine V.callL (pc := 281) (as := [.int (xs (i + 1)), .int (xs (i + 2))]) (rest := []) hC (c_X6_frost σ ν μ ((xs (i + 1))) ((xs (i + 2))) hRQ) mu_X6_frost ml_L_22 ⟨by omega, by omega⟩ ⟨0, 6, TX6, 8, _, rfl, gx_0⟩ rfl (Nat.le_of_ble_eq_true rfl) dL_law_281 ?_
  rintro _ ⟨σ1, ν1⟩ ⟨rfl, hRQ1⟩
  show V X (wX k g a σ1 ν1 ++ wM k c μ ν2) [(3, .int (nI i)), (2, .ref (c 20)), (1, .ref (a 0)), (0, .ref b)] [.int (op_frost ((xs (i + 1))) ((xs (i + 2))) μ).1] 284
  refine V.aload_n (pc := 284) 1 hC dL_law_284 rfl ?_
  refine V.aload_n (pc := 285) 3 hC dL_law_285 rfl ?_
  refine V.iload_n (pc := 286) 0 hC dL_law_286 rfl ?_
  refine V.iconst (pc := 287) 1 hC dL_law_287 (by decide) ?_
  refine V.iadd (pc := 288) hC dL_law_288 ?_
  refine V.sld (pc := 289) (i + 1) hC hX (nadd rfl (nl 1)) (by omega) hL dL_law_289 ?_
  refine V.aload_n (pc := 290) 3 hC dL_law_290 rfl ?_
  refine V.iload_n (pc := 291) 0 hC dL_law_291 rfl ?_
  refine V.iconst (pc := 292) 2 hC dL_law_292 (by decide) ?_
  refine V.iadd (pc := 293) hC dL_law_293 ?_
  refine V.sld (pc := 294) (i + 2) hC hX (nadd rfl (nl 2)) (by omega) hL dL_law_294 ?_
  refine V.callR (pc := 295) (as := [.int (xs (i + 1)), .int (xs (i + 2))]) (rest := [.int (op_frost ((xs (i + 1))) ((xs (i + 2))) μ).1]) hC (c_X7_frost μ ν2 ((xs (i + 1))) ((xs (i + 2))) hRQ.inv) mu_X7_frost ml_L_25 ⟨by omega, by omega⟩ ⟨0, 7, TX7, 20, _, rfl, gm_0⟩ rfl (Nat.le_of_ble_eq_true rfl) dL_law_295 ?_
  rintro _ uu ⟨rfl, hu⟩
  refine V.icmp_eq (pc := 298) 1441 hC dL_law_298 (by decide) (fun _ => ?_) (fun h => absurd rfl h)
  exact kk σ1 ν1 _ _ (by rw [hu]; exact hRQ1)
set_option maxHeartbeats 1000000 in
set_option maxRecDepth 20000 in
theorem law_c3 {X : Cx} {l : Launch} {D : va_G} {k : Nat → ClassId} {g : Nat → Nat} {fr lo b L : Nat} {xs : Nat → Int32} {a c : Nat → Nat} (hC : Ok X l D k g cL_law RL 4 fr lo) (hX : Scr X b L xs) (hfr : 100 ≤ fr) (hlo : 2000 ≤ lo) (hL : L ≤ 3072) {i : Nat} (hi : i + 6 ≤ L) {σ μ ν ν2 : St} (hRQ : RQ σ μ) (kk : ∀ σ ν μ ν2 : St, RQ σ μ → V X (wX k g a σ ν ++ wM k c μ ν2) [(3, .int (nI i)), (2, .ref (c 20)), (1, .ref (a 0)), (0, .ref b)] [] 1441) : V X (wX k g a σ ν ++ wM k c μ ν2) [(3, .int (nI i)), (2, .ref (c 20)), (1, .ref (a 0)), (0, .ref b)] [] 303 := by
  refine V.aload_n (pc := 303) 2 hC dL_law_303 rfl ?_
  refine V.aload_n (pc := 304) 3 hC dL_law_304 rfl ?_
  refine V.iload_n (pc := 305) 0 hC dL_law_305 rfl ?_
  refine V.iconst (pc := 306) 1 hC dL_law_306 (by decide) ?_
  refine V.iadd (pc := 307) hC dL_law_307 ?_
  refine V.sld (pc := 308) (i + 1) hC hX (nadd rfl (nl 1)) (by omega) hL dL_law_308 ?_
  refine V.aload_n (pc := 309) 3 hC dL_law_309 rfl ?_
  refine V.iload_n (pc := 310) 0 hC dL_law_310 rfl ?_
  refine V.iconst (pc := 311) 2 hC dL_law_311 (by decide) ?_
  refine V.iadd (pc := 312) hC dL_law_312 ?_
  refine V.sld (pc := 313) (i + 2) hC hX (nadd rfl (nl 2)) (by omega) hL dL_law_313 ?_
  refine V.callL (pc := 314) (as := [.int (xs (i + 1)), .int (xs (i + 2))]) (rest := []) hC (c_X6_home σ ν μ ((xs (i + 1))) ((xs (i + 2))) hRQ) mu_X6_home ml_L_26 ⟨by omega, by omega⟩ ⟨0, 6, TX6, 8, _, rfl, gx_0⟩ rfl (Nat.le_of_ble_eq_true rfl) dL_law_314 ?_
  rintro _ ⟨σ1, ν1⟩ ⟨rfl, hRQ1⟩
  show V X (wX k g a σ1 ν1 ++ wM k c μ ν2) [(3, .int (nI i)), (2, .ref (c 20)), (1, .ref (a 0)), (0, .ref b)] [.int (op_home ((xs (i + 1))) ((xs (i + 2))) μ).1] 317
  refine V.aload_n (pc := 317) 1 hC dL_law_317 rfl ?_
  refine V.aload_n (pc := 318) 3 hC dL_law_318 rfl ?_
  refine V.iload_n (pc := 319) 0 hC dL_law_319 rfl ?_
  refine V.iconst (pc := 320) 1 hC dL_law_320 (by decide) ?_
  refine V.iadd (pc := 321) hC dL_law_321 ?_
  refine V.sld (pc := 322) (i + 1) hC hX (nadd rfl (nl 1)) (by omega) hL dL_law_322 ?_
  refine V.aload_n (pc := 323) 3 hC dL_law_323 rfl ?_
  refine V.iload_n (pc := 324) 0 hC dL_law_324 rfl ?_
  refine V.iconst (pc := 325) 2 hC dL_law_325 (by decide) ?_
  refine V.iadd (pc := 326) hC dL_law_326 ?_
  refine V.sld (pc := 327) (i + 2) hC hX (nadd rfl (nl 2)) (by omega) hL dL_law_327 ?_
  refine V.callR (pc := 328) (as := [.int (xs (i + 1)), .int (xs (i + 2))]) (rest := [.int (op_home ((xs (i + 1))) ((xs (i + 2))) μ).1]) hC (c_X7_home μ ν2 ((xs (i + 1))) ((xs (i + 2))) hRQ.inv) mu_X7_home ml_L_29 ⟨by omega, by omega⟩ ⟨0, 7, TX7, 20, _, rfl, gm_0⟩ rfl (Nat.le_of_ble_eq_true rfl) dL_law_328 ?_
  rintro _ uu ⟨rfl, hu⟩
  refine V.icmp_eq (pc := 331) 1441 hC dL_law_331 (by decide) (fun _ => ?_) (fun h => absurd rfl h)
  exact kk σ1 ν1 _ _ (by rw [hu]; exact hRQ1)
set_option maxHeartbeats 1000000 in
set_option maxRecDepth 20000 in
theorem law_c4 {X : Cx} {l : Launch} {D : va_G} {k : Nat → ClassId} {g : Nat → Nat} {fr lo b L : Nat} {xs : Nat → Int32} {a c : Nat → Nat} (hC : Ok X l D k g cL_law RL 4 fr lo) (hX : Scr X b L xs) (hfr : 100 ≤ fr) (hlo : 2000 ≤ lo) (hL : L ≤ 3072) {i : Nat} (hi : i + 6 ≤ L) {σ μ ν ν2 : St} (hRQ : RQ σ μ) (kk : ∀ σ ν μ ν2 : St, RQ σ μ → V X (wX k g a σ ν ++ wM k c μ ν2) [(3, .int (nI i)), (2, .ref (c 20)), (1, .ref (a 0)), (0, .ref b)] [] 1441) : V X (wX k g a σ ν ++ wM k c μ ν2) [(3, .int (nI i)), (2, .ref (c 20)), (1, .ref (a 0)), (0, .ref b)] [] 336 := by
  refine V.aload_n (pc := 336) 2 hC dL_law_336 rfl ?_
  refine V.aload_n (pc := 337) 3 hC dL_law_337 rfl ?_
  refine V.iload_n (pc := 338) 0 hC dL_law_338 rfl ?_
  refine V.iconst (pc := 339) 1 hC dL_law_339 (by decide) ?_
  refine V.iadd (pc := 340) hC dL_law_340 ?_
  refine V.sld (pc := 341) (i + 1) hC hX (nadd rfl (nl 1)) (by omega) hL dL_law_341 ?_
  refine V.aload_n (pc := 342) 3 hC dL_law_342 rfl ?_
  refine V.iload_n (pc := 343) 0 hC dL_law_343 rfl ?_
  refine V.iconst (pc := 344) 2 hC dL_law_344 (by decide) ?_
  refine V.iadd (pc := 345) hC dL_law_345 ?_
  refine V.sld (pc := 346) (i + 2) hC hX (nadd rfl (nl 2)) (by omega) hL dL_law_346 ?_
  refine V.callL (pc := 347) (as := [.int (xs (i + 1)), .int (xs (i + 2))]) (rest := []) hC (c_X6_homeIs σ ν μ ((xs (i + 1))) ((xs (i + 2))) hRQ) mu_X6_homeIs ml_L_30 ⟨by omega, by omega⟩ ⟨0, 6, TX6, 8, _, rfl, gx_0⟩ rfl (Nat.le_of_ble_eq_true rfl) dL_law_347 ?_
  rintro _ ⟨σ1, ν1⟩ ⟨rfl, hRQ1⟩
  show V X (wX k g a σ1 ν1 ++ wM k c μ ν2) [(3, .int (nI i)), (2, .ref (c 20)), (1, .ref (a 0)), (0, .ref b)] [.int (op_homeIs ((xs (i + 1))) ((xs (i + 2))) μ).1] 350
  refine V.aload_n (pc := 350) 1 hC dL_law_350 rfl ?_
  refine V.aload_n (pc := 351) 3 hC dL_law_351 rfl ?_
  refine V.iload_n (pc := 352) 0 hC dL_law_352 rfl ?_
  refine V.iconst (pc := 353) 1 hC dL_law_353 (by decide) ?_
  refine V.iadd (pc := 354) hC dL_law_354 ?_
  refine V.sld (pc := 355) (i + 1) hC hX (nadd rfl (nl 1)) (by omega) hL dL_law_355 ?_
  refine V.aload_n (pc := 356) 3 hC dL_law_356 rfl ?_
  refine V.iload_n (pc := 357) 0 hC dL_law_357 rfl ?_
  refine V.iconst (pc := 358) 2 hC dL_law_358 (by decide) ?_
  refine V.iadd (pc := 359) hC dL_law_359 ?_
  refine V.sld (pc := 360) (i + 2) hC hX (nadd rfl (nl 2)) (by omega) hL dL_law_360 ?_
  refine V.callR (pc := 361) (as := [.int (xs (i + 1)), .int (xs (i + 2))]) (rest := [.int (op_homeIs ((xs (i + 1))) ((xs (i + 2))) μ).1]) hC (c_X7_homeIs μ ν2 ((xs (i + 1))) ((xs (i + 2))) hRQ.inv) mu_X7_homeIs ml_L_33 ⟨by omega, by omega⟩ ⟨0, 7, TX7, 20, _, rfl, gm_0⟩ rfl (Nat.le_of_ble_eq_true rfl) dL_law_361 ?_
  rintro _ uu ⟨rfl, hu⟩
  refine V.icmp_eq (pc := 364) 1441 hC dL_law_364 (by decide) (fun _ => ?_) (fun h => absurd rfl h)
  exact kk σ1 ν1 _ _ (by rw [hu]; exact hRQ1)
set_option maxHeartbeats 1000000 in
set_option maxRecDepth 20000 in
theorem law_c5 {X : Cx} {l : Launch} {D : va_G} {k : Nat → ClassId} {g : Nat → Nat} {fr lo b L : Nat} {xs : Nat → Int32} {a c : Nat → Nat} (hC : Ok X l D k g cL_law RL 4 fr lo) (hX : Scr X b L xs) (hfr : 100 ≤ fr) (hlo : 2000 ≤ lo) (hL : L ≤ 3072) {i : Nat} (hi : i + 6 ≤ L) {σ μ ν ν2 : St} (hRQ : RQ σ μ) (kk : ∀ σ ν μ ν2 : St, RQ σ μ → V X (wX k g a σ ν ++ wM k c μ ν2) [(3, .int (nI i)), (2, .ref (c 20)), (1, .ref (a 0)), (0, .ref b)] [] 1441) : V X (wX k g a σ ν ++ wM k c μ ν2) [(3, .int (nI i)), (2, .ref (c 20)), (1, .ref (a 0)), (0, .ref b)] [] 369 := by
  refine V.aload_n (pc := 369) 2 hC dL_law_369 rfl ?_
  refine V.aload_n (pc := 370) 3 hC dL_law_370 rfl ?_
  refine V.iload_n (pc := 371) 0 hC dL_law_371 rfl ?_
  refine V.iconst (pc := 372) 1 hC dL_law_372 (by decide) ?_
  refine V.iadd (pc := 373) hC dL_law_373 ?_
  refine V.sld (pc := 374) (i + 1) hC hX (nadd rfl (nl 1)) (by omega) hL dL_law_374 ?_
  refine V.aload_n (pc := 375) 3 hC dL_law_375 rfl ?_
  refine V.iload_n (pc := 376) 0 hC dL_law_376 rfl ?_
  refine V.iconst (pc := 377) 2 hC dL_law_377 (by decide) ?_
  refine V.iadd (pc := 378) hC dL_law_378 ?_
  refine V.sld (pc := 379) (i + 2) hC hX (nadd rfl (nl 2)) (by omega) hL dL_law_379 ?_
  refine V.callL (pc := 380) (as := [.int (xs (i + 1)), .int (xs (i + 2))]) (rest := []) hC (c_X6_person σ ν μ ((xs (i + 1))) ((xs (i + 2))) hRQ) mu_X6_person ml_L_34 ⟨by omega, by omega⟩ ⟨0, 6, TX6, 8, _, rfl, gx_0⟩ rfl (Nat.le_of_ble_eq_true rfl) dL_law_380 ?_
  rintro _ ⟨σ1, ν1⟩ ⟨rfl, hRQ1⟩
  show V X (wX k g a σ1 ν1 ++ wM k c μ ν2) [(3, .int (nI i)), (2, .ref (c 20)), (1, .ref (a 0)), (0, .ref b)] [.int (op_person ((xs (i + 1))) ((xs (i + 2))) μ).1] 383
  refine V.aload_n (pc := 383) 1 hC dL_law_383 rfl ?_
  refine V.aload_n (pc := 384) 3 hC dL_law_384 rfl ?_
  refine V.iload_n (pc := 385) 0 hC dL_law_385 rfl ?_
  refine V.iconst (pc := 386) 1 hC dL_law_386 (by decide) ?_
  refine V.iadd (pc := 387) hC dL_law_387 ?_
  refine V.sld (pc := 388) (i + 1) hC hX (nadd rfl (nl 1)) (by omega) hL dL_law_388 ?_
  refine V.aload_n (pc := 389) 3 hC dL_law_389 rfl ?_
  refine V.iload_n (pc := 390) 0 hC dL_law_390 rfl ?_
  refine V.iconst (pc := 391) 2 hC dL_law_391 (by decide) ?_
  refine V.iadd (pc := 392) hC dL_law_392 ?_
  refine V.sld (pc := 393) (i + 2) hC hX (nadd rfl (nl 2)) (by omega) hL dL_law_393 ?_
  refine V.callR (pc := 394) (as := [.int (xs (i + 1)), .int (xs (i + 2))]) (rest := [.int (op_person ((xs (i + 1))) ((xs (i + 2))) μ).1]) hC (c_X7_person μ ν2 ((xs (i + 1))) ((xs (i + 2))) hRQ.inv) mu_X7_person ml_L_37 ⟨by omega, by omega⟩ ⟨0, 7, TX7, 20, _, rfl, gm_0⟩ rfl (Nat.le_of_ble_eq_true rfl) dL_law_394 ?_
  rintro _ uu ⟨rfl, hu⟩
  refine V.icmp_eq (pc := 397) 1441 hC dL_law_397 (by decide) (fun _ => ?_) (fun h => absurd rfl h)
  exact kk σ1 ν1 _ _ (by rw [hu]; exact hRQ1)
set_option maxHeartbeats 1000000 in
set_option maxRecDepth 20000 in
theorem law_c6 {X : Cx} {l : Launch} {D : va_G} {k : Nat → ClassId} {g : Nat → Nat} {fr lo b L : Nat} {xs : Nat → Int32} {a c : Nat → Nat} (hC : Ok X l D k g cL_law RL 4 fr lo) (hX : Scr X b L xs) (hfr : 100 ≤ fr) (hlo : 2000 ≤ lo) (hL : L ≤ 3072) {i : Nat} (hi : i + 6 ≤ L) {σ μ ν ν2 : St} (hRQ : RQ σ μ) (kk : ∀ σ ν μ ν2 : St, RQ σ μ → V X (wX k g a σ ν ++ wM k c μ ν2) [(3, .int (nI i)), (2, .ref (c 20)), (1, .ref (a 0)), (0, .ref b)] [] 1441) : V X (wX k g a σ ν ++ wM k c μ ν2) [(3, .int (nI i)), (2, .ref (c 20)), (1, .ref (a 0)), (0, .ref b)] [] 402 := by
  refine V.aload_n (pc := 402) 2 hC dL_law_402 rfl ?_
  refine V.aload_n (pc := 403) 3 hC dL_law_403 rfl ?_
  refine V.iload_n (pc := 404) 0 hC dL_law_404 rfl ?_
  refine V.iconst (pc := 405) 1 hC dL_law_405 (by decide) ?_
  refine V.iadd (pc := 406) hC dL_law_406 ?_
  refine V.sld (pc := 407) (i + 1) hC hX (nadd rfl (nl 1)) (by omega) hL dL_law_407 ?_
  refine V.aload_n (pc := 408) 3 hC dL_law_408 rfl ?_
  refine V.iload_n (pc := 409) 0 hC dL_law_409 rfl ?_
  refine V.iconst (pc := 410) 2 hC dL_law_410 (by decide) ?_
  refine V.iadd (pc := 411) hC dL_law_411 ?_
  refine V.sld (pc := 412) (i + 2) hC hX (nadd rfl (nl 2)) (by omega) hL dL_law_412 ?_
  refine V.callL (pc := 413) (as := [.int (xs (i + 1)), .int (xs (i + 2))]) (rest := []) hC (c_X6_personIs σ ν μ ((xs (i + 1))) ((xs (i + 2))) hRQ) mu_X6_personIs ml_L_38 ⟨by omega, by omega⟩ ⟨0, 6, TX6, 8, _, rfl, gx_0⟩ rfl (Nat.le_of_ble_eq_true rfl) dL_law_413 ?_
  rintro _ ⟨σ1, ν1⟩ ⟨rfl, hRQ1⟩
  show V X (wX k g a σ1 ν1 ++ wM k c μ ν2) [(3, .int (nI i)), (2, .ref (c 20)), (1, .ref (a 0)), (0, .ref b)] [.int (op_personIs ((xs (i + 1))) ((xs (i + 2))) μ).1] 416
  refine V.aload_n (pc := 416) 1 hC dL_law_416 rfl ?_
  refine V.aload_n (pc := 417) 3 hC dL_law_417 rfl ?_
  refine V.iload_n (pc := 418) 0 hC dL_law_418 rfl ?_
  refine V.iconst (pc := 419) 1 hC dL_law_419 (by decide) ?_
  refine V.iadd (pc := 420) hC dL_law_420 ?_
  refine V.sld (pc := 421) (i + 1) hC hX (nadd rfl (nl 1)) (by omega) hL dL_law_421 ?_
  refine V.aload_n (pc := 422) 3 hC dL_law_422 rfl ?_
  refine V.iload_n (pc := 423) 0 hC dL_law_423 rfl ?_
  refine V.iconst (pc := 424) 2 hC dL_law_424 (by decide) ?_
  refine V.iadd (pc := 425) hC dL_law_425 ?_
  refine V.sld (pc := 426) (i + 2) hC hX (nadd rfl (nl 2)) (by omega) hL dL_law_426 ?_
  refine V.callR (pc := 427) (as := [.int (xs (i + 1)), .int (xs (i + 2))]) (rest := [.int (op_personIs ((xs (i + 1))) ((xs (i + 2))) μ).1]) hC (c_X7_personIs μ ν2 ((xs (i + 1))) ((xs (i + 2))) hRQ.inv) mu_X7_personIs ml_L_41 ⟨by omega, by omega⟩ ⟨0, 7, TX7, 20, _, rfl, gm_0⟩ rfl (Nat.le_of_ble_eq_true rfl) dL_law_427 ?_
  rintro _ uu ⟨rfl, hu⟩
  refine V.icmp_eq (pc := 430) 1441 hC dL_law_430 (by decide) (fun _ => ?_) (fun h => absurd rfl h)
  exact kk σ1 ν1 _ _ (by rw [hu]; exact hRQ1)
set_option maxHeartbeats 1000000 in
set_option maxRecDepth 20000 in
theorem law_c7 {X : Cx} {l : Launch} {D : va_G} {k : Nat → ClassId} {g : Nat → Nat} {fr lo b L : Nat} {xs : Nat → Int32} {a c : Nat → Nat} (hC : Ok X l D k g cL_law RL 4 fr lo) (hX : Scr X b L xs) (hfr : 100 ≤ fr) (hlo : 2000 ≤ lo) (hL : L ≤ 3072) {i : Nat} (hi : i + 6 ≤ L) {σ μ ν ν2 : St} (hRQ : RQ σ μ) (kk : ∀ σ ν μ ν2 : St, RQ σ μ → V X (wX k g a σ ν ++ wM k c μ ν2) [(3, .int (nI i)), (2, .ref (c 20)), (1, .ref (a 0)), (0, .ref b)] [] 1441) : V X (wX k g a σ ν ++ wM k c μ ν2) [(3, .int (nI i)), (2, .ref (c 20)), (1, .ref (a 0)), (0, .ref b)] [] 435 := by
  refine V.aload_n (pc := 435) 2 hC dL_law_435 rfl ?_
  refine V.aload_n (pc := 436) 3 hC dL_law_436 rfl ?_
  refine V.iload_n (pc := 437) 0 hC dL_law_437 rfl ?_
  refine V.iconst (pc := 438) 1 hC dL_law_438 (by decide) ?_
  refine V.iadd (pc := 439) hC dL_law_439 ?_
  refine V.sld (pc := 440) (i + 1) hC hX (nadd rfl (nl 1)) (by omega) hL dL_law_440 ?_
  refine V.aload_n (pc := 441) 3 hC dL_law_441 rfl ?_
  refine V.iload_n (pc := 442) 0 hC dL_law_442 rfl ?_
  refine V.iconst (pc := 443) 2 hC dL_law_443 (by decide) ?_
  refine V.iadd (pc := 444) hC dL_law_444 ?_
  refine V.sld (pc := 445) (i + 2) hC hX (nadd rfl (nl 2)) (by omega) hL dL_law_445 ?_
  refine V.callL (pc := 446) (as := [.int (xs (i + 1)), .int (xs (i + 2))]) (rest := []) hC (c_X6_become σ ν μ ((xs (i + 1))) ((xs (i + 2))) hRQ) mu_X6_become ml_L_42 ⟨by omega, by omega⟩ ⟨0, 6, TX6, 8, _, rfl, gx_0⟩ rfl (Nat.le_of_ble_eq_true rfl) dL_law_446 ?_
  rintro _ ⟨σ1, ν1⟩ ⟨rfl, hRQ1⟩
  show V X (wX k g a σ1 ν1 ++ wM k c μ ν2) [(3, .int (nI i)), (2, .ref (c 20)), (1, .ref (a 0)), (0, .ref b)] [.int (op_become ((xs (i + 1))) ((xs (i + 2))) μ).1] 449
  refine V.aload_n (pc := 449) 1 hC dL_law_449 rfl ?_
  refine V.aload_n (pc := 450) 3 hC dL_law_450 rfl ?_
  refine V.iload_n (pc := 451) 0 hC dL_law_451 rfl ?_
  refine V.iconst (pc := 452) 1 hC dL_law_452 (by decide) ?_
  refine V.iadd (pc := 453) hC dL_law_453 ?_
  refine V.sld (pc := 454) (i + 1) hC hX (nadd rfl (nl 1)) (by omega) hL dL_law_454 ?_
  refine V.aload_n (pc := 455) 3 hC dL_law_455 rfl ?_
  refine V.iload_n (pc := 456) 0 hC dL_law_456 rfl ?_
  refine V.iconst (pc := 457) 2 hC dL_law_457 (by decide) ?_
  refine V.iadd (pc := 458) hC dL_law_458 ?_
  refine V.sld (pc := 459) (i + 2) hC hX (nadd rfl (nl 2)) (by omega) hL dL_law_459 ?_
  refine V.callR (pc := 460) (as := [.int (xs (i + 1)), .int (xs (i + 2))]) (rest := [.int (op_become ((xs (i + 1))) ((xs (i + 2))) μ).1]) hC (c_X7_become μ ν2 ((xs (i + 1))) ((xs (i + 2))) hRQ.inv) mu_X7_become ml_L_45 ⟨by omega, by omega⟩ ⟨0, 7, TX7, 20, _, rfl, gm_0⟩ rfl (Nat.le_of_ble_eq_true rfl) dL_law_460 ?_
  rintro _ uu ⟨rfl, hu⟩
  refine V.icmp_eq (pc := 463) 1441 hC dL_law_463 (by decide) (fun _ => ?_) (fun h => absurd rfl h)
  exact kk σ1 ν1 _ _ (by rw [hu]; exact hRQ1)
set_option maxHeartbeats 1000000 in
set_option maxRecDepth 20000 in
theorem law_c8 {X : Cx} {l : Launch} {D : va_G} {k : Nat → ClassId} {g : Nat → Nat} {fr lo b L : Nat} {xs : Nat → Int32} {a c : Nat → Nat} (hC : Ok X l D k g cL_law RL 4 fr lo) (hX : Scr X b L xs) (hfr : 100 ≤ fr) (hlo : 2000 ≤ lo) (hL : L ≤ 3072) {i : Nat} (hi : i + 6 ≤ L) {σ μ ν ν2 : St} (hRQ : RQ σ μ) (kk : ∀ σ ν μ ν2 : St, RQ σ μ → V X (wX k g a σ ν ++ wM k c μ ν2) [(3, .int (nI i)), (2, .ref (c 20)), (1, .ref (a 0)), (0, .ref b)] [] 1441) : V X (wX k g a σ ν ++ wM k c μ ν2) [(3, .int (nI i)), (2, .ref (c 20)), (1, .ref (a 0)), (0, .ref b)] [] 468 := by
  refine V.aload_n (pc := 468) 2 hC dL_law_468 rfl ?_
  refine V.aload_n (pc := 469) 3 hC dL_law_469 rfl ?_
  refine V.iload_n (pc := 470) 0 hC dL_law_470 rfl ?_
  refine V.iconst (pc := 471) 1 hC dL_law_471 (by decide) ?_
  refine V.iadd (pc := 472) hC dL_law_472 ?_
  refine V.sld (pc := 473) (i + 1) hC hX (nadd rfl (nl 1)) (by omega) hL dL_law_473 ?_
  refine V.aload_n (pc := 474) 3 hC dL_law_474 rfl ?_
  refine V.iload_n (pc := 475) 0 hC dL_law_475 rfl ?_
  refine V.iconst (pc := 476) 2 hC dL_law_476 (by decide) ?_
  refine V.iadd (pc := 477) hC dL_law_477 ?_
  refine V.sld (pc := 478) (i + 2) hC hX (nadd rfl (nl 2)) (by omega) hL dL_law_478 ?_
  refine V.callL (pc := 479) (as := [.int (xs (i + 1)), .int (xs (i + 2))]) (rest := []) hC (c_X6_as σ ν μ ((xs (i + 1))) ((xs (i + 2))) hRQ) mu_X6_as ml_L_46 ⟨by omega, by omega⟩ ⟨0, 6, TX6, 8, _, rfl, gx_0⟩ rfl (Nat.le_of_ble_eq_true rfl) dL_law_479 ?_
  rintro _ ⟨σ1, ν1⟩ ⟨rfl, hRQ1⟩
  show V X (wX k g a σ1 ν1 ++ wM k c μ ν2) [(3, .int (nI i)), (2, .ref (c 20)), (1, .ref (a 0)), (0, .ref b)] [.int (op_as ((xs (i + 1))) ((xs (i + 2))) μ).1] 482
  refine V.aload_n (pc := 482) 1 hC dL_law_482 rfl ?_
  refine V.aload_n (pc := 483) 3 hC dL_law_483 rfl ?_
  refine V.iload_n (pc := 484) 0 hC dL_law_484 rfl ?_
  refine V.iconst (pc := 485) 1 hC dL_law_485 (by decide) ?_
  refine V.iadd (pc := 486) hC dL_law_486 ?_
  refine V.sld (pc := 487) (i + 1) hC hX (nadd rfl (nl 1)) (by omega) hL dL_law_487 ?_
  refine V.aload_n (pc := 488) 3 hC dL_law_488 rfl ?_
  refine V.iload_n (pc := 489) 0 hC dL_law_489 rfl ?_
  refine V.iconst (pc := 490) 2 hC dL_law_490 (by decide) ?_
  refine V.iadd (pc := 491) hC dL_law_491 ?_
  refine V.sld (pc := 492) (i + 2) hC hX (nadd rfl (nl 2)) (by omega) hL dL_law_492 ?_
  refine V.callR (pc := 493) (as := [.int (xs (i + 1)), .int (xs (i + 2))]) (rest := [.int (op_as ((xs (i + 1))) ((xs (i + 2))) μ).1]) hC (c_X7_as μ ν2 ((xs (i + 1))) ((xs (i + 2))) hRQ.inv) mu_X7_as ml_L_49 ⟨by omega, by omega⟩ ⟨0, 7, TX7, 20, _, rfl, gm_0⟩ rfl (Nat.le_of_ble_eq_true rfl) dL_law_493 ?_
  rintro _ uu ⟨rfl, hu⟩
  refine V.icmp_eq (pc := 496) 1441 hC dL_law_496 (by decide) (fun _ => ?_) (fun h => absurd rfl h)
  exact kk σ1 ν1 _ _ (by rw [hu]; exact hRQ1)
set_option maxHeartbeats 1000000 in
set_option maxRecDepth 20000 in
theorem law_c9 {X : Cx} {l : Launch} {D : va_G} {k : Nat → ClassId} {g : Nat → Nat} {fr lo b L : Nat} {xs : Nat → Int32} {a c : Nat → Nat} (hC : Ok X l D k g cL_law RL 4 fr lo) (hX : Scr X b L xs) (hfr : 100 ≤ fr) (hlo : 2000 ≤ lo) (hL : L ≤ 3072) {i : Nat} (hi : i + 6 ≤ L) {σ μ ν ν2 : St} (hRQ : RQ σ μ) (kk : ∀ σ ν μ ν2 : St, RQ σ μ → V X (wX k g a σ ν ++ wM k c μ ν2) [(3, .int (nI i)), (2, .ref (c 20)), (1, .ref (a 0)), (0, .ref b)] [] 1441) : V X (wX k g a σ ν ++ wM k c μ ν2) [(3, .int (nI i)), (2, .ref (c 20)), (1, .ref (a 0)), (0, .ref b)] [] 501 := by
  refine V.aload_n (pc := 501) 2 hC dL_law_501 rfl ?_
  refine V.aload_n (pc := 502) 3 hC dL_law_502 rfl ?_
  refine V.iload_n (pc := 503) 0 hC dL_law_503 rfl ?_
  refine V.iconst (pc := 504) 1 hC dL_law_504 (by decide) ?_
  refine V.iadd (pc := 505) hC dL_law_505 ?_
  refine V.sld (pc := 506) (i + 1) hC hX (nadd rfl (nl 1)) (by omega) hL dL_law_506 ?_
  refine V.aload_n (pc := 507) 3 hC dL_law_507 rfl ?_
  refine V.iload_n (pc := 508) 0 hC dL_law_508 rfl ?_
  refine V.iconst (pc := 509) 2 hC dL_law_509 (by decide) ?_
  refine V.iadd (pc := 510) hC dL_law_510 ?_
  refine V.sld (pc := 511) (i + 2) hC hX (nadd rfl (nl 2)) (by omega) hL dL_law_511 ?_
  refine V.callL (pc := 512) (as := [.int (xs (i + 1)), .int (xs (i + 2))]) (rest := []) hC (c_X6_jump σ ν μ ((xs (i + 1))) ((xs (i + 2))) hRQ) mu_X6_jump ml_L_50 ⟨by omega, by omega⟩ ⟨0, 6, TX6, 8, _, rfl, gx_0⟩ rfl (Nat.le_of_ble_eq_true rfl) dL_law_512 ?_
  rintro _ ⟨σ1, ν1⟩ ⟨rfl, hRQ1⟩
  show V X (wX k g a σ1 ν1 ++ wM k c μ ν2) [(3, .int (nI i)), (2, .ref (c 20)), (1, .ref (a 0)), (0, .ref b)] [.int (op_jump ((xs (i + 1))) ((xs (i + 2))) μ).1] 515
  refine V.aload_n (pc := 515) 1 hC dL_law_515 rfl ?_
  refine V.aload_n (pc := 516) 3 hC dL_law_516 rfl ?_
  refine V.iload_n (pc := 517) 0 hC dL_law_517 rfl ?_
  refine V.iconst (pc := 518) 1 hC dL_law_518 (by decide) ?_
  refine V.iadd (pc := 519) hC dL_law_519 ?_
  refine V.sld (pc := 520) (i + 1) hC hX (nadd rfl (nl 1)) (by omega) hL dL_law_520 ?_
  refine V.aload_n (pc := 521) 3 hC dL_law_521 rfl ?_
  refine V.iload_n (pc := 522) 0 hC dL_law_522 rfl ?_
  refine V.iconst (pc := 523) 2 hC dL_law_523 (by decide) ?_
  refine V.iadd (pc := 524) hC dL_law_524 ?_
  refine V.sld (pc := 525) (i + 2) hC hX (nadd rfl (nl 2)) (by omega) hL dL_law_525 ?_
  refine V.callR (pc := 526) (as := [.int (xs (i + 1)), .int (xs (i + 2))]) (rest := [.int (op_jump ((xs (i + 1))) ((xs (i + 2))) μ).1]) hC (c_X7_jump μ ν2 ((xs (i + 1))) ((xs (i + 2))) hRQ.inv) mu_X7_jump ml_L_53 ⟨by omega, by omega⟩ ⟨0, 7, TX7, 20, _, rfl, gm_0⟩ rfl (Nat.le_of_ble_eq_true rfl) dL_law_526 ?_
  rintro _ uu ⟨rfl, hu⟩
  refine V.icmp_eq (pc := 529) 1441 hC dL_law_529 (by decide) (fun _ => ?_) (fun h => absurd rfl h)
  exact kk σ1 ν1 _ _ (by rw [hu]; exact hRQ1)
set_option maxHeartbeats 1000000 in
set_option maxRecDepth 20000 in
theorem law_c10 {X : Cx} {l : Launch} {D : va_G} {k : Nat → ClassId} {g : Nat → Nat} {fr lo b L : Nat} {xs : Nat → Int32} {a c : Nat → Nat} (hC : Ok X l D k g cL_law RL 4 fr lo) (hX : Scr X b L xs) (hfr : 100 ≤ fr) (hlo : 2000 ≤ lo) (hL : L ≤ 3072) {i : Nat} (hi : i + 6 ≤ L) {σ μ ν ν2 : St} (hRQ : RQ σ μ) (kk : ∀ σ ν μ ν2 : St, RQ σ μ → V X (wX k g a σ ν ++ wM k c μ ν2) [(3, .int (nI i)), (2, .ref (c 20)), (1, .ref (a 0)), (0, .ref b)] [] 1441) : V X (wX k g a σ ν ++ wM k c μ ν2) [(3, .int (nI i)), (2, .ref (c 20)), (1, .ref (a 0)), (0, .ref b)] [] 534 := by
  refine V.aload_n (pc := 534) 2 hC dL_law_534 rfl ?_
  refine V.aload_n (pc := 535) 3 hC dL_law_535 rfl ?_
  refine V.iload_n (pc := 536) 0 hC dL_law_536 rfl ?_
  refine V.iconst (pc := 537) 1 hC dL_law_537 (by decide) ?_
  refine V.iadd (pc := 538) hC dL_law_538 ?_
  refine V.sld (pc := 539) (i + 1) hC hX (nadd rfl (nl 1)) (by omega) hL dL_law_539 ?_
  refine V.i2l (pc := 540) hC dL_law_540 ?_
  refine V.bipush (pc := 541) 32 hC dL_law_541 (by decide) ?_
  refine V.lshl (pc := 543) hC dL_law_543 ?_
  refine V.aload_n (pc := 544) 3 hC dL_law_544 rfl ?_
  refine V.iload_n (pc := 545) 0 hC dL_law_545 rfl ?_
  refine V.iconst (pc := 546) 2 hC dL_law_546 (by decide) ?_
  refine V.iadd (pc := 547) hC dL_law_547 ?_
  refine V.sld (pc := 548) (i + 2) hC hX (nadd rfl (nl 2)) (by omega) hL dL_law_548 ?_
  refine V.i2l (pc := 549) hC dL_law_549 ?_
  refine V.ldc2 (pc := 550) (v := 4294967295) hC cl_L_54 dL_law_550 ?_
  refine V.land (pc := 553) hC dL_law_553 ?_
  refine V.lor (pc := 554) hC dL_law_554 ?_
  refine V.aload_n (pc := 555) 3 hC dL_law_555 rfl ?_
  refine V.iload_n (pc := 556) 0 hC dL_law_556 rfl ?_
  refine V.iconst (pc := 557) 3 hC dL_law_557 (by decide) ?_
  refine V.iadd (pc := 558) hC dL_law_558 ?_
  refine V.sld (pc := 559) (i + 3) hC hX (nadd rfl (nl 3)) (by omega) hL dL_law_559 ?_
  refine V.callL (pc := 560) (as := [.long ((((((xs (i + 1))).toInt64) <<< ((32 : Int32).toInt64 &&& 63))) ||| (((((xs (i + 2))).toInt64) &&& (4294967295)))), .int (xs (i + 3))]) (rest := []) hC (c_X6_feed σ ν μ (((((((xs (i + 1))).toInt64) <<< ((32 : Int32).toInt64 &&& 63))) ||| (((((xs (i + 2))).toInt64) &&& (4294967295))))) ((xs (i + 3))) hRQ) mu_X6_feed ml_L_56 ⟨by omega, by omega⟩ ⟨0, 6, TX6, 8, _, rfl, gx_0⟩ rfl (Nat.le_of_ble_eq_true rfl) dL_law_560 ?_
  rintro _ ⟨σ1, ν1⟩ ⟨rfl, hRQ1⟩
  show V X (wX k g a σ1 ν1 ++ wM k c μ ν2) [(3, .int (nI i)), (2, .ref (c 20)), (1, .ref (a 0)), (0, .ref b)] [.int (op_feed (((((((xs (i + 1))).toInt64) <<< ((32 : Int32).toInt64 &&& 63))) ||| (((((xs (i + 2))).toInt64) &&& (4294967295))))) ((xs (i + 3))) μ).1] 563
  refine V.aload_n (pc := 563) 1 hC dL_law_563 rfl ?_
  refine V.aload_n (pc := 564) 3 hC dL_law_564 rfl ?_
  refine V.iload_n (pc := 565) 0 hC dL_law_565 rfl ?_
  refine V.iconst (pc := 566) 1 hC dL_law_566 (by decide) ?_
  refine V.iadd (pc := 567) hC dL_law_567 ?_
  refine V.sld (pc := 568) (i + 1) hC hX (nadd rfl (nl 1)) (by omega) hL dL_law_568 ?_
  refine V.i2l (pc := 569) hC dL_law_569 ?_
  refine V.bipush (pc := 570) 32 hC dL_law_570 (by decide) ?_
  refine V.lshl (pc := 572) hC dL_law_572 ?_
  refine V.aload_n (pc := 573) 3 hC dL_law_573 rfl ?_
  refine V.iload_n (pc := 574) 0 hC dL_law_574 rfl ?_
  refine V.iconst (pc := 575) 2 hC dL_law_575 (by decide) ?_
  refine V.iadd (pc := 576) hC dL_law_576 ?_
  refine V.sld (pc := 577) (i + 2) hC hX (nadd rfl (nl 2)) (by omega) hL dL_law_577 ?_
  refine V.i2l (pc := 578) hC dL_law_578 ?_
  refine V.ldc2 (pc := 579) (v := 4294967295) hC cl_L_54 dL_law_579 ?_
  refine V.land (pc := 582) hC dL_law_582 ?_
  refine V.lor (pc := 583) hC dL_law_583 ?_
  refine V.aload_n (pc := 584) 3 hC dL_law_584 rfl ?_
  refine V.iload_n (pc := 585) 0 hC dL_law_585 rfl ?_
  refine V.iconst (pc := 586) 3 hC dL_law_586 (by decide) ?_
  refine V.iadd (pc := 587) hC dL_law_587 ?_
  refine V.sld (pc := 588) (i + 3) hC hX (nadd rfl (nl 3)) (by omega) hL dL_law_588 ?_
  refine V.callR (pc := 589) (as := [.long ((((((xs (i + 1))).toInt64) <<< ((32 : Int32).toInt64 &&& 63))) ||| (((((xs (i + 2))).toInt64) &&& (4294967295)))), .int (xs (i + 3))]) (rest := [.int (op_feed (((((((xs (i + 1))).toInt64) <<< ((32 : Int32).toInt64 &&& 63))) ||| (((((xs (i + 2))).toInt64) &&& (4294967295))))) ((xs (i + 3))) μ).1]) hC (c_X7_feed μ ν2 (((((((xs (i + 1))).toInt64) <<< ((32 : Int32).toInt64 &&& 63))) ||| (((((xs (i + 2))).toInt64) &&& (4294967295))))) ((xs (i + 3))) hRQ.inv) mu_X7_feed ml_L_60 ⟨by omega, by omega⟩ ⟨0, 7, TX7, 20, _, rfl, gm_0⟩ rfl (Nat.le_of_ble_eq_true rfl) dL_law_589 ?_
  rintro _ uu ⟨rfl, hu⟩
  refine V.icmp_eq (pc := 592) 1441 hC dL_law_592 (by decide) (fun _ => ?_) (fun h => absurd rfl h)
  exact kk σ1 ν1 _ _ (by rw [hu]; exact hRQ1)
set_option maxHeartbeats 1000000 in
set_option maxRecDepth 20000 in
theorem law_c11 {X : Cx} {l : Launch} {D : va_G} {k : Nat → ClassId} {g : Nat → Nat} {fr lo b L : Nat} {xs : Nat → Int32} {a c : Nat → Nat} (hC : Ok X l D k g cL_law RL 4 fr lo) (hX : Scr X b L xs) (hfr : 100 ≤ fr) (hlo : 2000 ≤ lo) (hL : L ≤ 3072) {i : Nat} (hi : i + 6 ≤ L) {σ μ ν ν2 : St} (hRQ : RQ σ μ) (kk : ∀ σ ν μ ν2 : St, RQ σ μ → V X (wX k g a σ ν ++ wM k c μ ν2) [(3, .int (nI i)), (2, .ref (c 20)), (1, .ref (a 0)), (0, .ref b)] [] 1441) : V X (wX k g a σ ν ++ wM k c μ ν2) [(3, .int (nI i)), (2, .ref (c 20)), (1, .ref (a 0)), (0, .ref b)] [] 597 := by
  refine V.aload_n (pc := 597) 2 hC dL_law_597 rfl ?_
  refine V.aload_n (pc := 598) 3 hC dL_law_598 rfl ?_
  refine V.iload_n (pc := 599) 0 hC dL_law_599 rfl ?_
  refine V.iconst (pc := 600) 1 hC dL_law_600 (by decide) ?_
  refine V.iadd (pc := 601) hC dL_law_601 ?_
  refine V.sld (pc := 602) (i + 1) hC hX (nadd rfl (nl 1)) (by omega) hL dL_law_602 ?_
  refine V.callL (pc := 603) (as := [.int (xs (i + 1))]) (rest := []) hC (c_X6_text σ ν μ ((xs (i + 1))) hRQ) mu_X6_text ml_L_61 ⟨by omega, by omega⟩ ⟨0, 6, TX6, 8, _, rfl, gx_0⟩ rfl (Nat.le_of_ble_eq_true rfl) dL_law_603 ?_
  rintro _ ⟨σ1, ν1⟩ ⟨rfl, hRQ1⟩
  show V X (wX k g a σ1 ν1 ++ wM k c μ ν2) [(3, .int (nI i)), (2, .ref (c 20)), (1, .ref (a 0)), (0, .ref b)] [.int (op_text ((xs (i + 1))) μ).1] 606
  refine V.aload_n (pc := 606) 1 hC dL_law_606 rfl ?_
  refine V.aload_n (pc := 607) 3 hC dL_law_607 rfl ?_
  refine V.iload_n (pc := 608) 0 hC dL_law_608 rfl ?_
  refine V.iconst (pc := 609) 1 hC dL_law_609 (by decide) ?_
  refine V.iadd (pc := 610) hC dL_law_610 ?_
  refine V.sld (pc := 611) (i + 1) hC hX (nadd rfl (nl 1)) (by omega) hL dL_law_611 ?_
  refine V.callR (pc := 612) (as := [.int (xs (i + 1))]) (rest := [.int (op_text ((xs (i + 1))) μ).1]) hC (c_X7_text μ ν2 ((xs (i + 1))) hRQ.inv) mu_X7_text ml_L_65 ⟨by omega, by omega⟩ ⟨0, 7, TX7, 20, _, rfl, gm_0⟩ rfl (Nat.le_of_ble_eq_true rfl) dL_law_612 ?_
  rintro _ uu ⟨rfl, hu⟩
  refine V.icmp_eq (pc := 615) 1441 hC dL_law_615 (by decide) (fun _ => ?_) (fun h => absurd rfl h)
  exact kk σ1 ν1 _ _ (by rw [hu]; exact hRQ1)
set_option maxHeartbeats 1000000 in
set_option maxRecDepth 20000 in
theorem law_c12 {X : Cx} {l : Launch} {D : va_G} {k : Nat → ClassId} {g : Nat → Nat} {fr lo b L : Nat} {xs : Nat → Int32} {a c : Nat → Nat} (hC : Ok X l D k g cL_law RL 4 fr lo) (hX : Scr X b L xs) (hfr : 100 ≤ fr) (hlo : 2000 ≤ lo) (hL : L ≤ 3072) {i : Nat} (hi : i + 6 ≤ L) {σ μ ν ν2 : St} (hRQ : RQ σ μ) (kk : ∀ σ ν μ ν2 : St, RQ σ μ → V X (wX k g a σ ν ++ wM k c μ ν2) [(3, .int (nI i)), (2, .ref (c 20)), (1, .ref (a 0)), (0, .ref b)] [] 1441) : V X (wX k g a σ ν ++ wM k c μ ν2) [(3, .int (nI i)), (2, .ref (c 20)), (1, .ref (a 0)), (0, .ref b)] [] 620 := by
  refine V.aload_n (pc := 620) 2 hC dL_law_620 rfl ?_
  refine V.aload_n (pc := 621) 3 hC dL_law_621 rfl ?_
  refine V.iload_n (pc := 622) 0 hC dL_law_622 rfl ?_
  refine V.iconst (pc := 623) 1 hC dL_law_623 (by decide) ?_
  refine V.iadd (pc := 624) hC dL_law_624 ?_
  refine V.sld (pc := 625) (i + 1) hC hX (nadd rfl (nl 1)) (by omega) hL dL_law_625 ?_
  refine V.callL (pc := 626) (as := [.int (xs (i + 1))]) (rest := []) hC (c_X6_untell σ ν μ ((xs (i + 1))) hRQ) mu_X6_untell ml_L_66 ⟨by omega, by omega⟩ ⟨0, 6, TX6, 8, _, rfl, gx_0⟩ rfl (Nat.le_of_ble_eq_true rfl) dL_law_626 ?_
  rintro _ ⟨σ1, ν1⟩ ⟨rfl, hRQ1⟩
  show V X (wX k g a σ1 ν1 ++ wM k c μ ν2) [(3, .int (nI i)), (2, .ref (c 20)), (1, .ref (a 0)), (0, .ref b)] [.int (op_untell ((xs (i + 1))) μ).1] 629
  refine V.aload_n (pc := 629) 1 hC dL_law_629 rfl ?_
  refine V.aload_n (pc := 630) 3 hC dL_law_630 rfl ?_
  refine V.iload_n (pc := 631) 0 hC dL_law_631 rfl ?_
  refine V.iconst (pc := 632) 1 hC dL_law_632 (by decide) ?_
  refine V.iadd (pc := 633) hC dL_law_633 ?_
  refine V.sld (pc := 634) (i + 1) hC hX (nadd rfl (nl 1)) (by omega) hL dL_law_634 ?_
  refine V.callR (pc := 635) (as := [.int (xs (i + 1))]) (rest := [.int (op_untell ((xs (i + 1))) μ).1]) hC (c_X7_untell μ ν2 ((xs (i + 1))) hRQ.inv) mu_X7_untell ml_L_69 ⟨by omega, by omega⟩ ⟨0, 7, TX7, 20, _, rfl, gm_0⟩ rfl (Nat.le_of_ble_eq_true rfl) dL_law_635 ?_
  rintro _ uu ⟨rfl, hu⟩
  refine V.icmp_eq (pc := 638) 1441 hC dL_law_638 (by decide) (fun _ => ?_) (fun h => absurd rfl h)
  exact kk σ1 ν1 _ _ (by rw [hu]; exact hRQ1)
set_option maxHeartbeats 1000000 in
set_option maxRecDepth 20000 in
theorem law_c13 {X : Cx} {l : Launch} {D : va_G} {k : Nat → ClassId} {g : Nat → Nat} {fr lo b L : Nat} {xs : Nat → Int32} {a c : Nat → Nat} (hC : Ok X l D k g cL_law RL 4 fr lo) (hX : Scr X b L xs) (hfr : 100 ≤ fr) (hlo : 2000 ≤ lo) (hL : L ≤ 3072) {i : Nat} (hi : i + 6 ≤ L) {σ μ ν ν2 : St} (hRQ : RQ σ μ) (kk : ∀ σ ν μ ν2 : St, RQ σ μ → V X (wX k g a σ ν ++ wM k c μ ν2) [(3, .int (nI i)), (2, .ref (c 20)), (1, .ref (a 0)), (0, .ref b)] [] 1441) : V X (wX k g a σ ν ++ wM k c μ ν2) [(3, .int (nI i)), (2, .ref (c 20)), (1, .ref (a 0)), (0, .ref b)] [] 643 := by
  refine V.aload_n (pc := 643) 2 hC dL_law_643 rfl ?_
  refine V.aload_n (pc := 644) 3 hC dL_law_644 rfl ?_
  refine V.iload_n (pc := 645) 0 hC dL_law_645 rfl ?_
  refine V.iconst (pc := 646) 1 hC dL_law_646 (by decide) ?_
  refine V.iadd (pc := 647) hC dL_law_647 ?_
  refine V.sld (pc := 648) (i + 1) hC hX (nadd rfl (nl 1)) (by omega) hL dL_law_648 ?_
  refine V.aload_n (pc := 649) 3 hC dL_law_649 rfl ?_
  refine V.iload_n (pc := 650) 0 hC dL_law_650 rfl ?_
  refine V.iconst (pc := 651) 2 hC dL_law_651 (by decide) ?_
  refine V.iadd (pc := 652) hC dL_law_652 ?_
  refine V.sld (pc := 653) (i + 2) hC hX (nadd rfl (nl 2)) (by omega) hL dL_law_653 ?_
  refine V.aload_n (pc := 654) 3 hC dL_law_654 rfl ?_
  refine V.iload_n (pc := 655) 0 hC dL_law_655 rfl ?_
  refine V.iconst (pc := 656) 3 hC dL_law_656 (by decide) ?_
  refine V.iadd (pc := 657) hC dL_law_657 ?_
  refine V.sld (pc := 658) (i + 3) hC hX (nadd rfl (nl 3)) (by omega) hL dL_law_658 ?_
  refine V.aload_n (pc := 659) 3 hC dL_law_659 rfl ?_
  refine V.iload_n (pc := 660) 0 hC dL_law_660 rfl ?_
  refine V.iconst (pc := 661) 4 hC dL_law_661 (by decide) ?_
  refine V.iadd (pc := 662) hC dL_law_662 ?_
  refine V.sld (pc := 663) (i + 4) hC hX (nadd rfl (nl 4)) (by omega) hL dL_law_663 ?_
  refine V.callL (pc := 664) (as := [.int (xs (i + 1)), .int (xs (i + 2)), .int (xs (i + 3)), .int (xs (i + 4))]) (rest := []) hC (c_X6_law σ ν μ ((xs (i + 1))) ((xs (i + 2))) ((xs (i + 3))) ((xs (i + 4))) hRQ) mu_X6_law ml_L_70 ⟨by omega, by omega⟩ ⟨0, 6, TX6, 8, _, rfl, gx_0⟩ rfl (Nat.le_of_ble_eq_true rfl) dL_law_664 ?_
  rintro _ ⟨σ1, ν1⟩ ⟨rfl, hRQ1⟩
  show V X (wX k g a σ1 ν1 ++ wM k c μ ν2) [(3, .int (nI i)), (2, .ref (c 20)), (1, .ref (a 0)), (0, .ref b)] [.int (op_law ((xs (i + 1))) ((xs (i + 2))) ((xs (i + 3))) ((xs (i + 4))) μ).1] 667
  refine V.aload_n (pc := 667) 1 hC dL_law_667 rfl ?_
  refine V.aload_n (pc := 668) 3 hC dL_law_668 rfl ?_
  refine V.iload_n (pc := 669) 0 hC dL_law_669 rfl ?_
  refine V.iconst (pc := 670) 1 hC dL_law_670 (by decide) ?_
  refine V.iadd (pc := 671) hC dL_law_671 ?_
  refine V.sld (pc := 672) (i + 1) hC hX (nadd rfl (nl 1)) (by omega) hL dL_law_672 ?_
  refine V.aload_n (pc := 673) 3 hC dL_law_673 rfl ?_
  refine V.iload_n (pc := 674) 0 hC dL_law_674 rfl ?_
  refine V.iconst (pc := 675) 2 hC dL_law_675 (by decide) ?_
  refine V.iadd (pc := 676) hC dL_law_676 ?_
  refine V.sld (pc := 677) (i + 2) hC hX (nadd rfl (nl 2)) (by omega) hL dL_law_677 ?_
  refine V.aload_n (pc := 678) 3 hC dL_law_678 rfl ?_
  refine V.iload_n (pc := 679) 0 hC dL_law_679 rfl ?_
  refine V.iconst (pc := 680) 3 hC dL_law_680 (by decide) ?_
  refine V.iadd (pc := 681) hC dL_law_681 ?_
  refine V.sld (pc := 682) (i + 3) hC hX (nadd rfl (nl 3)) (by omega) hL dL_law_682 ?_
  refine V.aload_n (pc := 683) 3 hC dL_law_683 rfl ?_
  refine V.iload_n (pc := 684) 0 hC dL_law_684 rfl ?_
  refine V.iconst (pc := 685) 4 hC dL_law_685 (by decide) ?_
  refine V.iadd (pc := 686) hC dL_law_686 ?_
  refine V.sld (pc := 687) (i + 4) hC hX (nadd rfl (nl 4)) (by omega) hL dL_law_687 ?_
  refine V.callR (pc := 688) (as := [.int (xs (i + 1)), .int (xs (i + 2)), .int (xs (i + 3)), .int (xs (i + 4))]) (rest := [.int (op_law ((xs (i + 1))) ((xs (i + 2))) ((xs (i + 3))) ((xs (i + 4))) μ).1]) hC (c_X7_law μ ν2 ((xs (i + 1))) ((xs (i + 2))) ((xs (i + 3))) ((xs (i + 4))) hRQ.inv) mu_X7_law ml_L_74 ⟨by omega, by omega⟩ ⟨0, 7, TX7, 20, _, rfl, gm_0⟩ rfl (Nat.le_of_ble_eq_true rfl) dL_law_688 ?_
  rintro _ uu ⟨rfl, hu⟩
  refine V.icmp_eq (pc := 691) 1441 hC dL_law_691 (by decide) (fun _ => ?_) (fun h => absurd rfl h)
  exact kk σ1 ν1 _ _ (by rw [hu]; exact hRQ1)
set_option maxHeartbeats 1000000 in
set_option maxRecDepth 20000 in
theorem law_c14 {X : Cx} {l : Launch} {D : va_G} {k : Nat → ClassId} {g : Nat → Nat} {fr lo b L : Nat} {xs : Nat → Int32} {a c : Nat → Nat} (hC : Ok X l D k g cL_law RL 4 fr lo) (hX : Scr X b L xs) (hfr : 100 ≤ fr) (hlo : 2000 ≤ lo) (hL : L ≤ 3072) {i : Nat} (hi : i + 6 ≤ L) {σ μ ν ν2 : St} (hRQ : RQ σ μ) (kk : ∀ σ ν μ ν2 : St, RQ σ μ → V X (wX k g a σ ν ++ wM k c μ ν2) [(3, .int (nI i)), (2, .ref (c 20)), (1, .ref (a 0)), (0, .ref b)] [] 1441) : V X (wX k g a σ ν ++ wM k c μ ν2) [(3, .int (nI i)), (2, .ref (c 20)), (1, .ref (a 0)), (0, .ref b)] [] 696 := by
  refine V.aload_n (pc := 696) 2 hC dL_law_696 rfl ?_
  refine V.aload_n (pc := 697) 3 hC dL_law_697 rfl ?_
  refine V.iload_n (pc := 698) 0 hC dL_law_698 rfl ?_
  refine V.iconst (pc := 699) 1 hC dL_law_699 (by decide) ?_
  refine V.iadd (pc := 700) hC dL_law_700 ?_
  refine V.sld (pc := 701) (i + 1) hC hX (nadd rfl (nl 1)) (by omega) hL dL_law_701 ?_
  refine V.callL (pc := 702) (as := [.int (xs (i + 1))]) (rest := []) hC (c_X6_minutes σ ν μ ((xs (i + 1))) hRQ) mu_X6_minutes ml_L_75 ⟨by omega, by omega⟩ ⟨0, 6, TX6, 8, _, rfl, gx_0⟩ rfl (Nat.le_of_ble_eq_true rfl) dL_law_702 ?_
  rintro _ ⟨σ1, ν1⟩ ⟨rfl, hRQ1⟩
  show V X (wX k g a σ1 ν1 ++ wM k c μ ν2) [(3, .int (nI i)), (2, .ref (c 20)), (1, .ref (a 0)), (0, .ref b)] [.int (op_minutes ((xs (i + 1))) μ).1] 705
  refine V.aload_n (pc := 705) 1 hC dL_law_705 rfl ?_
  refine V.aload_n (pc := 706) 3 hC dL_law_706 rfl ?_
  refine V.iload_n (pc := 707) 0 hC dL_law_707 rfl ?_
  refine V.iconst (pc := 708) 1 hC dL_law_708 (by decide) ?_
  refine V.iadd (pc := 709) hC dL_law_709 ?_
  refine V.sld (pc := 710) (i + 1) hC hX (nadd rfl (nl 1)) (by omega) hL dL_law_710 ?_
  refine V.callR (pc := 711) (as := [.int (xs (i + 1))]) (rest := [.int (op_minutes ((xs (i + 1))) μ).1]) hC (c_X7_minutes μ ν2 ((xs (i + 1))) hRQ.inv) mu_X7_minutes ml_L_78 ⟨by omega, by omega⟩ ⟨0, 7, TX7, 20, _, rfl, gm_0⟩ rfl (Nat.le_of_ble_eq_true rfl) dL_law_711 ?_
  rintro _ uu ⟨rfl, hu⟩
  refine V.icmp_eq (pc := 714) 1441 hC dL_law_714 (by decide) (fun _ => ?_) (fun h => absurd rfl h)
  exact kk σ1 ν1 _ _ (by rw [hu]; exact hRQ1)
set_option maxHeartbeats 1000000 in
set_option maxRecDepth 20000 in
theorem law_c15 {X : Cx} {l : Launch} {D : va_G} {k : Nat → ClassId} {g : Nat → Nat} {fr lo b L : Nat} {xs : Nat → Int32} {a c : Nat → Nat} (hC : Ok X l D k g cL_law RL 4 fr lo) (hX : Scr X b L xs) (hfr : 100 ≤ fr) (hlo : 2000 ≤ lo) (hL : L ≤ 3072) {i : Nat} (hi : i + 6 ≤ L) {σ μ ν ν2 : St} (hRQ : RQ σ μ) (kk : ∀ σ ν μ ν2 : St, RQ σ μ → V X (wX k g a σ ν ++ wM k c μ ν2) [(3, .int (nI i)), (2, .ref (c 20)), (1, .ref (a 0)), (0, .ref b)] [] 1441) : V X (wX k g a σ ν ++ wM k c μ ν2) [(3, .int (nI i)), (2, .ref (c 20)), (1, .ref (a 0)), (0, .ref b)] [] 719 := by
  refine V.aload_n (pc := 719) 2 hC dL_law_719 rfl ?_
  refine V.aload_n (pc := 720) 3 hC dL_law_720 rfl ?_
  refine V.iload_n (pc := 721) 0 hC dL_law_721 rfl ?_
  refine V.iconst (pc := 722) 1 hC dL_law_722 (by decide) ?_
  refine V.iadd (pc := 723) hC dL_law_723 ?_
  refine V.sld (pc := 724) (i + 1) hC hX (nadd rfl (nl 1)) (by omega) hL dL_law_724 ?_
  refine V.callL (pc := 725) (as := [.int (xs (i + 1))]) (rest := []) hC (c_X6_loose σ ν μ ((xs (i + 1))) hRQ) mu_X6_loose ml_L_79 ⟨by omega, by omega⟩ ⟨0, 6, TX6, 8, _, rfl, gx_0⟩ rfl (Nat.le_of_ble_eq_true rfl) dL_law_725 ?_
  rintro _ ⟨σ1, ν1⟩ ⟨rfl, hRQ1⟩
  show V X (wX k g a σ1 ν1 ++ wM k c μ ν2) [(3, .int (nI i)), (2, .ref (c 20)), (1, .ref (a 0)), (0, .ref b)] [.int (op_loose ((xs (i + 1))) μ).1] 728
  refine V.aload_n (pc := 728) 1 hC dL_law_728 rfl ?_
  refine V.aload_n (pc := 729) 3 hC dL_law_729 rfl ?_
  refine V.iload_n (pc := 730) 0 hC dL_law_730 rfl ?_
  refine V.iconst (pc := 731) 1 hC dL_law_731 (by decide) ?_
  refine V.iadd (pc := 732) hC dL_law_732 ?_
  refine V.sld (pc := 733) (i + 1) hC hX (nadd rfl (nl 1)) (by omega) hL dL_law_733 ?_
  refine V.callR (pc := 734) (as := [.int (xs (i + 1))]) (rest := [.int (op_loose ((xs (i + 1))) μ).1]) hC (c_X7_loose μ ν2 ((xs (i + 1))) hRQ.inv) mu_X7_loose ml_L_82 ⟨by omega, by omega⟩ ⟨0, 7, TX7, 20, _, rfl, gm_0⟩ rfl (Nat.le_of_ble_eq_true rfl) dL_law_734 ?_
  rintro _ uu ⟨rfl, hu⟩
  refine V.icmp_eq (pc := 737) 1441 hC dL_law_737 (by decide) (fun _ => ?_) (fun h => absurd rfl h)
  exact kk σ1 ν1 _ _ (by rw [hu]; exact hRQ1)
set_option maxHeartbeats 1000000 in
set_option maxRecDepth 20000 in
theorem law_c16 {X : Cx} {l : Launch} {D : va_G} {k : Nat → ClassId} {g : Nat → Nat} {fr lo b L : Nat} {xs : Nat → Int32} {a c : Nat → Nat} (hC : Ok X l D k g cL_law RL 4 fr lo) (hX : Scr X b L xs) (hfr : 100 ≤ fr) (hlo : 2000 ≤ lo) (hL : L ≤ 3072) {i : Nat} (hi : i + 6 ≤ L) {σ μ ν ν2 : St} (hRQ : RQ σ μ) (kk : ∀ σ ν μ ν2 : St, RQ σ μ → V X (wX k g a σ ν ++ wM k c μ ν2) [(3, .int (nI i)), (2, .ref (c 20)), (1, .ref (a 0)), (0, .ref b)] [] 1441) : V X (wX k g a σ ν ++ wM k c μ ν2) [(3, .int (nI i)), (2, .ref (c 20)), (1, .ref (a 0)), (0, .ref b)] [] 742 := by
  refine V.aload_n (pc := 742) 2 hC dL_law_742 rfl ?_
  refine V.aload_n (pc := 743) 3 hC dL_law_743 rfl ?_
  refine V.iload_n (pc := 744) 0 hC dL_law_744 rfl ?_
  refine V.iconst (pc := 745) 1 hC dL_law_745 (by decide) ?_
  refine V.iadd (pc := 746) hC dL_law_746 ?_
  refine V.sld (pc := 747) (i + 1) hC hX (nadd rfl (nl 1)) (by omega) hL dL_law_747 ?_
  refine V.callL (pc := 748) (as := [.int (xs (i + 1))]) (rest := []) hC (c_X6_seed σ ν μ ((xs (i + 1))) hRQ) mu_X6_seed ml_L_83 ⟨by omega, by omega⟩ ⟨0, 6, TX6, 8, _, rfl, gx_0⟩ rfl (Nat.le_of_ble_eq_true rfl) dL_law_748 ?_
  rintro _ ⟨σ1, ν1⟩ ⟨rfl, hRQ1⟩
  show V X (wX k g a σ1 ν1 ++ wM k c μ ν2) [(3, .int (nI i)), (2, .ref (c 20)), (1, .ref (a 0)), (0, .ref b)] [.int (op_seed ((xs (i + 1))) μ).1] 751
  refine V.aload_n (pc := 751) 1 hC dL_law_751 rfl ?_
  refine V.aload_n (pc := 752) 3 hC dL_law_752 rfl ?_
  refine V.iload_n (pc := 753) 0 hC dL_law_753 rfl ?_
  refine V.iconst (pc := 754) 1 hC dL_law_754 (by decide) ?_
  refine V.iadd (pc := 755) hC dL_law_755 ?_
  refine V.sld (pc := 756) (i + 1) hC hX (nadd rfl (nl 1)) (by omega) hL dL_law_756 ?_
  refine V.callR (pc := 757) (as := [.int (xs (i + 1))]) (rest := [.int (op_seed ((xs (i + 1))) μ).1]) hC (c_X7_seed μ ν2 ((xs (i + 1))) hRQ.inv) mu_X7_seed ml_L_86 ⟨by omega, by omega⟩ ⟨0, 7, TX7, 20, _, rfl, gm_0⟩ rfl (Nat.le_of_ble_eq_true rfl) dL_law_757 ?_
  rintro _ uu ⟨rfl, hu⟩
  refine V.icmp_eq (pc := 760) 1441 hC dL_law_760 (by decide) (fun _ => ?_) (fun h => absurd rfl h)
  exact kk σ1 ν1 _ _ (by rw [hu]; exact hRQ1)
set_option maxHeartbeats 1000000 in
set_option maxRecDepth 20000 in
theorem law_c17 {X : Cx} {l : Launch} {D : va_G} {k : Nat → ClassId} {g : Nat → Nat} {fr lo b L : Nat} {xs : Nat → Int32} {a c : Nat → Nat} (hC : Ok X l D k g cL_law RL 4 fr lo) (hX : Scr X b L xs) (hfr : 100 ≤ fr) (hlo : 2000 ≤ lo) (hL : L ≤ 3072) {i : Nat} (hi : i + 6 ≤ L) {σ μ ν ν2 : St} (hRQ : RQ σ μ) (kk : ∀ σ ν μ ν2 : St, RQ σ μ → V X (wX k g a σ ν ++ wM k c μ ν2) [(3, .int (nI i)), (2, .ref (c 20)), (1, .ref (a 0)), (0, .ref b)] [] 1441) : V X (wX k g a σ ν ++ wM k c μ ν2) [(3, .int (nI i)), (2, .ref (c 20)), (1, .ref (a 0)), (0, .ref b)] [] 765 := by
  refine V.aload_n (pc := 765) 2 hC dL_law_765 rfl ?_
  refine V.aload_n (pc := 766) 3 hC dL_law_766 rfl ?_
  refine V.iload_n (pc := 767) 0 hC dL_law_767 rfl ?_
  refine V.iconst (pc := 768) 1 hC dL_law_768 (by decide) ?_
  refine V.iadd (pc := 769) hC dL_law_769 ?_
  refine V.sld (pc := 770) (i + 1) hC hX (nadd rfl (nl 1)) (by omega) hL dL_law_770 ?_
  refine V.aload_n (pc := 771) 3 hC dL_law_771 rfl ?_
  refine V.iload_n (pc := 772) 0 hC dL_law_772 rfl ?_
  refine V.iconst (pc := 773) 2 hC dL_law_773 (by decide) ?_
  refine V.iadd (pc := 774) hC dL_law_774 ?_
  refine V.sld (pc := 775) (i + 2) hC hX (nadd rfl (nl 2)) (by omega) hL dL_law_775 ?_
  refine V.callL (pc := 776) (as := [.int (xs (i + 1)), .int (xs (i + 2))]) (rest := []) hC (c_X6_markAt σ ν μ ((xs (i + 1))) ((xs (i + 2))) hRQ) mu_X6_markAt ml_L_87 ⟨by omega, by omega⟩ ⟨0, 6, TX6, 8, _, rfl, gx_0⟩ rfl (Nat.le_of_ble_eq_true rfl) dL_law_776 ?_
  rintro _ ⟨σ1, ν1⟩ ⟨rfl, hRQ1⟩
  show V X (wX k g a σ1 ν1 ++ wM k c μ ν2) [(3, .int (nI i)), (2, .ref (c 20)), (1, .ref (a 0)), (0, .ref b)] [.int (op_markAt ((xs (i + 1))) ((xs (i + 2))) μ).1] 779
  refine V.aload_n (pc := 779) 1 hC dL_law_779 rfl ?_
  refine V.aload_n (pc := 780) 3 hC dL_law_780 rfl ?_
  refine V.iload_n (pc := 781) 0 hC dL_law_781 rfl ?_
  refine V.iconst (pc := 782) 1 hC dL_law_782 (by decide) ?_
  refine V.iadd (pc := 783) hC dL_law_783 ?_
  refine V.sld (pc := 784) (i + 1) hC hX (nadd rfl (nl 1)) (by omega) hL dL_law_784 ?_
  refine V.aload_n (pc := 785) 3 hC dL_law_785 rfl ?_
  refine V.iload_n (pc := 786) 0 hC dL_law_786 rfl ?_
  refine V.iconst (pc := 787) 2 hC dL_law_787 (by decide) ?_
  refine V.iadd (pc := 788) hC dL_law_788 ?_
  refine V.sld (pc := 789) (i + 2) hC hX (nadd rfl (nl 2)) (by omega) hL dL_law_789 ?_
  refine V.callR (pc := 790) (as := [.int (xs (i + 1)), .int (xs (i + 2))]) (rest := [.int (op_markAt ((xs (i + 1))) ((xs (i + 2))) μ).1]) hC (c_X7_markAt μ ν2 ((xs (i + 1))) ((xs (i + 2))) hRQ.inv) mu_X7_markAt ml_L_90 ⟨by omega, by omega⟩ ⟨0, 7, TX7, 20, _, rfl, gm_0⟩ rfl (Nat.le_of_ble_eq_true rfl) dL_law_790 ?_
  rintro _ uu ⟨rfl, hu⟩
  refine V.icmp_eq (pc := 793) 1441 hC dL_law_793 (by decide) (fun _ => ?_) (fun h => absurd rfl h)
  exact kk σ1 ν1 _ _ (by rw [hu]; exact hRQ1)
set_option maxHeartbeats 1000000 in
set_option maxRecDepth 20000 in
theorem law_c18 {X : Cx} {l : Launch} {D : va_G} {k : Nat → ClassId} {g : Nat → Nat} {fr lo b L : Nat} {xs : Nat → Int32} {a c : Nat → Nat} (hC : Ok X l D k g cL_law RL 4 fr lo) (hX : Scr X b L xs) (hfr : 100 ≤ fr) (hlo : 2000 ≤ lo) (hL : L ≤ 3072) {i : Nat} (hi : i + 6 ≤ L) {σ μ ν ν2 : St} (hRQ : RQ σ μ) (kk : ∀ σ ν μ ν2 : St, RQ σ μ → V X (wX k g a σ ν ++ wM k c μ ν2) [(3, .int (nI i)), (2, .ref (c 20)), (1, .ref (a 0)), (0, .ref b)] [] 1441) : V X (wX k g a σ ν ++ wM k c μ ν2) [(3, .int (nI i)), (2, .ref (c 20)), (1, .ref (a 0)), (0, .ref b)] [] 798 := by
  refine V.aload_n (pc := 798) 2 hC dL_law_798 rfl ?_
  refine V.aload_n (pc := 799) 3 hC dL_law_799 rfl ?_
  refine V.iload_n (pc := 800) 0 hC dL_law_800 rfl ?_
  refine V.iconst (pc := 801) 1 hC dL_law_801 (by decide) ?_
  refine V.iadd (pc := 802) hC dL_law_802 ?_
  refine V.sld (pc := 803) (i + 1) hC hX (nadd rfl (nl 1)) (by omega) hL dL_law_803 ?_
  refine V.aload_n (pc := 804) 3 hC dL_law_804 rfl ?_
  refine V.iload_n (pc := 805) 0 hC dL_law_805 rfl ?_
  refine V.iconst (pc := 806) 2 hC dL_law_806 (by decide) ?_
  refine V.iadd (pc := 807) hC dL_law_807 ?_
  refine V.sld (pc := 808) (i + 2) hC hX (nadd rfl (nl 2)) (by omega) hL dL_law_808 ?_
  refine V.callL (pc := 809) (as := [.int (xs (i + 1)), .int (xs (i + 2))]) (rest := []) hC (c_X6_meet σ ν μ ((xs (i + 1))) ((xs (i + 2))) hRQ) mu_X6_meet ml_L_91 ⟨by omega, by omega⟩ ⟨0, 6, TX6, 8, _, rfl, gx_0⟩ rfl (Nat.le_of_ble_eq_true rfl) dL_law_809 ?_
  rintro _ ⟨σ1, ν1⟩ ⟨rfl, hRQ1⟩
  show V X (wX k g a σ1 ν1 ++ wM k c μ ν2) [(3, .int (nI i)), (2, .ref (c 20)), (1, .ref (a 0)), (0, .ref b)] [.int (op_meet ((xs (i + 1))) ((xs (i + 2))) μ).1] 812
  refine V.aload_n (pc := 812) 1 hC dL_law_812 rfl ?_
  refine V.aload_n (pc := 813) 3 hC dL_law_813 rfl ?_
  refine V.iload_n (pc := 814) 0 hC dL_law_814 rfl ?_
  refine V.iconst (pc := 815) 1 hC dL_law_815 (by decide) ?_
  refine V.iadd (pc := 816) hC dL_law_816 ?_
  refine V.sld (pc := 817) (i + 1) hC hX (nadd rfl (nl 1)) (by omega) hL dL_law_817 ?_
  refine V.aload_n (pc := 818) 3 hC dL_law_818 rfl ?_
  refine V.iload_n (pc := 819) 0 hC dL_law_819 rfl ?_
  refine V.iconst (pc := 820) 2 hC dL_law_820 (by decide) ?_
  refine V.iadd (pc := 821) hC dL_law_821 ?_
  refine V.sld (pc := 822) (i + 2) hC hX (nadd rfl (nl 2)) (by omega) hL dL_law_822 ?_
  refine V.callR (pc := 823) (as := [.int (xs (i + 1)), .int (xs (i + 2))]) (rest := [.int (op_meet ((xs (i + 1))) ((xs (i + 2))) μ).1]) hC (c_X7_meet μ ν2 ((xs (i + 1))) ((xs (i + 2))) hRQ.inv) mu_X7_meet ml_L_94 ⟨by omega, by omega⟩ ⟨0, 7, TX7, 20, _, rfl, gm_0⟩ rfl (Nat.le_of_ble_eq_true rfl) dL_law_823 ?_
  rintro _ uu ⟨rfl, hu⟩
  refine V.icmp_eq (pc := 826) 1441 hC dL_law_826 (by decide) (fun _ => ?_) (fun h => absurd rfl h)
  exact kk σ1 ν1 _ _ (by rw [hu]; exact hRQ1)
set_option maxHeartbeats 1000000 in
set_option maxRecDepth 20000 in
theorem law_c19 {X : Cx} {l : Launch} {D : va_G} {k : Nat → ClassId} {g : Nat → Nat} {fr lo b L : Nat} {xs : Nat → Int32} {a c : Nat → Nat} (hC : Ok X l D k g cL_law RL 4 fr lo) (hX : Scr X b L xs) (hfr : 100 ≤ fr) (hlo : 2000 ≤ lo) (hL : L ≤ 3072) {i : Nat} (hi : i + 6 ≤ L) {σ μ ν ν2 : St} (hRQ : RQ σ μ) (kk : ∀ σ ν μ ν2 : St, RQ σ μ → V X (wX k g a σ ν ++ wM k c μ ν2) [(3, .int (nI i)), (2, .ref (c 20)), (1, .ref (a 0)), (0, .ref b)] [] 1441) : V X (wX k g a σ ν ++ wM k c μ ν2) [(3, .int (nI i)), (2, .ref (c 20)), (1, .ref (a 0)), (0, .ref b)] [] 831 := by
  refine V.aload_n (pc := 831) 2 hC dL_law_831 rfl ?_
  refine V.callL (pc := 832) (as := []) (rest := []) hC (c_X6_council σ ν μ hRQ) mu_X6_council ml_L_95 ⟨by omega, by omega⟩ ⟨0, 6, TX6, 8, _, rfl, gx_0⟩ rfl (Nat.le_of_ble_eq_true rfl) dL_law_832 ?_
  rintro _ ⟨σ1, ν1⟩ ⟨rfl, hRQ1⟩
  show V X (wX k g a σ1 ν1 ++ wM k c μ ν2) [(3, .int (nI i)), (2, .ref (c 20)), (1, .ref (a 0)), (0, .ref b)] [.int (op_council μ).1] 835
  refine V.aload_n (pc := 835) 1 hC dL_law_835 rfl ?_
  refine V.callR (pc := 836) (as := []) (rest := [.int (op_council μ).1]) hC (c_X7_council μ ν2 hRQ.inv) mu_X7_council ml_L_99 ⟨by omega, by omega⟩ ⟨0, 7, TX7, 20, _, rfl, gm_0⟩ rfl (Nat.le_of_ble_eq_true rfl) dL_law_836 ?_
  rintro _ uu ⟨rfl, hu⟩
  refine V.icmp_eq (pc := 839) 1441 hC dL_law_839 (by decide) (fun _ => ?_) (fun h => absurd rfl h)
  exact kk σ1 ν1 _ _ (by rw [hu]; exact hRQ1)
set_option maxHeartbeats 1000000 in
set_option maxRecDepth 20000 in
theorem law_c20 {X : Cx} {l : Launch} {D : va_G} {k : Nat → ClassId} {g : Nat → Nat} {fr lo b L : Nat} {xs : Nat → Int32} {a c : Nat → Nat} (hC : Ok X l D k g cL_law RL 4 fr lo) (hX : Scr X b L xs) (hfr : 100 ≤ fr) (hlo : 2000 ≤ lo) (hL : L ≤ 3072) {i : Nat} (hi : i + 6 ≤ L) {σ μ ν ν2 : St} (hRQ : RQ σ μ) (kk : ∀ σ ν μ ν2 : St, RQ σ μ → V X (wX k g a σ ν ++ wM k c μ ν2) [(3, .int (nI i)), (2, .ref (c 20)), (1, .ref (a 0)), (0, .ref b)] [] 1441) : V X (wX k g a σ ν ++ wM k c μ ν2) [(3, .int (nI i)), (2, .ref (c 20)), (1, .ref (a 0)), (0, .ref b)] [] 844 := by
  refine V.aload_n (pc := 844) 2 hC dL_law_844 rfl ?_
  refine V.aload_n (pc := 845) 3 hC dL_law_845 rfl ?_
  refine V.iload_n (pc := 846) 0 hC dL_law_846 rfl ?_
  refine V.iconst (pc := 847) 1 hC dL_law_847 (by decide) ?_
  refine V.iadd (pc := 848) hC dL_law_848 ?_
  refine V.sld (pc := 849) (i + 1) hC hX (nadd rfl (nl 1)) (by omega) hL dL_law_849 ?_
  refine V.aload_n (pc := 850) 3 hC dL_law_850 rfl ?_
  refine V.iload_n (pc := 851) 0 hC dL_law_851 rfl ?_
  refine V.iconst (pc := 852) 2 hC dL_law_852 (by decide) ?_
  refine V.iadd (pc := 853) hC dL_law_853 ?_
  refine V.sld (pc := 854) (i + 2) hC hX (nadd rfl (nl 2)) (by omega) hL dL_law_854 ?_
  refine V.callL (pc := 855) (as := [.int (xs (i + 1)), .int (xs (i + 2))]) (rest := []) hC (c_X6_soonest σ ν μ ((xs (i + 1))) ((xs (i + 2))) hRQ) mu_X6_soonest ml_L_100 ⟨by omega, by omega⟩ ⟨0, 6, TX6, 8, _, rfl, gx_0⟩ rfl (Nat.le_of_ble_eq_true rfl) dL_law_855 ?_
  rintro _ ⟨σ1, ν1⟩ ⟨rfl, hRQ1⟩
  show V X (wX k g a σ1 ν1 ++ wM k c μ ν2) [(3, .int (nI i)), (2, .ref (c 20)), (1, .ref (a 0)), (0, .ref b)] [.int (op_soonest ((xs (i + 1))) ((xs (i + 2))) μ).1] 858
  refine V.aload_n (pc := 858) 1 hC dL_law_858 rfl ?_
  refine V.aload_n (pc := 859) 3 hC dL_law_859 rfl ?_
  refine V.iload_n (pc := 860) 0 hC dL_law_860 rfl ?_
  refine V.iconst (pc := 861) 1 hC dL_law_861 (by decide) ?_
  refine V.iadd (pc := 862) hC dL_law_862 ?_
  refine V.sld (pc := 863) (i + 1) hC hX (nadd rfl (nl 1)) (by omega) hL dL_law_863 ?_
  refine V.aload_n (pc := 864) 3 hC dL_law_864 rfl ?_
  refine V.iload_n (pc := 865) 0 hC dL_law_865 rfl ?_
  refine V.iconst (pc := 866) 2 hC dL_law_866 (by decide) ?_
  refine V.iadd (pc := 867) hC dL_law_867 ?_
  refine V.sld (pc := 868) (i + 2) hC hX (nadd rfl (nl 2)) (by omega) hL dL_law_868 ?_
  refine V.callR (pc := 869) (as := [.int (xs (i + 1)), .int (xs (i + 2))]) (rest := [.int (op_soonest ((xs (i + 1))) ((xs (i + 2))) μ).1]) hC (c_X7_soonest μ ν2 ((xs (i + 1))) ((xs (i + 2))) hRQ.inv) mu_X7_soonest ml_L_103 ⟨by omega, by omega⟩ ⟨0, 7, TX7, 20, _, rfl, gm_0⟩ rfl (Nat.le_of_ble_eq_true rfl) dL_law_869 ?_
  rintro _ uu ⟨rfl, hu⟩
  refine V.icmp_eq (pc := 872) 1441 hC dL_law_872 (by decide) (fun _ => ?_) (fun h => absurd rfl h)
  exact kk σ1 ν1 _ _ (by rw [hu]; exact hRQ1)
set_option maxHeartbeats 1000000 in
set_option maxRecDepth 20000 in
theorem law_c21 {X : Cx} {l : Launch} {D : va_G} {k : Nat → ClassId} {g : Nat → Nat} {fr lo b L : Nat} {xs : Nat → Int32} {a c : Nat → Nat} (hC : Ok X l D k g cL_law RL 4 fr lo) (hX : Scr X b L xs) (hfr : 100 ≤ fr) (hlo : 2000 ≤ lo) (hL : L ≤ 3072) {i : Nat} (hi : i + 6 ≤ L) {σ μ ν ν2 : St} (hRQ : RQ σ μ) (kk : ∀ σ ν μ ν2 : St, RQ σ μ → V X (wX k g a σ ν ++ wM k c μ ν2) [(3, .int (nI i)), (2, .ref (c 20)), (1, .ref (a 0)), (0, .ref b)] [] 1441) : V X (wX k g a σ ν ++ wM k c μ ν2) [(3, .int (nI i)), (2, .ref (c 20)), (1, .ref (a 0)), (0, .ref b)] [] 877 := by
  refine V.aload_n (pc := 877) 2 hC dL_law_877 rfl ?_
  refine V.aload_n (pc := 878) 3 hC dL_law_878 rfl ?_
  refine V.iload_n (pc := 879) 0 hC dL_law_879 rfl ?_
  refine V.iconst (pc := 880) 1 hC dL_law_880 (by decide) ?_
  refine V.iadd (pc := 881) hC dL_law_881 ?_
  refine V.sld (pc := 882) (i + 1) hC hX (nadd rfl (nl 1)) (by omega) hL dL_law_882 ?_
  refine V.aload_n (pc := 883) 3 hC dL_law_883 rfl ?_
  refine V.iload_n (pc := 884) 0 hC dL_law_884 rfl ?_
  refine V.iconst (pc := 885) 2 hC dL_law_885 (by decide) ?_
  refine V.iadd (pc := 886) hC dL_law_886 ?_
  refine V.sld (pc := 887) (i + 2) hC hX (nadd rfl (nl 2)) (by omega) hL dL_law_887 ?_
  refine V.callL (pc := 888) (as := [.int (xs (i + 1)), .int (xs (i + 2))]) (rest := []) hC (c_X6_rooms σ ν μ ((xs (i + 1))) ((xs (i + 2))) hRQ) mu_X6_rooms ml_L_104 ⟨by omega, by omega⟩ ⟨0, 6, TX6, 8, _, rfl, gx_0⟩ rfl (Nat.le_of_ble_eq_true rfl) dL_law_888 ?_
  rintro _ ⟨σ1, ν1⟩ ⟨rfl, hRQ1⟩
  show V X (wX k g a σ1 ν1 ++ wM k c μ ν2) [(3, .int (nI i)), (2, .ref (c 20)), (1, .ref (a 0)), (0, .ref b)] [.int (op_rooms ((xs (i + 1))) ((xs (i + 2))) μ).1] 891
  refine V.aload_n (pc := 891) 1 hC dL_law_891 rfl ?_
  refine V.aload_n (pc := 892) 3 hC dL_law_892 rfl ?_
  refine V.iload_n (pc := 893) 0 hC dL_law_893 rfl ?_
  refine V.iconst (pc := 894) 1 hC dL_law_894 (by decide) ?_
  refine V.iadd (pc := 895) hC dL_law_895 ?_
  refine V.sld (pc := 896) (i + 1) hC hX (nadd rfl (nl 1)) (by omega) hL dL_law_896 ?_
  refine V.aload_n (pc := 897) 3 hC dL_law_897 rfl ?_
  refine V.iload_n (pc := 898) 0 hC dL_law_898 rfl ?_
  refine V.iconst (pc := 899) 2 hC dL_law_899 (by decide) ?_
  refine V.iadd (pc := 900) hC dL_law_900 ?_
  refine V.sld (pc := 901) (i + 2) hC hX (nadd rfl (nl 2)) (by omega) hL dL_law_901 ?_
  refine V.callR (pc := 902) (as := [.int (xs (i + 1)), .int (xs (i + 2))]) (rest := [.int (op_rooms ((xs (i + 1))) ((xs (i + 2))) μ).1]) hC (c_X7_rooms μ ν2 ((xs (i + 1))) ((xs (i + 2))) hRQ.inv) mu_X7_rooms ml_L_107 ⟨by omega, by omega⟩ ⟨0, 7, TX7, 20, _, rfl, gm_0⟩ rfl (Nat.le_of_ble_eq_true rfl) dL_law_902 ?_
  rintro _ uu ⟨rfl, hu⟩
  refine V.icmp_eq (pc := 905) 1441 hC dL_law_905 (by decide) (fun _ => ?_) (fun h => absurd rfl h)
  exact kk σ1 ν1 _ _ (by rw [hu]; exact hRQ1)
set_option maxHeartbeats 1000000 in
set_option maxRecDepth 20000 in
theorem law_c22 {X : Cx} {l : Launch} {D : va_G} {k : Nat → ClassId} {g : Nat → Nat} {fr lo b L : Nat} {xs : Nat → Int32} {a c : Nat → Nat} (hC : Ok X l D k g cL_law RL 4 fr lo) (hX : Scr X b L xs) (hfr : 100 ≤ fr) (hlo : 2000 ≤ lo) (hL : L ≤ 3072) {i : Nat} (hi : i + 6 ≤ L) {σ μ ν ν2 : St} (hRQ : RQ σ μ) (kk : ∀ σ ν μ ν2 : St, RQ σ μ → V X (wX k g a σ ν ++ wM k c μ ν2) [(3, .int (nI i)), (2, .ref (c 20)), (1, .ref (a 0)), (0, .ref b)] [] 1441) : V X (wX k g a σ ν ++ wM k c μ ν2) [(3, .int (nI i)), (2, .ref (c 20)), (1, .ref (a 0)), (0, .ref b)] [] 910 := by
  refine V.aload_n (pc := 910) 2 hC dL_law_910 rfl ?_
  refine V.aload_n (pc := 911) 3 hC dL_law_911 rfl ?_
  refine V.iload_n (pc := 912) 0 hC dL_law_912 rfl ?_
  refine V.iconst (pc := 913) 1 hC dL_law_913 (by decide) ?_
  refine V.iadd (pc := 914) hC dL_law_914 ?_
  refine V.sld (pc := 915) (i + 1) hC hX (nadd rfl (nl 1)) (by omega) hL dL_law_915 ?_
  refine V.aload_n (pc := 916) 3 hC dL_law_916 rfl ?_
  refine V.iload_n (pc := 917) 0 hC dL_law_917 rfl ?_
  refine V.iconst (pc := 918) 2 hC dL_law_918 (by decide) ?_
  refine V.iadd (pc := 919) hC dL_law_919 ?_
  refine V.sld (pc := 920) (i + 2) hC hX (nadd rfl (nl 2)) (by omega) hL dL_law_920 ?_
  refine V.aload_n (pc := 921) 3 hC dL_law_921 rfl ?_
  refine V.iload_n (pc := 922) 0 hC dL_law_922 rfl ?_
  refine V.iconst (pc := 923) 3 hC dL_law_923 (by decide) ?_
  refine V.iadd (pc := 924) hC dL_law_924 ?_
  refine V.sld (pc := 925) (i + 3) hC hX (nadd rfl (nl 3)) (by omega) hL dL_law_925 ?_
  refine V.aload_n (pc := 926) 3 hC dL_law_926 rfl ?_
  refine V.iload_n (pc := 927) 0 hC dL_law_927 rfl ?_
  refine V.iconst (pc := 928) 4 hC dL_law_928 (by decide) ?_
  refine V.iadd (pc := 929) hC dL_law_929 ?_
  refine V.sld (pc := 930) (i + 4) hC hX (nadd rfl (nl 4)) (by omega) hL dL_law_930 ?_
  refine V.callL (pc := 931) (as := [.int (xs (i + 1)), .int (xs (i + 2)), .int (xs (i + 3)), .int (xs (i + 4))]) (rest := []) hC (c_X6_watch σ ν μ ((xs (i + 1))) ((xs (i + 2))) ((xs (i + 3))) ((xs (i + 4))) hRQ) mu_X6_watch ml_L_108 ⟨by omega, by omega⟩ ⟨0, 6, TX6, 8, _, rfl, gx_0⟩ rfl (Nat.le_of_ble_eq_true rfl) dL_law_931 ?_
  rintro _ ⟨σ1, ν1⟩ ⟨rfl, hRQ1⟩
  show V X (wX k g a σ1 ν1 ++ wM k c μ ν2) [(3, .int (nI i)), (2, .ref (c 20)), (1, .ref (a 0)), (0, .ref b)] [.int (op_watch ((xs (i + 1))) ((xs (i + 2))) ((xs (i + 3))) ((xs (i + 4))) μ).1] 934
  refine V.aload_n (pc := 934) 1 hC dL_law_934 rfl ?_
  refine V.aload_n (pc := 935) 3 hC dL_law_935 rfl ?_
  refine V.iload_n (pc := 936) 0 hC dL_law_936 rfl ?_
  refine V.iconst (pc := 937) 1 hC dL_law_937 (by decide) ?_
  refine V.iadd (pc := 938) hC dL_law_938 ?_
  refine V.sld (pc := 939) (i + 1) hC hX (nadd rfl (nl 1)) (by omega) hL dL_law_939 ?_
  refine V.aload_n (pc := 940) 3 hC dL_law_940 rfl ?_
  refine V.iload_n (pc := 941) 0 hC dL_law_941 rfl ?_
  refine V.iconst (pc := 942) 2 hC dL_law_942 (by decide) ?_
  refine V.iadd (pc := 943) hC dL_law_943 ?_
  refine V.sld (pc := 944) (i + 2) hC hX (nadd rfl (nl 2)) (by omega) hL dL_law_944 ?_
  refine V.aload_n (pc := 945) 3 hC dL_law_945 rfl ?_
  refine V.iload_n (pc := 946) 0 hC dL_law_946 rfl ?_
  refine V.iconst (pc := 947) 3 hC dL_law_947 (by decide) ?_
  refine V.iadd (pc := 948) hC dL_law_948 ?_
  refine V.sld (pc := 949) (i + 3) hC hX (nadd rfl (nl 3)) (by omega) hL dL_law_949 ?_
  refine V.aload_n (pc := 950) 3 hC dL_law_950 rfl ?_
  refine V.iload_n (pc := 951) 0 hC dL_law_951 rfl ?_
  refine V.iconst (pc := 952) 4 hC dL_law_952 (by decide) ?_
  refine V.iadd (pc := 953) hC dL_law_953 ?_
  refine V.sld (pc := 954) (i + 4) hC hX (nadd rfl (nl 4)) (by omega) hL dL_law_954 ?_
  refine V.callR (pc := 955) (as := [.int (xs (i + 1)), .int (xs (i + 2)), .int (xs (i + 3)), .int (xs (i + 4))]) (rest := [.int (op_watch ((xs (i + 1))) ((xs (i + 2))) ((xs (i + 3))) ((xs (i + 4))) μ).1]) hC (c_X7_watch μ ν2 ((xs (i + 1))) ((xs (i + 2))) ((xs (i + 3))) ((xs (i + 4))) hRQ.inv) mu_X7_watch ml_L_111 ⟨by omega, by omega⟩ ⟨0, 7, TX7, 20, _, rfl, gm_0⟩ rfl (Nat.le_of_ble_eq_true rfl) dL_law_955 ?_
  rintro _ uu ⟨rfl, hu⟩
  refine V.icmp_eq (pc := 958) 1441 hC dL_law_958 (by decide) (fun _ => ?_) (fun h => absurd rfl h)
  exact kk σ1 ν1 _ _ (by rw [hu]; exact hRQ1)
set_option maxHeartbeats 1000000 in
set_option maxRecDepth 20000 in
theorem law_c23 {X : Cx} {l : Launch} {D : va_G} {k : Nat → ClassId} {g : Nat → Nat} {fr lo b L : Nat} {xs : Nat → Int32} {a c : Nat → Nat} (hC : Ok X l D k g cL_law RL 4 fr lo) (hX : Scr X b L xs) (hfr : 100 ≤ fr) (hlo : 2000 ≤ lo) (hL : L ≤ 3072) {i : Nat} (hi : i + 6 ≤ L) {σ μ ν ν2 : St} (hRQ : RQ σ μ) (kk : ∀ σ ν μ ν2 : St, RQ σ μ → V X (wX k g a σ ν ++ wM k c μ ν2) [(3, .int (nI i)), (2, .ref (c 20)), (1, .ref (a 0)), (0, .ref b)] [] 1441) : V X (wX k g a σ ν ++ wM k c μ ν2) [(3, .int (nI i)), (2, .ref (c 20)), (1, .ref (a 0)), (0, .ref b)] [] 963 := by
  refine V.aload_n (pc := 963) 2 hC dL_law_963 rfl ?_
  refine V.aload_n (pc := 964) 3 hC dL_law_964 rfl ?_
  refine V.iload_n (pc := 965) 0 hC dL_law_965 rfl ?_
  refine V.iconst (pc := 966) 1 hC dL_law_966 (by decide) ?_
  refine V.iadd (pc := 967) hC dL_law_967 ?_
  refine V.sld (pc := 968) (i + 1) hC hX (nadd rfl (nl 1)) (by omega) hL dL_law_968 ?_
  refine V.aload_n (pc := 969) 3 hC dL_law_969 rfl ?_
  refine V.iload_n (pc := 970) 0 hC dL_law_970 rfl ?_
  refine V.iconst (pc := 971) 2 hC dL_law_971 (by decide) ?_
  refine V.iadd (pc := 972) hC dL_law_972 ?_
  refine V.sld (pc := 973) (i + 2) hC hX (nadd rfl (nl 2)) (by omega) hL dL_law_973 ?_
  refine V.aload_n (pc := 974) 3 hC dL_law_974 rfl ?_
  refine V.iload_n (pc := 975) 0 hC dL_law_975 rfl ?_
  refine V.iconst (pc := 976) 3 hC dL_law_976 (by decide) ?_
  refine V.iadd (pc := 977) hC dL_law_977 ?_
  refine V.sld (pc := 978) (i + 3) hC hX (nadd rfl (nl 3)) (by omega) hL dL_law_978 ?_
  refine V.callL (pc := 979) (as := [.int (xs (i + 1)), .int (xs (i + 2)), .int (xs (i + 3))]) (rest := []) hC (c_X6_best σ ν μ ((xs (i + 1))) ((xs (i + 2))) ((xs (i + 3))) hRQ) mu_X6_best ml_L_112 ⟨by omega, by omega⟩ ⟨0, 6, TX6, 8, _, rfl, gx_0⟩ rfl (Nat.le_of_ble_eq_true rfl) dL_law_979 ?_
  rintro _ ⟨σ1, ν1⟩ ⟨rfl, hRQ1⟩
  show V X (wX k g a σ1 ν1 ++ wM k c μ ν2) [(3, .int (nI i)), (2, .ref (c 20)), (1, .ref (a 0)), (0, .ref b)] [.int (op_best ((xs (i + 1))) ((xs (i + 2))) ((xs (i + 3))) μ).1] 982
  refine V.aload_n (pc := 982) 1 hC dL_law_982 rfl ?_
  refine V.aload_n (pc := 983) 3 hC dL_law_983 rfl ?_
  refine V.iload_n (pc := 984) 0 hC dL_law_984 rfl ?_
  refine V.iconst (pc := 985) 1 hC dL_law_985 (by decide) ?_
  refine V.iadd (pc := 986) hC dL_law_986 ?_
  refine V.sld (pc := 987) (i + 1) hC hX (nadd rfl (nl 1)) (by omega) hL dL_law_987 ?_
  refine V.aload_n (pc := 988) 3 hC dL_law_988 rfl ?_
  refine V.iload_n (pc := 989) 0 hC dL_law_989 rfl ?_
  refine V.iconst (pc := 990) 2 hC dL_law_990 (by decide) ?_
  refine V.iadd (pc := 991) hC dL_law_991 ?_
  refine V.sld (pc := 992) (i + 2) hC hX (nadd rfl (nl 2)) (by omega) hL dL_law_992 ?_
  refine V.aload_n (pc := 993) 3 hC dL_law_993 rfl ?_
  refine V.iload_n (pc := 994) 0 hC dL_law_994 rfl ?_
  refine V.iconst (pc := 995) 3 hC dL_law_995 (by decide) ?_
  refine V.iadd (pc := 996) hC dL_law_996 ?_
  refine V.sld (pc := 997) (i + 3) hC hX (nadd rfl (nl 3)) (by omega) hL dL_law_997 ?_
  refine V.callR (pc := 998) (as := [.int (xs (i + 1)), .int (xs (i + 2)), .int (xs (i + 3))]) (rest := [.int (op_best ((xs (i + 1))) ((xs (i + 2))) ((xs (i + 3))) μ).1]) hC (c_X7_best μ ν2 ((xs (i + 1))) ((xs (i + 2))) ((xs (i + 3))) hRQ.inv) mu_X7_best ml_L_116 ⟨by omega, by omega⟩ ⟨0, 7, TX7, 20, _, rfl, gm_0⟩ rfl (Nat.le_of_ble_eq_true rfl) dL_law_998 ?_
  rintro _ uu ⟨rfl, hu⟩
  refine V.icmp_eq (pc := 1001) 1441 hC dL_law_1001 (by decide) (fun _ => ?_) (fun h => absurd rfl h)
  exact kk σ1 ν1 _ _ (by rw [hu]; exact hRQ1)
set_option maxHeartbeats 1000000 in
set_option maxRecDepth 20000 in
theorem law_c24 {X : Cx} {l : Launch} {D : va_G} {k : Nat → ClassId} {g : Nat → Nat} {fr lo b L : Nat} {xs : Nat → Int32} {a c : Nat → Nat} (hC : Ok X l D k g cL_law RL 4 fr lo) (hX : Scr X b L xs) (hfr : 100 ≤ fr) (hlo : 2000 ≤ lo) (hL : L ≤ 3072) {i : Nat} (hi : i + 6 ≤ L) {σ μ ν ν2 : St} (hRQ : RQ σ μ) (kk : ∀ σ ν μ ν2 : St, RQ σ μ → V X (wX k g a σ ν ++ wM k c μ ν2) [(3, .int (nI i)), (2, .ref (c 20)), (1, .ref (a 0)), (0, .ref b)] [] 1441) : V X (wX k g a σ ν ++ wM k c μ ν2) [(3, .int (nI i)), (2, .ref (c 20)), (1, .ref (a 0)), (0, .ref b)] [] 1006 := by
  refine V.aload_n (pc := 1006) 2 hC dL_law_1006 rfl ?_
  refine V.aload_n (pc := 1007) 3 hC dL_law_1007 rfl ?_
  refine V.iload_n (pc := 1008) 0 hC dL_law_1008 rfl ?_
  refine V.iconst (pc := 1009) 1 hC dL_law_1009 (by decide) ?_
  refine V.iadd (pc := 1010) hC dL_law_1010 ?_
  refine V.sld (pc := 1011) (i + 1) hC hX (nadd rfl (nl 1)) (by omega) hL dL_law_1011 ?_
  refine V.aload_n (pc := 1012) 3 hC dL_law_1012 rfl ?_
  refine V.iload_n (pc := 1013) 0 hC dL_law_1013 rfl ?_
  refine V.iconst (pc := 1014) 2 hC dL_law_1014 (by decide) ?_
  refine V.iadd (pc := 1015) hC dL_law_1015 ?_
  refine V.sld (pc := 1016) (i + 2) hC hX (nadd rfl (nl 2)) (by omega) hL dL_law_1016 ?_
  refine V.aload_n (pc := 1017) 3 hC dL_law_1017 rfl ?_
  refine V.iload_n (pc := 1018) 0 hC dL_law_1018 rfl ?_
  refine V.iconst (pc := 1019) 3 hC dL_law_1019 (by decide) ?_
  refine V.iadd (pc := 1020) hC dL_law_1020 ?_
  refine V.sld (pc := 1021) (i + 3) hC hX (nadd rfl (nl 3)) (by omega) hL dL_law_1021 ?_
  refine V.callL (pc := 1022) (as := [.int (xs (i + 1)), .int (xs (i + 2)), .int (xs (i + 3))]) (rest := []) hC (c_X6_odds σ ν μ ((xs (i + 1))) ((xs (i + 2))) ((xs (i + 3))) hRQ) mu_X6_odds ml_L_117 ⟨by omega, by omega⟩ ⟨0, 6, TX6, 8, _, rfl, gx_0⟩ rfl (Nat.le_of_ble_eq_true rfl) dL_law_1022 ?_
  rintro _ ⟨σ1, ν1⟩ ⟨rfl, hRQ1⟩
  show V X (wX k g a σ1 ν1 ++ wM k c μ ν2) [(3, .int (nI i)), (2, .ref (c 20)), (1, .ref (a 0)), (0, .ref b)] [.int (op_odds ((xs (i + 1))) ((xs (i + 2))) ((xs (i + 3))) μ).1] 1025
  refine V.aload_n (pc := 1025) 1 hC dL_law_1025 rfl ?_
  refine V.aload_n (pc := 1026) 3 hC dL_law_1026 rfl ?_
  refine V.iload_n (pc := 1027) 0 hC dL_law_1027 rfl ?_
  refine V.iconst (pc := 1028) 1 hC dL_law_1028 (by decide) ?_
  refine V.iadd (pc := 1029) hC dL_law_1029 ?_
  refine V.sld (pc := 1030) (i + 1) hC hX (nadd rfl (nl 1)) (by omega) hL dL_law_1030 ?_
  refine V.aload_n (pc := 1031) 3 hC dL_law_1031 rfl ?_
  refine V.iload_n (pc := 1032) 0 hC dL_law_1032 rfl ?_
  refine V.iconst (pc := 1033) 2 hC dL_law_1033 (by decide) ?_
  refine V.iadd (pc := 1034) hC dL_law_1034 ?_
  refine V.sld (pc := 1035) (i + 2) hC hX (nadd rfl (nl 2)) (by omega) hL dL_law_1035 ?_
  refine V.aload_n (pc := 1036) 3 hC dL_law_1036 rfl ?_
  refine V.iload_n (pc := 1037) 0 hC dL_law_1037 rfl ?_
  refine V.iconst (pc := 1038) 3 hC dL_law_1038 (by decide) ?_
  refine V.iadd (pc := 1039) hC dL_law_1039 ?_
  refine V.sld (pc := 1040) (i + 3) hC hX (nadd rfl (nl 3)) (by omega) hL dL_law_1040 ?_
  refine V.callR (pc := 1041) (as := [.int (xs (i + 1)), .int (xs (i + 2)), .int (xs (i + 3))]) (rest := [.int (op_odds ((xs (i + 1))) ((xs (i + 2))) ((xs (i + 3))) μ).1]) hC (c_X7_odds μ ν2 ((xs (i + 1))) ((xs (i + 2))) ((xs (i + 3))) hRQ.inv) mu_X7_odds ml_L_120 ⟨by omega, by omega⟩ ⟨0, 7, TX7, 20, _, rfl, gm_0⟩ rfl (Nat.le_of_ble_eq_true rfl) dL_law_1041 ?_
  rintro _ uu ⟨rfl, hu⟩
  refine V.icmp_eq (pc := 1044) 1441 hC dL_law_1044 (by decide) (fun _ => ?_) (fun h => absurd rfl h)
  exact kk σ1 ν1 _ _ (by rw [hu]; exact hRQ1)
set_option maxHeartbeats 1000000 in
set_option maxRecDepth 20000 in
theorem law_c25 {X : Cx} {l : Launch} {D : va_G} {k : Nat → ClassId} {g : Nat → Nat} {fr lo b L : Nat} {xs : Nat → Int32} {a c : Nat → Nat} (hC : Ok X l D k g cL_law RL 4 fr lo) (hX : Scr X b L xs) (hfr : 100 ≤ fr) (hlo : 2000 ≤ lo) (hL : L ≤ 3072) {i : Nat} (hi : i + 6 ≤ L) {σ μ ν ν2 : St} (hRQ : RQ σ μ) (kk : ∀ σ ν μ ν2 : St, RQ σ μ → V X (wX k g a σ ν ++ wM k c μ ν2) [(3, .int (nI i)), (2, .ref (c 20)), (1, .ref (a 0)), (0, .ref b)] [] 1441) : V X (wX k g a σ ν ++ wM k c μ ν2) [(3, .int (nI i)), (2, .ref (c 20)), (1, .ref (a 0)), (0, .ref b)] [] 1049 := by
  refine V.aload_n (pc := 1049) 2 hC dL_law_1049 rfl ?_
  refine V.aload_n (pc := 1050) 3 hC dL_law_1050 rfl ?_
  refine V.iload_n (pc := 1051) 0 hC dL_law_1051 rfl ?_
  refine V.iconst (pc := 1052) 1 hC dL_law_1052 (by decide) ?_
  refine V.iadd (pc := 1053) hC dL_law_1053 ?_
  refine V.sld (pc := 1054) (i + 1) hC hX (nadd rfl (nl 1)) (by omega) hL dL_law_1054 ?_
  refine V.callL (pc := 1055) (as := [.int (xs (i + 1))]) (rest := []) hC (c_X6_fits σ ν μ ((xs (i + 1))) hRQ) mu_X6_fits ml_L_121 ⟨by omega, by omega⟩ ⟨0, 6, TX6, 8, _, rfl, gx_0⟩ rfl (Nat.le_of_ble_eq_true rfl) dL_law_1055 ?_
  rintro _ ⟨σ1, ν1⟩ ⟨rfl, hRQ1⟩
  show V X (wX k g a σ1 ν1 ++ wM k c μ ν2) [(3, .int (nI i)), (2, .ref (c 20)), (1, .ref (a 0)), (0, .ref b)] [.int (op_fits ((xs (i + 1))) μ).1] 1058
  refine V.aload_n (pc := 1058) 1 hC dL_law_1058 rfl ?_
  refine V.aload_n (pc := 1059) 3 hC dL_law_1059 rfl ?_
  refine V.iload_n (pc := 1060) 0 hC dL_law_1060 rfl ?_
  refine V.iconst (pc := 1061) 1 hC dL_law_1061 (by decide) ?_
  refine V.iadd (pc := 1062) hC dL_law_1062 ?_
  refine V.sld (pc := 1063) (i + 1) hC hX (nadd rfl (nl 1)) (by omega) hL dL_law_1063 ?_
  refine V.callR (pc := 1064) (as := [.int (xs (i + 1))]) (rest := [.int (op_fits ((xs (i + 1))) μ).1]) hC (c_X7_fits μ ν2 ((xs (i + 1))) hRQ.inv hRQ.shs) mu_X7_fits ml_L_124 ⟨by omega, by omega⟩ ⟨0, 7, TX7, 20, _, rfl, gm_0⟩ rfl (Nat.le_of_ble_eq_true rfl) dL_law_1064 ?_
  rintro _ uu ⟨rfl, hu⟩
  refine V.icmp_eq (pc := 1067) 1441 hC dL_law_1067 (by decide) (fun _ => ?_) (fun h => absurd rfl h)
  exact kk σ1 ν1 _ _ (by rw [hu]; exact hRQ1)
set_option maxHeartbeats 1000000 in
set_option maxRecDepth 20000 in
theorem law_c26 {X : Cx} {l : Launch} {D : va_G} {k : Nat → ClassId} {g : Nat → Nat} {fr lo b L : Nat} {xs : Nat → Int32} {a c : Nat → Nat} (hC : Ok X l D k g cL_law RL 4 fr lo) (hX : Scr X b L xs) (hfr : 100 ≤ fr) (hlo : 2000 ≤ lo) (hL : L ≤ 3072) {i : Nat} (hi : i + 6 ≤ L) {σ μ ν ν2 : St} (hRQ : RQ σ μ) (kk : ∀ σ ν μ ν2 : St, RQ σ μ → V X (wX k g a σ ν ++ wM k c μ ν2) [(3, .int (nI i)), (2, .ref (c 20)), (1, .ref (a 0)), (0, .ref b)] [] 1441) : V X (wX k g a σ ν ++ wM k c μ ν2) [(3, .int (nI i)), (2, .ref (c 20)), (1, .ref (a 0)), (0, .ref b)] [] 1072 := by
  refine V.aload_n (pc := 1072) 2 hC dL_law_1072 rfl ?_
  refine V.aload_n (pc := 1073) 3 hC dL_law_1073 rfl ?_
  refine V.iload_n (pc := 1074) 0 hC dL_law_1074 rfl ?_
  refine V.iconst (pc := 1075) 1 hC dL_law_1075 (by decide) ?_
  refine V.iadd (pc := 1076) hC dL_law_1076 ?_
  refine V.sld (pc := 1077) (i + 1) hC hX (nadd rfl (nl 1)) (by omega) hL dL_law_1077 ?_
  refine V.aload_n (pc := 1078) 3 hC dL_law_1078 rfl ?_
  refine V.iload_n (pc := 1079) 0 hC dL_law_1079 rfl ?_
  refine V.iconst (pc := 1080) 2 hC dL_law_1080 (by decide) ?_
  refine V.iadd (pc := 1081) hC dL_law_1081 ?_
  refine V.sld (pc := 1082) (i + 2) hC hX (nadd rfl (nl 2)) (by omega) hL dL_law_1082 ?_
  refine V.aload_n (pc := 1083) 3 hC dL_law_1083 rfl ?_
  refine V.iload_n (pc := 1084) 0 hC dL_law_1084 rfl ?_
  refine V.iconst (pc := 1085) 3 hC dL_law_1085 (by decide) ?_
  refine V.iadd (pc := 1086) hC dL_law_1086 ?_
  refine V.sld (pc := 1087) (i + 3) hC hX (nadd rfl (nl 3)) (by omega) hL dL_law_1087 ?_
  refine V.callL (pc := 1088) (as := [.int (xs (i + 1)), .int (xs (i + 2)), .int (xs (i + 3))]) (rest := []) hC (c_X6_voice σ ν μ ((xs (i + 1))) ((xs (i + 2))) ((xs (i + 3))) hRQ) mu_X6_voice ml_L_125 ⟨by omega, by omega⟩ ⟨0, 6, TX6, 8, _, rfl, gx_0⟩ rfl (Nat.le_of_ble_eq_true rfl) dL_law_1088 ?_
  rintro _ ⟨σ1, ν1⟩ ⟨rfl, hRQ1⟩
  show V X (wX k g a σ1 ν1 ++ wM k c μ ν2) [(3, .int (nI i)), (2, .ref (c 20)), (1, .ref (a 0)), (0, .ref b)] [.int (op_voice ((xs (i + 1))) ((xs (i + 2))) ((xs (i + 3))) μ).1] 1091
  refine V.aload_n (pc := 1091) 1 hC dL_law_1091 rfl ?_
  refine V.aload_n (pc := 1092) 3 hC dL_law_1092 rfl ?_
  refine V.iload_n (pc := 1093) 0 hC dL_law_1093 rfl ?_
  refine V.iconst (pc := 1094) 1 hC dL_law_1094 (by decide) ?_
  refine V.iadd (pc := 1095) hC dL_law_1095 ?_
  refine V.sld (pc := 1096) (i + 1) hC hX (nadd rfl (nl 1)) (by omega) hL dL_law_1096 ?_
  refine V.aload_n (pc := 1097) 3 hC dL_law_1097 rfl ?_
  refine V.iload_n (pc := 1098) 0 hC dL_law_1098 rfl ?_
  refine V.iconst (pc := 1099) 2 hC dL_law_1099 (by decide) ?_
  refine V.iadd (pc := 1100) hC dL_law_1100 ?_
  refine V.sld (pc := 1101) (i + 2) hC hX (nadd rfl (nl 2)) (by omega) hL dL_law_1101 ?_
  refine V.aload_n (pc := 1102) 3 hC dL_law_1102 rfl ?_
  refine V.iload_n (pc := 1103) 0 hC dL_law_1103 rfl ?_
  refine V.iconst (pc := 1104) 3 hC dL_law_1104 (by decide) ?_
  refine V.iadd (pc := 1105) hC dL_law_1105 ?_
  refine V.sld (pc := 1106) (i + 3) hC hX (nadd rfl (nl 3)) (by omega) hL dL_law_1106 ?_
  refine V.callR (pc := 1107) (as := [.int (xs (i + 1)), .int (xs (i + 2)), .int (xs (i + 3))]) (rest := [.int (op_voice ((xs (i + 1))) ((xs (i + 2))) ((xs (i + 3))) μ).1]) hC (c_X7_voice μ ν2 ((xs (i + 1))) ((xs (i + 2))) ((xs (i + 3))) hRQ.inv) mu_X7_voice ml_L_128 ⟨by omega, by omega⟩ ⟨0, 7, TX7, 20, _, rfl, gm_0⟩ rfl (Nat.le_of_ble_eq_true rfl) dL_law_1107 ?_
  rintro _ uu ⟨rfl, hu⟩
  refine V.icmp_eq (pc := 1110) 1441 hC dL_law_1110 (by decide) (fun _ => ?_) (fun h => absurd rfl h)
  exact kk σ1 ν1 _ _ (by rw [hu]; exact hRQ1)
set_option maxHeartbeats 1000000 in
set_option maxRecDepth 20000 in
theorem law_c27 {X : Cx} {l : Launch} {D : va_G} {k : Nat → ClassId} {g : Nat → Nat} {fr lo b L : Nat} {xs : Nat → Int32} {a c : Nat → Nat} (hC : Ok X l D k g cL_law RL 4 fr lo) (hX : Scr X b L xs) (hfr : 100 ≤ fr) (hlo : 2000 ≤ lo) (hL : L ≤ 3072) {i : Nat} (hi : i + 6 ≤ L) {σ μ ν ν2 : St} (hRQ : RQ σ μ) (kk : ∀ σ ν μ ν2 : St, RQ σ μ → V X (wX k g a σ ν ++ wM k c μ ν2) [(3, .int (nI i)), (2, .ref (c 20)), (1, .ref (a 0)), (0, .ref b)] [] 1441) : V X (wX k g a σ ν ++ wM k c μ ν2) [(3, .int (nI i)), (2, .ref (c 20)), (1, .ref (a 0)), (0, .ref b)] [] 1115 := by
  refine V.aload_n (pc := 1115) 2 hC dL_law_1115 rfl ?_
  refine V.aload_n (pc := 1116) 3 hC dL_law_1116 rfl ?_
  refine V.iload_n (pc := 1117) 0 hC dL_law_1117 rfl ?_
  refine V.iconst (pc := 1118) 1 hC dL_law_1118 (by decide) ?_
  refine V.iadd (pc := 1119) hC dL_law_1119 ?_
  refine V.sld (pc := 1120) (i + 1) hC hX (nadd rfl (nl 1)) (by omega) hL dL_law_1120 ?_
  refine V.callL (pc := 1121) (as := [.int (xs (i + 1))]) (rest := []) hC (c_X6_body σ ν μ ((xs (i + 1))) hRQ) mu_X6_body ml_L_129 ⟨by omega, by omega⟩ ⟨0, 6, TX6, 8, _, rfl, gx_0⟩ rfl (Nat.le_of_ble_eq_true rfl) dL_law_1121 ?_
  rintro _ ⟨σ1, ν1⟩ ⟨rfl, hRQ1⟩
  show V X (wX k g a σ1 ν1 ++ wM k c μ ν2) [(3, .int (nI i)), (2, .ref (c 20)), (1, .ref (a 0)), (0, .ref b)] [.int (op_body ((xs (i + 1))) μ).1] 1124
  refine V.aload_n (pc := 1124) 1 hC dL_law_1124 rfl ?_
  refine V.aload_n (pc := 1125) 3 hC dL_law_1125 rfl ?_
  refine V.iload_n (pc := 1126) 0 hC dL_law_1126 rfl ?_
  refine V.iconst (pc := 1127) 1 hC dL_law_1127 (by decide) ?_
  refine V.iadd (pc := 1128) hC dL_law_1128 ?_
  refine V.sld (pc := 1129) (i + 1) hC hX (nadd rfl (nl 1)) (by omega) hL dL_law_1129 ?_
  refine V.callR (pc := 1130) (as := [.int (xs (i + 1))]) (rest := [.int (op_body ((xs (i + 1))) μ).1]) hC (c_X7_body μ ν2 ((xs (i + 1))) hRQ.inv hRQ.trc) mu_X7_body ml_L_132 ⟨by omega, by omega⟩ ⟨0, 7, TX7, 20, _, rfl, gm_0⟩ rfl (Nat.le_of_ble_eq_true rfl) dL_law_1130 ?_
  rintro _ uu ⟨rfl, hu⟩
  refine V.icmp_eq (pc := 1133) 1441 hC dL_law_1133 (by decide) (fun _ => ?_) (fun h => absurd rfl h)
  exact kk σ1 ν1 _ _ (by rw [hu]; exact hRQ1)
set_option maxHeartbeats 1000000 in
set_option maxRecDepth 20000 in
theorem law_c28 {X : Cx} {l : Launch} {D : va_G} {k : Nat → ClassId} {g : Nat → Nat} {fr lo b L : Nat} {xs : Nat → Int32} {a c : Nat → Nat} (hC : Ok X l D k g cL_law RL 4 fr lo) (hX : Scr X b L xs) (hfr : 100 ≤ fr) (hlo : 2000 ≤ lo) (hL : L ≤ 3072) {i : Nat} (hi : i + 6 ≤ L) {σ μ ν ν2 : St} (hRQ : RQ σ μ) (kk : ∀ σ ν μ ν2 : St, RQ σ μ → V X (wX k g a σ ν ++ wM k c μ ν2) [(3, .int (nI i)), (2, .ref (c 20)), (1, .ref (a 0)), (0, .ref b)] [] 1441) : V X (wX k g a σ ν ++ wM k c μ ν2) [(3, .int (nI i)), (2, .ref (c 20)), (1, .ref (a 0)), (0, .ref b)] [] 1138 := by
  refine V.aload_n (pc := 1138) 2 hC dL_law_1138 rfl ?_
  refine V.aload_n (pc := 1139) 3 hC dL_law_1139 rfl ?_
  refine V.iload_n (pc := 1140) 0 hC dL_law_1140 rfl ?_
  refine V.iconst (pc := 1141) 1 hC dL_law_1141 (by decide) ?_
  refine V.iadd (pc := 1142) hC dL_law_1142 ?_
  refine V.sld (pc := 1143) (i + 1) hC hX (nadd rfl (nl 1)) (by omega) hL dL_law_1143 ?_
  refine V.aload_n (pc := 1144) 3 hC dL_law_1144 rfl ?_
  refine V.iload_n (pc := 1145) 0 hC dL_law_1145 rfl ?_
  refine V.iconst (pc := 1146) 2 hC dL_law_1146 (by decide) ?_
  refine V.iadd (pc := 1147) hC dL_law_1147 ?_
  refine V.sld (pc := 1148) (i + 2) hC hX (nadd rfl (nl 2)) (by omega) hL dL_law_1148 ?_
  refine V.aload_n (pc := 1149) 3 hC dL_law_1149 rfl ?_
  refine V.iload_n (pc := 1150) 0 hC dL_law_1150 rfl ?_
  refine V.iconst (pc := 1151) 3 hC dL_law_1151 (by decide) ?_
  refine V.iadd (pc := 1152) hC dL_law_1152 ?_
  refine V.sld (pc := 1153) (i + 3) hC hX (nadd rfl (nl 3)) (by omega) hL dL_law_1153 ?_
  refine V.callL (pc := 1154) (as := [.int (xs (i + 1)), .int (xs (i + 2)), .int (xs (i + 3))]) (rest := []) hC (c_X6_sheet σ ν μ ((xs (i + 1))) ((xs (i + 2))) ((xs (i + 3))) hRQ) mu_X6_sheet ml_L_133 ⟨by omega, by omega⟩ ⟨0, 6, TX6, 8, _, rfl, gx_0⟩ rfl (Nat.le_of_ble_eq_true rfl) dL_law_1154 ?_
  rintro _ ⟨σ1, ν1⟩ ⟨rfl, hRQ1⟩
  show V X (wX k g a σ1 ν1 ++ wM k c μ ν2) [(3, .int (nI i)), (2, .ref (c 20)), (1, .ref (a 0)), (0, .ref b)] [.int (op_sheet ((xs (i + 1))) ((xs (i + 2))) ((xs (i + 3))) μ).1] 1157
  refine V.aload_n (pc := 1157) 1 hC dL_law_1157 rfl ?_
  refine V.aload_n (pc := 1158) 3 hC dL_law_1158 rfl ?_
  refine V.iload_n (pc := 1159) 0 hC dL_law_1159 rfl ?_
  refine V.iconst (pc := 1160) 1 hC dL_law_1160 (by decide) ?_
  refine V.iadd (pc := 1161) hC dL_law_1161 ?_
  refine V.sld (pc := 1162) (i + 1) hC hX (nadd rfl (nl 1)) (by omega) hL dL_law_1162 ?_
  refine V.aload_n (pc := 1163) 3 hC dL_law_1163 rfl ?_
  refine V.iload_n (pc := 1164) 0 hC dL_law_1164 rfl ?_
  refine V.iconst (pc := 1165) 2 hC dL_law_1165 (by decide) ?_
  refine V.iadd (pc := 1166) hC dL_law_1166 ?_
  refine V.sld (pc := 1167) (i + 2) hC hX (nadd rfl (nl 2)) (by omega) hL dL_law_1167 ?_
  refine V.aload_n (pc := 1168) 3 hC dL_law_1168 rfl ?_
  refine V.iload_n (pc := 1169) 0 hC dL_law_1169 rfl ?_
  refine V.iconst (pc := 1170) 3 hC dL_law_1170 (by decide) ?_
  refine V.iadd (pc := 1171) hC dL_law_1171 ?_
  refine V.sld (pc := 1172) (i + 3) hC hX (nadd rfl (nl 3)) (by omega) hL dL_law_1172 ?_
  refine V.callR (pc := 1173) (as := [.int (xs (i + 1)), .int (xs (i + 2)), .int (xs (i + 3))]) (rest := [.int (op_sheet ((xs (i + 1))) ((xs (i + 2))) ((xs (i + 3))) μ).1]) hC (c_X7_sheet μ ν2 ((xs (i + 1))) ((xs (i + 2))) ((xs (i + 3))) hRQ.inv) mu_X7_sheet ml_L_136 ⟨by omega, by omega⟩ ⟨0, 7, TX7, 20, _, rfl, gm_0⟩ rfl (Nat.le_of_ble_eq_true rfl) dL_law_1173 ?_
  rintro _ uu ⟨rfl, hu⟩
  refine V.icmp_eq (pc := 1176) 1441 hC dL_law_1176 (by decide) (fun _ => ?_) (fun h => absurd rfl h)
  exact kk σ1 ν1 _ _ (by rw [hu]; exact hRQ1)
set_option maxHeartbeats 1000000 in
set_option maxRecDepth 20000 in
theorem law_c29 {X : Cx} {l : Launch} {D : va_G} {k : Nat → ClassId} {g : Nat → Nat} {fr lo b L : Nat} {xs : Nat → Int32} {a c : Nat → Nat} (hC : Ok X l D k g cL_law RL 4 fr lo) (hX : Scr X b L xs) (hfr : 100 ≤ fr) (hlo : 2000 ≤ lo) (hL : L ≤ 3072) {i : Nat} (hi : i + 6 ≤ L) {σ μ ν ν2 : St} (hRQ : RQ σ μ) (kk : ∀ σ ν μ ν2 : St, RQ σ μ → V X (wX k g a σ ν ++ wM k c μ ν2) [(3, .int (nI i)), (2, .ref (c 20)), (1, .ref (a 0)), (0, .ref b)] [] 1441) : V X (wX k g a σ ν ++ wM k c μ ν2) [(3, .int (nI i)), (2, .ref (c 20)), (1, .ref (a 0)), (0, .ref b)] [] 1181 := by
  refine V.aload_n (pc := 1181) 2 hC dL_law_1181 rfl ?_
  refine V.aload_n (pc := 1182) 3 hC dL_law_1182 rfl ?_
  refine V.iload_n (pc := 1183) 0 hC dL_law_1183 rfl ?_
  refine V.iconst (pc := 1184) 1 hC dL_law_1184 (by decide) ?_
  refine V.iadd (pc := 1185) hC dL_law_1185 ?_
  refine V.sld (pc := 1186) (i + 1) hC hX (nadd rfl (nl 1)) (by omega) hL dL_law_1186 ?_
  refine V.aload_n (pc := 1187) 3 hC dL_law_1187 rfl ?_
  refine V.iload_n (pc := 1188) 0 hC dL_law_1188 rfl ?_
  refine V.iconst (pc := 1189) 2 hC dL_law_1189 (by decide) ?_
  refine V.iadd (pc := 1190) hC dL_law_1190 ?_
  refine V.sld (pc := 1191) (i + 2) hC hX (nadd rfl (nl 2)) (by omega) hL dL_law_1191 ?_
  refine V.aload_n (pc := 1192) 3 hC dL_law_1192 rfl ?_
  refine V.iload_n (pc := 1193) 0 hC dL_law_1193 rfl ?_
  refine V.iconst (pc := 1194) 3 hC dL_law_1194 (by decide) ?_
  refine V.iadd (pc := 1195) hC dL_law_1195 ?_
  refine V.sld (pc := 1196) (i + 3) hC hX (nadd rfl (nl 3)) (by omega) hL dL_law_1196 ?_
  refine V.callL (pc := 1197) (as := [.int (xs (i + 1)), .int (xs (i + 2)), .int (xs (i + 3))]) (rest := []) hC (c_X6_put σ ν μ ((xs (i + 1))) ((xs (i + 2))) ((xs (i + 3))) hRQ) mu_X6_put ml_L_137 ⟨by omega, by omega⟩ ⟨0, 6, TX6, 8, _, rfl, gx_0⟩ rfl (Nat.le_of_ble_eq_true rfl) dL_law_1197 ?_
  rintro _ ⟨σ1, ν1⟩ ⟨rfl, hRQ1⟩
  show V X (wX k g a σ1 ν1 ++ wM k c μ ν2) [(3, .int (nI i)), (2, .ref (c 20)), (1, .ref (a 0)), (0, .ref b)] [.int (op_put ((xs (i + 1))) ((xs (i + 2))) ((xs (i + 3))) μ).1] 1200
  refine V.aload_n (pc := 1200) 1 hC dL_law_1200 rfl ?_
  refine V.aload_n (pc := 1201) 3 hC dL_law_1201 rfl ?_
  refine V.iload_n (pc := 1202) 0 hC dL_law_1202 rfl ?_
  refine V.iconst (pc := 1203) 1 hC dL_law_1203 (by decide) ?_
  refine V.iadd (pc := 1204) hC dL_law_1204 ?_
  refine V.sld (pc := 1205) (i + 1) hC hX (nadd rfl (nl 1)) (by omega) hL dL_law_1205 ?_
  refine V.aload_n (pc := 1206) 3 hC dL_law_1206 rfl ?_
  refine V.iload_n (pc := 1207) 0 hC dL_law_1207 rfl ?_
  refine V.iconst (pc := 1208) 2 hC dL_law_1208 (by decide) ?_
  refine V.iadd (pc := 1209) hC dL_law_1209 ?_
  refine V.sld (pc := 1210) (i + 2) hC hX (nadd rfl (nl 2)) (by omega) hL dL_law_1210 ?_
  refine V.aload_n (pc := 1211) 3 hC dL_law_1211 rfl ?_
  refine V.iload_n (pc := 1212) 0 hC dL_law_1212 rfl ?_
  refine V.iconst (pc := 1213) 3 hC dL_law_1213 (by decide) ?_
  refine V.iadd (pc := 1214) hC dL_law_1214 ?_
  refine V.sld (pc := 1215) (i + 3) hC hX (nadd rfl (nl 3)) (by omega) hL dL_law_1215 ?_
  refine V.callR (pc := 1216) (as := [.int (xs (i + 1)), .int (xs (i + 2)), .int (xs (i + 3))]) (rest := [.int (op_put ((xs (i + 1))) ((xs (i + 2))) ((xs (i + 3))) μ).1]) hC (c_X7_put μ ν2 ((xs (i + 1))) ((xs (i + 2))) ((xs (i + 3))) hRQ.inv hRQ.shs) mu_X7_put ml_L_140 ⟨by omega, by omega⟩ ⟨0, 7, TX7, 20, _, rfl, gm_0⟩ rfl (Nat.le_of_ble_eq_true rfl) dL_law_1216 ?_
  rintro _ uu ⟨rfl, hu⟩
  refine V.icmp_eq (pc := 1219) 1441 hC dL_law_1219 (by decide) (fun _ => ?_) (fun h => absurd rfl h)
  exact kk σ1 ν1 _ _ (by rw [hu]; exact hRQ1)
set_option maxHeartbeats 1000000 in
set_option maxRecDepth 20000 in
theorem law_c30 {X : Cx} {l : Launch} {D : va_G} {k : Nat → ClassId} {g : Nat → Nat} {fr lo b L : Nat} {xs : Nat → Int32} {a c : Nat → Nat} (hC : Ok X l D k g cL_law RL 4 fr lo) (hX : Scr X b L xs) (hfr : 100 ≤ fr) (hlo : 2000 ≤ lo) (hL : L ≤ 3072) {i : Nat} (hi : i + 6 ≤ L) {σ μ ν ν2 : St} (hRQ : RQ σ μ) (kk : ∀ σ ν μ ν2 : St, RQ σ μ → V X (wX k g a σ ν ++ wM k c μ ν2) [(3, .int (nI i)), (2, .ref (c 20)), (1, .ref (a 0)), (0, .ref b)] [] 1441) : V X (wX k g a σ ν ++ wM k c μ ν2) [(3, .int (nI i)), (2, .ref (c 20)), (1, .ref (a 0)), (0, .ref b)] [] 1224 := by
  refine V.aload_n (pc := 1224) 2 hC dL_law_1224 rfl ?_
  refine V.aload_n (pc := 1225) 3 hC dL_law_1225 rfl ?_
  refine V.iload_n (pc := 1226) 0 hC dL_law_1226 rfl ?_
  refine V.iconst (pc := 1227) 1 hC dL_law_1227 (by decide) ?_
  refine V.iadd (pc := 1228) hC dL_law_1228 ?_
  refine V.sld (pc := 1229) (i + 1) hC hX (nadd rfl (nl 1)) (by omega) hL dL_law_1229 ?_
  refine V.aload_n (pc := 1230) 3 hC dL_law_1230 rfl ?_
  refine V.iload_n (pc := 1231) 0 hC dL_law_1231 rfl ?_
  refine V.iconst (pc := 1232) 2 hC dL_law_1232 (by decide) ?_
  refine V.iadd (pc := 1233) hC dL_law_1233 ?_
  refine V.sld (pc := 1234) (i + 2) hC hX (nadd rfl (nl 2)) (by omega) hL dL_law_1234 ?_
  refine V.aload_n (pc := 1235) 3 hC dL_law_1235 rfl ?_
  refine V.iload_n (pc := 1236) 0 hC dL_law_1236 rfl ?_
  refine V.iconst (pc := 1237) 3 hC dL_law_1237 (by decide) ?_
  refine V.iadd (pc := 1238) hC dL_law_1238 ?_
  refine V.sld (pc := 1239) (i + 3) hC hX (nadd rfl (nl 3)) (by omega) hL dL_law_1239 ?_
  refine V.aload_n (pc := 1240) 3 hC dL_law_1240 rfl ?_
  refine V.iload_n (pc := 1241) 0 hC dL_law_1241 rfl ?_
  refine V.iconst (pc := 1242) 4 hC dL_law_1242 (by decide) ?_
  refine V.iadd (pc := 1243) hC dL_law_1243 ?_
  refine V.sld (pc := 1244) (i + 4) hC hX (nadd rfl (nl 4)) (by omega) hL dL_law_1244 ?_
  refine V.aload_n (pc := 1245) 3 hC dL_law_1245 rfl ?_
  refine V.iload_n (pc := 1246) 0 hC dL_law_1246 rfl ?_
  refine V.iconst (pc := 1247) 5 hC dL_law_1247 (by decide) ?_
  refine V.iadd (pc := 1248) hC dL_law_1248 ?_
  refine V.sld (pc := 1249) (i + 5) hC hX (nadd rfl (nl 5)) (by omega) hL dL_law_1249 ?_
  refine V.callL (pc := 1250) (as := [.int (xs (i + 1)), .int (xs (i + 2)), .int (xs (i + 3)), .int (xs (i + 4)), .int (xs (i + 5))]) (rest := []) hC (c_X6_move σ ν μ ((xs (i + 1))) ((xs (i + 2))) ((xs (i + 3))) ((xs (i + 4))) ((xs (i + 5))) hRQ) mu_X6_move ml_L_141 ⟨by omega, by omega⟩ ⟨0, 6, TX6, 8, _, rfl, gx_0⟩ rfl (Nat.le_of_ble_eq_true rfl) dL_law_1250 ?_
  rintro _ ⟨σ1, ν1⟩ ⟨rfl, hRQ1⟩
  show V X (wX k g a σ1 ν1 ++ wM k c μ ν2) [(3, .int (nI i)), (2, .ref (c 20)), (1, .ref (a 0)), (0, .ref b)] [.int (op_move ((xs (i + 1))) ((xs (i + 2))) ((xs (i + 3))) ((xs (i + 4))) ((xs (i + 5))) μ).1] 1253
  refine V.aload_n (pc := 1253) 1 hC dL_law_1253 rfl ?_
  refine V.aload_n (pc := 1254) 3 hC dL_law_1254 rfl ?_
  refine V.iload_n (pc := 1255) 0 hC dL_law_1255 rfl ?_
  refine V.iconst (pc := 1256) 1 hC dL_law_1256 (by decide) ?_
  refine V.iadd (pc := 1257) hC dL_law_1257 ?_
  refine V.sld (pc := 1258) (i + 1) hC hX (nadd rfl (nl 1)) (by omega) hL dL_law_1258 ?_
  refine V.aload_n (pc := 1259) 3 hC dL_law_1259 rfl ?_
  refine V.iload_n (pc := 1260) 0 hC dL_law_1260 rfl ?_
  refine V.iconst (pc := 1261) 2 hC dL_law_1261 (by decide) ?_
  refine V.iadd (pc := 1262) hC dL_law_1262 ?_
  refine V.sld (pc := 1263) (i + 2) hC hX (nadd rfl (nl 2)) (by omega) hL dL_law_1263 ?_
  refine V.aload_n (pc := 1264) 3 hC dL_law_1264 rfl ?_
  refine V.iload_n (pc := 1265) 0 hC dL_law_1265 rfl ?_
  refine V.iconst (pc := 1266) 3 hC dL_law_1266 (by decide) ?_
  refine V.iadd (pc := 1267) hC dL_law_1267 ?_
  refine V.sld (pc := 1268) (i + 3) hC hX (nadd rfl (nl 3)) (by omega) hL dL_law_1268 ?_
  refine V.aload_n (pc := 1269) 3 hC dL_law_1269 rfl ?_
  refine V.iload_n (pc := 1270) 0 hC dL_law_1270 rfl ?_
  refine V.iconst (pc := 1271) 4 hC dL_law_1271 (by decide) ?_
  refine V.iadd (pc := 1272) hC dL_law_1272 ?_
  refine V.sld (pc := 1273) (i + 4) hC hX (nadd rfl (nl 4)) (by omega) hL dL_law_1273 ?_
  refine V.aload_n (pc := 1274) 3 hC dL_law_1274 rfl ?_
  refine V.iload_n (pc := 1275) 0 hC dL_law_1275 rfl ?_
  refine V.iconst (pc := 1276) 5 hC dL_law_1276 (by decide) ?_
  refine V.iadd (pc := 1277) hC dL_law_1277 ?_
  refine V.sld (pc := 1278) (i + 5) hC hX (nadd rfl (nl 5)) (by omega) hL dL_law_1278 ?_
  refine V.callR (pc := 1279) (as := [.int (xs (i + 1)), .int (xs (i + 2)), .int (xs (i + 3)), .int (xs (i + 4)), .int (xs (i + 5))]) (rest := [.int (op_move ((xs (i + 1))) ((xs (i + 2))) ((xs (i + 3))) ((xs (i + 4))) ((xs (i + 5))) μ).1]) hC (c_X7_move μ ν2 ((xs (i + 1))) ((xs (i + 2))) ((xs (i + 3))) ((xs (i + 4))) ((xs (i + 5))) hRQ.inv hRQ.shs) mu_X7_move ml_L_145 ⟨by omega, by omega⟩ ⟨0, 7, TX7, 20, _, rfl, gm_0⟩ rfl (Nat.le_of_ble_eq_true rfl) dL_law_1279 ?_
  rintro _ uu ⟨rfl, hu⟩
  refine V.icmp_eq (pc := 1282) 1441 hC dL_law_1282 (by decide) (fun _ => ?_) (fun h => absurd rfl h)
  exact kk σ1 ν1 _ _ (by rw [hu]; exact hRQ1)
set_option maxHeartbeats 1000000 in
set_option maxRecDepth 20000 in
theorem law_c31 {X : Cx} {l : Launch} {D : va_G} {k : Nat → ClassId} {g : Nat → Nat} {fr lo b L : Nat} {xs : Nat → Int32} {a c : Nat → Nat} (hC : Ok X l D k g cL_law RL 4 fr lo) (hX : Scr X b L xs) (hfr : 100 ≤ fr) (hlo : 2000 ≤ lo) (hL : L ≤ 3072) {i : Nat} (hi : i + 6 ≤ L) {σ μ ν ν2 : St} (hRQ : RQ σ μ) (kk : ∀ σ ν μ ν2 : St, RQ σ μ → V X (wX k g a σ ν ++ wM k c μ ν2) [(3, .int (nI i)), (2, .ref (c 20)), (1, .ref (a 0)), (0, .ref b)] [] 1441) : V X (wX k g a σ ν ++ wM k c μ ν2) [(3, .int (nI i)), (2, .ref (c 20)), (1, .ref (a 0)), (0, .ref b)] [] 1287 := by
  refine V.aload_n (pc := 1287) 2 hC dL_law_1287 rfl ?_
  refine V.aload_n (pc := 1288) 3 hC dL_law_1288 rfl ?_
  refine V.iload_n (pc := 1289) 0 hC dL_law_1289 rfl ?_
  refine V.iconst (pc := 1290) 1 hC dL_law_1290 (by decide) ?_
  refine V.iadd (pc := 1291) hC dL_law_1291 ?_
  refine V.sld (pc := 1292) (i + 1) hC hX (nadd rfl (nl 1)) (by omega) hL dL_law_1292 ?_
  refine V.callL (pc := 1293) (as := [.int (xs (i + 1))]) (rest := []) hC (c_X6_offsets σ ν μ ((xs (i + 1))) hRQ) mu_X6_offsets ml_L_146 ⟨by omega, by omega⟩ ⟨0, 6, TX6, 8, _, rfl, gx_0⟩ rfl (Nat.le_of_ble_eq_true rfl) dL_law_1293 ?_
  rintro _ ⟨σ1, ν1⟩ ⟨rfl, hRQ1⟩
  show V X (wX k g a σ1 ν1 ++ wM k c μ ν2) [(3, .int (nI i)), (2, .ref (c 20)), (1, .ref (a 0)), (0, .ref b)] [.int (op_offsets ((xs (i + 1))) μ).1] 1296
  refine V.aload_n (pc := 1296) 1 hC dL_law_1296 rfl ?_
  refine V.aload_n (pc := 1297) 3 hC dL_law_1297 rfl ?_
  refine V.iload_n (pc := 1298) 0 hC dL_law_1298 rfl ?_
  refine V.iconst (pc := 1299) 1 hC dL_law_1299 (by decide) ?_
  refine V.iadd (pc := 1300) hC dL_law_1300 ?_
  refine V.sld (pc := 1301) (i + 1) hC hX (nadd rfl (nl 1)) (by omega) hL dL_law_1301 ?_
  refine V.callR (pc := 1302) (as := [.int (xs (i + 1))]) (rest := [.int (op_offsets ((xs (i + 1))) μ).1]) hC (c_X7_offsets μ ν2 ((xs (i + 1))) hRQ.inv hRQ.shs) mu_X7_offsets ml_L_149 ⟨by omega, by omega⟩ ⟨0, 7, TX7, 20, _, rfl, gm_0⟩ rfl (Nat.le_of_ble_eq_true rfl) dL_law_1302 ?_
  rintro _ uu ⟨rfl, hu⟩
  refine V.icmp_eq (pc := 1305) 1441 hC dL_law_1305 (by decide) (fun _ => ?_) (fun h => absurd rfl h)
  exact kk σ1 ν1 _ _ (by rw [hu]; exact hRQ1)
set_option maxHeartbeats 1000000 in
set_option maxRecDepth 20000 in
theorem law_c32 {X : Cx} {l : Launch} {D : va_G} {k : Nat → ClassId} {g : Nat → Nat} {fr lo b L : Nat} {xs : Nat → Int32} {a c : Nat → Nat} (hC : Ok X l D k g cL_law RL 4 fr lo) (hX : Scr X b L xs) (hfr : 100 ≤ fr) (hlo : 2000 ≤ lo) (hL : L ≤ 3072) {i : Nat} (hi : i + 6 ≤ L) {σ μ ν ν2 : St} (hRQ : RQ σ μ) (kk : ∀ σ ν μ ν2 : St, RQ σ μ → V X (wX k g a σ ν ++ wM k c μ ν2) [(3, .int (nI i)), (2, .ref (c 20)), (1, .ref (a 0)), (0, .ref b)] [] 1441) : V X (wX k g a σ ν ++ wM k c μ ν2) [(3, .int (nI i)), (2, .ref (c 20)), (1, .ref (a 0)), (0, .ref b)] [] 1310 := by
  refine V.aload_n (pc := 1310) 2 hC dL_law_1310 rfl ?_
  refine V.aload_n (pc := 1311) 3 hC dL_law_1311 rfl ?_
  refine V.iload_n (pc := 1312) 0 hC dL_law_1312 rfl ?_
  refine V.iconst (pc := 1313) 1 hC dL_law_1313 (by decide) ?_
  refine V.iadd (pc := 1314) hC dL_law_1314 ?_
  refine V.sld (pc := 1315) (i + 1) hC hX (nadd rfl (nl 1)) (by omega) hL dL_law_1315 ?_
  refine V.callL (pc := 1316) (as := [.int (xs (i + 1))]) (rest := []) hC (c_X6_judge σ ν μ ((xs (i + 1))) hRQ) mu_X6_judge ml_L_150 ⟨by omega, by omega⟩ ⟨0, 6, TX6, 8, _, rfl, gx_0⟩ rfl (Nat.le_of_ble_eq_true rfl) dL_law_1316 ?_
  rintro _ ⟨σ1, ν1⟩ ⟨rfl, hRQ1⟩
  show V X (wX k g a σ1 ν1 ++ wM k c μ ν2) [(3, .int (nI i)), (2, .ref (c 20)), (1, .ref (a 0)), (0, .ref b)] [.int (op_judge ((xs (i + 1))) μ).1] 1319
  refine V.aload_n (pc := 1319) 1 hC dL_law_1319 rfl ?_
  refine V.aload_n (pc := 1320) 3 hC dL_law_1320 rfl ?_
  refine V.iload_n (pc := 1321) 0 hC dL_law_1321 rfl ?_
  refine V.iconst (pc := 1322) 1 hC dL_law_1322 (by decide) ?_
  refine V.iadd (pc := 1323) hC dL_law_1323 ?_
  refine V.sld (pc := 1324) (i + 1) hC hX (nadd rfl (nl 1)) (by omega) hL dL_law_1324 ?_
  refine V.callR (pc := 1325) (as := [.int (xs (i + 1))]) (rest := [.int (op_judge ((xs (i + 1))) μ).1]) hC (c_X7_judge μ ν2 ((xs (i + 1))) hRQ.inv hRQ.shs) mu_X7_judge ml_L_153 ⟨by omega, by omega⟩ ⟨0, 7, TX7, 20, _, rfl, gm_0⟩ rfl (Nat.le_of_ble_eq_true rfl) dL_law_1325 ?_
  rintro _ uu ⟨rfl, hu⟩
  refine V.icmp_eq (pc := 1328) 1441 hC dL_law_1328 (by decide) (fun _ => ?_) (fun h => absurd rfl h)
  exact kk σ1 ν1 _ _ (by rw [hu]; exact hRQ1)
set_option maxHeartbeats 1000000 in
set_option maxRecDepth 20000 in
theorem law_c33 {X : Cx} {l : Launch} {D : va_G} {k : Nat → ClassId} {g : Nat → Nat} {fr lo b L : Nat} {xs : Nat → Int32} {a c : Nat → Nat} (hC : Ok X l D k g cL_law RL 4 fr lo) (hX : Scr X b L xs) (hfr : 100 ≤ fr) (hlo : 2000 ≤ lo) (hL : L ≤ 3072) {i : Nat} (hi : i + 6 ≤ L) {σ μ ν ν2 : St} (hRQ : RQ σ μ) (kk : ∀ σ ν μ ν2 : St, RQ σ μ → V X (wX k g a σ ν ++ wM k c μ ν2) [(3, .int (nI i)), (2, .ref (c 20)), (1, .ref (a 0)), (0, .ref b)] [] 1441) : V X (wX k g a σ ν ++ wM k c μ ν2) [(3, .int (nI i)), (2, .ref (c 20)), (1, .ref (a 0)), (0, .ref b)] [] 1333 := by
  refine V.aload_n (pc := 1333) 2 hC dL_law_1333 rfl ?_
  refine V.callL (pc := 1334) (as := []) (rest := []) hC (c_X6_image σ ν μ hRQ) mu_X6_image ml_L_154 ⟨by omega, by omega⟩ ⟨0, 6, TX6, 8, _, rfl, gx_0⟩ rfl (Nat.le_of_ble_eq_true rfl) dL_law_1334 ?_
  rintro _ ⟨σ1, ν1⟩ ⟨rfl, hRQ1⟩
  show V X (wX k g a σ1 ν1 ++ wM k c μ ν2) [(3, .int (nI i)), (2, .ref (c 20)), (1, .ref (a 0)), (0, .ref b)] [.int (op_image μ).1] 1337
  refine V.aload_n (pc := 1337) 1 hC dL_law_1337 rfl ?_
  refine V.callR (pc := 1338) (as := []) (rest := [.int (op_image μ).1]) hC (c_X7_image μ ν2 hRQ.inv) mu_X7_image ml_L_157 ⟨by omega, by omega⟩ ⟨0, 7, TX7, 20, _, rfl, gm_0⟩ rfl (Nat.le_of_ble_eq_true rfl) dL_law_1338 ?_
  rintro _ uu ⟨rfl, hu⟩
  refine V.icmp_eq (pc := 1341) 1441 hC dL_law_1341 (by decide) (fun _ => ?_) (fun h => absurd rfl h)
  exact kk σ1 ν1 _ _ (by rw [hu]; exact hRQ1)
set_option maxHeartbeats 1000000 in
set_option maxRecDepth 20000 in
theorem law_c34 {X : Cx} {l : Launch} {D : va_G} {k : Nat → ClassId} {g : Nat → Nat} {fr lo b L : Nat} {xs : Nat → Int32} {a c : Nat → Nat} (hC : Ok X l D k g cL_law RL 4 fr lo) (hX : Scr X b L xs) (hfr : 100 ≤ fr) (hlo : 2000 ≤ lo) (hL : L ≤ 3072) {i : Nat} (hi : i + 6 ≤ L) {σ μ ν ν2 : St} (hRQ : RQ σ μ) (kk : ∀ σ ν μ ν2 : St, RQ σ μ → V X (wX k g a σ ν ++ wM k c μ ν2) [(3, .int (nI i)), (2, .ref (c 20)), (1, .ref (a 0)), (0, .ref b)] [] 1441) : V X (wX k g a σ ν ++ wM k c μ ν2) [(3, .int (nI i)), (2, .ref (c 20)), (1, .ref (a 0)), (0, .ref b)] [] 1346 := by
  refine V.aload_n (pc := 1346) 2 hC dL_law_1346 rfl ?_
  refine V.callL (pc := 1347) (as := []) (rest := []) hC (c_X6_restore σ ν μ hRQ) mu_X6_restore ml_L_158 ⟨by omega, by omega⟩ ⟨0, 6, TX6, 8, _, rfl, gx_0⟩ rfl (Nat.le_of_ble_eq_true rfl) dL_law_1347 ?_
  rintro _ ⟨σ1, ν1⟩ ⟨rfl, hRQ1⟩
  show V X (wX k g a σ1 ν1 ++ wM k c μ ν2) [(3, .int (nI i)), (2, .ref (c 20)), (1, .ref (a 0)), (0, .ref b)] [.int (op_restore μ).1] 1350
  refine V.aload_n (pc := 1350) 1 hC dL_law_1350 rfl ?_
  refine V.callR (pc := 1351) (as := []) (rest := [.int (op_restore μ).1]) hC (c_X7_restore μ ν2 hRQ.inv) mu_X7_restore ml_L_161 ⟨by omega, by omega⟩ ⟨0, 7, TX7, 20, _, rfl, gm_0⟩ rfl (Nat.le_of_ble_eq_true rfl) dL_law_1351 ?_
  rintro _ uu ⟨rfl, hu⟩
  refine V.icmp_eq (pc := 1354) 1441 hC dL_law_1354 (by decide) (fun _ => ?_) (fun h => absurd rfl h)
  exact kk σ1 ν1 _ _ (by rw [hu]; exact hRQ1)
set_option maxHeartbeats 1000000 in
set_option maxRecDepth 20000 in
theorem law_c35 {X : Cx} {l : Launch} {D : va_G} {k : Nat → ClassId} {g : Nat → Nat} {fr lo b L : Nat} {xs : Nat → Int32} {a c : Nat → Nat} (hC : Ok X l D k g cL_law RL 4 fr lo) (hX : Scr X b L xs) (hfr : 100 ≤ fr) (hlo : 2000 ≤ lo) (hL : L ≤ 3072) {i : Nat} (hi : i + 6 ≤ L) {σ μ ν ν2 : St} (hRQ : RQ σ μ) (kk : ∀ σ ν μ ν2 : St, RQ σ μ → V X (wX k g a σ ν ++ wM k c μ ν2) [(3, .int (nI i)), (2, .ref (c 20)), (1, .ref (a 0)), (0, .ref b)] [] 1441) : V X (wX k g a σ ν ++ wM k c μ ν2) [(3, .int (nI i)), (2, .ref (c 20)), (1, .ref (a 0)), (0, .ref b)] [] 1359 := by
  refine V.aload_n (pc := 1359) 2 hC dL_law_1359 rfl ?_
  refine V.aload_n (pc := 1360) 3 hC dL_law_1360 rfl ?_
  refine V.iload_n (pc := 1361) 0 hC dL_law_1361 rfl ?_
  refine V.iconst (pc := 1362) 1 hC dL_law_1362 (by decide) ?_
  refine V.iadd (pc := 1363) hC dL_law_1363 ?_
  refine V.sld (pc := 1364) (i + 1) hC hX (nadd rfl (nl 1)) (by omega) hL dL_law_1364 ?_
  refine V.callL (pc := 1365) (as := [.int (xs (i + 1))]) (rest := []) hC (c_X6_tell σ ν μ ((xs (i + 1))) hRQ) mu_X6_tell ml_L_162 ⟨by omega, by omega⟩ ⟨0, 6, TX6, 8, _, rfl, gx_0⟩ rfl (Nat.le_of_ble_eq_true rfl) dL_law_1365 ?_
  rintro _ ⟨σ1, ν1⟩ ⟨rfl, hRQ1⟩
  show V X (wX k g a σ1 ν1 ++ wM k c μ ν2) [(3, .int (nI i)), (2, .ref (c 20)), (1, .ref (a 0)), (0, .ref b)] [.int (op_tell ((xs (i + 1))) μ).1] 1368
  refine V.aload_n (pc := 1368) 1 hC dL_law_1368 rfl ?_
  refine V.aload_n (pc := 1369) 3 hC dL_law_1369 rfl ?_
  refine V.iload_n (pc := 1370) 0 hC dL_law_1370 rfl ?_
  refine V.iconst (pc := 1371) 1 hC dL_law_1371 (by decide) ?_
  refine V.iadd (pc := 1372) hC dL_law_1372 ?_
  refine V.sld (pc := 1373) (i + 1) hC hX (nadd rfl (nl 1)) (by omega) hL dL_law_1373 ?_
  refine V.callR (pc := 1374) (as := [.int (xs (i + 1))]) (rest := [.int (op_tell ((xs (i + 1))) μ).1]) hC (c_X7_tell μ ν2 ((xs (i + 1))) hRQ.inv) mu_X7_tell ml_L_165 ⟨by omega, by omega⟩ ⟨0, 7, TX7, 20, _, rfl, gm_0⟩ rfl (Nat.le_of_ble_eq_true rfl) dL_law_1374 ?_
  rintro _ uu ⟨rfl, hu⟩
  refine V.icmp_eq (pc := 1377) 1441 hC dL_law_1377 (by decide) (fun _ => ?_) (fun h => absurd rfl h)
  exact kk σ1 ν1 _ _ (by rw [hu]; exact hRQ1)
set_option maxHeartbeats 1000000 in
set_option maxRecDepth 20000 in
theorem law_c36 {X : Cx} {l : Launch} {D : va_G} {k : Nat → ClassId} {g : Nat → Nat} {fr lo b L : Nat} {xs : Nat → Int32} {a c : Nat → Nat} (hC : Ok X l D k g cL_law RL 4 fr lo) (hX : Scr X b L xs) (hfr : 100 ≤ fr) (hlo : 2000 ≤ lo) (hL : L ≤ 3072) {i : Nat} (hi : i + 6 ≤ L) {σ μ ν ν2 : St} (hRQ : RQ σ μ) (kk : ∀ σ ν μ ν2 : St, RQ σ μ → V X (wX k g a σ ν ++ wM k c μ ν2) [(3, .int (nI i)), (2, .ref (c 20)), (1, .ref (a 0)), (0, .ref b)] [] 1441) : V X (wX k g a σ ν ++ wM k c μ ν2) [(3, .int (nI i)), (2, .ref (c 20)), (1, .ref (a 0)), (0, .ref b)] [] 1382 := by
  refine V.aload_n (pc := 1382) 2 hC dL_law_1382 rfl ?_
  refine V.callL (pc := 1383) (as := []) (rest := []) hC (c_X6_check σ ν μ hRQ) mu_X6_check ml_L_166 ⟨by omega, by omega⟩ ⟨0, 6, TX6, 8, _, rfl, gx_0⟩ rfl (Nat.le_of_ble_eq_true rfl) dL_law_1383 ?_
  rintro _ ⟨σ1, ν1⟩ ⟨rfl, hRQ1⟩
  show V X (wX k g a σ1 ν1 ++ wM k c μ ν2) [(3, .int (nI i)), (2, .ref (c 20)), (1, .ref (a 0)), (0, .ref b)] [.int (op_check μ).1] 1386
  refine V.aload_n (pc := 1386) 1 hC dL_law_1386 rfl ?_
  refine V.callR (pc := 1387) (as := []) (rest := [.int (op_check μ).1]) hC (c_X7_check μ ν2 hRQ.inv) mu_X7_check ml_L_169 ⟨by omega, by omega⟩ ⟨0, 7, TX7, 20, _, rfl, gm_0⟩ rfl (Nat.le_of_ble_eq_true rfl) dL_law_1387 ?_
  rintro _ uu ⟨rfl, hu⟩
  refine V.icmp_eq (pc := 1390) 1441 hC dL_law_1390 (by decide) (fun _ => ?_) (fun h => absurd rfl h)
  exact kk σ1 ν1 _ _ (by rw [hu]; exact hRQ1)
set_option maxHeartbeats 1000000 in
set_option maxRecDepth 20000 in
theorem law_c37 {X : Cx} {l : Launch} {D : va_G} {k : Nat → ClassId} {g : Nat → Nat} {fr lo b L : Nat} {xs : Nat → Int32} {a c : Nat → Nat} (hC : Ok X l D k g cL_law RL 4 fr lo) (hX : Scr X b L xs) (hfr : 100 ≤ fr) (hlo : 2000 ≤ lo) (hL : L ≤ 3072) {i : Nat} (hi : i + 6 ≤ L) {σ μ ν ν2 : St} (hRQ : RQ σ μ) (kk : ∀ σ ν μ ν2 : St, RQ σ μ → V X (wX k g a σ ν ++ wM k c μ ν2) [(3, .int (nI i)), (2, .ref (c 20)), (1, .ref (a 0)), (0, .ref b)] [] 1441) : V X (wX k g a σ ν ++ wM k c μ ν2) [(3, .int (nI i)), (2, .ref (c 20)), (1, .ref (a 0)), (0, .ref b)] [] 1395 := by
  refine V.aload_n (pc := 1395) 2 hC dL_law_1395 rfl ?_
  refine V.aload_n (pc := 1396) 3 hC dL_law_1396 rfl ?_
  refine V.iload_n (pc := 1397) 0 hC dL_law_1397 rfl ?_
  refine V.iconst (pc := 1398) 1 hC dL_law_1398 (by decide) ?_
  refine V.iadd (pc := 1399) hC dL_law_1399 ?_
  refine V.sld (pc := 1400) (i + 1) hC hX (nadd rfl (nl 1)) (by omega) hL dL_law_1400 ?_
  refine V.callL (pc := 1401) (as := [.int (xs (i + 1))]) (rest := []) hC (c_X6_count σ ν μ ((xs (i + 1))) hRQ) mu_X6_count ml_L_170 ⟨by omega, by omega⟩ ⟨0, 6, TX6, 8, _, rfl, gx_0⟩ rfl (Nat.le_of_ble_eq_true rfl) dL_law_1401 ?_
  rintro _ ⟨σ1, ν1⟩ ⟨rfl, hRQ1⟩
  show V X (wX k g a σ1 ν1 ++ wM k c μ ν2) [(3, .int (nI i)), (2, .ref (c 20)), (1, .ref (a 0)), (0, .ref b)] [.int (op_count ((xs (i + 1))) μ).1] 1404
  refine V.aload_n (pc := 1404) 1 hC dL_law_1404 rfl ?_
  refine V.aload_n (pc := 1405) 3 hC dL_law_1405 rfl ?_
  refine V.iload_n (pc := 1406) 0 hC dL_law_1406 rfl ?_
  refine V.iconst (pc := 1407) 1 hC dL_law_1407 (by decide) ?_
  refine V.iadd (pc := 1408) hC dL_law_1408 ?_
  refine V.sld (pc := 1409) (i + 1) hC hX (nadd rfl (nl 1)) (by omega) hL dL_law_1409 ?_
  refine V.callR (pc := 1410) (as := [.int (xs (i + 1))]) (rest := [.int (op_count ((xs (i + 1))) μ).1]) hC (c_X7_count μ ν2 ((xs (i + 1))) hRQ.inv) mu_X7_count ml_L_173 ⟨by omega, by omega⟩ ⟨0, 7, TX7, 20, _, rfl, gm_0⟩ rfl (Nat.le_of_ble_eq_true rfl) dL_law_1410 ?_
  rintro _ uu ⟨rfl, hu⟩
  refine V.icmp_eq (pc := 1413) 1441 hC dL_law_1413 (by decide) (fun _ => ?_) (fun h => absurd rfl h)
  exact kk σ1 ν1 _ _ (by rw [hu]; exact hRQ1)
set_option maxHeartbeats 1000000 in
set_option maxRecDepth 20000 in
theorem law_c38 {X : Cx} {l : Launch} {D : va_G} {k : Nat → ClassId} {g : Nat → Nat} {fr lo b L : Nat} {xs : Nat → Int32} {a c : Nat → Nat} (hC : Ok X l D k g cL_law RL 4 fr lo) (hX : Scr X b L xs) (hfr : 100 ≤ fr) (hlo : 2000 ≤ lo) (hL : L ≤ 3072) {i : Nat} (hi : i + 6 ≤ L) {σ μ ν ν2 : St} (hRQ : RQ σ μ) (kk : ∀ σ ν μ ν2 : St, RQ σ μ → V X (wX k g a σ ν ++ wM k c μ ν2) [(3, .int (nI i)), (2, .ref (c 20)), (1, .ref (a 0)), (0, .ref b)] [] 1441) : V X (wX k g a σ ν ++ wM k c μ ν2) [(3, .int (nI i)), (2, .ref (c 20)), (1, .ref (a 0)), (0, .ref b)] [] 1418 := by
  refine V.aload_n (pc := 1418) 2 hC dL_law_1418 rfl ?_
  refine V.aload_n (pc := 1419) 3 hC dL_law_1419 rfl ?_
  refine V.iload_n (pc := 1420) 0 hC dL_law_1420 rfl ?_
  refine V.iconst (pc := 1421) 1 hC dL_law_1421 (by decide) ?_
  refine V.iadd (pc := 1422) hC dL_law_1422 ?_
  refine V.sld (pc := 1423) (i + 1) hC hX (nadd rfl (nl 1)) (by omega) hL dL_law_1423 ?_
  refine V.callL (pc := 1424) (as := [.int (xs (i + 1))]) (rest := []) hC (c_X6_told σ ν μ ((xs (i + 1))) hRQ) mu_X6_told ml_L_174 ⟨by omega, by omega⟩ ⟨0, 6, TX6, 8, _, rfl, gx_0⟩ rfl (Nat.le_of_ble_eq_true rfl) dL_law_1424 ?_
  rintro _ ⟨σ1, ν1⟩ ⟨rfl, hRQ1⟩
  show V X (wX k g a σ1 ν1 ++ wM k c μ ν2) [(3, .int (nI i)), (2, .ref (c 20)), (1, .ref (a 0)), (0, .ref b)] [.int (op_told ((xs (i + 1))) μ).1] 1427
  refine V.aload_n (pc := 1427) 1 hC dL_law_1427 rfl ?_
  refine V.aload_n (pc := 1428) 3 hC dL_law_1428 rfl ?_
  refine V.iload_n (pc := 1429) 0 hC dL_law_1429 rfl ?_
  refine V.iconst (pc := 1430) 1 hC dL_law_1430 (by decide) ?_
  refine V.iadd (pc := 1431) hC dL_law_1431 ?_
  refine V.sld (pc := 1432) (i + 1) hC hX (nadd rfl (nl 1)) (by omega) hL dL_law_1432 ?_
  refine V.callR (pc := 1433) (as := [.int (xs (i + 1))]) (rest := [.int (op_told ((xs (i + 1))) μ).1]) hC (c_X7_told μ ν2 ((xs (i + 1))) hRQ.inv) mu_X7_told ml_L_177 ⟨by omega, by omega⟩ ⟨0, 7, TX7, 20, _, rfl, gm_0⟩ rfl (Nat.le_of_ble_eq_true rfl) dL_law_1433 ?_
  rintro _ uu ⟨rfl, hu⟩
  refine V.icmp_eq (pc := 1436) 1441 hC dL_law_1436 (by decide) (fun _ => ?_) (fun h => absurd rfl h)
  exact kk σ1 ν1 _ _ (by rw [hu]; exact hRQ1)
