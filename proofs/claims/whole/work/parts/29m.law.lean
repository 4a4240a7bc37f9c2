/-! the law's cases -/
section LAWC
variable {C : Ct} {L : Nat} {xs : Nat → Int32} {M : Mm} {i : Nat} {Q : Option Value → Mm → Prop}
theorem Jn.K (H : Jn M) : KM M.1 M.2.2.2 := by
  obtain ⟨s, a, z, I, J⟩ := H
  exact I.K
theorem Jn.len (H : Jn M) : M.1.length ≤ 600000 := by
  obtain ⟨s, a, z, I, J⟩ := H
  exact I.len
theorem lgc0 (v : Int64) : lg_cmp v v = 0 := by
  exact lc_eq.mpr rfl
theorem l_feed (hS : C 1000300 = some (50, L, xs)) (hi : i + 6 ≤ L) (hL : L ≤ 3072) (H : Jn M) (K : ∀ M', Jn M' → G C 331 (1448, [some (.ref 1000300), some (.ref 0), some (.ref 98), some (.int (nI i))], [], [], M') Q) : G C 331 (180, [some (.ref 1000300), some (.ref 0), some (.ref 98), some (.int (nI i))], [], [], M) Q := by
  have hK := H.K
  have hM := H.len
  obtain ⟨w, h1⟩ := w_feed (C := C) (x := (xs (i + 1))) (y := (xs (i + 2))) (f := (xs (i + 3))) (u := (xs (i + 4))) (v := (xs (i + 5))) H
  refine G_S (pc := 180) f_331_180 rfl rfl rfl ?_
  refine G_S (pc := 181) f_331_181 rfl rfl rfl ?_
  refine G_S (pc := 182) f_331_182 rfl rfl rfl ?_
  refine G_ic (v := nI 1) (pc := 183) f_331_183 (by decide) ?_
  first | refine G_addN (pc := 184) f_331_184 ?_ | refine G_addZ (pc := 184) f_331_184 (by first | rfl | exact nI_zI _) (by first | rfl | exact nI_zI _) ?_ | refine G_S (pc := 184) f_331_184 rfl rfl rfl ?_
  refine G_iacN (pc := 185) f_331_185 (con_none hM (by omega)) hS (by omega) (by omega) rfl ?_
  refine G_S (pc := 186) f_331_186 rfl rfl rfl ?_
  refine G_S (pc := 187) f_331_187 rfl rfl rfl ?_
  refine G_ic (v := nI 2) (pc := 188) f_331_188 (by decide) ?_
  first | refine G_addN (pc := 189) f_331_189 ?_ | refine G_addZ (pc := 189) f_331_189 (by first | rfl | exact nI_zI _) (by first | rfl | exact nI_zI _) ?_ | refine G_S (pc := 189) f_331_189 rfl rfl rfl ?_
  refine G_iacN (pc := 190) f_331_190 (con_none hM (by omega)) hS (by omega) (by omega) rfl ?_
  refine G_S (pc := 191) f_331_191 rfl rfl rfl ?_
  refine G_S (pc := 192) f_331_192 rfl rfl rfl ?_
  refine G_ic (v := nI 3) (pc := 193) f_331_193 (by decide) ?_
  first | refine G_addN (pc := 194) f_331_194 ?_ | refine G_addZ (pc := 194) f_331_194 (by first | rfl | exact nI_zI _) (by first | rfl | exact nI_zI _) ?_ | refine G_S (pc := 194) f_331_194 rfl rfl rfl ?_
  refine G_iacN (pc := 195) f_331_195 (con_none hM (by omega)) hS (by omega) (by omega) rfl ?_
  refine G_S (pc := 196) f_331_196 rfl rfl rfl ?_
  refine G_S (pc := 197) f_331_197 rfl rfl rfl ?_
  refine G_ic (v := nI 4) (pc := 198) f_331_198 (by decide) ?_
  first | refine G_addN (pc := 199) f_331_199 ?_ | refine G_addZ (pc := 199) f_331_199 (by first | rfl | exact nI_zI _) (by first | rfl | exact nI_zI _) ?_ | refine G_S (pc := 199) f_331_199 rfl rfl rfl ?_
  refine G_iacN (pc := 200) f_331_200 (con_none hM (by omega)) hS (by omega) (by omega) rfl ?_
  refine G_S (pc := 201) f_331_201 rfl rfl rfl ?_
  refine G_S (pc := 202) f_331_202 rfl rfl rfl ?_
  refine G_ic (v := nI 5) (pc := 203) f_331_203 (by decide) ?_
  first | refine G_addN (pc := 204) f_331_204 ?_ | refine G_addZ (pc := 204) f_331_204 (by first | rfl | exact nI_zI _) (by first | rfl | exact nI_zI _) ?_ | refine G_S (pc := 204) f_331_204 rfl rfl rfl ?_
  refine G_iacN (pc := 205) f_331_205 (con_none hM (by omega)) hS (by omega) (by omega) rfl ?_
  refine G_CV (pc := 206) f_331_206 rfl rfl (by decide) rfl rfl (by first | assumption | exact hK.1 _ _ rfl) (by decide) ⟨Nat.le_of_ble_eq_true rfl, Nat.le_of_ble_eq_true rfl⟩ ?_
  refine CG.mono (h1) ?_
  rintro _ M1 ⟨rfl, ⟨hK, hM⟩, h2⟩
  refine G_S (pc := 209) f_331_209 rfl rfl rfl ?_
  refine G_S (pc := 210) f_331_210 rfl rfl rfl ?_
  refine G_S (pc := 211) f_331_211 rfl rfl rfl ?_
  refine G_ic (v := nI 1) (pc := 212) f_331_212 (by decide) ?_
  first | refine G_addN (pc := 213) f_331_213 ?_ | refine G_addZ (pc := 213) f_331_213 (by first | rfl | exact nI_zI _) (by first | rfl | exact nI_zI _) ?_ | refine G_S (pc := 213) f_331_213 rfl rfl rfl ?_
  refine G_iacN (pc := 214) f_331_214 (con_none hM (by omega)) hS (by omega) (by omega) rfl ?_
  refine G_S (pc := 215) f_331_215 rfl rfl rfl ?_
  refine G_S (pc := 216) f_331_216 rfl rfl rfl ?_
  refine G_ic (v := nI 2) (pc := 217) f_331_217 (by decide) ?_
  first | refine G_addN (pc := 218) f_331_218 ?_ | refine G_addZ (pc := 218) f_331_218 (by first | rfl | exact nI_zI _) (by first | rfl | exact nI_zI _) ?_ | refine G_S (pc := 218) f_331_218 rfl rfl rfl ?_
  refine G_iacN (pc := 219) f_331_219 (con_none hM (by omega)) hS (by omega) (by omega) rfl ?_
  refine G_S (pc := 220) f_331_220 rfl rfl rfl ?_
  refine G_S (pc := 221) f_331_221 rfl rfl rfl ?_
  refine G_ic (v := nI 3) (pc := 222) f_331_222 (by decide) ?_
  first | refine G_addN (pc := 223) f_331_223 ?_ | refine G_addZ (pc := 223) f_331_223 (by first | rfl | exact nI_zI _) (by first | rfl | exact nI_zI _) ?_ | refine G_S (pc := 223) f_331_223 rfl rfl rfl ?_
  refine G_iacN (pc := 224) f_331_224 (con_none hM (by omega)) hS (by omega) (by omega) rfl ?_
  refine G_S (pc := 225) f_331_225 rfl rfl rfl ?_
  refine G_S (pc := 226) f_331_226 rfl rfl rfl ?_
  refine G_ic (v := nI 4) (pc := 227) f_331_227 (by decide) ?_
  first | refine G_addN (pc := 228) f_331_228 ?_ | refine G_addZ (pc := 228) f_331_228 (by first | rfl | exact nI_zI _) (by first | rfl | exact nI_zI _) ?_ | refine G_S (pc := 228) f_331_228 rfl rfl rfl ?_
  refine G_iacN (pc := 229) f_331_229 (con_none hM (by omega)) hS (by omega) (by omega) rfl ?_
  refine G_S (pc := 230) f_331_230 rfl rfl rfl ?_
  refine G_S (pc := 231) f_331_231 rfl rfl rfl ?_
  refine G_ic (v := nI 5) (pc := 232) f_331_232 (by decide) ?_
  first | refine G_addN (pc := 233) f_331_233 ?_ | refine G_addZ (pc := 233) f_331_233 (by first | rfl | exact nI_zI _) (by first | rfl | exact nI_zI _) ?_ | refine G_S (pc := 233) f_331_233 rfl rfl rfl ?_
  refine G_iacN (pc := 234) f_331_234 (con_none hM (by omega)) hS (by omega) (by omega) rfl ?_
  refine G_CV (pc := 235) f_331_235 rfl rfl (by decide) rfl rfl (by first | assumption | exact hK.1 _ _ rfl) (by decide) ⟨Nat.le_of_ble_eq_true rfl, Nat.le_of_ble_eq_true rfl⟩ ?_
  refine CG.mono (h2) ?_
  rintro _ M2 ⟨rfl, hJ⟩
  refine G_jeq (pc := 238) f_331_238 rfl (fun b2 => ?_) (fun b2 => ?_)
  · exact K _ hJ
  · exact absurd rfl b2
theorem l_end (hS : C 1000300 = some (50, L, xs)) (hi : i + 6 ≤ L) (hL : L ≤ 3072) (H : Jn M) (K : ∀ M', Jn M' → G C 331 (1448, [some (.ref 1000300), some (.ref 0), some (.ref 98), some (.int (nI i))], [], [], M') Q) : G C 331 (243, [some (.ref 1000300), some (.ref 0), some (.ref 98), some (.int (nI i))], [], [], M) Q := by
  have hK := H.K
  have hM := H.len
  obtain ⟨w, h1⟩ := w_end (C := C) (x := (xs (i + 1))) H
  refine G_S (pc := 243) f_331_243 rfl rfl rfl ?_
  refine G_S (pc := 244) f_331_244 rfl rfl rfl ?_
  refine G_S (pc := 245) f_331_245 rfl rfl rfl ?_
  refine G_ic (v := nI 1) (pc := 246) f_331_246 (by decide) ?_
  first | refine G_addN (pc := 247) f_331_247 ?_ | refine G_addZ (pc := 247) f_331_247 (by first | rfl | exact nI_zI _) (by first | rfl | exact nI_zI _) ?_ | refine G_S (pc := 247) f_331_247 rfl rfl rfl ?_
  refine G_iacN (pc := 248) f_331_248 (con_none hM (by omega)) hS (by omega) (by omega) rfl ?_
  refine G_CV (pc := 249) f_331_249 rfl rfl (by decide) rfl rfl (by first | assumption | exact hK.1 _ _ rfl) (by decide) ⟨Nat.le_of_ble_eq_true rfl, Nat.le_of_ble_eq_true rfl⟩ ?_
  refine CG.mono (h1) ?_
  rintro _ M1 ⟨rfl, ⟨hK, hM⟩, h2⟩
  refine G_S (pc := 252) f_331_252 rfl rfl rfl ?_
  refine G_S (pc := 253) f_331_253 rfl rfl rfl ?_
  refine G_S (pc := 254) f_331_254 rfl rfl rfl ?_
  refine G_ic (v := nI 1) (pc := 255) f_331_255 (by decide) ?_
  first | refine G_addN (pc := 256) f_331_256 ?_ | refine G_addZ (pc := 256) f_331_256 (by first | rfl | exact nI_zI _) (by first | rfl | exact nI_zI _) ?_ | refine G_S (pc := 256) f_331_256 rfl rfl rfl ?_
  refine G_iacN (pc := 257) f_331_257 (con_none hM (by omega)) hS (by omega) (by omega) rfl ?_
  refine G_CV (pc := 258) f_331_258 rfl rfl (by decide) rfl rfl (by first | assumption | exact hK.1 _ _ rfl) (by decide) ⟨Nat.le_of_ble_eq_true rfl, Nat.le_of_ble_eq_true rfl⟩ ?_
  refine CG.mono (h2) ?_
  rintro _ M2 ⟨rfl, hJ⟩
  refine G_jeq (pc := 261) f_331_261 rfl (fun b3 => ?_) (fun b3 => ?_)
  · exact K _ hJ
  · exact absurd rfl b3
theorem l_text (hC : CK C) (hS : C 1000300 = some (50, L, xs)) (hi : i + 6 ≤ L) (hL : L ≤ 3072) (H : Jn M) (K : ∀ M', Jn M' → G C 331 (1448, [some (.ref 1000300), some (.ref 0), some (.ref 98), some (.int (nI i))], [], [], M') Q) : G C 331 (266, [some (.ref 1000300), some (.ref 0), some (.ref 98), some (.int (nI i))], [], [], M) Q := by
  have hK := H.K
  have hM := H.len
  obtain ⟨w, h1⟩ := w_text (C := C) (x := (xs (i + 1))) (y := (xs (i + 2))) hC H
  refine G_S (pc := 266) f_331_266 rfl rfl rfl ?_
  refine G_S (pc := 267) f_331_267 rfl rfl rfl ?_
  refine G_S (pc := 268) f_331_268 rfl rfl rfl ?_
  refine G_ic (v := nI 1) (pc := 269) f_331_269 (by decide) ?_
  first | refine G_addN (pc := 270) f_331_270 ?_ | refine G_addZ (pc := 270) f_331_270 (by first | rfl | exact nI_zI _) (by first | rfl | exact nI_zI _) ?_ | refine G_S (pc := 270) f_331_270 rfl rfl rfl ?_
  refine G_iacN (pc := 271) f_331_271 (con_none hM (by omega)) hS (by omega) (by omega) rfl ?_
  refine G_S (pc := 272) f_331_272 rfl rfl rfl ?_
  refine G_S (pc := 273) f_331_273 rfl rfl rfl ?_
  refine G_ic (v := nI 2) (pc := 274) f_331_274 (by decide) ?_
  first | refine G_addN (pc := 275) f_331_275 ?_ | refine G_addZ (pc := 275) f_331_275 (by first | rfl | exact nI_zI _) (by first | rfl | exact nI_zI _) ?_ | refine G_S (pc := 275) f_331_275 rfl rfl rfl ?_
  refine G_iacN (pc := 276) f_331_276 (con_none hM (by omega)) hS (by omega) (by omega) rfl ?_
  refine G_CV (pc := 277) f_331_277 rfl rfl (by decide) rfl rfl (by first | assumption | exact hK.1 _ _ rfl) (by decide) ⟨Nat.le_of_ble_eq_true rfl, Nat.le_of_ble_eq_true rfl⟩ ?_
  refine CG.mono (h1) ?_
  rintro _ M1 ⟨rfl, ⟨hK, hM⟩, h2⟩
  refine G_S (pc := 280) f_331_280 rfl rfl rfl ?_
  refine G_S (pc := 281) f_331_281 rfl rfl rfl ?_
  refine G_S (pc := 282) f_331_282 rfl rfl rfl ?_
  refine G_ic (v := nI 1) (pc := 283) f_331_283 (by decide) ?_
  first | refine G_addN (pc := 284) f_331_284 ?_ | refine G_addZ (pc := 284) f_331_284 (by first | rfl | exact nI_zI _) (by first | rfl | exact nI_zI _) ?_ | refine G_S (pc := 284) f_331_284 rfl rfl rfl ?_
  refine G_iacN (pc := 285) f_331_285 (con_none hM (by omega)) hS (by omega) (by omega) rfl ?_
  refine G_S (pc := 286) f_331_286 rfl rfl rfl ?_
  refine G_S (pc := 287) f_331_287 rfl rfl rfl ?_
  refine G_ic (v := nI 2) (pc := 288) f_331_288 (by decide) ?_
  first | refine G_addN (pc := 289) f_331_289 ?_ | refine G_addZ (pc := 289) f_331_289 (by first | rfl | exact nI_zI _) (by first | rfl | exact nI_zI _) ?_ | refine G_S (pc := 289) f_331_289 rfl rfl rfl ?_
  refine G_iacN (pc := 290) f_331_290 (con_none hM (by omega)) hS (by omega) (by omega) rfl ?_
  refine G_CV (pc := 291) f_331_291 rfl rfl (by decide) rfl rfl (by first | assumption | exact hK.1 _ _ rfl) (by decide) ⟨Nat.le_of_ble_eq_true rfl, Nat.le_of_ble_eq_true rfl⟩ ?_
  refine CG.mono (h2) ?_
  rintro _ M2 ⟨rfl, hJ⟩
  refine G_jeq (pc := 294) f_331_294 rfl (fun b4 => ?_) (fun b4 => ?_)
  · exact K _ hJ
  · exact absurd rfl b4
theorem l_fault (hS : C 1000300 = some (50, L, xs)) (hi : i + 6 ≤ L) (hL : L ≤ 3072) (H : Jn M) (K : ∀ M', Jn M' → G C 331 (1448, [some (.ref 1000300), some (.ref 0), some (.ref 98), some (.int (nI i))], [], [], M') Q) : G C 331 (299, [some (.ref 1000300), some (.ref 0), some (.ref 98), some (.int (nI i))], [], [], M) Q := by
  have hK := H.K
  have hM := H.len
  obtain ⟨w, h1⟩ := w_fault (C := C) (x := (xs (i + 1))) H
  refine G_S (pc := 299) f_331_299 rfl rfl rfl ?_
  refine G_S (pc := 300) f_331_300 rfl rfl rfl ?_
  refine G_S (pc := 301) f_331_301 rfl rfl rfl ?_
  refine G_ic (v := nI 1) (pc := 302) f_331_302 (by decide) ?_
  first | refine G_addN (pc := 303) f_331_303 ?_ | refine G_addZ (pc := 303) f_331_303 (by first | rfl | exact nI_zI _) (by first | rfl | exact nI_zI _) ?_ | refine G_S (pc := 303) f_331_303 rfl rfl rfl ?_
  refine G_iacN (pc := 304) f_331_304 (con_none hM (by omega)) hS (by omega) (by omega) rfl ?_
  refine G_CV (pc := 305) f_331_305 rfl rfl (by decide) rfl rfl (by first | assumption | exact hK.1 _ _ rfl) (by decide) ⟨Nat.le_of_ble_eq_true rfl, Nat.le_of_ble_eq_true rfl⟩ ?_
  refine CG.mono (h1) ?_
  rintro _ M1 ⟨rfl, ⟨hK, hM⟩, h2⟩
  refine G_S (pc := 308) f_331_308 rfl rfl rfl ?_
  refine G_S (pc := 309) f_331_309 rfl rfl rfl ?_
  refine G_S (pc := 310) f_331_310 rfl rfl rfl ?_
  refine G_ic (v := nI 1) (pc := 311) f_331_311 (by decide) ?_
  first | refine G_addN (pc := 312) f_331_312 ?_ | refine G_addZ (pc := 312) f_331_312 (by first | rfl | exact nI_zI _) (by first | rfl | exact nI_zI _) ?_ | refine G_S (pc := 312) f_331_312 rfl rfl rfl ?_
  refine G_iacN (pc := 313) f_331_313 (con_none hM (by omega)) hS (by omega) (by omega) rfl ?_
  refine G_CV (pc := 314) f_331_314 rfl rfl (by decide) rfl rfl (by first | assumption | exact hK.1 _ _ rfl) (by decide) ⟨Nat.le_of_ble_eq_true rfl, Nat.le_of_ble_eq_true rfl⟩ ?_
  refine CG.mono (h2) ?_
  rintro _ M2 ⟨rfl, hJ⟩
  refine G_jeq (pc := 317) f_331_317 rfl (fun b5 => ?_) (fun b5 => ?_)
  · exact K _ hJ
  · exact absurd rfl b5
theorem l_line (hS : C 1000300 = some (50, L, xs)) (hi : i + 6 ≤ L) (hL : L ≤ 3072) (H : Jn M) (K : ∀ M', Jn M' → G C 331 (1448, [some (.ref 1000300), some (.ref 0), some (.ref 98), some (.int (nI i))], [], [], M') Q) : G C 331 (322, [some (.ref 1000300), some (.ref 0), some (.ref 98), some (.int (nI i))], [], [], M) Q := by
  have hK := H.K
  have hM := H.len
  obtain ⟨w, h1⟩ := w_line (C := C) (k := (xs (i + 1))) (x := (xs (i + 2))) H
  refine G_S (pc := 322) f_331_322 rfl rfl rfl ?_
  refine G_S (pc := 323) f_331_323 rfl rfl rfl ?_
  refine G_S (pc := 324) f_331_324 rfl rfl rfl ?_
  refine G_ic (v := nI 1) (pc := 325) f_331_325 (by decide) ?_
  first | refine G_addN (pc := 326) f_331_326 ?_ | refine G_addZ (pc := 326) f_331_326 (by first | rfl | exact nI_zI _) (by first | rfl | exact nI_zI _) ?_ | refine G_S (pc := 326) f_331_326 rfl rfl rfl ?_
  refine G_iacN (pc := 327) f_331_327 (con_none hM (by omega)) hS (by omega) (by omega) rfl ?_
  refine G_S (pc := 328) f_331_328 rfl rfl rfl ?_
  refine G_S (pc := 329) f_331_329 rfl rfl rfl ?_
  refine G_ic (v := nI 2) (pc := 330) f_331_330 (by decide) ?_
  first | refine G_addN (pc := 331) f_331_331 ?_ | refine G_addZ (pc := 331) f_331_331 (by first | rfl | exact nI_zI _) (by first | rfl | exact nI_zI _) ?_ | refine G_S (pc := 331) f_331_331 rfl rfl rfl ?_
  refine G_iacN (pc := 332) f_331_332 (con_none hM (by omega)) hS (by omega) (by omega) rfl ?_
  refine G_CV (pc := 333) f_331_333 rfl rfl (by decide) rfl rfl (by first | assumption | exact hK.1 _ _ rfl) (by decide) ⟨Nat.le_of_ble_eq_true rfl, Nat.le_of_ble_eq_true rfl⟩ ?_
  refine CG.mono (h1) ?_
  rintro _ M1 ⟨rfl, ⟨hK, hM⟩, h2⟩
  refine G_S (pc := 336) f_331_336 rfl rfl rfl ?_
  refine G_S (pc := 337) f_331_337 rfl rfl rfl ?_
  refine G_S (pc := 338) f_331_338 rfl rfl rfl ?_
  refine G_ic (v := nI 1) (pc := 339) f_331_339 (by decide) ?_
  first | refine G_addN (pc := 340) f_331_340 ?_ | refine G_addZ (pc := 340) f_331_340 (by first | rfl | exact nI_zI _) (by first | rfl | exact nI_zI _) ?_ | refine G_S (pc := 340) f_331_340 rfl rfl rfl ?_
  refine G_iacN (pc := 341) f_331_341 (con_none hM (by omega)) hS (by omega) (by omega) rfl ?_
  refine G_S (pc := 342) f_331_342 rfl rfl rfl ?_
  refine G_S (pc := 343) f_331_343 rfl rfl rfl ?_
  refine G_ic (v := nI 2) (pc := 344) f_331_344 (by decide) ?_
  first | refine G_addN (pc := 345) f_331_345 ?_ | refine G_addZ (pc := 345) f_331_345 (by first | rfl | exact nI_zI _) (by first | rfl | exact nI_zI _) ?_ | refine G_S (pc := 345) f_331_345 rfl rfl rfl ?_
  refine G_iacN (pc := 346) f_331_346 (con_none hM (by omega)) hS (by omega) (by omega) rfl ?_
  refine G_CV (pc := 347) f_331_347 rfl rfl (by decide) rfl rfl (by first | assumption | exact hK.1 _ _ rfl) (by decide) ⟨Nat.le_of_ble_eq_true rfl, Nat.le_of_ble_eq_true rfl⟩ ?_
  refine CG.mono (h2) ?_
  rintro _ M2 ⟨rfl, hJ⟩
  refine G_jeq (pc := 350) f_331_350 rfl (fun b6 => ?_) (fun b6 => ?_)
  · exact K _ hJ
  · exact absurd rfl b6
theorem l_deed (hS : C 1000300 = some (50, L, xs)) (hi : i + 6 ≤ L) (hL : L ≤ 3072) (H : Jn M) (K : ∀ M', Jn M' → G C 331 (1448, [some (.ref 1000300), some (.ref 0), some (.ref 98), some (.int (nI i))], [], [], M') Q) : G C 331 (355, [some (.ref 1000300), some (.ref 0), some (.ref 98), some (.int (nI i))], [], [], M) Q := by
  have hK := H.K
  have hM := H.len
  obtain ⟨w, h1⟩ := w_deed (C := C) (k := (xs (i + 1))) (y := (xs (i + 2))) (x := (xs (i + 3))) H
  refine G_S (pc := 355) f_331_355 rfl rfl rfl ?_
  refine G_S (pc := 356) f_331_356 rfl rfl rfl ?_
  refine G_S (pc := 357) f_331_357 rfl rfl rfl ?_
  refine G_ic (v := nI 1) (pc := 358) f_331_358 (by decide) ?_
  first | refine G_addN (pc := 359) f_331_359 ?_ | refine G_addZ (pc := 359) f_331_359 (by first | rfl | exact nI_zI _) (by first | rfl | exact nI_zI _) ?_ | refine G_S (pc := 359) f_331_359 rfl rfl rfl ?_
  refine G_iacN (pc := 360) f_331_360 (con_none hM (by omega)) hS (by omega) (by omega) rfl ?_
  refine G_S (pc := 361) f_331_361 rfl rfl rfl ?_
  refine G_S (pc := 362) f_331_362 rfl rfl rfl ?_
  refine G_ic (v := nI 2) (pc := 363) f_331_363 (by decide) ?_
  first | refine G_addN (pc := 364) f_331_364 ?_ | refine G_addZ (pc := 364) f_331_364 (by first | rfl | exact nI_zI _) (by first | rfl | exact nI_zI _) ?_ | refine G_S (pc := 364) f_331_364 rfl rfl rfl ?_
  refine G_iacN (pc := 365) f_331_365 (con_none hM (by omega)) hS (by omega) (by omega) rfl ?_
  refine G_S (pc := 366) f_331_366 rfl rfl rfl ?_
  refine G_S (pc := 367) f_331_367 rfl rfl rfl ?_
  refine G_ic (v := nI 3) (pc := 368) f_331_368 (by decide) ?_
  first | refine G_addN (pc := 369) f_331_369 ?_ | refine G_addZ (pc := 369) f_331_369 (by first | rfl | exact nI_zI _) (by first | rfl | exact nI_zI _) ?_ | refine G_S (pc := 369) f_331_369 rfl rfl rfl ?_
  refine G_iacN (pc := 370) f_331_370 (con_none hM (by omega)) hS (by omega) (by omega) rfl ?_
  refine G_CV (pc := 371) f_331_371 rfl rfl (by decide) rfl rfl (by first | assumption | exact hK.1 _ _ rfl) (by decide) ⟨Nat.le_of_ble_eq_true rfl, Nat.le_of_ble_eq_true rfl⟩ ?_
  refine CG.mono (h1) ?_
  rintro _ M1 ⟨rfl, ⟨hK, hM⟩, h2⟩
  refine G_S (pc := 374) f_331_374 rfl rfl rfl ?_
  refine G_S (pc := 375) f_331_375 rfl rfl rfl ?_
  refine G_S (pc := 376) f_331_376 rfl rfl rfl ?_
  refine G_ic (v := nI 1) (pc := 377) f_331_377 (by decide) ?_
  first | refine G_addN (pc := 378) f_331_378 ?_ | refine G_addZ (pc := 378) f_331_378 (by first | rfl | exact nI_zI _) (by first | rfl | exact nI_zI _) ?_ | refine G_S (pc := 378) f_331_378 rfl rfl rfl ?_
  refine G_iacN (pc := 379) f_331_379 (con_none hM (by omega)) hS (by omega) (by omega) rfl ?_
  refine G_S (pc := 380) f_331_380 rfl rfl rfl ?_
  refine G_S (pc := 381) f_331_381 rfl rfl rfl ?_
  refine G_ic (v := nI 2) (pc := 382) f_331_382 (by decide) ?_
  first | refine G_addN (pc := 383) f_331_383 ?_ | refine G_addZ (pc := 383) f_331_383 (by first | rfl | exact nI_zI _) (by first | rfl | exact nI_zI _) ?_ | refine G_S (pc := 383) f_331_383 rfl rfl rfl ?_
  refine G_iacN (pc := 384) f_331_384 (con_none hM (by omega)) hS (by omega) (by omega) rfl ?_
  refine G_S (pc := 385) f_331_385 rfl rfl rfl ?_
  refine G_S (pc := 386) f_331_386 rfl rfl rfl ?_
  refine G_ic (v := nI 3) (pc := 387) f_331_387 (by decide) ?_
  first | refine G_addN (pc := 388) f_331_388 ?_ | refine G_addZ (pc := 388) f_331_388 (by first | rfl | exact nI_zI _) (by first | rfl | exact nI_zI _) ?_ | refine G_S (pc := 388) f_331_388 rfl rfl rfl ?_
  refine G_iacN (pc := 389) f_331_389 (con_none hM (by omega)) hS (by omega) (by omega) rfl ?_
  refine G_CV (pc := 390) f_331_390 rfl rfl (by decide) rfl rfl (by first | assumption | exact hK.1 _ _ rfl) (by decide) ⟨Nat.le_of_ble_eq_true rfl, Nat.le_of_ble_eq_true rfl⟩ ?_
  refine CG.mono (h2) ?_
  rintro _ M2 ⟨rfl, hJ⟩
  refine G_jeq (pc := 393) f_331_393 rfl (fun b7 => ?_) (fun b7 => ?_)
  · exact K _ hJ
  · exact absurd rfl b7
theorem l_stop (hS : C 1000300 = some (50, L, xs)) (hi : i + 6 ≤ L) (hL : L ≤ 3072) (H : Jn M) (K : ∀ M', Jn M' → G C 331 (1448, [some (.ref 1000300), some (.ref 0), some (.ref 98), some (.int (nI i))], [], [], M') Q) : G C 331 (398, [some (.ref 1000300), some (.ref 0), some (.ref 98), some (.int (nI i))], [], [], M) Q := by
  have hK := H.K
  have hM := H.len
  obtain ⟨w, h1⟩ := w_stop (C := C) (k := (xs (i + 1))) (x := (xs (i + 2))) H
  refine G_S (pc := 398) f_331_398 rfl rfl rfl ?_
  refine G_S (pc := 399) f_331_399 rfl rfl rfl ?_
  refine G_S (pc := 400) f_331_400 rfl rfl rfl ?_
  refine G_ic (v := nI 1) (pc := 401) f_331_401 (by decide) ?_
  first | refine G_addN (pc := 402) f_331_402 ?_ | refine G_addZ (pc := 402) f_331_402 (by first | rfl | exact nI_zI _) (by first | rfl | exact nI_zI _) ?_ | refine G_S (pc := 402) f_331_402 rfl rfl rfl ?_
  refine G_iacN (pc := 403) f_331_403 (con_none hM (by omega)) hS (by omega) (by omega) rfl ?_
  refine G_S (pc := 404) f_331_404 rfl rfl rfl ?_
  refine G_S (pc := 405) f_331_405 rfl rfl rfl ?_
  refine G_ic (v := nI 2) (pc := 406) f_331_406 (by decide) ?_
  first | refine G_addN (pc := 407) f_331_407 ?_ | refine G_addZ (pc := 407) f_331_407 (by first | rfl | exact nI_zI _) (by first | rfl | exact nI_zI _) ?_ | refine G_S (pc := 407) f_331_407 rfl rfl rfl ?_
  refine G_iacN (pc := 408) f_331_408 (con_none hM (by omega)) hS (by omega) (by omega) rfl ?_
  refine G_CV (pc := 409) f_331_409 rfl rfl (by decide) rfl rfl (by first | assumption | exact hK.1 _ _ rfl) (by decide) ⟨Nat.le_of_ble_eq_true rfl, Nat.le_of_ble_eq_true rfl⟩ ?_
  refine CG.mono (h1) ?_
  rintro _ M1 ⟨rfl, ⟨hK, hM⟩, h2⟩
  refine G_S (pc := 412) f_331_412 rfl rfl rfl ?_
  refine G_S (pc := 413) f_331_413 rfl rfl rfl ?_
  refine G_S (pc := 414) f_331_414 rfl rfl rfl ?_
  refine G_ic (v := nI 1) (pc := 415) f_331_415 (by decide) ?_
  first | refine G_addN (pc := 416) f_331_416 ?_ | refine G_addZ (pc := 416) f_331_416 (by first | rfl | exact nI_zI _) (by first | rfl | exact nI_zI _) ?_ | refine G_S (pc := 416) f_331_416 rfl rfl rfl ?_
  refine G_iacN (pc := 417) f_331_417 (con_none hM (by omega)) hS (by omega) (by omega) rfl ?_
  refine G_S (pc := 418) f_331_418 rfl rfl rfl ?_
  refine G_S (pc := 419) f_331_419 rfl rfl rfl ?_
  refine G_ic (v := nI 2) (pc := 420) f_331_420 (by decide) ?_
  first | refine G_addN (pc := 421) f_331_421 ?_ | refine G_addZ (pc := 421) f_331_421 (by first | rfl | exact nI_zI _) (by first | rfl | exact nI_zI _) ?_ | refine G_S (pc := 421) f_331_421 rfl rfl rfl ?_
  refine G_iacN (pc := 422) f_331_422 (con_none hM (by omega)) hS (by omega) (by omega) rfl ?_
  refine G_CV (pc := 423) f_331_423 rfl rfl (by decide) rfl rfl (by first | assumption | exact hK.1 _ _ rfl) (by decide) ⟨Nat.le_of_ble_eq_true rfl, Nat.le_of_ble_eq_true rfl⟩ ?_
  refine CG.mono (h2) ?_
  rintro _ M2 ⟨rfl, hJ⟩
  refine G_jeq (pc := 426) f_331_426 rfl (fun b8 => ?_) (fun b8 => ?_)
  · exact K _ hJ
  · exact absurd rfl b8
theorem l_state (hS : C 1000300 = some (50, L, xs)) (hi : i + 6 ≤ L) (hL : L ≤ 3072) (H : Jn M) (K : ∀ M', Jn M' → G C 331 (1448, [some (.ref 1000300), some (.ref 0), some (.ref 98), some (.int (nI i))], [], [], M') Q) : G C 331 (431, [some (.ref 1000300), some (.ref 0), some (.ref 98), some (.int (nI i))], [], [], M) Q := by
  have hK := H.K
  have hM := H.len
  obtain ⟨w, h1⟩ := w_state (C := C) (k := (xs (i + 1))) (f := (xs (i + 2))) (y := (xs (i + 3))) (x := (xs (i + 4))) H
  refine G_S (pc := 431) f_331_431 rfl rfl rfl ?_
  refine G_S (pc := 432) f_331_432 rfl rfl rfl ?_
  refine G_S (pc := 433) f_331_433 rfl rfl rfl ?_
  refine G_ic (v := nI 1) (pc := 434) f_331_434 (by decide) ?_
  first | refine G_addN (pc := 435) f_331_435 ?_ | refine G_addZ (pc := 435) f_331_435 (by first | rfl | exact nI_zI _) (by first | rfl | exact nI_zI _) ?_ | refine G_S (pc := 435) f_331_435 rfl rfl rfl ?_
  refine G_iacN (pc := 436) f_331_436 (con_none hM (by omega)) hS (by omega) (by omega) rfl ?_
  refine G_S (pc := 437) f_331_437 rfl rfl rfl ?_
  refine G_S (pc := 438) f_331_438 rfl rfl rfl ?_
  refine G_ic (v := nI 2) (pc := 439) f_331_439 (by decide) ?_
  first | refine G_addN (pc := 440) f_331_440 ?_ | refine G_addZ (pc := 440) f_331_440 (by first | rfl | exact nI_zI _) (by first | rfl | exact nI_zI _) ?_ | refine G_S (pc := 440) f_331_440 rfl rfl rfl ?_
  refine G_iacN (pc := 441) f_331_441 (con_none hM (by omega)) hS (by omega) (by omega) rfl ?_
  refine G_S (pc := 442) f_331_442 rfl rfl rfl ?_
  refine G_S (pc := 443) f_331_443 rfl rfl rfl ?_
  refine G_ic (v := nI 3) (pc := 444) f_331_444 (by decide) ?_
  first | refine G_addN (pc := 445) f_331_445 ?_ | refine G_addZ (pc := 445) f_331_445 (by first | rfl | exact nI_zI _) (by first | rfl | exact nI_zI _) ?_ | refine G_S (pc := 445) f_331_445 rfl rfl rfl ?_
  refine G_iacN (pc := 446) f_331_446 (con_none hM (by omega)) hS (by omega) (by omega) rfl ?_
  refine G_S (pc := 447) f_331_447 rfl rfl rfl ?_
  refine G_S (pc := 448) f_331_448 rfl rfl rfl ?_
  refine G_ic (v := nI 4) (pc := 449) f_331_449 (by decide) ?_
  first | refine G_addN (pc := 450) f_331_450 ?_ | refine G_addZ (pc := 450) f_331_450 (by first | rfl | exact nI_zI _) (by first | rfl | exact nI_zI _) ?_ | refine G_S (pc := 450) f_331_450 rfl rfl rfl ?_
  refine G_iacN (pc := 451) f_331_451 (con_none hM (by omega)) hS (by omega) (by omega) rfl ?_
  refine G_CV (pc := 452) f_331_452 rfl rfl (by decide) rfl rfl (by first | assumption | exact hK.1 _ _ rfl) (by decide) ⟨Nat.le_of_ble_eq_true rfl, Nat.le_of_ble_eq_true rfl⟩ ?_
  refine CG.mono (h1) ?_
  rintro _ M1 ⟨rfl, ⟨hK, hM⟩, h2⟩
  refine G_S (pc := 455) f_331_455 rfl rfl rfl ?_
  refine G_S (pc := 456) f_331_456 rfl rfl rfl ?_
  refine G_S (pc := 457) f_331_457 rfl rfl rfl ?_
  refine G_ic (v := nI 1) (pc := 458) f_331_458 (by decide) ?_
  first | refine G_addN (pc := 459) f_331_459 ?_ | refine G_addZ (pc := 459) f_331_459 (by first | rfl | exact nI_zI _) (by first | rfl | exact nI_zI _) ?_ | refine G_S (pc := 459) f_331_459 rfl rfl rfl ?_
  refine G_iacN (pc := 460) f_331_460 (con_none hM (by omega)) hS (by omega) (by omega) rfl ?_
  refine G_S (pc := 461) f_331_461 rfl rfl rfl ?_
  refine G_S (pc := 462) f_331_462 rfl rfl rfl ?_
  refine G_ic (v := nI 2) (pc := 463) f_331_463 (by decide) ?_
  first | refine G_addN (pc := 464) f_331_464 ?_ | refine G_addZ (pc := 464) f_331_464 (by first | rfl | exact nI_zI _) (by first | rfl | exact nI_zI _) ?_ | refine G_S (pc := 464) f_331_464 rfl rfl rfl ?_
  refine G_iacN (pc := 465) f_331_465 (con_none hM (by omega)) hS (by omega) (by omega) rfl ?_
  refine G_S (pc := 466) f_331_466 rfl rfl rfl ?_
  refine G_S (pc := 467) f_331_467 rfl rfl rfl ?_
  refine G_ic (v := nI 3) (pc := 468) f_331_468 (by decide) ?_
  first | refine G_addN (pc := 469) f_331_469 ?_ | refine G_addZ (pc := 469) f_331_469 (by first | rfl | exact nI_zI _) (by first | rfl | exact nI_zI _) ?_ | refine G_S (pc := 469) f_331_469 rfl rfl rfl ?_
  refine G_iacN (pc := 470) f_331_470 (con_none hM (by omega)) hS (by omega) (by omega) rfl ?_
  refine G_S (pc := 471) f_331_471 rfl rfl rfl ?_
  refine G_S (pc := 472) f_331_472 rfl rfl rfl ?_
  refine G_ic (v := nI 4) (pc := 473) f_331_473 (by decide) ?_
  first | refine G_addN (pc := 474) f_331_474 ?_ | refine G_addZ (pc := 474) f_331_474 (by first | rfl | exact nI_zI _) (by first | rfl | exact nI_zI _) ?_ | refine G_S (pc := 474) f_331_474 rfl rfl rfl ?_
  refine G_iacN (pc := 475) f_331_475 (con_none hM (by omega)) hS (by omega) (by omega) rfl ?_
  refine G_CV (pc := 476) f_331_476 rfl rfl (by decide) rfl rfl (by first | assumption | exact hK.1 _ _ rfl) (by decide) ⟨Nat.le_of_ble_eq_true rfl, Nat.le_of_ble_eq_true rfl⟩ ?_
  refine CG.mono (h2) ?_
  rintro _ M2 ⟨rfl, hJ⟩
  refine G_jeq (pc := 479) f_331_479 rfl (fun b9 => ?_) (fun b9 => ?_)
  · exact K _ hJ
  · exact absurd rfl b9
theorem l_comes (hS : C 1000300 = some (50, L, xs)) (hi : i + 6 ≤ L) (hL : L ≤ 3072) (H : Jn M) (K : ∀ M', Jn M' → G C 331 (1448, [some (.ref 1000300), some (.ref 0), some (.ref 98), some (.int (nI i))], [], [], M') Q) : G C 331 (484, [some (.ref 1000300), some (.ref 0), some (.ref 98), some (.int (nI i))], [], [], M) Q := by
  have hK := H.K
  have hM := H.len
  obtain ⟨w, h1⟩ := w_comes (C := C) (k := (xs (i + 1))) (x := (xs (i + 2))) (f := (xs (i + 3))) H
  refine G_S (pc := 484) f_331_484 rfl rfl rfl ?_
  refine G_S (pc := 485) f_331_485 rfl rfl rfl ?_
  refine G_S (pc := 486) f_331_486 rfl rfl rfl ?_
  refine G_ic (v := nI 1) (pc := 487) f_331_487 (by decide) ?_
  first | refine G_addN (pc := 488) f_331_488 ?_ | refine G_addZ (pc := 488) f_331_488 (by first | rfl | exact nI_zI _) (by first | rfl | exact nI_zI _) ?_ | refine G_S (pc := 488) f_331_488 rfl rfl rfl ?_
  refine G_iacN (pc := 489) f_331_489 (con_none hM (by omega)) hS (by omega) (by omega) rfl ?_
  refine G_S (pc := 490) f_331_490 rfl rfl rfl ?_
  refine G_S (pc := 491) f_331_491 rfl rfl rfl ?_
  refine G_ic (v := nI 2) (pc := 492) f_331_492 (by decide) ?_
  first | refine G_addN (pc := 493) f_331_493 ?_ | refine G_addZ (pc := 493) f_331_493 (by first | rfl | exact nI_zI _) (by first | rfl | exact nI_zI _) ?_ | refine G_S (pc := 493) f_331_493 rfl rfl rfl ?_
  refine G_iacN (pc := 494) f_331_494 (con_none hM (by omega)) hS (by omega) (by omega) rfl ?_
  refine G_S (pc := 495) f_331_495 rfl rfl rfl ?_
  refine G_S (pc := 496) f_331_496 rfl rfl rfl ?_
  refine G_ic (v := nI 3) (pc := 497) f_331_497 (by decide) ?_
  first | refine G_addN (pc := 498) f_331_498 ?_ | refine G_addZ (pc := 498) f_331_498 (by first | rfl | exact nI_zI _) (by first | rfl | exact nI_zI _) ?_ | refine G_S (pc := 498) f_331_498 rfl rfl rfl ?_
  refine G_iacN (pc := 499) f_331_499 (con_none hM (by omega)) hS (by omega) (by omega) rfl ?_
  refine G_CV (pc := 500) f_331_500 rfl rfl (by decide) rfl rfl (by first | assumption | exact hK.1 _ _ rfl) (by decide) ⟨Nat.le_of_ble_eq_true rfl, Nat.le_of_ble_eq_true rfl⟩ ?_
  refine CG.mono (h1) ?_
  rintro _ M1 ⟨rfl, ⟨hK, hM⟩, h2⟩
  refine G_S (pc := 503) f_331_503 rfl rfl rfl ?_
  refine G_S (pc := 504) f_331_504 rfl rfl rfl ?_
  refine G_S (pc := 505) f_331_505 rfl rfl rfl ?_
  refine G_ic (v := nI 1) (pc := 506) f_331_506 (by decide) ?_
  first | refine G_addN (pc := 507) f_331_507 ?_ | refine G_addZ (pc := 507) f_331_507 (by first | rfl | exact nI_zI _) (by first | rfl | exact nI_zI _) ?_ | refine G_S (pc := 507) f_331_507 rfl rfl rfl ?_
  refine G_iacN (pc := 508) f_331_508 (con_none hM (by omega)) hS (by omega) (by omega) rfl ?_
  refine G_S (pc := 509) f_331_509 rfl rfl rfl ?_
  refine G_S (pc := 510) f_331_510 rfl rfl rfl ?_
  refine G_ic (v := nI 2) (pc := 511) f_331_511 (by decide) ?_
  first | refine G_addN (pc := 512) f_331_512 ?_ | refine G_addZ (pc := 512) f_331_512 (by first | rfl | exact nI_zI _) (by first | rfl | exact nI_zI _) ?_ | refine G_S (pc := 512) f_331_512 rfl rfl rfl ?_
  refine G_iacN (pc := 513) f_331_513 (con_none hM (by omega)) hS (by omega) (by omega) rfl ?_
  refine G_S (pc := 514) f_331_514 rfl rfl rfl ?_
  refine G_S (pc := 515) f_331_515 rfl rfl rfl ?_
  refine G_ic (v := nI 3) (pc := 516) f_331_516 (by decide) ?_
  first | refine G_addN (pc := 517) f_331_517 ?_ | refine G_addZ (pc := 517) f_331_517 (by first | rfl | exact nI_zI _) (by first | rfl | exact nI_zI _) ?_ | refine G_S (pc := 517) f_331_517 rfl rfl rfl ?_
  refine G_iacN (pc := 518) f_331_518 (con_none hM (by omega)) hS (by omega) (by omega) rfl ?_
  refine G_CV (pc := 519) f_331_519 rfl rfl (by decide) rfl rfl (by first | assumption | exact hK.1 _ _ rfl) (by decide) ⟨Nat.le_of_ble_eq_true rfl, Nat.le_of_ble_eq_true rfl⟩ ?_
  refine CG.mono (h2) ?_
  rintro _ M2 ⟨rfl, hJ⟩
  refine G_jeq (pc := 522) f_331_522 rfl (fun b10 => ?_) (fun b10 => ?_)
  · exact K _ hJ
  · exact absurd rfl b10
theorem l_up (hS : C 1000300 = some (50, L, xs)) (hi : i + 6 ≤ L) (hL : L ≤ 3072) (H : Jn M) (K : ∀ M', Jn M' → G C 331 (1448, [some (.ref 1000300), some (.ref 0), some (.ref 98), some (.int (nI i))], [], [], M') Q) : G C 331 (527, [some (.ref 1000300), some (.ref 0), some (.ref 98), some (.int (nI i))], [], [], M) Q := by
  have hK := H.K
  have hM := H.len
  obtain ⟨w, h1⟩ := w_up (C := C) (k := (xs (i + 1))) (x := (xs (i + 2))) H
  refine G_S (pc := 527) f_331_527 rfl rfl rfl ?_
  refine G_S (pc := 528) f_331_528 rfl rfl rfl ?_
  refine G_S (pc := 529) f_331_529 rfl rfl rfl ?_
  refine G_ic (v := nI 1) (pc := 530) f_331_530 (by decide) ?_
  first | refine G_addN (pc := 531) f_331_531 ?_ | refine G_addZ (pc := 531) f_331_531 (by first | rfl | exact nI_zI _) (by first | rfl | exact nI_zI _) ?_ | refine G_S (pc := 531) f_331_531 rfl rfl rfl ?_
  refine G_iacN (pc := 532) f_331_532 (con_none hM (by omega)) hS (by omega) (by omega) rfl ?_
  refine G_S (pc := 533) f_331_533 rfl rfl rfl ?_
  refine G_S (pc := 534) f_331_534 rfl rfl rfl ?_
  refine G_ic (v := nI 2) (pc := 535) f_331_535 (by decide) ?_
  first | refine G_addN (pc := 536) f_331_536 ?_ | refine G_addZ (pc := 536) f_331_536 (by first | rfl | exact nI_zI _) (by first | rfl | exact nI_zI _) ?_ | refine G_S (pc := 536) f_331_536 rfl rfl rfl ?_
  refine G_iacN (pc := 537) f_331_537 (con_none hM (by omega)) hS (by omega) (by omega) rfl ?_
  refine G_CV (pc := 538) f_331_538 rfl rfl (by decide) rfl rfl (by first | assumption | exact hK.1 _ _ rfl) (by decide) ⟨Nat.le_of_ble_eq_true rfl, Nat.le_of_ble_eq_true rfl⟩ ?_
  refine CG.mono (h1) ?_
  rintro _ M1 ⟨rfl, ⟨hK, hM⟩, h2⟩
  refine G_S (pc := 541) f_331_541 rfl rfl rfl ?_
  refine G_S (pc := 542) f_331_542 rfl rfl rfl ?_
  refine G_S (pc := 543) f_331_543 rfl rfl rfl ?_
  refine G_ic (v := nI 1) (pc := 544) f_331_544 (by decide) ?_
  first | refine G_addN (pc := 545) f_331_545 ?_ | refine G_addZ (pc := 545) f_331_545 (by first | rfl | exact nI_zI _) (by first | rfl | exact nI_zI _) ?_ | refine G_S (pc := 545) f_331_545 rfl rfl rfl ?_
  refine G_iacN (pc := 546) f_331_546 (con_none hM (by omega)) hS (by omega) (by omega) rfl ?_
  refine G_S (pc := 547) f_331_547 rfl rfl rfl ?_
  refine G_S (pc := 548) f_331_548 rfl rfl rfl ?_
  refine G_ic (v := nI 2) (pc := 549) f_331_549 (by decide) ?_
  first | refine G_addN (pc := 550) f_331_550 ?_ | refine G_addZ (pc := 550) f_331_550 (by first | rfl | exact nI_zI _) (by first | rfl | exact nI_zI _) ?_ | refine G_S (pc := 550) f_331_550 rfl rfl rfl ?_
  refine G_iacN (pc := 551) f_331_551 (con_none hM (by omega)) hS (by omega) (by omega) rfl ?_
  refine G_CV (pc := 552) f_331_552 rfl rfl (by decide) rfl rfl (by first | assumption | exact hK.1 _ _ rfl) (by decide) ⟨Nat.le_of_ble_eq_true rfl, Nat.le_of_ble_eq_true rfl⟩ ?_
  refine CG.mono (h2) ?_
  rintro _ M2 ⟨rfl, hJ⟩
  refine G_jeq (pc := 555) f_331_555 rfl (fun b11 => ?_) (fun b11 => ?_)
  · exact K _ hJ
  · exact absurd rfl b11
theorem l_rounds (hS : C 1000300 = some (50, L, xs)) (hi : i + 6 ≤ L) (hL : L ≤ 3072) (H : Jn M) (K : ∀ M', Jn M' → G C 331 (1448, [some (.ref 1000300), some (.ref 0), some (.ref 98), some (.int (nI i))], [], [], M') Q) : G C 331 (560, [some (.ref 1000300), some (.ref 0), some (.ref 98), some (.int (nI i))], [], [], M) Q := by
  have hK := H.K
  have hM := H.len
  obtain ⟨w, h1⟩ := w_rounds (C := C) (k := (xs (i + 1))) (x := (xs (i + 2))) H
  refine G_S (pc := 560) f_331_560 rfl rfl rfl ?_
  refine G_S (pc := 561) f_331_561 rfl rfl rfl ?_
  refine G_S (pc := 562) f_331_562 rfl rfl rfl ?_
  refine G_ic (v := nI 1) (pc := 563) f_331_563 (by decide) ?_
  first | refine G_addN (pc := 564) f_331_564 ?_ | refine G_addZ (pc := 564) f_331_564 (by first | rfl | exact nI_zI _) (by first | rfl | exact nI_zI _) ?_ | refine G_S (pc := 564) f_331_564 rfl rfl rfl ?_
  refine G_iacN (pc := 565) f_331_565 (con_none hM (by omega)) hS (by omega) (by omega) rfl ?_
  refine G_S (pc := 566) f_331_566 rfl rfl rfl ?_
  refine G_S (pc := 567) f_331_567 rfl rfl rfl ?_
  refine G_ic (v := nI 2) (pc := 568) f_331_568 (by decide) ?_
  first | refine G_addN (pc := 569) f_331_569 ?_ | refine G_addZ (pc := 569) f_331_569 (by first | rfl | exact nI_zI _) (by first | rfl | exact nI_zI _) ?_ | refine G_S (pc := 569) f_331_569 rfl rfl rfl ?_
  refine G_iacN (pc := 570) f_331_570 (con_none hM (by omega)) hS (by omega) (by omega) rfl ?_
  refine G_CV (pc := 571) f_331_571 rfl rfl (by decide) rfl rfl (by first | assumption | exact hK.1 _ _ rfl) (by decide) ⟨Nat.le_of_ble_eq_true rfl, Nat.le_of_ble_eq_true rfl⟩ ?_
  refine CG.mono (h1) ?_
  rintro _ M1 ⟨rfl, ⟨hK, hM⟩, h2⟩
  refine G_S (pc := 574) f_331_574 rfl rfl rfl ?_
  refine G_S (pc := 575) f_331_575 rfl rfl rfl ?_
  refine G_S (pc := 576) f_331_576 rfl rfl rfl ?_
  refine G_ic (v := nI 1) (pc := 577) f_331_577 (by decide) ?_
  first | refine G_addN (pc := 578) f_331_578 ?_ | refine G_addZ (pc := 578) f_331_578 (by first | rfl | exact nI_zI _) (by first | rfl | exact nI_zI _) ?_ | refine G_S (pc := 578) f_331_578 rfl rfl rfl ?_
  refine G_iacN (pc := 579) f_331_579 (con_none hM (by omega)) hS (by omega) (by omega) rfl ?_
  refine G_S (pc := 580) f_331_580 rfl rfl rfl ?_
  refine G_S (pc := 581) f_331_581 rfl rfl rfl ?_
  refine G_ic (v := nI 2) (pc := 582) f_331_582 (by decide) ?_
  first | refine G_addN (pc := 583) f_331_583 ?_ | refine G_addZ (pc := 583) f_331_583 (by first | rfl | exact nI_zI _) (by first | rfl | exact nI_zI _) ?_ | refine G_S (pc := 583) f_331_583 rfl rfl rfl ?_
  refine G_iacN (pc := 584) f_331_584 (con_none hM (by omega)) hS (by omega) (by omega) rfl ?_
  refine G_CV (pc := 585) f_331_585 rfl rfl (by decide) rfl rfl (by first | assumption | exact hK.1 _ _ rfl) (by decide) ⟨Nat.le_of_ble_eq_true rfl, Nat.le_of_ble_eq_true rfl⟩ ?_
  refine CG.mono (h2) ?_
  rintro _ M2 ⟨rfl, hJ⟩
  refine G_jeq (pc := 588) f_331_588 rfl (fun b12 => ?_) (fun b12 => ?_)
  · exact K _ hJ
  · exact absurd rfl b12
theorem l_calm (hS : C 1000300 = some (50, L, xs)) (hi : i + 6 ≤ L) (hL : L ≤ 3072) (H : Jn M) (K : ∀ M', Jn M' → G C 331 (1448, [some (.ref 1000300), some (.ref 0), some (.ref 98), some (.int (nI i))], [], [], M') Q) : G C 331 (593, [some (.ref 1000300), some (.ref 0), some (.ref 98), some (.int (nI i))], [], [], M) Q := by
  have hK := H.K
  have hM := H.len
  obtain ⟨w, h1⟩ := w_calm (C := C) (k := (xs (i + 1))) (x := (xs (i + 2))) (y := (xs (i + 3))) (f := (xs (i + 4))) H
  refine G_S (pc := 593) f_331_593 rfl rfl rfl ?_
  refine G_S (pc := 594) f_331_594 rfl rfl rfl ?_
  refine G_S (pc := 595) f_331_595 rfl rfl rfl ?_
  refine G_ic (v := nI 1) (pc := 596) f_331_596 (by decide) ?_
  first | refine G_addN (pc := 597) f_331_597 ?_ | refine G_addZ (pc := 597) f_331_597 (by first | rfl | exact nI_zI _) (by first | rfl | exact nI_zI _) ?_ | refine G_S (pc := 597) f_331_597 rfl rfl rfl ?_
  refine G_iacN (pc := 598) f_331_598 (con_none hM (by omega)) hS (by omega) (by omega) rfl ?_
  refine G_S (pc := 599) f_331_599 rfl rfl rfl ?_
  refine G_S (pc := 600) f_331_600 rfl rfl rfl ?_
  refine G_ic (v := nI 2) (pc := 601) f_331_601 (by decide) ?_
  first | refine G_addN (pc := 602) f_331_602 ?_ | refine G_addZ (pc := 602) f_331_602 (by first | rfl | exact nI_zI _) (by first | rfl | exact nI_zI _) ?_ | refine G_S (pc := 602) f_331_602 rfl rfl rfl ?_
  refine G_iacN (pc := 603) f_331_603 (con_none hM (by omega)) hS (by omega) (by omega) rfl ?_
  refine G_S (pc := 604) f_331_604 rfl rfl rfl ?_
  refine G_S (pc := 605) f_331_605 rfl rfl rfl ?_
  refine G_ic (v := nI 3) (pc := 606) f_331_606 (by decide) ?_
  first | refine G_addN (pc := 607) f_331_607 ?_ | refine G_addZ (pc := 607) f_331_607 (by first | rfl | exact nI_zI _) (by first | rfl | exact nI_zI _) ?_ | refine G_S (pc := 607) f_331_607 rfl rfl rfl ?_
  refine G_iacN (pc := 608) f_331_608 (con_none hM (by omega)) hS (by omega) (by omega) rfl ?_
  refine G_S (pc := 609) f_331_609 rfl rfl rfl ?_
  refine G_S (pc := 610) f_331_610 rfl rfl rfl ?_
  refine G_ic (v := nI 4) (pc := 611) f_331_611 (by decide) ?_
  first | refine G_addN (pc := 612) f_331_612 ?_ | refine G_addZ (pc := 612) f_331_612 (by first | rfl | exact nI_zI _) (by first | rfl | exact nI_zI _) ?_ | refine G_S (pc := 612) f_331_612 rfl rfl rfl ?_
  refine G_iacN (pc := 613) f_331_613 (con_none hM (by omega)) hS (by omega) (by omega) rfl ?_
  refine G_CV (pc := 614) f_331_614 rfl rfl (by decide) rfl rfl (by first | assumption | exact hK.1 _ _ rfl) (by decide) ⟨Nat.le_of_ble_eq_true rfl, Nat.le_of_ble_eq_true rfl⟩ ?_
  refine CG.mono (h1) ?_
  rintro _ M1 ⟨rfl, ⟨hK, hM⟩, h2⟩
  refine G_S (pc := 617) f_331_617 rfl rfl rfl ?_
  refine G_S (pc := 618) f_331_618 rfl rfl rfl ?_
  refine G_S (pc := 619) f_331_619 rfl rfl rfl ?_
  refine G_ic (v := nI 1) (pc := 620) f_331_620 (by decide) ?_
  first | refine G_addN (pc := 621) f_331_621 ?_ | refine G_addZ (pc := 621) f_331_621 (by first | rfl | exact nI_zI _) (by first | rfl | exact nI_zI _) ?_ | refine G_S (pc := 621) f_331_621 rfl rfl rfl ?_
  refine G_iacN (pc := 622) f_331_622 (con_none hM (by omega)) hS (by omega) (by omega) rfl ?_
  refine G_S (pc := 623) f_331_623 rfl rfl rfl ?_
  refine G_S (pc := 624) f_331_624 rfl rfl rfl ?_
  refine G_ic (v := nI 2) (pc := 625) f_331_625 (by decide) ?_
  first | refine G_addN (pc := 626) f_331_626 ?_ | refine G_addZ (pc := 626) f_331_626 (by first | rfl | exact nI_zI _) (by first | rfl | exact nI_zI _) ?_ | refine G_S (pc := 626) f_331_626 rfl rfl rfl ?_
  refine G_iacN (pc := 627) f_331_627 (con_none hM (by omega)) hS (by omega) (by omega) rfl ?_
  refine G_S (pc := 628) f_331_628 rfl rfl rfl ?_
  refine G_S (pc := 629) f_331_629 rfl rfl rfl ?_
  refine G_ic (v := nI 3) (pc := 630) f_331_630 (by decide) ?_
  first | refine G_addN (pc := 631) f_331_631 ?_ | refine G_addZ (pc := 631) f_331_631 (by first | rfl | exact nI_zI _) (by first | rfl | exact nI_zI _) ?_ | refine G_S (pc := 631) f_331_631 rfl rfl rfl ?_
  refine G_iacN (pc := 632) f_331_632 (con_none hM (by omega)) hS (by omega) (by omega) rfl ?_
  refine G_S (pc := 633) f_331_633 rfl rfl rfl ?_
  refine G_S (pc := 634) f_331_634 rfl rfl rfl ?_
  refine G_ic (v := nI 4) (pc := 635) f_331_635 (by decide) ?_
  first | refine G_addN (pc := 636) f_331_636 ?_ | refine G_addZ (pc := 636) f_331_636 (by first | rfl | exact nI_zI _) (by first | rfl | exact nI_zI _) ?_ | refine G_S (pc := 636) f_331_636 rfl rfl rfl ?_
  refine G_iacN (pc := 637) f_331_637 (con_none hM (by omega)) hS (by omega) (by omega) rfl ?_
  refine G_CV (pc := 638) f_331_638 rfl rfl (by decide) rfl rfl (by first | assumption | exact hK.1 _ _ rfl) (by decide) ⟨Nat.le_of_ble_eq_true rfl, Nat.le_of_ble_eq_true rfl⟩ ?_
  refine CG.mono (h2) ?_
  rintro _ M2 ⟨rfl, hJ⟩
  refine G_jeq (pc := 641) f_331_641 rfl (fun b13 => ?_) (fun b13 => ?_)
  · exact K _ hJ
  · exact absurd rfl b13
theorem l_couples (hS : C 1000300 = some (50, L, xs)) (hi : i + 6 ≤ L) (hL : L ≤ 3072) (H : Jn M) (K : ∀ M', Jn M' → G C 331 (1448, [some (.ref 1000300), some (.ref 0), some (.ref 98), some (.int (nI i))], [], [], M') Q) : G C 331 (646, [some (.ref 1000300), some (.ref 0), some (.ref 98), some (.int (nI i))], [], [], M) Q := by
  have hK := H.K
  have hM := H.len
  by_cases h0 : xs (i + 3) = 0
  · obtain ⟨w, h1⟩ := w_couples (C := C) (k := (xs (i + 1))) (x := (xs (i + 2))) (y := (nI 0)) H
    refine G_S (pc := 646) f_331_646 rfl rfl rfl ?_
    refine G_S (pc := 647) f_331_647 rfl rfl rfl ?_
    refine G_S (pc := 648) f_331_648 rfl rfl rfl ?_
    refine G_ic (v := nI 1) (pc := 649) f_331_649 (by decide) ?_
    first | refine G_addN (pc := 650) f_331_650 ?_ | refine G_addZ (pc := 650) f_331_650 (by first | rfl | exact nI_zI _) (by first | rfl | exact nI_zI _) ?_ | refine G_S (pc := 650) f_331_650 rfl rfl rfl ?_
    refine G_iacN (pc := 651) f_331_651 (con_none hM (by omega)) hS (by omega) (by omega) rfl ?_
    refine G_S (pc := 652) f_331_652 rfl rfl rfl ?_
    refine G_S (pc := 653) f_331_653 rfl rfl rfl ?_
    refine G_ic (v := nI 2) (pc := 654) f_331_654 (by decide) ?_
    first | refine G_addN (pc := 655) f_331_655 ?_ | refine G_addZ (pc := 655) f_331_655 (by first | rfl | exact nI_zI _) (by first | rfl | exact nI_zI _) ?_ | refine G_S (pc := 655) f_331_655 rfl rfl rfl ?_
    refine G_iacN (pc := 656) f_331_656 (con_none hM (by omega)) hS (by omega) (by omega) rfl ?_
    refine G_S (pc := 657) f_331_657 rfl rfl rfl ?_
    refine G_S (pc := 658) f_331_658 rfl rfl rfl ?_
    refine G_ic (v := nI 3) (pc := 659) f_331_659 (by decide) ?_
    first | refine G_addN (pc := 660) f_331_660 ?_ | refine G_addZ (pc := 660) f_331_660 (by first | rfl | exact nI_zI _) (by first | rfl | exact nI_zI _) ?_ | refine G_S (pc := 660) f_331_660 rfl rfl rfl ?_
    refine G_iacN (pc := 661) f_331_661 (con_none hM (by omega)) hS (by omega) (by omega) rfl ?_
    refine G_zeq (pc := 662) f_331_662 rfl (fun b14 => ?_) (fun b14 => ?_)
    · refine G_ic (v := nI 0) (pc := 669) f_331_669 (by decide) ?_
      refine G_CV (pc := 670) f_331_670 rfl rfl (by decide) rfl rfl (by first | assumption | exact hK.1 _ _ rfl) (by decide) ⟨Nat.le_of_ble_eq_true rfl, Nat.le_of_ble_eq_true rfl⟩ ?_
      refine CG.mono (h1) ?_
      rintro _ M1 ⟨rfl, ⟨hK, hM⟩, h2⟩
      refine G_S (pc := 673) f_331_673 rfl rfl rfl ?_
      refine G_S (pc := 674) f_331_674 rfl rfl rfl ?_
      refine G_S (pc := 675) f_331_675 rfl rfl rfl ?_
      refine G_ic (v := nI 1) (pc := 676) f_331_676 (by decide) ?_
      first | refine G_addN (pc := 677) f_331_677 ?_ | refine G_addZ (pc := 677) f_331_677 (by first | rfl | exact nI_zI _) (by first | rfl | exact nI_zI _) ?_ | refine G_S (pc := 677) f_331_677 rfl rfl rfl ?_
      refine G_iacN (pc := 678) f_331_678 (con_none hM (by omega)) hS (by omega) (by omega) rfl ?_
      refine G_S (pc := 679) f_331_679 rfl rfl rfl ?_
      refine G_S (pc := 680) f_331_680 rfl rfl rfl ?_
      refine G_ic (v := nI 2) (pc := 681) f_331_681 (by decide) ?_
      first | refine G_addN (pc := 682) f_331_682 ?_ | refine G_addZ (pc := 682) f_331_682 (by first | rfl | exact nI_zI _) (by first | rfl | exact nI_zI _) ?_ | refine G_S (pc := 682) f_331_682 rfl rfl rfl ?_
      refine G_iacN (pc := 683) f_331_683 (con_none hM (by omega)) hS (by omega) (by omega) rfl ?_
      refine G_S (pc := 684) f_331_684 rfl rfl rfl ?_
      refine G_S (pc := 685) f_331_685 rfl rfl rfl ?_
      refine G_ic (v := nI 3) (pc := 686) f_331_686 (by decide) ?_
      first | refine G_addN (pc := 687) f_331_687 ?_ | refine G_addZ (pc := 687) f_331_687 (by first | rfl | exact nI_zI _) (by first | rfl | exact nI_zI _) ?_ | refine G_S (pc := 687) f_331_687 rfl rfl rfl ?_
      refine G_iacN (pc := 688) f_331_688 (con_none hM (by omega)) hS (by omega) (by omega) rfl ?_
      refine G_zeq (pc := 689) f_331_689 rfl (fun b15 => ?_) (fun b15 => ?_)
      · refine G_ic (v := nI 0) (pc := 696) f_331_696 (by decide) ?_
        refine G_CV (pc := 697) f_331_697 rfl rfl (by decide) rfl rfl (by first | assumption | exact hK.1 _ _ rfl) (by decide) ⟨Nat.le_of_ble_eq_true rfl, Nat.le_of_ble_eq_true rfl⟩ ?_
        refine CG.mono (h2) ?_
        rintro _ M2 ⟨rfl, hJ⟩
        refine G_jeq (pc := 700) f_331_700 rfl (fun b16 => ?_) (fun b16 => ?_)
        · exact K _ hJ
        · exact absurd rfl b16
      · exact absurd h0 b15
    · exact absurd h0 b14
  · obtain ⟨w, h1⟩ := w_couples (C := C) (k := (xs (i + 1))) (x := (xs (i + 2))) (y := (nI 1)) H
    refine G_S (pc := 646) f_331_646 rfl rfl rfl ?_
    refine G_S (pc := 647) f_331_647 rfl rfl rfl ?_
    refine G_S (pc := 648) f_331_648 rfl rfl rfl ?_
    refine G_ic (v := nI 1) (pc := 649) f_331_649 (by decide) ?_
    first | refine G_addN (pc := 650) f_331_650 ?_ | refine G_addZ (pc := 650) f_331_650 (by first | rfl | exact nI_zI _) (by first | rfl | exact nI_zI _) ?_ | refine G_S (pc := 650) f_331_650 rfl rfl rfl ?_
    refine G_iacN (pc := 651) f_331_651 (con_none hM (by omega)) hS (by omega) (by omega) rfl ?_
    refine G_S (pc := 652) f_331_652 rfl rfl rfl ?_
    refine G_S (pc := 653) f_331_653 rfl rfl rfl ?_
    refine G_ic (v := nI 2) (pc := 654) f_331_654 (by decide) ?_
    first | refine G_addN (pc := 655) f_331_655 ?_ | refine G_addZ (pc := 655) f_331_655 (by first | rfl | exact nI_zI _) (by first | rfl | exact nI_zI _) ?_ | refine G_S (pc := 655) f_331_655 rfl rfl rfl ?_
    refine G_iacN (pc := 656) f_331_656 (con_none hM (by omega)) hS (by omega) (by omega) rfl ?_
    refine G_S (pc := 657) f_331_657 rfl rfl rfl ?_
    refine G_S (pc := 658) f_331_658 rfl rfl rfl ?_
    refine G_ic (v := nI 3) (pc := 659) f_331_659 (by decide) ?_
    first | refine G_addN (pc := 660) f_331_660 ?_ | refine G_addZ (pc := 660) f_331_660 (by first | rfl | exact nI_zI _) (by first | rfl | exact nI_zI _) ?_ | refine G_S (pc := 660) f_331_660 rfl rfl rfl ?_
    refine G_iacN (pc := 661) f_331_661 (con_none hM (by omega)) hS (by omega) (by omega) rfl ?_
    refine G_zeq (pc := 662) f_331_662 rfl (fun b14 => ?_) (fun b14 => ?_)
    · exact absurd b14 h0
    · refine G_ic (v := nI 1) (pc := 665) f_331_665 (by decide) ?_
      refine G_S (pc := 666) f_331_666 rfl rfl rfl ?_
      refine G_CV (pc := 670) f_331_670 rfl rfl (by decide) rfl rfl (by first | assumption | exact hK.1 _ _ rfl) (by decide) ⟨Nat.le_of_ble_eq_true rfl, Nat.le_of_ble_eq_true rfl⟩ ?_
      refine CG.mono (h1) ?_
      rintro _ M1 ⟨rfl, ⟨hK, hM⟩, h2⟩
      refine G_S (pc := 673) f_331_673 rfl rfl rfl ?_
      refine G_S (pc := 674) f_331_674 rfl rfl rfl ?_
      refine G_S (pc := 675) f_331_675 rfl rfl rfl ?_
      refine G_ic (v := nI 1) (pc := 676) f_331_676 (by decide) ?_
      first | refine G_addN (pc := 677) f_331_677 ?_ | refine G_addZ (pc := 677) f_331_677 (by first | rfl | exact nI_zI _) (by first | rfl | exact nI_zI _) ?_ | refine G_S (pc := 677) f_331_677 rfl rfl rfl ?_
      refine G_iacN (pc := 678) f_331_678 (con_none hM (by omega)) hS (by omega) (by omega) rfl ?_
      refine G_S (pc := 679) f_331_679 rfl rfl rfl ?_
      refine G_S (pc := 680) f_331_680 rfl rfl rfl ?_
      refine G_ic (v := nI 2) (pc := 681) f_331_681 (by decide) ?_
      first | refine G_addN (pc := 682) f_331_682 ?_ | refine G_addZ (pc := 682) f_331_682 (by first | rfl | exact nI_zI _) (by first | rfl | exact nI_zI _) ?_ | refine G_S (pc := 682) f_331_682 rfl rfl rfl ?_
      refine G_iacN (pc := 683) f_331_683 (con_none hM (by omega)) hS (by omega) (by omega) rfl ?_
      refine G_S (pc := 684) f_331_684 rfl rfl rfl ?_
      refine G_S (pc := 685) f_331_685 rfl rfl rfl ?_
      refine G_ic (v := nI 3) (pc := 686) f_331_686 (by decide) ?_
      first | refine G_addN (pc := 687) f_331_687 ?_ | refine G_addZ (pc := 687) f_331_687 (by first | rfl | exact nI_zI _) (by first | rfl | exact nI_zI _) ?_ | refine G_S (pc := 687) f_331_687 rfl rfl rfl ?_
      refine G_iacN (pc := 688) f_331_688 (con_none hM (by omega)) hS (by omega) (by omega) rfl ?_
      refine G_zeq (pc := 689) f_331_689 rfl (fun b15 => ?_) (fun b15 => ?_)
      · exact absurd b15 h0
      · refine G_ic (v := nI 1) (pc := 692) f_331_692 (by decide) ?_
        refine G_S (pc := 693) f_331_693 rfl rfl rfl ?_
        refine G_CV (pc := 697) f_331_697 rfl rfl (by decide) rfl rfl (by first | assumption | exact hK.1 _ _ rfl) (by decide) ⟨Nat.le_of_ble_eq_true rfl, Nat.le_of_ble_eq_true rfl⟩ ?_
        refine CG.mono (h2) ?_
        rintro _ M2 ⟨rfl, hJ⟩
        refine G_jeq (pc := 700) f_331_700 rfl (fun b16 => ?_) (fun b16 => ?_)
        · exact K _ hJ
        · exact absurd rfl b16
theorem l_flow (hS : C 1000300 = some (50, L, xs)) (hi : i + 6 ≤ L) (hL : L ≤ 3072) (H : Jn M) (K : ∀ M', Jn M' → G C 331 (1448, [some (.ref 1000300), some (.ref 0), some (.ref 98), some (.int (nI i))], [], [], M') Q) : G C 331 (705, [some (.ref 1000300), some (.ref 0), some (.ref 98), some (.int (nI i))], [], [], M) Q := by
  have hK := H.K
  have hM := H.len
  obtain ⟨w, h1⟩ := w_flow (C := C) (k := (xs (i + 1))) (x := (xs (i + 2))) H
  refine G_S (pc := 705) f_331_705 rfl rfl rfl ?_
  refine G_S (pc := 706) f_331_706 rfl rfl rfl ?_
  refine G_S (pc := 707) f_331_707 rfl rfl rfl ?_
  refine G_ic (v := nI 1) (pc := 708) f_331_708 (by decide) ?_
  first | refine G_addN (pc := 709) f_331_709 ?_ | refine G_addZ (pc := 709) f_331_709 (by first | rfl | exact nI_zI _) (by first | rfl | exact nI_zI _) ?_ | refine G_S (pc := 709) f_331_709 rfl rfl rfl ?_
  refine G_iacN (pc := 710) f_331_710 (con_none hM (by omega)) hS (by omega) (by omega) rfl ?_
  refine G_S (pc := 711) f_331_711 rfl rfl rfl ?_
  refine G_S (pc := 712) f_331_712 rfl rfl rfl ?_
  refine G_ic (v := nI 2) (pc := 713) f_331_713 (by decide) ?_
  first | refine G_addN (pc := 714) f_331_714 ?_ | refine G_addZ (pc := 714) f_331_714 (by first | rfl | exact nI_zI _) (by first | rfl | exact nI_zI _) ?_ | refine G_S (pc := 714) f_331_714 rfl rfl rfl ?_
  refine G_iacN (pc := 715) f_331_715 (con_none hM (by omega)) hS (by omega) (by omega) rfl ?_
  refine G_CV (pc := 716) f_331_716 rfl rfl (by decide) rfl rfl (by first | assumption | exact hK.1 _ _ rfl) (by decide) ⟨Nat.le_of_ble_eq_true rfl, Nat.le_of_ble_eq_true rfl⟩ ?_
  refine CG.mono (h1) ?_
  rintro _ M1 ⟨rfl, ⟨hK, hM⟩, h2⟩
  refine G_S (pc := 719) f_331_719 rfl rfl rfl ?_
  refine G_S (pc := 720) f_331_720 rfl rfl rfl ?_
  refine G_S (pc := 721) f_331_721 rfl rfl rfl ?_
  refine G_ic (v := nI 1) (pc := 722) f_331_722 (by decide) ?_
  first | refine G_addN (pc := 723) f_331_723 ?_ | refine G_addZ (pc := 723) f_331_723 (by first | rfl | exact nI_zI _) (by first | rfl | exact nI_zI _) ?_ | refine G_S (pc := 723) f_331_723 rfl rfl rfl ?_
  refine G_iacN (pc := 724) f_331_724 (con_none hM (by omega)) hS (by omega) (by omega) rfl ?_
  refine G_S (pc := 725) f_331_725 rfl rfl rfl ?_
  refine G_S (pc := 726) f_331_726 rfl rfl rfl ?_
  refine G_ic (v := nI 2) (pc := 727) f_331_727 (by decide) ?_
  first | refine G_addN (pc := 728) f_331_728 ?_ | refine G_addZ (pc := 728) f_331_728 (by first | rfl | exact nI_zI _) (by first | rfl | exact nI_zI _) ?_ | refine G_S (pc := 728) f_331_728 rfl rfl rfl ?_
  refine G_iacN (pc := 729) f_331_729 (con_none hM (by omega)) hS (by omega) (by omega) rfl ?_
  refine G_CV (pc := 730) f_331_730 rfl rfl (by decide) rfl rfl (by first | assumption | exact hK.1 _ _ rfl) (by decide) ⟨Nat.le_of_ble_eq_true rfl, Nat.le_of_ble_eq_true rfl⟩ ?_
  refine CG.mono (h2) ?_
  rintro _ M2 ⟨rfl, hJ⟩
  refine G_jeq (pc := 733) f_331_733 rfl (fun b17 => ?_) (fun b17 => ?_)
  · exact K _ hJ
  · exact absurd rfl b17
theorem l_leaves (hS : C 1000300 = some (50, L, xs)) (hi : i + 6 ≤ L) (hL : L ≤ 3072) (H : Jn M) (K : ∀ M', Jn M' → G C 331 (1448, [some (.ref 1000300), some (.ref 0), some (.ref 98), some (.int (nI i))], [], [], M') Q) : G C 331 (738, [some (.ref 1000300), some (.ref 0), some (.ref 98), some (.int (nI i))], [], [], M) Q := by
  have hK := H.K
  have hM := H.len
  obtain ⟨w, h1⟩ := w_leaves (C := C) (k := (xs (i + 1))) (x := (xs (i + 2))) H
  refine G_S (pc := 738) f_331_738 rfl rfl rfl ?_
  refine G_S (pc := 739) f_331_739 rfl rfl rfl ?_
  refine G_S (pc := 740) f_331_740 rfl rfl rfl ?_
  refine G_ic (v := nI 1) (pc := 741) f_331_741 (by decide) ?_
  first | refine G_addN (pc := 742) f_331_742 ?_ | refine G_addZ (pc := 742) f_331_742 (by first | rfl | exact nI_zI _) (by first | rfl | exact nI_zI _) ?_ | refine G_S (pc := 742) f_331_742 rfl rfl rfl ?_
  refine G_iacN (pc := 743) f_331_743 (con_none hM (by omega)) hS (by omega) (by omega) rfl ?_
  refine G_S (pc := 744) f_331_744 rfl rfl rfl ?_
  refine G_S (pc := 745) f_331_745 rfl rfl rfl ?_
  refine G_ic (v := nI 2) (pc := 746) f_331_746 (by decide) ?_
  first | refine G_addN (pc := 747) f_331_747 ?_ | refine G_addZ (pc := 747) f_331_747 (by first | rfl | exact nI_zI _) (by first | rfl | exact nI_zI _) ?_ | refine G_S (pc := 747) f_331_747 rfl rfl rfl ?_
  refine G_iacN (pc := 748) f_331_748 (con_none hM (by omega)) hS (by omega) (by omega) rfl ?_
  refine G_CV (pc := 749) f_331_749 rfl rfl (by decide) rfl rfl (by first | assumption | exact hK.1 _ _ rfl) (by decide) ⟨Nat.le_of_ble_eq_true rfl, Nat.le_of_ble_eq_true rfl⟩ ?_
  refine CG.mono (h1) ?_
  rintro _ M1 ⟨rfl, ⟨hK, hM⟩, h2⟩
  refine G_S (pc := 752) f_331_752 rfl rfl rfl ?_
  refine G_S (pc := 753) f_331_753 rfl rfl rfl ?_
  refine G_S (pc := 754) f_331_754 rfl rfl rfl ?_
  refine G_ic (v := nI 1) (pc := 755) f_331_755 (by decide) ?_
  first | refine G_addN (pc := 756) f_331_756 ?_ | refine G_addZ (pc := 756) f_331_756 (by first | rfl | exact nI_zI _) (by first | rfl | exact nI_zI _) ?_ | refine G_S (pc := 756) f_331_756 rfl rfl rfl ?_
  refine G_iacN (pc := 757) f_331_757 (con_none hM (by omega)) hS (by omega) (by omega) rfl ?_
  refine G_S (pc := 758) f_331_758 rfl rfl rfl ?_
  refine G_S (pc := 759) f_331_759 rfl rfl rfl ?_
  refine G_ic (v := nI 2) (pc := 760) f_331_760 (by decide) ?_
  first | refine G_addN (pc := 761) f_331_761 ?_ | refine G_addZ (pc := 761) f_331_761 (by first | rfl | exact nI_zI _) (by first | rfl | exact nI_zI _) ?_ | refine G_S (pc := 761) f_331_761 rfl rfl rfl ?_
  refine G_iacN (pc := 762) f_331_762 (con_none hM (by omega)) hS (by omega) (by omega) rfl ?_
  refine G_CV (pc := 763) f_331_763 rfl rfl (by decide) rfl rfl (by first | assumption | exact hK.1 _ _ rfl) (by decide) ⟨Nat.le_of_ble_eq_true rfl, Nat.le_of_ble_eq_true rfl⟩ ?_
  refine CG.mono (h2) ?_
  rintro _ M2 ⟨rfl, hJ⟩
  refine G_jeq (pc := 766) f_331_766 rfl (fun b18 => ?_) (fun b18 => ?_)
  · exact K _ hJ
  · exact absurd rfl b18
theorem l_fact (hS : C 1000300 = some (50, L, xs)) (hi : i + 6 ≤ L) (hL : L ≤ 3072) (H : Jn M) (K : ∀ M', Jn M' → G C 331 (1448, [some (.ref 1000300), some (.ref 0), some (.ref 98), some (.int (nI i))], [], [], M') Q) : G C 331 (771, [some (.ref 1000300), some (.ref 0), some (.ref 98), some (.int (nI i))], [], [], M) Q := by
  have hK := H.K
  have hM := H.len
  obtain ⟨w, h1⟩ := w_fact (C := C) (k := (xs (i + 1))) (y := (xs (i + 2))) (x := (xs (i + 3))) H
  refine G_S (pc := 771) f_331_771 rfl rfl rfl ?_
  refine G_S (pc := 772) f_331_772 rfl rfl rfl ?_
  refine G_S (pc := 773) f_331_773 rfl rfl rfl ?_
  refine G_ic (v := nI 1) (pc := 774) f_331_774 (by decide) ?_
  first | refine G_addN (pc := 775) f_331_775 ?_ | refine G_addZ (pc := 775) f_331_775 (by first | rfl | exact nI_zI _) (by first | rfl | exact nI_zI _) ?_ | refine G_S (pc := 775) f_331_775 rfl rfl rfl ?_
  refine G_iacN (pc := 776) f_331_776 (con_none hM (by omega)) hS (by omega) (by omega) rfl ?_
  refine G_S (pc := 777) f_331_777 rfl rfl rfl ?_
  refine G_S (pc := 778) f_331_778 rfl rfl rfl ?_
  refine G_ic (v := nI 2) (pc := 779) f_331_779 (by decide) ?_
  first | refine G_addN (pc := 780) f_331_780 ?_ | refine G_addZ (pc := 780) f_331_780 (by first | rfl | exact nI_zI _) (by first | rfl | exact nI_zI _) ?_ | refine G_S (pc := 780) f_331_780 rfl rfl rfl ?_
  refine G_iacN (pc := 781) f_331_781 (con_none hM (by omega)) hS (by omega) (by omega) rfl ?_
  refine G_S (pc := 782) f_331_782 rfl rfl rfl ?_
  refine G_S (pc := 783) f_331_783 rfl rfl rfl ?_
  refine G_ic (v := nI 3) (pc := 784) f_331_784 (by decide) ?_
  first | refine G_addN (pc := 785) f_331_785 ?_ | refine G_addZ (pc := 785) f_331_785 (by first | rfl | exact nI_zI _) (by first | rfl | exact nI_zI _) ?_ | refine G_S (pc := 785) f_331_785 rfl rfl rfl ?_
  refine G_iacN (pc := 786) f_331_786 (con_none hM (by omega)) hS (by omega) (by omega) rfl ?_
  refine G_CV (pc := 787) f_331_787 rfl rfl (by decide) rfl rfl (by first | assumption | exact hK.1 _ _ rfl) (by decide) ⟨Nat.le_of_ble_eq_true rfl, Nat.le_of_ble_eq_true rfl⟩ ?_
  refine CG.mono (h1) ?_
  rintro _ M1 ⟨rfl, ⟨hK, hM⟩, h2⟩
  refine G_S (pc := 790) f_331_790 rfl rfl rfl ?_
  refine G_S (pc := 791) f_331_791 rfl rfl rfl ?_
  refine G_S (pc := 792) f_331_792 rfl rfl rfl ?_
  refine G_ic (v := nI 1) (pc := 793) f_331_793 (by decide) ?_
  first | refine G_addN (pc := 794) f_331_794 ?_ | refine G_addZ (pc := 794) f_331_794 (by first | rfl | exact nI_zI _) (by first | rfl | exact nI_zI _) ?_ | refine G_S (pc := 794) f_331_794 rfl rfl rfl ?_
  refine G_iacN (pc := 795) f_331_795 (con_none hM (by omega)) hS (by omega) (by omega) rfl ?_
  refine G_S (pc := 796) f_331_796 rfl rfl rfl ?_
  refine G_S (pc := 797) f_331_797 rfl rfl rfl ?_
  refine G_ic (v := nI 2) (pc := 798) f_331_798 (by decide) ?_
  first | refine G_addN (pc := 799) f_331_799 ?_ | refine G_addZ (pc := 799) f_331_799 (by first | rfl | exact nI_zI _) (by first | rfl | exact nI_zI _) ?_ | refine G_S (pc := 799) f_331_799 rfl rfl rfl ?_
  refine G_iacN (pc := 800) f_331_800 (con_none hM (by omega)) hS (by omega) (by omega) rfl ?_
  refine G_S (pc := 801) f_331_801 rfl rfl rfl ?_
  refine G_S (pc := 802) f_331_802 rfl rfl rfl ?_
  refine G_ic (v := nI 3) (pc := 803) f_331_803 (by decide) ?_
  first | refine G_addN (pc := 804) f_331_804 ?_ | refine G_addZ (pc := 804) f_331_804 (by first | rfl | exact nI_zI _) (by first | rfl | exact nI_zI _) ?_ | refine G_S (pc := 804) f_331_804 rfl rfl rfl ?_
  refine G_iacN (pc := 805) f_331_805 (con_none hM (by omega)) hS (by omega) (by omega) rfl ?_
  refine G_CV (pc := 806) f_331_806 rfl rfl (by decide) rfl rfl (by first | assumption | exact hK.1 _ _ rfl) (by decide) ⟨Nat.le_of_ble_eq_true rfl, Nat.le_of_ble_eq_true rfl⟩ ?_
  refine CG.mono (h2) ?_
  rintro _ M2 ⟨rfl, hJ⟩
  refine G_jeq (pc := 809) f_331_809 rfl (fun b19 => ?_) (fun b19 => ?_)
  · exact K _ hJ
  · exact absurd rfl b19
theorem l_fits (hS : C 1000300 = some (50, L, xs)) (hi : i + 6 ≤ L) (hL : L ≤ 3072) (H : Jn M) (K : ∀ M', Jn M' → G C 331 (1448, [some (.ref 1000300), some (.ref 0), some (.ref 98), some (.int (nI i))], [], [], M') Q) : G C 331 (814, [some (.ref 1000300), some (.ref 0), some (.ref 98), some (.int (nI i))], [], [], M) Q := by
  have hK := H.K
  have hM := H.len
  obtain ⟨w, h1⟩ := w_fits (C := C) (k := (xs (i + 1))) (x := (xs (i + 2))) H
  refine G_S (pc := 814) f_331_814 rfl rfl rfl ?_
  refine G_S (pc := 815) f_331_815 rfl rfl rfl ?_
  refine G_S (pc := 816) f_331_816 rfl rfl rfl ?_
  refine G_ic (v := nI 1) (pc := 817) f_331_817 (by decide) ?_
  first | refine G_addN (pc := 818) f_331_818 ?_ | refine G_addZ (pc := 818) f_331_818 (by first | rfl | exact nI_zI _) (by first | rfl | exact nI_zI _) ?_ | refine G_S (pc := 818) f_331_818 rfl rfl rfl ?_
  refine G_iacN (pc := 819) f_331_819 (con_none hM (by omega)) hS (by omega) (by omega) rfl ?_
  refine G_S (pc := 820) f_331_820 rfl rfl rfl ?_
  refine G_S (pc := 821) f_331_821 rfl rfl rfl ?_
  refine G_ic (v := nI 2) (pc := 822) f_331_822 (by decide) ?_
  first | refine G_addN (pc := 823) f_331_823 ?_ | refine G_addZ (pc := 823) f_331_823 (by first | rfl | exact nI_zI _) (by first | rfl | exact nI_zI _) ?_ | refine G_S (pc := 823) f_331_823 rfl rfl rfl ?_
  refine G_iacN (pc := 824) f_331_824 (con_none hM (by omega)) hS (by omega) (by omega) rfl ?_
  refine G_CV (pc := 825) f_331_825 rfl rfl (by decide) rfl rfl (by first | assumption | exact hK.1 _ _ rfl) (by decide) ⟨Nat.le_of_ble_eq_true rfl, Nat.le_of_ble_eq_true rfl⟩ ?_
  refine CG.mono (h1) ?_
  rintro _ M1 ⟨rfl, ⟨hK, hM⟩, h2⟩
  refine G_S (pc := 828) f_331_828 rfl rfl rfl ?_
  refine G_S (pc := 829) f_331_829 rfl rfl rfl ?_
  refine G_S (pc := 830) f_331_830 rfl rfl rfl ?_
  refine G_ic (v := nI 1) (pc := 831) f_331_831 (by decide) ?_
  first | refine G_addN (pc := 832) f_331_832 ?_ | refine G_addZ (pc := 832) f_331_832 (by first | rfl | exact nI_zI _) (by first | rfl | exact nI_zI _) ?_ | refine G_S (pc := 832) f_331_832 rfl rfl rfl ?_
  refine G_iacN (pc := 833) f_331_833 (con_none hM (by omega)) hS (by omega) (by omega) rfl ?_
  refine G_S (pc := 834) f_331_834 rfl rfl rfl ?_
  refine G_S (pc := 835) f_331_835 rfl rfl rfl ?_
  refine G_ic (v := nI 2) (pc := 836) f_331_836 (by decide) ?_
  first | refine G_addN (pc := 837) f_331_837 ?_ | refine G_addZ (pc := 837) f_331_837 (by first | rfl | exact nI_zI _) (by first | rfl | exact nI_zI _) ?_ | refine G_S (pc := 837) f_331_837 rfl rfl rfl ?_
  refine G_iacN (pc := 838) f_331_838 (con_none hM (by omega)) hS (by omega) (by omega) rfl ?_
  refine G_CV (pc := 839) f_331_839 rfl rfl (by decide) rfl rfl (by first | assumption | exact hK.1 _ _ rfl) (by decide) ⟨Nat.le_of_ble_eq_true rfl, Nat.le_of_ble_eq_true rfl⟩ ?_
  refine CG.mono (h2) ?_
  rintro _ M2 ⟨rfl, hJ⟩
  refine G_jeq (pc := 842) f_331_842 rfl (fun b20 => ?_) (fun b20 => ?_)
  · exact K _ hJ
  · exact absurd rfl b20
theorem l_fare (hS : C 1000300 = some (50, L, xs)) (hi : i + 6 ≤ L) (hL : L ≤ 3072) (H : Jn M) (K : ∀ M', Jn M' → G C 331 (1448, [some (.ref 1000300), some (.ref 0), some (.ref 98), some (.int (nI i))], [], [], M') Q) : G C 331 (847, [some (.ref 1000300), some (.ref 0), some (.ref 98), some (.int (nI i))], [], [], M) Q := by
  have hK := H.K
  have hM := H.len
  obtain ⟨w, h1⟩ := w_fare (C := C) (k := (xs (i + 1))) (f := (xs (i + 2))) (t := (xs (i + 3))) (x := (xs (i + 4))) H
  refine G_S (pc := 847) f_331_847 rfl rfl rfl ?_
  refine G_S (pc := 848) f_331_848 rfl rfl rfl ?_
  refine G_S (pc := 849) f_331_849 rfl rfl rfl ?_
  refine G_ic (v := nI 1) (pc := 850) f_331_850 (by decide) ?_
  first | refine G_addN (pc := 851) f_331_851 ?_ | refine G_addZ (pc := 851) f_331_851 (by first | rfl | exact nI_zI _) (by first | rfl | exact nI_zI _) ?_ | refine G_S (pc := 851) f_331_851 rfl rfl rfl ?_
  refine G_iacN (pc := 852) f_331_852 (con_none hM (by omega)) hS (by omega) (by omega) rfl ?_
  refine G_S (pc := 853) f_331_853 rfl rfl rfl ?_
  refine G_S (pc := 854) f_331_854 rfl rfl rfl ?_
  refine G_ic (v := nI 2) (pc := 855) f_331_855 (by decide) ?_
  first | refine G_addN (pc := 856) f_331_856 ?_ | refine G_addZ (pc := 856) f_331_856 (by first | rfl | exact nI_zI _) (by first | rfl | exact nI_zI _) ?_ | refine G_S (pc := 856) f_331_856 rfl rfl rfl ?_
  refine G_iacN (pc := 857) f_331_857 (con_none hM (by omega)) hS (by omega) (by omega) rfl ?_
  refine G_S (pc := 858) f_331_858 rfl rfl rfl ?_
  refine G_S (pc := 859) f_331_859 rfl rfl rfl ?_
  refine G_ic (v := nI 3) (pc := 860) f_331_860 (by decide) ?_
  first | refine G_addN (pc := 861) f_331_861 ?_ | refine G_addZ (pc := 861) f_331_861 (by first | rfl | exact nI_zI _) (by first | rfl | exact nI_zI _) ?_ | refine G_S (pc := 861) f_331_861 rfl rfl rfl ?_
  refine G_iacN (pc := 862) f_331_862 (con_none hM (by omega)) hS (by omega) (by omega) rfl ?_
  refine G_S (pc := 863) f_331_863 rfl rfl rfl ?_
  refine G_S (pc := 864) f_331_864 rfl rfl rfl ?_
  refine G_ic (v := nI 4) (pc := 865) f_331_865 (by decide) ?_
  first | refine G_addN (pc := 866) f_331_866 ?_ | refine G_addZ (pc := 866) f_331_866 (by first | rfl | exact nI_zI _) (by first | rfl | exact nI_zI _) ?_ | refine G_S (pc := 866) f_331_866 rfl rfl rfl ?_
  refine G_iacN (pc := 867) f_331_867 (con_none hM (by omega)) hS (by omega) (by omega) rfl ?_
  refine G_CV (pc := 868) f_331_868 rfl rfl (by decide) rfl rfl (by first | assumption | exact hK.1 _ _ rfl) (by decide) ⟨Nat.le_of_ble_eq_true rfl, Nat.le_of_ble_eq_true rfl⟩ ?_
  refine CG.mono (h1) ?_
  rintro _ M1 ⟨rfl, ⟨hK, hM⟩, h2⟩
  refine G_S (pc := 871) f_331_871 rfl rfl rfl ?_
  refine G_S (pc := 872) f_331_872 rfl rfl rfl ?_
  refine G_S (pc := 873) f_331_873 rfl rfl rfl ?_
  refine G_ic (v := nI 1) (pc := 874) f_331_874 (by decide) ?_
  first | refine G_addN (pc := 875) f_331_875 ?_ | refine G_addZ (pc := 875) f_331_875 (by first | rfl | exact nI_zI _) (by first | rfl | exact nI_zI _) ?_ | refine G_S (pc := 875) f_331_875 rfl rfl rfl ?_
  refine G_iacN (pc := 876) f_331_876 (con_none hM (by omega)) hS (by omega) (by omega) rfl ?_
  refine G_S (pc := 877) f_331_877 rfl rfl rfl ?_
  refine G_S (pc := 878) f_331_878 rfl rfl rfl ?_
  refine G_ic (v := nI 2) (pc := 879) f_331_879 (by decide) ?_
  first | refine G_addN (pc := 880) f_331_880 ?_ | refine G_addZ (pc := 880) f_331_880 (by first | rfl | exact nI_zI _) (by first | rfl | exact nI_zI _) ?_ | refine G_S (pc := 880) f_331_880 rfl rfl rfl ?_
  refine G_iacN (pc := 881) f_331_881 (con_none hM (by omega)) hS (by omega) (by omega) rfl ?_
  refine G_S (pc := 882) f_331_882 rfl rfl rfl ?_
  refine G_S (pc := 883) f_331_883 rfl rfl rfl ?_
  refine G_ic (v := nI 3) (pc := 884) f_331_884 (by decide) ?_
  first | refine G_addN (pc := 885) f_331_885 ?_ | refine G_addZ (pc := 885) f_331_885 (by first | rfl | exact nI_zI _) (by first | rfl | exact nI_zI _) ?_ | refine G_S (pc := 885) f_331_885 rfl rfl rfl ?_
  refine G_iacN (pc := 886) f_331_886 (con_none hM (by omega)) hS (by omega) (by omega) rfl ?_
  refine G_S (pc := 887) f_331_887 rfl rfl rfl ?_
  refine G_S (pc := 888) f_331_888 rfl rfl rfl ?_
  refine G_ic (v := nI 4) (pc := 889) f_331_889 (by decide) ?_
  first | refine G_addN (pc := 890) f_331_890 ?_ | refine G_addZ (pc := 890) f_331_890 (by first | rfl | exact nI_zI _) (by first | rfl | exact nI_zI _) ?_ | refine G_S (pc := 890) f_331_890 rfl rfl rfl ?_
  refine G_iacN (pc := 891) f_331_891 (con_none hM (by omega)) hS (by omega) (by omega) rfl ?_
  refine G_CV (pc := 892) f_331_892 rfl rfl (by decide) rfl rfl (by first | assumption | exact hK.1 _ _ rfl) (by decide) ⟨Nat.le_of_ble_eq_true rfl, Nat.le_of_ble_eq_true rfl⟩ ?_
  refine CG.mono (h2) ?_
  rintro _ M2 ⟨rfl, hJ⟩
  refine G_jeq (pc := 895) f_331_895 rfl (fun b21 => ?_) (fun b21 => ?_)
  · exact K _ hJ
  · exact absurd rfl b21
theorem l_route (hS : C 1000300 = some (50, L, xs)) (hi : i + 6 ≤ L) (hL : L ≤ 3072) (H : Jn M) (K : ∀ M', Jn M' → G C 331 (1448, [some (.ref 1000300), some (.ref 0), some (.ref 98), some (.int (nI i))], [], [], M') Q) : G C 331 (900, [some (.ref 1000300), some (.ref 0), some (.ref 98), some (.int (nI i))], [], [], M) Q := by
  have hK := H.K
  have hM := H.len
  obtain ⟨w, h1⟩ := w_route (C := C) (k := (xs (i + 1))) (x := (xs (i + 2))) H
  refine G_S (pc := 900) f_331_900 rfl rfl rfl ?_
  refine G_S (pc := 901) f_331_901 rfl rfl rfl ?_
  refine G_S (pc := 902) f_331_902 rfl rfl rfl ?_
  refine G_ic (v := nI 1) (pc := 903) f_331_903 (by decide) ?_
  first | refine G_addN (pc := 904) f_331_904 ?_ | refine G_addZ (pc := 904) f_331_904 (by first | rfl | exact nI_zI _) (by first | rfl | exact nI_zI _) ?_ | refine G_S (pc := 904) f_331_904 rfl rfl rfl ?_
  refine G_iacN (pc := 905) f_331_905 (con_none hM (by omega)) hS (by omega) (by omega) rfl ?_
  refine G_S (pc := 906) f_331_906 rfl rfl rfl ?_
  refine G_S (pc := 907) f_331_907 rfl rfl rfl ?_
  refine G_ic (v := nI 2) (pc := 908) f_331_908 (by decide) ?_
  first | refine G_addN (pc := 909) f_331_909 ?_ | refine G_addZ (pc := 909) f_331_909 (by first | rfl | exact nI_zI _) (by first | rfl | exact nI_zI _) ?_ | refine G_S (pc := 909) f_331_909 rfl rfl rfl ?_
  refine G_iacN (pc := 910) f_331_910 (con_none hM (by omega)) hS (by omega) (by omega) rfl ?_
  refine G_CV (pc := 911) f_331_911 rfl rfl (by decide) rfl rfl (by first | assumption | exact hK.1 _ _ rfl) (by decide) ⟨Nat.le_of_ble_eq_true rfl, Nat.le_of_ble_eq_true rfl⟩ ?_
  refine CG.mono (h1) ?_
  rintro _ M1 ⟨rfl, ⟨hK, hM⟩, h2⟩
  refine G_S (pc := 914) f_331_914 rfl rfl rfl ?_
  refine G_S (pc := 915) f_331_915 rfl rfl rfl ?_
  refine G_S (pc := 916) f_331_916 rfl rfl rfl ?_
  refine G_ic (v := nI 1) (pc := 917) f_331_917 (by decide) ?_
  first | refine G_addN (pc := 918) f_331_918 ?_ | refine G_addZ (pc := 918) f_331_918 (by first | rfl | exact nI_zI _) (by first | rfl | exact nI_zI _) ?_ | refine G_S (pc := 918) f_331_918 rfl rfl rfl ?_
  refine G_iacN (pc := 919) f_331_919 (con_none hM (by omega)) hS (by omega) (by omega) rfl ?_
  refine G_S (pc := 920) f_331_920 rfl rfl rfl ?_
  refine G_S (pc := 921) f_331_921 rfl rfl rfl ?_
  refine G_ic (v := nI 2) (pc := 922) f_331_922 (by decide) ?_
  first | refine G_addN (pc := 923) f_331_923 ?_ | refine G_addZ (pc := 923) f_331_923 (by first | rfl | exact nI_zI _) (by first | rfl | exact nI_zI _) ?_ | refine G_S (pc := 923) f_331_923 rfl rfl rfl ?_
  refine G_iacN (pc := 924) f_331_924 (con_none hM (by omega)) hS (by omega) (by omega) rfl ?_
  refine G_CV (pc := 925) f_331_925 rfl rfl (by decide) rfl rfl (by first | assumption | exact hK.1 _ _ rfl) (by decide) ⟨Nat.le_of_ble_eq_true rfl, Nat.le_of_ble_eq_true rfl⟩ ?_
  refine CG.mono (h2) ?_
  rintro _ M2 ⟨rfl, hJ⟩
  refine G_jeq (pc := 928) f_331_928 rfl (fun b22 => ?_) (fun b22 => ?_)
  · exact K _ hJ
  · exact absurd rfl b22
theorem l_drawn (hS : C 1000300 = some (50, L, xs)) (hi : i + 6 ≤ L) (hL : L ≤ 3072) (H : Jn M) (K : ∀ M', Jn M' → G C 331 (1448, [some (.ref 1000300), some (.ref 0), some (.ref 98), some (.int (nI i))], [], [], M') Q) : G C 331 (933, [some (.ref 1000300), some (.ref 0), some (.ref 98), some (.int (nI i))], [], [], M) Q := by
  have hK := H.K
  have hM := H.len
  obtain ⟨w, h1⟩ := w_drawn (C := C) (k := (xs (i + 1))) (f := (xs (i + 2))) (y := (xs (i + 3))) (x := (xs (i + 4))) H
  refine G_S (pc := 933) f_331_933 rfl rfl rfl ?_
  refine G_S (pc := 934) f_331_934 rfl rfl rfl ?_
  refine G_S (pc := 935) f_331_935 rfl rfl rfl ?_
  refine G_ic (v := nI 1) (pc := 936) f_331_936 (by decide) ?_
  first | refine G_addN (pc := 937) f_331_937 ?_ | refine G_addZ (pc := 937) f_331_937 (by first | rfl | exact nI_zI _) (by first | rfl | exact nI_zI _) ?_ | refine G_S (pc := 937) f_331_937 rfl rfl rfl ?_
  refine G_iacN (pc := 938) f_331_938 (con_none hM (by omega)) hS (by omega) (by omega) rfl ?_
  refine G_S (pc := 939) f_331_939 rfl rfl rfl ?_
  refine G_S (pc := 940) f_331_940 rfl rfl rfl ?_
  refine G_ic (v := nI 2) (pc := 941) f_331_941 (by decide) ?_
  first | refine G_addN (pc := 942) f_331_942 ?_ | refine G_addZ (pc := 942) f_331_942 (by first | rfl | exact nI_zI _) (by first | rfl | exact nI_zI _) ?_ | refine G_S (pc := 942) f_331_942 rfl rfl rfl ?_
  refine G_iacN (pc := 943) f_331_943 (con_none hM (by omega)) hS (by omega) (by omega) rfl ?_
  refine G_S (pc := 944) f_331_944 rfl rfl rfl ?_
  refine G_S (pc := 945) f_331_945 rfl rfl rfl ?_
  refine G_ic (v := nI 3) (pc := 946) f_331_946 (by decide) ?_
  first | refine G_addN (pc := 947) f_331_947 ?_ | refine G_addZ (pc := 947) f_331_947 (by first | rfl | exact nI_zI _) (by first | rfl | exact nI_zI _) ?_ | refine G_S (pc := 947) f_331_947 rfl rfl rfl ?_
  refine G_iacN (pc := 948) f_331_948 (con_none hM (by omega)) hS (by omega) (by omega) rfl ?_
  refine G_S (pc := 949) f_331_949 rfl rfl rfl ?_
  refine G_S (pc := 950) f_331_950 rfl rfl rfl ?_
  refine G_ic (v := nI 4) (pc := 951) f_331_951 (by decide) ?_
  first | refine G_addN (pc := 952) f_331_952 ?_ | refine G_addZ (pc := 952) f_331_952 (by first | rfl | exact nI_zI _) (by first | rfl | exact nI_zI _) ?_ | refine G_S (pc := 952) f_331_952 rfl rfl rfl ?_
  refine G_iacN (pc := 953) f_331_953 (con_none hM (by omega)) hS (by omega) (by omega) rfl ?_
  refine G_CV (pc := 954) f_331_954 rfl rfl (by decide) rfl rfl (by first | assumption | exact hK.1 _ _ rfl) (by decide) ⟨Nat.le_of_ble_eq_true rfl, Nat.le_of_ble_eq_true rfl⟩ ?_
  refine CG.mono (h1) ?_
  rintro _ M1 ⟨rfl, ⟨hK, hM⟩, h2⟩
  refine G_S (pc := 957) f_331_957 rfl rfl rfl ?_
  refine G_S (pc := 958) f_331_958 rfl rfl rfl ?_
  refine G_S (pc := 959) f_331_959 rfl rfl rfl ?_
  refine G_ic (v := nI 1) (pc := 960) f_331_960 (by decide) ?_
  first | refine G_addN (pc := 961) f_331_961 ?_ | refine G_addZ (pc := 961) f_331_961 (by first | rfl | exact nI_zI _) (by first | rfl | exact nI_zI _) ?_ | refine G_S (pc := 961) f_331_961 rfl rfl rfl ?_
  refine G_iacN (pc := 962) f_331_962 (con_none hM (by omega)) hS (by omega) (by omega) rfl ?_
  refine G_S (pc := 963) f_331_963 rfl rfl rfl ?_
  refine G_S (pc := 964) f_331_964 rfl rfl rfl ?_
  refine G_ic (v := nI 2) (pc := 965) f_331_965 (by decide) ?_
  first | refine G_addN (pc := 966) f_331_966 ?_ | refine G_addZ (pc := 966) f_331_966 (by first | rfl | exact nI_zI _) (by first | rfl | exact nI_zI _) ?_ | refine G_S (pc := 966) f_331_966 rfl rfl rfl ?_
  refine G_iacN (pc := 967) f_331_967 (con_none hM (by omega)) hS (by omega) (by omega) rfl ?_
  refine G_S (pc := 968) f_331_968 rfl rfl rfl ?_
  refine G_S (pc := 969) f_331_969 rfl rfl rfl ?_
  refine G_ic (v := nI 3) (pc := 970) f_331_970 (by decide) ?_
  first | refine G_addN (pc := 971) f_331_971 ?_ | refine G_addZ (pc := 971) f_331_971 (by first | rfl | exact nI_zI _) (by first | rfl | exact nI_zI _) ?_ | refine G_S (pc := 971) f_331_971 rfl rfl rfl ?_
  refine G_iacN (pc := 972) f_331_972 (con_none hM (by omega)) hS (by omega) (by omega) rfl ?_
  refine G_S (pc := 973) f_331_973 rfl rfl rfl ?_
  refine G_S (pc := 974) f_331_974 rfl rfl rfl ?_
  refine G_ic (v := nI 4) (pc := 975) f_331_975 (by decide) ?_
  first | refine G_addN (pc := 976) f_331_976 ?_ | refine G_addZ (pc := 976) f_331_976 (by first | rfl | exact nI_zI _) (by first | rfl | exact nI_zI _) ?_ | refine G_S (pc := 976) f_331_976 rfl rfl rfl ?_
  refine G_iacN (pc := 977) f_331_977 (con_none hM (by omega)) hS (by omega) (by omega) rfl ?_
  refine G_CV (pc := 978) f_331_978 rfl rfl (by decide) rfl rfl (by first | assumption | exact hK.1 _ _ rfl) (by decide) ⟨Nat.le_of_ble_eq_true rfl, Nat.le_of_ble_eq_true rfl⟩ ?_
  refine CG.mono (h2) ?_
  rintro _ M2 ⟨rfl, hJ⟩
  refine G_jeq (pc := 981) f_331_981 rfl (fun b23 => ?_) (fun b23 => ?_)
  · exact K _ hJ
  · exact absurd rfl b23
theorem l_plea (hS : C 1000300 = some (50, L, xs)) (hi : i + 6 ≤ L) (hL : L ≤ 3072) (H : Jn M) (K : ∀ M', Jn M' → G C 331 (1448, [some (.ref 1000300), some (.ref 0), some (.ref 98), some (.int (nI i))], [], [], M') Q) : G C 331 (986, [some (.ref 1000300), some (.ref 0), some (.ref 98), some (.int (nI i))], [], [], M) Q := by
  have hK := H.K
  have hM := H.len
  obtain ⟨w, h1⟩ := w_plea (C := C) (k := (xs (i + 1))) (x := (xs (i + 2))) H
  refine G_S (pc := 986) f_331_986 rfl rfl rfl ?_
  refine G_S (pc := 987) f_331_987 rfl rfl rfl ?_
  refine G_S (pc := 988) f_331_988 rfl rfl rfl ?_
  refine G_ic (v := nI 1) (pc := 989) f_331_989 (by decide) ?_
  first | refine G_addN (pc := 990) f_331_990 ?_ | refine G_addZ (pc := 990) f_331_990 (by first | rfl | exact nI_zI _) (by first | rfl | exact nI_zI _) ?_ | refine G_S (pc := 990) f_331_990 rfl rfl rfl ?_
  refine G_iacN (pc := 991) f_331_991 (con_none hM (by omega)) hS (by omega) (by omega) rfl ?_
  refine G_S (pc := 992) f_331_992 rfl rfl rfl ?_
  refine G_S (pc := 993) f_331_993 rfl rfl rfl ?_
  refine G_ic (v := nI 2) (pc := 994) f_331_994 (by decide) ?_
  first | refine G_addN (pc := 995) f_331_995 ?_ | refine G_addZ (pc := 995) f_331_995 (by first | rfl | exact nI_zI _) (by first | rfl | exact nI_zI _) ?_ | refine G_S (pc := 995) f_331_995 rfl rfl rfl ?_
  refine G_iacN (pc := 996) f_331_996 (con_none hM (by omega)) hS (by omega) (by omega) rfl ?_
  refine G_CV (pc := 997) f_331_997 rfl rfl (by decide) rfl rfl (by first | assumption | exact hK.1 _ _ rfl) (by decide) ⟨Nat.le_of_ble_eq_true rfl, Nat.le_of_ble_eq_true rfl⟩ ?_
  refine CG.mono (h1) ?_
  rintro _ M1 ⟨rfl, ⟨hK, hM⟩, h2⟩
  refine G_S (pc := 1000) f_331_1000 rfl rfl rfl ?_
  refine G_S (pc := 1001) f_331_1001 rfl rfl rfl ?_
  refine G_S (pc := 1002) f_331_1002 rfl rfl rfl ?_
  refine G_ic (v := nI 1) (pc := 1003) f_331_1003 (by decide) ?_
  first | refine G_addN (pc := 1004) f_331_1004 ?_ | refine G_addZ (pc := 1004) f_331_1004 (by first | rfl | exact nI_zI _) (by first | rfl | exact nI_zI _) ?_ | refine G_S (pc := 1004) f_331_1004 rfl rfl rfl ?_
  refine G_iacN (pc := 1005) f_331_1005 (con_none hM (by omega)) hS (by omega) (by omega) rfl ?_
  refine G_S (pc := 1006) f_331_1006 rfl rfl rfl ?_
  refine G_S (pc := 1007) f_331_1007 rfl rfl rfl ?_
  refine G_ic (v := nI 2) (pc := 1008) f_331_1008 (by decide) ?_
  first | refine G_addN (pc := 1009) f_331_1009 ?_ | refine G_addZ (pc := 1009) f_331_1009 (by first | rfl | exact nI_zI _) (by first | rfl | exact nI_zI _) ?_ | refine G_S (pc := 1009) f_331_1009 rfl rfl rfl ?_
  refine G_iacN (pc := 1010) f_331_1010 (con_none hM (by omega)) hS (by omega) (by omega) rfl ?_
  refine G_CV (pc := 1011) f_331_1011 rfl rfl (by decide) rfl rfl (by first | assumption | exact hK.1 _ _ rfl) (by decide) ⟨Nat.le_of_ble_eq_true rfl, Nat.le_of_ble_eq_true rfl⟩ ?_
  refine CG.mono (h2) ?_
  rintro _ M2 ⟨rfl, hJ⟩
  refine G_jeq (pc := 1014) f_331_1014 rfl (fun b24 => ?_) (fun b24 => ?_)
  · exact K _ hJ
  · exact absurd rfl b24
theorem l_bears (hS : C 1000300 = some (50, L, xs)) (hi : i + 6 ≤ L) (hL : L ≤ 3072) (H : Jn M) (K : ∀ M', Jn M' → G C 331 (1448, [some (.ref 1000300), some (.ref 0), some (.ref 98), some (.int (nI i))], [], [], M') Q) : G C 331 (1019, [some (.ref 1000300), some (.ref 0), some (.ref 98), some (.int (nI i))], [], [], M) Q := by
  have hK := H.K
  have hM := H.len
  obtain ⟨w, h1⟩ := w_bears (C := C) (k := (xs (i + 1))) (x := (xs (i + 2))) (f := (xs (i + 3))) H
  refine G_S (pc := 1019) f_331_1019 rfl rfl rfl ?_
  refine G_S (pc := 1020) f_331_1020 rfl rfl rfl ?_
  refine G_S (pc := 1021) f_331_1021 rfl rfl rfl ?_
  refine G_ic (v := nI 1) (pc := 1022) f_331_1022 (by decide) ?_
  first | refine G_addN (pc := 1023) f_331_1023 ?_ | refine G_addZ (pc := 1023) f_331_1023 (by first | rfl | exact nI_zI _) (by first | rfl | exact nI_zI _) ?_ | refine G_S (pc := 1023) f_331_1023 rfl rfl rfl ?_
  refine G_iacN (pc := 1024) f_331_1024 (con_none hM (by omega)) hS (by omega) (by omega) rfl ?_
  refine G_S (pc := 1025) f_331_1025 rfl rfl rfl ?_
  refine G_S (pc := 1026) f_331_1026 rfl rfl rfl ?_
  refine G_ic (v := nI 2) (pc := 1027) f_331_1027 (by decide) ?_
  first | refine G_addN (pc := 1028) f_331_1028 ?_ | refine G_addZ (pc := 1028) f_331_1028 (by first | rfl | exact nI_zI _) (by first | rfl | exact nI_zI _) ?_ | refine G_S (pc := 1028) f_331_1028 rfl rfl rfl ?_
  refine G_iacN (pc := 1029) f_331_1029 (con_none hM (by omega)) hS (by omega) (by omega) rfl ?_
  refine G_S (pc := 1030) f_331_1030 rfl rfl rfl ?_
  refine G_S (pc := 1031) f_331_1031 rfl rfl rfl ?_
  refine G_ic (v := nI 3) (pc := 1032) f_331_1032 (by decide) ?_
  first | refine G_addN (pc := 1033) f_331_1033 ?_ | refine G_addZ (pc := 1033) f_331_1033 (by first | rfl | exact nI_zI _) (by first | rfl | exact nI_zI _) ?_ | refine G_S (pc := 1033) f_331_1033 rfl rfl rfl ?_
  refine G_iacN (pc := 1034) f_331_1034 (con_none hM (by omega)) hS (by omega) (by omega) rfl ?_
  refine G_CV (pc := 1035) f_331_1035 rfl rfl (by decide) rfl rfl (by first | assumption | exact hK.1 _ _ rfl) (by decide) ⟨Nat.le_of_ble_eq_true rfl, Nat.le_of_ble_eq_true rfl⟩ ?_
  refine CG.mono (h1) ?_
  rintro _ M1 ⟨rfl, ⟨hK, hM⟩, h2⟩
  refine G_S (pc := 1038) f_331_1038 rfl rfl rfl ?_
  refine G_S (pc := 1039) f_331_1039 rfl rfl rfl ?_
  refine G_S (pc := 1040) f_331_1040 rfl rfl rfl ?_
  refine G_ic (v := nI 1) (pc := 1041) f_331_1041 (by decide) ?_
  first | refine G_addN (pc := 1042) f_331_1042 ?_ | refine G_addZ (pc := 1042) f_331_1042 (by first | rfl | exact nI_zI _) (by first | rfl | exact nI_zI _) ?_ | refine G_S (pc := 1042) f_331_1042 rfl rfl rfl ?_
  refine G_iacN (pc := 1043) f_331_1043 (con_none hM (by omega)) hS (by omega) (by omega) rfl ?_
  refine G_S (pc := 1044) f_331_1044 rfl rfl rfl ?_
  refine G_S (pc := 1045) f_331_1045 rfl rfl rfl ?_
  refine G_ic (v := nI 2) (pc := 1046) f_331_1046 (by decide) ?_
  first | refine G_addN (pc := 1047) f_331_1047 ?_ | refine G_addZ (pc := 1047) f_331_1047 (by first | rfl | exact nI_zI _) (by first | rfl | exact nI_zI _) ?_ | refine G_S (pc := 1047) f_331_1047 rfl rfl rfl ?_
  refine G_iacN (pc := 1048) f_331_1048 (con_none hM (by omega)) hS (by omega) (by omega) rfl ?_
  refine G_S (pc := 1049) f_331_1049 rfl rfl rfl ?_
  refine G_S (pc := 1050) f_331_1050 rfl rfl rfl ?_
  refine G_ic (v := nI 3) (pc := 1051) f_331_1051 (by decide) ?_
  first | refine G_addN (pc := 1052) f_331_1052 ?_ | refine G_addZ (pc := 1052) f_331_1052 (by first | rfl | exact nI_zI _) (by first | rfl | exact nI_zI _) ?_ | refine G_S (pc := 1052) f_331_1052 rfl rfl rfl ?_
  refine G_iacN (pc := 1053) f_331_1053 (con_none hM (by omega)) hS (by omega) (by omega) rfl ?_
  refine G_CV (pc := 1054) f_331_1054 rfl rfl (by decide) rfl rfl (by first | assumption | exact hK.1 _ _ rfl) (by decide) ⟨Nat.le_of_ble_eq_true rfl, Nat.le_of_ble_eq_true rfl⟩ ?_
  refine CG.mono (h2) ?_
  rintro _ M2 ⟨rfl, hJ⟩
  refine G_jeq (pc := 1057) f_331_1057 rfl (fun b25 => ?_) (fun b25 => ?_)
  · exact K _ hJ
  · exact absurd rfl b25
theorem l_spared (hS : C 1000300 = some (50, L, xs)) (hi : i + 6 ≤ L) (hL : L ≤ 3072) (H : Jn M) (K : ∀ M', Jn M' → G C 331 (1448, [some (.ref 1000300), some (.ref 0), some (.ref 98), some (.int (nI i))], [], [], M') Q) : G C 331 (1062, [some (.ref 1000300), some (.ref 0), some (.ref 98), some (.int (nI i))], [], [], M) Q := by
  have hK := H.K
  have hM := H.len
  obtain ⟨w, h1⟩ := w_spared (C := C) (k := (xs (i + 1))) (x := (xs (i + 2))) H
  refine G_S (pc := 1062) f_331_1062 rfl rfl rfl ?_
  refine G_S (pc := 1063) f_331_1063 rfl rfl rfl ?_
  refine G_S (pc := 1064) f_331_1064 rfl rfl rfl ?_
  refine G_ic (v := nI 1) (pc := 1065) f_331_1065 (by decide) ?_
  first | refine G_addN (pc := 1066) f_331_1066 ?_ | refine G_addZ (pc := 1066) f_331_1066 (by first | rfl | exact nI_zI _) (by first | rfl | exact nI_zI _) ?_ | refine G_S (pc := 1066) f_331_1066 rfl rfl rfl ?_
  refine G_iacN (pc := 1067) f_331_1067 (con_none hM (by omega)) hS (by omega) (by omega) rfl ?_
  refine G_S (pc := 1068) f_331_1068 rfl rfl rfl ?_
  refine G_S (pc := 1069) f_331_1069 rfl rfl rfl ?_
  refine G_ic (v := nI 2) (pc := 1070) f_331_1070 (by decide) ?_
  first | refine G_addN (pc := 1071) f_331_1071 ?_ | refine G_addZ (pc := 1071) f_331_1071 (by first | rfl | exact nI_zI _) (by first | rfl | exact nI_zI _) ?_ | refine G_S (pc := 1071) f_331_1071 rfl rfl rfl ?_
  refine G_iacN (pc := 1072) f_331_1072 (con_none hM (by omega)) hS (by omega) (by omega) rfl ?_
  refine G_CV (pc := 1073) f_331_1073 rfl rfl (by decide) rfl rfl (by first | assumption | exact hK.1 _ _ rfl) (by decide) ⟨Nat.le_of_ble_eq_true rfl, Nat.le_of_ble_eq_true rfl⟩ ?_
  refine CG.mono (h1) ?_
  rintro _ M1 ⟨rfl, ⟨hK, hM⟩, h2⟩
  refine G_S (pc := 1076) f_331_1076 rfl rfl rfl ?_
  refine G_S (pc := 1077) f_331_1077 rfl rfl rfl ?_
  refine G_S (pc := 1078) f_331_1078 rfl rfl rfl ?_
  refine G_ic (v := nI 1) (pc := 1079) f_331_1079 (by decide) ?_
  first | refine G_addN (pc := 1080) f_331_1080 ?_ | refine G_addZ (pc := 1080) f_331_1080 (by first | rfl | exact nI_zI _) (by first | rfl | exact nI_zI _) ?_ | refine G_S (pc := 1080) f_331_1080 rfl rfl rfl ?_
  refine G_iacN (pc := 1081) f_331_1081 (con_none hM (by omega)) hS (by omega) (by omega) rfl ?_
  refine G_S (pc := 1082) f_331_1082 rfl rfl rfl ?_
  refine G_S (pc := 1083) f_331_1083 rfl rfl rfl ?_
  refine G_ic (v := nI 2) (pc := 1084) f_331_1084 (by decide) ?_
  first | refine G_addN (pc := 1085) f_331_1085 ?_ | refine G_addZ (pc := 1085) f_331_1085 (by first | rfl | exact nI_zI _) (by first | rfl | exact nI_zI _) ?_ | refine G_S (pc := 1085) f_331_1085 rfl rfl rfl ?_
  refine G_iacN (pc := 1086) f_331_1086 (con_none hM (by omega)) hS (by omega) (by omega) rfl ?_
  refine G_CV (pc := 1087) f_331_1087 rfl rfl (by decide) rfl rfl (by first | assumption | exact hK.1 _ _ rfl) (by decide) ⟨Nat.le_of_ble_eq_true rfl, Nat.le_of_ble_eq_true rfl⟩ ?_
  refine CG.mono (h2) ?_
  rintro _ M2 ⟨rfl, hJ⟩
  refine G_jeq (pc := 1090) f_331_1090 rfl (fun b26 => ?_) (fun b26 => ?_)
  · exact K _ hJ
  · exact absurd rfl b26
theorem l_against (hS : C 1000300 = some (50, L, xs)) (hi : i + 6 ≤ L) (hL : L ≤ 3072) (H : Jn M) (K : ∀ M', Jn M' → G C 331 (1448, [some (.ref 1000300), some (.ref 0), some (.ref 98), some (.int (nI i))], [], [], M') Q) : G C 331 (1095, [some (.ref 1000300), some (.ref 0), some (.ref 98), some (.int (nI i))], [], [], M) Q := by
  have hK := H.K
  have hM := H.len
  obtain ⟨w, h1⟩ := w_against (C := C) (k := (xs (i + 1))) (x := (xs (i + 2))) H
  refine G_S (pc := 1095) f_331_1095 rfl rfl rfl ?_
  refine G_S (pc := 1096) f_331_1096 rfl rfl rfl ?_
  refine G_S (pc := 1097) f_331_1097 rfl rfl rfl ?_
  refine G_ic (v := nI 1) (pc := 1098) f_331_1098 (by decide) ?_
  first | refine G_addN (pc := 1099) f_331_1099 ?_ | refine G_addZ (pc := 1099) f_331_1099 (by first | rfl | exact nI_zI _) (by first | rfl | exact nI_zI _) ?_ | refine G_S (pc := 1099) f_331_1099 rfl rfl rfl ?_
  refine G_iacN (pc := 1100) f_331_1100 (con_none hM (by omega)) hS (by omega) (by omega) rfl ?_
  refine G_S (pc := 1101) f_331_1101 rfl rfl rfl ?_
  refine G_S (pc := 1102) f_331_1102 rfl rfl rfl ?_
  refine G_ic (v := nI 2) (pc := 1103) f_331_1103 (by decide) ?_
  first | refine G_addN (pc := 1104) f_331_1104 ?_ | refine G_addZ (pc := 1104) f_331_1104 (by first | rfl | exact nI_zI _) (by first | rfl | exact nI_zI _) ?_ | refine G_S (pc := 1104) f_331_1104 rfl rfl rfl ?_
  refine G_iacN (pc := 1105) f_331_1105 (con_none hM (by omega)) hS (by omega) (by omega) rfl ?_
  refine G_CV (pc := 1106) f_331_1106 rfl rfl (by decide) rfl rfl (by first | assumption | exact hK.1 _ _ rfl) (by decide) ⟨Nat.le_of_ble_eq_true rfl, Nat.le_of_ble_eq_true rfl⟩ ?_
  refine CG.mono (h1) ?_
  rintro _ M1 ⟨rfl, ⟨hK, hM⟩, h2⟩
  refine G_S (pc := 1109) f_331_1109 rfl rfl rfl ?_
  refine G_S (pc := 1110) f_331_1110 rfl rfl rfl ?_
  refine G_S (pc := 1111) f_331_1111 rfl rfl rfl ?_
  refine G_ic (v := nI 1) (pc := 1112) f_331_1112 (by decide) ?_
  first | refine G_addN (pc := 1113) f_331_1113 ?_ | refine G_addZ (pc := 1113) f_331_1113 (by first | rfl | exact nI_zI _) (by first | rfl | exact nI_zI _) ?_ | refine G_S (pc := 1113) f_331_1113 rfl rfl rfl ?_
  refine G_iacN (pc := 1114) f_331_1114 (con_none hM (by omega)) hS (by omega) (by omega) rfl ?_
  refine G_S (pc := 1115) f_331_1115 rfl rfl rfl ?_
  refine G_S (pc := 1116) f_331_1116 rfl rfl rfl ?_
  refine G_ic (v := nI 2) (pc := 1117) f_331_1117 (by decide) ?_
  first | refine G_addN (pc := 1118) f_331_1118 ?_ | refine G_addZ (pc := 1118) f_331_1118 (by first | rfl | exact nI_zI _) (by first | rfl | exact nI_zI _) ?_ | refine G_S (pc := 1118) f_331_1118 rfl rfl rfl ?_
  refine G_iacN (pc := 1119) f_331_1119 (con_none hM (by omega)) hS (by omega) (by omega) rfl ?_
  refine G_CV (pc := 1120) f_331_1120 rfl rfl (by decide) rfl rfl (by first | assumption | exact hK.1 _ _ rfl) (by decide) ⟨Nat.le_of_ble_eq_true rfl, Nat.le_of_ble_eq_true rfl⟩ ?_
  refine CG.mono (h2) ?_
  rintro _ M2 ⟨rfl, hJ⟩
  refine G_jeq (pc := 1123) f_331_1123 rfl (fun b27 => ?_) (fun b27 => ?_)
  · exact K _ hJ
  · exact absurd rfl b27
theorem l_sets (hS : C 1000300 = some (50, L, xs)) (hi : i + 6 ≤ L) (hL : L ≤ 3072) (H : Jn M) (K : ∀ M', Jn M' → G C 331 (1448, [some (.ref 1000300), some (.ref 0), some (.ref 98), some (.int (nI i))], [], [], M') Q) : G C 331 (1128, [some (.ref 1000300), some (.ref 0), some (.ref 98), some (.int (nI i))], [], [], M) Q := by
  have hK := H.K
  have hM := H.len
  obtain ⟨w, h1⟩ := w_sets (C := C) (k := (xs (i + 1))) (x := (xs (i + 2))) H
  refine G_S (pc := 1128) f_331_1128 rfl rfl rfl ?_
  refine G_S (pc := 1129) f_331_1129 rfl rfl rfl ?_
  refine G_S (pc := 1130) f_331_1130 rfl rfl rfl ?_
  refine G_ic (v := nI 1) (pc := 1131) f_331_1131 (by decide) ?_
  first | refine G_addN (pc := 1132) f_331_1132 ?_ | refine G_addZ (pc := 1132) f_331_1132 (by first | rfl | exact nI_zI _) (by first | rfl | exact nI_zI _) ?_ | refine G_S (pc := 1132) f_331_1132 rfl rfl rfl ?_
  refine G_iacN (pc := 1133) f_331_1133 (con_none hM (by omega)) hS (by omega) (by omega) rfl ?_
  refine G_S (pc := 1134) f_331_1134 rfl rfl rfl ?_
  refine G_S (pc := 1135) f_331_1135 rfl rfl rfl ?_
  refine G_ic (v := nI 2) (pc := 1136) f_331_1136 (by decide) ?_
  first | refine G_addN (pc := 1137) f_331_1137 ?_ | refine G_addZ (pc := 1137) f_331_1137 (by first | rfl | exact nI_zI _) (by first | rfl | exact nI_zI _) ?_ | refine G_S (pc := 1137) f_331_1137 rfl rfl rfl ?_
  refine G_iacN (pc := 1138) f_331_1138 (con_none hM (by omega)) hS (by omega) (by omega) rfl ?_
  refine G_CV (pc := 1139) f_331_1139 rfl rfl (by decide) rfl rfl (by first | assumption | exact hK.1 _ _ rfl) (by decide) ⟨Nat.le_of_ble_eq_true rfl, Nat.le_of_ble_eq_true rfl⟩ ?_
  refine CG.mono (h1) ?_
  rintro _ M1 ⟨rfl, ⟨hK, hM⟩, h2⟩
  refine G_S (pc := 1142) f_331_1142 rfl rfl rfl ?_
  refine G_S (pc := 1143) f_331_1143 rfl rfl rfl ?_
  refine G_S (pc := 1144) f_331_1144 rfl rfl rfl ?_
  refine G_ic (v := nI 1) (pc := 1145) f_331_1145 (by decide) ?_
  first | refine G_addN (pc := 1146) f_331_1146 ?_ | refine G_addZ (pc := 1146) f_331_1146 (by first | rfl | exact nI_zI _) (by first | rfl | exact nI_zI _) ?_ | refine G_S (pc := 1146) f_331_1146 rfl rfl rfl ?_
  refine G_iacN (pc := 1147) f_331_1147 (con_none hM (by omega)) hS (by omega) (by omega) rfl ?_
  refine G_S (pc := 1148) f_331_1148 rfl rfl rfl ?_
  refine G_S (pc := 1149) f_331_1149 rfl rfl rfl ?_
  refine G_ic (v := nI 2) (pc := 1150) f_331_1150 (by decide) ?_
  first | refine G_addN (pc := 1151) f_331_1151 ?_ | refine G_addZ (pc := 1151) f_331_1151 (by first | rfl | exact nI_zI _) (by first | rfl | exact nI_zI _) ?_ | refine G_S (pc := 1151) f_331_1151 rfl rfl rfl ?_
  refine G_iacN (pc := 1152) f_331_1152 (con_none hM (by omega)) hS (by omega) (by omega) rfl ?_
  refine G_CV (pc := 1153) f_331_1153 rfl rfl (by decide) rfl rfl (by first | assumption | exact hK.1 _ _ rfl) (by decide) ⟨Nat.le_of_ble_eq_true rfl, Nat.le_of_ble_eq_true rfl⟩ ?_
  refine CG.mono (h2) ?_
  rintro _ M2 ⟨rfl, hJ⟩
  refine G_jeq (pc := 1156) f_331_1156 rfl (fun b28 => ?_) (fun b28 => ?_)
  · exact K _ hJ
  · exact absurd rfl b28
theorem l_byTurns (hS : C 1000300 = some (50, L, xs)) (hi : i + 6 ≤ L) (hL : L ≤ 3072) (H : Jn M) (K : ∀ M', Jn M' → G C 331 (1448, [some (.ref 1000300), some (.ref 0), some (.ref 98), some (.int (nI i))], [], [], M') Q) : G C 331 (1161, [some (.ref 1000300), some (.ref 0), some (.ref 98), some (.int (nI i))], [], [], M) Q := by
  have hK := H.K
  have hM := H.len
  obtain ⟨w, h1⟩ := w_byTurns (C := C) (k := (xs (i + 1))) (x := (xs (i + 2))) (y := (xs (i + 3))) H
  refine G_S (pc := 1161) f_331_1161 rfl rfl rfl ?_
  refine G_S (pc := 1162) f_331_1162 rfl rfl rfl ?_
  refine G_S (pc := 1163) f_331_1163 rfl rfl rfl ?_
  refine G_ic (v := nI 1) (pc := 1164) f_331_1164 (by decide) ?_
  first | refine G_addN (pc := 1165) f_331_1165 ?_ | refine G_addZ (pc := 1165) f_331_1165 (by first | rfl | exact nI_zI _) (by first | rfl | exact nI_zI _) ?_ | refine G_S (pc := 1165) f_331_1165 rfl rfl rfl ?_
  refine G_iacN (pc := 1166) f_331_1166 (con_none hM (by omega)) hS (by omega) (by omega) rfl ?_
  refine G_S (pc := 1167) f_331_1167 rfl rfl rfl ?_
  refine G_S (pc := 1168) f_331_1168 rfl rfl rfl ?_
  refine G_ic (v := nI 2) (pc := 1169) f_331_1169 (by decide) ?_
  first | refine G_addN (pc := 1170) f_331_1170 ?_ | refine G_addZ (pc := 1170) f_331_1170 (by first | rfl | exact nI_zI _) (by first | rfl | exact nI_zI _) ?_ | refine G_S (pc := 1170) f_331_1170 rfl rfl rfl ?_
  refine G_iacN (pc := 1171) f_331_1171 (con_none hM (by omega)) hS (by omega) (by omega) rfl ?_
  refine G_S (pc := 1172) f_331_1172 rfl rfl rfl ?_
  refine G_S (pc := 1173) f_331_1173 rfl rfl rfl ?_
  refine G_ic (v := nI 3) (pc := 1174) f_331_1174 (by decide) ?_
  first | refine G_addN (pc := 1175) f_331_1175 ?_ | refine G_addZ (pc := 1175) f_331_1175 (by first | rfl | exact nI_zI _) (by first | rfl | exact nI_zI _) ?_ | refine G_S (pc := 1175) f_331_1175 rfl rfl rfl ?_
  refine G_iacN (pc := 1176) f_331_1176 (con_none hM (by omega)) hS (by omega) (by omega) rfl ?_
  refine G_CV (pc := 1177) f_331_1177 rfl rfl (by decide) rfl rfl (by first | assumption | exact hK.1 _ _ rfl) (by decide) ⟨Nat.le_of_ble_eq_true rfl, Nat.le_of_ble_eq_true rfl⟩ ?_
  refine CG.mono (h1) ?_
  rintro _ M1 ⟨rfl, ⟨hK, hM⟩, h2⟩
  refine G_S (pc := 1180) f_331_1180 rfl rfl rfl ?_
  refine G_S (pc := 1181) f_331_1181 rfl rfl rfl ?_
  refine G_S (pc := 1182) f_331_1182 rfl rfl rfl ?_
  refine G_ic (v := nI 1) (pc := 1183) f_331_1183 (by decide) ?_
  first | refine G_addN (pc := 1184) f_331_1184 ?_ | refine G_addZ (pc := 1184) f_331_1184 (by first | rfl | exact nI_zI _) (by first | rfl | exact nI_zI _) ?_ | refine G_S (pc := 1184) f_331_1184 rfl rfl rfl ?_
  refine G_iacN (pc := 1185) f_331_1185 (con_none hM (by omega)) hS (by omega) (by omega) rfl ?_
  refine G_S (pc := 1186) f_331_1186 rfl rfl rfl ?_
  refine G_S (pc := 1187) f_331_1187 rfl rfl rfl ?_
  refine G_ic (v := nI 2) (pc := 1188) f_331_1188 (by decide) ?_
  first | refine G_addN (pc := 1189) f_331_1189 ?_ | refine G_addZ (pc := 1189) f_331_1189 (by first | rfl | exact nI_zI _) (by first | rfl | exact nI_zI _) ?_ | refine G_S (pc := 1189) f_331_1189 rfl rfl rfl ?_
  refine G_iacN (pc := 1190) f_331_1190 (con_none hM (by omega)) hS (by omega) (by omega) rfl ?_
  refine G_S (pc := 1191) f_331_1191 rfl rfl rfl ?_
  refine G_S (pc := 1192) f_331_1192 rfl rfl rfl ?_
  refine G_ic (v := nI 3) (pc := 1193) f_331_1193 (by decide) ?_
  first | refine G_addN (pc := 1194) f_331_1194 ?_ | refine G_addZ (pc := 1194) f_331_1194 (by first | rfl | exact nI_zI _) (by first | rfl | exact nI_zI _) ?_ | refine G_S (pc := 1194) f_331_1194 rfl rfl rfl ?_
  refine G_iacN (pc := 1195) f_331_1195 (con_none hM (by omega)) hS (by omega) (by omega) rfl ?_
  refine G_CV (pc := 1196) f_331_1196 rfl rfl (by decide) rfl rfl (by first | assumption | exact hK.1 _ _ rfl) (by decide) ⟨Nat.le_of_ble_eq_true rfl, Nat.le_of_ble_eq_true rfl⟩ ?_
  refine CG.mono (h2) ?_
  rintro _ M2 ⟨rfl, hJ⟩
  refine G_jeq (pc := 1199) f_331_1199 rfl (fun b29 => ?_) (fun b29 => ?_)
  · exact K _ hJ
  · exact absurd rfl b29
theorem l_news (hS : C 1000300 = some (50, L, xs)) (hi : i + 6 ≤ L) (hL : L ≤ 3072) (H : Jn M) (K : ∀ M', Jn M' → G C 331 (1448, [some (.ref 1000300), some (.ref 0), some (.ref 98), some (.int (nI i))], [], [], M') Q) : G C 331 (1204, [some (.ref 1000300), some (.ref 0), some (.ref 98), some (.int (nI i))], [], [], M) Q := by
  have hK := H.K
  have hM := H.len
  obtain ⟨w, h1⟩ := w_news (C := C) (k := (xs (i + 1))) (x := (xs (i + 2))) H
  refine G_S (pc := 1204) f_331_1204 rfl rfl rfl ?_
  refine G_S (pc := 1205) f_331_1205 rfl rfl rfl ?_
  refine G_S (pc := 1206) f_331_1206 rfl rfl rfl ?_
  refine G_ic (v := nI 1) (pc := 1207) f_331_1207 (by decide) ?_
  first | refine G_addN (pc := 1208) f_331_1208 ?_ | refine G_addZ (pc := 1208) f_331_1208 (by first | rfl | exact nI_zI _) (by first | rfl | exact nI_zI _) ?_ | refine G_S (pc := 1208) f_331_1208 rfl rfl rfl ?_
  refine G_iacN (pc := 1209) f_331_1209 (con_none hM (by omega)) hS (by omega) (by omega) rfl ?_
  refine G_S (pc := 1210) f_331_1210 rfl rfl rfl ?_
  refine G_S (pc := 1211) f_331_1211 rfl rfl rfl ?_
  refine G_ic (v := nI 2) (pc := 1212) f_331_1212 (by decide) ?_
  first | refine G_addN (pc := 1213) f_331_1213 ?_ | refine G_addZ (pc := 1213) f_331_1213 (by first | rfl | exact nI_zI _) (by first | rfl | exact nI_zI _) ?_ | refine G_S (pc := 1213) f_331_1213 rfl rfl rfl ?_
  refine G_iacN (pc := 1214) f_331_1214 (con_none hM (by omega)) hS (by omega) (by omega) rfl ?_
  refine G_CV (pc := 1215) f_331_1215 rfl rfl (by decide) rfl rfl (by first | assumption | exact hK.1 _ _ rfl) (by decide) ⟨Nat.le_of_ble_eq_true rfl, Nat.le_of_ble_eq_true rfl⟩ ?_
  refine CG.mono (h1) ?_
  rintro _ M1 ⟨rfl, ⟨hK, hM⟩, h2⟩
  refine G_S (pc := 1218) f_331_1218 rfl rfl rfl ?_
  refine G_S (pc := 1219) f_331_1219 rfl rfl rfl ?_
  refine G_S (pc := 1220) f_331_1220 rfl rfl rfl ?_
  refine G_ic (v := nI 1) (pc := 1221) f_331_1221 (by decide) ?_
  first | refine G_addN (pc := 1222) f_331_1222 ?_ | refine G_addZ (pc := 1222) f_331_1222 (by first | rfl | exact nI_zI _) (by first | rfl | exact nI_zI _) ?_ | refine G_S (pc := 1222) f_331_1222 rfl rfl rfl ?_
  refine G_iacN (pc := 1223) f_331_1223 (con_none hM (by omega)) hS (by omega) (by omega) rfl ?_
  refine G_S (pc := 1224) f_331_1224 rfl rfl rfl ?_
  refine G_S (pc := 1225) f_331_1225 rfl rfl rfl ?_
  refine G_ic (v := nI 2) (pc := 1226) f_331_1226 (by decide) ?_
  first | refine G_addN (pc := 1227) f_331_1227 ?_ | refine G_addZ (pc := 1227) f_331_1227 (by first | rfl | exact nI_zI _) (by first | rfl | exact nI_zI _) ?_ | refine G_S (pc := 1227) f_331_1227 rfl rfl rfl ?_
  refine G_iacN (pc := 1228) f_331_1228 (con_none hM (by omega)) hS (by omega) (by omega) rfl ?_
  refine G_CV (pc := 1229) f_331_1229 rfl rfl (by decide) rfl rfl (by first | assumption | exact hK.1 _ _ rfl) (by decide) ⟨Nat.le_of_ble_eq_true rfl, Nat.le_of_ble_eq_true rfl⟩ ?_
  refine CG.mono (h2) ?_
  rintro _ M2 ⟨rfl, hJ⟩
  refine G_jeq (pc := 1232) f_331_1232 rfl (fun b30 => ?_) (fun b30 => ?_)
  · exact K _ hJ
  · exact absurd rfl b30
theorem l_slack (hS : C 1000300 = some (50, L, xs)) (hi : i + 6 ≤ L) (hL : L ≤ 3072) (H : Jn M) (K : ∀ M', Jn M' → G C 331 (1448, [some (.ref 1000300), some (.ref 0), some (.ref 98), some (.int (nI i))], [], [], M') Q) : G C 331 (1237, [some (.ref 1000300), some (.ref 0), some (.ref 98), some (.int (nI i))], [], [], M) Q := by
  have hK := H.K
  have hM := H.len
  by_cases h0 : xs (i + 3) = 0
  · obtain ⟨w, h1⟩ := w_slack (C := C) (k := (xs (i + 1))) (x := (xs (i + 2))) (y := (nI 0)) H
    refine G_S (pc := 1237) f_331_1237 rfl rfl rfl ?_
    refine G_S (pc := 1238) f_331_1238 rfl rfl rfl ?_
    refine G_S (pc := 1239) f_331_1239 rfl rfl rfl ?_
    refine G_ic (v := nI 1) (pc := 1240) f_331_1240 (by decide) ?_
    first | refine G_addN (pc := 1241) f_331_1241 ?_ | refine G_addZ (pc := 1241) f_331_1241 (by first | rfl | exact nI_zI _) (by first | rfl | exact nI_zI _) ?_ | refine G_S (pc := 1241) f_331_1241 rfl rfl rfl ?_
    refine G_iacN (pc := 1242) f_331_1242 (con_none hM (by omega)) hS (by omega) (by omega) rfl ?_
    refine G_S (pc := 1243) f_331_1243 rfl rfl rfl ?_
    refine G_S (pc := 1244) f_331_1244 rfl rfl rfl ?_
    refine G_ic (v := nI 2) (pc := 1245) f_331_1245 (by decide) ?_
    first | refine G_addN (pc := 1246) f_331_1246 ?_ | refine G_addZ (pc := 1246) f_331_1246 (by first | rfl | exact nI_zI _) (by first | rfl | exact nI_zI _) ?_ | refine G_S (pc := 1246) f_331_1246 rfl rfl rfl ?_
    refine G_iacN (pc := 1247) f_331_1247 (con_none hM (by omega)) hS (by omega) (by omega) rfl ?_
    refine G_S (pc := 1248) f_331_1248 rfl rfl rfl ?_
    refine G_S (pc := 1249) f_331_1249 rfl rfl rfl ?_
    refine G_ic (v := nI 3) (pc := 1250) f_331_1250 (by decide) ?_
    first | refine G_addN (pc := 1251) f_331_1251 ?_ | refine G_addZ (pc := 1251) f_331_1251 (by first | rfl | exact nI_zI _) (by first | rfl | exact nI_zI _) ?_ | refine G_S (pc := 1251) f_331_1251 rfl rfl rfl ?_
    refine G_iacN (pc := 1252) f_331_1252 (con_none hM (by omega)) hS (by omega) (by omega) rfl ?_
    refine G_zeq (pc := 1253) f_331_1253 rfl (fun b31 => ?_) (fun b31 => ?_)
    · refine G_ic (v := nI 0) (pc := 1260) f_331_1260 (by decide) ?_
      refine G_CV (pc := 1261) f_331_1261 rfl rfl (by decide) rfl rfl (by first | assumption | exact hK.1 _ _ rfl) (by decide) ⟨Nat.le_of_ble_eq_true rfl, Nat.le_of_ble_eq_true rfl⟩ ?_
      refine CG.mono (h1) ?_
      rintro _ M1 ⟨rfl, ⟨hK, hM⟩, h2⟩
      refine G_S (pc := 1264) f_331_1264 rfl rfl rfl ?_
      refine G_S (pc := 1265) f_331_1265 rfl rfl rfl ?_
      refine G_S (pc := 1266) f_331_1266 rfl rfl rfl ?_
      refine G_ic (v := nI 1) (pc := 1267) f_331_1267 (by decide) ?_
      first | refine G_addN (pc := 1268) f_331_1268 ?_ | refine G_addZ (pc := 1268) f_331_1268 (by first | rfl | exact nI_zI _) (by first | rfl | exact nI_zI _) ?_ | refine G_S (pc := 1268) f_331_1268 rfl rfl rfl ?_
      refine G_iacN (pc := 1269) f_331_1269 (con_none hM (by omega)) hS (by omega) (by omega) rfl ?_
      refine G_S (pc := 1270) f_331_1270 rfl rfl rfl ?_
      refine G_S (pc := 1271) f_331_1271 rfl rfl rfl ?_
      refine G_ic (v := nI 2) (pc := 1272) f_331_1272 (by decide) ?_
      first | refine G_addN (pc := 1273) f_331_1273 ?_ | refine G_addZ (pc := 1273) f_331_1273 (by first | rfl | exact nI_zI _) (by first | rfl | exact nI_zI _) ?_ | refine G_S (pc := 1273) f_331_1273 rfl rfl rfl ?_
      refine G_iacN (pc := 1274) f_331_1274 (con_none hM (by omega)) hS (by omega) (by omega) rfl ?_
      refine G_S (pc := 1275) f_331_1275 rfl rfl rfl ?_
      refine G_S (pc := 1276) f_331_1276 rfl rfl rfl ?_
      refine G_ic (v := nI 3) (pc := 1277) f_331_1277 (by decide) ?_
      first | refine G_addN (pc := 1278) f_331_1278 ?_ | refine G_addZ (pc := 1278) f_331_1278 (by first | rfl | exact nI_zI _) (by first | rfl | exact nI_zI _) ?_ | refine G_S (pc := 1278) f_331_1278 rfl rfl rfl ?_
      refine G_iacN (pc := 1279) f_331_1279 (con_none hM (by omega)) hS (by omega) (by omega) rfl ?_
      refine G_zeq (pc := 1280) f_331_1280 rfl (fun b32 => ?_) (fun b32 => ?_)
      · refine G_ic (v := nI 0) (pc := 1287) f_331_1287 (by decide) ?_
        refine G_CV (pc := 1288) f_331_1288 rfl rfl (by decide) rfl rfl (by first | assumption | exact hK.1 _ _ rfl) (by decide) ⟨Nat.le_of_ble_eq_true rfl, Nat.le_of_ble_eq_true rfl⟩ ?_
        refine CG.mono (h2) ?_
        rintro _ M2 ⟨rfl, hJ⟩
        refine G_jeq (pc := 1291) f_331_1291 rfl (fun b33 => ?_) (fun b33 => ?_)
        · exact K _ hJ
        · exact absurd rfl b33
      · exact absurd h0 b32
    · exact absurd h0 b31
  · obtain ⟨w, h1⟩ := w_slack (C := C) (k := (xs (i + 1))) (x := (xs (i + 2))) (y := (nI 1)) H
    refine G_S (pc := 1237) f_331_1237 rfl rfl rfl ?_
    refine G_S (pc := 1238) f_331_1238 rfl rfl rfl ?_
    refine G_S (pc := 1239) f_331_1239 rfl rfl rfl ?_
    refine G_ic (v := nI 1) (pc := 1240) f_331_1240 (by decide) ?_
    first | refine G_addN (pc := 1241) f_331_1241 ?_ | refine G_addZ (pc := 1241) f_331_1241 (by first | rfl | exact nI_zI _) (by first | rfl | exact nI_zI _) ?_ | refine G_S (pc := 1241) f_331_1241 rfl rfl rfl ?_
    refine G_iacN (pc := 1242) f_331_1242 (con_none hM (by omega)) hS (by omega) (by omega) rfl ?_
    refine G_S (pc := 1243) f_331_1243 rfl rfl rfl ?_
    refine G_S (pc := 1244) f_331_1244 rfl rfl rfl ?_
    refine G_ic (v := nI 2) (pc := 1245) f_331_1245 (by decide) ?_
    first | refine G_addN (pc := 1246) f_331_1246 ?_ | refine G_addZ (pc := 1246) f_331_1246 (by first | rfl | exact nI_zI _) (by first | rfl | exact nI_zI _) ?_ | refine G_S (pc := 1246) f_331_1246 rfl rfl rfl ?_
    refine G_iacN (pc := 1247) f_331_1247 (con_none hM (by omega)) hS (by omega) (by omega) rfl ?_
    refine G_S (pc := 1248) f_331_1248 rfl rfl rfl ?_
    refine G_S (pc := 1249) f_331_1249 rfl rfl rfl ?_
    refine G_ic (v := nI 3) (pc := 1250) f_331_1250 (by decide) ?_
    first | refine G_addN (pc := 1251) f_331_1251 ?_ | refine G_addZ (pc := 1251) f_331_1251 (by first | rfl | exact nI_zI _) (by first | rfl | exact nI_zI _) ?_ | refine G_S (pc := 1251) f_331_1251 rfl rfl rfl ?_
    refine G_iacN (pc := 1252) f_331_1252 (con_none hM (by omega)) hS (by omega) (by omega) rfl ?_
    refine G_zeq (pc := 1253) f_331_1253 rfl (fun b31 => ?_) (fun b31 => ?_)
    · exact absurd b31 h0
    · refine G_ic (v := nI 1) (pc := 1256) f_331_1256 (by decide) ?_
      refine G_S (pc := 1257) f_331_1257 rfl rfl rfl ?_
      refine G_CV (pc := 1261) f_331_1261 rfl rfl (by decide) rfl rfl (by first | assumption | exact hK.1 _ _ rfl) (by decide) ⟨Nat.le_of_ble_eq_true rfl, Nat.le_of_ble_eq_true rfl⟩ ?_
      refine CG.mono (h1) ?_
      rintro _ M1 ⟨rfl, ⟨hK, hM⟩, h2⟩
      refine G_S (pc := 1264) f_331_1264 rfl rfl rfl ?_
      refine G_S (pc := 1265) f_331_1265 rfl rfl rfl ?_
      refine G_S (pc := 1266) f_331_1266 rfl rfl rfl ?_
      refine G_ic (v := nI 1) (pc := 1267) f_331_1267 (by decide) ?_
      first | refine G_addN (pc := 1268) f_331_1268 ?_ | refine G_addZ (pc := 1268) f_331_1268 (by first | rfl | exact nI_zI _) (by first | rfl | exact nI_zI _) ?_ | refine G_S (pc := 1268) f_331_1268 rfl rfl rfl ?_
      refine G_iacN (pc := 1269) f_331_1269 (con_none hM (by omega)) hS (by omega) (by omega) rfl ?_
      refine G_S (pc := 1270) f_331_1270 rfl rfl rfl ?_
      refine G_S (pc := 1271) f_331_1271 rfl rfl rfl ?_
      refine G_ic (v := nI 2) (pc := 1272) f_331_1272 (by decide) ?_
      first | refine G_addN (pc := 1273) f_331_1273 ?_ | refine G_addZ (pc := 1273) f_331_1273 (by first | rfl | exact nI_zI _) (by first | rfl | exact nI_zI _) ?_ | refine G_S (pc := 1273) f_331_1273 rfl rfl rfl ?_
      refine G_iacN (pc := 1274) f_331_1274 (con_none hM (by omega)) hS (by omega) (by omega) rfl ?_
      refine G_S (pc := 1275) f_331_1275 rfl rfl rfl ?_
      refine G_S (pc := 1276) f_331_1276 rfl rfl rfl ?_
      refine G_ic (v := nI 3) (pc := 1277) f_331_1277 (by decide) ?_
      first | refine G_addN (pc := 1278) f_331_1278 ?_ | refine G_addZ (pc := 1278) f_331_1278 (by first | rfl | exact nI_zI _) (by first | rfl | exact nI_zI _) ?_ | refine G_S (pc := 1278) f_331_1278 rfl rfl rfl ?_
      refine G_iacN (pc := 1279) f_331_1279 (con_none hM (by omega)) hS (by omega) (by omega) rfl ?_
      refine G_zeq (pc := 1280) f_331_1280 rfl (fun b32 => ?_) (fun b32 => ?_)
      · exact absurd b32 h0
      · refine G_ic (v := nI 1) (pc := 1283) f_331_1283 (by decide) ?_
        refine G_S (pc := 1284) f_331_1284 rfl rfl rfl ?_
        refine G_CV (pc := 1288) f_331_1288 rfl rfl (by decide) rfl rfl (by first | assumption | exact hK.1 _ _ rfl) (by decide) ⟨Nat.le_of_ble_eq_true rfl, Nat.le_of_ble_eq_true rfl⟩ ?_
        refine CG.mono (h2) ?_
        rintro _ M2 ⟨rfl, hJ⟩
        refine G_jeq (pc := 1291) f_331_1291 rfl (fun b33 => ?_) (fun b33 => ?_)
        · exact K _ hJ
        · exact absurd rfl b33
theorem l_orders (hS : C 1000300 = some (50, L, xs)) (hi : i + 6 ≤ L) (hL : L ≤ 3072) (H : Jn M) (K : ∀ M', Jn M' → G C 331 (1448, [some (.ref 1000300), some (.ref 0), some (.ref 98), some (.int (nI i))], [], [], M') Q) : G C 331 (1296, [some (.ref 1000300), some (.ref 0), some (.ref 98), some (.int (nI i))], [], [], M) Q := by
  have hK := H.K
  have hM := H.len
  obtain ⟨w, h1⟩ := w_orders (C := C) (k := (xs (i + 1))) (x := (xs (i + 2))) H
  refine G_S (pc := 1296) f_331_1296 rfl rfl rfl ?_
  refine G_S (pc := 1297) f_331_1297 rfl rfl rfl ?_
  refine G_S (pc := 1298) f_331_1298 rfl rfl rfl ?_
  refine G_ic (v := nI 1) (pc := 1299) f_331_1299 (by decide) ?_
  first | refine G_addN (pc := 1300) f_331_1300 ?_ | refine G_addZ (pc := 1300) f_331_1300 (by first | rfl | exact nI_zI _) (by first | rfl | exact nI_zI _) ?_ | refine G_S (pc := 1300) f_331_1300 rfl rfl rfl ?_
  refine G_iacN (pc := 1301) f_331_1301 (con_none hM (by omega)) hS (by omega) (by omega) rfl ?_
  refine G_S (pc := 1302) f_331_1302 rfl rfl rfl ?_
  refine G_S (pc := 1303) f_331_1303 rfl rfl rfl ?_
  refine G_ic (v := nI 2) (pc := 1304) f_331_1304 (by decide) ?_
  first | refine G_addN (pc := 1305) f_331_1305 ?_ | refine G_addZ (pc := 1305) f_331_1305 (by first | rfl | exact nI_zI _) (by first | rfl | exact nI_zI _) ?_ | refine G_S (pc := 1305) f_331_1305 rfl rfl rfl ?_
  refine G_iacN (pc := 1306) f_331_1306 (con_none hM (by omega)) hS (by omega) (by omega) rfl ?_
  refine G_CV (pc := 1307) f_331_1307 rfl rfl (by decide) rfl rfl (by first | assumption | exact hK.1 _ _ rfl) (by decide) ⟨Nat.le_of_ble_eq_true rfl, Nat.le_of_ble_eq_true rfl⟩ ?_
  refine CG.mono (h1) ?_
  rintro _ M1 ⟨rfl, ⟨hK, hM⟩, h2⟩
  refine G_S (pc := 1310) f_331_1310 rfl rfl rfl ?_
  refine G_S (pc := 1311) f_331_1311 rfl rfl rfl ?_
  refine G_S (pc := 1312) f_331_1312 rfl rfl rfl ?_
  refine G_ic (v := nI 1) (pc := 1313) f_331_1313 (by decide) ?_
  first | refine G_addN (pc := 1314) f_331_1314 ?_ | refine G_addZ (pc := 1314) f_331_1314 (by first | rfl | exact nI_zI _) (by first | rfl | exact nI_zI _) ?_ | refine G_S (pc := 1314) f_331_1314 rfl rfl rfl ?_
  refine G_iacN (pc := 1315) f_331_1315 (con_none hM (by omega)) hS (by omega) (by omega) rfl ?_
  refine G_S (pc := 1316) f_331_1316 rfl rfl rfl ?_
  refine G_S (pc := 1317) f_331_1317 rfl rfl rfl ?_
  refine G_ic (v := nI 2) (pc := 1318) f_331_1318 (by decide) ?_
  first | refine G_addN (pc := 1319) f_331_1319 ?_ | refine G_addZ (pc := 1319) f_331_1319 (by first | rfl | exact nI_zI _) (by first | rfl | exact nI_zI _) ?_ | refine G_S (pc := 1319) f_331_1319 rfl rfl rfl ?_
  refine G_iacN (pc := 1320) f_331_1320 (con_none hM (by omega)) hS (by omega) (by omega) rfl ?_
  refine G_CV (pc := 1321) f_331_1321 rfl rfl (by decide) rfl rfl (by first | assumption | exact hK.1 _ _ rfl) (by decide) ⟨Nat.le_of_ble_eq_true rfl, Nat.le_of_ble_eq_true rfl⟩ ?_
  refine CG.mono (h2) ?_
  rintro _ M2 ⟨rfl, hJ⟩
  refine G_S (pc := 1324) f_331_1324 rfl rfl rfl ?_
  refine G_zeq (pc := 1325) f_331_1325 rfl (fun b34 => ?_) (fun b34 => ?_)
  · exact K _ hJ
  · exact absurd (lgc0 w) b34
theorem l_halves (hS : C 1000300 = some (50, L, xs)) (hi : i + 6 ≤ L) (hL : L ≤ 3072) (H : Jn M) (K : ∀ M', Jn M' → G C 331 (1448, [some (.ref 1000300), some (.ref 0), some (.ref 98), some (.int (nI i))], [], [], M') Q) : G C 331 (1330, [some (.ref 1000300), some (.ref 0), some (.ref 98), some (.int (nI i))], [], [], M) Q := by
  have hK := H.K
  have hM := H.len
  by_cases h0 : xs (i + 2) = 0
  · obtain ⟨w, h1⟩ := w_halves (C := C) (k := (xs (i + 1))) (x := (nI 0)) H
    refine G_S (pc := 1330) f_331_1330 rfl rfl rfl ?_
    refine G_S (pc := 1331) f_331_1331 rfl rfl rfl ?_
    refine G_S (pc := 1332) f_331_1332 rfl rfl rfl ?_
    refine G_ic (v := nI 1) (pc := 1333) f_331_1333 (by decide) ?_
    first | refine G_addN (pc := 1334) f_331_1334 ?_ | refine G_addZ (pc := 1334) f_331_1334 (by first | rfl | exact nI_zI _) (by first | rfl | exact nI_zI _) ?_ | refine G_S (pc := 1334) f_331_1334 rfl rfl rfl ?_
    refine G_iacN (pc := 1335) f_331_1335 (con_none hM (by omega)) hS (by omega) (by omega) rfl ?_
    refine G_S (pc := 1336) f_331_1336 rfl rfl rfl ?_
    refine G_S (pc := 1337) f_331_1337 rfl rfl rfl ?_
    refine G_ic (v := nI 2) (pc := 1338) f_331_1338 (by decide) ?_
    first | refine G_addN (pc := 1339) f_331_1339 ?_ | refine G_addZ (pc := 1339) f_331_1339 (by first | rfl | exact nI_zI _) (by first | rfl | exact nI_zI _) ?_ | refine G_S (pc := 1339) f_331_1339 rfl rfl rfl ?_
    refine G_iacN (pc := 1340) f_331_1340 (con_none hM (by omega)) hS (by omega) (by omega) rfl ?_
    refine G_zeq (pc := 1341) f_331_1341 rfl (fun b35 => ?_) (fun b35 => ?_)
    · refine G_ic (v := nI 0) (pc := 1348) f_331_1348 (by decide) ?_
      refine G_CV (pc := 1349) f_331_1349 rfl rfl (by decide) rfl rfl (by first | assumption | exact hK.1 _ _ rfl) (by decide) ⟨Nat.le_of_ble_eq_true rfl, Nat.le_of_ble_eq_true rfl⟩ ?_
      refine CG.mono (h1) ?_
      rintro _ M1 ⟨rfl, ⟨hK, hM⟩, h2⟩
      refine G_S (pc := 1352) f_331_1352 rfl rfl rfl ?_
      refine G_S (pc := 1353) f_331_1353 rfl rfl rfl ?_
      refine G_S (pc := 1354) f_331_1354 rfl rfl rfl ?_
      refine G_ic (v := nI 1) (pc := 1355) f_331_1355 (by decide) ?_
      first | refine G_addN (pc := 1356) f_331_1356 ?_ | refine G_addZ (pc := 1356) f_331_1356 (by first | rfl | exact nI_zI _) (by first | rfl | exact nI_zI _) ?_ | refine G_S (pc := 1356) f_331_1356 rfl rfl rfl ?_
      refine G_iacN (pc := 1357) f_331_1357 (con_none hM (by omega)) hS (by omega) (by omega) rfl ?_
      refine G_S (pc := 1358) f_331_1358 rfl rfl rfl ?_
      refine G_S (pc := 1359) f_331_1359 rfl rfl rfl ?_
      refine G_ic (v := nI 2) (pc := 1360) f_331_1360 (by decide) ?_
      first | refine G_addN (pc := 1361) f_331_1361 ?_ | refine G_addZ (pc := 1361) f_331_1361 (by first | rfl | exact nI_zI _) (by first | rfl | exact nI_zI _) ?_ | refine G_S (pc := 1361) f_331_1361 rfl rfl rfl ?_
      refine G_iacN (pc := 1362) f_331_1362 (con_none hM (by omega)) hS (by omega) (by omega) rfl ?_
      refine G_zeq (pc := 1363) f_331_1363 rfl (fun b36 => ?_) (fun b36 => ?_)
      · refine G_ic (v := nI 0) (pc := 1370) f_331_1370 (by decide) ?_
        refine G_CV (pc := 1371) f_331_1371 rfl rfl (by decide) rfl rfl (by first | assumption | exact hK.1 _ _ rfl) (by decide) ⟨Nat.le_of_ble_eq_true rfl, Nat.le_of_ble_eq_true rfl⟩ ?_
        refine CG.mono (h2) ?_
        rintro _ M2 ⟨rfl, hJ⟩
        refine G_jeq (pc := 1374) f_331_1374 rfl (fun b37 => ?_) (fun b37 => ?_)
        · exact K _ hJ
        · exact absurd rfl b37
      · exact absurd h0 b36
    · exact absurd h0 b35
  · obtain ⟨w, h1⟩ := w_halves (C := C) (k := (xs (i + 1))) (x := (nI 1)) H
    refine G_S (pc := 1330) f_331_1330 rfl rfl rfl ?_
    refine G_S (pc := 1331) f_331_1331 rfl rfl rfl ?_
    refine G_S (pc := 1332) f_331_1332 rfl rfl rfl ?_
    refine G_ic (v := nI 1) (pc := 1333) f_331_1333 (by decide) ?_
    first | refine G_addN (pc := 1334) f_331_1334 ?_ | refine G_addZ (pc := 1334) f_331_1334 (by first | rfl | exact nI_zI _) (by first | rfl | exact nI_zI _) ?_ | refine G_S (pc := 1334) f_331_1334 rfl rfl rfl ?_
    refine G_iacN (pc := 1335) f_331_1335 (con_none hM (by omega)) hS (by omega) (by omega) rfl ?_
    refine G_S (pc := 1336) f_331_1336 rfl rfl rfl ?_
    refine G_S (pc := 1337) f_331_1337 rfl rfl rfl ?_
    refine G_ic (v := nI 2) (pc := 1338) f_331_1338 (by decide) ?_
    first | refine G_addN (pc := 1339) f_331_1339 ?_ | refine G_addZ (pc := 1339) f_331_1339 (by first | rfl | exact nI_zI _) (by first | rfl | exact nI_zI _) ?_ | refine G_S (pc := 1339) f_331_1339 rfl rfl rfl ?_
    refine G_iacN (pc := 1340) f_331_1340 (con_none hM (by omega)) hS (by omega) (by omega) rfl ?_
    refine G_zeq (pc := 1341) f_331_1341 rfl (fun b35 => ?_) (fun b35 => ?_)
    · exact absurd b35 h0
    · refine G_ic (v := nI 1) (pc := 1344) f_331_1344 (by decide) ?_
      refine G_S (pc := 1345) f_331_1345 rfl rfl rfl ?_
      refine G_CV (pc := 1349) f_331_1349 rfl rfl (by decide) rfl rfl (by first | assumption | exact hK.1 _ _ rfl) (by decide) ⟨Nat.le_of_ble_eq_true rfl, Nat.le_of_ble_eq_true rfl⟩ ?_
      refine CG.mono (h1) ?_
      rintro _ M1 ⟨rfl, ⟨hK, hM⟩, h2⟩
      refine G_S (pc := 1352) f_331_1352 rfl rfl rfl ?_
      refine G_S (pc := 1353) f_331_1353 rfl rfl rfl ?_
      refine G_S (pc := 1354) f_331_1354 rfl rfl rfl ?_
      refine G_ic (v := nI 1) (pc := 1355) f_331_1355 (by decide) ?_
      first | refine G_addN (pc := 1356) f_331_1356 ?_ | refine G_addZ (pc := 1356) f_331_1356 (by first | rfl | exact nI_zI _) (by first | rfl | exact nI_zI _) ?_ | refine G_S (pc := 1356) f_331_1356 rfl rfl rfl ?_
      refine G_iacN (pc := 1357) f_331_1357 (con_none hM (by omega)) hS (by omega) (by omega) rfl ?_
      refine G_S (pc := 1358) f_331_1358 rfl rfl rfl ?_
      refine G_S (pc := 1359) f_331_1359 rfl rfl rfl ?_
      refine G_ic (v := nI 2) (pc := 1360) f_331_1360 (by decide) ?_
      first | refine G_addN (pc := 1361) f_331_1361 ?_ | refine G_addZ (pc := 1361) f_331_1361 (by first | rfl | exact nI_zI _) (by first | rfl | exact nI_zI _) ?_ | refine G_S (pc := 1361) f_331_1361 rfl rfl rfl ?_
      refine G_iacN (pc := 1362) f_331_1362 (con_none hM (by omega)) hS (by omega) (by omega) rfl ?_
      refine G_zeq (pc := 1363) f_331_1363 rfl (fun b36 => ?_) (fun b36 => ?_)
      · exact absurd b36 h0
      · refine G_ic (v := nI 1) (pc := 1366) f_331_1366 (by decide) ?_
        refine G_S (pc := 1367) f_331_1367 rfl rfl rfl ?_
        refine G_CV (pc := 1371) f_331_1371 rfl rfl (by decide) rfl rfl (by first | assumption | exact hK.1 _ _ rfl) (by decide) ⟨Nat.le_of_ble_eq_true rfl, Nat.le_of_ble_eq_true rfl⟩ ?_
        refine CG.mono (h2) ?_
        rintro _ M2 ⟨rfl, hJ⟩
        refine G_jeq (pc := 1374) f_331_1374 rfl (fun b37 => ?_) (fun b37 => ?_)
        · exact K _ hJ
        · exact absurd rfl b37
theorem l_count (hS : C 1000300 = some (50, L, xs)) (hi : i + 6 ≤ L) (hL : L ≤ 3072) (H : Jn M) (K : ∀ M', Jn M' → G C 331 (1448, [some (.ref 1000300), some (.ref 0), some (.ref 98), some (.int (nI i))], [], [], M') Q) : G C 331 (1379, [some (.ref 1000300), some (.ref 0), some (.ref 98), some (.int (nI i))], [], [], M) Q := by
  have hK := H.K
  have hM := H.len
  obtain ⟨w, h1⟩ := w_count (C := C) (x := (xs (i + 1))) H
  refine G_S (pc := 1379) f_331_1379 rfl rfl rfl ?_
  refine G_S (pc := 1380) f_331_1380 rfl rfl rfl ?_
  refine G_S (pc := 1381) f_331_1381 rfl rfl rfl ?_
  refine G_ic (v := nI 1) (pc := 1382) f_331_1382 (by decide) ?_
  first | refine G_addN (pc := 1383) f_331_1383 ?_ | refine G_addZ (pc := 1383) f_331_1383 (by first | rfl | exact nI_zI _) (by first | rfl | exact nI_zI _) ?_ | refine G_S (pc := 1383) f_331_1383 rfl rfl rfl ?_
  refine G_iacN (pc := 1384) f_331_1384 (con_none hM (by omega)) hS (by omega) (by omega) rfl ?_
  refine G_CV (pc := 1385) f_331_1385 rfl rfl (by decide) rfl rfl (by first | assumption | exact hK.1 _ _ rfl) (by decide) ⟨Nat.le_of_ble_eq_true rfl, Nat.le_of_ble_eq_true rfl⟩ ?_
  refine CG.mono (h1) ?_
  rintro _ M1 ⟨rfl, ⟨hK, hM⟩, h2⟩
  refine G_S (pc := 1388) f_331_1388 rfl rfl rfl ?_
  refine G_S (pc := 1389) f_331_1389 rfl rfl rfl ?_
  refine G_S (pc := 1390) f_331_1390 rfl rfl rfl ?_
  refine G_ic (v := nI 1) (pc := 1391) f_331_1391 (by decide) ?_
  first | refine G_addN (pc := 1392) f_331_1392 ?_ | refine G_addZ (pc := 1392) f_331_1392 (by first | rfl | exact nI_zI _) (by first | rfl | exact nI_zI _) ?_ | refine G_S (pc := 1392) f_331_1392 rfl rfl rfl ?_
  refine G_iacN (pc := 1393) f_331_1393 (con_none hM (by omega)) hS (by omega) (by omega) rfl ?_
  refine G_CV (pc := 1394) f_331_1394 rfl rfl (by decide) rfl rfl (by first | assumption | exact hK.1 _ _ rfl) (by decide) ⟨Nat.le_of_ble_eq_true rfl, Nat.le_of_ble_eq_true rfl⟩ ?_
  refine CG.mono (h2) ?_
  rintro _ M2 ⟨rfl, hJ⟩
  refine G_jeq (pc := 1397) f_331_1397 rfl (fun b38 => ?_) (fun b38 => ?_)
  · exact K _ hJ
  · exact absurd rfl b38
theorem l_image (hS : C 1000300 = some (50, L, xs)) (hi : i + 6 ≤ L) (hL : L ≤ 3072) (H : Jn M) (K : ∀ M', Jn M' → G C 331 (1448, [some (.ref 1000300), some (.ref 0), some (.ref 98), some (.int (nI i))], [], [], M') Q) : G C 331 (1402, [some (.ref 1000300), some (.ref 0), some (.ref 98), some (.int (nI i))], [], [], M) Q := by
  have hK := H.K
  have hM := H.len
  obtain ⟨w, h1⟩ := w_image (C := C) (k := (xs (i + 1))) H
  refine G_S (pc := 1402) f_331_1402 rfl rfl rfl ?_
  refine G_S (pc := 1403) f_331_1403 rfl rfl rfl ?_
  refine G_S (pc := 1404) f_331_1404 rfl rfl rfl ?_
  refine G_ic (v := nI 1) (pc := 1405) f_331_1405 (by decide) ?_
  first | refine G_addN (pc := 1406) f_331_1406 ?_ | refine G_addZ (pc := 1406) f_331_1406 (by first | rfl | exact nI_zI _) (by first | rfl | exact nI_zI _) ?_ | refine G_S (pc := 1406) f_331_1406 rfl rfl rfl ?_
  refine G_iacN (pc := 1407) f_331_1407 (con_none hM (by omega)) hS (by omega) (by omega) rfl ?_
  refine G_CV (pc := 1408) f_331_1408 rfl rfl (by decide) rfl rfl (by first | assumption | exact hK.1 _ _ rfl) (by decide) ⟨Nat.le_of_ble_eq_true rfl, Nat.le_of_ble_eq_true rfl⟩ ?_
  refine CG.mono (h1) ?_
  rintro _ M1 ⟨rfl, ⟨hK, hM⟩, h2⟩
  refine G_S (pc := 1411) f_331_1411 rfl rfl rfl ?_
  refine G_S (pc := 1412) f_331_1412 rfl rfl rfl ?_
  refine G_S (pc := 1413) f_331_1413 rfl rfl rfl ?_
  refine G_ic (v := nI 1) (pc := 1414) f_331_1414 (by decide) ?_
  first | refine G_addN (pc := 1415) f_331_1415 ?_ | refine G_addZ (pc := 1415) f_331_1415 (by first | rfl | exact nI_zI _) (by first | rfl | exact nI_zI _) ?_ | refine G_S (pc := 1415) f_331_1415 rfl rfl rfl ?_
  refine G_iacN (pc := 1416) f_331_1416 (con_none hM (by omega)) hS (by omega) (by omega) rfl ?_
  refine G_CV (pc := 1417) f_331_1417 rfl rfl (by decide) rfl rfl (by first | assumption | exact hK.1 _ _ rfl) (by decide) ⟨Nat.le_of_ble_eq_true rfl, Nat.le_of_ble_eq_true rfl⟩ ?_
  refine CG.mono (h2) ?_
  rintro _ M2 ⟨rfl, hJ⟩
  refine G_jeq (pc := 1420) f_331_1420 rfl (fun b39 => ?_) (fun b39 => ?_)
  · exact K _ hJ
  · exact absurd rfl b39
theorem l_again (hS : C 1000300 = some (50, L, xs)) (hi : i + 6 ≤ L) (hL : L ≤ 3072) (H : Jn M) (K : ∀ M', Jn M' → G C 331 (1448, [some (.ref 1000300), some (.ref 0), some (.ref 98), some (.int (nI i))], [], [], M') Q) : G C 331 (1425, [some (.ref 1000300), some (.ref 0), some (.ref 98), some (.int (nI i))], [], [], M) Q := by
  have hK := H.K
  have hM := H.len
  obtain ⟨w, h1⟩ := w_again (C := C) (k := (xs (i + 1))) H
  refine G_S (pc := 1425) f_331_1425 rfl rfl rfl ?_
  refine G_S (pc := 1426) f_331_1426 rfl rfl rfl ?_
  refine G_S (pc := 1427) f_331_1427 rfl rfl rfl ?_
  refine G_ic (v := nI 1) (pc := 1428) f_331_1428 (by decide) ?_
  first | refine G_addN (pc := 1429) f_331_1429 ?_ | refine G_addZ (pc := 1429) f_331_1429 (by first | rfl | exact nI_zI _) (by first | rfl | exact nI_zI _) ?_ | refine G_S (pc := 1429) f_331_1429 rfl rfl rfl ?_
  refine G_iacN (pc := 1430) f_331_1430 (con_none hM (by omega)) hS (by omega) (by omega) rfl ?_
  refine G_CV (pc := 1431) f_331_1431 rfl rfl (by decide) rfl rfl (by first | assumption | exact hK.1 _ _ rfl) (by decide) ⟨Nat.le_of_ble_eq_true rfl, Nat.le_of_ble_eq_true rfl⟩ ?_
  refine CG.mono (h1) ?_
  rintro _ M1 ⟨rfl, ⟨hK, hM⟩, h2⟩
  refine G_S (pc := 1434) f_331_1434 rfl rfl rfl ?_
  refine G_S (pc := 1435) f_331_1435 rfl rfl rfl ?_
  refine G_S (pc := 1436) f_331_1436 rfl rfl rfl ?_
  refine G_ic (v := nI 1) (pc := 1437) f_331_1437 (by decide) ?_
  first | refine G_addN (pc := 1438) f_331_1438 ?_ | refine G_addZ (pc := 1438) f_331_1438 (by first | rfl | exact nI_zI _) (by first | rfl | exact nI_zI _) ?_ | refine G_S (pc := 1438) f_331_1438 rfl rfl rfl ?_
  refine G_iacN (pc := 1439) f_331_1439 (con_none hM (by omega)) hS (by omega) (by omega) rfl ?_
  refine G_CV (pc := 1440) f_331_1440 rfl rfl (by decide) rfl rfl (by first | assumption | exact hK.1 _ _ rfl) (by decide) ⟨Nat.le_of_ble_eq_true rfl, Nat.le_of_ble_eq_true rfl⟩ ?_
  refine CG.mono (h2) ?_
  rintro _ M2 ⟨rfl, hJ⟩
  refine G_jeq (pc := 1443) f_331_1443 rfl (fun b40 => ?_) (fun b40 => ?_)
  · exact K _ hJ
  · exact absurd rfl b40
end LAWC
