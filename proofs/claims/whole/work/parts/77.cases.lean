theorem ok_e {α : Type} {o : α × zSt} {x : α} {s1 : zSt} (e : o = (x, s1)) (hk : okSt o.2) : okSt s1 := by
  rw [e] at hk
  exact hk

set_option maxHeartbeats 1000000 in
set_option maxRecDepth 100000 in
theorem l_law_0 (B : zBB) (X : zX) (b L : Nat) (xs : Nat → Int32) (hS : lwS X b L xs) (hL : L ≤ 3584) (A D : Nat → Nat) (hA : zInj A) (hD : zInj D) (J : zDj A D) (i : Nat) (hi : i + 7 ≤ L) (s : zSt) (h : zHp) (hI : lwI B A D s h) (kk : ∀ (s1 : zSt) (h2 : zHp), lwI B A D s1 h2 → zG X mL_law B (10, 101, 2916) (101, 2916) 1405 [(3, .int (nI i)), (2, .ref (D 0)), (1, .ref (A 0)), (0, .ref b)] [] h2) : zG X mL_law B (10, 101, 2916) (101, 2916) 180 [(3, .int (nI i)), (2, .ref (D 0)), (1, .ref (A 0)), (0, .ref b)] [] h := by
  obtain ⟨hs, R, M⟩ := hI
  refine zi_aload_n 181 dL_law_180 rfl rfl ?_
  refine zi_aload_n 182 dL_law_181 rfl rfl ?_
  refine zi_iload_n 183 dL_law_182 rfl rfl ?_
  refine zi_iconst (v := 1) 184 dL_law_183 (by decide) rfl ?_
  refine zi_iadd 185 dL_law_184 rfl ?_
  refine zi_sld 186 dL_law_185 hS (li_1 hi hL) rfl ?_
  refine zi_aload_n 187 dL_law_186 rfl rfl ?_
  refine zi_iload_n 188 dL_law_187 rfl rfl ?_
  refine zi_iconst (v := 2) 189 dL_law_188 (by decide) rfl ?_
  refine zi_iadd 190 dL_law_189 rfl ?_
  refine zi_sld 191 dL_law_190 hS (li_2 hi hL) rfl ?_
  refine zi_aload_n 192 dL_law_191 rfl rfl ?_
  refine zi_iload_n 193 dL_law_192 rfl rfl ?_
  refine zi_iconst (v := 3) 194 dL_law_193 (by decide) rfl ?_
  refine zi_iadd 195 dL_law_194 rfl ?_
  refine zi_sld 196 dL_law_195 hS (li_3 hi hL) rfl ?_
  refine zc_virtual (n' := (101, 2916)) (md' := mX10_tray) 199 dL_law_196 tw_350 zv_X10_tray zcl_X10 (s_X10_tray B h A hA s hs R (xs (nI i + 1).toNatClampNeg) (xs (nI i + 2).toNatClampNeg) (xs (nI i + 3).toNatClampNeg)) R.1 rfl rfl rfl rfl rfl rfl rfl rfl (zk_i fun r1 h1 hp => ?_)
  obtain ⟨s1, e1, R1, U1⟩ := hp
  have M1 := rRm_U J U1 M
  obtain ⟨fD, hD0⟩ := rX_hd M1
  refine zi_aload_n 200 dL_law_199 rfl rfl ?_
  refine zi_aload_n 201 dL_law_200 rfl rfl ?_
  refine zi_iload_n 202 dL_law_201 rfl rfl ?_
  refine zi_iconst (v := 1) 203 dL_law_202 (by decide) rfl ?_
  refine zi_iadd 204 dL_law_203 rfl ?_
  refine zi_sld 205 dL_law_204 hS (li_1 hi hL) rfl ?_
  refine zi_aload_n 206 dL_law_205 rfl rfl ?_
  refine zi_iload_n 207 dL_law_206 rfl rfl ?_
  refine zi_iconst (v := 2) 208 dL_law_207 (by decide) rfl ?_
  refine zi_iadd 209 dL_law_208 rfl ?_
  refine zi_sld 210 dL_law_209 hS (li_2 hi hL) rfl ?_
  refine zi_aload_n 211 dL_law_210 rfl rfl ?_
  refine zi_iload_n 212 dL_law_211 rfl rfl ?_
  refine zi_iconst (v := 3) 213 dL_law_212 (by decide) rfl ?_
  refine zi_iadd 214 dL_law_213 rfl ?_
  refine zi_sld 215 dL_law_214 hS (li_3 hi hL) rfl ?_
  refine zc_virtual (n' := (101, 2916)) (md' := mX11_tray) 218 dL_law_215 tw_898 zv_X11_tray zcl_X11 (s_X11_tray B h1 D hD s hs M1 (xs (nI i + 1).toNatClampNeg) (xs (nI i + 2).toNatClampNeg) (xs (nI i + 3).toNatClampNeg)) hD0 rfl rfl rfl rfl rfl rfl rfl rfl (zk_i fun r2 h2 hp2 => ?_)
  obtain ⟨s2, e2, M2, U2⟩ := hp2
  obtain ⟨rfl, rfl⟩ := Prod.mk.inj (e1.symm.trans e2)
  have R2 := zRc_U J U2 R1
  refine zi_icmp_eq 221 1405 dL_law_218 (by decide) rfl (fun zz => ?_) (fun zz => absurd rfl zz)
  exact kk s1 h2 ⟨ok_e e1 (ok_tray _ _ _ hs), R2, M2⟩

set_option maxHeartbeats 1000000 in
set_option maxRecDepth 100000 in
theorem l_law_1 (B : zBB) (X : zX) (b L : Nat) (xs : Nat → Int32) (hS : lwS X b L xs) (hL : L ≤ 3584) (A D : Nat → Nat) (hA : zInj A) (hD : zInj D) (J : zDj A D) (i : Nat) (hi : i + 7 ≤ L) (s : zSt) (h : zHp) (hI : lwI B A D s h) (kk : ∀ (s1 : zSt) (h2 : zHp), lwI B A D s1 h2 → zG X mL_law B (10, 101, 2916) (101, 2916) 1405 [(3, .int (nI i)), (2, .ref (D 0)), (1, .ref (A 0)), (0, .ref b)] [] h2) : zG X mL_law B (10, 101, 2916) (101, 2916) 223 [(3, .int (nI i)), (2, .ref (D 0)), (1, .ref (A 0)), (0, .ref b)] [] h := by
  obtain ⟨hs, R, M⟩ := hI
  refine zi_aload_n 224 dL_law_223 rfl rfl ?_
  refine zi_aload_n 225 dL_law_224 rfl rfl ?_
  refine zi_iload_n 226 dL_law_225 rfl rfl ?_
  refine zi_iconst (v := 1) 227 dL_law_226 (by decide) rfl ?_
  refine zi_iadd 228 dL_law_227 rfl ?_
  refine zi_sld 229 dL_law_228 hS (li_1 hi hL) rfl ?_
  refine zi_aload_n 230 dL_law_229 rfl rfl ?_
  refine zi_iload_n 231 dL_law_230 rfl rfl ?_
  refine zi_iconst (v := 2) 232 dL_law_231 (by decide) rfl ?_
  refine zi_iadd 233 dL_law_232 rfl ?_
  refine zi_sld 234 dL_law_233 hS (li_2 hi hL) rfl ?_
  refine zi_aload_n 235 dL_law_234 rfl rfl ?_
  refine zi_iload_n 236 dL_law_235 rfl rfl ?_
  refine zi_iconst (v := 3) 237 dL_law_236 (by decide) rfl ?_
  refine zi_iadd 238 dL_law_237 rfl ?_
  refine zi_sld 239 dL_law_238 hS (li_3 hi hL) rfl ?_
  refine zi_i2l 240 dL_law_239 rfl ?_
  refine zi_bipush (v := 32) 242 dL_law_240 (by decide) rfl ?_
  refine zi_lshl 243 dL_law_242 rfl ?_
  refine zi_aload_n 244 dL_law_243 rfl rfl ?_
  refine zi_iload_n 245 dL_law_244 rfl rfl ?_
  refine zi_iconst (v := 4) 246 dL_law_245 (by decide) rfl ?_
  refine zi_iadd 247 dL_law_246 rfl ?_
  refine zi_sld 248 dL_law_247 hS (li_4 hi hL) rfl ?_
  refine zi_i2l 249 dL_law_248 rfl ?_
  refine zi_ldc2 252 dL_law_249 tw_1189 rfl ?_
  refine zi_land 253 dL_law_252 rfl ?_
  refine zi_lor 254 dL_law_253 rfl ?_
  refine zc_virtual (n' := (101, 2916)) (md' := mX10_set) 257 dL_law_254 tw_371 zv_X10_set zcl_X10 (s_X10_set B h A hA s hs R (xs (nI i + 1).toNatClampNeg) (xs (nI i + 2).toNatClampNeg) _) R.1 rfl rfl rfl rfl rfl rfl rfl rfl (zk_l fun r1 h1 hp => ?_)
  obtain ⟨s1, e1, R1, U1⟩ := hp
  have M1 := rRm_U J U1 M
  obtain ⟨fD, hD0⟩ := rX_hd M1
  refine zi_aload_n 258 dL_law_257 rfl rfl ?_
  refine zi_aload_n 259 dL_law_258 rfl rfl ?_
  refine zi_iload_n 260 dL_law_259 rfl rfl ?_
  refine zi_iconst (v := 1) 261 dL_law_260 (by decide) rfl ?_
  refine zi_iadd 262 dL_law_261 rfl ?_
  refine zi_sld 263 dL_law_262 hS (li_1 hi hL) rfl ?_
  refine zi_aload_n 264 dL_law_263 rfl rfl ?_
  refine zi_iload_n 265 dL_law_264 rfl rfl ?_
  refine zi_iconst (v := 2) 266 dL_law_265 (by decide) rfl ?_
  refine zi_iadd 267 dL_law_266 rfl ?_
  refine zi_sld 268 dL_law_267 hS (li_2 hi hL) rfl ?_
  refine zi_aload_n 269 dL_law_268 rfl rfl ?_
  refine zi_iload_n 270 dL_law_269 rfl rfl ?_
  refine zi_iconst (v := 3) 271 dL_law_270 (by decide) rfl ?_
  refine zi_iadd 272 dL_law_271 rfl ?_
  refine zi_sld 273 dL_law_272 hS (li_3 hi hL) rfl ?_
  refine zi_i2l 274 dL_law_273 rfl ?_
  refine zi_bipush (v := 32) 276 dL_law_274 (by decide) rfl ?_
  refine zi_lshl 277 dL_law_276 rfl ?_
  refine zi_aload_n 278 dL_law_277 rfl rfl ?_
  refine zi_iload_n 279 dL_law_278 rfl rfl ?_
  refine zi_iconst (v := 4) 280 dL_law_279 (by decide) rfl ?_
  refine zi_iadd 281 dL_law_280 rfl ?_
  refine zi_sld 282 dL_law_281 hS (li_4 hi hL) rfl ?_
  refine zi_i2l 283 dL_law_282 rfl ?_
  refine zi_ldc2 286 dL_law_283 tw_1189 rfl ?_
  refine zi_land 287 dL_law_286 rfl ?_
  refine zi_lor 288 dL_law_287 rfl ?_
  refine zc_virtual (n' := (101, 2916)) (md' := mX11_set) 291 dL_law_288 tw_920 zv_X11_set zcl_X11 (s_X11_set B h1 D hD s hs M1 (xs (nI i + 1).toNatClampNeg) (xs (nI i + 2).toNatClampNeg) _) hD0 rfl rfl rfl rfl rfl rfl rfl rfl (zk_l fun r2 h2 hp2 => ?_)
  obtain ⟨s2, e2, M2, U2⟩ := hp2
  obtain ⟨rfl, rfl⟩ := Prod.mk.inj (e1.symm.trans e2)
  have R2 := zRc_U J U2 R1
  refine zj_eq 295 1405 dL_law_291 rfl dL_law_292 (by decide) rfl (fun zz => ?_) (fun zz => absurd rfl zz)
  exact kk s1 h2 ⟨ok_e e1 (ok_set _ _ _ hs), R2, M2⟩

set_option maxHeartbeats 1000000 in
set_option maxRecDepth 100000 in
theorem l_law_2 (B : zBB) (X : zX) (b L : Nat) (xs : Nat → Int32) (hS : lwS X b L xs) (hL : L ≤ 3584) (A D : Nat → Nat) (hA : zInj A) (hD : zInj D) (J : zDj A D) (i : Nat) (hi : i + 7 ≤ L) (s : zSt) (h : zHp) (hI : lwI B A D s h) (kk : ∀ (s1 : zSt) (h2 : zHp), lwI B A D s1 h2 → zG X mL_law B (10, 101, 2916) (101, 2916) 1405 [(3, .int (nI i)), (2, .ref (D 0)), (1, .ref (A 0)), (0, .ref b)] [] h2) : zG X mL_law B (10, 101, 2916) (101, 2916) 297 [(3, .int (nI i)), (2, .ref (D 0)), (1, .ref (A 0)), (0, .ref b)] [] h := by
  obtain ⟨hs, R, M⟩ := hI
  refine zi_aload_n 298 dL_law_297 rfl rfl ?_
  refine zi_aload_n 299 dL_law_298 rfl rfl ?_
  refine zi_iload_n 300 dL_law_299 rfl rfl ?_
  refine zi_iconst (v := 1) 301 dL_law_300 (by decide) rfl ?_
  refine zi_iadd 302 dL_law_301 rfl ?_
  refine zi_sld 303 dL_law_302 hS (li_1 hi hL) rfl ?_
  refine zi_aload_n 304 dL_law_303 rfl rfl ?_
  refine zi_iload_n 305 dL_law_304 rfl rfl ?_
  refine zi_iconst (v := 2) 306 dL_law_305 (by decide) rfl ?_
  refine zi_iadd 307 dL_law_306 rfl ?_
  refine zi_sld 308 dL_law_307 hS (li_2 hi hL) rfl ?_
  refine zi_aload_n 309 dL_law_308 rfl rfl ?_
  refine zi_iload_n 310 dL_law_309 rfl rfl ?_
  refine zi_iconst (v := 3) 311 dL_law_310 (by decide) rfl ?_
  refine zi_iadd 312 dL_law_311 rfl ?_
  refine zi_sld 313 dL_law_312 hS (li_3 hi hL) rfl ?_
  refine zi_aload_n 314 dL_law_313 rfl rfl ?_
  refine zi_iload_n 315 dL_law_314 rfl rfl ?_
  refine zi_iconst (v := 4) 316 dL_law_315 (by decide) rfl ?_
  refine zi_iadd 317 dL_law_316 rfl ?_
  refine zi_sld 318 dL_law_317 hS (li_4 hi hL) rfl ?_
  refine zi_aload_n 319 dL_law_318 rfl rfl ?_
  refine zi_iload_n 320 dL_law_319 rfl rfl ?_
  refine zi_iconst (v := 5) 321 dL_law_320 (by decide) rfl ?_
  refine zi_iadd 322 dL_law_321 rfl ?_
  refine zi_sld 323 dL_law_322 hS (li_5 hi hL) rfl ?_
  refine zc_virtual (n' := (101, 2916)) (md' := mX10_copy) 326 dL_law_323 tw_388 zv_X10_copy zcl_X10 (s_X10_copy B h A hA s hs R (xs (nI i + 1).toNatClampNeg) (xs (nI i + 2).toNatClampNeg) (xs (nI i + 3).toNatClampNeg) (xs (nI i + 4).toNatClampNeg) (xs (nI i + 5).toNatClampNeg)) R.1 rfl rfl rfl rfl rfl rfl rfl rfl (zk_i fun r1 h1 hp => ?_)
  obtain ⟨s1, e1, R1, U1⟩ := hp
  have M1 := rRm_U J U1 M
  obtain ⟨fD, hD0⟩ := rX_hd M1
  refine zi_aload_n 327 dL_law_326 rfl rfl ?_
  refine zi_aload_n 328 dL_law_327 rfl rfl ?_
  refine zi_iload_n 329 dL_law_328 rfl rfl ?_
  refine zi_iconst (v := 1) 330 dL_law_329 (by decide) rfl ?_
  refine zi_iadd 331 dL_law_330 rfl ?_
  refine zi_sld 332 dL_law_331 hS (li_1 hi hL) rfl ?_
  refine zi_aload_n 333 dL_law_332 rfl rfl ?_
  refine zi_iload_n 334 dL_law_333 rfl rfl ?_
  refine zi_iconst (v := 2) 335 dL_law_334 (by decide) rfl ?_
  refine zi_iadd 336 dL_law_335 rfl ?_
  refine zi_sld 337 dL_law_336 hS (li_2 hi hL) rfl ?_
  refine zi_aload_n 338 dL_law_337 rfl rfl ?_
  refine zi_iload_n 339 dL_law_338 rfl rfl ?_
  refine zi_iconst (v := 3) 340 dL_law_339 (by decide) rfl ?_
  refine zi_iadd 341 dL_law_340 rfl ?_
  refine zi_sld 342 dL_law_341 hS (li_3 hi hL) rfl ?_
  refine zi_aload_n 343 dL_law_342 rfl rfl ?_
  refine zi_iload_n 344 dL_law_343 rfl rfl ?_
  refine zi_iconst (v := 4) 345 dL_law_344 (by decide) rfl ?_
  refine zi_iadd 346 dL_law_345 rfl ?_
  refine zi_sld 347 dL_law_346 hS (li_4 hi hL) rfl ?_
  refine zi_aload_n 348 dL_law_347 rfl rfl ?_
  refine zi_iload_n 349 dL_law_348 rfl rfl ?_
  refine zi_iconst (v := 5) 350 dL_law_349 (by decide) rfl ?_
  refine zi_iadd 351 dL_law_350 rfl ?_
  refine zi_sld 352 dL_law_351 hS (li_5 hi hL) rfl ?_
  refine zc_virtual (n' := (101, 2916)) (md' := mX11_copy) 355 dL_law_352 tw_925 zv_X11_copy zcl_X11 (s_X11_copy B h1 D hD s hs M1 (xs (nI i + 1).toNatClampNeg) (xs (nI i + 2).toNatClampNeg) (xs (nI i + 3).toNatClampNeg) (xs (nI i + 4).toNatClampNeg) (xs (nI i + 5).toNatClampNeg)) hD0 rfl rfl rfl rfl rfl rfl rfl rfl (zk_i fun r2 h2 hp2 => ?_)
  obtain ⟨s2, e2, M2, U2⟩ := hp2
  obtain ⟨rfl, rfl⟩ := Prod.mk.inj (e1.symm.trans e2)
  have R2 := zRc_U J U2 R1
  refine zi_icmp_eq 358 1405 dL_law_355 (by decide) rfl (fun zz => ?_) (fun zz => absurd rfl zz)
  exact kk s1 h2 ⟨ok_e e1 (ok_copy _ _ _ _ _ hs), R2, M2⟩

set_option maxHeartbeats 1000000 in
set_option maxRecDepth 100000 in
theorem l_law_3 (B : zBB) (X : zX) (b L : Nat) (xs : Nat → Int32) (hS : lwS X b L xs) (hL : L ≤ 3584) (A D : Nat → Nat) (hA : zInj A) (hD : zInj D) (J : zDj A D) (i : Nat) (hi : i + 7 ≤ L) (s : zSt) (h : zHp) (hI : lwI B A D s h) (kk : ∀ (s1 : zSt) (h2 : zHp), lwI B A D s1 h2 → zG X mL_law B (10, 101, 2916) (101, 2916) 1405 [(3, .int (nI i)), (2, .ref (D 0)), (1, .ref (A 0)), (0, .ref b)] [] h2) : zG X mL_law B (10, 101, 2916) (101, 2916) 360 [(3, .int (nI i)), (2, .ref (D 0)), (1, .ref (A 0)), (0, .ref b)] [] h := by
  obtain ⟨hs, R, M⟩ := hI
  refine zi_aload_n 361 dL_law_360 rfl rfl ?_
  refine zi_aload_n 362 dL_law_361 rfl rfl ?_
  refine zi_iload_n 363 dL_law_362 rfl rfl ?_
  refine zi_iconst (v := 1) 364 dL_law_363 (by decide) rfl ?_
  refine zi_iadd 365 dL_law_364 rfl ?_
  refine zi_sld 366 dL_law_365 hS (li_1 hi hL) rfl ?_
  refine zc_virtual (n' := (101, 2916)) (md' := mX10_drop) 369 dL_law_366 tw_399 zv_X10_drop zcl_X10 (s_X10_drop B h A hA s hs R (xs (nI i + 1).toNatClampNeg)) R.1 rfl rfl rfl rfl rfl rfl rfl rfl (zk_i fun r1 h1 hp => ?_)
  obtain ⟨s1, e1, R1, U1⟩ := hp
  have M1 := rRm_U J U1 M
  obtain ⟨fD, hD0⟩ := rX_hd M1
  refine zi_aload_n 370 dL_law_369 rfl rfl ?_
  refine zi_aload_n 371 dL_law_370 rfl rfl ?_
  refine zi_iload_n 372 dL_law_371 rfl rfl ?_
  refine zi_iconst (v := 1) 373 dL_law_372 (by decide) rfl ?_
  refine zi_iadd 374 dL_law_373 rfl ?_
  refine zi_sld 375 dL_law_374 hS (li_1 hi hL) rfl ?_
  refine zc_virtual (n' := (101, 2916)) (md' := mX11_drop) 378 dL_law_375 tw_929 zv_X11_drop zcl_X11 (s_X11_drop B h1 D hD s hs M1 (xs (nI i + 1).toNatClampNeg)) hD0 rfl rfl rfl rfl rfl rfl rfl rfl (zk_i fun r2 h2 hp2 => ?_)
  obtain ⟨s2, e2, M2, U2⟩ := hp2
  obtain ⟨rfl, rfl⟩ := Prod.mk.inj (e1.symm.trans e2)
  have R2 := zRc_U J U2 R1
  refine zi_icmp_eq 381 1405 dL_law_378 (by decide) rfl (fun zz => ?_) (fun zz => absurd rfl zz)
  exact kk s1 h2 ⟨ok_e e1 (ok_drop _ hs), R2, M2⟩

set_option maxHeartbeats 1000000 in
set_option maxRecDepth 100000 in
theorem l_law_4 (B : zBB) (X : zX) (b L : Nat) (xs : Nat → Int32) (hS : lwS X b L xs) (hL : L ≤ 3584) (A D : Nat → Nat) (hA : zInj A) (hD : zInj D) (J : zDj A D) (i : Nat) (hi : i + 7 ≤ L) (s : zSt) (h : zHp) (hI : lwI B A D s h) (kk : ∀ (s1 : zSt) (h2 : zHp), lwI B A D s1 h2 → zG X mL_law B (10, 101, 2916) (101, 2916) 1405 [(3, .int (nI i)), (2, .ref (D 0)), (1, .ref (A 0)), (0, .ref b)] [] h2) : zG X mL_law B (10, 101, 2916) (101, 2916) 383 [(3, .int (nI i)), (2, .ref (D 0)), (1, .ref (A 0)), (0, .ref b)] [] h := by
  obtain ⟨hs, R, M⟩ := hI
  refine zi_aload_n 384 dL_law_383 rfl rfl ?_
  refine zi_aload_n 385 dL_law_384 rfl rfl ?_
  refine zi_iload_n 386 dL_law_385 rfl rfl ?_
  refine zi_iconst (v := 1) 387 dL_law_386 (by decide) rfl ?_
  refine zi_iadd 388 dL_law_387 rfl ?_
  refine zi_sld 389 dL_law_388 hS (li_1 hi hL) rfl ?_
  refine zi_aload_n 390 dL_law_389 rfl rfl ?_
  refine zi_iload_n 391 dL_law_390 rfl rfl ?_
  refine zi_iconst (v := 2) 392 dL_law_391 (by decide) rfl ?_
  refine zi_iadd 393 dL_law_392 rfl ?_
  refine zi_sld 394 dL_law_393 hS (li_2 hi hL) rfl ?_
  refine zi_aload_n 395 dL_law_394 rfl rfl ?_
  refine zi_iload_n 396 dL_law_395 rfl rfl ?_
  refine zi_iconst (v := 3) 397 dL_law_396 (by decide) rfl ?_
  refine zi_iadd 398 dL_law_397 rfl ?_
  refine zi_sld 399 dL_law_398 hS (li_3 hi hL) rfl ?_
  refine zc_virtual (n' := (101, 2916)) (md' := mX10_take) 402 dL_law_399 tw_403 zv_X10_take zcl_X10 (s_X10_take B h A hA s hs R (xs (nI i + 1).toNatClampNeg) (xs (nI i + 2).toNatClampNeg) (xs (nI i + 3).toNatClampNeg)) R.1 rfl rfl rfl rfl rfl rfl rfl rfl (zk_i fun r1 h1 hp => ?_)
  obtain ⟨s1, e1, R1, U1⟩ := hp
  have M1 := rRm_U J U1 M
  obtain ⟨fD, hD0⟩ := rX_hd M1
  refine zi_aload_n 403 dL_law_402 rfl rfl ?_
  refine zi_aload_n 404 dL_law_403 rfl rfl ?_
  refine zi_iload_n 405 dL_law_404 rfl rfl ?_
  refine zi_iconst (v := 1) 406 dL_law_405 (by decide) rfl ?_
  refine zi_iadd 407 dL_law_406 rfl ?_
  refine zi_sld 408 dL_law_407 hS (li_1 hi hL) rfl ?_
  refine zi_aload_n 409 dL_law_408 rfl rfl ?_
  refine zi_iload_n 410 dL_law_409 rfl rfl ?_
  refine zi_iconst (v := 2) 411 dL_law_410 (by decide) rfl ?_
  refine zi_iadd 412 dL_law_411 rfl ?_
  refine zi_sld 413 dL_law_412 hS (li_2 hi hL) rfl ?_
  refine zi_aload_n 414 dL_law_413 rfl rfl ?_
  refine zi_iload_n 415 dL_law_414 rfl rfl ?_
  refine zi_iconst (v := 3) 416 dL_law_415 (by decide) rfl ?_
  refine zi_iadd 417 dL_law_416 rfl ?_
  refine zi_sld 418 dL_law_417 hS (li_3 hi hL) rfl ?_
  refine zc_virtual (n' := (101, 2916)) (md' := mX11_take) 421 dL_law_418 tw_933 zv_X11_take zcl_X11 (s_X11_take B h1 D hD s hs M1 (xs (nI i + 1).toNatClampNeg) (xs (nI i + 2).toNatClampNeg) (xs (nI i + 3).toNatClampNeg)) hD0 rfl rfl rfl rfl rfl rfl rfl rfl (zk_i fun r2 h2 hp2 => ?_)
  obtain ⟨s2, e2, M2, U2⟩ := hp2
  obtain ⟨rfl, rfl⟩ := Prod.mk.inj (e1.symm.trans e2)
  have R2 := zRc_U J U2 R1
  refine zi_icmp_eq 424 1405 dL_law_421 (by decide) rfl (fun zz => ?_) (fun zz => absurd rfl zz)
  exact kk s1 h2 ⟨ok_e e1 (ok_take _ _ _ hs), R2, M2⟩

set_option maxHeartbeats 1000000 in
set_option maxRecDepth 100000 in
theorem l_law_5 (B : zBB) (X : zX) (b L : Nat) (xs : Nat → Int32) (hS : lwS X b L xs) (hL : L ≤ 3584) (A D : Nat → Nat) (hA : zInj A) (hD : zInj D) (J : zDj A D) (i : Nat) (hi : i + 7 ≤ L) (s : zSt) (h : zHp) (hI : lwI B A D s h) (kk : ∀ (s1 : zSt) (h2 : zHp), lwI B A D s1 h2 → zG X mL_law B (10, 101, 2916) (101, 2916) 1405 [(3, .int (nI i)), (2, .ref (D 0)), (1, .ref (A 0)), (0, .ref b)] [] h2) : zG X mL_law B (10, 101, 2916) (101, 2916) 426 [(3, .int (nI i)), (2, .ref (D 0)), (1, .ref (A 0)), (0, .ref b)] [] h := by
  obtain ⟨hs, R, M⟩ := hI
  refine zi_aload_n 427 dL_law_426 rfl rfl ?_
  refine zi_aload_n 428 dL_law_427 rfl rfl ?_
  refine zi_iload_n 429 dL_law_428 rfl rfl ?_
  refine zi_iconst (v := 1) 430 dL_law_429 (by decide) rfl ?_
  refine zi_iadd 431 dL_law_430 rfl ?_
  refine zi_sld 432 dL_law_431 hS (li_1 hi hL) rfl ?_
  refine zc_virtual (n' := (101, 2916)) (md' := mX10_clear) 435 dL_law_432 tw_477 zv_X10_clear zcl_X10 (s_X10_clear B h A hA s hs R (xs (nI i + 1).toNatClampNeg)) R.1 rfl rfl rfl rfl rfl rfl rfl rfl (zk_i fun r1 h1 hp => ?_)
  obtain ⟨s1, e1, R1, U1⟩ := hp
  have M1 := rRm_U J U1 M
  obtain ⟨fD, hD0⟩ := rX_hd M1
  refine zi_aload_n 436 dL_law_435 rfl rfl ?_
  refine zi_aload_n 437 dL_law_436 rfl rfl ?_
  refine zi_iload_n 438 dL_law_437 rfl rfl ?_
  refine zi_iconst (v := 1) 439 dL_law_438 (by decide) rfl ?_
  refine zi_iadd 440 dL_law_439 rfl ?_
  refine zi_sld 441 dL_law_440 hS (li_1 hi hL) rfl ?_
  refine zc_virtual (n' := (101, 2916)) (md' := mX11_clear) 444 dL_law_441 tw_976 zv_X11_clear zcl_X11 (s_X11_clear B h1 D hD s hs M1 (xs (nI i + 1).toNatClampNeg)) hD0 rfl rfl rfl rfl rfl rfl rfl rfl (zk_i fun r2 h2 hp2 => ?_)
  obtain ⟨s2, e2, M2, U2⟩ := hp2
  obtain ⟨rfl, rfl⟩ := Prod.mk.inj (e1.symm.trans e2)
  have R2 := zRc_U J U2 R1
  refine zi_icmp_eq 447 1405 dL_law_444 (by decide) rfl (fun zz => ?_) (fun zz => absurd rfl zz)
  exact kk s1 h2 ⟨ok_e e1 (ok_clear _ hs), R2, M2⟩

set_option maxHeartbeats 1000000 in
set_option maxRecDepth 100000 in
theorem l_law_6 (B : zBB) (X : zX) (b L : Nat) (xs : Nat → Int32) (hS : lwS X b L xs) (hL : L ≤ 3584) (A D : Nat → Nat) (hA : zInj A) (hD : zInj D) (J : zDj A D) (i : Nat) (hi : i + 7 ≤ L) (s : zSt) (h : zHp) (hI : lwI B A D s h) (kk : ∀ (s1 : zSt) (h2 : zHp), lwI B A D s1 h2 → zG X mL_law B (10, 101, 2916) (101, 2916) 1405 [(3, .int (nI i)), (2, .ref (D 0)), (1, .ref (A 0)), (0, .ref b)] [] h2) : zG X mL_law B (10, 101, 2916) (101, 2916) 449 [(3, .int (nI i)), (2, .ref (D 0)), (1, .ref (A 0)), (0, .ref b)] [] h := by
  obtain ⟨hs, R, M⟩ := hI
  refine zi_aload_n 450 dL_law_449 rfl rfl ?_
  refine zi_aload_n 451 dL_law_450 rfl rfl ?_
  refine zi_iload_n 452 dL_law_451 rfl rfl ?_
  refine zi_iconst (v := 1) 453 dL_law_452 (by decide) rfl ?_
  refine zi_iadd 454 dL_law_453 rfl ?_
  refine zi_sld 455 dL_law_454 hS (li_1 hi hL) rfl ?_
  refine zi_aload_n 456 dL_law_455 rfl rfl ?_
  refine zi_iload_n 457 dL_law_456 rfl rfl ?_
  refine zi_iconst (v := 2) 458 dL_law_457 (by decide) rfl ?_
  refine zi_iadd 459 dL_law_458 rfl ?_
  refine zi_sld 460 dL_law_459 hS (li_2 hi hL) rfl ?_
  refine zc_virtual (n' := (101, 2916)) (md' := mX10_number) 463 dL_law_460 tw_481 zv_X10_number zcl_X10 (s_X10_number B h A hA s hs R (xs (nI i + 1).toNatClampNeg) (xs (nI i + 2).toNatClampNeg)) R.1 rfl rfl rfl rfl rfl rfl rfl rfl (zk_l fun r1 h1 hp => ?_)
  obtain ⟨s1, e1, R1, U1⟩ := hp
  have M1 := rRm_U J U1 M
  obtain ⟨fD, hD0⟩ := rX_hd M1
  refine zi_aload_n 464 dL_law_463 rfl rfl ?_
  refine zi_aload_n 465 dL_law_464 rfl rfl ?_
  refine zi_iload_n 466 dL_law_465 rfl rfl ?_
  refine zi_iconst (v := 1) 467 dL_law_466 (by decide) rfl ?_
  refine zi_iadd 468 dL_law_467 rfl ?_
  refine zi_sld 469 dL_law_468 hS (li_1 hi hL) rfl ?_
  refine zi_aload_n 470 dL_law_469 rfl rfl ?_
  refine zi_iload_n 471 dL_law_470 rfl rfl ?_
  refine zi_iconst (v := 2) 472 dL_law_471 (by decide) rfl ?_
  refine zi_iadd 473 dL_law_472 rfl ?_
  refine zi_sld 474 dL_law_473 hS (li_2 hi hL) rfl ?_
  refine zc_virtual (n' := (101, 2916)) (md' := mX11_number) 477 dL_law_474 tw_980 zv_X11_number zcl_X11 (s_X11_number B h1 D hD s hs M1 (xs (nI i + 1).toNatClampNeg) (xs (nI i + 2).toNatClampNeg)) hD0 rfl rfl rfl rfl rfl rfl rfl rfl (zk_l fun r2 h2 hp2 => ?_)
  obtain ⟨s2, e2, M2, U2⟩ := hp2
  obtain ⟨rfl, rfl⟩ := Prod.mk.inj (e1.symm.trans e2)
  have R2 := zRc_U J U2 R1
  refine zj_eq 481 1405 dL_law_477 rfl dL_law_478 (by decide) rfl (fun zz => ?_) (fun zz => absurd rfl zz)
  exact kk s1 h2 ⟨ok_e e1 (ok_number _ _ hs), R2, M2⟩

set_option maxHeartbeats 1000000 in
set_option maxRecDepth 100000 in
theorem l_law_7 (B : zBB) (X : zX) (b L : Nat) (xs : Nat → Int32) (hS : lwS X b L xs) (hL : L ≤ 3584) (A D : Nat → Nat) (hA : zInj A) (hD : zInj D) (J : zDj A D) (i : Nat) (hi : i + 7 ≤ L) (s : zSt) (h : zHp) (hI : lwI B A D s h) (kk : ∀ (s1 : zSt) (h2 : zHp), lwI B A D s1 h2 → zG X mL_law B (10, 101, 2916) (101, 2916) 1405 [(3, .int (nI i)), (2, .ref (D 0)), (1, .ref (A 0)), (0, .ref b)] [] h2) : zG X mL_law B (10, 101, 2916) (101, 2916) 483 [(3, .int (nI i)), (2, .ref (D 0)), (1, .ref (A 0)), (0, .ref b)] [] h := by
  obtain ⟨hs, R, M⟩ := hI
  refine zi_aload_n 484 dL_law_483 rfl rfl ?_
  refine zi_aload_n 485 dL_law_484 rfl rfl ?_
  refine zi_iload_n 486 dL_law_485 rfl rfl ?_
  refine zi_iconst (v := 1) 487 dL_law_486 (by decide) rfl ?_
  refine zi_iadd 488 dL_law_487 rfl ?_
  refine zi_sld 489 dL_law_488 hS (li_1 hi hL) rfl ?_
  refine zc_virtual (n' := (101, 2916)) (md' := mX10_norm) 492 dL_law_489 tw_493 zv_X10_norm zcl_X10 (s_X10_norm B h A hA s hs R (xs (nI i + 1).toNatClampNeg)) R.1 rfl rfl rfl rfl rfl rfl rfl rfl (zk_i fun r1 h1 hp => ?_)
  obtain ⟨s1, e1, R1, U1⟩ := hp
  have M1 := rRm_U J U1 M
  obtain ⟨fD, hD0⟩ := rX_hd M1
  refine zi_aload_n 493 dL_law_492 rfl rfl ?_
  refine zi_aload_n 494 dL_law_493 rfl rfl ?_
  refine zi_iload_n 495 dL_law_494 rfl rfl ?_
  refine zi_iconst (v := 1) 496 dL_law_495 (by decide) rfl ?_
  refine zi_iadd 497 dL_law_496 rfl ?_
  refine zi_sld 498 dL_law_497 hS (li_1 hi hL) rfl ?_
  refine zc_virtual (n' := (101, 2916)) (md' := mX11_norm) 501 dL_law_498 tw_985 zv_X11_norm zcl_X11 (s_X11_norm B h1 D hD s hs M1 (xs (nI i + 1).toNatClampNeg)) hD0 rfl rfl rfl rfl rfl rfl rfl rfl (zk_i fun r2 h2 hp2 => ?_)
  obtain ⟨s2, e2, M2, U2⟩ := hp2
  obtain ⟨rfl, rfl⟩ := Prod.mk.inj (e1.symm.trans e2)
  have R2 := zRc_U J U2 R1
  refine zi_icmp_eq 504 1405 dL_law_501 (by decide) rfl (fun zz => ?_) (fun zz => absurd rfl zz)
  exact kk s1 h2 ⟨ok_e e1 (ok_norm _ hs), R2, M2⟩

set_option maxHeartbeats 1000000 in
set_option maxRecDepth 100000 in
theorem l_law_8 (B : zBB) (X : zX) (b L : Nat) (xs : Nat → Int32) (hS : lwS X b L xs) (hL : L ≤ 3584) (A D : Nat → Nat) (hA : zInj A) (hD : zInj D) (J : zDj A D) (i : Nat) (hi : i + 7 ≤ L) (s : zSt) (h : zHp) (hI : lwI B A D s h) (kk : ∀ (s1 : zSt) (h2 : zHp), lwI B A D s1 h2 → zG X mL_law B (10, 101, 2916) (101, 2916) 1405 [(3, .int (nI i)), (2, .ref (D 0)), (1, .ref (A 0)), (0, .ref b)] [] h2) : zG X mL_law B (10, 101, 2916) (101, 2916) 506 [(3, .int (nI i)), (2, .ref (D 0)), (1, .ref (A 0)), (0, .ref b)] [] h := by
  obtain ⟨hs, R, M⟩ := hI
  refine zi_aload_n 507 dL_law_506 rfl rfl ?_
  refine zi_aload_n 508 dL_law_507 rfl rfl ?_
  refine zi_iload_n 509 dL_law_508 rfl rfl ?_
  refine zi_iconst (v := 1) 510 dL_law_509 (by decide) rfl ?_
  refine zi_iadd 511 dL_law_510 rfl ?_
  refine zi_sld 512 dL_law_511 hS (li_1 hi hL) rfl ?_
  refine zc_virtual (n' := (101, 2916)) (md' := mX10_kind) 515 dL_law_512 tw_497 zv_X10_kind zcl_X10 (s_X10_kind B h A hA s hs R (xs (nI i + 1).toNatClampNeg)) R.1 rfl rfl rfl rfl rfl rfl rfl rfl (zk_i fun r1 h1 hp => ?_)
  obtain ⟨s1, e1, R1, U1⟩ := hp
  have M1 := rRm_U J U1 M
  obtain ⟨fD, hD0⟩ := rX_hd M1
  refine zi_aload_n 516 dL_law_515 rfl rfl ?_
  refine zi_aload_n 517 dL_law_516 rfl rfl ?_
  refine zi_iload_n 518 dL_law_517 rfl rfl ?_
  refine zi_iconst (v := 1) 519 dL_law_518 (by decide) rfl ?_
  refine zi_iadd 520 dL_law_519 rfl ?_
  refine zi_sld 521 dL_law_520 hS (li_1 hi hL) rfl ?_
  refine zc_virtual (n' := (101, 2916)) (md' := mX11_kind) 524 dL_law_521 tw_993 zv_X11_kind zcl_X11 (s_X11_kind B h1 D hD s hs M1 (xs (nI i + 1).toNatClampNeg)) hD0 rfl rfl rfl rfl rfl rfl rfl rfl (zk_i fun r2 h2 hp2 => ?_)
  obtain ⟨s2, e2, M2, U2⟩ := hp2
  obtain ⟨rfl, rfl⟩ := Prod.mk.inj (e1.symm.trans e2)
  have R2 := zRc_U J U2 R1
  refine zi_icmp_eq 527 1405 dL_law_524 (by decide) rfl (fun zz => ?_) (fun zz => absurd rfl zz)
  exact kk s1 h2 ⟨ok_e e1 (ok_kind _ hs), R2, M2⟩

set_option maxHeartbeats 1000000 in
set_option maxRecDepth 100000 in
theorem l_law_9 (B : zBB) (X : zX) (b L : Nat) (xs : Nat → Int32) (hS : lwS X b L xs) (hL : L ≤ 3584) (A D : Nat → Nat) (hA : zInj A) (hD : zInj D) (J : zDj A D) (i : Nat) (hi : i + 7 ≤ L) (s : zSt) (h : zHp) (hI : lwI B A D s h) (kk : ∀ (s1 : zSt) (h2 : zHp), lwI B A D s1 h2 → zG X mL_law B (10, 101, 2916) (101, 2916) 1405 [(3, .int (nI i)), (2, .ref (D 0)), (1, .ref (A 0)), (0, .ref b)] [] h2) : zG X mL_law B (10, 101, 2916) (101, 2916) 529 [(3, .int (nI i)), (2, .ref (D 0)), (1, .ref (A 0)), (0, .ref b)] [] h := by
  obtain ⟨hs, R, M⟩ := hI
  refine zi_aload_n 530 dL_law_529 rfl rfl ?_
  refine zi_aload_n 531 dL_law_530 rfl rfl ?_
  refine zi_iload_n 532 dL_law_531 rfl rfl ?_
  refine zi_iconst (v := 1) 533 dL_law_532 (by decide) rfl ?_
  refine zi_iadd 534 dL_law_533 rfl ?_
  refine zi_sld 535 dL_law_534 hS (li_1 hi hL) rfl ?_
  refine zi_aload_n 536 dL_law_535 rfl rfl ?_
  refine zi_iload_n 537 dL_law_536 rfl rfl ?_
  refine zi_iconst (v := 2) 538 dL_law_537 (by decide) rfl ?_
  refine zi_iadd 539 dL_law_538 rfl ?_
  refine zi_sld 540 dL_law_539 hS (li_2 hi hL) rfl ?_
  refine zc_virtual (n' := (101, 2916)) (md' := mX10_is) 543 dL_law_540 tw_501 zv_X10_is zcl_X10 (s_X10_is B h A hA s hs R (xs (nI i + 1).toNatClampNeg) (xs (nI i + 2).toNatClampNeg)) R.1 rfl rfl rfl rfl rfl rfl rfl rfl (zk_i fun r1 h1 hp => ?_)
  obtain ⟨s1, e1, R1, U1⟩ := hp
  have M1 := rRm_U J U1 M
  obtain ⟨fD, hD0⟩ := rX_hd M1
  refine zi_aload_n 544 dL_law_543 rfl rfl ?_
  refine zi_aload_n 545 dL_law_544 rfl rfl ?_
  refine zi_iload_n 546 dL_law_545 rfl rfl ?_
  refine zi_iconst (v := 1) 547 dL_law_546 (by decide) rfl ?_
  refine zi_iadd 548 dL_law_547 rfl ?_
  refine zi_sld 549 dL_law_548 hS (li_1 hi hL) rfl ?_
  refine zi_aload_n 550 dL_law_549 rfl rfl ?_
  refine zi_iload_n 551 dL_law_550 rfl rfl ?_
  refine zi_iconst (v := 2) 552 dL_law_551 (by decide) rfl ?_
  refine zi_iadd 553 dL_law_552 rfl ?_
  refine zi_sld 554 dL_law_553 hS (li_2 hi hL) rfl ?_
  refine zc_virtual (n' := (101, 2916)) (md' := mX11_is) 557 dL_law_554 tw_997 zv_X11_is zcl_X11 (s_X11_is B h1 D hD s hs M1 (xs (nI i + 1).toNatClampNeg) (xs (nI i + 2).toNatClampNeg)) hD0 rfl rfl rfl rfl rfl rfl rfl rfl (zk_i fun r2 h2 hp2 => ?_)
  obtain ⟨s2, e2, M2, U2⟩ := hp2
  obtain ⟨rfl, rfl⟩ := Prod.mk.inj (e1.symm.trans e2)
  have R2 := zRc_U J U2 R1
  refine zi_icmp_eq 560 1405 dL_law_557 (by decide) rfl (fun zz => ?_) (fun zz => absurd rfl zz)
  exact kk s1 h2 ⟨ok_e e1 (ok_is _ _ hs), R2, M2⟩

set_option maxHeartbeats 1000000 in
set_option maxRecDepth 100000 in
theorem l_law_10 (B : zBB) (X : zX) (b L : Nat) (xs : Nat → Int32) (hS : lwS X b L xs) (hL : L ≤ 3584) (A D : Nat → Nat) (hA : zInj A) (hD : zInj D) (J : zDj A D) (i : Nat) (hi : i + 7 ≤ L) (s : zSt) (h : zHp) (hI : lwI B A D s h) (kk : ∀ (s1 : zSt) (h2 : zHp), lwI B A D s1 h2 → zG X mL_law B (10, 101, 2916) (101, 2916) 1405 [(3, .int (nI i)), (2, .ref (D 0)), (1, .ref (A 0)), (0, .ref b)] [] h2) : zG X mL_law B (10, 101, 2916) (101, 2916) 562 [(3, .int (nI i)), (2, .ref (D 0)), (1, .ref (A 0)), (0, .ref b)] [] h := by
  obtain ⟨hs, R, M⟩ := hI
  refine zi_aload_n 563 dL_law_562 rfl rfl ?_
  refine zi_aload_n 564 dL_law_563 rfl rfl ?_
  refine zi_iload_n 565 dL_law_564 rfl rfl ?_
  refine zi_iconst (v := 1) 566 dL_law_565 (by decide) rfl ?_
  refine zi_iadd 567 dL_law_566 rfl ?_
  refine zi_sld 568 dL_law_567 hS (li_1 hi hL) rfl ?_
  refine zi_aload_n 569 dL_law_568 rfl rfl ?_
  refine zi_iload_n 570 dL_law_569 rfl rfl ?_
  refine zi_iconst (v := 2) 571 dL_law_570 (by decide) rfl ?_
  refine zi_iadd 572 dL_law_571 rfl ?_
  refine zi_sld 573 dL_law_572 hS (li_2 hi hL) rfl ?_
  refine zc_virtual (n' := (101, 2916)) (md' := mX10_as) 576 dL_law_573 tw_508 zv_X10_as zcl_X10 (s_X10_as B h A hA s hs R (xs (nI i + 1).toNatClampNeg) (xs (nI i + 2).toNatClampNeg)) R.1 rfl rfl rfl rfl rfl rfl rfl rfl (zk_i fun r1 h1 hp => ?_)
  obtain ⟨s1, e1, R1, U1⟩ := hp
  have M1 := rRm_U J U1 M
  obtain ⟨fD, hD0⟩ := rX_hd M1
  refine zi_aload_n 577 dL_law_576 rfl rfl ?_
  refine zi_aload_n 578 dL_law_577 rfl rfl ?_
  refine zi_iload_n 579 dL_law_578 rfl rfl ?_
  refine zi_iconst (v := 1) 580 dL_law_579 (by decide) rfl ?_
  refine zi_iadd 581 dL_law_580 rfl ?_
  refine zi_sld 582 dL_law_581 hS (li_1 hi hL) rfl ?_
  refine zi_aload_n 583 dL_law_582 rfl rfl ?_
  refine zi_iload_n 584 dL_law_583 rfl rfl ?_
  refine zi_iconst (v := 2) 585 dL_law_584 (by decide) rfl ?_
  refine zi_iadd 586 dL_law_585 rfl ?_
  refine zi_sld 587 dL_law_586 hS (li_2 hi hL) rfl ?_
  refine zc_virtual (n' := (101, 2916)) (md' := mX11_as) 590 dL_law_587 tw_1004 zv_X11_as zcl_X11 (s_X11_as B h1 D hD s hs M1 (xs (nI i + 1).toNatClampNeg) (xs (nI i + 2).toNatClampNeg)) hD0 rfl rfl rfl rfl rfl rfl rfl rfl (zk_i fun r2 h2 hp2 => ?_)
  obtain ⟨s2, e2, M2, U2⟩ := hp2
  obtain ⟨rfl, rfl⟩ := Prod.mk.inj (e1.symm.trans e2)
  have R2 := zRc_U J U2 R1
  refine zi_icmp_eq 593 1405 dL_law_590 (by decide) rfl (fun zz => ?_) (fun zz => absurd rfl zz)
  exact kk s1 h2 ⟨ok_e e1 (ok_as _ _ hs), R2, M2⟩

set_option maxHeartbeats 1000000 in
set_option maxRecDepth 100000 in
theorem l_law_11 (B : zBB) (X : zX) (b L : Nat) (xs : Nat → Int32) (hS : lwS X b L xs) (hL : L ≤ 3584) (A D : Nat → Nat) (hA : zInj A) (hD : zInj D) (J : zDj A D) (i : Nat) (hi : i + 7 ≤ L) (s : zSt) (h : zHp) (hI : lwI B A D s h) (kk : ∀ (s1 : zSt) (h2 : zHp), lwI B A D s1 h2 → zG X mL_law B (10, 101, 2916) (101, 2916) 1405 [(3, .int (nI i)), (2, .ref (D 0)), (1, .ref (A 0)), (0, .ref b)] [] h2) : zG X mL_law B (10, 101, 2916) (101, 2916) 595 [(3, .int (nI i)), (2, .ref (D 0)), (1, .ref (A 0)), (0, .ref b)] [] h := by
  obtain ⟨hs, R, M⟩ := hI
  refine zi_aload_n 596 dL_law_595 rfl rfl ?_
  refine zi_aload_n 597 dL_law_596 rfl rfl ?_
  refine zi_iload_n 598 dL_law_597 rfl rfl ?_
  refine zi_iconst (v := 1) 599 dL_law_598 (by decide) rfl ?_
  refine zi_iadd 600 dL_law_599 rfl ?_
  refine zi_sld 601 dL_law_600 hS (li_1 hi hL) rfl ?_
  refine zi_aload_n 602 dL_law_601 rfl rfl ?_
  refine zi_iload_n 603 dL_law_602 rfl rfl ?_
  refine zi_iconst (v := 2) 604 dL_law_603 (by decide) rfl ?_
  refine zi_iadd 605 dL_law_604 rfl ?_
  refine zi_sld 606 dL_law_605 hS (li_2 hi hL) rfl ?_
  refine zc_virtual (n' := (101, 2916)) (md' := mX10_ask) 609 dL_law_606 tw_512 zv_X10_ask zcl_X10 (s_X10_ask B h A hA s hs R (xs (nI i + 1).toNatClampNeg) (xs (nI i + 2).toNatClampNeg)) R.1 rfl rfl rfl rfl rfl rfl rfl rfl (zk_i fun r1 h1 hp => ?_)
  obtain ⟨s1, e1, R1, U1⟩ := hp
  have M1 := rRm_U J U1 M
  obtain ⟨fD, hD0⟩ := rX_hd M1
  refine zi_aload_n 610 dL_law_609 rfl rfl ?_
  refine zi_aload_n 611 dL_law_610 rfl rfl ?_
  refine zi_iload_n 612 dL_law_611 rfl rfl ?_
  refine zi_iconst (v := 1) 613 dL_law_612 (by decide) rfl ?_
  refine zi_iadd 614 dL_law_613 rfl ?_
  refine zi_sld 615 dL_law_614 hS (li_1 hi hL) rfl ?_
  refine zi_aload_n 616 dL_law_615 rfl rfl ?_
  refine zi_iload_n 617 dL_law_616 rfl rfl ?_
  refine zi_iconst (v := 2) 618 dL_law_617 (by decide) rfl ?_
  refine zi_iadd 619 dL_law_618 rfl ?_
  refine zi_sld 620 dL_law_619 hS (li_2 hi hL) rfl ?_
  refine zc_virtual (n' := (101, 2916)) (md' := mX11_ask) 623 dL_law_620 tw_1008 zv_X11_ask zcl_X11 (s_X11_ask B h1 D hD s hs M1 (xs (nI i + 1).toNatClampNeg) (xs (nI i + 2).toNatClampNeg)) hD0 rfl rfl rfl rfl rfl rfl rfl rfl (zk_i fun r2 h2 hp2 => ?_)
  obtain ⟨s2, e2, M2, U2⟩ := hp2
  obtain ⟨rfl, rfl⟩ := Prod.mk.inj (e1.symm.trans e2)
  have R2 := zRc_U J U2 R1
  refine zi_icmp_eq 626 1405 dL_law_623 (by decide) rfl (fun zz => ?_) (fun zz => absurd rfl zz)
  exact kk s1 h2 ⟨ok_e e1 (ok_ask _ _ hs), R2, M2⟩

set_option maxHeartbeats 1000000 in
set_option maxRecDepth 100000 in
theorem l_law_12 (B : zBB) (X : zX) (b L : Nat) (xs : Nat → Int32) (hS : lwS X b L xs) (hL : L ≤ 3584) (A D : Nat → Nat) (hA : zInj A) (hD : zInj D) (J : zDj A D) (i : Nat) (hi : i + 7 ≤ L) (s : zSt) (h : zHp) (hI : lwI B A D s h) (kk : ∀ (s1 : zSt) (h2 : zHp), lwI B A D s1 h2 → zG X mL_law B (10, 101, 2916) (101, 2916) 1405 [(3, .int (nI i)), (2, .ref (D 0)), (1, .ref (A 0)), (0, .ref b)] [] h2) : zG X mL_law B (10, 101, 2916) (101, 2916) 628 [(3, .int (nI i)), (2, .ref (D 0)), (1, .ref (A 0)), (0, .ref b)] [] h := by
  obtain ⟨hs, R, M⟩ := hI
  refine zi_aload_n 629 dL_law_628 rfl rfl ?_
  refine zi_aload_n 630 dL_law_629 rfl rfl ?_
  refine zi_iload_n 631 dL_law_630 rfl rfl ?_
  refine zi_iconst (v := 1) 632 dL_law_631 (by decide) rfl ?_
  refine zi_iadd 633 dL_law_632 rfl ?_
  refine zi_sld 634 dL_law_633 hS (li_1 hi hL) rfl ?_
  refine zc_virtual (n' := (101, 2916)) (md' := mX10_trace) 637 dL_law_634 tw_582 zv_X10_trace zcl_X10 (s_X10_trace B h A hA s hs R (xs (nI i + 1).toNatClampNeg)) R.1 rfl rfl rfl rfl rfl rfl rfl rfl (zk_i fun r1 h1 hp => ?_)
  obtain ⟨s1, e1, R1, U1⟩ := hp
  have M1 := rRm_U J U1 M
  obtain ⟨fD, hD0⟩ := rX_hd M1
  refine zi_aload_n 638 dL_law_637 rfl rfl ?_
  refine zi_aload_n 639 dL_law_638 rfl rfl ?_
  refine zi_iload_n 640 dL_law_639 rfl rfl ?_
  refine zi_iconst (v := 1) 641 dL_law_640 (by decide) rfl ?_
  refine zi_iadd 642 dL_law_641 rfl ?_
  refine zi_sld 643 dL_law_642 hS (li_1 hi hL) rfl ?_
  refine zc_virtual (n' := (101, 2916)) (md' := mX11_trace) 646 dL_law_643 tw_1030 zv_X11_trace zcl_X11 (s_X11_trace B h1 D hD s hs M1 (xs (nI i + 1).toNatClampNeg)) hD0 rfl rfl rfl rfl rfl rfl rfl rfl (zk_i fun r2 h2 hp2 => ?_)
  obtain ⟨s2, e2, M2, U2⟩ := hp2
  obtain ⟨rfl, rfl⟩ := Prod.mk.inj (e1.symm.trans e2)
  have R2 := zRc_U J U2 R1
  refine zi_icmp_eq 649 1405 dL_law_646 (by decide) rfl (fun zz => ?_) (fun zz => absurd rfl zz)
  exact kk s1 h2 ⟨ok_e e1 (ok_trace _ hs), R2, M2⟩

set_option maxHeartbeats 1000000 in
set_option maxRecDepth 100000 in
theorem l_law_13 (B : zBB) (X : zX) (b L : Nat) (xs : Nat → Int32) (hS : lwS X b L xs) (hL : L ≤ 3584) (A D : Nat → Nat) (hA : zInj A) (hD : zInj D) (J : zDj A D) (i : Nat) (hi : i + 7 ≤ L) (s : zSt) (h : zHp) (hI : lwI B A D s h) (kk : ∀ (s1 : zSt) (h2 : zHp), lwI B A D s1 h2 → zG X mL_law B (10, 101, 2916) (101, 2916) 1405 [(3, .int (nI i)), (2, .ref (D 0)), (1, .ref (A 0)), (0, .ref b)] [] h2) : zG X mL_law B (10, 101, 2916) (101, 2916) 651 [(3, .int (nI i)), (2, .ref (D 0)), (1, .ref (A 0)), (0, .ref b)] [] h := by
  obtain ⟨hs, R, M⟩ := hI
  refine zi_aload_n 652 dL_law_651 rfl rfl ?_
  refine zi_aload_n 653 dL_law_652 rfl rfl ?_
  refine zi_iload_n 654 dL_law_653 rfl rfl ?_
  refine zi_iconst (v := 1) 655 dL_law_654 (by decide) rfl ?_
  refine zi_iadd 656 dL_law_655 rfl ?_
  refine zi_sld 657 dL_law_656 hS (li_1 hi hL) rfl ?_
  refine zi_aload_n 658 dL_law_657 rfl rfl ?_
  refine zi_iload_n 659 dL_law_658 rfl rfl ?_
  refine zi_iconst (v := 2) 660 dL_law_659 (by decide) rfl ?_
  refine zi_iadd 661 dL_law_660 rfl ?_
  refine zi_sld 662 dL_law_661 hS (li_2 hi hL) rfl ?_
  refine zi_aload_n 663 dL_law_662 rfl rfl ?_
  refine zi_iload_n 664 dL_law_663 rfl rfl ?_
  refine zi_iconst (v := 3) 665 dL_law_664 (by decide) rfl ?_
  refine zi_iadd 666 dL_law_665 rfl ?_
  refine zi_sld 667 dL_law_666 hS (li_3 hi hL) rfl ?_
  refine zc_virtual (n' := (101, 2916)) (md' := mX10_times) 670 dL_law_667 tw_591 zv_X10_times zcl_X10 (s_X10_times B h A hA s hs R (xs (nI i + 1).toNatClampNeg) (xs (nI i + 2).toNatClampNeg) (xs (nI i + 3).toNatClampNeg)) R.1 rfl rfl rfl rfl rfl rfl rfl rfl (zk_i fun r1 h1 hp => ?_)
  obtain ⟨s1, e1, R1, U1⟩ := hp
  have M1 := rRm_U J U1 M
  obtain ⟨fD, hD0⟩ := rX_hd M1
  refine zi_aload_n 671 dL_law_670 rfl rfl ?_
  refine zi_aload_n 672 dL_law_671 rfl rfl ?_
  refine zi_iload_n 673 dL_law_672 rfl rfl ?_
  refine zi_iconst (v := 1) 674 dL_law_673 (by decide) rfl ?_
  refine zi_iadd 675 dL_law_674 rfl ?_
  refine zi_sld 676 dL_law_675 hS (li_1 hi hL) rfl ?_
  refine zi_aload_n 677 dL_law_676 rfl rfl ?_
  refine zi_iload_n 678 dL_law_677 rfl rfl ?_
  refine zi_iconst (v := 2) 679 dL_law_678 (by decide) rfl ?_
  refine zi_iadd 680 dL_law_679 rfl ?_
  refine zi_sld 681 dL_law_680 hS (li_2 hi hL) rfl ?_
  refine zi_aload_n 682 dL_law_681 rfl rfl ?_
  refine zi_iload_n 683 dL_law_682 rfl rfl ?_
  refine zi_iconst (v := 3) 684 dL_law_683 (by decide) rfl ?_
  refine zi_iadd 685 dL_law_684 rfl ?_
  refine zi_sld 686 dL_law_685 hS (li_3 hi hL) rfl ?_
  refine zc_virtual (n' := (101, 2916)) (md' := mX11_times) 689 dL_law_686 tw_1035 zv_X11_times zcl_X11 (s_X11_times B h1 D hD s hs M1 (xs (nI i + 1).toNatClampNeg) (xs (nI i + 2).toNatClampNeg) (xs (nI i + 3).toNatClampNeg)) hD0 rfl rfl rfl rfl rfl rfl rfl rfl (zk_i fun r2 h2 hp2 => ?_)
  obtain ⟨s2, e2, M2, U2⟩ := hp2
  obtain ⟨rfl, rfl⟩ := Prod.mk.inj (e1.symm.trans e2)
  have R2 := zRc_U J U2 R1
  refine zi_icmp_eq 692 1405 dL_law_689 (by decide) rfl (fun zz => ?_) (fun zz => absurd rfl zz)
  exact kk s1 h2 ⟨ok_e e1 (ok_times _ _ _ hs), R2, M2⟩

set_option maxHeartbeats 1000000 in
set_option maxRecDepth 100000 in
theorem l_law_14 (B : zBB) (X : zX) (b L : Nat) (xs : Nat → Int32) (hS : lwS X b L xs) (hL : L ≤ 3584) (A D : Nat → Nat) (hA : zInj A) (hD : zInj D) (J : zDj A D) (i : Nat) (hi : i + 7 ≤ L) (s : zSt) (h : zHp) (hI : lwI B A D s h) (kk : ∀ (s1 : zSt) (h2 : zHp), lwI B A D s1 h2 → zG X mL_law B (10, 101, 2916) (101, 2916) 1405 [(3, .int (nI i)), (2, .ref (D 0)), (1, .ref (A 0)), (0, .ref b)] [] h2) : zG X mL_law B (10, 101, 2916) (101, 2916) 694 [(3, .int (nI i)), (2, .ref (D 0)), (1, .ref (A 0)), (0, .ref b)] [] h := by
  obtain ⟨hs, R, M⟩ := hI
  refine zi_aload_n 695 dL_law_694 rfl rfl ?_
  refine zi_aload_n 696 dL_law_695 rfl rfl ?_
  refine zi_iload_n 697 dL_law_696 rfl rfl ?_
  refine zi_iconst (v := 1) 698 dL_law_697 (by decide) rfl ?_
  refine zi_iadd 699 dL_law_698 rfl ?_
  refine zi_sld 700 dL_law_699 hS (li_1 hi hL) rfl ?_
  refine zi_aload_n 701 dL_law_700 rfl rfl ?_
  refine zi_iload_n 702 dL_law_701 rfl rfl ?_
  refine zi_iconst (v := 2) 703 dL_law_702 (by decide) rfl ?_
  refine zi_iadd 704 dL_law_703 rfl ?_
  refine zi_sld 705 dL_law_704 hS (li_2 hi hL) rfl ?_
  refine zi_aload_n 706 dL_law_705 rfl rfl ?_
  refine zi_iload_n 707 dL_law_706 rfl rfl ?_
  refine zi_iconst (v := 3) 708 dL_law_707 (by decide) rfl ?_
  refine zi_iadd 709 dL_law_708 rfl ?_
  refine zi_sld 710 dL_law_709 hS (li_3 hi hL) rfl ?_
  refine zc_virtual (n' := (101, 2916)) (md' := mX10_sum) 713 dL_law_710 tw_599 zv_X10_sum zcl_X10 (s_X10_sum B h A hA s hs R (xs (nI i + 1).toNatClampNeg) (xs (nI i + 2).toNatClampNeg) (xs (nI i + 3).toNatClampNeg)) R.1 rfl rfl rfl rfl rfl rfl rfl rfl (zk_i fun r1 h1 hp => ?_)
  obtain ⟨s1, e1, R1, U1⟩ := hp
  have M1 := rRm_U J U1 M
  obtain ⟨fD, hD0⟩ := rX_hd M1
  refine zi_aload_n 714 dL_law_713 rfl rfl ?_
  refine zi_aload_n 715 dL_law_714 rfl rfl ?_
  refine zi_iload_n 716 dL_law_715 rfl rfl ?_
  refine zi_iconst (v := 1) 717 dL_law_716 (by decide) rfl ?_
  refine zi_iadd 718 dL_law_717 rfl ?_
  refine zi_sld 719 dL_law_718 hS (li_1 hi hL) rfl ?_
  refine zi_aload_n 720 dL_law_719 rfl rfl ?_
  refine zi_iload_n 721 dL_law_720 rfl rfl ?_
  refine zi_iconst (v := 2) 722 dL_law_721 (by decide) rfl ?_
  refine zi_iadd 723 dL_law_722 rfl ?_
  refine zi_sld 724 dL_law_723 hS (li_2 hi hL) rfl ?_
  refine zi_aload_n 725 dL_law_724 rfl rfl ?_
  refine zi_iload_n 726 dL_law_725 rfl rfl ?_
  refine zi_iconst (v := 3) 727 dL_law_726 (by decide) rfl ?_
  refine zi_iadd 728 dL_law_727 rfl ?_
  refine zi_sld 729 dL_law_728 hS (li_3 hi hL) rfl ?_
  refine zc_virtual (n' := (101, 2916)) (md' := mX11_sum) 732 dL_law_729 tw_1047 zv_X11_sum zcl_X11 (s_X11_sum B h1 D hD s hs M1 (xs (nI i + 1).toNatClampNeg) (xs (nI i + 2).toNatClampNeg) (xs (nI i + 3).toNatClampNeg)) hD0 rfl rfl rfl rfl rfl rfl rfl rfl (zk_i fun r2 h2 hp2 => ?_)
  obtain ⟨s2, e2, M2, U2⟩ := hp2
  obtain ⟨rfl, rfl⟩ := Prod.mk.inj (e1.symm.trans e2)
  have R2 := zRc_U J U2 R1
  refine zi_icmp_eq 735 1405 dL_law_732 (by decide) rfl (fun zz => ?_) (fun zz => absurd rfl zz)
  exact kk s1 h2 ⟨ok_e e1 (ok_sum _ _ _ hs), R2, M2⟩

set_option maxHeartbeats 1000000 in
set_option maxRecDepth 100000 in
theorem l_law_15 (B : zBB) (X : zX) (b L : Nat) (xs : Nat → Int32) (hS : lwS X b L xs) (hL : L ≤ 3584) (A D : Nat → Nat) (hA : zInj A) (hD : zInj D) (J : zDj A D) (i : Nat) (hi : i + 7 ≤ L) (s : zSt) (h : zHp) (hI : lwI B A D s h) (kk : ∀ (s1 : zSt) (h2 : zHp), lwI B A D s1 h2 → zG X mL_law B (10, 101, 2916) (101, 2916) 1405 [(3, .int (nI i)), (2, .ref (D 0)), (1, .ref (A 0)), (0, .ref b)] [] h2) : zG X mL_law B (10, 101, 2916) (101, 2916) 737 [(3, .int (nI i)), (2, .ref (D 0)), (1, .ref (A 0)), (0, .ref b)] [] h := by
  obtain ⟨hs, R, M⟩ := hI
  refine zi_aload_n 738 dL_law_737 rfl rfl ?_
  refine zi_aload_n 739 dL_law_738 rfl rfl ?_
  refine zi_iload_n 740 dL_law_739 rfl rfl ?_
  refine zi_iconst (v := 1) 741 dL_law_740 (by decide) rfl ?_
  refine zi_iadd 742 dL_law_741 rfl ?_
  refine zi_sld 743 dL_law_742 hS (li_1 hi hL) rfl ?_
  refine zi_aload_n 744 dL_law_743 rfl rfl ?_
  refine zi_iload_n 745 dL_law_744 rfl rfl ?_
  refine zi_iconst (v := 2) 746 dL_law_745 (by decide) rfl ?_
  refine zi_iadd 747 dL_law_746 rfl ?_
  refine zi_sld 748 dL_law_747 hS (li_2 hi hL) rfl ?_
  refine zc_virtual (n' := (101, 2916)) (md' := mX10_back) 751 dL_law_748 tw_607 zv_X10_back zcl_X10 (s_X10_back B h A hA s hs R (xs (nI i + 1).toNatClampNeg) (xs (nI i + 2).toNatClampNeg)) R.1 rfl rfl rfl rfl rfl rfl rfl rfl (zk_i fun r1 h1 hp => ?_)
  obtain ⟨s1, e1, R1, U1⟩ := hp
  have M1 := rRm_U J U1 M
  obtain ⟨fD, hD0⟩ := rX_hd M1
  refine zi_aload_n 752 dL_law_751 rfl rfl ?_
  refine zi_aload_n 753 dL_law_752 rfl rfl ?_
  refine zi_iload_n 754 dL_law_753 rfl rfl ?_
  refine zi_iconst (v := 1) 755 dL_law_754 (by decide) rfl ?_
  refine zi_iadd 756 dL_law_755 rfl ?_
  refine zi_sld 757 dL_law_756 hS (li_1 hi hL) rfl ?_
  refine zi_aload_n 758 dL_law_757 rfl rfl ?_
  refine zi_iload_n 759 dL_law_758 rfl rfl ?_
  refine zi_iconst (v := 2) 760 dL_law_759 (by decide) rfl ?_
  refine zi_iadd 761 dL_law_760 rfl ?_
  refine zi_sld 762 dL_law_761 hS (li_2 hi hL) rfl ?_
  refine zc_virtual (n' := (101, 2916)) (md' := mX11_back) 765 dL_law_762 tw_1051 zv_X11_back zcl_X11 (s_X11_back B h1 D hD s hs M1 (xs (nI i + 1).toNatClampNeg) (xs (nI i + 2).toNatClampNeg)) hD0 rfl rfl rfl rfl rfl rfl rfl rfl (zk_i fun r2 h2 hp2 => ?_)
  obtain ⟨s2, e2, M2, U2⟩ := hp2
  obtain ⟨rfl, rfl⟩ := Prod.mk.inj (e1.symm.trans e2)
  have R2 := zRc_U J U2 R1
  refine zi_icmp_eq 768 1405 dL_law_765 (by decide) rfl (fun zz => ?_) (fun zz => absurd rfl zz)
  exact kk s1 h2 ⟨ok_e e1 (ok_back _ _ hs), R2, M2⟩

set_option maxHeartbeats 1000000 in
set_option maxRecDepth 100000 in
theorem l_law_16 (B : zBB) (X : zX) (b L : Nat) (xs : Nat → Int32) (hS : lwS X b L xs) (hL : L ≤ 3584) (A D : Nat → Nat) (hA : zInj A) (hD : zInj D) (J : zDj A D) (i : Nat) (hi : i + 7 ≤ L) (s : zSt) (h : zHp) (hI : lwI B A D s h) (kk : ∀ (s1 : zSt) (h2 : zHp), lwI B A D s1 h2 → zG X mL_law B (10, 101, 2916) (101, 2916) 1405 [(3, .int (nI i)), (2, .ref (D 0)), (1, .ref (A 0)), (0, .ref b)] [] h2) : zG X mL_law B (10, 101, 2916) (101, 2916) 770 [(3, .int (nI i)), (2, .ref (D 0)), (1, .ref (A 0)), (0, .ref b)] [] h := by
  obtain ⟨hs, R, M⟩ := hI
  refine zi_aload_n 771 dL_law_770 rfl rfl ?_
  refine zi_aload_n 772 dL_law_771 rfl rfl ?_
  refine zi_iload_n 773 dL_law_772 rfl rfl ?_
  refine zi_iconst (v := 1) 774 dL_law_773 (by decide) rfl ?_
  refine zi_iadd 775 dL_law_774 rfl ?_
  refine zi_sld 776 dL_law_775 hS (li_1 hi hL) rfl ?_
  refine zi_aload_n 777 dL_law_776 rfl rfl ?_
  refine zi_iload_n 778 dL_law_777 rfl rfl ?_
  refine zi_iconst (v := 2) 779 dL_law_778 (by decide) rfl ?_
  refine zi_iadd 780 dL_law_779 rfl ?_
  refine zi_sld 781 dL_law_780 hS (li_2 hi hL) rfl ?_
  refine zi_aload_n 782 dL_law_781 rfl rfl ?_
  refine zi_iload_n 783 dL_law_782 rfl rfl ?_
  refine zi_iconst (v := 3) 784 dL_law_783 (by decide) rfl ?_
  refine zi_iadd 785 dL_law_784 rfl ?_
  refine zi_sld 786 dL_law_785 hS (li_3 hi hL) rfl ?_
  refine zi_aload_n 787 dL_law_786 rfl rfl ?_
  refine zi_iload_n 788 dL_law_787 rfl rfl ?_
  refine zi_iconst (v := 4) 789 dL_law_788 (by decide) rfl ?_
  refine zi_iadd 790 dL_law_789 rfl ?_
  refine zi_sld 791 dL_law_790 hS (li_4 hi hL) rfl ?_
  refine zi_aload_n 792 dL_law_791 rfl rfl ?_
  refine zi_iload_n 793 dL_law_792 rfl rfl ?_
  refine zi_iconst (v := 5) 794 dL_law_793 (by decide) rfl ?_
  refine zi_iadd 795 dL_law_794 rfl ?_
  refine zi_sld 796 dL_law_795 hS (li_5 hi hL) rfl ?_
  refine zc_virtual (n' := (101, 2916)) (md' := mX10_over) 799 dL_law_796 tw_615 zv_X10_over zcl_X10 (s_X10_over B h A hA s hs R (xs (nI i + 1).toNatClampNeg) (xs (nI i + 2).toNatClampNeg) (xs (nI i + 3).toNatClampNeg) (xs (nI i + 4).toNatClampNeg) (xs (nI i + 5).toNatClampNeg)) R.1 rfl rfl rfl rfl rfl rfl rfl rfl (zk_i fun r1 h1 hp => ?_)
  obtain ⟨s1, e1, R1, U1⟩ := hp
  have M1 := rRm_U J U1 M
  obtain ⟨fD, hD0⟩ := rX_hd M1
  refine zi_aload_n 800 dL_law_799 rfl rfl ?_
  refine zi_aload_n 801 dL_law_800 rfl rfl ?_
  refine zi_iload_n 802 dL_law_801 rfl rfl ?_
  refine zi_iconst (v := 1) 803 dL_law_802 (by decide) rfl ?_
  refine zi_iadd 804 dL_law_803 rfl ?_
  refine zi_sld 805 dL_law_804 hS (li_1 hi hL) rfl ?_
  refine zi_aload_n 806 dL_law_805 rfl rfl ?_
  refine zi_iload_n 807 dL_law_806 rfl rfl ?_
  refine zi_iconst (v := 2) 808 dL_law_807 (by decide) rfl ?_
  refine zi_iadd 809 dL_law_808 rfl ?_
  refine zi_sld 810 dL_law_809 hS (li_2 hi hL) rfl ?_
  refine zi_aload_n 811 dL_law_810 rfl rfl ?_
  refine zi_iload_n 812 dL_law_811 rfl rfl ?_
  refine zi_iconst (v := 3) 813 dL_law_812 (by decide) rfl ?_
  refine zi_iadd 814 dL_law_813 rfl ?_
  refine zi_sld 815 dL_law_814 hS (li_3 hi hL) rfl ?_
  refine zi_aload_n 816 dL_law_815 rfl rfl ?_
  refine zi_iload_n 817 dL_law_816 rfl rfl ?_
  refine zi_iconst (v := 4) 818 dL_law_817 (by decide) rfl ?_
  refine zi_iadd 819 dL_law_818 rfl ?_
  refine zi_sld 820 dL_law_819 hS (li_4 hi hL) rfl ?_
  refine zi_aload_n 821 dL_law_820 rfl rfl ?_
  refine zi_iload_n 822 dL_law_821 rfl rfl ?_
  refine zi_iconst (v := 5) 823 dL_law_822 (by decide) rfl ?_
  refine zi_iadd 824 dL_law_823 rfl ?_
  refine zi_sld 825 dL_law_824 hS (li_5 hi hL) rfl ?_
  refine zc_virtual (n' := (101, 2916)) (md' := mX11_over) 828 dL_law_825 tw_1059 zv_X11_over zcl_X11 (s_X11_over B h1 D hD s hs M1 (xs (nI i + 1).toNatClampNeg) (xs (nI i + 2).toNatClampNeg) (xs (nI i + 3).toNatClampNeg) (xs (nI i + 4).toNatClampNeg) (xs (nI i + 5).toNatClampNeg)) hD0 rfl rfl rfl rfl rfl rfl rfl rfl (zk_i fun r2 h2 hp2 => ?_)
  obtain ⟨s2, e2, M2, U2⟩ := hp2
  obtain ⟨rfl, rfl⟩ := Prod.mk.inj (e1.symm.trans e2)
  have R2 := zRc_U J U2 R1
  refine zi_icmp_eq 831 1405 dL_law_828 (by decide) rfl (fun zz => ?_) (fun zz => absurd rfl zz)
  exact kk s1 h2 ⟨ok_e e1 (ok_over _ _ _ _ _ hs), R2, M2⟩

set_option maxHeartbeats 1000000 in
set_option maxRecDepth 100000 in
theorem l_law_17 (B : zBB) (X : zX) (b L : Nat) (xs : Nat → Int32) (hS : lwS X b L xs) (hL : L ≤ 3584) (A D : Nat → Nat) (hA : zInj A) (hD : zInj D) (J : zDj A D) (i : Nat) (hi : i + 7 ≤ L) (s : zSt) (h : zHp) (hI : lwI B A D s h) (kk : ∀ (s1 : zSt) (h2 : zHp), lwI B A D s1 h2 → zG X mL_law B (10, 101, 2916) (101, 2916) 1405 [(3, .int (nI i)), (2, .ref (D 0)), (1, .ref (A 0)), (0, .ref b)] [] h2) : zG X mL_law B (10, 101, 2916) (101, 2916) 833 [(3, .int (nI i)), (2, .ref (D 0)), (1, .ref (A 0)), (0, .ref b)] [] h := by
  obtain ⟨hs, R, M⟩ := hI
  refine zi_aload_n 834 dL_law_833 rfl rfl ?_
  refine zi_aload_n 835 dL_law_834 rfl rfl ?_
  refine zi_iload_n 836 dL_law_835 rfl rfl ?_
  refine zi_iconst (v := 1) 837 dL_law_836 (by decide) rfl ?_
  refine zi_iadd 838 dL_law_837 rfl ?_
  refine zi_sld 839 dL_law_838 hS (li_1 hi hL) rfl ?_
  refine zi_aload_n 840 dL_law_839 rfl rfl ?_
  refine zi_iload_n 841 dL_law_840 rfl rfl ?_
  refine zi_iconst (v := 2) 842 dL_law_841 (by decide) rfl ?_
  refine zi_iadd 843 dL_law_842 rfl ?_
  refine zi_sld 844 dL_law_843 hS (li_2 hi hL) rfl ?_
  refine zi_aload_n 845 dL_law_844 rfl rfl ?_
  refine zi_iload_n 846 dL_law_845 rfl rfl ?_
  refine zi_iconst (v := 3) 847 dL_law_846 (by decide) rfl ?_
  refine zi_iadd 848 dL_law_847 rfl ?_
  refine zi_sld 849 dL_law_848 hS (li_3 hi hL) rfl ?_
  refine zi_aload_n 850 dL_law_849 rfl rfl ?_
  refine zi_iload_n 851 dL_law_850 rfl rfl ?_
  refine zi_iconst (v := 4) 852 dL_law_851 (by decide) rfl ?_
  refine zi_iadd 853 dL_law_852 rfl ?_
  refine zi_sld 854 dL_law_853 hS (li_4 hi hL) rfl ?_
  refine zc_virtual (n' := (101, 2916)) (md' := mX10_greatest) 857 dL_law_854 tw_657 zv_X10_greatest zcl_X10 (s_X10_greatest B h A hA s hs R (xs (nI i + 1).toNatClampNeg) (xs (nI i + 2).toNatClampNeg) (xs (nI i + 3).toNatClampNeg) (xs (nI i + 4).toNatClampNeg)) R.1 rfl rfl rfl rfl rfl rfl rfl rfl (zk_i fun r1 h1 hp => ?_)
  obtain ⟨s1, e1, R1, U1⟩ := hp
  have M1 := rRm_U J U1 M
  obtain ⟨fD, hD0⟩ := rX_hd M1
  refine zi_aload_n 858 dL_law_857 rfl rfl ?_
  refine zi_aload_n 859 dL_law_858 rfl rfl ?_
  refine zi_iload_n 860 dL_law_859 rfl rfl ?_
  refine zi_iconst (v := 1) 861 dL_law_860 (by decide) rfl ?_
  refine zi_iadd 862 dL_law_861 rfl ?_
  refine zi_sld 863 dL_law_862 hS (li_1 hi hL) rfl ?_
  refine zi_aload_n 864 dL_law_863 rfl rfl ?_
  refine zi_iload_n 865 dL_law_864 rfl rfl ?_
  refine zi_iconst (v := 2) 866 dL_law_865 (by decide) rfl ?_
  refine zi_iadd 867 dL_law_866 rfl ?_
  refine zi_sld 868 dL_law_867 hS (li_2 hi hL) rfl ?_
  refine zi_aload_n 869 dL_law_868 rfl rfl ?_
  refine zi_iload_n 870 dL_law_869 rfl rfl ?_
  refine zi_iconst (v := 3) 871 dL_law_870 (by decide) rfl ?_
  refine zi_iadd 872 dL_law_871 rfl ?_
  refine zi_sld 873 dL_law_872 hS (li_3 hi hL) rfl ?_
  refine zi_aload_n 874 dL_law_873 rfl rfl ?_
  refine zi_iload_n 875 dL_law_874 rfl rfl ?_
  refine zi_iconst (v := 4) 876 dL_law_875 (by decide) rfl ?_
  refine zi_iadd 877 dL_law_876 rfl ?_
  refine zi_sld 878 dL_law_877 hS (li_4 hi hL) rfl ?_
  refine zc_virtual (n' := (101, 2916)) (md' := mX11_greatest) 881 dL_law_878 tw_1071 zv_X11_greatest zcl_X11 (s_X11_greatest B h1 D hD s hs M1 (xs (nI i + 1).toNatClampNeg) (xs (nI i + 2).toNatClampNeg) (xs (nI i + 3).toNatClampNeg) (xs (nI i + 4).toNatClampNeg)) hD0 rfl rfl rfl rfl rfl rfl rfl rfl (zk_i fun r2 h2 hp2 => ?_)
  obtain ⟨s2, e2, M2, U2⟩ := hp2
  obtain ⟨rfl, rfl⟩ := Prod.mk.inj (e1.symm.trans e2)
  have R2 := zRc_U J U2 R1
  refine zi_icmp_eq 884 1405 dL_law_881 (by decide) rfl (fun zz => ?_) (fun zz => absurd rfl zz)
  exact kk s1 h2 ⟨ok_e e1 (ok_greatest _ _ _ _ hs), R2, M2⟩

set_option maxHeartbeats 1000000 in
set_option maxRecDepth 100000 in
theorem l_law_18 (B : zBB) (X : zX) (b L : Nat) (xs : Nat → Int32) (hS : lwS X b L xs) (hL : L ≤ 3584) (A D : Nat → Nat) (hA : zInj A) (hD : zInj D) (J : zDj A D) (i : Nat) (hi : i + 7 ≤ L) (s : zSt) (h : zHp) (hI : lwI B A D s h) (kk : ∀ (s1 : zSt) (h2 : zHp), lwI B A D s1 h2 → zG X mL_law B (10, 101, 2916) (101, 2916) 1405 [(3, .int (nI i)), (2, .ref (D 0)), (1, .ref (A 0)), (0, .ref b)] [] h2) : zG X mL_law B (10, 101, 2916) (101, 2916) 886 [(3, .int (nI i)), (2, .ref (D 0)), (1, .ref (A 0)), (0, .ref b)] [] h := by
  obtain ⟨hs, R, M⟩ := hI
  refine zi_aload_n 887 dL_law_886 rfl rfl ?_
  refine zi_aload_n 888 dL_law_887 rfl rfl ?_
  refine zi_iload_n 889 dL_law_888 rfl rfl ?_
  refine zi_iconst (v := 1) 890 dL_law_889 (by decide) rfl ?_
  refine zi_iadd 891 dL_law_890 rfl ?_
  refine zi_sld 892 dL_law_891 hS (li_1 hi hL) rfl ?_
  refine zi_aload_n 893 dL_law_892 rfl rfl ?_
  refine zi_iload_n 894 dL_law_893 rfl rfl ?_
  refine zi_iconst (v := 2) 895 dL_law_894 (by decide) rfl ?_
  refine zi_iadd 896 dL_law_895 rfl ?_
  refine zi_sld 897 dL_law_896 hS (li_2 hi hL) rfl ?_
  refine zi_aload_n 898 dL_law_897 rfl rfl ?_
  refine zi_iload_n 899 dL_law_898 rfl rfl ?_
  refine zi_iconst (v := 3) 900 dL_law_899 (by decide) rfl ?_
  refine zi_iadd 901 dL_law_900 rfl ?_
  refine zi_sld 902 dL_law_901 hS (li_3 hi hL) rfl ?_
  refine zc_virtual (n' := (101, 2916)) (md' := mX10_associate) 905 dL_law_902 tw_684 zv_X10_associate zcl_X10 (s_X10_associate B h A hA s hs R (xs (nI i + 1).toNatClampNeg) (xs (nI i + 2).toNatClampNeg) (xs (nI i + 3).toNatClampNeg)) R.1 rfl rfl rfl rfl rfl rfl rfl rfl (zk_i fun r1 h1 hp => ?_)
  obtain ⟨s1, e1, R1, U1⟩ := hp
  have M1 := rRm_U J U1 M
  obtain ⟨fD, hD0⟩ := rX_hd M1
  refine zi_aload_n 906 dL_law_905 rfl rfl ?_
  refine zi_aload_n 907 dL_law_906 rfl rfl ?_
  refine zi_iload_n 908 dL_law_907 rfl rfl ?_
  refine zi_iconst (v := 1) 909 dL_law_908 (by decide) rfl ?_
  refine zi_iadd 910 dL_law_909 rfl ?_
  refine zi_sld 911 dL_law_910 hS (li_1 hi hL) rfl ?_
  refine zi_aload_n 912 dL_law_911 rfl rfl ?_
  refine zi_iload_n 913 dL_law_912 rfl rfl ?_
  refine zi_iconst (v := 2) 914 dL_law_913 (by decide) rfl ?_
  refine zi_iadd 915 dL_law_914 rfl ?_
  refine zi_sld 916 dL_law_915 hS (li_2 hi hL) rfl ?_
  refine zi_aload_n 917 dL_law_916 rfl rfl ?_
  refine zi_iload_n 918 dL_law_917 rfl rfl ?_
  refine zi_iconst (v := 3) 919 dL_law_918 (by decide) rfl ?_
  refine zi_iadd 920 dL_law_919 rfl ?_
  refine zi_sld 921 dL_law_920 hS (li_3 hi hL) rfl ?_
  refine zc_virtual (n' := (101, 2916)) (md' := mX11_associate) 924 dL_law_921 tw_1097 zv_X11_associate zcl_X11 (s_X11_associate B h1 D hD s hs M1 (xs (nI i + 1).toNatClampNeg) (xs (nI i + 2).toNatClampNeg) (xs (nI i + 3).toNatClampNeg)) hD0 rfl rfl rfl rfl rfl rfl rfl rfl (zk_i fun r2 h2 hp2 => ?_)
  obtain ⟨s2, e2, M2, U2⟩ := hp2
  obtain ⟨rfl, rfl⟩ := Prod.mk.inj (e1.symm.trans e2)
  have R2 := zRc_U J U2 R1
  refine zi_icmp_eq 927 1405 dL_law_924 (by decide) rfl (fun zz => ?_) (fun zz => absurd rfl zz)
  exact kk s1 h2 ⟨ok_e e1 (ok_associate _ _ _ hs), R2, M2⟩

set_option maxHeartbeats 1000000 in
set_option maxRecDepth 100000 in
theorem l_law_19 (B : zBB) (X : zX) (b L : Nat) (xs : Nat → Int32) (hS : lwS X b L xs) (hL : L ≤ 3584) (A D : Nat → Nat) (hA : zInj A) (hD : zInj D) (J : zDj A D) (i : Nat) (hi : i + 7 ≤ L) (s : zSt) (h : zHp) (hI : lwI B A D s h) (kk : ∀ (s1 : zSt) (h2 : zHp), lwI B A D s1 h2 → zG X mL_law B (10, 101, 2916) (101, 2916) 1405 [(3, .int (nI i)), (2, .ref (D 0)), (1, .ref (A 0)), (0, .ref b)] [] h2) : zG X mL_law B (10, 101, 2916) (101, 2916) 929 [(3, .int (nI i)), (2, .ref (D 0)), (1, .ref (A 0)), (0, .ref b)] [] h := by
  obtain ⟨hs, R, M⟩ := hI
  refine zi_aload_n 930 dL_law_929 rfl rfl ?_
  refine zi_aload_n 931 dL_law_930 rfl rfl ?_
  refine zi_iload_n 932 dL_law_931 rfl rfl ?_
  refine zi_iconst (v := 1) 933 dL_law_932 (by decide) rfl ?_
  refine zi_iadd 934 dL_law_933 rfl ?_
  refine zi_sld 935 dL_law_934 hS (li_1 hi hL) rfl ?_
  refine zi_aload_n 936 dL_law_935 rfl rfl ?_
  refine zi_iload_n 937 dL_law_936 rfl rfl ?_
  refine zi_iconst (v := 2) 938 dL_law_937 (by decide) rfl ?_
  refine zi_iadd 939 dL_law_938 rfl ?_
  refine zi_sld 940 dL_law_939 hS (li_2 hi hL) rfl ?_
  refine zc_virtual (n' := (101, 2916)) (md' := mX10_plain) 943 dL_law_940 tw_689 zv_X10_plain zcl_X10 (s_X10_plain B h A hA s hs R (xs (nI i + 1).toNatClampNeg) (xs (nI i + 2).toNatClampNeg)) R.1 rfl rfl rfl rfl rfl rfl rfl rfl (zk_i fun r1 h1 hp => ?_)
  obtain ⟨s1, e1, R1, U1⟩ := hp
  have M1 := rRm_U J U1 M
  obtain ⟨fD, hD0⟩ := rX_hd M1
  refine zi_aload_n 944 dL_law_943 rfl rfl ?_
  refine zi_aload_n 945 dL_law_944 rfl rfl ?_
  refine zi_iload_n 946 dL_law_945 rfl rfl ?_
  refine zi_iconst (v := 1) 947 dL_law_946 (by decide) rfl ?_
  refine zi_iadd 948 dL_law_947 rfl ?_
  refine zi_sld 949 dL_law_948 hS (li_1 hi hL) rfl ?_
  refine zi_aload_n 950 dL_law_949 rfl rfl ?_
  refine zi_iload_n 951 dL_law_950 rfl rfl ?_
  refine zi_iconst (v := 2) 952 dL_law_951 (by decide) rfl ?_
  refine zi_iadd 953 dL_law_952 rfl ?_
  refine zi_sld 954 dL_law_953 hS (li_2 hi hL) rfl ?_
  refine zc_virtual (n' := (101, 2916)) (md' := mX11_plain) 957 dL_law_954 tw_1101 zv_X11_plain zcl_X11 (s_X11_plain B h1 D hD s hs M1 (xs (nI i + 1).toNatClampNeg) (xs (nI i + 2).toNatClampNeg)) hD0 rfl rfl rfl rfl rfl rfl rfl rfl (zk_i fun r2 h2 hp2 => ?_)
  obtain ⟨s2, e2, M2, U2⟩ := hp2
  obtain ⟨rfl, rfl⟩ := Prod.mk.inj (e1.symm.trans e2)
  have R2 := zRc_U J U2 R1
  refine zi_icmp_eq 960 1405 dL_law_957 (by decide) rfl (fun zz => ?_) (fun zz => absurd rfl zz)
  exact kk s1 h2 ⟨ok_e e1 (ok_plain _ _ hs), R2, M2⟩

set_option maxHeartbeats 1000000 in
set_option maxRecDepth 100000 in
theorem l_law_20 (B : zBB) (X : zX) (b L : Nat) (xs : Nat → Int32) (hS : lwS X b L xs) (hL : L ≤ 3584) (A D : Nat → Nat) (hA : zInj A) (hD : zInj D) (J : zDj A D) (i : Nat) (hi : i + 7 ≤ L) (s : zSt) (h : zHp) (hI : lwI B A D s h) (kk : ∀ (s1 : zSt) (h2 : zHp), lwI B A D s1 h2 → zG X mL_law B (10, 101, 2916) (101, 2916) 1405 [(3, .int (nI i)), (2, .ref (D 0)), (1, .ref (A 0)), (0, .ref b)] [] h2) : zG X mL_law B (10, 101, 2916) (101, 2916) 962 [(3, .int (nI i)), (2, .ref (D 0)), (1, .ref (A 0)), (0, .ref b)] [] h := by
  obtain ⟨hs, R, M⟩ := hI
  refine zi_aload_n 963 dL_law_962 rfl rfl ?_
  refine zi_aload_n 964 dL_law_963 rfl rfl ?_
  refine zi_iload_n 965 dL_law_964 rfl rfl ?_
  refine zi_iconst (v := 1) 966 dL_law_965 (by decide) rfl ?_
  refine zi_iadd 967 dL_law_966 rfl ?_
  refine zi_sld 968 dL_law_967 hS (li_1 hi hL) rfl ?_
  refine zi_aload_n 969 dL_law_968 rfl rfl ?_
  refine zi_iload_n 970 dL_law_969 rfl rfl ?_
  refine zi_iconst (v := 2) 971 dL_law_970 (by decide) rfl ?_
  refine zi_iadd 972 dL_law_971 rfl ?_
  refine zi_sld 973 dL_law_972 hS (li_2 hi hL) rfl ?_
  refine zi_aload_n 974 dL_law_973 rfl rfl ?_
  refine zi_iload_n 975 dL_law_974 rfl rfl ?_
  refine zi_iconst (v := 3) 976 dL_law_975 (by decide) rfl ?_
  refine zi_iadd 977 dL_law_976 rfl ?_
  refine zi_sld 978 dL_law_977 hS (li_3 hi hL) rfl ?_
  refine zc_virtual (n' := (101, 2916)) (md' := mX10_part) 981 dL_law_978 tw_694 zv_X10_part zcl_X10 (s_X10_part B h A hA s hs R (xs (nI i + 1).toNatClampNeg) (xs (nI i + 2).toNatClampNeg) (xs (nI i + 3).toNatClampNeg)) R.1 rfl rfl rfl rfl rfl rfl rfl rfl (zk_i fun r1 h1 hp => ?_)
  obtain ⟨s1, e1, R1, U1⟩ := hp
  have M1 := rRm_U J U1 M
  obtain ⟨fD, hD0⟩ := rX_hd M1
  refine zi_aload_n 982 dL_law_981 rfl rfl ?_
  refine zi_aload_n 983 dL_law_982 rfl rfl ?_
  refine zi_iload_n 984 dL_law_983 rfl rfl ?_
  refine zi_iconst (v := 1) 985 dL_law_984 (by decide) rfl ?_
  refine zi_iadd 986 dL_law_985 rfl ?_
  refine zi_sld 987 dL_law_986 hS (li_1 hi hL) rfl ?_
  refine zi_aload_n 988 dL_law_987 rfl rfl ?_
  refine zi_iload_n 989 dL_law_988 rfl rfl ?_
  refine zi_iconst (v := 2) 990 dL_law_989 (by decide) rfl ?_
  refine zi_iadd 991 dL_law_990 rfl ?_
  refine zi_sld 992 dL_law_991 hS (li_2 hi hL) rfl ?_
  refine zi_aload_n 993 dL_law_992 rfl rfl ?_
  refine zi_iload_n 994 dL_law_993 rfl rfl ?_
  refine zi_iconst (v := 3) 995 dL_law_994 (by decide) rfl ?_
  refine zi_iadd 996 dL_law_995 rfl ?_
  refine zi_sld 997 dL_law_996 hS (li_3 hi hL) rfl ?_
  refine zc_virtual (n' := (101, 2916)) (md' := mX11_part) 1000 dL_law_997 tw_1105 zv_X11_part zcl_X11 (s_X11_part B h1 D hD s hs M1 (xs (nI i + 1).toNatClampNeg) (xs (nI i + 2).toNatClampNeg) (xs (nI i + 3).toNatClampNeg)) hD0 rfl rfl rfl rfl rfl rfl rfl rfl (zk_i fun r2 h2 hp2 => ?_)
  obtain ⟨s2, e2, M2, U2⟩ := hp2
  obtain ⟨rfl, rfl⟩ := Prod.mk.inj (e1.symm.trans e2)
  have R2 := zRc_U J U2 R1
  refine zi_icmp_eq 1003 1405 dL_law_1000 (by decide) rfl (fun zz => ?_) (fun zz => absurd rfl zz)
  exact kk s1 h2 ⟨ok_e e1 (ok_part _ _ _ hs), R2, M2⟩

set_option maxHeartbeats 1000000 in
set_option maxRecDepth 100000 in
theorem l_law_21 (B : zBB) (X : zX) (b L : Nat) (xs : Nat → Int32) (hS : lwS X b L xs) (hL : L ≤ 3584) (A D : Nat → Nat) (hA : zInj A) (hD : zInj D) (J : zDj A D) (i : Nat) (hi : i + 7 ≤ L) (s : zSt) (h : zHp) (hI : lwI B A D s h) (kk : ∀ (s1 : zSt) (h2 : zHp), lwI B A D s1 h2 → zG X mL_law B (10, 101, 2916) (101, 2916) 1405 [(3, .int (nI i)), (2, .ref (D 0)), (1, .ref (A 0)), (0, .ref b)] [] h2) : zG X mL_law B (10, 101, 2916) (101, 2916) 1005 [(3, .int (nI i)), (2, .ref (D 0)), (1, .ref (A 0)), (0, .ref b)] [] h := by
  obtain ⟨hs, R, M⟩ := hI
  refine zi_aload_n 1006 dL_law_1005 rfl rfl ?_
  refine zi_aload_n 1007 dL_law_1006 rfl rfl ?_
  refine zi_iload_n 1008 dL_law_1007 rfl rfl ?_
  refine zi_iconst (v := 1) 1009 dL_law_1008 (by decide) rfl ?_
  refine zi_iadd 1010 dL_law_1009 rfl ?_
  refine zi_sld 1011 dL_law_1010 hS (li_1 hi hL) rfl ?_
  refine zc_virtual (n' := (101, 2916)) (md' := mX10_many) 1014 dL_law_1011 tw_716 zv_X10_many zcl_X10 (s_X10_many B h A hA s hs R (xs (nI i + 1).toNatClampNeg)) R.1 rfl rfl rfl rfl rfl rfl rfl rfl (zk_i fun r1 h1 hp => ?_)
  obtain ⟨s1, e1, R1, U1⟩ := hp
  have M1 := rRm_U J U1 M
  obtain ⟨fD, hD0⟩ := rX_hd M1
  refine zi_aload_n 1015 dL_law_1014 rfl rfl ?_
  refine zi_aload_n 1016 dL_law_1015 rfl rfl ?_
  refine zi_iload_n 1017 dL_law_1016 rfl rfl ?_
  refine zi_iconst (v := 1) 1018 dL_law_1017 (by decide) rfl ?_
  refine zi_iadd 1019 dL_law_1018 rfl ?_
  refine zi_sld 1020 dL_law_1019 hS (li_1 hi hL) rfl ?_
  refine zc_virtual (n' := (101, 2916)) (md' := mX11_many) 1023 dL_law_1020 tw_1112 zv_X11_many zcl_X11 (s_X11_many B h1 D hD s hs M1 (xs (nI i + 1).toNatClampNeg)) hD0 rfl rfl rfl rfl rfl rfl rfl rfl (zk_i fun r2 h2 hp2 => ?_)
  obtain ⟨s2, e2, M2, U2⟩ := hp2
  obtain ⟨rfl, rfl⟩ := Prod.mk.inj (e1.symm.trans e2)
  have R2 := zRc_U J U2 R1
  refine zi_icmp_eq 1026 1405 dL_law_1023 (by decide) rfl (fun zz => ?_) (fun zz => absurd rfl zz)
  exact kk s1 h2 ⟨ok_e e1 (ok_many _ hs), R2, M2⟩

set_option maxHeartbeats 1000000 in
set_option maxRecDepth 100000 in
theorem l_law_22 (B : zBB) (X : zX) (b L : Nat) (xs : Nat → Int32) (hS : lwS X b L xs) (hL : L ≤ 3584) (A D : Nat → Nat) (hA : zInj A) (hD : zInj D) (J : zDj A D) (i : Nat) (hi : i + 7 ≤ L) (s : zSt) (h : zHp) (hI : lwI B A D s h) (kk : ∀ (s1 : zSt) (h2 : zHp), lwI B A D s1 h2 → zG X mL_law B (10, 101, 2916) (101, 2916) 1405 [(3, .int (nI i)), (2, .ref (D 0)), (1, .ref (A 0)), (0, .ref b)] [] h2) : zG X mL_law B (10, 101, 2916) (101, 2916) 1028 [(3, .int (nI i)), (2, .ref (D 0)), (1, .ref (A 0)), (0, .ref b)] [] h := by
  obtain ⟨hs, R, M⟩ := hI
  refine zi_aload_n 1029 dL_law_1028 rfl rfl ?_
  refine zi_aload_n 1030 dL_law_1029 rfl rfl ?_
  refine zi_iload_n 1031 dL_law_1030 rfl rfl ?_
  refine zi_iconst (v := 1) 1032 dL_law_1031 (by decide) rfl ?_
  refine zi_iadd 1033 dL_law_1032 rfl ?_
  refine zi_sld 1034 dL_law_1033 hS (li_1 hi hL) rfl ?_
  refine zi_aload_n 1035 dL_law_1034 rfl rfl ?_
  refine zi_iload_n 1036 dL_law_1035 rfl rfl ?_
  refine zi_iconst (v := 2) 1037 dL_law_1036 (by decide) rfl ?_
  refine zi_iadd 1038 dL_law_1037 rfl ?_
  refine zi_sld 1039 dL_law_1038 hS (li_2 hi hL) rfl ?_
  refine zi_aload_n 1040 dL_law_1039 rfl rfl ?_
  refine zi_iload_n 1041 dL_law_1040 rfl rfl ?_
  refine zi_iconst (v := 3) 1042 dL_law_1041 (by decide) rfl ?_
  refine zi_iadd 1043 dL_law_1042 rfl ?_
  refine zi_sld 1044 dL_law_1043 hS (li_3 hi hL) rfl ?_
  refine zc_virtual (n' := (101, 2916)) (md' := mX10_list) 1047 dL_law_1044 tw_723 zv_X10_list zcl_X10 (s_X10_list B h A hA s hs R (xs (nI i + 1).toNatClampNeg) (xs (nI i + 2).toNatClampNeg) (xs (nI i + 3).toNatClampNeg)) R.1 rfl rfl rfl rfl rfl rfl rfl rfl (zk_i fun r1 h1 hp => ?_)
  obtain ⟨s1, e1, R1, U1⟩ := hp
  have M1 := rRm_U J U1 M
  obtain ⟨fD, hD0⟩ := rX_hd M1
  refine zi_aload_n 1048 dL_law_1047 rfl rfl ?_
  refine zi_aload_n 1049 dL_law_1048 rfl rfl ?_
  refine zi_iload_n 1050 dL_law_1049 rfl rfl ?_
  refine zi_iconst (v := 1) 1051 dL_law_1050 (by decide) rfl ?_
  refine zi_iadd 1052 dL_law_1051 rfl ?_
  refine zi_sld 1053 dL_law_1052 hS (li_1 hi hL) rfl ?_
  refine zi_aload_n 1054 dL_law_1053 rfl rfl ?_
  refine zi_iload_n 1055 dL_law_1054 rfl rfl ?_
  refine zi_iconst (v := 2) 1056 dL_law_1055 (by decide) rfl ?_
  refine zi_iadd 1057 dL_law_1056 rfl ?_
  refine zi_sld 1058 dL_law_1057 hS (li_2 hi hL) rfl ?_
  refine zi_aload_n 1059 dL_law_1058 rfl rfl ?_
  refine zi_iload_n 1060 dL_law_1059 rfl rfl ?_
  refine zi_iconst (v := 3) 1061 dL_law_1060 (by decide) rfl ?_
  refine zi_iadd 1062 dL_law_1061 rfl ?_
  refine zi_sld 1063 dL_law_1062 hS (li_3 hi hL) rfl ?_
  refine zc_virtual (n' := (101, 2916)) (md' := mX11_list) 1066 dL_law_1063 tw_1117 zv_X11_list zcl_X11 (s_X11_list B h1 D hD s hs M1 (xs (nI i + 1).toNatClampNeg) (xs (nI i + 2).toNatClampNeg) (xs (nI i + 3).toNatClampNeg)) hD0 rfl rfl rfl rfl rfl rfl rfl rfl (zk_i fun r2 h2 hp2 => ?_)
  obtain ⟨s2, e2, M2, U2⟩ := hp2
  obtain ⟨rfl, rfl⟩ := Prod.mk.inj (e1.symm.trans e2)
  have R2 := zRc_U J U2 R1
  refine zi_icmp_eq 1069 1405 dL_law_1066 (by decide) rfl (fun zz => ?_) (fun zz => absurd rfl zz)
  exact kk s1 h2 ⟨ok_e e1 (ok_list _ _ _ hs), R2, M2⟩

set_option maxHeartbeats 1000000 in
set_option maxRecDepth 100000 in
theorem l_law_23 (B : zBB) (X : zX) (b L : Nat) (xs : Nat → Int32) (hS : lwS X b L xs) (hL : L ≤ 3584) (A D : Nat → Nat) (hA : zInj A) (hD : zInj D) (J : zDj A D) (i : Nat) (hi : i + 7 ≤ L) (s : zSt) (h : zHp) (hI : lwI B A D s h) (kk : ∀ (s1 : zSt) (h2 : zHp), lwI B A D s1 h2 → zG X mL_law B (10, 101, 2916) (101, 2916) 1405 [(3, .int (nI i)), (2, .ref (D 0)), (1, .ref (A 0)), (0, .ref b)] [] h2) : zG X mL_law B (10, 101, 2916) (101, 2916) 1071 [(3, .int (nI i)), (2, .ref (D 0)), (1, .ref (A 0)), (0, .ref b)] [] h := by
  obtain ⟨hs, R, M⟩ := hI
  refine zi_aload_n 1072 dL_law_1071 rfl rfl ?_
  refine zi_aload_n 1073 dL_law_1072 rfl rfl ?_
  refine zi_iload_n 1074 dL_law_1073 rfl rfl ?_
  refine zi_iconst (v := 1) 1075 dL_law_1074 (by decide) rfl ?_
  refine zi_iadd 1076 dL_law_1075 rfl ?_
  refine zi_sld 1077 dL_law_1076 hS (li_1 hi hL) rfl ?_
  refine zc_virtual (n' := (101, 2916)) (md' := mX10_squares) 1080 dL_law_1077 tw_744 zv_X10_squares zcl_X10 (s_X10_squares B h A hA s hs R (xs (nI i + 1).toNatClampNeg)) R.1 rfl rfl rfl rfl rfl rfl rfl rfl (zk_i fun r1 h1 hp => ?_)
  obtain ⟨s1, e1, R1, U1⟩ := hp
  have M1 := rRm_U J U1 M
  obtain ⟨fD, hD0⟩ := rX_hd M1
  refine zi_aload_n 1081 dL_law_1080 rfl rfl ?_
  refine zi_aload_n 1082 dL_law_1081 rfl rfl ?_
  refine zi_iload_n 1083 dL_law_1082 rfl rfl ?_
  refine zi_iconst (v := 1) 1084 dL_law_1083 (by decide) rfl ?_
  refine zi_iadd 1085 dL_law_1084 rfl ?_
  refine zi_sld 1086 dL_law_1085 hS (li_1 hi hL) rfl ?_
  refine zc_virtual (n' := (101, 2916)) (md' := mX11_squares) 1089 dL_law_1086 tw_1125 zv_X11_squares zcl_X11 (s_X11_squares B h1 D hD s hs M1 (xs (nI i + 1).toNatClampNeg)) hD0 rfl rfl rfl rfl rfl rfl rfl rfl (zk_i fun r2 h2 hp2 => ?_)
  obtain ⟨s2, e2, M2, U2⟩ := hp2
  obtain ⟨rfl, rfl⟩ := Prod.mk.inj (e1.symm.trans e2)
  have R2 := zRc_U J U2 R1
  refine zi_icmp_eq 1092 1405 dL_law_1089 (by decide) rfl (fun zz => ?_) (fun zz => absurd rfl zz)
  exact kk s1 h2 ⟨ok_e e1 (ok_squares _ hs), R2, M2⟩

set_option maxHeartbeats 1000000 in
set_option maxRecDepth 100000 in
theorem l_law_24 (B : zBB) (X : zX) (b L : Nat) (xs : Nat → Int32) (hS : lwS X b L xs) (hL : L ≤ 3584) (A D : Nat → Nat) (hA : zInj A) (hD : zInj D) (J : zDj A D) (i : Nat) (hi : i + 7 ≤ L) (s : zSt) (h : zHp) (hI : lwI B A D s h) (kk : ∀ (s1 : zSt) (h2 : zHp), lwI B A D s1 h2 → zG X mL_law B (10, 101, 2916) (101, 2916) 1405 [(3, .int (nI i)), (2, .ref (D 0)), (1, .ref (A 0)), (0, .ref b)] [] h2) : zG X mL_law B (10, 101, 2916) (101, 2916) 1094 [(3, .int (nI i)), (2, .ref (D 0)), (1, .ref (A 0)), (0, .ref b)] [] h := by
  obtain ⟨hs, R, M⟩ := hI
  refine zi_aload_n 1095 dL_law_1094 rfl rfl ?_
  refine zi_aload_n 1096 dL_law_1095 rfl rfl ?_
  refine zi_iload_n 1097 dL_law_1096 rfl rfl ?_
  refine zi_iconst (v := 1) 1098 dL_law_1097 (by decide) rfl ?_
  refine zi_iadd 1099 dL_law_1098 rfl ?_
  refine zi_sld 1100 dL_law_1099 hS (li_1 hi hL) rfl ?_
  refine zc_virtual (n' := (101, 2916)) (md' := mX10_three) 1103 dL_law_1100 tw_748 zv_X10_three zcl_X10 (s_X10_three B h A hA s hs R (xs (nI i + 1).toNatClampNeg)) R.1 rfl rfl rfl rfl rfl rfl rfl rfl (zk_i fun r1 h1 hp => ?_)
  obtain ⟨s1, e1, R1, U1⟩ := hp
  have M1 := rRm_U J U1 M
  obtain ⟨fD, hD0⟩ := rX_hd M1
  refine zi_aload_n 1104 dL_law_1103 rfl rfl ?_
  refine zi_aload_n 1105 dL_law_1104 rfl rfl ?_
  refine zi_iload_n 1106 dL_law_1105 rfl rfl ?_
  refine zi_iconst (v := 1) 1107 dL_law_1106 (by decide) rfl ?_
  refine zi_iadd 1108 dL_law_1107 rfl ?_
  refine zi_sld 1109 dL_law_1108 hS (li_1 hi hL) rfl ?_
  refine zc_virtual (n' := (101, 2916)) (md' := mX11_three) 1112 dL_law_1109 tw_1129 zv_X11_three zcl_X11 (s_X11_three B h1 D hD s hs M1 (xs (nI i + 1).toNatClampNeg)) hD0 rfl rfl rfl rfl rfl rfl rfl rfl (zk_i fun r2 h2 hp2 => ?_)
  obtain ⟨s2, e2, M2, U2⟩ := hp2
  obtain ⟨rfl, rfl⟩ := Prod.mk.inj (e1.symm.trans e2)
  have R2 := zRc_U J U2 R1
  refine zi_icmp_eq 1115 1405 dL_law_1112 (by decide) rfl (fun zz => ?_) (fun zz => absurd rfl zz)
  exact kk s1 h2 ⟨ok_e e1 (ok_three _ hs), R2, M2⟩

set_option maxHeartbeats 1000000 in
set_option maxRecDepth 100000 in
theorem l_law_25 (B : zBB) (X : zX) (b L : Nat) (xs : Nat → Int32) (hS : lwS X b L xs) (hL : L ≤ 3584) (A D : Nat → Nat) (hA : zInj A) (hD : zInj D) (J : zDj A D) (i : Nat) (hi : i + 7 ≤ L) (s : zSt) (h : zHp) (hI : lwI B A D s h) (kk : ∀ (s1 : zSt) (h2 : zHp), lwI B A D s1 h2 → zG X mL_law B (10, 101, 2916) (101, 2916) 1405 [(3, .int (nI i)), (2, .ref (D 0)), (1, .ref (A 0)), (0, .ref b)] [] h2) : zG X mL_law B (10, 101, 2916) (101, 2916) 1117 [(3, .int (nI i)), (2, .ref (D 0)), (1, .ref (A 0)), (0, .ref b)] [] h := by
  obtain ⟨hs, R, M⟩ := hI
  refine zi_aload_n 1118 dL_law_1117 rfl rfl ?_
  refine zi_aload_n 1119 dL_law_1118 rfl rfl ?_
  refine zi_iload_n 1120 dL_law_1119 rfl rfl ?_
  refine zi_iconst (v := 1) 1121 dL_law_1120 (by decide) rfl ?_
  refine zi_iadd 1122 dL_law_1121 rfl ?_
  refine zi_sld 1123 dL_law_1122 hS (li_1 hi hL) rfl ?_
  refine zi_aload_n 1124 dL_law_1123 rfl rfl ?_
  refine zi_iload_n 1125 dL_law_1124 rfl rfl ?_
  refine zi_iconst (v := 2) 1126 dL_law_1125 (by decide) rfl ?_
  refine zi_iadd 1127 dL_law_1126 rfl ?_
  refine zi_sld 1128 dL_law_1127 hS (li_2 hi hL) rfl ?_
  refine zi_aload_n 1129 dL_law_1128 rfl rfl ?_
  refine zi_iload_n 1130 dL_law_1129 rfl rfl ?_
  refine zi_iconst (v := 3) 1131 dL_law_1130 (by decide) rfl ?_
  refine zi_iadd 1132 dL_law_1131 rfl ?_
  refine zi_sld 1133 dL_law_1132 hS (li_3 hi hL) rfl ?_
  refine zi_aload_n 1134 dL_law_1133 rfl rfl ?_
  refine zi_iload_n 1135 dL_law_1134 rfl rfl ?_
  refine zi_iconst (v := 4) 1136 dL_law_1135 (by decide) rfl ?_
  refine zi_iadd 1137 dL_law_1136 rfl ?_
  refine zi_sld 1138 dL_law_1137 hS (li_4 hi hL) rfl ?_
  refine zc_virtual (n' := (101, 2916)) (md' := mX10_table) 1141 dL_law_1138 tw_757 zv_X10_table zcl_X10 (s_X10_table B h A hA s hs R (xs (nI i + 1).toNatClampNeg) (xs (nI i + 2).toNatClampNeg) (xs (nI i + 3).toNatClampNeg) (xs (nI i + 4).toNatClampNeg)) R.1 rfl rfl rfl rfl rfl rfl rfl rfl (zk_l fun r1 h1 hp => ?_)
  obtain ⟨s1, e1, R1, U1⟩ := hp
  have M1 := rRm_U J U1 M
  obtain ⟨fD, hD0⟩ := rX_hd M1
  refine zi_aload_n 1142 dL_law_1141 rfl rfl ?_
  refine zi_aload_n 1143 dL_law_1142 rfl rfl ?_
  refine zi_iload_n 1144 dL_law_1143 rfl rfl ?_
  refine zi_iconst (v := 1) 1145 dL_law_1144 (by decide) rfl ?_
  refine zi_iadd 1146 dL_law_1145 rfl ?_
  refine zi_sld 1147 dL_law_1146 hS (li_1 hi hL) rfl ?_
  refine zi_aload_n 1148 dL_law_1147 rfl rfl ?_
  refine zi_iload_n 1149 dL_law_1148 rfl rfl ?_
  refine zi_iconst (v := 2) 1150 dL_law_1149 (by decide) rfl ?_
  refine zi_iadd 1151 dL_law_1150 rfl ?_
  refine zi_sld 1152 dL_law_1151 hS (li_2 hi hL) rfl ?_
  refine zi_aload_n 1153 dL_law_1152 rfl rfl ?_
  refine zi_iload_n 1154 dL_law_1153 rfl rfl ?_
  refine zi_iconst (v := 3) 1155 dL_law_1154 (by decide) rfl ?_
  refine zi_iadd 1156 dL_law_1155 rfl ?_
  refine zi_sld 1157 dL_law_1156 hS (li_3 hi hL) rfl ?_
  refine zi_aload_n 1158 dL_law_1157 rfl rfl ?_
  refine zi_iload_n 1159 dL_law_1158 rfl rfl ?_
  refine zi_iconst (v := 4) 1160 dL_law_1159 (by decide) rfl ?_
  refine zi_iadd 1161 dL_law_1160 rfl ?_
  refine zi_sld 1162 dL_law_1161 hS (li_4 hi hL) rfl ?_
  refine zc_virtual (n' := (101, 2916)) (md' := mX11_table) 1165 dL_law_1162 tw_1133 zv_X11_table zcl_X11 (s_X11_table B h1 D hD s hs M1 (xs (nI i + 1).toNatClampNeg) (xs (nI i + 2).toNatClampNeg) (xs (nI i + 3).toNatClampNeg) (xs (nI i + 4).toNatClampNeg)) hD0 rfl rfl rfl rfl rfl rfl rfl rfl (zk_l fun r2 h2 hp2 => ?_)
  obtain ⟨s2, e2, M2, U2⟩ := hp2
  obtain ⟨rfl, rfl⟩ := Prod.mk.inj (e1.symm.trans e2)
  have R2 := zRc_U J U2 R1
  refine zj_eq 1169 1405 dL_law_1165 rfl dL_law_1166 (by decide) rfl (fun zz => ?_) (fun zz => absurd rfl zz)
  exact kk s1 h2 ⟨ok_e e1 (ok_table _ _ _ _ hs), R2, M2⟩

set_option maxHeartbeats 1000000 in
set_option maxRecDepth 100000 in
theorem l_law_26 (B : zBB) (X : zX) (b L : Nat) (xs : Nat → Int32) (hS : lwS X b L xs) (hL : L ≤ 3584) (A D : Nat → Nat) (hA : zInj A) (hD : zInj D) (J : zDj A D) (i : Nat) (hi : i + 7 ≤ L) (s : zSt) (h : zHp) (hI : lwI B A D s h) (kk : ∀ (s1 : zSt) (h2 : zHp), lwI B A D s1 h2 → zG X mL_law B (10, 101, 2916) (101, 2916) 1405 [(3, .int (nI i)), (2, .ref (D 0)), (1, .ref (A 0)), (0, .ref b)] [] h2) : zG X mL_law B (10, 101, 2916) (101, 2916) 1171 [(3, .int (nI i)), (2, .ref (D 0)), (1, .ref (A 0)), (0, .ref b)] [] h := by
  obtain ⟨hs, R, M⟩ := hI
  refine zi_aload_n 1172 dL_law_1171 rfl rfl ?_
  refine zi_aload_n 1173 dL_law_1172 rfl rfl ?_
  refine zi_iload_n 1174 dL_law_1173 rfl rfl ?_
  refine zi_iconst (v := 1) 1175 dL_law_1174 (by decide) rfl ?_
  refine zi_iadd 1176 dL_law_1175 rfl ?_
  refine zi_sld 1177 dL_law_1176 hS (li_1 hi hL) rfl ?_
  refine zi_aload_n 1178 dL_law_1177 rfl rfl ?_
  refine zi_iload_n 1179 dL_law_1178 rfl rfl ?_
  refine zi_iconst (v := 2) 1180 dL_law_1179 (by decide) rfl ?_
  refine zi_iadd 1181 dL_law_1180 rfl ?_
  refine zi_sld 1182 dL_law_1181 hS (li_2 hi hL) rfl ?_
  refine zi_aload_n 1183 dL_law_1182 rfl rfl ?_
  refine zi_iload_n 1184 dL_law_1183 rfl rfl ?_
  refine zi_iconst (v := 3) 1185 dL_law_1184 (by decide) rfl ?_
  refine zi_iadd 1186 dL_law_1185 rfl ?_
  refine zi_sld 1187 dL_law_1186 hS (li_3 hi hL) rfl ?_
  refine zi_aload_n 1188 dL_law_1187 rfl rfl ?_
  refine zi_iload_n 1189 dL_law_1188 rfl rfl ?_
  refine zi_iconst (v := 4) 1190 dL_law_1189 (by decide) rfl ?_
  refine zi_iadd 1191 dL_law_1190 rfl ?_
  refine zi_sld 1192 dL_law_1191 hS (li_4 hi hL) rfl ?_
  refine zi_aload_n 1193 dL_law_1192 rfl rfl ?_
  refine zi_iload_n 1194 dL_law_1193 rfl rfl ?_
  refine zi_iconst (v := 5) 1195 dL_law_1194 (by decide) rfl ?_
  refine zi_iadd 1196 dL_law_1195 rfl ?_
  refine zi_sld 1197 dL_law_1196 hS (li_5 hi hL) rfl ?_
  refine zi_aload_n 1198 dL_law_1197 rfl rfl ?_
  refine zi_iload_n 1199 dL_law_1198 rfl rfl ?_
  refine zi_bipush (v := 6) 1201 dL_law_1199 (by decide) rfl ?_
  refine zi_iadd 1202 dL_law_1201 rfl ?_
  refine zi_sld 1203 dL_law_1202 hS (li_6 hi hL) rfl ?_
  refine zc_virtual (n' := (101, 2916)) (md' := mX10_turn) 1206 dL_law_1203 tw_777 zv_X10_turn zcl_X10 (s_X10_turn B h A hA s hs R (xs (nI i + 1).toNatClampNeg) (xs (nI i + 2).toNatClampNeg) (xs (nI i + 3).toNatClampNeg) (xs (nI i + 4).toNatClampNeg) (xs (nI i + 5).toNatClampNeg) (xs (nI i + 6).toNatClampNeg)) R.1 rfl rfl rfl rfl rfl rfl rfl rfl (zk_l fun r1 h1 hp => ?_)
  obtain ⟨s1, e1, R1, U1⟩ := hp
  have M1 := rRm_U J U1 M
  obtain ⟨fD, hD0⟩ := rX_hd M1
  refine zi_aload_n 1207 dL_law_1206 rfl rfl ?_
  refine zi_aload_n 1208 dL_law_1207 rfl rfl ?_
  refine zi_iload_n 1209 dL_law_1208 rfl rfl ?_
  refine zi_iconst (v := 1) 1210 dL_law_1209 (by decide) rfl ?_
  refine zi_iadd 1211 dL_law_1210 rfl ?_
  refine zi_sld 1212 dL_law_1211 hS (li_1 hi hL) rfl ?_
  refine zi_aload_n 1213 dL_law_1212 rfl rfl ?_
  refine zi_iload_n 1214 dL_law_1213 rfl rfl ?_
  refine zi_iconst (v := 2) 1215 dL_law_1214 (by decide) rfl ?_
  refine zi_iadd 1216 dL_law_1215 rfl ?_
  refine zi_sld 1217 dL_law_1216 hS (li_2 hi hL) rfl ?_
  refine zi_aload_n 1218 dL_law_1217 rfl rfl ?_
  refine zi_iload_n 1219 dL_law_1218 rfl rfl ?_
  refine zi_iconst (v := 3) 1220 dL_law_1219 (by decide) rfl ?_
  refine zi_iadd 1221 dL_law_1220 rfl ?_
  refine zi_sld 1222 dL_law_1221 hS (li_3 hi hL) rfl ?_
  refine zi_aload_n 1223 dL_law_1222 rfl rfl ?_
  refine zi_iload_n 1224 dL_law_1223 rfl rfl ?_
  refine zi_iconst (v := 4) 1225 dL_law_1224 (by decide) rfl ?_
  refine zi_iadd 1226 dL_law_1225 rfl ?_
  refine zi_sld 1227 dL_law_1226 hS (li_4 hi hL) rfl ?_
  refine zi_aload_n 1228 dL_law_1227 rfl rfl ?_
  refine zi_iload_n 1229 dL_law_1228 rfl rfl ?_
  refine zi_iconst (v := 5) 1230 dL_law_1229 (by decide) rfl ?_
  refine zi_iadd 1231 dL_law_1230 rfl ?_
  refine zi_sld 1232 dL_law_1231 hS (li_5 hi hL) rfl ?_
  refine zi_aload_n 1233 dL_law_1232 rfl rfl ?_
  refine zi_iload_n 1234 dL_law_1233 rfl rfl ?_
  refine zi_bipush (v := 6) 1236 dL_law_1234 (by decide) rfl ?_
  refine zi_iadd 1237 dL_law_1236 rfl ?_
  refine zi_sld 1238 dL_law_1237 hS (li_6 hi hL) rfl ?_
  refine zc_virtual (n' := (101, 2916)) (md' := mX11_turn) 1241 dL_law_1238 tw_1149 zv_X11_turn zcl_X11 (s_X11_turn B h1 D hD s hs M1 (xs (nI i + 1).toNatClampNeg) (xs (nI i + 2).toNatClampNeg) (xs (nI i + 3).toNatClampNeg) (xs (nI i + 4).toNatClampNeg) (xs (nI i + 5).toNatClampNeg) (xs (nI i + 6).toNatClampNeg)) hD0 rfl rfl rfl rfl rfl rfl rfl rfl (zk_l fun r2 h2 hp2 => ?_)
  obtain ⟨s2, e2, M2, U2⟩ := hp2
  obtain ⟨rfl, rfl⟩ := Prod.mk.inj (e1.symm.trans e2)
  have R2 := zRc_U J U2 R1
  refine zj_eq 1245 1405 dL_law_1241 rfl dL_law_1242 (by decide) rfl (fun zz => ?_) (fun zz => absurd rfl zz)
  exact kk s1 h2 ⟨ok_e e1 (ok_turn _ _ _ _ _ _ hs), R2, M2⟩

set_option maxHeartbeats 1000000 in
set_option maxRecDepth 100000 in
theorem l_law_27 (B : zBB) (X : zX) (b L : Nat) (xs : Nat → Int32) (hS : lwS X b L xs) (hL : L ≤ 3584) (A D : Nat → Nat) (hA : zInj A) (hD : zInj D) (J : zDj A D) (i : Nat) (hi : i + 7 ≤ L) (s : zSt) (h : zHp) (hI : lwI B A D s h) (kk : ∀ (s1 : zSt) (h2 : zHp), lwI B A D s1 h2 → zG X mL_law B (10, 101, 2916) (101, 2916) 1405 [(3, .int (nI i)), (2, .ref (D 0)), (1, .ref (A 0)), (0, .ref b)] [] h2) : zG X mL_law B (10, 101, 2916) (101, 2916) 1247 [(3, .int (nI i)), (2, .ref (D 0)), (1, .ref (A 0)), (0, .ref b)] [] h := by
  obtain ⟨hs, R, M⟩ := hI
  refine zi_aload_n 1248 dL_law_1247 rfl rfl ?_
  refine zi_aload_n 1249 dL_law_1248 rfl rfl ?_
  refine zi_iload_n 1250 dL_law_1249 rfl rfl ?_
  refine zi_iconst (v := 1) 1251 dL_law_1250 (by decide) rfl ?_
  refine zi_iadd 1252 dL_law_1251 rfl ?_
  refine zi_sld 1253 dL_law_1252 hS (li_1 hi hL) rfl ?_
  refine zc_virtual (n' := (101, 2916)) (md' := mX10_order) 1256 dL_law_1253 tw_789 zv_X10_order zcl_X10 (s_X10_order B h A hA s hs R (xs (nI i + 1).toNatClampNeg)) R.1 rfl rfl rfl rfl rfl rfl rfl rfl (zk_i fun r1 h1 hp => ?_)
  obtain ⟨s1, e1, R1, U1⟩ := hp
  have M1 := rRm_U J U1 M
  obtain ⟨fD, hD0⟩ := rX_hd M1
  refine zi_aload_n 1257 dL_law_1256 rfl rfl ?_
  refine zi_aload_n 1258 dL_law_1257 rfl rfl ?_
  refine zi_iload_n 1259 dL_law_1258 rfl rfl ?_
  refine zi_iconst (v := 1) 1260 dL_law_1259 (by decide) rfl ?_
  refine zi_iadd 1261 dL_law_1260 rfl ?_
  refine zi_sld 1262 dL_law_1261 hS (li_1 hi hL) rfl ?_
  refine zc_virtual (n' := (101, 2916)) (md' := mX11_order) 1265 dL_law_1262 tw_1155 zv_X11_order zcl_X11 (s_X11_order B h1 D hD s hs M1 (xs (nI i + 1).toNatClampNeg)) hD0 rfl rfl rfl rfl rfl rfl rfl rfl (zk_i fun r2 h2 hp2 => ?_)
  obtain ⟨s2, e2, M2, U2⟩ := hp2
  obtain ⟨rfl, rfl⟩ := Prod.mk.inj (e1.symm.trans e2)
  have R2 := zRc_U J U2 R1
  refine zi_icmp_eq 1268 1405 dL_law_1265 (by decide) rfl (fun zz => ?_) (fun zz => absurd rfl zz)
  exact kk s1 h2 ⟨ok_e e1 (ok_order _ hs), R2, M2⟩

set_option maxHeartbeats 1000000 in
set_option maxRecDepth 100000 in
theorem l_law_28 (B : zBB) (X : zX) (b L : Nat) (xs : Nat → Int32) (hS : lwS X b L xs) (hL : L ≤ 3584) (A D : Nat → Nat) (hA : zInj A) (hD : zInj D) (J : zDj A D) (i : Nat) (hi : i + 7 ≤ L) (s : zSt) (h : zHp) (hI : lwI B A D s h) (kk : ∀ (s1 : zSt) (h2 : zHp), lwI B A D s1 h2 → zG X mL_law B (10, 101, 2916) (101, 2916) 1405 [(3, .int (nI i)), (2, .ref (D 0)), (1, .ref (A 0)), (0, .ref b)] [] h2) : zG X mL_law B (10, 101, 2916) (101, 2916) 1270 [(3, .int (nI i)), (2, .ref (D 0)), (1, .ref (A 0)), (0, .ref b)] [] h := by
  obtain ⟨hs, R, M⟩ := hI
  refine zi_aload_n 1271 dL_law_1270 rfl rfl ?_
  refine zi_aload_n 1272 dL_law_1271 rfl rfl ?_
  refine zi_iload_n 1273 dL_law_1272 rfl rfl ?_
  refine zi_iconst (v := 1) 1274 dL_law_1273 (by decide) rfl ?_
  refine zi_iadd 1275 dL_law_1274 rfl ?_
  refine zi_sld 1276 dL_law_1275 hS (li_1 hi hL) rfl ?_
  refine zi_aload_n 1277 dL_law_1276 rfl rfl ?_
  refine zi_iload_n 1278 dL_law_1277 rfl rfl ?_
  refine zi_iconst (v := 2) 1279 dL_law_1278 (by decide) rfl ?_
  refine zi_iadd 1280 dL_law_1279 rfl ?_
  refine zi_sld 1281 dL_law_1280 hS (li_2 hi hL) rfl ?_
  refine zc_virtual (n' := (101, 2916)) (md' := mX10_axis) 1284 dL_law_1281 tw_798 zv_X10_axis zcl_X10 (s_X10_axis B h A hA s hs R (xs (nI i + 1).toNatClampNeg) (xs (nI i + 2).toNatClampNeg)) R.1 rfl rfl rfl rfl rfl rfl rfl rfl (zk_i fun r1 h1 hp => ?_)
  obtain ⟨s1, e1, R1, U1⟩ := hp
  have M1 := rRm_U J U1 M
  obtain ⟨fD, hD0⟩ := rX_hd M1
  refine zi_aload_n 1285 dL_law_1284 rfl rfl ?_
  refine zi_aload_n 1286 dL_law_1285 rfl rfl ?_
  refine zi_iload_n 1287 dL_law_1286 rfl rfl ?_
  refine zi_iconst (v := 1) 1288 dL_law_1287 (by decide) rfl ?_
  refine zi_iadd 1289 dL_law_1288 rfl ?_
  refine zi_sld 1290 dL_law_1289 hS (li_1 hi hL) rfl ?_
  refine zi_aload_n 1291 dL_law_1290 rfl rfl ?_
  refine zi_iload_n 1292 dL_law_1291 rfl rfl ?_
  refine zi_iconst (v := 2) 1293 dL_law_1292 (by decide) rfl ?_
  refine zi_iadd 1294 dL_law_1293 rfl ?_
  refine zi_sld 1295 dL_law_1294 hS (li_2 hi hL) rfl ?_
  refine zc_virtual (n' := (101, 2916)) (md' := mX11_axis) 1298 dL_law_1295 tw_1159 zv_X11_axis zcl_X11 (s_X11_axis B h1 D hD s hs M1 (xs (nI i + 1).toNatClampNeg) (xs (nI i + 2).toNatClampNeg)) hD0 rfl rfl rfl rfl rfl rfl rfl rfl (zk_i fun r2 h2 hp2 => ?_)
  obtain ⟨s2, e2, M2, U2⟩ := hp2
  obtain ⟨rfl, rfl⟩ := Prod.mk.inj (e1.symm.trans e2)
  have R2 := zRc_U J U2 R1
  refine zi_icmp_eq 1301 1405 dL_law_1298 (by decide) rfl (fun zz => ?_) (fun zz => absurd rfl zz)
  exact kk s1 h2 ⟨ok_e e1 (ok_axis _ _ hs), R2, M2⟩

set_option maxHeartbeats 1000000 in
set_option maxRecDepth 100000 in
theorem l_law_29 (B : zBB) (X : zX) (b L : Nat) (xs : Nat → Int32) (hS : lwS X b L xs) (hL : L ≤ 3584) (A D : Nat → Nat) (hA : zInj A) (hD : zInj D) (J : zDj A D) (i : Nat) (hi : i + 7 ≤ L) (s : zSt) (h : zHp) (hI : lwI B A D s h) (kk : ∀ (s1 : zSt) (h2 : zHp), lwI B A D s1 h2 → zG X mL_law B (10, 101, 2916) (101, 2916) 1405 [(3, .int (nI i)), (2, .ref (D 0)), (1, .ref (A 0)), (0, .ref b)] [] h2) : zG X mL_law B (10, 101, 2916) (101, 2916) 1303 [(3, .int (nI i)), (2, .ref (D 0)), (1, .ref (A 0)), (0, .ref b)] [] h := by
  obtain ⟨hs, R, M⟩ := hI
  refine zi_aload_n 1304 dL_law_1303 rfl rfl ?_
  refine zi_aload_n 1305 dL_law_1304 rfl rfl ?_
  refine zi_iload_n 1306 dL_law_1305 rfl rfl ?_
  refine zi_iconst (v := 1) 1307 dL_law_1306 (by decide) rfl ?_
  refine zi_iadd 1308 dL_law_1307 rfl ?_
  refine zi_sld 1309 dL_law_1308 hS (li_1 hi hL) rfl ?_
  refine zi_aload_n 1310 dL_law_1309 rfl rfl ?_
  refine zi_iload_n 1311 dL_law_1310 rfl rfl ?_
  refine zi_iconst (v := 2) 1312 dL_law_1311 (by decide) rfl ?_
  refine zi_iadd 1313 dL_law_1312 rfl ?_
  refine zi_sld 1314 dL_law_1313 hS (li_2 hi hL) rfl ?_
  refine zc_virtual (n' := (101, 2916)) (md' := mX10_alike) 1317 dL_law_1314 tw_805 zv_X10_alike zcl_X10 (s_X10_alike B h A hA s hs R (xs (nI i + 1).toNatClampNeg) (xs (nI i + 2).toNatClampNeg)) R.1 rfl rfl rfl rfl rfl rfl rfl rfl (zk_i fun r1 h1 hp => ?_)
  obtain ⟨s1, e1, R1, U1⟩ := hp
  have M1 := rRm_U J U1 M
  obtain ⟨fD, hD0⟩ := rX_hd M1
  refine zi_aload_n 1318 dL_law_1317 rfl rfl ?_
  refine zi_aload_n 1319 dL_law_1318 rfl rfl ?_
  refine zi_iload_n 1320 dL_law_1319 rfl rfl ?_
  refine zi_iconst (v := 1) 1321 dL_law_1320 (by decide) rfl ?_
  refine zi_iadd 1322 dL_law_1321 rfl ?_
  refine zi_sld 1323 dL_law_1322 hS (li_1 hi hL) rfl ?_
  refine zi_aload_n 1324 dL_law_1323 rfl rfl ?_
  refine zi_iload_n 1325 dL_law_1324 rfl rfl ?_
  refine zi_iconst (v := 2) 1326 dL_law_1325 (by decide) rfl ?_
  refine zi_iadd 1327 dL_law_1326 rfl ?_
  refine zi_sld 1328 dL_law_1327 hS (li_2 hi hL) rfl ?_
  refine zc_virtual (n' := (101, 2916)) (md' := mX11_alike) 1331 dL_law_1328 tw_1163 zv_X11_alike zcl_X11 (s_X11_alike B h1 D hD s hs M1 (xs (nI i + 1).toNatClampNeg) (xs (nI i + 2).toNatClampNeg)) hD0 rfl rfl rfl rfl rfl rfl rfl rfl (zk_i fun r2 h2 hp2 => ?_)
  obtain ⟨s2, e2, M2, U2⟩ := hp2
  obtain ⟨rfl, rfl⟩ := Prod.mk.inj (e1.symm.trans e2)
  have R2 := zRc_U J U2 R1
  refine zi_icmp_eq 1334 1405 dL_law_1331 (by decide) rfl (fun zz => ?_) (fun zz => absurd rfl zz)
  exact kk s1 h2 ⟨ok_e e1 (ok_alike _ _ hs), R2, M2⟩

set_option maxHeartbeats 1000000 in
set_option maxRecDepth 100000 in
theorem l_law_30 (B : zBB) (X : zX) (b L : Nat) (xs : Nat → Int32) (hS : lwS X b L xs) (hL : L ≤ 3584) (A D : Nat → Nat) (hA : zInj A) (hD : zInj D) (J : zDj A D) (i : Nat) (hi : i + 7 ≤ L) (s : zSt) (h : zHp) (hI : lwI B A D s h) (kk : ∀ (s1 : zSt) (h2 : zHp), lwI B A D s1 h2 → zG X mL_law B (10, 101, 2916) (101, 2916) 1405 [(3, .int (nI i)), (2, .ref (D 0)), (1, .ref (A 0)), (0, .ref b)] [] h2) : zG X mL_law B (10, 101, 2916) (101, 2916) 1336 [(3, .int (nI i)), (2, .ref (D 0)), (1, .ref (A 0)), (0, .ref b)] [] h := by
  obtain ⟨hs, R, M⟩ := hI
  refine zi_aload_n 1337 dL_law_1336 rfl rfl ?_
  refine zi_aload_n 1338 dL_law_1337 rfl rfl ?_
  refine zi_iload_n 1339 dL_law_1338 rfl rfl ?_
  refine zi_iconst (v := 1) 1340 dL_law_1339 (by decide) rfl ?_
  refine zi_iadd 1341 dL_law_1340 rfl ?_
  refine zi_sld 1342 dL_law_1341 hS (li_1 hi hL) rfl ?_
  refine zc_virtual (n' := (101, 2916)) (md' := mX10_index) 1345 dL_law_1342 tw_813 zv_X10_index zcl_X10 (s_X10_index B h A hA s hs R (xs (nI i + 1).toNatClampNeg)) R.1 rfl rfl rfl rfl rfl rfl rfl rfl (zk_i fun r1 h1 hp => ?_)
  obtain ⟨s1, e1, R1, U1⟩ := hp
  have M1 := rRm_U J U1 M
  obtain ⟨fD, hD0⟩ := rX_hd M1
  refine zi_aload_n 1346 dL_law_1345 rfl rfl ?_
  refine zi_aload_n 1347 dL_law_1346 rfl rfl ?_
  refine zi_iload_n 1348 dL_law_1347 rfl rfl ?_
  refine zi_iconst (v := 1) 1349 dL_law_1348 (by decide) rfl ?_
  refine zi_iadd 1350 dL_law_1349 rfl ?_
  refine zi_sld 1351 dL_law_1350 hS (li_1 hi hL) rfl ?_
  refine zc_virtual (n' := (101, 2916)) (md' := mX11_index) 1354 dL_law_1351 tw_1167 zv_X11_index zcl_X11 (s_X11_index B h1 D hD s hs M1 (xs (nI i + 1).toNatClampNeg)) hD0 rfl rfl rfl rfl rfl rfl rfl rfl (zk_i fun r2 h2 hp2 => ?_)
  obtain ⟨s2, e2, M2, U2⟩ := hp2
  obtain ⟨rfl, rfl⟩ := Prod.mk.inj (e1.symm.trans e2)
  have R2 := zRc_U J U2 R1
  refine zi_icmp_eq 1357 1405 dL_law_1354 (by decide) rfl (fun zz => ?_) (fun zz => absurd rfl zz)
  exact kk s1 h2 ⟨ok_e e1 (ok_index _ hs), R2, M2⟩

set_option maxHeartbeats 1000000 in
set_option maxRecDepth 100000 in
theorem l_law_31 (B : zBB) (X : zX) (b L : Nat) (xs : Nat → Int32) (hS : lwS X b L xs) (hL : L ≤ 3584) (A D : Nat → Nat) (hA : zInj A) (hD : zInj D) (J : zDj A D) (i : Nat) (hi : i + 7 ≤ L) (s : zSt) (h : zHp) (hI : lwI B A D s h) (kk : ∀ (s1 : zSt) (h2 : zHp), lwI B A D s1 h2 → zG X mL_law B (10, 101, 2916) (101, 2916) 1405 [(3, .int (nI i)), (2, .ref (D 0)), (1, .ref (A 0)), (0, .ref b)] [] h2) : zG X mL_law B (10, 101, 2916) (101, 2916) 1359 [(3, .int (nI i)), (2, .ref (D 0)), (1, .ref (A 0)), (0, .ref b)] [] h := by
  obtain ⟨hs, R, M⟩ := hI
  refine zi_aload_n 1360 dL_law_1359 rfl rfl ?_
  refine zi_aload_n 1361 dL_law_1360 rfl rfl ?_
  refine zi_iload_n 1362 dL_law_1361 rfl rfl ?_
  refine zi_iconst (v := 1) 1363 dL_law_1362 (by decide) rfl ?_
  refine zi_iadd 1364 dL_law_1363 rfl ?_
  refine zi_sld 1365 dL_law_1364 hS (li_1 hi hL) rfl ?_
  refine zi_aload_n 1366 dL_law_1365 rfl rfl ?_
  refine zi_iload_n 1367 dL_law_1366 rfl rfl ?_
  refine zi_iconst (v := 2) 1368 dL_law_1367 (by decide) rfl ?_
  refine zi_iadd 1369 dL_law_1368 rfl ?_
  refine zi_sld 1370 dL_law_1369 hS (li_2 hi hL) rfl ?_
  refine zc_virtual (n' := (101, 2916)) (md' := mX10_cell) 1373 dL_law_1370 tw_823 zv_X10_cell zcl_X10 (s_X10_cell B h A hA s hs R (xs (nI i + 1).toNatClampNeg) (xs (nI i + 2).toNatClampNeg)) R.1 rfl rfl rfl rfl rfl rfl rfl rfl (zk_i fun r1 h1 hp => ?_)
  obtain ⟨s1, e1, R1, U1⟩ := hp
  have M1 := rRm_U J U1 M
  obtain ⟨fD, hD0⟩ := rX_hd M1
  refine zi_aload_n 1374 dL_law_1373 rfl rfl ?_
  refine zi_aload_n 1375 dL_law_1374 rfl rfl ?_
  refine zi_iload_n 1376 dL_law_1375 rfl rfl ?_
  refine zi_iconst (v := 1) 1377 dL_law_1376 (by decide) rfl ?_
  refine zi_iadd 1378 dL_law_1377 rfl ?_
  refine zi_sld 1379 dL_law_1378 hS (li_1 hi hL) rfl ?_
  refine zi_aload_n 1380 dL_law_1379 rfl rfl ?_
  refine zi_iload_n 1381 dL_law_1380 rfl rfl ?_
  refine zi_iconst (v := 2) 1382 dL_law_1381 (by decide) rfl ?_
  refine zi_iadd 1383 dL_law_1382 rfl ?_
  refine zi_sld 1384 dL_law_1383 hS (li_2 hi hL) rfl ?_
  refine zc_virtual (n' := (101, 2916)) (md' := mX11_cell) 1387 dL_law_1384 tw_1175 zv_X11_cell zcl_X11 (s_X11_cell B h1 D hD s hs M1 (xs (nI i + 1).toNatClampNeg) (xs (nI i + 2).toNatClampNeg)) hD0 rfl rfl rfl rfl rfl rfl rfl rfl (zk_i fun r2 h2 hp2 => ?_)
  obtain ⟨s2, e2, M2, U2⟩ := hp2
  obtain ⟨rfl, rfl⟩ := Prod.mk.inj (e1.symm.trans e2)
  have R2 := zRc_U J U2 R1
  refine zi_icmp_eq 1390 1405 dL_law_1387 (by decide) rfl (fun zz => ?_) (fun zz => absurd rfl zz)
  exact kk s1 h2 ⟨ok_e e1 (ok_cell _ _ hs), R2, M2⟩

set_option maxHeartbeats 1000000 in
set_option maxRecDepth 100000 in
theorem l_law_32 (B : zBB) (X : zX) (b L : Nat) (xs : Nat → Int32) (hS : lwS X b L xs) (hL : L ≤ 3584) (A D : Nat → Nat) (hA : zInj A) (hD : zInj D) (J : zDj A D) (i : Nat) (hi : i + 7 ≤ L) (s : zSt) (h : zHp) (hI : lwI B A D s h) (kk : ∀ (s1 : zSt) (h2 : zHp), lwI B A D s1 h2 → zG X mL_law B (10, 101, 2916) (101, 2916) 1405 [(3, .int (nI i)), (2, .ref (D 0)), (1, .ref (A 0)), (0, .ref b)] [] h2) : zG X mL_law B (10, 101, 2916) (101, 2916) 1392 [(3, .int (nI i)), (2, .ref (D 0)), (1, .ref (A 0)), (0, .ref b)] [] h := by
  obtain ⟨hs, R, M⟩ := hI
  refine zi_aload_n 1393 dL_law_1392 rfl rfl ?_
  refine zc_virtual (n' := (101, 2916)) (md' := mX10_status) 1396 dL_law_1393 tw_853 zv_X10_status zcl_X10 (s_X10_status B h A s R ) R.1 rfl rfl rfl rfl rfl rfl rfl rfl (zk_i fun r1 h1 hp => ?_)
  obtain ⟨s1, e1, R1, U1⟩ := hp
  have M1 := rRm_U J U1 M
  obtain ⟨fD, hD0⟩ := rX_hd M1
  refine zi_aload_n 1397 dL_law_1396 rfl rfl ?_
  refine zc_virtual (n' := (101, 2916)) (md' := mX11_status) 1400 dL_law_1397 tw_1185 zv_X11_status zcl_X11 (s_X11_status B h1 D hD s hs M1 ) hD0 rfl rfl rfl rfl rfl rfl rfl rfl (zk_i fun r2 h2 hp2 => ?_)
  obtain ⟨s2, e2, M2, U2⟩ := hp2
  obtain ⟨rfl, rfl⟩ := Prod.mk.inj (e1.symm.trans e2)
  have R2 := zRc_U J U2 R1
  refine zi_icmp_eq 1403 1405 dL_law_1400 (by decide) rfl (fun zz => ?_) (fun zz => absurd rfl zz)
  exact kk s1 h2 ⟨ok_e e1 (ok_status hs), R2, M2⟩
