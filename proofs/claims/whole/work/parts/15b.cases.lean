theorem lc_self (w : Int64) : lcm w w = 0 := by unfold lcm; simp
set_option maxHeartbeats 1000000 in
set_option maxRecDepth 100000 in
theorem law_town {L n : Nat} {xs : Nat → Int32} {kn : Nat × Nat} {g : GH} (hP : CPL g) (hL4 : L ≤ 4608) (hn : 9 * n + 9 ≤ L) (hk : kn.1 + 5 ≤ 600000 ∧ kn.2 + 43 ≤ 7302250) (kk : ∀ (kn' : Nat × Nat) g', CPL g' → kn'.1 ≤ kn.1 + 5 ∧ kn'.2 ≤ kn.2 + 43 → AW mL_law (Tl L xs) kn' g' 1301 [vA 1000300, vA 1, vA 1000, vI (9 * (n : Int))] []) : AW mL_law (Tl L xs) kn g 160 [vA 1000300, vA 1, vA 1000, vI (9 * (n : Int))] [] := by
  refine a_aload_n 161 dL_law_160 rfl rfl ?_
  refine a_aload_n 162 dL_law_161 rfl rfl ?_
  refine a_iload_n 163 dL_law_162 rfl rfl ?_
  refine a_iconst (z := 1) 164 dL_law_163 rfl (zrl rfl) rfl ?_
  refine a_iadd 165 dL_law_164 (by unfold zr; omega) rfl ?_
  refine a_sld 166 dL_law_165 (by omega) (by omega) rfl ?_
  refine a_aload_n 167 dL_law_166 rfl rfl ?_
  refine a_iload_n 168 dL_law_167 rfl rfl ?_
  refine a_iconst (z := 2) 169 dL_law_168 rfl (zrl rfl) rfl ?_
  refine a_iadd 170 dL_law_169 (by unfold zr; omega) rfl ?_
  refine a_sld 171 dL_law_170 (by omega) (by omega) rfl ?_
  refine a_callV 174 (c11_town _ _ _ hP) cdX11_town lL_13 dL_law_171 rfl hP.2.1.1.1.1 rfl ⟨by decide, by decide, rfl, rfl⟩ ⟨by show kn.1 ≤ 600000; omega, by show kn.2 ≤ 7302250; omega⟩ (Nat.le_of_ble_eq_true rfl) rfl ?_
  rintro r1 g1 - h1 -
  obtain ⟨⟨z1, rfl⟩, hm1, hj⟩ := J_town hP h1
  clear h1
  refine a_aload_n 175 dL_law_174 rfl rfl ?_
  refine a_aload_n 176 dL_law_175 rfl rfl ?_
  refine a_iload_n 177 dL_law_176 rfl rfl ?_
  refine a_iconst (z := 1) 178 dL_law_177 rfl (zrl rfl) rfl ?_
  refine a_iadd 179 dL_law_178 (by unfold zr; omega) rfl ?_
  refine a_sld 180 dL_law_179 (by omega) (by omega) rfl ?_
  refine a_aload_n 181 dL_law_180 rfl rfl ?_
  refine a_iload_n 182 dL_law_181 rfl rfl ?_
  refine a_iconst (z := 2) 183 dL_law_182 rfl (zrl rfl) rfl ?_
  refine a_iadd 184 dL_law_183 (by unfold zr; omega) rfl ?_
  refine a_sld 185 dL_law_184 (by omega) (by omega) rfl ?_
  refine a_callV 188 (r_town _ _ _ hm1.1 hm1.2) cdX12_town lL_17 dL_law_185 rfl hm1.1.1 rfl ⟨by decide, by decide, rfl, rfl⟩ ⟨by show kn.1 ≤ 600000; omega, by show kn.2 ≤ 7302250; omega⟩ (Nat.le_of_ble_eq_true rfl) rfl ?_
  rintro r2 g2 - h2 -
  obtain ⟨rfl, hP2⟩ := hj _ _ h2
  refine a_icmp_eq 1301 191 dL_law_188 (by decide) rfl (fun c188 => ?_) (fun c188 => ?_)
  · exact kk _ _ hP2 ⟨by (try dsimp only); omega, by (try dsimp only); omega⟩
  · exact absurd rfl c188
set_option maxHeartbeats 1000000 in
set_option maxRecDepth 100000 in
theorem law_office {L n : Nat} {xs : Nat → Int32} {kn : Nat × Nat} {g : GH} (hP : CPL g) (hL4 : L ≤ 4608) (hn : 9 * n + 9 ≤ L) (hk : kn.1 + 5 ≤ 600000 ∧ kn.2 + 43 ≤ 7302250) (kk : ∀ (kn' : Nat × Nat) g', CPL g' → kn'.1 ≤ kn.1 + 5 ∧ kn'.2 ≤ kn.2 + 43 → AW mL_law (Tl L xs) kn' g' 1301 [vA 1000300, vA 1, vA 1000, vI (9 * (n : Int))] []) : AW mL_law (Tl L xs) kn g 193 [vA 1000300, vA 1, vA 1000, vI (9 * (n : Int))] [] := by
  refine a_aload_n 194 dL_law_193 rfl rfl ?_
  refine a_aload_n 195 dL_law_194 rfl rfl ?_
  refine a_iload_n 196 dL_law_195 rfl rfl ?_
  refine a_iconst (z := 1) 197 dL_law_196 rfl (zrl rfl) rfl ?_
  refine a_iadd 198 dL_law_197 (by unfold zr; omega) rfl ?_
  refine a_sld 199 dL_law_198 (by omega) (by omega) rfl ?_
  refine a_aload_n 200 dL_law_199 rfl rfl ?_
  refine a_iload_n 201 dL_law_200 rfl rfl ?_
  refine a_iconst (z := 2) 202 dL_law_201 rfl (zrl rfl) rfl ?_
  refine a_iadd 203 dL_law_202 (by unfold zr; omega) rfl ?_
  refine a_sld 204 dL_law_203 (by omega) (by omega) rfl ?_
  refine a_aload_n 205 dL_law_204 rfl rfl ?_
  refine a_iload_n 206 dL_law_205 rfl rfl ?_
  refine a_iconst (z := 3) 207 dL_law_206 rfl (zrl rfl) rfl ?_
  refine a_iadd 208 dL_law_207 (by unfold zr; omega) rfl ?_
  refine a_sld 209 dL_law_208 (by omega) (by omega) rfl ?_
  refine a_callVA 212 (c11_office _ _ _ _ hP) cdX11_office lL_18 dL_law_209 rfl hP.2.1.1.1.1 rfl ⟨by decide, by decide, (by show kn.1 + 1 ≤ 600000; omega), (by show kn.2 + 3 ≤ 7302250; omega)⟩ (Nat.le_of_ble_eq_true rfl) rfl ?_
  rintro r1 g1 - h1 -
  obtain ⟨⟨z1, rfl⟩, hm1, hj⟩ := J_office hP h1
  clear h1
  refine a_aload_n 213 dL_law_212 rfl rfl ?_
  refine a_aload_n 214 dL_law_213 rfl rfl ?_
  refine a_iload_n 215 dL_law_214 rfl rfl ?_
  refine a_iconst (z := 1) 216 dL_law_215 rfl (zrl rfl) rfl ?_
  refine a_iadd 217 dL_law_216 (by unfold zr; omega) rfl ?_
  refine a_sld 218 dL_law_217 (by omega) (by omega) rfl ?_
  refine a_aload_n 219 dL_law_218 rfl rfl ?_
  refine a_iload_n 220 dL_law_219 rfl rfl ?_
  refine a_iconst (z := 2) 221 dL_law_220 rfl (zrl rfl) rfl ?_
  refine a_iadd 222 dL_law_221 (by unfold zr; omega) rfl ?_
  refine a_sld 223 dL_law_222 (by omega) (by omega) rfl ?_
  refine a_aload_n 224 dL_law_223 rfl rfl ?_
  refine a_iload_n 225 dL_law_224 rfl rfl ?_
  refine a_iconst (z := 3) 226 dL_law_225 rfl (zrl rfl) rfl ?_
  refine a_iadd 227 dL_law_226 (by unfold zr; omega) rfl ?_
  refine a_sld 228 dL_law_227 (by omega) (by omega) rfl ?_
  refine a_callV 231 (r_office _ _ _ _ hm1.1 hm1.2) cdX12_office lL_22 dL_law_228 rfl hm1.1.1 rfl ⟨by decide, by decide, rfl, rfl⟩ ⟨by show kn.1 + 1 ≤ 600000; omega, by show kn.2 + 3 ≤ 7302250; omega⟩ (Nat.le_of_ble_eq_true rfl) rfl ?_
  rintro r2 g2 - h2 -
  obtain ⟨rfl, hP2⟩ := hj _ _ h2
  refine a_icmp_eq 1301 234 dL_law_231 (by decide) rfl (fun c231 => ?_) (fun c231 => ?_)
  · exact kk _ _ hP2 ⟨by show kn.1 + 1 ≤ kn.1 + 5; omega, by show kn.2 + 3 ≤ kn.2 + 43; omega⟩
  · exact absurd rfl c231
set_option maxHeartbeats 1000000 in
set_option maxRecDepth 100000 in
theorem law_die {L n : Nat} {xs : Nat → Int32} {kn : Nat × Nat} {g : GH} (hP : CPL g) (hL4 : L ≤ 4608) (hn : 9 * n + 9 ≤ L) (hk : kn.1 + 5 ≤ 600000 ∧ kn.2 + 43 ≤ 7302250) (kk : ∀ (kn' : Nat × Nat) g', CPL g' → kn'.1 ≤ kn.1 + 5 ∧ kn'.2 ≤ kn.2 + 43 → AW mL_law (Tl L xs) kn' g' 1301 [vA 1000300, vA 1, vA 1000, vI (9 * (n : Int))] []) : AW mL_law (Tl L xs) kn g 236 [vA 1000300, vA 1, vA 1000, vI (9 * (n : Int))] [] := by
  refine a_aload_n 237 dL_law_236 rfl rfl ?_
  refine a_aload_n 238 dL_law_237 rfl rfl ?_
  refine a_iload_n 239 dL_law_238 rfl rfl ?_
  refine a_iconst (z := 1) 240 dL_law_239 rfl (zrl rfl) rfl ?_
  refine a_iadd 241 dL_law_240 (by unfold zr; omega) rfl ?_
  refine a_sld 242 dL_law_241 (by omega) (by omega) rfl ?_
  refine a_aload_n 243 dL_law_242 rfl rfl ?_
  refine a_iload_n 244 dL_law_243 rfl rfl ?_
  refine a_iconst (z := 2) 245 dL_law_244 rfl (zrl rfl) rfl ?_
  refine a_iadd 246 dL_law_245 (by unfold zr; omega) rfl ?_
  refine a_sld 247 dL_law_246 (by omega) (by omega) rfl ?_
  refine a_aload_n 248 dL_law_247 rfl rfl ?_
  refine a_iload_n 249 dL_law_248 rfl rfl ?_
  refine a_iconst (z := 3) 250 dL_law_249 rfl (zrl rfl) rfl ?_
  refine a_iadd 251 dL_law_250 (by unfold zr; omega) rfl ?_
  refine a_sld 252 dL_law_251 (by omega) (by omega) rfl ?_
  refine a_aload_n 253 dL_law_252 rfl rfl ?_
  refine a_iload_n 254 dL_law_253 rfl rfl ?_
  refine a_iconst (z := 4) 255 dL_law_254 rfl (zrl rfl) rfl ?_
  refine a_iadd 256 dL_law_255 (by unfold zr; omega) rfl ?_
  refine a_sld 257 dL_law_256 (by omega) (by omega) rfl ?_
  refine a_aload_n 258 dL_law_257 rfl rfl ?_
  refine a_iload_n 259 dL_law_258 rfl rfl ?_
  refine a_iconst (z := 5) 260 dL_law_259 rfl (zrl rfl) rfl ?_
  refine a_iadd 261 dL_law_260 (by unfold zr; omega) rfl ?_
  refine a_sld 262 dL_law_261 (by omega) (by omega) rfl ?_
  refine a_callVA 265 (c11_die _ _ _ _ _ _ hP) cdX11_die lL_23 dL_law_262 rfl hP.2.1.1.1.1 rfl ⟨by decide, by decide, (by show kn.1 + 1 ≤ 600000; omega), (by show kn.2 + 5 ≤ 7302250; omega)⟩ (Nat.le_of_ble_eq_true rfl) rfl ?_
  rintro r1 g1 - h1 -
  obtain ⟨⟨z1, rfl⟩, hm1, hj⟩ := J_die hP h1
  clear h1
  refine a_aload_n 266 dL_law_265 rfl rfl ?_
  refine a_aload_n 267 dL_law_266 rfl rfl ?_
  refine a_iload_n 268 dL_law_267 rfl rfl ?_
  refine a_iconst (z := 1) 269 dL_law_268 rfl (zrl rfl) rfl ?_
  refine a_iadd 270 dL_law_269 (by unfold zr; omega) rfl ?_
  refine a_sld 271 dL_law_270 (by omega) (by omega) rfl ?_
  refine a_aload_n 272 dL_law_271 rfl rfl ?_
  refine a_iload_n 273 dL_law_272 rfl rfl ?_
  refine a_iconst (z := 2) 274 dL_law_273 rfl (zrl rfl) rfl ?_
  refine a_iadd 275 dL_law_274 (by unfold zr; omega) rfl ?_
  refine a_sld 276 dL_law_275 (by omega) (by omega) rfl ?_
  refine a_aload_n 277 dL_law_276 rfl rfl ?_
  refine a_iload_n 278 dL_law_277 rfl rfl ?_
  refine a_iconst (z := 3) 279 dL_law_278 rfl (zrl rfl) rfl ?_
  refine a_iadd 280 dL_law_279 (by unfold zr; omega) rfl ?_
  refine a_sld 281 dL_law_280 (by omega) (by omega) rfl ?_
  refine a_aload_n 282 dL_law_281 rfl rfl ?_
  refine a_iload_n 283 dL_law_282 rfl rfl ?_
  refine a_iconst (z := 4) 284 dL_law_283 rfl (zrl rfl) rfl ?_
  refine a_iadd 285 dL_law_284 (by unfold zr; omega) rfl ?_
  refine a_sld 286 dL_law_285 (by omega) (by omega) rfl ?_
  refine a_aload_n 287 dL_law_286 rfl rfl ?_
  refine a_iload_n 288 dL_law_287 rfl rfl ?_
  refine a_iconst (z := 5) 289 dL_law_288 rfl (zrl rfl) rfl ?_
  refine a_iadd 290 dL_law_289 (by unfold zr; omega) rfl ?_
  refine a_sld 291 dL_law_290 (by omega) (by omega) rfl ?_
  refine a_callV 294 (r_die _ _ _ _ _ _ hm1.1 hm1.2) cdX12_die lL_27 dL_law_291 rfl hm1.1.1 rfl ⟨by decide, by decide, rfl, rfl⟩ ⟨by show kn.1 + 1 ≤ 600000; omega, by show kn.2 + 5 ≤ 7302250; omega⟩ (Nat.le_of_ble_eq_true rfl) rfl ?_
  rintro r2 g2 - h2 -
  obtain ⟨rfl, hP2⟩ := hj _ _ h2
  refine a_icmp_eq 1301 297 dL_law_294 (by decide) rfl (fun c294 => ?_) (fun c294 => ?_)
  · exact kk _ _ hP2 ⟨by show kn.1 + 1 ≤ kn.1 + 5; omega, by show kn.2 + 5 ≤ kn.2 + 43; omega⟩
  · exact absurd rfl c294
set_option maxHeartbeats 1000000 in
set_option maxRecDepth 100000 in
theorem law_mark {L n : Nat} {xs : Nat → Int32} {kn : Nat × Nat} {g : GH} (hP : CPL g) (hL4 : L ≤ 4608) (hn : 9 * n + 9 ≤ L) (hk : kn.1 + 5 ≤ 600000 ∧ kn.2 + 43 ≤ 7302250) (kk : ∀ (kn' : Nat × Nat) g', CPL g' → kn'.1 ≤ kn.1 + 5 ∧ kn'.2 ≤ kn.2 + 43 → AW mL_law (Tl L xs) kn' g' 1301 [vA 1000300, vA 1, vA 1000, vI (9 * (n : Int))] []) : AW mL_law (Tl L xs) kn g 299 [vA 1000300, vA 1, vA 1000, vI (9 * (n : Int))] [] := by
  refine a_aload_n 300 dL_law_299 rfl rfl ?_
  refine a_aload_n 301 dL_law_300 rfl rfl ?_
  refine a_iload_n 302 dL_law_301 rfl rfl ?_
  refine a_iconst (z := 1) 303 dL_law_302 rfl (zrl rfl) rfl ?_
  refine a_iadd 304 dL_law_303 (by unfold zr; omega) rfl ?_
  refine a_sld 305 dL_law_304 (by omega) (by omega) rfl ?_
  refine a_aload_n 306 dL_law_305 rfl rfl ?_
  refine a_iload_n 307 dL_law_306 rfl rfl ?_
  refine a_iconst (z := 2) 308 dL_law_307 rfl (zrl rfl) rfl ?_
  refine a_iadd 309 dL_law_308 (by unfold zr; omega) rfl ?_
  refine a_sld 310 dL_law_309 (by omega) (by omega) rfl ?_
  refine a_aload_n 311 dL_law_310 rfl rfl ?_
  refine a_iload_n 312 dL_law_311 rfl rfl ?_
  refine a_iconst (z := 3) 313 dL_law_312 rfl (zrl rfl) rfl ?_
  refine a_iadd 314 dL_law_313 (by unfold zr; omega) rfl ?_
  refine a_sld 315 dL_law_314 (by omega) (by omega) rfl ?_
  refine a_aload_n 316 dL_law_315 rfl rfl ?_
  refine a_iload_n 317 dL_law_316 rfl rfl ?_
  refine a_iconst (z := 4) 318 dL_law_317 rfl (zrl rfl) rfl ?_
  refine a_iadd 319 dL_law_318 (by unfold zr; omega) rfl ?_
  refine a_sld 320 dL_law_319 (by omega) (by omega) rfl ?_
  refine a_aload_n 321 dL_law_320 rfl rfl ?_
  refine a_iload_n 322 dL_law_321 rfl rfl ?_
  refine a_iconst (z := 5) 323 dL_law_322 rfl (zrl rfl) rfl ?_
  refine a_iadd 324 dL_law_323 (by unfold zr; omega) rfl ?_
  refine a_sld 325 dL_law_324 (by omega) (by omega) rfl ?_
  refine a_aload_n 326 dL_law_325 rfl rfl ?_
  refine a_iload_n 327 dL_law_326 rfl rfl ?_
  refine a_bipush (z := 6) 329 dL_law_327 rfl (zrl rfl) rfl ?_
  refine a_iadd 330 dL_law_329 (by unfold zr; omega) rfl ?_
  refine a_sld 331 dL_law_330 (by omega) (by omega) rfl ?_
  refine a_aload_n 332 dL_law_331 rfl rfl ?_
  refine a_iload_n 333 dL_law_332 rfl rfl ?_
  refine a_bipush (z := 7) 335 dL_law_333 rfl (zrl rfl) rfl ?_
  refine a_iadd 336 dL_law_335 (by unfold zr; omega) rfl ?_
  refine a_sld 337 dL_law_336 (by omega) (by omega) rfl ?_
  refine a_aload_n 338 dL_law_337 rfl rfl ?_
  refine a_iload_n 339 dL_law_338 rfl rfl ?_
  refine a_bipush (z := 8) 341 dL_law_339 rfl (zrl rfl) rfl ?_
  refine a_iadd 342 dL_law_341 (by unfold zr; omega) rfl ?_
  refine a_sld 343 dL_law_342 (by omega) (by omega) rfl ?_
  refine a_callVA 346 (c11_mark _ _ _ _ _ _ _ _ _ hP) cdX11_mark lL_28 dL_law_343 rfl hP.2.1.1.1.1 rfl ⟨by decide, by decide, (by show kn.1 + 5 ≤ 600000; omega), (by show kn.2 + 43 ≤ 7302250; omega)⟩ (Nat.le_of_ble_eq_true rfl) rfl ?_
  rintro r1 g1 - h1 -
  obtain ⟨⟨z1, rfl⟩, hm1, hj⟩ := J_mark hP h1
  clear h1
  refine a_aload_n 347 dL_law_346 rfl rfl ?_
  refine a_aload_n 348 dL_law_347 rfl rfl ?_
  refine a_iload_n 349 dL_law_348 rfl rfl ?_
  refine a_iconst (z := 1) 350 dL_law_349 rfl (zrl rfl) rfl ?_
  refine a_iadd 351 dL_law_350 (by unfold zr; omega) rfl ?_
  refine a_sld 352 dL_law_351 (by omega) (by omega) rfl ?_
  refine a_aload_n 353 dL_law_352 rfl rfl ?_
  refine a_iload_n 354 dL_law_353 rfl rfl ?_
  refine a_iconst (z := 2) 355 dL_law_354 rfl (zrl rfl) rfl ?_
  refine a_iadd 356 dL_law_355 (by unfold zr; omega) rfl ?_
  refine a_sld 357 dL_law_356 (by omega) (by omega) rfl ?_
  refine a_aload_n 358 dL_law_357 rfl rfl ?_
  refine a_iload_n 359 dL_law_358 rfl rfl ?_
  refine a_iconst (z := 3) 360 dL_law_359 rfl (zrl rfl) rfl ?_
  refine a_iadd 361 dL_law_360 (by unfold zr; omega) rfl ?_
  refine a_sld 362 dL_law_361 (by omega) (by omega) rfl ?_
  refine a_aload_n 363 dL_law_362 rfl rfl ?_
  refine a_iload_n 364 dL_law_363 rfl rfl ?_
  refine a_iconst (z := 4) 365 dL_law_364 rfl (zrl rfl) rfl ?_
  refine a_iadd 366 dL_law_365 (by unfold zr; omega) rfl ?_
  refine a_sld 367 dL_law_366 (by omega) (by omega) rfl ?_
  refine a_aload_n 368 dL_law_367 rfl rfl ?_
  refine a_iload_n 369 dL_law_368 rfl rfl ?_
  refine a_iconst (z := 5) 370 dL_law_369 rfl (zrl rfl) rfl ?_
  refine a_iadd 371 dL_law_370 (by unfold zr; omega) rfl ?_
  refine a_sld 372 dL_law_371 (by omega) (by omega) rfl ?_
  refine a_aload_n 373 dL_law_372 rfl rfl ?_
  refine a_iload_n 374 dL_law_373 rfl rfl ?_
  refine a_bipush (z := 6) 376 dL_law_374 rfl (zrl rfl) rfl ?_
  refine a_iadd 377 dL_law_376 (by unfold zr; omega) rfl ?_
  refine a_sld 378 dL_law_377 (by omega) (by omega) rfl ?_
  refine a_aload_n 379 dL_law_378 rfl rfl ?_
  refine a_iload_n 380 dL_law_379 rfl rfl ?_
  refine a_bipush (z := 7) 382 dL_law_380 rfl (zrl rfl) rfl ?_
  refine a_iadd 383 dL_law_382 (by unfold zr; omega) rfl ?_
  refine a_sld 384 dL_law_383 (by omega) (by omega) rfl ?_
  refine a_aload_n 385 dL_law_384 rfl rfl ?_
  refine a_iload_n 386 dL_law_385 rfl rfl ?_
  refine a_bipush (z := 8) 388 dL_law_386 rfl (zrl rfl) rfl ?_
  refine a_iadd 389 dL_law_388 (by unfold zr; omega) rfl ?_
  refine a_sld 390 dL_law_389 (by omega) (by omega) rfl ?_
  refine a_callV 393 (r_mark _ _ _ _ _ _ _ _ _ hm1.1 hm1.2) cdX12_mark lL_32 dL_law_390 rfl hm1.1.1 rfl ⟨by decide, by decide, rfl, rfl⟩ ⟨by show kn.1 + 5 ≤ 600000; omega, by show kn.2 + 43 ≤ 7302250; omega⟩ (Nat.le_of_ble_eq_true rfl) rfl ?_
  rintro r2 g2 - h2 -
  obtain ⟨rfl, hP2⟩ := hj _ _ h2
  refine a_icmp_eq 1301 396 dL_law_393 (by decide) rfl (fun c393 => ?_) (fun c393 => ?_)
  · exact kk _ _ hP2 ⟨by show kn.1 + 5 ≤ kn.1 + 5; omega, by show kn.2 + 43 ≤ kn.2 + 43; omega⟩
  · exact absurd rfl c393
set_option maxHeartbeats 1000000 in
set_option maxRecDepth 100000 in
theorem law_lean {L n : Nat} {xs : Nat → Int32} {kn : Nat × Nat} {g : GH} (hP : CPL g) (hL4 : L ≤ 4608) (hn : 9 * n + 9 ≤ L) (hk : kn.1 + 5 ≤ 600000 ∧ kn.2 + 43 ≤ 7302250) (kk : ∀ (kn' : Nat × Nat) g', CPL g' → kn'.1 ≤ kn.1 + 5 ∧ kn'.2 ≤ kn.2 + 43 → AW mL_law (Tl L xs) kn' g' 1301 [vA 1000300, vA 1, vA 1000, vI (9 * (n : Int))] []) : AW mL_law (Tl L xs) kn g 398 [vA 1000300, vA 1, vA 1000, vI (9 * (n : Int))] [] := by
  refine a_aload_n 399 dL_law_398 rfl rfl ?_
  refine a_aload_n 400 dL_law_399 rfl rfl ?_
  refine a_iload_n 401 dL_law_400 rfl rfl ?_
  refine a_iconst (z := 1) 402 dL_law_401 rfl (zrl rfl) rfl ?_
  refine a_iadd 403 dL_law_402 (by unfold zr; omega) rfl ?_
  refine a_sld 404 dL_law_403 (by omega) (by omega) rfl ?_
  refine a_aload_n 405 dL_law_404 rfl rfl ?_
  refine a_iload_n 406 dL_law_405 rfl rfl ?_
  refine a_iconst (z := 2) 407 dL_law_406 rfl (zrl rfl) rfl ?_
  refine a_iadd 408 dL_law_407 (by unfold zr; omega) rfl ?_
  refine a_sld 409 dL_law_408 (by omega) (by omega) rfl ?_
  refine a_callV 412 (c11_lean _ _ _ hP) cdX11_lean lL_33 dL_law_409 rfl hP.2.1.1.1.1 rfl ⟨by decide, by decide, rfl, rfl⟩ ⟨by show kn.1 ≤ 600000; omega, by show kn.2 ≤ 7302250; omega⟩ (Nat.le_of_ble_eq_true rfl) rfl ?_
  rintro r1 g1 - h1 -
  obtain ⟨⟨z1, rfl⟩, hm1, hj⟩ := J_lean hP h1
  clear h1
  refine a_aload_n 413 dL_law_412 rfl rfl ?_
  refine a_aload_n 414 dL_law_413 rfl rfl ?_
  refine a_iload_n 415 dL_law_414 rfl rfl ?_
  refine a_iconst (z := 1) 416 dL_law_415 rfl (zrl rfl) rfl ?_
  refine a_iadd 417 dL_law_416 (by unfold zr; omega) rfl ?_
  refine a_sld 418 dL_law_417 (by omega) (by omega) rfl ?_
  refine a_aload_n 419 dL_law_418 rfl rfl ?_
  refine a_iload_n 420 dL_law_419 rfl rfl ?_
  refine a_iconst (z := 2) 421 dL_law_420 rfl (zrl rfl) rfl ?_
  refine a_iadd 422 dL_law_421 (by unfold zr; omega) rfl ?_
  refine a_sld 423 dL_law_422 (by omega) (by omega) rfl ?_
  refine a_callV 426 (r_lean _ _ _ hm1.1 hm1.2) cdX12_lean lL_36 dL_law_423 rfl hm1.1.1 rfl ⟨by decide, by decide, rfl, rfl⟩ ⟨by show kn.1 ≤ 600000; omega, by show kn.2 ≤ 7302250; omega⟩ (Nat.le_of_ble_eq_true rfl) rfl ?_
  rintro r2 g2 - h2 -
  obtain ⟨rfl, hP2⟩ := hj _ _ h2
  refine a_icmp_eq 1301 429 dL_law_426 (by decide) rfl (fun c426 => ?_) (fun c426 => ?_)
  · exact kk _ _ hP2 ⟨by (try dsimp only); omega, by (try dsimp only); omega⟩
  · exact absurd rfl c426
set_option maxHeartbeats 1000000 in
set_option maxRecDepth 100000 in
theorem law_about {L n : Nat} {xs : Nat → Int32} {kn : Nat × Nat} {g : GH} (hP : CPL g) (hL4 : L ≤ 4608) (hn : 9 * n + 9 ≤ L) (hk : kn.1 + 5 ≤ 600000 ∧ kn.2 + 43 ≤ 7302250) (kk : ∀ (kn' : Nat × Nat) g', CPL g' → kn'.1 ≤ kn.1 + 5 ∧ kn'.2 ≤ kn.2 + 43 → AW mL_law (Tl L xs) kn' g' 1301 [vA 1000300, vA 1, vA 1000, vI (9 * (n : Int))] []) : AW mL_law (Tl L xs) kn g 431 [vA 1000300, vA 1, vA 1000, vI (9 * (n : Int))] [] := by
  refine a_aload_n 432 dL_law_431 rfl rfl ?_
  refine a_aload_n 433 dL_law_432 rfl rfl ?_
  refine a_iload_n 434 dL_law_433 rfl rfl ?_
  refine a_iconst (z := 1) 435 dL_law_434 rfl (zrl rfl) rfl ?_
  refine a_iadd 436 dL_law_435 (by unfold zr; omega) rfl ?_
  refine a_sld 437 dL_law_436 (by omega) (by omega) rfl ?_
  refine a_aload_n 438 dL_law_437 rfl rfl ?_
  refine a_iload_n 439 dL_law_438 rfl rfl ?_
  refine a_iconst (z := 2) 440 dL_law_439 rfl (zrl rfl) rfl ?_
  refine a_iadd 441 dL_law_440 (by unfold zr; omega) rfl ?_
  refine a_sld 442 dL_law_441 (by omega) (by omega) rfl ?_
  refine a_callV 445 (c11_about _ _ _ hP) cdX11_about lL_37 dL_law_442 rfl hP.2.1.1.1.1 rfl ⟨by decide, by decide, rfl, rfl⟩ ⟨by show kn.1 ≤ 600000; omega, by show kn.2 ≤ 7302250; omega⟩ (Nat.le_of_ble_eq_true rfl) rfl ?_
  rintro r1 g1 - h1 -
  obtain ⟨⟨z1, rfl⟩, hm1, hj⟩ := J_about hP h1
  clear h1
  refine a_aload_n 446 dL_law_445 rfl rfl ?_
  refine a_aload_n 447 dL_law_446 rfl rfl ?_
  refine a_iload_n 448 dL_law_447 rfl rfl ?_
  refine a_iconst (z := 1) 449 dL_law_448 rfl (zrl rfl) rfl ?_
  refine a_iadd 450 dL_law_449 (by unfold zr; omega) rfl ?_
  refine a_sld 451 dL_law_450 (by omega) (by omega) rfl ?_
  refine a_aload_n 452 dL_law_451 rfl rfl ?_
  refine a_iload_n 453 dL_law_452 rfl rfl ?_
  refine a_iconst (z := 2) 454 dL_law_453 rfl (zrl rfl) rfl ?_
  refine a_iadd 455 dL_law_454 (by unfold zr; omega) rfl ?_
  refine a_sld 456 dL_law_455 (by omega) (by omega) rfl ?_
  refine a_callV 459 (r_about _ _ _ hm1.1 hm1.2) cdX12_about lL_40 dL_law_456 rfl hm1.1.1 rfl ⟨by decide, by decide, rfl, rfl⟩ ⟨by show kn.1 ≤ 600000; omega, by show kn.2 ≤ 7302250; omega⟩ (Nat.le_of_ble_eq_true rfl) rfl ?_
  rintro r2 g2 - h2 -
  obtain ⟨rfl, hP2⟩ := hj _ _ h2
  refine a_icmp_eq 1301 462 dL_law_459 (by decide) rfl (fun c459 => ?_) (fun c459 => ?_)
  · exact kk _ _ hP2 ⟨by (try dsimp only); omega, by (try dsimp only); omega⟩
  · exact absurd rfl c459
set_option maxHeartbeats 1000000 in
set_option maxRecDepth 100000 in
theorem law_span {L n : Nat} {xs : Nat → Int32} {kn : Nat × Nat} {g : GH} (hP : CPL g) (hL4 : L ≤ 4608) (hn : 9 * n + 9 ≤ L) (hk : kn.1 + 5 ≤ 600000 ∧ kn.2 + 43 ≤ 7302250) (kk : ∀ (kn' : Nat × Nat) g', CPL g' → kn'.1 ≤ kn.1 + 5 ∧ kn'.2 ≤ kn.2 + 43 → AW mL_law (Tl L xs) kn' g' 1301 [vA 1000300, vA 1, vA 1000, vI (9 * (n : Int))] []) : AW mL_law (Tl L xs) kn g 464 [vA 1000300, vA 1, vA 1000, vI (9 * (n : Int))] [] := by
  refine a_aload_n 465 dL_law_464 rfl rfl ?_
  refine a_aload_n 466 dL_law_465 rfl rfl ?_
  refine a_iload_n 467 dL_law_466 rfl rfl ?_
  refine a_iconst (z := 1) 468 dL_law_467 rfl (zrl rfl) rfl ?_
  refine a_iadd 469 dL_law_468 (by unfold zr; omega) rfl ?_
  refine a_sld 470 dL_law_469 (by omega) (by omega) rfl ?_
  refine a_aload_n 471 dL_law_470 rfl rfl ?_
  refine a_iload_n 472 dL_law_471 rfl rfl ?_
  refine a_iconst (z := 2) 473 dL_law_472 rfl (zrl rfl) rfl ?_
  refine a_iadd 474 dL_law_473 (by unfold zr; omega) rfl ?_
  refine a_sld 475 dL_law_474 (by omega) (by omega) rfl ?_
  refine a_callV 478 (c11_span _ _ _ hP) cdX11_span lL_41 dL_law_475 rfl hP.2.1.1.1.1 rfl ⟨by decide, by decide, rfl, rfl⟩ ⟨by show kn.1 ≤ 600000; omega, by show kn.2 ≤ 7302250; omega⟩ (Nat.le_of_ble_eq_true rfl) rfl ?_
  rintro r1 g1 - h1 -
  obtain ⟨⟨z1, rfl⟩, hm1, hj⟩ := J_span hP h1
  clear h1
  refine a_aload_n 479 dL_law_478 rfl rfl ?_
  refine a_aload_n 480 dL_law_479 rfl rfl ?_
  refine a_iload_n 481 dL_law_480 rfl rfl ?_
  refine a_iconst (z := 1) 482 dL_law_481 rfl (zrl rfl) rfl ?_
  refine a_iadd 483 dL_law_482 (by unfold zr; omega) rfl ?_
  refine a_sld 484 dL_law_483 (by omega) (by omega) rfl ?_
  refine a_aload_n 485 dL_law_484 rfl rfl ?_
  refine a_iload_n 486 dL_law_485 rfl rfl ?_
  refine a_iconst (z := 2) 487 dL_law_486 rfl (zrl rfl) rfl ?_
  refine a_iadd 488 dL_law_487 (by unfold zr; omega) rfl ?_
  refine a_sld 489 dL_law_488 (by omega) (by omega) rfl ?_
  refine a_callV 492 (r_span _ _ _ hm1.1 hm1.2) cdX12_span lL_44 dL_law_489 rfl hm1.1.1 rfl ⟨by decide, by decide, rfl, rfl⟩ ⟨by show kn.1 ≤ 600000; omega, by show kn.2 ≤ 7302250; omega⟩ (Nat.le_of_ble_eq_true rfl) rfl ?_
  rintro r2 g2 - h2 -
  obtain ⟨rfl, hP2⟩ := hj _ _ h2
  refine a_icmp_eq 1301 495 dL_law_492 (by decide) rfl (fun c492 => ?_) (fun c492 => ?_)
  · exact kk _ _ hP2 ⟨by (try dsimp only); omega, by (try dsimp only); omega⟩
  · exact absurd rfl c492
set_option maxHeartbeats 1000000 in
set_option maxRecDepth 100000 in
theorem law_can {L n : Nat} {xs : Nat → Int32} {kn : Nat × Nat} {g : GH} (hP : CPL g) (hL4 : L ≤ 4608) (hn : 9 * n + 9 ≤ L) (hk : kn.1 + 5 ≤ 600000 ∧ kn.2 + 43 ≤ 7302250) (kk : ∀ (kn' : Nat × Nat) g', CPL g' → kn'.1 ≤ kn.1 + 5 ∧ kn'.2 ≤ kn.2 + 43 → AW mL_law (Tl L xs) kn' g' 1301 [vA 1000300, vA 1, vA 1000, vI (9 * (n : Int))] []) : AW mL_law (Tl L xs) kn g 497 [vA 1000300, vA 1, vA 1000, vI (9 * (n : Int))] [] := by
  refine a_aload_n 498 dL_law_497 rfl rfl ?_
  refine a_aload_n 499 dL_law_498 rfl rfl ?_
  refine a_iload_n 500 dL_law_499 rfl rfl ?_
  refine a_iconst (z := 1) 501 dL_law_500 rfl (zrl rfl) rfl ?_
  refine a_iadd 502 dL_law_501 (by unfold zr; omega) rfl ?_
  refine a_sld 503 dL_law_502 (by omega) (by omega) rfl ?_
  refine a_aload_n 504 dL_law_503 rfl rfl ?_
  refine a_iload_n 505 dL_law_504 rfl rfl ?_
  refine a_iconst (z := 2) 506 dL_law_505 rfl (zrl rfl) rfl ?_
  refine a_iadd 507 dL_law_506 (by unfold zr; omega) rfl ?_
  refine a_sld 508 dL_law_507 (by omega) (by omega) rfl ?_
  refine a_callV 511 (c11_can _ _ _ hP) cdX11_can lL_45 dL_law_508 rfl hP.2.1.1.1.1 rfl ⟨by decide, by decide, rfl, rfl⟩ ⟨by show kn.1 ≤ 600000; omega, by show kn.2 ≤ 7302250; omega⟩ (Nat.le_of_ble_eq_true rfl) rfl ?_
  rintro r1 g1 - h1 -
  obtain ⟨⟨z1, rfl⟩, hm1, hj⟩ := J_can hP h1
  clear h1
  refine a_aload_n 512 dL_law_511 rfl rfl ?_
  refine a_aload_n 513 dL_law_512 rfl rfl ?_
  refine a_iload_n 514 dL_law_513 rfl rfl ?_
  refine a_iconst (z := 1) 515 dL_law_514 rfl (zrl rfl) rfl ?_
  refine a_iadd 516 dL_law_515 (by unfold zr; omega) rfl ?_
  refine a_sld 517 dL_law_516 (by omega) (by omega) rfl ?_
  refine a_aload_n 518 dL_law_517 rfl rfl ?_
  refine a_iload_n 519 dL_law_518 rfl rfl ?_
  refine a_iconst (z := 2) 520 dL_law_519 rfl (zrl rfl) rfl ?_
  refine a_iadd 521 dL_law_520 (by unfold zr; omega) rfl ?_
  refine a_sld 522 dL_law_521 (by omega) (by omega) rfl ?_
  refine a_callV 525 (r_can _ _ _ hm1.1 hm1.2) cdX12_can lL_48 dL_law_522 rfl hm1.1.1 rfl ⟨by decide, by decide, rfl, rfl⟩ ⟨by show kn.1 ≤ 600000; omega, by show kn.2 ≤ 7302250; omega⟩ (Nat.le_of_ble_eq_true rfl) rfl ?_
  rintro r2 g2 - h2 -
  obtain ⟨rfl, hP2⟩ := hj _ _ h2
  refine a_icmp_eq 1301 528 dL_law_525 (by decide) rfl (fun c525 => ?_) (fun c525 => ?_)
  · exact kk _ _ hP2 ⟨by (try dsimp only); omega, by (try dsimp only); omega⟩
  · exact absurd rfl c525
set_option maxHeartbeats 1000000 in
set_option maxRecDepth 100000 in
theorem law_marks {L n : Nat} {xs : Nat → Int32} {kn : Nat × Nat} {g : GH} (hP : CPL g) (hL4 : L ≤ 4608) (hn : 9 * n + 9 ≤ L) (hk : kn.1 + 5 ≤ 600000 ∧ kn.2 + 43 ≤ 7302250) (kk : ∀ (kn' : Nat × Nat) g', CPL g' → kn'.1 ≤ kn.1 + 5 ∧ kn'.2 ≤ kn.2 + 43 → AW mL_law (Tl L xs) kn' g' 1301 [vA 1000300, vA 1, vA 1000, vI (9 * (n : Int))] []) : AW mL_law (Tl L xs) kn g 530 [vA 1000300, vA 1, vA 1000, vI (9 * (n : Int))] [] := by
  refine a_aload_n 531 dL_law_530 rfl rfl ?_
  refine a_aload_n 532 dL_law_531 rfl rfl ?_
  refine a_iload_n 533 dL_law_532 rfl rfl ?_
  refine a_iconst (z := 1) 534 dL_law_533 rfl (zrl rfl) rfl ?_
  refine a_iadd 535 dL_law_534 (by unfold zr; omega) rfl ?_
  refine a_sld 536 dL_law_535 (by omega) (by omega) rfl ?_
  refine a_aload_n 537 dL_law_536 rfl rfl ?_
  refine a_iload_n 538 dL_law_537 rfl rfl ?_
  refine a_iconst (z := 2) 539 dL_law_538 rfl (zrl rfl) rfl ?_
  refine a_iadd 540 dL_law_539 (by unfold zr; omega) rfl ?_
  refine a_sld 541 dL_law_540 (by omega) (by omega) rfl ?_
  refine a_callV 544 (c11_marks _ _ _ hP) cdX11_marks lL_49 dL_law_541 rfl hP.2.1.1.1.1 rfl ⟨by decide, by decide, rfl, rfl⟩ ⟨by show kn.1 ≤ 600000; omega, by show kn.2 ≤ 7302250; omega⟩ (Nat.le_of_ble_eq_true rfl) rfl ?_
  rintro r1 g1 - h1 -
  obtain ⟨⟨z1, rfl⟩, hm1, hj⟩ := J_marks hP h1
  clear h1
  refine a_aload_n 545 dL_law_544 rfl rfl ?_
  refine a_aload_n 546 dL_law_545 rfl rfl ?_
  refine a_iload_n 547 dL_law_546 rfl rfl ?_
  refine a_iconst (z := 1) 548 dL_law_547 rfl (zrl rfl) rfl ?_
  refine a_iadd 549 dL_law_548 (by unfold zr; omega) rfl ?_
  refine a_sld 550 dL_law_549 (by omega) (by omega) rfl ?_
  refine a_aload_n 551 dL_law_550 rfl rfl ?_
  refine a_iload_n 552 dL_law_551 rfl rfl ?_
  refine a_iconst (z := 2) 553 dL_law_552 rfl (zrl rfl) rfl ?_
  refine a_iadd 554 dL_law_553 (by unfold zr; omega) rfl ?_
  refine a_sld 555 dL_law_554 (by omega) (by omega) rfl ?_
  refine a_callV 558 (r_marks _ _ _ hm1.1 hm1.2) cdX12_marks lL_52 dL_law_555 rfl hm1.1.1 rfl ⟨by decide, by decide, rfl, rfl⟩ ⟨by show kn.1 ≤ 600000; omega, by show kn.2 ≤ 7302250; omega⟩ (Nat.le_of_ble_eq_true rfl) rfl ?_
  rintro r2 g2 - h2 -
  obtain ⟨rfl, hP2⟩ := hj _ _ h2
  refine a_icmp_eq 1301 561 dL_law_558 (by decide) rfl (fun c558 => ?_) (fun c558 => ?_)
  · exact kk _ _ hP2 ⟨by (try dsimp only); omega, by (try dsimp only); omega⟩
  · exact absurd rfl c558
set_option maxHeartbeats 1000000 in
set_option maxRecDepth 100000 in
theorem law_sail {L n : Nat} {xs : Nat → Int32} {kn : Nat × Nat} {g : GH} (hP : CPL g) (hL4 : L ≤ 4608) (hn : 9 * n + 9 ≤ L) (hk : kn.1 + 5 ≤ 600000 ∧ kn.2 + 43 ≤ 7302250) (kk : ∀ (kn' : Nat × Nat) g', CPL g' → kn'.1 ≤ kn.1 + 5 ∧ kn'.2 ≤ kn.2 + 43 → AW mL_law (Tl L xs) kn' g' 1301 [vA 1000300, vA 1, vA 1000, vI (9 * (n : Int))] []) : AW mL_law (Tl L xs) kn g 563 [vA 1000300, vA 1, vA 1000, vI (9 * (n : Int))] [] := by
  refine a_aload_n 564 dL_law_563 rfl rfl ?_
  refine a_aload_n 565 dL_law_564 rfl rfl ?_
  refine a_iload_n 566 dL_law_565 rfl rfl ?_
  refine a_iconst (z := 1) 567 dL_law_566 rfl (zrl rfl) rfl ?_
  refine a_iadd 568 dL_law_567 (by unfold zr; omega) rfl ?_
  refine a_sld 569 dL_law_568 (by omega) (by omega) rfl ?_
  refine a_aload_n 570 dL_law_569 rfl rfl ?_
  refine a_iload_n 571 dL_law_570 rfl rfl ?_
  refine a_iconst (z := 2) 572 dL_law_571 rfl (zrl rfl) rfl ?_
  refine a_iadd 573 dL_law_572 (by unfold zr; omega) rfl ?_
  refine a_sld 574 dL_law_573 (by omega) (by omega) rfl ?_
  refine a_aload_n 575 dL_law_574 rfl rfl ?_
  refine a_iload_n 576 dL_law_575 rfl rfl ?_
  refine a_iconst (z := 3) 577 dL_law_576 rfl (zrl rfl) rfl ?_
  refine a_iadd 578 dL_law_577 (by unfold zr; omega) rfl ?_
  refine a_sld 579 dL_law_578 (by omega) (by omega) rfl ?_
  refine a_aload_n 580 dL_law_579 rfl rfl ?_
  refine a_iload_n 581 dL_law_580 rfl rfl ?_
  refine a_iconst (z := 4) 582 dL_law_581 rfl (zrl rfl) rfl ?_
  refine a_iadd 583 dL_law_582 (by unfold zr; omega) rfl ?_
  refine a_sld 584 dL_law_583 (by omega) (by omega) rfl ?_
  refine a_callV 587 (c11_sail _ _ _ _ _ hP) cdX11_sail lL_53 dL_law_584 rfl hP.2.1.1.1.1 rfl ⟨by decide, by decide, rfl, rfl⟩ ⟨by show kn.1 ≤ 600000; omega, by show kn.2 ≤ 7302250; omega⟩ (Nat.le_of_ble_eq_true rfl) rfl ?_
  rintro r1 g1 - h1 -
  obtain ⟨⟨z1, rfl⟩, hm1, hj⟩ := J_sail hP h1
  clear h1
  refine a_aload_n 588 dL_law_587 rfl rfl ?_
  refine a_aload_n 589 dL_law_588 rfl rfl ?_
  refine a_iload_n 590 dL_law_589 rfl rfl ?_
  refine a_iconst (z := 1) 591 dL_law_590 rfl (zrl rfl) rfl ?_
  refine a_iadd 592 dL_law_591 (by unfold zr; omega) rfl ?_
  refine a_sld 593 dL_law_592 (by omega) (by omega) rfl ?_
  refine a_aload_n 594 dL_law_593 rfl rfl ?_
  refine a_iload_n 595 dL_law_594 rfl rfl ?_
  refine a_iconst (z := 2) 596 dL_law_595 rfl (zrl rfl) rfl ?_
  refine a_iadd 597 dL_law_596 (by unfold zr; omega) rfl ?_
  refine a_sld 598 dL_law_597 (by omega) (by omega) rfl ?_
  refine a_aload_n 599 dL_law_598 rfl rfl ?_
  refine a_iload_n 600 dL_law_599 rfl rfl ?_
  refine a_iconst (z := 3) 601 dL_law_600 rfl (zrl rfl) rfl ?_
  refine a_iadd 602 dL_law_601 (by unfold zr; omega) rfl ?_
  refine a_sld 603 dL_law_602 (by omega) (by omega) rfl ?_
  refine a_aload_n 604 dL_law_603 rfl rfl ?_
  refine a_iload_n 605 dL_law_604 rfl rfl ?_
  refine a_iconst (z := 4) 606 dL_law_605 rfl (zrl rfl) rfl ?_
  refine a_iadd 607 dL_law_606 (by unfold zr; omega) rfl ?_
  refine a_sld 608 dL_law_607 (by omega) (by omega) rfl ?_
  refine a_callV 611 (r_sail _ _ _ _ _ hm1.1 hm1.2) cdX12_sail lL_57 dL_law_608 rfl hm1.1.1 rfl ⟨by decide, by decide, rfl, rfl⟩ ⟨by show kn.1 ≤ 600000; omega, by show kn.2 ≤ 7302250; omega⟩ (Nat.le_of_ble_eq_true rfl) rfl ?_
  rintro r2 g2 - h2 -
  obtain ⟨rfl, hP2⟩ := hj _ _ h2
  refine a_icmp_eq 1301 614 dL_law_611 (by decide) rfl (fun c611 => ?_) (fun c611 => ?_)
  · exact kk _ _ hP2 ⟨by (try dsimp only); omega, by (try dsimp only); omega⟩
  · exact absurd rfl c611
set_option maxHeartbeats 1000000 in
set_option maxRecDepth 100000 in
theorem law_late {L n : Nat} {xs : Nat → Int32} {kn : Nat × Nat} {g : GH} (hP : CPL g) (hL4 : L ≤ 4608) (hn : 9 * n + 9 ≤ L) (hk : kn.1 + 5 ≤ 600000 ∧ kn.2 + 43 ≤ 7302250) (kk : ∀ (kn' : Nat × Nat) g', CPL g' → kn'.1 ≤ kn.1 + 5 ∧ kn'.2 ≤ kn.2 + 43 → AW mL_law (Tl L xs) kn' g' 1301 [vA 1000300, vA 1, vA 1000, vI (9 * (n : Int))] []) : AW mL_law (Tl L xs) kn g 616 [vA 1000300, vA 1, vA 1000, vI (9 * (n : Int))] [] := by
  refine a_aload_n 617 dL_law_616 rfl rfl ?_
  refine a_aload_n 618 dL_law_617 rfl rfl ?_
  refine a_iload_n 619 dL_law_618 rfl rfl ?_
  refine a_iconst (z := 1) 620 dL_law_619 rfl (zrl rfl) rfl ?_
  refine a_iadd 621 dL_law_620 (by unfold zr; omega) rfl ?_
  refine a_sld 622 dL_law_621 (by omega) (by omega) rfl ?_
  refine a_aload_n 623 dL_law_622 rfl rfl ?_
  refine a_iload_n 624 dL_law_623 rfl rfl ?_
  refine a_iconst (z := 2) 625 dL_law_624 rfl (zrl rfl) rfl ?_
  refine a_iadd 626 dL_law_625 (by unfold zr; omega) rfl ?_
  refine a_sld 627 dL_law_626 (by omega) (by omega) rfl ?_
  refine a_callV 630 (c11_late _ _ _ hP) cdX11_late lL_58 dL_law_627 rfl hP.2.1.1.1.1 rfl ⟨by decide, by decide, rfl, rfl⟩ ⟨by show kn.1 ≤ 600000; omega, by show kn.2 ≤ 7302250; omega⟩ (Nat.le_of_ble_eq_true rfl) rfl ?_
  rintro r1 g1 - h1 -
  obtain ⟨⟨z1, rfl⟩, hm1, hj⟩ := J_late hP h1
  clear h1
  refine a_aload_n 631 dL_law_630 rfl rfl ?_
  refine a_aload_n 632 dL_law_631 rfl rfl ?_
  refine a_iload_n 633 dL_law_632 rfl rfl ?_
  refine a_iconst (z := 1) 634 dL_law_633 rfl (zrl rfl) rfl ?_
  refine a_iadd 635 dL_law_634 (by unfold zr; omega) rfl ?_
  refine a_sld 636 dL_law_635 (by omega) (by omega) rfl ?_
  refine a_aload_n 637 dL_law_636 rfl rfl ?_
  refine a_iload_n 638 dL_law_637 rfl rfl ?_
  refine a_iconst (z := 2) 639 dL_law_638 rfl (zrl rfl) rfl ?_
  refine a_iadd 640 dL_law_639 (by unfold zr; omega) rfl ?_
  refine a_sld 641 dL_law_640 (by omega) (by omega) rfl ?_
  refine a_callV 644 (r_late _ _ _ hm1.1 hm1.2) cdX12_late lL_61 dL_law_641 rfl hm1.1.1 rfl ⟨by decide, by decide, rfl, rfl⟩ ⟨by show kn.1 ≤ 600000; omega, by show kn.2 ≤ 7302250; omega⟩ (Nat.le_of_ble_eq_true rfl) rfl ?_
  rintro r2 g2 - h2 -
  obtain ⟨rfl, hP2⟩ := hj _ _ h2
  refine a_icmp_eq 1301 647 dL_law_644 (by decide) rfl (fun c644 => ?_) (fun c644 => ?_)
  · exact kk _ _ hP2 ⟨by (try dsimp only); omega, by (try dsimp only); omega⟩
  · exact absurd rfl c644
set_option maxHeartbeats 1000000 in
set_option maxRecDepth 100000 in
theorem law_road {L n : Nat} {xs : Nat → Int32} {kn : Nat × Nat} {g : GH} (hP : CPL g) (hL4 : L ≤ 4608) (hn : 9 * n + 9 ≤ L) (hk : kn.1 + 5 ≤ 600000 ∧ kn.2 + 43 ≤ 7302250) (kk : ∀ (kn' : Nat × Nat) g', CPL g' → kn'.1 ≤ kn.1 + 5 ∧ kn'.2 ≤ kn.2 + 43 → AW mL_law (Tl L xs) kn' g' 1301 [vA 1000300, vA 1, vA 1000, vI (9 * (n : Int))] []) : AW mL_law (Tl L xs) kn g 649 [vA 1000300, vA 1, vA 1000, vI (9 * (n : Int))] [] := by
  refine a_aload_n 650 dL_law_649 rfl rfl ?_
  refine a_aload_n 651 dL_law_650 rfl rfl ?_
  refine a_iload_n 652 dL_law_651 rfl rfl ?_
  refine a_iconst (z := 1) 653 dL_law_652 rfl (zrl rfl) rfl ?_
  refine a_iadd 654 dL_law_653 (by unfold zr; omega) rfl ?_
  refine a_sld 655 dL_law_654 (by omega) (by omega) rfl ?_
  refine a_aload_n 656 dL_law_655 rfl rfl ?_
  refine a_iload_n 657 dL_law_656 rfl rfl ?_
  refine a_iconst (z := 2) 658 dL_law_657 rfl (zrl rfl) rfl ?_
  refine a_iadd 659 dL_law_658 (by unfold zr; omega) rfl ?_
  refine a_sld 660 dL_law_659 (by omega) (by omega) rfl ?_
  refine a_aload_n 661 dL_law_660 rfl rfl ?_
  refine a_iload_n 662 dL_law_661 rfl rfl ?_
  refine a_iconst (z := 3) 663 dL_law_662 rfl (zrl rfl) rfl ?_
  refine a_iadd 664 dL_law_663 (by unfold zr; omega) rfl ?_
  refine a_sld 665 dL_law_664 (by omega) (by omega) rfl ?_
  refine a_callV 668 (c11_road _ _ _ _ hP) cdX11_road lL_62 dL_law_665 rfl hP.2.1.1.1.1 rfl ⟨by decide, by decide, rfl, rfl⟩ ⟨by show kn.1 ≤ 600000; omega, by show kn.2 ≤ 7302250; omega⟩ (Nat.le_of_ble_eq_true rfl) rfl ?_
  rintro r1 g1 - h1 -
  obtain ⟨⟨z1, rfl⟩, hm1, hj⟩ := J_road hP h1
  clear h1
  refine a_aload_n 669 dL_law_668 rfl rfl ?_
  refine a_aload_n 670 dL_law_669 rfl rfl ?_
  refine a_iload_n 671 dL_law_670 rfl rfl ?_
  refine a_iconst (z := 1) 672 dL_law_671 rfl (zrl rfl) rfl ?_
  refine a_iadd 673 dL_law_672 (by unfold zr; omega) rfl ?_
  refine a_sld 674 dL_law_673 (by omega) (by omega) rfl ?_
  refine a_aload_n 675 dL_law_674 rfl rfl ?_
  refine a_iload_n 676 dL_law_675 rfl rfl ?_
  refine a_iconst (z := 2) 677 dL_law_676 rfl (zrl rfl) rfl ?_
  refine a_iadd 678 dL_law_677 (by unfold zr; omega) rfl ?_
  refine a_sld 679 dL_law_678 (by omega) (by omega) rfl ?_
  refine a_aload_n 680 dL_law_679 rfl rfl ?_
  refine a_iload_n 681 dL_law_680 rfl rfl ?_
  refine a_iconst (z := 3) 682 dL_law_681 rfl (zrl rfl) rfl ?_
  refine a_iadd 683 dL_law_682 (by unfold zr; omega) rfl ?_
  refine a_sld 684 dL_law_683 (by omega) (by omega) rfl ?_
  refine a_callV 687 (r_road _ _ _ _ hm1.1 hm1.2) cdX12_road lL_65 dL_law_684 rfl hm1.1.1 rfl ⟨by decide, by decide, rfl, rfl⟩ ⟨by show kn.1 ≤ 600000; omega, by show kn.2 ≤ 7302250; omega⟩ (Nat.le_of_ble_eq_true rfl) rfl ?_
  rintro r2 g2 - h2 -
  obtain ⟨rfl, hP2⟩ := hj _ _ h2
  refine a_icmp_eq 1301 690 dL_law_687 (by decide) rfl (fun c687 => ?_) (fun c687 => ?_)
  · exact kk _ _ hP2 ⟨by (try dsimp only); omega, by (try dsimp only); omega⟩
  · exact absurd rfl c687
set_option maxHeartbeats 1000000 in
set_option maxRecDepth 100000 in
theorem law_soonest {L n : Nat} {xs : Nat → Int32} {kn : Nat × Nat} {g : GH} (hP : CPL g) (hL4 : L ≤ 4608) (hn : 9 * n + 9 ≤ L) (hk : kn.1 + 5 ≤ 600000 ∧ kn.2 + 43 ≤ 7302250) (kk : ∀ (kn' : Nat × Nat) g', CPL g' → kn'.1 ≤ kn.1 + 5 ∧ kn'.2 ≤ kn.2 + 43 → AW mL_law (Tl L xs) kn' g' 1301 [vA 1000300, vA 1, vA 1000, vI (9 * (n : Int))] []) : AW mL_law (Tl L xs) kn g 692 [vA 1000300, vA 1, vA 1000, vI (9 * (n : Int))] [] := by
  refine a_aload_n 693 dL_law_692 rfl rfl ?_
  refine a_aload_n 694 dL_law_693 rfl rfl ?_
  refine a_iload_n 695 dL_law_694 rfl rfl ?_
  refine a_iconst (z := 1) 696 dL_law_695 rfl (zrl rfl) rfl ?_
  refine a_iadd 697 dL_law_696 (by unfold zr; omega) rfl ?_
  refine a_sld 698 dL_law_697 (by omega) (by omega) rfl ?_
  refine a_aload_n 699 dL_law_698 rfl rfl ?_
  refine a_iload_n 700 dL_law_699 rfl rfl ?_
  refine a_iconst (z := 2) 701 dL_law_700 rfl (zrl rfl) rfl ?_
  refine a_iadd 702 dL_law_701 (by unfold zr; omega) rfl ?_
  refine a_sld 703 dL_law_702 (by omega) (by omega) rfl ?_
  refine a_aload_n 704 dL_law_703 rfl rfl ?_
  refine a_iload_n 705 dL_law_704 rfl rfl ?_
  refine a_iconst (z := 3) 706 dL_law_705 rfl (zrl rfl) rfl ?_
  refine a_iadd 707 dL_law_706 (by unfold zr; omega) rfl ?_
  refine a_sld 708 dL_law_707 (by omega) (by omega) rfl ?_
  refine a_callV 711 (c11_soonest _ _ _ _ hP) cdX11_soonest lL_66 dL_law_708 rfl hP.2.1.1.1.1 rfl ⟨by decide, by decide, rfl, rfl⟩ ⟨by show kn.1 ≤ 600000; omega, by show kn.2 ≤ 7302250; omega⟩ (Nat.le_of_ble_eq_true rfl) rfl ?_
  rintro r1 g1 - h1 -
  obtain ⟨⟨z1, rfl⟩, hm1, hj⟩ := J_soonest hP h1
  clear h1
  refine a_aload_n 712 dL_law_711 rfl rfl ?_
  refine a_aload_n 713 dL_law_712 rfl rfl ?_
  refine a_iload_n 714 dL_law_713 rfl rfl ?_
  refine a_iconst (z := 1) 715 dL_law_714 rfl (zrl rfl) rfl ?_
  refine a_iadd 716 dL_law_715 (by unfold zr; omega) rfl ?_
  refine a_sld 717 dL_law_716 (by omega) (by omega) rfl ?_
  refine a_aload_n 718 dL_law_717 rfl rfl ?_
  refine a_iload_n 719 dL_law_718 rfl rfl ?_
  refine a_iconst (z := 2) 720 dL_law_719 rfl (zrl rfl) rfl ?_
  refine a_iadd 721 dL_law_720 (by unfold zr; omega) rfl ?_
  refine a_sld 722 dL_law_721 (by omega) (by omega) rfl ?_
  refine a_aload_n 723 dL_law_722 rfl rfl ?_
  refine a_iload_n 724 dL_law_723 rfl rfl ?_
  refine a_iconst (z := 3) 725 dL_law_724 rfl (zrl rfl) rfl ?_
  refine a_iadd 726 dL_law_725 (by unfold zr; omega) rfl ?_
  refine a_sld 727 dL_law_726 (by omega) (by omega) rfl ?_
  refine a_callV 730 (r_soonest _ _ _ _ hm1.1 hm1.2) cdX12_soonest lL_69 dL_law_727 rfl hm1.1.1 rfl ⟨by decide, by decide, rfl, rfl⟩ ⟨by show kn.1 ≤ 600000; omega, by show kn.2 ≤ 7302250; omega⟩ (Nat.le_of_ble_eq_true rfl) rfl ?_
  rintro r2 g2 - h2 -
  obtain ⟨rfl, hP2⟩ := hj _ _ h2
  refine a_icmp_eq 1301 733 dL_law_730 (by decide) rfl (fun c730 => ?_) (fun c730 => ?_)
  · exact kk _ _ hP2 ⟨by (try dsimp only); omega, by (try dsimp only); omega⟩
  · exact absurd rfl c730
set_option maxHeartbeats 1000000 in
set_option maxRecDepth 100000 in
theorem law_goes {L n : Nat} {xs : Nat → Int32} {kn : Nat × Nat} {g : GH} (hP : CPL g) (hL4 : L ≤ 4608) (hn : 9 * n + 9 ≤ L) (hk : kn.1 + 5 ≤ 600000 ∧ kn.2 + 43 ≤ 7302250) (kk : ∀ (kn' : Nat × Nat) g', CPL g' → kn'.1 ≤ kn.1 + 5 ∧ kn'.2 ≤ kn.2 + 43 → AW mL_law (Tl L xs) kn' g' 1301 [vA 1000300, vA 1, vA 1000, vI (9 * (n : Int))] []) : AW mL_law (Tl L xs) kn g 735 [vA 1000300, vA 1, vA 1000, vI (9 * (n : Int))] [] := by
  refine a_aload_n 736 dL_law_735 rfl rfl ?_
  refine a_aload_n 737 dL_law_736 rfl rfl ?_
  refine a_iload_n 738 dL_law_737 rfl rfl ?_
  refine a_iconst (z := 1) 739 dL_law_738 rfl (zrl rfl) rfl ?_
  refine a_iadd 740 dL_law_739 (by unfold zr; omega) rfl ?_
  refine a_sld 741 dL_law_740 (by omega) (by omega) rfl ?_
  refine a_aload_n 742 dL_law_741 rfl rfl ?_
  refine a_iload_n 743 dL_law_742 rfl rfl ?_
  refine a_iconst (z := 2) 744 dL_law_743 rfl (zrl rfl) rfl ?_
  refine a_iadd 745 dL_law_744 (by unfold zr; omega) rfl ?_
  refine a_sld 746 dL_law_745 (by omega) (by omega) rfl ?_
  refine a_aload_n 747 dL_law_746 rfl rfl ?_
  refine a_iload_n 748 dL_law_747 rfl rfl ?_
  refine a_iconst (z := 3) 749 dL_law_748 rfl (zrl rfl) rfl ?_
  refine a_iadd 750 dL_law_749 (by unfold zr; omega) rfl ?_
  refine a_sld 751 dL_law_750 (by omega) (by omega) rfl ?_
  refine a_callV 754 (c11_goes _ _ _ _ hP) cdX11_goes lL_70 dL_law_751 rfl hP.2.1.1.1.1 rfl ⟨by decide, by decide, rfl, rfl⟩ ⟨by show kn.1 ≤ 600000; omega, by show kn.2 ≤ 7302250; omega⟩ (Nat.le_of_ble_eq_true rfl) rfl ?_
  rintro r1 g1 - h1 -
  obtain ⟨⟨z1, rfl⟩, hm1, hj⟩ := J_goes hP h1
  clear h1
  refine a_aload_n 755 dL_law_754 rfl rfl ?_
  refine a_aload_n 756 dL_law_755 rfl rfl ?_
  refine a_iload_n 757 dL_law_756 rfl rfl ?_
  refine a_iconst (z := 1) 758 dL_law_757 rfl (zrl rfl) rfl ?_
  refine a_iadd 759 dL_law_758 (by unfold zr; omega) rfl ?_
  refine a_sld 760 dL_law_759 (by omega) (by omega) rfl ?_
  refine a_aload_n 761 dL_law_760 rfl rfl ?_
  refine a_iload_n 762 dL_law_761 rfl rfl ?_
  refine a_iconst (z := 2) 763 dL_law_762 rfl (zrl rfl) rfl ?_
  refine a_iadd 764 dL_law_763 (by unfold zr; omega) rfl ?_
  refine a_sld 765 dL_law_764 (by omega) (by omega) rfl ?_
  refine a_aload_n 766 dL_law_765 rfl rfl ?_
  refine a_iload_n 767 dL_law_766 rfl rfl ?_
  refine a_iconst (z := 3) 768 dL_law_767 rfl (zrl rfl) rfl ?_
  refine a_iadd 769 dL_law_768 (by unfold zr; omega) rfl ?_
  refine a_sld 770 dL_law_769 (by omega) (by omega) rfl ?_
  refine a_callV 773 (r_goes _ _ _ _ hm1.1 hm1.2) cdX12_goes lL_73 dL_law_770 rfl hm1.1.1 rfl ⟨by decide, by decide, rfl, rfl⟩ ⟨by show kn.1 ≤ 600000; omega, by show kn.2 ≤ 7302250; omega⟩ (Nat.le_of_ble_eq_true rfl) rfl ?_
  rintro r2 g2 - h2 -
  obtain ⟨rfl, hP2⟩ := hj _ _ h2
  refine a_icmp_eq 1301 776 dL_law_773 (by decide) rfl (fun c773 => ?_) (fun c773 => ?_)
  · exact kk _ _ hP2 ⟨by (try dsimp only); omega, by (try dsimp only); omega⟩
  · exact absurd rfl c773
set_option maxHeartbeats 1000000 in
set_option maxRecDepth 100000 in
theorem law_when {L n : Nat} {xs : Nat → Int32} {kn : Nat × Nat} {g : GH} (hP : CPL g) (hL4 : L ≤ 4608) (hn : 9 * n + 9 ≤ L) (hk : kn.1 + 5 ≤ 600000 ∧ kn.2 + 43 ≤ 7302250) (kk : ∀ (kn' : Nat × Nat) g', CPL g' → kn'.1 ≤ kn.1 + 5 ∧ kn'.2 ≤ kn.2 + 43 → AW mL_law (Tl L xs) kn' g' 1301 [vA 1000300, vA 1, vA 1000, vI (9 * (n : Int))] []) : AW mL_law (Tl L xs) kn g 778 [vA 1000300, vA 1, vA 1000, vI (9 * (n : Int))] [] := by
  refine a_aload_n 779 dL_law_778 rfl rfl ?_
  refine a_aload_n 780 dL_law_779 rfl rfl ?_
  refine a_iload_n 781 dL_law_780 rfl rfl ?_
  refine a_iconst (z := 1) 782 dL_law_781 rfl (zrl rfl) rfl ?_
  refine a_iadd 783 dL_law_782 (by unfold zr; omega) rfl ?_
  refine a_sld 784 dL_law_783 (by omega) (by omega) rfl ?_
  refine a_aload_n 785 dL_law_784 rfl rfl ?_
  refine a_iload_n 786 dL_law_785 rfl rfl ?_
  refine a_iconst (z := 2) 787 dL_law_786 rfl (zrl rfl) rfl ?_
  refine a_iadd 788 dL_law_787 (by unfold zr; omega) rfl ?_
  refine a_sld 789 dL_law_788 (by omega) (by omega) rfl ?_
  refine a_aload_n 790 dL_law_789 rfl rfl ?_
  refine a_iload_n 791 dL_law_790 rfl rfl ?_
  refine a_iconst (z := 3) 792 dL_law_791 rfl (zrl rfl) rfl ?_
  refine a_iadd 793 dL_law_792 (by unfold zr; omega) rfl ?_
  refine a_sld 794 dL_law_793 (by omega) (by omega) rfl ?_
  refine a_aload_n 795 dL_law_794 rfl rfl ?_
  refine a_iload_n 796 dL_law_795 rfl rfl ?_
  refine a_iconst (z := 4) 797 dL_law_796 rfl (zrl rfl) rfl ?_
  refine a_iadd 798 dL_law_797 (by unfold zr; omega) rfl ?_
  refine a_sld 799 dL_law_798 (by omega) (by omega) rfl ?_
  refine a_callV 802 (c11_when _ _ _ _ _ hP) cdX11_when lL_74 dL_law_799 rfl hP.2.1.1.1.1 rfl ⟨by decide, by decide, rfl, rfl⟩ ⟨by show kn.1 ≤ 600000; omega, by show kn.2 ≤ 7302250; omega⟩ (Nat.le_of_ble_eq_true rfl) rfl ?_
  rintro r1 g1 - h1 -
  obtain ⟨⟨z1, rfl⟩, hm1, hj⟩ := J_when hP h1
  clear h1
  refine a_aload_n 803 dL_law_802 rfl rfl ?_
  refine a_aload_n 804 dL_law_803 rfl rfl ?_
  refine a_iload_n 805 dL_law_804 rfl rfl ?_
  refine a_iconst (z := 1) 806 dL_law_805 rfl (zrl rfl) rfl ?_
  refine a_iadd 807 dL_law_806 (by unfold zr; omega) rfl ?_
  refine a_sld 808 dL_law_807 (by omega) (by omega) rfl ?_
  refine a_aload_n 809 dL_law_808 rfl rfl ?_
  refine a_iload_n 810 dL_law_809 rfl rfl ?_
  refine a_iconst (z := 2) 811 dL_law_810 rfl (zrl rfl) rfl ?_
  refine a_iadd 812 dL_law_811 (by unfold zr; omega) rfl ?_
  refine a_sld 813 dL_law_812 (by omega) (by omega) rfl ?_
  refine a_aload_n 814 dL_law_813 rfl rfl ?_
  refine a_iload_n 815 dL_law_814 rfl rfl ?_
  refine a_iconst (z := 3) 816 dL_law_815 rfl (zrl rfl) rfl ?_
  refine a_iadd 817 dL_law_816 (by unfold zr; omega) rfl ?_
  refine a_sld 818 dL_law_817 (by omega) (by omega) rfl ?_
  refine a_aload_n 819 dL_law_818 rfl rfl ?_
  refine a_iload_n 820 dL_law_819 rfl rfl ?_
  refine a_iconst (z := 4) 821 dL_law_820 rfl (zrl rfl) rfl ?_
  refine a_iadd 822 dL_law_821 (by unfold zr; omega) rfl ?_
  refine a_sld 823 dL_law_822 (by omega) (by omega) rfl ?_
  refine a_callV 826 (r_when _ _ _ _ _ hm1.1 hm1.2) cdX12_when lL_77 dL_law_823 rfl hm1.1.1 rfl ⟨by decide, by decide, rfl, rfl⟩ ⟨by show kn.1 ≤ 600000; omega, by show kn.2 ≤ 7302250; omega⟩ (Nat.le_of_ble_eq_true rfl) rfl ?_
  rintro r2 g2 - h2 -
  obtain ⟨rfl, hP2⟩ := hj _ _ h2
  refine a_icmp_eq 1301 829 dL_law_826 (by decide) rfl (fun c826 => ?_) (fun c826 => ?_)
  · exact kk _ _ hP2 ⟨by (try dsimp only); omega, by (try dsimp only); omega⟩
  · exact absurd rfl c826
set_option maxHeartbeats 1000000 in
set_option maxRecDepth 100000 in
theorem law_bars {L n : Nat} {xs : Nat → Int32} {kn : Nat × Nat} {g : GH} (hP : CPL g) (hL4 : L ≤ 4608) (hn : 9 * n + 9 ≤ L) (hk : kn.1 + 5 ≤ 600000 ∧ kn.2 + 43 ≤ 7302250) (kk : ∀ (kn' : Nat × Nat) g', CPL g' → kn'.1 ≤ kn.1 + 5 ∧ kn'.2 ≤ kn.2 + 43 → AW mL_law (Tl L xs) kn' g' 1301 [vA 1000300, vA 1, vA 1000, vI (9 * (n : Int))] []) : AW mL_law (Tl L xs) kn g 831 [vA 1000300, vA 1, vA 1000, vI (9 * (n : Int))] [] := by
  refine a_aload_n 832 dL_law_831 rfl rfl ?_
  refine a_aload_n 833 dL_law_832 rfl rfl ?_
  refine a_iload_n 834 dL_law_833 rfl rfl ?_
  refine a_iconst (z := 1) 835 dL_law_834 rfl (zrl rfl) rfl ?_
  refine a_iadd 836 dL_law_835 (by unfold zr; omega) rfl ?_
  refine a_sld 837 dL_law_836 (by omega) (by omega) rfl ?_
  refine a_aload_n 838 dL_law_837 rfl rfl ?_
  refine a_iload_n 839 dL_law_838 rfl rfl ?_
  refine a_iconst (z := 2) 840 dL_law_839 rfl (zrl rfl) rfl ?_
  refine a_iadd 841 dL_law_840 (by unfold zr; omega) rfl ?_
  refine a_sld 842 dL_law_841 (by omega) (by omega) rfl ?_
  refine a_callV 845 (c11_bars _ _ _ hP) cdX11_bars lL_78 dL_law_842 rfl hP.2.1.1.1.1 rfl ⟨by decide, by decide, rfl, rfl⟩ ⟨by show kn.1 ≤ 600000; omega, by show kn.2 ≤ 7302250; omega⟩ (Nat.le_of_ble_eq_true rfl) rfl ?_
  rintro r1 g1 - h1 -
  obtain ⟨⟨z1, rfl⟩, hm1, hj⟩ := J_bars hP h1
  clear h1
  refine a_aload_n 846 dL_law_845 rfl rfl ?_
  refine a_aload_n 847 dL_law_846 rfl rfl ?_
  refine a_iload_n 848 dL_law_847 rfl rfl ?_
  refine a_iconst (z := 1) 849 dL_law_848 rfl (zrl rfl) rfl ?_
  refine a_iadd 850 dL_law_849 (by unfold zr; omega) rfl ?_
  refine a_sld 851 dL_law_850 (by omega) (by omega) rfl ?_
  refine a_aload_n 852 dL_law_851 rfl rfl ?_
  refine a_iload_n 853 dL_law_852 rfl rfl ?_
  refine a_iconst (z := 2) 854 dL_law_853 rfl (zrl rfl) rfl ?_
  refine a_iadd 855 dL_law_854 (by unfold zr; omega) rfl ?_
  refine a_sld 856 dL_law_855 (by omega) (by omega) rfl ?_
  refine a_callV 859 (r_bars _ _ _ hm1.1 hm1.2) cdX12_bars lL_81 dL_law_856 rfl hm1.1.1 rfl ⟨by decide, by decide, rfl, rfl⟩ ⟨by show kn.1 ≤ 600000; omega, by show kn.2 ≤ 7302250; omega⟩ (Nat.le_of_ble_eq_true rfl) rfl ?_
  rintro r2 g2 - h2 -
  obtain ⟨rfl, hP2⟩ := hj _ _ h2
  refine a_icmp_eq 1301 862 dL_law_859 (by decide) rfl (fun c859 => ?_) (fun c859 => ?_)
  · exact kk _ _ hP2 ⟨by (try dsimp only); omega, by (try dsimp only); omega⟩
  · exact absurd rfl c859
set_option maxHeartbeats 1000000 in
set_option maxRecDepth 100000 in
theorem law_fewest {L n : Nat} {xs : Nat → Int32} {kn : Nat × Nat} {g : GH} (hP : CPL g) (hL4 : L ≤ 4608) (hn : 9 * n + 9 ≤ L) (hk : kn.1 + 5 ≤ 600000 ∧ kn.2 + 43 ≤ 7302250) (kk : ∀ (kn' : Nat × Nat) g', CPL g' → kn'.1 ≤ kn.1 + 5 ∧ kn'.2 ≤ kn.2 + 43 → AW mL_law (Tl L xs) kn' g' 1301 [vA 1000300, vA 1, vA 1000, vI (9 * (n : Int))] []) : AW mL_law (Tl L xs) kn g 864 [vA 1000300, vA 1, vA 1000, vI (9 * (n : Int))] [] := by
  refine a_aload_n 865 dL_law_864 rfl rfl ?_
  refine a_aload_n 866 dL_law_865 rfl rfl ?_
  refine a_iload_n 867 dL_law_866 rfl rfl ?_
  refine a_iconst (z := 1) 868 dL_law_867 rfl (zrl rfl) rfl ?_
  refine a_iadd 869 dL_law_868 (by unfold zr; omega) rfl ?_
  refine a_sld 870 dL_law_869 (by omega) (by omega) rfl ?_
  refine a_aload_n 871 dL_law_870 rfl rfl ?_
  refine a_iload_n 872 dL_law_871 rfl rfl ?_
  refine a_iconst (z := 2) 873 dL_law_872 rfl (zrl rfl) rfl ?_
  refine a_iadd 874 dL_law_873 (by unfold zr; omega) rfl ?_
  refine a_sld 875 dL_law_874 (by omega) (by omega) rfl ?_
  refine a_aload_n 876 dL_law_875 rfl rfl ?_
  refine a_iload_n 877 dL_law_876 rfl rfl ?_
  refine a_iconst (z := 3) 878 dL_law_877 rfl (zrl rfl) rfl ?_
  refine a_iadd 879 dL_law_878 (by unfold zr; omega) rfl ?_
  refine a_sld 880 dL_law_879 (by omega) (by omega) rfl ?_
  refine a_callV 883 (c11_fewest _ _ _ _ hP) cdX11_fewest lL_82 dL_law_880 rfl hP.2.1.1.1.1 rfl ⟨by decide, by decide, rfl, rfl⟩ ⟨by show kn.1 ≤ 600000; omega, by show kn.2 ≤ 7302250; omega⟩ (Nat.le_of_ble_eq_true rfl) rfl ?_
  rintro r1 g1 - h1 -
  obtain ⟨⟨z1, rfl⟩, hm1, hj⟩ := J_fewest hP h1
  clear h1
  refine a_aload_n 884 dL_law_883 rfl rfl ?_
  refine a_aload_n 885 dL_law_884 rfl rfl ?_
  refine a_iload_n 886 dL_law_885 rfl rfl ?_
  refine a_iconst (z := 1) 887 dL_law_886 rfl (zrl rfl) rfl ?_
  refine a_iadd 888 dL_law_887 (by unfold zr; omega) rfl ?_
  refine a_sld 889 dL_law_888 (by omega) (by omega) rfl ?_
  refine a_aload_n 890 dL_law_889 rfl rfl ?_
  refine a_iload_n 891 dL_law_890 rfl rfl ?_
  refine a_iconst (z := 2) 892 dL_law_891 rfl (zrl rfl) rfl ?_
  refine a_iadd 893 dL_law_892 (by unfold zr; omega) rfl ?_
  refine a_sld 894 dL_law_893 (by omega) (by omega) rfl ?_
  refine a_aload_n 895 dL_law_894 rfl rfl ?_
  refine a_iload_n 896 dL_law_895 rfl rfl ?_
  refine a_iconst (z := 3) 897 dL_law_896 rfl (zrl rfl) rfl ?_
  refine a_iadd 898 dL_law_897 (by unfold zr; omega) rfl ?_
  refine a_sld 899 dL_law_898 (by omega) (by omega) rfl ?_
  refine a_callV 902 (r_fewest _ _ _ _ hm1.1 hm1.2) cdX12_fewest lL_85 dL_law_899 rfl hm1.1.1 rfl ⟨by decide, by decide, rfl, rfl⟩ ⟨by show kn.1 ≤ 600000; omega, by show kn.2 ≤ 7302250; omega⟩ (Nat.le_of_ble_eq_true rfl) rfl ?_
  rintro r2 g2 - h2 -
  obtain ⟨rfl, hP2⟩ := hj _ _ h2
  refine a_icmp_eq 1301 905 dL_law_902 (by decide) rfl (fun c902 => ?_) (fun c902 => ?_)
  · exact kk _ _ hP2 ⟨by (try dsimp only); omega, by (try dsimp only); omega⟩
  · exact absurd rfl c902
set_option maxHeartbeats 1000000 in
set_option maxRecDepth 100000 in
theorem law_type {L n : Nat} {xs : Nat → Int32} {kn : Nat × Nat} {g : GH} (hP : CPL g) (hL4 : L ≤ 4608) (hn : 9 * n + 9 ≤ L) (hk : kn.1 + 5 ≤ 600000 ∧ kn.2 + 43 ≤ 7302250) (kk : ∀ (kn' : Nat × Nat) g', CPL g' → kn'.1 ≤ kn.1 + 5 ∧ kn'.2 ≤ kn.2 + 43 → AW mL_law (Tl L xs) kn' g' 1301 [vA 1000300, vA 1, vA 1000, vI (9 * (n : Int))] []) : AW mL_law (Tl L xs) kn g 907 [vA 1000300, vA 1, vA 1000, vI (9 * (n : Int))] [] := by
  refine a_aload_n 908 dL_law_907 rfl rfl ?_
  refine a_aload_n 909 dL_law_908 rfl rfl ?_
  refine a_iload_n 910 dL_law_909 rfl rfl ?_
  refine a_iconst (z := 1) 911 dL_law_910 rfl (zrl rfl) rfl ?_
  refine a_iadd 912 dL_law_911 (by unfold zr; omega) rfl ?_
  refine a_sld 913 dL_law_912 (by omega) (by omega) rfl ?_
  refine a_i2l 914 dL_law_913 rfl rfl ?_
  refine a_bipush (z := 32) 916 dL_law_914 rfl (zrl rfl) rfl ?_
  refine a_lshl 917 dL_law_916 rfl rfl ?_
  refine a_aload_n 918 dL_law_917 rfl rfl ?_
  refine a_iload_n 919 dL_law_918 rfl rfl ?_
  refine a_iconst (z := 2) 920 dL_law_919 rfl (zrl rfl) rfl ?_
  refine a_iadd 921 dL_law_920 (by unfold zr; omega) rfl ?_
  refine a_sld 922 dL_law_921 (by omega) (by omega) rfl ?_
  refine a_i2l 923 dL_law_922 rfl rfl ?_
  refine a_ldc2 926 dL_law_923 kL_86 rfl ?_
  refine a_land 927 dL_law_926 rfl ?_
  refine a_lor 928 dL_law_927 rfl ?_
  refine a_aload_n 929 dL_law_928 rfl rfl ?_
  refine a_iload_n 930 dL_law_929 rfl rfl ?_
  refine a_iconst (z := 3) 931 dL_law_930 rfl (zrl rfl) rfl ?_
  refine a_iadd 932 dL_law_931 (by unfold zr; omega) rfl ?_
  refine a_sld 933 dL_law_932 (by omega) (by omega) rfl ?_
  refine a_callV 936 (c11_type _ _ _ hP) cdX11_type lL_88 dL_law_933 rfl hP.2.1.1.1.1 rfl ⟨by decide, by decide, rfl, rfl⟩ ⟨by show kn.1 ≤ 600000; omega, by show kn.2 ≤ 7302250; omega⟩ (Nat.le_of_ble_eq_true rfl) rfl ?_
  rintro r1 g1 - h1 -
  obtain ⟨⟨z1, rfl⟩, hm1, hj⟩ := J_type hP h1
  clear h1
  refine a_aload_n 937 dL_law_936 rfl rfl ?_
  refine a_aload_n 938 dL_law_937 rfl rfl ?_
  refine a_iload_n 939 dL_law_938 rfl rfl ?_
  refine a_iconst (z := 1) 940 dL_law_939 rfl (zrl rfl) rfl ?_
  refine a_iadd 941 dL_law_940 (by unfold zr; omega) rfl ?_
  refine a_sld 942 dL_law_941 (by omega) (by omega) rfl ?_
  refine a_i2l 943 dL_law_942 rfl rfl ?_
  refine a_bipush (z := 32) 945 dL_law_943 rfl (zrl rfl) rfl ?_
  refine a_lshl 946 dL_law_945 rfl rfl ?_
  refine a_aload_n 947 dL_law_946 rfl rfl ?_
  refine a_iload_n 948 dL_law_947 rfl rfl ?_
  refine a_iconst (z := 2) 949 dL_law_948 rfl (zrl rfl) rfl ?_
  refine a_iadd 950 dL_law_949 (by unfold zr; omega) rfl ?_
  refine a_sld 951 dL_law_950 (by omega) (by omega) rfl ?_
  refine a_i2l 952 dL_law_951 rfl rfl ?_
  refine a_ldc2 955 dL_law_952 kL_86 rfl ?_
  refine a_land 956 dL_law_955 rfl ?_
  refine a_lor 957 dL_law_956 rfl ?_
  refine a_aload_n 958 dL_law_957 rfl rfl ?_
  refine a_iload_n 959 dL_law_958 rfl rfl ?_
  refine a_iconst (z := 3) 960 dL_law_959 rfl (zrl rfl) rfl ?_
  refine a_iadd 961 dL_law_960 (by unfold zr; omega) rfl ?_
  refine a_sld 962 dL_law_961 (by omega) (by omega) rfl ?_
  refine a_callV 965 (r_type _ _ _ hm1.1 hm1.2) cdX12_type lL_92 dL_law_962 rfl hm1.1.1 rfl ⟨by decide, by decide, rfl, rfl⟩ ⟨by show kn.1 ≤ 600000; omega, by show kn.2 ≤ 7302250; omega⟩ (Nat.le_of_ble_eq_true rfl) rfl ?_
  rintro r2 g2 - h2 -
  obtain ⟨rfl, hP2⟩ := hj _ _ h2
  refine a_icmp_eq 1301 968 dL_law_965 (by decide) rfl (fun c965 => ?_) (fun c965 => ?_)
  · exact kk _ _ hP2 ⟨by (try dsimp only); omega, by (try dsimp only); omega⟩
  · exact absurd rfl c965
set_option maxHeartbeats 1000000 in
set_option maxRecDepth 100000 in
theorem law_clear {L n : Nat} {xs : Nat → Int32} {kn : Nat × Nat} {g : GH} (hP : CPL g) (hL4 : L ≤ 4608) (hn : 9 * n + 9 ≤ L) (hk : kn.1 + 5 ≤ 600000 ∧ kn.2 + 43 ≤ 7302250) (kk : ∀ (kn' : Nat × Nat) g', CPL g' → kn'.1 ≤ kn.1 + 5 ∧ kn'.2 ≤ kn.2 + 43 → AW mL_law (Tl L xs) kn' g' 1301 [vA 1000300, vA 1, vA 1000, vI (9 * (n : Int))] []) : AW mL_law (Tl L xs) kn g 970 [vA 1000300, vA 1, vA 1000, vI (9 * (n : Int))] [] := by
  refine a_aload_n 971 dL_law_970 rfl rfl ?_
  refine a_callV 974 (c11_clear _ hP) cdX11_clear lL_93 dL_law_971 rfl hP.2.1.1.1.1 rfl ⟨by decide, by decide, rfl, rfl⟩ ⟨by show kn.1 ≤ 600000; omega, by show kn.2 ≤ 7302250; omega⟩ (Nat.le_of_ble_eq_true rfl) rfl ?_
  rintro r1 g1 - h1 -
  obtain ⟨⟨z1, rfl⟩, hm1, hj⟩ := J_clear hP h1
  clear h1
  refine a_aload_n 975 dL_law_974 rfl rfl ?_
  refine a_callV 978 (r_clear _ hm1.1 hm1.2) cdX12_clear lL_97 dL_law_975 rfl hm1.1.1 rfl ⟨by decide, by decide, rfl, rfl⟩ ⟨by show kn.1 ≤ 600000; omega, by show kn.2 ≤ 7302250; omega⟩ (Nat.le_of_ble_eq_true rfl) rfl ?_
  rintro r2 g2 - h2 -
  obtain ⟨rfl, hP2⟩ := hj _ _ h2
  refine a_icmp_eq 1301 981 dL_law_978 (by decide) rfl (fun c978 => ?_) (fun c978 => ?_)
  · exact kk _ _ hP2 ⟨by (try dsimp only); omega, by (try dsimp only); omega⟩
  · exact absurd rfl c978
set_option maxHeartbeats 1000000 in
set_option maxRecDepth 100000 in
theorem law_rates {L n : Nat} {xs : Nat → Int32} {kn : Nat × Nat} {g : GH} (hP : CPL g) (hL4 : L ≤ 4608) (hn : 9 * n + 9 ≤ L) (hk : kn.1 + 5 ≤ 600000 ∧ kn.2 + 43 ≤ 7302250) (kk : ∀ (kn' : Nat × Nat) g', CPL g' → kn'.1 ≤ kn.1 + 5 ∧ kn'.2 ≤ kn.2 + 43 → AW mL_law (Tl L xs) kn' g' 1301 [vA 1000300, vA 1, vA 1000, vI (9 * (n : Int))] []) : AW mL_law (Tl L xs) kn g 983 [vA 1000300, vA 1, vA 1000, vI (9 * (n : Int))] [] := by
  refine a_aload_n 984 dL_law_983 rfl rfl ?_
  refine a_callV 987 (c11_rates _ hP) cdX11_rates lL_98 dL_law_984 rfl hP.2.1.1.1.1 rfl ⟨by decide, by decide, rfl, rfl⟩ ⟨by show kn.1 ≤ 600000; omega, by show kn.2 ≤ 7302250; omega⟩ (Nat.le_of_ble_eq_true rfl) rfl ?_
  rintro r1 g1 - h1 -
  obtain ⟨⟨z1, rfl⟩, hm1, hj⟩ := J_rates hP h1
  clear h1
  refine a_aload_n 988 dL_law_987 rfl rfl ?_
  refine a_callV 991 (r_rates _ hm1.1 hm1.2) cdX12_rates lL_101 dL_law_988 rfl hm1.1.1 rfl ⟨by decide, by decide, rfl, rfl⟩ ⟨by show kn.1 ≤ 600000; omega, by show kn.2 ≤ 7302250; omega⟩ (Nat.le_of_ble_eq_true rfl) rfl ?_
  rintro r2 g2 - h2 -
  obtain ⟨rfl, hP2⟩ := hj _ _ h2
  refine a_icmp_eq 1301 994 dL_law_991 (by decide) rfl (fun c991 => ?_) (fun c991 => ?_)
  · exact kk _ _ hP2 ⟨by (try dsimp only); omega, by (try dsimp only); omega⟩
  · exact absurd rfl c991
set_option maxHeartbeats 1000000 in
set_option maxRecDepth 100000 in
theorem law_owed {L n : Nat} {xs : Nat → Int32} {kn : Nat × Nat} {g : GH} (hP : CPL g) (hL4 : L ≤ 4608) (hn : 9 * n + 9 ≤ L) (hk : kn.1 + 5 ≤ 600000 ∧ kn.2 + 43 ≤ 7302250) (kk : ∀ (kn' : Nat × Nat) g', CPL g' → kn'.1 ≤ kn.1 + 5 ∧ kn'.2 ≤ kn.2 + 43 → AW mL_law (Tl L xs) kn' g' 1301 [vA 1000300, vA 1, vA 1000, vI (9 * (n : Int))] []) : AW mL_law (Tl L xs) kn g 996 [vA 1000300, vA 1, vA 1000, vI (9 * (n : Int))] [] := by
  refine a_aload_n 997 dL_law_996 rfl rfl ?_
  refine a_aload_n 998 dL_law_997 rfl rfl ?_
  refine a_iload_n 999 dL_law_998 rfl rfl ?_
  refine a_iconst (z := 1) 1000 dL_law_999 rfl (zrl rfl) rfl ?_
  refine a_iadd 1001 dL_law_1000 (by unfold zr; omega) rfl ?_
  refine a_sld 1002 dL_law_1001 (by omega) (by omega) rfl ?_
  refine a_aload_n 1003 dL_law_1002 rfl rfl ?_
  refine a_iload_n 1004 dL_law_1003 rfl rfl ?_
  refine a_iconst (z := 2) 1005 dL_law_1004 rfl (zrl rfl) rfl ?_
  refine a_iadd 1006 dL_law_1005 (by unfold zr; omega) rfl ?_
  refine a_sld 1007 dL_law_1006 (by omega) (by omega) rfl ?_
  refine a_aload_n 1008 dL_law_1007 rfl rfl ?_
  refine a_iload_n 1009 dL_law_1008 rfl rfl ?_
  refine a_iconst (z := 3) 1010 dL_law_1009 rfl (zrl rfl) rfl ?_
  refine a_iadd 1011 dL_law_1010 (by unfold zr; omega) rfl ?_
  refine a_sld 1012 dL_law_1011 (by omega) (by omega) rfl ?_
  refine a_aload_n 1013 dL_law_1012 rfl rfl ?_
  refine a_iload_n 1014 dL_law_1013 rfl rfl ?_
  refine a_iconst (z := 4) 1015 dL_law_1014 rfl (zrl rfl) rfl ?_
  refine a_iadd 1016 dL_law_1015 (by unfold zr; omega) rfl ?_
  refine a_sld 1017 dL_law_1016 (by omega) (by omega) rfl ?_
  refine a_aload_n 1018 dL_law_1017 rfl rfl ?_
  refine a_iload_n 1019 dL_law_1018 rfl rfl ?_
  refine a_iconst (z := 5) 1020 dL_law_1019 rfl (zrl rfl) rfl ?_
  refine a_iadd 1021 dL_law_1020 (by unfold zr; omega) rfl ?_
  refine a_sld 1022 dL_law_1021 (by omega) (by omega) rfl ?_
  refine a_callV 1025 (c11_owed _ _ _ _ _ _ hP) cdX11_owed lL_102 dL_law_1022 rfl hP.2.1.1.1.1 rfl ⟨by decide, by decide, rfl, rfl⟩ ⟨by show kn.1 ≤ 600000; omega, by show kn.2 ≤ 7302250; omega⟩ (Nat.le_of_ble_eq_true rfl) rfl ?_
  rintro r1 g1 - h1 -
  obtain ⟨⟨z1, rfl⟩, hm1, hj⟩ := J_owed hP h1
  clear h1
  refine a_aload_n 1026 dL_law_1025 rfl rfl ?_
  refine a_aload_n 1027 dL_law_1026 rfl rfl ?_
  refine a_iload_n 1028 dL_law_1027 rfl rfl ?_
  refine a_iconst (z := 1) 1029 dL_law_1028 rfl (zrl rfl) rfl ?_
  refine a_iadd 1030 dL_law_1029 (by unfold zr; omega) rfl ?_
  refine a_sld 1031 dL_law_1030 (by omega) (by omega) rfl ?_
  refine a_aload_n 1032 dL_law_1031 rfl rfl ?_
  refine a_iload_n 1033 dL_law_1032 rfl rfl ?_
  refine a_iconst (z := 2) 1034 dL_law_1033 rfl (zrl rfl) rfl ?_
  refine a_iadd 1035 dL_law_1034 (by unfold zr; omega) rfl ?_
  refine a_sld 1036 dL_law_1035 (by omega) (by omega) rfl ?_
  refine a_aload_n 1037 dL_law_1036 rfl rfl ?_
  refine a_iload_n 1038 dL_law_1037 rfl rfl ?_
  refine a_iconst (z := 3) 1039 dL_law_1038 rfl (zrl rfl) rfl ?_
  refine a_iadd 1040 dL_law_1039 (by unfold zr; omega) rfl ?_
  refine a_sld 1041 dL_law_1040 (by omega) (by omega) rfl ?_
  refine a_aload_n 1042 dL_law_1041 rfl rfl ?_
  refine a_iload_n 1043 dL_law_1042 rfl rfl ?_
  refine a_iconst (z := 4) 1044 dL_law_1043 rfl (zrl rfl) rfl ?_
  refine a_iadd 1045 dL_law_1044 (by unfold zr; omega) rfl ?_
  refine a_sld 1046 dL_law_1045 (by omega) (by omega) rfl ?_
  refine a_aload_n 1047 dL_law_1046 rfl rfl ?_
  refine a_iload_n 1048 dL_law_1047 rfl rfl ?_
  refine a_iconst (z := 5) 1049 dL_law_1048 rfl (zrl rfl) rfl ?_
  refine a_iadd 1050 dL_law_1049 (by unfold zr; omega) rfl ?_
  refine a_sld 1051 dL_law_1050 (by omega) (by omega) rfl ?_
  refine a_callV 1054 (r_owed _ _ _ _ _ _ hm1.1 hm1.2) cdX12_owed lL_105 dL_law_1051 rfl hm1.1.1 rfl ⟨by decide, by decide, rfl, rfl⟩ ⟨by show kn.1 ≤ 600000; omega, by show kn.2 ≤ 7302250; omega⟩ (Nat.le_of_ble_eq_true rfl) rfl ?_
  rintro r2 g2 - h2 -
  obtain ⟨rfl, hP2⟩ := hj _ _ h2
  refine a_icmp_eq 1301 1057 dL_law_1054 (by decide) rfl (fun c1054 => ?_) (fun c1054 => ?_)
  · exact kk _ _ hP2 ⟨by (try dsimp only); omega, by (try dsimp only); omega⟩
  · exact absurd rfl c1054
set_option maxHeartbeats 1000000 in
set_option maxRecDepth 100000 in
theorem law_weights {L n : Nat} {xs : Nat → Int32} {kn : Nat × Nat} {g : GH} (hP : CPL g) (hL4 : L ≤ 4608) (hn : 9 * n + 9 ≤ L) (hk : kn.1 + 5 ≤ 600000 ∧ kn.2 + 43 ≤ 7302250) (kk : ∀ (kn' : Nat × Nat) g', CPL g' → kn'.1 ≤ kn.1 + 5 ∧ kn'.2 ≤ kn.2 + 43 → AW mL_law (Tl L xs) kn' g' 1301 [vA 1000300, vA 1, vA 1000, vI (9 * (n : Int))] []) : AW mL_law (Tl L xs) kn g 1059 [vA 1000300, vA 1, vA 1000, vI (9 * (n : Int))] [] := by
  refine a_aload_n 1060 dL_law_1059 rfl rfl ?_
  refine a_aload_n 1061 dL_law_1060 rfl rfl ?_
  refine a_iload_n 1062 dL_law_1061 rfl rfl ?_
  refine a_iconst (z := 1) 1063 dL_law_1062 rfl (zrl rfl) rfl ?_
  refine a_iadd 1064 dL_law_1063 (by unfold zr; omega) rfl ?_
  refine a_sld 1065 dL_law_1064 (by omega) (by omega) rfl ?_
  refine a_aload_n 1066 dL_law_1065 rfl rfl ?_
  refine a_iload_n 1067 dL_law_1066 rfl rfl ?_
  refine a_iconst (z := 2) 1068 dL_law_1067 rfl (zrl rfl) rfl ?_
  refine a_iadd 1069 dL_law_1068 (by unfold zr; omega) rfl ?_
  refine a_sld 1070 dL_law_1069 (by omega) (by omega) rfl ?_
  refine a_aload_n 1071 dL_law_1070 rfl rfl ?_
  refine a_iload_n 1072 dL_law_1071 rfl rfl ?_
  refine a_iconst (z := 3) 1073 dL_law_1072 rfl (zrl rfl) rfl ?_
  refine a_iadd 1074 dL_law_1073 (by unfold zr; omega) rfl ?_
  refine a_sld 1075 dL_law_1074 (by omega) (by omega) rfl ?_
  refine a_aload_n 1076 dL_law_1075 rfl rfl ?_
  refine a_iload_n 1077 dL_law_1076 rfl rfl ?_
  refine a_iconst (z := 4) 1078 dL_law_1077 rfl (zrl rfl) rfl ?_
  refine a_iadd 1079 dL_law_1078 (by unfold zr; omega) rfl ?_
  refine a_sld 1080 dL_law_1079 (by omega) (by omega) rfl ?_
  refine a_aload_n 1081 dL_law_1080 rfl rfl ?_
  refine a_iload_n 1082 dL_law_1081 rfl rfl ?_
  refine a_iconst (z := 5) 1083 dL_law_1082 rfl (zrl rfl) rfl ?_
  refine a_iadd 1084 dL_law_1083 (by unfold zr; omega) rfl ?_
  refine a_sld 1085 dL_law_1084 (by omega) (by omega) rfl ?_
  refine a_callV 1088 (c11_weights _ _ _ _ _ _ hP) cdX11_weights lL_106 dL_law_1085 rfl hP.2.1.1.1.1 rfl ⟨by decide, by decide, rfl, rfl⟩ ⟨by show kn.1 ≤ 600000; omega, by show kn.2 ≤ 7302250; omega⟩ (Nat.le_of_ble_eq_true rfl) rfl ?_
  rintro r1 g1 - h1 -
  obtain ⟨⟨z1, rfl⟩, hm1, hj⟩ := J_weights hP h1
  clear h1
  refine a_aload_n 1089 dL_law_1088 rfl rfl ?_
  refine a_aload_n 1090 dL_law_1089 rfl rfl ?_
  refine a_iload_n 1091 dL_law_1090 rfl rfl ?_
  refine a_iconst (z := 1) 1092 dL_law_1091 rfl (zrl rfl) rfl ?_
  refine a_iadd 1093 dL_law_1092 (by unfold zr; omega) rfl ?_
  refine a_sld 1094 dL_law_1093 (by omega) (by omega) rfl ?_
  refine a_aload_n 1095 dL_law_1094 rfl rfl ?_
  refine a_iload_n 1096 dL_law_1095 rfl rfl ?_
  refine a_iconst (z := 2) 1097 dL_law_1096 rfl (zrl rfl) rfl ?_
  refine a_iadd 1098 dL_law_1097 (by unfold zr; omega) rfl ?_
  refine a_sld 1099 dL_law_1098 (by omega) (by omega) rfl ?_
  refine a_aload_n 1100 dL_law_1099 rfl rfl ?_
  refine a_iload_n 1101 dL_law_1100 rfl rfl ?_
  refine a_iconst (z := 3) 1102 dL_law_1101 rfl (zrl rfl) rfl ?_
  refine a_iadd 1103 dL_law_1102 (by unfold zr; omega) rfl ?_
  refine a_sld 1104 dL_law_1103 (by omega) (by omega) rfl ?_
  refine a_aload_n 1105 dL_law_1104 rfl rfl ?_
  refine a_iload_n 1106 dL_law_1105 rfl rfl ?_
  refine a_iconst (z := 4) 1107 dL_law_1106 rfl (zrl rfl) rfl ?_
  refine a_iadd 1108 dL_law_1107 (by unfold zr; omega) rfl ?_
  refine a_sld 1109 dL_law_1108 (by omega) (by omega) rfl ?_
  refine a_aload_n 1110 dL_law_1109 rfl rfl ?_
  refine a_iload_n 1111 dL_law_1110 rfl rfl ?_
  refine a_iconst (z := 5) 1112 dL_law_1111 rfl (zrl rfl) rfl ?_
  refine a_iadd 1113 dL_law_1112 (by unfold zr; omega) rfl ?_
  refine a_sld 1114 dL_law_1113 (by omega) (by omega) rfl ?_
  refine a_callV 1117 (r_weights _ _ _ _ _ _ hm1.1 hm1.2) cdX12_weights lL_109 dL_law_1114 rfl hm1.1.1 rfl ⟨by decide, by decide, rfl, rfl⟩ ⟨by show kn.1 ≤ 600000; omega, by show kn.2 ≤ 7302250; omega⟩ (Nat.le_of_ble_eq_true rfl) rfl ?_
  rintro r2 g2 - h2 -
  obtain ⟨rfl, hP2⟩ := hj _ _ h2
  refine a_icmp_eq 1301 1120 dL_law_1117 (by decide) rfl (fun c1117 => ?_) (fun c1117 => ?_)
  · exact kk _ _ hP2 ⟨by (try dsimp only); omega, by (try dsimp only); omega⟩
  · exact absurd rfl c1117
set_option maxHeartbeats 1000000 in
set_option maxRecDepth 100000 in
theorem law_mail {L n : Nat} {xs : Nat → Int32} {kn : Nat × Nat} {g : GH} (hP : CPL g) (hL4 : L ≤ 4608) (hn : 9 * n + 9 ≤ L) (hk : kn.1 + 5 ≤ 600000 ∧ kn.2 + 43 ≤ 7302250) (kk : ∀ (kn' : Nat × Nat) g', CPL g' → kn'.1 ≤ kn.1 + 5 ∧ kn'.2 ≤ kn.2 + 43 → AW mL_law (Tl L xs) kn' g' 1301 [vA 1000300, vA 1, vA 1000, vI (9 * (n : Int))] []) : AW mL_law (Tl L xs) kn g 1122 [vA 1000300, vA 1, vA 1000, vI (9 * (n : Int))] [] := by
  refine a_aload_n 1123 dL_law_1122 rfl rfl ?_
  refine a_aload_n 1124 dL_law_1123 rfl rfl ?_
  refine a_iload_n 1125 dL_law_1124 rfl rfl ?_
  refine a_iconst (z := 1) 1126 dL_law_1125 rfl (zrl rfl) rfl ?_
  refine a_iadd 1127 dL_law_1126 (by unfold zr; omega) rfl ?_
  refine a_sld 1128 dL_law_1127 (by omega) (by omega) rfl ?_
  refine a_aload_n 1129 dL_law_1128 rfl rfl ?_
  refine a_iload_n 1130 dL_law_1129 rfl rfl ?_
  refine a_iconst (z := 2) 1131 dL_law_1130 rfl (zrl rfl) rfl ?_
  refine a_iadd 1132 dL_law_1131 (by unfold zr; omega) rfl ?_
  refine a_sld 1133 dL_law_1132 (by omega) (by omega) rfl ?_
  refine a_aload_n 1134 dL_law_1133 rfl rfl ?_
  refine a_iload_n 1135 dL_law_1134 rfl rfl ?_
  refine a_iconst (z := 3) 1136 dL_law_1135 rfl (zrl rfl) rfl ?_
  refine a_iadd 1137 dL_law_1136 (by unfold zr; omega) rfl ?_
  refine a_sld 1138 dL_law_1137 (by omega) (by omega) rfl ?_
  refine a_callV 1141 (c11_mail _ _ _ _ hP) cdX11_mail lL_110 dL_law_1138 rfl hP.2.1.1.1.1 rfl ⟨by decide, by decide, rfl, rfl⟩ ⟨by show kn.1 ≤ 600000; omega, by show kn.2 ≤ 7302250; omega⟩ (Nat.le_of_ble_eq_true rfl) rfl ?_
  rintro r1 g1 - h1 -
  obtain ⟨⟨z1, rfl⟩, hm1, hj⟩ := J_mail hP h1
  clear h1
  refine a_aload_n 1142 dL_law_1141 rfl rfl ?_
  refine a_aload_n 1143 dL_law_1142 rfl rfl ?_
  refine a_iload_n 1144 dL_law_1143 rfl rfl ?_
  refine a_iconst (z := 1) 1145 dL_law_1144 rfl (zrl rfl) rfl ?_
  refine a_iadd 1146 dL_law_1145 (by unfold zr; omega) rfl ?_
  refine a_sld 1147 dL_law_1146 (by omega) (by omega) rfl ?_
  refine a_aload_n 1148 dL_law_1147 rfl rfl ?_
  refine a_iload_n 1149 dL_law_1148 rfl rfl ?_
  refine a_iconst (z := 2) 1150 dL_law_1149 rfl (zrl rfl) rfl ?_
  refine a_iadd 1151 dL_law_1150 (by unfold zr; omega) rfl ?_
  refine a_sld 1152 dL_law_1151 (by omega) (by omega) rfl ?_
  refine a_aload_n 1153 dL_law_1152 rfl rfl ?_
  refine a_iload_n 1154 dL_law_1153 rfl rfl ?_
  refine a_iconst (z := 3) 1155 dL_law_1154 rfl (zrl rfl) rfl ?_
  refine a_iadd 1156 dL_law_1155 (by unfold zr; omega) rfl ?_
  refine a_sld 1157 dL_law_1156 (by omega) (by omega) rfl ?_
  refine a_callV 1160 (r_mail _ _ _ _ hm1.1 hm1.2) cdX12_mail lL_113 dL_law_1157 rfl hm1.1.1 rfl ⟨by decide, by decide, rfl, rfl⟩ ⟨by show kn.1 ≤ 600000; omega, by show kn.2 ≤ 7302250; omega⟩ (Nat.le_of_ble_eq_true rfl) rfl ?_
  rintro r2 g2 - h2 -
  obtain ⟨rfl, hP2⟩ := hj _ _ h2
  refine a_icmp_eq 1301 1163 dL_law_1160 (by decide) rfl (fun c1160 => ?_) (fun c1160 => ?_)
  · exact kk _ _ hP2 ⟨by (try dsimp only); omega, by (try dsimp only); omega⟩
  · exact absurd rfl c1160
set_option maxHeartbeats 1000000 in
set_option maxRecDepth 100000 in
theorem law_heap {L n : Nat} {xs : Nat → Int32} {kn : Nat × Nat} {g : GH} (hP : CPL g) (hL4 : L ≤ 4608) (hn : 9 * n + 9 ≤ L) (hk : kn.1 + 5 ≤ 600000 ∧ kn.2 + 43 ≤ 7302250) (kk : ∀ (kn' : Nat × Nat) g', CPL g' → kn'.1 ≤ kn.1 + 5 ∧ kn'.2 ≤ kn.2 + 43 → AW mL_law (Tl L xs) kn' g' 1301 [vA 1000300, vA 1, vA 1000, vI (9 * (n : Int))] []) : AW mL_law (Tl L xs) kn g 1165 [vA 1000300, vA 1, vA 1000, vI (9 * (n : Int))] [] := by
  refine a_aload_n 1166 dL_law_1165 rfl rfl ?_
  refine a_aload_n 1167 dL_law_1166 rfl rfl ?_
  refine a_iload_n 1168 dL_law_1167 rfl rfl ?_
  refine a_iconst (z := 1) 1169 dL_law_1168 rfl (zrl rfl) rfl ?_
  refine a_iadd 1170 dL_law_1169 (by unfold zr; omega) rfl ?_
  refine a_sld 1171 dL_law_1170 (by omega) (by omega) rfl ?_
  refine a_aload_n 1172 dL_law_1171 rfl rfl ?_
  refine a_iload_n 1173 dL_law_1172 rfl rfl ?_
  refine a_iconst (z := 2) 1174 dL_law_1173 rfl (zrl rfl) rfl ?_
  refine a_iadd 1175 dL_law_1174 (by unfold zr; omega) rfl ?_
  refine a_sld 1176 dL_law_1175 (by omega) (by omega) rfl ?_
  refine a_callV 1179 (c11_heap _ _ _ hP) cdX11_heap lL_114 dL_law_1176 rfl hP.2.1.1.1.1 rfl ⟨by decide, by decide, rfl, rfl⟩ ⟨by show kn.1 ≤ 600000; omega, by show kn.2 ≤ 7302250; omega⟩ (Nat.le_of_ble_eq_true rfl) rfl ?_
  rintro r1 g1 - h1 -
  obtain ⟨⟨z1, rfl⟩, hm1, hj⟩ := J_heap hP h1
  clear h1
  refine a_aload_n 1180 dL_law_1179 rfl rfl ?_
  refine a_aload_n 1181 dL_law_1180 rfl rfl ?_
  refine a_iload_n 1182 dL_law_1181 rfl rfl ?_
  refine a_iconst (z := 1) 1183 dL_law_1182 rfl (zrl rfl) rfl ?_
  refine a_iadd 1184 dL_law_1183 (by unfold zr; omega) rfl ?_
  refine a_sld 1185 dL_law_1184 (by omega) (by omega) rfl ?_
  refine a_aload_n 1186 dL_law_1185 rfl rfl ?_
  refine a_iload_n 1187 dL_law_1186 rfl rfl ?_
  refine a_iconst (z := 2) 1188 dL_law_1187 rfl (zrl rfl) rfl ?_
  refine a_iadd 1189 dL_law_1188 (by unfold zr; omega) rfl ?_
  refine a_sld 1190 dL_law_1189 (by omega) (by omega) rfl ?_
  refine a_callV 1193 (r_heap _ _ _ hm1.1 hm1.2) cdX12_heap lL_117 dL_law_1190 rfl hm1.1.1 rfl ⟨by decide, by decide, rfl, rfl⟩ ⟨by show kn.1 ≤ 600000; omega, by show kn.2 ≤ 7302250; omega⟩ (Nat.le_of_ble_eq_true rfl) rfl ?_
  rintro r2 g2 - h2 -
  obtain ⟨rfl, hP2⟩ := hj _ _ h2
  refine a_icmp_eq 1301 1196 dL_law_1193 (by decide) rfl (fun c1193 => ?_) (fun c1193 => ?_)
  · exact kk _ _ hP2 ⟨by (try dsimp only); omega, by (try dsimp only); omega⟩
  · exact absurd rfl c1193
set_option maxHeartbeats 1000000 in
set_option maxRecDepth 100000 in
theorem law_many {L n : Nat} {xs : Nat → Int32} {kn : Nat × Nat} {g : GH} (hP : CPL g) (hL4 : L ≤ 4608) (hn : 9 * n + 9 ≤ L) (hk : kn.1 + 5 ≤ 600000 ∧ kn.2 + 43 ≤ 7302250) (kk : ∀ (kn' : Nat × Nat) g', CPL g' → kn'.1 ≤ kn.1 + 5 ∧ kn'.2 ≤ kn.2 + 43 → AW mL_law (Tl L xs) kn' g' 1301 [vA 1000300, vA 1, vA 1000, vI (9 * (n : Int))] []) : AW mL_law (Tl L xs) kn g 1198 [vA 1000300, vA 1, vA 1000, vI (9 * (n : Int))] [] := by
  refine a_aload_n 1199 dL_law_1198 rfl rfl ?_
  refine a_aload_n 1200 dL_law_1199 rfl rfl ?_
  refine a_iload_n 1201 dL_law_1200 rfl rfl ?_
  refine a_iconst (z := 1) 1202 dL_law_1201 rfl (zrl rfl) rfl ?_
  refine a_iadd 1203 dL_law_1202 (by unfold zr; omega) rfl ?_
  refine a_sld 1204 dL_law_1203 (by omega) (by omega) rfl ?_
  refine a_aload_n 1205 dL_law_1204 rfl rfl ?_
  refine a_iload_n 1206 dL_law_1205 rfl rfl ?_
  refine a_iconst (z := 2) 1207 dL_law_1206 rfl (zrl rfl) rfl ?_
  refine a_iadd 1208 dL_law_1207 (by unfold zr; omega) rfl ?_
  refine a_sld 1209 dL_law_1208 (by omega) (by omega) rfl ?_
  refine a_callV 1212 (c11_many _ _ _ hP) cdX11_many lL_118 dL_law_1209 rfl hP.2.1.1.1.1 rfl ⟨by decide, by decide, rfl, rfl⟩ ⟨by show kn.1 ≤ 600000; omega, by show kn.2 ≤ 7302250; omega⟩ (Nat.le_of_ble_eq_true rfl) rfl ?_
  rintro r1 g1 - h1 -
  obtain ⟨⟨z1, rfl⟩, hm1, hj⟩ := J_many hP h1
  clear h1
  refine a_aload_n 1213 dL_law_1212 rfl rfl ?_
  refine a_aload_n 1214 dL_law_1213 rfl rfl ?_
  refine a_iload_n 1215 dL_law_1214 rfl rfl ?_
  refine a_iconst (z := 1) 1216 dL_law_1215 rfl (zrl rfl) rfl ?_
  refine a_iadd 1217 dL_law_1216 (by unfold zr; omega) rfl ?_
  refine a_sld 1218 dL_law_1217 (by omega) (by omega) rfl ?_
  refine a_aload_n 1219 dL_law_1218 rfl rfl ?_
  refine a_iload_n 1220 dL_law_1219 rfl rfl ?_
  refine a_iconst (z := 2) 1221 dL_law_1220 rfl (zrl rfl) rfl ?_
  refine a_iadd 1222 dL_law_1221 (by unfold zr; omega) rfl ?_
  refine a_sld 1223 dL_law_1222 (by omega) (by omega) rfl ?_
  refine a_callV 1226 (r_many _ _ _ hm1.1 hm1.2) cdX12_many lL_121 dL_law_1223 rfl hm1.1.1 rfl ⟨by decide, by decide, rfl, rfl⟩ ⟨by show kn.1 ≤ 600000; omega, by show kn.2 ≤ 7302250; omega⟩ (Nat.le_of_ble_eq_true rfl) rfl ?_
  rintro r2 g2 - h2 -
  obtain ⟨rfl, hP2⟩ := hj _ _ h2
  refine a_icmp_eq 1301 1229 dL_law_1226 (by decide) rfl (fun c1226 => ?_) (fun c1226 => ?_)
  · exact kk _ _ hP2 ⟨by (try dsimp only); omega, by (try dsimp only); omega⟩
  · exact absurd rfl c1226
set_option maxHeartbeats 1000000 in
set_option maxRecDepth 100000 in
theorem law_look {L n : Nat} {xs : Nat → Int32} {kn : Nat × Nat} {g : GH} (hP : CPL g) (hL4 : L ≤ 4608) (hn : 9 * n + 9 ≤ L) (hk : kn.1 + 5 ≤ 600000 ∧ kn.2 + 43 ≤ 7302250) (kk : ∀ (kn' : Nat × Nat) g', CPL g' → kn'.1 ≤ kn.1 + 5 ∧ kn'.2 ≤ kn.2 + 43 → AW mL_law (Tl L xs) kn' g' 1301 [vA 1000300, vA 1, vA 1000, vI (9 * (n : Int))] []) : AW mL_law (Tl L xs) kn g 1231 [vA 1000300, vA 1, vA 1000, vI (9 * (n : Int))] [] := by
  refine a_aload_n 1232 dL_law_1231 rfl rfl ?_
  refine a_aload_n 1233 dL_law_1232 rfl rfl ?_
  refine a_iload_n 1234 dL_law_1233 rfl rfl ?_
  refine a_iconst (z := 1) 1235 dL_law_1234 rfl (zrl rfl) rfl ?_
  refine a_iadd 1236 dL_law_1235 (by unfold zr; omega) rfl ?_
  refine a_sld 1237 dL_law_1236 (by omega) (by omega) rfl ?_
  refine a_aload_n 1238 dL_law_1237 rfl rfl ?_
  refine a_iload_n 1239 dL_law_1238 rfl rfl ?_
  refine a_iconst (z := 2) 1240 dL_law_1239 rfl (zrl rfl) rfl ?_
  refine a_iadd 1241 dL_law_1240 (by unfold zr; omega) rfl ?_
  refine a_sld 1242 dL_law_1241 (by omega) (by omega) rfl ?_
  refine a_callV 1245 (c11_look _ _ _ hP) cdX11_look lL_122 dL_law_1242 rfl hP.2.1.1.1.1 rfl ⟨by decide, by decide, rfl, rfl⟩ ⟨by show kn.1 ≤ 600000; omega, by show kn.2 ≤ 7302250; omega⟩ (Nat.le_of_ble_eq_true rfl) rfl ?_
  rintro r1 g1 - h1 -
  obtain ⟨⟨z1, rfl⟩, hm1, hj⟩ := J_look hP h1
  clear h1
  refine a_aload_n 1246 dL_law_1245 rfl rfl ?_
  refine a_aload_n 1247 dL_law_1246 rfl rfl ?_
  refine a_iload_n 1248 dL_law_1247 rfl rfl ?_
  refine a_iconst (z := 1) 1249 dL_law_1248 rfl (zrl rfl) rfl ?_
  refine a_iadd 1250 dL_law_1249 (by unfold zr; omega) rfl ?_
  refine a_sld 1251 dL_law_1250 (by omega) (by omega) rfl ?_
  refine a_aload_n 1252 dL_law_1251 rfl rfl ?_
  refine a_iload_n 1253 dL_law_1252 rfl rfl ?_
  refine a_iconst (z := 2) 1254 dL_law_1253 rfl (zrl rfl) rfl ?_
  refine a_iadd 1255 dL_law_1254 (by unfold zr; omega) rfl ?_
  refine a_sld 1256 dL_law_1255 (by omega) (by omega) rfl ?_
  refine a_callV 1259 (r_look _ _ _ hm1.1 hm1.2) cdX12_look lL_125 dL_law_1256 rfl hm1.1.1 rfl ⟨by decide, by decide, rfl, rfl⟩ ⟨by show kn.1 ≤ 600000; omega, by show kn.2 ≤ 7302250; omega⟩ (Nat.le_of_ble_eq_true rfl) rfl ?_
  rintro r2 g2 - h2 -
  obtain ⟨rfl, hP2⟩ := hj _ _ h2
  refine a_icmp_eq 1301 1262 dL_law_1259 (by decide) rfl (fun c1259 => ?_) (fun c1259 => ?_)
  · exact kk _ _ hP2 ⟨by (try dsimp only); omega, by (try dsimp only); omega⟩
  · exact absurd rfl c1259
set_option maxHeartbeats 1000000 in
set_option maxRecDepth 100000 in
theorem law_count {L n : Nat} {xs : Nat → Int32} {kn : Nat × Nat} {g : GH} (hP : CPL g) (hL4 : L ≤ 4608) (hn : 9 * n + 9 ≤ L) (hk : kn.1 + 5 ≤ 600000 ∧ kn.2 + 43 ≤ 7302250) (kk : ∀ (kn' : Nat × Nat) g', CPL g' → kn'.1 ≤ kn.1 + 5 ∧ kn'.2 ≤ kn.2 + 43 → AW mL_law (Tl L xs) kn' g' 1301 [vA 1000300, vA 1, vA 1000, vI (9 * (n : Int))] []) : AW mL_law (Tl L xs) kn g 1264 [vA 1000300, vA 1, vA 1000, vI (9 * (n : Int))] [] := by
  refine a_aload_n 1265 dL_law_1264 rfl rfl ?_
  refine a_aload_n 1266 dL_law_1265 rfl rfl ?_
  refine a_iload_n 1267 dL_law_1266 rfl rfl ?_
  refine a_iconst (z := 1) 1268 dL_law_1267 rfl (zrl rfl) rfl ?_
  refine a_iadd 1269 dL_law_1268 (by unfold zr; omega) rfl ?_
  refine a_sld 1270 dL_law_1269 (by omega) (by omega) rfl ?_
  refine a_callV 1273 (c11_count _ _ hP) cdX11_count lL_126 dL_law_1270 rfl hP.2.1.1.1.1 rfl ⟨by decide, by decide, rfl, rfl⟩ ⟨by show kn.1 ≤ 600000; omega, by show kn.2 ≤ 7302250; omega⟩ (Nat.le_of_ble_eq_true rfl) rfl ?_
  rintro r1 g1 - h1 -
  obtain ⟨⟨z1, rfl⟩, hm1, hj⟩ := J_count hP h1
  clear h1
  refine a_aload_n 1274 dL_law_1273 rfl rfl ?_
  refine a_aload_n 1275 dL_law_1274 rfl rfl ?_
  refine a_iload_n 1276 dL_law_1275 rfl rfl ?_
  refine a_iconst (z := 1) 1277 dL_law_1276 rfl (zrl rfl) rfl ?_
  refine a_iadd 1278 dL_law_1277 (by unfold zr; omega) rfl ?_
  refine a_sld 1279 dL_law_1278 (by omega) (by omega) rfl ?_
  refine a_callV 1282 (r_count _ _ hm1.1 hm1.2) cdX12_count lL_130 dL_law_1279 rfl hm1.1.1 rfl ⟨by decide, by decide, rfl, rfl⟩ ⟨by show kn.1 ≤ 600000; omega, by show kn.2 ≤ 7302250; omega⟩ (Nat.le_of_ble_eq_true rfl) rfl ?_
  rintro r2 g2 - h2 -
  obtain ⟨rfl, hP2⟩ := hj _ _ h2
  refine a_icmp_eq 1301 1285 dL_law_1282 (by decide) rfl (fun c1282 => ?_) (fun c1282 => ?_)
  · exact kk _ _ hP2 ⟨by (try dsimp only); omega, by (try dsimp only); omega⟩
  · exact absurd rfl c1282
set_option maxHeartbeats 1000000 in
set_option maxRecDepth 100000 in
theorem law_trace {L n : Nat} {xs : Nat → Int32} {kn : Nat × Nat} {g : GH} (hP : CPL g) (hL4 : L ≤ 4608) (hn : 9 * n + 9 ≤ L) (hk : kn.1 + 5 ≤ 600000 ∧ kn.2 + 43 ≤ 7302250) (kk : ∀ (kn' : Nat × Nat) g', CPL g' → kn'.1 ≤ kn.1 + 5 ∧ kn'.2 ≤ kn.2 + 43 → AW mL_law (Tl L xs) kn' g' 1301 [vA 1000300, vA 1, vA 1000, vI (9 * (n : Int))] []) : AW mL_law (Tl L xs) kn g 1287 [vA 1000300, vA 1, vA 1000, vI (9 * (n : Int))] [] := by
  refine a_aload_n 1288 dL_law_1287 rfl rfl ?_
  refine a_callV 1291 (c11_trace _ hP) cdX11_trace lL_131 dL_law_1288 rfl hP.2.1.1.1.1 rfl ⟨by decide, by decide, rfl, rfl⟩ ⟨by show kn.1 ≤ 600000; omega, by show kn.2 ≤ 7302250; omega⟩ (Nat.le_of_ble_eq_true rfl) rfl ?_
  rintro r1 g1 - h1 -
  obtain ⟨⟨z1, rfl⟩, hm1, hj⟩ := J_trace hP h1
  clear h1
  refine a_aload_n 1292 dL_law_1291 rfl rfl ?_
  refine a_callV 1295 (r_trace _ hm1.1 hm1.2) cdX12_trace lL_135 dL_law_1292 rfl hm1.1.1 rfl ⟨by decide, by decide, rfl, rfl⟩ ⟨by show kn.1 ≤ 600000; omega, by show kn.2 ≤ 7302250; omega⟩ (Nat.le_of_ble_eq_true rfl) rfl ?_
  rintro r2 g2 - h2 -
  obtain ⟨rfl, hP2⟩ := hj _ _ h2
  refine a_lcmp 1296 dL_law_1295 rfl ?_
  refine a_if_eq 1301 1299 dL_law_1296 (by decide) rfl (fun c1296 => ?_) (fun c1296 => ?_)
  · exact kk _ _ hP2 ⟨by (try dsimp only); omega, by (try dsimp only); omega⟩
  · exact absurd (lc_self _) c1296
