/-! the law, case by case -/
theorem lc_0 {L : Nat} {xs : Nat → Int32} (e : Nat) {bc bs : Nat} {τ : TT} {h : HT} {Z : ZT} (hL : L ≤ 384) (i : Nat) (hi : i + 6 ≤ L) (s : SIM τ h) (K : ∀ (τ1 : TT) (h1 : HT), SIM τ1 h1 → L_ (gb_X L xs) mL_law (e + 20 + 1) bc bs 1287 [some (.inr (some 1000002)), some (.inr (some 0)), some (.inr (some 81)), some (.inl (i : Int))] [] τ1 h1 Z) : L_ (gb_X L xs) mL_law (e + 20 + 1) (2 + bc) (302 + bs) 196 [some (.inr (some 1000002)), some (.inr (some 0)), some (.inr (some 81)), some (.inl (i : Int))] [] τ h Z := by
  refine L_wk (bc := 1 + bc) (bs := 4 + bs) (by omega) (by omega) ?_
  refine L_aload_n (i := 1) dL_law_196 rfl rfl ?_
  refine L_aload_n (i := 0) dL_law_197 rfl rfl ?_
  refine L_iload_n (i := 3) dL_law_198 rfl rfl ?_
  refine L_iconst dL_law_199 ?_
  refine L_iadd dL_law_200 ?_
  refine L_ialdS (k := i + 1) dL_law_201 hL (by omega) (by omega) ?_
  refine L_aload_n (i := 0) dL_law_202 rfl rfl ?_
  refine L_iload_n (i := 3) dL_law_203 rfl rfl ?_
  refine L_iconst dL_law_204 ?_
  refine L_iadd dL_law_205 ?_
  refine L_ialdS (k := i + 2) dL_law_206 hL (by omega) (by omega) ?_
  refine L_aload_n (i := 0) dL_law_207 rfl rfl ?_
  refine L_iload_n (i := 3) dL_law_208 rfl rfl ?_
  refine L_iconst dL_law_209 ?_
  refine L_iadd dL_law_210 ?_
  refine L_ialdS (k := i + 3) dL_law_211 hL (by omega) (by omega) ?_
  refine L_callV (as := [.inl (xs (i + 1)).toInt, .inl (xs (i + 2)).toInt, .inl (xs (i + 3)).toInt]) qL_13 (op_person s (xs (i + 1)).toInt (xs (i + 2)).toInt (xs (i + 3)).toInt (i32r _) (i32r _) (i32r _) e) rfl rfl (Nat.le_of_ble_eq_true rfl) (o0 s.1) dL_law_212 (fun r_ τ1 h1 z => ?_)
  obtain ⟨v, rfl, hT1, z⟩ := z
  show L_ (gb_X L xs) mL_law (e + 20 + 1) bc bs 215 [some (.inr (some 1000002)), some (.inr (some 0)), some (.inr (some 81)), some (.inl (i : Int))] [.inl v] τ1 h1 Z
  refine L_aload_n (i := 2) dL_law_215 rfl rfl ?_
  refine L_aload_n (i := 0) dL_law_216 rfl rfl ?_
  refine L_iload_n (i := 3) dL_law_217 rfl rfl ?_
  refine L_iconst dL_law_218 ?_
  refine L_iadd dL_law_219 ?_
  refine L_ialdS (k := i + 1) dL_law_220 hL (by omega) (by omega) ?_
  refine L_aload_n (i := 0) dL_law_221 rfl rfl ?_
  refine L_iload_n (i := 3) dL_law_222 rfl rfl ?_
  refine L_iconst dL_law_223 ?_
  refine L_iadd dL_law_224 ?_
  refine L_ialdS (k := i + 2) dL_law_225 hL (by omega) (by omega) ?_
  refine L_aload_n (i := 0) dL_law_226 rfl rfl ?_
  refine L_iload_n (i := 3) dL_law_227 rfl rfl ?_
  refine L_iconst dL_law_228 ?_
  refine L_iadd dL_law_229 ?_
  refine L_ialdS (k := i + 3) dL_law_230 hL (by omega) (by omega) ?_
  refine L_wk (bc := 0 + bc) (bs := 0 + bs) (by omega) (by omega) ?_
  refine L_callV (as := [.inl (xs (i + 1)).toInt, .inl (xs (i + 2)).toInt, .inl (xs (i + 3)).toInt]) qL_17 (z e) rfl rfl (Nat.le_of_ble_eq_true rfl) (o81 hT1) dL_law_231 (fun r_ τ2 h2 z2 => ?_)
  obtain ⟨rfl, s2⟩ := z2
  show L_ (gb_X L xs) mL_law (e + 20 + 1) bc bs 234 [some (.inr (some 1000002)), some (.inr (some 0)), some (.inr (some 81)), some (.inl (i : Int))] [.inl v, .inl v] τ2 h2 Z
  exact L_same (tgt := 1287) dL_law_234 (by decide) (K τ2 h2 s2)
theorem lc_1 {L : Nat} {xs : Nat → Int32} (e : Nat) {bc bs : Nat} {τ : TT} {h : HT} {Z : ZT} (hL : L ≤ 384) (i : Nat) (hi : i + 6 ≤ L) (s : SIM τ h) (K : ∀ (τ1 : TT) (h1 : HT), SIM τ1 h1 → L_ (gb_X L xs) mL_law (e + 20 + 1) bc bs 1287 [some (.inr (some 1000002)), some (.inr (some 0)), some (.inr (some 81)), some (.inl (i : Int))] [] τ1 h1 Z) : L_ (gb_X L xs) mL_law (e + 20 + 1) (2 + bc) (302 + bs) 239 [some (.inr (some 1000002)), some (.inr (some 0)), some (.inr (some 81)), some (.inl (i : Int))] [] τ h Z := by
  refine L_wk (bc := 0 + bc) (bs := 0 + bs) (by omega) (by omega) ?_
  refine L_aload_n (i := 1) dL_law_239 rfl rfl ?_
  refine L_aload_n (i := 0) dL_law_240 rfl rfl ?_
  refine L_iload_n (i := 3) dL_law_241 rfl rfl ?_
  refine L_iconst dL_law_242 ?_
  refine L_iadd dL_law_243 ?_
  refine L_ialdS (k := i + 1) dL_law_244 hL (by omega) (by omega) ?_
  refine L_callV (as := [.inl (xs (i + 1)).toInt]) qL_18 (op_ring s (xs (i + 1)).toInt (i32r _) e) rfl rfl (Nat.le_of_ble_eq_true rfl) (o0 s.1) dL_law_245 (fun r_ τ1 h1 z => ?_)
  obtain ⟨v, rfl, hT1, z⟩ := z
  show L_ (gb_X L xs) mL_law (e + 20 + 1) bc bs 248 [some (.inr (some 1000002)), some (.inr (some 0)), some (.inr (some 81)), some (.inl (i : Int))] [.inl v] τ1 h1 Z
  refine L_aload_n (i := 2) dL_law_248 rfl rfl ?_
  refine L_aload_n (i := 0) dL_law_249 rfl rfl ?_
  refine L_iload_n (i := 3) dL_law_250 rfl rfl ?_
  refine L_iconst dL_law_251 ?_
  refine L_iadd dL_law_252 ?_
  refine L_ialdS (k := i + 1) dL_law_253 hL (by omega) (by omega) ?_
  refine L_wk (bc := 0 + bc) (bs := 0 + bs) (by omega) (by omega) ?_
  refine L_callV (as := [.inl (xs (i + 1)).toInt]) qL_22 (z e) rfl rfl (Nat.le_of_ble_eq_true rfl) (o81 hT1) dL_law_254 (fun r_ τ2 h2 z2 => ?_)
  obtain ⟨rfl, s2⟩ := z2
  show L_ (gb_X L xs) mL_law (e + 20 + 1) bc bs 257 [some (.inr (some 1000002)), some (.inr (some 0)), some (.inr (some 81)), some (.inl (i : Int))] [.inl v, .inl v] τ2 h2 Z
  exact L_same (tgt := 1287) dL_law_257 (by decide) (K τ2 h2 s2)
theorem lc_2 {L : Nat} {xs : Nat → Int32} (e : Nat) {bc bs : Nat} {τ : TT} {h : HT} {Z : ZT} (hL : L ≤ 384) (i : Nat) (hi : i + 6 ≤ L) (s : SIM τ h) (K : ∀ (τ1 : TT) (h1 : HT), SIM τ1 h1 → L_ (gb_X L xs) mL_law (e + 20 + 1) bc bs 1287 [some (.inr (some 1000002)), some (.inr (some 0)), some (.inr (some 81)), some (.inl (i : Int))] [] τ1 h1 Z) : L_ (gb_X L xs) mL_law (e + 20 + 1) (2 + bc) (302 + bs) 262 [some (.inr (some 1000002)), some (.inr (some 0)), some (.inr (some 81)), some (.inl (i : Int))] [] τ h Z := by
  refine L_wk (bc := 0 + bc) (bs := 0 + bs) (by omega) (by omega) ?_
  refine L_aload_n (i := 1) dL_law_262 rfl rfl ?_
  refine L_aload_n (i := 0) dL_law_263 rfl rfl ?_
  refine L_iload_n (i := 3) dL_law_264 rfl rfl ?_
  refine L_iconst dL_law_265 ?_
  refine L_iadd dL_law_266 ?_
  refine L_ialdS (k := i + 1) dL_law_267 hL (by omega) (by omega) ?_
  refine L_aload_n (i := 0) dL_law_268 rfl rfl ?_
  refine L_iload_n (i := 3) dL_law_269 rfl rfl ?_
  refine L_iconst dL_law_270 ?_
  refine L_iadd dL_law_271 ?_
  refine L_ialdS (k := i + 2) dL_law_272 hL (by omega) (by omega) ?_
  refine L_callV (as := [.inl (xs (i + 1)).toInt, .inl (xs (i + 2)).toInt]) qL_23 (op_stand s (xs (i + 1)).toInt (xs (i + 2)).toInt (i32r _) (i32r _) e) rfl rfl (Nat.le_of_ble_eq_true rfl) (o0 s.1) dL_law_273 (fun r_ τ1 h1 z => ?_)
  obtain ⟨v, rfl, hT1, z⟩ := z
  show L_ (gb_X L xs) mL_law (e + 20 + 1) bc bs 276 [some (.inr (some 1000002)), some (.inr (some 0)), some (.inr (some 81)), some (.inl (i : Int))] [.inl v] τ1 h1 Z
  refine L_aload_n (i := 2) dL_law_276 rfl rfl ?_
  refine L_aload_n (i := 0) dL_law_277 rfl rfl ?_
  refine L_iload_n (i := 3) dL_law_278 rfl rfl ?_
  refine L_iconst dL_law_279 ?_
  refine L_iadd dL_law_280 ?_
  refine L_ialdS (k := i + 1) dL_law_281 hL (by omega) (by omega) ?_
  refine L_aload_n (i := 0) dL_law_282 rfl rfl ?_
  refine L_iload_n (i := 3) dL_law_283 rfl rfl ?_
  refine L_iconst dL_law_284 ?_
  refine L_iadd dL_law_285 ?_
  refine L_ialdS (k := i + 2) dL_law_286 hL (by omega) (by omega) ?_
  refine L_wk (bc := 0 + bc) (bs := 0 + bs) (by omega) (by omega) ?_
  refine L_callV (as := [.inl (xs (i + 1)).toInt, .inl (xs (i + 2)).toInt]) qL_27 (z e) rfl rfl (Nat.le_of_ble_eq_true rfl) (o81 hT1) dL_law_287 (fun r_ τ2 h2 z2 => ?_)
  obtain ⟨rfl, s2⟩ := z2
  show L_ (gb_X L xs) mL_law (e + 20 + 1) bc bs 290 [some (.inr (some 1000002)), some (.inr (some 0)), some (.inr (some 81)), some (.inl (i : Int))] [.inl v, .inl v] τ2 h2 Z
  exact L_same (tgt := 1287) dL_law_290 (by decide) (K τ2 h2 s2)
theorem lc_3 {L : Nat} {xs : Nat → Int32} (e : Nat) {bc bs : Nat} {τ : TT} {h : HT} {Z : ZT} (hL : L ≤ 384) (i : Nat) (hi : i + 6 ≤ L) (s : SIM τ h) (K : ∀ (τ1 : TT) (h1 : HT), SIM τ1 h1 → L_ (gb_X L xs) mL_law (e + 20 + 1) bc bs 1287 [some (.inr (some 1000002)), some (.inr (some 0)), some (.inr (some 81)), some (.inl (i : Int))] [] τ1 h1 Z) : L_ (gb_X L xs) mL_law (e + 20 + 1) (2 + bc) (302 + bs) 295 [some (.inr (some 1000002)), some (.inr (some 0)), some (.inr (some 81)), some (.inl (i : Int))] [] τ h Z := by
  refine L_wk (bc := 0 + bc) (bs := 0 + bs) (by omega) (by omega) ?_
  refine L_aload_n (i := 1) dL_law_295 rfl rfl ?_
  refine L_aload_n (i := 0) dL_law_296 rfl rfl ?_
  refine L_iload_n (i := 3) dL_law_297 rfl rfl ?_
  refine L_iconst dL_law_298 ?_
  refine L_iadd dL_law_299 ?_
  refine L_ialdS (k := i + 1) dL_law_300 hL (by omega) (by omega) ?_
  refine L_aload_n (i := 0) dL_law_301 rfl rfl ?_
  refine L_iload_n (i := 3) dL_law_302 rfl rfl ?_
  refine L_iconst dL_law_303 ?_
  refine L_iadd dL_law_304 ?_
  refine L_ialdS (k := i + 2) dL_law_305 hL (by omega) (by omega) ?_
  refine L_aload_n (i := 0) dL_law_306 rfl rfl ?_
  refine L_iload_n (i := 3) dL_law_307 rfl rfl ?_
  refine L_iconst dL_law_308 ?_
  refine L_iadd dL_law_309 ?_
  refine L_ialdS (k := i + 3) dL_law_310 hL (by omega) (by omega) ?_
  refine L_callV (as := [.inl (xs (i + 1)).toInt, .inl (xs (i + 2)).toInt, .inl (xs (i + 3)).toInt]) qL_28 (op_ribbon s (xs (i + 1)).toInt (xs (i + 2)).toInt (xs (i + 3)).toInt (i32r _) (i32r _) (i32r _) e) rfl rfl (Nat.le_of_ble_eq_true rfl) (o0 s.1) dL_law_311 (fun r_ τ1 h1 z => ?_)
  obtain ⟨v, rfl, hT1, z⟩ := z
  show L_ (gb_X L xs) mL_law (e + 20 + 1) bc bs 314 [some (.inr (some 1000002)), some (.inr (some 0)), some (.inr (some 81)), some (.inl (i : Int))] [.inl v] τ1 h1 Z
  refine L_aload_n (i := 2) dL_law_314 rfl rfl ?_
  refine L_aload_n (i := 0) dL_law_315 rfl rfl ?_
  refine L_iload_n (i := 3) dL_law_316 rfl rfl ?_
  refine L_iconst dL_law_317 ?_
  refine L_iadd dL_law_318 ?_
  refine L_ialdS (k := i + 1) dL_law_319 hL (by omega) (by omega) ?_
  refine L_aload_n (i := 0) dL_law_320 rfl rfl ?_
  refine L_iload_n (i := 3) dL_law_321 rfl rfl ?_
  refine L_iconst dL_law_322 ?_
  refine L_iadd dL_law_323 ?_
  refine L_ialdS (k := i + 2) dL_law_324 hL (by omega) (by omega) ?_
  refine L_aload_n (i := 0) dL_law_325 rfl rfl ?_
  refine L_iload_n (i := 3) dL_law_326 rfl rfl ?_
  refine L_iconst dL_law_327 ?_
  refine L_iadd dL_law_328 ?_
  refine L_ialdS (k := i + 3) dL_law_329 hL (by omega) (by omega) ?_
  refine L_wk (bc := 0 + bc) (bs := 0 + bs) (by omega) (by omega) ?_
  refine L_callV (as := [.inl (xs (i + 1)).toInt, .inl (xs (i + 2)).toInt, .inl (xs (i + 3)).toInt]) qL_31 (z e) rfl rfl (Nat.le_of_ble_eq_true rfl) (o81 hT1) dL_law_330 (fun r_ τ2 h2 z2 => ?_)
  obtain ⟨rfl, s2⟩ := z2
  show L_ (gb_X L xs) mL_law (e + 20 + 1) bc bs 333 [some (.inr (some 1000002)), some (.inr (some 0)), some (.inr (some 81)), some (.inl (i : Int))] [.inl v, .inl v] τ2 h2 Z
  exact L_same (tgt := 1287) dL_law_333 (by decide) (K τ2 h2 s2)
theorem lc_4 {L : Nat} {xs : Nat → Int32} (e : Nat) {bc bs : Nat} {τ : TT} {h : HT} {Z : ZT} (hL : L ≤ 384) (i : Nat) (hi : i + 6 ≤ L) (s : SIM τ h) (K : ∀ (τ1 : TT) (h1 : HT), SIM τ1 h1 → L_ (gb_X L xs) mL_law (e + 20 + 1) bc bs 1287 [some (.inr (some 1000002)), some (.inr (some 0)), some (.inr (some 81)), some (.inl (i : Int))] [] τ1 h1 Z) : L_ (gb_X L xs) mL_law (e + 20 + 1) (2 + bc) (302 + bs) 338 [some (.inr (some 1000002)), some (.inr (some 0)), some (.inr (some 81)), some (.inl (i : Int))] [] τ h Z := by
  refine L_wk (bc := 0 + bc) (bs := 0 + bs) (by omega) (by omega) ?_
  refine L_aload_n (i := 1) dL_law_338 rfl rfl ?_
  refine L_aload_n (i := 0) dL_law_339 rfl rfl ?_
  refine L_iload_n (i := 3) dL_law_340 rfl rfl ?_
  refine L_iconst dL_law_341 ?_
  refine L_iadd dL_law_342 ?_
  refine L_ialdS (k := i + 1) dL_law_343 hL (by omega) (by omega) ?_
  refine L_aload_n (i := 0) dL_law_344 rfl rfl ?_
  refine L_iload_n (i := 3) dL_law_345 rfl rfl ?_
  refine L_iconst dL_law_346 ?_
  refine L_iadd dL_law_347 ?_
  refine L_ialdS (k := i + 2) dL_law_348 hL (by omega) (by omega) ?_
  refine L_callV (as := [.inl (xs (i + 1)).toInt, .inl (xs (i + 2)).toInt]) qL_32 (op_at s (xs (i + 1)).toInt (xs (i + 2)).toInt (i32r _) (i32r _) e) rfl rfl (Nat.le_of_ble_eq_true rfl) (o0 s.1) dL_law_349 (fun r_ τ1 h1 z => ?_)
  obtain ⟨v, rfl, hT1, z⟩ := z
  show L_ (gb_X L xs) mL_law (e + 20 + 1) bc bs 352 [some (.inr (some 1000002)), some (.inr (some 0)), some (.inr (some 81)), some (.inl (i : Int))] [.inl v] τ1 h1 Z
  refine L_aload_n (i := 2) dL_law_352 rfl rfl ?_
  refine L_aload_n (i := 0) dL_law_353 rfl rfl ?_
  refine L_iload_n (i := 3) dL_law_354 rfl rfl ?_
  refine L_iconst dL_law_355 ?_
  refine L_iadd dL_law_356 ?_
  refine L_ialdS (k := i + 1) dL_law_357 hL (by omega) (by omega) ?_
  refine L_aload_n (i := 0) dL_law_358 rfl rfl ?_
  refine L_iload_n (i := 3) dL_law_359 rfl rfl ?_
  refine L_iconst dL_law_360 ?_
  refine L_iadd dL_law_361 ?_
  refine L_ialdS (k := i + 2) dL_law_362 hL (by omega) (by omega) ?_
  refine L_wk (bc := 0 + bc) (bs := 0 + bs) (by omega) (by omega) ?_
  refine L_callV (as := [.inl (xs (i + 1)).toInt, .inl (xs (i + 2)).toInt]) qL_35 (z e) rfl rfl (Nat.le_of_ble_eq_true rfl) (o81 hT1) dL_law_363 (fun r_ τ2 h2 z2 => ?_)
  obtain ⟨rfl, s2⟩ := z2
  show L_ (gb_X L xs) mL_law (e + 20 + 1) bc bs 366 [some (.inr (some 1000002)), some (.inr (some 0)), some (.inr (some 81)), some (.inl (i : Int))] [.inl v, .inl v] τ2 h2 Z
  exact L_same (tgt := 1287) dL_law_366 (by decide) (K τ2 h2 s2)
theorem lc_5 {L : Nat} {xs : Nat → Int32} (e : Nat) {bc bs : Nat} {τ : TT} {h : HT} {Z : ZT} (hL : L ≤ 384) (i : Nat) (hi : i + 6 ≤ L) (s : SIM τ h) (K : ∀ (τ1 : TT) (h1 : HT), SIM τ1 h1 → L_ (gb_X L xs) mL_law (e + 20 + 1) bc bs 1287 [some (.inr (some 1000002)), some (.inr (some 0)), some (.inr (some 81)), some (.inl (i : Int))] [] τ1 h1 Z) : L_ (gb_X L xs) mL_law (e + 20 + 1) (2 + bc) (302 + bs) 371 [some (.inr (some 1000002)), some (.inr (some 0)), some (.inr (some 81)), some (.inl (i : Int))] [] τ h Z := by
  refine L_wk (bc := 0 + bc) (bs := 0 + bs) (by omega) (by omega) ?_
  refine L_aload_n (i := 1) dL_law_371 rfl rfl ?_
  refine L_callV (as := []) qL_36 (op_begin s  e) rfl rfl (Nat.le_of_ble_eq_true rfl) (o0 s.1) dL_law_372 (fun r_ τ1 h1 z => ?_)
  obtain ⟨v, rfl, hT1, z⟩ := z
  show L_ (gb_X L xs) mL_law (e + 20 + 1) bc bs 375 [some (.inr (some 1000002)), some (.inr (some 0)), some (.inr (some 81)), some (.inl (i : Int))] [.inl v] τ1 h1 Z
  refine L_aload_n (i := 2) dL_law_375 rfl rfl ?_
  refine L_wk (bc := 0 + bc) (bs := 0 + bs) (by omega) (by omega) ?_
  refine L_callV (as := []) qL_40 (z e) rfl rfl (Nat.le_of_ble_eq_true rfl) (o81 hT1) dL_law_376 (fun r_ τ2 h2 z2 => ?_)
  obtain ⟨rfl, s2⟩ := z2
  show L_ (gb_X L xs) mL_law (e + 20 + 1) bc bs 379 [some (.inr (some 1000002)), some (.inr (some 0)), some (.inr (some 81)), some (.inl (i : Int))] [.inl v, .inl v] τ2 h2 Z
  exact L_same (tgt := 1287) dL_law_379 (by decide) (K τ2 h2 s2)
theorem lc_6 {L : Nat} {xs : Nat → Int32} (e : Nat) {bc bs : Nat} {τ : TT} {h : HT} {Z : ZT} (hL : L ≤ 384) (i : Nat) (hi : i + 6 ≤ L) (s : SIM τ h) (K : ∀ (τ1 : TT) (h1 : HT), SIM τ1 h1 → L_ (gb_X L xs) mL_law (e + 20 + 1) bc bs 1287 [some (.inr (some 1000002)), some (.inr (some 0)), some (.inr (some 81)), some (.inl (i : Int))] [] τ1 h1 Z) : L_ (gb_X L xs) mL_law (e + 20 + 1) (2 + bc) (302 + bs) 384 [some (.inr (some 1000002)), some (.inr (some 0)), some (.inr (some 81)), some (.inl (i : Int))] [] τ h Z := by
  refine L_wk (bc := 0 + bc) (bs := 0 + bs) (by omega) (by omega) ?_
  refine L_aload_n (i := 1) dL_law_384 rfl rfl ?_
  refine L_callV (as := []) qL_41 (op_end s  e) rfl rfl (Nat.le_of_ble_eq_true rfl) (o0 s.1) dL_law_385 (fun r_ τ1 h1 z => ?_)
  obtain ⟨v, rfl, hT1, z⟩ := z
  show L_ (gb_X L xs) mL_law (e + 20 + 1) bc bs 388 [some (.inr (some 1000002)), some (.inr (some 0)), some (.inr (some 81)), some (.inl (i : Int))] [.inl v] τ1 h1 Z
  refine L_aload_n (i := 2) dL_law_388 rfl rfl ?_
  refine L_wk (bc := 0 + bc) (bs := 0 + bs) (by omega) (by omega) ?_
  refine L_callV (as := []) qL_44 (z e) rfl rfl (Nat.le_of_ble_eq_true rfl) (o81 hT1) dL_law_389 (fun r_ τ2 h2 z2 => ?_)
  obtain ⟨rfl, s2⟩ := z2
  show L_ (gb_X L xs) mL_law (e + 20 + 1) bc bs 392 [some (.inr (some 1000002)), some (.inr (some 0)), some (.inr (some 81)), some (.inl (i : Int))] [.inl v, .inl v] τ2 h2 Z
  exact L_same (tgt := 1287) dL_law_392 (by decide) (K τ2 h2 s2)
theorem lc_7 {L : Nat} {xs : Nat → Int32} (e : Nat) {bc bs : Nat} {τ : TT} {h : HT} {Z : ZT} (hL : L ≤ 384) (i : Nat) (hi : i + 6 ≤ L) (s : SIM τ h) (K : ∀ (τ1 : TT) (h1 : HT), SIM τ1 h1 → L_ (gb_X L xs) mL_law (e + 20 + 1) bc bs 1287 [some (.inr (some 1000002)), some (.inr (some 0)), some (.inr (some 81)), some (.inl (i : Int))] [] τ1 h1 Z) : L_ (gb_X L xs) mL_law (e + 20 + 1) (2 + bc) (302 + bs) 397 [some (.inr (some 1000002)), some (.inr (some 0)), some (.inr (some 81)), some (.inl (i : Int))] [] τ h Z := by
  refine L_wk (bc := 0 + bc) (bs := 0 + bs) (by omega) (by omega) ?_
  refine L_aload_n (i := 1) dL_law_397 rfl rfl ?_
  refine L_aload_n (i := 0) dL_law_398 rfl rfl ?_
  refine L_iload_n (i := 3) dL_law_399 rfl rfl ?_
  refine L_iconst dL_law_400 ?_
  refine L_iadd dL_law_401 ?_
  refine L_ialdS (k := i + 1) dL_law_402 hL (by omega) (by omega) ?_
  refine L_aload_n (i := 0) dL_law_403 rfl rfl ?_
  refine L_iload_n (i := 3) dL_law_404 rfl rfl ?_
  refine L_iconst dL_law_405 ?_
  refine L_iadd dL_law_406 ?_
  refine L_ialdS (k := i + 2) dL_law_407 hL (by omega) (by omega) ?_
  refine L_callV (as := [.inl (xs (i + 1)).toInt, .inl (xs (i + 2)).toInt]) qL_45 (op_pass s (xs (i + 1)).toInt (xs (i + 2)).toInt (i32r _) (i32r _) e) rfl rfl (Nat.le_of_ble_eq_true rfl) (o0 s.1) dL_law_408 (fun r_ τ1 h1 z => ?_)
  obtain ⟨v, rfl, hT1, z⟩ := z
  show L_ (gb_X L xs) mL_law (e + 20 + 1) bc bs 411 [some (.inr (some 1000002)), some (.inr (some 0)), some (.inr (some 81)), some (.inl (i : Int))] [.inl v] τ1 h1 Z
  refine L_aload_n (i := 2) dL_law_411 rfl rfl ?_
  refine L_aload_n (i := 0) dL_law_412 rfl rfl ?_
  refine L_iload_n (i := 3) dL_law_413 rfl rfl ?_
  refine L_iconst dL_law_414 ?_
  refine L_iadd dL_law_415 ?_
  refine L_ialdS (k := i + 1) dL_law_416 hL (by omega) (by omega) ?_
  refine L_aload_n (i := 0) dL_law_417 rfl rfl ?_
  refine L_iload_n (i := 3) dL_law_418 rfl rfl ?_
  refine L_iconst dL_law_419 ?_
  refine L_iadd dL_law_420 ?_
  refine L_ialdS (k := i + 2) dL_law_421 hL (by omega) (by omega) ?_
  refine L_wk (bc := 0 + bc) (bs := 0 + bs) (by omega) (by omega) ?_
  refine L_callV (as := [.inl (xs (i + 1)).toInt, .inl (xs (i + 2)).toInt]) qL_48 (z e) rfl rfl (Nat.le_of_ble_eq_true rfl) (o81 hT1) dL_law_422 (fun r_ τ2 h2 z2 => ?_)
  obtain ⟨rfl, s2⟩ := z2
  show L_ (gb_X L xs) mL_law (e + 20 + 1) bc bs 425 [some (.inr (some 1000002)), some (.inr (some 0)), some (.inr (some 81)), some (.inl (i : Int))] [.inl v, .inl v] τ2 h2 Z
  exact L_same (tgt := 1287) dL_law_425 (by decide) (K τ2 h2 s2)
theorem lc_8 {L : Nat} {xs : Nat → Int32} (e : Nat) {bc bs : Nat} {τ : TT} {h : HT} {Z : ZT} (hL : L ≤ 384) (i : Nat) (hi : i + 6 ≤ L) (s : SIM τ h) (K : ∀ (τ1 : TT) (h1 : HT), SIM τ1 h1 → L_ (gb_X L xs) mL_law (e + 20 + 1) bc bs 1287 [some (.inr (some 1000002)), some (.inr (some 0)), some (.inr (some 81)), some (.inl (i : Int))] [] τ1 h1 Z) : L_ (gb_X L xs) mL_law (e + 20 + 1) (2 + bc) (302 + bs) 430 [some (.inr (some 1000002)), some (.inr (some 0)), some (.inr (some 81)), some (.inl (i : Int))] [] τ h Z := by
  refine L_wk (bc := 0 + bc) (bs := 0 + bs) (by omega) (by omega) ?_
  refine L_aload_n (i := 1) dL_law_430 rfl rfl ?_
  refine L_aload_n (i := 0) dL_law_431 rfl rfl ?_
  refine L_iload_n (i := 3) dL_law_432 rfl rfl ?_
  refine L_iconst dL_law_433 ?_
  refine L_iadd dL_law_434 ?_
  refine L_ialdS (k := i + 1) dL_law_435 hL (by omega) (by omega) ?_
  refine L_callV (as := [.inl (xs (i + 1)).toInt]) qL_49 (op_walk s (xs (i + 1)).toInt (i32r _) e) rfl rfl (Nat.le_of_ble_eq_true rfl) (o0 s.1) dL_law_436 (fun r_ τ1 h1 z => ?_)
  obtain ⟨v, rfl, hT1, z⟩ := z
  show L_ (gb_X L xs) mL_law (e + 20 + 1) bc bs 439 [some (.inr (some 1000002)), some (.inr (some 0)), some (.inr (some 81)), some (.inl (i : Int))] [.inl v] τ1 h1 Z
  refine L_aload_n (i := 2) dL_law_439 rfl rfl ?_
  refine L_aload_n (i := 0) dL_law_440 rfl rfl ?_
  refine L_iload_n (i := 3) dL_law_441 rfl rfl ?_
  refine L_iconst dL_law_442 ?_
  refine L_iadd dL_law_443 ?_
  refine L_ialdS (k := i + 1) dL_law_444 hL (by omega) (by omega) ?_
  refine L_wk (bc := 0 + bc) (bs := 0 + bs) (by omega) (by omega) ?_
  refine L_callV (as := [.inl (xs (i + 1)).toInt]) qL_52 (z e) rfl rfl (Nat.le_of_ble_eq_true rfl) (o81 hT1) dL_law_445 (fun r_ τ2 h2 z2 => ?_)
  obtain ⟨rfl, s2⟩ := z2
  show L_ (gb_X L xs) mL_law (e + 20 + 1) bc bs 448 [some (.inr (some 1000002)), some (.inr (some 0)), some (.inr (some 81)), some (.inl (i : Int))] [.inl v, .inl v] τ2 h2 Z
  exact L_same (tgt := 1287) dL_law_448 (by decide) (K τ2 h2 s2)
theorem lc_9 {L : Nat} {xs : Nat → Int32} (e : Nat) {bc bs : Nat} {τ : TT} {h : HT} {Z : ZT} (hL : L ≤ 384) (i : Nat) (hi : i + 6 ≤ L) (s : SIM τ h) (K : ∀ (τ1 : TT) (h1 : HT), SIM τ1 h1 → L_ (gb_X L xs) mL_law (e + 20 + 1) bc bs 1287 [some (.inr (some 1000002)), some (.inr (some 0)), some (.inr (some 81)), some (.inl (i : Int))] [] τ1 h1 Z) : L_ (gb_X L xs) mL_law (e + 20 + 1) (2 + bc) (302 + bs) 453 [some (.inr (some 1000002)), some (.inr (some 0)), some (.inr (some 81)), some (.inl (i : Int))] [] τ h Z := by
  refine L_wk (bc := 0 + bc) (bs := 0 + bs) (by omega) (by omega) ?_
  refine L_aload_n (i := 1) dL_law_453 rfl rfl ?_
  refine L_callV (as := []) qL_53 (op_girth s  e) rfl rfl (Nat.le_of_ble_eq_true rfl) (o0 s.1) dL_law_454 (fun r_ τ1 h1 z => ?_)
  obtain ⟨v, rfl, hT1, z⟩ := z
  show L_ (gb_X L xs) mL_law (e + 20 + 1) bc bs 457 [some (.inr (some 1000002)), some (.inr (some 0)), some (.inr (some 81)), some (.inl (i : Int))] [.inl v] τ1 h1 Z
  refine L_aload_n (i := 2) dL_law_457 rfl rfl ?_
  refine L_wk (bc := 0 + bc) (bs := 0 + bs) (by omega) (by omega) ?_
  refine L_callV (as := []) qL_56 (z e) rfl rfl (Nat.le_of_ble_eq_true rfl) (o81 hT1) dL_law_458 (fun r_ τ2 h2 z2 => ?_)
  obtain ⟨rfl, s2⟩ := z2
  show L_ (gb_X L xs) mL_law (e + 20 + 1) bc bs 461 [some (.inr (some 1000002)), some (.inr (some 0)), some (.inr (some 81)), some (.inl (i : Int))] [.inl v, .inl v] τ2 h2 Z
  exact L_same (tgt := 1287) dL_law_461 (by decide) (K τ2 h2 s2)
theorem lc_10 {L : Nat} {xs : Nat → Int32} (e : Nat) {bc bs : Nat} {τ : TT} {h : HT} {Z : ZT} (hL : L ≤ 384) (i : Nat) (hi : i + 6 ≤ L) (s : SIM τ h) (K : ∀ (τ1 : TT) (h1 : HT), SIM τ1 h1 → L_ (gb_X L xs) mL_law (e + 20 + 1) bc bs 1287 [some (.inr (some 1000002)), some (.inr (some 0)), some (.inr (some 81)), some (.inl (i : Int))] [] τ1 h1 Z) : L_ (gb_X L xs) mL_law (e + 20 + 1) (2 + bc) (302 + bs) 466 [some (.inr (some 1000002)), some (.inr (some 0)), some (.inr (some 81)), some (.inl (i : Int))] [] τ h Z := by
  refine L_wk (bc := 0 + bc) (bs := 0 + bs) (by omega) (by omega) ?_
  refine L_aload_n (i := 1) dL_law_466 rfl rfl ?_
  refine L_aload_n (i := 0) dL_law_467 rfl rfl ?_
  refine L_iload_n (i := 3) dL_law_468 rfl rfl ?_
  refine L_iconst dL_law_469 ?_
  refine L_iadd dL_law_470 ?_
  refine L_ialdS (k := i + 1) dL_law_471 hL (by omega) (by omega) ?_
  refine L_callV (as := [.inl (xs (i + 1)).toInt]) qL_57 (op_step s (xs (i + 1)).toInt (i32r _) e) rfl rfl (Nat.le_of_ble_eq_true rfl) (o0 s.1) dL_law_472 (fun r_ τ1 h1 z => ?_)
  obtain ⟨v, rfl, hT1, z⟩ := z
  show L_ (gb_X L xs) mL_law (e + 20 + 1) bc bs 475 [some (.inr (some 1000002)), some (.inr (some 0)), some (.inr (some 81)), some (.inl (i : Int))] [.inl v] τ1 h1 Z
  refine L_aload_n (i := 2) dL_law_475 rfl rfl ?_
  refine L_aload_n (i := 0) dL_law_476 rfl rfl ?_
  refine L_iload_n (i := 3) dL_law_477 rfl rfl ?_
  refine L_iconst dL_law_478 ?_
  refine L_iadd dL_law_479 ?_
  refine L_ialdS (k := i + 1) dL_law_480 hL (by omega) (by omega) ?_
  refine L_wk (bc := 0 + bc) (bs := 0 + bs) (by omega) (by omega) ?_
  refine L_callV (as := [.inl (xs (i + 1)).toInt]) qL_60 (z e) rfl rfl (Nat.le_of_ble_eq_true rfl) (o81 hT1) dL_law_481 (fun r_ τ2 h2 z2 => ?_)
  obtain ⟨rfl, s2⟩ := z2
  show L_ (gb_X L xs) mL_law (e + 20 + 1) bc bs 484 [some (.inr (some 1000002)), some (.inr (some 0)), some (.inr (some 81)), some (.inl (i : Int))] [.inl v, .inl v] τ2 h2 Z
  exact L_same (tgt := 1287) dL_law_484 (by decide) (K τ2 h2 s2)
theorem lc_11 {L : Nat} {xs : Nat → Int32} (e : Nat) {bc bs : Nat} {τ : TT} {h : HT} {Z : ZT} (hL : L ≤ 384) (i : Nat) (hi : i + 6 ≤ L) (s : SIM τ h) (K : ∀ (τ1 : TT) (h1 : HT), SIM τ1 h1 → L_ (gb_X L xs) mL_law (e + 20 + 1) bc bs 1287 [some (.inr (some 1000002)), some (.inr (some 0)), some (.inr (some 81)), some (.inl (i : Int))] [] τ1 h1 Z) : L_ (gb_X L xs) mL_law (e + 20 + 1) (2 + bc) (302 + bs) 489 [some (.inr (some 1000002)), some (.inr (some 0)), some (.inr (some 81)), some (.inl (i : Int))] [] τ h Z := by
  refine L_wk (bc := 0 + bc) (bs := 0 + bs) (by omega) (by omega) ?_
  refine L_aload_n (i := 1) dL_law_489 rfl rfl ?_
  refine L_callV (as := []) qL_61 (op_rows s  e) rfl rfl (Nat.le_of_ble_eq_true rfl) (o0 s.1) dL_law_490 (fun r_ τ1 h1 z => ?_)
  obtain ⟨v, rfl, hT1, z⟩ := z
  show L_ (gb_X L xs) mL_law (e + 20 + 1) bc bs 493 [some (.inr (some 1000002)), some (.inr (some 0)), some (.inr (some 81)), some (.inl (i : Int))] [.inl v] τ1 h1 Z
  refine L_aload_n (i := 2) dL_law_493 rfl rfl ?_
  refine L_wk (bc := 0 + bc) (bs := 0 + bs) (by omega) (by omega) ?_
  refine L_callV (as := []) qL_64 (z e) rfl rfl (Nat.le_of_ble_eq_true rfl) (o81 hT1) dL_law_494 (fun r_ τ2 h2 z2 => ?_)
  obtain ⟨rfl, s2⟩ := z2
  show L_ (gb_X L xs) mL_law (e + 20 + 1) bc bs 497 [some (.inr (some 1000002)), some (.inr (some 0)), some (.inr (some 81)), some (.inl (i : Int))] [.inl v, .inl v] τ2 h2 Z
  exact L_same (tgt := 1287) dL_law_497 (by decide) (K τ2 h2 s2)
theorem lc_12 {L : Nat} {xs : Nat → Int32} (e : Nat) {bc bs : Nat} {τ : TT} {h : HT} {Z : ZT} (hL : L ≤ 384) (i : Nat) (hi : i + 6 ≤ L) (s : SIM τ h) (K : ∀ (τ1 : TT) (h1 : HT), SIM τ1 h1 → L_ (gb_X L xs) mL_law (e + 20 + 1) bc bs 1287 [some (.inr (some 1000002)), some (.inr (some 0)), some (.inr (some 81)), some (.inl (i : Int))] [] τ1 h1 Z) : L_ (gb_X L xs) mL_law (e + 20 + 1) (2 + bc) (302 + bs) 502 [some (.inr (some 1000002)), some (.inr (some 0)), some (.inr (some 81)), some (.inl (i : Int))] [] τ h Z := by
  refine L_wk (bc := 0 + bc) (bs := 0 + bs) (by omega) (by omega) ?_
  refine L_aload_n (i := 1) dL_law_502 rfl rfl ?_
  refine L_aload_n (i := 0) dL_law_503 rfl rfl ?_
  refine L_iload_n (i := 3) dL_law_504 rfl rfl ?_
  refine L_iconst dL_law_505 ?_
  refine L_iadd dL_law_506 ?_
  refine L_ialdS (k := i + 1) dL_law_507 hL (by omega) (by omega) ?_
  refine L_aload_n (i := 0) dL_law_508 rfl rfl ?_
  refine L_iload_n (i := 3) dL_law_509 rfl rfl ?_
  refine L_iconst dL_law_510 ?_
  refine L_iadd dL_law_511 ?_
  refine L_ialdS (k := i + 2) dL_law_512 hL (by omega) (by omega) ?_
  refine L_aload_n (i := 0) dL_law_513 rfl rfl ?_
  refine L_iload_n (i := 3) dL_law_514 rfl rfl ?_
  refine L_iconst dL_law_515 ?_
  refine L_iadd dL_law_516 ?_
  refine L_ialdS (k := i + 3) dL_law_517 hL (by omega) (by omega) ?_
  refine L_callV (as := [.inl (xs (i + 1)).toInt, .inl (xs (i + 2)).toInt, .inl (xs (i + 3)).toInt]) qL_65 (op_cloth s (xs (i + 1)).toInt (xs (i + 2)).toInt (xs (i + 3)).toInt (i32r _) (i32r _) (i32r _) e) rfl rfl (Nat.le_of_ble_eq_true rfl) (o0 s.1) dL_law_518 (fun r_ τ1 h1 z => ?_)
  obtain ⟨v, rfl, hT1, z⟩ := z
  show L_ (gb_X L xs) mL_law (e + 20 + 1) bc bs 521 [some (.inr (some 1000002)), some (.inr (some 0)), some (.inr (some 81)), some (.inl (i : Int))] [.inl v] τ1 h1 Z
  refine L_aload_n (i := 2) dL_law_521 rfl rfl ?_
  refine L_aload_n (i := 0) dL_law_522 rfl rfl ?_
  refine L_iload_n (i := 3) dL_law_523 rfl rfl ?_
  refine L_iconst dL_law_524 ?_
  refine L_iadd dL_law_525 ?_
  refine L_ialdS (k := i + 1) dL_law_526 hL (by omega) (by omega) ?_
  refine L_aload_n (i := 0) dL_law_527 rfl rfl ?_
  refine L_iload_n (i := 3) dL_law_528 rfl rfl ?_
  refine L_iconst dL_law_529 ?_
  refine L_iadd dL_law_530 ?_
  refine L_ialdS (k := i + 2) dL_law_531 hL (by omega) (by omega) ?_
  refine L_aload_n (i := 0) dL_law_532 rfl rfl ?_
  refine L_iload_n (i := 3) dL_law_533 rfl rfl ?_
  refine L_iconst dL_law_534 ?_
  refine L_iadd dL_law_535 ?_
  refine L_ialdS (k := i + 3) dL_law_536 hL (by omega) (by omega) ?_
  refine L_wk (bc := 0 + bc) (bs := 0 + bs) (by omega) (by omega) ?_
  refine L_callV (as := [.inl (xs (i + 1)).toInt, .inl (xs (i + 2)).toInt, .inl (xs (i + 3)).toInt]) qL_68 (z e) rfl rfl (Nat.le_of_ble_eq_true rfl) (o81 hT1) dL_law_537 (fun r_ τ2 h2 z2 => ?_)
  obtain ⟨rfl, s2⟩ := z2
  show L_ (gb_X L xs) mL_law (e + 20 + 1) bc bs 540 [some (.inr (some 1000002)), some (.inr (some 0)), some (.inr (some 81)), some (.inl (i : Int))] [.inl v, .inl v] τ2 h2 Z
  exact L_same (tgt := 1287) dL_law_540 (by decide) (K τ2 h2 s2)
theorem lc_13 {L : Nat} {xs : Nat → Int32} (e : Nat) {bc bs : Nat} {τ : TT} {h : HT} {Z : ZT} (hL : L ≤ 384) (i : Nat) (hi : i + 6 ≤ L) (s : SIM τ h) (K : ∀ (τ1 : TT) (h1 : HT), SIM τ1 h1 → L_ (gb_X L xs) mL_law (e + 20 + 1) bc bs 1287 [some (.inr (some 1000002)), some (.inr (some 0)), some (.inr (some 81)), some (.inl (i : Int))] [] τ1 h1 Z) : L_ (gb_X L xs) mL_law (e + 20 + 1) (2 + bc) (302 + bs) 545 [some (.inr (some 1000002)), some (.inr (some 0)), some (.inr (some 81)), some (.inl (i : Int))] [] τ h Z := by
  refine L_wk (bc := 0 + bc) (bs := 0 + bs) (by omega) (by omega) ?_
  refine L_aload_n (i := 1) dL_law_545 rfl rfl ?_
  refine L_callV (as := []) qL_69 (op_beat s  e) rfl rfl (Nat.le_of_ble_eq_true rfl) (o0 s.1) dL_law_546 (fun r_ τ1 h1 z => ?_)
  obtain ⟨v, rfl, hT1, z⟩ := z
  show L_ (gb_X L xs) mL_law (e + 20 + 1) bc bs 549 [some (.inr (some 1000002)), some (.inr (some 0)), some (.inr (some 81)), some (.inl (i : Int))] [.inl v] τ1 h1 Z
  refine L_aload_n (i := 2) dL_law_549 rfl rfl ?_
  refine L_wk (bc := 0 + bc) (bs := 0 + bs) (by omega) (by omega) ?_
  refine L_callV (as := []) qL_72 (z e) rfl rfl (Nat.le_of_ble_eq_true rfl) (o81 hT1) dL_law_550 (fun r_ τ2 h2 z2 => ?_)
  obtain ⟨rfl, s2⟩ := z2
  show L_ (gb_X L xs) mL_law (e + 20 + 1) bc bs 553 [some (.inr (some 1000002)), some (.inr (some 0)), some (.inr (some 81)), some (.inl (i : Int))] [.inl v, .inl v] τ2 h2 Z
  exact L_same (tgt := 1287) dL_law_553 (by decide) (K τ2 h2 s2)
theorem lc_14 {L : Nat} {xs : Nat → Int32} (e : Nat) {bc bs : Nat} {τ : TT} {h : HT} {Z : ZT} (hL : L ≤ 384) (i : Nat) (hi : i + 6 ≤ L) (s : SIM τ h) (K : ∀ (τ1 : TT) (h1 : HT), SIM τ1 h1 → L_ (gb_X L xs) mL_law (e + 20 + 1) bc bs 1287 [some (.inr (some 1000002)), some (.inr (some 0)), some (.inr (some 81)), some (.inl (i : Int))] [] τ1 h1 Z) : L_ (gb_X L xs) mL_law (e + 20 + 1) (2 + bc) (302 + bs) 558 [some (.inr (some 1000002)), some (.inr (some 0)), some (.inr (some 81)), some (.inl (i : Int))] [] τ h Z := by
  refine L_wk (bc := 0 + bc) (bs := 0 + bs) (by omega) (by omega) ?_
  refine L_aload_n (i := 1) dL_law_558 rfl rfl ?_
  refine L_aload_n (i := 0) dL_law_559 rfl rfl ?_
  refine L_iload_n (i := 3) dL_law_560 rfl rfl ?_
  refine L_iconst dL_law_561 ?_
  refine L_iadd dL_law_562 ?_
  refine L_ialdS (k := i + 1) dL_law_563 hL (by omega) (by omega) ?_
  refine L_aload_n (i := 0) dL_law_564 rfl rfl ?_
  refine L_iload_n (i := 3) dL_law_565 rfl rfl ?_
  refine L_iconst dL_law_566 ?_
  refine L_iadd dL_law_567 ?_
  refine L_ialdS (k := i + 2) dL_law_568 hL (by omega) (by omega) ?_
  refine L_aload_n (i := 0) dL_law_569 rfl rfl ?_
  refine L_iload_n (i := 3) dL_law_570 rfl rfl ?_
  refine L_iconst dL_law_571 ?_
  refine L_iadd dL_law_572 ?_
  refine L_ialdS (k := i + 3) dL_law_573 hL (by omega) (by omega) ?_
  refine L_callV (as := [.inl (xs (i + 1)).toInt, .inl (xs (i + 2)).toInt, .inl (xs (i + 3)).toInt]) qL_73 (op_picture s (xs (i + 1)).toInt (xs (i + 2)).toInt (xs (i + 3)).toInt (i32r _) (i32r _) (i32r _) e) rfl rfl (Nat.le_of_ble_eq_true rfl) (o0 s.1) dL_law_574 (fun r_ τ1 h1 z => ?_)
  obtain ⟨v, rfl, hT1, z⟩ := z
  show L_ (gb_X L xs) mL_law (e + 20 + 1) bc bs 577 [some (.inr (some 1000002)), some (.inr (some 0)), some (.inr (some 81)), some (.inl (i : Int))] [.inl v] τ1 h1 Z
  refine L_aload_n (i := 2) dL_law_577 rfl rfl ?_
  refine L_aload_n (i := 0) dL_law_578 rfl rfl ?_
  refine L_iload_n (i := 3) dL_law_579 rfl rfl ?_
  refine L_iconst dL_law_580 ?_
  refine L_iadd dL_law_581 ?_
  refine L_ialdS (k := i + 1) dL_law_582 hL (by omega) (by omega) ?_
  refine L_aload_n (i := 0) dL_law_583 rfl rfl ?_
  refine L_iload_n (i := 3) dL_law_584 rfl rfl ?_
  refine L_iconst dL_law_585 ?_
  refine L_iadd dL_law_586 ?_
  refine L_ialdS (k := i + 2) dL_law_587 hL (by omega) (by omega) ?_
  refine L_aload_n (i := 0) dL_law_588 rfl rfl ?_
  refine L_iload_n (i := 3) dL_law_589 rfl rfl ?_
  refine L_iconst dL_law_590 ?_
  refine L_iadd dL_law_591 ?_
  refine L_ialdS (k := i + 3) dL_law_592 hL (by omega) (by omega) ?_
  refine L_wk (bc := 0 + bc) (bs := 0 + bs) (by omega) (by omega) ?_
  refine L_callV (as := [.inl (xs (i + 1)).toInt, .inl (xs (i + 2)).toInt, .inl (xs (i + 3)).toInt]) qL_76 (z e) rfl rfl (Nat.le_of_ble_eq_true rfl) (o81 hT1) dL_law_593 (fun r_ τ2 h2 z2 => ?_)
  obtain ⟨rfl, s2⟩ := z2
  show L_ (gb_X L xs) mL_law (e + 20 + 1) bc bs 596 [some (.inr (some 1000002)), some (.inr (some 0)), some (.inr (some 81)), some (.inl (i : Int))] [.inl v, .inl v] τ2 h2 Z
  exact L_same (tgt := 1287) dL_law_596 (by decide) (K τ2 h2 s2)
theorem lc_15 {L : Nat} {xs : Nat → Int32} (e : Nat) {bc bs : Nat} {τ : TT} {h : HT} {Z : ZT} (hL : L ≤ 384) (i : Nat) (hi : i + 6 ≤ L) (s : SIM τ h) (K : ∀ (τ1 : TT) (h1 : HT), SIM τ1 h1 → L_ (gb_X L xs) mL_law (e + 20 + 1) bc bs 1287 [some (.inr (some 1000002)), some (.inr (some 0)), some (.inr (some 81)), some (.inl (i : Int))] [] τ1 h1 Z) : L_ (gb_X L xs) mL_law (e + 20 + 1) (2 + bc) (302 + bs) 601 [some (.inr (some 1000002)), some (.inr (some 0)), some (.inr (some 81)), some (.inl (i : Int))] [] τ h Z := by
  refine L_wk (bc := 0 + bc) (bs := 0 + bs) (by omega) (by omega) ?_
  refine L_aload_n (i := 1) dL_law_601 rfl rfl ?_
  refine L_callV (as := []) qL_77 (op_pictureless s  e) rfl rfl (Nat.le_of_ble_eq_true rfl) (o0 s.1) dL_law_602 (fun r_ τ1 h1 z => ?_)
  obtain ⟨v, rfl, hT1, z⟩ := z
  show L_ (gb_X L xs) mL_law (e + 20 + 1) bc bs 605 [some (.inr (some 1000002)), some (.inr (some 0)), some (.inr (some 81)), some (.inl (i : Int))] [.inl v] τ1 h1 Z
  refine L_aload_n (i := 2) dL_law_605 rfl rfl ?_
  refine L_wk (bc := 0 + bc) (bs := 0 + bs) (by omega) (by omega) ?_
  refine L_callV (as := []) qL_80 (z e) rfl rfl (Nat.le_of_ble_eq_true rfl) (o81 hT1) dL_law_606 (fun r_ τ2 h2 z2 => ?_)
  obtain ⟨rfl, s2⟩ := z2
  show L_ (gb_X L xs) mL_law (e + 20 + 1) bc bs 609 [some (.inr (some 1000002)), some (.inr (some 0)), some (.inr (some 81)), some (.inl (i : Int))] [.inl v, .inl v] τ2 h2 Z
  exact L_same (tgt := 1287) dL_law_609 (by decide) (K τ2 h2 s2)
theorem lc_16 {L : Nat} {xs : Nat → Int32} (e : Nat) {bc bs : Nat} {τ : TT} {h : HT} {Z : ZT} (hL : L ≤ 384) (i : Nat) (hi : i + 6 ≤ L) (s : SIM τ h) (K : ∀ (τ1 : TT) (h1 : HT), SIM τ1 h1 → L_ (gb_X L xs) mL_law (e + 20 + 1) bc bs 1287 [some (.inr (some 1000002)), some (.inr (some 0)), some (.inr (some 81)), some (.inl (i : Int))] [] τ1 h1 Z) : L_ (gb_X L xs) mL_law (e + 20 + 1) (2 + bc) (302 + bs) 614 [some (.inr (some 1000002)), some (.inr (some 0)), some (.inr (some 81)), some (.inl (i : Int))] [] τ h Z := by
  refine L_wk (bc := 0 + bc) (bs := 0 + bs) (by omega) (by omega) ?_
  refine L_aload_n (i := 1) dL_law_614 rfl rfl ?_
  refine L_callV (as := []) qL_81 (op_wrong s  e) rfl rfl (Nat.le_of_ble_eq_true rfl) (o0 s.1) dL_law_615 (fun r_ τ1 h1 z => ?_)
  obtain ⟨v, rfl, hT1, z⟩ := z
  show L_ (gb_X L xs) mL_law (e + 20 + 1) bc bs 618 [some (.inr (some 1000002)), some (.inr (some 0)), some (.inr (some 81)), some (.inl (i : Int))] [.inl v] τ1 h1 Z
  refine L_aload_n (i := 2) dL_law_618 rfl rfl ?_
  refine L_wk (bc := 0 + bc) (bs := 0 + bs) (by omega) (by omega) ?_
  refine L_callV (as := []) qL_84 (z e) rfl rfl (Nat.le_of_ble_eq_true rfl) (o81 hT1) dL_law_619 (fun r_ τ2 h2 z2 => ?_)
  obtain ⟨rfl, s2⟩ := z2
  show L_ (gb_X L xs) mL_law (e + 20 + 1) bc bs 622 [some (.inr (some 1000002)), some (.inr (some 0)), some (.inr (some 81)), some (.inl (i : Int))] [.inl v, .inl v] τ2 h2 Z
  exact L_same (tgt := 1287) dL_law_622 (by decide) (K τ2 h2 s2)
theorem lc_17 {L : Nat} {xs : Nat → Int32} (e : Nat) {bc bs : Nat} {τ : TT} {h : HT} {Z : ZT} (hL : L ≤ 384) (i : Nat) (hi : i + 6 ≤ L) (s : SIM τ h) (K : ∀ (τ1 : TT) (h1 : HT), SIM τ1 h1 → L_ (gb_X L xs) mL_law (e + 20 + 1) bc bs 1287 [some (.inr (some 1000002)), some (.inr (some 0)), some (.inr (some 81)), some (.inl (i : Int))] [] τ1 h1 Z) : L_ (gb_X L xs) mL_law (e + 20 + 1) (2 + bc) (302 + bs) 627 [some (.inr (some 1000002)), some (.inr (some 0)), some (.inr (some 81)), some (.inl (i : Int))] [] τ h Z := by
  refine L_wk (bc := 0 + bc) (bs := 0 + bs) (by omega) (by omega) ?_
  refine L_aload_n (i := 1) dL_law_627 rfl rfl ?_
  refine L_aload_n (i := 0) dL_law_628 rfl rfl ?_
  refine L_iload_n (i := 3) dL_law_629 rfl rfl ?_
  refine L_iconst dL_law_630 ?_
  refine L_iadd dL_law_631 ?_
  refine L_ialdS (k := i + 1) dL_law_632 hL (by omega) (by omega) ?_
  refine L_aload_n (i := 0) dL_law_633 rfl rfl ?_
  refine L_iload_n (i := 3) dL_law_634 rfl rfl ?_
  refine L_iconst dL_law_635 ?_
  refine L_iadd dL_law_636 ?_
  refine L_ialdS (k := i + 2) dL_law_637 hL (by omega) (by omega) ?_
  refine L_callV (as := [.inl (xs (i + 1)).toInt, .inl (xs (i + 2)).toInt]) qL_85 (op_colours s (xs (i + 1)).toInt (xs (i + 2)).toInt (i32r _) (i32r _) e) rfl rfl (Nat.le_of_ble_eq_true rfl) (o0 s.1) dL_law_638 (fun r_ τ1 h1 z => ?_)
  obtain ⟨v, rfl, hT1, z⟩ := z
  show L_ (gb_X L xs) mL_law (e + 20 + 1) bc bs 641 [some (.inr (some 1000002)), some (.inr (some 0)), some (.inr (some 81)), some (.inl (i : Int))] [.inl v] τ1 h1 Z
  refine L_aload_n (i := 2) dL_law_641 rfl rfl ?_
  refine L_aload_n (i := 0) dL_law_642 rfl rfl ?_
  refine L_iload_n (i := 3) dL_law_643 rfl rfl ?_
  refine L_iconst dL_law_644 ?_
  refine L_iadd dL_law_645 ?_
  refine L_ialdS (k := i + 1) dL_law_646 hL (by omega) (by omega) ?_
  refine L_aload_n (i := 0) dL_law_647 rfl rfl ?_
  refine L_iload_n (i := 3) dL_law_648 rfl rfl ?_
  refine L_iconst dL_law_649 ?_
  refine L_iadd dL_law_650 ?_
  refine L_ialdS (k := i + 2) dL_law_651 hL (by omega) (by omega) ?_
  refine L_wk (bc := 0 + bc) (bs := 0 + bs) (by omega) (by omega) ?_
  refine L_callV (as := [.inl (xs (i + 1)).toInt, .inl (xs (i + 2)).toInt]) qL_88 (z e) rfl rfl (Nat.le_of_ble_eq_true rfl) (o81 hT1) dL_law_652 (fun r_ τ2 h2 z2 => ?_)
  obtain ⟨rfl, s2⟩ := z2
  show L_ (gb_X L xs) mL_law (e + 20 + 1) bc bs 655 [some (.inr (some 1000002)), some (.inr (some 0)), some (.inr (some 81)), some (.inl (i : Int))] [.inl v, .inl v] τ2 h2 Z
  exact L_same (tgt := 1287) dL_law_655 (by decide) (K τ2 h2 s2)
theorem lc_18 {L : Nat} {xs : Nat → Int32} (e : Nat) {bc bs : Nat} {τ : TT} {h : HT} {Z : ZT} (hL : L ≤ 384) (i : Nat) (hi : i + 6 ≤ L) (s : SIM τ h) (K : ∀ (τ1 : TT) (h1 : HT), SIM τ1 h1 → L_ (gb_X L xs) mL_law (e + 20 + 1) bc bs 1287 [some (.inr (some 1000002)), some (.inr (some 0)), some (.inr (some 81)), some (.inl (i : Int))] [] τ1 h1 Z) : L_ (gb_X L xs) mL_law (e + 20 + 1) (2 + bc) (302 + bs) 660 [some (.inr (some 1000002)), some (.inr (some 0)), some (.inr (some 81)), some (.inl (i : Int))] [] τ h Z := by
  refine L_wk (bc := 0 + bc) (bs := 0 + bs) (by omega) (by omega) ?_
  refine L_aload_n (i := 1) dL_law_660 rfl rfl ?_
  refine L_aload_n (i := 0) dL_law_661 rfl rfl ?_
  refine L_iload_n (i := 3) dL_law_662 rfl rfl ?_
  refine L_iconst dL_law_663 ?_
  refine L_iadd dL_law_664 ?_
  refine L_ialdS (k := i + 1) dL_law_665 hL (by omega) (by omega) ?_
  refine L_aload_n (i := 0) dL_law_666 rfl rfl ?_
  refine L_iload_n (i := 3) dL_law_667 rfl rfl ?_
  refine L_iconst dL_law_668 ?_
  refine L_iadd dL_law_669 ?_
  refine L_ialdS (k := i + 2) dL_law_670 hL (by omega) (by omega) ?_
  refine L_callV (as := [.inl (xs (i + 1)).toInt, .inl (xs (i + 2)).toInt]) qL_89 (op_form s (xs (i + 1)).toInt (xs (i + 2)).toInt (i32r _) (i32r _) e) rfl rfl (Nat.le_of_ble_eq_true rfl) (o0 s.1) dL_law_671 (fun r_ τ1 h1 z => ?_)
  obtain ⟨v, rfl, hT1, z⟩ := z
  show L_ (gb_X L xs) mL_law (e + 20 + 1) bc bs 674 [some (.inr (some 1000002)), some (.inr (some 0)), some (.inr (some 81)), some (.inl (i : Int))] [.inl v] τ1 h1 Z
  refine L_aload_n (i := 2) dL_law_674 rfl rfl ?_
  refine L_aload_n (i := 0) dL_law_675 rfl rfl ?_
  refine L_iload_n (i := 3) dL_law_676 rfl rfl ?_
  refine L_iconst dL_law_677 ?_
  refine L_iadd dL_law_678 ?_
  refine L_ialdS (k := i + 1) dL_law_679 hL (by omega) (by omega) ?_
  refine L_aload_n (i := 0) dL_law_680 rfl rfl ?_
  refine L_iload_n (i := 3) dL_law_681 rfl rfl ?_
  refine L_iconst dL_law_682 ?_
  refine L_iadd dL_law_683 ?_
  refine L_ialdS (k := i + 2) dL_law_684 hL (by omega) (by omega) ?_
  refine L_wk (bc := 0 + bc) (bs := 0 + bs) (by omega) (by omega) ?_
  refine L_callV (as := [.inl (xs (i + 1)).toInt, .inl (xs (i + 2)).toInt]) qL_92 (z e) rfl rfl (Nat.le_of_ble_eq_true rfl) (o81 hT1) dL_law_685 (fun r_ τ2 h2 z2 => ?_)
  obtain ⟨rfl, s2⟩ := z2
  show L_ (gb_X L xs) mL_law (e + 20 + 1) bc bs 688 [some (.inr (some 1000002)), some (.inr (some 0)), some (.inr (some 81)), some (.inl (i : Int))] [.inl v, .inl v] τ2 h2 Z
  exact L_same (tgt := 1287) dL_law_688 (by decide) (K τ2 h2 s2)
theorem lc_19 {L : Nat} {xs : Nat → Int32} (e : Nat) {bc bs : Nat} {τ : TT} {h : HT} {Z : ZT} (hL : L ≤ 384) (i : Nat) (hi : i + 6 ≤ L) (s : SIM τ h) (K : ∀ (τ1 : TT) (h1 : HT), SIM τ1 h1 → L_ (gb_X L xs) mL_law (e + 20 + 1) bc bs 1287 [some (.inr (some 1000002)), some (.inr (some 0)), some (.inr (some 81)), some (.inl (i : Int))] [] τ1 h1 Z) : L_ (gb_X L xs) mL_law (e + 20 + 1) (2 + bc) (302 + bs) 693 [some (.inr (some 1000002)), some (.inr (some 0)), some (.inr (some 81)), some (.inl (i : Int))] [] τ h Z := by
  refine L_wk (bc := 0 + bc) (bs := 0 + bs) (by omega) (by omega) ?_
  refine L_aload_n (i := 1) dL_law_693 rfl rfl ?_
  refine L_aload_n (i := 0) dL_law_694 rfl rfl ?_
  refine L_iload_n (i := 3) dL_law_695 rfl rfl ?_
  refine L_iconst dL_law_696 ?_
  refine L_iadd dL_law_697 ?_
  refine L_ialdS (k := i + 1) dL_law_698 hL (by omega) (by omega) ?_
  refine L_aload_n (i := 0) dL_law_699 rfl rfl ?_
  refine L_iload_n (i := 3) dL_law_700 rfl rfl ?_
  refine L_iconst dL_law_701 ?_
  refine L_iadd dL_law_702 ?_
  refine L_ialdS (k := i + 2) dL_law_703 hL (by omega) (by omega) ?_
  refine L_callV (as := [.inl (xs (i + 1)).toInt, .inl (xs (i + 2)).toInt]) qL_93 (op_akin s (xs (i + 1)).toInt (xs (i + 2)).toInt (i32r _) (i32r _) e) rfl rfl (Nat.le_of_ble_eq_true rfl) (o0 s.1) dL_law_704 (fun r_ τ1 h1 z => ?_)
  obtain ⟨v, rfl, hT1, z⟩ := z
  show L_ (gb_X L xs) mL_law (e + 20 + 1) bc bs 707 [some (.inr (some 1000002)), some (.inr (some 0)), some (.inr (some 81)), some (.inl (i : Int))] [.inl v] τ1 h1 Z
  refine L_aload_n (i := 2) dL_law_707 rfl rfl ?_
  refine L_aload_n (i := 0) dL_law_708 rfl rfl ?_
  refine L_iload_n (i := 3) dL_law_709 rfl rfl ?_
  refine L_iconst dL_law_710 ?_
  refine L_iadd dL_law_711 ?_
  refine L_ialdS (k := i + 1) dL_law_712 hL (by omega) (by omega) ?_
  refine L_aload_n (i := 0) dL_law_713 rfl rfl ?_
  refine L_iload_n (i := 3) dL_law_714 rfl rfl ?_
  refine L_iconst dL_law_715 ?_
  refine L_iadd dL_law_716 ?_
  refine L_ialdS (k := i + 2) dL_law_717 hL (by omega) (by omega) ?_
  refine L_wk (bc := 0 + bc) (bs := 0 + bs) (by omega) (by omega) ?_
  refine L_callV (as := [.inl (xs (i + 1)).toInt, .inl (xs (i + 2)).toInt]) qL_96 (z e) rfl rfl (Nat.le_of_ble_eq_true rfl) (o81 hT1) dL_law_718 (fun r_ τ2 h2 z2 => ?_)
  obtain ⟨rfl, s2⟩ := z2
  show L_ (gb_X L xs) mL_law (e + 20 + 1) bc bs 721 [some (.inr (some 1000002)), some (.inr (some 0)), some (.inr (some 81)), some (.inl (i : Int))] [.inl v, .inl v] τ2 h2 Z
  exact L_same (tgt := 1287) dL_law_721 (by decide) (K τ2 h2 s2)
theorem lc_20 {L : Nat} {xs : Nat → Int32} (e : Nat) {bc bs : Nat} {τ : TT} {h : HT} {Z : ZT} (hL : L ≤ 384) (i : Nat) (hi : i + 6 ≤ L) (s : SIM τ h) (K : ∀ (τ1 : TT) (h1 : HT), SIM τ1 h1 → L_ (gb_X L xs) mL_law (e + 20 + 1) bc bs 1287 [some (.inr (some 1000002)), some (.inr (some 0)), some (.inr (some 81)), some (.inl (i : Int))] [] τ1 h1 Z) : L_ (gb_X L xs) mL_law (e + 20 + 1) (2 + bc) (302 + bs) 726 [some (.inr (some 1000002)), some (.inr (some 0)), some (.inr (some 81)), some (.inl (i : Int))] [] τ h Z := by
  refine L_wk (bc := 0 + bc) (bs := 0 + bs) (by omega) (by omega) ?_
  refine L_aload_n (i := 1) dL_law_726 rfl rfl ?_
  refine L_aload_n (i := 0) dL_law_727 rfl rfl ?_
  refine L_iload_n (i := 3) dL_law_728 rfl rfl ?_
  refine L_iconst dL_law_729 ?_
  refine L_iadd dL_law_730 ?_
  refine L_ialdS (k := i + 1) dL_law_731 hL (by omega) (by omega) ?_
  refine L_aload_n (i := 0) dL_law_732 rfl rfl ?_
  refine L_iload_n (i := 3) dL_law_733 rfl rfl ?_
  refine L_iconst dL_law_734 ?_
  refine L_iadd dL_law_735 ?_
  refine L_ialdS (k := i + 2) dL_law_736 hL (by omega) (by omega) ?_
  refine L_callV (as := [.inl (xs (i + 1)).toInt, .inl (xs (i + 2)).toInt]) qL_97 (op_feed s (xs (i + 1)).toInt (xs (i + 2)).toInt (i32r _) (i32r _) e) rfl rfl (Nat.le_of_ble_eq_true rfl) (o0 s.1) dL_law_737 (fun r_ τ1 h1 z => ?_)
  obtain ⟨v, rfl, hT1, z⟩ := z
  show L_ (gb_X L xs) mL_law (e + 20 + 1) bc bs 740 [some (.inr (some 1000002)), some (.inr (some 0)), some (.inr (some 81)), some (.inl (i : Int))] [.inl v] τ1 h1 Z
  refine L_aload_n (i := 2) dL_law_740 rfl rfl ?_
  refine L_aload_n (i := 0) dL_law_741 rfl rfl ?_
  refine L_iload_n (i := 3) dL_law_742 rfl rfl ?_
  refine L_iconst dL_law_743 ?_
  refine L_iadd dL_law_744 ?_
  refine L_ialdS (k := i + 1) dL_law_745 hL (by omega) (by omega) ?_
  refine L_aload_n (i := 0) dL_law_746 rfl rfl ?_
  refine L_iload_n (i := 3) dL_law_747 rfl rfl ?_
  refine L_iconst dL_law_748 ?_
  refine L_iadd dL_law_749 ?_
  refine L_ialdS (k := i + 2) dL_law_750 hL (by omega) (by omega) ?_
  refine L_wk (bc := 0 + bc) (bs := 0 + bs) (by omega) (by omega) ?_
  refine L_callV (as := [.inl (xs (i + 1)).toInt, .inl (xs (i + 2)).toInt]) qL_100 (z e) rfl rfl (Nat.le_of_ble_eq_true rfl) (o81 hT1) dL_law_751 (fun r_ τ2 h2 z2 => ?_)
  obtain ⟨rfl, s2⟩ := z2
  show L_ (gb_X L xs) mL_law (e + 20 + 1) bc bs 754 [some (.inr (some 1000002)), some (.inr (some 0)), some (.inr (some 81)), some (.inl (i : Int))] [.inl v, .inl v] τ2 h2 Z
  exact L_same (tgt := 1287) dL_law_754 (by decide) (K τ2 h2 s2)
theorem lc_21 {L : Nat} {xs : Nat → Int32} (e : Nat) {bc bs : Nat} {τ : TT} {h : HT} {Z : ZT} (hL : L ≤ 384) (i : Nat) (hi : i + 6 ≤ L) (s : SIM τ h) (K : ∀ (τ1 : TT) (h1 : HT), SIM τ1 h1 → L_ (gb_X L xs) mL_law (e + 20 + 1) bc bs 1287 [some (.inr (some 1000002)), some (.inr (some 0)), some (.inr (some 81)), some (.inl (i : Int))] [] τ1 h1 Z) : L_ (gb_X L xs) mL_law (e + 20 + 1) (2 + bc) (302 + bs) 759 [some (.inr (some 1000002)), some (.inr (some 0)), some (.inr (some 81)), some (.inl (i : Int))] [] τ h Z := by
  refine L_wk (bc := 2 + bc) (bs := 302 + bs) (by omega) (by omega) ?_
  refine L_aload_n (i := 1) dL_law_759 rfl rfl ?_
  refine L_callV (as := []) qL_101 (op_figure s  e) rfl rfl (Nat.le_of_ble_eq_true rfl) (o0 s.1) dL_law_760 (fun r_ τ1 h1 z => ?_)
  obtain ⟨v, rfl, hT1, z⟩ := z
  show L_ (gb_X L xs) mL_law (e + 20 + 1) bc bs 763 [some (.inr (some 1000002)), some (.inr (some 0)), some (.inr (some 81)), some (.inl (i : Int))] [.inl v] τ1 h1 Z
  refine L_aload_n (i := 2) dL_law_763 rfl rfl ?_
  refine L_wk (bc := 0 + bc) (bs := 0 + bs) (by omega) (by omega) ?_
  refine L_callV (as := []) qL_104 (z e) rfl rfl (Nat.le_of_ble_eq_true rfl) (o81 hT1) dL_law_764 (fun r_ τ2 h2 z2 => ?_)
  obtain ⟨rfl, s2⟩ := z2
  show L_ (gb_X L xs) mL_law (e + 20 + 1) bc bs 767 [some (.inr (some 1000002)), some (.inr (some 0)), some (.inr (some 81)), some (.inl (i : Int))] [.inl v, .inl v] τ2 h2 Z
  exact L_same (tgt := 1287) dL_law_767 (by decide) (K τ2 h2 s2)
theorem lc_22 {L : Nat} {xs : Nat → Int32} (e : Nat) {bc bs : Nat} {τ : TT} {h : HT} {Z : ZT} (hL : L ≤ 384) (i : Nat) (hi : i + 6 ≤ L) (s : SIM τ h) (K : ∀ (τ1 : TT) (h1 : HT), SIM τ1 h1 → L_ (gb_X L xs) mL_law (e + 20 + 1) bc bs 1287 [some (.inr (some 1000002)), some (.inr (some 0)), some (.inr (some 81)), some (.inl (i : Int))] [] τ1 h1 Z) : L_ (gb_X L xs) mL_law (e + 20 + 1) (2 + bc) (302 + bs) 772 [some (.inr (some 1000002)), some (.inr (some 0)), some (.inr (some 81)), some (.inl (i : Int))] [] τ h Z := by
  refine L_wk (bc := 0 + bc) (bs := 0 + bs) (by omega) (by omega) ?_
  refine L_aload_n (i := 1) dL_law_772 rfl rfl ?_
  refine L_aload_n (i := 0) dL_law_773 rfl rfl ?_
  refine L_iload_n (i := 3) dL_law_774 rfl rfl ?_
  refine L_iconst dL_law_775 ?_
  refine L_iadd dL_law_776 ?_
  refine L_ialdS (k := i + 1) dL_law_777 hL (by omega) (by omega) ?_
  refine L_aload_n (i := 0) dL_law_778 rfl rfl ?_
  refine L_iload_n (i := 3) dL_law_779 rfl rfl ?_
  refine L_iconst dL_law_780 ?_
  refine L_iadd dL_law_781 ?_
  refine L_ialdS (k := i + 2) dL_law_782 hL (by omega) (by omega) ?_
  refine L_callV (as := [.inl (xs (i + 1)).toInt, .inl (xs (i + 2)).toInt]) qL_105 (op_told s (xs (i + 1)).toInt (xs (i + 2)).toInt (i32r _) (i32r _) e) rfl rfl (Nat.le_of_ble_eq_true rfl) (o0 s.1) dL_law_783 (fun r_ τ1 h1 z => ?_)
  obtain ⟨v, rfl, hT1, z⟩ := z
  show L_ (gb_X L xs) mL_law (e + 20 + 1) bc bs 786 [some (.inr (some 1000002)), some (.inr (some 0)), some (.inr (some 81)), some (.inl (i : Int))] [.inl v] τ1 h1 Z
  refine L_aload_n (i := 2) dL_law_786 rfl rfl ?_
  refine L_aload_n (i := 0) dL_law_787 rfl rfl ?_
  refine L_iload_n (i := 3) dL_law_788 rfl rfl ?_
  refine L_iconst dL_law_789 ?_
  refine L_iadd dL_law_790 ?_
  refine L_ialdS (k := i + 1) dL_law_791 hL (by omega) (by omega) ?_
  refine L_aload_n (i := 0) dL_law_792 rfl rfl ?_
  refine L_iload_n (i := 3) dL_law_793 rfl rfl ?_
  refine L_iconst dL_law_794 ?_
  refine L_iadd dL_law_795 ?_
  refine L_ialdS (k := i + 2) dL_law_796 hL (by omega) (by omega) ?_
  refine L_wk (bc := 0 + bc) (bs := 0 + bs) (by omega) (by omega) ?_
  refine L_callV (as := [.inl (xs (i + 1)).toInt, .inl (xs (i + 2)).toInt]) qL_108 (z e) rfl rfl (Nat.le_of_ble_eq_true rfl) (o81 hT1) dL_law_797 (fun r_ τ2 h2 z2 => ?_)
  obtain ⟨rfl, s2⟩ := z2
  show L_ (gb_X L xs) mL_law (e + 20 + 1) bc bs 800 [some (.inr (some 1000002)), some (.inr (some 0)), some (.inr (some 81)), some (.inl (i : Int))] [.inl v, .inl v] τ2 h2 Z
  exact L_same (tgt := 1287) dL_law_800 (by decide) (K τ2 h2 s2)
theorem lc_23 {L : Nat} {xs : Nat → Int32} (e : Nat) {bc bs : Nat} {τ : TT} {h : HT} {Z : ZT} (hL : L ≤ 384) (i : Nat) (hi : i + 6 ≤ L) (s : SIM τ h) (K : ∀ (τ1 : TT) (h1 : HT), SIM τ1 h1 → L_ (gb_X L xs) mL_law (e + 20 + 1) bc bs 1287 [some (.inr (some 1000002)), some (.inr (some 0)), some (.inr (some 81)), some (.inl (i : Int))] [] τ1 h1 Z) : L_ (gb_X L xs) mL_law (e + 20 + 1) (2 + bc) (302 + bs) 805 [some (.inr (some 1000002)), some (.inr (some 0)), some (.inr (some 81)), some (.inl (i : Int))] [] τ h Z := by
  refine L_wk (bc := 0 + bc) (bs := 0 + bs) (by omega) (by omega) ?_
  refine L_aload_n (i := 1) dL_law_805 rfl rfl ?_
  refine L_aload_n (i := 0) dL_law_806 rfl rfl ?_
  refine L_iload_n (i := 3) dL_law_807 rfl rfl ?_
  refine L_iconst dL_law_808 ?_
  refine L_iadd dL_law_809 ?_
  refine L_ialdS (k := i + 1) dL_law_810 hL (by omega) (by omega) ?_
  refine L_callV (as := [.inl (xs (i + 1)).toInt]) qL_109 (op_dance s (xs (i + 1)).toInt (i32r _) e) rfl rfl (Nat.le_of_ble_eq_true rfl) (o0 s.1) dL_law_811 (fun r_ τ1 h1 z => ?_)
  obtain ⟨v, rfl, hT1, z⟩ := z
  show L_ (gb_X L xs) mL_law (e + 20 + 1) bc bs 814 [some (.inr (some 1000002)), some (.inr (some 0)), some (.inr (some 81)), some (.inl (i : Int))] [.inl v] τ1 h1 Z
  refine L_aload_n (i := 2) dL_law_814 rfl rfl ?_
  refine L_aload_n (i := 0) dL_law_815 rfl rfl ?_
  refine L_iload_n (i := 3) dL_law_816 rfl rfl ?_
  refine L_iconst dL_law_817 ?_
  refine L_iadd dL_law_818 ?_
  refine L_ialdS (k := i + 1) dL_law_819 hL (by omega) (by omega) ?_
  refine L_wk (bc := 0 + bc) (bs := 0 + bs) (by omega) (by omega) ?_
  refine L_callV (as := [.inl (xs (i + 1)).toInt]) qL_112 (z e) rfl rfl (Nat.le_of_ble_eq_true rfl) (o81 hT1) dL_law_820 (fun r_ τ2 h2 z2 => ?_)
  obtain ⟨rfl, s2⟩ := z2
  show L_ (gb_X L xs) mL_law (e + 20 + 1) bc bs 823 [some (.inr (some 1000002)), some (.inr (some 0)), some (.inr (some 81)), some (.inl (i : Int))] [.inl v, .inl v] τ2 h2 Z
  exact L_same (tgt := 1287) dL_law_823 (by decide) (K τ2 h2 s2)
theorem lc_24 {L : Nat} {xs : Nat → Int32} (e : Nat) {bc bs : Nat} {τ : TT} {h : HT} {Z : ZT} (hL : L ≤ 384) (i : Nat) (hi : i + 6 ≤ L) (s : SIM τ h) (K : ∀ (τ1 : TT) (h1 : HT), SIM τ1 h1 → L_ (gb_X L xs) mL_law (e + 20 + 1) bc bs 1287 [some (.inr (some 1000002)), some (.inr (some 0)), some (.inr (some 81)), some (.inl (i : Int))] [] τ1 h1 Z) : L_ (gb_X L xs) mL_law (e + 20 + 1) (2 + bc) (302 + bs) 828 [some (.inr (some 1000002)), some (.inr (some 0)), some (.inr (some 81)), some (.inl (i : Int))] [] τ h Z := by
  refine L_wk (bc := 0 + bc) (bs := 0 + bs) (by omega) (by omega) ?_
  refine L_aload_n (i := 1) dL_law_828 rfl rfl ?_
  refine L_aload_n (i := 0) dL_law_829 rfl rfl ?_
  refine L_iload_n (i := 3) dL_law_830 rfl rfl ?_
  refine L_iconst dL_law_831 ?_
  refine L_iadd dL_law_832 ?_
  refine L_ialdS (k := i + 1) dL_law_833 hL (by omega) (by omega) ?_
  refine L_callV (as := [.inl (xs (i + 1)).toInt]) qL_113 (op_right s (xs (i + 1)).toInt (i32r _) e) rfl rfl (Nat.le_of_ble_eq_true rfl) (o0 s.1) dL_law_834 (fun r_ τ1 h1 z => ?_)
  obtain ⟨v, rfl, hT1, z⟩ := z
  show L_ (gb_X L xs) mL_law (e + 20 + 1) bc bs 837 [some (.inr (some 1000002)), some (.inr (some 0)), some (.inr (some 81)), some (.inl (i : Int))] [.inl v] τ1 h1 Z
  refine L_aload_n (i := 2) dL_law_837 rfl rfl ?_
  refine L_aload_n (i := 0) dL_law_838 rfl rfl ?_
  refine L_iload_n (i := 3) dL_law_839 rfl rfl ?_
  refine L_iconst dL_law_840 ?_
  refine L_iadd dL_law_841 ?_
  refine L_ialdS (k := i + 1) dL_law_842 hL (by omega) (by omega) ?_
  refine L_wk (bc := 0 + bc) (bs := 0 + bs) (by omega) (by omega) ?_
  refine L_callV (as := [.inl (xs (i + 1)).toInt]) qL_116 (z e) rfl rfl (Nat.le_of_ble_eq_true rfl) (o81 hT1) dL_law_843 (fun r_ τ2 h2 z2 => ?_)
  obtain ⟨rfl, s2⟩ := z2
  show L_ (gb_X L xs) mL_law (e + 20 + 1) bc bs 846 [some (.inr (some 1000002)), some (.inr (some 0)), some (.inr (some 81)), some (.inl (i : Int))] [.inl v, .inl v] τ2 h2 Z
  exact L_same (tgt := 1287) dL_law_846 (by decide) (K τ2 h2 s2)
theorem lc_25 {L : Nat} {xs : Nat → Int32} (e : Nat) {bc bs : Nat} {τ : TT} {h : HT} {Z : ZT} (hL : L ≤ 384) (i : Nat) (hi : i + 6 ≤ L) (s : SIM τ h) (K : ∀ (τ1 : TT) (h1 : HT), SIM τ1 h1 → L_ (gb_X L xs) mL_law (e + 20 + 1) bc bs 1287 [some (.inr (some 1000002)), some (.inr (some 0)), some (.inr (some 81)), some (.inl (i : Int))] [] τ1 h1 Z) : L_ (gb_X L xs) mL_law (e + 20 + 1) (2 + bc) (302 + bs) 851 [some (.inr (some 1000002)), some (.inr (some 0)), some (.inr (some 81)), some (.inl (i : Int))] [] τ h Z := by
  refine L_wk (bc := 0 + bc) (bs := 0 + bs) (by omega) (by omega) ?_
  refine L_aload_n (i := 1) dL_law_851 rfl rfl ?_
  refine L_aload_n (i := 0) dL_law_852 rfl rfl ?_
  refine L_iload_n (i := 3) dL_law_853 rfl rfl ?_
  refine L_iconst dL_law_854 ?_
  refine L_iadd dL_law_855 ?_
  refine L_ialdS (k := i + 1) dL_law_856 hL (by omega) (by omega) ?_
  refine L_aload_n (i := 0) dL_law_857 rfl rfl ?_
  refine L_iload_n (i := 3) dL_law_858 rfl rfl ?_
  refine L_iconst dL_law_859 ?_
  refine L_iadd dL_law_860 ?_
  refine L_ialdS (k := i + 2) dL_law_861 hL (by omega) (by omega) ?_
  refine L_callV (as := [.inl (xs (i + 1)).toInt, .inl (xs (i + 2)).toInt]) qL_117 (op_slips s (xs (i + 1)).toInt (xs (i + 2)).toInt (i32r _) (i32r _) e) rfl rfl (Nat.le_of_ble_eq_true rfl) (o0 s.1) dL_law_862 (fun r_ τ1 h1 z => ?_)
  obtain ⟨v, rfl, hT1, z⟩ := z
  show L_ (gb_X L xs) mL_law (e + 20 + 1) bc bs 865 [some (.inr (some 1000002)), some (.inr (some 0)), some (.inr (some 81)), some (.inl (i : Int))] [.inl v] τ1 h1 Z
  refine L_aload_n (i := 2) dL_law_865 rfl rfl ?_
  refine L_aload_n (i := 0) dL_law_866 rfl rfl ?_
  refine L_iload_n (i := 3) dL_law_867 rfl rfl ?_
  refine L_iconst dL_law_868 ?_
  refine L_iadd dL_law_869 ?_
  refine L_ialdS (k := i + 1) dL_law_870 hL (by omega) (by omega) ?_
  refine L_aload_n (i := 0) dL_law_871 rfl rfl ?_
  refine L_iload_n (i := 3) dL_law_872 rfl rfl ?_
  refine L_iconst dL_law_873 ?_
  refine L_iadd dL_law_874 ?_
  refine L_ialdS (k := i + 2) dL_law_875 hL (by omega) (by omega) ?_
  refine L_wk (bc := 0 + bc) (bs := 0 + bs) (by omega) (by omega) ?_
  refine L_callV (as := [.inl (xs (i + 1)).toInt, .inl (xs (i + 2)).toInt]) qL_120 (z e) rfl rfl (Nat.le_of_ble_eq_true rfl) (o81 hT1) dL_law_876 (fun r_ τ2 h2 z2 => ?_)
  obtain ⟨rfl, s2⟩ := z2
  show L_ (gb_X L xs) mL_law (e + 20 + 1) bc bs 879 [some (.inr (some 1000002)), some (.inr (some 0)), some (.inr (some 81)), some (.inl (i : Int))] [.inl v, .inl v] τ2 h2 Z
  exact L_same (tgt := 1287) dL_law_879 (by decide) (K τ2 h2 s2)
theorem lc_26 {L : Nat} {xs : Nat → Int32} (e : Nat) {bc bs : Nat} {τ : TT} {h : HT} {Z : ZT} (hL : L ≤ 384) (i : Nat) (hi : i + 6 ≤ L) (s : SIM τ h) (K : ∀ (τ1 : TT) (h1 : HT), SIM τ1 h1 → L_ (gb_X L xs) mL_law (e + 20 + 1) bc bs 1287 [some (.inr (some 1000002)), some (.inr (some 0)), some (.inr (some 81)), some (.inl (i : Int))] [] τ1 h1 Z) : L_ (gb_X L xs) mL_law (e + 20 + 1) (2 + bc) (302 + bs) 884 [some (.inr (some 1000002)), some (.inr (some 0)), some (.inr (some 81)), some (.inl (i : Int))] [] τ h Z := by
  refine L_wk (bc := 0 + bc) (bs := 0 + bs) (by omega) (by omega) ?_
  refine L_aload_n (i := 1) dL_law_884 rfl rfl ?_
  refine L_aload_n (i := 0) dL_law_885 rfl rfl ?_
  refine L_iload_n (i := 3) dL_law_886 rfl rfl ?_
  refine L_iconst dL_law_887 ?_
  refine L_iadd dL_law_888 ?_
  refine L_ialdS (k := i + 1) dL_law_889 hL (by omega) (by omega) ?_
  refine L_aload_n (i := 0) dL_law_890 rfl rfl ?_
  refine L_iload_n (i := 3) dL_law_891 rfl rfl ?_
  refine L_iconst dL_law_892 ?_
  refine L_iadd dL_law_893 ?_
  refine L_ialdS (k := i + 2) dL_law_894 hL (by omega) (by omega) ?_
  refine L_callV (as := [.inl (xs (i + 1)).toInt, .inl (xs (i + 2)).toInt]) qL_121 (op_fewest s (xs (i + 1)).toInt (xs (i + 2)).toInt (i32r _) (i32r _) e) rfl rfl (Nat.le_of_ble_eq_true rfl) (o0 s.1) dL_law_895 (fun r_ τ1 h1 z => ?_)
  obtain ⟨v, rfl, hT1, z⟩ := z
  show L_ (gb_X L xs) mL_law (e + 20 + 1) bc bs 898 [some (.inr (some 1000002)), some (.inr (some 0)), some (.inr (some 81)), some (.inl (i : Int))] [.inl v] τ1 h1 Z
  refine L_aload_n (i := 2) dL_law_898 rfl rfl ?_
  refine L_aload_n (i := 0) dL_law_899 rfl rfl ?_
  refine L_iload_n (i := 3) dL_law_900 rfl rfl ?_
  refine L_iconst dL_law_901 ?_
  refine L_iadd dL_law_902 ?_
  refine L_ialdS (k := i + 1) dL_law_903 hL (by omega) (by omega) ?_
  refine L_aload_n (i := 0) dL_law_904 rfl rfl ?_
  refine L_iload_n (i := 3) dL_law_905 rfl rfl ?_
  refine L_iconst dL_law_906 ?_
  refine L_iadd dL_law_907 ?_
  refine L_ialdS (k := i + 2) dL_law_908 hL (by omega) (by omega) ?_
  refine L_wk (bc := 0 + bc) (bs := 0 + bs) (by omega) (by omega) ?_
  refine L_callV (as := [.inl (xs (i + 1)).toInt, .inl (xs (i + 2)).toInt]) qL_124 (z e) rfl rfl (Nat.le_of_ble_eq_true rfl) (o81 hT1) dL_law_909 (fun r_ τ2 h2 z2 => ?_)
  obtain ⟨rfl, s2⟩ := z2
  show L_ (gb_X L xs) mL_law (e + 20 + 1) bc bs 912 [some (.inr (some 1000002)), some (.inr (some 0)), some (.inr (some 81)), some (.inl (i : Int))] [.inl v, .inl v] τ2 h2 Z
  exact L_same (tgt := 1287) dL_law_912 (by decide) (K τ2 h2 s2)
theorem lc_27 {L : Nat} {xs : Nat → Int32} (e : Nat) {bc bs : Nat} {τ : TT} {h : HT} {Z : ZT} (hL : L ≤ 384) (i : Nat) (hi : i + 6 ≤ L) (s : SIM τ h) (K : ∀ (τ1 : TT) (h1 : HT), SIM τ1 h1 → L_ (gb_X L xs) mL_law (e + 20 + 1) bc bs 1287 [some (.inr (some 1000002)), some (.inr (some 0)), some (.inr (some 81)), some (.inl (i : Int))] [] τ1 h1 Z) : L_ (gb_X L xs) mL_law (e + 20 + 1) (2 + bc) (302 + bs) 917 [some (.inr (some 1000002)), some (.inr (some 0)), some (.inr (some 81)), some (.inl (i : Int))] [] τ h Z := by
  refine L_wk (bc := 0 + bc) (bs := 0 + bs) (by omega) (by omega) ?_
  refine L_aload_n (i := 1) dL_law_917 rfl rfl ?_
  refine L_aload_n (i := 0) dL_law_918 rfl rfl ?_
  refine L_iload_n (i := 3) dL_law_919 rfl rfl ?_
  refine L_iconst dL_law_920 ?_
  refine L_iadd dL_law_921 ?_
  refine L_ialdS (k := i + 1) dL_law_922 hL (by omega) (by omega) ?_
  refine L_aload_n (i := 0) dL_law_923 rfl rfl ?_
  refine L_iload_n (i := 3) dL_law_924 rfl rfl ?_
  refine L_iconst dL_law_925 ?_
  refine L_iadd dL_law_926 ?_
  refine L_ialdS (k := i + 2) dL_law_927 hL (by omega) (by omega) ?_
  refine L_callV (as := [.inl (xs (i + 1)).toInt, .inl (xs (i + 2)).toInt]) qL_125 (op_set s (xs (i + 1)).toInt (xs (i + 2)).toInt (i32r _) (i32r _) e) rfl rfl (Nat.le_of_ble_eq_true rfl) (o0 s.1) dL_law_928 (fun r_ τ1 h1 z => ?_)
  obtain ⟨v, rfl, hT1, z⟩ := z
  show L_ (gb_X L xs) mL_law (e + 20 + 1) bc bs 931 [some (.inr (some 1000002)), some (.inr (some 0)), some (.inr (some 81)), some (.inl (i : Int))] [.inl v] τ1 h1 Z
  refine L_aload_n (i := 2) dL_law_931 rfl rfl ?_
  refine L_aload_n (i := 0) dL_law_932 rfl rfl ?_
  refine L_iload_n (i := 3) dL_law_933 rfl rfl ?_
  refine L_iconst dL_law_934 ?_
  refine L_iadd dL_law_935 ?_
  refine L_ialdS (k := i + 1) dL_law_936 hL (by omega) (by omega) ?_
  refine L_aload_n (i := 0) dL_law_937 rfl rfl ?_
  refine L_iload_n (i := 3) dL_law_938 rfl rfl ?_
  refine L_iconst dL_law_939 ?_
  refine L_iadd dL_law_940 ?_
  refine L_ialdS (k := i + 2) dL_law_941 hL (by omega) (by omega) ?_
  refine L_wk (bc := 0 + bc) (bs := 0 + bs) (by omega) (by omega) ?_
  refine L_callV (as := [.inl (xs (i + 1)).toInt, .inl (xs (i + 2)).toInt]) qL_128 (z e) rfl rfl (Nat.le_of_ble_eq_true rfl) (o81 hT1) dL_law_942 (fun r_ τ2 h2 z2 => ?_)
  obtain ⟨rfl, s2⟩ := z2
  show L_ (gb_X L xs) mL_law (e + 20 + 1) bc bs 945 [some (.inr (some 1000002)), some (.inr (some 0)), some (.inr (some 81)), some (.inl (i : Int))] [.inl v, .inl v] τ2 h2 Z
  exact L_same (tgt := 1287) dL_law_945 (by decide) (K τ2 h2 s2)
theorem lc_28 {L : Nat} {xs : Nat → Int32} (e : Nat) {bc bs : Nat} {τ : TT} {h : HT} {Z : ZT} (hL : L ≤ 384) (i : Nat) (hi : i + 6 ≤ L) (s : SIM τ h) (K : ∀ (τ1 : TT) (h1 : HT), SIM τ1 h1 → L_ (gb_X L xs) mL_law (e + 20 + 1) bc bs 1287 [some (.inr (some 1000002)), some (.inr (some 0)), some (.inr (some 81)), some (.inl (i : Int))] [] τ1 h1 Z) : L_ (gb_X L xs) mL_law (e + 20 + 1) (2 + bc) (302 + bs) 950 [some (.inr (some 1000002)), some (.inr (some 0)), some (.inr (some 81)), some (.inl (i : Int))] [] τ h Z := by
  refine L_wk (bc := 0 + bc) (bs := 0 + bs) (by omega) (by omega) ?_
  refine L_aload_n (i := 1) dL_law_950 rfl rfl ?_
  refine L_aload_n (i := 0) dL_law_951 rfl rfl ?_
  refine L_iload_n (i := 3) dL_law_952 rfl rfl ?_
  refine L_iconst dL_law_953 ?_
  refine L_iadd dL_law_954 ?_
  refine L_ialdS (k := i + 1) dL_law_955 hL (by omega) (by omega) ?_
  refine L_aload_n (i := 0) dL_law_956 rfl rfl ?_
  refine L_iload_n (i := 3) dL_law_957 rfl rfl ?_
  refine L_iconst dL_law_958 ?_
  refine L_iadd dL_law_959 ?_
  refine L_ialdS (k := i + 2) dL_law_960 hL (by omega) (by omega) ?_
  refine L_callV (as := [.inl (xs (i + 1)).toInt, .inl (xs (i + 2)).toInt]) qL_129 (op_spent s (xs (i + 1)).toInt (xs (i + 2)).toInt (i32r _) (i32r _) e) rfl rfl (Nat.le_of_ble_eq_true rfl) (o0 s.1) dL_law_961 (fun r_ τ1 h1 z => ?_)
  obtain ⟨v, rfl, hT1, z⟩ := z
  show L_ (gb_X L xs) mL_law (e + 20 + 1) bc bs 964 [some (.inr (some 1000002)), some (.inr (some 0)), some (.inr (some 81)), some (.inl (i : Int))] [.inl v] τ1 h1 Z
  refine L_aload_n (i := 2) dL_law_964 rfl rfl ?_
  refine L_aload_n (i := 0) dL_law_965 rfl rfl ?_
  refine L_iload_n (i := 3) dL_law_966 rfl rfl ?_
  refine L_iconst dL_law_967 ?_
  refine L_iadd dL_law_968 ?_
  refine L_ialdS (k := i + 1) dL_law_969 hL (by omega) (by omega) ?_
  refine L_aload_n (i := 0) dL_law_970 rfl rfl ?_
  refine L_iload_n (i := 3) dL_law_971 rfl rfl ?_
  refine L_iconst dL_law_972 ?_
  refine L_iadd dL_law_973 ?_
  refine L_ialdS (k := i + 2) dL_law_974 hL (by omega) (by omega) ?_
  refine L_wk (bc := 0 + bc) (bs := 0 + bs) (by omega) (by omega) ?_
  refine L_callV (as := [.inl (xs (i + 1)).toInt, .inl (xs (i + 2)).toInt]) qL_132 (z e) rfl rfl (Nat.le_of_ble_eq_true rfl) (o81 hT1) dL_law_975 (fun r_ τ2 h2 z2 => ?_)
  obtain ⟨rfl, s2⟩ := z2
  show L_ (gb_X L xs) mL_law (e + 20 + 1) bc bs 978 [some (.inr (some 1000002)), some (.inr (some 0)), some (.inr (some 81)), some (.inl (i : Int))] [.inl v, .inl v] τ2 h2 Z
  exact L_same (tgt := 1287) dL_law_978 (by decide) (K τ2 h2 s2)
theorem lc_29 {L : Nat} {xs : Nat → Int32} (e : Nat) {bc bs : Nat} {τ : TT} {h : HT} {Z : ZT} (hL : L ≤ 384) (i : Nat) (hi : i + 6 ≤ L) (s : SIM τ h) (K : ∀ (τ1 : TT) (h1 : HT), SIM τ1 h1 → L_ (gb_X L xs) mL_law (e + 20 + 1) bc bs 1287 [some (.inr (some 1000002)), some (.inr (some 0)), some (.inr (some 81)), some (.inl (i : Int))] [] τ1 h1 Z) : L_ (gb_X L xs) mL_law (e + 20 + 1) (2 + bc) (302 + bs) 983 [some (.inr (some 1000002)), some (.inr (some 0)), some (.inr (some 81)), some (.inl (i : Int))] [] τ h Z := by
  refine L_wk (bc := 0 + bc) (bs := 0 + bs) (by omega) (by omega) ?_
  refine L_aload_n (i := 1) dL_law_983 rfl rfl ?_
  refine L_aload_n (i := 0) dL_law_984 rfl rfl ?_
  refine L_iload_n (i := 3) dL_law_985 rfl rfl ?_
  refine L_iconst dL_law_986 ?_
  refine L_iadd dL_law_987 ?_
  refine L_ialdS (k := i + 1) dL_law_988 hL (by omega) (by omega) ?_
  refine L_aload_n (i := 0) dL_law_989 rfl rfl ?_
  refine L_iload_n (i := 3) dL_law_990 rfl rfl ?_
  refine L_iconst dL_law_991 ?_
  refine L_iadd dL_law_992 ?_
  refine L_ialdS (k := i + 2) dL_law_993 hL (by omega) (by omega) ?_
  refine L_aload_n (i := 0) dL_law_994 rfl rfl ?_
  refine L_iload_n (i := 3) dL_law_995 rfl rfl ?_
  refine L_iconst dL_law_996 ?_
  refine L_iadd dL_law_997 ?_
  refine L_ialdS (k := i + 3) dL_law_998 hL (by omega) (by omega) ?_
  refine L_callV (as := [.inl (xs (i + 1)).toInt, .inl (xs (i + 2)).toInt, .inl (xs (i + 3)).toInt]) qL_133 (op_act s (xs (i + 1)).toInt (xs (i + 2)).toInt (xs (i + 3)).toInt (i32r _) (i32r _) (i32r _) e) rfl rfl (Nat.le_of_ble_eq_true rfl) (o0 s.1) dL_law_999 (fun r_ τ1 h1 z => ?_)
  obtain ⟨v, rfl, hT1, z⟩ := z
  show L_ (gb_X L xs) mL_law (e + 20 + 1) bc bs 1002 [some (.inr (some 1000002)), some (.inr (some 0)), some (.inr (some 81)), some (.inl (i : Int))] [.inl v] τ1 h1 Z
  refine L_aload_n (i := 2) dL_law_1002 rfl rfl ?_
  refine L_aload_n (i := 0) dL_law_1003 rfl rfl ?_
  refine L_iload_n (i := 3) dL_law_1004 rfl rfl ?_
  refine L_iconst dL_law_1005 ?_
  refine L_iadd dL_law_1006 ?_
  refine L_ialdS (k := i + 1) dL_law_1007 hL (by omega) (by omega) ?_
  refine L_aload_n (i := 0) dL_law_1008 rfl rfl ?_
  refine L_iload_n (i := 3) dL_law_1009 rfl rfl ?_
  refine L_iconst dL_law_1010 ?_
  refine L_iadd dL_law_1011 ?_
  refine L_ialdS (k := i + 2) dL_law_1012 hL (by omega) (by omega) ?_
  refine L_aload_n (i := 0) dL_law_1013 rfl rfl ?_
  refine L_iload_n (i := 3) dL_law_1014 rfl rfl ?_
  refine L_iconst dL_law_1015 ?_
  refine L_iadd dL_law_1016 ?_
  refine L_ialdS (k := i + 3) dL_law_1017 hL (by omega) (by omega) ?_
  refine L_wk (bc := 0 + bc) (bs := 0 + bs) (by omega) (by omega) ?_
  refine L_callV (as := [.inl (xs (i + 1)).toInt, .inl (xs (i + 2)).toInt, .inl (xs (i + 3)).toInt]) qL_136 (z e) rfl rfl (Nat.le_of_ble_eq_true rfl) (o81 hT1) dL_law_1018 (fun r_ τ2 h2 z2 => ?_)
  obtain ⟨rfl, s2⟩ := z2
  show L_ (gb_X L xs) mL_law (e + 20 + 1) bc bs 1021 [some (.inr (some 1000002)), some (.inr (some 0)), some (.inr (some 81)), some (.inl (i : Int))] [.inl v, .inl v] τ2 h2 Z
  exact L_same (tgt := 1287) dL_law_1021 (by decide) (K τ2 h2 s2)
theorem lc_30 {L : Nat} {xs : Nat → Int32} (e : Nat) {bc bs : Nat} {τ : TT} {h : HT} {Z : ZT} (hL : L ≤ 384) (i : Nat) (hi : i + 6 ≤ L) (s : SIM τ h) (K : ∀ (τ1 : TT) (h1 : HT), SIM τ1 h1 → L_ (gb_X L xs) mL_law (e + 20 + 1) bc bs 1287 [some (.inr (some 1000002)), some (.inr (some 0)), some (.inr (some 81)), some (.inl (i : Int))] [] τ1 h1 Z) : L_ (gb_X L xs) mL_law (e + 20 + 1) (2 + bc) (302 + bs) 1026 [some (.inr (some 1000002)), some (.inr (some 0)), some (.inr (some 81)), some (.inl (i : Int))] [] τ h Z := by
  refine L_wk (bc := 0 + bc) (bs := 0 + bs) (by omega) (by omega) ?_
  refine L_aload_n (i := 1) dL_law_1026 rfl rfl ?_
  refine L_aload_n (i := 0) dL_law_1027 rfl rfl ?_
  refine L_iload_n (i := 3) dL_law_1028 rfl rfl ?_
  refine L_iconst dL_law_1029 ?_
  refine L_iadd dL_law_1030 ?_
  refine L_ialdS (k := i + 1) dL_law_1031 hL (by omega) (by omega) ?_
  refine L_callV (as := [.inl (xs (i + 1)).toInt]) qL_137 (op_trace s (xs (i + 1)).toInt (i32r _) e) rfl rfl (Nat.le_of_ble_eq_true rfl) (o0 s.1) dL_law_1032 (fun r_ τ1 h1 z => ?_)
  obtain ⟨v, rfl, hT1, z⟩ := z
  show L_ (gb_X L xs) mL_law (e + 20 + 1) bc bs 1035 [some (.inr (some 1000002)), some (.inr (some 0)), some (.inr (some 81)), some (.inl (i : Int))] [.inl v] τ1 h1 Z
  refine L_aload_n (i := 2) dL_law_1035 rfl rfl ?_
  refine L_aload_n (i := 0) dL_law_1036 rfl rfl ?_
  refine L_iload_n (i := 3) dL_law_1037 rfl rfl ?_
  refine L_iconst dL_law_1038 ?_
  refine L_iadd dL_law_1039 ?_
  refine L_ialdS (k := i + 1) dL_law_1040 hL (by omega) (by omega) ?_
  refine L_wk (bc := 0 + bc) (bs := 0 + bs) (by omega) (by omega) ?_
  refine L_callV (as := [.inl (xs (i + 1)).toInt]) qL_140 (z e) rfl rfl (Nat.le_of_ble_eq_true rfl) (o81 hT1) dL_law_1041 (fun r_ τ2 h2 z2 => ?_)
  obtain ⟨rfl, s2⟩ := z2
  show L_ (gb_X L xs) mL_law (e + 20 + 1) bc bs 1044 [some (.inr (some 1000002)), some (.inr (some 0)), some (.inr (some 81)), some (.inl (i : Int))] [.inl v, .inl v] τ2 h2 Z
  exact L_same (tgt := 1287) dL_law_1044 (by decide) (K τ2 h2 s2)
theorem lc_31 {L : Nat} {xs : Nat → Int32} (e : Nat) {bc bs : Nat} {τ : TT} {h : HT} {Z : ZT} (hL : L ≤ 384) (i : Nat) (hi : i + 6 ≤ L) (s : SIM τ h) (K : ∀ (τ1 : TT) (h1 : HT), SIM τ1 h1 → L_ (gb_X L xs) mL_law (e + 20 + 1) bc bs 1287 [some (.inr (some 1000002)), some (.inr (some 0)), some (.inr (some 81)), some (.inl (i : Int))] [] τ1 h1 Z) : L_ (gb_X L xs) mL_law (e + 20 + 1) (2 + bc) (302 + bs) 1049 [some (.inr (some 1000002)), some (.inr (some 0)), some (.inr (some 81)), some (.inl (i : Int))] [] τ h Z := by
  refine L_wk (bc := 0 + bc) (bs := 0 + bs) (by omega) (by omega) ?_
  refine L_aload_n (i := 1) dL_law_1049 rfl rfl ?_
  refine L_aload_n (i := 0) dL_law_1050 rfl rfl ?_
  refine L_iload_n (i := 3) dL_law_1051 rfl rfl ?_
  refine L_iconst dL_law_1052 ?_
  refine L_iadd dL_law_1053 ?_
  refine L_ialdS (k := i + 1) dL_law_1054 hL (by omega) (by omega) ?_
  refine L_aload_n (i := 0) dL_law_1055 rfl rfl ?_
  refine L_iload_n (i := 3) dL_law_1056 rfl rfl ?_
  refine L_iconst dL_law_1057 ?_
  refine L_iadd dL_law_1058 ?_
  refine L_ialdS (k := i + 2) dL_law_1059 hL (by omega) (by omega) ?_
  refine L_callV (as := [.inl (xs (i + 1)).toInt, .inl (xs (i + 2)).toInt]) qL_141 (op_taken s (xs (i + 1)).toInt (xs (i + 2)).toInt (i32r _) (i32r _) e) rfl rfl (Nat.le_of_ble_eq_true rfl) (o0 s.1) dL_law_1060 (fun r_ τ1 h1 z => ?_)
  obtain ⟨v, rfl, hT1, z⟩ := z
  show L_ (gb_X L xs) mL_law (e + 20 + 1) bc bs 1063 [some (.inr (some 1000002)), some (.inr (some 0)), some (.inr (some 81)), some (.inl (i : Int))] [.inl v] τ1 h1 Z
  refine L_aload_n (i := 2) dL_law_1063 rfl rfl ?_
  refine L_aload_n (i := 0) dL_law_1064 rfl rfl ?_
  refine L_iload_n (i := 3) dL_law_1065 rfl rfl ?_
  refine L_iconst dL_law_1066 ?_
  refine L_iadd dL_law_1067 ?_
  refine L_ialdS (k := i + 1) dL_law_1068 hL (by omega) (by omega) ?_
  refine L_aload_n (i := 0) dL_law_1069 rfl rfl ?_
  refine L_iload_n (i := 3) dL_law_1070 rfl rfl ?_
  refine L_iconst dL_law_1071 ?_
  refine L_iadd dL_law_1072 ?_
  refine L_ialdS (k := i + 2) dL_law_1073 hL (by omega) (by omega) ?_
  refine L_wk (bc := 0 + bc) (bs := 0 + bs) (by omega) (by omega) ?_
  refine L_callV (as := [.inl (xs (i + 1)).toInt, .inl (xs (i + 2)).toInt]) qL_144 (z e) rfl rfl (Nat.le_of_ble_eq_true rfl) (o81 hT1) dL_law_1074 (fun r_ τ2 h2 z2 => ?_)
  obtain ⟨rfl, s2⟩ := z2
  show L_ (gb_X L xs) mL_law (e + 20 + 1) bc bs 1077 [some (.inr (some 1000002)), some (.inr (some 0)), some (.inr (some 81)), some (.inl (i : Int))] [.inl v, .inl v] τ2 h2 Z
  exact L_same (tgt := 1287) dL_law_1077 (by decide) (K τ2 h2 s2)
theorem lc_32 {L : Nat} {xs : Nat → Int32} (e : Nat) {bc bs : Nat} {τ : TT} {h : HT} {Z : ZT} (hL : L ≤ 384) (i : Nat) (hi : i + 6 ≤ L) (s : SIM τ h) (K : ∀ (τ1 : TT) (h1 : HT), SIM τ1 h1 → L_ (gb_X L xs) mL_law (e + 20 + 1) bc bs 1287 [some (.inr (some 1000002)), some (.inr (some 0)), some (.inr (some 81)), some (.inl (i : Int))] [] τ1 h1 Z) : L_ (gb_X L xs) mL_law (e + 20 + 1) (2 + bc) (302 + bs) 1082 [some (.inr (some 1000002)), some (.inr (some 0)), some (.inr (some 81)), some (.inl (i : Int))] [] τ h Z := by
  refine L_wk (bc := 0 + bc) (bs := 0 + bs) (by omega) (by omega) ?_
  refine L_aload_n (i := 1) dL_law_1082 rfl rfl ?_
  refine L_aload_n (i := 0) dL_law_1083 rfl rfl ?_
  refine L_iload_n (i := 3) dL_law_1084 rfl rfl ?_
  refine L_iconst dL_law_1085 ?_
  refine L_iadd dL_law_1086 ?_
  refine L_ialdS (k := i + 1) dL_law_1087 hL (by omega) (by omega) ?_
  refine L_callV (as := [.inl (xs (i + 1)).toInt]) qL_145 (op_count s (xs (i + 1)).toInt (i32r _) e) rfl rfl (Nat.le_of_ble_eq_true rfl) (o0 s.1) dL_law_1088 (fun r_ τ1 h1 z => ?_)
  obtain ⟨v, rfl, hT1, z⟩ := z
  show L_ (gb_X L xs) mL_law (e + 20 + 1) bc bs 1091 [some (.inr (some 1000002)), some (.inr (some 0)), some (.inr (some 81)), some (.inl (i : Int))] [.inl v] τ1 h1 Z
  refine L_aload_n (i := 2) dL_law_1091 rfl rfl ?_
  refine L_aload_n (i := 0) dL_law_1092 rfl rfl ?_
  refine L_iload_n (i := 3) dL_law_1093 rfl rfl ?_
  refine L_iconst dL_law_1094 ?_
  refine L_iadd dL_law_1095 ?_
  refine L_ialdS (k := i + 1) dL_law_1096 hL (by omega) (by omega) ?_
  refine L_wk (bc := 0 + bc) (bs := 0 + bs) (by omega) (by omega) ?_
  refine L_callV (as := [.inl (xs (i + 1)).toInt]) qL_148 (z e) rfl rfl (Nat.le_of_ble_eq_true rfl) (o81 hT1) dL_law_1097 (fun r_ τ2 h2 z2 => ?_)
  obtain ⟨rfl, s2⟩ := z2
  show L_ (gb_X L xs) mL_law (e + 20 + 1) bc bs 1100 [some (.inr (some 1000002)), some (.inr (some 0)), some (.inr (some 81)), some (.inl (i : Int))] [.inl v, .inl v] τ2 h2 Z
  exact L_same (tgt := 1287) dL_law_1100 (by decide) (K τ2 h2 s2)
theorem lc_33 {L : Nat} {xs : Nat → Int32} (e : Nat) {bc bs : Nat} {τ : TT} {h : HT} {Z : ZT} (hL : L ≤ 384) (i : Nat) (hi : i + 6 ≤ L) (s : SIM τ h) (K : ∀ (τ1 : TT) (h1 : HT), SIM τ1 h1 → L_ (gb_X L xs) mL_law (e + 20 + 1) bc bs 1287 [some (.inr (some 1000002)), some (.inr (some 0)), some (.inr (some 81)), some (.inl (i : Int))] [] τ1 h1 Z) : L_ (gb_X L xs) mL_law (e + 20 + 1) (2 + bc) (302 + bs) 1105 [some (.inr (some 1000002)), some (.inr (some 0)), some (.inr (some 81)), some (.inl (i : Int))] [] τ h Z := by
  refine L_wk (bc := 0 + bc) (bs := 0 + bs) (by omega) (by omega) ?_
  refine L_aload_n (i := 1) dL_law_1105 rfl rfl ?_
  refine L_aload_n (i := 0) dL_law_1106 rfl rfl ?_
  refine L_iload_n (i := 3) dL_law_1107 rfl rfl ?_
  refine L_iconst dL_law_1108 ?_
  refine L_iadd dL_law_1109 ?_
  refine L_ialdS (k := i + 1) dL_law_1110 hL (by omega) (by omega) ?_
  refine L_aload_n (i := 0) dL_law_1111 rfl rfl ?_
  refine L_iload_n (i := 3) dL_law_1112 rfl rfl ?_
  refine L_iconst dL_law_1113 ?_
  refine L_iadd dL_law_1114 ?_
  refine L_ialdS (k := i + 2) dL_law_1115 hL (by omega) (by omega) ?_
  refine L_aload_n (i := 0) dL_law_1116 rfl rfl ?_
  refine L_iload_n (i := 3) dL_law_1117 rfl rfl ?_
  refine L_iconst dL_law_1118 ?_
  refine L_iadd dL_law_1119 ?_
  refine L_ialdS (k := i + 3) dL_law_1120 hL (by omega) (by omega) ?_
  refine L_callV (as := [.inl (xs (i + 1)).toInt, .inl (xs (i + 2)).toInt, .inl (xs (i + 3)).toInt]) qL_149 (op_tape s (xs (i + 1)).toInt (xs (i + 2)).toInt (xs (i + 3)).toInt (i32r _) (i32r _) (i32r _) e) rfl rfl (Nat.le_of_ble_eq_true rfl) (o0 s.1) dL_law_1121 (fun r_ τ1 h1 z => ?_)
  obtain ⟨v, rfl, hT1, z⟩ := z
  show L_ (gb_X L xs) mL_law (e + 20 + 1) bc bs 1124 [some (.inr (some 1000002)), some (.inr (some 0)), some (.inr (some 81)), some (.inl (i : Int))] [.inl v] τ1 h1 Z
  refine L_aload_n (i := 2) dL_law_1124 rfl rfl ?_
  refine L_aload_n (i := 0) dL_law_1125 rfl rfl ?_
  refine L_iload_n (i := 3) dL_law_1126 rfl rfl ?_
  refine L_iconst dL_law_1127 ?_
  refine L_iadd dL_law_1128 ?_
  refine L_ialdS (k := i + 1) dL_law_1129 hL (by omega) (by omega) ?_
  refine L_aload_n (i := 0) dL_law_1130 rfl rfl ?_
  refine L_iload_n (i := 3) dL_law_1131 rfl rfl ?_
  refine L_iconst dL_law_1132 ?_
  refine L_iadd dL_law_1133 ?_
  refine L_ialdS (k := i + 2) dL_law_1134 hL (by omega) (by omega) ?_
  refine L_aload_n (i := 0) dL_law_1135 rfl rfl ?_
  refine L_iload_n (i := 3) dL_law_1136 rfl rfl ?_
  refine L_iconst dL_law_1137 ?_
  refine L_iadd dL_law_1138 ?_
  refine L_ialdS (k := i + 3) dL_law_1139 hL (by omega) (by omega) ?_
  refine L_wk (bc := 0 + bc) (bs := 0 + bs) (by omega) (by omega) ?_
  refine L_callV (as := [.inl (xs (i + 1)).toInt, .inl (xs (i + 2)).toInt, .inl (xs (i + 3)).toInt]) qL_152 (z e) rfl rfl (Nat.le_of_ble_eq_true rfl) (o81 hT1) dL_law_1140 (fun r_ τ2 h2 z2 => ?_)
  obtain ⟨rfl, s2⟩ := z2
  show L_ (gb_X L xs) mL_law (e + 20 + 1) bc bs 1143 [some (.inr (some 1000002)), some (.inr (some 0)), some (.inr (some 81)), some (.inl (i : Int))] [.inl v, .inl v] τ2 h2 Z
  exact L_same (tgt := 1287) dL_law_1143 (by decide) (K τ2 h2 s2)
theorem lc_34 {L : Nat} {xs : Nat → Int32} (e : Nat) {bc bs : Nat} {τ : TT} {h : HT} {Z : ZT} (hL : L ≤ 384) (i : Nat) (hi : i + 6 ≤ L) (s : SIM τ h) (K : ∀ (τ1 : TT) (h1 : HT), SIM τ1 h1 → L_ (gb_X L xs) mL_law (e + 20 + 1) bc bs 1287 [some (.inr (some 1000002)), some (.inr (some 0)), some (.inr (some 81)), some (.inl (i : Int))] [] τ1 h1 Z) : L_ (gb_X L xs) mL_law (e + 20 + 1) (2 + bc) (302 + bs) 1148 [some (.inr (some 1000002)), some (.inr (some 0)), some (.inr (some 81)), some (.inl (i : Int))] [] τ h Z := by
  refine L_wk (bc := 0 + bc) (bs := 0 + bs) (by omega) (by omega) ?_
  refine L_aload_n (i := 1) dL_law_1148 rfl rfl ?_
  refine L_aload_n (i := 0) dL_law_1149 rfl rfl ?_
  refine L_iload_n (i := 3) dL_law_1150 rfl rfl ?_
  refine L_iconst dL_law_1151 ?_
  refine L_iadd dL_law_1152 ?_
  refine L_ialdS (k := i + 1) dL_law_1153 hL (by omega) (by omega) ?_
  refine L_aload_n (i := 0) dL_law_1154 rfl rfl ?_
  refine L_iload_n (i := 3) dL_law_1155 rfl rfl ?_
  refine L_iconst dL_law_1156 ?_
  refine L_iadd dL_law_1157 ?_
  refine L_ialdS (k := i + 2) dL_law_1158 hL (by omega) (by omega) ?_
  refine L_aload_n (i := 0) dL_law_1159 rfl rfl ?_
  refine L_iload_n (i := 3) dL_law_1160 rfl rfl ?_
  refine L_iconst dL_law_1161 ?_
  refine L_iadd dL_law_1162 ?_
  refine L_ialdS (k := i + 3) dL_law_1163 hL (by omega) (by omega) ?_
  refine L_callV (as := [.inl (xs (i + 1)).toInt, .inl (xs (i + 2)).toInt, .inl (xs (i + 3)).toInt]) qL_153 (op_item s (xs (i + 1)).toInt (xs (i + 2)).toInt (xs (i + 3)).toInt (i32r _) (i32r _) (i32r _) e) rfl rfl (Nat.le_of_ble_eq_true rfl) (o0 s.1) dL_law_1164 (fun r_ τ1 h1 z => ?_)
  obtain ⟨v, rfl, hT1, z⟩ := z
  show L_ (gb_X L xs) mL_law (e + 20 + 1) bc bs 1167 [some (.inr (some 1000002)), some (.inr (some 0)), some (.inr (some 81)), some (.inl (i : Int))] [.inl v] τ1 h1 Z
  refine L_aload_n (i := 2) dL_law_1167 rfl rfl ?_
  refine L_aload_n (i := 0) dL_law_1168 rfl rfl ?_
  refine L_iload_n (i := 3) dL_law_1169 rfl rfl ?_
  refine L_iconst dL_law_1170 ?_
  refine L_iadd dL_law_1171 ?_
  refine L_ialdS (k := i + 1) dL_law_1172 hL (by omega) (by omega) ?_
  refine L_aload_n (i := 0) dL_law_1173 rfl rfl ?_
  refine L_iload_n (i := 3) dL_law_1174 rfl rfl ?_
  refine L_iconst dL_law_1175 ?_
  refine L_iadd dL_law_1176 ?_
  refine L_ialdS (k := i + 2) dL_law_1177 hL (by omega) (by omega) ?_
  refine L_aload_n (i := 0) dL_law_1178 rfl rfl ?_
  refine L_iload_n (i := 3) dL_law_1179 rfl rfl ?_
  refine L_iconst dL_law_1180 ?_
  refine L_iadd dL_law_1181 ?_
  refine L_ialdS (k := i + 3) dL_law_1182 hL (by omega) (by omega) ?_
  refine L_wk (bc := 0 + bc) (bs := 0 + bs) (by omega) (by omega) ?_
  refine L_callV (as := [.inl (xs (i + 1)).toInt, .inl (xs (i + 2)).toInt, .inl (xs (i + 3)).toInt]) qL_156 (z e) rfl rfl (Nat.le_of_ble_eq_true rfl) (o81 hT1) dL_law_1183 (fun r_ τ2 h2 z2 => ?_)
  obtain ⟨rfl, s2⟩ := z2
  show L_ (gb_X L xs) mL_law (e + 20 + 1) bc bs 1186 [some (.inr (some 1000002)), some (.inr (some 0)), some (.inr (some 81)), some (.inl (i : Int))] [.inl v, .inl v] τ2 h2 Z
  exact L_same (tgt := 1287) dL_law_1186 (by decide) (K τ2 h2 s2)
theorem lc_35 {L : Nat} {xs : Nat → Int32} (e : Nat) {bc bs : Nat} {τ : TT} {h : HT} {Z : ZT} (hL : L ≤ 384) (i : Nat) (hi : i + 6 ≤ L) (s : SIM τ h) (K : ∀ (τ1 : TT) (h1 : HT), SIM τ1 h1 → L_ (gb_X L xs) mL_law (e + 20 + 1) bc bs 1287 [some (.inr (some 1000002)), some (.inr (some 0)), some (.inr (some 81)), some (.inl (i : Int))] [] τ1 h1 Z) : L_ (gb_X L xs) mL_law (e + 20 + 1) (2 + bc) (302 + bs) 1191 [some (.inr (some 1000002)), some (.inr (some 0)), some (.inr (some 81)), some (.inl (i : Int))] [] τ h Z := by
  refine L_wk (bc := 0 + bc) (bs := 0 + bs) (by omega) (by omega) ?_
  refine L_aload_n (i := 1) dL_law_1191 rfl rfl ?_
  refine L_aload_n (i := 0) dL_law_1192 rfl rfl ?_
  refine L_iload_n (i := 3) dL_law_1193 rfl rfl ?_
  refine L_iconst dL_law_1194 ?_
  refine L_iadd dL_law_1195 ?_
  refine L_ialdS (k := i + 1) dL_law_1196 hL (by omega) (by omega) ?_
  refine L_aload_n (i := 0) dL_law_1197 rfl rfl ?_
  refine L_iload_n (i := 3) dL_law_1198 rfl rfl ?_
  refine L_iconst dL_law_1199 ?_
  refine L_iadd dL_law_1200 ?_
  refine L_ialdS (k := i + 2) dL_law_1201 hL (by omega) (by omega) ?_
  refine L_callV (as := [.inl (xs (i + 1)).toInt, .inl (xs (i + 2)).toInt]) qL_157 (op_read s (xs (i + 1)).toInt (xs (i + 2)).toInt (i32r _) (i32r _) e) rfl rfl (Nat.le_of_ble_eq_true rfl) (o0 s.1) dL_law_1202 (fun r_ τ1 h1 z => ?_)
  obtain ⟨v, rfl, hT1, z⟩ := z
  show L_ (gb_X L xs) mL_law (e + 20 + 1) bc bs 1205 [some (.inr (some 1000002)), some (.inr (some 0)), some (.inr (some 81)), some (.inl (i : Int))] [.inl v] τ1 h1 Z
  refine L_aload_n (i := 2) dL_law_1205 rfl rfl ?_
  refine L_aload_n (i := 0) dL_law_1206 rfl rfl ?_
  refine L_iload_n (i := 3) dL_law_1207 rfl rfl ?_
  refine L_iconst dL_law_1208 ?_
  refine L_iadd dL_law_1209 ?_
  refine L_ialdS (k := i + 1) dL_law_1210 hL (by omega) (by omega) ?_
  refine L_aload_n (i := 0) dL_law_1211 rfl rfl ?_
  refine L_iload_n (i := 3) dL_law_1212 rfl rfl ?_
  refine L_iconst dL_law_1213 ?_
  refine L_iadd dL_law_1214 ?_
  refine L_ialdS (k := i + 2) dL_law_1215 hL (by omega) (by omega) ?_
  refine L_wk (bc := 0 + bc) (bs := 0 + bs) (by omega) (by omega) ?_
  refine L_callV (as := [.inl (xs (i + 1)).toInt, .inl (xs (i + 2)).toInt]) qL_160 (z e) rfl rfl (Nat.le_of_ble_eq_true rfl) (o81 hT1) dL_law_1216 (fun r_ τ2 h2 z2 => ?_)
  obtain ⟨rfl, s2⟩ := z2
  show L_ (gb_X L xs) mL_law (e + 20 + 1) bc bs 1219 [some (.inr (some 1000002)), some (.inr (some 0)), some (.inr (some 81)), some (.inl (i : Int))] [.inl v, .inl v] τ2 h2 Z
  exact L_same (tgt := 1287) dL_law_1219 (by decide) (K τ2 h2 s2)
theorem lc_36 {L : Nat} {xs : Nat → Int32} (e : Nat) {bc bs : Nat} {τ : TT} {h : HT} {Z : ZT} (hL : L ≤ 384) (i : Nat) (hi : i + 6 ≤ L) (s : SIM τ h) (K : ∀ (τ1 : TT) (h1 : HT), SIM τ1 h1 → L_ (gb_X L xs) mL_law (e + 20 + 1) bc bs 1287 [some (.inr (some 1000002)), some (.inr (some 0)), some (.inr (some 81)), some (.inl (i : Int))] [] τ1 h1 Z) : L_ (gb_X L xs) mL_law (e + 20 + 1) (2 + bc) (302 + bs) 1224 [some (.inr (some 1000002)), some (.inr (some 0)), some (.inr (some 81)), some (.inl (i : Int))] [] τ h Z := by
  refine L_wk (bc := 0 + bc) (bs := 0 + bs) (by omega) (by omega) ?_
  refine L_aload_n (i := 1) dL_law_1224 rfl rfl ?_
  refine L_aload_n (i := 0) dL_law_1225 rfl rfl ?_
  refine L_iload_n (i := 3) dL_law_1226 rfl rfl ?_
  refine L_iconst dL_law_1227 ?_
  refine L_iadd dL_law_1228 ?_
  refine L_ialdS (k := i + 1) dL_law_1229 hL (by omega) (by omega) ?_
  refine L_aload_n (i := 0) dL_law_1230 rfl rfl ?_
  refine L_iload_n (i := 3) dL_law_1231 rfl rfl ?_
  refine L_iconst dL_law_1232 ?_
  refine L_iadd dL_law_1233 ?_
  refine L_ialdS (k := i + 2) dL_law_1234 hL (by omega) (by omega) ?_
  refine L_aload_n (i := 0) dL_law_1235 rfl rfl ?_
  refine L_iload_n (i := 3) dL_law_1236 rfl rfl ?_
  refine L_iconst dL_law_1237 ?_
  refine L_iadd dL_law_1238 ?_
  refine L_ialdS (k := i + 3) dL_law_1239 hL (by omega) (by omega) ?_
  refine L_aload_n (i := 0) dL_law_1240 rfl rfl ?_
  refine L_iload_n (i := 3) dL_law_1241 rfl rfl ?_
  refine L_iconst dL_law_1242 ?_
  refine L_iadd dL_law_1243 ?_
  refine L_ialdS (k := i + 4) dL_law_1244 hL (by omega) (by omega) ?_
  refine L_aload_n (i := 0) dL_law_1245 rfl rfl ?_
  refine L_iload_n (i := 3) dL_law_1246 rfl rfl ?_
  refine L_iconst dL_law_1247 ?_
  refine L_iadd dL_law_1248 ?_
  refine L_ialdS (k := i + 5) dL_law_1249 hL (by omega) (by omega) ?_
  refine L_callV (as := [.inl (xs (i + 1)).toInt, .inl (xs (i + 2)).toInt, .inl (xs (i + 3)).toInt, .inl (xs (i + 4)).toInt, .inl (xs (i + 5)).toInt]) qL_161 (op_shift s (xs (i + 1)).toInt (xs (i + 2)).toInt (xs (i + 3)).toInt (xs (i + 4)).toInt (xs (i + 5)).toInt (i32r _) (i32r _) (i32r _) (i32r _) (i32r _) e) rfl rfl (Nat.le_of_ble_eq_true rfl) (o0 s.1) dL_law_1250 (fun r_ τ1 h1 z => ?_)
  obtain ⟨v, rfl, hT1, z⟩ := z
  show L_ (gb_X L xs) mL_law (e + 20 + 1) bc bs 1253 [some (.inr (some 1000002)), some (.inr (some 0)), some (.inr (some 81)), some (.inl (i : Int))] [.inl v] τ1 h1 Z
  refine L_aload_n (i := 2) dL_law_1253 rfl rfl ?_
  refine L_aload_n (i := 0) dL_law_1254 rfl rfl ?_
  refine L_iload_n (i := 3) dL_law_1255 rfl rfl ?_
  refine L_iconst dL_law_1256 ?_
  refine L_iadd dL_law_1257 ?_
  refine L_ialdS (k := i + 1) dL_law_1258 hL (by omega) (by omega) ?_
  refine L_aload_n (i := 0) dL_law_1259 rfl rfl ?_
  refine L_iload_n (i := 3) dL_law_1260 rfl rfl ?_
  refine L_iconst dL_law_1261 ?_
  refine L_iadd dL_law_1262 ?_
  refine L_ialdS (k := i + 2) dL_law_1263 hL (by omega) (by omega) ?_
  refine L_aload_n (i := 0) dL_law_1264 rfl rfl ?_
  refine L_iload_n (i := 3) dL_law_1265 rfl rfl ?_
  refine L_iconst dL_law_1266 ?_
  refine L_iadd dL_law_1267 ?_
  refine L_ialdS (k := i + 3) dL_law_1268 hL (by omega) (by omega) ?_
  refine L_aload_n (i := 0) dL_law_1269 rfl rfl ?_
  refine L_iload_n (i := 3) dL_law_1270 rfl rfl ?_
  refine L_iconst dL_law_1271 ?_
  refine L_iadd dL_law_1272 ?_
  refine L_ialdS (k := i + 4) dL_law_1273 hL (by omega) (by omega) ?_
  refine L_aload_n (i := 0) dL_law_1274 rfl rfl ?_
  refine L_iload_n (i := 3) dL_law_1275 rfl rfl ?_
  refine L_iconst dL_law_1276 ?_
  refine L_iadd dL_law_1277 ?_
  refine L_ialdS (k := i + 5) dL_law_1278 hL (by omega) (by omega) ?_
  refine L_wk (bc := 0 + bc) (bs := 0 + bs) (by omega) (by omega) ?_
  refine L_callV (as := [.inl (xs (i + 1)).toInt, .inl (xs (i + 2)).toInt, .inl (xs (i + 3)).toInt, .inl (xs (i + 4)).toInt, .inl (xs (i + 5)).toInt]) qL_165 (z e) rfl rfl (Nat.le_of_ble_eq_true rfl) (o81 hT1) dL_law_1279 (fun r_ τ2 h2 z2 => ?_)
  obtain ⟨rfl, s2⟩ := z2
  show L_ (gb_X L xs) mL_law (e + 20 + 1) bc bs 1282 [some (.inr (some 1000002)), some (.inr (some 0)), some (.inr (some 81)), some (.inl (i : Int))] [.inl v, .inl v] τ2 h2 Z
  exact L_same (tgt := 1287) dL_law_1282 (by decide) (K τ2 h2 s2)
theorem law_E {L : Nat} {xs : Nat → Int32} (e : Nat) (hL : L ≤ 384) {bc bs : Nat} (i : Nat) (τ : TT) (h : HT) (s : SIM τ h) (h2 : i ≤ 400) (K : i + 6 ≤ L → L_ (gb_X L xs) mL_law (e + 20 + 1) bc bs 27 [some (.inr (some 1000002)), some (.inr (some 0)), some (.inr (some 81)), some (.inl (i : Int))] [] τ h (fun r _ _ => r = some (.inl 1))) : L_ (gb_X L xs) mL_law (e + 20 + 1) bc bs 18 [some (.inr (some 1000002)), some (.inr (some 0)), some (.inr (some 81)), some (.inl (i : Int))] [] τ h (fun r _ _ => r = some (.inl 1)) := by
  refine L_iload_n (i := 3) dL_law_18 rfl rfl ?_
  refine L_aload_n (i := 0) dL_law_19 rfl rfl ?_
  refine L_alenS dL_law_20 ?_
  refine L_bipush dL_law_21 (by decide) ?_
  refine L_isub dL_law_23 ?_
  refine L_icmp_gt (tgt := 1293) dL_law_24 (by decide) (by omega) (by omega) (fun q => ?_) (fun q => K (by omega))
  refine L_iconst dL_law_1293 ?_
  exact L_zret rfl (Or.inr rfl) dL_law_1294 rfl
theorem law_I {L : Nat} {xs : Nat → Int32} (e : Nat) {bc bs : Nat} {τ : TT} {h : HT} {Z : ZT} (i : Nat) (K : L_ (gb_X L xs) mL_law (e + 20 + 1) bc bs 18 [some (.inr (some 1000002)), some (.inr (some 0)), some (.inr (some 81)), some (.inl ((i + 6 : Nat) : Int))] [] τ h Z) : L_ (gb_X L xs) mL_law (e + 20 + 1) bc bs 1287 [some (.inr (some 1000002)), some (.inr (some 0)), some (.inr (some 81)), some (.inl (i : Int))] [] τ h Z := by
  refine L_iinc (ls' := [some (.inr (some 1000002)), some (.inr (some 0)), some (.inr (some 81)), some (.inl ((i : Int) + 6))]) dL_law_1287 (by decide) rfl rfl ?_
  refine L_goto (tgt := 18) dL_law_1290 (by decide) ?_
  rw [show (i : Int) + 6 = ((i + 6 : Nat) : Int) from by omega]
  exact K
theorem law_S {L : Nat} {xs : Nat → Int32} (e : Nat) {bc bs : Nat} {Z : ZT} (hL : L ≤ 384) (i : Nat) (hi : i + 6 ≤ L) (τ : TT) (h : HT) (s : SIM τ h) (K : ∀ (τ1 : TT) (h1 : HT), SIM τ1 h1 → L_ (gb_X L xs) mL_law (e + 20 + 1) bc bs 1287 [some (.inr (some 1000002)), some (.inr (some 0)), some (.inr (some 81)), some (.inl (i : Int))] [] τ1 h1 Z) : L_ (gb_X L xs) mL_law (e + 20 + 1) (2 + bc) (302 + bs) 27 [some (.inr (some 1000002)), some (.inr (some 0)), some (.inr (some 81)), some (.inl (i : Int))] [] τ h Z := by
  refine L_aload_n (i := 0) dL_law_27 rfl rfl ?_
  refine L_iload_n (i := 3) dL_law_28 rfl rfl ?_
  refine L_ialdS (k := i) dL_law_29 hL rfl (by omega) ?_
  refine L_bipush dL_law_30 (by decide) ?_
  refine L_iand dL_law_32 ?_
  have r := and63 (xs i).toInt
  generalize b_and (xs i).toInt 63 = v at r ⊢
  have K0 := L_wk (bc' := 2 + bc) (bs' := 302 + bs) (by omega) (by omega) (K τ h s)
  by_cases q0 : v = 0
  · subst q0; exact L_tswIn (tgt := 196) (off := 163) dL_law_33 (by decide) (by decide) rfl (by decide) (lc_0 e hL i hi s K)
  by_cases q1 : v = 1
  · subst q1; exact L_tswIn (tgt := 239) (off := 206) dL_law_33 (by decide) (by decide) rfl (by decide) (lc_1 e hL i hi s K)
  by_cases q2 : v = 2
  · subst q2; exact L_tswIn (tgt := 262) (off := 229) dL_law_33 (by decide) (by decide) rfl (by decide) (lc_2 e hL i hi s K)
  by_cases q3 : v = 3
  · subst q3; exact L_tswIn (tgt := 295) (off := 262) dL_law_33 (by decide) (by decide) rfl (by decide) (lc_3 e hL i hi s K)
  by_cases q4 : v = 4
  · subst q4; exact L_tswIn (tgt := 338) (off := 305) dL_law_33 (by decide) (by decide) rfl (by decide) (lc_4 e hL i hi s K)
  by_cases q5 : v = 5
  · subst q5; exact L_tswIn (tgt := 371) (off := 338) dL_law_33 (by decide) (by decide) rfl (by decide) (lc_5 e hL i hi s K)
  by_cases q6 : v = 6
  · subst q6; exact L_tswIn (tgt := 384) (off := 351) dL_law_33 (by decide) (by decide) rfl (by decide) (lc_6 e hL i hi s K)
  by_cases q7 : v = 7
  · subst q7; exact L_tswIn (tgt := 397) (off := 364) dL_law_33 (by decide) (by decide) rfl (by decide) (lc_7 e hL i hi s K)
  by_cases q8 : v = 8
  · subst q8; exact L_tswIn (tgt := 430) (off := 397) dL_law_33 (by decide) (by decide) rfl (by decide) (lc_8 e hL i hi s K)
  by_cases q9 : v = 9
  · subst q9; exact L_tswIn (tgt := 453) (off := 420) dL_law_33 (by decide) (by decide) rfl (by decide) (lc_9 e hL i hi s K)
  by_cases q10 : v = 10
  · subst q10; exact L_tswIn (tgt := 466) (off := 433) dL_law_33 (by decide) (by decide) rfl (by decide) (lc_10 e hL i hi s K)
  by_cases q11 : v = 11
  · subst q11; exact L_tswIn (tgt := 489) (off := 456) dL_law_33 (by decide) (by decide) rfl (by decide) (lc_11 e hL i hi s K)
  by_cases q12 : v = 12
  · subst q12; exact L_tswIn (tgt := 502) (off := 469) dL_law_33 (by decide) (by decide) rfl (by decide) (lc_12 e hL i hi s K)
  by_cases q13 : v = 13
  · subst q13; exact L_tswIn (tgt := 545) (off := 512) dL_law_33 (by decide) (by decide) rfl (by decide) (lc_13 e hL i hi s K)
  by_cases q14 : v = 14
  · subst q14; exact L_tswIn (tgt := 558) (off := 525) dL_law_33 (by decide) (by decide) rfl (by decide) (lc_14 e hL i hi s K)
  by_cases q15 : v = 15
  · subst q15; exact L_tswIn (tgt := 601) (off := 568) dL_law_33 (by decide) (by decide) rfl (by decide) (lc_15 e hL i hi s K)
  by_cases q16 : v = 16
  · subst q16; exact L_tswIn (tgt := 614) (off := 581) dL_law_33 (by decide) (by decide) rfl (by decide) (lc_16 e hL i hi s K)
  by_cases q17 : v = 17
  · subst q17; exact L_tswIn (tgt := 627) (off := 594) dL_law_33 (by decide) (by decide) rfl (by decide) (lc_17 e hL i hi s K)
  by_cases q18 : v = 18
  · subst q18; exact L_tswIn (tgt := 660) (off := 627) dL_law_33 (by decide) (by decide) rfl (by decide) (lc_18 e hL i hi s K)
  by_cases q19 : v = 19
  · subst q19; exact L_tswIn (tgt := 693) (off := 660) dL_law_33 (by decide) (by decide) rfl (by decide) (lc_19 e hL i hi s K)
  by_cases q20 : v = 20
  · subst q20; exact L_tswIn (tgt := 726) (off := 693) dL_law_33 (by decide) (by decide) rfl (by decide) (lc_20 e hL i hi s K)
  by_cases q21 : v = 21
  · subst q21; exact L_tswIn (tgt := 759) (off := 726) dL_law_33 (by decide) (by decide) rfl (by decide) (lc_21 e hL i hi s K)
  by_cases q22 : v = 22
  · subst q22; exact L_tswIn (tgt := 772) (off := 739) dL_law_33 (by decide) (by decide) rfl (by decide) (lc_22 e hL i hi s K)
  by_cases q23 : v = 23
  · subst q23; exact L_tswIn (tgt := 805) (off := 772) dL_law_33 (by decide) (by decide) rfl (by decide) (lc_23 e hL i hi s K)
  by_cases q24 : v = 24
  · subst q24; exact L_tswIn (tgt := 828) (off := 795) dL_law_33 (by decide) (by decide) rfl (by decide) (lc_24 e hL i hi s K)
  by_cases q25 : v = 25
  · subst q25; exact L_tswIn (tgt := 851) (off := 818) dL_law_33 (by decide) (by decide) rfl (by decide) (lc_25 e hL i hi s K)
  by_cases q26 : v = 26
  · subst q26; exact L_tswIn (tgt := 884) (off := 851) dL_law_33 (by decide) (by decide) rfl (by decide) (lc_26 e hL i hi s K)
  by_cases q27 : v = 27
  · subst q27; exact L_tswIn (tgt := 917) (off := 884) dL_law_33 (by decide) (by decide) rfl (by decide) (lc_27 e hL i hi s K)
  by_cases q28 : v = 28
  · subst q28; exact L_tswIn (tgt := 950) (off := 917) dL_law_33 (by decide) (by decide) rfl (by decide) (lc_28 e hL i hi s K)
  by_cases q29 : v = 29
  · subst q29; exact L_tswIn (tgt := 983) (off := 950) dL_law_33 (by decide) (by decide) rfl (by decide) (lc_29 e hL i hi s K)
  by_cases q30 : v = 30
  · subst q30; exact L_tswIn (tgt := 1026) (off := 993) dL_law_33 (by decide) (by decide) rfl (by decide) (lc_30 e hL i hi s K)
  by_cases q31 : v = 31
  · subst q31; exact L_tswIn (tgt := 1049) (off := 1016) dL_law_33 (by decide) (by decide) rfl (by decide) (lc_31 e hL i hi s K)
  by_cases q32 : v = 32
  · subst q32; exact L_tswIn (tgt := 1082) (off := 1049) dL_law_33 (by decide) (by decide) rfl (by decide) (lc_32 e hL i hi s K)
  by_cases q33 : v = 33
  · subst q33; exact L_tswIn (tgt := 1105) (off := 1072) dL_law_33 (by decide) (by decide) rfl (by decide) (lc_33 e hL i hi s K)
  by_cases q34 : v = 34
  · subst q34; exact L_tswIn (tgt := 1148) (off := 1115) dL_law_33 (by decide) (by decide) rfl (by decide) (lc_34 e hL i hi s K)
  by_cases q35 : v = 35
  · subst q35; exact L_tswIn (tgt := 1191) (off := 1158) dL_law_33 (by decide) (by decide) rfl (by decide) (lc_35 e hL i hi s K)
  by_cases q36 : v = 36
  · subst q36; exact L_tswIn (tgt := 1224) (off := 1191) dL_law_33 (by decide) (by decide) rfl (by decide) (lc_36 e hL i hi s K)
  exact L_tswOut (tgt := 1287) dL_law_33 (by omega) (by omega) (by decide) K0
theorem law_L {L : Nat} {xs : Nat → Int32} (e : Nat) (hL : L ≤ 384) : ∀ (n i : Nat) (τ : TT) (h : HT), L < i + 6 * n + 6 → i ≤ 400 → SIM τ h → L_ (gb_X L xs) mL_law (e + 20 + 1) (2 * n) (302 * n) 18 [some (.inr (some 1000002)), some (.inr (some 0)), some (.inr (some 81)), some (.inl (i : Int))] [] τ h (fun r _ _ => r = some (.inl 1)) := by
  intro n
  induction n with
  | zero => exact fun i τ h h1 h2 s => law_E e hL i τ h s (by omega) (fun q => absurd q (by omega))
  | succ n ih => exact fun i τ h h1 h2 s => law_E e hL i τ h s (by omega) (fun q => L_wk (bc := 2 + 2 * n) (bs := 302 + 302 * n) (by omega) (by omega) (law_S e hL i q τ h s (fun τ1 h1 s1 => law_I e i (ih (i + 6) τ1 h1 (by omega) (by omega) s1))))
