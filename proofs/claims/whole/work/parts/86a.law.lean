theorem law_sheet {Γ : GG} {X : XT} (hX : Cx Γ R_law cL_law 4 (some .boolean) 12 434 X) {b L i : Nat} {xs : Nat → Int32} (hC : ScX Γ b L xs X) (hi : i + 6 ≤ L) (next : ∀ S2, Rel S2 → G Γ X S2 1171 (lsL Γ b i) []) {S : St} (hR : Rel S) : G Γ X S 164 (lsL Γ b i) [] := by
  obtain ⟨r, Mid, hc, hr⟩ := step_sheet (Γ := Γ) (xs (i + 1)) (xs (i + 2)) (xs (i + 3)) S hR
  refine g_aload_n (i := 1) hX dL_law_164 rfl rfl ?_
  refine g_aload_n (i := 0) hX dL_law_165 rfl rfl ?_
  refine g_iload_n (i := 3) hX dL_law_166 rfl rfl ?_
  refine g_iconst hX dL_law_167 ic1 ?_
  refine g_iadd hX dL_law_168 ?_
  refine g_sld (j := i + 1) hX hC (nI_add2 i 1) (by omega) dL_law_169 ?_
  refine g_aload_n (i := 0) hX dL_law_170 rfl rfl ?_
  refine g_iload_n (i := 3) hX dL_law_171 rfl rfl ?_
  refine g_iconst hX dL_law_172 ic2 ?_
  refine g_iadd hX dL_law_173 ?_
  refine g_sld (j := i + 2) hX hC (nI_add2 i 2) (by omega) dL_law_174 ?_
  refine g_aload_n (i := 0) hX dL_law_175 rfl rfl ?_
  refine g_iload_n (i := 3) hX dL_law_176 rfl rfl ?_
  refine g_iconst hX dL_law_177 ic3 ?_
  refine g_iadd hX dL_law_178 ?_
  refine g_sld (j := i + 3) hX hC (nI_add2 i 3) (by omega) dL_law_179 ?_
  refine eL_13 hX ⟨Nat.le_of_ble_eq_true rfl, Nat.le_of_ble_eq_true rfl⟩ (Nat.le_of_ble_eq_true rfl) dL_law_180 ((hc)) (fun r1 S1 h1 => ?_)
  refine g_aload_n (i := 2) hX dL_law_183 rfl rfl ?_
  refine g_aload_n (i := 0) hX dL_law_184 rfl rfl ?_
  refine g_iload_n (i := 3) hX dL_law_185 rfl rfl ?_
  refine g_iconst hX dL_law_186 ic1 ?_
  refine g_iadd hX dL_law_187 ?_
  refine g_sld (j := i + 1) hX hC (nI_add2 i 1) (by omega) dL_law_188 ?_
  refine g_aload_n (i := 0) hX dL_law_189 rfl rfl ?_
  refine g_iload_n (i := 3) hX dL_law_190 rfl rfl ?_
  refine g_iconst hX dL_law_191 ic2 ?_
  refine g_iadd hX dL_law_192 ?_
  refine g_sld (j := i + 2) hX hC (nI_add2 i 2) (by omega) dL_law_193 ?_
  refine g_aload_n (i := 0) hX dL_law_194 rfl rfl ?_
  refine g_iload_n (i := 3) hX dL_law_195 rfl rfl ?_
  refine g_iconst hX dL_law_196 ic3 ?_
  refine g_iadd hX dL_law_197 ?_
  refine g_sld (j := i + 3) hX hC (nI_add2 i 3) (by omega) dL_law_198 ?_
  refine eL_17 hX ⟨Nat.le_of_ble_eq_true rfl, Nat.le_of_ble_eq_true rfl⟩ (Nat.le_of_ble_eq_true rfl) dL_law_199 ((hr S1 h1.2)) (fun r2 S2 h2 => ?_)
  refine g_icmp_eq (tgt := 1171) hX dL_law_202 (by decide) (fun _ => ?_) (fun h9 => absurd ((by rw [h1.1, h2.1])) h9)
  exact next S2 h2.2
theorem law_set {Γ : GG} {X : XT} (hX : Cx Γ R_law cL_law 4 (some .boolean) 12 434 X) {b L i : Nat} {xs : Nat → Int32} (hC : ScX Γ b L xs X) (hi : i + 6 ≤ L) (next : ∀ S2, Rel S2 → G Γ X S2 1171 (lsL Γ b i) []) {S : St} (hR : Rel S) : G Γ X S 207 (lsL Γ b i) [] := by
  obtain ⟨r, Mid, hc, hr⟩ := step_set (Γ := Γ) (xs (i + 1)) (xs (i + 2)) (xs (i + 3)) S hR
  refine g_aload_n (i := 1) hX dL_law_207 rfl rfl ?_
  refine g_aload_n (i := 0) hX dL_law_208 rfl rfl ?_
  refine g_iload_n (i := 3) hX dL_law_209 rfl rfl ?_
  refine g_iconst hX dL_law_210 ic1 ?_
  refine g_iadd hX dL_law_211 ?_
  refine g_sld (j := i + 1) hX hC (nI_add2 i 1) (by omega) dL_law_212 ?_
  refine g_aload_n (i := 0) hX dL_law_213 rfl rfl ?_
  refine g_iload_n (i := 3) hX dL_law_214 rfl rfl ?_
  refine g_iconst hX dL_law_215 ic2 ?_
  refine g_iadd hX dL_law_216 ?_
  refine g_sld (j := i + 2) hX hC (nI_add2 i 2) (by omega) dL_law_217 ?_
  refine g_aload_n (i := 0) hX dL_law_218 rfl rfl ?_
  refine g_iload_n (i := 3) hX dL_law_219 rfl rfl ?_
  refine g_iconst hX dL_law_220 ic3 ?_
  refine g_iadd hX dL_law_221 ?_
  refine g_sld (j := i + 3) hX hC (nI_add2 i 3) (by omega) dL_law_222 ?_
  refine eL_18 hX ⟨Nat.le_of_ble_eq_true rfl, Nat.le_of_ble_eq_true rfl⟩ (Nat.le_of_ble_eq_true rfl) dL_law_223 ((hc)) (fun r1 S1 h1 => ?_)
  refine g_aload_n (i := 2) hX dL_law_226 rfl rfl ?_
  refine g_aload_n (i := 0) hX dL_law_227 rfl rfl ?_
  refine g_iload_n (i := 3) hX dL_law_228 rfl rfl ?_
  refine g_iconst hX dL_law_229 ic1 ?_
  refine g_iadd hX dL_law_230 ?_
  refine g_sld (j := i + 1) hX hC (nI_add2 i 1) (by omega) dL_law_231 ?_
  refine g_aload_n (i := 0) hX dL_law_232 rfl rfl ?_
  refine g_iload_n (i := 3) hX dL_law_233 rfl rfl ?_
  refine g_iconst hX dL_law_234 ic2 ?_
  refine g_iadd hX dL_law_235 ?_
  refine g_sld (j := i + 2) hX hC (nI_add2 i 2) (by omega) dL_law_236 ?_
  refine g_aload_n (i := 0) hX dL_law_237 rfl rfl ?_
  refine g_iload_n (i := 3) hX dL_law_238 rfl rfl ?_
  refine g_iconst hX dL_law_239 ic3 ?_
  refine g_iadd hX dL_law_240 ?_
  refine g_sld (j := i + 3) hX hC (nI_add2 i 3) (by omega) dL_law_241 ?_
  refine eL_21 hX ⟨Nat.le_of_ble_eq_true rfl, Nat.le_of_ble_eq_true rfl⟩ (Nat.le_of_ble_eq_true rfl) dL_law_242 ((hr S1 h1.2)) (fun r2 S2 h2 => ?_)
  refine g_icmp_eq (tgt := 1171) hX dL_law_245 (by decide) (fun _ => ?_) (fun h9 => absurd ((by rw [h1.1, h2.1])) h9)
  exact next S2 h2.2
theorem law_copy {Γ : GG} {X : XT} (hX : Cx Γ R_law cL_law 4 (some .boolean) 12 434 X) {b L i : Nat} {xs : Nat → Int32} (hC : ScX Γ b L xs X) (hi : i + 6 ≤ L) (next : ∀ S2, Rel S2 → G Γ X S2 1171 (lsL Γ b i) []) {S : St} (hR : Rel S) : G Γ X S 250 (lsL Γ b i) [] := by
  obtain ⟨r, Mid, hc, hr⟩ := step_copy (Γ := Γ) (xs (i + 1)) (xs (i + 2)) (xs (i + 3)) (xs (i + 4)) (xs (i + 5)) S hR
  refine g_aload_n (i := 1) hX dL_law_250 rfl rfl ?_
  refine g_aload_n (i := 0) hX dL_law_251 rfl rfl ?_
  refine g_iload_n (i := 3) hX dL_law_252 rfl rfl ?_
  refine g_iconst hX dL_law_253 ic1 ?_
  refine g_iadd hX dL_law_254 ?_
  refine g_sld (j := i + 1) hX hC (nI_add2 i 1) (by omega) dL_law_255 ?_
  refine g_aload_n (i := 0) hX dL_law_256 rfl rfl ?_
  refine g_iload_n (i := 3) hX dL_law_257 rfl rfl ?_
  refine g_iconst hX dL_law_258 ic2 ?_
  refine g_iadd hX dL_law_259 ?_
  refine g_sld (j := i + 2) hX hC (nI_add2 i 2) (by omega) dL_law_260 ?_
  refine g_aload_n (i := 0) hX dL_law_261 rfl rfl ?_
  refine g_iload_n (i := 3) hX dL_law_262 rfl rfl ?_
  refine g_iconst hX dL_law_263 ic3 ?_
  refine g_iadd hX dL_law_264 ?_
  refine g_sld (j := i + 3) hX hC (nI_add2 i 3) (by omega) dL_law_265 ?_
  refine g_aload_n (i := 0) hX dL_law_266 rfl rfl ?_
  refine g_iload_n (i := 3) hX dL_law_267 rfl rfl ?_
  refine g_iconst hX dL_law_268 ic4 ?_
  refine g_iadd hX dL_law_269 ?_
  refine g_sld (j := i + 4) hX hC (nI_add2 i 4) (by omega) dL_law_270 ?_
  refine g_aload_n (i := 0) hX dL_law_271 rfl rfl ?_
  refine g_iload_n (i := 3) hX dL_law_272 rfl rfl ?_
  refine g_iconst hX dL_law_273 ic5 ?_
  refine g_iadd hX dL_law_274 ?_
  refine g_sld (j := i + 5) hX hC (nI_add2 i 5) (by omega) dL_law_275 ?_
  refine eL_22 hX ⟨Nat.le_of_ble_eq_true rfl, Nat.le_of_ble_eq_true rfl⟩ (Nat.le_of_ble_eq_true rfl) dL_law_276 ((hc)) (fun r1 S1 h1 => ?_)
  refine g_aload_n (i := 2) hX dL_law_279 rfl rfl ?_
  refine g_aload_n (i := 0) hX dL_law_280 rfl rfl ?_
  refine g_iload_n (i := 3) hX dL_law_281 rfl rfl ?_
  refine g_iconst hX dL_law_282 ic1 ?_
  refine g_iadd hX dL_law_283 ?_
  refine g_sld (j := i + 1) hX hC (nI_add2 i 1) (by omega) dL_law_284 ?_
  refine g_aload_n (i := 0) hX dL_law_285 rfl rfl ?_
  refine g_iload_n (i := 3) hX dL_law_286 rfl rfl ?_
  refine g_iconst hX dL_law_287 ic2 ?_
  refine g_iadd hX dL_law_288 ?_
  refine g_sld (j := i + 2) hX hC (nI_add2 i 2) (by omega) dL_law_289 ?_
  refine g_aload_n (i := 0) hX dL_law_290 rfl rfl ?_
  refine g_iload_n (i := 3) hX dL_law_291 rfl rfl ?_
  refine g_iconst hX dL_law_292 ic3 ?_
  refine g_iadd hX dL_law_293 ?_
  refine g_sld (j := i + 3) hX hC (nI_add2 i 3) (by omega) dL_law_294 ?_
  refine g_aload_n (i := 0) hX dL_law_295 rfl rfl ?_
  refine g_iload_n (i := 3) hX dL_law_296 rfl rfl ?_
  refine g_iconst hX dL_law_297 ic4 ?_
  refine g_iadd hX dL_law_298 ?_
  refine g_sld (j := i + 4) hX hC (nI_add2 i 4) (by omega) dL_law_299 ?_
  refine g_aload_n (i := 0) hX dL_law_300 rfl rfl ?_
  refine g_iload_n (i := 3) hX dL_law_301 rfl rfl ?_
  refine g_iconst hX dL_law_302 ic5 ?_
  refine g_iadd hX dL_law_303 ?_
  refine g_sld (j := i + 5) hX hC (nI_add2 i 5) (by omega) dL_law_304 ?_
  refine eL_26 hX ⟨Nat.le_of_ble_eq_true rfl, Nat.le_of_ble_eq_true rfl⟩ (Nat.le_of_ble_eq_true rfl) dL_law_305 ((hr S1 h1.2)) (fun r2 S2 h2 => ?_)
  refine g_icmp_eq (tgt := 1171) hX dL_law_308 (by decide) (fun _ => ?_) (fun h9 => absurd ((by rw [h1.1, h2.1])) h9)
  exact next S2 h2.2
theorem law_drop {Γ : GG} {X : XT} (hX : Cx Γ R_law cL_law 4 (some .boolean) 12 434 X) {b L i : Nat} {xs : Nat → Int32} (hC : ScX Γ b L xs X) (hi : i + 6 ≤ L) (next : ∀ S2, Rel S2 → G Γ X S2 1171 (lsL Γ b i) []) {S : St} (hR : Rel S) : G Γ X S 313 (lsL Γ b i) [] := by
  obtain ⟨r, Mid, hc, hr⟩ := step_drop (Γ := Γ) (xs (i + 1)) S hR
  refine g_aload_n (i := 1) hX dL_law_313 rfl rfl ?_
  refine g_aload_n (i := 0) hX dL_law_314 rfl rfl ?_
  refine g_iload_n (i := 3) hX dL_law_315 rfl rfl ?_
  refine g_iconst hX dL_law_316 ic1 ?_
  refine g_iadd hX dL_law_317 ?_
  refine g_sld (j := i + 1) hX hC (nI_add2 i 1) (by omega) dL_law_318 ?_
  refine eL_27 hX ⟨Nat.le_of_ble_eq_true rfl, Nat.le_of_ble_eq_true rfl⟩ (Nat.le_of_ble_eq_true rfl) dL_law_319 ((hc)) (fun r1 S1 h1 => ?_)
  refine g_aload_n (i := 2) hX dL_law_322 rfl rfl ?_
  refine g_aload_n (i := 0) hX dL_law_323 rfl rfl ?_
  refine g_iload_n (i := 3) hX dL_law_324 rfl rfl ?_
  refine g_iconst hX dL_law_325 ic1 ?_
  refine g_iadd hX dL_law_326 ?_
  refine g_sld (j := i + 1) hX hC (nI_add2 i 1) (by omega) dL_law_327 ?_
  refine eL_31 hX ⟨Nat.le_of_ble_eq_true rfl, Nat.le_of_ble_eq_true rfl⟩ (Nat.le_of_ble_eq_true rfl) dL_law_328 ((hr S1 h1.2)) (fun r2 S2 h2 => ?_)
  refine g_icmp_eq (tgt := 1171) hX dL_law_331 (by decide) (fun _ => ?_) (fun h9 => absurd ((by rw [h1.1, h2.1])) h9)
  exact next S2 h2.2
theorem law_asks {Γ : GG} {X : XT} (hX : Cx Γ R_law cL_law 4 (some .boolean) 12 434 X) {b L i : Nat} {xs : Nat → Int32} (hC : ScX Γ b L xs X) (hi : i + 6 ≤ L) (next : ∀ S2, Rel S2 → G Γ X S2 1171 (lsL Γ b i) []) {S : St} (hR : Rel S) : G Γ X S 336 (lsL Γ b i) [] := by
  obtain ⟨r, Mid, hc, hr⟩ := step_asks (Γ := Γ) (xs (i + 1)) (xs (i + 2)) (xs (i + 3)) S hR
  refine g_aload_n (i := 1) hX dL_law_336 rfl rfl ?_
  refine g_aload_n (i := 0) hX dL_law_337 rfl rfl ?_
  refine g_iload_n (i := 3) hX dL_law_338 rfl rfl ?_
  refine g_iconst hX dL_law_339 ic1 ?_
  refine g_iadd hX dL_law_340 ?_
  refine g_sld (j := i + 1) hX hC (nI_add2 i 1) (by omega) dL_law_341 ?_
  refine g_aload_n (i := 0) hX dL_law_342 rfl rfl ?_
  refine g_iload_n (i := 3) hX dL_law_343 rfl rfl ?_
  refine g_iconst hX dL_law_344 ic2 ?_
  refine g_iadd hX dL_law_345 ?_
  refine g_sld (j := i + 2) hX hC (nI_add2 i 2) (by omega) dL_law_346 ?_
  refine g_aload_n (i := 0) hX dL_law_347 rfl rfl ?_
  refine g_iload_n (i := 3) hX dL_law_348 rfl rfl ?_
  refine g_iconst hX dL_law_349 ic3 ?_
  refine g_iadd hX dL_law_350 ?_
  refine g_sld (j := i + 3) hX hC (nI_add2 i 3) (by omega) dL_law_351 ?_
  refine eL_32 hX ⟨Nat.le_of_ble_eq_true rfl, Nat.le_of_ble_eq_true rfl⟩ (Nat.le_of_ble_eq_true rfl) dL_law_352 ((hc)) (fun r1 S1 h1 => ?_)
  refine g_aload_n (i := 2) hX dL_law_355 rfl rfl ?_
  refine g_aload_n (i := 0) hX dL_law_356 rfl rfl ?_
  refine g_iload_n (i := 3) hX dL_law_357 rfl rfl ?_
  refine g_iconst hX dL_law_358 ic1 ?_
  refine g_iadd hX dL_law_359 ?_
  refine g_sld (j := i + 1) hX hC (nI_add2 i 1) (by omega) dL_law_360 ?_
  refine g_aload_n (i := 0) hX dL_law_361 rfl rfl ?_
  refine g_iload_n (i := 3) hX dL_law_362 rfl rfl ?_
  refine g_iconst hX dL_law_363 ic2 ?_
  refine g_iadd hX dL_law_364 ?_
  refine g_sld (j := i + 2) hX hC (nI_add2 i 2) (by omega) dL_law_365 ?_
  refine g_aload_n (i := 0) hX dL_law_366 rfl rfl ?_
  refine g_iload_n (i := 3) hX dL_law_367 rfl rfl ?_
  refine g_iconst hX dL_law_368 ic3 ?_
  refine g_iadd hX dL_law_369 ?_
  refine g_sld (j := i + 3) hX hC (nI_add2 i 3) (by omega) dL_law_370 ?_
  refine eL_35 hX ⟨Nat.le_of_ble_eq_true rfl, Nat.le_of_ble_eq_true rfl⟩ (Nat.le_of_ble_eq_true rfl) dL_law_371 ((hr S1 h1.2)) (fun r2 S2 h2 => ?_)
  refine g_icmp_eq (tgt := 1171) hX dL_law_374 (by decide) (fun _ => ?_) (fun h9 => absurd ((by rw [h1.1, h2.1])) h9)
  exact next S2 h2.2
theorem law_told {Γ : GG} {X : XT} (hX : Cx Γ R_law cL_law 4 (some .boolean) 12 434 X) {b L i : Nat} {xs : Nat → Int32} (hC : ScX Γ b L xs X) (hi : i + 6 ≤ L) (next : ∀ S2, Rel S2 → G Γ X S2 1171 (lsL Γ b i) []) {S : St} (hR : Rel S) : G Γ X S 379 (lsL Γ b i) [] := by
  obtain ⟨r, Mid, hc, hr⟩ := step_told (Γ := Γ) (xs (i + 1)) (xs (i + 2)) (xs (i + 3)) S hR
  refine g_aload_n (i := 1) hX dL_law_379 rfl rfl ?_
  refine g_aload_n (i := 0) hX dL_law_380 rfl rfl ?_
  refine g_iload_n (i := 3) hX dL_law_381 rfl rfl ?_
  refine g_iconst hX dL_law_382 ic1 ?_
  refine g_iadd hX dL_law_383 ?_
  refine g_sld (j := i + 1) hX hC (nI_add2 i 1) (by omega) dL_law_384 ?_
  refine g_aload_n (i := 0) hX dL_law_385 rfl rfl ?_
  refine g_iload_n (i := 3) hX dL_law_386 rfl rfl ?_
  refine g_iconst hX dL_law_387 ic2 ?_
  refine g_iadd hX dL_law_388 ?_
  refine g_sld (j := i + 2) hX hC (nI_add2 i 2) (by omega) dL_law_389 ?_
  refine g_aload_n (i := 0) hX dL_law_390 rfl rfl ?_
  refine g_iload_n (i := 3) hX dL_law_391 rfl rfl ?_
  refine g_iconst hX dL_law_392 ic3 ?_
  refine g_iadd hX dL_law_393 ?_
  refine g_sld (j := i + 3) hX hC (nI_add2 i 3) (by omega) dL_law_394 ?_
  refine eL_36 hX ⟨Nat.le_of_ble_eq_true rfl, Nat.le_of_ble_eq_true rfl⟩ (Nat.le_of_ble_eq_true rfl) dL_law_395 ((hc)) (fun r1 S1 h1 => ?_)
  refine g_aload_n (i := 2) hX dL_law_398 rfl rfl ?_
  refine g_aload_n (i := 0) hX dL_law_399 rfl rfl ?_
  refine g_iload_n (i := 3) hX dL_law_400 rfl rfl ?_
  refine g_iconst hX dL_law_401 ic1 ?_
  refine g_iadd hX dL_law_402 ?_
  refine g_sld (j := i + 1) hX hC (nI_add2 i 1) (by omega) dL_law_403 ?_
  refine g_aload_n (i := 0) hX dL_law_404 rfl rfl ?_
  refine g_iload_n (i := 3) hX dL_law_405 rfl rfl ?_
  refine g_iconst hX dL_law_406 ic2 ?_
  refine g_iadd hX dL_law_407 ?_
  refine g_sld (j := i + 2) hX hC (nI_add2 i 2) (by omega) dL_law_408 ?_
  refine g_aload_n (i := 0) hX dL_law_409 rfl rfl ?_
  refine g_iload_n (i := 3) hX dL_law_410 rfl rfl ?_
  refine g_iconst hX dL_law_411 ic3 ?_
  refine g_iadd hX dL_law_412 ?_
  refine g_sld (j := i + 3) hX hC (nI_add2 i 3) (by omega) dL_law_413 ?_
  refine eL_39 hX ⟨Nat.le_of_ble_eq_true rfl, Nat.le_of_ble_eq_true rfl⟩ (Nat.le_of_ble_eq_true rfl) dL_law_414 ((hr S1 h1.2)) (fun r2 S2 h2 => ?_)
  refine g_icmp_eq (tgt := 1171) hX dL_law_417 (by decide) (fun _ => ?_) (fun h9 => absurd ((by rw [h1.1, h2.1])) h9)
  exact next S2 h2.2
theorem law_came {Γ : GG} {X : XT} (hX : Cx Γ R_law cL_law 4 (some .boolean) 12 434 X) {b L i : Nat} {xs : Nat → Int32} (hC : ScX Γ b L xs X) (hi : i + 6 ≤ L) (next : ∀ S2, Rel S2 → G Γ X S2 1171 (lsL Γ b i) []) {S : St} (hR : Rel S) : G Γ X S 422 (lsL Γ b i) [] := by
  obtain ⟨r, Mid, hc, hr⟩ := step_came (Γ := Γ) (xs (i + 1)) S hR
  refine g_aload_n (i := 1) hX dL_law_422 rfl rfl ?_
  refine g_aload_n (i := 0) hX dL_law_423 rfl rfl ?_
  refine g_iload_n (i := 3) hX dL_law_424 rfl rfl ?_
  refine g_iconst hX dL_law_425 ic1 ?_
  refine g_iadd hX dL_law_426 ?_
  refine g_sld (j := i + 1) hX hC (nI_add2 i 1) (by omega) dL_law_427 ?_
  refine eL_40 hX ⟨Nat.le_of_ble_eq_true rfl, Nat.le_of_ble_eq_true rfl⟩ (Nat.le_of_ble_eq_true rfl) dL_law_428 ((hc)) (fun r1 S1 h1 => ?_)
  refine g_aload_n (i := 2) hX dL_law_431 rfl rfl ?_
  refine g_aload_n (i := 0) hX dL_law_432 rfl rfl ?_
  refine g_iload_n (i := 3) hX dL_law_433 rfl rfl ?_
  refine g_iconst hX dL_law_434 ic1 ?_
  refine g_iadd hX dL_law_435 ?_
  refine g_sld (j := i + 1) hX hC (nI_add2 i 1) (by omega) dL_law_436 ?_
  refine eL_43 hX ⟨Nat.le_of_ble_eq_true rfl, Nat.le_of_ble_eq_true rfl⟩ (Nat.le_of_ble_eq_true rfl) dL_law_437 ((hr S1 h1.2)) (fun r2 S2 h2 => ?_)
  refine g_icmp_eq (tgt := 1171) hX dL_law_440 (by decide) (fun _ => ?_) (fun h9 => absurd ((by rw [h1.1, h2.1])) h9)
  exact next S2 h2.2
theorem law_feed {Γ : GG} {X : XT} (hX : Cx Γ R_law cL_law 4 (some .boolean) 12 434 X) {b L i : Nat} {xs : Nat → Int32} (hC : ScX Γ b L xs X) (hi : i + 6 ≤ L) (next : ∀ S2, Rel S2 → G Γ X S2 1171 (lsL Γ b i) []) {S : St} (hR : Rel S) : G Γ X S 445 (lsL Γ b i) [] := by
  obtain ⟨r, Mid, hc, hr⟩ := step_feed (Γ := Γ) (((xs (i + 1)).toInt64 <<< ((32 : Int32).toInt64 &&& 63)) ||| ((xs (i + 2)).toInt64 &&& 4294967295)) (xs (i + 3)) S hR
  refine g_aload_n (i := 1) hX dL_law_445 rfl rfl ?_
  refine g_aload_n (i := 0) hX dL_law_446 rfl rfl ?_
  refine g_iload_n (i := 3) hX dL_law_447 rfl rfl ?_
  refine g_iconst hX dL_law_448 ic1 ?_
  refine g_iadd hX dL_law_449 ?_
  refine g_sld (j := i + 1) hX hC (nI_add2 i 1) (by omega) dL_law_450 ?_
  refine g_i2l hX dL_law_451 ?_
  refine g_bipush hX dL_law_452 bp32 ?_
  refine g_lshl hX dL_law_454 ?_
  refine g_aload_n (i := 0) hX dL_law_455 rfl rfl ?_
  refine g_iload_n (i := 3) hX dL_law_456 rfl rfl ?_
  refine g_iconst hX dL_law_457 ic2 ?_
  refine g_iadd hX dL_law_458 ?_
  refine g_sld (j := i + 2) hX hC (nI_add2 i 2) (by omega) dL_law_459 ?_
  refine g_i2l hX dL_law_460 ?_
  refine g_ldc2_w hX ccL_44 dL_law_461 ?_
  refine g_land hX dL_law_464 ?_
  refine g_lor hX dL_law_465 ?_
  refine g_aload_n (i := 0) hX dL_law_466 rfl rfl ?_
  refine g_iload_n (i := 3) hX dL_law_467 rfl rfl ?_
  refine g_iconst hX dL_law_468 ic3 ?_
  refine g_iadd hX dL_law_469 ?_
  refine g_sld (j := i + 3) hX hC (nI_add2 i 3) (by omega) dL_law_470 ?_
  refine eL_46 hX ⟨Nat.le_of_ble_eq_true rfl, Nat.le_of_ble_eq_true rfl⟩ (Nat.le_of_ble_eq_true rfl) dL_law_471 ((hc)) (fun r1 S1 h1 => ?_)
  refine g_aload_n (i := 2) hX dL_law_474 rfl rfl ?_
  refine g_aload_n (i := 0) hX dL_law_475 rfl rfl ?_
  refine g_iload_n (i := 3) hX dL_law_476 rfl rfl ?_
  refine g_iconst hX dL_law_477 ic1 ?_
  refine g_iadd hX dL_law_478 ?_
  refine g_sld (j := i + 1) hX hC (nI_add2 i 1) (by omega) dL_law_479 ?_
  refine g_i2l hX dL_law_480 ?_
  refine g_bipush hX dL_law_481 bp32 ?_
  refine g_lshl hX dL_law_483 ?_
  refine g_aload_n (i := 0) hX dL_law_484 rfl rfl ?_
  refine g_iload_n (i := 3) hX dL_law_485 rfl rfl ?_
  refine g_iconst hX dL_law_486 ic2 ?_
  refine g_iadd hX dL_law_487 ?_
  refine g_sld (j := i + 2) hX hC (nI_add2 i 2) (by omega) dL_law_488 ?_
  refine g_i2l hX dL_law_489 ?_
  refine g_ldc2_w hX ccL_44 dL_law_490 ?_
  refine g_land hX dL_law_493 ?_
  refine g_lor hX dL_law_494 ?_
  refine g_aload_n (i := 0) hX dL_law_495 rfl rfl ?_
  refine g_iload_n (i := 3) hX dL_law_496 rfl rfl ?_
  refine g_iconst hX dL_law_497 ic3 ?_
  refine g_iadd hX dL_law_498 ?_
  refine g_sld (j := i + 3) hX hC (nI_add2 i 3) (by omega) dL_law_499 ?_
  refine eL_50 hX ⟨Nat.le_of_ble_eq_true rfl, Nat.le_of_ble_eq_true rfl⟩ (Nat.le_of_ble_eq_true rfl) dL_law_500 ((hr S1 h1.2)) (fun r2 S2 h2 => ?_)
  refine g_icmp_eq (tgt := 1171) hX dL_law_503 (by decide) (fun _ => ?_) (fun h9 => absurd ((by rw [h1.1, h2.1])) h9)
  exact next S2 h2.2
