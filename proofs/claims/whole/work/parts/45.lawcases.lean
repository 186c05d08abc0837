/-! by program: the law's cases -/
section LC
variable {p : Program} {l : Launch} {e : Env} {s : State} {m : MethodId} {args : Array Value} {below : List Frame} {meth : Method} {c : Code} {A : Nat → Prop} {D : va_G} {cA : Nat → ClassId} {ad : Nat → Nat} {G : State → Prop} {L : Nat} {xs : Nat → Int32} {σ : ASt}
theorem lawc_0 (Y : LwX p s m args c A D cA ad L xs) {i : Int} (i0 : 0 ≤ i) (i6 : i + 6 ≤ L) {α : AB} (W : WF α) (C : CAll σ α) (Mm : MAll σ α) (back : ∀ α1 σ1, WF α1 → CAll σ1 α1 → MAll σ1 α1 → Wg p l e room_1 s m args below meth c A D cA ad 600000 7302250 G 1488 (lwL i) [] σ1) : Wg p l e room_1 s m args below meth c A D cA ad 600000 7302250 G 188 (lwL i) [] σ := by
  have X := Y.1
  have hA := Y.2.1
  refine g_aload_n X 2 dL_law_188 rfl ?_
  refine g_arg Y (n := 1) dL_law_189 dL_law_190 dL_law_191 dL_law_192 dL_law_193 i0 i6 (by omega) (by omega) ?_
  refine g_arg Y (n := 2) dL_law_194 dL_law_195 dL_law_196 dL_law_197 dL_law_198 i0 i6 (by omega) (by omega) ?_
  refine g_arg Y (n := 3) dL_law_199 dL_law_200 dL_law_201 dL_law_202 dL_law_203 i0 i6 (by omega) (by omega) ?_
  refine g_cVI X (K := K_X7_base) (Q1 := fun x τ => x = (oBase α (sc xs (i + 1)) (sc xs (i + 2)) (sc xs (i + 3))).1 ∧ CO σ τ ∧ CAll τ ((oBase α (sc xs (i + 1)) (sc xs (i + 2)) (sc xs (i + 3))).2)) [.int (iI (sc xs (i + 1))), .int (iI (sc xs (i + 2))), .int (iI (sc xs (i + 3)))] [] dL_law_204 lv_XL_13 rm_XL_13 ⟨Nat.le_refl _, Nat.le_refl _⟩ hA rfl rfl rfl (Nat.le_of_ble_eq_true rfl) rfl (C_base W C (sc_32 xs _) (sc_32 xs _) (sc_32 xs _) (fun _ a b => ⟨rfl, a, b⟩)) (fun x1 σ1 h1 q1 => ?_)
  obtain ⟨e1, a1, a2⟩ := q1
  have M1 : MAll σ1 α := a1.fr Mm W
  refine g_aload_n X 1 dL_law_207 rfl ?_
  refine g_arg Y (n := 1) dL_law_208 dL_law_209 dL_law_210 dL_law_211 dL_law_212 i0 i6 (by omega) (by omega) ?_
  refine g_arg Y (n := 2) dL_law_213 dL_law_214 dL_law_215 dL_law_216 dL_law_217 i0 i6 (by omega) (by omega) ?_
  refine g_arg Y (n := 3) dL_law_218 dL_law_219 dL_law_220 dL_law_221 dL_law_222 i0 i6 (by omega) (by omega) ?_
  have C1 : CAll σ1 ((oBase α (sc xs (i + 1)) (sc xs (i + 2)) (sc xs (i + 3))).2) := a2
  refine g_cVI X (K := K_X8_base) (Q1 := fun x τ => x = (oBase α (sc xs (i + 1)) (sc xs (i + 2)) (sc xs (i + 3))).1 ∧ MO σ1 τ ∧ MAll τ ((oBase α (sc xs (i + 1)) (sc xs (i + 2)) (sc xs (i + 3))).2)) [.int (iI (sc xs (i + 1))), .int (iI (sc xs (i + 2))), .int (iI (sc xs (i + 3)))] [.int (iI x1)] dL_law_223 lv_XL_17 rm_XL_17 ⟨Nat.le_refl _, Nat.le_refl _⟩ hA rfl rfl rfl (Nat.le_of_ble_eq_true rfl) rfl (M_base W M1 (sc_32 xs _) (sc_32 xs _) (sc_32 xs _) (fun _ a b => ⟨rfl, a, b⟩)) (fun x2 σ2 h2 q2 => ?_)
  obtain ⟨e2, b1, b2⟩ := q2
  have C2 := CAll.mo b1 C1
  exact g_icmp_eq X (tgt := 1488) dL_law_226 (by decide) h1 h2 (fun _ => back _ _ (wf_baseA W (sc xs (i + 1)) (sc xs (i + 2)) (sc xs (i + 3))) C2 b2) (fun q => absurd (e1.trans e2.symm) q)
theorem lawc_1 (Y : LwX p s m args c A D cA ad L xs) {i : Int} (i0 : 0 ≤ i) (i6 : i + 6 ≤ L) {α : AB} (W : WF α) (C : CAll σ α) (Mm : MAll σ α) (back : ∀ α1 σ1, WF α1 → CAll σ1 α1 → MAll σ1 α1 → Wg p l e room_1 s m args below meth c A D cA ad 600000 7302250 G 1488 (lwL i) [] σ1) : Wg p l e room_1 s m args below meth c A D cA ad 600000 7302250 G 231 (lwL i) [] σ := by
  have X := Y.1
  have hA := Y.2.1
  refine g_aload_n X 2 dL_law_231 rfl ?_
  refine g_arg Y (n := 1) dL_law_232 dL_law_233 dL_law_234 dL_law_235 dL_law_236 i0 i6 (by omega) (by omega) ?_
  refine g_arg Y (n := 2) dL_law_237 dL_law_238 dL_law_239 dL_law_240 dL_law_241 i0 i6 (by omega) (by omega) ?_
  refine g_cVI X (K := K_X7_of) (Q1 := fun x τ => x = (oOf α (sc xs (i + 1)) (sc xs (i + 2))) ∧ CO σ τ ∧ CAll τ α) [.int (iI (sc xs (i + 1))), .int (iI (sc xs (i + 2)))] [] dL_law_242 lv_XL_18 rm_XL_18 ⟨Nat.le_refl _, Nat.le_refl _⟩ hA rfl rfl rfl (Nat.le_of_ble_eq_true rfl) rfl (C_of W C (sc_32 xs _) (sc_32 xs _) (⟨rfl, Ag.rf, C⟩)) (fun x1 σ1 h1 q1 => ?_)
  obtain ⟨e1, a1, a2⟩ := q1
  have M1 : MAll σ1 α := a1.fr Mm W
  refine g_aload_n X 1 dL_law_245 rfl ?_
  refine g_arg Y (n := 1) dL_law_246 dL_law_247 dL_law_248 dL_law_249 dL_law_250 i0 i6 (by omega) (by omega) ?_
  refine g_arg Y (n := 2) dL_law_251 dL_law_252 dL_law_253 dL_law_254 dL_law_255 i0 i6 (by omega) (by omega) ?_
  have C1 : CAll σ1 α := a2
  refine g_cVI X (K := K_X8_of) (Q1 := fun x τ => x = (oOf α (sc xs (i + 1)) (sc xs (i + 2))) ∧ MO σ1 τ ∧ MAll τ α) [.int (iI (sc xs (i + 1))), .int (iI (sc xs (i + 2)))] [.int (iI x1)] dL_law_256 lv_XL_22 rm_XL_22 ⟨Nat.le_refl _, Nat.le_refl _⟩ hA rfl rfl rfl (Nat.le_of_ble_eq_true rfl) rfl (M_of W M1 (sc_32 xs _) (sc_32 xs _) (⟨rfl, Ag.rf, M1⟩)) (fun x2 σ2 h2 q2 => ?_)
  obtain ⟨e2, b1, b2⟩ := q2
  have C2 := CAll.mo b1 C1
  exact g_icmp_eq X (tgt := 1488) dL_law_259 (by decide) h1 h2 (fun _ => back _ _ (W) C2 b2) (fun q => absurd (e1.trans e2.symm) q)
theorem lawc_2 (Y : LwX p s m args c A D cA ad L xs) {i : Int} (i0 : 0 ≤ i) (i6 : i + 6 ≤ L) {α : AB} (W : WF α) (C : CAll σ α) (Mm : MAll σ α) (back : ∀ α1 σ1, WF α1 → CAll σ1 α1 → MAll σ1 α1 → Wg p l e room_1 s m args below meth c A D cA ad 600000 7302250 G 1488 (lwL i) [] σ1) : Wg p l e room_1 s m args below meth c A D cA ad 600000 7302250 G 264 (lwL i) [] σ := by
  have X := Y.1
  have hA := Y.2.1
  refine g_aload_n X 2 dL_law_264 rfl ?_
  refine g_arg Y (n := 1) dL_law_265 dL_law_266 dL_law_267 dL_law_268 dL_law_269 i0 i6 (by omega) (by omega) ?_
  refine g_arg Y (n := 2) dL_law_270 dL_law_271 dL_law_272 dL_law_273 dL_law_274 i0 i6 (by omega) (by omega) ?_
  refine g_arg Y (n := 3) dL_law_275 dL_law_276 dL_law_277 dL_law_278 dL_law_279 i0 i6 (by omega) (by omega) ?_
  refine g_cVL X (K := K_X7_worth) (Q1 := fun x τ => x = (oWorth α (sc xs (i + 1)) (sc xs (i + 2)) (sc xs (i + 3))) ∧ CO σ τ ∧ CAll τ α) [.int (iI (sc xs (i + 1))), .int (iI (sc xs (i + 2))), .int (iI (sc xs (i + 3)))] [] dL_law_280 lv_XL_23 rm_XL_23 ⟨Nat.le_refl _, Nat.le_refl _⟩ hA rfl rfl rfl (Nat.le_of_ble_eq_true rfl) rfl (C_worth W C (sc_32 xs _) (sc_32 xs _) (sc_32 xs _) (⟨rfl, Ag.rf, C⟩)) (fun x1 σ1 h1 q1 => ?_)
  obtain ⟨e1, a1, a2⟩ := q1
  have M1 : MAll σ1 α := a1.fr Mm W
  refine g_aload_n X 1 dL_law_283 rfl ?_
  refine g_arg Y (n := 1) dL_law_284 dL_law_285 dL_law_286 dL_law_287 dL_law_288 i0 i6 (by omega) (by omega) ?_
  refine g_arg Y (n := 2) dL_law_289 dL_law_290 dL_law_291 dL_law_292 dL_law_293 i0 i6 (by omega) (by omega) ?_
  refine g_arg Y (n := 3) dL_law_294 dL_law_295 dL_law_296 dL_law_297 dL_law_298 i0 i6 (by omega) (by omega) ?_
  have C1 : CAll σ1 α := a2
  refine g_cVL X (K := K_X8_worth_) (Q1 := fun x τ => x = (oWorth α (sc xs (i + 1)) (sc xs (i + 2)) (sc xs (i + 3))) ∧ MO σ1 τ ∧ MAll τ α) [.int (iI (sc xs (i + 1))), .int (iI (sc xs (i + 2))), .int (iI (sc xs (i + 3)))] [.long (lI x1)] dL_law_299 lv_XL_27 rm_XL_27 ⟨Nat.le_refl _, Nat.le_refl _⟩ hA rfl rfl rfl (Nat.le_of_ble_eq_true rfl) rfl (M_worth W M1 (sc_32 xs _) (sc_32 xs _) (sc_32 xs _) (⟨rfl, Ag.rf, M1⟩)) (fun x2 σ2 h2 q2 => ?_)
  obtain ⟨e2, b1, b2⟩ := q2
  have C2 := CAll.mo b1 C1
  exact g_lc_eq X (tgt := 1488) dL_law_302 dL_law_303 (by decide) h1 h2 (fun _ => back _ _ (W) C2 b2) (fun q => absurd (e1.trans e2.symm) q)
theorem lawc_3 (Y : LwX p s m args c A D cA ad L xs) {i : Int} (i0 : 0 ≤ i) (i6 : i + 6 ≤ L) {α : AB} (W : WF α) (C : CAll σ α) (Mm : MAll σ α) (back : ∀ α1 σ1, WF α1 → CAll σ1 α1 → MAll σ1 α1 → Wg p l e room_1 s m args below meth c A D cA ad 600000 7302250 G 1488 (lwL i) [] σ1) : Wg p l e room_1 s m args below meth c A D cA ad 600000 7302250 G 308 (lwL i) [] σ := by
  have X := Y.1
  have hA := Y.2.1
  refine g_aload_n X 2 dL_law_308 rfl ?_
  refine g_arg Y (n := 1) dL_law_309 dL_law_310 dL_law_311 dL_law_312 dL_law_313 i0 i6 (by omega) (by omega) ?_
  refine g_cVL X (K := K_X7_top) (Q1 := fun x τ => x = (oTop α (sc xs (i + 1))) ∧ CO σ τ ∧ CAll τ α) [.int (iI (sc xs (i + 1)))] [] dL_law_314 lv_XL_28 rm_XL_28 ⟨Nat.le_refl _, Nat.le_refl _⟩ hA rfl rfl rfl (Nat.le_of_ble_eq_true rfl) rfl (C_top W C (sc_32 xs _) (⟨rfl, Ag.rf, C⟩)) (fun x1 σ1 h1 q1 => ?_)
  obtain ⟨e1, a1, a2⟩ := q1
  have M1 : MAll σ1 α := a1.fr Mm W
  refine g_aload_n X 1 dL_law_317 rfl ?_
  refine g_arg Y (n := 1) dL_law_318 dL_law_319 dL_law_320 dL_law_321 dL_law_322 i0 i6 (by omega) (by omega) ?_
  have C1 : CAll σ1 α := a2
  refine g_cVL X (K := K_X8_top) (Q1 := fun x τ => x = (oTop α (sc xs (i + 1))) ∧ MO σ1 τ ∧ MAll τ α) [.int (iI (sc xs (i + 1)))] [.long (lI x1)] dL_law_323 lv_XL_32 rm_XL_32 ⟨Nat.le_refl _, Nat.le_refl _⟩ hA rfl rfl rfl (Nat.le_of_ble_eq_true rfl) rfl (M_top W M1 (sc_32 xs _) (⟨rfl, Ag.rf, M1⟩)) (fun x2 σ2 h2 q2 => ?_)
  obtain ⟨e2, b1, b2⟩ := q2
  have C2 := CAll.mo b1 C1
  exact g_lc_eq X (tgt := 1488) dL_law_326 dL_law_327 (by decide) h1 h2 (fun _ => back _ _ (W) C2 b2) (fun q => absurd (e1.trans e2.symm) q)
theorem lawc_4 (Y : LwX p s m args c A D cA ad L xs) {i : Int} (i0 : 0 ≤ i) (i6 : i + 6 ≤ L) {α : AB} (W : WF α) (C : CAll σ α) (Mm : MAll σ α) (back : ∀ α1 σ1, WF α1 → CAll σ1 α1 → MAll σ1 α1 → Wg p l e room_1 s m args below meth c A D cA ad 600000 7302250 G 1488 (lwL i) [] σ1) : Wg p l e room_1 s m args below meth c A D cA ad 600000 7302250 G 332 (lwL i) [] σ := by
  have X := Y.1
  have hA := Y.2.1
  refine g_aload_n X 2 dL_law_332 rfl ?_
  refine g_arg Y (n := 1) dL_law_333 dL_law_334 dL_law_335 dL_law_336 dL_law_337 i0 i6 (by omega) (by omega) ?_
  refine g_arg Y (n := 2) dL_law_338 dL_law_339 dL_law_340 dL_law_341 dL_law_342 i0 i6 (by omega) (by omega) ?_
  refine g_cVI X (K := K_X7_taken) (Q1 := fun x τ => x = (oTaken α (sc xs (i + 1)) (sc xs (i + 2))) ∧ CO σ τ ∧ CAll τ α) [.int (iI (sc xs (i + 1))), .int (iI (sc xs (i + 2)))] [] dL_law_343 lv_XL_33 rm_XL_33 ⟨Nat.le_refl _, Nat.le_refl _⟩ hA rfl rfl rfl (Nat.le_of_ble_eq_true rfl) rfl (C_taken W C (sc_32 xs _) (sc_32 xs _) (⟨rfl, Ag.rf, C⟩)) (fun x1 σ1 h1 q1 => ?_)
  obtain ⟨e1, a1, a2⟩ := q1
  have M1 : MAll σ1 α := a1.fr Mm W
  refine g_aload_n X 1 dL_law_346 rfl ?_
  refine g_arg Y (n := 1) dL_law_347 dL_law_348 dL_law_349 dL_law_350 dL_law_351 i0 i6 (by omega) (by omega) ?_
  refine g_arg Y (n := 2) dL_law_352 dL_law_353 dL_law_354 dL_law_355 dL_law_356 i0 i6 (by omega) (by omega) ?_
  have C1 : CAll σ1 α := a2
  refine g_cVI X (K := K_X8_taken) (Q1 := fun x τ => x = (oTaken α (sc xs (i + 1)) (sc xs (i + 2))) ∧ MO σ1 τ ∧ MAll τ α) [.int (iI (sc xs (i + 1))), .int (iI (sc xs (i + 2)))] [.int (iI x1)] dL_law_357 lv_XL_36 rm_XL_36 ⟨Nat.le_refl _, Nat.le_refl _⟩ hA rfl rfl rfl (Nat.le_of_ble_eq_true rfl) rfl (M_taken W M1 (sc_32 xs _) (sc_32 xs _) (⟨rfl, Ag.rf, M1⟩)) (fun x2 σ2 h2 q2 => ?_)
  obtain ⟨e2, b1, b2⟩ := q2
  have C2 := CAll.mo b1 C1
  exact g_icmp_eq X (tgt := 1488) dL_law_360 (by decide) h1 h2 (fun _ => back _ _ (W) C2 b2) (fun q => absurd (e1.trans e2.symm) q)
theorem lawc_5 (Y : LwX p s m args c A D cA ad L xs) {i : Int} (i0 : 0 ≤ i) (i6 : i + 6 ≤ L) {α : AB} (W : WF α) (C : CAll σ α) (Mm : MAll σ α) (back : ∀ α1 σ1, WF α1 → CAll σ1 α1 → MAll σ1 α1 → Wg p l e room_1 s m args below meth c A D cA ad 600000 7302250 G 1488 (lwL i) [] σ1) : Wg p l e room_1 s m args below meth c A D cA ad 600000 7302250 G 365 (lwL i) [] σ := by
  have X := Y.1
  have hA := Y.2.1
  refine g_aload_n X 2 dL_law_365 rfl ?_
  refine g_arg Y (n := 1) dL_law_366 dL_law_367 dL_law_368 dL_law_369 dL_law_370 i0 i6 (by omega) (by omega) ?_
  refine g_arg Y (n := 2) dL_law_371 dL_law_372 dL_law_373 dL_law_374 dL_law_375 i0 i6 (by omega) (by omega) ?_
  refine g_lng Y (n := 3) (n2 := 4) dL_law_376 dL_law_377 dL_law_378 dL_law_379 dL_law_380 dL_law_381 dL_law_382 dL_law_384 dL_law_385 dL_law_386 dL_law_387 dL_law_388 dL_law_389 dL_law_390 dL_law_391 dL_law_394 dL_law_395 lc_XL_37 i0 i6 (by omega) (by omega) (by omega) (by omega) ?_
  refine g_cVI X (K := K_X7_write) (Q1 := fun x τ => x = (oWrite α (sc xs (i + 1)) (sc xs (i + 2)) (lg2 (sc xs (i + 3)) (sc xs (i + 4)))).1 ∧ CO σ τ ∧ CAll τ ((oWrite α (sc xs (i + 1)) (sc xs (i + 2)) (lg2 (sc xs (i + 3)) (sc xs (i + 4)))).2)) [.int (iI (sc xs (i + 1))), .int (iI (sc xs (i + 2))), .long (lI (lg2 (sc xs (i + 3)) (sc xs (i + 4))))] [] dL_law_396 lv_XL_39 rm_XL_39 ⟨Nat.le_refl _, Nat.le_refl _⟩ hA rfl rfl rfl (Nat.le_of_ble_eq_true rfl) rfl (C_write W C (sc_32 xs _) (sc_32 xs _) (i64_of _) (fun _ a b => ⟨rfl, a, b⟩)) (fun x1 σ1 h1 q1 => ?_)
  obtain ⟨e1, a1, a2⟩ := q1
  have M1 : MAll σ1 α := a1.fr Mm W
  refine g_aload_n X 1 dL_law_399 rfl ?_
  refine g_arg Y (n := 1) dL_law_400 dL_law_401 dL_law_402 dL_law_403 dL_law_404 i0 i6 (by omega) (by omega) ?_
  refine g_arg Y (n := 2) dL_law_405 dL_law_406 dL_law_407 dL_law_408 dL_law_409 i0 i6 (by omega) (by omega) ?_
  refine g_lng Y (n := 3) (n2 := 4) dL_law_410 dL_law_411 dL_law_412 dL_law_413 dL_law_414 dL_law_415 dL_law_416 dL_law_418 dL_law_419 dL_law_420 dL_law_421 dL_law_422 dL_law_423 dL_law_424 dL_law_425 dL_law_428 dL_law_429 lc_XL_37 i0 i6 (by omega) (by omega) (by omega) (by omega) ?_
  have C1 : CAll σ1 ((oWrite α (sc xs (i + 1)) (sc xs (i + 2)) (lg2 (sc xs (i + 3)) (sc xs (i + 4)))).2) := a2
  refine g_cVI X (K := K_X8_write) (Q1 := fun x τ => x = (oWrite α (sc xs (i + 1)) (sc xs (i + 2)) (lg2 (sc xs (i + 3)) (sc xs (i + 4)))).1 ∧ MO σ1 τ ∧ MAll τ ((oWrite α (sc xs (i + 1)) (sc xs (i + 2)) (lg2 (sc xs (i + 3)) (sc xs (i + 4)))).2)) [.int (iI (sc xs (i + 1))), .int (iI (sc xs (i + 2))), .long (lI (lg2 (sc xs (i + 3)) (sc xs (i + 4))))] [.int (iI x1)] dL_law_430 lv_XL_43 rm_XL_43 ⟨Nat.le_refl _, Nat.le_refl _⟩ hA rfl rfl rfl (Nat.le_of_ble_eq_true rfl) rfl (M_write W M1 (sc_32 xs _) (sc_32 xs _) (i64_of _) (fun _ a b => ⟨rfl, a, b⟩)) (fun x2 σ2 h2 q2 => ?_)
  obtain ⟨e2, b1, b2⟩ := q2
  have C2 := CAll.mo b1 C1
  exact g_icmp_eq X (tgt := 1488) dL_law_433 (by decide) h1 h2 (fun _ => back _ _ (wf_write W (sc xs (i + 1)) (sc xs (i + 2)) (lg2 (sc xs (i + 3)) (sc xs (i + 4)))) C2 b2) (fun q => absurd (e1.trans e2.symm) q)
theorem lawc_6 (Y : LwX p s m args c A D cA ad L xs) {i : Int} (i0 : 0 ≤ i) (i6 : i + 6 ≤ L) {α : AB} (W : WF α) (C : CAll σ α) (Mm : MAll σ α) (back : ∀ α1 σ1, WF α1 → CAll σ1 α1 → MAll σ1 α1 → Wg p l e room_1 s m args below meth c A D cA ad 600000 7302250 G 1488 (lwL i) [] σ1) : Wg p l e room_1 s m args below meth c A D cA ad 600000 7302250 G 438 (lwL i) [] σ := by
  have X := Y.1
  have hA := Y.2.1
  refine g_aload_n X 2 dL_law_438 rfl ?_
  refine g_arg Y (n := 1) dL_law_439 dL_law_440 dL_law_441 dL_law_442 dL_law_443 i0 i6 (by omega) (by omega) ?_
  refine g_cVI X (K := K_X7_empty) (Q1 := fun x τ => x = (oEmpty α (sc xs (i + 1))).1 ∧ CO σ τ ∧ CAll τ ((oEmpty α (sc xs (i + 1))).2)) [.int (iI (sc xs (i + 1)))] [] dL_law_444 lv_XL_44 rm_XL_44 ⟨Nat.le_refl _, Nat.le_refl _⟩ hA rfl rfl rfl (Nat.le_of_ble_eq_true rfl) rfl (C_empty W C (sc_32 xs _) (fun _ a b => ⟨rfl, a, b⟩)) (fun x1 σ1 h1 q1 => ?_)
  obtain ⟨e1, a1, a2⟩ := q1
  have M1 : MAll σ1 α := a1.fr Mm W
  refine g_aload_n X 1 dL_law_447 rfl ?_
  refine g_arg Y (n := 1) dL_law_448 dL_law_449 dL_law_450 dL_law_451 dL_law_452 i0 i6 (by omega) (by omega) ?_
  have C1 : CAll σ1 ((oEmpty α (sc xs (i + 1))).2) := a2
  refine g_cVI X (K := K_X8_empty) (Q1 := fun x τ => x = (oEmpty α (sc xs (i + 1))).1 ∧ MO σ1 τ ∧ MAll τ ((oEmpty α (sc xs (i + 1))).2)) [.int (iI (sc xs (i + 1)))] [.int (iI x1)] dL_law_453 lv_XL_48 rm_XL_48 ⟨Nat.le_refl _, Nat.le_refl _⟩ hA rfl rfl rfl (Nat.le_of_ble_eq_true rfl) rfl (M_empty W M1 (sc_32 xs _) (fun _ a b => ⟨rfl, a, b⟩)) (fun x2 σ2 h2 q2 => ?_)
  obtain ⟨e2, b1, b2⟩ := q2
  have C2 := CAll.mo b1 C1
  exact g_icmp_eq X (tgt := 1488) dL_law_456 (by decide) h1 h2 (fun _ => back _ _ (wf_empty W (sc xs (i + 1))) C2 b2) (fun q => absurd (e1.trans e2.symm) q)
theorem lawc_7 (Y : LwX p s m args c A D cA ad L xs) {i : Int} (i0 : 0 ≤ i) (i6 : i + 6 ≤ L) {α : AB} (W : WF α) (C : CAll σ α) (Mm : MAll σ α) (back : ∀ α1 σ1, WF α1 → CAll σ1 α1 → MAll σ1 α1 → Wg p l e room_1 s m args below meth c A D cA ad 600000 7302250 G 1488 (lwL i) [] σ1) : Wg p l e room_1 s m args below meth c A D cA ad 600000 7302250 G 461 (lwL i) [] σ := by
  have X := Y.1
  have hA := Y.2.1
  refine g_aload_n X 2 dL_law_461 rfl ?_
  refine g_arg Y (n := 1) dL_law_462 dL_law_463 dL_law_464 dL_law_465 dL_law_466 i0 i6 (by omega) (by omega) ?_
  refine g_arg Y (n := 2) dL_law_467 dL_law_468 dL_law_469 dL_law_470 dL_law_471 i0 i6 (by omega) (by omega) ?_
  refine g_cVI X (K := K_X7_told) (Q1 := fun x τ => x = (oTold α (sc xs (i + 1)) (sc xs (i + 2))) ∧ CO σ τ ∧ CAll τ α) [.int (iI (sc xs (i + 1))), .int (iI (sc xs (i + 2)))] [] dL_law_472 lv_XL_49 rm_XL_49 ⟨Nat.le_refl _, Nat.le_refl _⟩ hA rfl rfl rfl (Nat.le_of_ble_eq_true rfl) rfl (C_told W C (sc_32 xs _) (sc_32 xs _) (⟨rfl, Ag.rf, C⟩)) (fun x1 σ1 h1 q1 => ?_)
  obtain ⟨e1, a1, a2⟩ := q1
  have M1 : MAll σ1 α := a1.fr Mm W
  refine g_aload_n X 1 dL_law_475 rfl ?_
  refine g_arg Y (n := 1) dL_law_476 dL_law_477 dL_law_478 dL_law_479 dL_law_480 i0 i6 (by omega) (by omega) ?_
  refine g_arg Y (n := 2) dL_law_481 dL_law_482 dL_law_483 dL_law_484 dL_law_485 i0 i6 (by omega) (by omega) ?_
  have C1 : CAll σ1 α := a2
  refine g_cVI X (K := K_X8_told) (Q1 := fun x τ => x = (oTold α (sc xs (i + 1)) (sc xs (i + 2))) ∧ MO σ1 τ ∧ MAll τ α) [.int (iI (sc xs (i + 1))), .int (iI (sc xs (i + 2)))] [.int (iI x1)] dL_law_486 lv_XL_52 rm_XL_52 ⟨Nat.le_refl _, Nat.le_refl _⟩ hA rfl rfl rfl (Nat.le_of_ble_eq_true rfl) rfl (M_told W M1 (sc_32 xs _) (sc_32 xs _) (⟨rfl, Ag.rf, M1⟩)) (fun x2 σ2 h2 q2 => ?_)
  obtain ⟨e2, b1, b2⟩ := q2
  have C2 := CAll.mo b1 C1
  exact g_icmp_eq X (tgt := 1488) dL_law_489 (by decide) h1 h2 (fun _ => back _ _ (W) C2 b2) (fun q => absurd (e1.trans e2.symm) q)
theorem lawc_8 (Y : LwX p s m args c A D cA ad L xs) {i : Int} (i0 : 0 ≤ i) (i6 : i + 6 ≤ L) {α : AB} (W : WF α) (C : CAll σ α) (Mm : MAll σ α) (back : ∀ α1 σ1, WF α1 → CAll σ1 α1 → MAll σ1 α1 → Wg p l e room_1 s m args below meth c A D cA ad 600000 7302250 G 1488 (lwL i) [] σ1) : Wg p l e room_1 s m args below meth c A D cA ad 600000 7302250 G 494 (lwL i) [] σ := by
  have X := Y.1
  have hA := Y.2.1
  refine g_aload_n X 2 dL_law_494 rfl ?_
  refine g_arg Y (n := 1) dL_law_495 dL_law_496 dL_law_497 dL_law_498 dL_law_499 i0 i6 (by omega) (by omega) ?_
  refine g_arg Y (n := 2) dL_law_500 dL_law_501 dL_law_502 dL_law_503 dL_law_504 i0 i6 (by omega) (by omega) ?_
  refine g_cVI X (K := K_X7_at) (Q1 := fun x τ => x = (oAt α (sc xs (i + 1)) (sc xs (i + 2))) ∧ CO σ τ ∧ CAll τ α) [.int (iI (sc xs (i + 1))), .int (iI (sc xs (i + 2)))] [] dL_law_505 lv_XL_53 rm_XL_53 ⟨Nat.le_refl _, Nat.le_refl _⟩ hA rfl rfl rfl (Nat.le_of_ble_eq_true rfl) rfl (C_at W C (sc_32 xs _) (sc_32 xs _) (⟨rfl, Ag.rf, C⟩)) (fun x1 σ1 h1 q1 => ?_)
  obtain ⟨e1, a1, a2⟩ := q1
  have M1 : MAll σ1 α := a1.fr Mm W
  refine g_aload_n X 1 dL_law_508 rfl ?_
  refine g_arg Y (n := 1) dL_law_509 dL_law_510 dL_law_511 dL_law_512 dL_law_513 i0 i6 (by omega) (by omega) ?_
  refine g_arg Y (n := 2) dL_law_514 dL_law_515 dL_law_516 dL_law_517 dL_law_518 i0 i6 (by omega) (by omega) ?_
  have C1 : CAll σ1 α := a2
  refine g_cVI X (K := K_X8_at) (Q1 := fun x τ => x = (oAt α (sc xs (i + 1)) (sc xs (i + 2))) ∧ MO σ1 τ ∧ MAll τ α) [.int (iI (sc xs (i + 1))), .int (iI (sc xs (i + 2)))] [.int (iI x1)] dL_law_519 lv_XL_56 rm_XL_56 ⟨Nat.le_refl _, Nat.le_refl _⟩ hA rfl rfl rfl (Nat.le_of_ble_eq_true rfl) rfl (M_at W M1 (sc_32 xs _) (sc_32 xs _) (⟨rfl, Ag.rf, M1⟩)) (fun x2 σ2 h2 q2 => ?_)
  obtain ⟨e2, b1, b2⟩ := q2
  have C2 := CAll.mo b1 C1
  exact g_icmp_eq X (tgt := 1488) dL_law_522 (by decide) h1 h2 (fun _ => back _ _ (W) C2 b2) (fun q => absurd (e1.trans e2.symm) q)
theorem lawc_9 (Y : LwX p s m args c A D cA ad L xs) {i : Int} (i0 : 0 ≤ i) (i6 : i + 6 ≤ L) {α : AB} (W : WF α) (C : CAll σ α) (Mm : MAll σ α) (back : ∀ α1 σ1, WF α1 → CAll σ1 α1 → MAll σ1 α1 → Wg p l e room_1 s m args below meth c A D cA ad 600000 7302250 G 1488 (lwL i) [] σ1) : Wg p l e room_1 s m args below meth c A D cA ad 600000 7302250 G 527 (lwL i) [] σ := by
  have X := Y.1
  have hA := Y.2.1
  refine g_aload_n X 2 dL_law_527 rfl ?_
  refine g_arg Y (n := 1) dL_law_528 dL_law_529 dL_law_530 dL_law_531 dL_law_532 i0 i6 (by omega) (by omega) ?_
  refine g_cVL X (K := K_X7_value) (Q1 := fun x τ => x = (oValue α (sc xs (i + 1))) ∧ CO σ τ ∧ CAll τ α) [.int (iI (sc xs (i + 1)))] [] dL_law_533 lv_XL_57 rm_XL_57 ⟨Nat.le_refl _, Nat.le_refl _⟩ hA rfl rfl rfl (Nat.le_of_ble_eq_true rfl) rfl (C_value W C (sc_32 xs _) (⟨rfl, Ag.rf, C⟩)) (fun x1 σ1 h1 q1 => ?_)
  obtain ⟨e1, a1, a2⟩ := q1
  have M1 : MAll σ1 α := a1.fr Mm W
  refine g_aload_n X 1 dL_law_536 rfl ?_
  refine g_arg Y (n := 1) dL_law_537 dL_law_538 dL_law_539 dL_law_540 dL_law_541 i0 i6 (by omega) (by omega) ?_
  have C1 : CAll σ1 α := a2
  refine g_cVL X (K := K_X8_value) (Q1 := fun x τ => x = (oValue α (sc xs (i + 1))) ∧ MO σ1 τ ∧ MAll τ α) [.int (iI (sc xs (i + 1)))] [.long (lI x1)] dL_law_542 lv_XL_60 rm_XL_60 ⟨Nat.le_refl _, Nat.le_refl _⟩ hA rfl rfl rfl (Nat.le_of_ble_eq_true rfl) rfl (M_value W M1 (sc_32 xs _) (⟨rfl, Ag.rf, M1⟩)) (fun x2 σ2 h2 q2 => ?_)
  obtain ⟨e2, b1, b2⟩ := q2
  have C2 := CAll.mo b1 C1
  exact g_lc_eq X (tgt := 1488) dL_law_545 dL_law_546 (by decide) h1 h2 (fun _ => back _ _ (W) C2 b2) (fun q => absurd (e1.trans e2.symm) q)
theorem lawc_10 (Y : LwX p s m args c A D cA ad L xs) {i : Int} (i0 : 0 ≤ i) (i6 : i + 6 ≤ L) {α : AB} (W : WF α) (C : CAll σ α) (Mm : MAll σ α) (back : ∀ α1 σ1, WF α1 → CAll σ1 α1 → MAll σ1 α1 → Wg p l e room_1 s m args below meth c A D cA ad 600000 7302250 G 1488 (lwL i) [] σ1) : Wg p l e room_1 s m args below meth c A D cA ad 600000 7302250 G 551 (lwL i) [] σ := by
  have X := Y.1
  have hA := Y.2.1
  refine g_aload_n X 2 dL_law_551 rfl ?_
  refine g_arg Y (n := 1) dL_law_552 dL_law_553 dL_law_554 dL_law_555 dL_law_556 i0 i6 (by omega) (by omega) ?_
  refine g_arg Y (n := 2) dL_law_557 dL_law_558 dL_law_559 dL_law_560 dL_law_561 i0 i6 (by omega) (by omega) ?_
  refine g_arg Y (n := 3) dL_law_562 dL_law_563 dL_law_564 dL_law_565 dL_law_566 i0 i6 (by omega) (by omega) ?_
  refine g_cVI X (K := K_X7_digit) (Q1 := fun x τ => x = (oDigit α (sc xs (i + 1)) (sc xs (i + 2)) (sc xs (i + 3))).1 ∧ CO σ τ ∧ CAll τ ((oDigit α (sc xs (i + 1)) (sc xs (i + 2)) (sc xs (i + 3))).2)) [.int (iI (sc xs (i + 1))), .int (iI (sc xs (i + 2))), .int (iI (sc xs (i + 3)))] [] dL_law_567 lv_XL_61 rm_XL_61 ⟨Nat.le_refl _, Nat.le_refl _⟩ hA rfl rfl rfl (Nat.le_of_ble_eq_true rfl) rfl (C_digit W C (sc_32 xs _) (sc_32 xs _) (sc_32 xs _) (fun _ a b => ⟨rfl, a, b⟩)) (fun x1 σ1 h1 q1 => ?_)
  obtain ⟨e1, a1, a2⟩ := q1
  have M1 : MAll σ1 α := a1.fr Mm W
  refine g_aload_n X 1 dL_law_570 rfl ?_
  refine g_arg Y (n := 1) dL_law_571 dL_law_572 dL_law_573 dL_law_574 dL_law_575 i0 i6 (by omega) (by omega) ?_
  refine g_arg Y (n := 2) dL_law_576 dL_law_577 dL_law_578 dL_law_579 dL_law_580 i0 i6 (by omega) (by omega) ?_
  refine g_arg Y (n := 3) dL_law_581 dL_law_582 dL_law_583 dL_law_584 dL_law_585 i0 i6 (by omega) (by omega) ?_
  have C1 : CAll σ1 ((oDigit α (sc xs (i + 1)) (sc xs (i + 2)) (sc xs (i + 3))).2) := a2
  refine g_cVI X (K := K_X8_digit) (Q1 := fun x τ => x = (oDigit α (sc xs (i + 1)) (sc xs (i + 2)) (sc xs (i + 3))).1 ∧ MO σ1 τ ∧ MAll τ ((oDigit α (sc xs (i + 1)) (sc xs (i + 2)) (sc xs (i + 3))).2)) [.int (iI (sc xs (i + 1))), .int (iI (sc xs (i + 2))), .int (iI (sc xs (i + 3)))] [.int (iI x1)] dL_law_586 lv_XL_64 rm_XL_64 ⟨Nat.le_refl _, Nat.le_refl _⟩ hA rfl rfl rfl (Nat.le_of_ble_eq_true rfl) rfl (M_digit W M1 (sc_32 xs _) (sc_32 xs _) (sc_32 xs _) (fun _ a b => ⟨rfl, a, b⟩)) (fun x2 σ2 h2 q2 => ?_)
  obtain ⟨e2, b1, b2⟩ := q2
  have C2 := CAll.mo b1 C1
  exact g_icmp_eq X (tgt := 1488) dL_law_589 (by decide) h1 h2 (fun _ => back _ _ (wf_digit W (sc xs (i + 1)) (sc xs (i + 2)) (sc xs (i + 3))) C2 b2) (fun q => absurd (e1.trans e2.symm) q)
theorem lawc_11 (Y : LwX p s m args c A D cA ad L xs) {i : Int} (i0 : 0 ≤ i) (i6 : i + 6 ≤ L) {α : AB} (W : WF α) (C : CAll σ α) (Mm : MAll σ α) (back : ∀ α1 σ1, WF α1 → CAll σ1 α1 → MAll σ1 α1 → Wg p l e room_1 s m args below meth c A D cA ad 600000 7302250 G 1488 (lwL i) [] σ1) : Wg p l e room_1 s m args below meth c A D cA ad 600000 7302250 G 594 (lwL i) [] σ := by
  have X := Y.1
  have hA := Y.2.1
  refine g_aload_n X 2 dL_law_594 rfl ?_
  refine g_arg Y (n := 1) dL_law_595 dL_law_596 dL_law_597 dL_law_598 dL_law_599 i0 i6 (by omega) (by omega) ?_
  refine g_arg Y (n := 2) dL_law_600 dL_law_601 dL_law_602 dL_law_603 dL_law_604 i0 i6 (by omega) (by omega) ?_
  refine g_cVI X (K := K_X7_borrow) (Q1 := fun x τ => x = (oExch α (sc xs (i + 1)) (sc xs (i + 2)) (-1) (sc xs (i + 2))).1 ∧ CO σ τ ∧ CAll τ ((oExch α (sc xs (i + 1)) (sc xs (i + 2)) (-1) (sc xs (i + 2))).2)) [.int (iI (sc xs (i + 1))), .int (iI (sc xs (i + 2)))] [] dL_law_605 lv_XL_65 rm_XL_65 ⟨Nat.le_refl _, Nat.le_refl _⟩ hA rfl rfl rfl (Nat.le_of_ble_eq_true rfl) rfl (C_borrow W C (sc_32 xs _) (sc_32 xs _) (fun _ a b => ⟨rfl, a, b⟩)) (fun x1 σ1 h1 q1 => ?_)
  obtain ⟨e1, a1, a2⟩ := q1
  have M1 : MAll σ1 α := a1.fr Mm W
  refine g_aload_n X 1 dL_law_608 rfl ?_
  refine g_arg Y (n := 1) dL_law_609 dL_law_610 dL_law_611 dL_law_612 dL_law_613 i0 i6 (by omega) (by omega) ?_
  refine g_arg Y (n := 2) dL_law_614 dL_law_615 dL_law_616 dL_law_617 dL_law_618 i0 i6 (by omega) (by omega) ?_
  have C1 : CAll σ1 ((oExch α (sc xs (i + 1)) (sc xs (i + 2)) (-1) (sc xs (i + 2))).2) := a2
  refine g_cVI X (K := K_X8_borrow) (Q1 := fun x τ => x = (oExch α (sc xs (i + 1)) (sc xs (i + 2)) (-1) (sc xs (i + 2))).1 ∧ MO σ1 τ ∧ MAll τ ((oExch α (sc xs (i + 1)) (sc xs (i + 2)) (-1) (sc xs (i + 2))).2)) [.int (iI (sc xs (i + 1))), .int (iI (sc xs (i + 2)))] [.int (iI x1)] dL_law_619 lv_XL_68 rm_XL_68 ⟨Nat.le_refl _, Nat.le_refl _⟩ hA rfl rfl rfl (Nat.le_of_ble_eq_true rfl) rfl (M_borrow W M1 (sc_32 xs _) (sc_32 xs _) (fun _ a b => ⟨rfl, a, b⟩)) (fun x2 σ2 h2 q2 => ?_)
  obtain ⟨e2, b1, b2⟩ := q2
  have C2 := CAll.mo b1 C1
  exact g_icmp_eq X (tgt := 1488) dL_law_622 (by decide) h1 h2 (fun _ => back _ _ (wf_exch W (sc xs (i + 1)) (sc xs (i + 2)) (-1) (sc xs (i + 2))) C2 b2) (fun q => absurd (e1.trans e2.symm) q)
theorem lawc_12 (Y : LwX p s m args c A D cA ad L xs) {i : Int} (i0 : 0 ≤ i) (i6 : i + 6 ≤ L) {α : AB} (W : WF α) (C : CAll σ α) (Mm : MAll σ α) (back : ∀ α1 σ1, WF α1 → CAll σ1 α1 → MAll σ1 α1 → Wg p l e room_1 s m args below meth c A D cA ad 600000 7302250 G 1488 (lwL i) [] σ1) : Wg p l e room_1 s m args below meth c A D cA ad 600000 7302250 G 627 (lwL i) [] σ := by
  have X := Y.1
  have hA := Y.2.1
  refine g_aload_n X 2 dL_law_627 rfl ?_
  refine g_arg Y (n := 1) dL_law_628 dL_law_629 dL_law_630 dL_law_631 dL_law_632 i0 i6 (by omega) (by omega) ?_
  refine g_arg Y (n := 2) dL_law_633 dL_law_634 dL_law_635 dL_law_636 dL_law_637 i0 i6 (by omega) (by omega) ?_
  refine g_cVI X (K := K_X7_carry) (Q1 := fun x τ => x = (oExch α (sc xs (i + 1)) (sc xs (i + 2)) 1 ((sc xs (i + 2)) + 1)).1 ∧ CO σ τ ∧ CAll τ ((oExch α (sc xs (i + 1)) (sc xs (i + 2)) 1 ((sc xs (i + 2)) + 1)).2)) [.int (iI (sc xs (i + 1))), .int (iI (sc xs (i + 2)))] [] dL_law_638 lv_XL_69 rm_XL_69 ⟨Nat.le_refl _, Nat.le_refl _⟩ hA rfl rfl rfl (Nat.le_of_ble_eq_true rfl) rfl (C_carry W C (sc_32 xs _) (sc_32 xs _) (fun _ a b => ⟨rfl, a, b⟩)) (fun x1 σ1 h1 q1 => ?_)
  obtain ⟨e1, a1, a2⟩ := q1
  have M1 : MAll σ1 α := a1.fr Mm W
  refine g_aload_n X 1 dL_law_641 rfl ?_
  refine g_arg Y (n := 1) dL_law_642 dL_law_643 dL_law_644 dL_law_645 dL_law_646 i0 i6 (by omega) (by omega) ?_
  refine g_arg Y (n := 2) dL_law_647 dL_law_648 dL_law_649 dL_law_650 dL_law_651 i0 i6 (by omega) (by omega) ?_
  have C1 : CAll σ1 ((oExch α (sc xs (i + 1)) (sc xs (i + 2)) 1 ((sc xs (i + 2)) + 1)).2) := a2
  refine g_cVI X (K := K_X8_carry) (Q1 := fun x τ => x = (oExch α (sc xs (i + 1)) (sc xs (i + 2)) 1 ((sc xs (i + 2)) + 1)).1 ∧ MO σ1 τ ∧ MAll τ ((oExch α (sc xs (i + 1)) (sc xs (i + 2)) 1 ((sc xs (i + 2)) + 1)).2)) [.int (iI (sc xs (i + 1))), .int (iI (sc xs (i + 2)))] [.int (iI x1)] dL_law_652 lv_XL_72 rm_XL_72 ⟨Nat.le_refl _, Nat.le_refl _⟩ hA rfl rfl rfl (Nat.le_of_ble_eq_true rfl) rfl (M_carry W M1 (sc_32 xs _) (sc_32 xs _) (fun _ a b => ⟨rfl, a, b⟩)) (fun x2 σ2 h2 q2 => ?_)
  obtain ⟨e2, b1, b2⟩ := q2
  have C2 := CAll.mo b1 C1
  exact g_icmp_eq X (tgt := 1488) dL_law_655 (by decide) h1 h2 (fun _ => back _ _ (wf_exch W (sc xs (i + 1)) (sc xs (i + 2)) 1 ((sc xs (i + 2)) + 1)) C2 b2) (fun q => absurd (e1.trans e2.symm) q)
theorem lawc_13 (Y : LwX p s m args c A D cA ad L xs) {i : Int} (i0 : 0 ≤ i) (i6 : i + 6 ≤ L) {α : AB} (W : WF α) (C : CAll σ α) (Mm : MAll σ α) (back : ∀ α1 σ1, WF α1 → CAll σ1 α1 → MAll σ1 α1 → Wg p l e room_1 s m args below meth c A D cA ad 600000 7302250 G 1488 (lwL i) [] σ1) : Wg p l e room_1 s m args below meth c A D cA ad 600000 7302250 G 660 (lwL i) [] σ := by
  have X := Y.1
  have hA := Y.2.1
  refine g_aload_n X 2 dL_law_660 rfl ?_
  refine g_arg Y (n := 1) dL_law_661 dL_law_662 dL_law_663 dL_law_664 dL_law_665 i0 i6 (by omega) (by omega) ?_
  refine g_cVI X (K := K_X7_settle) (Q1 := fun x τ => x = (oSettle α (sc xs (i + 1))).1 ∧ CO σ τ ∧ CAll τ ((oSettle α (sc xs (i + 1))).2)) [.int (iI (sc xs (i + 1)))] [] dL_law_666 lv_XL_73 rm_XL_73 ⟨Nat.le_refl _, Nat.le_refl _⟩ hA rfl rfl rfl (Nat.le_of_ble_eq_true rfl) rfl (C_settle W C (sc_32 xs _) (fun _ a b => ⟨rfl, a, b⟩)) (fun x1 σ1 h1 q1 => ?_)
  obtain ⟨e1, a1, a2⟩ := q1
  have M1 : MAll σ1 α := a1.fr Mm W
  refine g_aload_n X 1 dL_law_669 rfl ?_
  refine g_arg Y (n := 1) dL_law_670 dL_law_671 dL_law_672 dL_law_673 dL_law_674 i0 i6 (by omega) (by omega) ?_
  have C1 : CAll σ1 ((oSettle α (sc xs (i + 1))).2) := a2
  refine g_cVI X (K := K_X8_settle) (Q1 := fun x τ => x = (oSettle α (sc xs (i + 1))).1 ∧ MO σ1 τ ∧ MAll τ ((oSettle α (sc xs (i + 1))).2)) [.int (iI (sc xs (i + 1)))] [.int (iI x1)] dL_law_675 lv_XL_76 rm_XL_76 ⟨Nat.le_refl _, Nat.le_refl _⟩ hA rfl rfl rfl (Nat.le_of_ble_eq_true rfl) rfl (M_settle W M1 (sc_32 xs _) (fun _ a b => ⟨rfl, a, b⟩)) (fun x2 σ2 h2 q2 => ?_)
  obtain ⟨e2, b1, b2⟩ := q2
  have C2 := CAll.mo b1 C1
  exact g_icmp_eq X (tgt := 1488) dL_law_678 (by decide) h1 h2 (fun _ => back _ _ (wf_settle W (sc xs (i + 1))) C2 b2) (fun q => absurd (e1.trans e2.symm) q)
theorem lawc_14 (Y : LwX p s m args c A D cA ad L xs) {i : Int} (i0 : 0 ≤ i) (i6 : i + 6 ≤ L) {α : AB} (W : WF α) (C : CAll σ α) (Mm : MAll σ α) (back : ∀ α1 σ1, WF α1 → CAll σ1 α1 → MAll σ1 α1 → Wg p l e room_1 s m args below meth c A D cA ad 600000 7302250 G 1488 (lwL i) [] σ1) : Wg p l e room_1 s m args below meth c A D cA ad 600000 7302250 G 683 (lwL i) [] σ := by
  have X := Y.1
  have hA := Y.2.1
  refine g_aload_n X 2 dL_law_683 rfl ?_
  refine g_arg Y (n := 1) dL_law_684 dL_law_685 dL_law_686 dL_law_687 dL_law_688 i0 i6 (by omega) (by omega) ?_
  refine g_cVI X (K := K_X7_right) (Q1 := fun x τ => x = (oRight α (sc xs (i + 1))).1 ∧ CO σ τ ∧ CAll τ ((oRight α (sc xs (i + 1))).2)) [.int (iI (sc xs (i + 1)))] [] dL_law_689 lv_XL_77 rm_XL_77 ⟨Nat.le_refl _, Nat.le_refl _⟩ hA rfl rfl rfl (Nat.le_of_ble_eq_true rfl) rfl (C_right W C (sc_32 xs _) (fun _ a b => ⟨rfl, a, b⟩)) (fun x1 σ1 h1 q1 => ?_)
  obtain ⟨e1, a1, a2⟩ := q1
  have M1 : MAll σ1 α := a1.fr Mm W
  refine g_aload_n X 1 dL_law_692 rfl ?_
  refine g_arg Y (n := 1) dL_law_693 dL_law_694 dL_law_695 dL_law_696 dL_law_697 i0 i6 (by omega) (by omega) ?_
  have C1 : CAll σ1 ((oRight α (sc xs (i + 1))).2) := a2
  refine g_cVI X (K := K_X8_right) (Q1 := fun x τ => x = (oRight α (sc xs (i + 1))).1 ∧ MO σ1 τ ∧ MAll τ ((oRight α (sc xs (i + 1))).2)) [.int (iI (sc xs (i + 1)))] [.int (iI x1)] dL_law_698 lv_XL_80 rm_XL_80 ⟨Nat.le_refl _, Nat.le_refl _⟩ hA rfl rfl rfl (Nat.le_of_ble_eq_true rfl) rfl (M_right W M1 (sc_32 xs _) (fun _ a b => ⟨rfl, a, b⟩)) (fun x2 σ2 h2 q2 => ?_)
  obtain ⟨e2, b1, b2⟩ := q2
  have C2 := CAll.mo b1 C1
  exact g_icmp_eq X (tgt := 1488) dL_law_701 (by decide) h1 h2 (fun _ => back _ _ (wf_right W (sc xs (i + 1))) C2 b2) (fun q => absurd (e1.trans e2.symm) q)
theorem lawc_15 (Y : LwX p s m args c A D cA ad L xs) {i : Int} (i0 : 0 ≤ i) (i6 : i + 6 ≤ L) {α : AB} (W : WF α) (C : CAll σ α) (Mm : MAll σ α) (back : ∀ α1 σ1, WF α1 → CAll σ1 α1 → MAll σ1 α1 → Wg p l e room_1 s m args below meth c A D cA ad 600000 7302250 G 1488 (lwL i) [] σ1) : Wg p l e room_1 s m args below meth c A D cA ad 600000 7302250 G 706 (lwL i) [] σ := by
  have X := Y.1
  have hA := Y.2.1
  refine g_aload_n X 2 dL_law_706 rfl ?_
  refine g_arg Y (n := 1) dL_law_707 dL_law_708 dL_law_709 dL_law_710 dL_law_711 i0 i6 (by omega) (by omega) ?_
  refine g_arg Y (n := 2) dL_law_712 dL_law_713 dL_law_714 dL_law_715 dL_law_716 i0 i6 (by omega) (by omega) ?_
  refine g_cVI X (K := K_X7_shift) (Q1 := fun x τ => x = (oShift α (sc xs (i + 1)) (sc xs (i + 2))).1 ∧ CO σ τ ∧ CAll τ ((oShift α (sc xs (i + 1)) (sc xs (i + 2))).2)) [.int (iI (sc xs (i + 1))), .int (iI (sc xs (i + 2)))] [] dL_law_717 lv_XL_81 rm_XL_81 ⟨Nat.le_refl _, Nat.le_refl _⟩ hA rfl rfl rfl (Nat.le_of_ble_eq_true rfl) rfl (C_shift W C (sc_32 xs _) (sc_32 xs _) (fun _ a b => ⟨rfl, a, b⟩)) (fun x1 σ1 h1 q1 => ?_)
  obtain ⟨e1, a1, a2⟩ := q1
  have M1 : MAll σ1 α := a1.fr Mm W
  refine g_aload_n X 1 dL_law_720 rfl ?_
  refine g_arg Y (n := 1) dL_law_721 dL_law_722 dL_law_723 dL_law_724 dL_law_725 i0 i6 (by omega) (by omega) ?_
  refine g_arg Y (n := 2) dL_law_726 dL_law_727 dL_law_728 dL_law_729 dL_law_730 i0 i6 (by omega) (by omega) ?_
  have C1 : CAll σ1 ((oShift α (sc xs (i + 1)) (sc xs (i + 2))).2) := a2
  refine g_cVI X (K := K_X8_shift) (Q1 := fun x τ => x = (oShift α (sc xs (i + 1)) (sc xs (i + 2))).1 ∧ MO σ1 τ ∧ MAll τ ((oShift α (sc xs (i + 1)) (sc xs (i + 2))).2)) [.int (iI (sc xs (i + 1))), .int (iI (sc xs (i + 2)))] [.int (iI x1)] dL_law_731 lv_XL_84 rm_XL_84 ⟨Nat.le_refl _, Nat.le_refl _⟩ hA rfl rfl rfl (Nat.le_of_ble_eq_true rfl) rfl (M_shift W M1 (sc_32 xs _) (sc_32 xs _) (fun _ a b => ⟨rfl, a, b⟩)) (fun x2 σ2 h2 q2 => ?_)
  obtain ⟨e2, b1, b2⟩ := q2
  have C2 := CAll.mo b1 C1
  exact g_icmp_eq X (tgt := 1488) dL_law_734 (by decide) h1 h2 (fun _ => back _ _ (wf_shift W (sc xs (i + 1)) (sc xs (i + 2))) C2 b2) (fun q => absurd (e1.trans e2.symm) q)
theorem lawc_16 (Y : LwX p s m args c A D cA ad L xs) {i : Int} (i0 : 0 ≤ i) (i6 : i + 6 ≤ L) {α : AB} (W : WF α) (C : CAll σ α) (Mm : MAll σ α) (back : ∀ α1 σ1, WF α1 → CAll σ1 α1 → MAll σ1 α1 → Wg p l e room_1 s m args below meth c A D cA ad 600000 7302250 G 1488 (lwL i) [] σ1) : Wg p l e room_1 s m args below meth c A D cA ad 600000 7302250 G 739 (lwL i) [] σ := by
  have X := Y.1
  have hA := Y.2.1
  refine g_aload_n X 2 dL_law_739 rfl ?_
  refine g_arg Y (n := 1) dL_law_740 dL_law_741 dL_law_742 dL_law_743 dL_law_744 i0 i6 (by omega) (by omega) ?_
  refine g_arg Y (n := 2) dL_law_745 dL_law_746 dL_law_747 dL_law_748 dL_law_749 i0 i6 (by omega) (by omega) ?_
  refine g_cVI X (K := K_X7_on) (Q1 := fun x τ => x = (oOn α (sc xs (i + 1)) (sc xs (i + 2))).1 ∧ CO σ τ ∧ CAll τ ((oOn α (sc xs (i + 1)) (sc xs (i + 2))).2)) [.int (iI (sc xs (i + 1))), .int (iI (sc xs (i + 2)))] [] dL_law_750 lv_XL_85 rm_XL_85 ⟨Nat.le_refl _, Nat.le_refl _⟩ hA rfl rfl rfl (Nat.le_of_ble_eq_true rfl) rfl (C_on W C (sc_32 xs _) (sc_32 xs _) (fun _ a b => ⟨rfl, a, b⟩)) (fun x1 σ1 h1 q1 => ?_)
  obtain ⟨e1, a1, a2⟩ := q1
  have M1 : MAll σ1 α := a1.fr Mm W
  refine g_aload_n X 1 dL_law_753 rfl ?_
  refine g_arg Y (n := 1) dL_law_754 dL_law_755 dL_law_756 dL_law_757 dL_law_758 i0 i6 (by omega) (by omega) ?_
  refine g_arg Y (n := 2) dL_law_759 dL_law_760 dL_law_761 dL_law_762 dL_law_763 i0 i6 (by omega) (by omega) ?_
  have C1 : CAll σ1 ((oOn α (sc xs (i + 1)) (sc xs (i + 2))).2) := a2
  refine g_cVI X (K := K_X8_on) (Q1 := fun x τ => x = (oOn α (sc xs (i + 1)) (sc xs (i + 2))).1 ∧ MO σ1 τ ∧ MAll τ ((oOn α (sc xs (i + 1)) (sc xs (i + 2))).2)) [.int (iI (sc xs (i + 1))), .int (iI (sc xs (i + 2)))] [.int (iI x1)] dL_law_764 lv_XL_88 rm_XL_88 ⟨Nat.le_refl _, Nat.le_refl _⟩ hA rfl rfl rfl (Nat.le_of_ble_eq_true rfl) rfl (M_on W M1 (sc_32 xs _) (sc_32 xs _) (fun _ a b => ⟨rfl, a, b⟩)) (fun x2 σ2 h2 q2 => ?_)
  obtain ⟨e2, b1, b2⟩ := q2
  have C2 := CAll.mo b1 C1
  exact g_icmp_eq X (tgt := 1488) dL_law_767 (by decide) h1 h2 (fun _ => back _ _ (wf_on W (sc xs (i + 1)) (sc xs (i + 2))) C2 b2) (fun q => absurd (e1.trans e2.symm) q)
theorem lawc_17 (Y : LwX p s m args c A D cA ad L xs) {i : Int} (i0 : 0 ≤ i) (i6 : i + 6 ≤ L) {α : AB} (W : WF α) (C : CAll σ α) (Mm : MAll σ α) (back : ∀ α1 σ1, WF α1 → CAll σ1 α1 → MAll σ1 α1 → Wg p l e room_1 s m args below meth c A D cA ad 600000 7302250 G 1488 (lwL i) [] σ1) : Wg p l e room_1 s m args below meth c A D cA ad 600000 7302250 G 772 (lwL i) [] σ := by
  have X := Y.1
  have hA := Y.2.1
  refine g_aload_n X 2 dL_law_772 rfl ?_
  refine g_arg Y (n := 1) dL_law_773 dL_law_774 dL_law_775 dL_law_776 dL_law_777 i0 i6 (by omega) (by omega) ?_
  refine g_arg Y (n := 2) dL_law_778 dL_law_779 dL_law_780 dL_law_781 dL_law_782 i0 i6 (by omega) (by omega) ?_
  refine g_cVI X (K := K_X7_soon) (Q1 := fun x τ => x = (oSoon α (sc xs (i + 1)) (sc xs (i + 2))) ∧ CO σ τ ∧ CAll τ α) [.int (iI (sc xs (i + 1))), .int (iI (sc xs (i + 2)))] [] dL_law_783 lv_XL_89 rm_XL_89 ⟨Nat.le_refl _, Nat.le_refl _⟩ hA rfl rfl rfl (Nat.le_of_ble_eq_true rfl) rfl (C_soon W C (sc_32 xs _) (sc_32 xs _) (⟨rfl, Ag.rf, C⟩)) (fun x1 σ1 h1 q1 => ?_)
  obtain ⟨e1, a1, a2⟩ := q1
  have M1 : MAll σ1 α := a1.fr Mm W
  refine g_aload_n X 1 dL_law_786 rfl ?_
  refine g_arg Y (n := 1) dL_law_787 dL_law_788 dL_law_789 dL_law_790 dL_law_791 i0 i6 (by omega) (by omega) ?_
  refine g_arg Y (n := 2) dL_law_792 dL_law_793 dL_law_794 dL_law_795 dL_law_796 i0 i6 (by omega) (by omega) ?_
  have C1 : CAll σ1 α := a2
  refine g_cVI X (K := K_X8_soon) (Q1 := fun x τ => x = (oSoon α (sc xs (i + 1)) (sc xs (i + 2))) ∧ MO σ1 τ ∧ MAll τ α) [.int (iI (sc xs (i + 1))), .int (iI (sc xs (i + 2)))] [.int (iI x1)] dL_law_797 lv_XL_92 rm_XL_92 ⟨Nat.le_refl _, Nat.le_refl _⟩ hA rfl rfl rfl (Nat.le_of_ble_eq_true rfl) rfl (M_soon W M1 (sc_32 xs _) (sc_32 xs _) (fun _ a b => ⟨rfl, a, b⟩)) (fun x2 σ2 h2 q2 => ?_)
  obtain ⟨e2, b1, b2⟩ := q2
  have C2 := CAll.mo b1 C1
  exact g_icmp_eq X (tgt := 1488) dL_law_800 (by decide) h1 h2 (fun _ => back _ _ (W) C2 b2) (fun q => absurd (e1.trans e2.symm) q)
theorem lawc_18 (Y : LwX p s m args c A D cA ad L xs) {i : Int} (i0 : 0 ≤ i) (i6 : i + 6 ≤ L) {α : AB} (W : WF α) (C : CAll σ α) (Mm : MAll σ α) (back : ∀ α1 σ1, WF α1 → CAll σ1 α1 → MAll σ1 α1 → Wg p l e room_1 s m args below meth c A D cA ad 600000 7302250 G 1488 (lwL i) [] σ1) : Wg p l e room_1 s m args below meth c A D cA ad 600000 7302250 G 805 (lwL i) [] σ := by
  have X := Y.1
  have hA := Y.2.1
  refine g_aload_n X 2 dL_law_805 rfl ?_
  refine g_arg Y (n := 1) dL_law_806 dL_law_807 dL_law_808 dL_law_809 dL_law_810 i0 i6 (by omega) (by omega) ?_
  refine g_arg Y (n := 2) dL_law_811 dL_law_812 dL_law_813 dL_law_814 dL_law_815 i0 i6 (by omega) (by omega) ?_
  refine g_arg Y (n := 3) dL_law_816 dL_law_817 dL_law_818 dL_law_819 dL_law_820 i0 i6 (by omega) (by omega) ?_
  refine g_arg Y (n := 4) dL_law_821 dL_law_822 dL_law_823 dL_law_824 dL_law_825 i0 i6 (by omega) (by omega) ?_
  refine g_cVI X (K := K_X7_sum) (Q1 := fun x τ => x = (oSum α (sc xs (i + 1)) (sc xs (i + 2)) (sc xs (i + 3)) (sc xs (i + 4))).1 ∧ CO σ τ ∧ CAll τ ((oSum α (sc xs (i + 1)) (sc xs (i + 2)) (sc xs (i + 3)) (sc xs (i + 4))).2)) [.int (iI (sc xs (i + 1))), .int (iI (sc xs (i + 2))), .int (iI (sc xs (i + 3))), .int (iI (sc xs (i + 4)))] [] dL_law_826 lv_XL_93 rm_XL_93 ⟨Nat.le_refl _, Nat.le_refl _⟩ hA rfl rfl rfl (Nat.le_of_ble_eq_true rfl) rfl (C_sum W C (sc_32 xs _) (sc_32 xs _) (sc_32 xs _) (sc_32 xs _) (fun _ a b => ⟨rfl, a, b⟩)) (fun x1 σ1 h1 q1 => ?_)
  obtain ⟨e1, a1, a2⟩ := q1
  have M1 : MAll σ1 α := a1.fr Mm W
  refine g_aload_n X 1 dL_law_829 rfl ?_
  refine g_arg Y (n := 1) dL_law_830 dL_law_831 dL_law_832 dL_law_833 dL_law_834 i0 i6 (by omega) (by omega) ?_
  refine g_arg Y (n := 2) dL_law_835 dL_law_836 dL_law_837 dL_law_838 dL_law_839 i0 i6 (by omega) (by omega) ?_
  refine g_arg Y (n := 3) dL_law_840 dL_law_841 dL_law_842 dL_law_843 dL_law_844 i0 i6 (by omega) (by omega) ?_
  refine g_arg Y (n := 4) dL_law_845 dL_law_846 dL_law_847 dL_law_848 dL_law_849 i0 i6 (by omega) (by omega) ?_
  have C1 : CAll σ1 ((oSum α (sc xs (i + 1)) (sc xs (i + 2)) (sc xs (i + 3)) (sc xs (i + 4))).2) := a2
  refine g_cVI X (K := K_X8_sum) (Q1 := fun x τ => x = (oSum α (sc xs (i + 1)) (sc xs (i + 2)) (sc xs (i + 3)) (sc xs (i + 4))).1 ∧ MO σ1 τ ∧ MAll τ ((oSum α (sc xs (i + 1)) (sc xs (i + 2)) (sc xs (i + 3)) (sc xs (i + 4))).2)) [.int (iI (sc xs (i + 1))), .int (iI (sc xs (i + 2))), .int (iI (sc xs (i + 3))), .int (iI (sc xs (i + 4)))] [.int (iI x1)] dL_law_850 lv_XL_97 rm_XL_97 ⟨Nat.le_refl _, Nat.le_refl _⟩ hA rfl rfl rfl (Nat.le_of_ble_eq_true rfl) rfl (M_sum W M1 (sc_32 xs _) (sc_32 xs _) (sc_32 xs _) (sc_32 xs _) (fun _ a b => ⟨rfl, a, b⟩)) (fun x2 σ2 h2 q2 => ?_)
  obtain ⟨e2, b1, b2⟩ := q2
  have C2 := CAll.mo b1 C1
  exact g_icmp_eq X (tgt := 1488) dL_law_853 (by decide) h1 h2 (fun _ => back _ _ (wf_sum W (sc xs (i + 1)) (sc xs (i + 2)) (sc xs (i + 3)) (sc xs (i + 4))) C2 b2) (fun q => absurd (e1.trans e2.symm) q)
theorem lawc_19 (Y : LwX p s m args c A D cA ad L xs) {i : Int} (i0 : 0 ≤ i) (i6 : i + 6 ≤ L) {α : AB} (W : WF α) (C : CAll σ α) (Mm : MAll σ α) (back : ∀ α1 σ1, WF α1 → CAll σ1 α1 → MAll σ1 α1 → Wg p l e room_1 s m args below meth c A D cA ad 600000 7302250 G 1488 (lwL i) [] σ1) : Wg p l e room_1 s m args below meth c A D cA ad 600000 7302250 G 858 (lwL i) [] σ := by
  have X := Y.1
  have hA := Y.2.1
  refine g_aload_n X 2 dL_law_858 rfl ?_
  refine g_arg Y (n := 1) dL_law_859 dL_law_860 dL_law_861 dL_law_862 dL_law_863 i0 i6 (by omega) (by omega) ?_
  refine g_arg Y (n := 2) dL_law_864 dL_law_865 dL_law_866 dL_law_867 dL_law_868 i0 i6 (by omega) (by omega) ?_
  refine g_arg Y (n := 3) dL_law_869 dL_law_870 dL_law_871 dL_law_872 dL_law_873 i0 i6 (by omega) (by omega) ?_
  refine g_cVI X (K := K_X7_like) (Q1 := fun x τ => x = (oLike α (sc xs (i + 1)) (sc xs (i + 2)) (sc xs (i + 3))) ∧ CO σ τ ∧ CAll τ α) [.int (iI (sc xs (i + 1))), .int (iI (sc xs (i + 2))), .int (iI (sc xs (i + 3)))] [] dL_law_874 lv_XL_98 rm_XL_98 ⟨Nat.le_refl _, Nat.le_refl _⟩ hA rfl rfl rfl (Nat.le_of_ble_eq_true rfl) rfl (C_like W C (sc_32 xs _) (sc_32 xs _) (sc_32 xs _) (⟨rfl, Ag.rf, C⟩)) (fun x1 σ1 h1 q1 => ?_)
  obtain ⟨e1, a1, a2⟩ := q1
  have M1 : MAll σ1 α := a1.fr Mm W
  refine g_aload_n X 1 dL_law_877 rfl ?_
  refine g_arg Y (n := 1) dL_law_878 dL_law_879 dL_law_880 dL_law_881 dL_law_882 i0 i6 (by omega) (by omega) ?_
  refine g_arg Y (n := 2) dL_law_883 dL_law_884 dL_law_885 dL_law_886 dL_law_887 i0 i6 (by omega) (by omega) ?_
  refine g_arg Y (n := 3) dL_law_888 dL_law_889 dL_law_890 dL_law_891 dL_law_892 i0 i6 (by omega) (by omega) ?_
  have C1 : CAll σ1 α := a2
  refine g_cVI X (K := K_X8_like) (Q1 := fun x τ => x = (oLike α (sc xs (i + 1)) (sc xs (i + 2)) (sc xs (i + 3))) ∧ MO σ1 τ ∧ MAll τ α) [.int (iI (sc xs (i + 1))), .int (iI (sc xs (i + 2))), .int (iI (sc xs (i + 3)))] [.int (iI x1)] dL_law_893 lv_XL_101 rm_XL_101 ⟨Nat.le_refl _, Nat.le_refl _⟩ hA rfl rfl rfl (Nat.le_of_ble_eq_true rfl) rfl (M_like W M1 (sc_32 xs _) (sc_32 xs _) (sc_32 xs _) (⟨rfl, Ag.rf, M1⟩)) (fun x2 σ2 h2 q2 => ?_)
  obtain ⟨e2, b1, b2⟩ := q2
  have C2 := CAll.mo b1 C1
  exact g_icmp_eq X (tgt := 1488) dL_law_896 (by decide) h1 h2 (fun _ => back _ _ (W) C2 b2) (fun q => absurd (e1.trans e2.symm) q)
theorem lawc_20 (Y : LwX p s m args c A D cA ad L xs) {i : Int} (i0 : 0 ≤ i) (i6 : i + 6 ≤ L) {α : AB} (W : WF α) (C : CAll σ α) (Mm : MAll σ α) (back : ∀ α1 σ1, WF α1 → CAll σ1 α1 → MAll σ1 α1 → Wg p l e room_1 s m args below meth c A D cA ad 600000 7302250 G 1488 (lwL i) [] σ1) : Wg p l e room_1 s m args below meth c A D cA ad 600000 7302250 G 901 (lwL i) [] σ := by
  have X := Y.1
  have hA := Y.2.1
  refine g_aload_n X 2 dL_law_901 rfl ?_
  refine g_arg Y (n := 1) dL_law_902 dL_law_903 dL_law_904 dL_law_905 dL_law_906 i0 i6 (by omega) (by omega) ?_
  refine g_lng Y (n := 2) (n2 := 3) dL_law_907 dL_law_908 dL_law_909 dL_law_910 dL_law_911 dL_law_912 dL_law_913 dL_law_915 dL_law_916 dL_law_917 dL_law_918 dL_law_919 dL_law_920 dL_law_921 dL_law_922 dL_law_925 dL_law_926 lc_XL_37 i0 i6 (by omega) (by omega) (by omega) (by omega) ?_
  refine g_arg Y (n := 4) dL_law_927 dL_law_928 dL_law_929 dL_law_930 dL_law_931 i0 i6 (by omega) (by omega) ?_
  refine g_arg Y (n := 5) dL_law_932 dL_law_933 dL_law_934 dL_law_935 dL_law_936 i0 i6 (by omega) (by omega) ?_
  refine g_cVL X (K := K_X7_ways) (Q1 := fun x τ => x = (oWays α (sc xs (i + 1)) (lg2 (sc xs (i + 2)) (sc xs (i + 3))) (sc xs (i + 4)) (sc xs (i + 5))) ∧ CO σ τ ∧ CAll τ α) [.int (iI (sc xs (i + 1))), .long (lI (lg2 (sc xs (i + 2)) (sc xs (i + 3)))), .int (iI (sc xs (i + 4))), .int (iI (sc xs (i + 5)))] [] dL_law_937 lv_XL_102 rm_XL_102 ⟨Nat.le_refl _, Nat.le_refl _⟩ hA rfl rfl rfl (Nat.le_of_ble_eq_true rfl) rfl (C_ways W C (sc_32 xs _) (i64_of _) (sc_32 xs _) (sc_32 xs _) (fun _ a b => ⟨rfl, a, b⟩)) (fun x1 σ1 h1 q1 => ?_)
  obtain ⟨e1, a1, a2⟩ := q1
  have M1 : MAll σ1 α := a1.fr Mm W
  refine g_aload_n X 1 dL_law_940 rfl ?_
  refine g_arg Y (n := 1) dL_law_941 dL_law_942 dL_law_943 dL_law_944 dL_law_945 i0 i6 (by omega) (by omega) ?_
  refine g_lng Y (n := 2) (n2 := 3) dL_law_946 dL_law_947 dL_law_948 dL_law_949 dL_law_950 dL_law_951 dL_law_952 dL_law_954 dL_law_955 dL_law_956 dL_law_957 dL_law_958 dL_law_959 dL_law_960 dL_law_961 dL_law_964 dL_law_965 lc_XL_37 i0 i6 (by omega) (by omega) (by omega) (by omega) ?_
  refine g_arg Y (n := 4) dL_law_966 dL_law_967 dL_law_968 dL_law_969 dL_law_970 i0 i6 (by omega) (by omega) ?_
  refine g_arg Y (n := 5) dL_law_971 dL_law_972 dL_law_973 dL_law_974 dL_law_975 i0 i6 (by omega) (by omega) ?_
  have C1 : CAll σ1 α := a2
  refine g_cVL X (K := K_X8_ways) (Q1 := fun x τ => x = (oWays α (sc xs (i + 1)) (lg2 (sc xs (i + 2)) (sc xs (i + 3))) (sc xs (i + 4)) (sc xs (i + 5))) ∧ MO σ1 τ ∧ MAll τ α) [.int (iI (sc xs (i + 1))), .long (lI (lg2 (sc xs (i + 2)) (sc xs (i + 3)))), .int (iI (sc xs (i + 4))), .int (iI (sc xs (i + 5)))] [.long (lI x1)] dL_law_976 lv_XL_106 rm_XL_106 ⟨Nat.le_refl _, Nat.le_refl _⟩ hA rfl rfl rfl (Nat.le_of_ble_eq_true rfl) rfl (M_ways W M1 (sc_32 xs _) (i64_of _) (sc_32 xs _) (sc_32 xs _) (fun _ a b => ⟨rfl, a, b⟩)) (fun x2 σ2 h2 q2 => ?_)
  obtain ⟨e2, b1, b2⟩ := q2
  have C2 := CAll.mo b1 C1
  exact g_lc_eq X (tgt := 1488) dL_law_979 dL_law_980 (by decide) h1 h2 (fun _ => back _ _ (W) C2 b2) (fun q => absurd (e1.trans e2.symm) q)
theorem lawc_21 (Y : LwX p s m args c A D cA ad L xs) {i : Int} (i0 : 0 ≤ i) (i6 : i + 6 ≤ L) {α : AB} (W : WF α) (C : CAll σ α) (Mm : MAll σ α) (back : ∀ α1 σ1, WF α1 → CAll σ1 α1 → MAll σ1 α1 → Wg p l e room_1 s m args below meth c A D cA ad 600000 7302250 G 1488 (lwL i) [] σ1) : Wg p l e room_1 s m args below meth c A D cA ad 600000 7302250 G 985 (lwL i) [] σ := by
  have X := Y.1
  have hA := Y.2.1
  refine g_aload_n X 2 dL_law_985 rfl ?_
  refine g_arg Y (n := 1) dL_law_986 dL_law_987 dL_law_988 dL_law_989 dL_law_990 i0 i6 (by omega) (by omega) ?_
  refine g_arg Y (n := 2) dL_law_991 dL_law_992 dL_law_993 dL_law_994 dL_law_995 i0 i6 (by omega) (by omega) ?_
  refine g_lng Y (n := 3) (n2 := 4) dL_law_996 dL_law_997 dL_law_998 dL_law_999 dL_law_1000 dL_law_1001 dL_law_1002 dL_law_1004 dL_law_1005 dL_law_1006 dL_law_1007 dL_law_1008 dL_law_1009 dL_law_1010 dL_law_1011 dL_law_1014 dL_law_1015 lc_XL_37 i0 i6 (by omega) (by omega) (by omega) (by omega) ?_
  refine g_cVI X (K := K_X7_crossed) (Q1 := fun x τ => x = (oCrossed α (sc xs (i + 1)) (sc xs (i + 2)) (lg2 (sc xs (i + 3)) (sc xs (i + 4)))) ∧ CO σ τ ∧ CAll τ α) [.int (iI (sc xs (i + 1))), .int (iI (sc xs (i + 2))), .long (lI (lg2 (sc xs (i + 3)) (sc xs (i + 4))))] [] dL_law_1016 lv_XL_107 rm_XL_107 ⟨Nat.le_refl _, Nat.le_refl _⟩ hA rfl rfl rfl (Nat.le_of_ble_eq_true rfl) rfl (C_crossed W C (sc_32 xs _) (sc_32 xs _) (i64_of _) (fun _ a b => ⟨rfl, a, b⟩)) (fun x1 σ1 h1 q1 => ?_)
  obtain ⟨e1, a1, a2⟩ := q1
  have M1 : MAll σ1 α := a1.fr Mm W
  refine g_aload_n X 1 dL_law_1019 rfl ?_
  refine g_arg Y (n := 1) dL_law_1020 dL_law_1021 dL_law_1022 dL_law_1023 dL_law_1024 i0 i6 (by omega) (by omega) ?_
  refine g_arg Y (n := 2) dL_law_1025 dL_law_1026 dL_law_1027 dL_law_1028 dL_law_1029 i0 i6 (by omega) (by omega) ?_
  refine g_lng Y (n := 3) (n2 := 4) dL_law_1030 dL_law_1031 dL_law_1032 dL_law_1033 dL_law_1034 dL_law_1035 dL_law_1036 dL_law_1038 dL_law_1039 dL_law_1040 dL_law_1041 dL_law_1042 dL_law_1043 dL_law_1044 dL_law_1045 dL_law_1048 dL_law_1049 lc_XL_37 i0 i6 (by omega) (by omega) (by omega) (by omega) ?_
  have C1 : CAll σ1 α := a2
  refine g_cVI X (K := K_X8_crossed) (Q1 := fun x τ => x = (oCrossed α (sc xs (i + 1)) (sc xs (i + 2)) (lg2 (sc xs (i + 3)) (sc xs (i + 4)))) ∧ MO σ1 τ ∧ MAll τ α) [.int (iI (sc xs (i + 1))), .int (iI (sc xs (i + 2))), .long (lI (lg2 (sc xs (i + 3)) (sc xs (i + 4))))] [.int (iI x1)] dL_law_1050 lv_XL_110 rm_XL_110 ⟨Nat.le_refl _, Nat.le_refl _⟩ hA rfl rfl rfl (Nat.le_of_ble_eq_true rfl) rfl (M_crossed W M1 (sc_32 xs _) (sc_32 xs _) (i64_of _) (fun _ a b => ⟨rfl, a, b⟩)) (fun x2 σ2 h2 q2 => ?_)
  obtain ⟨e2, b1, b2⟩ := q2
  have C2 := CAll.mo b1 C1
  exact g_icmp_eq X (tgt := 1488) dL_law_1053 (by decide) h1 h2 (fun _ => back _ _ (W) C2 b2) (fun q => absurd (e1.trans e2.symm) q)
theorem lawc_22 (Y : LwX p s m args c A D cA ad L xs) {i : Int} (i0 : 0 ≤ i) (i6 : i + 6 ≤ L) {α : AB} (W : WF α) (C : CAll σ α) (Mm : MAll σ α) (back : ∀ α1 σ1, WF α1 → CAll σ1 α1 → MAll σ1 α1 → Wg p l e room_1 s m args below meth c A D cA ad 600000 7302250 G 1488 (lwL i) [] σ1) : Wg p l e room_1 s m args below meth c A D cA ad 600000 7302250 G 1058 (lwL i) [] σ := by
  have X := Y.1
  have hA := Y.2.1
  refine g_aload_n X 2 dL_law_1058 rfl ?_
  refine g_arg Y (n := 1) dL_law_1059 dL_law_1060 dL_law_1061 dL_law_1062 dL_law_1063 i0 i6 (by omega) (by omega) ?_
  refine g_arg Y (n := 2) dL_law_1064 dL_law_1065 dL_law_1066 dL_law_1067 dL_law_1068 i0 i6 (by omega) (by omega) ?_
  refine g_cVI X (K := K_X7_print) (Q1 := fun x τ => x = (oPrint α (sc xs (i + 1)) (sc xs (i + 2))) ∧ CO σ τ ∧ CAll τ α) [.int (iI (sc xs (i + 1))), .int (iI (sc xs (i + 2)))] [] dL_law_1069 lv_XL_111 rm_XL_111 ⟨Nat.le_refl _, Nat.le_refl _⟩ hA rfl rfl rfl (Nat.le_of_ble_eq_true rfl) rfl (C_print W C (sc_32 xs _) (sc_32 xs _) (fun _ a b => ⟨rfl, a, b⟩)) (fun x1 σ1 h1 q1 => ?_)
  obtain ⟨e1, a1, a2⟩ := q1
  have M1 : MAll σ1 α := a1.fr Mm W
  refine g_aload_n X 1 dL_law_1072 rfl ?_
  refine g_arg Y (n := 1) dL_law_1073 dL_law_1074 dL_law_1075 dL_law_1076 dL_law_1077 i0 i6 (by omega) (by omega) ?_
  refine g_arg Y (n := 2) dL_law_1078 dL_law_1079 dL_law_1080 dL_law_1081 dL_law_1082 i0 i6 (by omega) (by omega) ?_
  have C1 : CAll σ1 α := a2
  refine g_cVI X (K := K_X8_print) (Q1 := fun x τ => x = (oPrint α (sc xs (i + 1)) (sc xs (i + 2))) ∧ MO σ1 τ ∧ MAll τ α) [.int (iI (sc xs (i + 1))), .int (iI (sc xs (i + 2)))] [.int (iI x1)] dL_law_1083 lv_XL_114 rm_XL_114 ⟨Nat.le_refl _, Nat.le_refl _⟩ hA rfl rfl rfl (Nat.le_of_ble_eq_true rfl) rfl (M_print W M1 (sc_32 xs _) (sc_32 xs _) (fun _ a b => ⟨rfl, a, b⟩)) (fun x2 σ2 h2 q2 => ?_)
  obtain ⟨e2, b1, b2⟩ := q2
  have C2 := CAll.mo b1 C1
  exact g_icmp_eq X (tgt := 1488) dL_law_1086 (by decide) h1 h2 (fun _ => back _ _ (W) C2 b2) (fun q => absurd (e1.trans e2.symm) q)
theorem lawc_23 (Y : LwX p s m args c A D cA ad L xs) {i : Int} (i0 : 0 ≤ i) (i6 : i + 6 ≤ L) {α : AB} (W : WF α) (C : CAll σ α) (Mm : MAll σ α) (back : ∀ α1 σ1, WF α1 → CAll σ1 α1 → MAll σ1 α1 → Wg p l e room_1 s m args below meth c A D cA ad 600000 7302250 G 1488 (lwL i) [] σ1) : Wg p l e room_1 s m args below meth c A D cA ad 600000 7302250 G 1091 (lwL i) [] σ := by
  have X := Y.1
  have hA := Y.2.1
  refine g_aload_n X 2 dL_law_1091 rfl ?_
  refine g_arg Y (n := 1) dL_law_1092 dL_law_1093 dL_law_1094 dL_law_1095 dL_law_1096 i0 i6 (by omega) (by omega) ?_
  refine g_cVI X (K := K_X7_feed) (Q1 := fun x τ => x = (oFeed α (sc xs (i + 1))).1 ∧ CO σ τ ∧ CAll τ ((oFeed α (sc xs (i + 1))).2)) [.int (iI (sc xs (i + 1)))] [] dL_law_1097 lv_XL_115 rm_XL_115 ⟨Nat.le_refl _, Nat.le_refl _⟩ hA rfl rfl rfl (Nat.le_of_ble_eq_true rfl) rfl (C_feed W C (sc_32 xs _) (fun _ a b => ⟨rfl, a, b⟩)) (fun x1 σ1 h1 q1 => ?_)
  obtain ⟨e1, a1, a2⟩ := q1
  have M1 : MAll σ1 α := a1.fr Mm W
  refine g_aload_n X 1 dL_law_1100 rfl ?_
  refine g_arg Y (n := 1) dL_law_1101 dL_law_1102 dL_law_1103 dL_law_1104 dL_law_1105 i0 i6 (by omega) (by omega) ?_
  have C1 : CAll σ1 ((oFeed α (sc xs (i + 1))).2) := a2
  refine g_cVI X (K := K_X8_feed) (Q1 := fun x τ => x = (oFeed α (sc xs (i + 1))).1 ∧ MO σ1 τ ∧ MAll τ ((oFeed α (sc xs (i + 1))).2)) [.int (iI (sc xs (i + 1)))] [.int (iI x1)] dL_law_1106 lv_XL_118 rm_XL_118 ⟨Nat.le_refl _, Nat.le_refl _⟩ hA rfl rfl rfl (Nat.le_of_ble_eq_true rfl) rfl (M_feed W M1 (sc_32 xs _) (fun _ a b => ⟨rfl, a, b⟩)) (fun x2 σ2 h2 q2 => ?_)
  obtain ⟨e2, b1, b2⟩ := q2
  have C2 := CAll.mo b1 C1
  exact g_icmp_eq X (tgt := 1488) dL_law_1109 (by decide) h1 h2 (fun _ => back _ _ (wf_feed W (sc xs (i + 1))) C2 b2) (fun q => absurd (e1.trans e2.symm) q)
theorem lawc_24 (Y : LwX p s m args c A D cA ad L xs) {i : Int} (i0 : 0 ≤ i) (i6 : i + 6 ≤ L) {α : AB} (W : WF α) (C : CAll σ α) (Mm : MAll σ α) (back : ∀ α1 σ1, WF α1 → CAll σ1 α1 → MAll σ1 α1 → Wg p l e room_1 s m args below meth c A D cA ad 600000 7302250 G 1488 (lwL i) [] σ1) : Wg p l e room_1 s m args below meth c A D cA ad 600000 7302250 G 1114 (lwL i) [] σ := by
  have X := Y.1
  have hA := Y.2.1
  refine g_aload_n X 2 dL_law_1114 rfl ?_
  refine g_arg Y (n := 1) dL_law_1115 dL_law_1116 dL_law_1117 dL_law_1118 dL_law_1119 i0 i6 (by omega) (by omega) ?_
  refine g_arg Y (n := 2) dL_law_1120 dL_law_1121 dL_law_1122 dL_law_1123 dL_law_1124 i0 i6 (by omega) (by omega) ?_
  refine g_cVI X (K := K_X7_read) (Q1 := fun x τ => x = (oRead α (sc xs (i + 1)) (sc xs (i + 2))).1 ∧ CO σ τ ∧ CAll τ ((oRead α (sc xs (i + 1)) (sc xs (i + 2))).2)) [.int (iI (sc xs (i + 1))), .int (iI (sc xs (i + 2)))] [] dL_law_1125 lv_XL_119 rm_XL_119 ⟨Nat.le_refl _, Nat.le_refl _⟩ hA rfl rfl rfl (Nat.le_of_ble_eq_true rfl) rfl (C_read W C (sc_32 xs _) (sc_32 xs _) (fun _ a b => ⟨rfl, a, b⟩)) (fun x1 σ1 h1 q1 => ?_)
  obtain ⟨e1, a1, a2⟩ := q1
  have M1 : MAll σ1 α := a1.fr Mm W
  refine g_aload_n X 1 dL_law_1128 rfl ?_
  refine g_arg Y (n := 1) dL_law_1129 dL_law_1130 dL_law_1131 dL_law_1132 dL_law_1133 i0 i6 (by omega) (by omega) ?_
  refine g_arg Y (n := 2) dL_law_1134 dL_law_1135 dL_law_1136 dL_law_1137 dL_law_1138 i0 i6 (by omega) (by omega) ?_
  have C1 : CAll σ1 ((oRead α (sc xs (i + 1)) (sc xs (i + 2))).2) := a2
  refine g_cVI X (K := K_X8_read) (Q1 := fun x τ => x = (oRead α (sc xs (i + 1)) (sc xs (i + 2))).1 ∧ MO σ1 τ ∧ MAll τ ((oRead α (sc xs (i + 1)) (sc xs (i + 2))).2)) [.int (iI (sc xs (i + 1))), .int (iI (sc xs (i + 2)))] [.int (iI x1)] dL_law_1139 lv_XL_122 rm_XL_122 ⟨Nat.le_refl _, Nat.le_refl _⟩ hA rfl rfl rfl (Nat.le_of_ble_eq_true rfl) rfl (M_read W M1 (sc_32 xs _) (sc_32 xs _) (fun _ a b => ⟨rfl, a, b⟩)) (fun x2 σ2 h2 q2 => ?_)
  obtain ⟨e2, b1, b2⟩ := q2
  have C2 := CAll.mo b1 C1
  exact g_icmp_eq X (tgt := 1488) dL_law_1142 (by decide) h1 h2 (fun _ => back _ _ (wf_read W (sc xs (i + 1)) (sc xs (i + 2))) C2 b2) (fun q => absurd (e1.trans e2.symm) q)
theorem lawc_25 (Y : LwX p s m args c A D cA ad L xs) {i : Int} (i0 : 0 ≤ i) (i6 : i + 6 ≤ L) {α : AB} (W : WF α) (C : CAll σ α) (Mm : MAll σ α) (back : ∀ α1 σ1, WF α1 → CAll σ1 α1 → MAll σ1 α1 → Wg p l e room_1 s m args below meth c A D cA ad 600000 7302250 G 1488 (lwL i) [] σ1) : Wg p l e room_1 s m args below meth c A D cA ad 600000 7302250 G 1147 (lwL i) [] σ := by
  have X := Y.1
  have hA := Y.2.1
  refine g_aload_n X 2 dL_law_1147 rfl ?_
  refine g_cVI X (K := K_X7_back) (Q1 := fun x τ => x = (oBack α).1 ∧ CO σ τ ∧ CAll τ ((oBack α).2)) [] [] dL_law_1148 lv_XL_123 rm_XL_123 ⟨Nat.le_refl _, Nat.le_refl _⟩ hA rfl rfl rfl (Nat.le_of_ble_eq_true rfl) rfl (C_back W C  (fun _ a b => ⟨rfl, a, b⟩)) (fun x1 σ1 h1 q1 => ?_)
  obtain ⟨e1, a1, a2⟩ := q1
  have M1 : MAll σ1 α := a1.fr Mm W
  refine g_aload_n X 1 dL_law_1151 rfl ?_
  have C1 : CAll σ1 ((oBack α).2) := a2
  refine g_cVI X (K := K_X8_back) (Q1 := fun x τ => x = (oBack α).1 ∧ MO σ1 τ ∧ MAll τ ((oBack α).2)) [] [.int (iI x1)] dL_law_1152 lv_XL_127 rm_XL_127 ⟨Nat.le_refl _, Nat.le_refl _⟩ hA rfl rfl rfl (Nat.le_of_ble_eq_true rfl) rfl (M_back W M1  (fun _ a b => ⟨rfl, a, b⟩)) (fun x2 σ2 h2 q2 => ?_)
  obtain ⟨e2, b1, b2⟩ := q2
  have C2 := CAll.mo b1 C1
  exact g_icmp_eq X (tgt := 1488) dL_law_1155 (by decide) h1 h2 (fun _ => back _ _ (W.back) C2 b2) (fun q => absurd (e1.trans e2.symm) q)
theorem lawc_26 (Y : LwX p s m args c A D cA ad L xs) {i : Int} (i0 : 0 ≤ i) (i6 : i + 6 ≤ L) {α : AB} (W : WF α) (C : CAll σ α) (Mm : MAll σ α) (back : ∀ α1 σ1, WF α1 → CAll σ1 α1 → MAll σ1 α1 → Wg p l e room_1 s m args below meth c A D cA ad 600000 7302250 G 1488 (lwL i) [] σ1) : Wg p l e room_1 s m args below meth c A D cA ad 600000 7302250 G 1160 (lwL i) [] σ := by
  have X := Y.1
  have hA := Y.2.1
  refine g_aload_n X 2 dL_law_1160 rfl ?_
  refine g_arg Y (n := 1) dL_law_1161 dL_law_1162 dL_law_1163 dL_law_1164 dL_law_1165 i0 i6 (by omega) (by omega) ?_
  refine g_arg Y (n := 2) dL_law_1166 dL_law_1167 dL_law_1168 dL_law_1169 dL_law_1170 i0 i6 (by omega) (by omega) ?_
  refine g_cVI X (K := K_X7_row) (Q1 := fun x τ => x = (oRow α (sc xs (i + 1)) (sc xs (i + 2))).1 ∧ CO σ τ ∧ CAll τ ((oRow α (sc xs (i + 1)) (sc xs (i + 2))).2)) [.int (iI (sc xs (i + 1))), .int (iI (sc xs (i + 2)))] [] dL_law_1171 lv_XL_128 rm_XL_128 ⟨Nat.le_refl _, Nat.le_refl _⟩ hA rfl rfl rfl (Nat.le_of_ble_eq_true rfl) rfl (C_row W C (sc_32 xs _) (sc_32 xs _) (fun _ a b => ⟨rfl, a, b⟩)) (fun x1 σ1 h1 q1 => ?_)
  obtain ⟨e1, a1, a2⟩ := q1
  have M1 : MAll σ1 α := a1.fr Mm W
  refine g_aload_n X 1 dL_law_1174 rfl ?_
  refine g_arg Y (n := 1) dL_law_1175 dL_law_1176 dL_law_1177 dL_law_1178 dL_law_1179 i0 i6 (by omega) (by omega) ?_
  refine g_arg Y (n := 2) dL_law_1180 dL_law_1181 dL_law_1182 dL_law_1183 dL_law_1184 i0 i6 (by omega) (by omega) ?_
  have C1 : CAll σ1 ((oRow α (sc xs (i + 1)) (sc xs (i + 2))).2) := a2
  refine g_cVI X (K := K_X8_row) (Q1 := fun x τ => x = (oRow α (sc xs (i + 1)) (sc xs (i + 2))).1 ∧ MO σ1 τ ∧ MAll τ ((oRow α (sc xs (i + 1)) (sc xs (i + 2))).2)) [.int (iI (sc xs (i + 1))), .int (iI (sc xs (i + 2)))] [.int (iI x1)] dL_law_1185 lv_XL_131 rm_XL_131 ⟨Nat.le_refl _, Nat.le_refl _⟩ hA rfl rfl rfl (Nat.le_of_ble_eq_true rfl) rfl (M_row W M1 (sc_32 xs _) (sc_32 xs _) (fun _ a b => ⟨rfl, a, b⟩)) (fun x2 σ2 h2 q2 => ?_)
  obtain ⟨e2, b1, b2⟩ := q2
  have C2 := CAll.mo b1 C1
  exact g_icmp_eq X (tgt := 1488) dL_law_1188 (by decide) h1 h2 (fun _ => back _ _ (wf_row W (sc xs (i + 1)) (sc xs (i + 2))) C2 b2) (fun q => absurd (e1.trans e2.symm) q)
theorem lawc_27 (Y : LwX p s m args c A D cA ad L xs) {i : Int} (i0 : 0 ≤ i) (i6 : i + 6 ≤ L) {α : AB} (W : WF α) (C : CAll σ α) (Mm : MAll σ α) (back : ∀ α1 σ1, WF α1 → CAll σ1 α1 → MAll σ1 α1 → Wg p l e room_1 s m args below meth c A D cA ad 600000 7302250 G 1488 (lwL i) [] σ1) : Wg p l e room_1 s m args below meth c A D cA ad 600000 7302250 G 1193 (lwL i) [] σ := by
  have X := Y.1
  have hA := Y.2.1
  refine g_aload_n X 2 dL_law_1193 rfl ?_
  refine g_arg Y (n := 1) dL_law_1194 dL_law_1195 dL_law_1196 dL_law_1197 dL_law_1198 i0 i6 (by omega) (by omega) ?_
  refine g_arg Y (n := 2) dL_law_1199 dL_law_1200 dL_law_1201 dL_law_1202 dL_law_1203 i0 i6 (by omega) (by omega) ?_
  refine g_lng Y (n := 3) (n2 := 4) dL_law_1204 dL_law_1205 dL_law_1206 dL_law_1207 dL_law_1208 dL_law_1209 dL_law_1210 dL_law_1212 dL_law_1213 dL_law_1214 dL_law_1215 dL_law_1216 dL_law_1217 dL_law_1218 dL_law_1219 dL_law_1222 dL_law_1223 lc_XL_37 i0 i6 (by omega) (by omega) (by omega) (by omega) ?_
  refine g_cVI X (K := K_X7_put) (Q1 := fun x τ => x = (oPut α (sc xs (i + 1)) (sc xs (i + 2)) (lg2 (sc xs (i + 3)) (sc xs (i + 4)))).1 ∧ CO σ τ ∧ CAll τ ((oPut α (sc xs (i + 1)) (sc xs (i + 2)) (lg2 (sc xs (i + 3)) (sc xs (i + 4)))).2)) [.int (iI (sc xs (i + 1))), .int (iI (sc xs (i + 2))), .long (lI (lg2 (sc xs (i + 3)) (sc xs (i + 4))))] [] dL_law_1224 lv_XL_132 rm_XL_132 ⟨Nat.le_refl _, Nat.le_refl _⟩ hA rfl rfl rfl (Nat.le_of_ble_eq_true rfl) rfl (C_put W C (sc_32 xs _) (sc_32 xs _) (fun _ a b => ⟨rfl, a, b⟩)) (fun x1 σ1 h1 q1 => ?_)
  obtain ⟨e1, a1, a2⟩ := q1
  have M1 : MAll σ1 α := a1.fr Mm W
  refine g_aload_n X 1 dL_law_1227 rfl ?_
  refine g_arg Y (n := 1) dL_law_1228 dL_law_1229 dL_law_1230 dL_law_1231 dL_law_1232 i0 i6 (by omega) (by omega) ?_
  refine g_arg Y (n := 2) dL_law_1233 dL_law_1234 dL_law_1235 dL_law_1236 dL_law_1237 i0 i6 (by omega) (by omega) ?_
  refine g_lng Y (n := 3) (n2 := 4) dL_law_1238 dL_law_1239 dL_law_1240 dL_law_1241 dL_law_1242 dL_law_1243 dL_law_1244 dL_law_1246 dL_law_1247 dL_law_1248 dL_law_1249 dL_law_1250 dL_law_1251 dL_law_1252 dL_law_1253 dL_law_1256 dL_law_1257 lc_XL_37 i0 i6 (by omega) (by omega) (by omega) (by omega) ?_
  have C1 : CAll σ1 ((oPut α (sc xs (i + 1)) (sc xs (i + 2)) (lg2 (sc xs (i + 3)) (sc xs (i + 4)))).2) := a2
  refine g_cVI X (K := K_X8_put) (Q1 := fun x τ => x = (oPut α (sc xs (i + 1)) (sc xs (i + 2)) (lg2 (sc xs (i + 3)) (sc xs (i + 4)))).1 ∧ MO σ1 τ ∧ MAll τ ((oPut α (sc xs (i + 1)) (sc xs (i + 2)) (lg2 (sc xs (i + 3)) (sc xs (i + 4)))).2)) [.int (iI (sc xs (i + 1))), .int (iI (sc xs (i + 2))), .long (lI (lg2 (sc xs (i + 3)) (sc xs (i + 4))))] [.int (iI x1)] dL_law_1258 lv_XL_135 rm_XL_135 ⟨Nat.le_refl _, Nat.le_refl _⟩ hA rfl rfl rfl (Nat.le_of_ble_eq_true rfl) rfl (M_put W M1 (sc_32 xs _) (sc_32 xs _) (fun _ a b => ⟨rfl, a, b⟩)) (fun x2 σ2 h2 q2 => ?_)
  obtain ⟨e2, b1, b2⟩ := q2
  have C2 := CAll.mo b1 C1
  exact g_icmp_eq X (tgt := 1488) dL_law_1261 (by decide) h1 h2 (fun _ => back _ _ (wf_put W (sc xs (i + 1)) (sc xs (i + 2)) (i64_of _)) C2 b2) (fun q => absurd (e1.trans e2.symm) q)
theorem lawc_28 (Y : LwX p s m args c A D cA ad L xs) {i : Int} (i0 : 0 ≤ i) (i6 : i + 6 ≤ L) {α : AB} (W : WF α) (C : CAll σ α) (Mm : MAll σ α) (back : ∀ α1 σ1, WF α1 → CAll σ1 α1 → MAll σ1 α1 → Wg p l e room_1 s m args below meth c A D cA ad 600000 7302250 G 1488 (lwL i) [] σ1) : Wg p l e room_1 s m args below meth c A D cA ad 600000 7302250 G 1266 (lwL i) [] σ := by
  have X := Y.1
  have hA := Y.2.1
  refine g_aload_n X 2 dL_law_1266 rfl ?_
  refine g_arg Y (n := 1) dL_law_1267 dL_law_1268 dL_law_1269 dL_law_1270 dL_law_1271 i0 i6 (by omega) (by omega) ?_
  refine g_arg Y (n := 2) dL_law_1272 dL_law_1273 dL_law_1274 dL_law_1275 dL_law_1276 i0 i6 (by omega) (by omega) ?_
  refine g_cVL X (K := K_X7_get) (Q1 := fun x τ => x = (oGet α (sc xs (i + 1)) (sc xs (i + 2))) ∧ CO σ τ ∧ CAll τ α) [.int (iI (sc xs (i + 1))), .int (iI (sc xs (i + 2)))] [] dL_law_1277 lv_XL_136 rm_XL_136 ⟨Nat.le_refl _, Nat.le_refl _⟩ hA rfl rfl rfl (Nat.le_of_ble_eq_true rfl) rfl (C_get W C (sc_32 xs _) (sc_32 xs _) (⟨rfl, Ag.rf, C⟩)) (fun x1 σ1 h1 q1 => ?_)
  obtain ⟨e1, a1, a2⟩ := q1
  have M1 : MAll σ1 α := a1.fr Mm W
  refine g_aload_n X 1 dL_law_1280 rfl ?_
  refine g_arg Y (n := 1) dL_law_1281 dL_law_1282 dL_law_1283 dL_law_1284 dL_law_1285 i0 i6 (by omega) (by omega) ?_
  refine g_arg Y (n := 2) dL_law_1286 dL_law_1287 dL_law_1288 dL_law_1289 dL_law_1290 i0 i6 (by omega) (by omega) ?_
  have C1 : CAll σ1 α := a2
  refine g_cVL X (K := K_X8_get) (Q1 := fun x τ => x = (oGet α (sc xs (i + 1)) (sc xs (i + 2))) ∧ MO σ1 τ ∧ MAll τ α) [.int (iI (sc xs (i + 1))), .int (iI (sc xs (i + 2)))] [.long (lI x1)] dL_law_1291 lv_XL_140 rm_XL_140 ⟨Nat.le_refl _, Nat.le_refl _⟩ hA rfl rfl rfl (Nat.le_of_ble_eq_true rfl) rfl (M_get W M1 (sc_32 xs _) (sc_32 xs _) (⟨rfl, Ag.rf, M1⟩)) (fun x2 σ2 h2 q2 => ?_)
  obtain ⟨e2, b1, b2⟩ := q2
  have C2 := CAll.mo b1 C1
  exact g_lc_eq X (tgt := 1488) dL_law_1294 dL_law_1295 (by decide) h1 h2 (fun _ => back _ _ (W) C2 b2) (fun q => absurd (e1.trans e2.symm) q)
theorem lawc_29 (Y : LwX p s m args c A D cA ad L xs) {i : Int} (i0 : 0 ≤ i) (i6 : i + 6 ≤ L) {α : AB} (W : WF α) (C : CAll σ α) (Mm : MAll σ α) (back : ∀ α1 σ1, WF α1 → CAll σ1 α1 → MAll σ1 α1 → Wg p l e room_1 s m args below meth c A D cA ad 600000 7302250 G 1488 (lwL i) [] σ1) : Wg p l e room_1 s m args below meth c A D cA ad 600000 7302250 G 1300 (lwL i) [] σ := by
  have X := Y.1
  have hA := Y.2.1
  refine g_aload_n X 2 dL_law_1300 rfl ?_
  refine g_arg Y (n := 1) dL_law_1301 dL_law_1302 dL_law_1303 dL_law_1304 dL_law_1305 i0 i6 (by omega) (by omega) ?_
  refine g_arg Y (n := 2) dL_law_1306 dL_law_1307 dL_law_1308 dL_law_1309 dL_law_1310 i0 i6 (by omega) (by omega) ?_
  refine g_arg Y (n := 3) dL_law_1311 dL_law_1312 dL_law_1313 dL_law_1314 dL_law_1315 i0 i6 (by omega) (by omega) ?_
  refine g_arg Y (n := 4) dL_law_1316 dL_law_1317 dL_law_1318 dL_law_1319 dL_law_1320 i0 i6 (by omega) (by omega) ?_
  refine g_arg Y (n := 5) dL_law_1321 dL_law_1322 dL_law_1323 dL_law_1324 dL_law_1325 i0 i6 (by omega) (by omega) ?_
  refine g_cVI X (K := K_X7_copy) (Q1 := fun x τ => x = (oCopy α (sc xs (i + 1)) (sc xs (i + 2)) (sc xs (i + 3)) (sc xs (i + 4)) (sc xs (i + 5))).1 ∧ CO σ τ ∧ CAll τ ((oCopy α (sc xs (i + 1)) (sc xs (i + 2)) (sc xs (i + 3)) (sc xs (i + 4)) (sc xs (i + 5))).2)) [.int (iI (sc xs (i + 1))), .int (iI (sc xs (i + 2))), .int (iI (sc xs (i + 3))), .int (iI (sc xs (i + 4))), .int (iI (sc xs (i + 5)))] [] dL_law_1326 lv_XL_141 rm_XL_141 ⟨Nat.le_refl _, Nat.le_refl _⟩ hA rfl rfl rfl (Nat.le_of_ble_eq_true rfl) rfl (C_copy W C (sc_32 xs _) (sc_32 xs _) (sc_32 xs _) (sc_32 xs _) (sc_32 xs _) (fun _ a b => ⟨rfl, a, b⟩)) (fun x1 σ1 h1 q1 => ?_)
  obtain ⟨e1, a1, a2⟩ := q1
  have M1 : MAll σ1 α := a1.fr Mm W
  refine g_aload_n X 1 dL_law_1329 rfl ?_
  refine g_arg Y (n := 1) dL_law_1330 dL_law_1331 dL_law_1332 dL_law_1333 dL_law_1334 i0 i6 (by omega) (by omega) ?_
  refine g_arg Y (n := 2) dL_law_1335 dL_law_1336 dL_law_1337 dL_law_1338 dL_law_1339 i0 i6 (by omega) (by omega) ?_
  refine g_arg Y (n := 3) dL_law_1340 dL_law_1341 dL_law_1342 dL_law_1343 dL_law_1344 i0 i6 (by omega) (by omega) ?_
  refine g_arg Y (n := 4) dL_law_1345 dL_law_1346 dL_law_1347 dL_law_1348 dL_law_1349 i0 i6 (by omega) (by omega) ?_
  refine g_arg Y (n := 5) dL_law_1350 dL_law_1351 dL_law_1352 dL_law_1353 dL_law_1354 i0 i6 (by omega) (by omega) ?_
  have C1 : CAll σ1 ((oCopy α (sc xs (i + 1)) (sc xs (i + 2)) (sc xs (i + 3)) (sc xs (i + 4)) (sc xs (i + 5))).2) := a2
  refine g_cVI X (K := K_X8_copy) (Q1 := fun x τ => x = (oCopy α (sc xs (i + 1)) (sc xs (i + 2)) (sc xs (i + 3)) (sc xs (i + 4)) (sc xs (i + 5))).1 ∧ MO σ1 τ ∧ MAll τ ((oCopy α (sc xs (i + 1)) (sc xs (i + 2)) (sc xs (i + 3)) (sc xs (i + 4)) (sc xs (i + 5))).2)) [.int (iI (sc xs (i + 1))), .int (iI (sc xs (i + 2))), .int (iI (sc xs (i + 3))), .int (iI (sc xs (i + 4))), .int (iI (sc xs (i + 5)))] [.int (iI x1)] dL_law_1355 lv_XL_145 rm_XL_145 ⟨Nat.le_refl _, Nat.le_refl _⟩ hA rfl rfl rfl (Nat.le_of_ble_eq_true rfl) rfl (M_copy W M1 (sc_32 xs _) (sc_32 xs _) (sc_32 xs _) (sc_32 xs _) (sc_32 xs _) (fun _ a b => ⟨rfl, a, b⟩)) (fun x2 σ2 h2 q2 => ?_)
  obtain ⟨e2, b1, b2⟩ := q2
  have C2 := CAll.mo b1 C1
  exact g_icmp_eq X (tgt := 1488) dL_law_1358 (by decide) h1 h2 (fun _ => back _ _ (wf_copy W (sc xs (i + 1)) (sc xs (i + 2)) (sc xs (i + 3)) (sc xs (i + 4)) (sc xs (i + 5))) C2 b2) (fun q => absurd (e1.trans e2.symm) q)
theorem lawc_30 (Y : LwX p s m args c A D cA ad L xs) {i : Int} (i0 : 0 ≤ i) (i6 : i + 6 ≤ L) {α : AB} (W : WF α) (C : CAll σ α) (Mm : MAll σ α) (back : ∀ α1 σ1, WF α1 → CAll σ1 α1 → MAll σ1 α1 → Wg p l e room_1 s m args below meth c A D cA ad 600000 7302250 G 1488 (lwL i) [] σ1) : Wg p l e room_1 s m args below meth c A D cA ad 600000 7302250 G 1363 (lwL i) [] σ := by
  have X := Y.1
  have hA := Y.2.1
  refine g_aload_n X 2 dL_law_1363 rfl ?_
  refine g_arg Y (n := 1) dL_law_1364 dL_law_1365 dL_law_1366 dL_law_1367 dL_law_1368 i0 i6 (by omega) (by omega) ?_
  refine g_arg Y (n := 2) dL_law_1369 dL_law_1370 dL_law_1371 dL_law_1372 dL_law_1373 i0 i6 (by omega) (by omega) ?_
  refine g_arg Y (n := 3) dL_law_1374 dL_law_1375 dL_law_1376 dL_law_1377 dL_law_1378 i0 i6 (by omega) (by omega) ?_
  refine g_cVI X (K := K_X7_lay) (Q1 := fun x τ => x = (oLay α (sc xs (i + 1)) (sc xs (i + 2)) (sc xs (i + 3))).1 ∧ CO σ τ ∧ CAll τ ((oLay α (sc xs (i + 1)) (sc xs (i + 2)) (sc xs (i + 3))).2)) [.int (iI (sc xs (i + 1))), .int (iI (sc xs (i + 2))), .int (iI (sc xs (i + 3)))] [] dL_law_1379 lv_XL_146 rm_XL_146 ⟨Nat.le_refl _, Nat.le_refl _⟩ hA rfl rfl rfl (Nat.le_of_ble_eq_true rfl) rfl (C_lay W C (sc_32 xs _) (sc_32 xs _) (sc_32 xs _) (fun _ a b => ⟨rfl, a, b⟩)) (fun x1 σ1 h1 q1 => ?_)
  obtain ⟨e1, a1, a2⟩ := q1
  have M1 : MAll σ1 α := a1.fr Mm W
  refine g_aload_n X 1 dL_law_1382 rfl ?_
  refine g_arg Y (n := 1) dL_law_1383 dL_law_1384 dL_law_1385 dL_law_1386 dL_law_1387 i0 i6 (by omega) (by omega) ?_
  refine g_arg Y (n := 2) dL_law_1388 dL_law_1389 dL_law_1390 dL_law_1391 dL_law_1392 i0 i6 (by omega) (by omega) ?_
  refine g_arg Y (n := 3) dL_law_1393 dL_law_1394 dL_law_1395 dL_law_1396 dL_law_1397 i0 i6 (by omega) (by omega) ?_
  have C1 : CAll σ1 ((oLay α (sc xs (i + 1)) (sc xs (i + 2)) (sc xs (i + 3))).2) := a2
  refine g_cVI X (K := K_X8_lay) (Q1 := fun x τ => x = (oLay α (sc xs (i + 1)) (sc xs (i + 2)) (sc xs (i + 3))).1 ∧ MO σ1 τ ∧ MAll τ ((oLay α (sc xs (i + 1)) (sc xs (i + 2)) (sc xs (i + 3))).2)) [.int (iI (sc xs (i + 1))), .int (iI (sc xs (i + 2))), .int (iI (sc xs (i + 3)))] [.int (iI x1)] dL_law_1398 lv_XL_149 rm_XL_149 ⟨Nat.le_refl _, Nat.le_refl _⟩ hA rfl rfl rfl (Nat.le_of_ble_eq_true rfl) rfl (M_lay W M1 (sc_32 xs _) (sc_32 xs _) (sc_32 xs _) (fun _ a b => ⟨rfl, a, b⟩)) (fun x2 σ2 h2 q2 => ?_)
  obtain ⟨e2, b1, b2⟩ := q2
  have C2 := CAll.mo b1 C1
  exact g_icmp_eq X (tgt := 1488) dL_law_1401 (by decide) h1 h2 (fun _ => back _ _ (wf_lay W (sc xs (i + 1)) (sc xs (i + 2)) (sc xs (i + 3))) C2 b2) (fun q => absurd (e1.trans e2.symm) q)
theorem lawc_31 (Y : LwX p s m args c A D cA ad L xs) {i : Int} (i0 : 0 ≤ i) (i6 : i + 6 ≤ L) {α : AB} (W : WF α) (C : CAll σ α) (Mm : MAll σ α) (back : ∀ α1 σ1, WF α1 → CAll σ1 α1 → MAll σ1 α1 → Wg p l e room_1 s m args below meth c A D cA ad 600000 7302250 G 1488 (lwL i) [] σ1) : Wg p l e room_1 s m args below meth c A D cA ad 600000 7302250 G 1406 (lwL i) [] σ := by
  have X := Y.1
  have hA := Y.2.1
  refine g_aload_n X 2 dL_law_1406 rfl ?_
  refine g_arg Y (n := 1) dL_law_1407 dL_law_1408 dL_law_1409 dL_law_1410 dL_law_1411 i0 i6 (by omega) (by omega) ?_
  refine g_arg Y (n := 2) dL_law_1412 dL_law_1413 dL_law_1414 dL_law_1415 dL_law_1416 i0 i6 (by omega) (by omega) ?_
  refine g_cVI X (K := K_X7_film) (Q1 := fun x τ => x = (oFilm α (sc xs (i + 1)) (sc xs (i + 2))).1 ∧ CO σ τ ∧ CAll τ ((oFilm α (sc xs (i + 1)) (sc xs (i + 2))).2)) [.int (iI (sc xs (i + 1))), .int (iI (sc xs (i + 2)))] [] dL_law_1417 lv_XL_150 rm_XL_150 ⟨Nat.le_refl _, Nat.le_refl _⟩ hA rfl rfl rfl (Nat.le_of_ble_eq_true rfl) rfl (C_film W C (sc_32 xs _) (sc_32 xs _) (fun _ a b => ⟨rfl, a, b⟩)) (fun x1 σ1 h1 q1 => ?_)
  obtain ⟨e1, a1, a2⟩ := q1
  have M1 : MAll σ1 α := a1.fr Mm W
  refine g_aload_n X 1 dL_law_1420 rfl ?_
  refine g_arg Y (n := 1) dL_law_1421 dL_law_1422 dL_law_1423 dL_law_1424 dL_law_1425 i0 i6 (by omega) (by omega) ?_
  refine g_arg Y (n := 2) dL_law_1426 dL_law_1427 dL_law_1428 dL_law_1429 dL_law_1430 i0 i6 (by omega) (by omega) ?_
  have C1 : CAll σ1 ((oFilm α (sc xs (i + 1)) (sc xs (i + 2))).2) := a2
  refine g_cVI X (K := K_X8_film) (Q1 := fun x τ => x = (oFilm α (sc xs (i + 1)) (sc xs (i + 2))).1 ∧ MO σ1 τ ∧ MAll τ ((oFilm α (sc xs (i + 1)) (sc xs (i + 2))).2)) [.int (iI (sc xs (i + 1))), .int (iI (sc xs (i + 2)))] [.int (iI x1)] dL_law_1431 lv_XL_153 rm_XL_153 ⟨Nat.le_refl _, Nat.le_refl _⟩ hA rfl rfl rfl (Nat.le_of_ble_eq_true rfl) rfl (M_film W M1 (sc_32 xs _) (sc_32 xs _) (fun _ a b => ⟨rfl, a, b⟩)) (fun x2 σ2 h2 q2 => ?_)
  obtain ⟨e2, b1, b2⟩ := q2
  have C2 := CAll.mo b1 C1
  exact g_icmp_eq X (tgt := 1488) dL_law_1434 (by decide) h1 h2 (fun _ => back _ _ (wf_film W (sc xs (i + 1)) (sc xs (i + 2))) C2 b2) (fun q => absurd (e1.trans e2.symm) q)
theorem lawc_32 (Y : LwX p s m args c A D cA ad L xs) {i : Int} (i0 : 0 ≤ i) (i6 : i + 6 ≤ L) {α : AB} (W : WF α) (C : CAll σ α) (Mm : MAll σ α) (back : ∀ α1 σ1, WF α1 → CAll σ1 α1 → MAll σ1 α1 → Wg p l e room_1 s m args below meth c A D cA ad 600000 7302250 G 1488 (lwL i) [] σ1) : Wg p l e room_1 s m args below meth c A D cA ad 600000 7302250 G 1439 (lwL i) [] σ := by
  have X := Y.1
  have hA := Y.2.1
  refine g_aload_n X 2 dL_law_1439 rfl ?_
  refine g_cVI X (K := K_X7_image) (Q1 := fun x τ => x = (oImage α).1 ∧ CO σ τ ∧ CAll τ ((oImage α).2)) [] [] dL_law_1440 lv_XL_154 rm_XL_154 ⟨Nat.le_refl _, Nat.le_refl _⟩ hA rfl rfl rfl (Nat.le_of_ble_eq_true rfl) rfl (C_image W C  (fun _ a b => ⟨rfl, a, b⟩)) (fun x1 σ1 h1 q1 => ?_)
  obtain ⟨e1, a1, a2⟩ := q1
  have M1 : MAll σ1 α := a1.fr Mm W
  refine g_aload_n X 1 dL_law_1443 rfl ?_
  have C1 : CAll σ1 ((oImage α).2) := a2
  refine g_cVI X (K := K_X8_image) (Q1 := fun x τ => x = (oImage α).1 ∧ MO σ1 τ ∧ MAll τ ((oImage α).2)) [] [.int (iI x1)] dL_law_1444 lv_XL_157 rm_XL_157 ⟨Nat.le_refl _, Nat.le_refl _⟩ hA rfl rfl rfl (Nat.le_of_ble_eq_true rfl) rfl (M_image W M1  (fun _ a b => ⟨rfl, a, b⟩)) (fun x2 σ2 h2 q2 => ?_)
  obtain ⟨e2, b1, b2⟩ := q2
  have C2 := CAll.mo b1 C1
  exact g_icmp_eq X (tgt := 1488) dL_law_1447 (by decide) h1 h2 (fun _ => back _ _ (wf_image W) C2 b2) (fun q => absurd (e1.trans e2.symm) q)
theorem lawc_33 (Y : LwX p s m args c A D cA ad L xs) {i : Int} (i0 : 0 ≤ i) (i6 : i + 6 ≤ L) {α : AB} (W : WF α) (C : CAll σ α) (Mm : MAll σ α) (back : ∀ α1 σ1, WF α1 → CAll σ1 α1 → MAll σ1 α1 → Wg p l e room_1 s m args below meth c A D cA ad 600000 7302250 G 1488 (lwL i) [] σ1) : Wg p l e room_1 s m args below meth c A D cA ad 600000 7302250 G 1452 (lwL i) [] σ := by
  have X := Y.1
  have hA := Y.2.1
  refine g_aload_n X 2 dL_law_1452 rfl ?_
  refine g_cVI X (K := K_X7_undo) (Q1 := fun x τ => x = (oUndo α).1 ∧ CO σ τ ∧ CAll τ ((oUndo α).2)) [] [] dL_law_1453 lv_XL_158 rm_XL_158 ⟨Nat.le_refl _, Nat.le_refl _⟩ hA rfl rfl rfl (Nat.le_of_ble_eq_true rfl) rfl (C_undo W C  (fun _ a b => ⟨rfl, a, b⟩)) (fun x1 σ1 h1 q1 => ?_)
  obtain ⟨e1, a1, a2⟩ := q1
  have M1 : MAll σ1 α := a1.fr Mm W
  refine g_aload_n X 1 dL_law_1456 rfl ?_
  have C1 : CAll σ1 ((oUndo α).2) := a2
  refine g_cVI X (K := K_X8_undo) (Q1 := fun x τ => x = (oUndo α).1 ∧ MO σ1 τ ∧ MAll τ ((oUndo α).2)) [] [.int (iI x1)] dL_law_1457 lv_XL_161 rm_XL_161 ⟨Nat.le_refl _, Nat.le_refl _⟩ hA rfl rfl rfl (Nat.le_of_ble_eq_true rfl) rfl (M_undo W M1  (fun _ a b => ⟨rfl, a, b⟩)) (fun x2 σ2 h2 q2 => ?_)
  obtain ⟨e2, b1, b2⟩ := q2
  have C2 := CAll.mo b1 C1
  exact g_icmp_eq X (tgt := 1488) dL_law_1460 (by decide) h1 h2 (fun _ => back _ _ (wf_undo W) C2 b2) (fun q => absurd (e1.trans e2.symm) q)
theorem lawc_34 (Y : LwX p s m args c A D cA ad L xs) {i : Int} (i0 : 0 ≤ i) (i6 : i + 6 ≤ L) {α : AB} (W : WF α) (C : CAll σ α) (Mm : MAll σ α) (back : ∀ α1 σ1, WF α1 → CAll σ1 α1 → MAll σ1 α1 → Wg p l e room_1 s m args below meth c A D cA ad 600000 7302250 G 1488 (lwL i) [] σ1) : Wg p l e room_1 s m args below meth c A D cA ad 600000 7302250 G 1465 (lwL i) [] σ := by
  have X := Y.1
  have hA := Y.2.1
  refine g_aload_n X 2 dL_law_1465 rfl ?_
  refine g_arg Y (n := 1) dL_law_1466 dL_law_1467 dL_law_1468 dL_law_1469 dL_law_1470 i0 i6 (by omega) (by omega) ?_
  refine g_cVI X (K := K_X7_count) (Q1 := fun x τ => x = (oCount α (sc xs (i + 1))) ∧ CO σ τ ∧ CAll τ α) [.int (iI (sc xs (i + 1)))] [] dL_law_1471 lv_XL_162 rm_XL_162 ⟨Nat.le_refl _, Nat.le_refl _⟩ hA rfl rfl rfl (Nat.le_of_ble_eq_true rfl) rfl (C_count W C (sc_32 xs _) (⟨rfl, Ag.rf, C⟩)) (fun x1 σ1 h1 q1 => ?_)
  obtain ⟨e1, a1, a2⟩ := q1
  have M1 : MAll σ1 α := a1.fr Mm W
  refine g_aload_n X 1 dL_law_1474 rfl ?_
  refine g_arg Y (n := 1) dL_law_1475 dL_law_1476 dL_law_1477 dL_law_1478 dL_law_1479 i0 i6 (by omega) (by omega) ?_
  have C1 : CAll σ1 α := a2
  refine g_cVI X (K := K_X8_count) (Q1 := fun x τ => x = (oCount α (sc xs (i + 1))) ∧ MO σ1 τ ∧ MAll τ α) [.int (iI (sc xs (i + 1)))] [.int (iI x1)] dL_law_1480 lv_XL_165 rm_XL_165 ⟨Nat.le_refl _, Nat.le_refl _⟩ hA rfl rfl rfl (Nat.le_of_ble_eq_true rfl) rfl (M_count W M1 (sc_32 xs _) (⟨rfl, Ag.rf, M1⟩)) (fun x2 σ2 h2 q2 => ?_)
  obtain ⟨e2, b1, b2⟩ := q2
  have C2 := CAll.mo b1 C1
  exact g_icmp_eq X (tgt := 1488) dL_law_1483 (by decide) h1 h2 (fun _ => back _ _ (W) C2 b2) (fun q => absurd (e1.trans e2.symm) q)
end LC
