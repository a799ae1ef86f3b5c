/-! THE LAW'S ARMS: each call is answered alike -/
theorem nI_6 (a : Nat) : nI a + Int32.ofInt 6 = nI (a + 6) := nI_add a 6
theorem arm_write {O : gOm} {p : Program} {l : Launch} {e : Env} {s : State} {mi : MethodId} {below : List Frame} {meth : Method} {c : Code} {b L : Nat} {xs : Nat → Int32} {m : gMem} {i : Nat} (C : LwC O p s mi meth c b L xs) (hL3 : L ≤ 3072) (hi : i + 6 ≤ L) (hI : Inv m) (nxt : ∀ m2, Inv m2 → Lw O p l e s mi below meth c b 926 [.ref 70, .ref 0, .ref 46, .int (nI i)] [] m2) : Lw O p l e s mi below meth c b 148 [.ref 70, .ref 0, .ref 46, .int (nI i)] [] m := by
  obtain ⟨r, m1, m2, c1, c2, q⟩ := op_write (O := O) (d := 36) (m := m) (n := xs (i + 1)) (v := (xs (i + 2)).toInt64 <<< ((nI 32).toInt64 &&& 63) ||| ((xs (i + 3)).toInt64 &&& 4294967295)) hI
  refine lq_aload_n C dL_law_148 rfl ?_
  refine lq_aload_n C dL_law_149 rfl ?_
  refine lq_iload_n C dL_law_150 rfl ?_
  refine lq_iconst C (nI 1) dL_law_151 (by decide +kernel) ?_
  first | refine lq_iadd_n C dL_law_152 ?_ | refine lq_iadd C dL_law_152 rfl ?_
  refine lq_sld C dL_law_153 rfl (by omega) hL3 ?_
  refine lq_aload_n C dL_law_154 rfl ?_
  refine lq_iload_n C dL_law_155 rfl ?_
  refine lq_iconst C (nI 2) dL_law_156 (by decide +kernel) ?_
  first | refine lq_iadd_n C dL_law_157 ?_ | refine lq_iadd C dL_law_157 rfl ?_
  refine lq_sld C dL_law_158 rfl (by omega) hL3 ?_
  refine lq_i2l C dL_law_159 rfl ?_
  refine lq_bipush C (nI 32) dL_law_160 (by decide +kernel) ?_
  refine lq_lshl C dL_law_162 rfl ?_
  refine lq_aload_n C dL_law_163 rfl ?_
  refine lq_iload_n C dL_law_164 rfl ?_
  refine lq_iconst C (nI 3) dL_law_165 (by decide +kernel) ?_
  first | refine lq_iadd_n C dL_law_166 ?_ | refine lq_iadd C dL_law_166 rfl ?_
  refine lq_sld C dL_law_167 rfl (by omega) hL3 ?_
  refine lq_i2l C dL_law_168 rfl ?_
  refine lq_ldc2 C kcL_13 dL_law_169 ?_
  refine lq_land C dL_law_172 rfl ?_
  refine lq_lor C dL_law_173 rfl ?_
  refine lq_callV1 C (K' := kX6_write) [_, _] dL_law_174 mL_15 lX6_write rfl (by decide) rfl (by decide) rfl rfl (Nat.le_of_ble_eq_true rfl) (Nat.le_of_ble_eq_true rfl) (c1) ?_
  refine lq_aload_n C dL_law_177 rfl ?_
  refine lq_aload_n C dL_law_178 rfl ?_
  refine lq_iload_n C dL_law_179 rfl ?_
  refine lq_iconst C (nI 1) dL_law_180 (by decide +kernel) ?_
  first | refine lq_iadd_n C dL_law_181 ?_ | refine lq_iadd C dL_law_181 rfl ?_
  refine lq_sld C dL_law_182 rfl (by omega) hL3 ?_
  refine lq_aload_n C dL_law_183 rfl ?_
  refine lq_iload_n C dL_law_184 rfl ?_
  refine lq_iconst C (nI 2) dL_law_185 (by decide +kernel) ?_
  first | refine lq_iadd_n C dL_law_186 ?_ | refine lq_iadd C dL_law_186 rfl ?_
  refine lq_sld C dL_law_187 rfl (by omega) hL3 ?_
  refine lq_i2l C dL_law_188 rfl ?_
  refine lq_bipush C (nI 32) dL_law_189 (by decide +kernel) ?_
  refine lq_lshl C dL_law_191 rfl ?_
  refine lq_aload_n C dL_law_192 rfl ?_
  refine lq_iload_n C dL_law_193 rfl ?_
  refine lq_iconst C (nI 3) dL_law_194 (by decide +kernel) ?_
  first | refine lq_iadd_n C dL_law_195 ?_ | refine lq_iadd C dL_law_195 rfl ?_
  refine lq_sld C dL_law_196 rfl (by omega) hL3 ?_
  refine lq_i2l C dL_law_197 rfl ?_
  refine lq_ldc2 C kcL_13 dL_law_198 ?_
  refine lq_land C dL_law_201 rfl ?_
  refine lq_lor C dL_law_202 rfl ?_
  refine lq_callV1 C (K' := kX7_write) [_, _] dL_law_203 mL_19 lX7_write rfl (by decide) rfl (by decide) rfl rfl (Nat.le_of_ble_eq_true rfl) (Nat.le_of_ble_eq_true rfl) (c2) ?_
  refine lq_icmp_eq C 926 dL_law_206 (by decide) (fun h206 => ?_) (fun h => absurd (rfl) h)
  exact nxt _ q
theorem arm_wipe {O : gOm} {p : Program} {l : Launch} {e : Env} {s : State} {mi : MethodId} {below : List Frame} {meth : Method} {c : Code} {b L : Nat} {xs : Nat → Int32} {m : gMem} {i : Nat} (C : LwC O p s mi meth c b L xs) (hL3 : L ≤ 3072) (hi : i + 6 ≤ L) (hI : Inv m) (nxt : ∀ m2, Inv m2 → Lw O p l e s mi below meth c b 926 [.ref 70, .ref 0, .ref 46, .int (nI i)] [] m2) : Lw O p l e s mi below meth c b 211 [.ref 70, .ref 0, .ref 46, .int (nI i)] [] m := by
  obtain ⟨r, m1, m2, c1, c2, q⟩ := op_wipe (O := O) (d := 36) (m := m)  hI
  refine lq_aload_n C dL_law_211 rfl ?_
  refine lq_callV1 C (K' := kX6_wipe) [] dL_law_212 mL_20 lX6_wipe rfl (by decide) rfl (by decide) rfl rfl (Nat.le_of_ble_eq_true rfl) (Nat.le_of_ble_eq_true rfl) (c1) ?_
  refine lq_aload_n C dL_law_215 rfl ?_
  refine lq_callV1 C (K' := kX7_wipe) [] dL_law_216 mL_24 lX7_wipe rfl (by decide) rfl (by decide) rfl rfl (Nat.le_of_ble_eq_true rfl) (Nat.le_of_ble_eq_true rfl) (c2) ?_
  refine lq_icmp_eq C 926 dL_law_219 (by decide) (fun h219 => ?_) (fun h => absurd (rfl) h)
  exact nxt _ q
theorem arm_fault {O : gOm} {p : Program} {l : Launch} {e : Env} {s : State} {mi : MethodId} {below : List Frame} {meth : Method} {c : Code} {b L : Nat} {xs : Nat → Int32} {m : gMem} {i : Nat} (C : LwC O p s mi meth c b L xs) (hL3 : L ≤ 3072) (hi : i + 6 ≤ L) (hI : Inv m) (nxt : ∀ m2, Inv m2 → Lw O p l e s mi below meth c b 926 [.ref 70, .ref 0, .ref 46, .int (nI i)] [] m2) : Lw O p l e s mi below meth c b 224 [.ref 70, .ref 0, .ref 46, .int (nI i)] [] m := by
  obtain ⟨r, m1, m2, c1, c2, q⟩ := op_fault (O := O) (d := 0) (m := m)  hI
  refine lq_aload_n C dL_law_224 rfl ?_
  refine lq_callV1 C (K' := kX6_fault) [] dL_law_225 mL_25 lX6_fault rfl (by decide) rfl (by decide) rfl rfl (Nat.le_of_ble_eq_true rfl) (Nat.le_of_ble_eq_true rfl) (c1) ?_
  refine lq_aload_n C dL_law_228 rfl ?_
  refine lq_callV1 C (K' := kX7_fault) [] dL_law_229 mL_28 lX7_fault rfl (by decide) rfl (by decide) rfl rfl (Nat.le_of_ble_eq_true rfl) (Nat.le_of_ble_eq_true rfl) (c2) ?_
  refine lq_icmp_eq C 926 dL_law_232 (by decide) (fun h232 => ?_) (fun h => absurd (rfl) h)
  exact nxt _ q
theorem arm_day {O : gOm} {p : Program} {l : Launch} {e : Env} {s : State} {mi : MethodId} {below : List Frame} {meth : Method} {c : Code} {b L : Nat} {xs : Nat → Int32} {m : gMem} {i : Nat} (C : LwC O p s mi meth c b L xs) (hL3 : L ≤ 3072) (hi : i + 6 ≤ L) (hI : Inv m) (nxt : ∀ m2, Inv m2 → Lw O p l e s mi below meth c b 926 [.ref 70, .ref 0, .ref 46, .int (nI i)] [] m2) : Lw O p l e s mi below meth c b 237 [.ref 70, .ref 0, .ref 46, .int (nI i)] [] m := by
  obtain ⟨r, m1, m2, c1, c2, q⟩ := op_day (O := O) (d := 0) (m := m)  hI
  refine lq_aload_n C dL_law_237 rfl ?_
  refine lq_callV1 C (K' := kX6_day) [] dL_law_238 mL_29 lX6_day rfl (by decide) rfl (by decide) rfl rfl (Nat.le_of_ble_eq_true rfl) (Nat.le_of_ble_eq_true rfl) (c1) ?_
  refine lq_aload_n C dL_law_241 rfl ?_
  refine lq_callV1 C (K' := kX7_day) [] dL_law_242 mL_32 lX7_day rfl (by decide) rfl (by decide) rfl rfl (Nat.le_of_ble_eq_true rfl) (Nat.le_of_ble_eq_true rfl) (c2) ?_
  refine lq_icmp_eq C 926 dL_law_245 (by decide) (fun h245 => ?_) (fun h => absurd (rfl) h)
  exact nxt _ q
theorem arm_about {O : gOm} {p : Program} {l : Launch} {e : Env} {s : State} {mi : MethodId} {below : List Frame} {meth : Method} {c : Code} {b L : Nat} {xs : Nat → Int32} {m : gMem} {i : Nat} (C : LwC O p s mi meth c b L xs) (hL3 : L ≤ 3072) (hi : i + 6 ≤ L) (hI : Inv m) (nxt : ∀ m2, Inv m2 → Lw O p l e s mi below meth c b 926 [.ref 70, .ref 0, .ref 46, .int (nI i)] [] m2) : Lw O p l e s mi below meth c b 250 [.ref 70, .ref 0, .ref 46, .int (nI i)] [] m := by
  obtain ⟨r, m1, m2, c1, c2, q⟩ := op_about (O := O) (d := 36) (m := m) (x := xs (i + 1)) hI
  refine lq_aload_n C dL_law_250 rfl ?_
  refine lq_aload_n C dL_law_251 rfl ?_
  refine lq_iload_n C dL_law_252 rfl ?_
  refine lq_iconst C (nI 1) dL_law_253 (by decide +kernel) ?_
  first | refine lq_iadd_n C dL_law_254 ?_ | refine lq_iadd C dL_law_254 rfl ?_
  refine lq_sld C dL_law_255 rfl (by omega) hL3 ?_
  refine lq_callV1 C (K' := kX6_about) [_] dL_law_256 mL_33 lX6_about rfl (by decide) rfl (by decide) rfl rfl (Nat.le_of_ble_eq_true rfl) (Nat.le_of_ble_eq_true rfl) (c1) ?_
  refine lq_aload_n C dL_law_259 rfl ?_
  refine lq_aload_n C dL_law_260 rfl ?_
  refine lq_iload_n C dL_law_261 rfl ?_
  refine lq_iconst C (nI 1) dL_law_262 (by decide +kernel) ?_
  first | refine lq_iadd_n C dL_law_263 ?_ | refine lq_iadd C dL_law_263 rfl ?_
  refine lq_sld C dL_law_264 rfl (by omega) hL3 ?_
  refine lq_callV1 C (K' := kX7_about) [_] dL_law_265 mL_37 lX7_about rfl (by decide) rfl (by decide) rfl rfl (Nat.le_of_ble_eq_true rfl) (Nat.le_of_ble_eq_true rfl) (c2) ?_
  refine lq_icmp_eq C 926 dL_law_268 (by decide) (fun h268 => ?_) (fun h => absurd (rfl) h)
  exact nxt _ q
theorem arm_where {O : gOm} {p : Program} {l : Launch} {e : Env} {s : State} {mi : MethodId} {below : List Frame} {meth : Method} {c : Code} {b L : Nat} {xs : Nat → Int32} {m : gMem} {i : Nat} (C : LwC O p s mi meth c b L xs) (hL3 : L ≤ 3072) (hi : i + 6 ≤ L) (hI : Inv m) (nxt : ∀ m2, Inv m2 → Lw O p l e s mi below meth c b 926 [.ref 70, .ref 0, .ref 46, .int (nI i)] [] m2) : Lw O p l e s mi below meth c b 273 [.ref 70, .ref 0, .ref 46, .int (nI i)] [] m := by
  obtain ⟨r, m1, m2, c1, c2, q⟩ := op_where (O := O) (d := 36) (m := m) (p := xs (i + 1)) (h := xs (i + 2)) hI
  refine lq_aload_n C dL_law_273 rfl ?_
  refine lq_aload_n C dL_law_274 rfl ?_
  refine lq_iload_n C dL_law_275 rfl ?_
  refine lq_iconst C (nI 1) dL_law_276 (by decide +kernel) ?_
  first | refine lq_iadd_n C dL_law_277 ?_ | refine lq_iadd C dL_law_277 rfl ?_
  refine lq_sld C dL_law_278 rfl (by omega) hL3 ?_
  refine lq_aload_n C dL_law_279 rfl ?_
  refine lq_iload_n C dL_law_280 rfl ?_
  refine lq_iconst C (nI 2) dL_law_281 (by decide +kernel) ?_
  first | refine lq_iadd_n C dL_law_282 ?_ | refine lq_iadd C dL_law_282 rfl ?_
  refine lq_sld C dL_law_283 rfl (by omega) hL3 ?_
  refine lq_callV1 C (K' := kX6_where) [_, _] dL_law_284 mL_38 lX6_where rfl (by decide) rfl (by decide) rfl rfl (Nat.le_of_ble_eq_true rfl) (Nat.le_of_ble_eq_true rfl) (c1) ?_
  refine lq_aload_n C dL_law_287 rfl ?_
  refine lq_aload_n C dL_law_288 rfl ?_
  refine lq_iload_n C dL_law_289 rfl ?_
  refine lq_iconst C (nI 1) dL_law_290 (by decide +kernel) ?_
  first | refine lq_iadd_n C dL_law_291 ?_ | refine lq_iadd C dL_law_291 rfl ?_
  refine lq_sld C dL_law_292 rfl (by omega) hL3 ?_
  refine lq_aload_n C dL_law_293 rfl ?_
  refine lq_iload_n C dL_law_294 rfl ?_
  refine lq_iconst C (nI 2) dL_law_295 (by decide +kernel) ?_
  first | refine lq_iadd_n C dL_law_296 ?_ | refine lq_iadd C dL_law_296 rfl ?_
  refine lq_sld C dL_law_297 rfl (by omega) hL3 ?_
  refine lq_callV1 C (K' := kX7_where) [_, _] dL_law_298 mL_42 lX7_where rfl (by decide) rfl (by decide) rfl rfl (Nat.le_of_ble_eq_true rfl) (Nat.le_of_ble_eq_true rfl) (c2) ?_
  refine lq_icmp_eq C 926 dL_law_301 (by decide) (fun h301 => ?_) (fun h => absurd (rfl) h)
  exact nxt _ q
theorem arm_news {O : gOm} {p : Program} {l : Launch} {e : Env} {s : State} {mi : MethodId} {below : List Frame} {meth : Method} {c : Code} {b L : Nat} {xs : Nat → Int32} {m : gMem} {i : Nat} (C : LwC O p s mi meth c b L xs) (hL3 : L ≤ 3072) (hi : i + 6 ≤ L) (hI : Inv m) (nxt : ∀ m2, Inv m2 → Lw O p l e s mi below meth c b 926 [.ref 70, .ref 0, .ref 46, .int (nI i)] [] m2) : Lw O p l e s mi below meth c b 306 [.ref 70, .ref 0, .ref 46, .int (nI i)] [] m := by
  obtain ⟨r, m1, m2, c1, c2, q⟩ := op_news (O := O) (d := 36) (m := m) (n := xs (i + 1)) (x := xs (i + 2)) hI
  refine lq_aload_n C dL_law_306 rfl ?_
  refine lq_aload_n C dL_law_307 rfl ?_
  refine lq_iload_n C dL_law_308 rfl ?_
  refine lq_iconst C (nI 1) dL_law_309 (by decide +kernel) ?_
  first | refine lq_iadd_n C dL_law_310 ?_ | refine lq_iadd C dL_law_310 rfl ?_
  refine lq_sld C dL_law_311 rfl (by omega) hL3 ?_
  refine lq_aload_n C dL_law_312 rfl ?_
  refine lq_iload_n C dL_law_313 rfl ?_
  refine lq_iconst C (nI 2) dL_law_314 (by decide +kernel) ?_
  first | refine lq_iadd_n C dL_law_315 ?_ | refine lq_iadd C dL_law_315 rfl ?_
  refine lq_sld C dL_law_316 rfl (by omega) hL3 ?_
  refine lq_callV1 C (K' := kX6_news) [_, _] dL_law_317 mL_43 lX6_news rfl (by decide) rfl (by decide) rfl rfl (Nat.le_of_ble_eq_true rfl) (Nat.le_of_ble_eq_true rfl) (c1) ?_
  refine lq_aload_n C dL_law_320 rfl ?_
  refine lq_aload_n C dL_law_321 rfl ?_
  refine lq_iload_n C dL_law_322 rfl ?_
  refine lq_iconst C (nI 1) dL_law_323 (by decide +kernel) ?_
  first | refine lq_iadd_n C dL_law_324 ?_ | refine lq_iadd C dL_law_324 rfl ?_
  refine lq_sld C dL_law_325 rfl (by omega) hL3 ?_
  refine lq_aload_n C dL_law_326 rfl ?_
  refine lq_iload_n C dL_law_327 rfl ?_
  refine lq_iconst C (nI 2) dL_law_328 (by decide +kernel) ?_
  first | refine lq_iadd_n C dL_law_329 ?_ | refine lq_iadd C dL_law_329 rfl ?_
  refine lq_sld C dL_law_330 rfl (by omega) hL3 ?_
  refine lq_callV1 C (K' := kX7_news) [_, _] dL_law_331 mL_46 lX7_news rfl (by decide) rfl (by decide) rfl rfl (Nat.le_of_ble_eq_true rfl) (Nat.le_of_ble_eq_true rfl) (c2) ?_
  refine lq_icmp_eq C 926 dL_law_334 (by decide) (fun h334 => ?_) (fun h => absurd (rfl) h)
  exact nxt _ q
theorem arm_told {O : gOm} {p : Program} {l : Launch} {e : Env} {s : State} {mi : MethodId} {below : List Frame} {meth : Method} {c : Code} {b L : Nat} {xs : Nat → Int32} {m : gMem} {i : Nat} (C : LwC O p s mi meth c b L xs) (hL3 : L ≤ 3072) (hi : i + 6 ≤ L) (hI : Inv m) (nxt : ∀ m2, Inv m2 → Lw O p l e s mi below meth c b 926 [.ref 70, .ref 0, .ref 46, .int (nI i)] [] m2) : Lw O p l e s mi below meth c b 339 [.ref 70, .ref 0, .ref 46, .int (nI i)] [] m := by
  obtain ⟨r, m1, m2, c1, c2, q⟩ := op_told (O := O) (d := 36) (m := m) (p := xs (i + 1)) (n := xs (i + 2)) hI
  refine lq_aload_n C dL_law_339 rfl ?_
  refine lq_aload_n C dL_law_340 rfl ?_
  refine lq_iload_n C dL_law_341 rfl ?_
  refine lq_iconst C (nI 1) dL_law_342 (by decide +kernel) ?_
  first | refine lq_iadd_n C dL_law_343 ?_ | refine lq_iadd C dL_law_343 rfl ?_
  refine lq_sld C dL_law_344 rfl (by omega) hL3 ?_
  refine lq_aload_n C dL_law_345 rfl ?_
  refine lq_iload_n C dL_law_346 rfl ?_
  refine lq_iconst C (nI 2) dL_law_347 (by decide +kernel) ?_
  first | refine lq_iadd_n C dL_law_348 ?_ | refine lq_iadd C dL_law_348 rfl ?_
  refine lq_sld C dL_law_349 rfl (by omega) hL3 ?_
  refine lq_callV1 C (K' := kX6_told) [_, _] dL_law_350 mL_47 lX6_told rfl (by decide) rfl (by decide) rfl rfl (Nat.le_of_ble_eq_true rfl) (Nat.le_of_ble_eq_true rfl) (c1) ?_
  refine lq_aload_n C dL_law_353 rfl ?_
  refine lq_aload_n C dL_law_354 rfl ?_
  refine lq_iload_n C dL_law_355 rfl ?_
  refine lq_iconst C (nI 1) dL_law_356 (by decide +kernel) ?_
  first | refine lq_iadd_n C dL_law_357 ?_ | refine lq_iadd C dL_law_357 rfl ?_
  refine lq_sld C dL_law_358 rfl (by omega) hL3 ?_
  refine lq_aload_n C dL_law_359 rfl ?_
  refine lq_iload_n C dL_law_360 rfl ?_
  refine lq_iconst C (nI 2) dL_law_361 (by decide +kernel) ?_
  first | refine lq_iadd_n C dL_law_362 ?_ | refine lq_iadd C dL_law_362 rfl ?_
  refine lq_sld C dL_law_363 rfl (by omega) hL3 ?_
  refine lq_callV1 C (K' := kX7_told) [_, _] dL_law_364 mL_50 lX7_told rfl (by decide) rfl (by decide) rfl rfl (Nat.le_of_ble_eq_true rfl) (Nat.le_of_ble_eq_true rfl) (c2) ?_
  refine lq_icmp_eq C 926 dL_law_367 (by decide) (fun h367 => ?_) (fun h => absurd (rfl) h)
  exact nxt _ q
theorem arm_left {O : gOm} {p : Program} {l : Launch} {e : Env} {s : State} {mi : MethodId} {below : List Frame} {meth : Method} {c : Code} {b L : Nat} {xs : Nat → Int32} {m : gMem} {i : Nat} (C : LwC O p s mi meth c b L xs) (hL3 : L ≤ 3072) (hi : i + 6 ≤ L) (hI : Inv m) (nxt : ∀ m2, Inv m2 → Lw O p l e s mi below meth c b 926 [.ref 70, .ref 0, .ref 46, .int (nI i)] [] m2) : Lw O p l e s mi below meth c b 372 [.ref 70, .ref 0, .ref 46, .int (nI i)] [] m := by
  obtain ⟨r, m1, m2, c1, c2, q⟩ := op_left (O := O) (d := 36) (m := m) (p := xs (i + 1)) (n := xs (i + 2)) hI
  refine lq_aload_n C dL_law_372 rfl ?_
  refine lq_aload_n C dL_law_373 rfl ?_
  refine lq_iload_n C dL_law_374 rfl ?_
  refine lq_iconst C (nI 1) dL_law_375 (by decide +kernel) ?_
  first | refine lq_iadd_n C dL_law_376 ?_ | refine lq_iadd C dL_law_376 rfl ?_
  refine lq_sld C dL_law_377 rfl (by omega) hL3 ?_
  refine lq_aload_n C dL_law_378 rfl ?_
  refine lq_iload_n C dL_law_379 rfl ?_
  refine lq_iconst C (nI 2) dL_law_380 (by decide +kernel) ?_
  first | refine lq_iadd_n C dL_law_381 ?_ | refine lq_iadd C dL_law_381 rfl ?_
  refine lq_sld C dL_law_382 rfl (by omega) hL3 ?_
  refine lq_callV1 C (K' := kX6_left) [_, _] dL_law_383 mL_51 lX6_left rfl (by decide) rfl (by decide) rfl rfl (Nat.le_of_ble_eq_true rfl) (Nat.le_of_ble_eq_true rfl) (c1) ?_
  refine lq_aload_n C dL_law_386 rfl ?_
  refine lq_aload_n C dL_law_387 rfl ?_
  refine lq_iload_n C dL_law_388 rfl ?_
  refine lq_iconst C (nI 1) dL_law_389 (by decide +kernel) ?_
  first | refine lq_iadd_n C dL_law_390 ?_ | refine lq_iadd C dL_law_390 rfl ?_
  refine lq_sld C dL_law_391 rfl (by omega) hL3 ?_
  refine lq_aload_n C dL_law_392 rfl ?_
  refine lq_iload_n C dL_law_393 rfl ?_
  refine lq_iconst C (nI 2) dL_law_394 (by decide +kernel) ?_
  first | refine lq_iadd_n C dL_law_395 ?_ | refine lq_iadd C dL_law_395 rfl ?_
  refine lq_sld C dL_law_396 rfl (by omega) hL3 ?_
  refine lq_callV1 C (K' := kX7_left) [_, _] dL_law_397 mL_54 lX7_left rfl (by decide) rfl (by decide) rfl rfl (Nat.le_of_ble_eq_true rfl) (Nat.le_of_ble_eq_true rfl) (c2) ?_
  refine lq_icmp_eq C 926 dL_law_400 (by decide) (fun h400 => ?_) (fun h => absurd (rfl) h)
  exact nxt _ q
theorem arm_may {O : gOm} {p : Program} {l : Launch} {e : Env} {s : State} {mi : MethodId} {below : List Frame} {meth : Method} {c : Code} {b L : Nat} {xs : Nat → Int32} {m : gMem} {i : Nat} (C : LwC O p s mi meth c b L xs) (hL3 : L ≤ 3072) (hi : i + 6 ≤ L) (hI : Inv m) (nxt : ∀ m2, Inv m2 → Lw O p l e s mi below meth c b 926 [.ref 70, .ref 0, .ref 46, .int (nI i)] [] m2) : Lw O p l e s mi below meth c b 405 [.ref 70, .ref 0, .ref 46, .int (nI i)] [] m := by
  obtain ⟨r, m1, m2, c1, c2, q⟩ := op_may (O := O) (d := 36) (m := m) (p := xs (i + 1)) (n := xs (i + 2)) hI
  refine lq_aload_n C dL_law_405 rfl ?_
  refine lq_aload_n C dL_law_406 rfl ?_
  refine lq_iload_n C dL_law_407 rfl ?_
  refine lq_iconst C (nI 1) dL_law_408 (by decide +kernel) ?_
  first | refine lq_iadd_n C dL_law_409 ?_ | refine lq_iadd C dL_law_409 rfl ?_
  refine lq_sld C dL_law_410 rfl (by omega) hL3 ?_
  refine lq_aload_n C dL_law_411 rfl ?_
  refine lq_iload_n C dL_law_412 rfl ?_
  refine lq_iconst C (nI 2) dL_law_413 (by decide +kernel) ?_
  first | refine lq_iadd_n C dL_law_414 ?_ | refine lq_iadd C dL_law_414 rfl ?_
  refine lq_sld C dL_law_415 rfl (by omega) hL3 ?_
  refine lq_callV1 C (K' := kX6_may) [_, _] dL_law_416 mL_55 lX6_may rfl (by decide) rfl (by decide) rfl rfl (Nat.le_of_ble_eq_true rfl) (Nat.le_of_ble_eq_true rfl) (c1) ?_
  refine lq_aload_n C dL_law_419 rfl ?_
  refine lq_aload_n C dL_law_420 rfl ?_
  refine lq_iload_n C dL_law_421 rfl ?_
  refine lq_iconst C (nI 1) dL_law_422 (by decide +kernel) ?_
  first | refine lq_iadd_n C dL_law_423 ?_ | refine lq_iadd C dL_law_423 rfl ?_
  refine lq_sld C dL_law_424 rfl (by omega) hL3 ?_
  refine lq_aload_n C dL_law_425 rfl ?_
  refine lq_iload_n C dL_law_426 rfl ?_
  refine lq_iconst C (nI 2) dL_law_427 (by decide +kernel) ?_
  first | refine lq_iadd_n C dL_law_428 ?_ | refine lq_iadd C dL_law_428 rfl ?_
  refine lq_sld C dL_law_429 rfl (by omega) hL3 ?_
  refine lq_callV1 C (K' := kX7_may) [_, _] dL_law_430 mL_58 lX7_may rfl (by decide) rfl (by decide) rfl rfl (Nat.le_of_ble_eq_true rfl) (Nat.le_of_ble_eq_true rfl) (c2) ?_
  refine lq_icmp_eq C 926 dL_law_433 (by decide) (fun h433 => ?_) (fun h => absurd (rfl) h)
  exact nxt _ q
theorem arm_tell {O : gOm} {p : Program} {l : Launch} {e : Env} {s : State} {mi : MethodId} {below : List Frame} {meth : Method} {c : Code} {b L : Nat} {xs : Nat → Int32} {m : gMem} {i : Nat} (C : LwC O p s mi meth c b L xs) (hL3 : L ≤ 3072) (hi : i + 6 ≤ L) (hI : Inv m) (nxt : ∀ m2, Inv m2 → Lw O p l e s mi below meth c b 926 [.ref 70, .ref 0, .ref 46, .int (nI i)] [] m2) : Lw O p l e s mi below meth c b 438 [.ref 70, .ref 0, .ref 46, .int (nI i)] [] m := by
  obtain ⟨r, m1, m2, c1, c2, q⟩ := op_tell (O := O) (d := 36) (m := m) (p := xs (i + 1)) (n := xs (i + 2)) hI
  refine lq_aload_n C dL_law_438 rfl ?_
  refine lq_aload_n C dL_law_439 rfl ?_
  refine lq_iload_n C dL_law_440 rfl ?_
  refine lq_iconst C (nI 1) dL_law_441 (by decide +kernel) ?_
  first | refine lq_iadd_n C dL_law_442 ?_ | refine lq_iadd C dL_law_442 rfl ?_
  refine lq_sld C dL_law_443 rfl (by omega) hL3 ?_
  refine lq_aload_n C dL_law_444 rfl ?_
  refine lq_iload_n C dL_law_445 rfl ?_
  refine lq_iconst C (nI 2) dL_law_446 (by decide +kernel) ?_
  first | refine lq_iadd_n C dL_law_447 ?_ | refine lq_iadd C dL_law_447 rfl ?_
  refine lq_sld C dL_law_448 rfl (by omega) hL3 ?_
  refine lq_callV1 C (K' := kX6_tell) [_, _] dL_law_449 mL_59 lX6_tell rfl (by decide) rfl (by decide) rfl rfl (Nat.le_of_ble_eq_true rfl) (Nat.le_of_ble_eq_true rfl) (c1) ?_
  refine lq_aload_n C dL_law_452 rfl ?_
  refine lq_aload_n C dL_law_453 rfl ?_
  refine lq_iload_n C dL_law_454 rfl ?_
  refine lq_iconst C (nI 1) dL_law_455 (by decide +kernel) ?_
  first | refine lq_iadd_n C dL_law_456 ?_ | refine lq_iadd C dL_law_456 rfl ?_
  refine lq_sld C dL_law_457 rfl (by omega) hL3 ?_
  refine lq_aload_n C dL_law_458 rfl ?_
  refine lq_iload_n C dL_law_459 rfl ?_
  refine lq_iconst C (nI 2) dL_law_460 (by decide +kernel) ?_
  first | refine lq_iadd_n C dL_law_461 ?_ | refine lq_iadd C dL_law_461 rfl ?_
  refine lq_sld C dL_law_462 rfl (by omega) hL3 ?_
  refine lq_callV1 C (K' := kX7_tell) [_, _] dL_law_463 mL_62 lX7_tell rfl (by decide) rfl (by decide) rfl rfl (Nat.le_of_ble_eq_true rfl) (Nat.le_of_ble_eq_true rfl) (c2) ?_
  refine lq_icmp_eq C 926 dL_law_466 (by decide) (fun h466 => ?_) (fun h => absurd (rfl) h)
  exact nxt _ q
theorem arm_hour {O : gOm} {p : Program} {l : Launch} {e : Env} {s : State} {mi : MethodId} {below : List Frame} {meth : Method} {c : Code} {b L : Nat} {xs : Nat → Int32} {m : gMem} {i : Nat} (C : LwC O p s mi meth c b L xs) (hL3 : L ≤ 3072) (hi : i + 6 ≤ L) (hI : Inv m) (nxt : ∀ m2, Inv m2 → Lw O p l e s mi below meth c b 926 [.ref 70, .ref 0, .ref 46, .int (nI i)] [] m2) : Lw O p l e s mi below meth c b 471 [.ref 70, .ref 0, .ref 46, .int (nI i)] [] m := by
  obtain ⟨r, m1, m2, c1, c2, q⟩ := op_hour (O := O) (d := 36) (m := m)  hI
  refine lq_aload_n C dL_law_471 rfl ?_
  refine lq_callV1 C (K' := kX6_hour) [] dL_law_472 mL_63 lX6_hour rfl (by decide) rfl (by decide) rfl rfl (Nat.le_of_ble_eq_true rfl) (Nat.le_of_ble_eq_true rfl) (c1) ?_
  refine lq_aload_n C dL_law_475 rfl ?_
  refine lq_callV1 C (K' := kX7_hour) [] dL_law_476 mL_66 lX7_hour rfl (by decide) rfl (by decide) rfl rfl (Nat.le_of_ble_eq_true rfl) (Nat.le_of_ble_eq_true rfl) (c2) ?_
  refine lq_icmp_eq C 926 dL_law_479 (by decide) (fun h479 => ?_) (fun h => absurd (rfl) h)
  exact nxt _ q
theorem arm_undo {O : gOm} {p : Program} {l : Launch} {e : Env} {s : State} {mi : MethodId} {below : List Frame} {meth : Method} {c : Code} {b L : Nat} {xs : Nat → Int32} {m : gMem} {i : Nat} (C : LwC O p s mi meth c b L xs) (hL3 : L ≤ 3072) (hi : i + 6 ≤ L) (hI : Inv m) (nxt : ∀ m2, Inv m2 → Lw O p l e s mi below meth c b 926 [.ref 70, .ref 0, .ref 46, .int (nI i)] [] m2) : Lw O p l e s mi below meth c b 484 [.ref 70, .ref 0, .ref 46, .int (nI i)] [] m := by
  obtain ⟨r, m1, m2, c1, c2, q⟩ := op_undo (O := O) (d := 36) (m := m)  hI
  refine lq_aload_n C dL_law_484 rfl ?_
  refine lq_callV1 C (K' := kX6_undo) [] dL_law_485 mL_67 lX6_undo rfl (by decide) rfl (by decide) rfl rfl (Nat.le_of_ble_eq_true rfl) (Nat.le_of_ble_eq_true rfl) (c1) ?_
  refine lq_aload_n C dL_law_488 rfl ?_
  refine lq_callV1 C (K' := kX7_undo) [] dL_law_489 mL_70 lX7_undo rfl (by decide) rfl (by decide) rfl rfl (Nat.le_of_ble_eq_true rfl) (Nat.le_of_ble_eq_true rfl) (c2) ?_
  refine lq_icmp_eq C 926 dL_law_492 (by decide) (fun h492 => ?_) (fun h => absurd (rfl) h)
  exact nxt _ q
theorem arm_judge {O : gOm} {p : Program} {l : Launch} {e : Env} {s : State} {mi : MethodId} {below : List Frame} {meth : Method} {c : Code} {b L : Nat} {xs : Nat → Int32} {m : gMem} {i : Nat} (C : LwC O p s mi meth c b L xs) (hL3 : L ≤ 3072) (hi : i + 6 ≤ L) (hI : Inv m) (nxt : ∀ m2, Inv m2 → Lw O p l e s mi below meth c b 926 [.ref 70, .ref 0, .ref 46, .int (nI i)] [] m2) : Lw O p l e s mi below meth c b 497 [.ref 70, .ref 0, .ref 46, .int (nI i)] [] m := by
  obtain ⟨r, m1, m2, c1, c2, q⟩ := op_judge (O := O) (d := 0) (m := m) (n := xs (i + 1)) (c := xs (i + 2)) (r := xs (i + 3)) hI
  refine lq_aload_n C dL_law_497 rfl ?_
  refine lq_aload_n C dL_law_498 rfl ?_
  refine lq_iload_n C dL_law_499 rfl ?_
  refine lq_iconst C (nI 1) dL_law_500 (by decide +kernel) ?_
  first | refine lq_iadd_n C dL_law_501 ?_ | refine lq_iadd C dL_law_501 rfl ?_
  refine lq_sld C dL_law_502 rfl (by omega) hL3 ?_
  refine lq_aload_n C dL_law_503 rfl ?_
  refine lq_iload_n C dL_law_504 rfl ?_
  refine lq_iconst C (nI 2) dL_law_505 (by decide +kernel) ?_
  first | refine lq_iadd_n C dL_law_506 ?_ | refine lq_iadd C dL_law_506 rfl ?_
  refine lq_sld C dL_law_507 rfl (by omega) hL3 ?_
  refine lq_aload_n C dL_law_508 rfl ?_
  refine lq_iload_n C dL_law_509 rfl ?_
  refine lq_iconst C (nI 3) dL_law_510 (by decide +kernel) ?_
  first | refine lq_iadd_n C dL_law_511 ?_ | refine lq_iadd C dL_law_511 rfl ?_
  refine lq_sld C dL_law_512 rfl (by omega) hL3 ?_
  refine lq_callV1 C (K' := kX6_judge) [_, _, _] dL_law_513 mL_71 lX6_judge rfl (by decide) rfl (by decide) rfl rfl (Nat.le_of_ble_eq_true rfl) (Nat.le_of_ble_eq_true rfl) (c1) ?_
  refine lq_aload_n C dL_law_516 rfl ?_
  refine lq_aload_n C dL_law_517 rfl ?_
  refine lq_iload_n C dL_law_518 rfl ?_
  refine lq_iconst C (nI 1) dL_law_519 (by decide +kernel) ?_
  first | refine lq_iadd_n C dL_law_520 ?_ | refine lq_iadd C dL_law_520 rfl ?_
  refine lq_sld C dL_law_521 rfl (by omega) hL3 ?_
  refine lq_aload_n C dL_law_522 rfl ?_
  refine lq_iload_n C dL_law_523 rfl ?_
  refine lq_iconst C (nI 2) dL_law_524 (by decide +kernel) ?_
  first | refine lq_iadd_n C dL_law_525 ?_ | refine lq_iadd C dL_law_525 rfl ?_
  refine lq_sld C dL_law_526 rfl (by omega) hL3 ?_
  refine lq_aload_n C dL_law_527 rfl ?_
  refine lq_iload_n C dL_law_528 rfl ?_
  refine lq_iconst C (nI 3) dL_law_529 (by decide +kernel) ?_
  first | refine lq_iadd_n C dL_law_530 ?_ | refine lq_iadd C dL_law_530 rfl ?_
  refine lq_sld C dL_law_531 rfl (by omega) hL3 ?_
  refine lq_callV1 C (K' := kX7_judge) [_, _, _] dL_law_532 mL_75 lX7_judge rfl (by decide) rfl (by decide) rfl rfl (Nat.le_of_ble_eq_true rfl) (Nat.le_of_ble_eq_true rfl) (c2) ?_
  refine lq_icmp_eq C 926 dL_law_535 (by decide) (fun h535 => ?_) (fun h => absurd (rfl) h)
  exact nxt _ q
theorem arm_fewest {O : gOm} {p : Program} {l : Launch} {e : Env} {s : State} {mi : MethodId} {below : List Frame} {meth : Method} {c : Code} {b L : Nat} {xs : Nat → Int32} {m : gMem} {i : Nat} (C : LwC O p s mi meth c b L xs) (hL3 : L ≤ 3072) (hi : i + 6 ≤ L) (hI : Inv m) (nxt : ∀ m2, Inv m2 → Lw O p l e s mi below meth c b 926 [.ref 70, .ref 0, .ref 46, .int (nI i)] [] m2) : Lw O p l e s mi below meth c b 540 [.ref 70, .ref 0, .ref 46, .int (nI i)] [] m := by
  obtain ⟨r, m1, m2, c1, c2, q⟩ := op_fewest (O := O) (d := 0) (m := m) (n := xs (i + 1)) (x := xs (i + 2)) hI
  refine lq_aload_n C dL_law_540 rfl ?_
  refine lq_aload_n C dL_law_541 rfl ?_
  refine lq_iload_n C dL_law_542 rfl ?_
  refine lq_iconst C (nI 1) dL_law_543 (by decide +kernel) ?_
  first | refine lq_iadd_n C dL_law_544 ?_ | refine lq_iadd C dL_law_544 rfl ?_
  refine lq_sld C dL_law_545 rfl (by omega) hL3 ?_
  refine lq_aload_n C dL_law_546 rfl ?_
  refine lq_iload_n C dL_law_547 rfl ?_
  refine lq_iconst C (nI 2) dL_law_548 (by decide +kernel) ?_
  first | refine lq_iadd_n C dL_law_549 ?_ | refine lq_iadd C dL_law_549 rfl ?_
  refine lq_sld C dL_law_550 rfl (by omega) hL3 ?_
  refine lq_callV1 C (K' := kX6_fewest) [_, _] dL_law_551 mL_76 lX6_fewest rfl (by decide) rfl (by decide) rfl rfl (Nat.le_of_ble_eq_true rfl) (Nat.le_of_ble_eq_true rfl) (c1) ?_
  refine lq_aload_n C dL_law_554 rfl ?_
  refine lq_aload_n C dL_law_555 rfl ?_
  refine lq_iload_n C dL_law_556 rfl ?_
  refine lq_iconst C (nI 1) dL_law_557 (by decide +kernel) ?_
  first | refine lq_iadd_n C dL_law_558 ?_ | refine lq_iadd C dL_law_558 rfl ?_
  refine lq_sld C dL_law_559 rfl (by omega) hL3 ?_
  refine lq_aload_n C dL_law_560 rfl ?_
  refine lq_iload_n C dL_law_561 rfl ?_
  refine lq_iconst C (nI 2) dL_law_562 (by decide +kernel) ?_
  first | refine lq_iadd_n C dL_law_563 ?_ | refine lq_iadd C dL_law_563 rfl ?_
  refine lq_sld C dL_law_564 rfl (by omega) hL3 ?_
  refine lq_callV1 C (K' := kX7_fewest) [_, _] dL_law_565 mL_79 lX7_fewest rfl (by decide) rfl (by decide) rfl rfl (Nat.le_of_ble_eq_true rfl) (Nat.le_of_ble_eq_true rfl) (c2) ?_
  refine lq_icmp_eq C 926 dL_law_568 (by decide) (fun h568 => ?_) (fun h => absurd (rfl) h)
  exact nxt _ q
theorem arm_planAt {O : gOm} {p : Program} {l : Launch} {e : Env} {s : State} {mi : MethodId} {below : List Frame} {meth : Method} {c : Code} {b L : Nat} {xs : Nat → Int32} {m : gMem} {i : Nat} (C : LwC O p s mi meth c b L xs) (hL3 : L ≤ 3072) (hi : i + 6 ≤ L) (hI : Inv m) (nxt : ∀ m2, Inv m2 → Lw O p l e s mi below meth c b 926 [.ref 70, .ref 0, .ref 46, .int (nI i)] [] m2) : Lw O p l e s mi below meth c b 573 [.ref 70, .ref 0, .ref 46, .int (nI i)] [] m := by
  obtain ⟨r, m1, m2, c1, c2, q⟩ := op_planAt (O := O) (d := 0) (m := m) (n := xs (i + 1)) (x := xs (i + 2)) (i := xs (i + 3)) hI
  refine lq_aload_n C dL_law_573 rfl ?_
  refine lq_aload_n C dL_law_574 rfl ?_
  refine lq_iload_n C dL_law_575 rfl ?_
  refine lq_iconst C (nI 1) dL_law_576 (by decide +kernel) ?_
  first | refine lq_iadd_n C dL_law_577 ?_ | refine lq_iadd C dL_law_577 rfl ?_
  refine lq_sld C dL_law_578 rfl (by omega) hL3 ?_
  refine lq_aload_n C dL_law_579 rfl ?_
  refine lq_iload_n C dL_law_580 rfl ?_
  refine lq_iconst C (nI 2) dL_law_581 (by decide +kernel) ?_
  first | refine lq_iadd_n C dL_law_582 ?_ | refine lq_iadd C dL_law_582 rfl ?_
  refine lq_sld C dL_law_583 rfl (by omega) hL3 ?_
  refine lq_aload_n C dL_law_584 rfl ?_
  refine lq_iload_n C dL_law_585 rfl ?_
  refine lq_iconst C (nI 3) dL_law_586 (by decide +kernel) ?_
  first | refine lq_iadd_n C dL_law_587 ?_ | refine lq_iadd C dL_law_587 rfl ?_
  refine lq_sld C dL_law_588 rfl (by omega) hL3 ?_
  refine lq_callV1 C (K' := kX6_planAt) [_, _, _] dL_law_589 mL_80 lX6_planAt rfl (by decide) rfl (by decide) rfl rfl (Nat.le_of_ble_eq_true rfl) (Nat.le_of_ble_eq_true rfl) (c1) ?_
  refine lq_aload_n C dL_law_592 rfl ?_
  refine lq_aload_n C dL_law_593 rfl ?_
  refine lq_iload_n C dL_law_594 rfl ?_
  refine lq_iconst C (nI 1) dL_law_595 (by decide +kernel) ?_
  first | refine lq_iadd_n C dL_law_596 ?_ | refine lq_iadd C dL_law_596 rfl ?_
  refine lq_sld C dL_law_597 rfl (by omega) hL3 ?_
  refine lq_aload_n C dL_law_598 rfl ?_
  refine lq_iload_n C dL_law_599 rfl ?_
  refine lq_iconst C (nI 2) dL_law_600 (by decide +kernel) ?_
  first | refine lq_iadd_n C dL_law_601 ?_ | refine lq_iadd C dL_law_601 rfl ?_
  refine lq_sld C dL_law_602 rfl (by omega) hL3 ?_
  refine lq_aload_n C dL_law_603 rfl ?_
  refine lq_iload_n C dL_law_604 rfl ?_
  refine lq_iconst C (nI 3) dL_law_605 (by decide +kernel) ?_
  first | refine lq_iadd_n C dL_law_606 ?_ | refine lq_iadd C dL_law_606 rfl ?_
  refine lq_sld C dL_law_607 rfl (by omega) hL3 ?_
  refine lq_callV1 C (K' := kX7_planAt) [_, _, _] dL_law_608 mL_83 lX7_planAt rfl (by decide) rfl (by decide) rfl rfl (Nat.le_of_ble_eq_true rfl) (Nat.le_of_ble_eq_true rfl) (c2) ?_
  refine lq_icmp_eq C 926 dL_law_611 (by decide) (fun h611 => ?_) (fun h => absurd (rfl) h)
  exact nxt _ q
theorem arm_most {O : gOm} {p : Program} {l : Launch} {e : Env} {s : State} {mi : MethodId} {below : List Frame} {meth : Method} {c : Code} {b L : Nat} {xs : Nat → Int32} {m : gMem} {i : Nat} (C : LwC O p s mi meth c b L xs) (hL3 : L ≤ 3072) (hi : i + 6 ≤ L) (hI : Inv m) (nxt : ∀ m2, Inv m2 → Lw O p l e s mi below meth c b 926 [.ref 70, .ref 0, .ref 46, .int (nI i)] [] m2) : Lw O p l e s mi below meth c b 616 [.ref 70, .ref 0, .ref 46, .int (nI i)] [] m := by
  obtain ⟨r, m1, m2, c1, c2, q⟩ := op_most (O := O) (d := 0) (m := m) (n := xs (i + 1)) hI
  refine lq_aload_n C dL_law_616 rfl ?_
  refine lq_aload_n C dL_law_617 rfl ?_
  refine lq_iload_n C dL_law_618 rfl ?_
  refine lq_iconst C (nI 1) dL_law_619 (by decide +kernel) ?_
  first | refine lq_iadd_n C dL_law_620 ?_ | refine lq_iadd C dL_law_620 rfl ?_
  refine lq_sld C dL_law_621 rfl (by omega) hL3 ?_
  refine lq_callV1 C (K' := kX6_most) [_] dL_law_622 mL_84 lX6_most rfl (by decide) rfl (by decide) rfl rfl (Nat.le_of_ble_eq_true rfl) (Nat.le_of_ble_eq_true rfl) (c1) ?_
  refine lq_aload_n C dL_law_625 rfl ?_
  refine lq_aload_n C dL_law_626 rfl ?_
  refine lq_iload_n C dL_law_627 rfl ?_
  refine lq_iconst C (nI 1) dL_law_628 (by decide +kernel) ?_
  first | refine lq_iadd_n C dL_law_629 ?_ | refine lq_iadd C dL_law_629 rfl ?_
  refine lq_sld C dL_law_630 rfl (by omega) hL3 ?_
  refine lq_callV1 C (K' := kX7_most) [_] dL_law_631 mL_87 lX7_most rfl (by decide) rfl (by decide) rfl rfl (Nat.le_of_ble_eq_true rfl) (Nat.le_of_ble_eq_true rfl) (c2) ?_
  refine lq_icmp_eq C 926 dL_law_634 (by decide) (fun h634 => ?_) (fun h => absurd (rfl) h)
  exact nxt _ q
theorem arm_spent {O : gOm} {p : Program} {l : Launch} {e : Env} {s : State} {mi : MethodId} {below : List Frame} {meth : Method} {c : Code} {b L : Nat} {xs : Nat → Int32} {m : gMem} {i : Nat} (C : LwC O p s mi meth c b L xs) (hL3 : L ≤ 3072) (hi : i + 6 ≤ L) (hI : Inv m) (nxt : ∀ m2, Inv m2 → Lw O p l e s mi below meth c b 926 [.ref 70, .ref 0, .ref 46, .int (nI i)] [] m2) : Lw O p l e s mi below meth c b 639 [.ref 70, .ref 0, .ref 46, .int (nI i)] [] m := by
  obtain ⟨r, m1, m2, c1, c2, q⟩ := op_spent (O := O) (d := 0) (m := m) (n := xs (i + 1)) (p := xs (i + 2)) hI
  refine lq_aload_n C dL_law_639 rfl ?_
  refine lq_aload_n C dL_law_640 rfl ?_
  refine lq_iload_n C dL_law_641 rfl ?_
  refine lq_iconst C (nI 1) dL_law_642 (by decide +kernel) ?_
  first | refine lq_iadd_n C dL_law_643 ?_ | refine lq_iadd C dL_law_643 rfl ?_
  refine lq_sld C dL_law_644 rfl (by omega) hL3 ?_
  refine lq_aload_n C dL_law_645 rfl ?_
  refine lq_iload_n C dL_law_646 rfl ?_
  refine lq_iconst C (nI 2) dL_law_647 (by decide +kernel) ?_
  first | refine lq_iadd_n C dL_law_648 ?_ | refine lq_iadd C dL_law_648 rfl ?_
  refine lq_sld C dL_law_649 rfl (by omega) hL3 ?_
  refine lq_callV1 C (K' := kX6_spent) [_, _] dL_law_650 mL_88 lX6_spent rfl (by decide) rfl (by decide) rfl rfl (Nat.le_of_ble_eq_true rfl) (Nat.le_of_ble_eq_true rfl) (c1) ?_
  refine lq_aload_n C dL_law_653 rfl ?_
  refine lq_aload_n C dL_law_654 rfl ?_
  refine lq_iload_n C dL_law_655 rfl ?_
  refine lq_iconst C (nI 1) dL_law_656 (by decide +kernel) ?_
  first | refine lq_iadd_n C dL_law_657 ?_ | refine lq_iadd C dL_law_657 rfl ?_
  refine lq_sld C dL_law_658 rfl (by omega) hL3 ?_
  refine lq_aload_n C dL_law_659 rfl ?_
  refine lq_iload_n C dL_law_660 rfl ?_
  refine lq_iconst C (nI 2) dL_law_661 (by decide +kernel) ?_
  first | refine lq_iadd_n C dL_law_662 ?_ | refine lq_iadd C dL_law_662 rfl ?_
  refine lq_sld C dL_law_663 rfl (by omega) hL3 ?_
  refine lq_callV1 C (K' := kX7_spent) [_, _] dL_law_664 mL_91 lX7_spent rfl (by decide) rfl (by decide) rfl rfl (Nat.le_of_ble_eq_true rfl) (Nat.le_of_ble_eq_true rfl) (c2) ?_
  refine lq_icmp_eq C 926 dL_law_667 (by decide) (fun h667 => ?_) (fun h => absurd (rfl) h)
  exact nxt _ q
theorem arm_duel {O : gOm} {p : Program} {l : Launch} {e : Env} {s : State} {mi : MethodId} {below : List Frame} {meth : Method} {c : Code} {b L : Nat} {xs : Nat → Int32} {m : gMem} {i : Nat} (C : LwC O p s mi meth c b L xs) (hL3 : L ≤ 3072) (hi : i + 6 ≤ L) (hI : Inv m) (nxt : ∀ m2, Inv m2 → Lw O p l e s mi below meth c b 926 [.ref 70, .ref 0, .ref 46, .int (nI i)] [] m2) : Lw O p l e s mi below meth c b 672 [.ref 70, .ref 0, .ref 46, .int (nI i)] [] m := by
  obtain ⟨r, m1, m2, c1, c2, q⟩ := op_duel (O := O) (d := 0) (m := m) (n := xs (i + 1)) (p := xs (i + 2)) hI
  refine lq_aload_n C dL_law_672 rfl ?_
  refine lq_aload_n C dL_law_673 rfl ?_
  refine lq_iload_n C dL_law_674 rfl ?_
  refine lq_iconst C (nI 1) dL_law_675 (by decide +kernel) ?_
  first | refine lq_iadd_n C dL_law_676 ?_ | refine lq_iadd C dL_law_676 rfl ?_
  refine lq_sld C dL_law_677 rfl (by omega) hL3 ?_
  refine lq_aload_n C dL_law_678 rfl ?_
  refine lq_iload_n C dL_law_679 rfl ?_
  refine lq_iconst C (nI 2) dL_law_680 (by decide +kernel) ?_
  first | refine lq_iadd_n C dL_law_681 ?_ | refine lq_iadd C dL_law_681 rfl ?_
  refine lq_sld C dL_law_682 rfl (by omega) hL3 ?_
  refine lq_callV1 C (K' := kX6_duel) [_, _] dL_law_683 mL_92 lX6_duel rfl (by decide) rfl (by decide) rfl rfl (Nat.le_of_ble_eq_true rfl) (Nat.le_of_ble_eq_true rfl) (c1) ?_
  refine lq_aload_n C dL_law_686 rfl ?_
  refine lq_aload_n C dL_law_687 rfl ?_
  refine lq_iload_n C dL_law_688 rfl ?_
  refine lq_iconst C (nI 1) dL_law_689 (by decide +kernel) ?_
  first | refine lq_iadd_n C dL_law_690 ?_ | refine lq_iadd C dL_law_690 rfl ?_
  refine lq_sld C dL_law_691 rfl (by omega) hL3 ?_
  refine lq_aload_n C dL_law_692 rfl ?_
  refine lq_iload_n C dL_law_693 rfl ?_
  refine lq_iconst C (nI 2) dL_law_694 (by decide +kernel) ?_
  first | refine lq_iadd_n C dL_law_695 ?_ | refine lq_iadd C dL_law_695 rfl ?_
  refine lq_sld C dL_law_696 rfl (by omega) hL3 ?_
  refine lq_callV1 C (K' := kX7_duel) [_, _] dL_law_697 mL_95 lX7_duel rfl (by decide) rfl (by decide) rfl rfl (Nat.le_of_ble_eq_true rfl) (Nat.le_of_ble_eq_true rfl) (c2) ?_
  refine lq_icmp_eq C 926 dL_law_700 (by decide) (fun h700 => ?_) (fun h => absurd (rfl) h)
  exact nxt _ q
theorem arm_chance {O : gOm} {p : Program} {l : Launch} {e : Env} {s : State} {mi : MethodId} {below : List Frame} {meth : Method} {c : Code} {b L : Nat} {xs : Nat → Int32} {m : gMem} {i : Nat} (C : LwC O p s mi meth c b L xs) (hL3 : L ≤ 3072) (hi : i + 6 ≤ L) (hI : Inv m) (nxt : ∀ m2, Inv m2 → Lw O p l e s mi below meth c b 926 [.ref 70, .ref 0, .ref 46, .int (nI i)] [] m2) : Lw O p l e s mi below meth c b 705 [.ref 70, .ref 0, .ref 46, .int (nI i)] [] m := by
  by_cases hz : xs (i + 5) = 0
  · obtain ⟨r, m1, m2, c1, c2, q⟩ := op_chance (O := O) (d := 0) (m := m) (n := xs (i + 1)) (p := xs (i + 2)) (a := xs (i + 3)) (x := xs (i + 4)) (up := false) hI
    refine lq_aload_n C dL_law_705 rfl ?_
    refine lq_aload_n C dL_law_706 rfl ?_
    refine lq_iload_n C dL_law_707 rfl ?_
    refine lq_iconst C (nI 1) dL_law_708 (by decide +kernel) ?_
    first | refine lq_iadd_n C dL_law_709 ?_ | refine lq_iadd C dL_law_709 rfl ?_
    refine lq_sld C dL_law_710 rfl (by omega) hL3 ?_
    refine lq_aload_n C dL_law_711 rfl ?_
    refine lq_iload_n C dL_law_712 rfl ?_
    refine lq_iconst C (nI 2) dL_law_713 (by decide +kernel) ?_
    first | refine lq_iadd_n C dL_law_714 ?_ | refine lq_iadd C dL_law_714 rfl ?_
    refine lq_sld C dL_law_715 rfl (by omega) hL3 ?_
    refine lq_aload_n C dL_law_716 rfl ?_
    refine lq_iload_n C dL_law_717 rfl ?_
    refine lq_iconst C (nI 3) dL_law_718 (by decide +kernel) ?_
    first | refine lq_iadd_n C dL_law_719 ?_ | refine lq_iadd C dL_law_719 rfl ?_
    refine lq_sld C dL_law_720 rfl (by omega) hL3 ?_
    refine lq_aload_n C dL_law_721 rfl ?_
    refine lq_iload_n C dL_law_722 rfl ?_
    refine lq_iconst C (nI 4) dL_law_723 (by decide +kernel) ?_
    first | refine lq_iadd_n C dL_law_724 ?_ | refine lq_iadd C dL_law_724 rfl ?_
    refine lq_sld C dL_law_725 rfl (by omega) hL3 ?_
    refine lq_aload_n C dL_law_726 rfl ?_
    refine lq_iload_n C dL_law_727 rfl ?_
    refine lq_iconst C (nI 5) dL_law_728 (by decide +kernel) ?_
    first | refine lq_iadd_n C dL_law_729 ?_ | refine lq_iadd C dL_law_729 rfl ?_
    refine lq_sld C dL_law_730 rfl (by omega) hL3 ?_
    refine lq_if_eq C 738 dL_law_731 (by decide) (fun h731 => ?_) (fun h => absurd (hz) h)
    refine lq_iconst C (nI 0) dL_law_738 (by decide +kernel) ?_
    refine lq_callV1 C (K' := kX6_chance) [_, _, _, _, _] dL_law_739 mL_96 lX6_chance rfl (by decide) rfl (by decide) rfl rfl (Nat.le_of_ble_eq_true rfl) (Nat.le_of_ble_eq_true rfl) (c1) ?_
    refine lq_aload_n C dL_law_742 rfl ?_
    refine lq_aload_n C dL_law_743 rfl ?_
    refine lq_iload_n C dL_law_744 rfl ?_
    refine lq_iconst C (nI 1) dL_law_745 (by decide +kernel) ?_
    first | refine lq_iadd_n C dL_law_746 ?_ | refine lq_iadd C dL_law_746 rfl ?_
    refine lq_sld C dL_law_747 rfl (by omega) hL3 ?_
    refine lq_aload_n C dL_law_748 rfl ?_
    refine lq_iload_n C dL_law_749 rfl ?_
    refine lq_iconst C (nI 2) dL_law_750 (by decide +kernel) ?_
    first | refine lq_iadd_n C dL_law_751 ?_ | refine lq_iadd C dL_law_751 rfl ?_
    refine lq_sld C dL_law_752 rfl (by omega) hL3 ?_
    refine lq_aload_n C dL_law_753 rfl ?_
    refine lq_iload_n C dL_law_754 rfl ?_
    refine lq_iconst C (nI 3) dL_law_755 (by decide +kernel) ?_
    first | refine lq_iadd_n C dL_law_756 ?_ | refine lq_iadd C dL_law_756 rfl ?_
    refine lq_sld C dL_law_757 rfl (by omega) hL3 ?_
    refine lq_aload_n C dL_law_758 rfl ?_
    refine lq_iload_n C dL_law_759 rfl ?_
    refine lq_iconst C (nI 4) dL_law_760 (by decide +kernel) ?_
    first | refine lq_iadd_n C dL_law_761 ?_ | refine lq_iadd C dL_law_761 rfl ?_
    refine lq_sld C dL_law_762 rfl (by omega) hL3 ?_
    refine lq_aload_n C dL_law_763 rfl ?_
    refine lq_iload_n C dL_law_764 rfl ?_
    refine lq_iconst C (nI 5) dL_law_765 (by decide +kernel) ?_
    first | refine lq_iadd_n C dL_law_766 ?_ | refine lq_iadd C dL_law_766 rfl ?_
    refine lq_sld C dL_law_767 rfl (by omega) hL3 ?_
    refine lq_if_eq C 775 dL_law_768 (by decide) (fun h768 => ?_) (fun h => absurd (hz) h)
    refine lq_iconst C (nI 0) dL_law_775 (by decide +kernel) ?_
    refine lq_callV1 C (K' := kX7_chance) [_, _, _, _, _] dL_law_776 mL_100 lX7_chance rfl (by decide) rfl (by decide) rfl rfl (Nat.le_of_ble_eq_true rfl) (Nat.le_of_ble_eq_true rfl) (c2) ?_
    refine lq_lcmp C dL_law_779 rfl ?_
    refine lq_if_eq C 926 dL_law_780 (by decide) (fun h780 => ?_) (fun h => absurd ((lg_cmp_eq r r).mpr rfl) h)
    exact nxt _ q
  · obtain ⟨r, m1, m2, c1, c2, q⟩ := op_chance (O := O) (d := 0) (m := m) (n := xs (i + 1)) (p := xs (i + 2)) (a := xs (i + 3)) (x := xs (i + 4)) (up := true) hI
    refine lq_aload_n C dL_law_705 rfl ?_
    refine lq_aload_n C dL_law_706 rfl ?_
    refine lq_iload_n C dL_law_707 rfl ?_
    refine lq_iconst C (nI 1) dL_law_708 (by decide +kernel) ?_
    first | refine lq_iadd_n C dL_law_709 ?_ | refine lq_iadd C dL_law_709 rfl ?_
    refine lq_sld C dL_law_710 rfl (by omega) hL3 ?_
    refine lq_aload_n C dL_law_711 rfl ?_
    refine lq_iload_n C dL_law_712 rfl ?_
    refine lq_iconst C (nI 2) dL_law_713 (by decide +kernel) ?_
    first | refine lq_iadd_n C dL_law_714 ?_ | refine lq_iadd C dL_law_714 rfl ?_
    refine lq_sld C dL_law_715 rfl (by omega) hL3 ?_
    refine lq_aload_n C dL_law_716 rfl ?_
    refine lq_iload_n C dL_law_717 rfl ?_
    refine lq_iconst C (nI 3) dL_law_718 (by decide +kernel) ?_
    first | refine lq_iadd_n C dL_law_719 ?_ | refine lq_iadd C dL_law_719 rfl ?_
    refine lq_sld C dL_law_720 rfl (by omega) hL3 ?_
    refine lq_aload_n C dL_law_721 rfl ?_
    refine lq_iload_n C dL_law_722 rfl ?_
    refine lq_iconst C (nI 4) dL_law_723 (by decide +kernel) ?_
    first | refine lq_iadd_n C dL_law_724 ?_ | refine lq_iadd C dL_law_724 rfl ?_
    refine lq_sld C dL_law_725 rfl (by omega) hL3 ?_
    refine lq_aload_n C dL_law_726 rfl ?_
    refine lq_iload_n C dL_law_727 rfl ?_
    refine lq_iconst C (nI 5) dL_law_728 (by decide +kernel) ?_
    first | refine lq_iadd_n C dL_law_729 ?_ | refine lq_iadd C dL_law_729 rfl ?_
    refine lq_sld C dL_law_730 rfl (by omega) hL3 ?_
    refine lq_if_eq C 738 dL_law_731 (by decide) (fun h => absurd h (hz)) (fun h731 => ?_)
    refine lq_iconst C (nI 1) dL_law_734 (by decide +kernel) ?_
    refine lq_goto C 739 dL_law_735 (by decide) ?_
    refine lq_callV1 C (K' := kX6_chance) [_, _, _, _, _] dL_law_739 mL_96 lX6_chance rfl (by decide) rfl (by decide) rfl rfl (Nat.le_of_ble_eq_true rfl) (Nat.le_of_ble_eq_true rfl) (c1) ?_
    refine lq_aload_n C dL_law_742 rfl ?_
    refine lq_aload_n C dL_law_743 rfl ?_
    refine lq_iload_n C dL_law_744 rfl ?_
    refine lq_iconst C (nI 1) dL_law_745 (by decide +kernel) ?_
    first | refine lq_iadd_n C dL_law_746 ?_ | refine lq_iadd C dL_law_746 rfl ?_
    refine lq_sld C dL_law_747 rfl (by omega) hL3 ?_
    refine lq_aload_n C dL_law_748 rfl ?_
    refine lq_iload_n C dL_law_749 rfl ?_
    refine lq_iconst C (nI 2) dL_law_750 (by decide +kernel) ?_
    first | refine lq_iadd_n C dL_law_751 ?_ | refine lq_iadd C dL_law_751 rfl ?_
    refine lq_sld C dL_law_752 rfl (by omega) hL3 ?_
    refine lq_aload_n C dL_law_753 rfl ?_
    refine lq_iload_n C dL_law_754 rfl ?_
    refine lq_iconst C (nI 3) dL_law_755 (by decide +kernel) ?_
    first | refine lq_iadd_n C dL_law_756 ?_ | refine lq_iadd C dL_law_756 rfl ?_
    refine lq_sld C dL_law_757 rfl (by omega) hL3 ?_
    refine lq_aload_n C dL_law_758 rfl ?_
    refine lq_iload_n C dL_law_759 rfl ?_
    refine lq_iconst C (nI 4) dL_law_760 (by decide +kernel) ?_
    first | refine lq_iadd_n C dL_law_761 ?_ | refine lq_iadd C dL_law_761 rfl ?_
    refine lq_sld C dL_law_762 rfl (by omega) hL3 ?_
    refine lq_aload_n C dL_law_763 rfl ?_
    refine lq_iload_n C dL_law_764 rfl ?_
    refine lq_iconst C (nI 5) dL_law_765 (by decide +kernel) ?_
    first | refine lq_iadd_n C dL_law_766 ?_ | refine lq_iadd C dL_law_766 rfl ?_
    refine lq_sld C dL_law_767 rfl (by omega) hL3 ?_
    refine lq_if_eq C 775 dL_law_768 (by decide) (fun h => absurd h (hz)) (fun h768 => ?_)
    refine lq_iconst C (nI 1) dL_law_771 (by decide +kernel) ?_
    refine lq_goto C 776 dL_law_772 (by decide) ?_
    refine lq_callV1 C (K' := kX7_chance) [_, _, _, _, _] dL_law_776 mL_100 lX7_chance rfl (by decide) rfl (by decide) rfl rfl (Nat.le_of_ble_eq_true rfl) (Nat.le_of_ble_eq_true rfl) (c2) ?_
    refine lq_lcmp C dL_law_779 rfl ?_
    refine lq_if_eq C 926 dL_law_780 (by decide) (fun h780 => ?_) (fun h => absurd ((lg_cmp_eq r r).mpr rfl) h)
    exact nxt _ q
theorem arm_sight {O : gOm} {p : Program} {l : Launch} {e : Env} {s : State} {mi : MethodId} {below : List Frame} {meth : Method} {c : Code} {b L : Nat} {xs : Nat → Int32} {m : gMem} {i : Nat} (C : LwC O p s mi meth c b L xs) (hL3 : L ≤ 3072) (hi : i + 6 ≤ L) (hI : Inv m) (nxt : ∀ m2, Inv m2 → Lw O p l e s mi below meth c b 926 [.ref 70, .ref 0, .ref 46, .int (nI i)] [] m2) : Lw O p l e s mi below meth c b 785 [.ref 70, .ref 0, .ref 46, .int (nI i)] [] m := by
  by_cases hz : xs (i + 3) = 0
  · obtain ⟨r, m1, m2, c1, c2, q⟩ := op_sight (O := O) (d := 36) (m := m) (h := xs (i + 1)) (p := xs (i + 2)) (b := false) hI
    refine lq_aload_n C dL_law_785 rfl ?_
    refine lq_aload_n C dL_law_786 rfl ?_
    refine lq_iload_n C dL_law_787 rfl ?_
    refine lq_iconst C (nI 1) dL_law_788 (by decide +kernel) ?_
    first | refine lq_iadd_n C dL_law_789 ?_ | refine lq_iadd C dL_law_789 rfl ?_
    refine lq_sld C dL_law_790 rfl (by omega) hL3 ?_
    refine lq_aload_n C dL_law_791 rfl ?_
    refine lq_iload_n C dL_law_792 rfl ?_
    refine lq_iconst C (nI 2) dL_law_793 (by decide +kernel) ?_
    first | refine lq_iadd_n C dL_law_794 ?_ | refine lq_iadd C dL_law_794 rfl ?_
    refine lq_sld C dL_law_795 rfl (by omega) hL3 ?_
    refine lq_aload_n C dL_law_796 rfl ?_
    refine lq_iload_n C dL_law_797 rfl ?_
    refine lq_iconst C (nI 3) dL_law_798 (by decide +kernel) ?_
    first | refine lq_iadd_n C dL_law_799 ?_ | refine lq_iadd C dL_law_799 rfl ?_
    refine lq_sld C dL_law_800 rfl (by omega) hL3 ?_
    refine lq_if_eq C 808 dL_law_801 (by decide) (fun h801 => ?_) (fun h => absurd (hz) h)
    refine lq_iconst C (nI 0) dL_law_808 (by decide +kernel) ?_
    refine lq_callV1 C (K' := kX6_sight) [_, _, _] dL_law_809 mL_101 lX6_sight rfl (by decide) rfl (by decide) rfl rfl (Nat.le_of_ble_eq_true rfl) (Nat.le_of_ble_eq_true rfl) (c1) ?_
    refine lq_aload_n C dL_law_812 rfl ?_
    refine lq_aload_n C dL_law_813 rfl ?_
    refine lq_iload_n C dL_law_814 rfl ?_
    refine lq_iconst C (nI 1) dL_law_815 (by decide +kernel) ?_
    first | refine lq_iadd_n C dL_law_816 ?_ | refine lq_iadd C dL_law_816 rfl ?_
    refine lq_sld C dL_law_817 rfl (by omega) hL3 ?_
    refine lq_aload_n C dL_law_818 rfl ?_
    refine lq_iload_n C dL_law_819 rfl ?_
    refine lq_iconst C (nI 2) dL_law_820 (by decide +kernel) ?_
    first | refine lq_iadd_n C dL_law_821 ?_ | refine lq_iadd C dL_law_821 rfl ?_
    refine lq_sld C dL_law_822 rfl (by omega) hL3 ?_
    refine lq_aload_n C dL_law_823 rfl ?_
    refine lq_iload_n C dL_law_824 rfl ?_
    refine lq_iconst C (nI 3) dL_law_825 (by decide +kernel) ?_
    first | refine lq_iadd_n C dL_law_826 ?_ | refine lq_iadd C dL_law_826 rfl ?_
    refine lq_sld C dL_law_827 rfl (by omega) hL3 ?_
    refine lq_if_eq C 835 dL_law_828 (by decide) (fun h828 => ?_) (fun h => absurd (hz) h)
    refine lq_iconst C (nI 0) dL_law_835 (by decide +kernel) ?_
    refine lq_callV1 C (K' := kX7_sight) [_, _, _] dL_law_836 mL_105 lX7_sight rfl (by decide) rfl (by decide) rfl rfl (Nat.le_of_ble_eq_true rfl) (Nat.le_of_ble_eq_true rfl) (c2) ?_
    refine lq_icmp_eq C 926 dL_law_839 (by decide) (fun h839 => ?_) (fun h => absurd (rfl) h)
    exact nxt _ q
  · obtain ⟨r, m1, m2, c1, c2, q⟩ := op_sight (O := O) (d := 36) (m := m) (h := xs (i + 1)) (p := xs (i + 2)) (b := true) hI
    refine lq_aload_n C dL_law_785 rfl ?_
    refine lq_aload_n C dL_law_786 rfl ?_
    refine lq_iload_n C dL_law_787 rfl ?_
    refine lq_iconst C (nI 1) dL_law_788 (by decide +kernel) ?_
    first | refine lq_iadd_n C dL_law_789 ?_ | refine lq_iadd C dL_law_789 rfl ?_
    refine lq_sld C dL_law_790 rfl (by omega) hL3 ?_
    refine lq_aload_n C dL_law_791 rfl ?_
    refine lq_iload_n C dL_law_792 rfl ?_
    refine lq_iconst C (nI 2) dL_law_793 (by decide +kernel) ?_
    first | refine lq_iadd_n C dL_law_794 ?_ | refine lq_iadd C dL_law_794 rfl ?_
    refine lq_sld C dL_law_795 rfl (by omega) hL3 ?_
    refine lq_aload_n C dL_law_796 rfl ?_
    refine lq_iload_n C dL_law_797 rfl ?_
    refine lq_iconst C (nI 3) dL_law_798 (by decide +kernel) ?_
    first | refine lq_iadd_n C dL_law_799 ?_ | refine lq_iadd C dL_law_799 rfl ?_
    refine lq_sld C dL_law_800 rfl (by omega) hL3 ?_
    refine lq_if_eq C 808 dL_law_801 (by decide) (fun h => absurd h (hz)) (fun h801 => ?_)
    refine lq_iconst C (nI 1) dL_law_804 (by decide +kernel) ?_
    refine lq_goto C 809 dL_law_805 (by decide) ?_
    refine lq_callV1 C (K' := kX6_sight) [_, _, _] dL_law_809 mL_101 lX6_sight rfl (by decide) rfl (by decide) rfl rfl (Nat.le_of_ble_eq_true rfl) (Nat.le_of_ble_eq_true rfl) (c1) ?_
    refine lq_aload_n C dL_law_812 rfl ?_
    refine lq_aload_n C dL_law_813 rfl ?_
    refine lq_iload_n C dL_law_814 rfl ?_
    refine lq_iconst C (nI 1) dL_law_815 (by decide +kernel) ?_
    first | refine lq_iadd_n C dL_law_816 ?_ | refine lq_iadd C dL_law_816 rfl ?_
    refine lq_sld C dL_law_817 rfl (by omega) hL3 ?_
    refine lq_aload_n C dL_law_818 rfl ?_
    refine lq_iload_n C dL_law_819 rfl ?_
    refine lq_iconst C (nI 2) dL_law_820 (by decide +kernel) ?_
    first | refine lq_iadd_n C dL_law_821 ?_ | refine lq_iadd C dL_law_821 rfl ?_
    refine lq_sld C dL_law_822 rfl (by omega) hL3 ?_
    refine lq_aload_n C dL_law_823 rfl ?_
    refine lq_iload_n C dL_law_824 rfl ?_
    refine lq_iconst C (nI 3) dL_law_825 (by decide +kernel) ?_
    first | refine lq_iadd_n C dL_law_826 ?_ | refine lq_iadd C dL_law_826 rfl ?_
    refine lq_sld C dL_law_827 rfl (by omega) hL3 ?_
    refine lq_if_eq C 835 dL_law_828 (by decide) (fun h => absurd h (hz)) (fun h828 => ?_)
    refine lq_iconst C (nI 1) dL_law_831 (by decide +kernel) ?_
    refine lq_goto C 836 dL_law_832 (by decide) ?_
    refine lq_callV1 C (K' := kX7_sight) [_, _, _] dL_law_836 mL_105 lX7_sight rfl (by decide) rfl (by decide) rfl rfl (Nat.le_of_ble_eq_true rfl) (Nat.le_of_ble_eq_true rfl) (c2) ?_
    refine lq_icmp_eq C 926 dL_law_839 (by decide) (fun h839 => ?_) (fun h => absurd (rfl) h)
    exact nxt _ q
theorem arm_unsee {O : gOm} {p : Program} {l : Launch} {e : Env} {s : State} {mi : MethodId} {below : List Frame} {meth : Method} {c : Code} {b L : Nat} {xs : Nat → Int32} {m : gMem} {i : Nat} (C : LwC O p s mi meth c b L xs) (hL3 : L ≤ 3072) (hi : i + 6 ≤ L) (hI : Inv m) (nxt : ∀ m2, Inv m2 → Lw O p l e s mi below meth c b 926 [.ref 70, .ref 0, .ref 46, .int (nI i)] [] m2) : Lw O p l e s mi below meth c b 844 [.ref 70, .ref 0, .ref 46, .int (nI i)] [] m := by
  obtain ⟨r, m1, m2, c1, c2, q⟩ := op_unsee (O := O) (d := 36) (m := m)  hI
  refine lq_aload_n C dL_law_844 rfl ?_
  refine lq_callV1 C (K' := kX6_unsee) [] dL_law_845 mL_106 lX6_unsee rfl (by decide) rfl (by decide) rfl rfl (Nat.le_of_ble_eq_true rfl) (Nat.le_of_ble_eq_true rfl) (c1) ?_
  refine lq_aload_n C dL_law_848 rfl ?_
  refine lq_callV1 C (K' := kX7_unsee) [] dL_law_849 mL_109 lX7_unsee rfl (by decide) rfl (by decide) rfl rfl (Nat.le_of_ble_eq_true rfl) (Nat.le_of_ble_eq_true rfl) (c2) ?_
  refine lq_icmp_eq C 926 dL_law_852 (by decide) (fun h852 => ?_) (fun h => absurd (rfl) h)
  exact nxt _ q
theorem arm_rows {O : gOm} {p : Program} {l : Launch} {e : Env} {s : State} {mi : MethodId} {below : List Frame} {meth : Method} {c : Code} {b L : Nat} {xs : Nat → Int32} {m : gMem} {i : Nat} (C : LwC O p s mi meth c b L xs) (hL3 : L ≤ 3072) (hi : i + 6 ≤ L) (hI : Inv m) (nxt : ∀ m2, Inv m2 → Lw O p l e s mi below meth c b 926 [.ref 70, .ref 0, .ref 46, .int (nI i)] [] m2) : Lw O p l e s mi below meth c b 857 [.ref 70, .ref 0, .ref 46, .int (nI i)] [] m := by
  obtain ⟨r, m1, m2, c1, c2, q⟩ := op_rows (O := O) (d := 0) (m := m) (n := xs (i + 1)) hI
  refine lq_aload_n C dL_law_857 rfl ?_
  refine lq_aload_n C dL_law_858 rfl ?_
  refine lq_iload_n C dL_law_859 rfl ?_
  refine lq_iconst C (nI 1) dL_law_860 (by decide +kernel) ?_
  first | refine lq_iadd_n C dL_law_861 ?_ | refine lq_iadd C dL_law_861 rfl ?_
  refine lq_sld C dL_law_862 rfl (by omega) hL3 ?_
  refine lq_callV1 C (K' := kX6_rows) [_] dL_law_863 mL_110 lX6_rows rfl (by decide) rfl (by decide) rfl rfl (Nat.le_of_ble_eq_true rfl) (Nat.le_of_ble_eq_true rfl) (c1) ?_
  refine lq_aload_n C dL_law_866 rfl ?_
  refine lq_aload_n C dL_law_867 rfl ?_
  refine lq_iload_n C dL_law_868 rfl ?_
  refine lq_iconst C (nI 1) dL_law_869 (by decide +kernel) ?_
  first | refine lq_iadd_n C dL_law_870 ?_ | refine lq_iadd C dL_law_870 rfl ?_
  refine lq_sld C dL_law_871 rfl (by omega) hL3 ?_
  refine lq_callV1 C (K' := kX7_rows) [_] dL_law_872 mL_113 lX7_rows rfl (by decide) rfl (by decide) rfl rfl (Nat.le_of_ble_eq_true rfl) (Nat.le_of_ble_eq_true rfl) (c2) ?_
  refine lq_icmp_eq C 926 dL_law_875 (by decide) (fun h875 => ?_) (fun h => absurd (rfl) h)
  exact nxt _ q
theorem arm_keep {O : gOm} {p : Program} {l : Launch} {e : Env} {s : State} {mi : MethodId} {below : List Frame} {meth : Method} {c : Code} {b L : Nat} {xs : Nat → Int32} {m : gMem} {i : Nat} (C : LwC O p s mi meth c b L xs) (hL3 : L ≤ 3072) (hi : i + 6 ≤ L) (hI : Inv m) (nxt : ∀ m2, Inv m2 → Lw O p l e s mi below meth c b 926 [.ref 70, .ref 0, .ref 46, .int (nI i)] [] m2) : Lw O p l e s mi below meth c b 880 [.ref 70, .ref 0, .ref 46, .int (nI i)] [] m := by
  obtain ⟨r, m1, m2, c1, c2, q⟩ := op_keep (O := O) (d := 36) (m := m) (x := xs (i + 1)) hI
  refine lq_aload_n C dL_law_880 rfl ?_
  refine lq_aload_n C dL_law_881 rfl ?_
  refine lq_iload_n C dL_law_882 rfl ?_
  refine lq_iconst C (nI 1) dL_law_883 (by decide +kernel) ?_
  first | refine lq_iadd_n C dL_law_884 ?_ | refine lq_iadd C dL_law_884 rfl ?_
  refine lq_sld C dL_law_885 rfl (by omega) hL3 ?_
  refine lq_callV1 C (K' := kX6_keep) [_] dL_law_886 mL_114 lX6_keep rfl (by decide) rfl (by decide) rfl rfl (Nat.le_of_ble_eq_true rfl) (Nat.le_of_ble_eq_true rfl) (c1) ?_
  refine lq_aload_n C dL_law_889 rfl ?_
  refine lq_aload_n C dL_law_890 rfl ?_
  refine lq_iload_n C dL_law_891 rfl ?_
  refine lq_iconst C (nI 1) dL_law_892 (by decide +kernel) ?_
  first | refine lq_iadd_n C dL_law_893 ?_ | refine lq_iadd C dL_law_893 rfl ?_
  refine lq_sld C dL_law_894 rfl (by omega) hL3 ?_
  refine lq_callV1 C (K' := kX7_keep) [_] dL_law_895 mL_117 lX7_keep rfl (by decide) rfl (by decide) rfl rfl (Nat.le_of_ble_eq_true rfl) (Nat.le_of_ble_eq_true rfl) (c2) ?_
  refine lq_icmp_eq C 926 dL_law_898 (by decide) (fun h898 => ?_) (fun h => absurd (rfl) h)
  exact nxt _ q
theorem arm_again {O : gOm} {p : Program} {l : Launch} {e : Env} {s : State} {mi : MethodId} {below : List Frame} {meth : Method} {c : Code} {b L : Nat} {xs : Nat → Int32} {m : gMem} {i : Nat} (C : LwC O p s mi meth c b L xs) (hL3 : L ≤ 3072) (hi : i + 6 ≤ L) (hI : Inv m) (nxt : ∀ m2, Inv m2 → Lw O p l e s mi below meth c b 926 [.ref 70, .ref 0, .ref 46, .int (nI i)] [] m2) : Lw O p l e s mi below meth c b 903 [.ref 70, .ref 0, .ref 46, .int (nI i)] [] m := by
  obtain ⟨r, m1, m2, c1, c2, q⟩ := op_again (O := O) (d := 36) (m := m) (x := xs (i + 1)) hI
  refine lq_aload_n C dL_law_903 rfl ?_
  refine lq_aload_n C dL_law_904 rfl ?_
  refine lq_iload_n C dL_law_905 rfl ?_
  refine lq_iconst C (nI 1) dL_law_906 (by decide +kernel) ?_
  first | refine lq_iadd_n C dL_law_907 ?_ | refine lq_iadd C dL_law_907 rfl ?_
  refine lq_sld C dL_law_908 rfl (by omega) hL3 ?_
  refine lq_callV1 C (K' := kX6_again) [_] dL_law_909 mL_118 lX6_again rfl (by decide) rfl (by decide) rfl rfl (Nat.le_of_ble_eq_true rfl) (Nat.le_of_ble_eq_true rfl) (c1) ?_
  refine lq_aload_n C dL_law_912 rfl ?_
  refine lq_aload_n C dL_law_913 rfl ?_
  refine lq_iload_n C dL_law_914 rfl ?_
  refine lq_iconst C (nI 1) dL_law_915 (by decide +kernel) ?_
  first | refine lq_iadd_n C dL_law_916 ?_ | refine lq_iadd C dL_law_916 rfl ?_
  refine lq_sld C dL_law_917 rfl (by omega) hL3 ?_
  refine lq_callV1 C (K' := kX7_again) [_] dL_law_918 mL_121 lX7_again rfl (by decide) rfl (by decide) rfl rfl (Nat.le_of_ble_eq_true rfl) (Nat.le_of_ble_eq_true rfl) (c2) ?_
  refine lq_icmp_eq C 926 dL_law_921 (by decide) (fun h921 => ?_) (fun h => absurd (rfl) h)
  exact nxt _ q
