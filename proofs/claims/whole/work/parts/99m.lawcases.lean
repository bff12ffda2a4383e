theorem x_vall {ad : Nat → Nat} {w : Int64} {y : Int32} : [(.inr (.inl w.toInt) : zV), .inl y.toInt].map (z_val ad) = [.long w, .int y] := by
  show [Value.long (Int64.ofInt w.toInt), Value.int (Int32.ofInt y.toInt)] = _
  rw [z_of32, Int64.ofInt_toInt]
theorem x_okl {w : Int64} {y : Int32} : z_oks [.inr (.inl w.toInt), .inl y.toInt] := z_oks_cons (v := .inr (.inl w.toInt)) (z_in64 w) (z_oks_cons (v := .inl y.toInt) (z_in32 y) (fun _ h => by cases h))
set_option maxHeartbeats 2000000 in
theorem x_c_row {p : Program} {l : Launch} {e : Env} {s : State} {m : MethodId} {below : List Frame} {meth : Method} {c : Code} {Q : State → Prop} {D : va_G} {cA : Nat → ClassId} {ad : Nat → Nat} {b L : Nat} {xs : Nat → Int32} {i : Nat} {σ : zM} (C : x_C p s m c D cA ad b L xs) (hI : q_R2 σ σ ∧ q_mok σ) (hi : i + 7 ≤ L) (hσ : z_okm σ) (KK : ∀ σ2 : zM, (q_R2 σ2 σ2 ∧ q_mok σ2) → z_okm σ2 → x_X p l e s m below meth c Q D cA ad b 1146 i σ2) : x_X p l e s m below meth c Q D cA ad b 160 i σ := by
  intro H locs ls hP hS hl
  refine lv_aload_n C.1 C.2.1 dL_160 rfl (lv_at hl 1 rfl) ?_
  refine x_f (j := 1) C hl hS (by omega) dL_161 dL_162 dL_163 dL_164 dL_165 ?_
  refine x_f (j := 2) C hl hS (by omega) dL_166 dL_167 dL_168 dL_169 dL_170 ?_
  refine x_f (j := 3) C hl hS (by omega) dL_171 dL_172 dL_173 dL_174 dL_175 ?_
  refine x_call C (as := [.inl (xs (i + 1)).toInt, .inl (xs (i + 2)).toInt, .inl (xs (i + 3)).toInt]) (As := [.int (xs (i + 1)), .int (xs (i + 2)), .int (xs (i + 3))]) (rest := []) (K := (fun v σ1 => q_S10 (q_gRow (xs (i + 1)).toInt (xs (i + 2)).toInt (xs (i + 3)).toInt) (q_fRow (xs (i + 1)).toInt (xs (i + 2)).toInt (xs (i + 3)).toInt) σ1 (fun r σ2 => ∃ w, r = some (.inl w) ∧ w = v ∧ (q_R2 σ2 σ2 ∧ q_mok σ2)))) (n := 3) (k0 := 0) (S := SX9_row) dL_176 (okX9_row l) cls_X9 yl_397 yl_398 yl_399 yl_75 yl_400 ⟨by decide, by decide, by decide +kernel⟩ ⟨by decide, by decide⟩ (x_vali (ys := [xs (i + 1), xs (i + 2), xs (i + 3)])) rfl rfl (Nat.le_of_ble_eq_true rfl) (x_oki (ys := [xs (i + 1), xs (i + 2), xs (i + 3)])) hσ (q_pair2 (G := (q_gRow (xs (i + 1)).toInt (xs (i + 2)).toInt (xs (i + 3)).toInt)) (F := (q_fRow (xs (i + 1)).toInt (xs (i + 2)).toInt (xs (i + 3)).toInt)) (q_k_row _ _ _) hI) hP hS hl.1 (fun v σ1 H locs hv hσ hP hS => ?_)
  refine lv_aload_n C.1 C.2.1 dL_179 rfl (lv_at hl 2 rfl) ?_
  refine x_f (j := 1) C hl hS (by omega) dL_180 dL_181 dL_182 dL_183 dL_184 ?_
  refine x_f (j := 2) C hl hS (by omega) dL_185 dL_186 dL_187 dL_188 dL_189 ?_
  refine x_f (j := 3) C hl hS (by omega) dL_190 dL_191 dL_192 dL_193 dL_194 ?_
  refine x_call C (as := [.inl (xs (i + 1)).toInt, .inl (xs (i + 2)).toInt, .inl (xs (i + 3)).toInt]) (As := [.int (xs (i + 1)), .int (xs (i + 2)), .int (xs (i + 3))]) (rest := [.int (Int32.ofInt v)]) (K := (fun w σ2 => w = v ∧ (q_R2 σ2 σ2 ∧ q_mok σ2))) (n := 3) (k0 := 89) (S := SX10_row) dL_195 (okX10_row l) cls_X10 yl_1074 yl_1075 yl_1076 yl_85 yl_1077 ⟨by decide, by decide, by decide +kernel⟩ ⟨by decide, by decide⟩ (x_vali (ys := [xs (i + 1), xs (i + 2), xs (i + 3)])) rfl rfl (Nat.le_of_ble_eq_true rfl) (x_oki (ys := [xs (i + 1), xs (i + 2), xs (i + 3)])) hσ hv hP hS hl.1 (fun w σ2 H locs hw hσ hP hS => ?_)
  obtain ⟨rfl, hI2⟩ := hw
  exact lv_icmp_eq C.1 C.2.1 dL_198 (tgt := 1146) (by decide) (fun _ => KK _ hI2 hσ H locs ls hP hS hl) (fun q => absurd rfl q)
set_option maxHeartbeats 2000000 in
theorem x_c_set {p : Program} {l : Launch} {e : Env} {s : State} {m : MethodId} {below : List Frame} {meth : Method} {c : Code} {Q : State → Prop} {D : va_G} {cA : Nat → ClassId} {ad : Nat → Nat} {b L : Nat} {xs : Nat → Int32} {i : Nat} {σ : zM} (C : x_C p s m c D cA ad b L xs) (hI : q_R2 σ σ ∧ q_mok σ) (hi : i + 7 ≤ L) (hσ : z_okm σ) (KK : ∀ σ2 : zM, (q_R2 σ2 σ2 ∧ q_mok σ2) → z_okm σ2 → x_X p l e s m below meth c Q D cA ad b 1146 i σ2) : x_X p l e s m below meth c Q D cA ad b 203 i σ := by
  intro H locs ls hP hS hl
  refine lv_aload_n C.1 C.2.1 dL_203 rfl (lv_at hl 1 rfl) ?_
  refine x_f (j := 1) C hl hS (by omega) dL_204 dL_205 dL_206 dL_207 dL_208 ?_
  refine x_f (j := 2) C hl hS (by omega) dL_209 dL_210 dL_211 dL_212 dL_213 ?_
  refine x_f (j := 3) C hl hS (by omega) dL_214 dL_215 dL_216 dL_217 dL_218 ?_
  refine x_call C (as := [.inl (xs (i + 1)).toInt, .inl (xs (i + 2)).toInt, .inl (xs (i + 3)).toInt]) (As := [.int (xs (i + 1)), .int (xs (i + 2)), .int (xs (i + 3))]) (rest := []) (K := (fun v σ1 => q_S10 (q_gSet (xs (i + 1)).toInt (xs (i + 2)).toInt (xs (i + 3)).toInt) (q_fSet (xs (i + 1)).toInt (xs (i + 2)).toInt (xs (i + 3)).toInt) σ1 (fun r σ2 => ∃ w, r = some (.inl w) ∧ w = v ∧ (q_R2 σ2 σ2 ∧ q_mok σ2)))) (n := 3) (k0 := 0) (S := SX9_set) dL_219 (okX9_set l) cls_X9 yl_419 yl_420 yl_421 yl_75 yl_422 ⟨by decide, by decide, by decide +kernel⟩ ⟨by decide, by decide⟩ (x_vali (ys := [xs (i + 1), xs (i + 2), xs (i + 3)])) rfl rfl (Nat.le_of_ble_eq_true rfl) (x_oki (ys := [xs (i + 1), xs (i + 2), xs (i + 3)])) hσ (q_pair2 (G := (q_gSet (xs (i + 1)).toInt (xs (i + 2)).toInt (xs (i + 3)).toInt)) (F := (q_fSet (xs (i + 1)).toInt (xs (i + 2)).toInt (xs (i + 3)).toInt)) (q_k_set _ _ _) hI) hP hS hl.1 (fun v σ1 H locs hv hσ hP hS => ?_)
  refine lv_aload_n C.1 C.2.1 dL_222 rfl (lv_at hl 2 rfl) ?_
  refine x_f (j := 1) C hl hS (by omega) dL_223 dL_224 dL_225 dL_226 dL_227 ?_
  refine x_f (j := 2) C hl hS (by omega) dL_228 dL_229 dL_230 dL_231 dL_232 ?_
  refine x_f (j := 3) C hl hS (by omega) dL_233 dL_234 dL_235 dL_236 dL_237 ?_
  refine x_call C (as := [.inl (xs (i + 1)).toInt, .inl (xs (i + 2)).toInt, .inl (xs (i + 3)).toInt]) (As := [.int (xs (i + 1)), .int (xs (i + 2)), .int (xs (i + 3))]) (rest := [.int (Int32.ofInt v)]) (K := (fun w σ2 => w = v ∧ (q_R2 σ2 σ2 ∧ q_mok σ2))) (n := 3) (k0 := 89) (S := SX10_set) dL_238 (okX10_set l) cls_X10 yl_1092 yl_1093 yl_1094 yl_85 yl_1095 ⟨by decide, by decide, by decide +kernel⟩ ⟨by decide, by decide⟩ (x_vali (ys := [xs (i + 1), xs (i + 2), xs (i + 3)])) rfl rfl (Nat.le_of_ble_eq_true rfl) (x_oki (ys := [xs (i + 1), xs (i + 2), xs (i + 3)])) hσ hv hP hS hl.1 (fun w σ2 H locs hw hσ hP hS => ?_)
  obtain ⟨rfl, hI2⟩ := hw
  exact lv_icmp_eq C.1 C.2.1 dL_241 (tgt := 1146) (by decide) (fun _ => KK _ hI2 hσ H locs ls hP hS hl) (fun q => absurd rfl q)
set_option maxHeartbeats 2000000 in
theorem x_c_copy {p : Program} {l : Launch} {e : Env} {s : State} {m : MethodId} {below : List Frame} {meth : Method} {c : Code} {Q : State → Prop} {D : va_G} {cA : Nat → ClassId} {ad : Nat → Nat} {b L : Nat} {xs : Nat → Int32} {i : Nat} {σ : zM} (C : x_C p s m c D cA ad b L xs) (hI : q_R2 σ σ ∧ q_mok σ) (hi : i + 7 ≤ L) (hσ : z_okm σ) (KK : ∀ σ2 : zM, (q_R2 σ2 σ2 ∧ q_mok σ2) → z_okm σ2 → x_X p l e s m below meth c Q D cA ad b 1146 i σ2) : x_X p l e s m below meth c Q D cA ad b 246 i σ := by
  intro H locs ls hP hS hl
  refine lv_aload_n C.1 C.2.1 dL_246 rfl (lv_at hl 1 rfl) ?_
  refine x_f (j := 1) C hl hS (by omega) dL_247 dL_248 dL_249 dL_250 dL_251 ?_
  refine x_f (j := 2) C hl hS (by omega) dL_252 dL_253 dL_254 dL_255 dL_256 ?_
  refine x_f (j := 3) C hl hS (by omega) dL_257 dL_258 dL_259 dL_260 dL_261 ?_
  refine x_f (j := 4) C hl hS (by omega) dL_262 dL_263 dL_264 dL_265 dL_266 ?_
  refine x_f (j := 5) C hl hS (by omega) dL_267 dL_268 dL_269 dL_270 dL_271 ?_
  refine x_call C (as := [.inl (xs (i + 1)).toInt, .inl (xs (i + 2)).toInt, .inl (xs (i + 3)).toInt, .inl (xs (i + 4)).toInt, .inl (xs (i + 5)).toInt]) (As := [.int (xs (i + 1)), .int (xs (i + 2)), .int (xs (i + 3)), .int (xs (i + 4)), .int (xs (i + 5))]) (rest := []) (K := (fun v σ1 => q_S10 (q_gCopy (xs (i + 1)).toInt (xs (i + 2)).toInt (xs (i + 3)).toInt (xs (i + 4)).toInt (xs (i + 5)).toInt) (q_fCopy (xs (i + 1)).toInt (xs (i + 2)).toInt (xs (i + 3)).toInt (xs (i + 4)).toInt (xs (i + 5)).toInt) σ1 (fun r σ2 => ∃ w, r = some (.inl w) ∧ w = v ∧ (q_R2 σ2 σ2 ∧ q_mok σ2)))) (n := 5) (k0 := 0) (S := SX9_copy) dL_272 (okX9_copy l) cls_X9 yl_437 yl_438 yl_439 yl_75 yl_440 ⟨by decide, by decide, by decide +kernel⟩ ⟨by decide, by decide⟩ (x_vali (ys := [xs (i + 1), xs (i + 2), xs (i + 3), xs (i + 4), xs (i + 5)])) rfl rfl (Nat.le_of_ble_eq_true rfl) (x_oki (ys := [xs (i + 1), xs (i + 2), xs (i + 3), xs (i + 4), xs (i + 5)])) hσ (q_pair2 (G := (q_gCopy (xs (i + 1)).toInt (xs (i + 2)).toInt (xs (i + 3)).toInt (xs (i + 4)).toInt (xs (i + 5)).toInt)) (F := (q_fCopy (xs (i + 1)).toInt (xs (i + 2)).toInt (xs (i + 3)).toInt (xs (i + 4)).toInt (xs (i + 5)).toInt)) (q_k_copy _ _ _ _ _) hI) hP hS hl.1 (fun v σ1 H locs hv hσ hP hS => ?_)
  refine lv_aload_n C.1 C.2.1 dL_275 rfl (lv_at hl 2 rfl) ?_
  refine x_f (j := 1) C hl hS (by omega) dL_276 dL_277 dL_278 dL_279 dL_280 ?_
  refine x_f (j := 2) C hl hS (by omega) dL_281 dL_282 dL_283 dL_284 dL_285 ?_
  refine x_f (j := 3) C hl hS (by omega) dL_286 dL_287 dL_288 dL_289 dL_290 ?_
  refine x_f (j := 4) C hl hS (by omega) dL_291 dL_292 dL_293 dL_294 dL_295 ?_
  refine x_f (j := 5) C hl hS (by omega) dL_296 dL_297 dL_298 dL_299 dL_300 ?_
  refine x_call C (as := [.inl (xs (i + 1)).toInt, .inl (xs (i + 2)).toInt, .inl (xs (i + 3)).toInt, .inl (xs (i + 4)).toInt, .inl (xs (i + 5)).toInt]) (As := [.int (xs (i + 1)), .int (xs (i + 2)), .int (xs (i + 3)), .int (xs (i + 4)), .int (xs (i + 5))]) (rest := [.int (Int32.ofInt v)]) (K := (fun w σ2 => w = v ∧ (q_R2 σ2 σ2 ∧ q_mok σ2))) (n := 5) (k0 := 89) (S := SX10_copy) dL_301 (okX10_copy l) cls_X10 yl_1096 yl_1097 yl_1098 yl_85 yl_1099 ⟨by decide, by decide, by decide +kernel⟩ ⟨by decide, by decide⟩ (x_vali (ys := [xs (i + 1), xs (i + 2), xs (i + 3), xs (i + 4), xs (i + 5)])) rfl rfl (Nat.le_of_ble_eq_true rfl) (x_oki (ys := [xs (i + 1), xs (i + 2), xs (i + 3), xs (i + 4), xs (i + 5)])) hσ hv hP hS hl.1 (fun w σ2 H locs hw hσ hP hS => ?_)
  obtain ⟨rfl, hI2⟩ := hw
  exact lv_icmp_eq C.1 C.2.1 dL_304 (tgt := 1146) (by decide) (fun _ => KK _ hI2 hσ H locs ls hP hS hl) (fun q => absurd rfl q)
set_option maxHeartbeats 2000000 in
theorem x_c_drop {p : Program} {l : Launch} {e : Env} {s : State} {m : MethodId} {below : List Frame} {meth : Method} {c : Code} {Q : State → Prop} {D : va_G} {cA : Nat → ClassId} {ad : Nat → Nat} {b L : Nat} {xs : Nat → Int32} {i : Nat} {σ : zM} (C : x_C p s m c D cA ad b L xs) (hI : q_R2 σ σ ∧ q_mok σ) (hi : i + 7 ≤ L) (hσ : z_okm σ) (KK : ∀ σ2 : zM, (q_R2 σ2 σ2 ∧ q_mok σ2) → z_okm σ2 → x_X p l e s m below meth c Q D cA ad b 1146 i σ2) : x_X p l e s m below meth c Q D cA ad b 309 i σ := by
  intro H locs ls hP hS hl
  refine lv_aload_n C.1 C.2.1 dL_309 rfl (lv_at hl 1 rfl) ?_
  refine x_f (j := 1) C hl hS (by omega) dL_310 dL_311 dL_312 dL_313 dL_314 ?_
  refine x_call C (as := [.inl (xs (i + 1)).toInt]) (As := [.int (xs (i + 1))]) (rest := []) (K := (fun v σ1 => q_S10 (q_gDrop (xs (i + 1)).toInt) (q_fDrop (xs (i + 1)).toInt) σ1 (fun r σ2 => ∃ w, r = some (.inl w) ∧ w = v ∧ (q_R2 σ2 σ2 ∧ q_mok σ2)))) (n := 1) (k0 := 0) (S := SX9_drop) dL_315 (okX9_drop l) cls_X9 yl_452 yl_453 yl_454 yl_75 yl_455 ⟨by decide, by decide, by decide +kernel⟩ ⟨by decide, by decide⟩ (x_vali (ys := [xs (i + 1)])) rfl rfl (Nat.le_of_ble_eq_true rfl) (x_oki (ys := [xs (i + 1)])) hσ (q_pair2 (G := (q_gDrop (xs (i + 1)).toInt)) (F := (q_fDrop (xs (i + 1)).toInt)) (q_k_drop _) hI) hP hS hl.1 (fun v σ1 H locs hv hσ hP hS => ?_)
  refine lv_aload_n C.1 C.2.1 dL_318 rfl (lv_at hl 2 rfl) ?_
  refine x_f (j := 1) C hl hS (by omega) dL_319 dL_320 dL_321 dL_322 dL_323 ?_
  refine x_call C (as := [.inl (xs (i + 1)).toInt]) (As := [.int (xs (i + 1))]) (rest := [.int (Int32.ofInt v)]) (K := (fun w σ2 => w = v ∧ (q_R2 σ2 σ2 ∧ q_mok σ2))) (n := 1) (k0 := 89) (S := SX10_drop) dL_324 (okX10_drop l) cls_X10 yl_1100 yl_1101 yl_1102 yl_85 yl_1103 ⟨by decide, by decide, by decide +kernel⟩ ⟨by decide, by decide⟩ (x_vali (ys := [xs (i + 1)])) rfl rfl (Nat.le_of_ble_eq_true rfl) (x_oki (ys := [xs (i + 1)])) hσ hv hP hS hl.1 (fun w σ2 H locs hw hσ hP hS => ?_)
  obtain ⟨rfl, hI2⟩ := hw
  exact lv_icmp_eq C.1 C.2.1 dL_327 (tgt := 1146) (by decide) (fun _ => KK _ hI2 hσ H locs ls hP hS hl) (fun q => absurd rfl q)
set_option maxHeartbeats 2000000 in
theorem x_c_feed {p : Program} {l : Launch} {e : Env} {s : State} {m : MethodId} {below : List Frame} {meth : Method} {c : Code} {Q : State → Prop} {D : va_G} {cA : Nat → ClassId} {ad : Nat → Nat} {b L : Nat} {xs : Nat → Int32} {i : Nat} {σ : zM} (C : x_C p s m c D cA ad b L xs) (hI : q_R2 σ σ ∧ q_mok σ) (hi : i + 7 ≤ L) (hσ : z_okm σ) (KK : ∀ σ2 : zM, (q_R2 σ2 σ2 ∧ q_mok σ2) → z_okm σ2 → x_X p l e s m below meth c Q D cA ad b 1146 i σ2) : x_X p l e s m below meth c Q D cA ad b 332 i σ := by
  intro H locs ls hP hS hl
  refine lv_aload_n C.1 C.2.1 dL_332 rfl (lv_at hl 1 rfl) ?_
  refine x_f (j := 1) C hl hS (by omega) dL_333 dL_334 dL_335 dL_336 dL_337 ?_
  refine lv_i2l C.1 C.2.1 dL_338 rfl ?_
  refine lv_bipush (v := 32) C.1 C.2.1 dL_339 (by decide) ?_
  refine lv_lshl C.1 C.2.1 dL_341 rfl ?_
  refine x_f (j := 2) C hl hS (by omega) dL_342 dL_343 dL_344 dL_345 dL_346 ?_
  refine lv_i2l C.1 C.2.1 dL_347 rfl ?_
  refine lv_ldc2 (v := 4294967295) C.1 C.2.1 C.2.2.2.1 (C.2.2.2.2.1 _ yl_1404) dL_348 ?_
  refine lv_land C.1 C.2.1 dL_351 ?_
  refine lv_lor C.1 C.2.1 dL_352 ?_
  refine x_f (j := 3) C hl hS (by omega) dL_353 dL_354 dL_355 dL_356 dL_357 ?_
  refine x_call C (as := [.inr (.inl (((xs (i + 1)).toInt64 <<< ((32 : Int32).toInt64 &&& 63)) ||| ((xs (i + 2)).toInt64 &&& 4294967295)).toInt), .inl (xs (i + 3)).toInt]) (As := [.long (((xs (i + 1)).toInt64 <<< ((32 : Int32).toInt64 &&& 63)) ||| ((xs (i + 2)).toInt64 &&& 4294967295)), .int (xs (i + 3))]) (rest := []) (K := (fun v σ1 => q_S10 (q_gFeed (xs (i + 3)).toInt) (q_fFeed (((xs (i + 1)).toInt64 <<< ((32 : Int32).toInt64 &&& 63)) ||| ((xs (i + 2)).toInt64 &&& 4294967295)).toInt (xs (i + 3)).toInt) σ1 (fun r σ2 => ∃ w, r = some (.inl w) ∧ w = v ∧ (q_R2 σ2 σ2 ∧ q_mok σ2)))) (n := 2) (k0 := 0) (S := SX9_feed) dL_358 (okX9_feed l) cls_X9 yl_460 yl_461 yl_462 yl_75 yl_463 ⟨by decide, by decide, by decide +kernel⟩ ⟨by decide, by decide⟩ x_vall rfl rfl (Nat.le_of_ble_eq_true rfl) x_okl hσ (q_pair2 (G := (q_gFeed (xs (i + 3)).toInt)) (F := (q_fFeed (((xs (i + 1)).toInt64 <<< ((32 : Int32).toInt64 &&& 63)) ||| ((xs (i + 2)).toInt64 &&& 4294967295)).toInt (xs (i + 3)).toInt)) (q_k_feed _ _) hI) hP hS hl.1 (fun v σ1 H locs hv hσ hP hS => ?_)
  refine lv_aload_n C.1 C.2.1 dL_361 rfl (lv_at hl 2 rfl) ?_
  refine x_f (j := 1) C hl hS (by omega) dL_362 dL_363 dL_364 dL_365 dL_366 ?_
  refine lv_i2l C.1 C.2.1 dL_367 rfl ?_
  refine lv_bipush (v := 32) C.1 C.2.1 dL_368 (by decide) ?_
  refine lv_lshl C.1 C.2.1 dL_370 rfl ?_
  refine x_f (j := 2) C hl hS (by omega) dL_371 dL_372 dL_373 dL_374 dL_375 ?_
  refine lv_i2l C.1 C.2.1 dL_376 rfl ?_
  refine lv_ldc2 (v := 4294967295) C.1 C.2.1 C.2.2.2.1 (C.2.2.2.2.1 _ yl_1404) dL_377 ?_
  refine lv_land C.1 C.2.1 dL_380 ?_
  refine lv_lor C.1 C.2.1 dL_381 ?_
  refine x_f (j := 3) C hl hS (by omega) dL_382 dL_383 dL_384 dL_385 dL_386 ?_
  refine x_call C (as := [.inr (.inl (((xs (i + 1)).toInt64 <<< ((32 : Int32).toInt64 &&& 63)) ||| ((xs (i + 2)).toInt64 &&& 4294967295)).toInt), .inl (xs (i + 3)).toInt]) (As := [.long (((xs (i + 1)).toInt64 <<< ((32 : Int32).toInt64 &&& 63)) ||| ((xs (i + 2)).toInt64 &&& 4294967295)), .int (xs (i + 3))]) (rest := [.int (Int32.ofInt v)]) (K := (fun w σ2 => w = v ∧ (q_R2 σ2 σ2 ∧ q_mok σ2))) (n := 2) (k0 := 89) (S := SX10_feed) dL_387 (okX10_feed l) cls_X10 yl_1104 yl_1105 yl_1106 yl_85 yl_1107 ⟨by decide, by decide, by decide +kernel⟩ ⟨by decide, by decide⟩ x_vall rfl rfl (Nat.le_of_ble_eq_true rfl) x_okl hσ hv hP hS hl.1 (fun w σ2 H locs hw hσ hP hS => ?_)
  obtain ⟨rfl, hI2⟩ := hw
  exact lv_icmp_eq C.1 C.2.1 dL_390 (tgt := 1146) (by decide) (fun _ => KK _ hI2 hσ H locs ls hP hS hl) (fun q => absurd rfl q)
set_option maxHeartbeats 2000000 in
theorem x_c_wood {p : Program} {l : Launch} {e : Env} {s : State} {m : MethodId} {below : List Frame} {meth : Method} {c : Code} {Q : State → Prop} {D : va_G} {cA : Nat → ClassId} {ad : Nat → Nat} {b L : Nat} {xs : Nat → Int32} {i : Nat} {σ : zM} (C : x_C p s m c D cA ad b L xs) (hI : q_R2 σ σ ∧ q_mok σ) (hi : i + 7 ≤ L) (hσ : z_okm σ) (KK : ∀ σ2 : zM, (q_R2 σ2 σ2 ∧ q_mok σ2) → z_okm σ2 → x_X p l e s m below meth c Q D cA ad b 1146 i σ2) : x_X p l e s m below meth c Q D cA ad b 395 i σ := by
  intro H locs ls hP hS hl
  refine lv_aload_n C.1 C.2.1 dL_395 rfl (lv_at hl 1 rfl) ?_
  refine x_call C (as := []) (As := []) (rest := []) (K := (fun v σ1 => q_S10 q_gWood q_fWood σ1 (fun r σ2 => ∃ w, r = some (.inl w) ∧ w = v ∧ (q_R2 σ2 σ2 ∧ q_mok σ2)))) (n := 0) (k0 := 0) (S := SX9_wood) dL_396 (okX9_wood l) cls_X9 yl_469 yl_470 yl_471 yl_75 yl_472 ⟨by decide, by decide, by decide +kernel⟩ ⟨by decide, by decide⟩ (x_vali (ys := [])) rfl rfl (Nat.le_of_ble_eq_true rfl) (x_oki (ys := [])) hσ (q_pair2 (G := q_gWood) (F := q_fWood) (q_k_wood) hI) hP hS hl.1 (fun v σ1 H locs hv hσ hP hS => ?_)
  refine lv_aload_n C.1 C.2.1 dL_399 rfl (lv_at hl 2 rfl) ?_
  refine x_call C (as := []) (As := []) (rest := [.int (Int32.ofInt v)]) (K := (fun w σ2 => w = v ∧ (q_R2 σ2 σ2 ∧ q_mok σ2))) (n := 0) (k0 := 89) (S := SX10_wood) dL_400 (okX10_wood l) cls_X10 yl_1111 yl_1112 yl_1113 yl_85 yl_1114 ⟨by decide, by decide, by decide +kernel⟩ ⟨by decide, by decide⟩ (x_vali (ys := [])) rfl rfl (Nat.le_of_ble_eq_true rfl) (x_oki (ys := [])) hσ hv hP hS hl.1 (fun w σ2 H locs hw hσ hP hS => ?_)
  obtain ⟨rfl, hI2⟩ := hw
  exact lv_icmp_eq C.1 C.2.1 dL_403 (tgt := 1146) (by decide) (fun _ => KK _ hI2 hσ H locs ls hP hS hl) (fun q => absurd rfl q)
set_option maxHeartbeats 2000000 in
theorem x_c_orders {p : Program} {l : Launch} {e : Env} {s : State} {m : MethodId} {below : List Frame} {meth : Method} {c : Code} {Q : State → Prop} {D : va_G} {cA : Nat → ClassId} {ad : Nat → Nat} {b L : Nat} {xs : Nat → Int32} {i : Nat} {σ : zM} (C : x_C p s m c D cA ad b L xs) (hI : q_R2 σ σ ∧ q_mok σ) (hi : i + 7 ≤ L) (hσ : z_okm σ) (KK : ∀ σ2 : zM, (q_R2 σ2 σ2 ∧ q_mok σ2) → z_okm σ2 → x_X p l e s m below meth c Q D cA ad b 1146 i σ2) : x_X p l e s m below meth c Q D cA ad b 408 i σ := by
  intro H locs ls hP hS hl
  refine lv_aload_n C.1 C.2.1 dL_408 rfl (lv_at hl 1 rfl) ?_
  refine x_call C (as := []) (As := []) (rest := []) (K := (fun v σ1 => q_S10 q_gOrders q_fOrders σ1 (fun r σ2 => ∃ w, r = some (.inl w) ∧ w = v ∧ (q_R2 σ2 σ2 ∧ q_mok σ2)))) (n := 0) (k0 := 0) (S := SX9_orders) dL_409 (okX9_orders l) cls_X9 yl_626 yl_627 yl_628 yl_75 yl_629 ⟨by decide, by decide, by decide +kernel⟩ ⟨by decide, by decide⟩ (x_vali (ys := [])) rfl rfl (Nat.le_of_ble_eq_true rfl) (x_oki (ys := [])) hσ (q_pair2 (G := q_gOrders) (F := q_fOrders) (q_k_orders) hI) hP hS hl.1 (fun v σ1 H locs hv hσ hP hS => ?_)
  refine lv_aload_n C.1 C.2.1 dL_412 rfl (lv_at hl 2 rfl) ?_
  refine x_call C (as := []) (As := []) (rest := [.int (Int32.ofInt v)]) (K := (fun w σ2 => w = v ∧ (q_R2 σ2 σ2 ∧ q_mok σ2))) (n := 0) (k0 := 89) (S := SX10_orders) dL_413 (okX10_orders l) cls_X10 yl_1187 yl_1188 yl_1189 yl_85 yl_1190 ⟨by decide, by decide, by decide +kernel⟩ ⟨by decide, by decide⟩ (x_vali (ys := [])) rfl rfl (Nat.le_of_ble_eq_true rfl) (x_oki (ys := [])) hσ hv hP hS hl.1 (fun w σ2 H locs hw hσ hP hS => ?_)
  obtain ⟨rfl, hI2⟩ := hw
  exact lv_icmp_eq C.1 C.2.1 dL_416 (tgt := 1146) (by decide) (fun _ => KK _ hI2 hσ H locs ls hP hS hl) (fun q => absurd rfl q)
set_option maxHeartbeats 2000000 in
theorem x_c_fault {p : Program} {l : Launch} {e : Env} {s : State} {m : MethodId} {below : List Frame} {meth : Method} {c : Code} {Q : State → Prop} {D : va_G} {cA : Nat → ClassId} {ad : Nat → Nat} {b L : Nat} {xs : Nat → Int32} {i : Nat} {σ : zM} (C : x_C p s m c D cA ad b L xs) (hI : q_R2 σ σ ∧ q_mok σ) (hi : i + 7 ≤ L) (hσ : z_okm σ) (KK : ∀ σ2 : zM, (q_R2 σ2 σ2 ∧ q_mok σ2) → z_okm σ2 → x_X p l e s m below meth c Q D cA ad b 1146 i σ2) : x_X p l e s m below meth c Q D cA ad b 421 i σ := by
  intro H locs ls hP hS hl
  refine lv_aload_n C.1 C.2.1 dL_421 rfl (lv_at hl 1 rfl) ?_
  refine x_call C (as := []) (As := []) (rest := []) (K := (fun v σ1 => q_S10 q_gFault q_fId σ1 (fun r σ2 => ∃ w, r = some (.inl w) ∧ w = v ∧ (q_R2 σ2 σ2 ∧ q_mok σ2)))) (n := 0) (k0 := 0) (S := SX9_fault) dL_422 (okX9_fault l) cls_X9 yl_685 yl_686 yl_687 yl_75 yl_688 ⟨by decide, by decide, by decide +kernel⟩ ⟨by decide, by decide⟩ (x_vali (ys := [])) rfl rfl (Nat.le_of_ble_eq_true rfl) (x_oki (ys := [])) hσ (q_pair2 (G := q_gFault) (F := q_fId) (q_k_id) hI) hP hS hl.1 (fun v σ1 H locs hv hσ hP hS => ?_)
  refine lv_aload_n C.1 C.2.1 dL_425 rfl (lv_at hl 2 rfl) ?_
  refine x_call C (as := []) (As := []) (rest := [.int (Int32.ofInt v)]) (K := (fun w σ2 => w = v ∧ (q_R2 σ2 σ2 ∧ q_mok σ2))) (n := 0) (k0 := 89) (S := SX10_fault) dL_426 (okX10_fault l) cls_X10 yl_1215 yl_1216 yl_1217 yl_85 yl_1218 ⟨by decide, by decide, by decide +kernel⟩ ⟨by decide, by decide⟩ (x_vali (ys := [])) rfl rfl (Nat.le_of_ble_eq_true rfl) (x_oki (ys := [])) hσ hv hP hS hl.1 (fun w σ2 H locs hw hσ hP hS => ?_)
  obtain ⟨rfl, hI2⟩ := hw
  exact lv_icmp_eq C.1 C.2.1 dL_429 (tgt := 1146) (by decide) (fun _ => KK _ hI2 hσ H locs ls hP hS hl) (fun q => absurd rfl q)
set_option maxHeartbeats 2000000 in
theorem x_c_undo {p : Program} {l : Launch} {e : Env} {s : State} {m : MethodId} {below : List Frame} {meth : Method} {c : Code} {Q : State → Prop} {D : va_G} {cA : Nat → ClassId} {ad : Nat → Nat} {b L : Nat} {xs : Nat → Int32} {i : Nat} {σ : zM} (C : x_C p s m c D cA ad b L xs) (hI : q_R2 σ σ ∧ q_mok σ) (hi : i + 7 ≤ L) (hσ : z_okm σ) (KK : ∀ σ2 : zM, (q_R2 σ2 σ2 ∧ q_mok σ2) → z_okm σ2 → x_X p l e s m below meth c Q D cA ad b 1146 i σ2) : x_X p l e s m below meth c Q D cA ad b 434 i σ := by
  intro H locs ls hP hS hl
  refine lv_aload_n C.1 C.2.1 dL_434 rfl (lv_at hl 1 rfl) ?_
  refine x_call C (as := []) (As := []) (rest := []) (K := (fun v σ1 => q_S10 q_gUndo q_fUndo σ1 (fun r σ2 => ∃ w, r = some (.inl w) ∧ w = v ∧ (q_R2 σ2 σ2 ∧ q_mok σ2)))) (n := 0) (k0 := 0) (S := SX9_undo) dL_435 (okX9_undo l) cls_X9 yl_689 yl_690 yl_691 yl_75 yl_692 ⟨by decide, by decide, by decide +kernel⟩ ⟨by decide, by decide⟩ (x_vali (ys := [])) rfl rfl (Nat.le_of_ble_eq_true rfl) (x_oki (ys := [])) hσ (q_pair2 (G := q_gUndo) (F := q_fUndo) (q_k_undo) hI) hP hS hl.1 (fun v σ1 H locs hv hσ hP hS => ?_)
  refine lv_aload_n C.1 C.2.1 dL_438 rfl (lv_at hl 2 rfl) ?_
  refine x_call C (as := []) (As := []) (rest := [.int (Int32.ofInt v)]) (K := (fun w σ2 => w = v ∧ (q_R2 σ2 σ2 ∧ q_mok σ2))) (n := 0) (k0 := 89) (S := SX10_undo) dL_439 (okX10_undo l) cls_X10 yl_1219 yl_1220 yl_1221 yl_85 yl_1222 ⟨by decide, by decide, by decide +kernel⟩ ⟨by decide, by decide⟩ (x_vali (ys := [])) rfl rfl (Nat.le_of_ble_eq_true rfl) (x_oki (ys := [])) hσ hv hP hS hl.1 (fun w σ2 H locs hw hσ hP hS => ?_)
  obtain ⟨rfl, hI2⟩ := hw
  exact lv_icmp_eq C.1 C.2.1 dL_442 (tgt := 1146) (by decide) (fun _ => KK _ hI2 hσ H locs ls hP hS hl) (fun q => absurd rfl q)
set_option maxHeartbeats 2000000 in
theorem x_c_go {p : Program} {l : Launch} {e : Env} {s : State} {m : MethodId} {below : List Frame} {meth : Method} {c : Code} {Q : State → Prop} {D : va_G} {cA : Nat → ClassId} {ad : Nat → Nat} {b L : Nat} {xs : Nat → Int32} {i : Nat} {σ : zM} (C : x_C p s m c D cA ad b L xs) (hI : q_R2 σ σ ∧ q_mok σ) (hi : i + 7 ≤ L) (hσ : z_okm σ) (KK : ∀ σ2 : zM, (q_R2 σ2 σ2 ∧ q_mok σ2) → z_okm σ2 → x_X p l e s m below meth c Q D cA ad b 1146 i σ2) : x_X p l e s m below meth c Q D cA ad b 447 i σ := by
  intro H locs ls hP hS hl
  refine lv_aload_n C.1 C.2.1 dL_447 rfl (lv_at hl 1 rfl) ?_
  refine x_f (j := 1) C hl hS (by omega) dL_448 dL_449 dL_450 dL_451 dL_452 ?_
  refine x_call C (as := [.inl (xs (i + 1)).toInt]) (As := [.int (xs (i + 1))]) (rest := []) (K := (fun v σ1 => q_S10 (q_gGo (xs (i + 1)).toInt) (q_fGo (xs (i + 1)).toInt) σ1 (fun r σ2 => ∃ w, r = some (.inl w) ∧ w = v ∧ (q_R2 σ2 σ2 ∧ q_mok σ2)))) (n := 1) (k0 := 0) (S := SX9_go) dL_453 (okX9_go l) cls_X9 yl_697 yl_698 yl_699 yl_75 yl_700 ⟨by decide, by decide, by decide +kernel⟩ ⟨by decide, by decide⟩ (x_vali (ys := [xs (i + 1)])) rfl rfl (Nat.le_of_ble_eq_true rfl) (x_oki (ys := [xs (i + 1)])) hσ (q_pair2 (G := (q_gGo (xs (i + 1)).toInt)) (F := (q_fGo (xs (i + 1)).toInt)) (q_k_go _) hI) hP hS hl.1 (fun v σ1 H locs hv hσ hP hS => ?_)
  refine lv_aload_n C.1 C.2.1 dL_456 rfl (lv_at hl 2 rfl) ?_
  refine x_f (j := 1) C hl hS (by omega) dL_457 dL_458 dL_459 dL_460 dL_461 ?_
  refine x_call C (as := [.inl (xs (i + 1)).toInt]) (As := [.int (xs (i + 1))]) (rest := [.int (Int32.ofInt v)]) (K := (fun w σ2 => w = v ∧ (q_R2 σ2 σ2 ∧ q_mok σ2))) (n := 1) (k0 := 89) (S := SX10_go) dL_462 (okX10_go l) cls_X10 yl_1223 yl_1224 yl_1225 yl_85 yl_1226 ⟨by decide, by decide, by decide +kernel⟩ ⟨by decide, by decide⟩ (x_vali (ys := [xs (i + 1)])) rfl rfl (Nat.le_of_ble_eq_true rfl) (x_oki (ys := [xs (i + 1)])) hσ hv hP hS hl.1 (fun w σ2 H locs hw hσ hP hS => ?_)
  obtain ⟨rfl, hI2⟩ := hw
  exact lv_icmp_eq C.1 C.2.1 dL_465 (tgt := 1146) (by decide) (fun _ => KK _ hI2 hσ H locs ls hP hS hl) (fun q => absurd rfl q)
set_option maxHeartbeats 2000000 in
theorem x_c_tree {p : Program} {l : Launch} {e : Env} {s : State} {m : MethodId} {below : List Frame} {meth : Method} {c : Code} {Q : State → Prop} {D : va_G} {cA : Nat → ClassId} {ad : Nat → Nat} {b L : Nat} {xs : Nat → Int32} {i : Nat} {σ : zM} (C : x_C p s m c D cA ad b L xs) (hI : q_R2 σ σ ∧ q_mok σ) (hi : i + 7 ≤ L) (hσ : z_okm σ) (KK : ∀ σ2 : zM, (q_R2 σ2 σ2 ∧ q_mok σ2) → z_okm σ2 → x_X p l e s m below meth c Q D cA ad b 1146 i σ2) : x_X p l e s m below meth c Q D cA ad b 470 i σ := by
  intro H locs ls hP hS hl
  refine lv_aload_n C.1 C.2.1 dL_470 rfl (lv_at hl 1 rfl) ?_
  refine x_f (j := 1) C hl hS (by omega) dL_471 dL_472 dL_473 dL_474 dL_475 ?_
  refine x_f (j := 2) C hl hS (by omega) dL_476 dL_477 dL_478 dL_479 dL_480 ?_
  refine x_call C (as := [.inl (xs (i + 1)).toInt, .inl (xs (i + 2)).toInt]) (As := [.int (xs (i + 1)), .int (xs (i + 2))]) (rest := []) (K := (fun v σ1 => q_S10 (q_gTree (xs (i + 1)).toInt (xs (i + 2)).toInt) q_fId σ1 (fun r σ2 => ∃ w, r = some (.inl w) ∧ w = v ∧ (q_R2 σ2 σ2 ∧ q_mok σ2)))) (n := 2) (k0 := 0) (S := SX9_tree) dL_481 (okX9_tree l) cls_X9 yl_710 yl_711 yl_712 yl_75 yl_713 ⟨by decide, by decide, by decide +kernel⟩ ⟨by decide, by decide⟩ (x_vali (ys := [xs (i + 1), xs (i + 2)])) rfl rfl (Nat.le_of_ble_eq_true rfl) (x_oki (ys := [xs (i + 1), xs (i + 2)])) hσ (q_pair2 (G := (q_gTree (xs (i + 1)).toInt (xs (i + 2)).toInt)) (F := q_fId) (q_k_id) hI) hP hS hl.1 (fun v σ1 H locs hv hσ hP hS => ?_)
  refine lv_aload_n C.1 C.2.1 dL_484 rfl (lv_at hl 2 rfl) ?_
  refine x_f (j := 1) C hl hS (by omega) dL_485 dL_486 dL_487 dL_488 dL_489 ?_
  refine x_f (j := 2) C hl hS (by omega) dL_490 dL_491 dL_492 dL_493 dL_494 ?_
  refine x_call C (as := [.inl (xs (i + 1)).toInt, .inl (xs (i + 2)).toInt]) (As := [.int (xs (i + 1)), .int (xs (i + 2))]) (rest := [.int (Int32.ofInt v)]) (K := (fun w σ2 => w = v ∧ (q_R2 σ2 σ2 ∧ q_mok σ2))) (n := 2) (k0 := 89) (S := SX10_tree) dL_495 (okX10_tree l) cls_X10 yl_1240 yl_1241 yl_1242 yl_85 yl_1243 ⟨by decide, by decide, by decide +kernel⟩ ⟨by decide, by decide⟩ (x_vali (ys := [xs (i + 1), xs (i + 2)])) rfl rfl (Nat.le_of_ble_eq_true rfl) (x_oki (ys := [xs (i + 1), xs (i + 2)])) hσ hv hP hS hl.1 (fun w σ2 H locs hw hσ hP hS => ?_)
  obtain ⟨rfl, hI2⟩ := hw
  exact lv_icmp_eq C.1 C.2.1 dL_498 (tgt := 1146) (by decide) (fun _ => KK _ hI2 hσ H locs ls hP hS hl) (fun q => absurd rfl q)
set_option maxHeartbeats 2000000 in
theorem x_c_sound {p : Program} {l : Launch} {e : Env} {s : State} {m : MethodId} {below : List Frame} {meth : Method} {c : Code} {Q : State → Prop} {D : va_G} {cA : Nat → ClassId} {ad : Nat → Nat} {b L : Nat} {xs : Nat → Int32} {i : Nat} {σ : zM} (C : x_C p s m c D cA ad b L xs) (hI : q_R2 σ σ ∧ q_mok σ) (hi : i + 7 ≤ L) (hσ : z_okm σ) (KK : ∀ σ2 : zM, (q_R2 σ2 σ2 ∧ q_mok σ2) → z_okm σ2 → x_X p l e s m below meth c Q D cA ad b 1146 i σ2) : x_X p l e s m below meth c Q D cA ad b 503 i σ := by
  intro H locs ls hP hS hl
  refine lv_aload_n C.1 C.2.1 dL_503 rfl (lv_at hl 1 rfl) ?_
  refine x_f (j := 1) C hl hS (by omega) dL_504 dL_505 dL_506 dL_507 dL_508 ?_
  refine x_f (j := 2) C hl hS (by omega) dL_509 dL_510 dL_511 dL_512 dL_513 ?_
  refine x_call C (as := [.inl (xs (i + 1)).toInt, .inl (xs (i + 2)).toInt]) (As := [.int (xs (i + 1)), .int (xs (i + 2))]) (rest := []) (K := (fun v σ1 => q_S10 (q_gSound (xs (i + 1)).toInt (xs (i + 2)).toInt) q_fId σ1 (fun r σ2 => ∃ w, r = some (.inl w) ∧ w = v ∧ (q_R2 σ2 σ2 ∧ q_mok σ2)))) (n := 2) (k0 := 0) (S := SX9_sound) dL_514 (okX9_sound l) cls_X9 yl_722 yl_723 yl_724 yl_75 yl_725 ⟨by decide, by decide, by decide +kernel⟩ ⟨by decide, by decide⟩ (x_vali (ys := [xs (i + 1), xs (i + 2)])) rfl rfl (Nat.le_of_ble_eq_true rfl) (x_oki (ys := [xs (i + 1), xs (i + 2)])) hσ (q_pair2 (G := (q_gSound (xs (i + 1)).toInt (xs (i + 2)).toInt)) (F := q_fId) (q_k_id) hI) hP hS hl.1 (fun v σ1 H locs hv hσ hP hS => ?_)
  refine lv_aload_n C.1 C.2.1 dL_517 rfl (lv_at hl 2 rfl) ?_
  refine x_f (j := 1) C hl hS (by omega) dL_518 dL_519 dL_520 dL_521 dL_522 ?_
  refine x_f (j := 2) C hl hS (by omega) dL_523 dL_524 dL_525 dL_526 dL_527 ?_
  refine x_call C (as := [.inl (xs (i + 1)).toInt, .inl (xs (i + 2)).toInt]) (As := [.int (xs (i + 1)), .int (xs (i + 2))]) (rest := [.int (Int32.ofInt v)]) (K := (fun w σ2 => w = v ∧ (q_R2 σ2 σ2 ∧ q_mok σ2))) (n := 2) (k0 := 89) (S := SX10_sound) dL_528 (okX10_sound l) cls_X10 yl_1253 yl_1254 yl_1255 yl_85 yl_1256 ⟨by decide, by decide, by decide +kernel⟩ ⟨by decide, by decide⟩ (x_vali (ys := [xs (i + 1), xs (i + 2)])) rfl rfl (Nat.le_of_ble_eq_true rfl) (x_oki (ys := [xs (i + 1), xs (i + 2)])) hσ hv hP hS hl.1 (fun w σ2 H locs hw hσ hP hS => ?_)
  obtain ⟨rfl, hI2⟩ := hw
  exact lv_icmp_eq C.1 C.2.1 dL_531 (tgt := 1146) (by decide) (fun _ => KK _ hI2 hσ H locs ls hP hS hl) (fun q => absurd rfl q)
set_option maxHeartbeats 2000000 in
theorem x_c_slips {p : Program} {l : Launch} {e : Env} {s : State} {m : MethodId} {below : List Frame} {meth : Method} {c : Code} {Q : State → Prop} {D : va_G} {cA : Nat → ClassId} {ad : Nat → Nat} {b L : Nat} {xs : Nat → Int32} {i : Nat} {σ : zM} (C : x_C p s m c D cA ad b L xs) (hI : q_R2 σ σ ∧ q_mok σ) (hi : i + 7 ≤ L) (hσ : z_okm σ) (KK : ∀ σ2 : zM, (q_R2 σ2 σ2 ∧ q_mok σ2) → z_okm σ2 → x_X p l e s m below meth c Q D cA ad b 1146 i σ2) : x_X p l e s m below meth c Q D cA ad b 536 i σ := by
  intro H locs ls hP hS hl
  refine lv_aload_n C.1 C.2.1 dL_536 rfl (lv_at hl 1 rfl) ?_
  refine x_f (j := 1) C hl hS (by omega) dL_537 dL_538 dL_539 dL_540 dL_541 ?_
  refine x_f (j := 2) C hl hS (by omega) dL_542 dL_543 dL_544 dL_545 dL_546 ?_
  refine x_call C (as := [.inl (xs (i + 1)).toInt, .inl (xs (i + 2)).toInt]) (As := [.int (xs (i + 1)), .int (xs (i + 2))]) (rest := []) (K := (fun v σ1 => q_S10 (q_gSlips (xs (i + 1)).toInt (xs (i + 2)).toInt) q_fId σ1 (fun r σ2 => ∃ w, r = some (.inl w) ∧ w = v ∧ (q_R2 σ2 σ2 ∧ q_mok σ2)))) (n := 2) (k0 := 0) (S := SX9_slips) dL_547 (okX9_slips l) cls_X9 yl_744 yl_745 yl_746 yl_75 yl_747 ⟨by decide, by decide, by decide +kernel⟩ ⟨by decide, by decide⟩ (x_vali (ys := [xs (i + 1), xs (i + 2)])) rfl rfl (Nat.le_of_ble_eq_true rfl) (x_oki (ys := [xs (i + 1), xs (i + 2)])) hσ (q_pair2 (G := (q_gSlips (xs (i + 1)).toInt (xs (i + 2)).toInt)) (F := q_fId) (q_k_id) hI) hP hS hl.1 (fun v σ1 H locs hv hσ hP hS => ?_)
  refine lv_aload_n C.1 C.2.1 dL_550 rfl (lv_at hl 2 rfl) ?_
  refine x_f (j := 1) C hl hS (by omega) dL_551 dL_552 dL_553 dL_554 dL_555 ?_
  refine x_f (j := 2) C hl hS (by omega) dL_556 dL_557 dL_558 dL_559 dL_560 ?_
  refine x_call C (as := [.inl (xs (i + 1)).toInt, .inl (xs (i + 2)).toInt]) (As := [.int (xs (i + 1)), .int (xs (i + 2))]) (rest := [.int (Int32.ofInt v)]) (K := (fun w σ2 => w = v ∧ (q_R2 σ2 σ2 ∧ q_mok σ2))) (n := 2) (k0 := 89) (S := SX10_slips) dL_561 (okX10_slips l) cls_X10 yl_1269 yl_1270 yl_1271 yl_85 yl_1272 ⟨by decide, by decide, by decide +kernel⟩ ⟨by decide, by decide⟩ (x_vali (ys := [xs (i + 1), xs (i + 2)])) rfl rfl (Nat.le_of_ble_eq_true rfl) (x_oki (ys := [xs (i + 1), xs (i + 2)])) hσ hv hP hS hl.1 (fun w σ2 H locs hw hσ hP hS => ?_)
  obtain ⟨rfl, hI2⟩ := hw
  exact lv_icmp_eq C.1 C.2.1 dL_564 (tgt := 1146) (by decide) (fun _ => KK _ hI2 hσ H locs ls hP hS hl) (fun q => absurd rfl q)
set_option maxHeartbeats 2000000 in
theorem x_c_cheapest {p : Program} {l : Launch} {e : Env} {s : State} {m : MethodId} {below : List Frame} {meth : Method} {c : Code} {Q : State → Prop} {D : va_G} {cA : Nat → ClassId} {ad : Nat → Nat} {b L : Nat} {xs : Nat → Int32} {i : Nat} {σ : zM} (C : x_C p s m c D cA ad b L xs) (hI : q_R2 σ σ ∧ q_mok σ) (hi : i + 7 ≤ L) (hσ : z_okm σ) (KK : ∀ σ2 : zM, (q_R2 σ2 σ2 ∧ q_mok σ2) → z_okm σ2 → x_X p l e s m below meth c Q D cA ad b 1146 i σ2) : x_X p l e s m below meth c Q D cA ad b 569 i σ := by
  intro H locs ls hP hS hl
  refine lv_aload_n C.1 C.2.1 dL_569 rfl (lv_at hl 1 rfl) ?_
  refine x_f (j := 1) C hl hS (by omega) dL_570 dL_571 dL_572 dL_573 dL_574 ?_
  refine x_f (j := 2) C hl hS (by omega) dL_575 dL_576 dL_577 dL_578 dL_579 ?_
  refine x_f (j := 3) C hl hS (by omega) dL_580 dL_581 dL_582 dL_583 dL_584 ?_
  refine x_f (j := 4) C hl hS (by omega) dL_585 dL_586 dL_587 dL_588 dL_589 ?_
  refine x_f (j := 5) C hl hS (by omega) dL_590 dL_591 dL_592 dL_593 dL_594 ?_
  refine x_f6 C hl hS (by omega) dL_595 dL_596 dL_597 dL_599 dL_600 ?_
  refine x_call C (as := [.inl (xs (i + 1)).toInt, .inl (xs (i + 2)).toInt, .inl (xs (i + 3)).toInt, .inl (xs (i + 4)).toInt, .inl (xs (i + 5)).toInt, .inl (xs (i + 6)).toInt]) (As := [.int (xs (i + 1)), .int (xs (i + 2)), .int (xs (i + 3)), .int (xs (i + 4)), .int (xs (i + 5)), .int (xs (i + 6))]) (rest := []) (K := (fun v σ1 => q_S10 (q_gCheapest (xs (i + 1)).toInt (xs (i + 2)).toInt (xs (i + 3)).toInt (xs (i + 4)).toInt (xs (i + 5)).toInt (xs (i + 6)).toInt) q_fId σ1 (fun r σ2 => ∃ w, r = some (.inl w) ∧ w = v ∧ (q_R2 σ2 σ2 ∧ q_mok σ2)))) (n := 6) (k0 := 0) (S := SX9_cheapest) dL_601 (okX9_cheapest l) cls_X9 yl_766 yl_767 yl_768 yl_75 yl_769 ⟨by decide, by decide, by decide +kernel⟩ ⟨by decide, by decide⟩ (x_vali (ys := [xs (i + 1), xs (i + 2), xs (i + 3), xs (i + 4), xs (i + 5), xs (i + 6)])) rfl rfl (Nat.le_of_ble_eq_true rfl) (x_oki (ys := [xs (i + 1), xs (i + 2), xs (i + 3), xs (i + 4), xs (i + 5), xs (i + 6)])) hσ (q_pair2 (G := (q_gCheapest (xs (i + 1)).toInt (xs (i + 2)).toInt (xs (i + 3)).toInt (xs (i + 4)).toInt (xs (i + 5)).toInt (xs (i + 6)).toInt)) (F := q_fId) (q_k_id) hI) hP hS hl.1 (fun v σ1 H locs hv hσ hP hS => ?_)
  refine lv_aload_n C.1 C.2.1 dL_604 rfl (lv_at hl 2 rfl) ?_
  refine x_f (j := 1) C hl hS (by omega) dL_605 dL_606 dL_607 dL_608 dL_609 ?_
  refine x_f (j := 2) C hl hS (by omega) dL_610 dL_611 dL_612 dL_613 dL_614 ?_
  refine x_f (j := 3) C hl hS (by omega) dL_615 dL_616 dL_617 dL_618 dL_619 ?_
  refine x_f (j := 4) C hl hS (by omega) dL_620 dL_621 dL_622 dL_623 dL_624 ?_
  refine x_f (j := 5) C hl hS (by omega) dL_625 dL_626 dL_627 dL_628 dL_629 ?_
  refine x_f6 C hl hS (by omega) dL_630 dL_631 dL_632 dL_634 dL_635 ?_
  refine x_call C (as := [.inl (xs (i + 1)).toInt, .inl (xs (i + 2)).toInt, .inl (xs (i + 3)).toInt, .inl (xs (i + 4)).toInt, .inl (xs (i + 5)).toInt, .inl (xs (i + 6)).toInt]) (As := [.int (xs (i + 1)), .int (xs (i + 2)), .int (xs (i + 3)), .int (xs (i + 4)), .int (xs (i + 5)), .int (xs (i + 6))]) (rest := [.int (Int32.ofInt v)]) (K := (fun w σ2 => w = v ∧ (q_R2 σ2 σ2 ∧ q_mok σ2))) (n := 6) (k0 := 89) (S := SX10_cheapest) dL_636 (okX10_cheapest l) cls_X10 yl_1291 yl_1292 yl_1293 yl_85 yl_1294 ⟨by decide, by decide, by decide +kernel⟩ ⟨by decide, by decide⟩ (x_vali (ys := [xs (i + 1), xs (i + 2), xs (i + 3), xs (i + 4), xs (i + 5), xs (i + 6)])) rfl rfl (Nat.le_of_ble_eq_true rfl) (x_oki (ys := [xs (i + 1), xs (i + 2), xs (i + 3), xs (i + 4), xs (i + 5), xs (i + 6)])) hσ hv hP hS hl.1 (fun w σ2 H locs hw hσ hP hS => ?_)
  obtain ⟨rfl, hI2⟩ := hw
  exact lv_icmp_eq C.1 C.2.1 dL_639 (tgt := 1146) (by decide) (fun _ => KK _ hI2 hσ H locs ls hP hS hl) (fun q => absurd rfl q)
set_option maxHeartbeats 2000000 in
theorem x_c_tuned {p : Program} {l : Launch} {e : Env} {s : State} {m : MethodId} {below : List Frame} {meth : Method} {c : Code} {Q : State → Prop} {D : va_G} {cA : Nat → ClassId} {ad : Nat → Nat} {b L : Nat} {xs : Nat → Int32} {i : Nat} {σ : zM} (C : x_C p s m c D cA ad b L xs) (hI : q_R2 σ σ ∧ q_mok σ) (hi : i + 7 ≤ L) (hσ : z_okm σ) (KK : ∀ σ2 : zM, (q_R2 σ2 σ2 ∧ q_mok σ2) → z_okm σ2 → x_X p l e s m below meth c Q D cA ad b 1146 i σ2) : x_X p l e s m below meth c Q D cA ad b 644 i σ := by
  intro H locs ls hP hS hl
  refine lv_aload_n C.1 C.2.1 dL_644 rfl (lv_at hl 1 rfl) ?_
  refine x_f (j := 1) C hl hS (by omega) dL_645 dL_646 dL_647 dL_648 dL_649 ?_
  refine x_f (j := 2) C hl hS (by omega) dL_650 dL_651 dL_652 dL_653 dL_654 ?_
  refine x_f (j := 3) C hl hS (by omega) dL_655 dL_656 dL_657 dL_658 dL_659 ?_
  refine x_call C (as := [.inl (xs (i + 1)).toInt, .inl (xs (i + 2)).toInt, .inl (xs (i + 3)).toInt]) (As := [.int (xs (i + 1)), .int (xs (i + 2)), .int (xs (i + 3))]) (rest := []) (K := (fun v σ1 => q_S10 (q_gTuned (xs (i + 1)).toInt (xs (i + 2)).toInt (xs (i + 3)).toInt) q_fId σ1 (fun r σ2 => ∃ w, r = some (.inl w) ∧ w = v ∧ (q_R2 σ2 σ2 ∧ q_mok σ2)))) (n := 3) (k0 := 0) (S := SX9_tuned) dL_660 (okX9_tuned l) cls_X9 yl_797 yl_798 yl_799 yl_75 yl_800 ⟨by decide, by decide, by decide +kernel⟩ ⟨by decide, by decide⟩ (x_vali (ys := [xs (i + 1), xs (i + 2), xs (i + 3)])) rfl rfl (Nat.le_of_ble_eq_true rfl) (x_oki (ys := [xs (i + 1), xs (i + 2), xs (i + 3)])) hσ (q_pair2 (G := (q_gTuned (xs (i + 1)).toInt (xs (i + 2)).toInt (xs (i + 3)).toInt)) (F := q_fId) (q_k_id) hI) hP hS hl.1 (fun v σ1 H locs hv hσ hP hS => ?_)
  refine lv_aload_n C.1 C.2.1 dL_663 rfl (lv_at hl 2 rfl) ?_
  refine x_f (j := 1) C hl hS (by omega) dL_664 dL_665 dL_666 dL_667 dL_668 ?_
  refine x_f (j := 2) C hl hS (by omega) dL_669 dL_670 dL_671 dL_672 dL_673 ?_
  refine x_f (j := 3) C hl hS (by omega) dL_674 dL_675 dL_676 dL_677 dL_678 ?_
  refine x_call C (as := [.inl (xs (i + 1)).toInt, .inl (xs (i + 2)).toInt, .inl (xs (i + 3)).toInt]) (As := [.int (xs (i + 1)), .int (xs (i + 2)), .int (xs (i + 3))]) (rest := [.int (Int32.ofInt v)]) (K := (fun w σ2 => w = v ∧ (q_R2 σ2 σ2 ∧ q_mok σ2))) (n := 3) (k0 := 89) (S := SX10_tuned) dL_679 (okX10_tuned l) cls_X10 yl_1303 yl_1304 yl_1305 yl_85 yl_1306 ⟨by decide, by decide, by decide +kernel⟩ ⟨by decide, by decide⟩ (x_vali (ys := [xs (i + 1), xs (i + 2), xs (i + 3)])) rfl rfl (Nat.le_of_ble_eq_true rfl) (x_oki (ys := [xs (i + 1), xs (i + 2), xs (i + 3)])) hσ hv hP hS hl.1 (fun w σ2 H locs hw hσ hP hS => ?_)
  obtain ⟨rfl, hI2⟩ := hw
  exact lv_icmp_eq C.1 C.2.1 dL_682 (tgt := 1146) (by decide) (fun _ => KK _ hI2 hσ H locs ls hP hS hl) (fun q => absurd rfl q)
set_option maxHeartbeats 2000000 in
theorem x_c_plays {p : Program} {l : Launch} {e : Env} {s : State} {m : MethodId} {below : List Frame} {meth : Method} {c : Code} {Q : State → Prop} {D : va_G} {cA : Nat → ClassId} {ad : Nat → Nat} {b L : Nat} {xs : Nat → Int32} {i : Nat} {σ : zM} (C : x_C p s m c D cA ad b L xs) (hI : q_R2 σ σ ∧ q_mok σ) (hi : i + 7 ≤ L) (hσ : z_okm σ) (KK : ∀ σ2 : zM, (q_R2 σ2 σ2 ∧ q_mok σ2) → z_okm σ2 → x_X p l e s m below meth c Q D cA ad b 1146 i σ2) : x_X p l e s m below meth c Q D cA ad b 687 i σ := by
  intro H locs ls hP hS hl
  refine lv_aload_n C.1 C.2.1 dL_687 rfl (lv_at hl 1 rfl) ?_
  refine x_f (j := 1) C hl hS (by omega) dL_688 dL_689 dL_690 dL_691 dL_692 ?_
  refine x_f (j := 2) C hl hS (by omega) dL_693 dL_694 dL_695 dL_696 dL_697 ?_
  refine x_f (j := 3) C hl hS (by omega) dL_698 dL_699 dL_700 dL_701 dL_702 ?_
  refine x_call C (as := [.inl (xs (i + 1)).toInt, .inl (xs (i + 2)).toInt, .inl (xs (i + 3)).toInt]) (As := [.int (xs (i + 1)), .int (xs (i + 2)), .int (xs (i + 3))]) (rest := []) (K := (fun v σ1 => q_S10 (q_gPlays (xs (i + 1)).toInt (xs (i + 2)).toInt (xs (i + 3)).toInt) q_fId σ1 (fun r σ2 => ∃ w, r = some (.inl w) ∧ w = v ∧ (q_R2 σ2 σ2 ∧ q_mok σ2)))) (n := 3) (k0 := 0) (S := SX9_plays) dL_703 (okX9_plays l) cls_X9 yl_801 yl_802 yl_803 yl_75 yl_804 ⟨by decide, by decide, by decide +kernel⟩ ⟨by decide, by decide⟩ (x_vali (ys := [xs (i + 1), xs (i + 2), xs (i + 3)])) rfl rfl (Nat.le_of_ble_eq_true rfl) (x_oki (ys := [xs (i + 1), xs (i + 2), xs (i + 3)])) hσ (q_pair2 (G := (q_gPlays (xs (i + 1)).toInt (xs (i + 2)).toInt (xs (i + 3)).toInt)) (F := q_fId) (q_k_id) hI) hP hS hl.1 (fun v σ1 H locs hv hσ hP hS => ?_)
  refine lv_aload_n C.1 C.2.1 dL_706 rfl (lv_at hl 2 rfl) ?_
  refine x_f (j := 1) C hl hS (by omega) dL_707 dL_708 dL_709 dL_710 dL_711 ?_
  refine x_f (j := 2) C hl hS (by omega) dL_712 dL_713 dL_714 dL_715 dL_716 ?_
  refine x_f (j := 3) C hl hS (by omega) dL_717 dL_718 dL_719 dL_720 dL_721 ?_
  refine x_call C (as := [.inl (xs (i + 1)).toInt, .inl (xs (i + 2)).toInt, .inl (xs (i + 3)).toInt]) (As := [.int (xs (i + 1)), .int (xs (i + 2)), .int (xs (i + 3))]) (rest := [.int (Int32.ofInt v)]) (K := (fun w σ2 => w = v ∧ (q_R2 σ2 σ2 ∧ q_mok σ2))) (n := 3) (k0 := 89) (S := SX10_plays) dL_722 (okX10_plays l) cls_X10 yl_1307 yl_1308 yl_1309 yl_85 yl_1310 ⟨by decide, by decide, by decide +kernel⟩ ⟨by decide, by decide⟩ (x_vali (ys := [xs (i + 1), xs (i + 2), xs (i + 3)])) rfl rfl (Nat.le_of_ble_eq_true rfl) (x_oki (ys := [xs (i + 1), xs (i + 2), xs (i + 3)])) hσ hv hP hS hl.1 (fun w σ2 H locs hw hσ hP hS => ?_)
  obtain ⟨rfl, hI2⟩ := hw
  exact lv_icmp_eq C.1 C.2.1 dL_725 (tgt := 1146) (by decide) (fun _ => KK _ hI2 hσ H locs ls hP hS hl) (fun q => absurd rfl q)
set_option maxHeartbeats 2000000 in
theorem x_c_buzz {p : Program} {l : Launch} {e : Env} {s : State} {m : MethodId} {below : List Frame} {meth : Method} {c : Code} {Q : State → Prop} {D : va_G} {cA : Nat → ClassId} {ad : Nat → Nat} {b L : Nat} {xs : Nat → Int32} {i : Nat} {σ : zM} (C : x_C p s m c D cA ad b L xs) (hI : q_R2 σ σ ∧ q_mok σ) (hi : i + 7 ≤ L) (hσ : z_okm σ) (KK : ∀ σ2 : zM, (q_R2 σ2 σ2 ∧ q_mok σ2) → z_okm σ2 → x_X p l e s m below meth c Q D cA ad b 1146 i σ2) : x_X p l e s m below meth c Q D cA ad b 730 i σ := by
  intro H locs ls hP hS hl
  refine lv_aload_n C.1 C.2.1 dL_730 rfl (lv_at hl 1 rfl) ?_
  refine x_f (j := 1) C hl hS (by omega) dL_731 dL_732 dL_733 dL_734 dL_735 ?_
  refine x_call C (as := [.inl (xs (i + 1)).toInt]) (As := [.int (xs (i + 1))]) (rest := []) (K := (fun v σ1 => q_S10 (q_gBuzz (xs (i + 1)).toInt) q_fId σ1 (fun r σ2 => ∃ w, r = some (.inl w) ∧ w = v ∧ (q_R2 σ2 σ2 ∧ q_mok σ2)))) (n := 1) (k0 := 0) (S := SX9_buzz) dL_736 (okX9_buzz l) cls_X9 yl_808 yl_809 yl_810 yl_75 yl_811 ⟨by decide, by decide, by decide +kernel⟩ ⟨by decide, by decide⟩ (x_vali (ys := [xs (i + 1)])) rfl rfl (Nat.le_of_ble_eq_true rfl) (x_oki (ys := [xs (i + 1)])) hσ (q_pair2 (G := (q_gBuzz (xs (i + 1)).toInt)) (F := q_fId) (q_k_id) hI) hP hS hl.1 (fun v σ1 H locs hv hσ hP hS => ?_)
  refine lv_aload_n C.1 C.2.1 dL_739 rfl (lv_at hl 2 rfl) ?_
  refine x_f (j := 1) C hl hS (by omega) dL_740 dL_741 dL_742 dL_743 dL_744 ?_
  refine x_call C (as := [.inl (xs (i + 1)).toInt]) (As := [.int (xs (i + 1))]) (rest := [.int (Int32.ofInt v)]) (K := (fun w σ2 => w = v ∧ (q_R2 σ2 σ2 ∧ q_mok σ2))) (n := 1) (k0 := 89) (S := SX10_buzz) dL_745 (okX10_buzz l) cls_X10 yl_1311 yl_1312 yl_1313 yl_85 yl_1314 ⟨by decide, by decide, by decide +kernel⟩ ⟨by decide, by decide⟩ (x_vali (ys := [xs (i + 1)])) rfl rfl (Nat.le_of_ble_eq_true rfl) (x_oki (ys := [xs (i + 1)])) hσ hv hP hS hl.1 (fun w σ2 H locs hw hσ hP hS => ?_)
  obtain ⟨rfl, hI2⟩ := hw
  exact lv_icmp_eq C.1 C.2.1 dL_748 (tgt := 1146) (by decide) (fun _ => KK _ hI2 hσ H locs ls hP hS hl) (fun q => absurd rfl q)
set_option maxHeartbeats 2000000 in
theorem x_c_birds {p : Program} {l : Launch} {e : Env} {s : State} {m : MethodId} {below : List Frame} {meth : Method} {c : Code} {Q : State → Prop} {D : va_G} {cA : Nat → ClassId} {ad : Nat → Nat} {b L : Nat} {xs : Nat → Int32} {i : Nat} {σ : zM} (C : x_C p s m c D cA ad b L xs) (hI : q_R2 σ σ ∧ q_mok σ) (hi : i + 7 ≤ L) (hσ : z_okm σ) (KK : ∀ σ2 : zM, (q_R2 σ2 σ2 ∧ q_mok σ2) → z_okm σ2 → x_X p l e s m below meth c Q D cA ad b 1146 i σ2) : x_X p l e s m below meth c Q D cA ad b 753 i σ := by
  intro H locs ls hP hS hl
  refine lv_aload_n C.1 C.2.1 dL_753 rfl (lv_at hl 1 rfl) ?_
  refine x_f (j := 1) C hl hS (by omega) dL_754 dL_755 dL_756 dL_757 dL_758 ?_
  refine x_f (j := 2) C hl hS (by omega) dL_759 dL_760 dL_761 dL_762 dL_763 ?_
  refine x_f (j := 3) C hl hS (by omega) dL_764 dL_765 dL_766 dL_767 dL_768 ?_
  refine x_f (j := 4) C hl hS (by omega) dL_769 dL_770 dL_771 dL_772 dL_773 ?_
  refine x_f (j := 5) C hl hS (by omega) dL_774 dL_775 dL_776 dL_777 dL_778 ?_
  refine x_call C (as := [.inl (xs (i + 1)).toInt, .inl (xs (i + 2)).toInt, .inl (xs (i + 3)).toInt, .inl (xs (i + 4)).toInt, .inl (xs (i + 5)).toInt]) (As := [.int (xs (i + 1)), .int (xs (i + 2)), .int (xs (i + 3)), .int (xs (i + 4)), .int (xs (i + 5))]) (rest := []) (K := (fun v σ1 => q_S10 (q_gBirds (xs (i + 1)).toInt (xs (i + 2)).toInt (xs (i + 3)).toInt (xs (i + 4)).toInt (xs (i + 5)).toInt) (q_fBirds (xs (i + 1)).toInt (xs (i + 2)).toInt (xs (i + 3)).toInt (xs (i + 4)).toInt (xs (i + 5)).toInt) σ1 (fun r σ2 => ∃ w, r = some (.inl w) ∧ w = v ∧ (q_R2 σ2 σ2 ∧ q_mok σ2)))) (n := 5) (k0 := 0) (S := SX9_birds) dL_779 (okX9_birds l) cls_X9 yl_816 yl_817 yl_818 yl_75 yl_819 ⟨by decide, by decide, by decide +kernel⟩ ⟨by decide, by decide⟩ (x_vali (ys := [xs (i + 1), xs (i + 2), xs (i + 3), xs (i + 4), xs (i + 5)])) rfl rfl (Nat.le_of_ble_eq_true rfl) (x_oki (ys := [xs (i + 1), xs (i + 2), xs (i + 3), xs (i + 4), xs (i + 5)])) hσ (q_pair2 (G := (q_gBirds (xs (i + 1)).toInt (xs (i + 2)).toInt (xs (i + 3)).toInt (xs (i + 4)).toInt (xs (i + 5)).toInt)) (F := (q_fBirds (xs (i + 1)).toInt (xs (i + 2)).toInt (xs (i + 3)).toInt (xs (i + 4)).toInt (xs (i + 5)).toInt)) (q_k_birds _ _ _ _ _) hI) hP hS hl.1 (fun v σ1 H locs hv hσ hP hS => ?_)
  refine lv_aload_n C.1 C.2.1 dL_782 rfl (lv_at hl 2 rfl) ?_
  refine x_f (j := 1) C hl hS (by omega) dL_783 dL_784 dL_785 dL_786 dL_787 ?_
  refine x_f (j := 2) C hl hS (by omega) dL_788 dL_789 dL_790 dL_791 dL_792 ?_
  refine x_f (j := 3) C hl hS (by omega) dL_793 dL_794 dL_795 dL_796 dL_797 ?_
  refine x_f (j := 4) C hl hS (by omega) dL_798 dL_799 dL_800 dL_801 dL_802 ?_
  refine x_f (j := 5) C hl hS (by omega) dL_803 dL_804 dL_805 dL_806 dL_807 ?_
  refine x_call C (as := [.inl (xs (i + 1)).toInt, .inl (xs (i + 2)).toInt, .inl (xs (i + 3)).toInt, .inl (xs (i + 4)).toInt, .inl (xs (i + 5)).toInt]) (As := [.int (xs (i + 1)), .int (xs (i + 2)), .int (xs (i + 3)), .int (xs (i + 4)), .int (xs (i + 5))]) (rest := [.int (Int32.ofInt v)]) (K := (fun w σ2 => w = v ∧ (q_R2 σ2 σ2 ∧ q_mok σ2))) (n := 5) (k0 := 89) (S := SX10_birds) dL_808 (okX10_birds l) cls_X10 yl_1319 yl_1320 yl_1321 yl_85 yl_1322 ⟨by decide, by decide, by decide +kernel⟩ ⟨by decide, by decide⟩ (x_vali (ys := [xs (i + 1), xs (i + 2), xs (i + 3), xs (i + 4), xs (i + 5)])) rfl rfl (Nat.le_of_ble_eq_true rfl) (x_oki (ys := [xs (i + 1), xs (i + 2), xs (i + 3), xs (i + 4), xs (i + 5)])) hσ hv hP hS hl.1 (fun w σ2 H locs hw hσ hP hS => ?_)
  obtain ⟨rfl, hI2⟩ := hw
  exact lv_icmp_eq C.1 C.2.1 dL_811 (tgt := 1146) (by decide) (fun _ => KK _ hI2 hσ H locs ls hP hS hl) (fun q => absurd rfl q)
set_option maxHeartbeats 2000000 in
theorem x_c_hung {p : Program} {l : Launch} {e : Env} {s : State} {m : MethodId} {below : List Frame} {meth : Method} {c : Code} {Q : State → Prop} {D : va_G} {cA : Nat → ClassId} {ad : Nat → Nat} {b L : Nat} {xs : Nat → Int32} {i : Nat} {σ : zM} (C : x_C p s m c D cA ad b L xs) (hI : q_R2 σ σ ∧ q_mok σ) (hi : i + 7 ≤ L) (hσ : z_okm σ) (KK : ∀ σ2 : zM, (q_R2 σ2 σ2 ∧ q_mok σ2) → z_okm σ2 → x_X p l e s m below meth c Q D cA ad b 1146 i σ2) : x_X p l e s m below meth c Q D cA ad b 816 i σ := by
  intro H locs ls hP hS hl
  refine lv_aload_n C.1 C.2.1 dL_816 rfl (lv_at hl 1 rfl) ?_
  refine x_f (j := 1) C hl hS (by omega) dL_817 dL_818 dL_819 dL_820 dL_821 ?_
  refine x_f (j := 2) C hl hS (by omega) dL_822 dL_823 dL_824 dL_825 dL_826 ?_
  refine x_f (j := 3) C hl hS (by omega) dL_827 dL_828 dL_829 dL_830 dL_831 ?_
  refine x_f (j := 4) C hl hS (by omega) dL_832 dL_833 dL_834 dL_835 dL_836 ?_
  refine x_call C (as := [.inl (xs (i + 1)).toInt, .inl (xs (i + 2)).toInt, .inl (xs (i + 3)).toInt, .inl (xs (i + 4)).toInt]) (As := [.int (xs (i + 1)), .int (xs (i + 2)), .int (xs (i + 3)), .int (xs (i + 4))]) (rest := []) (K := (fun v σ1 => q_S10 (q_gHung (xs (i + 1)).toInt (xs (i + 2)).toInt (xs (i + 3)).toInt (xs (i + 4)).toInt) q_fId σ1 (fun r σ2 => ∃ w, r = some (.inl w) ∧ w = v ∧ (q_R2 σ2 σ2 ∧ q_mok σ2)))) (n := 4) (k0 := 0) (S := SX9_hung) dL_837 (okX9_hung l) cls_X9 yl_829 yl_830 yl_831 yl_75 yl_832 ⟨by decide, by decide, by decide +kernel⟩ ⟨by decide, by decide⟩ (x_vali (ys := [xs (i + 1), xs (i + 2), xs (i + 3), xs (i + 4)])) rfl rfl (Nat.le_of_ble_eq_true rfl) (x_oki (ys := [xs (i + 1), xs (i + 2), xs (i + 3), xs (i + 4)])) hσ (q_pair2 (G := (q_gHung (xs (i + 1)).toInt (xs (i + 2)).toInt (xs (i + 3)).toInt (xs (i + 4)).toInt)) (F := q_fId) (q_k_id) hI) hP hS hl.1 (fun v σ1 H locs hv hσ hP hS => ?_)
  refine lv_aload_n C.1 C.2.1 dL_840 rfl (lv_at hl 2 rfl) ?_
  refine x_f (j := 1) C hl hS (by omega) dL_841 dL_842 dL_843 dL_844 dL_845 ?_
  refine x_f (j := 2) C hl hS (by omega) dL_846 dL_847 dL_848 dL_849 dL_850 ?_
  refine x_f (j := 3) C hl hS (by omega) dL_851 dL_852 dL_853 dL_854 dL_855 ?_
  refine x_f (j := 4) C hl hS (by omega) dL_856 dL_857 dL_858 dL_859 dL_860 ?_
  refine x_call C (as := [.inl (xs (i + 1)).toInt, .inl (xs (i + 2)).toInt, .inl (xs (i + 3)).toInt, .inl (xs (i + 4)).toInt]) (As := [.int (xs (i + 1)), .int (xs (i + 2)), .int (xs (i + 3)), .int (xs (i + 4))]) (rest := [.int (Int32.ofInt v)]) (K := (fun w σ2 => w = v ∧ (q_R2 σ2 σ2 ∧ q_mok σ2))) (n := 4) (k0 := 89) (S := SX10_hung) dL_861 (okX10_hung l) cls_X10 yl_1326 yl_1327 yl_1328 yl_85 yl_1329 ⟨by decide, by decide, by decide +kernel⟩ ⟨by decide, by decide⟩ (x_vali (ys := [xs (i + 1), xs (i + 2), xs (i + 3), xs (i + 4)])) rfl rfl (Nat.le_of_ble_eq_true rfl) (x_oki (ys := [xs (i + 1), xs (i + 2), xs (i + 3), xs (i + 4)])) hσ hv hP hS hl.1 (fun w σ2 H locs hw hσ hP hS => ?_)
  obtain ⟨rfl, hI2⟩ := hw
  exact lv_icmp_eq C.1 C.2.1 dL_864 (tgt := 1146) (by decide) (fun _ => KK _ hI2 hσ H locs ls hP hS hl) (fun q => absurd rfl q)
set_option maxHeartbeats 2000000 in
theorem x_c_missing {p : Program} {l : Launch} {e : Env} {s : State} {m : MethodId} {below : List Frame} {meth : Method} {c : Code} {Q : State → Prop} {D : va_G} {cA : Nat → ClassId} {ad : Nat → Nat} {b L : Nat} {xs : Nat → Int32} {i : Nat} {σ : zM} (C : x_C p s m c D cA ad b L xs) (hI : q_R2 σ σ ∧ q_mok σ) (hi : i + 7 ≤ L) (hσ : z_okm σ) (KK : ∀ σ2 : zM, (q_R2 σ2 σ2 ∧ q_mok σ2) → z_okm σ2 → x_X p l e s m below meth c Q D cA ad b 1146 i σ2) : x_X p l e s m below meth c Q D cA ad b 869 i σ := by
  intro H locs ls hP hS hl
  refine lv_aload_n C.1 C.2.1 dL_869 rfl (lv_at hl 1 rfl) ?_
  refine x_f (j := 1) C hl hS (by omega) dL_870 dL_871 dL_872 dL_873 dL_874 ?_
  refine x_f (j := 2) C hl hS (by omega) dL_875 dL_876 dL_877 dL_878 dL_879 ?_
  refine x_f (j := 3) C hl hS (by omega) dL_880 dL_881 dL_882 dL_883 dL_884 ?_
  refine x_f (j := 4) C hl hS (by omega) dL_885 dL_886 dL_887 dL_888 dL_889 ?_
  refine x_call C (as := [.inl (xs (i + 1)).toInt, .inl (xs (i + 2)).toInt, .inl (xs (i + 3)).toInt, .inl (xs (i + 4)).toInt]) (As := [.int (xs (i + 1)), .int (xs (i + 2)), .int (xs (i + 3)), .int (xs (i + 4))]) (rest := []) (K := (fun v σ1 => q_S10 (q_gMissing (xs (i + 1)).toInt (xs (i + 2)).toInt (xs (i + 3)).toInt (xs (i + 4)).toInt) (q_fMissing (xs (i + 1)).toInt (xs (i + 2)).toInt (xs (i + 3)).toInt (xs (i + 4)).toInt) σ1 (fun r σ2 => ∃ w, r = some (.inl w) ∧ w = v ∧ (q_R2 σ2 σ2 ∧ q_mok σ2)))) (n := 4) (k0 := 0) (S := SX9_missing) dL_890 (okX9_missing l) cls_X9 yl_835 yl_836 yl_837 yl_75 yl_838 ⟨by decide, by decide, by decide +kernel⟩ ⟨by decide, by decide⟩ (x_vali (ys := [xs (i + 1), xs (i + 2), xs (i + 3), xs (i + 4)])) rfl rfl (Nat.le_of_ble_eq_true rfl) (x_oki (ys := [xs (i + 1), xs (i + 2), xs (i + 3), xs (i + 4)])) hσ (q_pair2 (G := (q_gMissing (xs (i + 1)).toInt (xs (i + 2)).toInt (xs (i + 3)).toInt (xs (i + 4)).toInt)) (F := (q_fMissing (xs (i + 1)).toInt (xs (i + 2)).toInt (xs (i + 3)).toInt (xs (i + 4)).toInt)) (q_k_missing _ _ _ _) hI) hP hS hl.1 (fun v σ1 H locs hv hσ hP hS => ?_)
  refine lv_aload_n C.1 C.2.1 dL_893 rfl (lv_at hl 2 rfl) ?_
  refine x_f (j := 1) C hl hS (by omega) dL_894 dL_895 dL_896 dL_897 dL_898 ?_
  refine x_f (j := 2) C hl hS (by omega) dL_899 dL_900 dL_901 dL_902 dL_903 ?_
  refine x_f (j := 3) C hl hS (by omega) dL_904 dL_905 dL_906 dL_907 dL_908 ?_
  refine x_f (j := 4) C hl hS (by omega) dL_909 dL_910 dL_911 dL_912 dL_913 ?_
  refine x_call C (as := [.inl (xs (i + 1)).toInt, .inl (xs (i + 2)).toInt, .inl (xs (i + 3)).toInt, .inl (xs (i + 4)).toInt]) (As := [.int (xs (i + 1)), .int (xs (i + 2)), .int (xs (i + 3)), .int (xs (i + 4))]) (rest := [.int (Int32.ofInt v)]) (K := (fun w σ2 => w = v ∧ (q_R2 σ2 σ2 ∧ q_mok σ2))) (n := 4) (k0 := 89) (S := SX10_missing) dL_914 (okX10_missing l) cls_X10 yl_1332 yl_1333 yl_1334 yl_85 yl_1335 ⟨by decide, by decide, by decide +kernel⟩ ⟨by decide, by decide⟩ (x_vali (ys := [xs (i + 1), xs (i + 2), xs (i + 3), xs (i + 4)])) rfl rfl (Nat.le_of_ble_eq_true rfl) (x_oki (ys := [xs (i + 1), xs (i + 2), xs (i + 3), xs (i + 4)])) hσ hv hP hS hl.1 (fun w σ2 H locs hw hσ hP hS => ?_)
  obtain ⟨rfl, hI2⟩ := hw
  exact lv_icmp_eq C.1 C.2.1 dL_917 (tgt := 1146) (by decide) (fun _ => KK _ hI2 hσ H locs ls hP hS hl) (fun q => absurd rfl q)
set_option maxHeartbeats 2000000 in
theorem x_c_image {p : Program} {l : Launch} {e : Env} {s : State} {m : MethodId} {below : List Frame} {meth : Method} {c : Code} {Q : State → Prop} {D : va_G} {cA : Nat → ClassId} {ad : Nat → Nat} {b L : Nat} {xs : Nat → Int32} {i : Nat} {σ : zM} (C : x_C p s m c D cA ad b L xs) (hI : q_R2 σ σ ∧ q_mok σ) (hi : i + 7 ≤ L) (hσ : z_okm σ) (KK : ∀ σ2 : zM, (q_R2 σ2 σ2 ∧ q_mok σ2) → z_okm σ2 → x_X p l e s m below meth c Q D cA ad b 1146 i σ2) : x_X p l e s m below meth c Q D cA ad b 922 i σ := by
  intro H locs ls hP hS hl
  refine lv_aload_n C.1 C.2.1 dL_922 rfl (lv_at hl 1 rfl) ?_
  refine x_f (j := 1) C hl hS (by omega) dL_923 dL_924 dL_925 dL_926 dL_927 ?_
  refine x_call C (as := [.inl (xs (i + 1)).toInt]) (As := [.int (xs (i + 1))]) (rest := []) (K := (fun v σ1 => q_S10 (q_gImage (xs (i + 1)).toInt) (q_fImage (xs (i + 1)).toInt) σ1 (fun r σ2 => ∃ w, r = some (.inl w) ∧ w = v ∧ (q_R2 σ2 σ2 ∧ q_mok σ2)))) (n := 1) (k0 := 0) (S := SX9_image) dL_928 (okX9_image l) cls_X9 yl_858 yl_859 yl_860 yl_75 yl_861 ⟨by decide, by decide, by decide +kernel⟩ ⟨by decide, by decide⟩ (x_vali (ys := [xs (i + 1)])) rfl rfl (Nat.le_of_ble_eq_true rfl) (x_oki (ys := [xs (i + 1)])) hσ (q_pair2 (G := (q_gImage (xs (i + 1)).toInt)) (F := (q_fImage (xs (i + 1)).toInt)) (q_k_image _) hI) hP hS hl.1 (fun v σ1 H locs hv hσ hP hS => ?_)
  refine lv_aload_n C.1 C.2.1 dL_931 rfl (lv_at hl 2 rfl) ?_
  refine x_f (j := 1) C hl hS (by omega) dL_932 dL_933 dL_934 dL_935 dL_936 ?_
  refine x_call C (as := [.inl (xs (i + 1)).toInt]) (As := [.int (xs (i + 1))]) (rest := [.int (Int32.ofInt v)]) (K := (fun w σ2 => w = v ∧ (q_R2 σ2 σ2 ∧ q_mok σ2))) (n := 1) (k0 := 89) (S := SX10_image) dL_937 (okX10_image l) cls_X10 yl_1345 yl_1346 yl_1347 yl_85 yl_1348 ⟨by decide, by decide, by decide +kernel⟩ ⟨by decide, by decide⟩ (x_vali (ys := [xs (i + 1)])) rfl rfl (Nat.le_of_ble_eq_true rfl) (x_oki (ys := [xs (i + 1)])) hσ hv hP hS hl.1 (fun w σ2 H locs hw hσ hP hS => ?_)
  obtain ⟨rfl, hI2⟩ := hw
  exact lv_icmp_eq C.1 C.2.1 dL_940 (tgt := 1146) (by decide) (fun _ => KK _ hI2 hσ H locs ls hP hS hl) (fun q => absurd rfl q)
set_option maxHeartbeats 2000000 in
theorem x_c_restore {p : Program} {l : Launch} {e : Env} {s : State} {m : MethodId} {below : List Frame} {meth : Method} {c : Code} {Q : State → Prop} {D : va_G} {cA : Nat → ClassId} {ad : Nat → Nat} {b L : Nat} {xs : Nat → Int32} {i : Nat} {σ : zM} (C : x_C p s m c D cA ad b L xs) (hI : q_R2 σ σ ∧ q_mok σ) (hi : i + 7 ≤ L) (hσ : z_okm σ) (KK : ∀ σ2 : zM, (q_R2 σ2 σ2 ∧ q_mok σ2) → z_okm σ2 → x_X p l e s m below meth c Q D cA ad b 1146 i σ2) : x_X p l e s m below meth c Q D cA ad b 945 i σ := by
  intro H locs ls hP hS hl
  refine lv_aload_n C.1 C.2.1 dL_945 rfl (lv_at hl 1 rfl) ?_
  refine x_f (j := 1) C hl hS (by omega) dL_946 dL_947 dL_948 dL_949 dL_950 ?_
  refine x_call C (as := [.inl (xs (i + 1)).toInt]) (As := [.int (xs (i + 1))]) (rest := []) (K := (fun v σ1 => q_S10 (q_gRestore (xs (i + 1)).toInt) (q_fRestore (xs (i + 1)).toInt) σ1 (fun r σ2 => ∃ w, r = some (.inl w) ∧ w = v ∧ (q_R2 σ2 σ2 ∧ q_mok σ2)))) (n := 1) (k0 := 0) (S := SX9_restore) dL_951 (okX9_restore l) cls_X9 yl_866 yl_867 yl_868 yl_75 yl_869 ⟨by decide, by decide, by decide +kernel⟩ ⟨by decide, by decide⟩ (x_vali (ys := [xs (i + 1)])) rfl rfl (Nat.le_of_ble_eq_true rfl) (x_oki (ys := [xs (i + 1)])) hσ (q_pair2 (G := (q_gRestore (xs (i + 1)).toInt)) (F := (q_fRestore (xs (i + 1)).toInt)) (q_k_restore _) hI) hP hS hl.1 (fun v σ1 H locs hv hσ hP hS => ?_)
  refine lv_aload_n C.1 C.2.1 dL_954 rfl (lv_at hl 2 rfl) ?_
  refine x_f (j := 1) C hl hS (by omega) dL_955 dL_956 dL_957 dL_958 dL_959 ?_
  refine x_call C (as := [.inl (xs (i + 1)).toInt]) (As := [.int (xs (i + 1))]) (rest := [.int (Int32.ofInt v)]) (K := (fun w σ2 => w = v ∧ (q_R2 σ2 σ2 ∧ q_mok σ2))) (n := 1) (k0 := 89) (S := SX10_restore) dL_960 (okX10_restore l) cls_X10 yl_1349 yl_1350 yl_1351 yl_85 yl_1352 ⟨by decide, by decide, by decide +kernel⟩ ⟨by decide, by decide⟩ (x_vali (ys := [xs (i + 1)])) rfl rfl (Nat.le_of_ble_eq_true rfl) (x_oki (ys := [xs (i + 1)])) hσ hv hP hS hl.1 (fun w σ2 H locs hw hσ hP hS => ?_)
  obtain ⟨rfl, hI2⟩ := hw
  exact lv_icmp_eq C.1 C.2.1 dL_963 (tgt := 1146) (by decide) (fun _ => KK _ hI2 hσ H locs ls hP hS hl) (fun q => absurd rfl q)
set_option maxHeartbeats 2000000 in
theorem x_c_kind {p : Program} {l : Launch} {e : Env} {s : State} {m : MethodId} {below : List Frame} {meth : Method} {c : Code} {Q : State → Prop} {D : va_G} {cA : Nat → ClassId} {ad : Nat → Nat} {b L : Nat} {xs : Nat → Int32} {i : Nat} {σ : zM} (C : x_C p s m c D cA ad b L xs) (hI : q_R2 σ σ ∧ q_mok σ) (hi : i + 7 ≤ L) (hσ : z_okm σ) (KK : ∀ σ2 : zM, (q_R2 σ2 σ2 ∧ q_mok σ2) → z_okm σ2 → x_X p l e s m below meth c Q D cA ad b 1146 i σ2) : x_X p l e s m below meth c Q D cA ad b 968 i σ := by
  intro H locs ls hP hS hl
  refine lv_aload_n C.1 C.2.1 dL_968 rfl (lv_at hl 1 rfl) ?_
  refine x_f (j := 1) C hl hS (by omega) dL_969 dL_970 dL_971 dL_972 dL_973 ?_
  refine x_f (j := 2) C hl hS (by omega) dL_974 dL_975 dL_976 dL_977 dL_978 ?_
  refine x_call C (as := [.inl (xs (i + 1)).toInt, .inl (xs (i + 2)).toInt]) (As := [.int (xs (i + 1)), .int (xs (i + 2))]) (rest := []) (K := (fun v σ1 => q_S10 (q_gKind (xs (i + 1)).toInt (xs (i + 2)).toInt) q_fId σ1 (fun r σ2 => ∃ w, r = some (.inl w) ∧ w = v ∧ (q_R2 σ2 σ2 ∧ q_mok σ2)))) (n := 2) (k0 := 0) (S := SX9_kind) dL_979 (okX9_kind l) cls_X9 yl_870 yl_871 yl_872 yl_75 yl_873 ⟨by decide, by decide, by decide +kernel⟩ ⟨by decide, by decide⟩ (x_vali (ys := [xs (i + 1), xs (i + 2)])) rfl rfl (Nat.le_of_ble_eq_true rfl) (x_oki (ys := [xs (i + 1), xs (i + 2)])) hσ (q_pair2 (G := (q_gKind (xs (i + 1)).toInt (xs (i + 2)).toInt)) (F := q_fId) (q_k_id) hI) hP hS hl.1 (fun v σ1 H locs hv hσ hP hS => ?_)
  refine lv_aload_n C.1 C.2.1 dL_982 rfl (lv_at hl 2 rfl) ?_
  refine x_f (j := 1) C hl hS (by omega) dL_983 dL_984 dL_985 dL_986 dL_987 ?_
  refine x_f (j := 2) C hl hS (by omega) dL_988 dL_989 dL_990 dL_991 dL_992 ?_
  refine x_call C (as := [.inl (xs (i + 1)).toInt, .inl (xs (i + 2)).toInt]) (As := [.int (xs (i + 1)), .int (xs (i + 2))]) (rest := [.int (Int32.ofInt v)]) (K := (fun w σ2 => w = v ∧ (q_R2 σ2 σ2 ∧ q_mok σ2))) (n := 2) (k0 := 89) (S := SX10_kind) dL_993 (okX10_kind l) cls_X10 yl_1353 yl_1354 yl_1355 yl_85 yl_1356 ⟨by decide, by decide, by decide +kernel⟩ ⟨by decide, by decide⟩ (x_vali (ys := [xs (i + 1), xs (i + 2)])) rfl rfl (Nat.le_of_ble_eq_true rfl) (x_oki (ys := [xs (i + 1), xs (i + 2)])) hσ hv hP hS hl.1 (fun w σ2 H locs hw hσ hP hS => ?_)
  obtain ⟨rfl, hI2⟩ := hw
  exact lv_icmp_eq C.1 C.2.1 dL_996 (tgt := 1146) (by decide) (fun _ => KK _ hI2 hσ H locs ls hP hS hl) (fun q => absurd rfl q)
set_option maxHeartbeats 2000000 in
theorem x_c_as {p : Program} {l : Launch} {e : Env} {s : State} {m : MethodId} {below : List Frame} {meth : Method} {c : Code} {Q : State → Prop} {D : va_G} {cA : Nat → ClassId} {ad : Nat → Nat} {b L : Nat} {xs : Nat → Int32} {i : Nat} {σ : zM} (C : x_C p s m c D cA ad b L xs) (hI : q_R2 σ σ ∧ q_mok σ) (hi : i + 7 ≤ L) (hσ : z_okm σ) (KK : ∀ σ2 : zM, (q_R2 σ2 σ2 ∧ q_mok σ2) → z_okm σ2 → x_X p l e s m below meth c Q D cA ad b 1146 i σ2) : x_X p l e s m below meth c Q D cA ad b 1001 i σ := by
  intro H locs ls hP hS hl
  refine lv_aload_n C.1 C.2.1 dL_1001 rfl (lv_at hl 1 rfl) ?_
  refine x_f (j := 1) C hl hS (by omega) dL_1002 dL_1003 dL_1004 dL_1005 dL_1006 ?_
  refine x_f (j := 2) C hl hS (by omega) dL_1007 dL_1008 dL_1009 dL_1010 dL_1011 ?_
  refine x_f (j := 3) C hl hS (by omega) dL_1012 dL_1013 dL_1014 dL_1015 dL_1016 ?_
  refine x_call C (as := [.inl (xs (i + 1)).toInt, .inl (xs (i + 2)).toInt, .inl (xs (i + 3)).toInt]) (As := [.int (xs (i + 1)), .int (xs (i + 2)), .int (xs (i + 3))]) (rest := []) (K := (fun v σ1 => q_S10 (q_gAs (xs (i + 1)).toInt (xs (i + 2)).toInt (xs (i + 3)).toInt) (q_fAs (xs (i + 1)).toInt (xs (i + 2)).toInt (xs (i + 3)).toInt) σ1 (fun r σ2 => ∃ w, r = some (.inl w) ∧ w = v ∧ (q_R2 σ2 σ2 ∧ q_mok σ2)))) (n := 3) (k0 := 0) (S := SX9_as) dL_1017 (okX9_as l) cls_X9 yl_879 yl_880 yl_881 yl_75 yl_882 ⟨by decide, by decide, by decide +kernel⟩ ⟨by decide, by decide⟩ (x_vali (ys := [xs (i + 1), xs (i + 2), xs (i + 3)])) rfl rfl (Nat.le_of_ble_eq_true rfl) (x_oki (ys := [xs (i + 1), xs (i + 2), xs (i + 3)])) hσ (q_pair2 (G := (q_gAs (xs (i + 1)).toInt (xs (i + 2)).toInt (xs (i + 3)).toInt)) (F := (q_fAs (xs (i + 1)).toInt (xs (i + 2)).toInt (xs (i + 3)).toInt)) (q_k_as _ _ _) hI) hP hS hl.1 (fun v σ1 H locs hv hσ hP hS => ?_)
  refine lv_aload_n C.1 C.2.1 dL_1020 rfl (lv_at hl 2 rfl) ?_
  refine x_f (j := 1) C hl hS (by omega) dL_1021 dL_1022 dL_1023 dL_1024 dL_1025 ?_
  refine x_f (j := 2) C hl hS (by omega) dL_1026 dL_1027 dL_1028 dL_1029 dL_1030 ?_
  refine x_f (j := 3) C hl hS (by omega) dL_1031 dL_1032 dL_1033 dL_1034 dL_1035 ?_
  refine x_call C (as := [.inl (xs (i + 1)).toInt, .inl (xs (i + 2)).toInt, .inl (xs (i + 3)).toInt]) (As := [.int (xs (i + 1)), .int (xs (i + 2)), .int (xs (i + 3))]) (rest := [.int (Int32.ofInt v)]) (K := (fun w σ2 => w = v ∧ (q_R2 σ2 σ2 ∧ q_mok σ2))) (n := 3) (k0 := 89) (S := SX10_as) dL_1036 (okX10_as l) cls_X10 yl_1361 yl_1362 yl_1363 yl_85 yl_1364 ⟨by decide, by decide, by decide +kernel⟩ ⟨by decide, by decide⟩ (x_vali (ys := [xs (i + 1), xs (i + 2), xs (i + 3)])) rfl rfl (Nat.le_of_ble_eq_true rfl) (x_oki (ys := [xs (i + 1), xs (i + 2), xs (i + 3)])) hσ hv hP hS hl.1 (fun w σ2 H locs hw hσ hP hS => ?_)
  obtain ⟨rfl, hI2⟩ := hw
  exact lv_icmp_eq C.1 C.2.1 dL_1039 (tgt := 1146) (by decide) (fun _ => KK _ hI2 hσ H locs ls hP hS hl) (fun q => absurd rfl q)
set_option maxHeartbeats 2000000 in
theorem x_c_ask {p : Program} {l : Launch} {e : Env} {s : State} {m : MethodId} {below : List Frame} {meth : Method} {c : Code} {Q : State → Prop} {D : va_G} {cA : Nat → ClassId} {ad : Nat → Nat} {b L : Nat} {xs : Nat → Int32} {i : Nat} {σ : zM} (C : x_C p s m c D cA ad b L xs) (hI : q_R2 σ σ ∧ q_mok σ) (hi : i + 7 ≤ L) (hσ : z_okm σ) (KK : ∀ σ2 : zM, (q_R2 σ2 σ2 ∧ q_mok σ2) → z_okm σ2 → x_X p l e s m below meth c Q D cA ad b 1146 i σ2) : x_X p l e s m below meth c Q D cA ad b 1044 i σ := by
  intro H locs ls hP hS hl
  refine lv_aload_n C.1 C.2.1 dL_1044 rfl (lv_at hl 1 rfl) ?_
  refine x_f (j := 1) C hl hS (by omega) dL_1045 dL_1046 dL_1047 dL_1048 dL_1049 ?_
  refine x_f (j := 2) C hl hS (by omega) dL_1050 dL_1051 dL_1052 dL_1053 dL_1054 ?_
  refine x_f (j := 3) C hl hS (by omega) dL_1055 dL_1056 dL_1057 dL_1058 dL_1059 ?_
  refine x_call C (as := [.inl (xs (i + 1)).toInt, .inl (xs (i + 2)).toInt, .inl (xs (i + 3)).toInt]) (As := [.int (xs (i + 1)), .int (xs (i + 2)), .int (xs (i + 3))]) (rest := []) (K := (fun v σ1 => q_S10 (q_gAsk (xs (i + 1)).toInt (xs (i + 2)).toInt (xs (i + 3)).toInt) (q_fAsk (xs (i + 1)).toInt (xs (i + 2)).toInt (xs (i + 3)).toInt) σ1 (fun r σ2 => ∃ w, r = some (.inl w) ∧ w = v ∧ (q_R2 σ2 σ2 ∧ q_mok σ2)))) (n := 3) (k0 := 0) (S := SX9_ask) dL_1060 (okX9_ask l) cls_X9 yl_886 yl_887 yl_888 yl_75 yl_889 ⟨by decide, by decide, by decide +kernel⟩ ⟨by decide, by decide⟩ (x_vali (ys := [xs (i + 1), xs (i + 2), xs (i + 3)])) rfl rfl (Nat.le_of_ble_eq_true rfl) (x_oki (ys := [xs (i + 1), xs (i + 2), xs (i + 3)])) hσ (q_pair2 (G := (q_gAsk (xs (i + 1)).toInt (xs (i + 2)).toInt (xs (i + 3)).toInt)) (F := (q_fAsk (xs (i + 1)).toInt (xs (i + 2)).toInt (xs (i + 3)).toInt)) (q_k_ask _ _ _) hI) hP hS hl.1 (fun v σ1 H locs hv hσ hP hS => ?_)
  refine lv_aload_n C.1 C.2.1 dL_1063 rfl (lv_at hl 2 rfl) ?_
  refine x_f (j := 1) C hl hS (by omega) dL_1064 dL_1065 dL_1066 dL_1067 dL_1068 ?_
  refine x_f (j := 2) C hl hS (by omega) dL_1069 dL_1070 dL_1071 dL_1072 dL_1073 ?_
  refine x_f (j := 3) C hl hS (by omega) dL_1074 dL_1075 dL_1076 dL_1077 dL_1078 ?_
  refine x_call C (as := [.inl (xs (i + 1)).toInt, .inl (xs (i + 2)).toInt, .inl (xs (i + 3)).toInt]) (As := [.int (xs (i + 1)), .int (xs (i + 2)), .int (xs (i + 3))]) (rest := [.int (Int32.ofInt v)]) (K := (fun w σ2 => w = v ∧ (q_R2 σ2 σ2 ∧ q_mok σ2))) (n := 3) (k0 := 89) (S := SX10_ask) dL_1079 (okX10_ask l) cls_X10 yl_1368 yl_1369 yl_1370 yl_85 yl_1371 ⟨by decide, by decide, by decide +kernel⟩ ⟨by decide, by decide⟩ (x_vali (ys := [xs (i + 1), xs (i + 2), xs (i + 3)])) rfl rfl (Nat.le_of_ble_eq_true rfl) (x_oki (ys := [xs (i + 1), xs (i + 2), xs (i + 3)])) hσ hv hP hS hl.1 (fun w σ2 H locs hw hσ hP hS => ?_)
  obtain ⟨rfl, hI2⟩ := hw
  exact lv_icmp_eq C.1 C.2.1 dL_1082 (tgt := 1146) (by decide) (fun _ => KK _ hI2 hσ H locs ls hP hS hl) (fun q => absurd rfl q)
set_option maxHeartbeats 2000000 in
theorem x_c_trace {p : Program} {l : Launch} {e : Env} {s : State} {m : MethodId} {below : List Frame} {meth : Method} {c : Code} {Q : State → Prop} {D : va_G} {cA : Nat → ClassId} {ad : Nat → Nat} {b L : Nat} {xs : Nat → Int32} {i : Nat} {σ : zM} (C : x_C p s m c D cA ad b L xs) (hI : q_R2 σ σ ∧ q_mok σ) (hi : i + 7 ≤ L) (hσ : z_okm σ) (KK : ∀ σ2 : zM, (q_R2 σ2 σ2 ∧ q_mok σ2) → z_okm σ2 → x_X p l e s m below meth c Q D cA ad b 1146 i σ2) : x_X p l e s m below meth c Q D cA ad b 1087 i σ := by
  intro H locs ls hP hS hl
  refine lv_aload_n C.1 C.2.1 dL_1087 rfl (lv_at hl 1 rfl) ?_
  refine x_f (j := 1) C hl hS (by omega) dL_1088 dL_1089 dL_1090 dL_1091 dL_1092 ?_
  refine x_call C (as := [.inl (xs (i + 1)).toInt]) (As := [.int (xs (i + 1))]) (rest := []) (K := (fun v σ1 => q_S10 (q_gTrace (xs (i + 1)).toInt) q_fId σ1 (fun r σ2 => ∃ w, r = some (.inl w) ∧ w = v ∧ (q_R2 σ2 σ2 ∧ q_mok σ2)))) (n := 1) (k0 := 0) (S := SX9_trace) dL_1093 (okX9_trace l) cls_X9 yl_946 yl_947 yl_948 yl_75 yl_949 ⟨by decide, by decide, by decide +kernel⟩ ⟨by decide, by decide⟩ (x_vali (ys := [xs (i + 1)])) rfl rfl (Nat.le_of_ble_eq_true rfl) (x_oki (ys := [xs (i + 1)])) hσ (q_pair2 (G := (q_gTrace (xs (i + 1)).toInt)) (F := q_fId) (q_k_id) hI) hP hS hl.1 (fun v σ1 H locs hv hσ hP hS => ?_)
  refine lv_aload_n C.1 C.2.1 dL_1096 rfl (lv_at hl 2 rfl) ?_
  refine x_f (j := 1) C hl hS (by omega) dL_1097 dL_1098 dL_1099 dL_1100 dL_1101 ?_
  refine x_call C (as := [.inl (xs (i + 1)).toInt]) (As := [.int (xs (i + 1))]) (rest := [.int (Int32.ofInt v)]) (K := (fun w σ2 => w = v ∧ (q_R2 σ2 σ2 ∧ q_mok σ2))) (n := 1) (k0 := 89) (S := SX10_trace) dL_1102 (okX10_trace l) cls_X10 yl_1392 yl_1393 yl_1394 yl_85 yl_1395 ⟨by decide, by decide, by decide +kernel⟩ ⟨by decide, by decide⟩ (x_vali (ys := [xs (i + 1)])) rfl rfl (Nat.le_of_ble_eq_true rfl) (x_oki (ys := [xs (i + 1)])) hσ hv hP hS hl.1 (fun w σ2 H locs hw hσ hP hS => ?_)
  obtain ⟨rfl, hI2⟩ := hw
  exact lv_icmp_eq C.1 C.2.1 dL_1105 (tgt := 1146) (by decide) (fun _ => KK _ hI2 hσ H locs ls hP hS hl) (fun q => absurd rfl q)
set_option maxHeartbeats 2000000 in
theorem x_c_count {p : Program} {l : Launch} {e : Env} {s : State} {m : MethodId} {below : List Frame} {meth : Method} {c : Code} {Q : State → Prop} {D : va_G} {cA : Nat → ClassId} {ad : Nat → Nat} {b L : Nat} {xs : Nat → Int32} {i : Nat} {σ : zM} (C : x_C p s m c D cA ad b L xs) (hI : q_R2 σ σ ∧ q_mok σ) (hi : i + 7 ≤ L) (hσ : z_okm σ) (KK : ∀ σ2 : zM, (q_R2 σ2 σ2 ∧ q_mok σ2) → z_okm σ2 → x_X p l e s m below meth c Q D cA ad b 1146 i σ2) : x_X p l e s m below meth c Q D cA ad b 1110 i σ := by
  intro H locs ls hP hS hl
  refine lv_aload_n C.1 C.2.1 dL_1110 rfl (lv_at hl 1 rfl) ?_
  refine x_f (j := 1) C hl hS (by omega) dL_1111 dL_1112 dL_1113 dL_1114 dL_1115 ?_
  refine x_call C (as := [.inl (xs (i + 1)).toInt]) (As := [.int (xs (i + 1))]) (rest := []) (K := (fun v σ1 => q_S10 (q_gCount (xs (i + 1)).toInt) q_fId σ1 (fun r σ2 => ∃ w, r = some (.inl w) ∧ w = v ∧ (q_R2 σ2 σ2 ∧ q_mok σ2)))) (n := 1) (k0 := 0) (S := SX9_count) dL_1116 (okX9_count l) cls_X9 yl_950 yl_951 yl_952 yl_75 yl_953 ⟨by decide, by decide, by decide +kernel⟩ ⟨by decide, by decide⟩ (x_vali (ys := [xs (i + 1)])) rfl rfl (Nat.le_of_ble_eq_true rfl) (x_oki (ys := [xs (i + 1)])) hσ (q_pair2 (G := (q_gCount (xs (i + 1)).toInt)) (F := q_fId) (q_k_id) hI) hP hS hl.1 (fun v σ1 H locs hv hσ hP hS => ?_)
  refine lv_aload_n C.1 C.2.1 dL_1119 rfl (lv_at hl 2 rfl) ?_
  refine x_f (j := 1) C hl hS (by omega) dL_1120 dL_1121 dL_1122 dL_1123 dL_1124 ?_
  refine x_call C (as := [.inl (xs (i + 1)).toInt]) (As := [.int (xs (i + 1))]) (rest := [.int (Int32.ofInt v)]) (K := (fun w σ2 => w = v ∧ (q_R2 σ2 σ2 ∧ q_mok σ2))) (n := 1) (k0 := 89) (S := SX10_count) dL_1125 (okX10_count l) cls_X10 yl_1396 yl_1397 yl_1398 yl_85 yl_1399 ⟨by decide, by decide, by decide +kernel⟩ ⟨by decide, by decide⟩ (x_vali (ys := [xs (i + 1)])) rfl rfl (Nat.le_of_ble_eq_true rfl) (x_oki (ys := [xs (i + 1)])) hσ hv hP hS hl.1 (fun w σ2 H locs hw hσ hP hS => ?_)
  obtain ⟨rfl, hI2⟩ := hw
  exact lv_icmp_eq C.1 C.2.1 dL_1128 (tgt := 1146) (by decide) (fun _ => KK _ hI2 hσ H locs ls hP hS hl) (fun q => absurd rfl q)
set_option maxHeartbeats 2000000 in
theorem x_c_status {p : Program} {l : Launch} {e : Env} {s : State} {m : MethodId} {below : List Frame} {meth : Method} {c : Code} {Q : State → Prop} {D : va_G} {cA : Nat → ClassId} {ad : Nat → Nat} {b L : Nat} {xs : Nat → Int32} {i : Nat} {σ : zM} (C : x_C p s m c D cA ad b L xs) (hI : q_R2 σ σ ∧ q_mok σ) (hi : i + 7 ≤ L) (hσ : z_okm σ) (KK : ∀ σ2 : zM, (q_R2 σ2 σ2 ∧ q_mok σ2) → z_okm σ2 → x_X p l e s m below meth c Q D cA ad b 1146 i σ2) : x_X p l e s m below meth c Q D cA ad b 1133 i σ := by
  intro H locs ls hP hS hl
  refine lv_aload_n C.1 C.2.1 dL_1133 rfl (lv_at hl 1 rfl) ?_
  refine x_call C (as := []) (As := []) (rest := []) (K := (fun v σ1 => q_S10 q_gStatus q_fId σ1 (fun r σ2 => ∃ w, r = some (.inl w) ∧ w = v ∧ (q_R2 σ2 σ2 ∧ q_mok σ2)))) (n := 0) (k0 := 0) (S := SX9_status) dL_1134 (okX9_status l) cls_X9 yl_958 yl_959 yl_960 yl_75 yl_961 ⟨by decide, by decide, by decide +kernel⟩ ⟨by decide, by decide⟩ (x_vali (ys := [])) rfl rfl (Nat.le_of_ble_eq_true rfl) (x_oki (ys := [])) hσ (q_pair2 (G := q_gStatus) (F := q_fId) (q_k_id) hI) hP hS hl.1 (fun v σ1 H locs hv hσ hP hS => ?_)
  refine lv_aload_n C.1 C.2.1 dL_1137 rfl (lv_at hl 2 rfl) ?_
  refine x_call C (as := []) (As := []) (rest := [.int (Int32.ofInt v)]) (K := (fun w σ2 => w = v ∧ (q_R2 σ2 σ2 ∧ q_mok σ2))) (n := 0) (k0 := 89) (S := SX10_status) dL_1138 (okX10_status l) cls_X10 yl_1400 yl_1401 yl_1402 yl_85 yl_1403 ⟨by decide, by decide, by decide +kernel⟩ ⟨by decide, by decide⟩ (x_vali (ys := [])) rfl rfl (Nat.le_of_ble_eq_true rfl) (x_oki (ys := [])) hσ hv hP hS hl.1 (fun w σ2 H locs hw hσ hP hS => ?_)
  obtain ⟨rfl, hI2⟩ := hw
  exact lv_icmp_eq C.1 C.2.1 dL_1141 (tgt := 1146) (by decide) (fun _ => KK _ hI2 hσ H locs ls hP hS hl) (fun q => absurd rfl q)
