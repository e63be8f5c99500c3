/-! the law, a call a theorem: by program (gen_law.py) -/
section lawc
variable {p : Program} {l : Launch} {e : Env} {s : State} {m : MethodId} {below : List Frame} {meth : Method} {c : Code} {H : Heap} {locs : List Loc} {Q : State → Prop} {b L : Nat} {xs : Nat → Int32} {D : va_G} {cA : Nat → ClassId} {ad : Nat → Nat} {A : Nat → Prop} {ls : Array Slot}
set_option maxRecDepth 100000 in
theorem law_0 (C : lC p s m c b L xs D cA ad A) {k N : Nat} (hN : N < 1000000) (hk : 5 * k + 5 ≤ L) {σ : a_HP} (hI : Inv N σ) (hS : a_SR D ad cA A s.heap σ H locs) (hl : lv_has ls 4 [(3, .int (nI (5 * k))), (0, .ref b), (1, .ref (ad 0)), (2, .ref (ad 61))]) (kk : ∀ (σ' : a_HP) (H' : Heap) (locs' : List Loc), Inv (N + 1) σ' → a_SR D ad cA A s.heap σ' H' locs' → W p l e room_1 s m #[Value.ref b] below meth c H' locs' 600000 7302250 Q (F0 m 1095 ls [])) : W p l e room_1 s m #[Value.ref b] below meth c H locs 600000 7302250 Q (F0 m 188 ls []) := by
  have hx := C.1
  have hb := C.2.1
  obtain ⟨v1, σ1, M1, h2⟩ := cl_met (l := l) (D := D) (ad := ad) (cA := cA) (A := A) (pr_net hI (xs (5 * k + 1)) (xs (5 * k + 2)))
  obtain ⟨v2, σ2, M2, ⟨r, rfl, rfl⟩, hI2⟩ := cl_met (l := l) (D := D) (ad := ad) (cA := cA) (A := A) h2
  refine lv_aload_n hx hb dl_188 rfl (lv_at hl 2 rfl) ?_
  refine l_arg C (j := 1) (by omega) hl hS.2.2 (by decide) dl_189 dl_190 dl_191 dl_192 dl_193 ?_
  refine l_arg C (j := 2) (by omega) hl hS.2.2 (by decide) dl_194 dl_195 dl_196 dl_197 dl_198 ?_
  refine l_call (n := 2) (ci := 7) (cell := 0) (ix := 13) C M1 rfl rfl ⟨(sw_mk (i := 271) (by decide +kernel) (by decide +kernel)), (sw_mk (i := 1) (by decide +kernel) (by decide +kernel)), by decide +kernel, by decide +kernel, by decide +kernel⟩ (sw_mk (i := 269) (by decide +kernel) (by decide +kernel)) (sw_mk (i := 270) (by decide +kernel) (by decide +kernel)) (sw_mk (i := 268) (by decide +kernel) (by decide +kernel)) ⟨by decide +kernel, by decide +kernel⟩ rfl (Nat.le_of_ble_eq_true rfl) hl.1 ⟨Nat.le_refl _, Nat.le_refl _⟩ hS dl_199 rfl (fun H locs hS => ?_)
  refine lv_aload_n hx hb dl_202 rfl (lv_at hl 3 rfl) ?_
  refine l_arg C (j := 1) (by omega) hl hS.2.2 (by decide) dl_203 dl_204 dl_205 dl_206 dl_207 ?_
  refine l_arg C (j := 2) (by omega) hl hS.2.2 (by decide) dl_208 dl_209 dl_210 dl_211 dl_212 ?_
  refine l_call (n := 2) (ci := 8) (cell := 61) (ix := 17) C M2 rfl rfl ⟨(sw_mk (i := 907) (by decide +kernel) (by decide +kernel)), (sw_mk (i := 10) (by decide +kernel) (by decide +kernel)), by decide +kernel, by decide +kernel, by decide +kernel⟩ (sw_mk (i := 905) (by decide +kernel) (by decide +kernel)) (sw_mk (i := 906) (by decide +kernel) (by decide +kernel)) (sw_mk (i := 904) (by decide +kernel) (by decide +kernel)) ⟨by decide +kernel, by decide +kernel⟩ rfl (Nat.le_of_ble_eq_true rfl) hl.1 ⟨Nat.le_refl _, Nat.le_refl _⟩ hS dl_213 rfl (fun H locs hS => ?_)
  exact lv_icmp_eq hx hb dl_216 (tgt := 1095) (by decide) (fun _ => kk σ2 _ _ hI2 hS) (fun z => absurd rfl z)
set_option maxRecDepth 100000 in
theorem law_1 (C : lC p s m c b L xs D cA ad A) {k N : Nat} (hN : N < 1000000) (hk : 5 * k + 5 ≤ L) {σ : a_HP} (hI : Inv N σ) (hS : a_SR D ad cA A s.heap σ H locs) (hl : lv_has ls 4 [(3, .int (nI (5 * k))), (0, .ref b), (1, .ref (ad 0)), (2, .ref (ad 61))]) (kk : ∀ (σ' : a_HP) (H' : Heap) (locs' : List Loc), Inv (N + 1) σ' → a_SR D ad cA A s.heap σ' H' locs' → W p l e room_1 s m #[Value.ref b] below meth c H' locs' 600000 7302250 Q (F0 m 1095 ls [])) : W p l e room_1 s m #[Value.ref b] below meth c H locs 600000 7302250 Q (F0 m 221 ls []) := by
  have hx := C.1
  have hb := C.2.1
  obtain ⟨v1, σ1, M1, h2⟩ := cl_met (l := l) (D := D) (ad := ad) (cA := cA) (A := A) (pr_rain hI (xs (5 * k + 1)))
  obtain ⟨v2, σ2, M2, ⟨r, rfl, rfl⟩, hI2⟩ := cl_met (l := l) (D := D) (ad := ad) (cA := cA) (A := A) h2
  refine lv_aload_n hx hb dl_221 rfl (lv_at hl 2 rfl) ?_
  refine l_arg C (j := 1) (by omega) hl hS.2.2 (by decide) dl_222 dl_223 dl_224 dl_225 dl_226 ?_
  refine l_call (n := 1) (ci := 7) (cell := 0) (ix := 18) C M1 rfl rfl ⟨(sw_mk (i := 305) (by decide +kernel) (by decide +kernel)), (sw_mk (i := 1) (by decide +kernel) (by decide +kernel)), by decide +kernel, by decide +kernel, by decide +kernel⟩ (sw_mk (i := 303) (by decide +kernel) (by decide +kernel)) (sw_mk (i := 304) (by decide +kernel) (by decide +kernel)) (sw_mk (i := 302) (by decide +kernel) (by decide +kernel)) ⟨by decide +kernel, by decide +kernel⟩ rfl (Nat.le_of_ble_eq_true rfl) hl.1 ⟨Nat.le_refl _, Nat.le_refl _⟩ hS dl_227 rfl (fun H locs hS => ?_)
  refine lv_aload_n hx hb dl_230 rfl (lv_at hl 3 rfl) ?_
  refine l_arg C (j := 1) (by omega) hl hS.2.2 (by decide) dl_231 dl_232 dl_233 dl_234 dl_235 ?_
  refine l_call (n := 1) (ci := 8) (cell := 61) (ix := 22) C M2 rfl rfl ⟨(sw_mk (i := 925) (by decide +kernel) (by decide +kernel)), (sw_mk (i := 10) (by decide +kernel) (by decide +kernel)), by decide +kernel, by decide +kernel, by decide +kernel⟩ (sw_mk (i := 923) (by decide +kernel) (by decide +kernel)) (sw_mk (i := 924) (by decide +kernel) (by decide +kernel)) (sw_mk (i := 922) (by decide +kernel) (by decide +kernel)) ⟨by decide +kernel, by decide +kernel⟩ rfl (Nat.le_of_ble_eq_true rfl) hl.1 ⟨Nat.le_refl _, Nat.le_refl _⟩ hS dl_236 rfl (fun H locs hS => ?_)
  exact lv_icmp_eq hx hb dl_239 (tgt := 1095) (by decide) (fun _ => kk σ2 _ _ hI2 hS) (fun z => absurd rfl z)
set_option maxRecDepth 100000 in
theorem law_2 (C : lC p s m c b L xs D cA ad A) {k N : Nat} (hN : N < 1000000) (hk : 5 * k + 5 ≤ L) {σ : a_HP} (hI : Inv N σ) (hS : a_SR D ad cA A s.heap σ H locs) (hl : lv_has ls 4 [(3, .int (nI (5 * k))), (0, .ref b), (1, .ref (ad 0)), (2, .ref (ad 61))]) (kk : ∀ (σ' : a_HP) (H' : Heap) (locs' : List Loc), Inv (N + 1) σ' → a_SR D ad cA A s.heap σ' H' locs' → W p l e room_1 s m #[Value.ref b] below meth c H' locs' 600000 7302250 Q (F0 m 1095 ls [])) : W p l e room_1 s m #[Value.ref b] below meth c H locs 600000 7302250 Q (F0 m 244 ls []) := by
  have hx := C.1
  have hb := C.2.1
  obtain ⟨v1, σ1, M1, h2⟩ := cl_met (l := l) (D := D) (ad := ad) (cA := cA) (A := A) (pr_twine hI (xs (5 * k + 1)))
  obtain ⟨v2, σ2, M2, ⟨r, rfl, rfl⟩, hI2⟩ := cl_met (l := l) (D := D) (ad := ad) (cA := cA) (A := A) h2
  refine lv_aload_n hx hb dl_244 rfl (lv_at hl 2 rfl) ?_
  refine l_arg C (j := 1) (by omega) hl hS.2.2 (by decide) dl_245 dl_246 dl_247 dl_248 dl_249 ?_
  refine l_call (n := 1) (ci := 7) (cell := 0) (ix := 23) C M1 rfl rfl ⟨(sw_mk (i := 309) (by decide +kernel) (by decide +kernel)), (sw_mk (i := 1) (by decide +kernel) (by decide +kernel)), by decide +kernel, by decide +kernel, by decide +kernel⟩ (sw_mk (i := 307) (by decide +kernel) (by decide +kernel)) (sw_mk (i := 308) (by decide +kernel) (by decide +kernel)) (sw_mk (i := 306) (by decide +kernel) (by decide +kernel)) ⟨by decide +kernel, by decide +kernel⟩ rfl (Nat.le_of_ble_eq_true rfl) hl.1 ⟨Nat.le_refl _, Nat.le_refl _⟩ hS dl_250 rfl (fun H locs hS => ?_)
  refine lv_aload_n hx hb dl_253 rfl (lv_at hl 3 rfl) ?_
  refine l_arg C (j := 1) (by omega) hl hS.2.2 (by decide) dl_254 dl_255 dl_256 dl_257 dl_258 ?_
  refine l_call (n := 1) (ci := 8) (cell := 61) (ix := 26) C M2 rfl rfl ⟨(sw_mk (i := 933) (by decide +kernel) (by decide +kernel)), (sw_mk (i := 10) (by decide +kernel) (by decide +kernel)), by decide +kernel, by decide +kernel, by decide +kernel⟩ (sw_mk (i := 931) (by decide +kernel) (by decide +kernel)) (sw_mk (i := 932) (by decide +kernel) (by decide +kernel)) (sw_mk (i := 930) (by decide +kernel) (by decide +kernel)) ⟨by decide +kernel, by decide +kernel⟩ rfl (Nat.le_of_ble_eq_true rfl) hl.1 ⟨Nat.le_refl _, Nat.le_refl _⟩ hS dl_259 rfl (fun H locs hS => ?_)
  exact lv_icmp_eq hx hb dl_262 (tgt := 1095) (by decide) (fun _ => kk σ2 _ _ hI2 hS) (fun z => absurd rfl z)
set_option maxRecDepth 100000 in
theorem law_3 (C : lC p s m c b L xs D cA ad A) {k N : Nat} (hN : N < 1000000) (hk : 5 * k + 5 ≤ L) {σ : a_HP} (hI : Inv N σ) (hS : a_SR D ad cA A s.heap σ H locs) (hl : lv_has ls 4 [(3, .int (nI (5 * k))), (0, .ref b), (1, .ref (ad 0)), (2, .ref (ad 61))]) (kk : ∀ (σ' : a_HP) (H' : Heap) (locs' : List Loc), Inv (N + 1) σ' → a_SR D ad cA A s.heap σ' H' locs' → W p l e room_1 s m #[Value.ref b] below meth c H' locs' 600000 7302250 Q (F0 m 1095 ls [])) : W p l e room_1 s m #[Value.ref b] below meth c H locs 600000 7302250 Q (F0 m 267 ls []) := by
  have hx := C.1
  have hb := C.2.1
  obtain ⟨v1, σ1, M1, h2⟩ := cl_met (l := l) (D := D) (ad := ad) (cA := cA) (A := A) (pr_hands hI (xs (5 * k + 1)))
  obtain ⟨v2, σ2, M2, ⟨r, rfl, rfl⟩, hI2⟩ := cl_met (l := l) (D := D) (ad := ad) (cA := cA) (A := A) h2
  refine lv_aload_n hx hb dl_267 rfl (lv_at hl 2 rfl) ?_
  refine l_arg C (j := 1) (by omega) hl hS.2.2 (by decide) dl_268 dl_269 dl_270 dl_271 dl_272 ?_
  refine l_call (n := 1) (ci := 7) (cell := 0) (ix := 27) C M1 rfl rfl ⟨(sw_mk (i := 313) (by decide +kernel) (by decide +kernel)), (sw_mk (i := 1) (by decide +kernel) (by decide +kernel)), by decide +kernel, by decide +kernel, by decide +kernel⟩ (sw_mk (i := 311) (by decide +kernel) (by decide +kernel)) (sw_mk (i := 312) (by decide +kernel) (by decide +kernel)) (sw_mk (i := 310) (by decide +kernel) (by decide +kernel)) ⟨by decide +kernel, by decide +kernel⟩ rfl (Nat.le_of_ble_eq_true rfl) hl.1 ⟨Nat.le_refl _, Nat.le_refl _⟩ hS dl_273 rfl (fun H locs hS => ?_)
  refine lv_aload_n hx hb dl_276 rfl (lv_at hl 3 rfl) ?_
  refine l_arg C (j := 1) (by omega) hl hS.2.2 (by decide) dl_277 dl_278 dl_279 dl_280 dl_281 ?_
  refine l_call (n := 1) (ci := 8) (cell := 61) (ix := 30) C M2 rfl rfl ⟨(sw_mk (i := 937) (by decide +kernel) (by decide +kernel)), (sw_mk (i := 10) (by decide +kernel) (by decide +kernel)), by decide +kernel, by decide +kernel, by decide +kernel⟩ (sw_mk (i := 935) (by decide +kernel) (by decide +kernel)) (sw_mk (i := 936) (by decide +kernel) (by decide +kernel)) (sw_mk (i := 934) (by decide +kernel) (by decide +kernel)) ⟨by decide +kernel, by decide +kernel⟩ rfl (Nat.le_of_ble_eq_true rfl) hl.1 ⟨Nat.le_refl _, Nat.le_refl _⟩ hS dl_282 rfl (fun H locs hS => ?_)
  exact lv_icmp_eq hx hb dl_285 (tgt := 1095) (by decide) (fun _ => kk σ2 _ _ hI2 hS) (fun z => absurd rfl z)
set_option maxRecDepth 100000 in
theorem law_4 (C : lC p s m c b L xs D cA ad A) {k N : Nat} (hN : N < 1000000) (hk : 5 * k + 5 ≤ L) {σ : a_HP} (hI : Inv N σ) (hS : a_SR D ad cA A s.heap σ H locs) (hl : lv_has ls 4 [(3, .int (nI (5 * k))), (0, .ref b), (1, .ref (ad 0)), (2, .ref (ad 61))]) (kk : ∀ (σ' : a_HP) (H' : Heap) (locs' : List Loc), Inv (N + 1) σ' → a_SR D ad cA A s.heap σ' H' locs' → W p l e room_1 s m #[Value.ref b] below meth c H' locs' 600000 7302250 Q (F0 m 1095 ls [])) : W p l e room_1 s m #[Value.ref b] below meth c H locs 600000 7302250 Q (F0 m 290 ls []) := by
  have hx := C.1
  have hb := C.2.1
  obtain ⟨v1, σ1, M1, h2⟩ := cl_met (l := l) (D := D) (ad := ad) (cA := cA) (A := A) (pr_wide hI (xs (5 * k + 1)) (xs (5 * k + 2)))
  obtain ⟨v2, σ2, M2, ⟨r, rfl, rfl⟩, hI2⟩ := cl_met (l := l) (D := D) (ad := ad) (cA := cA) (A := A) h2
  refine lv_aload_n hx hb dl_290 rfl (lv_at hl 2 rfl) ?_
  refine l_arg C (j := 1) (by omega) hl hS.2.2 (by decide) dl_291 dl_292 dl_293 dl_294 dl_295 ?_
  refine l_arg C (j := 2) (by omega) hl hS.2.2 (by decide) dl_296 dl_297 dl_298 dl_299 dl_300 ?_
  refine l_call (n := 2) (ci := 7) (cell := 0) (ix := 31) C M1 rfl rfl ⟨(sw_mk (i := 318) (by decide +kernel) (by decide +kernel)), (sw_mk (i := 1) (by decide +kernel) (by decide +kernel)), by decide +kernel, by decide +kernel, by decide +kernel⟩ (sw_mk (i := 316) (by decide +kernel) (by decide +kernel)) (sw_mk (i := 317) (by decide +kernel) (by decide +kernel)) (sw_mk (i := 315) (by decide +kernel) (by decide +kernel)) ⟨by decide +kernel, by decide +kernel⟩ rfl (Nat.le_of_ble_eq_true rfl) hl.1 ⟨Nat.le_refl _, Nat.le_refl _⟩ hS dl_301 rfl (fun H locs hS => ?_)
  refine lv_aload_n hx hb dl_304 rfl (lv_at hl 3 rfl) ?_
  refine l_arg C (j := 1) (by omega) hl hS.2.2 (by decide) dl_305 dl_306 dl_307 dl_308 dl_309 ?_
  refine l_arg C (j := 2) (by omega) hl hS.2.2 (by decide) dl_310 dl_311 dl_312 dl_313 dl_314 ?_
  refine l_call (n := 2) (ci := 8) (cell := 61) (ix := 34) C M2 rfl rfl ⟨(sw_mk (i := 942) (by decide +kernel) (by decide +kernel)), (sw_mk (i := 10) (by decide +kernel) (by decide +kernel)), by decide +kernel, by decide +kernel, by decide +kernel⟩ (sw_mk (i := 940) (by decide +kernel) (by decide +kernel)) (sw_mk (i := 941) (by decide +kernel) (by decide +kernel)) (sw_mk (i := 939) (by decide +kernel) (by decide +kernel)) ⟨by decide +kernel, by decide +kernel⟩ rfl (Nat.le_of_ble_eq_true rfl) hl.1 ⟨Nat.le_refl _, Nat.le_refl _⟩ hS dl_315 rfl (fun H locs hS => ?_)
  exact lv_icmp_eq hx hb dl_318 (tgt := 1095) (by decide) (fun _ => kk σ2 _ _ hI2 hS) (fun z => absurd rfl z)
set_option maxRecDepth 100000 in
theorem law_5 (C : lC p s m c b L xs D cA ad A) {k N : Nat} (hN : N < 1000000) (hk : 5 * k + 5 ≤ L) {σ : a_HP} (hI : Inv N σ) (hS : a_SR D ad cA A s.heap σ H locs) (hl : lv_has ls 4 [(3, .int (nI (5 * k))), (0, .ref b), (1, .ref (ad 0)), (2, .ref (ad 61))]) (kk : ∀ (σ' : a_HP) (H' : Heap) (locs' : List Loc), Inv (N + 1) σ' → a_SR D ad cA A s.heap σ' H' locs' → W p l e room_1 s m #[Value.ref b] below meth c H' locs' 600000 7302250 Q (F0 m 1095 ls [])) : W p l e room_1 s m #[Value.ref b] below meth c H locs 600000 7302250 Q (F0 m 323 ls []) := by
  have hx := C.1
  have hb := C.2.1
  obtain ⟨v1, σ1, M1, h2⟩ := cl_met (l := l) (D := D) (ad := ad) (cA := cA) (A := A) (pr_tie hI (xs (5 * k + 1)) (xs (5 * k + 2)) (xs (5 * k + 3)) (xs (5 * k + 4)))
  obtain ⟨v2, σ2, M2, ⟨r, rfl, rfl⟩, hI2⟩ := cl_met (l := l) (D := D) (ad := ad) (cA := cA) (A := A) h2
  refine lv_aload_n hx hb dl_323 rfl (lv_at hl 2 rfl) ?_
  refine l_arg C (j := 1) (by omega) hl hS.2.2 (by decide) dl_324 dl_325 dl_326 dl_327 dl_328 ?_
  refine l_arg C (j := 2) (by omega) hl hS.2.2 (by decide) dl_329 dl_330 dl_331 dl_332 dl_333 ?_
  refine l_arg C (j := 3) (by omega) hl hS.2.2 (by decide) dl_334 dl_335 dl_336 dl_337 dl_338 ?_
  refine l_arg C (j := 4) (by omega) hl hS.2.2 (by decide) dl_339 dl_340 dl_341 dl_342 dl_343 ?_
  refine l_call (n := 4) (ci := 7) (cell := 0) (ix := 35) C M1 rfl rfl ⟨(sw_mk (i := 328) (by decide +kernel) (by decide +kernel)), (sw_mk (i := 1) (by decide +kernel) (by decide +kernel)), by decide +kernel, by decide +kernel, by decide +kernel⟩ (sw_mk (i := 326) (by decide +kernel) (by decide +kernel)) (sw_mk (i := 327) (by decide +kernel) (by decide +kernel)) (sw_mk (i := 325) (by decide +kernel) (by decide +kernel)) ⟨by decide +kernel, by decide +kernel⟩ rfl (Nat.le_of_ble_eq_true rfl) hl.1 ⟨Nat.le_refl _, Nat.le_refl _⟩ hS dl_344 rfl (fun H locs hS => ?_)
  refine lv_aload_n hx hb dl_347 rfl (lv_at hl 3 rfl) ?_
  refine l_arg C (j := 1) (by omega) hl hS.2.2 (by decide) dl_348 dl_349 dl_350 dl_351 dl_352 ?_
  refine l_arg C (j := 2) (by omega) hl hS.2.2 (by decide) dl_353 dl_354 dl_355 dl_356 dl_357 ?_
  refine l_arg C (j := 3) (by omega) hl hS.2.2 (by decide) dl_358 dl_359 dl_360 dl_361 dl_362 ?_
  refine l_arg C (j := 4) (by omega) hl hS.2.2 (by decide) dl_363 dl_364 dl_365 dl_366 dl_367 ?_
  refine l_call (n := 4) (ci := 8) (cell := 61) (ix := 39) C M2 rfl rfl ⟨(sw_mk (i := 951) (by decide +kernel) (by decide +kernel)), (sw_mk (i := 10) (by decide +kernel) (by decide +kernel)), by decide +kernel, by decide +kernel, by decide +kernel⟩ (sw_mk (i := 949) (by decide +kernel) (by decide +kernel)) (sw_mk (i := 950) (by decide +kernel) (by decide +kernel)) (sw_mk (i := 948) (by decide +kernel) (by decide +kernel)) ⟨by decide +kernel, by decide +kernel⟩ rfl (Nat.le_of_ble_eq_true rfl) hl.1 ⟨Nat.le_refl _, Nat.le_refl _⟩ hS dl_368 rfl (fun H locs hS => ?_)
  exact lv_icmp_eq hx hb dl_371 (tgt := 1095) (by decide) (fun _ => kk σ2 _ _ hI2 hS) (fun z => absurd rfl z)
set_option maxRecDepth 100000 in
theorem law_6 (C : lC p s m c b L xs D cA ad A) {k N : Nat} (hN : N < 1000000) (hk : 5 * k + 5 ≤ L) {σ : a_HP} (hI : Inv N σ) (hS : a_SR D ad cA A s.heap σ H locs) (hl : lv_has ls 4 [(3, .int (nI (5 * k))), (0, .ref b), (1, .ref (ad 0)), (2, .ref (ad 61))]) (kk : ∀ (σ' : a_HP) (H' : Heap) (locs' : List Loc), Inv (N + 1) σ' → a_SR D ad cA A s.heap σ' H' locs' → W p l e room_1 s m #[Value.ref b] below meth c H' locs' 600000 7302250 Q (F0 m 1095 ls [])) : W p l e room_1 s m #[Value.ref b] below meth c H locs 600000 7302250 Q (F0 m 376 ls []) := by
  have hx := C.1
  have hb := C.2.1
  obtain ⟨v1, σ1, M1, h2⟩ := cl_met (l := l) (D := D) (ad := ad) (cA := cA) (A := A) (pr_mend hI (xs (5 * k + 1)) (xs (5 * k + 2)))
  obtain ⟨v2, σ2, M2, ⟨r, rfl, rfl⟩, hI2⟩ := cl_met (l := l) (D := D) (ad := ad) (cA := cA) (A := A) h2
  refine lv_aload_n hx hb dl_376 rfl (lv_at hl 2 rfl) ?_
  refine l_arg C (j := 1) (by omega) hl hS.2.2 (by decide) dl_377 dl_378 dl_379 dl_380 dl_381 ?_
  refine l_arg C (j := 2) (by omega) hl hS.2.2 (by decide) dl_382 dl_383 dl_384 dl_385 dl_386 ?_
  refine l_call (n := 2) (ci := 7) (cell := 0) (ix := 40) C M1 rfl rfl ⟨(sw_mk (i := 349) (by decide +kernel) (by decide +kernel)), (sw_mk (i := 1) (by decide +kernel) (by decide +kernel)), by decide +kernel, by decide +kernel, by decide +kernel⟩ (sw_mk (i := 347) (by decide +kernel) (by decide +kernel)) (sw_mk (i := 348) (by decide +kernel) (by decide +kernel)) (sw_mk (i := 346) (by decide +kernel) (by decide +kernel)) ⟨by decide +kernel, by decide +kernel⟩ rfl (Nat.le_of_ble_eq_true rfl) hl.1 ⟨Nat.le_refl _, Nat.le_refl _⟩ hS dl_387 rfl (fun H locs hS => ?_)
  refine lv_aload_n hx hb dl_390 rfl (lv_at hl 3 rfl) ?_
  refine l_arg C (j := 1) (by omega) hl hS.2.2 (by decide) dl_391 dl_392 dl_393 dl_394 dl_395 ?_
  refine l_arg C (j := 2) (by omega) hl hS.2.2 (by decide) dl_396 dl_397 dl_398 dl_399 dl_400 ?_
  refine l_call (n := 2) (ci := 8) (cell := 61) (ix := 43) C M2 rfl rfl ⟨(sw_mk (i := 975) (by decide +kernel) (by decide +kernel)), (sw_mk (i := 10) (by decide +kernel) (by decide +kernel)), by decide +kernel, by decide +kernel, by decide +kernel⟩ (sw_mk (i := 973) (by decide +kernel) (by decide +kernel)) (sw_mk (i := 974) (by decide +kernel) (by decide +kernel)) (sw_mk (i := 972) (by decide +kernel) (by decide +kernel)) ⟨by decide +kernel, by decide +kernel⟩ rfl (Nat.le_of_ble_eq_true rfl) hl.1 ⟨Nat.le_refl _, Nat.le_refl _⟩ hS dl_401 rfl (fun H locs hS => ?_)
  exact lv_icmp_eq hx hb dl_404 (tgt := 1095) (by decide) (fun _ => kk σ2 _ _ hI2 hS) (fun z => absurd rfl z)
set_option maxRecDepth 100000 in
theorem law_7 (C : lC p s m c b L xs D cA ad A) {k N : Nat} (hN : N < 1000000) (hk : 5 * k + 5 ≤ L) {σ : a_HP} (hI : Inv N σ) (hS : a_SR D ad cA A s.heap σ H locs) (hl : lv_has ls 4 [(3, .int (nI (5 * k))), (0, .ref b), (1, .ref (ad 0)), (2, .ref (ad 61))]) (kk : ∀ (σ' : a_HP) (H' : Heap) (locs' : List Loc), Inv (N + 1) σ' → a_SR D ad cA A s.heap σ' H' locs' → W p l e room_1 s m #[Value.ref b] below meth c H' locs' 600000 7302250 Q (F0 m 1095 ls [])) : W p l e room_1 s m #[Value.ref b] below meth c H locs 600000 7302250 Q (F0 m 409 ls []) := by
  have hx := C.1
  have hb := C.2.1
  obtain ⟨v1, σ1, M1, h2⟩ := cl_met (l := l) (D := D) (ad := ad) (cA := cA) (A := A) (pr_drop hI (xs (5 * k + 1)))
  obtain ⟨v2, σ2, M2, ⟨r, rfl, rfl⟩, hI2⟩ := cl_met (l := l) (D := D) (ad := ad) (cA := cA) (A := A) h2
  refine lv_aload_n hx hb dl_409 rfl (lv_at hl 2 rfl) ?_
  refine l_arg C (j := 1) (by omega) hl hS.2.2 (by decide) dl_410 dl_411 dl_412 dl_413 dl_414 ?_
  refine l_call (n := 1) (ci := 7) (cell := 0) (ix := 44) C M1 rfl rfl ⟨(sw_mk (i := 358) (by decide +kernel) (by decide +kernel)), (sw_mk (i := 1) (by decide +kernel) (by decide +kernel)), by decide +kernel, by decide +kernel, by decide +kernel⟩ (sw_mk (i := 356) (by decide +kernel) (by decide +kernel)) (sw_mk (i := 357) (by decide +kernel) (by decide +kernel)) (sw_mk (i := 355) (by decide +kernel) (by decide +kernel)) ⟨by decide +kernel, by decide +kernel⟩ rfl (Nat.le_of_ble_eq_true rfl) hl.1 ⟨Nat.le_refl _, Nat.le_refl _⟩ hS dl_415 rfl (fun H locs hS => ?_)
  refine lv_aload_n hx hb dl_418 rfl (lv_at hl 3 rfl) ?_
  refine l_arg C (j := 1) (by omega) hl hS.2.2 (by decide) dl_419 dl_420 dl_421 dl_422 dl_423 ?_
  refine l_call (n := 1) (ci := 8) (cell := 61) (ix := 47) C M2 rfl rfl ⟨(sw_mk (i := 983) (by decide +kernel) (by decide +kernel)), (sw_mk (i := 10) (by decide +kernel) (by decide +kernel)), by decide +kernel, by decide +kernel, by decide +kernel⟩ (sw_mk (i := 981) (by decide +kernel) (by decide +kernel)) (sw_mk (i := 982) (by decide +kernel) (by decide +kernel)) (sw_mk (i := 980) (by decide +kernel) (by decide +kernel)) ⟨by decide +kernel, by decide +kernel⟩ rfl (Nat.le_of_ble_eq_true rfl) hl.1 ⟨Nat.le_refl _, Nat.le_refl _⟩ hS dl_424 rfl (fun H locs hS => ?_)
  exact lv_icmp_eq hx hb dl_427 (tgt := 1095) (by decide) (fun _ => kk σ2 _ _ hI2 hS) (fun z => absurd rfl z)
set_option maxRecDepth 100000 in
theorem law_8 (C : lC p s m c b L xs D cA ad A) {k N : Nat} (hN : N < 1000000) (hk : 5 * k + 5 ≤ L) {σ : a_HP} (hI : Inv N σ) (hS : a_SR D ad cA A s.heap σ H locs) (hl : lv_has ls 4 [(3, .int (nI (5 * k))), (0, .ref b), (1, .ref (ad 0)), (2, .ref (ad 61))]) (kk : ∀ (σ' : a_HP) (H' : Heap) (locs' : List Loc), Inv (N + 1) σ' → a_SR D ad cA A s.heap σ' H' locs' → W p l e room_1 s m #[Value.ref b] below meth c H' locs' 600000 7302250 Q (F0 m 1095 ls [])) : W p l e room_1 s m #[Value.ref b] below meth c H locs 600000 7302250 Q (F0 m 432 ls []) := by
  have hx := C.1
  have hb := C.2.1
  obtain ⟨v1, σ1, M1, h2⟩ := cl_met (l := l) (D := D) (ad := ad) (cA := cA) (A := A) (pr_night hN hI )
  obtain ⟨v2, σ2, M2, ⟨r, rfl, rfl⟩, hI2⟩ := cl_met (l := l) (D := D) (ad := ad) (cA := cA) (A := A) h2
  refine lv_aload_n hx hb dl_432 rfl (lv_at hl 2 rfl) ?_
  refine l_call (n := 0) (ci := 7) (cell := 0) (ix := 48) C M1 rfl rfl ⟨(sw_mk (i := 362) (by decide +kernel) (by decide +kernel)), (sw_mk (i := 1) (by decide +kernel) (by decide +kernel)), by decide +kernel, by decide +kernel, by decide +kernel⟩ (sw_mk (i := 360) (by decide +kernel) (by decide +kernel)) (sw_mk (i := 361) (by decide +kernel) (by decide +kernel)) (sw_mk (i := 359) (by decide +kernel) (by decide +kernel)) ⟨by decide +kernel, by decide +kernel⟩ rfl (Nat.le_of_ble_eq_true rfl) hl.1 ⟨Nat.le_refl _, Nat.le_refl _⟩ hS dl_433 rfl (fun H locs hS => ?_)
  refine lv_aload_n hx hb dl_436 rfl (lv_at hl 3 rfl) ?_
  refine l_call (n := 0) (ci := 8) (cell := 61) (ix := 52) C M2 rfl rfl ⟨(sw_mk (i := 987) (by decide +kernel) (by decide +kernel)), (sw_mk (i := 10) (by decide +kernel) (by decide +kernel)), by decide +kernel, by decide +kernel, by decide +kernel⟩ (sw_mk (i := 985) (by decide +kernel) (by decide +kernel)) (sw_mk (i := 986) (by decide +kernel) (by decide +kernel)) (sw_mk (i := 984) (by decide +kernel) (by decide +kernel)) ⟨by decide +kernel, by decide +kernel⟩ rfl (Nat.le_of_ble_eq_true rfl) hl.1 ⟨Nat.le_refl _, Nat.le_refl _⟩ hS dl_437 rfl (fun H locs hS => ?_)
  exact lv_icmp_eq hx hb dl_440 (tgt := 1095) (by decide) (fun _ => kk σ2 _ _ hI2 hS) (fun z => absurd rfl z)
end lawc
