section LCSL
variable {p : Program} {l : Launch} {e : Env} {s : State} {m : MethodId} {args : Array Value} {below : List Frame} {meth : Method} {c : Code} {D : va_G} {A : Nat → Prop} {Q : State → Prop} {cM : Cond}
variable {kc ks kc9 ks9 : Nat} {T : Nat → ClassId} {S : HS} {L : List Nat} {ol od m0 b Lx i : Nat}
variable {ar a : Nat → Nat} {r : Nat → Int32} {q : Nat → Nat → Int32} {f : Nat → Int64} {fd : Nat → UInt64} {xs : Nat → Int32} {mu : Nat → Nat → Int32} {g bb : Nat → Int32} {sh : List Int32}
set_option maxRecDepth 100000 in
set_option maxHeartbeats 4000000 in
theorem lcs_0 (hst : l.stackTraces = false) (C : GC p s m args meth c code RL (cM :: W0) 9 D A (zty T)) (E : GE T A s) (N : NX s) (hX : va_X b Lx xs s s.heap) (hbl : b < s.heap.size) (hbA : ¬ A b) (hLx : Lx ≤ 3072) (hi : i + 6 ≤ Lx) (hkc : kc9 + 210 ≤ kc) (hks : ks9 + 12400 ≤ ks) (hI : LInv T a S L mu g bb sh r q) (K : LK p l e s m args below meth c D A Q T a ar ol od m0 b i kc9 ks9) : GW p l e room_1 s m args below meth c D A 9 601024 7293034 Q (LWW T ol od m0 ar f fd S L r q) kc ks 192 [(0, .ref b), (1, .ref (a 50)), (2, .ref m0), (3, .ref ol), (4, .ref od), (5, .int (nI i))] [] := by
  obtain ⟨hL, hw, hF, hR, h120⟩ := hI
  refine g_aload_n C dL_law_192 rfl 1 rfl ?_
  refine gl_arg C hX hbl hbA hLx hi 1 (by decide) (by decide) 0 5 rfl rfl dL_law_193 dL_law_194 dL_law_196 dL_law_197 dL_law_198 ?_
  refine gl_arg C hX hbl hbA hLx hi 2 (by decide) (by decide) 0 5 rfl rfl dL_law_199 dL_law_200 dL_law_202 dL_law_203 dL_law_204 ?_
  refine g_aload_n C dL_law_205 rfl 3 rfl ?_
  refine gw_perm pmJ ?_
  refine gl_hlp (mk := oJ T) C E N hw hL [.ref (a 50), .int (xs (i + 1)), .int (xs (i + 2)), .ref ol] rfl (h_L_makeVersion l hst D T (a 50) ol (xs (i + 1)) (xs (i + 2)) S f a mu g bb sh (li_x0 hF) ⟨hF, rfl⟩) (w0_SW 4 C.2.2.2.2.1 kw_293 kw_294 kw_0 kw_295 rfl rfl (by decide +kernel) ⟨Nat.le_of_ble_eq_true rfl, Nat.le_of_ble_eq_true rfl⟩) rfl (Nat.le_of_ble_eq_true rfl) (Nat.le_of_ble_eq_true rfl) (Nat.le_of_ble_eq_true rfl) (by omega) (by omega) dL_law_206 (fun k S1 L1 f1 hx1 hw1 hL1 hp => ?_)
  refine gw_perm pmJ.symm ?_
  refine gw_less (kc' := kc9) (ks' := ks9) (by omega) (by omega) ?_
  refine g_istore (lv' := (6, .int k) :: [(0, .ref b), (1, .ref (a 50)), (2, .ref m0), (3, .ref ol), (4, .ref od), (5, .int (nI i))]) C dL_law_209 (by decide) rfl ?_
  refine g_aload_n C dL_law_211 rfl 3 rfl ?_
  refine gl_arg C hX hbl hbA hLx hi 1 (by decide) (by decide) 1 6 rfl rfl dL_law_212 dL_law_213 dL_law_215 dL_law_216 dL_law_217 ?_
  refine gl_arg C hX hbl hbA hLx hi 2 (by decide) (by decide) 1 6 rfl rfl dL_law_218 dL_law_219 dL_law_221 dL_law_222 dL_law_223 ?_
  refine gw_perm pmR ?_
  refine gl_refi C [.int (xs (i + 1)), .int (xs (i + 2))] rfl (k_X11_makeVersion l D T m0 ar (xs (i + 1)) (xs (i + 2)) r q ⟨(by rw [hR.1]; exact (rz_gwf hF).1), (rz_cw8 hF hR)⟩) (w0_V 2 C.2.2.2.2.1 kw_1940 kw_1941 kw_1942 kw_9 kw_1943 rfl rfl (by decide +kernel) ⟨Nat.le_of_ble_eq_true rfl, Nat.le_of_ble_eq_true rfl⟩) rfl (Nat.le_of_ble_eq_true rfl) (Nat.le_of_ble_eq_true rfl) (Nat.le_of_ble_eq_true rfl) dL_law_224 (fun v r1 q1 hq => ?_)
  refine gw_perm pmR.symm ?_
  rw [hR.1] at hq
  have M := rz_stP hF hR hp hq
  exact lc_tail C M.1 M.2.1 dL_law_227 dL_law_229 dL_law_230 dL_law_233 dL_law_235 dL_law_240 dL_law_242 dL_law_245 dL_law_246 dL_law_247 dL_law_248 dL_law_250 dL_law_251 dL_law_252 dL_law_257 (by decide) (lk_out K h120 hx1 hw1 hL1 M.2.2)
set_option maxRecDepth 100000 in
set_option maxHeartbeats 4000000 in
theorem lcs_1 (hst : l.stackTraces = false) (C : GC p s m args meth c code RL (cM :: W0) 9 D A (zty T)) (E : GE T A s) (N : NX s) (hX : va_X b Lx xs s s.heap) (hbl : b < s.heap.size) (hbA : ¬ A b) (hLx : Lx ≤ 3072) (hi : i + 6 ≤ Lx) (hkc : kc9 + 210 ≤ kc) (hks : ks9 + 12400 ≤ ks) (hI : LInv T a S L mu g bb sh r q) (K : LK p l e s m args below meth c D A Q T a ar ol od m0 b i kc9 ks9) : GW p l e room_1 s m args below meth c D A 9 601024 7293034 Q (LWW T ol od m0 ar f fd S L r q) kc ks 260 [(0, .ref b), (1, .ref (a 50)), (2, .ref m0), (3, .ref ol), (4, .ref od), (5, .int (nI i))] [] := by
  obtain ⟨hL, hw, hF, hR, h120⟩ := hI
  refine g_aload_n C dL_law_260 rfl 1 rfl ?_
  refine gl_arg C hX hbl hbA hLx hi 1 (by decide) (by decide) 0 5 rfl rfl dL_law_261 dL_law_262 dL_law_264 dL_law_265 dL_law_266 ?_
  refine g_i2c C dL_law_267 rfl ?_
  refine g_aload_n C dL_law_268 rfl 3 rfl ?_
  refine gw_perm pmJ ?_
  refine gl_hlp (mk := oJ T) C E N hw hL [.ref (a 50), .int (((xs (i + 1)).toUInt32 % 65536).toInt32), .ref ol] rfl (h_L_feed l hst D T (a 50) ol (((xs (i + 1)).toUInt32 % 65536).toInt32) S f a mu g bb sh (li_x0 hF) ⟨hF, rfl, ch_ok _⟩) (w0_SW 3 C.2.2.2.2.1 kw_521 kw_522 kw_0 kw_523 rfl rfl (by decide +kernel) ⟨Nat.le_of_ble_eq_true rfl, Nat.le_of_ble_eq_true rfl⟩) rfl (Nat.le_of_ble_eq_true rfl) (Nat.le_of_ble_eq_true rfl) (Nat.le_of_ble_eq_true rfl) (by omega) (by omega) dL_law_269 (fun k S1 L1 f1 hx1 hw1 hL1 hp => ?_)
  refine gw_perm pmJ.symm ?_
  refine gw_less (kc' := kc9) (ks' := ks9) (by omega) (by omega) ?_
  refine g_istore (lv' := (6, .int k) :: [(0, .ref b), (1, .ref (a 50)), (2, .ref m0), (3, .ref ol), (4, .ref od), (5, .int (nI i))]) C dL_law_272 (by decide) rfl ?_
  refine g_aload_n C dL_law_274 rfl 3 rfl ?_
  refine gl_arg C hX hbl hbA hLx hi 1 (by decide) (by decide) 1 6 rfl rfl dL_law_275 dL_law_276 dL_law_278 dL_law_279 dL_law_280 ?_
  refine g_i2c C dL_law_281 rfl ?_
  refine gw_perm pmR ?_
  refine gl_refi C [.int (((xs (i + 1)).toUInt32 % 65536).toInt32)] rfl (k_X11_feed l D T m0 ar (((xs (i + 1)).toUInt32 % 65536).toInt32) r q (rz_fw hF hR)) (w0_V 1 C.2.2.2.2.1 kw_2026 kw_2027 kw_2028 kw_9 kw_2029 rfl rfl (by decide +kernel) ⟨Nat.le_of_ble_eq_true rfl, Nat.le_of_ble_eq_true rfl⟩) rfl (Nat.le_of_ble_eq_true rfl) (Nat.le_of_ble_eq_true rfl) (Nat.le_of_ble_eq_true rfl) dL_law_282 (fun v r1 q1 hq => ?_)
  refine gw_perm pmR.symm ?_
  have M := rz_feed hR hp hq
  exact lc_tail C M.1 M.2.1 dL_law_285 dL_law_287 dL_law_288 dL_law_291 dL_law_293 dL_law_298 dL_law_300 dL_law_303 dL_law_304 dL_law_305 dL_law_306 dL_law_308 dL_law_309 dL_law_310 dL_law_315 (by decide) (lk_out K h120 hx1 hw1 hL1 M.2.2)
set_option maxRecDepth 100000 in
set_option maxHeartbeats 4000000 in
theorem lcs_2 (hst : l.stackTraces = false) (C : GC p s m args meth c code RL (cM :: W0) 9 D A (zty T)) (E : GE T A s) (N : NX s) (hX : va_X b Lx xs s s.heap) (hbl : b < s.heap.size) (hbA : ¬ A b) (hLx : Lx ≤ 3072) (hi : i + 6 ≤ Lx) (hkc : kc9 + 210 ≤ kc) (hks : ks9 + 12400 ≤ ks) (hI : LInv T a S L mu g bb sh r q) (K : LK p l e s m args below meth c D A Q T a ar ol od m0 b i kc9 ks9) : GW p l e room_1 s m args below meth c D A 9 601024 7293034 Q (LWW T ol od m0 ar f fd S L r q) kc ks 318 [(0, .ref b), (1, .ref (a 50)), (2, .ref m0), (3, .ref ol), (4, .ref od), (5, .int (nI i))] [] := by
  obtain ⟨hL, hw, hF, hR, h120⟩ := hI
  refine g_aload_n C dL_law_318 rfl 1 rfl ?_
  refine gl_arg C hX hbl hbA hLx hi 1 (by decide) (by decide) 0 5 rfl rfl dL_law_319 dL_law_320 dL_law_322 dL_law_323 dL_law_324 ?_
  refine g_aload_n C dL_law_325 rfl 3 rfl ?_
  refine gw_perm pmJ ?_
  refine gl_hlp (mk := oJ T) C E N hw hL [.ref (a 50), .int (xs (i + 1)), .ref ol] rfl (h_L_amend l hst D T (a 50) ol (xs (i + 1)) S f a mu g bb sh (li_x0 hF) ⟨hF, rfl, h120.1, h120.2⟩) (w0_SW 3 C.2.2.2.2.1 kw_528 kw_529 kw_0 kw_530 rfl rfl (by decide +kernel) ⟨Nat.le_of_ble_eq_true rfl, Nat.le_of_ble_eq_true rfl⟩) rfl (Nat.le_of_ble_eq_true rfl) (Nat.le_of_ble_eq_true rfl) (Nat.le_of_ble_eq_true rfl) (by omega) (by omega) dL_law_326 (fun k S1 L1 f1 hx1 hw1 hL1 hp => ?_)
  refine gw_perm pmJ.symm ?_
  refine gw_less (kc' := kc9) (ks' := ks9) (by omega) (by omega) ?_
  refine g_istore (lv' := (6, .int k) :: [(0, .ref b), (1, .ref (a 50)), (2, .ref m0), (3, .ref ol), (4, .ref od), (5, .int (nI i))]) C dL_law_329 (by decide) rfl ?_
  refine g_aload_n C dL_law_331 rfl 3 rfl ?_
  refine gl_arg C hX hbl hbA hLx hi 1 (by decide) (by decide) 1 6 rfl rfl dL_law_332 dL_law_333 dL_law_335 dL_law_336 dL_law_337 ?_
  refine gw_perm pmR ?_
  refine gl_refi C [.int (xs (i + 1))] rfl (k_X11_amend l D T m0 ar (xs (i + 1)) r q ⟨(by rw [hR.1]; exact (rz_gwf hF).1), (rz_fw hF hR), (rz_cw8 hF hR)⟩) (w0_V 1 C.2.2.2.2.1 kw_2030 kw_2031 kw_2032 kw_9 kw_2033 rfl rfl (by decide +kernel) ⟨Nat.le_of_ble_eq_true rfl, Nat.le_of_ble_eq_true rfl⟩) rfl (Nat.le_of_ble_eq_true rfl) (Nat.le_of_ble_eq_true rfl) (Nat.le_of_ble_eq_true rfl) dL_law_338 (fun v r1 q1 hq => ?_)
  refine gw_perm pmR.symm ?_
  have M := rz_amend hF hR hp hq
  exact lc_tail C M.1 M.2.1 dL_law_341 dL_law_343 dL_law_344 dL_law_347 dL_law_349 dL_law_354 dL_law_356 dL_law_359 dL_law_360 dL_law_361 dL_law_362 dL_law_364 dL_law_365 dL_law_366 dL_law_371 (by decide) (lk_out K h120 hx1 hw1 hL1 M.2.2)
set_option maxRecDepth 100000 in
set_option maxHeartbeats 4000000 in
theorem lcs_3 (hst : l.stackTraces = false) (C : GC p s m args meth c code RL (cM :: W0) 9 D A (zty T)) (E : GE T A s) (N : NX s) (hX : va_X b Lx xs s s.heap) (hbl : b < s.heap.size) (hbA : ¬ A b) (hLx : Lx ≤ 3072) (hi : i + 6 ≤ Lx) (hkc : kc9 + 210 ≤ kc) (hks : ks9 + 12400 ≤ ks) (hI : LInv T a S L mu g bb sh r q) (K : LK p l e s m args below meth c D A Q T a ar ol od m0 b i kc9 ks9) : GW p l e room_1 s m args below meth c D A 9 601024 7293034 Q (LWW T ol od m0 ar f fd S L r q) kc ks 374 [(0, .ref b), (1, .ref (a 50)), (2, .ref m0), (3, .ref ol), (4, .ref od), (5, .int (nI i))] [] := by
  obtain ⟨hL, hw, hF, hR, h120⟩ := hI
  refine g_aload_n C dL_law_374 rfl 1 rfl ?_
  refine g_aload_n C dL_law_375 rfl 3 rfl ?_
  refine gw_perm pmJ ?_
  refine gl_hlp (mk := oJ T) C E N hw hL [.ref (a 50), .ref ol] rfl (h_L_impossible l hst D T (a 50) ol  S f a mu g bb sh (li_x0 hF) ⟨hF, rfl⟩) (w0_SW 2 C.2.2.2.2.1 kw_958 kw_959 kw_0 kw_960 rfl rfl (by decide +kernel) ⟨Nat.le_of_ble_eq_true rfl, Nat.le_of_ble_eq_true rfl⟩) rfl (Nat.le_of_ble_eq_true rfl) (Nat.le_of_ble_eq_true rfl) (Nat.le_of_ble_eq_true rfl) (by omega) (by omega) dL_law_376 (fun k S1 L1 f1 hx1 hw1 hL1 hp => ?_)
  refine gw_perm pmJ.symm ?_
  refine gw_less (kc' := kc9) (ks' := ks9) (by omega) (by omega) ?_
  refine g_istore (lv' := (6, .int k) :: [(0, .ref b), (1, .ref (a 50)), (2, .ref m0), (3, .ref ol), (4, .ref od), (5, .int (nI i))]) C dL_law_379 (by decide) rfl ?_
  refine g_aload_n C dL_law_381 rfl 3 rfl ?_
  refine gw_perm pmR ?_
  refine gl_refi C [] rfl (k_X11_impossible l D T m0 ar  r q) (w0_V 0 C.2.2.2.2.1 kw_2104 kw_2105 kw_2106 kw_9 kw_2107 rfl rfl (by decide +kernel) ⟨Nat.le_of_ble_eq_true rfl, Nat.le_of_ble_eq_true rfl⟩) rfl (Nat.le_of_ble_eq_true rfl) (Nat.le_of_ble_eq_true rfl) (Nat.le_of_ble_eq_true rfl) dL_law_382 (fun v r1 q1 hq => ?_)
  refine gw_perm pmR.symm ?_
  have M := rz_imp hR hp hq
  exact lc_tail C M.1 M.2.1 dL_law_385 dL_law_387 dL_law_388 dL_law_391 dL_law_393 dL_law_398 dL_law_400 dL_law_403 dL_law_404 dL_law_405 dL_law_406 dL_law_408 dL_law_409 dL_law_410 dL_law_415 (by decide) (lk_out K h120 hx1 hw1 hL1 M.2.2)
set_option maxRecDepth 100000 in
set_option maxHeartbeats 4000000 in
theorem lcs_4 (hst : l.stackTraces = false) (C : GC p s m args meth c code RL (cM :: W0) 9 D A (zty T)) (E : GE T A s) (N : NX s) (hX : va_X b Lx xs s s.heap) (hbl : b < s.heap.size) (hbA : ¬ A b) (hLx : Lx ≤ 3072) (hi : i + 6 ≤ Lx) (hkc : kc9 + 210 ≤ kc) (hks : ks9 + 12400 ≤ ks) (hI : LInv T a S L mu g bb sh r q) (K : LK p l e s m args below meth c D A Q T a ar ol od m0 b i kc9 ks9) : GW p l e room_1 s m args below meth c D A 9 601024 7293034 Q (LWW T ol od m0 ar f fd S L r q) kc ks 418 [(0, .ref b), (1, .ref (a 50)), (2, .ref m0), (3, .ref ol), (4, .ref od), (5, .int (nI i))] [] := by
  obtain ⟨hL, hw, hF, hR, h120⟩ := hI
  refine g_aload_n C dL_law_418 rfl 1 rfl ?_
  refine gl_arg C hX hbl hbA hLx hi 1 (by decide) (by decide) 0 5 rfl rfl dL_law_419 dL_law_420 dL_law_422 dL_law_423 dL_law_424 ?_
  refine g_aload_n C dL_law_425 rfl 3 rfl ?_
  refine gw_perm pmJ ?_
  refine gl_hlp (mk := oJ T) C E N hw hL [.ref (a 50), .int (xs (i + 1)), .ref ol] rfl (h_L_versionOn l hst D T (a 50) ol (xs (i + 1)) S f a mu g bb sh (li_x0 hF) ⟨hF, rfl⟩) (w0_SW 3 C.2.2.2.2.1 kw_981 kw_982 kw_0 kw_983 rfl rfl (by decide +kernel) ⟨Nat.le_of_ble_eq_true rfl, Nat.le_of_ble_eq_true rfl⟩) rfl (Nat.le_of_ble_eq_true rfl) (Nat.le_of_ble_eq_true rfl) (Nat.le_of_ble_eq_true rfl) (by omega) (by omega) dL_law_426 (fun k S1 L1 f1 hx1 hw1 hL1 hp => ?_)
  refine gw_perm pmJ.symm ?_
  refine gw_less (kc' := kc9) (ks' := ks9) (by omega) (by omega) ?_
  refine g_istore (lv' := (6, .int k) :: [(0, .ref b), (1, .ref (a 50)), (2, .ref m0), (3, .ref ol), (4, .ref od), (5, .int (nI i))]) C dL_law_429 (by decide) rfl ?_
  refine g_aload_n C dL_law_431 rfl 3 rfl ?_
  refine gl_arg C hX hbl hbA hLx hi 1 (by decide) (by decide) 1 6 rfl rfl dL_law_432 dL_law_433 dL_law_435 dL_law_436 dL_law_437 ?_
  refine gw_perm pmR ?_
  refine gl_refi C [.int (xs (i + 1))] rfl (k_X11_versionOn l D T m0 ar (xs (i + 1)) r q (by rw [hR.1]; exact (rz_gwf hF).1)) (w0_V 1 C.2.2.2.2.1 kw_1962 kw_1963 kw_1964 kw_9 kw_1965 rfl rfl (by decide +kernel) ⟨Nat.le_of_ble_eq_true rfl, Nat.le_of_ble_eq_true rfl⟩) rfl (Nat.le_of_ble_eq_true rfl) (Nat.le_of_ble_eq_true rfl) (Nat.le_of_ble_eq_true rfl) dL_law_438 (fun v r1 q1 hq => ?_)
  refine gw_perm pmR.symm ?_
  rw [hR.1] at hq
  have M := rz_read (Lq := []) hR hp hq.2.1 (fun j _ => congrFun (show q1 = q from hq.1) j) hq.2.2.1 hq.2.2.2 (by decide)
  exact lc_tail C M.1 M.2.1 dL_law_441 dL_law_443 dL_law_444 dL_law_447 dL_law_449 dL_law_454 dL_law_456 dL_law_459 dL_law_460 dL_law_461 dL_law_462 dL_law_464 dL_law_465 dL_law_466 dL_law_471 (by decide) (lk_out K h120 hx1 hw1 hL1 M.2.2)
set_option maxRecDepth 100000 in
set_option maxHeartbeats 4000000 in
theorem lcs_5 (hst : l.stackTraces = false) (C : GC p s m args meth c code RL (cM :: W0) 9 D A (zty T)) (E : GE T A s) (N : NX s) (hX : va_X b Lx xs s s.heap) (hbl : b < s.heap.size) (hbA : ¬ A b) (hLx : Lx ≤ 3072) (hi : i + 6 ≤ Lx) (hkc : kc9 + 210 ≤ kc) (hks : ks9 + 12400 ≤ ks) (hI : LInv T a S L mu g bb sh r q) (K : LK p l e s m args below meth c D A Q T a ar ol od m0 b i kc9 ks9) : GW p l e room_1 s m args below meth c D A 9 601024 7293034 Q (LWW T ol od m0 ar f fd S L r q) kc ks 474 [(0, .ref b), (1, .ref (a 50)), (2, .ref m0), (3, .ref ol), (4, .ref od), (5, .int (nI i))] [] := by
  obtain ⟨hL, hw, hF, hR, h120⟩ := hI
  refine g_aload_n C dL_law_474 rfl 1 rfl ?_
  refine gl_arg C hX hbl hbA hLx hi 1 (by decide) (by decide) 0 5 rfl rfl dL_law_475 dL_law_476 dL_law_478 dL_law_479 dL_law_480 ?_
  refine gl_arg C hX hbl hbA hLx hi 2 (by decide) (by decide) 0 5 rfl rfl dL_law_481 dL_law_482 dL_law_484 dL_law_485 dL_law_486 ?_
  refine g_aload_n C dL_law_487 rfl 3 rfl ?_
  refine gw_perm pmJ ?_
  refine gl_hlp (mk := oJ T) C E N hw hL [.ref (a 50), .int (xs (i + 1)), .int (xs (i + 2)), .ref ol] rfl (h_L_version l hst D T (a 50) ol (xs (i + 1)) (xs (i + 2)) S f a mu g bb sh (li_x0 hF) ⟨hF, rfl⟩) (w0_SW 4 C.2.2.2.2.1 kw_992 kw_993 kw_0 kw_994 rfl rfl (by decide +kernel) ⟨Nat.le_of_ble_eq_true rfl, Nat.le_of_ble_eq_true rfl⟩) rfl (Nat.le_of_ble_eq_true rfl) (Nat.le_of_ble_eq_true rfl) (Nat.le_of_ble_eq_true rfl) (by omega) (by omega) dL_law_488 (fun k S1 L1 f1 hx1 hw1 hL1 hp => ?_)
  refine gw_perm pmJ.symm ?_
  refine gw_less (kc' := kc9) (ks' := ks9) (by omega) (by omega) ?_
  refine g_istore (lv' := (6, .int k) :: [(0, .ref b), (1, .ref (a 50)), (2, .ref m0), (3, .ref ol), (4, .ref od), (5, .int (nI i))]) C dL_law_491 (by decide) rfl ?_
  refine g_aload_n C dL_law_493 rfl 3 rfl ?_
  refine gl_arg C hX hbl hbA hLx hi 1 (by decide) (by decide) 1 6 rfl rfl dL_law_494 dL_law_495 dL_law_497 dL_law_498 dL_law_499 ?_
  refine gl_arg C hX hbl hbA hLx hi 2 (by decide) (by decide) 1 6 rfl rfl dL_law_500 dL_law_501 dL_law_503 dL_law_504 dL_law_505 ?_
  refine gw_perm pmR ?_
  refine gl_refi C [.int (xs (i + 1)), .int (xs (i + 2))] rfl (k_X11_version l D T m0 ar (xs (i + 1)) (xs (i + 2)) r q (by rw [hR.1]; exact (rz_gwf hF).1)) (w0_V 2 C.2.2.2.2.1 kw_1970 kw_1971 kw_1972 kw_9 kw_1973 rfl rfl (by decide +kernel) ⟨Nat.le_of_ble_eq_true rfl, Nat.le_of_ble_eq_true rfl⟩) rfl (Nat.le_of_ble_eq_true rfl) (Nat.le_of_ble_eq_true rfl) (Nat.le_of_ble_eq_true rfl) dL_law_506 (fun v r1 q1 hq => ?_)
  refine gw_perm pmR.symm ?_
  rw [hR.1] at hq
  have M := rz_read (Lq := []) hR hp hq.2.1 (fun j _ => congrFun (show q1 = q from hq.1) j) hq.2.2.1 hq.2.2.2 (by decide)
  exact lc_tail C M.1 M.2.1 dL_law_509 dL_law_511 dL_law_512 dL_law_515 dL_law_517 dL_law_522 dL_law_524 dL_law_527 dL_law_528 dL_law_529 dL_law_530 dL_law_532 dL_law_533 dL_law_534 dL_law_539 (by decide) (lk_out K h120 hx1 hw1 hL1 M.2.2)
set_option maxRecDepth 100000 in
set_option maxHeartbeats 4000000 in
theorem lcs_6 (hst : l.stackTraces = false) (C : GC p s m args meth c code RL (cM :: W0) 9 D A (zty T)) (E : GE T A s) (N : NX s) (hX : va_X b Lx xs s s.heap) (hbl : b < s.heap.size) (hbA : ¬ A b) (hLx : Lx ≤ 3072) (hi : i + 6 ≤ Lx) (hkc : kc9 + 210 ≤ kc) (hks : ks9 + 12400 ≤ ks) (hI : LInv T a S L mu g bb sh r q) (K : LK p l e s m args below meth c D A Q T a ar ol od m0 b i kc9 ks9) : GW p l e room_1 s m args below meth c D A 9 601024 7293034 Q (LWW T ol od m0 ar f fd S L r q) kc ks 542 [(0, .ref b), (1, .ref (a 50)), (2, .ref m0), (3, .ref ol), (4, .ref od), (5, .int (nI i))] [] := by
  obtain ⟨hL, hw, hF, hR, h120⟩ := hI
  refine g_aload_n C dL_law_542 rfl 1 rfl ?_
  refine gl_arg C hX hbl hbA hLx hi 1 (by decide) (by decide) 0 5 rfl rfl dL_law_543 dL_law_544 dL_law_546 dL_law_547 dL_law_548 ?_
  refine gl_arg C hX hbl hbA hLx hi 2 (by decide) (by decide) 0 5 rfl rfl dL_law_549 dL_law_550 dL_law_552 dL_law_553 dL_law_554 ?_
  refine g_aload_n C dL_law_555 rfl 3 rfl ?_
  refine gw_perm pmJ ?_
  refine gl_hlp (mk := oJ T) C E N hw hL [.ref (a 50), .int (xs (i + 1)), .int (xs (i + 2)), .ref ol] rfl (h_L_zoneOf l hst D T (a 50) ol (xs (i + 1)) (xs (i + 2)) S f a mu g bb sh (li_x0 hF) ⟨hF, rfl⟩) (w0_SW 4 C.2.2.2.2.1 kw_1007 kw_1008 kw_0 kw_1009 rfl rfl (by decide +kernel) ⟨Nat.le_of_ble_eq_true rfl, Nat.le_of_ble_eq_true rfl⟩) rfl (Nat.le_of_ble_eq_true rfl) (Nat.le_of_ble_eq_true rfl) (Nat.le_of_ble_eq_true rfl) (by omega) (by omega) dL_law_556 (fun k S1 L1 f1 hx1 hw1 hL1 hp => ?_)
  refine gw_perm pmJ.symm ?_
  refine gw_less (kc' := kc9) (ks' := ks9) (by omega) (by omega) ?_
  refine g_istore (lv' := (6, .int k) :: [(0, .ref b), (1, .ref (a 50)), (2, .ref m0), (3, .ref ol), (4, .ref od), (5, .int (nI i))]) C dL_law_559 (by decide) rfl ?_
  refine g_aload_n C dL_law_561 rfl 3 rfl ?_
  refine gl_arg C hX hbl hbA hLx hi 1 (by decide) (by decide) 1 6 rfl rfl dL_law_562 dL_law_563 dL_law_565 dL_law_566 dL_law_567 ?_
  refine gl_arg C hX hbl hbA hLx hi 2 (by decide) (by decide) 1 6 rfl rfl dL_law_568 dL_law_569 dL_law_571 dL_law_572 dL_law_573 ?_
  refine gw_perm pmR ?_
  refine gl_refi C [.int (xs (i + 1)), .int (xs (i + 2))] rfl (k_X11_zoneOf l D T m0 ar (xs (i + 1)) (xs (i + 2)) r q (by rw [hR.1]; exact (rz_gwf hF).1)) (w0_V 2 C.2.2.2.2.1 kw_1985 kw_1986 kw_1987 kw_9 kw_1988 rfl rfl (by decide +kernel) ⟨Nat.le_of_ble_eq_true rfl, Nat.le_of_ble_eq_true rfl⟩) rfl (Nat.le_of_ble_eq_true rfl) (Nat.le_of_ble_eq_true rfl) (Nat.le_of_ble_eq_true rfl) dL_law_574 (fun v r1 q1 hq => ?_)
  refine gw_perm pmR.symm ?_
  rw [hR.1] at hq
  have M := rz_read (Lq := []) hR hp hq.2.1 (fun j _ => congrFun (show q1 = q from hq.1) j) hq.2.2.1 hq.2.2.2 (by decide)
  exact lc_tail C M.1 M.2.1 dL_law_577 dL_law_579 dL_law_580 dL_law_583 dL_law_585 dL_law_590 dL_law_592 dL_law_595 dL_law_596 dL_law_597 dL_law_598 dL_law_600 dL_law_601 dL_law_602 dL_law_607 (by decide) (lk_out K h120 hx1 hw1 hL1 M.2.2)
set_option maxRecDepth 100000 in
set_option maxHeartbeats 4000000 in
theorem lcs_7 (hst : l.stackTraces = false) (C : GC p s m args meth c code RL (cM :: W0) 9 D A (zty T)) (E : GE T A s) (N : NX s) (hX : va_X b Lx xs s s.heap) (hbl : b < s.heap.size) (hbA : ¬ A b) (hLx : Lx ≤ 3072) (hi : i + 6 ≤ Lx) (hkc : kc9 + 210 ≤ kc) (hks : ks9 + 12400 ≤ ks) (hI : LInv T a S L mu g bb sh r q) (K : LK p l e s m args below meth c D A Q T a ar ol od m0 b i kc9 ks9) : GW p l e room_1 s m args below meth c D A 9 601024 7293034 Q (LWW T ol od m0 ar f fd S L r q) kc ks 610 [(0, .ref b), (1, .ref (a 50)), (2, .ref m0), (3, .ref ol), (4, .ref od), (5, .int (nI i))] [] := by
  obtain ⟨hL, hw, hF, hR, h120⟩ := hI
  refine g_aload_n C dL_law_610 rfl 1 rfl ?_
  refine gl_arg C hX hbl hbA hLx hi 1 (by decide) (by decide) 0 5 rfl rfl dL_law_611 dL_law_612 dL_law_614 dL_law_615 dL_law_616 ?_
  refine gl_arg C hX hbl hbA hLx hi 2 (by decide) (by decide) 0 5 rfl rfl dL_law_617 dL_law_618 dL_law_620 dL_law_621 dL_law_622 ?_
  refine gl_arg C hX hbl hbA hLx hi 3 (by decide) (by decide) 0 5 rfl rfl dL_law_623 dL_law_624 dL_law_626 dL_law_627 dL_law_628 ?_
  refine gl_arg C hX hbl hbA hLx hi 4 (by decide) (by decide) 0 5 rfl rfl dL_law_629 dL_law_630 dL_law_632 dL_law_633 dL_law_634 ?_
  refine gl_ne0 C dL_law_635 dL_law_638 dL_law_639 dL_law_642 ?_
  refine g_aload_n C dL_law_643 rfl 3 rfl ?_
  refine gw_perm pmJ ?_
  refine gl_hlp (mk := oJ T) C E N hw hL [.ref (a 50), .int (xs (i + 1)), .int (xs (i + 2)), .int (xs (i + 3)), .int (if xs (i + 4) = 0 then 0 else 1), .ref ol] rfl (h_L_breakOf l hst D T (a 50) ol (xs (i + 1)) (xs (i + 2)) (xs (i + 3)) (if xs (i + 4) = 0 then 0 else 1) S f a mu g bb sh (li_x0 hF) ⟨hF, rfl⟩) (w0_SW 6 C.2.2.2.2.1 kw_1018 kw_1019 kw_0 kw_1020 rfl rfl (by decide +kernel) ⟨Nat.le_of_ble_eq_true rfl, Nat.le_of_ble_eq_true rfl⟩) rfl (Nat.le_of_ble_eq_true rfl) (Nat.le_of_ble_eq_true rfl) (Nat.le_of_ble_eq_true rfl) (by omega) (by omega) dL_law_644 (fun k S1 L1 f1 hx1 hw1 hL1 hp => ?_)
  refine gw_perm pmJ.symm ?_
  refine gw_less (kc' := kc9) (ks' := ks9) (by omega) (by omega) ?_
  refine g_istore (lv' := (6, .int k) :: [(0, .ref b), (1, .ref (a 50)), (2, .ref m0), (3, .ref ol), (4, .ref od), (5, .int (nI i))]) C dL_law_647 (by decide) rfl ?_
  refine g_aload_n C dL_law_649 rfl 3 rfl ?_
  refine gl_arg C hX hbl hbA hLx hi 1 (by decide) (by decide) 1 6 rfl rfl dL_law_650 dL_law_651 dL_law_653 dL_law_654 dL_law_655 ?_
  refine gl_arg C hX hbl hbA hLx hi 2 (by decide) (by decide) 1 6 rfl rfl dL_law_656 dL_law_657 dL_law_659 dL_law_660 dL_law_661 ?_
  refine gl_arg C hX hbl hbA hLx hi 3 (by decide) (by decide) 1 6 rfl rfl dL_law_662 dL_law_663 dL_law_665 dL_law_666 dL_law_667 ?_
  refine gl_arg C hX hbl hbA hLx hi 4 (by decide) (by decide) 1 6 rfl rfl dL_law_668 dL_law_669 dL_law_671 dL_law_672 dL_law_673 ?_
  refine gl_ne0 C dL_law_674 dL_law_677 dL_law_678 dL_law_681 ?_
  refine gw_perm pmR ?_
  refine gl_refi C [.int (xs (i + 1)), .int (xs (i + 2)), .int (xs (i + 3)), .int (if xs (i + 4) = 0 then 0 else 1)] rfl (k_X11_breakOf l D T m0 ar (xs (i + 1)) (xs (i + 2)) (xs (i + 3)) (if xs (i + 4) = 0 then 0 else 1) r q (by rw [hR.1]; exact (rz_gwf hF).1)) (w0_V 4 C.2.2.2.2.1 kw_1993 kw_1994 kw_1995 kw_9 kw_1996 rfl rfl (by decide +kernel) ⟨Nat.le_of_ble_eq_true rfl, Nat.le_of_ble_eq_true rfl⟩) rfl (Nat.le_of_ble_eq_true rfl) (Nat.le_of_ble_eq_true rfl) (Nat.le_of_ble_eq_true rfl) dL_law_682 (fun v r1 q1 hq => ?_)
  refine gw_perm pmR.symm ?_
  rw [hR.1] at hq
  have M := rz_read (Lq := []) hR hp hq.2.1 (fun j _ => congrFun (show q1 = q from hq.1) j) hq.2.2.1 hq.2.2.2 (by decide)
  exact lc_tail C M.1 M.2.1 dL_law_685 dL_law_687 dL_law_688 dL_law_691 dL_law_693 dL_law_698 dL_law_700 dL_law_703 dL_law_704 dL_law_705 dL_law_706 dL_law_708 dL_law_709 dL_law_710 dL_law_715 (by decide) (lk_out K h120 hx1 hw1 hL1 M.2.2)
set_option maxRecDepth 100000 in
set_option maxHeartbeats 4000000 in
theorem lcs_8 (hst : l.stackTraces = false) (C : GC p s m args meth c code RL (cM :: W0) 9 D A (zty T)) (E : GE T A s) (N : NX s) (hX : va_X b Lx xs s s.heap) (hbl : b < s.heap.size) (hbA : ¬ A b) (hLx : Lx ≤ 3072) (hi : i + 6 ≤ Lx) (hkc : kc9 + 210 ≤ kc) (hks : ks9 + 12400 ≤ ks) (hI : LInv T a S L mu g bb sh r q) (K : LK p l e s m args below meth c D A Q T a ar ol od m0 b i kc9 ks9) : GW p l e room_1 s m args below meth c D A 9 601024 7293034 Q (LWW T ol od m0 ar f fd S L r q) kc ks 718 [(0, .ref b), (1, .ref (a 50)), (2, .ref m0), (3, .ref ol), (4, .ref od), (5, .int (nI i))] [] := by
  obtain ⟨hL, hw, hF, hR, h120⟩ := hI
  refine g_aload_n C dL_law_718 rfl 1 rfl ?_
  refine gl_arg C hX hbl hbA hLx hi 1 (by decide) (by decide) 0 5 rfl rfl dL_law_719 dL_law_720 dL_law_722 dL_law_723 dL_law_724 ?_
  refine gl_arg C hX hbl hbA hLx hi 2 (by decide) (by decide) 0 5 rfl rfl dL_law_725 dL_law_726 dL_law_728 dL_law_729 dL_law_730 ?_
  refine gl_arg C hX hbl hbA hLx hi 3 (by decide) (by decide) 0 5 rfl rfl dL_law_731 dL_law_732 dL_law_734 dL_law_735 dL_law_736 ?_
  refine g_aload_n C dL_law_737 rfl 3 rfl ?_
  refine gw_perm pmJ ?_
  refine gl_hlp (mk := oJ T) C E N hw hL [.ref (a 50), .int (xs (i + 1)), .int (xs (i + 2)), .int (xs (i + 3)), .ref ol] rfl (h_L_accessorial l hst D T (a 50) ol (xs (i + 1)) (xs (i + 2)) (xs (i + 3)) S f a mu g bb sh (li_x0 hF) ⟨hF, rfl⟩) (w0_SW 5 C.2.2.2.2.1 kw_1030 kw_1031 kw_0 kw_1032 rfl rfl (by decide +kernel) ⟨Nat.le_of_ble_eq_true rfl, Nat.le_of_ble_eq_true rfl⟩) rfl (Nat.le_of_ble_eq_true rfl) (Nat.le_of_ble_eq_true rfl) (Nat.le_of_ble_eq_true rfl) (by omega) (by omega) dL_law_738 (fun k S1 L1 f1 hx1 hw1 hL1 hp => ?_)
  refine gw_perm pmJ.symm ?_
  refine gw_less (kc' := kc9) (ks' := ks9) (by omega) (by omega) ?_
  refine g_istore (lv' := (6, .int k) :: [(0, .ref b), (1, .ref (a 50)), (2, .ref m0), (3, .ref ol), (4, .ref od), (5, .int (nI i))]) C dL_law_741 (by decide) rfl ?_
  refine g_aload_n C dL_law_743 rfl 3 rfl ?_
  refine gl_arg C hX hbl hbA hLx hi 1 (by decide) (by decide) 1 6 rfl rfl dL_law_744 dL_law_745 dL_law_747 dL_law_748 dL_law_749 ?_
  refine gl_arg C hX hbl hbA hLx hi 2 (by decide) (by decide) 1 6 rfl rfl dL_law_750 dL_law_751 dL_law_753 dL_law_754 dL_law_755 ?_
  refine gl_arg C hX hbl hbA hLx hi 3 (by decide) (by decide) 1 6 rfl rfl dL_law_756 dL_law_757 dL_law_759 dL_law_760 dL_law_761 ?_
  refine gw_perm pmR ?_
  refine gl_refi C [.int (xs (i + 1)), .int (xs (i + 2)), .int (xs (i + 3))] rfl (k_X11_accessorial l D T m0 ar (xs (i + 1)) (xs (i + 2)) (xs (i + 3)) r q (by rw [hR.1]; exact (rz_gwf hF).1)) (w0_V 3 C.2.2.2.2.1 kw_2008 kw_2009 kw_2010 kw_9 kw_2011 rfl rfl (by decide +kernel) ⟨Nat.le_of_ble_eq_true rfl, Nat.le_of_ble_eq_true rfl⟩) rfl (Nat.le_of_ble_eq_true rfl) (Nat.le_of_ble_eq_true rfl) (Nat.le_of_ble_eq_true rfl) dL_law_762 (fun v r1 q1 hq => ?_)
  refine gw_perm pmR.symm ?_
  rw [hR.1] at hq
  have M := rz_read (Lq := []) hR hp hq.2.1 (fun j _ => congrFun (show q1 = q from hq.1) j) hq.2.2.1 hq.2.2.2 (by decide)
  exact lc_tail C M.1 M.2.1 dL_law_765 dL_law_767 dL_law_768 dL_law_771 dL_law_773 dL_law_778 dL_law_780 dL_law_783 dL_law_784 dL_law_785 dL_law_786 dL_law_788 dL_law_789 dL_law_790 dL_law_795 (by decide) (lk_out K h120 hx1 hw1 hL1 M.2.2)
set_option maxRecDepth 100000 in
set_option maxHeartbeats 4000000 in
theorem lcs_9 (hst : l.stackTraces = false) (C : GC p s m args meth c code RL (cM :: W0) 9 D A (zty T)) (E : GE T A s) (N : NX s) (hX : va_X b Lx xs s s.heap) (hbl : b < s.heap.size) (hbA : ¬ A b) (hLx : Lx ≤ 3072) (hi : i + 6 ≤ Lx) (hkc : kc9 + 210 ≤ kc) (hks : ks9 + 12400 ≤ ks) (hI : LInv T a S L mu g bb sh r q) (K : LK p l e s m args below meth c D A Q T a ar ol od m0 b i kc9 ks9) : GW p l e room_1 s m args below meth c D A 9 601024 7293034 Q (LWW T ol od m0 ar f fd S L r q) kc ks 798 [(0, .ref b), (1, .ref (a 50)), (2, .ref m0), (3, .ref ol), (4, .ref od), (5, .int (nI i))] [] := by
  obtain ⟨hL, hw, hF, hR, h120⟩ := hI
  refine g_aload_n C dL_law_798 rfl 1 rfl ?_
  refine gl_arg C hX hbl hbA hLx hi 1 (by decide) (by decide) 0 5 rfl rfl dL_law_799 dL_law_800 dL_law_802 dL_law_803 dL_law_804 ?_
  refine gl_arg C hX hbl hbA hLx hi 2 (by decide) (by decide) 0 5 rfl rfl dL_law_805 dL_law_806 dL_law_808 dL_law_809 dL_law_810 ?_
  refine gl_arg C hX hbl hbA hLx hi 3 (by decide) (by decide) 0 5 rfl rfl dL_law_811 dL_law_812 dL_law_814 dL_law_815 dL_law_816 ?_
  refine g_aload_n C dL_law_817 rfl 3 rfl ?_
  refine gw_perm pmJ ?_
  refine gl_hlp (mk := oJ T) C E N hw hL [.ref (a 50), .int (xs (i + 1)), .int (xs (i + 2)), .int (xs (i + 3)), .ref ol] rfl (h_L_base l hst D T (a 50) ol (xs (i + 1)) (xs (i + 2)) (xs (i + 3)) S f a mu g bb sh (li_x0 hF) ⟨hF, rfl⟩) (w0_SW 5 C.2.2.2.2.1 kw_1042 kw_1043 kw_0 kw_1044 rfl rfl (by decide +kernel) ⟨Nat.le_of_ble_eq_true rfl, Nat.le_of_ble_eq_true rfl⟩) rfl (Nat.le_of_ble_eq_true rfl) (Nat.le_of_ble_eq_true rfl) (Nat.le_of_ble_eq_true rfl) (by omega) (by omega) dL_law_818 (fun k S1 L1 f1 hx1 hw1 hL1 hp => ?_)
  refine gw_perm pmJ.symm ?_
  refine gw_less (kc' := kc9) (ks' := ks9) (by omega) (by omega) ?_
  refine g_istore (lv' := (6, .int k) :: [(0, .ref b), (1, .ref (a 50)), (2, .ref m0), (3, .ref ol), (4, .ref od), (5, .int (nI i))]) C dL_law_821 (by decide) rfl ?_
  refine g_aload_n C dL_law_823 rfl 3 rfl ?_
  refine gl_arg C hX hbl hbA hLx hi 1 (by decide) (by decide) 1 6 rfl rfl dL_law_824 dL_law_825 dL_law_827 dL_law_828 dL_law_829 ?_
  refine gl_arg C hX hbl hbA hLx hi 2 (by decide) (by decide) 1 6 rfl rfl dL_law_830 dL_law_831 dL_law_833 dL_law_834 dL_law_835 ?_
  refine gl_arg C hX hbl hbA hLx hi 3 (by decide) (by decide) 1 6 rfl rfl dL_law_836 dL_law_837 dL_law_839 dL_law_840 dL_law_841 ?_
  refine gw_perm pmR ?_
  refine gl_refi C [.int (xs (i + 1)), .int (xs (i + 2)), .int (xs (i + 3))] rfl (k_X11_base l D T m0 ar (xs (i + 1)) (xs (i + 2)) (xs (i + 3)) r q (by rw [hR.1]; exact (rz_gwf hF).1)) (w0_V 3 C.2.2.2.2.1 kw_2012 kw_2013 kw_2014 kw_9 kw_2015 rfl rfl (by decide +kernel) ⟨Nat.le_of_ble_eq_true rfl, Nat.le_of_ble_eq_true rfl⟩) rfl (Nat.le_of_ble_eq_true rfl) (Nat.le_of_ble_eq_true rfl) (Nat.le_of_ble_eq_true rfl) dL_law_842 (fun v r1 q1 hq => ?_)
  refine gw_perm pmR.symm ?_
  rw [hR.1] at hq
  have M := rz_read (Lq := []) hR hp hq.2.1 (fun j _ => congrFun (show q1 = q from hq.1) j) hq.2.2.1 hq.2.2.2 (by decide)
  exact lc_tail C M.1 M.2.1 dL_law_845 dL_law_847 dL_law_848 dL_law_851 dL_law_853 dL_law_858 dL_law_860 dL_law_863 dL_law_864 dL_law_865 dL_law_866 dL_law_868 dL_law_869 dL_law_870 dL_law_875 (by decide) (lk_out K h120 hx1 hw1 hL1 M.2.2)
set_option maxRecDepth 100000 in
set_option maxHeartbeats 4000000 in
theorem lcs_10 (hst : l.stackTraces = false) (C : GC p s m args meth c code RL (cM :: W0) 9 D A (zty T)) (E : GE T A s) (N : NX s) (hX : va_X b Lx xs s s.heap) (hbl : b < s.heap.size) (hbA : ¬ A b) (hLx : Lx ≤ 3072) (hi : i + 6 ≤ Lx) (hkc : kc9 + 210 ≤ kc) (hks : ks9 + 12400 ≤ ks) (hI : LInv T a S L mu g bb sh r q) (K : LK p l e s m args below meth c D A Q T a ar ol od m0 b i kc9 ks9) : GW p l e room_1 s m args below meth c D A 9 601024 7293034 Q (LWW T ol od m0 ar f fd S L r q) kc ks 878 [(0, .ref b), (1, .ref (a 50)), (2, .ref m0), (3, .ref ol), (4, .ref od), (5, .int (nI i))] [] := by
  obtain ⟨hL, hw, hF, hR, h120⟩ := hI
  refine g_aload_n C dL_law_878 rfl 1 rfl ?_
  refine gl_arg C hX hbl hbA hLx hi 1 (by decide) (by decide) 0 5 rfl rfl dL_law_879 dL_law_880 dL_law_882 dL_law_883 dL_law_884 ?_
  refine gl_arg C hX hbl hbA hLx hi 2 (by decide) (by decide) 0 5 rfl rfl dL_law_885 dL_law_886 dL_law_888 dL_law_889 dL_law_890 ?_
  refine gl_arg C hX hbl hbA hLx hi 3 (by decide) (by decide) 0 5 rfl rfl dL_law_891 dL_law_892 dL_law_894 dL_law_895 dL_law_896 ?_
  refine gl_arg C hX hbl hbA hLx hi 4 (by decide) (by decide) 0 5 rfl rfl dL_law_897 dL_law_898 dL_law_900 dL_law_901 dL_law_902 ?_
  refine g_aload_n C dL_law_903 rfl 3 rfl ?_
  refine gw_perm pmJ ?_
  refine gl_hlp (mk := oJ T) C E N hw hL [.ref (a 50), .int (xs (i + 1)), .int (xs (i + 2)), .int (xs (i + 3)), .int (xs (i + 4)), .ref ol] rfl (h_L_ship l hst D T (a 50) ol (xs (i + 1)) (xs (i + 2)) (xs (i + 3)) (xs (i + 4)) S f a mu g bb sh (li_x0 hF) ⟨hF, rfl⟩) (w0_SW 6 C.2.2.2.2.1 kw_1063 kw_1064 kw_0 kw_1065 rfl rfl (by decide +kernel) ⟨Nat.le_of_ble_eq_true rfl, Nat.le_of_ble_eq_true rfl⟩) rfl (Nat.le_of_ble_eq_true rfl) (Nat.le_of_ble_eq_true rfl) (Nat.le_of_ble_eq_true rfl) (by omega) (by omega) dL_law_904 (fun k S1 L1 f1 hx1 hw1 hL1 hp => ?_)
  refine gw_perm pmJ.symm ?_
  refine gw_less (kc' := kc9) (ks' := ks9) (by omega) (by omega) ?_
  refine g_istore (lv' := (6, .int k) :: [(0, .ref b), (1, .ref (a 50)), (2, .ref m0), (3, .ref ol), (4, .ref od), (5, .int (nI i))]) C dL_law_907 (by decide) rfl ?_
  refine g_aload_n C dL_law_909 rfl 3 rfl ?_
  refine gl_arg C hX hbl hbA hLx hi 1 (by decide) (by decide) 1 6 rfl rfl dL_law_910 dL_law_911 dL_law_913 dL_law_914 dL_law_915 ?_
  refine gl_arg C hX hbl hbA hLx hi 2 (by decide) (by decide) 1 6 rfl rfl dL_law_916 dL_law_917 dL_law_919 dL_law_920 dL_law_921 ?_
  refine gl_arg C hX hbl hbA hLx hi 3 (by decide) (by decide) 1 6 rfl rfl dL_law_922 dL_law_923 dL_law_925 dL_law_926 dL_law_927 ?_
  refine gl_arg C hX hbl hbA hLx hi 4 (by decide) (by decide) 1 6 rfl rfl dL_law_928 dL_law_929 dL_law_931 dL_law_932 dL_law_933 ?_
  refine gw_perm pmR ?_
  refine gl_refi C [.int (xs (i + 1)), .int (xs (i + 2)), .int (xs (i + 3)), .int (xs (i + 4))] rfl (k_X11_ship l D T m0 ar (xs (i + 1)) (xs (i + 2)) (xs (i + 3)) (xs (i + 4)) r q ⟨(by rw [hR.1]; exact (rz_gwf hF).1), (rz_cw8 hF hR)⟩) (w0_V 4 C.2.2.2.2.1 kw_2108 kw_2109 kw_2110 kw_9 kw_2111 rfl rfl (by decide +kernel) ⟨Nat.le_of_ble_eq_true rfl, Nat.le_of_ble_eq_true rfl⟩) rfl (Nat.le_of_ble_eq_true rfl) (Nat.le_of_ble_eq_true rfl) (Nat.le_of_ble_eq_true rfl) dL_law_934 (fun v r1 q1 hq => ?_)
  refine gw_perm pmR.symm ?_
  rw [hR.1] at hq
  have M := rz_stP hF hR hp hq
  exact lc_tail C M.1 M.2.1 dL_law_937 dL_law_939 dL_law_940 dL_law_943 dL_law_945 dL_law_950 dL_law_952 dL_law_955 dL_law_956 dL_law_957 dL_law_958 dL_law_960 dL_law_961 dL_law_962 dL_law_967 (by decide) (lk_out K h120 hx1 hw1 hL1 M.2.2)
end LCSL
