section GTHROW
set_option maxRecDepth 100000 in
theorem th_FreightRater_62 {T : Nat → ClassId} {A : Nat → Prop} {s : State} {args : Array Value} (hW : ∀ {w : Cond}, w ∈ W0 → w.before args s = true) (E : GE T A s) : ∀ w ∈ vx_at0 "FreightRater" 62 "java/lang/IllegalArgumentException" ["java/lang/RuntimeException", "java/lang/Exception"], w.before args s = true := by
  intro w hw
  have h1 := (List.mem_filter.mp hw).1
  have h2 := (List.mem_filter.mp hw).2
  clear hw
  simp only [Bundle.ownAtoms0, Bundle.throwableAtoms, Bundle.chain0Atoms, Bundle.passAtoms, List.cons_append, List.nil_append, List.append_nil, List.mem_cons, List.not_mem_nil, or_false] at h1
  rcases h1 with rfl | rfl | rfl | rfl | rfl | rfl | rfl | rfl | rfl | rfl | rfl | rfl | rfl | rfl | rfl | rfl | rfl | rfl | rfl | rfl | rfl | rfl | rfl | rfl | rfl | rfl | rfl | rfl | rfl | rfl | rfl | rfl | rfl | rfl | rfl | rfl | rfl | rfl | rfl | rfl | rfl | rfl | rfl | rfl | rfl | rfl | rfl | rfl | rfl | rfl | rfl | rfl | rfl
  · exact hW kw_10
  · exact hW kw_332
  · exact hW kw_341
  · exact hW kw_349
  · exact hW kw_352
  · exact hW kw_354
  · exact hW kw_333
  · exact hW kw_334
  · exact hW kw_46
  · exact hW kw_47
  · exact hW kw_335
  · exact hW kw_340
  · exact hW kw_350
  · exact hW kw_367
  · exact hW kw_322
  · exact hW kw_368
  · exact hW kw_324
  · exact hW kw_369
  · exact hW kw_326
  · exact hW kw_336
  · exact absurd h2 (by decide)
  · exact hW kw_338
  · exact absurd h2 (by decide)
  · exact hW kw_328
  · exact hW kw_356
  · exact hW kw_357
  · exact hW kw_358
  · exact hW kw_359
  · exact va_Nw.use rfl (E.2.2.2.1 _ (by decide))
  · exact hW kw_359
  · exact hW kw_360
  · exact hW kw_361
  · exact hW kw_362
  · exact va_Nw.use rfl (E.2.2.2.1 _ (by decide))
  · exact hW kw_362
  · exact hW kw_363
  · exact hW kw_364
  · exact hW kw_333
  · exact va_Nw.use rfl (E.2.2.2.1 _ (by decide))
  · exact hW kw_355
  · exact hW kw_311
  · exact va_Nw.use rfl (E.2.1 ("java/lang/IllegalArgumentException", "java/lang/IllegalArgumentException") (by decide))
  · exact hW kw_319
  · exact hW kw_320
  · exact hW kw_321
  · exact hW kw_323
  · exact hW kw_325
  · exact hW kw_327
  · exact absurd h2 (by decide)
  · exact absurd h2 (by decide)
  · exact hW kw_331
  · exact hW kw_330
  · exact hW kw_329
set_option maxRecDepth 100000 in
theorem tv_FreightRater_62 : ∀ w ∈ Cond.classLink "FreightRater" 60 "java/lang/IllegalArgumentException" :: Cond.initialized "java/lang/IllegalArgumentException" :: vx_at0 "FreightRater" 62 "java/lang/IllegalArgumentException" ["java/lang/RuntimeException", "java/lang/Exception"], vx_ot w = true := by decide +kernel
set_option maxRecDepth 100000 in
theorem th_FreightRater_72 {T : Nat → ClassId} {A : Nat → Prop} {s : State} {args : Array Value} (hW : ∀ {w : Cond}, w ∈ W0 → w.before args s = true) (E : GE T A s) : ∀ w ∈ vx_at0 "FreightRater" 72 "java/lang/IndexOutOfBoundsException" ["java/lang/RuntimeException", "java/lang/Exception"], w.before args s = true := by
  intro w hw
  have h1 := (List.mem_filter.mp hw).1
  have h2 := (List.mem_filter.mp hw).2
  clear hw
  simp only [Bundle.ownAtoms0, Bundle.throwableAtoms, Bundle.chain0Atoms, Bundle.passAtoms, List.cons_append, List.nil_append, List.append_nil, List.mem_cons, List.not_mem_nil, or_false] at h1
  rcases h1 with rfl | rfl | rfl | rfl | rfl | rfl | rfl | rfl | rfl | rfl | rfl | rfl | rfl | rfl | rfl | rfl | rfl | rfl | rfl | rfl | rfl | rfl | rfl | rfl | rfl | rfl | rfl | rfl | rfl | rfl | rfl | rfl | rfl | rfl | rfl | rfl | rfl | rfl | rfl | rfl | rfl | rfl | rfl | rfl | rfl | rfl | rfl | rfl | rfl | rfl | rfl | rfl | rfl
  · exact hW kw_10
  · exact hW kw_332
  · exact hW kw_341
  · exact hW kw_349
  · exact hW kw_352
  · exact hW kw_354
  · exact hW kw_333
  · exact hW kw_334
  · exact hW kw_46
  · exact hW kw_47
  · exact hW kw_335
  · exact hW kw_340
  · exact hW kw_350
  · exact hW kw_367
  · exact hW kw_322
  · exact hW kw_368
  · exact hW kw_324
  · exact hW kw_369
  · exact hW kw_326
  · exact hW kw_336
  · exact absurd h2 (by decide)
  · exact hW kw_338
  · exact absurd h2 (by decide)
  · exact hW kw_328
  · exact hW kw_475
  · exact hW kw_476
  · exact hW kw_477
  · exact hW kw_359
  · exact va_Nw.use rfl (E.2.2.2.1 _ (by decide))
  · exact hW kw_359
  · exact hW kw_360
  · exact hW kw_361
  · exact hW kw_362
  · exact va_Nw.use rfl (E.2.2.2.1 _ (by decide))
  · exact hW kw_362
  · exact hW kw_363
  · exact hW kw_364
  · exact hW kw_333
  · exact va_Nw.use rfl (E.2.2.2.1 _ (by decide))
  · exact hW kw_474
  · exact hW kw_466
  · exact va_Nw.use rfl (E.2.1 ("java/lang/IndexOutOfBoundsException", "java/lang/IndexOutOfBoundsException") (by decide))
  · exact hW kw_468
  · exact hW kw_345
  · exact hW kw_469
  · exact hW kw_470
  · exact hW kw_471
  · exact hW kw_472
  · exact absurd h2 (by decide)
  · exact absurd h2 (by decide)
  · exact hW kw_331
  · exact hW kw_330
  · exact hW kw_473
set_option maxRecDepth 100000 in
theorem tv_FreightRater_72 : ∀ w ∈ Cond.classLink "FreightRater" 70 "java/lang/IndexOutOfBoundsException" :: Cond.initialized "java/lang/IndexOutOfBoundsException" :: vx_at0 "FreightRater" 72 "java/lang/IndexOutOfBoundsException" ["java/lang/RuntimeException", "java/lang/Exception"], vx_ot w = true := by decide +kernel
set_option maxRecDepth 100000 in
theorem th_FreightRater_78 {T : Nat → ClassId} {A : Nat → Prop} {s : State} {args : Array Value} (hW : ∀ {w : Cond}, w ∈ W0 → w.before args s = true) (E : GE T A s) : ∀ w ∈ vx_at0 "FreightRater" 78 "java/lang/IllegalStateException" ["java/lang/RuntimeException", "java/lang/Exception"], w.before args s = true := by
  intro w hw
  have h1 := (List.mem_filter.mp hw).1
  have h2 := (List.mem_filter.mp hw).2
  clear hw
  simp only [Bundle.ownAtoms0, Bundle.throwableAtoms, Bundle.chain0Atoms, Bundle.passAtoms, List.cons_append, List.nil_append, List.append_nil, List.mem_cons, List.not_mem_nil, or_false] at h1
  rcases h1 with rfl | rfl | rfl | rfl | rfl | rfl | rfl | rfl | rfl | rfl | rfl | rfl | rfl | rfl | rfl | rfl | rfl | rfl | rfl | rfl | rfl | rfl | rfl | rfl | rfl | rfl | rfl | rfl | rfl | rfl | rfl | rfl | rfl | rfl | rfl | rfl | rfl | rfl | rfl | rfl | rfl | rfl | rfl | rfl | rfl | rfl | rfl | rfl | rfl | rfl | rfl | rfl | rfl
  · exact hW kw_10
  · exact hW kw_332
  · exact hW kw_341
  · exact hW kw_349
  · exact hW kw_352
  · exact hW kw_354
  · exact hW kw_333
  · exact hW kw_334
  · exact hW kw_46
  · exact hW kw_47
  · exact hW kw_335
  · exact hW kw_340
  · exact hW kw_350
  · exact hW kw_367
  · exact hW kw_322
  · exact hW kw_368
  · exact hW kw_324
  · exact hW kw_369
  · exact hW kw_326
  · exact hW kw_336
  · exact absurd h2 (by decide)
  · exact hW kw_338
  · exact absurd h2 (by decide)
  · exact hW kw_328
  · exact hW kw_490
  · exact hW kw_491
  · exact hW kw_492
  · exact hW kw_359
  · exact va_Nw.use rfl (E.2.2.2.1 _ (by decide))
  · exact hW kw_359
  · exact hW kw_360
  · exact hW kw_361
  · exact hW kw_362
  · exact va_Nw.use rfl (E.2.2.2.1 _ (by decide))
  · exact hW kw_362
  · exact hW kw_363
  · exact hW kw_364
  · exact hW kw_333
  · exact va_Nw.use rfl (E.2.2.2.1 _ (by decide))
  · exact hW kw_489
  · exact hW kw_481
  · exact va_Nw.use rfl (E.2.1 ("java/lang/IllegalStateException", "java/lang/IllegalStateException") (by decide))
  · exact hW kw_483
  · exact hW kw_344
  · exact hW kw_484
  · exact hW kw_485
  · exact hW kw_486
  · exact hW kw_487
  · exact absurd h2 (by decide)
  · exact absurd h2 (by decide)
  · exact hW kw_331
  · exact hW kw_330
  · exact hW kw_488
set_option maxRecDepth 100000 in
theorem tv_FreightRater_78 : ∀ w ∈ Cond.classLink "FreightRater" 76 "java/lang/IllegalStateException" :: Cond.initialized "java/lang/IllegalStateException" :: vx_at0 "FreightRater" 78 "java/lang/IllegalStateException" ["java/lang/RuntimeException", "java/lang/Exception"], vx_ot w = true := by decide +kernel
set_option maxRecDepth 100000 in
theorem th_FreightRater_129 {T : Nat → ClassId} {A : Nat → Prop} {s : State} {args : Array Value} (hW : ∀ {w : Cond}, w ∈ W0 → w.before args s = true) (E : GE T A s) : ∀ w ∈ vx_at0 "FreightRater" 129 "java/lang/UnsupportedOperationException" ["java/lang/RuntimeException", "java/lang/Exception"], w.before args s = true := by
  intro w hw
  have h1 := (List.mem_filter.mp hw).1
  have h2 := (List.mem_filter.mp hw).2
  clear hw
  simp only [Bundle.ownAtoms0, Bundle.throwableAtoms, Bundle.chain0Atoms, Bundle.passAtoms, List.cons_append, List.nil_append, List.append_nil, List.mem_cons, List.not_mem_nil, or_false] at h1
  rcases h1 with rfl | rfl | rfl | rfl | rfl | rfl | rfl | rfl | rfl | rfl | rfl | rfl | rfl | rfl | rfl | rfl | rfl | rfl | rfl | rfl | rfl | rfl | rfl | rfl | rfl | rfl | rfl | rfl | rfl | rfl | rfl | rfl | rfl | rfl | rfl | rfl | rfl | rfl | rfl | rfl | rfl | rfl | rfl | rfl | rfl | rfl | rfl | rfl | rfl | rfl | rfl | rfl | rfl
  · exact hW kw_10
  · exact hW kw_332
  · exact hW kw_341
  · exact hW kw_349
  · exact hW kw_352
  · exact hW kw_354
  · exact hW kw_333
  · exact hW kw_334
  · exact hW kw_46
  · exact hW kw_47
  · exact hW kw_335
  · exact hW kw_340
  · exact hW kw_350
  · exact hW kw_367
  · exact hW kw_322
  · exact hW kw_368
  · exact hW kw_324
  · exact hW kw_369
  · exact hW kw_326
  · exact hW kw_336
  · exact absurd h2 (by decide)
  · exact hW kw_338
  · exact absurd h2 (by decide)
  · exact hW kw_328
  · exact hW kw_953
  · exact hW kw_954
  · exact hW kw_955
  · exact hW kw_359
  · exact va_Nw.use rfl (E.2.2.2.1 _ (by decide))
  · exact hW kw_359
  · exact hW kw_360
  · exact hW kw_361
  · exact hW kw_362
  · exact va_Nw.use rfl (E.2.2.2.1 _ (by decide))
  · exact hW kw_362
  · exact hW kw_363
  · exact hW kw_364
  · exact hW kw_333
  · exact va_Nw.use rfl (E.2.2.2.1 _ (by decide))
  · exact hW kw_952
  · exact hW kw_944
  · exact va_Nw.use rfl (E.2.1 ("java/lang/UnsupportedOperationException", "java/lang/UnsupportedOperationException") (by decide))
  · exact hW kw_946
  · exact hW kw_347
  · exact hW kw_947
  · exact hW kw_948
  · exact hW kw_949
  · exact hW kw_950
  · exact absurd h2 (by decide)
  · exact absurd h2 (by decide)
  · exact hW kw_331
  · exact hW kw_330
  · exact hW kw_951
set_option maxRecDepth 100000 in
theorem tv_FreightRater_129 : ∀ w ∈ Cond.classLink "FreightRater" 127 "java/lang/UnsupportedOperationException" :: Cond.initialized "java/lang/UnsupportedOperationException" :: vx_at0 "FreightRater" 129 "java/lang/UnsupportedOperationException" ["java/lang/RuntimeException", "java/lang/Exception"], vx_ot w = true := by decide +kernel
set_option maxRecDepth 100000 in
theorem th_FreightRater_136 {T : Nat → ClassId} {A : Nat → Prop} {s : State} {args : Array Value} (hW : ∀ {w : Cond}, w ∈ W0 → w.before args s = true) (E : GE T A s) : ∀ w ∈ vx_at0 "FreightRater" 136 "java/util/NoSuchElementException" ["java/lang/RuntimeException", "java/lang/Exception"], w.before args s = true := by
  intro w hw
  have h1 := (List.mem_filter.mp hw).1
  have h2 := (List.mem_filter.mp hw).2
  clear hw
  simp only [Bundle.ownAtoms0, Bundle.throwableAtoms, Bundle.chain0Atoms, Bundle.passAtoms, List.cons_append, List.nil_append, List.append_nil, List.mem_cons, List.not_mem_nil, or_false] at h1
  rcases h1 with rfl | rfl | rfl | rfl | rfl | rfl | rfl | rfl | rfl | rfl | rfl | rfl | rfl | rfl | rfl | rfl | rfl | rfl | rfl | rfl | rfl | rfl | rfl | rfl | rfl | rfl | rfl | rfl | rfl | rfl | rfl | rfl | rfl | rfl | rfl | rfl | rfl | rfl | rfl | rfl | rfl | rfl | rfl | rfl | rfl | rfl | rfl | rfl | rfl | rfl | rfl | rfl | rfl
  · exact hW kw_10
  · exact hW kw_332
  · exact hW kw_341
  · exact hW kw_349
  · exact hW kw_352
  · exact hW kw_354
  · exact hW kw_333
  · exact hW kw_334
  · exact hW kw_46
  · exact hW kw_47
  · exact hW kw_335
  · exact hW kw_340
  · exact hW kw_350
  · exact hW kw_367
  · exact hW kw_322
  · exact hW kw_368
  · exact hW kw_324
  · exact hW kw_369
  · exact hW kw_326
  · exact hW kw_336
  · exact absurd h2 (by decide)
  · exact hW kw_338
  · exact absurd h2 (by decide)
  · exact hW kw_328
  · exact hW kw_976
  · exact hW kw_977
  · exact hW kw_978
  · exact hW kw_359
  · exact va_Nw.use rfl (E.2.2.2.1 _ (by decide))
  · exact hW kw_359
  · exact hW kw_360
  · exact hW kw_361
  · exact hW kw_362
  · exact va_Nw.use rfl (E.2.2.2.1 _ (by decide))
  · exact hW kw_362
  · exact hW kw_363
  · exact hW kw_364
  · exact hW kw_333
  · exact va_Nw.use rfl (E.2.2.2.1 _ (by decide))
  · exact hW kw_975
  · exact hW kw_967
  · exact va_Nw.use rfl (E.2.1 ("java/util/NoSuchElementException", "java/util/NoSuchElementException") (by decide))
  · exact hW kw_969
  · exact hW kw_348
  · exact hW kw_970
  · exact hW kw_971
  · exact hW kw_972
  · exact hW kw_973
  · exact absurd h2 (by decide)
  · exact absurd h2 (by decide)
  · exact hW kw_331
  · exact hW kw_330
  · exact hW kw_974
set_option maxRecDepth 100000 in
theorem tv_FreightRater_136 : ∀ w ∈ Cond.classLink "FreightRater" 134 "java/util/NoSuchElementException" :: Cond.initialized "java/util/NoSuchElementException" :: vx_at0 "FreightRater" 136 "java/util/NoSuchElementException" ["java/lang/RuntimeException", "java/lang/Exception"], vx_ot w = true := by decide +kernel
end GTHROW
