section ENVL
def nrL : List Cond := flatC (Jvm.Cond.and given_1 narrow_1)
theorem nr_4 : (Jvm.Cond.eq (Jvm.Term.static "java/lang/String" "COMPACT_STRINGS" "Z") (Jvm.Term.int (1 : Int32))) ∈ nrL := List.mem_of_getElem? (i := 4) (by decide +kernel)
theorem nr_5 : (Jvm.Cond.isRef (Jvm.Term.static "java/lang/Throwable" "UNASSIGNED_STACK" "[Ljava/lang/StackTraceElement;")) ∈ nrL := List.mem_of_getElem? (i := 5) (by decide +kernel)
theorem nr_6 : (Jvm.Cond.isRef (Jvm.Term.static "java/lang/Throwable" "SUPPRESSED_SENTINEL" "Ljava/util/List;")) ∈ nrL := List.mem_of_getElem? (i := 6) (by decide +kernel)
theorem nr_8 : (Jvm.Cond.arrayOf (Jvm.Term.static "java/util/ArrayList" "DEFAULTCAPACITY_EMPTY_ELEMENTDATA" "[Ljava/lang/Object;") (Jvm.ClassFile.FieldType.object "java/lang/Object")) ∈ nrL := List.mem_of_getElem? (i := 8) (by decide +kernel)
theorem nr_10 : (Jvm.Cond.eq (Jvm.Term.length (Jvm.Term.static "java/util/ArrayList" "DEFAULTCAPACITY_EMPTY_ELEMENTDATA" "[Ljava/lang/Object;")) (Jvm.Term.int (0 : Int32))) ∈ nrL := List.mem_of_getElem? (i := 10) (by decide +kernel)
theorem nr_11 : (Jvm.Cond.isRef (Jvm.Term.static "jdk/internal/util/Preconditions" "SIOOBE_FORMATTER" "Ljava/util/function/BiFunction;")) ∈ nrL := List.mem_of_getElem? (i := 11) (by decide +kernel)
theorem nr_16 : (Jvm.Cond.arrayOf (Jvm.Term.static "java/lang/Integer" "DigitOnes" "[B") Jvm.ClassFile.FieldType.byte) ∈ nrL := List.mem_of_getElem? (i := 16) (by decide +kernel)
theorem nr_17 : (Jvm.Cond.eq (Jvm.Term.length (Jvm.Term.static "java/lang/Integer" "DigitOnes" "[B")) (Jvm.Term.int (100 : Int32))) ∈ nrL := List.mem_of_getElem? (i := 17) (by decide +kernel)
theorem nr_119 : (Jvm.Cond.arrayOf (Jvm.Term.static "java/lang/Integer" "DigitTens" "[B") Jvm.ClassFile.FieldType.byte) ∈ nrL := List.mem_of_getElem? (i := 119) (by decide +kernel)
theorem nr_120 : (Jvm.Cond.eq (Jvm.Term.length (Jvm.Term.static "java/lang/Integer" "DigitTens" "[B")) (Jvm.Term.int (100 : Int32))) ∈ nrL := List.mem_of_getElem? (i := 120) (by decide +kernel)
theorem nr_229 : (Jvm.Cond.not (Jvm.Cond.castable "java/lang/IndexOutOfBoundsException" "java/lang/IllegalArgumentException")) ∈ nrL := List.mem_of_getElem? (i := 229) (by decide +kernel)
theorem nr_230 : (Jvm.Cond.not (Jvm.Cond.castable "java/lang/IllegalStateException" "java/lang/IllegalArgumentException")) ∈ nrL := List.mem_of_getElem? (i := 230) (by decide +kernel)
theorem nr_236 : (Jvm.Cond.not (Jvm.Cond.castable "java/lang/UnsupportedOperationException" "java/lang/IllegalArgumentException")) ∈ nrL := List.mem_of_getElem? (i := 236) (by decide +kernel)
theorem nr_237 : (Jvm.Cond.not (Jvm.Cond.castable "java/util/NoSuchElementException" "java/lang/IllegalArgumentException")) ∈ nrL := List.mem_of_getElem? (i := 237) (by decide +kernel)
theorem nr_248 : (Jvm.Cond.not (Jvm.Cond.castable "java/lang/IllegalArgumentException" "java/lang/IndexOutOfBoundsException")) ∈ nrL := List.mem_of_getElem? (i := 248) (by decide +kernel)
theorem nr_251 : (Jvm.Cond.not (Jvm.Cond.castable "java/lang/IllegalStateException" "java/lang/IndexOutOfBoundsException")) ∈ nrL := List.mem_of_getElem? (i := 251) (by decide +kernel)
theorem nr_257 : (Jvm.Cond.not (Jvm.Cond.castable "java/lang/UnsupportedOperationException" "java/lang/IndexOutOfBoundsException")) ∈ nrL := List.mem_of_getElem? (i := 257) (by decide +kernel)
theorem nr_258 : (Jvm.Cond.not (Jvm.Cond.castable "java/util/NoSuchElementException" "java/lang/IndexOutOfBoundsException")) ∈ nrL := List.mem_of_getElem? (i := 258) (by decide +kernel)
theorem nr_267 : (Jvm.Cond.not (Jvm.Cond.castable "java/lang/IllegalArgumentException" "java/lang/IllegalStateException")) ∈ nrL := List.mem_of_getElem? (i := 267) (by decide +kernel)
theorem nr_270 : (Jvm.Cond.not (Jvm.Cond.castable "java/lang/IndexOutOfBoundsException" "java/lang/IllegalStateException")) ∈ nrL := List.mem_of_getElem? (i := 270) (by decide +kernel)
theorem nr_276 : (Jvm.Cond.not (Jvm.Cond.castable "java/lang/UnsupportedOperationException" "java/lang/IllegalStateException")) ∈ nrL := List.mem_of_getElem? (i := 276) (by decide +kernel)
theorem nr_277 : (Jvm.Cond.not (Jvm.Cond.castable "java/util/NoSuchElementException" "java/lang/IllegalStateException")) ∈ nrL := List.mem_of_getElem? (i := 277) (by decide +kernel)
theorem nr_288 : (Jvm.Cond.not (Jvm.Cond.castable "java/lang/IllegalArgumentException" "java/lang/UnsupportedOperationException")) ∈ nrL := List.mem_of_getElem? (i := 288) (by decide +kernel)
theorem nr_291 : (Jvm.Cond.not (Jvm.Cond.castable "java/lang/IndexOutOfBoundsException" "java/lang/UnsupportedOperationException")) ∈ nrL := List.mem_of_getElem? (i := 291) (by decide +kernel)
theorem nr_292 : (Jvm.Cond.not (Jvm.Cond.castable "java/lang/IllegalStateException" "java/lang/UnsupportedOperationException")) ∈ nrL := List.mem_of_getElem? (i := 292) (by decide +kernel)
theorem nr_298 : (Jvm.Cond.not (Jvm.Cond.castable "java/util/NoSuchElementException" "java/lang/UnsupportedOperationException")) ∈ nrL := List.mem_of_getElem? (i := 298) (by decide +kernel)
theorem nr_309 : (Jvm.Cond.not (Jvm.Cond.castable "java/lang/IllegalArgumentException" "java/util/NoSuchElementException")) ∈ nrL := List.mem_of_getElem? (i := 309) (by decide +kernel)
theorem nr_312 : (Jvm.Cond.not (Jvm.Cond.castable "java/lang/IndexOutOfBoundsException" "java/util/NoSuchElementException")) ∈ nrL := List.mem_of_getElem? (i := 312) (by decide +kernel)
theorem nr_313 : (Jvm.Cond.not (Jvm.Cond.castable "java/lang/IllegalStateException" "java/util/NoSuchElementException")) ∈ nrL := List.mem_of_getElem? (i := 313) (by decide +kernel)
theorem nr_319 : (Jvm.Cond.not (Jvm.Cond.castable "java/lang/UnsupportedOperationException" "java/util/NoSuchElementException")) ∈ nrL := List.mem_of_getElem? (i := 319) (by decide +kernel)
theorem nr_434 : (Jvm.Cond.isRef (Jvm.Term.mirror "[Ljava/lang/Object;")) ∈ nrL := List.mem_of_getElem? (i := 434) (by decide +kernel)
theorem nr_435 : (Jvm.Cond.exactly (Jvm.Term.string "FreightRater$Reader" (47 : Nat)) "java/lang/String") ∈ nrL := List.mem_of_getElem? (i := 435) (by decide +kernel)
theorem nr_436 : (Jvm.Cond.eq (Jvm.Term.field (Jvm.Term.string "FreightRater$Reader" (47 : Nat)) "java/lang/String" "coder" "B") (Jvm.Term.int (0 : Int32))) ∈ nrL := List.mem_of_getElem? (i := 436) (by decide +kernel)
theorem nr_437 : (Jvm.Cond.arrayOf (Jvm.Term.field (Jvm.Term.string "FreightRater$Reader" (47 : Nat)) "java/lang/String" "value" "[B") Jvm.ClassFile.FieldType.byte) ∈ nrL := List.mem_of_getElem? (i := 437) (by decide +kernel)
theorem nr_438 : (Jvm.Cond.eq (Jvm.Term.length (Jvm.Term.field (Jvm.Term.string "FreightRater$Reader" (47 : Nat)) "java/lang/String" "value" "[B")) (Jvm.Term.int (9 : Int32))) ∈ nrL := List.mem_of_getElem? (i := 438) (by decide +kernel)
theorem nr_439 : (Jvm.Cond.eq (Jvm.Term.elem (Jvm.Term.field (Jvm.Term.string "FreightRater$Reader" (47 : Nat)) "java/lang/String" "value" "[B") (Jvm.Term.int (0 : Int32))) (Jvm.Term.int (122 : Int32))) ∈ nrL := List.mem_of_getElem? (i := 439) (by decide +kernel)
theorem nr_440 : (Jvm.Cond.eq (Jvm.Term.elem (Jvm.Term.field (Jvm.Term.string "FreightRater$Reader" (47 : Nat)) "java/lang/String" "value" "[B") (Jvm.Term.int (1 : Int32))) (Jvm.Term.int (98 : Int32))) ∈ nrL := List.mem_of_getElem? (i := 440) (by decide +kernel)
theorem nr_441 : (Jvm.Cond.eq (Jvm.Term.elem (Jvm.Term.field (Jvm.Term.string "FreightRater$Reader" (47 : Nat)) "java/lang/String" "value" "[B") (Jvm.Term.int (2 : Int32))) (Jvm.Term.int (109 : Int32))) ∈ nrL := List.mem_of_getElem? (i := 441) (by decide +kernel)
theorem nr_442 : (Jvm.Cond.eq (Jvm.Term.elem (Jvm.Term.field (Jvm.Term.string "FreightRater$Reader" (47 : Nat)) "java/lang/String" "value" "[B") (Jvm.Term.int (3 : Int32))) (Jvm.Term.int (100 : Int32))) ∈ nrL := List.mem_of_getElem? (i := 442) (by decide +kernel)
theorem nr_443 : (Jvm.Cond.eq (Jvm.Term.elem (Jvm.Term.field (Jvm.Term.string "FreightRater$Reader" (47 : Nat)) "java/lang/String" "value" "[B") (Jvm.Term.int (4 : Int32))) (Jvm.Term.int (102 : Int32))) ∈ nrL := List.mem_of_getElem? (i := 443) (by decide +kernel)
theorem nr_444 : (Jvm.Cond.eq (Jvm.Term.elem (Jvm.Term.field (Jvm.Term.string "FreightRater$Reader" (47 : Nat)) "java/lang/String" "value" "[B") (Jvm.Term.int (5 : Int32))) (Jvm.Term.int (115 : Int32))) ∈ nrL := List.mem_of_getElem? (i := 444) (by decide +kernel)
theorem nr_445 : (Jvm.Cond.eq (Jvm.Term.elem (Jvm.Term.field (Jvm.Term.string "FreightRater$Reader" (47 : Nat)) "java/lang/String" "value" "[B") (Jvm.Term.int (6 : Int32))) (Jvm.Term.int (99 : Int32))) ∈ nrL := List.mem_of_getElem? (i := 445) (by decide +kernel)
theorem nr_446 : (Jvm.Cond.eq (Jvm.Term.elem (Jvm.Term.field (Jvm.Term.string "FreightRater$Reader" (47 : Nat)) "java/lang/String" "value" "[B") (Jvm.Term.int (7 : Int32))) (Jvm.Term.int (97 : Int32))) ∈ nrL := List.mem_of_getElem? (i := 446) (by decide +kernel)
theorem nr_447 : (Jvm.Cond.eq (Jvm.Term.elem (Jvm.Term.field (Jvm.Term.string "FreightRater$Reader" (47 : Nat)) "java/lang/String" "value" "[B") (Jvm.Term.int (8 : Int32))) (Jvm.Term.int (114 : Int32))) ∈ nrL := List.mem_of_getElem? (i := 447) (by decide +kernel)
theorem nr_448 : (Jvm.Cond.exactly (Jvm.Term.string "FreightRater$Reader" (124 : Nat)) "java/lang/String") ∈ nrL := List.mem_of_getElem? (i := 448) (by decide +kernel)
theorem nr_449 : (Jvm.Cond.eq (Jvm.Term.field (Jvm.Term.string "FreightRater$Reader" (124 : Nat)) "java/lang/String" "coder" "B") (Jvm.Term.int (0 : Int32))) ∈ nrL := List.mem_of_getElem? (i := 449) (by decide +kernel)
theorem nr_450 : (Jvm.Cond.arrayOf (Jvm.Term.field (Jvm.Term.string "FreightRater$Reader" (124 : Nat)) "java/lang/String" "value" "[B") Jvm.ClassFile.FieldType.byte) ∈ nrL := List.mem_of_getElem? (i := 450) (by decide +kernel)
theorem nr_451 : (Jvm.Cond.eq (Jvm.Term.length (Jvm.Term.field (Jvm.Term.string "FreightRater$Reader" (124 : Nat)) "java/lang/String" "value" "[B")) (Jvm.Term.int (5 : Int32))) ∈ nrL := List.mem_of_getElem? (i := 451) (by decide +kernel)
theorem nr_452 : (Jvm.Cond.eq (Jvm.Term.elem (Jvm.Term.field (Jvm.Term.string "FreightRater$Reader" (124 : Nat)) "java/lang/String" "value" "[B") (Jvm.Term.int (0 : Int32))) (Jvm.Term.int (104 : Int32))) ∈ nrL := List.mem_of_getElem? (i := 452) (by decide +kernel)
theorem nr_453 : (Jvm.Cond.eq (Jvm.Term.elem (Jvm.Term.field (Jvm.Term.string "FreightRater$Reader" (124 : Nat)) "java/lang/String" "value" "[B") (Jvm.Term.int (1 : Int32))) (Jvm.Term.int (119 : Int32))) ∈ nrL := List.mem_of_getElem? (i := 453) (by decide +kernel)
theorem nr_454 : (Jvm.Cond.eq (Jvm.Term.elem (Jvm.Term.field (Jvm.Term.string "FreightRater$Reader" (124 : Nat)) "java/lang/String" "value" "[B") (Jvm.Term.int (2 : Int32))) (Jvm.Term.int (110 : Int32))) ∈ nrL := List.mem_of_getElem? (i := 454) (by decide +kernel)
theorem nr_455 : (Jvm.Cond.eq (Jvm.Term.elem (Jvm.Term.field (Jvm.Term.string "FreightRater$Reader" (124 : Nat)) "java/lang/String" "value" "[B") (Jvm.Term.int (3 : Int32))) (Jvm.Term.int (108 : Int32))) ∈ nrL := List.mem_of_getElem? (i := 455) (by decide +kernel)
theorem nr_456 : (Jvm.Cond.eq (Jvm.Term.elem (Jvm.Term.field (Jvm.Term.string "FreightRater$Reader" (124 : Nat)) "java/lang/String" "value" "[B") (Jvm.Term.int (4 : Int32))) (Jvm.Term.int (122 : Int32))) ∈ nrL := List.mem_of_getElem? (i := 456) (by decide +kernel)
theorem nr_457 : (Jvm.Cond.not (Jvm.Cond.eq (Jvm.Term.string "FreightRater$Reader" (47 : Nat)) (Jvm.Term.string "FreightRater$Reader" (124 : Nat)))) ∈ nrL := List.mem_of_getElem? (i := 457) (by decide +kernel)
theorem nr_458 : (Jvm.Cond.exactly (Jvm.Term.string "FreightRater$Reader" (131 : Nat)) "java/lang/String") ∈ nrL := List.mem_of_getElem? (i := 458) (by decide +kernel)
theorem nr_459 : (Jvm.Cond.eq (Jvm.Term.field (Jvm.Term.string "FreightRater$Reader" (131 : Nat)) "java/lang/String" "coder" "B") (Jvm.Term.int (0 : Int32))) ∈ nrL := List.mem_of_getElem? (i := 459) (by decide +kernel)
theorem nr_460 : (Jvm.Cond.arrayOf (Jvm.Term.field (Jvm.Term.string "FreightRater$Reader" (131 : Nat)) "java/lang/String" "value" "[B") Jvm.ClassFile.FieldType.byte) ∈ nrL := List.mem_of_getElem? (i := 460) (by decide +kernel)
theorem nr_461 : (Jvm.Cond.eq (Jvm.Term.length (Jvm.Term.field (Jvm.Term.string "FreightRater$Reader" (131 : Nat)) "java/lang/String" "value" "[B")) (Jvm.Term.int (3 : Int32))) ∈ nrL := List.mem_of_getElem? (i := 461) (by decide +kernel)
theorem nr_462 : (Jvm.Cond.eq (Jvm.Term.elem (Jvm.Term.field (Jvm.Term.string "FreightRater$Reader" (131 : Nat)) "java/lang/String" "value" "[B") (Jvm.Term.int (0 : Int32))) (Jvm.Term.int (60 : Int32))) ∈ nrL := List.mem_of_getElem? (i := 462) (by decide +kernel)
theorem nr_463 : (Jvm.Cond.eq (Jvm.Term.elem (Jvm.Term.field (Jvm.Term.string "FreightRater$Reader" (131 : Nat)) "java/lang/String" "value" "[B") (Jvm.Term.int (1 : Int32))) (Jvm.Term.int (62 : Int32))) ∈ nrL := List.mem_of_getElem? (i := 463) (by decide +kernel)
theorem nr_464 : (Jvm.Cond.eq (Jvm.Term.elem (Jvm.Term.field (Jvm.Term.string "FreightRater$Reader" (131 : Nat)) "java/lang/String" "value" "[B") (Jvm.Term.int (2 : Int32))) (Jvm.Term.int (61 : Int32))) ∈ nrL := List.mem_of_getElem? (i := 464) (by decide +kernel)
theorem nr_465 : (Jvm.Cond.not (Jvm.Cond.eq (Jvm.Term.string "FreightRater$Reader" (47 : Nat)) (Jvm.Term.string "FreightRater$Reader" (131 : Nat)))) ∈ nrL := List.mem_of_getElem? (i := 465) (by decide +kernel)
theorem nr_466 : (Jvm.Cond.not (Jvm.Cond.eq (Jvm.Term.string "FreightRater$Reader" (124 : Nat)) (Jvm.Term.string "FreightRater$Reader" (131 : Nat)))) ∈ nrL := List.mem_of_getElem? (i := 466) (by decide +kernel)
theorem kn_of {s : State} {args : Array Value} (hts : ∀ w ∈ lw_tbl, w.before args s = true) : ∃ D : va_G, ∀ (c : Nat) (q : vw_C), vwCl[c]? = some q → u_Kn s q.1 q.2.1 q.2.2 (D.1 c) (D.2 c) := by
  have h0 := w0_all hts
  have H : ∀ c : Nat, ∃ z : ClassId × (Nat → Nat), ∀ q : vw_C, vwCl[c]? = some q → u_Kn s q.1 q.2.1 q.2.2 z.1 z.2 := fun c => by
    match c with
    | 0 =>
      obtain ⟨x, y, h⟩ := u_known (C := RJ0) (T := TJ0) (N := 4) (n := 4) h0 iw_J0 (h0 _ kw_1631)
      exact ⟨(x, y), fun q hq => by cases hq; exact h⟩
    | 1 =>
      obtain ⟨x, y, h⟩ := u_known (C := RJ4) (T := TJ4) (N := 4) (n := 4) h0 iw_J4 (h0 _ kw_94)
      exact ⟨(x, y), fun q hq => by cases hq; exact h⟩
    | 2 =>
      obtain ⟨x, y, h⟩ := u_known (C := RJx00060) (T := TJx00060) (N := 6) (n := 6) h0 iw_Jx00060 (h0 _ kw_1726)
      exact ⟨(x, y), fun q hq => by cases hq; exact h⟩
    | 3 =>
      obtain ⟨x, y, h⟩ := u_known (C := RJx7c733) (T := TJx7c733) (N := 6) (n := 6) h0 iw_Jx7c733 (h0 _ kw_1519)
      exact ⟨(x, y), fun q hq => by cases hq; exact h⟩
    | 4 =>
      obtain ⟨x, y, h⟩ := u_known (C := RJx4a65c) (T := TJx4a65c) (N := 3) (n := 3) h0 iw_Jx4a65c (h0 _ kw_562)
      exact ⟨(x, y), fun q hq => by cases hq; exact h⟩
    | 5 =>
      obtain ⟨x, y, h⟩ := u_known (C := RX0) (T := TX0) (N := 5) (n := 5) h0 iw_X0 (h0 _ kw_732)
      exact ⟨(x, y), fun q hq => by cases hq; exact h⟩
    | 6 =>
      obtain ⟨x, y, h⟩ := u_known (C := RX1) (T := TX1) (N := 8) (n := 8) h0 iw_X1 (h0 _ kw_208)
      exact ⟨(x, y), fun q hq => by cases hq; exact h⟩
    | 7 =>
      obtain ⟨x, y, h⟩ := u_known (C := RX2) (T := TX2) (N := 18) (n := 18) h0 iw_X2 (h0 _ kw_128)
      exact ⟨(x, y), fun q hq => by cases hq; exact h⟩
    | 8 =>
      obtain ⟨x, y, h⟩ := u_known (C := RX3) (T := TX3) (N := 4) (n := 4) h0 iw_X3 (h0 _ kw_537)
      exact ⟨(x, y), fun q hq => by cases hq; exact h⟩
    | 9 =>
      obtain ⟨x, y, h⟩ := u_known (C := RX4) (T := TX4) (N := 4) (n := 4) h0 iw_X4 (h0 _ kw_388)
      exact ⟨(x, y), fun q hq => by cases hq; exact h⟩
    | 10 =>
      obtain ⟨x, y, h⟩ := u_known (C := RX5) (T := TX5) (N := 9) (n := 9) h0 iw_X5 (h0 _ kw_1074)
      exact ⟨(x, y), fun q hq => by cases hq; exact h⟩
    | 11 =>
      obtain ⟨x, y, h⟩ := u_known (C := RX6) (T := TX6) (N := 8) (n := 8) h0 iw_X6 (h0 _ kw_49)
      exact ⟨(x, y), fun q hq => by cases hq; exact h⟩
    | 12 =>
      obtain ⟨x, y, h⟩ := u_known (C := RX7) (T := TX7) (N := 5) (n := 5) h0 iw_X7 (h0 _ kw_592)
      exact ⟨(x, y), fun q hq => by cases hq; exact h⟩
    | 13 =>
      obtain ⟨x, y, h⟩ := u_known (C := RX8) (T := TX8) (N := 5) (n := 5) h0 iw_X8 (h0 _ kw_773)
      exact ⟨(x, y), fun q hq => by cases hq; exact h⟩
    | 14 =>
      obtain ⟨x, y, h⟩ := u_known (C := RX9) (T := TX9) (N := 11) (n := 11) h0 iw_X9 (h0 _ kw_379)
      exact ⟨(x, y), fun q hq => by cases hq; exact h⟩
    | 15 =>
      obtain ⟨x, y, h⟩ := u_known (C := RX10) (T := TX10) (N := 14) (n := 14) h0 iw_X10 (h0 _ kw_41)
      exact ⟨(x, y), fun q hq => by cases hq; exact h⟩
    | 16 =>
      obtain ⟨x, y, h⟩ := u_known (C := RX11) (T := TX11) (N := 42) (n := 42) h0 iw_X11 (h0 _ kw_1804)
      exact ⟨(x, y), fun q hq => by cases hq; exact h⟩
    | n + 17 =>
      refine ⟨(0, fun _ => 0), fun q hq => ?_⟩
      have h1 : n + 17 < 17 := (List.getElem?_eq_some_iff.mp hq).1
      omega
  obtain ⟨F, hF⟩ := Classical.axiomOfChoice H
  exact ⟨(fun c => (F c).1, fun c => (F c).2), fun c q h => hF c q h⟩
def ztyF (k : Nat) : FieldType := [.byte, .char, .int, .long, .double, .object "FreightRater$Accessorial", .object "FreightRater$Scale", .object "FreightRater$Shipment", .object "FreightRater$State", .object "FreightRater$Version", .object "java/lang/Object"].getD k .byte
theorem ar_o {C : String} {s : State} {args : Array Value} (h : (Cond.arrayOver (.object C)).before args s = true) : ∃ cA : ClassId, ArrOfT s cA (.object C) ∧ va_RA s cA (.object C) := by
  obtain ⟨comp, c, k, h1, h2, h3, h4, h5⟩ := Cond.arrayOver_spec h
  exact ⟨c, fun n z => ⟨fun k h => (by cases h), k, h3, comp, h4⟩, k, comp, h3, h4, h1, h5⟩
theorem ty_of {s : State} {args : Array Value} (hts : ∀ w ∈ lw_tbl, w.before args s = true) : ∃ cs : Nat → ClassId, ∀ k : Nat, k < 11 → ArrOfT s (cs k) (ztyF k) ∧ va_RA s (cs k) (ztyF k) := by
  have h0 := w0_all hts
  have H : ∀ k : Nat, ∃ c : ClassId, k < 11 → ArrOfT s c (ztyF k) ∧ va_RA s c (ztyF k) := fun k => by
    match k with
    | 0 =>
      obtain ⟨cA, kA, comp, h1, h2, h3⟩ := Cond.arrayClass_spec (h0 _ kw_126)
      exact ⟨cA, fun _ => ⟨fun n z => ⟨fun k h => (by cases h), kA, h2, comp, h3⟩, h1⟩⟩
    | 1 =>
      obtain ⟨cA, kA, comp, h1, h2, h3⟩ := Cond.arrayClass_spec (h0 _ kw_125)
      exact ⟨cA, fun _ => ⟨fun n z => ⟨fun k h => (by cases h), kA, h2, comp, h3⟩, h1⟩⟩
    | 2 =>
      obtain ⟨cA, kA, comp, h1, h2, h3⟩ := Cond.arrayClass_spec (h0 _ kw_91)
      exact ⟨cA, fun _ => ⟨fun n z => ⟨fun k h => (by cases h), kA, h2, comp, h3⟩, h1⟩⟩
    | 3 =>
      obtain ⟨cA, kA, comp, h1, h2, h3⟩ := Cond.arrayClass_spec (h0 _ kw_2350)
      exact ⟨cA, fun _ => ⟨fun n z => ⟨fun k h => (by cases h), kA, h2, comp, h3⟩, h1⟩⟩
    | 4 =>
      obtain ⟨cA, kA, comp, h1, h2, h3⟩ := Cond.arrayClass_spec (h0 _ kw_2351)
      exact ⟨cA, fun _ => ⟨fun n z => ⟨fun k h => (by cases h), kA, h2, comp, h3⟩, h1⟩⟩
    | 5 =>
      obtain ⟨cA, h⟩ := ar_o (C := "FreightRater$Accessorial") (hts _ (w0_t2 (List.mem_of_getElem? (i := 147) (by decide +kernel))))
      exact ⟨cA, fun _ => h⟩
    | 6 =>
      obtain ⟨cA, h⟩ := ar_o (C := "FreightRater$Scale") (hts _ (w0_t2 (List.mem_of_getElem? (i := 145) (by decide +kernel))))
      exact ⟨cA, fun _ => h⟩
    | 7 =>
      obtain ⟨cA, h⟩ := ar_o (C := "FreightRater$Shipment") (hts _ (w0_t1 (List.mem_of_getElem? (i := 57) (by decide +kernel))))
      exact ⟨cA, fun _ => h⟩
    | 8 =>
      obtain ⟨cA, h⟩ := ar_o (C := "FreightRater$State") (hts _ (w0_t1 (List.mem_of_getElem? (i := 92) (by decide +kernel))))
      exact ⟨cA, fun _ => h⟩
    | 9 =>
      obtain ⟨cA, h⟩ := ar_o (C := "FreightRater$Version") (hts _ (w0_t1 (List.mem_of_getElem? (i := 55) (by decide +kernel))))
      exact ⟨cA, fun _ => h⟩
    | 10 =>
      obtain ⟨cA, h⟩ := ar_o (C := "java/lang/Object") (hts _ (w0_t4 (List.mem_of_getElem? (i := 142) (by decide +kernel))))
      exact ⟨cA, fun _ => h⟩
    | n + 11 => exact ⟨0, fun h => by omega⟩
  obtain ⟨F, hF⟩ := Classical.axiomOfChoice H
  exact ⟨F, hF⟩
theorem kk_of {s : State} {D : va_G} {T : Nat → ClassId} (hD : ∀ (c : Nat) (q : vw_C), vwCl[c]? = some q → u_Kn s q.1 q.2.1 q.2.2 (D.1 c) (D.2 c)) (hT : ∀ k : Nat, k < 11 → ArrOfT s (T k) (ztyF k) ∧ va_RA s (T k) (ztyF k)) : va_K D vwCl (zty T) s := ⟨hD, fun k q hq => by
  match k, hq with
  | 0, hq => cases hq; exact hT 0 (by decide)
  | 1, hq => cases hq; exact hT 1 (by decide)
  | 2, hq => cases hq; exact hT 2 (by decide)
  | 3, hq => cases hq; exact hT 3 (by decide)
  | 4, hq => cases hq; exact hT 4 (by decide)
  | 5, hq => cases hq; exact hT 5 (by decide)
  | 6, hq => cases hq; exact hT 6 (by decide)
  | 7, hq => cases hq; exact hT 7 (by decide)
  | 8, hq => cases hq; exact hT 8 (by decide)
  | 9, hq => cases hq; exact hT 9 (by decide)
  | 10, hq => cases hq; exact hT 10 (by decide)
  | n + 11, hq =>
    have h1 : n + 11 < 11 := (List.getElem?_eq_some_iff.mp hq).1
    omega⟩
theorem nx_of {s : State} {args : Array Value} (hn : ∀ w ∈ nrL, w.before args s = true) : NX s := by
  show ∀ q ∈ NXL, va_Nc q.1 q.2 s
  unfold NXL
  exact List.forall_mem_cons.mpr ⟨va_Nc.of (hn _ nr_248), List.forall_mem_cons.mpr ⟨va_Nc.of (hn _ nr_267), List.forall_mem_cons.mpr ⟨va_Nc.of (hn _ nr_288), List.forall_mem_cons.mpr ⟨va_Nc.of (hn _ nr_309), List.forall_mem_cons.mpr ⟨va_Nc.of (hn _ nr_229), List.forall_mem_cons.mpr ⟨va_Nc.of (hn _ nr_270), List.forall_mem_cons.mpr ⟨va_Nc.of (hn _ nr_291), List.forall_mem_cons.mpr ⟨va_Nc.of (hn _ nr_312), List.forall_mem_cons.mpr ⟨va_Nc.of (hn _ nr_230), List.forall_mem_cons.mpr ⟨va_Nc.of (hn _ nr_251), List.forall_mem_cons.mpr ⟨va_Nc.of (hn _ nr_292), List.forall_mem_cons.mpr ⟨va_Nc.of (hn _ nr_313), List.forall_mem_cons.mpr ⟨va_Nc.of (hn _ nr_236), List.forall_mem_cons.mpr ⟨va_Nc.of (hn _ nr_257), List.forall_mem_cons.mpr ⟨va_Nc.of (hn _ nr_319), List.forall_mem_cons.mpr ⟨va_Nc.of (hn _ nr_276), List.forall_mem_cons.mpr ⟨va_Nc.of (hn _ nr_237), List.forall_mem_cons.mpr ⟨va_Nc.of (hn _ nr_258), List.forall_mem_cons.mpr ⟨va_Nc.of (hn _ nr_277), List.forall_mem_cons.mpr ⟨va_Nc.of (hn _ nr_298), fun _ h => absurd h List.not_mem_nil⟩⟩⟩⟩⟩⟩⟩⟩⟩⟩⟩⟩⟩⟩⟩⟩⟩⟩⟩⟩
theorem ge1_of {s : State} {args : Array Value} (hts : ∀ w ∈ lw_tbl, w.before args s = true) : ∀ q ∈ nestL, va_Nw (.methodLinkNest q.1 q.2.1 q.2.2.1 q.2.2.2) s := by
  unfold nestL
  exact List.forall_mem_cons.mpr ⟨va_Nw.of rfl (hts _ (w0_t1 (List.mem_of_getElem? (i := 50) (by decide +kernel)))), List.forall_mem_cons.mpr ⟨va_Nw.of rfl (hts _ (w0_t1 (List.mem_of_getElem? (i := 129) (by decide +kernel)))), List.forall_mem_cons.mpr ⟨va_Nw.of rfl (hts _ (w0_t1 (List.mem_of_getElem? (i := 209) (by decide +kernel)))), List.forall_mem_cons.mpr ⟨va_Nw.of rfl (hts _ (w0_t2 (List.mem_of_getElem? (i := 224) (by decide +kernel)))), List.forall_mem_cons.mpr ⟨va_Nw.of rfl (hts _ (w0_t4 (List.mem_of_getElem? (i := 13) (by decide +kernel)))), List.forall_mem_cons.mpr ⟨va_Nw.of rfl (hts _ (w0_t4 (List.mem_of_getElem? (i := 190) (by decide +kernel)))), List.forall_mem_cons.mpr ⟨va_Nw.of rfl (hts _ (w0_t6 (List.mem_of_getElem? (i := 3) (by decide +kernel)))), List.forall_mem_cons.mpr ⟨va_Nw.of rfl (hts _ (w0_t6 (List.mem_of_getElem? (i := 68) (by decide +kernel)))), List.forall_mem_cons.mpr ⟨va_Nw.of rfl (hts _ (w0_t6 (List.mem_of_getElem? (i := 77) (by decide +kernel)))), List.forall_mem_cons.mpr ⟨va_Nw.of rfl (hts _ (w0_t6 (List.mem_of_getElem? (i := 82) (by decide +kernel)))), List.forall_mem_cons.mpr ⟨va_Nw.of rfl (hts _ (w0_t6 (List.mem_of_getElem? (i := 149) (by decide +kernel)))), fun _ h => absurd h List.not_mem_nil⟩⟩⟩⟩⟩⟩⟩⟩⟩⟩⟩
theorem ge2_of {s : State} {args : Array Value} (hts : ∀ w ∈ lw_tbl, w.before args s = true) : ∀ q ∈ castL, va_Nw (.castable q.1 q.2) s := by
  unfold castL
  exact List.forall_mem_cons.mpr ⟨va_Nw.of rfl (hts _ (w0_t2 (List.mem_of_getElem? (i := 72) (by decide +kernel)))), List.forall_mem_cons.mpr ⟨va_Nw.of rfl (hts _ (w0_t2 (List.mem_of_getElem? (i := 227) (by decide +kernel)))), List.forall_mem_cons.mpr ⟨va_Nw.of rfl (hts _ (w0_t3 (List.mem_of_getElem? (i := 2) (by decide +kernel)))), List.forall_mem_cons.mpr ⟨va_Nw.of rfl (hts _ (w0_t3 (List.mem_of_getElem? (i := 30) (by decide +kernel)))), List.forall_mem_cons.mpr ⟨va_Nw.of rfl (hts _ (w0_t4 (List.mem_of_getElem? (i := 225) (by decide +kernel)))), List.forall_mem_cons.mpr ⟨va_Nw.of rfl (hts _ (w0_t5 (List.mem_of_getElem? (i := 8) (by decide +kernel)))), List.forall_mem_cons.mpr ⟨va_Nw.of rfl (hts _ (w0_t7 (List.mem_of_getElem? (i := 113) (by decide +kernel)))), List.forall_mem_cons.mpr ⟨va_Nw.of rfl (hts _ (w0_t8 (List.mem_of_getElem? (i := 47) (by decide +kernel)))), List.forall_mem_cons.mpr ⟨va_Nw.of rfl (hts _ (w0_t10 (List.mem_of_getElem? (i := 205) (by decide +kernel)))), List.forall_mem_cons.mpr ⟨va_Nw.of rfl (hts _ (w0_t10 (List.mem_of_getElem? (i := 206) (by decide +kernel)))), List.forall_mem_cons.mpr ⟨va_Nw.of rfl (hts _ (w0_t10 (List.mem_of_getElem? (i := 207) (by decide +kernel)))), List.forall_mem_cons.mpr ⟨va_Nw.of rfl (hts _ (w0_t10 (List.mem_of_getElem? (i := 208) (by decide +kernel)))), List.forall_mem_cons.mpr ⟨va_Nw.of rfl (hts _ (w0_t10 (List.mem_of_getElem? (i := 209) (by decide +kernel)))), List.forall_mem_cons.mpr ⟨va_Nw.of rfl (hts _ (w0_t10 (List.mem_of_getElem? (i := 210) (by decide +kernel)))), List.forall_mem_cons.mpr ⟨va_Nw.of rfl (hts _ (w0_t10 (List.mem_of_getElem? (i := 211) (by decide +kernel)))), List.forall_mem_cons.mpr ⟨va_Nw.of rfl (hts _ (w0_t10 (List.mem_of_getElem? (i := 212) (by decide +kernel)))), List.forall_mem_cons.mpr ⟨va_Nw.of rfl (hts _ (w0_t10 (List.mem_of_getElem? (i := 213) (by decide +kernel)))), List.forall_mem_cons.mpr ⟨va_Nw.of rfl (hts _ (w0_t10 (List.mem_of_getElem? (i := 214) (by decide +kernel)))), List.forall_mem_cons.mpr ⟨va_Nw.of rfl (hts _ (w0_t10 (List.mem_of_getElem? (i := 215) (by decide +kernel)))), List.forall_mem_cons.mpr ⟨va_Nw.of rfl (hts _ (w0_t10 (List.mem_of_getElem? (i := 216) (by decide +kernel)))), List.forall_mem_cons.mpr ⟨va_Nw.of rfl (hts _ (w0_t10 (List.mem_of_getElem? (i := 217) (by decide +kernel)))), List.forall_mem_cons.mpr ⟨va_Nw.of rfl (hts _ (w0_t10 (List.mem_of_getElem? (i := 218) (by decide +kernel)))), List.forall_mem_cons.mpr ⟨va_Nw.of rfl (hts _ (w0_t10 (List.mem_of_getElem? (i := 219) (by decide +kernel)))), List.forall_mem_cons.mpr ⟨va_Nw.of rfl (hts _ (w0_t10 (List.mem_of_getElem? (i := 220) (by decide +kernel)))), List.forall_mem_cons.mpr ⟨va_Nw.of rfl (hts _ (w0_t10 (List.mem_of_getElem? (i := 221) (by decide +kernel)))), List.forall_mem_cons.mpr ⟨va_Nw.of rfl (hts _ (w0_t10 (List.mem_of_getElem? (i := 222) (by decide +kernel)))), List.forall_mem_cons.mpr ⟨va_Nw.of rfl (hts _ (w0_t10 (List.mem_of_getElem? (i := 223) (by decide +kernel)))), List.forall_mem_cons.mpr ⟨va_Nw.of rfl (hts _ (w0_t10 (List.mem_of_getElem? (i := 224) (by decide +kernel)))), List.forall_mem_cons.mpr ⟨va_Nw.of rfl (hts _ (w0_t10 (List.mem_of_getElem? (i := 225) (by decide +kernel)))), List.forall_mem_cons.mpr ⟨va_Nw.of rfl (hts _ (w0_t10 (List.mem_of_getElem? (i := 226) (by decide +kernel)))), List.forall_mem_cons.mpr ⟨va_Nw.of rfl (hts _ (w0_t10 (List.mem_of_getElem? (i := 227) (by decide +kernel)))), List.forall_mem_cons.mpr ⟨va_Nw.of rfl (hts _ (w0_t10 (List.mem_of_getElem? (i := 228) (by decide +kernel)))), List.forall_mem_cons.mpr ⟨va_Nw.of rfl (hts _ (w0_t10 (List.mem_of_getElem? (i := 229) (by decide +kernel)))), List.forall_mem_cons.mpr ⟨va_Nw.of rfl (hts _ (w0_t10 (List.mem_of_getElem? (i := 233) (by decide +kernel)))), List.forall_mem_cons.mpr ⟨va_Nw.of rfl (hts _ (w0_t10 (List.mem_of_getElem? (i := 234) (by decide +kernel)))), List.forall_mem_cons.mpr ⟨va_Nw.of rfl (hts _ (w0_t10 (List.mem_of_getElem? (i := 235) (by decide +kernel)))), List.forall_mem_cons.mpr ⟨va_Nw.of rfl (hts _ (w0_t10 (List.mem_of_getElem? (i := 236) (by decide +kernel)))), List.forall_mem_cons.mpr ⟨va_Nw.of rfl (hts _ (w0_t10 (List.mem_of_getElem? (i := 237) (by decide +kernel)))), List.forall_mem_cons.mpr ⟨va_Nw.of rfl (hts _ (w0_t10 (List.mem_of_getElem? (i := 238) (by decide +kernel)))), List.forall_mem_cons.mpr ⟨va_Nw.of rfl (hts _ (w0_t10 (List.mem_of_getElem? (i := 239) (by decide +kernel)))), List.forall_mem_cons.mpr ⟨va_Nw.of rfl (hts _ (w0_t11 (List.mem_of_getElem? (i := 0) (by decide +kernel)))), List.forall_mem_cons.mpr ⟨va_Nw.of rfl (hts _ (w0_t11 (List.mem_of_getElem? (i := 1) (by decide +kernel)))), List.forall_mem_cons.mpr ⟨va_Nw.of rfl (hts _ (w0_t11 (List.mem_of_getElem? (i := 2) (by decide +kernel)))), List.forall_mem_cons.mpr ⟨va_Nw.of rfl (hts _ (w0_t11 (List.mem_of_getElem? (i := 3) (by decide +kernel)))), fun _ h => absurd h List.not_mem_nil⟩⟩⟩⟩⟩⟩⟩⟩⟩⟩⟩⟩⟩⟩⟩⟩⟩⟩⟩⟩⟩⟩⟩⟩⟩⟩⟩⟩⟩⟩⟩⟩⟩⟩⟩⟩⟩⟩⟩⟩⟩⟩⟩⟩
theorem ge3_of {s : State} {args : Array Value} (hts : ∀ w ∈ lw_tbl, w.before args s = true) : ∀ C ∈ overL, va_AO C s := by
  unfold overL
  exact List.forall_mem_cons.mpr ⟨va_AO.of (hts _ (w0_t1 (List.mem_of_getElem? (i := 55) (by decide +kernel)))), List.forall_mem_cons.mpr ⟨va_AO.of (hts _ (w0_t1 (List.mem_of_getElem? (i := 57) (by decide +kernel)))), List.forall_mem_cons.mpr ⟨va_AO.of (hts _ (w0_t1 (List.mem_of_getElem? (i := 92) (by decide +kernel)))), List.forall_mem_cons.mpr ⟨va_AO.of (hts _ (w0_t2 (List.mem_of_getElem? (i := 145) (by decide +kernel)))), List.forall_mem_cons.mpr ⟨va_AO.of (hts _ (w0_t2 (List.mem_of_getElem? (i := 147) (by decide +kernel)))), List.forall_mem_cons.mpr ⟨va_AO.of (hts _ (w0_t4 (List.mem_of_getElem? (i := 142) (by decide +kernel)))), fun _ h => absurd h List.not_mem_nil⟩⟩⟩⟩⟩⟩
theorem ge4_of {s : State} {args : Array Value} (hts : ∀ w ∈ lw_tbl, w.before args s = true) : ∀ y ∈ declL, va_Nw (.declares y) s := by
  unfold declL
  exact List.forall_mem_cons.mpr ⟨va_Nw.of rfl (hts _ (w0_t2 (List.mem_of_getElem? (i := 73) (by decide +kernel)))), List.forall_mem_cons.mpr ⟨va_Nw.of rfl (hts _ (w0_t2 (List.mem_of_getElem? (i := 74) (by decide +kernel)))), List.forall_mem_cons.mpr ⟨va_Nw.of rfl (hts _ (w0_t2 (List.mem_of_getElem? (i := 75) (by decide +kernel)))), List.forall_mem_cons.mpr ⟨va_Nw.of rfl (hts _ (w0_t2 (List.mem_of_getElem? (i := 76) (by decide +kernel)))), List.forall_mem_cons.mpr ⟨va_Nw.of rfl (hts _ (w0_t2 (List.mem_of_getElem? (i := 77) (by decide +kernel)))), List.forall_mem_cons.mpr ⟨va_Nw.of rfl (hts _ (w0_t2 (List.mem_of_getElem? (i := 78) (by decide +kernel)))), List.forall_mem_cons.mpr ⟨va_Nw.of rfl (hts _ (w0_t8 (List.mem_of_getElem? (i := 48) (by decide +kernel)))), List.forall_mem_cons.mpr ⟨va_Nw.of rfl (hts _ (w0_t8 (List.mem_of_getElem? (i := 49) (by decide +kernel)))), List.forall_mem_cons.mpr ⟨va_Nw.of rfl (hts _ (w0_t10 (List.mem_of_getElem? (i := 232) (by decide +kernel)))), fun _ h => absurd h List.not_mem_nil⟩⟩⟩⟩⟩⟩⟩⟩⟩
def tmZ : Nat → Term := fun i => match i with
  | 0 => .string "FreightRater$Reader" 47
  | 1 => .string "FreightRater$Reader" 124
  | _ => .string "FreightRater$Reader" 131
theorem str_of {s : State} {args : Array Value} {A : Nat → Prop} (hn : ∀ w ∈ nrL, w.before args s = true) (hA : ∀ a : Nat, a < s.heap.size → ¬ A a) : ∃ adK adV : Nat → Nat, vk_S 3 lenZ bytZ adK adV A s s.heap ∧ ∀ i : Nat, i < 3 → (tmZ i).eval args s none [] s = some (.ref (adK i)) := by
  refine vk_Sof (tm := tmZ) (fun i hi => by
    match i, hi with
    | 0, _ => exact (show 9 < 2 ^ 31 by decide)
    | 1, _ => exact (show 5 < 2 ^ 31 by decide)
    | 2, _ => exact (show 3 < 2 ^ 31 by decide)
    | n + 3, hi => omega) (fun i hi => by
    match i, hi with
    | 0, _ => exact (hn _ nr_435)
    | 1, _ => exact (hn _ nr_448)
    | 2, _ => exact (hn _ nr_458)
    | n + 3, hi => omega) (fun i hi => by
    match i, hi with
    | 0, _ => exact (hn _ nr_436)
    | 1, _ => exact (hn _ nr_449)
    | 2, _ => exact (hn _ nr_459)
    | n + 3, hi => omega) (fun i hi => by
    match i, hi with
    | 0, _ => exact (hn _ nr_437)
    | 1, _ => exact (hn _ nr_450)
    | 2, _ => exact (hn _ nr_460)
    | n + 3, hi => omega) (fun i hi => by
    match i, hi with
    | 0, _ => exact (hn _ nr_438)
    | 1, _ => exact (hn _ nr_451)
    | 2, _ => exact (hn _ nr_461)
    | n + 3, hi => omega) (fun i hi => by
    match i, hi with
    | 0, _ =>
      intro j hj
      have hj : j < 9 := hj
      match j, hj with
      | 0, _ => exact (hn _ nr_439)
      | 1, _ => exact (hn _ nr_440)
      | 2, _ => exact (hn _ nr_441)
      | 3, _ => exact (hn _ nr_442)
      | 4, _ => exact (hn _ nr_443)
      | 5, _ => exact (hn _ nr_444)
      | 6, _ => exact (hn _ nr_445)
      | 7, _ => exact (hn _ nr_446)
      | 8, _ => exact (hn _ nr_447)
      | n + 9, hj => omega
    | 1, _ =>
      intro j hj
      have hj : j < 5 := hj
      match j, hj with
      | 0, _ => exact (hn _ nr_452)
      | 1, _ => exact (hn _ nr_453)
      | 2, _ => exact (hn _ nr_454)
      | 3, _ => exact (hn _ nr_455)
      | 4, _ => exact (hn _ nr_456)
      | n + 5, hj => omega
    | 2, _ =>
      intro j hj
      have hj : j < 3 := hj
      match j, hj with
      | 0, _ => exact (hn _ nr_462)
      | 1, _ => exact (hn _ nr_463)
      | 2, _ => exact (hn _ nr_464)
      | n + 3, hj => omega
    | n + 3, hi => omega) (fun i j hi hj hij => by
    match i, j, hi, hj with
    | 0, 0, _, _ => exact absurd rfl hij
    | 0, 1, _, _ => exact Or.inl (hn _ nr_457)
    | 0, 2, _, _ => exact Or.inl (hn _ nr_465)
    | 1, 0, _, _ => exact Or.inr (hn _ nr_457)
    | 1, 1, _, _ => exact absurd rfl hij
    | 1, 2, _, _ => exact Or.inl (hn _ nr_466)
    | 2, 0, _, _ => exact Or.inr (hn _ nr_465)
    | 2, 1, _, _ => exact Or.inr (hn _ nr_466)
    | 2, 2, _, _ => exact absurd rfl hij
    | n + 3, _, hi, _ => omega
    | _, n + 3, _, hj => omega) hA
theorem el_dgO : ∀ j : Nat, j < 100 → nrL[18 + j]? = some (Cond.eq (.elem (.static "java/lang/Integer" "DigitOnes" "[B") (.int (Int32.ofNat j))) (.int (dgO j))) := by decide +kernel
theorem dg_dgO {s : State} {args : Array Value} {A : Nat → Prop} (hn : ∀ w ∈ nrL, w.before args s = true) (hA : ∀ a : Nat, a < s.heap.size → ¬ A a) : ∃ t : Nat, (Term.static "java/lang/Integer" "DigitOnes" "[B").eval args s none [] s = some (.ref t) ∧ va_T .byte t 100 (fun j => .int (dgO j)) A s s.heap := va_Tof (by decide) (hn _ nr_16) (va_eqt (hn _ nr_17)) (fun j hj => va_eqt (hn _ (List.mem_of_getElem? (el_dgO j hj)))) hA
theorem el_dgT : ∀ j : Nat, j < 100 → nrL[121 + j]? = some (Cond.eq (.elem (.static "java/lang/Integer" "DigitTens" "[B") (.int (Int32.ofNat j))) (.int (dgT j))) := by decide +kernel
theorem dg_dgT {s : State} {args : Array Value} {A : Nat → Prop} (hn : ∀ w ∈ nrL, w.before args s = true) (hA : ∀ a : Nat, a < s.heap.size → ¬ A a) : ∃ t : Nat, (Term.static "java/lang/Integer" "DigitTens" "[B").eval args s none [] s = some (.ref t) ∧ va_T .byte t 100 (fun j => .int (dgT j)) A s s.heap := va_Tof (by decide) (hn _ nr_119) (va_eqt (hn _ nr_120)) (fun j hj => va_eqt (hn _ (List.mem_of_getElem? (el_dgT j hj)))) hA
theorem env_of {s : State} {args : Array Value} {A : Nat → Prop} (hts : ∀ w ∈ lw_tbl, w.before args s = true) (hn : ∀ w ∈ nrL, w.before args s = true) (hA : ∀ a : Nat, a < s.heap.size → ¬ A a) : ∃ (D : va_G) (T : Nat → ClassId), va_K D vwCl (zty T) s ∧ GE T A s ∧ NX s := by
  have h0 := w0_all hts
  obtain ⟨D, hD⟩ := kn_of hts
  obtain ⟨cs, hcs⟩ := ty_of hts
  obtain ⟨adK, adV, hS, hE⟩ := str_of (A := A) hn hA
  obtain ⟨t120, e120, hT120⟩ := va_Tof (tm := (Jvm.Term.static "java/util/ArrayList" "DEFAULTCAPACITY_EMPTY_ELEMENTDATA" "[Ljava/lang/Object;")) (ty := .object "java/lang/Object") (N := 0) (f := fun _ => .null) (A := A) (by decide) (hn _ nr_8) (va_eqt (hn _ nr_10)) (fun j hj => absurd hj (Nat.not_lt_zero j)) hA
  obtain ⟨mi, hmi⟩ := va_Mi.of (hn _ nr_434)
  obtain ⟨tO, eO, hO⟩ := dg_dgO (A := A) hn hA
  obtain ⟨tT, eT, hT⟩ := dg_dgT (A := A) hn hA
  obtain ⟨T, eT0⟩ : ∃ T : Nat → ClassId, T = fun k => if k < 11 then cs k else if k < 110 then adK (k - 100) else if k < 120 then adV (k - 110) else if k = 120 then t120 else if k = 121 then mi else if k = 122 then tO else tT := ⟨_, rfl⟩
  have c1 : ∀ k, k < 11 → T k = cs k := fun k h => by rw [eT0]; exact if_pos h
  have c2 : ∀ i, i < 3 → T (100 + i) = adK i := fun i h => by
    rw [eT0]
    show (if 100 + i < 11 then cs (100 + i) else if 100 + i < 110 then adK (100 + i - 100) else _) = adK i
    rw [if_neg (by omega), if_pos (by omega), Nat.add_sub_cancel_left]
  have c3 : ∀ i, i < 3 → T (110 + i) = adV i := fun i h => by
    rw [eT0]
    show (if 110 + i < 11 then cs (110 + i) else if 110 + i < 110 then adK (110 + i - 100) else if 110 + i < 120 then adV (110 + i - 110) else _) = adV i
    rw [if_neg (by omega), if_neg (by omega), if_pos (by omega), Nat.add_sub_cancel_left]
  have c120 : T 120 = t120 := by rw [eT0]; rfl
  have c121 : T 121 = mi := by rw [eT0]; rfl
  have c122 : T 122 = tO := by rw [eT0]; rfl
  have c123 : T 123 = tT := by rw [eT0]; rfl
  have hk : vk_S 3 lenZ bytZ (fun i => T (100 + i)) (fun i => T (110 + i)) A s s.heap := by
    refine ⟨fun i hi => ?_, fun i j hi hj e => hS.2 i j hi hj (by rw [← c2 i hi, ← c2 j hj]; exact e)⟩
    show va_O _ (T (100 + i)) A s s.heap ∧ va_OF _ _ _ _ (T (100 + i)) A s s.heap ∧ va_OF _ _ _ (.ref (T (110 + i))) (T (100 + i)) A s s.heap ∧ va_T _ (T (110 + i)) _ _ A s s.heap
    rw [c2 i hi, c3 i hi]
    exact hS.1 i hi
  have r0 : vk_R "FreightRater$Reader" 47 "zbmdfscar" (T 100) s := vk_R.of (hts _ (w0_t3 (List.mem_of_getElem? (i := 113) (by decide +kernel)))) (by rw [show T 100 = adK 0 from c2 0 (by decide)]; exact hE 0 (by decide))
  have r1 : vk_R "FreightRater$Reader" 124 "hwnlz" (T 101) s := vk_R.of (hts _ (w0_t4 (List.mem_of_getElem? (i := 79) (by decide +kernel)))) (by rw [show T 101 = adK 1 from c2 1 (by decide)]; exact hE 1 (by decide))
  have r2 : vk_R "FreightRater$Reader" 131 "<>=" (T 102) s := vk_R.of (hts _ (w0_t4 (List.mem_of_getElem? (i := 80) (by decide +kernel)))) (by rw [show T 102 = adK 2 from c2 2 (by decide)]; exact hE 2 (by decide))
  have z1 : va_Z "java/lang/String" "COMPACT_STRINGS" "Z" (.int 1) A s s.heap := va_Zof (hts _ (w0_t1 (List.mem_of_getElem? (i := 103) (by decide +kernel)))) (h0 _ kw_5) (va_eqt (hn _ nr_4)) hA
  have z2 : va_Z "java/util/ArrayList" "DEFAULTCAPACITY_EMPTY_ELEMENTDATA" "[Ljava/lang/Object;" (.ref (T 120)) A s s.heap := by rw [c120]; exact va_Zof (hts _ (w0_t3 (List.mem_of_getElem? (i := 94) (by decide +kernel)))) (h0 _ kw_22) e120 hA
  have z3 : va_Z "java/lang/Integer" "DigitOnes" "[B" (.ref (T 122)) A s s.heap := by rw [c122]; exact va_Zof (hts _ (w0_t7 (List.mem_of_getElem? (i := 175) (by decide +kernel)))) (h0 _ kw_37) eO hA
  have z4 : va_Z "java/lang/Integer" "DigitTens" "[B" (.ref (T 123)) A s s.heap := by rw [c123]; exact va_Zof (hts _ (w0_t7 (List.mem_of_getElem? (i := 177) (by decide +kernel)))) (h0 _ kw_37) eT hA
  have z5 : va_Zq "jdk/internal/util/Preconditions" "SIOOBE_FORMATTER" "Ljava/util/function/BiFunction;" A s s.heap := va_Zqof (hts _ (w0_t3 (List.mem_of_getElem? (i := 171) (by decide +kernel)))) (h0 _ kw_25) (hn _ nr_11) hA
  have z6 : vx_Zq Bundle.tN "UNASSIGNED_STACK" Bundle.steD A s s.heap := vx_Zqof (hts _ (w0_t2 (List.mem_of_getElem? (i := 97) (by decide +kernel)))) (h0 _ kw_10) (hn _ nr_5) hA
  have z7 : vx_Zq Bundle.tN "SUPPRESSED_SENTINEL" Bundle.listD A s s.heap := vx_Zqof (hts _ (w0_t2 (List.mem_of_getElem? (i := 99) (by decide +kernel)))) (h0 _ kw_10) (hn _ nr_6) hA
  refine ⟨D, T, kk_of hD (fun k h => by rw [c1 k h]; exact hcs k h), ⟨ge1_of hts, ge2_of hts, ge3_of hts, ge4_of hts, z6, z7, hk, r0, r1, r2, z1, z2, by rw [c121]; exact hmi, ⟨z3, by rw [c122]; exact hO⟩, z4, by rw [c123]; exact hT, z5, by rw [c120]; exact hT120⟩, nx_of hn⟩
end ENVL
