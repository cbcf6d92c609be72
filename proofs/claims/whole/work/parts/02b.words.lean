section GWORDS2
theorem kw_90 : (Jvm.Cond.superclass "FreightRater$State" "java/lang/Object") ∈ W0 := w0_1 (List.mem_of_getElem? (i := 90) (by decide +kernel)) rfl
theorem kw_124 : (Jvm.Cond.superclass "java/lang/StringBuilder" "java/lang/AbstractStringBuilder") ∈ W0 := w0_1 (List.mem_of_getElem? (i := 124) (by decide +kernel)) rfl
theorem kw_206 : (Jvm.Cond.superclass "FreightRater$Rating" "java/lang/Object") ∈ W0 := w0_1 (List.mem_of_getElem? (i := 206) (by decide +kernel)) rfl
theorem kw_241 : (Jvm.Cond.superclass "FreightRater$Plan" "java/lang/Object") ∈ W0 := w0_2 (List.mem_of_getElem? (i := 1) (by decide +kernel)) rfl
theorem kw_284 : (Jvm.Cond.superclass "FreightRater" "java/lang/Object") ∈ W0 := w0_2 (List.mem_of_getElem? (i := 44) (by decide +kernel)) rfl
theorem kw_332 : (Jvm.Cond.superclass "java/lang/Throwable" "java/lang/Object") ∈ W0 := w0_2 (List.mem_of_getElem? (i := 92) (by decide +kernel)) rfl
theorem kw_342 : (Jvm.Cond.sameMethod "java/lang/Throwable" "java/lang/Throwable" "fillInStackTrace" "()Ljava/lang/Throwable;") ∈ W0 := w0_2 (List.mem_of_getElem? (i := 102) (by decide +kernel)) rfl
theorem kw_349 : (Jvm.Cond.codeSync ({ cls := "java/lang/Throwable", name := "fillInStackTrace", desc := "()Ljava/lang/Throwable;" } : Jvm.MethodName) prog_37_method_18_code (1 : Nat) (Option.some (Jvm.ClassFile.FieldType.object "java/lang/Throwable"))) ∈ W0 := w0_2 (List.mem_of_getElem? (i := 109) (by decide +kernel)) rfl
theorem kw_354 : (Jvm.Cond.native ({ cls := "java/lang/Throwable", name := "fillInStackTrace", desc := "(I)Ljava/lang/Throwable;" } : Jvm.MethodName)) ∈ W0 := w0_2 (List.mem_of_getElem? (i := 114) (by decide +kernel)) rfl
theorem kw_377 : (Jvm.Cond.superclass "java/lang/IllegalArgumentException" "java/lang/RuntimeException") ∈ W0 := w0_2 (List.mem_of_getElem? (i := 137) (by decide +kernel)) rfl
theorem kw_413 : (Jvm.Cond.superclass "FreightRater$Scale" "java/lang/Object") ∈ W0 := w0_2 (List.mem_of_getElem? (i := 173) (by decide +kernel)) rfl
theorem kw_459 : (Jvm.Cond.superclass "FreightRater$Version" "java/lang/Object") ∈ W0 := w0_2 (List.mem_of_getElem? (i := 219) (by decide +kernel)) rfl
theorem kw_479 : (Jvm.Cond.superclass "java/lang/IndexOutOfBoundsException" "java/lang/RuntimeException") ∈ W0 := w0_2 (List.mem_of_getElem? (i := 239) (by decide +kernel)) rfl
theorem kw_494 : (Jvm.Cond.superclass "java/lang/IllegalStateException" "java/lang/RuntimeException") ∈ W0 := w0_3 (List.mem_of_getElem? (i := 14) (by decide +kernel)) rfl
theorem kw_506 : (Jvm.Cond.sameMethod "[I" "java/lang/Object" "clone" "()Ljava/lang/Object;") ∈ W0 := w0_3 (List.mem_of_getElem? (i := 26) (by decide +kernel)) rfl
theorem kw_507 : (Jvm.Cond.native ({ cls := "java/lang/Object", name := "clone", desc := "()Ljava/lang/Object;" } : Jvm.MethodName)) ∈ W0 := w0_3 (List.mem_of_getElem? (i := 27) (by decide +kernel)) rfl
theorem kw_556 : (Jvm.Cond.superclass "FreightRater$Reader" "java/lang/Object") ∈ W0 := w0_3 (List.mem_of_getElem? (i := 76) (by decide +kernel)) rfl
theorem kw_586 : (Jvm.Cond.superclass "java/util/ArrayList" "java/util/AbstractList") ∈ W0 := w0_3 (List.mem_of_getElem? (i := 106) (by decide +kernel)) rfl
theorem kw_706 : (Jvm.Cond.superclass "FreightRater$Statement" "java/lang/Object") ∈ W0 := w0_3 (List.mem_of_getElem? (i := 226) (by decide +kernel)) rfl
theorem kw_763 : (Jvm.Cond.superclass "FreightRater$Accessorial" "java/lang/Object") ∈ W0 := w0_4 (List.mem_of_getElem? (i := 43) (by decide +kernel)) rfl
theorem kw_798 : (Jvm.Cond.superclass "FreightRater$Test" "java/lang/Object") ∈ W0 := w0_4 (List.mem_of_getElem? (i := 78) (by decide +kernel)) rfl
theorem kw_834 : (Jvm.Cond.sameMethod "java/lang/Object" "java/lang/Object" "getClass" "()Ljava/lang/Class;") ∈ W0 := w0_4 (List.mem_of_getElem? (i := 114) (by decide +kernel)) rfl
theorem kw_857 : (Jvm.Cond.native ({ cls := "java/lang/Object", name := "getClass", desc := "()Ljava/lang/Class;" } : Jvm.MethodName)) ∈ W0 := w0_4 (List.mem_of_getElem? (i := 137) (by decide +kernel)) rfl
theorem kw_867 : (Jvm.Cond.native ({ cls := "java/lang/System", name := "arraycopy", desc := "(Ljava/lang/Object;ILjava/lang/Object;II)V" } : Jvm.MethodName)) ∈ W0 := w0_4 (List.mem_of_getElem? (i := 147) (by decide +kernel)) rfl
theorem kw_957 : (Jvm.Cond.superclass "java/lang/UnsupportedOperationException" "java/lang/RuntimeException") ∈ W0 := w0_4 (List.mem_of_getElem? (i := 237) (by decide +kernel)) rfl
theorem kw_980 : (Jvm.Cond.superclass "java/util/NoSuchElementException" "java/lang/RuntimeException") ∈ W0 := w0_5 (List.mem_of_getElem? (i := 20) (by decide +kernel)) rfl
theorem kw_1122 : (Jvm.Cond.superclass "FreightRater$Shipment" "java/lang/Object") ∈ W0 := w0_5 (List.mem_of_getElem? (i := 162) (by decide +kernel)) rfl
theorem kw_1551 : (Jvm.Cond.sameMethod "[B" "java/lang/Object" "clone" "()Ljava/lang/Object;") ∈ W0 := w0_7 (List.mem_of_getElem? (i := 111) (by decide +kernel)) rfl
theorem kw_1557 : (Jvm.Cond.sameMethod "java/lang/AbstractStringBuilder" "java/lang/AbstractStringBuilder" "isLatin1" "()Z") ∈ W0 := w0_7 (List.mem_of_getElem? (i := 117) (by decide +kernel)) rfl
theorem kw_1641 : (Jvm.Cond.sameMethod "java/lang/AbstractStringBuilder" "java/lang/AbstractStringBuilder" "getValue" "()[B") ∈ W0 := w0_7 (List.mem_of_getElem? (i := 201) (by decide +kernel)) rfl
theorem kw_1646 : (Jvm.Cond.sameMethod "java/lang/AbstractStringBuilder" "java/lang/AbstractStringBuilder" "length" "()I") ∈ W0 := w0_7 (List.mem_of_getElem? (i := 206) (by decide +kernel)) rfl
theorem kw_1701 : (Jvm.Cond.superclass "java/lang/String" "java/lang/Object") ∈ W0 := w0_8 (List.mem_of_getElem? (i := 21) (by decide +kernel)) rfl
theorem kw_1712 : (Jvm.Cond.superclass "java/lang/StringIndexOutOfBoundsException" "java/lang/IndexOutOfBoundsException") ∈ W0 := w0_8 (List.mem_of_getElem? (i := 32) (by decide +kernel)) rfl
theorem kw_1747 : (Jvm.Cond.superclass "java/lang/ArrayIndexOutOfBoundsException" "java/lang/IndexOutOfBoundsException") ∈ W0 := w0_8 (List.mem_of_getElem? (i := 67) (by decide +kernel)) rfl
theorem kw_1935 : (Jvm.Cond.superclass "FreightRaterModel" "java/lang/Object") ∈ W0 := w0_9 (List.mem_of_getElem? (i := 15) (by decide +kernel)) rfl
theorem kw_2352 : (Jvm.Cond.sameMethod "java/lang/Throwable" "java/lang/Throwable" "fillInStackTrace" "(I)Ljava/lang/Throwable;") ∈ W0 := w0_10 (List.mem_of_getElem? (i := 192) (by decide +kernel)) rfl
theorem kw_2353 : (Jvm.Cond.sameMethod "java/lang/AbstractStringBuilder" "java/lang/AbstractStringBuilder" "setLength" "(I)V") ∈ W0 := w0_10 (List.mem_of_getElem? (i := 193) (by decide +kernel)) rfl
theorem kw_2354 : (Jvm.Cond.sameMethod "java/lang/AbstractStringBuilder" "java/lang/AbstractStringBuilder" "append" "(Ljava/lang/String;)Ljava/lang/AbstractStringBuilder;") ∈ W0 := w0_10 (List.mem_of_getElem? (i := 194) (by decide +kernel)) rfl
theorem kw_2355 : (Jvm.Cond.sameMethod "java/lang/AbstractStringBuilder" "java/lang/AbstractStringBuilder" "appendNull" "()Ljava/lang/AbstractStringBuilder;") ∈ W0 := w0_10 (List.mem_of_getElem? (i := 195) (by decide +kernel)) rfl
theorem kw_2356 : (Jvm.Cond.sameMethod "java/lang/AbstractStringBuilder" "java/lang/AbstractStringBuilder" "ensureCapacityInternal" "(I)V") ∈ W0 := w0_10 (List.mem_of_getElem? (i := 196) (by decide +kernel)) rfl
theorem kw_2357 : (Jvm.Cond.sameMethod "java/lang/AbstractStringBuilder" "java/lang/AbstractStringBuilder" "newCapacity" "(I)I") ∈ W0 := w0_10 (List.mem_of_getElem? (i := 197) (by decide +kernel)) rfl
theorem kw_2358 : (Jvm.Cond.sameMethod "java/lang/AbstractStringBuilder" "java/lang/AbstractStringBuilder" "putStringAt" "(ILjava/lang/String;)V") ∈ W0 := w0_10 (List.mem_of_getElem? (i := 198) (by decide +kernel)) rfl
theorem kw_2359 : (Jvm.Cond.sameMethod "java/lang/AbstractStringBuilder" "java/lang/AbstractStringBuilder" "inflateIfNeededFor" "(Ljava/lang/String;)V") ∈ W0 := w0_10 (List.mem_of_getElem? (i := 199) (by decide +kernel)) rfl
theorem kw_2360 : (Jvm.Cond.sameMethod "java/lang/AbstractStringBuilder" "java/lang/AbstractStringBuilder" "inflate" "()V") ∈ W0 := w0_10 (List.mem_of_getElem? (i := 200) (by decide +kernel)) rfl
theorem kw_2361 : (Jvm.Cond.sameMethod "java/lang/AbstractStringBuilder" "java/lang/AbstractStringBuilder" "append" "(I)Ljava/lang/AbstractStringBuilder;") ∈ W0 := w0_10 (List.mem_of_getElem? (i := 201) (by decide +kernel)) rfl
theorem kw_2362 : (Jvm.Cond.sameMethod "java/lang/AbstractStringBuilder" "java/lang/AbstractStringBuilder" "append" "(C)Ljava/lang/AbstractStringBuilder;") ∈ W0 := w0_10 (List.mem_of_getElem? (i := 202) (by decide +kernel)) rfl
theorem kw_2364 : (Jvm.Cond.sameMethod "java/lang/AbstractStringBuilder" "java/lang/AbstractStringBuilder" "charAt" "(I)C") ∈ W0 := w0_10 (List.mem_of_getElem? (i := 204) (by decide +kernel)) rfl
theorem kw_2390 : (Jvm.Cond.sameMethod "[Ljava/lang/Object;" "java/lang/Object" "getClass" "()Ljava/lang/Class;") ∈ W0 := w0_10 (List.mem_of_getElem? (i := 230) (by decide +kernel)) rfl
end GWORDS2
