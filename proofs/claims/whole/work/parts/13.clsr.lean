section GCLSR
/-- the links between nest mates, the casts, the array classes: words that no reader of steady words carries -/
def nestL : List (String × Nat × MethodName × String) := [("FreightRater", 9, ({ cls := "FreightRater$State", name := "<init>", desc := "()V" } : MethodName), "FreightRater"), ("FreightRater", 40, ({ cls := "FreightRater$Rating", name := "<init>", desc := "()V" } : MethodName), "FreightRater"), ("FreightRater", 47, ({ cls := "FreightRater$Plan", name := "<init>", desc := "()V" } : MethodName), "FreightRater"), ("FreightRater$State", 43, ({ cls := "FreightRater", name := "isBetween", desc := "(III)Z" } : MethodName), "FreightRater"), ("FreightRater$Reader", 94, ({ cls := "FreightRater$Accessorial", name := "<init>", desc := "()V" } : MethodName), "FreightRater"), ("FreightRater$Version", 61, ({ cls := "FreightRater", name := "isBetween", desc := "(III)Z" } : MethodName), "FreightRater"), ("FreightRater$Rating", 106, ({ cls := "FreightRater", name := "isIn", desc := "(II)Z" } : MethodName), "FreightRater"), ("FreightRater$Test", 26, ({ cls := "FreightRater", name := "isIn", desc := "(II)Z" } : MethodName), "FreightRater"), ("FreightRater$Accessorial", 55, ({ cls := "FreightRater", name := "percentOf", desc := "(II)I" } : MethodName), "FreightRater"), ("FreightRater$Rating", 97, ({ cls := "FreightRater", name := "percentOf", desc := "(II)I" } : MethodName), "FreightRater"), ("FreightRater$Plan", 36, ({ cls := "FreightRater", name := "isIn", desc := "(II)Z" } : MethodName), "FreightRater")]
def castL : List (String × String) := [("java/lang/IllegalArgumentException", "java/lang/IllegalArgumentException"), ("java/lang/IndexOutOfBoundsException", "java/lang/IndexOutOfBoundsException"), ("java/lang/IllegalStateException", "java/lang/IllegalStateException"), ("[I", "java/lang/Cloneable"), ("java/lang/UnsupportedOperationException", "java/lang/UnsupportedOperationException"), ("java/util/NoSuchElementException", "java/util/NoSuchElementException"), ("[B", "java/lang/Cloneable"), ("java/lang/ArrayIndexOutOfBoundsException", "java/lang/ArrayIndexOutOfBoundsException"), ("java/lang/ArrayIndexOutOfBoundsException", "java/lang/IndexOutOfBoundsException"), ("java/lang/StringIndexOutOfBoundsException", "java/lang/IndexOutOfBoundsException"), ("FreightRater$Version", "java/lang/Object"), ("FreightRater$Shipment", "java/lang/Object"), ("FreightRater$State", "java/lang/Object"), ("FreightRater$Scale", "java/lang/Object"), ("FreightRater$Accessorial", "java/lang/Object"), ("FreightRater", "java/lang/Object"), ("java/lang/StringBuilder", "java/lang/Object"), ("FreightRater$Rating", "java/lang/Object"), ("FreightRater$Plan", "java/lang/Object"), ("FreightRaterModel", "java/lang/Object"), ("java/lang/IllegalArgumentException", "java/lang/Object"), ("java/lang/IndexOutOfBoundsException", "java/lang/Object"), ("java/lang/IllegalStateException", "java/lang/Object"), ("FreightRater$Reader", "java/lang/Object"), ("java/util/ArrayList", "java/lang/Object"), ("FreightRater$Statement", "java/lang/Object"), ("FreightRater$Test", "java/lang/Object"), ("java/lang/UnsupportedOperationException", "java/lang/Object"), ("java/util/NoSuchElementException", "java/lang/Object"), ("java/lang/StringIndexOutOfBoundsException", "java/lang/Object"), ("java/lang/String", "java/lang/Object"), ("java/lang/ArrayIndexOutOfBoundsException", "java/lang/Object"), ("java/lang/Throwable", "java/lang/Object"), ("[LFreightRater$Version;", "java/lang/Object"), ("[LFreightRater$Shipment;", "java/lang/Object"), ("[I", "java/lang/Object"), ("[LFreightRater$State;", "java/lang/Object"), ("[C", "java/lang/Object"), ("[B", "java/lang/Object"), ("[LFreightRater$Scale;", "java/lang/Object"), ("[LFreightRater$Accessorial;", "java/lang/Object"), ("[Ljava/lang/Object;", "java/lang/Object"), ("[J", "java/lang/Object"), ("[D", "java/lang/Object")]
def declL : List MethodName := [({ cls := "java/lang/RuntimeException", name := "<init>", desc := "()V" } : MethodName), ({ cls := "java/lang/RuntimeException", name := "<init>", desc := "(Ljava/lang/String;)V" } : MethodName), ({ cls := "java/lang/Exception", name := "<init>", desc := "()V" } : MethodName), ({ cls := "java/lang/Exception", name := "<init>", desc := "(Ljava/lang/String;)V" } : MethodName), ({ cls := "java/lang/Throwable", name := "<init>", desc := "()V" } : MethodName), ({ cls := "java/lang/Throwable", name := "<init>", desc := "(Ljava/lang/String;)V" } : MethodName), ({ cls := "java/lang/IndexOutOfBoundsException", name := "<init>", desc := "()V" } : MethodName), ({ cls := "java/lang/IndexOutOfBoundsException", name := "<init>", desc := "(Ljava/lang/String;)V" } : MethodName), ({ cls := "java/lang/Object", name := "getClass", desc := "()Ljava/lang/Class;" } : MethodName)]
def overL : List String := ["FreightRater$Version", "FreightRater$Shipment", "FreightRater$State", "FreightRater$Scale", "FreightRater$Accessorial", "java/lang/Object"]
/-- the literals' lengths and signs, the digits' rows -/
def lenZ : List Nat := [9, 5, 3]
def bytZ : List (List Int32) := [[122, 98, 109, 100, 102, 115, 99, 97, 114], [104, 119, 110, 108, 122], [60, 62, 61]]
def dgO (j : Nat) : Int32 := Int32.ofNat (48 + j % 10)
def dgT (j : Nat) : Int32 := Int32.ofNat (48 + j / 10)
/-- texts, statics and class objects that no call changes: their addresses are T 100 .. -/
def GS (T : Nat → ClassId) (A : Nat → Prop) (U : State) : Prop := vk_S 3 lenZ bytZ (fun i => T (100 + i)) (fun i => T (110 + i)) A U U.heap ∧ vk_R "FreightRater$Reader" 47 "zbmdfscar" (T 100) U ∧ vk_R "FreightRater$Reader" 124 "hwnlz" (T 101) U ∧ vk_R "FreightRater$Reader" 131 "<>=" (T 102) U ∧ va_Z "java/lang/String" "COMPACT_STRINGS" "Z" (.int 1) A U U.heap ∧ va_Z "java/util/ArrayList" "DEFAULTCAPACITY_EMPTY_ELEMENTDATA" "[Ljava/lang/Object;" (.ref (T 120)) A U U.heap ∧ va_Mi "[Ljava/lang/Object;" (T 121) U ∧ (va_Z "java/lang/Integer" "DigitOnes" "[B" (.ref (T 122)) A U U.heap ∧ va_T .byte (T 122) 100 (fun j => .int (dgO j)) A U U.heap) ∧ va_Z "java/lang/Integer" "DigitTens" "[B" (.ref (T 123)) A U U.heap ∧ va_T .byte (T 123) 100 (fun j => .int (dgT j)) A U U.heap ∧ va_Zq "jdk/internal/util/Preconditions" "SIOOBE_FORMATTER" "Ljava/util/function/BiFunction;" A U U.heap ∧ va_T (.object "java/lang/Object") (T 120) 0 (fun _ => .null) A U U.heap
theorem GS_blind {T : Nat → ClassId} {A : Nat → Prop} {U V : State} (hv : V.vm = U.vm) (hh : V.heap = U.heap) (h : GS T A U) : GS T A V := by
  obtain ⟨h1, h2, h3, h4, h5, h6, h7, ⟨h8, h9⟩, h10, h11, h12, h13⟩ := h
  have al : U.vm.Alike V.vm := by rw [hv]; exact Vm.Alike.refl _
  exact ⟨by rw [hh]; exact vk_S.moved al h1, vk_R.same hv h2, vk_R.same hv h3, vk_R.same hv h4, by rw [hh]; exact va_Z.moved al h5, by rw [hh]; exact va_Z.moved al h6, va_Mi.moved al h7, ⟨by rw [hh]; exact va_Z.moved al h8, by rw [hh]; exact va_T.moved al h9⟩, by rw [hh]; exact va_Z.moved al h10, by rw [hh]; exact va_T.moved al h11, by rw [hh]; exact va_Zq.moved al h12, by rw [hh]; exact va_T.moved al h13⟩
theorem GS_call {T : Nat → ClassId} {A A1 : Nat → Prop} {s U : State} {H : Heap} {locs : List Loc} (h : GS T A s) (hS : va_S A s.heap H locs) (hU : U.heap = H) (hW : s.WarmedH U.vm) (hA : ∀ q, A1 q → A q) : GS T A1 U := by
  obtain ⟨h1, h2, h3, h4, h5, h6, h7, ⟨h8, h9⟩, h10, h11, h12, h13⟩ := h
  exact ⟨by rw [hU]; exact (vk_S.moved hW.alike (h1.kept hS.2.1)).narrow hA, vk_R.warm hW h2, vk_R.warm hW h3, vk_R.warm hW h4, by rw [hU]; exact (va_Z.moved hW.alike (h5.kept hS.2.1)).narrow hA, by rw [hU]; exact (va_Z.moved hW.alike (h6.kept hS.2.1)).narrow hA, va_Mi.moved hW.alike h7, ⟨by rw [hU]; exact (va_Z.moved hW.alike (h8.kept hS.2.1)).narrow hA, by rw [hU]; exact (va_T.moved hW.alike (h9.kept hS.2.1)).narrow hA⟩, by rw [hU]; exact (va_Z.moved hW.alike (h10.kept hS.2.1)).narrow hA, by rw [hU]; exact (va_T.moved hW.alike (h11.kept hS.2.1)).narrow hA, by rw [hU]; exact (va_Zq.moved hW.alike (h12.kept hS.2.1)).narrow hA, by rw [hU]; exact (va_T.moved hW.alike (h13.kept hS.2.1)).narrow hA⟩
def GE (T : Nat → ClassId) (A : Nat → Prop) (U : State) : Prop := (∀ q ∈ nestL, va_Nw (.methodLinkNest q.1 q.2.1 q.2.2.1 q.2.2.2) U) ∧ (∀ q ∈ castL, va_Nw (.castable q.1 q.2) U) ∧ (∀ C ∈ overL, va_AO C U) ∧ (∀ y ∈ declL, va_Nw (.declares y) U) ∧ vx_Zq Bundle.tN "UNASSIGNED_STACK" Bundle.steD A U U.heap ∧ vx_Zq Bundle.tN "SUPPRESSED_SENTINEL" Bundle.listD A U U.heap ∧ GS T A U
theorem va_warmD {y : MethodName} {s U : State} (hW : s.WarmedH U.vm) (hZ : va_Nw (.declares y) s) : va_Nw (.declares y) U := va_tabs rfl (rfl : (s.setVm U.vm).vm = U.vm) (by rw [Cond.declares_setVm hW.alike]; exact hZ)
theorem GE_blind {T : Nat → ClassId} {A : Nat → Prop} {U V : State} (hv : V.vm = U.vm) (hh : V.heap = U.heap) (h : GE T A U) : GE T A V := by
  obtain ⟨h1, h2, h3, h6, h4, h5, h7⟩ := h
  refine ⟨fun q hq => va_Nw.same rfl hv.symm (h1 q hq), fun q hq => va_Nw.same rfl hv.symm (h2 q hq), fun C hC => va_AO.moved (by rw [hv]; exact Vm.Alike.refl _) (h3 C hC), fun y hy => va_Nw.same rfl hv.symm (h6 y hy), ?_, ?_, GS_blind hv hh h7⟩
  · rw [hh]; exact vx_Zq.moved (by rw [hv]; exact Vm.Alike.refl _) h4
  · rw [hh]; exact vx_Zq.moved (by rw [hv]; exact Vm.Alike.refl _) h5
/-- what a callee finds of it -/
theorem GE_call {T : Nat → ClassId} {A A1 : Nat → Prop} {s U : State} {H : Heap} {locs : List Loc} (h : GE T A s) (hS : va_S A s.heap H locs) (hU : U.heap = H) (hW : s.WarmedH U.vm) (hA : ∀ q, A1 q → A q) : GE T A1 U := by
  obtain ⟨h1, h2, h3, h6, h4, h5, h7⟩ := h
  refine ⟨fun q hq => va_Nw.warmM hW (h1 q hq), fun q hq => va_Nw.warmC hW (h2 q hq), fun C hC => va_AO.moved hW.alike (h3 C hC), fun y hy => va_warmD hW (h6 y hy), ?_, ?_, GS_call h7 hS hU hW hA⟩
  · rw [hU]; exact (vx_Zq.moved hW.alike (h4.kept hS.2.1)).narrow hA
  · rw [hU]; exact (vx_Zq.moved hW.alike (h5.kept hS.2.1)).narrow hA
/-- a method's start over the class's world -/
def CB (D : va_G) (T : Nat → ClassId) (S : HS) (L : List Nat) (sz : Nat) : State → Prop := fun U => U.heap.size = sz ∧ va_P D vwCl (CW T S L) U.heap ∧ va_K D vwCl (zty T) U ∧ va_D (fun _ => True) (CW T S L) ∧ GE T (va_A (CW T S L) sz) U
/-- .. and its end -/
def CE (D : va_G) (T : Nat → ClassId) (A : Nat → Prop) (u : HS × List Nat) : State → Prop := fun t => va_P D vwCl (CW T u.1 u.2) t.heap ∧ va_K D vwCl (zty T) t ∧ va_D A (CW T u.1 u.2)
def CO (S : HS) (u : HS × List Nat) : Prop := ext S u.1 ∧ wt u.1 ∧ hL u.1 u.2
/-- what holds behind a throw -/
def CXX (D : va_G) (T : Nat → ClassId) (A : Nat → Prop) (S : HS) (X : String → HS → Prop) : String → State → State → Prop := vx_X (fun u : HS × List Nat => CO S u) (fun E u t => X E u.1 ∧ CE D T A u t) A
theorem CB_blind {D : va_G} {T : Nat → ClassId} {S : HS} {L : List Nat} {sz : Nat} {As : List Value} : FrameBlind (va_Pc As (CB D T S L sz)) := fun av U g mk h => by
  obtain ⟨q0, q1, qP, qK, qD, qG⟩ := h
  exact ⟨q0, q1, qP, va_K.moved (u := U) (U := U.calling g mk av) (Vm.Alike.refl U.vm) qK, qD, GE_blind (U := U) (V := U.calling g mk av) rfl rfl qG⟩
def CMi (l : Launch) (y : MethodName) (ws : List Cond) (rm : Room) (D : va_G) (T : Nat → ClassId) (As : List Value) (S : HS) (mc ms : Nat) (post : Int32 → HS → Prop) : Prop := ∀ (sz : Nat) (L : List Nat), hL S L → wt S → Met l y ws { rm with cells := mc, slots := ms } (va_Pc As (CB D T S L sz)) (va_Qi (fun v u => post v u.1 ∧ CO S u) (CE D T (va_A (CW T S L) sz)) (va_A (CW T S L) sz)) mc ms (va_A (CW T S L) sz)
def CXi (l : Launch) (y : MethodName) (ws : List Cond) (rm : Room) (D : va_G) (T : Nat → ClassId) (As : List Value) (S : HS) (mc ms : Nat) (post : Int32 → HS → Prop) (X : String → HS → Prop) : Prop := ∀ (sz : Nat) (L : List Nat), hL S L → wt S → vx_Met l y ws { rm with cells := mc, slots := ms } (va_Pc As (CB D T S L sz)) (va_Qi (fun v u => post v u.1 ∧ CO S u) (CE D T (va_A (CW T S L) sz)) (va_A (CW T S L) sz)) (CXX D T (va_A (CW T S L) sz) S X) mc ms (va_A (CW T S L) sz)
def CMv (l : Launch) (y : MethodName) (ws : List Cond) (rm : Room) (D : va_G) (T : Nat → ClassId) (As : List Value) (S : HS) (mc ms : Nat) (post : HS → Prop) : Prop := ∀ (sz : Nat) (L : List Nat), hL S L → wt S → Met l y ws { rm with cells := mc, slots := ms } (va_Pc As (CB D T S L sz)) (va_Qv (fun u => post u.1 ∧ CO S u) (CE D T (va_A (CW T S L) sz)) (va_A (CW T S L) sz)) mc ms (va_A (CW T S L) sz)
def CXv (l : Launch) (y : MethodName) (ws : List Cond) (rm : Room) (D : va_G) (T : Nat → ClassId) (As : List Value) (S : HS) (mc ms : Nat) (post : HS → Prop) (X : String → HS → Prop) : Prop := ∀ (sz : Nat) (L : List Nat), hL S L → wt S → vx_Met l y ws { rm with cells := mc, slots := ms } (va_Pc As (CB D T S L sz)) (va_Qv (fun u => post u.1 ∧ CO S u) (CE D T (va_A (CW T S L) sz)) (va_A (CW T S L) sz)) (CXX D T (va_A (CW T S L) sz) S X) mc ms (va_A (CW T S L) sz)
def CMq (l : Launch) (y : MethodName) (ws : List Cond) (rm : Room) (D : va_G) (T : Nat → ClassId) (As : List Value) (S : HS) (mc ms : Nat) (kd : Nat) (post : Option Nat → HS → Prop) : Prop := ∀ (sz : Nat) (L : List Nat), hL S L → wt S → Met l y ws { rm with cells := mc, slots := ms } (va_Pc As (CB D T S L sz)) (va_Qq (fun v u => (post v u.1 ∧ ∀ b, v = some b → hK u.1 b = kd) ∧ CO S u) (CE D T (va_A (CW T S L) sz)) (va_A (CW T S L) sz)) mc ms (va_A (CW T S L) sz)
def CXq (l : Launch) (y : MethodName) (ws : List Cond) (rm : Room) (D : va_G) (T : Nat → ClassId) (As : List Value) (S : HS) (mc ms : Nat) (kd : Nat) (post : Option Nat → HS → Prop) (X : String → HS → Prop) : Prop := ∀ (sz : Nat) (L : List Nat), hL S L → wt S → vx_Met l y ws { rm with cells := mc, slots := ms } (va_Pc As (CB D T S L sz)) (va_Qq (fun v u => (post v u.1 ∧ ∀ b, v = some b → hK u.1 b = kd) ∧ CO S u) (CE D T (va_A (CW T S L) sz)) (va_A (CW T S L) sz)) (CXX D T (va_A (CW T S L) sz) S X) mc ms (va_A (CW T S L) sz)
variable {p : Program} {l : Launch} {e : Env} {R : Room} {s : State} {m : MethodId} {args : Array Value} {below : List Frame} {meth : Method} {c : Code} {D : va_G} {A : Nat → Prop} {nL KC KS : Nat} {Q : State → Prop}
variable {kc ks pc : Nat} {lv : List (Nat × Value)} {st : List Value} {cc : ByteArray} {own : String} {Ts : List Cond} {T : Nat → ClassId} {S : HS} {L : List Nat} {x : Nat}
theorem ge_120 {T : Nat → ClassId} {A : Nat → Prop} {s : State} (E : GE T A s) : va_T (.object "java/lang/Object") (T 120) 0 (fun _ => .null) A s s.heap := E.2.2.2.2.2.2.2.2.2.2.2.2.2.2.2.2.2
theorem cw_ne {T : Nat → ClassId} {A : Nat → Prop} {s : State} {q : Nat} {e : va_E} {w : va_W} (E : GE T A s) (hD1 : va_D A (w ++ [(q, e)])) : q ≠ T 120 := fun h => by
  have h1 := hD1.2 w.length (q, e) (by rw [List.getElem?_append_right (Nat.le_refl _)]; simp)
  exact (ge_120 E).out (by rw [← h]; exact h1)
theorem gc_getI (C : GC p s m args meth c cc own Ts nL D A (zty T)) {kd N idx i : Nat} {Cn : String} {Tn : u_T} (hin : ∀ w ∈ u_ws Cn Tn N, w ∈ Ts) (hL0 : hL S L) (hx : hK S x = kd) (h0 : kd ≠ 0) (h1 : kd < 20) (hcl : vwCl[clx kd]? = some (Cn, Tn, N)) (k : Nat) (hk : k < N) (hlink : (Cond.fieldLink own idx Cn (Tn k).2.1 (Tn k).2.2.1).before args s = true) (hsm : (Tn k).1 = Cn) (hb : (shp kd)[k]? = some false) (hi : 20 * kd + k = i) (hdg : decode cc pc = .ok (.getfield idx, 3)) (kk : GW p l e R s m args below meth c D A nL KC KS Q (CW T S L) kc ks (pc + 3) lv (.int (hI S i x) :: st)) : GW p l e R s m args below meth c D A nL KC KS Q (CW T S L) kc ks pc lv (.ref x :: st) := by
  intro H locs cells slots ls hP hD hS hl hc hs
  obtain ⟨k0, hk0⟩ := cw_objC (T := T) hP hL0 hx h0 h1
  have hv := fsl_get (S := S) (a := x) (kd := kd) (shp kd) 0 k hb
  rw [Nat.zero_add, hi] at hv
  exact va_get (D := D) (ci := clx kd) (v := .int (hI S i x)) (C := Cn) (T := Tn) (N := N) C.1 C.2.1 C.2.2.2.2.1 hin C.2.2.2.1 C.2.2.2.2.2.1 hP k0 hk0 hcl k hk hlink (by rw [hsm]; exact fun _ h9 => h9) hv hdg (kk H locs cells slots ls hP hD hS hl hc hs)
theorem gc_getR (C : GC p s m args meth c cc own Ts nL D A (zty T)) (hw : wt S) {kd N idx i : Nat} {Cn : String} {Tn : u_T} (hin : ∀ w ∈ u_ws Cn Tn N, w ∈ Ts) (hL0 : hL S L) (hx : hK S x = kd) (h0 : kd ≠ 0) (h1 : kd < 20) (hcl : vwCl[clx kd]? = some (Cn, Tn, N)) (k : Nat) (hk : k < N) (hlink : (Cond.fieldLink own idx Cn (Tn k).2.1 (Tn k).2.2.1).before args s = true) (hsm : (Tn k).1 = Cn) (hb : (shp kd)[k]? = some true) (hi : 20 * kd + k = i) (hdg : decode cc pc = .ok (.getfield idx, 3)) (kk : ∀ o : Option Nat, o = hR S i x → (∀ b, o = some b → hK S b = tyf i) → GW p l e R s m args below meth c D A nL KC KS Q (CW T S L) kc ks (pc + 3) lv (va_rf o :: st)) : GW p l e R s m args below meth c D A nL KC KS Q (CW T S L) kc ks pc lv (.ref x :: st) := by
  intro H locs cells slots ls hP hD hS hl hc hs
  obtain ⟨k0, hk0⟩ := cw_objC (T := T) hP hL0 hx h0 h1
  have hv := fsl_get (S := S) (a := x) (kd := kd) (shp kd) 0 k hb
  rw [Nat.zero_add, hi] at hv
  exact va_get (D := D) (ci := clx kd) (v := va_rf (hR S i x)) (C := Cn) (T := Tn) (N := N) C.1 C.2.1 C.2.2.2.2.1 hin C.2.2.2.1 C.2.2.2.2.2.1 hP k0 hk0 hcl k hk hlink (by rw [hsm]; exact fun _ h9 => h9) hv hdg (kk _ rfl (fun b hb => hw.2.1 i x b hb) H locs cells slots ls hP hD hS hl hc hs)
theorem gc_putI (C : GC p s m args meth c cc own Ts nL D A (zty T)) {kd N idx i : Nat} {Cn : String} {Tn : u_T} (hin : ∀ w ∈ u_ws Cn Tn N, w ∈ Ts) (hL0 : hL S L) (hx : hK S x = kd) (h0 : kd ≠ 0) (h1 : kd < 20) (hcl : vwCl[clx kd]? = some (Cn, Tn, N)) (k : Nat) (hk : k < N) (hlink : (Cond.fieldLink own idx Cn (Tn k).2.1 (Tn k).2.2.1).before args s = true) (hsm : (Tn k).1 = Cn) (tyn : Nat → FieldType) (htyn : ∀ k, k < N → parseFieldDescriptor (Tn k).2.2.1 = some (tyn k)) (hnm : ∀ a, a < N → ∀ b, b < N → a ≠ b → (Tn a).2.1 ≠ (Tn b).2.1) (hb : (shp kd)[k]? = some false) (hi : 20 * kd + k = i) (hfin : (Tn k).2.2.2 = false) {v : Int32} (hn : narrow (tyn k) (.int v) = .int v) (hfit : fits (tyn k) (.int v) = true) (hdg : decode cc pc = .ok (.putfield idx, 3)) (kk : GW p l e R s m args below meth c D A nL KC KS Q (CW T (putI S i x v) L) kc ks (pc + 3) lv st) : GW p l e R s m args below meth c D A nL KC KS Q (CW T S L) kc ks pc lv (.int v :: .ref x :: st) := by
  intro H locs cells slots ls hP0 hD0 hS hl hc hs
  have hG := cw_gd hP0
  have hP := hP0
  have hD := hD0
  rw [cw_eq hG] at hP hD
  obtain ⟨k0, hk0⟩ := cw_obj hG hL0 hx h0 h1
  have hm := cw_mem hG hL0 hx h0 (Or.inl (by omega))
  have hlen : k < (fsl S x kd 0 (shp kd)).length := by rw [fsl_len]; exact (List.getElem?_eq_some_iff.mp hb).1
  refine va_put (D := D) (ci := clx kd) (v := .int v) (ty := tyn k) (C := Cn) (T := Tn) (N := N) C.1 C.2.1 C.2.2.2.2.1 hin tyn htyn hnm C.2.2.2.1 C.2.2.2.2.2.1 hP hD hS k0 hk0 hcl k hk hlink (by rw [hsm]; exact fun _ h9 => h9) hfin (htyn k hk) hn hfit hlen hdg (fun H1 locs1 hP1 hD1 hS1 => ?_)
  have e := pl_set (g := wF T (putI S i x v)) (e := .inr (clx kd, (fsl S x kd 0 (shp kd)).set k (.int v))) hD hm (by rw [wF_obj hx h1]; exact hk0) (by
    rw [wF_obj (kd := kd) (show hK (putI S i x v) x = kd from hx) h1, ← hi]
    have h9 := fsl_setI (S := S) (a := x) (kd := kd) (v := v) (shp kd) 0 k hb
    rw [Nat.zero_add] at h9
    rw [h9]) (fun b hb9 => wF_off rfl rfl (fun j => up2_a _ _ _ _ hb9) (fun j => rfl) rfl rfl)
  rw [e, ← cw_eq (T := T) (S := putI S i x v) (L := L) (show okG T (putI S i x v) from hG)] at hP1 hD1
  exact kk H1 locs1 cells slots ls hP1 hD1 hS1 hl hc hs
theorem gc_putR (C : GC p s m args meth c cc own Ts nL D A (zty T)) {kd N idx i : Nat} {Cn : String} {Tn : u_T} (hin : ∀ w ∈ u_ws Cn Tn N, w ∈ Ts) (hL0 : hL S L) (hx : hK S x = kd) (h0 : kd ≠ 0) (h1 : kd < 20) (hcl : vwCl[clx kd]? = some (Cn, Tn, N)) (k : Nat) (hk : k < N) (hlink : (Cond.fieldLink own idx Cn (Tn k).2.1 (Tn k).2.2.1).before args s = true) (hsm : (Tn k).1 = Cn) (tyn : Nat → FieldType) (htyn : ∀ k, k < N → parseFieldDescriptor (Tn k).2.2.1 = some (tyn k)) (hnm : ∀ a, a < N → ∀ b, b < N → a ≠ b → (Tn a).2.1 ≠ (Tn b).2.1) (hb : (shp kd)[k]? = some true) (hi : 20 * kd + k = i) (hfin : (Tn k).2.2.2 = false) (o : Option Nat) (hn : narrow (tyn k) (va_rf o) = va_rf o) (hfit : fits (tyn k) (va_rf o) = true) (hdg : decode cc pc = .ok (.putfield idx, 3)) (kk : GW p l e R s m args below meth c D A nL KC KS Q (CW T (putR S i x o) L) kc ks (pc + 3) lv st) : GW p l e R s m args below meth c D A nL KC KS Q (CW T S L) kc ks pc lv (va_rf o :: .ref x :: st) := by
  intro H locs cells slots ls hP0 hD0 hS hl hc hs
  have hG := cw_gd hP0
  have hP := hP0
  have hD := hD0
  rw [cw_eq hG] at hP hD
  obtain ⟨k0, hk0⟩ := cw_obj hG hL0 hx h0 h1
  have hm := cw_mem hG hL0 hx h0 (Or.inl (by omega))
  have hlen : k < (fsl S x kd 0 (shp kd)).length := by rw [fsl_len]; exact (List.getElem?_eq_some_iff.mp hb).1
  refine va_put (D := D) (ci := clx kd) (v := va_rf o) (ty := tyn k) (C := Cn) (T := Tn) (N := N) C.1 C.2.1 C.2.2.2.2.1 hin tyn htyn hnm C.2.2.2.1 C.2.2.2.2.2.1 hP hD hS k0 hk0 hcl k hk hlink (by rw [hsm]; exact fun _ h9 => h9) hfin (htyn k hk) hn hfit hlen hdg (fun H1 locs1 hP1 hD1 hS1 => ?_)
  have e := pl_set (g := wF T (putR S i x o)) (e := .inr (clx kd, (fsl S x kd 0 (shp kd)).set k (va_rf o))) hD hm (by rw [wF_obj hx h1]; exact hk0) (by
    rw [wF_obj (kd := kd) (show hK (putR S i x o) x = kd from hx) h1, ← hi]
    have h9 := fsl_setR (S := S) (a := x) (kd := kd) (v := o) (shp kd) 0 k hb
    rw [Nat.zero_add] at h9
    rw [h9]) (fun b hb9 => wF_off rfl rfl (fun j => rfl) (fun j => up2_a _ _ _ _ hb9) rfl rfl)
  rw [e, ← cw_eq (T := T) (S := putR S i x o) (L := L) (show okG T (putR S i x o) from hG)] at hP1 hD1
  exact kk H1 locs1 cells slots ls hP1 hD1 hS1 hl hc hs
theorem gc_putIF (C : GC p s m args meth c cc own Ts nL D A (zty T)) {kd N idx i : Nat} {Cn : String} {Tn : u_T} (hin : ∀ w ∈ u_ws Cn Tn N, w ∈ Ts) (hL0 : hL S L) (hx : hK S x = kd) (h0 : kd ≠ 0) (h1 : kd < 20) (hcl : vwCl[clx kd]? = some (Cn, Tn, N)) (k : Nat) (hk : k < N) (hlink : (Cond.fieldLink own idx Cn (Tn k).2.1 (Tn k).2.2.1).before args s = true) (hsm : (Tn k).1 = Cn) (tyn : Nat → FieldType) (htyn : ∀ k, k < N → parseFieldDescriptor (Tn k).2.2.1 = some (tyn k)) (hnm : ∀ a, a < N → ∀ b, b < N → a ≠ b → (Tn a).2.1 ≠ (Tn b).2.1) (hb : (shp kd)[k]? = some false) (hi : 20 * kd + k = i) (hfin : (Tn k).2.2.2 = true) (hin2 : meth.name = "<init>") (hdecl : Cn = own) {v : Int32} (hn : narrow (tyn k) (.int v) = .int v) (hfit : fits (tyn k) (.int v) = true) (hdg : decode cc pc = .ok (.putfield idx, 3)) (kk : GW p l e R s m args below meth c D A nL KC KS Q (CW T (putI S i x v) L) kc ks (pc + 3) lv st) : GW p l e R s m args below meth c D A nL KC KS Q (CW T S L) kc ks pc lv (.int v :: .ref x :: st) := by
  intro H locs cells slots ls hP0 hD0 hS hl hc hs
  have hG := cw_gd hP0
  have hP := hP0
  have hD := hD0
  rw [cw_eq hG] at hP hD
  obtain ⟨k0, hk0⟩ := cw_obj hG hL0 hx h0 h1
  have hm := cw_mem hG hL0 hx h0 (Or.inl (by omega))
  have hlen : k < (fsl S x kd 0 (shp kd)).length := by rw [fsl_len]; exact (List.getElem?_eq_some_iff.mp hb).1
  refine va_putF (D := D) (ci := clx kd) (v := .int v) (ty := tyn k) (C := Cn) (T := Tn) (N := N) C.1 C.2.1 C.2.2.2.2.1 hin tyn htyn hnm C.2.2.2.1 C.2.2.2.2.2.1 hP hD hS k0 hk0 hcl k hk hlink (by rw [hsm]; exact fun _ h9 => h9) hfin hin2 (by rw [hsm]; exact hdecl) (htyn k hk) hn hfit hlen hdg (fun H1 locs1 hP1 hD1 hS1 => ?_)
  have e := pl_set (g := wF T (putI S i x v)) (e := .inr (clx kd, (fsl S x kd 0 (shp kd)).set k (.int v))) hD hm (by rw [wF_obj hx h1]; exact hk0) (by
    rw [wF_obj (kd := kd) (show hK (putI S i x v) x = kd from hx) h1, ← hi]
    have h9 := fsl_setI (S := S) (a := x) (kd := kd) (v := v) (shp kd) 0 k hb
    rw [Nat.zero_add] at h9
    rw [h9]) (fun b hb9 => wF_off rfl rfl (fun j => up2_a _ _ _ _ hb9) (fun j => rfl) rfl rfl)
  rw [e, ← cw_eq (T := T) (S := putI S i x v) (L := L) (show okG T (putI S i x v) from hG)] at hP1 hD1
  exact kk H1 locs1 cells slots ls hP1 hD1 hS1 hl hc hs
theorem gc_putRF (C : GC p s m args meth c cc own Ts nL D A (zty T)) {kd N idx i : Nat} {Cn : String} {Tn : u_T} (hin : ∀ w ∈ u_ws Cn Tn N, w ∈ Ts) (hL0 : hL S L) (hx : hK S x = kd) (h0 : kd ≠ 0) (h1 : kd < 20) (hcl : vwCl[clx kd]? = some (Cn, Tn, N)) (k : Nat) (hk : k < N) (hlink : (Cond.fieldLink own idx Cn (Tn k).2.1 (Tn k).2.2.1).before args s = true) (hsm : (Tn k).1 = Cn) (tyn : Nat → FieldType) (htyn : ∀ k, k < N → parseFieldDescriptor (Tn k).2.2.1 = some (tyn k)) (hnm : ∀ a, a < N → ∀ b, b < N → a ≠ b → (Tn a).2.1 ≠ (Tn b).2.1) (hb : (shp kd)[k]? = some true) (hi : 20 * kd + k = i) (hfin : (Tn k).2.2.2 = true) (hin2 : meth.name = "<init>") (hdecl : Cn = own) (o : Option Nat) (hn : narrow (tyn k) (va_rf o) = va_rf o) (hfit : fits (tyn k) (va_rf o) = true) (hdg : decode cc pc = .ok (.putfield idx, 3)) (kk : GW p l e R s m args below meth c D A nL KC KS Q (CW T (putR S i x o) L) kc ks (pc + 3) lv st) : GW p l e R s m args below meth c D A nL KC KS Q (CW T S L) kc ks pc lv (va_rf o :: .ref x :: st) := by
  intro H locs cells slots ls hP0 hD0 hS hl hc hs
  have hG := cw_gd hP0
  have hP := hP0
  have hD := hD0
  rw [cw_eq hG] at hP hD
  obtain ⟨k0, hk0⟩ := cw_obj hG hL0 hx h0 h1
  have hm := cw_mem hG hL0 hx h0 (Or.inl (by omega))
  have hlen : k < (fsl S x kd 0 (shp kd)).length := by rw [fsl_len]; exact (List.getElem?_eq_some_iff.mp hb).1
  refine va_putF (D := D) (ci := clx kd) (v := va_rf o) (ty := tyn k) (C := Cn) (T := Tn) (N := N) C.1 C.2.1 C.2.2.2.2.1 hin tyn htyn hnm C.2.2.2.1 C.2.2.2.2.2.1 hP hD hS k0 hk0 hcl k hk hlink (by rw [hsm]; exact fun _ h9 => h9) hfin hin2 (by rw [hsm]; exact hdecl) (htyn k hk) hn hfit hlen hdg (fun H1 locs1 hP1 hD1 hS1 => ?_)
  have e := pl_set (g := wF T (putR S i x o)) (e := .inr (clx kd, (fsl S x kd 0 (shp kd)).set k (va_rf o))) hD hm (by rw [wF_obj hx h1]; exact hk0) (by
    rw [wF_obj (kd := kd) (show hK (putR S i x o) x = kd from hx) h1, ← hi]
    have h9 := fsl_setR (S := S) (a := x) (kd := kd) (v := o) (shp kd) 0 k hb
    rw [Nat.zero_add] at h9
    rw [h9]) (fun b hb9 => wF_off rfl rfl (fun j => rfl) (fun j => up2_a _ _ _ _ hb9) rfl rfl)
  rw [e, ← cw_eq (T := T) (S := putR S i x o) (L := L) (show okG T (putR S i x o) from hG)] at hP1 hD1
  exact kk H1 locs1 cells slots ls hP1 hD1 hS1 hl hc hs
theorem gc_iald (C : GC p s m args meth c cc own Ts nL D A (zty T)) (hL0 : hL S L) (hx : hK S x = 22) {i : Int32} (hin : vp_in i (hN S x)) (hdg : decode cc pc = .ok (.iaload, 1)) (kk : GW p l e R s m args below meth c D A nL KC KS Q (CW T S L) kc ks (pc + 1) lv (.int (hA S x i.toNatClampNeg) :: st)) : GW p l e R s m args below meth c D A nL KC KS Q (CW T S L) kc ks pc lv (.int i :: .ref x :: st) := by
  intro H locs cells slots ls hP0 hD0 hS hl hc hs
  have hG := cw_gd hP0
  have hP := hP0
  have hD := hD0
  rw [cw_eq hG] at hP hD
  obtain ⟨k0, hk0⟩ := pl_at (f := wF T S) (cw_mem hG hL0 hx (by decide) (Or.inl (by decide)))
  rw [wF_int hx (by decide) (by decide)] at hk0
  exact va_iald C.1 C.2.1 C.2.2.2.2.2.1 hP k0 2 hk0 rfl hin hdg (kk H locs cells slots ls hP0 hD0 hS hl hc hs)
theorem gc_cald (C : GC p s m args meth c cc own Ts nL D A (zty T)) (hL0 : hL S L) (hx : hK S x = 21) {i : Int32} (hin : vp_in i (hN S x)) (hdg : decode cc pc = .ok (.caload, 1)) (kk : GW p l e R s m args below meth c D A nL KC KS Q (CW T S L) kc ks (pc + 1) lv (.int (hA S x i.toNatClampNeg) :: st)) : GW p l e R s m args below meth c D A nL KC KS Q (CW T S L) kc ks pc lv (.int i :: .ref x :: st) := by
  intro H locs cells slots ls hP0 hD0 hS hl hc hs
  have hG := cw_gd hP0
  have hP := hP0
  have hD := hD0
  rw [cw_eq hG] at hP hD
  obtain ⟨k0, hk0⟩ := pl_at (f := wF T S) (cw_mem hG hL0 hx (by decide) (Or.inl (by decide)))
  rw [wF_int hx (by decide) (by decide)] at hk0
  exact va_cald C.1 C.2.1 C.2.2.2.2.2.1 hP k0 1 hk0 rfl hin hdg (kk H locs cells slots ls hP0 hD0 hS hl hc hs)
theorem gc_bald (C : GC p s m args meth c cc own Ts nL D A (zty T)) (hL0 : hL S L) (hx : hK S x = 20) {i : Int32} (hin : vp_in i (hN S x)) (hdg : decode cc pc = .ok (.baload, 1)) (kk : GW p l e R s m args below meth c D A nL KC KS Q (CW T S L) kc ks (pc + 1) lv (.int (hA S x i.toNatClampNeg) :: st)) : GW p l e R s m args below meth c D A nL KC KS Q (CW T S L) kc ks pc lv (.int i :: .ref x :: st) := by
  intro H locs cells slots ls hP0 hD0 hS hl hc hs
  have hG := cw_gd hP0
  have hP := hP0
  have hD := hD0
  rw [cw_eq hG] at hP hD
  obtain ⟨k0, hk0⟩ := pl_at (f := wF T S) (cw_mem hG hL0 hx (by decide) (Or.inl (by decide)))
  rw [wF_int hx (by decide) (by decide)] at hk0
  exact va_bald C.1 C.2.1 C.2.2.2.2.2.1 hP k0 0 hk0 rfl hin hdg (kk H locs cells slots ls hP0 hD0 hS hl hc hs)
theorem gc_iast (C : GC p s m args meth c cc own Ts nL D A (zty T)) (hL0 : hL S L) (hx : hK S x = 22) {i v : Int32} (hin : vp_in i (hN S x)) (hdg : decode cc pc = .ok (.iastore, 1)) (kk : GW p l e R s m args below meth c D A nL KC KS Q (CW T (putA S x i.toNatClampNeg v) L) kc ks (pc + 1) lv st) : GW p l e R s m args below meth c D A nL KC KS Q (CW T S L) kc ks pc lv (.int v :: .int i :: .ref x :: st) := by
  intro H locs cells slots ls hP0 hD0 hS hl hc hs
  have hG := cw_gd hP0
  have hP := hP0
  have hD := hD0
  rw [cw_eq hG] at hP hD
  have hm := cw_mem hG hL0 hx (by decide) (Or.inl (by decide))
  obtain ⟨k0, hk0⟩ := pl_at (f := wF T S) hm
  have hk1 := hk0
  rw [wF_int hx (by decide) (by decide)] at hk0
  refine va_iast C.1 C.2.1 C.2.2.2.2.2.1 hP hD hS k0 2 hk0 rfl hin hdg (fun H1 locs1 hP1 hD1 hS1 => ?_)
  have e := pl_set (g := wF T (putA S x i.toNatClampNeg v)) (e := .inl (T (22 - 20), hN S x, .inl (upd (hA S x) i.toNatClampNeg v))) hD hm hk1 (by
    rw [wF_int (kd := 22) (show hK (putA S x i.toNatClampNeg v) x = 22 from hx) (by decide) (by decide)]
    have h9 : hA (putA S x i.toNatClampNeg v) x = upd (hA S x) i.toNatClampNeg v := by
      funext j
      show up2 (hA S) x i.toNatClampNeg v x j = _
      unfold up2 upd
      by_cases hj : j = i.toNatClampNeg <;> simp [hj]
    rw [h9]; rfl) (fun b hb9 => wF_off rfl rfl (fun j => rfl) (fun j => rfl) (by
      funext j
      show up2 (hA S) x i.toNatClampNeg v b j = _
      exact up2_i _ _ _ _ hb9) rfl)
  rw [e, ← cw_eq (T := T) (S := putA S x i.toNatClampNeg v) (L := L) (show okG T (putA S x i.toNatClampNeg v) from hG)] at hP1 hD1
  exact kk H1 locs1 cells slots ls hP1 hD1 hS1 hl hc hs
theorem gc_cast (C : GC p s m args meth c cc own Ts nL D A (zty T)) (hL0 : hL S L) (hx : hK S x = 21) {i v : Int32} (hin : vp_in i (hN S x)) (hdg : decode cc pc = .ok (.castore, 1)) (kk : GW p l e R s m args below meth c D A nL KC KS Q (CW T (putA S x i.toNatClampNeg (vp_nar .char v)) L) kc ks (pc + 1) lv st) : GW p l e R s m args below meth c D A nL KC KS Q (CW T S L) kc ks pc lv (.int v :: .int i :: .ref x :: st) := by
  intro H locs cells slots ls hP0 hD0 hS hl hc hs
  have hG := cw_gd hP0
  have hP := hP0
  have hD := hD0
  rw [cw_eq hG] at hP hD
  have hm := cw_mem hG hL0 hx (by decide) (Or.inl (by decide))
  obtain ⟨k0, hk0⟩ := pl_at (f := wF T S) hm
  have hk1 := hk0
  rw [wF_int hx (by decide) (by decide)] at hk0
  refine va_cast C.1 C.2.1 C.2.2.2.2.2.1 hP hD hS k0 1 hk0 rfl hin hdg (fun H1 locs1 hP1 hD1 hS1 => ?_)
  have e := pl_set (g := wF T (putA S x i.toNatClampNeg (vp_nar .char v))) (e := .inl (T (21 - 20), hN S x, .inl (upd (hA S x) i.toNatClampNeg (vp_nar .char v)))) hD hm hk1 (by
    rw [wF_int (kd := 21) (show hK (putA S x i.toNatClampNeg (vp_nar .char v)) x = 21 from hx) (by decide) (by decide)]
    have h9 : hA (putA S x i.toNatClampNeg (vp_nar .char v)) x = upd (hA S x) i.toNatClampNeg (vp_nar .char v) := by
      funext j
      show up2 (hA S) x i.toNatClampNeg (vp_nar .char v) x j = _
      unfold up2 upd
      by_cases hj : j = i.toNatClampNeg <;> simp [hj]
    rw [h9]; rfl) (fun b hb9 => wF_off rfl rfl (fun j => rfl) (fun j => rfl) (by
      funext j
      show up2 (hA S) x i.toNatClampNeg (vp_nar .char v) b j = _
      exact up2_i _ _ _ _ hb9) rfl)
  rw [e, ← cw_eq (T := T) (S := putA S x i.toNatClampNeg (vp_nar .char v)) (L := L) (show okG T (putA S x i.toNatClampNeg (vp_nar .char v)) from hG)] at hP1 hD1
  exact kk H1 locs1 cells slots ls hP1 hD1 hS1 hl hc hs
theorem gc_bast (C : GC p s m args meth c cc own Ts nL D A (zty T)) (hL0 : hL S L) (hx : hK S x = 20) {i v : Int32} (hin : vp_in i (hN S x)) (hdg : decode cc pc = .ok (.bastore, 1)) (kk : GW p l e R s m args below meth c D A nL KC KS Q (CW T (putA S x i.toNatClampNeg (vp_nar .byte v)) L) kc ks (pc + 1) lv st) : GW p l e R s m args below meth c D A nL KC KS Q (CW T S L) kc ks pc lv (.int v :: .int i :: .ref x :: st) := by
  intro H locs cells slots ls hP0 hD0 hS hl hc hs
  have hG := cw_gd hP0
  have hP := hP0
  have hD := hD0
  rw [cw_eq hG] at hP hD
  have hm := cw_mem hG hL0 hx (by decide) (Or.inl (by decide))
  obtain ⟨k0, hk0⟩ := pl_at (f := wF T S) hm
  have hk1 := hk0
  rw [wF_int hx (by decide) (by decide)] at hk0
  refine va_bast C.1 C.2.1 C.2.2.2.2.2.1 hP hD hS k0 0 hk0 rfl hin hdg (fun H1 locs1 hP1 hD1 hS1 => ?_)
  have e := pl_set (g := wF T (putA S x i.toNatClampNeg (vp_nar .byte v))) (e := .inl (T (20 - 20), hN S x, .inl (upd (hA S x) i.toNatClampNeg (vp_nar .byte v)))) hD hm hk1 (by
    rw [wF_int (kd := 20) (show hK (putA S x i.toNatClampNeg (vp_nar .byte v)) x = 20 from hx) (by decide) (by decide)]
    have h9 : hA (putA S x i.toNatClampNeg (vp_nar .byte v)) x = upd (hA S x) i.toNatClampNeg (vp_nar .byte v) := by
      funext j
      show up2 (hA S) x i.toNatClampNeg (vp_nar .byte v) x j = _
      unfold up2 upd
      by_cases hj : j = i.toNatClampNeg <;> simp [hj]
    rw [h9]; rfl) (fun b hb9 => wF_off rfl rfl (fun j => rfl) (fun j => rfl) (by
      funext j
      show up2 (hA S) x i.toNatClampNeg (vp_nar .byte v) b j = _
      exact up2_i _ _ _ _ hb9) rfl)
  rw [e, ← cw_eq (T := T) (S := putA S x i.toNatClampNeg (vp_nar .byte v)) (L := L) (show okG T (putA S x i.toNatClampNeg (vp_nar .byte v)) from hG)] at hP1 hD1
  exact kk H1 locs1 cells slots ls hP1 hD1 hS1 hl hc hs
theorem gc_aald (C : GC p s m args meth c cc own Ts nL D A (zty T)) (hw : wt S) (hL0 : hL S L) {kd : Nat} (hx : hK S x = kd) (h0 : 25 ≤ kd) {Cn : String} (ht : (zty T)[kd - 20]? = some (T (kd - 20), .object Cn)) {i : Int32} (hin : vp_in i (hN S x)) (hdg : decode cc pc = .ok (.aaload, 1)) (kk : ∀ o : Option Nat, o = hB S x i.toNatClampNeg → (∀ b, o = some b → eok kd (hK S b)) → GW p l e R s m args below meth c D A nL KC KS Q (CW T S L) kc ks (pc + 1) lv (va_rf o :: st)) : GW p l e R s m args below meth c D A nL KC KS Q (CW T S L) kc ks pc lv (.int i :: .ref x :: st) := by
  intro H locs cells slots ls hP0 hD0 hS hl hc hs
  have hG := cw_gd hP0
  have hP := hP0
  have hD := hD0
  rw [cw_eq hG] at hP hD
  obtain ⟨k0, hk0⟩ := pl_at (f := wF T S) (cw_mem hG hL0 hx (by omega) (Or.inr (in_pos hin)))
  rw [wF_ref hx h0] at hk0
  exact va_aldq C.1 C.2.1 C.2.2.2.2.2.1 hP k0 (kd - 20) hk0 ht hin hdg (kk _ rfl (fun b hb => by rw [← hx]; exact hw.2.2.1 x _ b hb) H locs cells slots ls hP0 hD0 hS hl hc hs)
theorem gc_aast (C : GC p s m args meth c cc own Ts nL D A (zty T)) (hL0 : hL S L) {kd ke N : Nat} {Cn : String} {Tn : u_T} (hx : hK S x = kd) (h0 : 25 ≤ kd) (ht : (zty T)[kd - 20]? = some (T (kd - 20), .object Cn)) {v : Nat} (hv : hK S v = ke) (he : ke ≠ 0) (he2 : ke < 20) (hcl : vwCl[clx ke]? = some (Cn, Tn, N)) {i : Int32} (hin : vp_in i (hN S x)) (hdg : decode cc pc = .ok (.aastore, 1)) (kk : GW p l e R s m args below meth c D A nL KC KS Q (CW T (putB S x i.toNatClampNeg (some v)) L) kc ks (pc + 1) lv st) : GW p l e R s m args below meth c D A nL KC KS Q (CW T S L) kc ks pc lv (.ref v :: .int i :: .ref x :: st) := by
  intro H locs cells slots ls hP0 hD0 hS hl hc hs
  have hG := cw_gd hP0
  have hP := hP0
  have hD := hD0
  rw [cw_eq hG] at hP hD
  have hm := cw_mem hG hL0 hx (by omega) (Or.inr (in_pos hin))
  obtain ⟨k0, hk0⟩ := pl_at (f := wF T S) hm
  have hk1 := hk0
  rw [wF_ref hx h0] at hk0
  obtain ⟨k2, hk2⟩ := cw_obj hG hL0 hv he he2
  refine va_astq C.1 C.2.1 C.2.2.2.2.2.1 hP hD hS k0 (kd - 20) k2 (clx ke) (r := (Cn, Tn, N)) hk0 ht hk2 hcl hin hdg (fun H1 locs1 hP1 hD1 hS1 => ?_)
  have e := pl_set (g := wF T (putB S x i.toNatClampNeg (some v))) (e := .inl (T (kd - 20), hN S x, .inr (.inr (.inr (.inr (va_up (hB S x) i.toNatClampNeg (some v))))))) hD hm hk1 (by
    rw [wF_ref (kd := kd) (show hK (putB S x i.toNatClampNeg (some v)) x = kd from hx) h0]
    have h9 : hB (putB S x i.toNatClampNeg (some v)) x = va_up (hB S x) i.toNatClampNeg (some v) := by
      funext j
      show up2 (hB S) x i.toNatClampNeg (some v) x j = _
      unfold up2 va_up
      by_cases hj : j = i.toNatClampNeg <;> simp [hj]
    rw [h9]; rfl) (fun b hb9 => wF_off rfl rfl (fun j => rfl) (fun j => rfl) rfl (by
      funext j
      show up2 (hB S) x i.toNatClampNeg (some v) b j = _
      exact up2_i _ _ _ _ hb9))
  rw [e, ← cw_eq (T := T) (S := putB S x i.toNatClampNeg (some v)) (L := L) (show okG T (putB S x i.toNatClampNeg (some v)) from hG)] at hP1 hD1
  exact kk H1 locs1 cells slots ls hP1 hD1 hS1 hl hc hs
theorem gc_aastN (C : GC p s m args meth c cc own Ts nL D A (zty T)) (hL0 : hL S L) {kd : Nat} {Cn : String} (hx : hK S x = kd) (h0 : 25 ≤ kd) (ht : (zty T)[kd - 20]? = some (T (kd - 20), .object Cn)) {i : Int32} (hin : vp_in i (hN S x)) (hdg : decode cc pc = .ok (.aastore, 1)) (kk : GW p l e R s m args below meth c D A nL KC KS Q (CW T (putB S x i.toNatClampNeg none) L) kc ks (pc + 1) lv st) : GW p l e R s m args below meth c D A nL KC KS Q (CW T S L) kc ks pc lv (.null :: .int i :: .ref x :: st) := by
  intro H locs cells slots ls hP0 hD0 hS hl hc hs
  have hG := cw_gd hP0
  have hP := hP0
  have hD := hD0
  rw [cw_eq hG] at hP hD
  have hm := cw_mem hG hL0 hx (by omega) (Or.inr (in_pos hin))
  obtain ⟨k0, hk0⟩ := pl_at (f := wF T S) hm
  have hk1 := hk0
  rw [wF_ref hx h0] at hk0
  refine va_astqN C.1 C.2.1 C.2.2.2.2.2.1 hP hD hS k0 (kd - 20) hk0 ht hin hdg (fun H1 locs1 hP1 hD1 hS1 => ?_)
  have e := pl_set (g := wF T (putB S x i.toNatClampNeg none)) (e := .inl (T (kd - 20), hN S x, .inr (.inr (.inr (.inr (va_up (hB S x) i.toNatClampNeg none)))))) hD hm hk1 (by
    rw [wF_ref (kd := kd) (show hK (putB S x i.toNatClampNeg none) x = kd from hx) h0]
    have h9 : hB (putB S x i.toNatClampNeg none) x = va_up (hB S x) i.toNatClampNeg none := by
      funext j
      show up2 (hB S) x i.toNatClampNeg none x j = _
      unfold up2 va_up
      by_cases hj : j = i.toNatClampNeg <;> simp [hj]
    rw [h9]; rfl) (fun b hb9 => wF_off rfl rfl (fun j => rfl) (fun j => rfl) rfl (by
      funext j
      show up2 (hB S) x i.toNatClampNeg none b j = _
      exact up2_i _ _ _ _ hb9))
  rw [e, ← cw_eq (T := T) (S := putB S x i.toNatClampNeg none) (L := L) (show okG T (putB S x i.toNatClampNeg none) from hG)] at hP1 hD1
  exact kk H1 locs1 cells slots ls hP1 hD1 hS1 hl hc hs
theorem gc_alen (C : GC p s m args meth c cc own Ts nL D A (zty T)) (E : GE T A s) (hL0 : hL S L) {kd : Nat} (hx : hK S x = kd) (h0 : 20 ≤ kd) {ty : FieldType} (ht : (zty T)[kd - 20]? = some (T (kd - 20), ty)) (hdg : decode cc pc = .ok (.arraylength, 1)) (kk : GW p l e R s m args below meth c D A nL KC KS Q (CW T S L) kc ks (pc + 1) lv (.int (Int32.ofNat (hN S x)) :: st)) : GW p l e R s m args below meth c D A nL KC KS Q (CW T S L) kc ks pc lv (.ref x :: st) := by
  intro H locs cells slots ls hP0 hD0 hS hl hc hs
  have hG := cw_gd hP0
  have hP := hP0
  have hD := hD0
  rw [cw_eq hG] at hP hD
  by_cases he : x = T 120
  · have hz : hN S x = 0 := by
      rcases hG with ⟨_, g2⟩ | g1
      · rw [he]; exact g2
      · rw [← he, hx] at g1; omega
    have hT := ge_120 E
    rw [← he] at hT
    exact va_tlen C.1 C.2.1 hT hS (by rw [hz]) hdg (kk H locs cells slots ls hP0 hD0 hS hl hc hs)
  · obtain ⟨k0, hk0⟩ := pl_at (f := wF T S) (Lf_mem (T := T) ((hL0 x).mpr (by rw [hx]; omega)) he)
    have hk1 : ∃ z : vp_A, z.1 = hN S x ∧ (va_pl (Lf T L) (wF T S))[k0]? = some (x, .inl (T (kd - 20), z)) := by
      by_cases h9 : kd < 25
      · rw [wF_int hx h0 h9] at hk0
        exact ⟨_, rfl, hk0⟩
      · rw [wF_ref hx (by omega)] at hk0
        exact ⟨_, rfl, hk0⟩
    obtain ⟨z, hz, hk1⟩ := hk1
    exact va_alen C.1 C.2.1 C.2.2.2.2.2.1 hP k0 (kd - 20) hk1 ht (by rw [hz]) hdg (kk H locs cells slots ls hP0 hD0 hS hl hc hs)
end GCLSR
