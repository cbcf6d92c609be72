section LAWT
def oJ (T : Nat → ClassId) (f : Nat → Int64) : va_E := .inl (T 3, 1, .inr (.inl f))
def oD (T : Nat → ClassId) (f : Nat → UInt64) : va_E := .inl (T 4, 1, .inr (.inr (.inr (.inl f))))
/-- a handler: the thrown is put aside, a number comes back -/
def HR (cc : ByteArray) (nL h n : Nat) : Prop := ∃ (len j : Nat), ((∃ k0 : Fin 4, decode cc h = .ok (.astore_n k0, 1) ∧ (k0 : Nat) = j ∧ len = 1) ∨ (decode cc h = .ok (.astore j, 2) ∧ len = 2)) ∧ j < nL ∧ decode cc (h + len) = .ok (.iconst (n : Int), 1) ∧ decode cc (h + len + 1) = .ok (.ireturn, 1)
/-- the table of a helper, row by row -/
def HT (cc : ByteArray) (nL : Nat) (Ts : List Cond) (own : String) (pc : Nat) (hh : List (Nat × Nat × Nat × Nat)) (names : List String) : Prop := hh.length = names.length ∧ ∀ (i : Nat) (z : Nat × Nat × Nat × Nat) (nm : String), hh[i]? = some z → names[i]? = some nm → z.1 ≤ pc ∧ pc < z.2.1 ∧ z.2.2.2 ≠ 0 ∧ Cond.classLink own z.2.2.2 nm ∈ Ts ∧ HR cc nL z.2.2.1 (i + 1)
variable {p : Program} {l : Launch} {e : Env} {R : Room} {s : State} {m : MethodId} {args : Array Value} {below : List Frame} {meth : Method} {c : Code} {D : va_G} {A : Nat → Prop} {nL KC KS : Nat} {Q : State → Prop}
variable {kc ks pc : Nat} {lv : List (Nat × Value)} {st : List Value} {cc : ByteArray} {own : String} {Ts : List Cond} {T : Nat → ClassId} {S S0 : HS} {L : List Nat} {x ol : Nat} {oe : va_E} {ws w1 w2 : va_W}
theorem in01 : vp_in 0 1 := by unfold vp_in; decide
theorem gl_last {f : Nat → Int64} {v : Int64} (C : GC p s m args meth c cc own Ts nL D A (zty T)) (hdg : decode cc pc = .ok (.lastore, 1)) (kk : ∀ f1 : Nat → Int64, f1 0 = v → GW p l e R s m args below meth c D A nL KC KS Q ((ol, oJ T f1) :: ws) kc ks (pc + 1) lv st) : GW p l e R s m args below meth c D A nL KC KS Q ((ol, oJ T f) :: ws) kc ks pc lv (.long v :: .int 0 :: .ref ol :: st) := fun H locs cells slots ls hP hD hS hl hc hs => va_last C.1 C.2.1 C.2.2.2.2.2.1 hP hD hS 0 3 (n := 1) (f := f) rfl rfl in01 hdg (fun H1 locs1 hP1 hD1 hS1 => kk (vp_updL f (Int32.toNatClampNeg 0) v) (by unfold vp_updL; rw [if_pos (by decide)]) H1 locs1 cells slots ls hP1 hD1 hS1 hl hc hs)
theorem gl_dast {f : Nat → UInt64} {v : UInt64} (C : GC p s m args meth c cc own Ts nL D A (zty T)) (hdg : decode cc pc = .ok (.dastore, 1)) (kk : ∀ f1 : Nat → UInt64, f1 0 = v → GW p l e R s m args below meth c D A nL KC KS Q ((ol, oD T f1) :: ws) kc ks (pc + 1) lv st) : GW p l e R s m args below meth c D A nL KC KS Q ((ol, oD T f) :: ws) kc ks pc lv (.double v :: .int 0 :: .ref ol :: st) := fun H locs cells slots ls hP hD hS hl hc hs => va_dast C.1 C.2.1 C.2.2.2.2.2.1 hP hD hS 0 4 (n := 1) (f := f) rfl rfl in01 hdg (fun H1 locs1 hP1 hD1 hS1 => kk (vf_upd f (Int32.toNatClampNeg 0) v) (by unfold vf_upd; rw [if_pos (by decide)]) H1 locs1 cells slots ls hP1 hD1 hS1 hl hc hs)
theorem gl_lald {f : Nat → Int64} (C : GC p s m args meth c cc own Ts nL D A (zty T)) (k0 : Nat) (hk : ws[k0]? = some (ol, oJ T f)) (hdg : decode cc pc = .ok (.laload, 1)) (kk : GW p l e R s m args below meth c D A nL KC KS Q ws kc ks (pc + 1) lv (.long (f 0) :: st)) : GW p l e R s m args below meth c D A nL KC KS Q ws kc ks pc lv (.int 0 :: .ref ol :: st) := fun H locs cells slots ls hP hD hS hl hc hs => va_lald C.1 C.2.1 C.2.2.2.2.2.1 hP k0 3 (n := 1) (f := f) hk rfl in01 hdg (kk H locs cells slots ls hP hD hS hl hc hs)
theorem gl_dald {f : Nat → UInt64} (C : GC p s m args meth c cc own Ts nL D A (zty T)) (k0 : Nat) (hk : ws[k0]? = some (ol, oD T f)) (hdg : decode cc pc = .ok (.daload, 1)) (kk : GW p l e R s m args below meth c D A nL KC KS Q ws kc ks (pc + 1) lv (.double (f 0) :: st)) : GW p l e R s m args below meth c D A nL KC KS Q ws kc ks pc lv (.int 0 :: .ref ol :: st) := fun H locs cells slots ls hP hD hS hl hc hs => va_dald C.1 C.2.1 C.2.2.2.2.2.1 hP k0 4 (n := 1) (f := f) hk rfl in01 hdg (kk H locs cells slots ls hP hD hS hl hc hs)
/-- a throw that has come back, at a table of helpers -/
theorem gl_thrown {α : Type} {mk : α → va_E} {o : α} {P2 : Int32 → HS → α → Prop} {names : List String} {hh : List (Nat × Nat × Nat × Nat)} {i : Nat} {E9 : String} (C : GC p s m args meth c cc own Ts nL D A (zty T)) (E : GE T A s) (N : NX s) (htab : c.exceptionTable.toList = tableOf hh) (hr : meth.sig.returnType = (some .int)) (hw : wt S) (hL0 : hL S L) (hext : ext S0 S) (hT : HT cc nL Ts own pc hh names) (hcast : ∀ nm ∈ names, (nm, nm) ∈ castL) (hnd : ∀ (i j : Nat) (a b : String), names[i]? = some a → names[j]? = some b → j < i → (a, b) ∈ NXL) (hi : names[i]? = some E9) (hp : P2 (nI (i + 1)) S o) : GX p l e R s m args below meth c D A nL KC KS (MQ below (va_Qi (fun v (u : (HS × List Nat) × α) => P2 v u.1.1 u.2 ∧ CO S0 u.1) (LE mk D T ol A) A) args s KC KS A) ((ol, mk o) :: CW T S L) kc ks pc lv E9 := by
  obtain ⟨hlen, hrow⟩ := hT
  have hil : i < names.length := (List.getElem?_eq_some_iff.mp hi).1
  have hz : hh[i]? = some (hh[i]'(by omega)) := List.getElem?_eq_getElem (by omega)
  generalize hh[i]'(by omega) = z at hz
  obtain ⟨z1, z2, z3, z4, len, j, hj, hjn, d1, d2⟩ := hrow i z E9 hz hi
  have hti : (tableOf hh)[i]? = some ⟨z.1, z.2.1, z.2.2.1, z.2.2.2⟩ := by
    unfold tableOf
    rw [List.getElem?_map, hz]
    rfl
  obtain ⟨til, tie⟩ := List.getElem?_eq_some_iff.mp hti
  refine gx_catch C ((tableOf hh).take i) ⟨z.1, z.2.1, z.2.2.1, z.2.2.2⟩ ((tableOf hh).drop (i + 1)) ?_ (fun y hy => ?_) ?_ z3 (C.2.2.2.2.1 _ z4) (va_any rfl (E.2.1 _ (hcast E9 (List.mem_of_getElem? hi)))) (fun q => ?_)
  · rw [htab, ← tie, List.getElem_cons_drop, List.take_append_drop]
  · obtain ⟨k, hk⟩ := List.getElem?_of_mem hy
    have hki : k < i := by
      have := (List.getElem?_eq_some_iff.mp hk).1
      rw [List.length_take] at this
      omega
    have hk2 : (tableOf hh)[k]? = some y := by rw [List.getElem?_take] at hk; rw [if_pos hki] at hk; exact hk
    unfold tableOf at hk2
    rw [List.getElem?_map] at hk2
    have hkz : hh[k]? = some (hh[k]'(by omega)) := List.getElem?_eq_getElem (by omega)
    generalize hh[k]'(by omega) = w at hkz
    rw [hkz] at hk2
    have hnk : names[k]? = some (names[k]'(by omega)) := List.getElem?_eq_getElem (by omega)
    generalize names[k]'(by omega) = nm at hnk
    obtain ⟨-, -, w3, w4, -⟩ := hrow k w nm hkz hnk
    have ey : y = ⟨w.1, w.2.1, w.2.2.1, w.2.2.2⟩ := (Option.some.inj hk2).symm
    subst ey
    exact Or.inr ⟨w3, nm, C.2.2.2.2.1 _ w4, N _ (hnd i k E9 nm hi hnk hki)⟩
  · simp [covers, z1, z2]
  · refine g_locals [] (lv' := []) rfl ?_
    rcases hj with ⟨k0, dj, ej, el⟩ | ⟨dj, el⟩
    · subst el
      refine g_astore_n (lv' := [(j, .ref q)]) C dj ej hjn rfl ?_
      refine g_iconst (v := nI (i + 1)) C d1 rfl ?_
      exact gl_iret C hw hL0 hext hr d2 hp
    · subst el
      refine g_astore (lv' := [(j, .ref q)]) C dj hjn rfl ?_
      refine g_iconst (v := nI (i + 1)) C d1 rfl ?_
      exact gl_iret C hw hL0 hext hr d2 hp
theorem gl_tailJ {f : Nat → Int64} {P2 : Int32 → HS → (Nat → Int64) → Prop} {names : List String} {hh : List (Nat × Nat × Nat × Nat)} (C : GC p s m args meth c cc own Ts nL D A (zty T)) (E : GE T A s) (N : NX s) (htab : c.exceptionTable.toList = tableOf hh) (hr : meth.sig.returnType = (some .int)) {y : MethodName} {bytes : ByteArray} {maxL n idx mc ms : Nat} {ret : Option FieldType} {wsY : List Cond} {rmY : Room} {X : String → HS → Prop} {post : Int32 → HS → Prop} (hw : wt S) (hL0 : hL S L) {kr Nr : Nat} {Cn : String} {Tn : u_T} (hx : hK S x = kr) (hr0 : kr ≠ 0) (hr1 : kr < 20) (hcl : vwCl[clx kr]? = some (Cn, Tn, Nr)) (As : List Value) {stk : List Value} (hst : stk = As.reverse ++ .ref x :: [.int 0, .ref ol]) (hM : CXi l y wsY rmY D T (.ref x :: As) S mc ms post X) (cw : CallW R s args own Cn idx y bytes maxL ret wsY { rmY with cells := mc, slots := ms } mc ms n) (hn : As.length = n) (hKC : KC ≤ R.cells) (hKS : KS ≤ R.slots) (hkc : mc ≤ kc) (hks : ms ≤ ks) (hdg : decode cc pc = .ok (.invokevirtual idx, 3)) (d3 : decode cc (pc + 3) = .ok (.i2l, 1)) (d4 : decode cc (pc + 4) = .ok (.lastore, 1)) {off : Int} (d5 : decode cc (pc + 5) = .ok (.goto off, 3)) {z : Nat} (hz : ((pc + 5 : Nat) : Int) + off = (z : Int)) (dz : decode cc z = .ok (.iconst 0, 1)) (dz1 : decode cc (z + 1) = .ok (.ireturn, 1)) (hT : HT cc nL Ts own pc hh names) (hcast : ∀ nm ∈ names, (nm, nm) ∈ castL) (hnd : ∀ (i j : Nat) (a b : String), names[i]? = some a → names[j]? = some b → j < i → (a, b) ∈ NXL) (hX : ∀ E9 S1, X E9 S1 → E9 ∈ names) (hp : ∀ v S1 f1, f1 0 = Int32.toInt64 v → post v S1 → P2 0 S1 f1) (hq : ∀ i E9 S1, names[i]? = some E9 → X E9 S1 → P2 (nI (i + 1)) S1 f) : GW p l e R s m args below meth c D A nL KC KS (MQ below (va_Qi (fun v (u : (HS × List Nat) × (Nat → Int64)) => P2 v u.1.1 u.2 ∧ CO S u.1) (LE (oJ T) D T ol A) A) args s KC KS A) ((ol, oJ T f) :: CW T S L) kc ks pc lv stk := by
  refine gl_calliV (w2 := [(ol, oJ T f)]) C E hw hL0 hx hr0 hr1 hcl As hst hM cw hn (Nat.le_of_ble_eq_true rfl) hKC hKS hkc hks hdg (fun E9 S1 L1 hx1 hw1 hL1 hX1 => ?_) (fun v S1 L1 hx1 hw1 hL1 hp1 => ?_)
  · obtain ⟨i, hi⟩ := List.getElem?_of_mem (hX E9 S1 hX1)
    exact gl_thrown C E N htab hr hw1 hL1 hx1 hT hcast hnd hi (hq i E9 S1 hi hX1)
  · refine g_i2l (v := Int32.toInt64 v) C d3 rfl ?_
    refine gl_last C d4 (fun f1 hf => ?_)
    refine g_goto C d5 hz ?_
    refine g_iconst (v := 0) C dz (by decide) ?_
    exact gl_iret C hw1 hL1 hx1 hr dz1 (hp v S1 f1 hf hp1)
theorem gl_tailD {f : Nat → UInt64} {P2 : Int32 → HS → (Nat → UInt64) → Prop} {names : List String} {hh : List (Nat × Nat × Nat × Nat)} (C : GC p s m args meth c cc own Ts nL D A (zty T)) (E : GE T A s) (N : NX s) (htab : c.exceptionTable.toList = tableOf hh) (hr : meth.sig.returnType = (some .int)) {y : MethodName} {bytes : ByteArray} {maxL n idx mc ms : Nat} {ret : Option FieldType} {wsY : List Cond} {rmY : Room} {X : String → HS → Prop} {post : UInt64 → HS → Prop} (hw : wt S) (hL0 : hL S L) {kr Nr : Nat} {Cn : String} {Tn : u_T} (hx : hK S x = kr) (hr0 : kr ≠ 0) (hr1 : kr < 20) (hcl : vwCl[clx kr]? = some (Cn, Tn, Nr)) (As : List Value) {stk : List Value} (hst : stk = As.reverse ++ .ref x :: [.int 0, .ref ol]) (hM : CXd l y wsY rmY D T (.ref x :: As) S mc ms post X) (cw : CallW R s args own Cn idx y bytes maxL ret wsY { rmY with cells := mc, slots := ms } mc ms n) (hn : As.length = n) (hKC : KC ≤ R.cells) (hKS : KS ≤ R.slots) (hkc : mc ≤ kc) (hks : ms ≤ ks) (hdg : decode cc pc = .ok (.invokevirtual idx, 3)) (d4 : decode cc (pc + 3) = .ok (.dastore, 1)) {off : Int} (d5 : decode cc (pc + 4) = .ok (.goto off, 3)) {z : Nat} (hz : ((pc + 4 : Nat) : Int) + off = (z : Int)) (dz : decode cc z = .ok (.iconst 0, 1)) (dz1 : decode cc (z + 1) = .ok (.ireturn, 1)) (hT : HT cc nL Ts own pc hh names) (hcast : ∀ nm ∈ names, (nm, nm) ∈ castL) (hnd : ∀ (i j : Nat) (a b : String), names[i]? = some a → names[j]? = some b → j < i → (a, b) ∈ NXL) (hX : ∀ E9 S1, X E9 S1 → E9 ∈ names) (hp : ∀ v S1 f1, f1 0 = v → post v S1 → P2 0 S1 f1) (hq : ∀ i E9 S1, names[i]? = some E9 → X E9 S1 → P2 (nI (i + 1)) S1 f) : GW p l e R s m args below meth c D A nL KC KS (MQ below (va_Qi (fun v (u : (HS × List Nat) × (Nat → UInt64)) => P2 v u.1.1 u.2 ∧ CO S u.1) (LE (oD T) D T ol A) A) args s KC KS A) ((ol, oD T f) :: CW T S L) kc ks pc lv stk := by
  refine gl_calldV (w2 := [(ol, oD T f)]) C E hw hL0 hx hr0 hr1 hcl As hst hM cw hn (Nat.le_of_ble_eq_true rfl) hKC hKS hkc hks hdg (fun E9 S1 L1 hx1 hw1 hL1 hX1 => ?_) (fun v S1 L1 hx1 hw1 hL1 hp1 => ?_)
  · obtain ⟨i, hi⟩ := List.getElem?_of_mem (hX E9 S1 hX1)
    exact gl_thrown C E N htab hr hw1 hL1 hx1 hT hcast hnd hi (hq i E9 S1 hi hX1)
  · refine gl_dast C d4 (fun f1 hf => ?_)
    refine g_goto C d5 hz ?_
    refine g_iconst (v := 0) C dz (by decide) ?_
    exact gl_iret C hw1 hL1 hx1 hr dz1 (hp v S1 f1 hf hp1)
/-- what a helper says: its number, its answer, what holds behind it -/
def HP {β : Type} (C : Int32) (V : β) (PS PX : HS → Prop) : Int32 → HS → (Nat → β) → Prop := fun k S1 f => k = C ∧ (C = 0 → f 0 = V ∧ PS S1) ∧ (¬ C = 0 → PX S1)
theorem w0_SW {R : Room} {s : State} {args : Array Value} {own : String} {idx : Nat} {y : MethodName} {bytes : ByteArray} {maxL : Nat} {ret : Option FieldType} {hh : List (Nat × Nat × Nat × Nat)} {cM : Cond} {rm : Room} {mc ms : Nat} (n : Nat) (hts : ∀ w ∈ cM :: W0, w.before args s = true) (h1 : Cond.methodLink own idx y ∈ W0) (h2 : Cond.static y ∈ W0) (h4 : Cond.initialized y.cls ∈ W0) (h5 : Cond.codeWith y bytes maxL ret hh ∈ W0) (hrc : rm.cells = mc) (hrs : rm.slots = ms) (hd : y.cls ≠ "java/lang/invoke/MethodHandle" ∧ y.cls ≠ "java/lang/invoke/VarHandle" ∧ (parseMethodDescriptor y.desc).map (fun d => d.parameters.length) = some n) (hR : rm.frames + 1 ≤ R.frames ∧ 8 + (maxL + 11) + rm.locals ≤ R.locals) : vx_CSW R s args own idx y bytes maxL ret hh (Cond.codeWith y bytes maxL ret hh :: W0) rm mc ms n := by
  refine vx_cwSW n hts (fun w h => ?_) rfl hrc hrs hd hR
  have hm : w ∈ W0 := by
    simp only [va_wsS, List.cons_append, List.nil_append, List.mem_cons] at h
    rcases h with rfl | rfl | rfl | rfl | h
    · exact h1
    · exact h2
    · exact h4
    · exact h5
    · exact h
  exact ⟨List.mem_cons_of_mem _ hm, w0_good hm⟩
theorem exn1 {a : String} : ∀ (i j : Nat) (x y : String), [a][i]? = some x → [a][j]? = some y → j < i → (x, y) ∈ NXL := fun i j x y hi hj h => by
  have := (List.getElem?_eq_some_iff.mp hi).1
  simp at this
  omega
/-- names that are apart, by a check -/
theorem exnB {L : List String} (h : ∀ i : Nat, i < L.length → ∀ j : Nat, j < i → (L.getD i "", L.getD j "") ∈ NXL) : ∀ (i j : Nat) (x y : String), L[i]? = some x → L[j]? = some y → j < i → (x, y) ∈ NXL := fun i j x y hi hj hji => by
  have k := h i (List.getElem?_eq_some_iff.mp hi).1 j hji
  rw [List.getD_eq_getElem?_getD, List.getD_eq_getElem?_getD, hi, hj] at k
  exact k
end LAWT
