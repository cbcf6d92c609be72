section LAWK
theorem pw_left {D : va_G} {cl : List vw_C} {w1 w2 : va_W} {H : Heap} (h : va_P D cl (w2 ++ w1) H) : va_P D cl w2 H := fun k q hk => h k q (by rw [List.getElem?_append_left (List.getElem?_eq_some_iff.mp hk).1]; exact hk)
theorem wr_at {w1 w2 : va_W} (k : Nat) : (w2 ++ w1)[w2.length + k]? = w1[k]? := by rw [List.getElem?_append_right (Nat.le_add_right _ _), Nat.add_sub_cancel_left]
theorem pw_right {D : va_G} {cl : List vw_C} {w1 w2 : va_W} {H : Heap} (h : va_P D cl (w2 ++ w1) H) : va_P D cl w1 H := fun k q hk => h (w2.length + k) q ((wr_at k).trans hk)
theorem dw_left {A : Nat → Prop} {w1 w2 : va_W} (h : va_D A (w2 ++ w1)) : va_D A w2 := ⟨fun i j p q hi hj e => h.1 i j p q (by rw [List.getElem?_append_left (List.getElem?_eq_some_iff.mp hi).1]; exact hi) (by rw [List.getElem?_append_left (List.getElem?_eq_some_iff.mp hj).1]; exact hj) e, fun k q hk => h.2 k q (by rw [List.getElem?_append_left (List.getElem?_eq_some_iff.mp hk).1]; exact hk)⟩
theorem dw_right {A : Nat → Prop} {w1 w2 : va_W} (h : va_D A (w2 ++ w1)) : va_D A w1 := ⟨fun i j p q hi hj e => by
  have := h.1 (w2.length + i) (w2.length + j) p q ((wr_at i).trans hi) ((wr_at j).trans hj) e
  omega, fun k q hk => h.2 (w2.length + k) q ((wr_at k).trans hk)⟩
/-- what a callee leaves beside the rest, which is unchanged -/
theorem fj {A0 : Nat → Prop} {D : va_G} {cl : List vw_C} {w1 w2 w3 : va_W} {H H1 : Heap} (hP : va_P D cl (w2 ++ w1) H) (hD : va_D A0 (w2 ++ w1)) (hk : ∀ q : Nat, q < H.size → ¬ va_A w1 H.size q → H1[q]? = H[q]?) (hF : ∀ q, va_A w1 H.size q → A0 q) (hP1 : va_P D cl w3 H1) (hD1 : va_D (va_A w1 H.size) w3) : va_P D cl (w2 ++ w3) H1 ∧ va_D A0 (w2 ++ w3) := by
  have hno : ∀ (k : Nat) (q : Nat × va_E), w2[k]? = some q → ¬ va_A w1 H.size q.1 := fun k q hq h => by
    have hlt := (pw_left hP k q hq).lt
    rcases h with ⟨j, e, hj⟩ | h
    · have hl := (List.getElem?_eq_some_iff.mp hq).1
      have := hD.1 k (w2.length + j) q (q.1, e) (by rw [List.getElem?_append_left hl]; exact hq) ((wr_at j).trans hj) rfl
      omega
    · omega
  refine ⟨((pw_left hP).kept (fun k q hq => hk q.1 (pw_left hP k q hq).lt (hno k q hq))).app hP1, (dw_left hD).app (hD1.weaken (fun _ q _ h => hF q.1 h)) (fun i j p q hi hj e => hno i p hi (by rw [e]; exact hD1.2 j q hj))⟩
theorem pw_iff {D : va_G} {cl : List vw_C} {ws : va_W} {H : Heap} : va_P D cl ws H ↔ ∀ q ∈ ws, va_at D cl q H := ⟨fun h q hq => by
  obtain ⟨k, hk⟩ := List.getElem?_of_mem hq
  exact h k q hk, fun h k q hk => h q (List.mem_of_getElem? hk)⟩
theorem dw_iff {A : Nat → Prop} {ws : va_W} : va_D A ws ↔ (ws.map Prod.fst).Nodup ∧ ∀ q ∈ ws, A q.1 := by
  constructor
  · intro h
    refine ⟨?_, fun q hq => ?_⟩
    · unfold List.Nodup
      rw [List.pairwise_iff_getElem]
      intro i j hi hj hij e
      rw [List.length_map] at hi hj
      rw [List.getElem_map, List.getElem_map] at e
      have := h.1 i j _ _ (List.getElem?_eq_getElem hi) (List.getElem?_eq_getElem hj) e
      omega
    · obtain ⟨k, hk⟩ := List.getElem?_of_mem hq
      exact h.2 k q hk
  · intro ⟨h1, h2⟩
    refine ⟨fun i j p q hi hj e => ?_, fun k q hk => h2 q (List.mem_of_getElem? hk)⟩
    unfold List.Nodup at h1
    rw [List.pairwise_iff_getElem] at h1
    obtain ⟨li, ei⟩ := List.getElem?_eq_some_iff.mp hi
    obtain ⟨lj, ej⟩ := List.getElem?_eq_some_iff.mp hj
    have mi : i < (ws.map Prod.fst).length := by rw [List.length_map]; exact li
    have mj : j < (ws.map Prod.fst).length := by rw [List.length_map]; exact lj
    have ev : (ws.map Prod.fst)[i] = (ws.map Prod.fst)[j] := by rw [List.getElem_map, List.getElem_map, ei, ej]; exact e
    rcases Nat.lt_trichotomy i j with g | g | g
    · exact absurd ev (h1 i j mi mj g)
    · exact g
    · exact absurd ev.symm (h1 j i mj mi g)
theorem pw_perm {D : va_G} {cl : List vw_C} {ws ws' : va_W} {H : Heap} (hp : ws.Perm ws') (h : va_P D cl ws H) : va_P D cl ws' H := pw_iff.mpr (fun q hq => pw_iff.mp h q (hp.mem_iff.mpr hq))
theorem dw_perm {A : Nat → Prop} {ws ws' : va_W} (hp : ws.Perm ws') (h : va_D A ws) : va_D A ws' := dw_iff.mpr ⟨((hp.map Prod.fst).nodup_iff).mp (dw_iff.mp h).1, fun q hq => (dw_iff.mp h).2 q (hp.mem_iff.mpr hq)⟩
/-- the exceptions that are not one another -/
def NXL : List (String × String) := [("java/lang/IllegalArgumentException", "java/lang/IndexOutOfBoundsException"), ("java/lang/IllegalArgumentException", "java/lang/IllegalStateException"), ("java/lang/IllegalArgumentException", "java/lang/UnsupportedOperationException"), ("java/lang/IllegalArgumentException", "java/util/NoSuchElementException"), ("java/lang/IndexOutOfBoundsException", "java/lang/IllegalArgumentException"), ("java/lang/IndexOutOfBoundsException", "java/lang/IllegalStateException"), ("java/lang/IndexOutOfBoundsException", "java/lang/UnsupportedOperationException"), ("java/lang/IndexOutOfBoundsException", "java/util/NoSuchElementException"), ("java/lang/IllegalStateException", "java/lang/IllegalArgumentException"), ("java/lang/IllegalStateException", "java/lang/IndexOutOfBoundsException"), ("java/lang/IllegalStateException", "java/lang/UnsupportedOperationException"), ("java/lang/IllegalStateException", "java/util/NoSuchElementException"), ("java/lang/UnsupportedOperationException", "java/lang/IllegalArgumentException"), ("java/lang/UnsupportedOperationException", "java/lang/IndexOutOfBoundsException"), ("java/lang/UnsupportedOperationException", "java/util/NoSuchElementException"), ("java/lang/UnsupportedOperationException", "java/lang/IllegalStateException"), ("java/util/NoSuchElementException", "java/lang/IllegalArgumentException"), ("java/util/NoSuchElementException", "java/lang/IndexOutOfBoundsException"), ("java/util/NoSuchElementException", "java/lang/IllegalStateException"), ("java/util/NoSuchElementException", "java/lang/UnsupportedOperationException")]
def NX (U : State) : Prop := ∀ q ∈ NXL, va_Nc q.1 q.2 U
theorem NX_moved {u U : State} (hv : u.vm.Alike U.vm) (h : NX u) : NX U := fun q hq => va_Nc.moved hv (h q hq)
/-- a helper's start: the class's world and the row that its answer goes to -/
def LB (D : va_G) (T : Nat → ClassId) (ol : Nat) (oe : va_E) (S : HS) (L : List Nat) (sz : Nat) : State → Prop := fun U => U.heap.size = sz ∧ va_P D vwCl ((ol, oe) :: CW T S L) U.heap ∧ va_K D vwCl (zty T) U ∧ va_D (fun _ => True) ((ol, oe) :: CW T S L) ∧ GE T (va_A ((ol, oe) :: CW T S L) sz) U ∧ NX U
def LE {α : Type} (mk : α → va_E) (D : va_G) (T : Nat → ClassId) (ol : Nat) (A : Nat → Prop) (u : (HS × List Nat) × α) : State → Prop := fun t => va_P D vwCl ((ol, mk u.2) :: CW T u.1.1 u.1.2) t.heap ∧ va_K D vwCl (zty T) t ∧ va_D A ((ol, mk u.2) :: CW T u.1.1 u.1.2)
theorem LB_blind {D : va_G} {T : Nat → ClassId} {ol : Nat} {oe : va_E} {S : HS} {L : List Nat} {sz : Nat} {As : List Value} : FrameBlind (va_Pc As (LB D T ol oe S L sz)) := fun av U g mk h => by
  obtain ⟨q0, q1, qP, qK, qD, qG, qN⟩ := h
  exact ⟨q0, q1, qP, va_K.moved (u := U) (U := U.calling g mk av) (Vm.Alike.refl U.vm) qK, qD, GE_blind (U := U) (V := U.calling g mk av) rfl rfl qG, NX_moved (u := U) (U := U.calling g mk av) (Vm.Alike.refl U.vm) qN⟩
/-- a helper's contract: an int comes back, the row holds something -/
def LHi {α : Type} (mk : α → va_E) (l : Launch) (y : MethodName) (ws : List Cond) (rm : Room) (D : va_G) (T : Nat → ClassId) (ol : Nat) (As : List Value) (S : HS) (o : α) (mc ms : Nat) (post : Int32 → HS → α → Prop) : Prop := ∀ (sz : Nat) (L : List Nat), hL S L → wt S → Met l y ws { rm with cells := mc, slots := ms } (va_Pc As (LB D T ol (mk o) S L sz)) (va_Qi (fun v (u : (HS × List Nat) × α) => post v u.1.1 u.2 ∧ CO S u.1) (LE mk D T ol (va_A ((ol, mk o) :: CW T S L) sz)) (va_A ((ol, mk o) :: CW T S L) sz)) mc ms (va_A ((ol, mk o) :: CW T S L) sz)
variable {p : Program} {l : Launch} {e : Env} {R : Room} {s : State} {m : MethodId} {args : Array Value} {below : List Frame} {meth : Method} {c : Code} {D : va_G} {A : Nat → Prop} {nL KC KS : Nat} {Q : State → Prop}
variable {kc ks pc : Nat} {lv : List (Nat × Value)} {st : List Value} {cc : ByteArray} {own : String} {Ts : List Cond} {T : Nat → ClassId} {S S0 : HS} {L : List Nat} {x ol : Nat} {oe : va_E} {ws w1 w2 : va_W}
theorem gw_perm {ws' : va_W} (hp : ws.Perm ws') (k : GW p l e R s m args below meth c D A nL KC KS Q ws' kc ks pc lv st) : GW p l e R s m args below meth c D A nL KC KS Q ws kc ks pc lv st := fun H locs cells slots ls hP hD hS hl hc hs => k H locs cells slots ls (pw_perm hp hP) (dw_perm hp hD) hS hl hc hs
theorem gw_less {kc' ks' : Nat} (h1 : kc' ≤ kc) (h2 : ks' ≤ ks) (k : GW p l e R s m args below meth c D A nL KC KS Q ws kc' ks' pc lv st) : GW p l e R s m args below meth c D A nL KC KS Q ws kc ks pc lv st := fun H locs cells slots ls hP hD hS hl hc hs => k H locs cells slots ls hP hD hS hl (by omega) (by omega)
theorem gl_met {α : Type} {mk : α → va_E} {y : MethodName} {ws' : List Cond} {rmY : Room} {maxL mc ms : Nat} {hh : List (Nat × Nat × Nat × Nat)} {As : List Value} {o : α} {post : Int32 → HS → α → Prop} (hy : plainName y.cls = true) (hcls : y.cls = own) (hwy : Ts = Cond.codeWith y cc maxL (some .int) hh :: ws') (hlen : (lg_sl As).length ≤ maxL) (body : ∀ (p : Program) (e : Env) (s : State) (m : MethodId) (args : Array Value) (below : List Frame) (meth : Method) (c : Code) (A : Nat → Prop) (L : List Nat), GC p s m args meth c cc own Ts maxL D A (zty T) → GE T A s → NX s → c.exceptionTable.toList = tableOf hh → meth.sig.returnType = (some .int) → wt S → hL S L → GW p l e { rmY with cells := mc, slots := ms } s m args below meth c D A maxL mc ms (MQ below (va_Qi (fun v (u : (HS × List Nat) × α) => post v u.1.1 u.2 ∧ CO S u.1) (LE mk D T ol A) A) args s mc ms A) ((ol, mk o) :: CW T S L) mc ms 0 (lv_args 0 As) []) : LHi mk l y Ts rmY D T ol As S o mc ms post := by
  intro sz L hL0 hwt
  refine va_MetW (cc := cc) (maxL := maxL) (ret := some .int) (hh := hh) hy hwy ?_
  intro p e s m args below meth c s₁ B hml hv
  obtain ⟨rfl, hsz, hP, hK, hD0, hG, hN⟩ := hv
  have hts := atoms_spec (ws := Ts) B.pre
  have hown : s.vm.findClass own = some m.cls := by rw [← hcls]; exact findClass_of_methodNamed B.named
  subst hsz
  have hD := hD0.self (sz := s.heap.size)
  have hA : ∀ x : Nat, s.heap.size ≤ x → va_A ((ol, mk o) :: CW T S L) s.heap.size x := fun x h => Or.inr h
  have hl := lv_entry As (n := maxL) hlen
  rw [lg_entry_eq]
  generalize (lg_sl As ++ List.replicate (maxL - (lg_sl As).length) Slot.unset).toArray = ls at hl ⊢
  exact body p e s m As.toArray below meth c _ L ⟨B.exec, B.bytes, hml, hown, hts, hK, hA, B.notSynchronized⟩ hG hN (vx_table (x := y) B (hts _ (by rw [hwy]; exact List.mem_cons_self))) B.returns hwt hL0 s.heap [] 0 0 ls hP hD va_S.rf hl (by omega) (by omega)
theorem gl_iret {α : Type} {mk : α → va_E} {post : Int32 → HS → α → Prop} {v : Int32} {o : α} (C : GC p s m args meth c cc own Ts nL D A (zty T)) (hw : wt S) (hL0 : hL S L) (hext : ext S0 S) (hr : meth.sig.returnType = (some .int)) (hdg : decode cc pc = .ok (.ireturn, 1)) (hp : post v S o) : GW p l e R s m args below meth c D A nL KC KS (MQ below (va_Qi (fun v (u : (HS × List Nat) × α) => post v u.1.1 u.2 ∧ CO S0 u.1) (LE mk D T ol A) A) args s KC KS A) ((ol, mk o) :: CW T S L) kc ks pc lv [.int v] := fun H locs cells slots ls hP hD hS hl hc hs => W.widen (k := KC) (n := KS) (by omega) (by omega) (W.iret (v := v) C.1 C.2.1 hr (fun t ht hW => ⟨⟨v, ((S, L), o), rfl, ⟨hp, hext, hw, hL0⟩, by rw [ht]; exact hP, va_K.moved hW.alike C.2.2.2.2.2.1, hD⟩, hS.F ht⟩) hS.2.2 hdg C.2.2.2.2.2.2.2)
/-- the walk at a throw that has come back from a call -/
def GX (p : Program) (l : Launch) (e : Env) (R : Room) (s : State) (m : MethodId) (args : Array Value) (below : List Frame) (meth : Method) (c : Code) (D : va_G) (A : Nat → Prop) (nL KC KS : Nat) (Q : State → Prop) (ws : va_W) (kc ks pc : Nat) (lv : List (Nat × Value)) (E9 : String) : Prop :=
  ∀ (H : Heap) (locs : List Loc) (cells slots : Nat) (ls : Array Slot) (rest : List Value) (q : Nat) (ce : Cell), va_P D vwCl ws H → va_D A ws → va_S A s.heap H locs → lv_has ls nL lv → cells + kc ≤ KC → slots + ks ≤ KS → H[q]? = some ce → ce.vm = .none → s.vm.findClass E9 = some ce.cls → vx_W p l e R s m args below meth c H locs cells slots Q (F0 m pc ls rest) q
theorem gx_catch (C : GC p s m args meth c cc own Ts nL D A (zty T)) {name E9 : String} (pre : List ExceptionTableEntry) (z : ExceptionTableEntry) (suf : List ExceptionTableEntry) (hsplit : c.exceptionTable.toList = pre ++ z :: suf) (hpass : ∀ y ∈ pre, covers y pc = false ∨ (y.catchType ≠ 0 ∧ ∃ nm : String, (Cond.classLink own y.catchType nm).before args s = true ∧ va_Nc E9 nm s)) (hz : covers z pc = true) (h0 : z.catchType ≠ 0) (hlink : (Cond.classLink own z.catchType name).before args s = true) (hcast : (Cond.castable E9 name).before args s = true) (kk : ∀ q : Nat, GW p l e R s m args below meth c D A nL KC KS Q ws kc ks z.handlerPc lv [.ref q]) : GX p l e R s m args below meth c D A nL KC KS Q ws kc ks pc lv E9 := fun H locs cells slots ls rest q ce hP hD hS hl hc hs hce hcv hcl => vx_catch C.2.2.2.1 pre z suf hsplit hpass hz h0 hlink hcast hce hcv hcl (kk q H locs cells slots ls hP hD hS hl hc hs)
theorem gl_free (C : GC p s m args meth c cc own Ts nL D A (zty T)) {H : Heap} {locs : List Loc} (hD : va_D A w1) (hS : va_S A s.heap H locs) : ∀ z, va_A w1 H.size z → A z := fun z h => by
  rcases h with ⟨k, e, h⟩ | h
  · exact hD.2 k _ h
  · exact C.2.2.2.2.2.2.1 z (Nat.le_trans hS.1 h)
theorem gl_calliV (C : GC p s m args meth c cc own Ts nL D A (zty T)) {y : MethodName} {bytes : ByteArray} {maxL n idx mc ms : Nat} {ret : Option FieldType} {wsY : List Cond} {rmY : Room} {X : String → HS → Prop} {post : Int32 → HS → Prop} (E : GE T A s) (hw : wt S) (hL0 : hL S L) {kr Nr : Nat} {Cn : String} {Tn : u_T} (hx : hK S x = kr) (hr0 : kr ≠ 0) (hr1 : kr < 20) (hcl : vwCl[clx kr]? = some (Cn, Tn, Nr)) (As : List Value) {stk : List Value} (hst : stk = As.reverse ++ .ref x :: st) (hM : CXi l y wsY rmY D T (.ref x :: As) S mc ms post X) (cw : CallW R s args own Cn idx y bytes maxL ret wsY { rmY with cells := mc, slots := ms } mc ms n) (hn : As.length = n) (hroom : (st.map fun v => v.category).sum ≤ 8) (hKC : KC ≤ R.cells) (hKS : KS ≤ R.slots) (hkc : mc ≤ kc) (hks : ms ≤ ks) (hdg : decode cc pc = .ok (.invokevirtual idx, 3)) (kx : ∀ (E9 : String) (S1 : HS) (L1 : List Nat), ext S S1 → wt S1 → hL S1 L1 → X E9 S1 → GX p l e R s m args below meth c D A nL KC KS Q (w2 ++ CW T S1 L1) (kc - mc) (ks - ms) pc lv E9) (kk : ∀ (v : Int32) (S1 : HS) (L1 : List Nat), ext S S1 → wt S1 → hL S1 L1 → post v S1 → GW p l e R s m args below meth c D A nL KC KS Q (w2 ++ CW T S1 L1) (kc - mc) (ks - ms) (pc + 3) lv (.int v :: st)) : GW p l e R s m args below meth c D A nL KC KS Q (w2 ++ CW T S L) kc ks pc lv stk := by
  subst hst
  intro H locs cells slots ls hP hD hS hl hc hs
  have hPc := pw_right hP
  have hDc := dw_right hD
  obtain ⟨k0, hk0⟩ := cw_objC (T := T) hPc hL0 hx hr0 hr1
  have hFc := gl_free C hDc hS
  refine vx_calli (vx_runV (As := As) (rest := st) ⟨C.1, C.2.1, C.2.2.1, C.2.2.2.1, C.2.2.2.2.1⟩ (hM H.size L hL0 hw) cw ⟨CB_blind, va_recv C.2.2.2.2.2.1 hPc hcl hk0, fun U hU hW => ⟨rfl, by rw [hU], by rw [hU]; exact hPc, va_K.moved hW.alike C.2.2.2.2.2.1, hDc.weaken (fun _ _ _ _ => trivial), GE_call E hS hU hW hFc⟩⟩ rfl hn hl.1 rfl (lv_room hroom) hdg ⟨by omega, by omega⟩) hS (fun z _ h => hFc z h) hFc (fun z _ h => hFc z h) (fun E9 ce q9 u t H1 locs1 ht hvm hw9 hB hz1 hk1 hS1 hce hcv hcl9 => ?_) (fun v u t H1 locs1 ht hvm hw9 hB hz1 hk1 hS1 => ?_)
  · obtain ⟨S1, L1⟩ := u
    obtain ⟨hx1, hw1, hL1⟩ := hw9
    obtain ⟨hX, hP1, hK1, hD1⟩ := hB
    rw [ht] at hP1
    obtain ⟨hP2, hD2⟩ := fj hP hD hk1 hFc hP1 hD1
    exact kx E9 S1 L1 hx1 hw1 hL1 hX H1 locs1 (cells + mc) (slots + ms) ls _ q9 ce hP2 hD2 hS1 hl (by omega) (by omega) hce hcv hcl9
  · obtain ⟨hp1, hx1, hw1, hL1⟩ := hw9
    obtain ⟨S1, L1⟩ := u
    obtain ⟨hP1, hK1, hD1⟩ := hB
    rw [ht] at hP1
    obtain ⟨hP2, hD2⟩ := fj hP hD hk1 hFc hP1 hD1
    exact kk v S1 L1 hx1 hw1 hL1 hp1 H1 locs1 (cells + mc) (slots + ms) ls hP2 hD2 hS1 hl (by omega) (by omega)
theorem gl_calldV (C : GC p s m args meth c cc own Ts nL D A (zty T)) {y : MethodName} {bytes : ByteArray} {maxL n idx mc ms : Nat} {ret : Option FieldType} {wsY : List Cond} {rmY : Room} {X : String → HS → Prop} {post : UInt64 → HS → Prop} (E : GE T A s) (hw : wt S) (hL0 : hL S L) {kr Nr : Nat} {Cn : String} {Tn : u_T} (hx : hK S x = kr) (hr0 : kr ≠ 0) (hr1 : kr < 20) (hcl : vwCl[clx kr]? = some (Cn, Tn, Nr)) (As : List Value) {stk : List Value} (hst : stk = As.reverse ++ .ref x :: st) (hM : CXd l y wsY rmY D T (.ref x :: As) S mc ms post X) (cw : CallW R s args own Cn idx y bytes maxL ret wsY { rmY with cells := mc, slots := ms } mc ms n) (hn : As.length = n) (hroom : (st.map fun v => v.category).sum ≤ 8) (hKC : KC ≤ R.cells) (hKS : KS ≤ R.slots) (hkc : mc ≤ kc) (hks : ms ≤ ks) (hdg : decode cc pc = .ok (.invokevirtual idx, 3)) (kx : ∀ (E9 : String) (S1 : HS) (L1 : List Nat), ext S S1 → wt S1 → hL S1 L1 → X E9 S1 → GX p l e R s m args below meth c D A nL KC KS Q (w2 ++ CW T S1 L1) (kc - mc) (ks - ms) pc lv E9) (kk : ∀ (v : UInt64) (S1 : HS) (L1 : List Nat), ext S S1 → wt S1 → hL S1 L1 → post v S1 → GW p l e R s m args below meth c D A nL KC KS Q (w2 ++ CW T S1 L1) (kc - mc) (ks - ms) (pc + 3) lv (.double v :: st)) : GW p l e R s m args below meth c D A nL KC KS Q (w2 ++ CW T S L) kc ks pc lv stk := by
  subst hst
  intro H locs cells slots ls hP hD hS hl hc hs
  have hPc := pw_right hP
  have hDc := dw_right hD
  obtain ⟨k0, hk0⟩ := cw_objC (T := T) hPc hL0 hx hr0 hr1
  have hFc := gl_free C hDc hS
  refine vx_calld (vx_runV (As := As) (rest := st) ⟨C.1, C.2.1, C.2.2.1, C.2.2.2.1, C.2.2.2.2.1⟩ (hM H.size L hL0 hw) cw ⟨CB_blind, va_recv C.2.2.2.2.2.1 hPc hcl hk0, fun U hU hW => ⟨rfl, by rw [hU], by rw [hU]; exact hPc, va_K.moved hW.alike C.2.2.2.2.2.1, hDc.weaken (fun _ _ _ _ => trivial), GE_call E hS hU hW hFc⟩⟩ rfl hn hl.1 rfl (lv_room hroom) hdg ⟨by omega, by omega⟩) hS (fun z _ h => hFc z h) hFc (fun z _ h => hFc z h) (fun E9 ce q9 u t H1 locs1 ht hvm hw9 hB hz1 hk1 hS1 hce hcv hcl9 => ?_) (fun v u t H1 locs1 ht hvm hw9 hB hz1 hk1 hS1 => ?_)
  · obtain ⟨S1, L1⟩ := u
    obtain ⟨hx1, hw1, hL1⟩ := hw9
    obtain ⟨hX, hP1, hK1, hD1⟩ := hB
    rw [ht] at hP1
    obtain ⟨hP2, hD2⟩ := fj hP hD hk1 hFc hP1 hD1
    exact kx E9 S1 L1 hx1 hw1 hL1 hX H1 locs1 (cells + mc) (slots + ms) ls _ q9 ce hP2 hD2 hS1 hl (by omega) (by omega) hce hcv hcl9
  · obtain ⟨hp1, hx1, hw1, hL1⟩ := hw9
    obtain ⟨S1, L1⟩ := u
    obtain ⟨hP1, hK1, hD1⟩ := hB
    rw [ht] at hP1
    obtain ⟨hP2, hD2⟩ := fj hP hD hk1 hFc hP1 hD1
    exact kk v S1 L1 hx1 hw1 hL1 hp1 H1 locs1 (cells + mc) (slots + ms) ls hP2 hD2 hS1 hl (by omega) (by omega)
/-- calls over the law's world: the rest stands beside -/
theorem gl_clsi (C : GC p s m args meth c cc own Ts nL D A (zty T)) {y : MethodName} {bytes : ByteArray} {maxL n idx mc ms : Nat} {ret : Option FieldType} {wsY : List Cond} {rmY : Room} {post : Int32 → HS → Prop} (E : GE T A s) (hw : wt S) (hL0 : hL S L) {kr Nr : Nat} {Cn : String} {Tn : u_T} (hx : hK S x = kr) (hr0 : kr ≠ 0) (hr1 : kr < 20) (hcl : vwCl[clx kr]? = some (Cn, Tn, Nr)) (As : List Value) {stk : List Value} (hst : stk = As.reverse ++ .ref x :: st) (hM : CMi l y wsY rmY D T (.ref x :: As) S mc ms post) (cw : CallW R s args own Cn idx y bytes maxL ret wsY { rmY with cells := mc, slots := ms } mc ms n) (hn : As.length = n) (hroom : (st.map fun v => v.category).sum ≤ 8) (hKC : KC ≤ R.cells) (hKS : KS ≤ R.slots) (hkc : mc ≤ kc) (hks : ms ≤ ks) (hdg : decode cc pc = .ok (.invokevirtual idx, 3)) (kk : ∀ (v : Int32) (S1 : HS) (L1 : List Nat), ext S S1 → wt S1 → hL S1 L1 → post v S1 → GW p l e R s m args below meth c D A nL KC KS Q (w2 ++ CW T S1 L1) (kc - mc) (ks - ms) (pc + 3) lv (.int v :: st)) : GW p l e R s m args below meth c D A nL KC KS Q (w2 ++ CW T S L) kc ks pc lv stk := by
  subst hst
  intro H locs cells slots ls hP hD hS hl hc hs
  have hPc := pw_right hP
  have hDc := dw_right hD
  obtain ⟨k0, hk0⟩ := cw_objC (T := T) hPc hL0 hx hr0 hr1
  have hFc := gl_free C hDc hS
  refine va_calli (va_runV (As := As) (rest := st) ⟨C.1, C.2.1, C.2.2.1, C.2.2.2.1, C.2.2.2.2.1⟩ (hM H.size L hL0 hw) cw ⟨CB_blind, va_recv C.2.2.2.2.2.1 hPc hcl hk0, fun U hU hW => ⟨rfl, by rw [hU], by rw [hU]; exact hPc, va_K.moved hW.alike C.2.2.2.2.2.1, hDc.weaken (fun _ _ _ _ => trivial), GE_call E hS hU hW hFc⟩⟩ rfl hn hl.1 rfl (lv_room hroom) hdg ⟨by omega, by omega⟩) hS (fun z _ h => hFc z h) hFc (fun v u t H1 locs1 ht hvm hw9 hB hz1 hk1 hS1 => ?_)
  obtain ⟨hp1, hx1, hw1, hL1⟩ := hw9
  obtain ⟨S1, L1⟩ := u
  obtain ⟨hP1, hK1, hD1⟩ := hB
  rw [ht] at hP1
  obtain ⟨hP2, hD2⟩ := fj hP hD hk1 hFc hP1 hD1
  exact kk v S1 L1 hx1 hw1 hL1 hp1 H1 locs1 (cells + mc) (slots + ms) ls hP2 hD2 hS1 hl (by omega) (by omega)
theorem gl_clsv (C : GC p s m args meth c cc own Ts nL D A (zty T)) {y : MethodName} {bytes : ByteArray} {maxL n idx mc ms : Nat} {wsY : List Cond} {rmY : Room} {post : HS → Prop} (E : GE T A s) (hw : wt S) (hL0 : hL S L) (As : List Value) {stk : List Value} (hst : stk = As.reverse ++ .ref x :: st) (hM : CMv l y wsY rmY D T (.ref x :: As) S mc ms post) (cw : CallB R s args own idx y bytes maxL none wsY { rmY with cells := mc, slots := ms } mc ms n ∧ y.name = "<init>" ∧ (Cond.instanceMethod y).before args s = true) (hn : As.length = n) (hroom : (st.map fun v => v.category).sum ≤ 8) (hKC : KC ≤ R.cells) (hKS : KS ≤ R.slots) (hkc : mc ≤ kc) (hks : ms ≤ ks) (hdg : decode cc pc = .ok (.invokespecial idx, 3)) (kk : ∀ (S1 : HS) (L1 : List Nat), ext S S1 → wt S1 → hL S1 L1 → post S1 → GW p l e R s m args below meth c D A nL KC KS Q (w2 ++ CW T S1 L1) (kc - mc) (ks - ms) (pc + 3) lv st) : GW p l e R s m args below meth c D A nL KC KS Q (w2 ++ CW T S L) kc ks pc lv stk := by
  subst hst
  intro H locs cells slots ls hP hD hS hl hc hs
  have hPc := pw_right hP
  have hDc := dw_right hD
  have hFc := gl_free C hDc hS
  refine va_callv (va_runI (As := As) (rest := st) ⟨C.1, C.2.1, C.2.2.1, C.2.2.2.1, C.2.2.2.2.1⟩ (hM H.size L hL0 hw) cw ⟨CB_blind, fun U hU hW => ⟨rfl, by rw [hU], by rw [hU]; exact hPc, va_K.moved hW.alike C.2.2.2.2.2.1, hDc.weaken (fun _ _ _ _ => trivial), GE_call E hS hU hW hFc⟩⟩ rfl hn hl.1 rfl (lv_room hroom) hdg ⟨by omega, by omega⟩) hS (fun z _ h => hFc z h) hFc (fun u t H1 locs1 ht hvm hw9 hB hz1 hk1 hS1 => ?_)
  obtain ⟨hp1, hx1, hw1, hL1⟩ := hw9
  obtain ⟨S1, L1⟩ := u
  obtain ⟨hP1, hK1, hD1⟩ := hB
  rw [ht] at hP1
  obtain ⟨hP2, hD2⟩ := fj hP hD hk1 hFc hP1 hD1
  exact kk S1 L1 hx1 hw1 hL1 hp1 H1 locs1 (cells + mc) (slots + ms) ls hP2 hD2 hS1 hl (by omega) (by omega)
theorem gl_hlp {α : Type} {mk : α → va_E} {o : α} (C : GC p s m args meth c cc own Ts nL D A (zty T)) {y : MethodName} {bytes : ByteArray} {maxL n idx mc ms : Nat} {ret : Option FieldType} {hh : List (Nat × Nat × Nat × Nat)} {wsY : List Cond} {rmY : Room} {post : Int32 → HS → α → Prop} (E : GE T A s) (N : NX s) (hw : wt S) (hL0 : hL S L) (As : List Value) {stk : List Value} (hst : stk = As.reverse ++ st) (hM : LHi mk l y wsY rmY D T ol As S o mc ms post) (cw : vx_CSW R s args own idx y bytes maxL ret hh wsY { rmY with cells := mc, slots := ms } mc ms n) (hn : As.length = n) (hroom : (st.map fun v => v.category).sum ≤ 8) (hKC : KC ≤ R.cells) (hKS : KS ≤ R.slots) (hkc : mc ≤ kc) (hks : ms ≤ ks) (hdg : decode cc pc = .ok (.invokestatic idx, 3)) (kk : ∀ (v : Int32) (S1 : HS) (L1 : List Nat) (o1 : α), ext S S1 → wt S1 → hL S1 L1 → post v S1 o1 → GW p l e R s m args below meth c D A nL KC KS Q (w2 ++ ((ol, mk o1) :: CW T S1 L1)) (kc - mc) (ks - ms) (pc + 3) lv (.int v :: st)) : GW p l e R s m args below meth c D A nL KC KS Q (w2 ++ ((ol, mk o) :: CW T S L)) kc ks pc lv stk := by
  subst hst
  intro H locs cells slots ls hP hD hS hl hc hs
  have hPc := pw_right hP
  have hDc := dw_right hD
  have hFc := gl_free C hDc hS
  refine va_calli (vx_runSW (As := As) (rest := st) ⟨C.1, C.2.1, C.2.2.1, C.2.2.2.1, C.2.2.2.2.1⟩ (hM H.size L hL0 hw) cw ⟨LB_blind, fun U hU hW => ⟨rfl, by rw [hU], by rw [hU]; exact hPc, va_K.moved hW.alike C.2.2.2.2.2.1, hDc.weaken (fun _ _ _ _ => trivial), GE_call E hS hU hW hFc, NX_moved hW.alike N⟩⟩ rfl hn hl.1 rfl (lv_room hroom) hdg ⟨by omega, by omega⟩) hS (fun z _ h => hFc z h) hFc (fun v u t H1 locs1 ht hvm hw9 hB hz1 hk1 hS1 => ?_)
  obtain ⟨⟨S1, L1⟩, o1⟩ := u
  obtain ⟨hp1, hx1, hw1, hL1⟩ := hw9
  obtain ⟨hP1, hK1, hD1⟩ := hB
  rw [ht] at hP1
  obtain ⟨hP2, hD2⟩ := fj hP hD hk1 hFc hP1 hD1
  exact kk v S1 L1 o1 hx1 hw1 hL1 hp1 H1 locs1 (cells + mc) (slots + ms) ls hP2 hD2 hS1 hl (by omega) (by omega)
section REFL
variable {m0 : Nat} {a : Nat → Nat} {r : Nat → Int32} {q : Nat → Nat → Int32}
theorem gl_refi (C : GC p s m args meth c cc own Ts nL D A (zty T)) {y : MethodName} {bytes : ByteArray} {maxL n idx : Nat} {ret : Option FieldType} {wsY : List Cond} {rmY : Room} {post : Int32 → RST → Prop} (As : List Value) {stk : List Value} (hst : stk = As.reverse ++ .ref m0 :: st) (hM : RMi l y wsY rmY D T m0 a (.ref m0 :: As) r q post) (cw : CallW R s args own RX11 idx y bytes maxL ret wsY rmY 0 0 n) (hn : As.length = n) (hroom : (st.map fun v => v.category).sum ≤ 8) (hKC : KC ≤ R.cells) (hKS : KS ≤ R.slots) (hdg : decode cc pc = .ok (.invokevirtual idx, 3)) (kk : ∀ (v : Int32) (r' : Nat → Int32) (q' : Nat → Nat → Int32), post v (r', q') → GW p l e R s m args below meth c D A nL KC KS Q (w2 ++ RW m0 a T r' q') kc ks (pc + 3) lv (.int v :: st)) : GW p l e R s m args below meth c D A nL KC KS Q (w2 ++ RW m0 a T r q) kc ks pc lv stk := by
  subst hst
  intro H locs cells slots ls hP hD hS hl hc hs
  have hPc := pw_right hP
  have hDc := dw_right hD
  have hFc := gl_free C hDc hS
  refine va_calli (va_runV (As := As) (rest := st) ⟨C.1, C.2.1, C.2.2.1, C.2.2.2.1, C.2.2.2.2.1⟩ (hM H.size) cw ⟨RB_blind, va_recv C.2.2.2.2.2.1 hPc (ci := 16) (q0 := 0) rfl rfl, fun U hU hW => ⟨rfl, by rw [hU], by rw [hU]; exact hPc, va_K.moved hW.alike C.2.2.2.2.2.1, hDc.weaken (fun _ _ _ _ => trivial)⟩⟩ rfl hn hl.1 rfl (lv_room hroom) hdg ⟨by omega, by omega⟩) hS (fun x _ h => hFc x h) hFc (fun v u t H1 locs1 ht hvm hw hB hz1 hk1 hS1 => ?_)
  obtain ⟨r', q'⟩ := u
  obtain ⟨hP1, hK1, hD1⟩ := hB
  rw [ht] at hP1
  obtain ⟨hP2, hD2⟩ := fj hP hD hk1 hFc hP1 hD1
  exact kk v r' q' hw H1 locs1 (cells + 0) (slots + 0) ls hP2 hD2 hS1 hl hc hs
theorem gl_refd (C : GC p s m args meth c cc own Ts nL D A (zty T)) {y : MethodName} {bytes : ByteArray} {maxL n idx : Nat} {ret : Option FieldType} {wsY : List Cond} {rmY : Room} {post : UInt64 → RST → Prop} (As : List Value) {stk : List Value} (hst : stk = As.reverse ++ .ref m0 :: st) (hM : RMd l y wsY rmY D T m0 a (.ref m0 :: As) r q post) (cw : CallW R s args own RX11 idx y bytes maxL ret wsY rmY 0 0 n) (hn : As.length = n) (hroom : (st.map fun v => v.category).sum ≤ 8) (hKC : KC ≤ R.cells) (hKS : KS ≤ R.slots) (hdg : decode cc pc = .ok (.invokevirtual idx, 3)) (kk : ∀ (v : UInt64) (r' : Nat → Int32) (q' : Nat → Nat → Int32), post v (r', q') → GW p l e R s m args below meth c D A nL KC KS Q (w2 ++ RW m0 a T r' q') kc ks (pc + 3) lv (.double v :: st)) : GW p l e R s m args below meth c D A nL KC KS Q (w2 ++ RW m0 a T r q) kc ks pc lv stk := by
  subst hst
  intro H locs cells slots ls hP hD hS hl hc hs
  have hPc := pw_right hP
  have hDc := dw_right hD
  have hFc := gl_free C hDc hS
  refine va_calld (va_runV (As := As) (rest := st) ⟨C.1, C.2.1, C.2.2.1, C.2.2.2.1, C.2.2.2.2.1⟩ (hM H.size) cw ⟨RB_blind, va_recv C.2.2.2.2.2.1 hPc (ci := 16) (q0 := 0) rfl rfl, fun U hU hW => ⟨rfl, by rw [hU], by rw [hU]; exact hPc, va_K.moved hW.alike C.2.2.2.2.2.1, hDc.weaken (fun _ _ _ _ => trivial)⟩⟩ rfl hn hl.1 rfl (lv_room hroom) hdg ⟨by omega, by omega⟩) hS (fun x _ h => hFc x h) hFc (fun v u t H1 locs1 ht hvm hw hB hz1 hk1 hS1 => ?_)
  obtain ⟨r', q'⟩ := u
  obtain ⟨hP1, hK1, hD1⟩ := hB
  rw [ht] at hP1
  obtain ⟨hP2, hD2⟩ := fj hP hD hk1 hFc hP1 hD1
  exact kk v r' q' hw H1 locs1 (cells + 0) (slots + 0) ls hP2 hD2 hS1 hl hc hs
theorem ar_cg {cA : ClassId} {n : Nat} {f g : Nat → Value} (h : ∀ j, j < n → f j = g j) : arrV cA n f = arrV cA n g := by
  unfold arrV
  congr 1
  congr 1
  funext j
  exact h j.val j.isLt
/-- the rows' lengths -/
def qlen (j : Nat) : Nat := [3334, 3334, 3334, 26672, 80, 640, 80, 1024, 1024, 1024, 1024, 10, 200].getD j 0
theorem RW_cg {H : Heap} {q' : Nat → Nat → Int32} (h : ∀ j k, k < qlen j → q j k = q' j k) (hP : va_P D vwCl (RW m0 a T r q) H) : va_P D vwCl (RW m0 a T r q') H := by
  have e : ∀ (j n : Nat) (x cA : Nat), qlen j = n → H[x]? = some (vp_cell cA (n, .inl (q j))) → H[x]? = some (vp_cell cA (n, .inl (q' j))) := fun j n x cA hn hx => by
    rw [hx, vp_cell_i, vp_cell_i]
    exact congrArg some (ar_cg (fun k hk => by rw [h j k (by rw [hn]; exact hk)]))
  intro k z hz
  match k, hz with
  | 0, hz => cases hz; exact hP 0 _ rfl
  | 1, hz => cases hz; exact e 0 _ _ _ rfl (hP 1 _ rfl)
  | 2, hz => cases hz; exact e 1 _ _ _ rfl (hP 2 _ rfl)
  | 3, hz => cases hz; exact e 2 _ _ _ rfl (hP 3 _ rfl)
  | 4, hz => cases hz; exact e 3 _ _ _ rfl (hP 4 _ rfl)
  | 5, hz => cases hz; exact e 4 _ _ _ rfl (hP 5 _ rfl)
  | 6, hz => cases hz; exact e 5 _ _ _ rfl (hP 6 _ rfl)
  | 7, hz => cases hz; exact e 6 _ _ _ rfl (hP 7 _ rfl)
  | 8, hz => cases hz; exact e 7 _ _ _ rfl (hP 8 _ rfl)
  | 9, hz => cases hz; exact e 8 _ _ _ rfl (hP 9 _ rfl)
  | 10, hz => cases hz; exact e 9 _ _ _ rfl (hP 10 _ rfl)
  | 11, hz => cases hz; exact e 10 _ _ _ rfl (hP 11 _ rfl)
  | 12, hz => cases hz; exact e 11 _ _ _ rfl (hP 12 _ rfl)
  | 13, hz => cases hz; exact e 12 _ _ _ rfl (hP 13 _ rfl)
  | n + 14, hz => simp [RW] at hz
theorem RW_ad {q' : Nat → Nat → Int32} {r' : Nat → Int32} : (RW m0 a T r' q').map Prod.fst = (RW m0 a T r q).map Prod.fst := rfl
end REFL
end LAWK
