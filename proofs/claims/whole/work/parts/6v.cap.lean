section S_CAP
/-- the mean price of a group -/
def mpF (μ : Nat → Int32) (n : Nat) : UInt64 := if wtF μ (iv (gvF μ n)) n < 1 then FP.dconst0 else FP.ddiv (FP.i2d (totF μ n)) (FP.i2d (wtF μ (iv (gvF μ n)) n))
/-- a method that answers a double, over the class's world -/
def CXd (l : Launch) (y : MethodName) (ws : List Cond) (rm : Room) (D : va_G) (T : Nat → ClassId) (As : List Value) (S : HS) (mc ms : Nat) (post : UInt64 → HS → Prop) (X : String → HS → Prop) : Prop := ∀ (sz : Nat) (L : List Nat), hL S L → wt S → vx_Met l y ws { rm with cells := mc, slots := ms } (va_Pc As (CB D T S L sz)) (va_Qd (fun v u => post v u.1 ∧ CO S u) (CE D T (va_A (CW T S L) sz)) (va_A (CW T S L) sz)) (CXX D T (va_A (CW T S L) sz) S X) mc ms (va_A (CW T S L) sz)
section DBL
variable {p : Program} {l : Launch} {e : Env} {R : Room} {s : State} {m : MethodId} {args : Array Value} {below : List Frame} {meth : Method} {c : Code} {D : va_G} {A : Nat → Prop} {nL KC KS : Nat} {Q : State → Prop} {tys : List (ClassId × FieldType)} {ws : va_W}
variable {kc ks pc : Nat} {lv : List (Nat × Value)} {st : List Value} {cc : ByteArray} {own : String} {Ts : List Cond} {T : Nat → ClassId} {S S0 : HS} {L : List Nat} {x : Nat}
theorem g_dconst0 (C : GC p s m args meth c cc own Ts nL D A tys) (hdg : decode cc pc = .ok (.dconst 0, 1)) (k : GW p l e R s m args below meth c D A nL KC KS Q ws kc ks (pc + 1) lv (.double FP.dconst0 :: st)) : GW p l e R s m args below meth c D A nL KC KS Q ws kc ks pc lv st := fun H locs cells slots ls hP hD hS hl hc hs => lv_dconst0 C.1 C.2.1 hdg (k H locs cells slots ls hP hD hS hl hc hs)
theorem g_i2d (C : GC p s m args meth c cc own Ts nL D A tys) {v : Int32} (hdg : decode cc pc = .ok (.i2d, 1)) (k : GW p l e R s m args below meth c D A nL KC KS Q ws kc ks (pc + 1) lv (.double (FP.i2d v) :: st)) : GW p l e R s m args below meth c D A nL KC KS Q ws kc ks pc lv (.int v :: st) := fun H locs cells slots ls hP hD hS hl hc hs => lv_i2d C.1 C.2.1 hdg (k H locs cells slots ls hP hD hS hl hc hs)
theorem g_ddiv (C : GC p s m args meth c cc own Ts nL D A tys) {v w : UInt64} (hdg : decode cc pc = .ok (.ddiv, 1)) (hne : vf_n64 (FP.ddiv v w)) (k : GW p l e R s m args below meth c D A nL KC KS Q ws kc ks (pc + 1) lv (.double (FP.ddiv v w) :: st)) : GW p l e R s m args below meth c D A nL KC KS Q ws kc ks pc lv (.double w :: .double v :: st) := fun H locs cells slots ls hP hD hS hl hc hs => lv_ddiv C.1 C.2.1 hdg hne (k H locs cells slots ls hP hD hS hl hc hs)
theorem gx_dret (C : GC p s m args meth c cc own Ts nL D A (zty T)) {X0 : String → HS → Prop} {post : UInt64 → HS → Prop} {v : UInt64} (hw : wt S) (hL0 : hL S L) (hext : ext S0 S) (hr : meth.sig.returnType = (some .double)) (hdg : decode cc pc = .ok (.dreturn, 1)) (hp : post v S) : GW p l e R s m args below meth c D A nL KC KS (vx_MQ below (va_Qd (fun v (u : HS × List Nat) => post v u.1 ∧ CO S0 u) (CE D T A) A) (CXX D T A S0 X0) args s KC KS A) (CW T S L) kc ks pc lv [.double v] := fun H locs cells slots ls hP hD hS hl hc hs => W.widen (k := KC) (n := KS) (by omega) (by omega) (vx_ret (W.dret (v := v) C.1 C.2.1 hr (fun t ht hW => ⟨⟨v, (S, L), rfl, ⟨hp, hext, hw, hL0⟩, by rw [ht]; exact hP, va_K.moved hW.alike C.2.2.2.2.2.1, hD⟩, hS.F ht⟩) hS.2.2 hdg C.2.2.2.2.2.2.2))
theorem gx_metd {y : MethodName} {ws' : List Cond} {rmY : Room} {maxL mc ms : Nat} {ret : Option FieldType} {As : List Value} {X0 : String → HS → Prop} {post : UInt64 → HS → Prop} (hy : plainName y.cls = true) (hcls : y.cls = own) (hwy : Ts = Cond.code y cc maxL ret :: ws') (hlen : (lg_sl As).length ≤ maxL) (body : ∀ (p : Program) (e : Env) (s : State) (m : MethodId) (args : Array Value) (below : List Frame) (meth : Method) (c : Code) (A : Nat → Prop) (L : List Nat), GC p s m args meth c cc own Ts maxL D A (zty T) → GE T A s → meth.name = y.name → meth.sig.returnType = ret → (∀ z ∈ c.exceptionTable.toList, False) → wt S → hL S L → GW p l e { rmY with cells := mc, slots := ms } s m args below meth c D A maxL mc ms (vx_MQ below (va_Qd (fun v (u : HS × List Nat) => post v u.1 ∧ CO S u) (CE D T A) A) (CXX D T A S X0) args s mc ms A) (CW T S L) mc ms 0 (lv_args 0 As) []) : CXd l y Ts rmY D T As S mc ms post X0 := by
  intro sz L hL0 hwt
  refine vx_ofW (cc := cc) (maxL := maxL) (ret := ret) hy hwy ?_
  intro p e s m args below meth c s₁ B hml htab hv
  obtain ⟨rfl, hsz, hP, hK, hD0, hG⟩ := hv
  have hts := atoms_spec (ws := Ts) B.pre
  have hown : s.vm.findClass own = some m.cls := by rw [← hcls]; exact findClass_of_methodNamed B.named
  subst hsz
  have hD := hD0.self (sz := s.heap.size)
  have hA : ∀ x : Nat, s.heap.size ≤ x → va_A (CW T S L) s.heap.size x := fun x h => Or.inr h
  have hl := lv_entry As (n := maxL) hlen
  rw [lg_entry_eq]
  generalize (lg_sl As ++ List.replicate (maxL - (lg_sl As).length) Slot.unset).toArray = ls at hl ⊢
  exact body p e s m As.toArray below meth c _ L ⟨B.exec, B.bytes, hml, hown, hts, hK, hA, B.notSynchronized⟩ hG (name_of_methodNamed B.named B.method).1 B.returns htab hwt hL0 s.heap [] 0 0 ls hP hD va_S.rf hl (by omega) (by omega)
end DBL

end S_CAP
