section S_C0A
/-- the shift that fills with zeros -/
def usr (x y : Int32) : Int32 := (x.toUInt32 >>> (y.toUInt32 &&& Int32.toUInt32 31)).toInt32
theorem g_iushr {p : Program} {l : Launch} {e : Env} {R : Room} {s : State} {m : MethodId} {args : Array Value} {below : List Frame} {meth : Method} {c : Code} {D : va_G} {A : Nat → Prop} {nL KC KS : Nat} {Q : State → Prop} {ws : va_W} {kc ks pc : Nat} {lv : List (Nat × Value)} {st : List Value} {cc : ByteArray} {own : String} {Ts : List Cond} {tys : List (ClassId × FieldType)} (C : GC p s m args meth c cc own Ts nL D A tys) {x y : Int32} (hdg : decode cc pc = .ok (.iushr, 1)) (k : GW p l e R s m args below meth c D A nL KC KS Q ws kc ks (pc + 1) lv (.int (usr x y) :: st)) : GW p l e R s m args below meth c D A nL KC KS Q ws kc ks pc lv (.int y :: .int x :: st) := fun H locs cells slots ls hP hD hS hl hc hs => lv_iushr C.1 C.2.1 hdg rfl (k H locs cells slots ls hP hD hS hl hc hs)

end S_C0A
