section GROWS4
variable {p : Program} {l : Launch} {e : Env} {R : Room} {s : State} {m : MethodId} {args : Array Value} {below : List Frame} {meth : Method} {c : Code} {D : va_G} {A : Nat → Prop} {nL KC KS : Nat} {Q : State → Prop}
variable {kc ks pc : Nat} {lv : List (Nat × Value)} {st : List Value} {cc : ByteArray} {own : String} {Ts : List Cond} {T : Nat → ClassId} {S S0 : HS} {L : List Nat} {x : Nat}
abbrev isL (S : HS) (L : List Nat) : Prop := hL S L
theorem gc_nS (k : ∀ S1 : HS, S1 = S → GW p l e R s m args below meth c D A nL KC KS Q (CW T S1 L) kc ks pc lv st) : GW p l e R s m args below meth c D A nL KC KS Q (CW T S L) kc ks pc lv st := k S rfl
theorem gc_castP (C : GC p s m args meth c cc own Ts nL D A (zty T)) (hL0 : hL S L) {kd N : Nat} {Cn : String} {Tn : u_T} (hx : hK S x = kd) (h0 : kd ≠ 0) (h1 : kd < 20) (hcl : vwCl[clx kd]? = some (Cn, Tn, N)) {idx : Nat} (hlink : (Cond.classLink own idx Cn).before args s = true) (hdg : decode cc pc = .ok (.checkcast idx, 3)) (kk : GW p l e R s m args below meth c D A nL KC KS Q (CW T S L) kc ks (pc + 3) lv (.ref x :: st)) : GW p l e R s m args below meth c D A nL KC KS Q (CW T S L) kc ks pc lv (.ref x :: st) := by
  intro H locs cells slots ls hP hD hS hl hc hs
  obtain ⟨k0, hk0⟩ := cw_objC (T := T) hP hL0 hx h0 h1
  exact va_castS C.1 C.2.1 C.2.2.2.1 hlink (C.2.2.2.2.2.1.1 (clx kd) _ hcl).2 (va_recv C.2.2.2.2.2.1 hP hcl hk0) hdg (kk H locs cells slots ls hP hD hS hl hc hs)
theorem gc_castQ (C : GC p s m args meth c cc own Ts nL D A (zty T)) (hL0 : hL S L) {o : Option Nat} {kd N : Nat} {Cn : String} {Tn : u_T} (hx : ∀ b, o = some b → hK S b = kd) (h0 : kd ≠ 0) (h1 : kd < 20) (hcl : vwCl[clx kd]? = some (Cn, Tn, N)) {idx : Nat} (hlink : (Cond.classLink own idx Cn).before args s = true) (hdg : decode cc pc = .ok (.checkcast idx, 3)) (kk : GW p l e R s m args below meth c D A nL KC KS Q (CW T S L) kc ks (pc + 3) lv (va_rf o :: st)) : GW p l e R s m args below meth c D A nL KC KS Q (CW T S L) kc ks pc lv (va_rf o :: st) := by
  cases o with
  | none =>
    intro H locs cells slots ls hP hD hS hl hc hs
    exact lv_castN C.1 C.2.1 hdg (kk H locs cells slots ls hP hD hS hl hc hs)
  | some b => exact gc_castP C hL0 (hx b rfl) h0 h1 hcl hlink hdg kk
end GROWS4
