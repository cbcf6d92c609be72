section S__TMP
abbrev ws_X11_in : List Cond := Cond.code yX11_in cX11_in 3 (some .boolean) :: W0
abbrev rm_X11_in : Room := ({ frames := 0, cells := 0, slots := 0, locals := 0 } : Room)
def wp_X11_in (P : Int32 → RST → Prop) (p0 : Int32) (p1 : Int32) (p2 : Int32) (r : Nat → Int32) (q : Nat → Nat → Int32) : Prop := (p0 < p1 → (P 0 (r, q))) ∧ (¬ p0 < p1 → ((p2 < p0 → (P 0 (r, q))) ∧ (¬ p2 < p0 → (P 1 (r, q)))))
set_option maxRecDepth 100000 in
set_option maxHeartbeats 4000000 in
theorem t_X11_in {p : Program} {l : Launch} {e : Env} {s : State} {m : MethodId} {args : Array Value} {below : List Frame} {meth : Method} {c : Code} {D : va_G} {A : Nat → Prop} {T : Nat → ClassId} {m0 : Nat} {a : Nat → Nat} (C : GC p s m args meth c cX11_in "FreightRaterModel" (ws_X11_in) 3 D A (zty T)) (hr : meth.sig.returnType = (some .boolean)) (P : Int32 → RST → Prop) : ∀ (p0 : Int32) (p1 : Int32) (p2 : Int32) (r : Nat → Int32) (q : Nat → Nat → Int32), wp_X11_in P p0 p1 p2 r q → GW p l e rm_X11_in s m args below meth c D A 3 0 0 (MQ below (va_Qi P (RE D T m0 a A) A) args s 0 0 A) (RW m0 a T r q) 0 0 0 [(0, .int p0), (1, .int p1), (2, .int p2)] [] := by
  have hw : ∀ {w : Cond}, w ∈ W0 → w.before args s = true := fun h => C.2.2.2.2.1 _ (List.mem_cons_of_mem _ h)
  intro p0 p1 p2 r q h
  unfold wp_X11_in at h
  refine g_iload_n C dX11_in_0 rfl 0 rfl ?_
  refine g_iload_n C dX11_in_1 rfl 1 rfl ?_
  refine g_icmp_lt (tgt := 14) C dX11_in_2 (by decide) (fun z1 => ?_) (fun z1 => ?_)
  · replace h := h.1 z1
    refine g_iconst (v := 0) C dX11_in_14 (by decide) ?_
    exact gr_zret C hr vz0 dX11_in_15 h
  · replace h := h.2 z1
    refine g_iload_n C dX11_in_5 rfl 0 rfl ?_
    refine g_iload_n C dX11_in_6 rfl 2 rfl ?_
    refine g_icmp_gt (tgt := 14) C dX11_in_7 (by decide) (fun z2 => ?_) (fun z2 => ?_)
    · replace h := h.1 z2
      refine g_iconst (v := 0) C dX11_in_14 (by decide) ?_
      exact gr_zret C hr vz0 dX11_in_15 h
    · replace h := h.2 z2
      refine g_iconst (v := 1) C dX11_in_10 (by decide) ?_
      refine g_goto (tgt := 15) C dX11_in_11 (by decide) ?_
      exact gr_zret C hr vz1 dX11_in_15 h
theorem c_X11_in (l : Launch) (D : va_G) (T : Nat → ClassId) (m0 : Nat) (a : Nat → Nat) (p0 : Int32) (p1 : Int32) (p2 : Int32) (r : Nat → Int32) (q : Nat → Nat → Int32) (P : Int32 → RST → Prop) (h : wp_X11_in P p0 p1 p2 r q) : RMi l yX11_in (ws_X11_in) rm_X11_in D T m0 a [.int p0, .int p1, .int p2] r q P := gr_meti (by decide) rfl rfl (Nat.le_of_ble_eq_true rfl) (fun p e s m args below meth c A C hr => t_X11_in C hr P p0 p1 p2 r q h)
end S__TMP
