section S_R1S
abbrev ws_X11_in : List Cond := Cond.code yX11_in cX11_in 3 (some .boolean) :: W0
abbrev rm_X11_in : Room := ({ frames := 0, cells := 0, slots := 0, locals := 0 } : Room)
def wp_X11_in (P : Int32 → RST → Prop) (p0 : Int32) (p1 : Int32) (p2 : Int32) (r : Nat → Int32) (q : Nat → Nat → Int32) : Prop := (p0 < p1 → (P 0 (r, q))) ∧ (¬ p0 < p1 → ((p2 < p0 → (P 0 (r, q))) ∧ (¬ p2 < p0 → (P 1 (r, q)))))
set_option maxRecDepth 100000 in
set_option maxHeartbeats 4000000 in
theorem t_X11_in {p : Program} {l : Launch} {e : Env} {s : State} {m : MethodId} {args : Array Value} {below : List Frame} {meth : Method} {c : Code} {D : va_G} {A : Nat → Prop} {T : Nat → ClassId} {m0 : Nat} {a : Nat → Nat} (C : GC p s m args meth c cX11_in "FreightRaterModel" (ws_X11_in) 3 D A (zty T)) (hr : meth.sig.returnType = (some .boolean)) (P : Int32 → RST → Prop) : ∀ (p0 : Int32) (p1 : Int32) (p2 : Int32) (r : Nat → Int32) (q : Nat → Nat → Int32), wp_X11_in P p0 p1 p2 r q → GW p l e rm_X11_in s m args below meth c D A 3 0 0 (MQ below (va_Qi P (RE D T m0 a A) A) args s 0 0 A) (RW m0 a T r q) 0 0 0 [(0, .int p0), (1, .int p1), (2, .int p2)] [] := by
  have hw : ∀ {w : Cond}, w ∈ W0 → w.before args s = true := fun h => C.2.2.2.2.1 _ (List.mem_cons_of_mem _ h)
  intro p0 p1 p2 r q h
  unfold wp_X11_in at h
  refine g_iload_n C dX11_in_0 rfl 0 rfl ?_
  refine g_iload_n C dX11_in_1 rfl 1 rfl ?_
  refine g_icmp_lt (tgt := 14) C dX11_in_2 (by decide) (fun z1 => ?_) (fun z1 => ?_)
  · replace h := h.1 z1
    refine g_iconst (v := 0) C dX11_in_14 (by decide) ?_
    exact gr_zret C hr vz0 dX11_in_15 h
  · replace h := h.2 z1
    refine g_iload_n C dX11_in_5 rfl 0 rfl ?_
    refine g_iload_n C dX11_in_6 rfl 2 rfl ?_
    refine g_icmp_gt (tgt := 14) C dX11_in_7 (by decide) (fun z2 => ?_) (fun z2 => ?_)
    · replace h := h.1 z2
      refine g_iconst (v := 0) C dX11_in_14 (by decide) ?_
      exact gr_zret C hr vz0 dX11_in_15 h
    · replace h := h.2 z2
      refine g_iconst (v := 1) C dX11_in_10 (by decide) ?_
      refine g_goto (tgt := 15) C dX11_in_11 (by decide) ?_
      exact gr_zret C hr vz1 dX11_in_15 h
theorem c_X11_in (l : Launch) (D : va_G) (T : Nat → ClassId) (m0 : Nat) (a : Nat → Nat) (p0 : Int32) (p1 : Int32) (p2 : Int32) (r : Nat → Int32) (q : Nat → Nat → Int32) (P : Int32 → RST → Prop) (h : wp_X11_in P p0 p1 p2 r q) : RMi l yX11_in (ws_X11_in) rm_X11_in D T m0 a [.int p0, .int p1, .int p2] r q P := gr_meti (by decide) rfl rfl (Nat.le_of_ble_eq_true rfl) (fun p e s m args below meth c A C hr => t_X11_in C hr P p0 p1 p2 r q h)
theorem k_X11_in (l : Launch) (D : va_G) (T : Nat → ClassId) (m0 : Nat) (a : Nat → Nat) (p0 : Int32) (p1 : Int32) (p2 : Int32) (r : Nat → Int32) (q : Nat → Nat → Int32) : RMi l yX11_in (ws_X11_in) rm_X11_in D T m0 a [.int p0, .int p1, .int p2] r q (fun v u => v = (zin p0 p1 p2) ∧ u = (r, q)) := c_X11_in l D T m0 a p0 p1 p2 r q _ <|
  (by
    unfold wp_X11_in zin
    refine ⟨fun z => ?_, fun z => ⟨fun z2 => ?_, fun z2 => ?_⟩⟩
    · simp [z]
    · simp [z, z2]
    · simp [z, z2])
abbrev ws_X11_at : List Cond := Cond.code yX11_at cX11_at 1 (some .int) :: W0
abbrev rm_X11_at : Room := ({ frames := 0, cells := 0, slots := 0, locals := 0 } : Room)
def wp_X11_at (P : Int32 → RST → Prop) (p0 : Int32) (r : Nat → Int32) (q : Nat → Nat → Int32) : Prop := P (274 + (510 * p0)) (r, q)
set_option maxRecDepth 100000 in
set_option maxHeartbeats 4000000 in
theorem t_X11_at {p : Program} {l : Launch} {e : Env} {s : State} {m : MethodId} {args : Array Value} {below : List Frame} {meth : Method} {c : Code} {D : va_G} {A : Nat → Prop} {T : Nat → ClassId} {m0 : Nat} {a : Nat → Nat} (C : GC p s m args meth c cX11_at "FreightRaterModel" (ws_X11_at) 1 D A (zty T)) (hr : meth.sig.returnType = (some .int)) (P : Int32 → RST → Prop) : ∀ (p0 : Int32) (r : Nat → Int32) (q : Nat → Nat → Int32), wp_X11_at P p0 r q → GW p l e rm_X11_at s m args below meth c D A 1 0 0 (MQ below (va_Qi P (RE D T m0 a A) A) args s 0 0 A) (RW m0 a T r q) 0 0 0 [(0, .int p0)] [] := by
  have hw : ∀ {w : Cond}, w ∈ W0 → w.before args s = true := fun h => C.2.2.2.2.1 _ (List.mem_cons_of_mem _ h)
  intro p0 r q h
  unfold wp_X11_at at h
  refine g_sipush (v := 274) C dX11_at_0 (by decide) ?_
  refine g_sipush (v := 510) C dX11_at_3 (by decide) ?_
  refine g_iload_n C dX11_at_6 rfl 0 rfl ?_
  refine g_imul C dX11_at_7 ?_
  refine g_iadd C dX11_at_8 ?_
  exact gr_iret C hr dX11_at_9 h
theorem c_X11_at (l : Launch) (D : va_G) (T : Nat → ClassId) (m0 : Nat) (a : Nat → Nat) (p0 : Int32) (r : Nat → Int32) (q : Nat → Nat → Int32) (P : Int32 → RST → Prop) (h : wp_X11_at P p0 r q) : RMi l yX11_at (ws_X11_at) rm_X11_at D T m0 a [.int p0] r q P := gr_meti (by decide) rfl rfl (Nat.le_of_ble_eq_true rfl) (fun p e s m args below meth c A C hr => t_X11_at C hr P p0 r q h)
theorem k_X11_at (l : Launch) (D : va_G) (T : Nat → ClassId) (m0 : Nat) (a : Nat → Nat) (p0 : Int32) (r : Nat → Int32) (q : Nat → Nat → Int32) : RMi l yX11_at (ws_X11_at) rm_X11_at D T m0 a [.int p0] r q (fun v u => v = (274 + 510 * p0) ∧ u = (r, q)) := c_X11_at l D T m0 a p0 r q _ <|
  (by unfold wp_X11_at; exact ⟨rfl, rfl⟩)
abbrev ws_X11_thrown : List Cond := Cond.code yX11_thrown cX11_thrown 1 (some .int) :: W0
abbrev rm_X11_thrown : Room := ({ frames := 0, cells := 0, slots := 0, locals := 0 } : Room)
def wp_X11_thrown (P : Int32 → RST → Prop)  (r : Nat → Int32) (q : Nat → Nat → Int32) : Prop := P (r 6) (r, q)
set_option maxRecDepth 100000 in
set_option maxHeartbeats 4000000 in
theorem t_X11_thrown {p : Program} {l : Launch} {e : Env} {s : State} {m : MethodId} {args : Array Value} {below : List Frame} {meth : Method} {c : Code} {D : va_G} {A : Nat → Prop} {T : Nat → ClassId} {m0 : Nat} {a : Nat → Nat} (C : GC p s m args meth c cX11_thrown "FreightRaterModel" (ws_X11_thrown) 1 D A (zty T)) (hr : meth.sig.returnType = (some .int)) (P : Int32 → RST → Prop) : ∀  (r : Nat → Int32) (q : Nat → Nat → Int32), wp_X11_thrown P  r q → GW p l e rm_X11_thrown s m args below meth c D A 1 0 0 (MQ below (va_Qi P (RE D T m0 a A) A) args s 0 0 A) (RW m0 a T r q) 0 0 0 [(0, .ref m0)] [] := by
  have hw : ∀ {w : Cond}, w ∈ W0 → w.before args s = true := fun h => C.2.2.2.2.1 _ (List.mem_cons_of_mem _ h)
  intro  r q h
  unfold wp_X11_thrown at h
  refine g_aload_n C dX11_thrown_0 rfl 0 rfl ?_
  refine gr_get C iwx_X11 6 (hw kw_1815) (by decide) rfl rfl dX11_thrown_1 ?_
  exact gr_iret C hr dX11_thrown_4 h
theorem c_X11_thrown (l : Launch) (D : va_G) (T : Nat → ClassId) (m0 : Nat) (a : Nat → Nat)  (r : Nat → Int32) (q : Nat → Nat → Int32) (P : Int32 → RST → Prop) (h : wp_X11_thrown P  r q) : RMi l yX11_thrown (ws_X11_thrown) rm_X11_thrown D T m0 a [.ref m0] r q P := gr_meti (by decide) rfl rfl (Nat.le_of_ble_eq_true rfl) (fun p e s m args below meth c A C hr => t_X11_thrown C hr P  r q h)
theorem k_X11_thrown (l : Launch) (D : va_G) (T : Nat → ClassId) (m0 : Nat) (a : Nat → Nat)  (r : Nat → Int32) (q : Nat → Nat → Int32) : RMi l yX11_thrown (ws_X11_thrown) rm_X11_thrown D T m0 a [.ref m0] r q (fun v u => v = (r 6) ∧ u = (r, q)) := c_X11_thrown l D T m0 a  r q _ <|
  (by unfold wp_X11_thrown; exact ⟨rfl, rfl⟩)
abbrev ws_X11_refuse : List Cond := Cond.code yX11_refuse cX11_refuse 2 (some .int) :: W0
abbrev rm_X11_refuse : Room := ({ frames := 0, cells := 0, slots := 0, locals := 0 } : Room)
def wp_X11_refuse (P : Int32 → RST → Prop) (p0 : Int32) (r : Nat → Int32) (q : Nat → Nat → Int32) : Prop := ∀ r1 : Nat → Int32, r1 = va_up r 6 p0 → (P 0 (r1, q))
set_option maxRecDepth 100000 in
set_option maxHeartbeats 4000000 in
theorem t_X11_refuse {p : Program} {l : Launch} {e : Env} {s : State} {m : MethodId} {args : Array Value} {below : List Frame} {meth : Method} {c : Code} {D : va_G} {A : Nat → Prop} {T : Nat → ClassId} {m0 : Nat} {a : Nat → Nat} (C : GC p s m args meth c cX11_refuse "FreightRaterModel" (ws_X11_refuse) 2 D A (zty T)) (hr : meth.sig.returnType = (some .int)) (P : Int32 → RST → Prop) : ∀ (p0 : Int32) (r : Nat → Int32) (q : Nat → Nat → Int32), wp_X11_refuse P p0 r q → GW p l e rm_X11_refuse s m args below meth c D A 2 0 0 (MQ below (va_Qi P (RE D T m0 a A) A) args s 0 0 A) (RW m0 a T r q) 0 0 0 [(0, .ref m0), (1, .int p0)] [] := by
  have hw : ∀ {w : Cond}, w ∈ W0 → w.before args s = true := fun h => C.2.2.2.2.1 _ (List.mem_cons_of_mem _ h)
  intro p0 r q h
  unfold wp_X11_refuse at h
  refine g_aload_n C dX11_refuse_0 rfl 0 rfl ?_
  refine g_iload_n C dX11_refuse_1 rfl 1 rfl ?_
  refine gr_put_6 C iwx_X11 (hw kw_1815) dX11_refuse_2 ?_
  refine gr_nr (fun r1 er1 => ?_)
  replace h := h r1 er1
  refine g_iconst (v := 0) C dX11_refuse_5 (by decide) ?_
  exact gr_iret C hr dX11_refuse_6 h
theorem c_X11_refuse (l : Launch) (D : va_G) (T : Nat → ClassId) (m0 : Nat) (a : Nat → Nat) (p0 : Int32) (r : Nat → Int32) (q : Nat → Nat → Int32) (P : Int32 → RST → Prop) (h : wp_X11_refuse P p0 r q) : RMi l yX11_refuse (ws_X11_refuse) rm_X11_refuse D T m0 a [.ref m0, .int p0] r q P := gr_meti (by decide) rfl rfl (Nat.le_of_ble_eq_true rfl) (fun p e s m args below meth c A C hr => t_X11_refuse C hr P p0 r q h)
theorem k_X11_refuse (l : Launch) (D : va_G) (T : Nat → ClassId) (m0 : Nat) (a : Nat → Nat) (p0 : Int32) (r : Nat → Int32) (q : Nat → Nat → Int32) : RMi l yX11_refuse (ws_X11_refuse) rm_X11_refuse D T m0 a [.ref m0, .int p0] r q (fun v u => (v = 0 ∧ u.1 = va_up r 6 p0 ∧ u.2 = q)) := c_X11_refuse l D T m0 a p0 r q _ <|
  (by unfold wp_X11_refuse; intro r1 e1; exact ⟨rfl, e1, rfl⟩)
abbrev ws_X11_sign : List Cond := Cond.code yX11_sign cX11_sign 1 (some .int) :: W0
abbrev rm_X11_sign : Room := ({ frames := 0, cells := 0, slots := 0, locals := 0 } : Room)
def wp_X11_sign (P : Int32 → RST → Prop)  (r : Nat → Int32) (q : Nat → Nat → Int32) : Prop := ((r 8) ≤ (r 10) → (P (-1) (r, q))) ∧ (¬ (r 8) ≤ (r 10) → (vp_in (r 10) 80 ∧ (P (q 4 (Int32.toNatClampNeg (r 10))) (r, q))))
set_option maxRecDepth 100000 in
set_option maxHeartbeats 4000000 in
theorem t_X11_sign {p : Program} {l : Launch} {e : Env} {s : State} {m : MethodId} {args : Array Value} {below : List Frame} {meth : Method} {c : Code} {D : va_G} {A : Nat → Prop} {T : Nat → ClassId} {m0 : Nat} {a : Nat → Nat} (C : GC p s m args meth c cX11_sign "FreightRaterModel" (ws_X11_sign) 1 D A (zty T)) (hr : meth.sig.returnType = (some .int)) (P : Int32 → RST → Prop) : ∀  (r : Nat → Int32) (q : Nat → Nat → Int32), wp_X11_sign P  r q → GW p l e rm_X11_sign s m args below meth c D A 1 0 0 (MQ below (va_Qi P (RE D T m0 a A) A) args s 0 0 A) (RW m0 a T r q) 0 0 0 [(0, .ref m0)] [] := by
  have hw : ∀ {w : Cond}, w ∈ W0 → w.before args s = true := fun h => C.2.2.2.2.1 _ (List.mem_cons_of_mem _ h)
  intro  r q h
  unfold wp_X11_sign at h
  refine g_aload_n C dX11_sign_0 rfl 0 rfl ?_
  refine gr_get C iwx_X11 10 (hw kw_1819) (by decide) rfl rfl dX11_sign_1 ?_
  refine g_aload_n C dX11_sign_4 rfl 0 rfl ?_
  refine gr_get C iwx_X11 8 (hw kw_1817) (by decide) rfl rfl dX11_sign_5 ?_
  refine g_icmp_ge (tgt := 23) C dX11_sign_8 (by decide) (fun z1 => ?_) (fun z1 => ?_)
  · replace h := h.1 z1
    refine g_iconst (v := -1) C dX11_sign_23 (by decide) ?_
    exact gr_iret C hr dX11_sign_24 h
  · replace h := h.2 z1
    refine g_aload_n C dX11_sign_11 rfl 0 rfl ?_
    refine gr_get C iwx_X11 9 (hw kw_1818) (by decide) rfl rfl dX11_sign_12 ?_
    refine g_aload_n C dX11_sign_15 rfl 0 rfl ?_
    refine gr_get C iwx_X11 10 (hw kw_1819) (by decide) rfl rfl dX11_sign_16 ?_
    obtain ⟨g2, h⟩ := h
    refine gr_ald_4 C g2 dX11_sign_19 ?_
    refine g_goto (tgt := 24) C dX11_sign_20 (by decide) ?_
    exact gr_iret C hr dX11_sign_24 h
theorem c_X11_sign (l : Launch) (D : va_G) (T : Nat → ClassId) (m0 : Nat) (a : Nat → Nat)  (r : Nat → Int32) (q : Nat → Nat → Int32) (P : Int32 → RST → Prop) (h : wp_X11_sign P  r q) : RMi l yX11_sign (ws_X11_sign) rm_X11_sign D T m0 a [.ref m0] r q P := gr_meti (by decide) rfl rfl (Nat.le_of_ble_eq_true rfl) (fun p e s m args below meth c A C hr => t_X11_sign C hr P  r q h)
theorem k_X11_sign (l : Launch) (D : va_G) (T : Nat → ClassId) (m0 : Nat) (a : Nat → Nat)  (r : Nat → Int32) (q : Nat → Nat → Int32) (h : r 10 < r 8 → vp_in (r 10) 80) : RMi l yX11_sign (ws_X11_sign) rm_X11_sign D T m0 a [.ref m0] r q (fun v u => v = (sgnF r q) ∧ u = (r, q)) := c_X11_sign l D T m0 a  r q _ <|
  (by
    unfold wp_X11_sign
    refine ⟨fun z => ⟨?_, rfl⟩, fun z => ?_⟩
    · simp [sgnF, Int32.not_lt.mpr z]
    · have hlt := Int32.not_le.mp z
      exact ⟨h hlt, by simp [sgnF, hlt], rfl⟩)
abbrev ws_X11_kindOf : List Cond := Cond.code yX11_kindOf cX11_kindOf 1 (some .int) :: W0
abbrev rm_X11_kindOf : Room := ({ frames := 0, cells := 0, slots := 0, locals := 0 } : Room)
def wp_X11_kindOf (P : Int32 → RST → Prop) (p0 : Int32) (r : Nat → Int32) (q : Nat → Nat → Int32) : Prop := (¬ p0 = 104 → ((¬ p0 = 119 → ((¬ p0 = 110 → ((¬ p0 = 108 → ((¬ p0 = 122 → (P (-1) (r, q))) ∧ (p0 = 122 → (P 4 (r, q))))) ∧ (p0 = 108 → (P 3 (r, q))))) ∧ (p0 = 110 → (P 2 (r, q))))) ∧ (p0 = 119 → (P 1 (r, q))))) ∧ (p0 = 104 → (P 0 (r, q)))
set_option maxRecDepth 100000 in
set_option maxHeartbeats 4000000 in
theorem t_X11_kindOf {p : Program} {l : Launch} {e : Env} {s : State} {m : MethodId} {args : Array Value} {below : List Frame} {meth : Method} {c : Code} {D : va_G} {A : Nat → Prop} {T : Nat → ClassId} {m0 : Nat} {a : Nat → Nat} (C : GC p s m args meth c cX11_kindOf "FreightRaterModel" (ws_X11_kindOf) 1 D A (zty T)) (hr : meth.sig.returnType = (some .int)) (P : Int32 → RST → Prop) : ∀ (p0 : Int32) (r : Nat → Int32) (q : Nat → Nat → Int32), wp_X11_kindOf P p0 r q → GW p l e rm_X11_kindOf s m args below meth c D A 1 0 0 (MQ below (va_Qi P (RE D T m0 a A) A) args s 0 0 A) (RW m0 a T r q) 0 0 0 [(0, .int p0)] [] := by
  have hw : ∀ {w : Cond}, w ∈ W0 → w.before args s = true := fun h => C.2.2.2.2.1 _ (List.mem_cons_of_mem _ h)
  intro p0 r q h
  unfold wp_X11_kindOf at h
  refine g_iload_n C dX11_kindOf_0 rfl 0 rfl ?_
  refine g_bipush (v := 104) C dX11_kindOf_1 (by decide) ?_
  refine g_icmp_ne (tgt := 10) C dX11_kindOf_3 (by decide) (fun z1 => ?_) (fun z1 => ?_)
  · replace h := h.1 z1
    refine g_iload_n C dX11_kindOf_10 rfl 0 rfl ?_
    refine g_bipush (v := 119) C dX11_kindOf_11 (by decide) ?_
    refine g_icmp_ne (tgt := 20) C dX11_kindOf_13 (by decide) (fun z2 => ?_) (fun z2 => ?_)
    · replace h := h.1 z2
      refine g_iload_n C dX11_kindOf_20 rfl 0 rfl ?_
      refine g_bipush (v := 110) C dX11_kindOf_21 (by decide) ?_
      refine g_icmp_ne (tgt := 30) C dX11_kindOf_23 (by decide) (fun z3 => ?_) (fun z3 => ?_)
      · replace h := h.1 z3
        refine g_iload_n C dX11_kindOf_30 rfl 0 rfl ?_
        refine g_bipush (v := 108) C dX11_kindOf_31 (by decide) ?_
        refine g_icmp_ne (tgt := 40) C dX11_kindOf_33 (by decide) (fun z4 => ?_) (fun z4 => ?_)
        · replace h := h.1 z4
          refine g_iload_n C dX11_kindOf_40 rfl 0 rfl ?_
          refine g_bipush (v := 122) C dX11_kindOf_41 (by decide) ?_
          refine g_icmp_ne (tgt := 50) C dX11_kindOf_43 (by decide) (fun z5 => ?_) (fun z5 => ?_)
          · replace h := h.1 z5
            refine g_iconst (v := -1) C dX11_kindOf_50 (by decide) ?_
            exact gr_iret C hr dX11_kindOf_51 h
          · replace h := h.2 z5
            refine g_iconst (v := 4) C dX11_kindOf_46 (by decide) ?_
            refine g_goto (tgt := 51) C dX11_kindOf_47 (by decide) ?_
            exact gr_iret C hr dX11_kindOf_51 h
        · replace h := h.2 z4
          refine g_iconst (v := 3) C dX11_kindOf_36 (by decide) ?_
          refine g_goto (tgt := 51) C dX11_kindOf_37 (by decide) ?_
          exact gr_iret C hr dX11_kindOf_51 h
      · replace h := h.2 z3
        refine g_iconst (v := 2) C dX11_kindOf_26 (by decide) ?_
        refine g_goto (tgt := 51) C dX11_kindOf_27 (by decide) ?_
        exact gr_iret C hr dX11_kindOf_51 h
    · replace h := h.2 z2
      refine g_iconst (v := 1) C dX11_kindOf_16 (by decide) ?_
      refine g_goto (tgt := 51) C dX11_kindOf_17 (by decide) ?_
      exact gr_iret C hr dX11_kindOf_51 h
  · replace h := h.2 z1
    refine g_iconst (v := 0) C dX11_kindOf_6 (by decide) ?_
    refine g_goto (tgt := 51) C dX11_kindOf_7 (by decide) ?_
    exact gr_iret C hr dX11_kindOf_51 h
theorem c_X11_kindOf (l : Launch) (D : va_G) (T : Nat → ClassId) (m0 : Nat) (a : Nat → Nat) (p0 : Int32) (r : Nat → Int32) (q : Nat → Nat → Int32) (P : Int32 → RST → Prop) (h : wp_X11_kindOf P p0 r q) : RMi l yX11_kindOf (ws_X11_kindOf) rm_X11_kindOf D T m0 a [.int p0] r q P := gr_meti (by decide) rfl rfl (Nat.le_of_ble_eq_true rfl) (fun p e s m args below meth c A C hr => t_X11_kindOf C hr P p0 r q h)
theorem k_X11_kindOf (l : Launch) (D : va_G) (T : Nat → ClassId) (m0 : Nat) (a : Nat → Nat) (p0 : Int32) (r : Nat → Int32) (q : Nat → Nat → Int32) : RMi l yX11_kindOf (ws_X11_kindOf) rm_X11_kindOf D T m0 a [.int p0] r q (fun v u => v = (kindF p0) ∧ u = (r, q)) := c_X11_kindOf l D T m0 a p0 r q _ <|
  (by
    unfold wp_X11_kindOf
    repeat' (first | refine ⟨?_, ?_⟩ | intro _)
    all_goals first | rfl | simp_all [kindF])
abbrev ws_X11_comparison : List Cond := Cond.code yX11_comparison cX11_comparison 1 (some .int) :: W0
abbrev rm_X11_comparison : Room := ({ frames := 0, cells := 0, slots := 0, locals := 0 } : Room)
def wp_X11_comparison (P : Int32 → RST → Prop) (p0 : Int32) (r : Nat → Int32) (q : Nat → Nat → Int32) : Prop := (¬ p0 = 60 → ((¬ p0 = 62 → ((¬ p0 = 61 → (P (-1) (r, q))) ∧ (p0 = 61 → (P 2 (r, q))))) ∧ (p0 = 62 → (P 1 (r, q))))) ∧ (p0 = 60 → (P 0 (r, q)))
set_option maxRecDepth 100000 in
set_option maxHeartbeats 4000000 in
theorem t_X11_comparison {p : Program} {l : Launch} {e : Env} {s : State} {m : MethodId} {args : Array Value} {below : List Frame} {meth : Method} {c : Code} {D : va_G} {A : Nat → Prop} {T : Nat → ClassId} {m0 : Nat} {a : Nat → Nat} (C : GC p s m args meth c cX11_comparison "FreightRaterModel" (ws_X11_comparison) 1 D A (zty T)) (hr : meth.sig.returnType = (some .int)) (P : Int32 → RST → Prop) : ∀ (p0 : Int32) (r : Nat → Int32) (q : Nat → Nat → Int32), wp_X11_comparison P p0 r q → GW p l e rm_X11_comparison s m args below meth c D A 1 0 0 (MQ below (va_Qi P (RE D T m0 a A) A) args s 0 0 A) (RW m0 a T r q) 0 0 0 [(0, .int p0)] [] := by
  have hw : ∀ {w : Cond}, w ∈ W0 → w.before args s = true := fun h => C.2.2.2.2.1 _ (List.mem_cons_of_mem _ h)
  intro p0 r q h
  unfold wp_X11_comparison at h
  refine g_iload_n C dX11_comparison_0 rfl 0 rfl ?_
  refine g_bipush (v := 60) C dX11_comparison_1 (by decide) ?_
  refine g_icmp_ne (tgt := 10) C dX11_comparison_3 (by decide) (fun z1 => ?_) (fun z1 => ?_)
  · replace h := h.1 z1
    refine g_iload_n C dX11_comparison_10 rfl 0 rfl ?_
    refine g_bipush (v := 62) C dX11_comparison_11 (by decide) ?_
    refine g_icmp_ne (tgt := 20) C dX11_comparison_13 (by decide) (fun z2 => ?_) (fun z2 => ?_)
    · replace h := h.1 z2
      refine g_iload_n C dX11_comparison_20 rfl 0 rfl ?_
      refine g_bipush (v := 61) C dX11_comparison_21 (by decide) ?_
      refine g_icmp_ne (tgt := 30) C dX11_comparison_23 (by decide) (fun z3 => ?_) (fun z3 => ?_)
      · replace h := h.1 z3
        refine g_iconst (v := -1) C dX11_comparison_30 (by decide) ?_
        exact gr_iret C hr dX11_comparison_31 h
      · replace h := h.2 z3
        refine g_iconst (v := 2) C dX11_comparison_26 (by decide) ?_
        refine g_goto (tgt := 31) C dX11_comparison_27 (by decide) ?_
        exact gr_iret C hr dX11_comparison_31 h
    · replace h := h.2 z2
      refine g_iconst (v := 1) C dX11_comparison_16 (by decide) ?_
      refine g_goto (tgt := 31) C dX11_comparison_17 (by decide) ?_
      exact gr_iret C hr dX11_comparison_31 h
  · replace h := h.2 z1
    refine g_iconst (v := 0) C dX11_comparison_6 (by decide) ?_
    refine g_goto (tgt := 31) C dX11_comparison_7 (by decide) ?_
    exact gr_iret C hr dX11_comparison_31 h
theorem c_X11_comparison (l : Launch) (D : va_G) (T : Nat → ClassId) (m0 : Nat) (a : Nat → Nat) (p0 : Int32) (r : Nat → Int32) (q : Nat → Nat → Int32) (P : Int32 → RST → Prop) (h : wp_X11_comparison P p0 r q) : RMi l yX11_comparison (ws_X11_comparison) rm_X11_comparison D T m0 a [.int p0] r q P := gr_meti (by decide) rfl rfl (Nat.le_of_ble_eq_true rfl) (fun p e s m args below meth c A C hr => t_X11_comparison C hr P p0 r q h)
theorem k_X11_comparison (l : Launch) (D : va_G) (T : Nat → ClassId) (m0 : Nat) (a : Nat → Nat) (p0 : Int32) (r : Nat → Int32) (q : Nat → Nat → Int32) : RMi l yX11_comparison (ws_X11_comparison) rm_X11_comparison D T m0 a [.int p0] r q (fun v u => v = (compF p0) ∧ u = (r, q)) := c_X11_comparison l D T m0 a p0 r q _ <|
  (by
    unfold wp_X11_comparison
    repeat' (first | refine ⟨?_, ?_⟩ | intro _)
    all_goals first | rfl | simp_all [compF])
abbrev ws_X11_has : List Cond := Cond.code yX11_has cX11_has 2 (some .boolean) :: W0
abbrev rm_X11_has : Room := ({ frames := 0, cells := 0, slots := 0, locals := 0 } : Room)
def wp_X11_has (P : Int32 → RST → Prop) (p0 : Int32) (p1 : Int32) (r : Nat → Int32) (q : Nat → Nat → Int32) : Prop := (¬ ((p0 >>> (p1 &&& 31)) &&& 1) = 1 → (P 0 (r, q))) ∧ (((p0 >>> (p1 &&& 31)) &&& 1) = 1 → (P 1 (r, q)))
set_option maxRecDepth 100000 in
set_option maxHeartbeats 4000000 in
theorem t_X11_has {p : Program} {l : Launch} {e : Env} {s : State} {m : MethodId} {args : Array Value} {below : List Frame} {meth : Method} {c : Code} {D : va_G} {A : Nat → Prop} {T : Nat → ClassId} {m0 : Nat} {a : Nat → Nat} (C : GC p s m args meth c cX11_has "FreightRaterModel" (ws_X11_has) 2 D A (zty T)) (hr : meth.sig.returnType = (some .boolean)) (P : Int32 → RST → Prop) : ∀ (p0 : Int32) (p1 : Int32) (r : Nat → Int32) (q : Nat → Nat → Int32), wp_X11_has P p0 p1 r q → GW p l e rm_X11_has s m args below meth c D A 2 0 0 (MQ below (va_Qi P (RE D T m0 a A) A) args s 0 0 A) (RW m0 a T r q) 0 0 0 [(0, .int p0), (1, .int p1)] [] := by
  have hw : ∀ {w : Cond}, w ∈ W0 → w.before args s = true := fun h => C.2.2.2.2.1 _ (List.mem_cons_of_mem _ h)
  intro p0 p1 r q h
  unfold wp_X11_has at h
  refine g_iload_n C dX11_has_0 rfl 0 rfl ?_
  refine g_iload_n C dX11_has_1 rfl 1 rfl ?_
  refine g_ishr C dX11_has_2 ?_
  refine g_iconst (v := 1) C dX11_has_3 (by decide) ?_
  refine g_iand C dX11_has_4 ?_
  refine g_iconst (v := 1) C dX11_has_5 (by decide) ?_
  refine g_icmp_ne (tgt := 13) C dX11_has_6 (by decide) (fun z1 => ?_) (fun z1 => ?_)
  · replace h := h.1 z1
    refine g_iconst (v := 0) C dX11_has_13 (by decide) ?_
    exact gr_zret C hr vz0 dX11_has_14 h
  · replace h := h.2 z1
    refine g_iconst (v := 1) C dX11_has_9 (by decide) ?_
    refine g_goto (tgt := 14) C dX11_has_10 (by decide) ?_
    exact gr_zret C hr vz1 dX11_has_14 h
theorem c_X11_has (l : Launch) (D : va_G) (T : Nat → ClassId) (m0 : Nat) (a : Nat → Nat) (p0 : Int32) (p1 : Int32) (r : Nat → Int32) (q : Nat → Nat → Int32) (P : Int32 → RST → Prop) (h : wp_X11_has P p0 p1 r q) : RMi l yX11_has (ws_X11_has) rm_X11_has D T m0 a [.int p0, .int p1] r q P := gr_meti (by decide) rfl rfl (Nat.le_of_ble_eq_true rfl) (fun p e s m args below meth c A C hr => t_X11_has C hr P p0 p1 r q h)
theorem k_X11_has (l : Launch) (D : va_G) (T : Nat → ClassId) (m0 : Nat) (a : Nat → Nat) (p0 : Int32) (p1 : Int32) (r : Nat → Int32) (q : Nat → Nat → Int32) : RMi l yX11_has (ws_X11_has) rm_X11_has D T m0 a [.int p0, .int p1] r q (fun v u => v = (hasF p0 p1) ∧ u = (r, q)) := c_X11_has l D T m0 a p0 p1 r q _ <|
  (by
    unfold wp_X11_has
    repeat' (first | refine ⟨?_, ?_⟩ | intro _)
    all_goals first | rfl | simp_all [hasF])
abbrev ws_X11_percent : List Cond := Cond.code yX11_percent cX11_percent 2 (some .int) :: W0
abbrev rm_X11_percent : Room := ({ frames := 0, cells := 0, slots := 0, locals := 0 } : Room)
def wp_X11_percent (P : Int32 → RST → Prop) (p0 : Int32) (p1 : Int32) (r : Nat → Int32) (q : Nat → Nat → Int32) : Prop := P ((((((p0).toInt64 * (p1).toInt64) + 50) / 100)).toInt32) (r, q)
set_option maxRecDepth 100000 in
set_option maxHeartbeats 4000000 in
theorem t_X11_percent {p : Program} {l : Launch} {e : Env} {s : State} {m : MethodId} {args : Array Value} {below : List Frame} {meth : Method} {c : Code} {D : va_G} {A : Nat → Prop} {T : Nat → ClassId} {m0 : Nat} {a : Nat → Nat} (C : GC p s m args meth c cX11_percent "FreightRaterModel" (ws_X11_percent) 2 D A (zty T)) (hr : meth.sig.returnType = (some .int)) (P : Int32 → RST → Prop) : ∀ (p0 : Int32) (p1 : Int32) (r : Nat → Int32) (q : Nat → Nat → Int32), wp_X11_percent P p0 p1 r q → GW p l e rm_X11_percent s m args below meth c D A 2 0 0 (MQ below (va_Qi P (RE D T m0 a A) A) args s 0 0 A) (RW m0 a T r q) 0 0 0 [(0, .int p0), (1, .int p1)] [] := by
  have hw : ∀ {w : Cond}, w ∈ W0 → w.before args s = true := fun h => C.2.2.2.2.1 _ (List.mem_cons_of_mem _ h)
  intro p0 p1 r q h
  unfold wp_X11_percent at h
  refine g_iload_n C dX11_percent_0 rfl 0 rfl ?_
  refine g_i2l C dX11_percent_1 rfl ?_
  refine g_iload_n C dX11_percent_2 rfl 1 rfl ?_
  refine g_i2l C dX11_percent_3 rfl ?_
  refine g_lmul C dX11_percent_4 ?_
  refine g_ldc2 (v := 50) C dX11_percent_5 (hw kw_2225) ?_
  refine g_ladd C dX11_percent_8 ?_
  refine g_ldc2 (v := 100) C dX11_percent_9 (hw kw_2226) ?_
  refine g_ldiv C dX11_percent_12 (by decide) ?_
  refine g_l2i C dX11_percent_13 rfl ?_
  exact gr_iret C hr dX11_percent_14 h
theorem c_X11_percent (l : Launch) (D : va_G) (T : Nat → ClassId) (m0 : Nat) (a : Nat → Nat) (p0 : Int32) (p1 : Int32) (r : Nat → Int32) (q : Nat → Nat → Int32) (P : Int32 → RST → Prop) (h : wp_X11_percent P p0 p1 r q) : RMi l yX11_percent (ws_X11_percent) rm_X11_percent D T m0 a [.int p0, .int p1] r q P := gr_meti (by decide) rfl rfl (Nat.le_of_ble_eq_true rfl) (fun p e s m args below meth c A C hr => t_X11_percent C hr P p0 p1 r q h)
theorem k_X11_percent (l : Launch) (D : va_G) (T : Nat → ClassId) (m0 : Nat) (a : Nat → Nat) (p0 : Int32) (p1 : Int32) (r : Nat → Int32) (q : Nat → Nat → Int32) : RMi l yX11_percent (ws_X11_percent) rm_X11_percent D T m0 a [.int p0, .int p1] r q (fun v u => v = (pctF p0 p1) ∧ u = (r, q)) := c_X11_percent l D T m0 a p0 p1 r q _ <|
  (by unfold wp_X11_percent; exact ⟨rfl, rfl⟩)
abbrev ws_X11_letterOf : List Cond := Cond.code yX11_letterOf cX11_letterOf 1 (some .char) :: W0
abbrev rm_X11_letterOf : Room := ({ frames := 0, cells := 0, slots := 0, locals := 0 } : Room)
def wp_X11_letterOf (P : Int32 → RST → Prop) (p0 : Int32) (r : Nat → Int32) (q : Nat → Nat → Int32) : Prop := (¬ p0 = 0 → ((¬ p0 = 1 → ((¬ p0 = 2 → ((¬ p0 = 3 → (vc 122 ∧ P 122 (r, q))) ∧ (p0 = 3 → (vc 108 ∧ P 108 (r, q))))) ∧ (p0 = 2 → (vc 110 ∧ P 110 (r, q))))) ∧ (p0 = 1 → (vc 119 ∧ P 119 (r, q))))) ∧ (p0 = 0 → (vc 104 ∧ P 104 (r, q)))
set_option maxRecDepth 100000 in
set_option maxHeartbeats 4000000 in
theorem t_X11_letterOf {p : Program} {l : Launch} {e : Env} {s : State} {m : MethodId} {args : Array Value} {below : List Frame} {meth : Method} {c : Code} {D : va_G} {A : Nat → Prop} {T : Nat → ClassId} {m0 : Nat} {a : Nat → Nat} (C : GC p s m args meth c cX11_letterOf "FreightRaterModel" (ws_X11_letterOf) 1 D A (zty T)) (hr : meth.sig.returnType = (some .char)) (P : Int32 → RST → Prop) : ∀ (p0 : Int32) (r : Nat → Int32) (q : Nat → Nat → Int32), wp_X11_letterOf P p0 r q → GW p l e rm_X11_letterOf s m args below meth c D A 1 0 0 (MQ below (va_Qi P (RE D T m0 a A) A) args s 0 0 A) (RW m0 a T r q) 0 0 0 [(0, .int p0)] [] := by
  have hw : ∀ {w : Cond}, w ∈ W0 → w.before args s = true := fun h => C.2.2.2.2.1 _ (List.mem_cons_of_mem _ h)
  intro p0 r q h
  unfold wp_X11_letterOf at h
  refine g_iload_n C dX11_letterOf_0 rfl 0 rfl ?_
  refine g_if_ne (tgt := 9) C dX11_letterOf_1 (by decide) (fun z1 => ?_) (fun z1 => ?_)
  · replace h := h.1 z1
    refine g_iload_n C dX11_letterOf_9 rfl 0 rfl ?_
    refine g_iconst (v := 1) C dX11_letterOf_10 (by decide) ?_
    refine g_icmp_ne (tgt := 19) C dX11_letterOf_11 (by decide) (fun z2 => ?_) (fun z2 => ?_)
    · replace h := h.1 z2
      refine g_iload_n C dX11_letterOf_19 rfl 0 rfl ?_
      refine g_iconst (v := 2) C dX11_letterOf_20 (by decide) ?_
      refine g_icmp_ne (tgt := 29) C dX11_letterOf_21 (by decide) (fun z3 => ?_) (fun z3 => ?_)
      · replace h := h.1 z3
        refine g_iload_n C dX11_letterOf_29 rfl 0 rfl ?_
        refine g_iconst (v := 3) C dX11_letterOf_30 (by decide) ?_
        refine g_icmp_ne (tgt := 39) C dX11_letterOf_31 (by decide) (fun z4 => ?_) (fun z4 => ?_)
        · replace h := h.1 z4
          refine g_bipush (v := 122) C dX11_letterOf_39 (by decide) ?_
          exact gr_cret C hr h.1 dX11_letterOf_41 h.2
        · replace h := h.2 z4
          refine g_bipush (v := 108) C dX11_letterOf_34 (by decide) ?_
          refine g_goto (tgt := 41) C dX11_letterOf_36 (by decide) ?_
          exact gr_cret C hr h.1 dX11_letterOf_41 h.2
      · replace h := h.2 z3
        refine g_bipush (v := 110) C dX11_letterOf_24 (by decide) ?_
        refine g_goto (tgt := 41) C dX11_letterOf_26 (by decide) ?_
        exact gr_cret C hr h.1 dX11_letterOf_41 h.2
    · replace h := h.2 z2
      refine g_bipush (v := 119) C dX11_letterOf_14 (by decide) ?_
      refine g_goto (tgt := 41) C dX11_letterOf_16 (by decide) ?_
      exact gr_cret C hr h.1 dX11_letterOf_41 h.2
  · replace h := h.2 z1
    refine g_bipush (v := 104) C dX11_letterOf_4 (by decide) ?_
    refine g_goto (tgt := 41) C dX11_letterOf_6 (by decide) ?_
    exact gr_cret C hr h.1 dX11_letterOf_41 h.2
theorem c_X11_letterOf (l : Launch) (D : va_G) (T : Nat → ClassId) (m0 : Nat) (a : Nat → Nat) (p0 : Int32) (r : Nat → Int32) (q : Nat → Nat → Int32) (P : Int32 → RST → Prop) (h : wp_X11_letterOf P p0 r q) : RMi l yX11_letterOf (ws_X11_letterOf) rm_X11_letterOf D T m0 a [.int p0] r q P := gr_meti (by decide) rfl rfl (Nat.le_of_ble_eq_true rfl) (fun p e s m args below meth c A C hr => t_X11_letterOf C hr P p0 r q h)
theorem k_X11_letterOf (l : Launch) (D : va_G) (T : Nat → ClassId) (m0 : Nat) (a : Nat → Nat) (p0 : Int32) (r : Nat → Int32) (q : Nat → Nat → Int32) : RMi l yX11_letterOf (ws_X11_letterOf) rm_X11_letterOf D T m0 a [.int p0] r q (fun v u => v = (letF p0) ∧ u = (r, q)) := c_X11_letterOf l D T m0 a p0 r q _ <|
  (by
    unfold wp_X11_letterOf
    repeat' (first | refine ⟨?_, ?_⟩ | intro _)
    all_goals first | rfl | exact vc_n (n := 122) (by decide) | exact vc_n (n := 108) (by decide) | exact vc_n (n := 110) (by decide) | exact vc_n (n := 119) (by decide) | exact vc_n (n := 104) (by decide) | simp_all [letF])
abbrev ws_X11_of : List Cond := Cond.code yX11_of cX11_of 3 (some .int) :: W0
abbrev rm_X11_of : Room := ({ frames := 0, cells := 0, slots := 0, locals := 0 } : Room)
def wp_X11_of (P : Int32 → RST → Prop) (p0 : Int32) (p1 : Int32) (r : Nat → Int32) (q : Nat → Nat → Int32) : Prop := vp_in ((14 + (26 * p0)) + p1) 3334 ∧ (P (q 0 (Int32.toNatClampNeg ((14 + (26 * p0)) + p1))) (r, q))
set_option maxRecDepth 100000 in
set_option maxHeartbeats 4000000 in
theorem t_X11_of {p : Program} {l : Launch} {e : Env} {s : State} {m : MethodId} {args : Array Value} {below : List Frame} {meth : Method} {c : Code} {D : va_G} {A : Nat → Prop} {T : Nat → ClassId} {m0 : Nat} {a : Nat → Nat} (C : GC p s m args meth c cX11_of "FreightRaterModel" (ws_X11_of) 3 D A (zty T)) (hr : meth.sig.returnType = (some .int)) (P : Int32 → RST → Prop) : ∀ (p0 : Int32) (p1 : Int32) (r : Nat → Int32) (q : Nat → Nat → Int32), wp_X11_of P p0 p1 r q → GW p l e rm_X11_of s m args below meth c D A 3 0 0 (MQ below (va_Qi P (RE D T m0 a A) A) args s 0 0 A) (RW m0 a T r q) 0 0 0 [(0, .ref m0), (1, .int p0), (2, .int p1)] [] := by
  have hw : ∀ {w : Cond}, w ∈ W0 → w.before args s = true := fun h => C.2.2.2.2.1 _ (List.mem_cons_of_mem _ h)
  intro p0 p1 r q h
  unfold wp_X11_of at h
  refine g_aload_n C dX11_of_0 rfl 0 rfl ?_
  refine gr_get C iwx_X11 0 (hw kw_1809) (by decide) rfl rfl dX11_of_1 ?_
  refine g_bipush (v := 14) C dX11_of_4 (by decide) ?_
  refine g_bipush (v := 26) C dX11_of_6 (by decide) ?_
  refine g_iload_n C dX11_of_8 rfl 1 rfl ?_
  refine g_imul C dX11_of_9 ?_
  refine g_iadd C dX11_of_10 ?_
  refine g_iload_n C dX11_of_11 rfl 2 rfl ?_
  refine g_iadd C dX11_of_12 ?_
  obtain ⟨g1, h⟩ := h
  refine gr_ald_0 C g1 dX11_of_13 ?_
  exact gr_iret C hr dX11_of_14 h
theorem c_X11_of (l : Launch) (D : va_G) (T : Nat → ClassId) (m0 : Nat) (a : Nat → Nat) (p0 : Int32) (p1 : Int32) (r : Nat → Int32) (q : Nat → Nat → Int32) (P : Int32 → RST → Prop) (h : wp_X11_of P p0 p1 r q) : RMi l yX11_of (ws_X11_of) rm_X11_of D T m0 a [.ref m0, .int p0, .int p1] r q P := gr_meti (by decide) rfl rfl (Nat.le_of_ble_eq_true rfl) (fun p e s m args below meth c A C hr => t_X11_of C hr P p0 p1 r q h)
theorem k_X11_of (l : Launch) (D : va_G) (T : Nat → ClassId) (m0 : Nat) (a : Nat → Nat) (p0 : Int32) (p1 : Int32) (r : Nat → Int32) (q : Nat → Nat → Int32) (h : six p0 ∧ pix p1) : RMi l yX11_of (ws_X11_of) rm_X11_of D T m0 a [.ref m0, .int p0, .int p1] r q (fun v u => v = (q 0 (14 + 26 * iv p0 + iv p1)) ∧ u = (r, q)) := c_X11_of l D T m0 a p0 p1 r q _ <|
  (by
    obtain ⟨⟨s, hs, rfl⟩, ⟨w, hw, rfl⟩⟩ := h
    unfold wp_X11_of
    simp (disch := omega) only [li_2, li_3, li_4, li_5, li_6, li_7, li_8, li_9, li_10, li_12, li_14, li_20, li_26, li_30, li_31, li_36, li_38, li_47, li_48, li_50, li_57, li_58, li_80, li_98, li_99, li_100, li_102, li_104, li_105, li_108, li_109, li_110, li_114, li_115, li_119, li_122, li_137, li_146, li_147, li_148, li_149, li_150, li_200, li_255, li_256, li_274, li_510, li_512, li_640, li_999, li_1000, li_1024, li_3334, li_5000, li_9999, li_10000, li_23338, li_26672, li_30000, li_99999, li_150000, li_300000, pk_mul, nI_add, pk_sub, nI_clamp, nI_1, nI_p1, nI_a0, nI_0a, nI_m0, nI_m1, cl_0, cl_1, z01, z11, nI_leI, nI_ltI, nI_eq, nz_lt0, nz_le, nz_eq0, nz_pos, nz_le0, nz_eq1, nz_lt1, nz_ge1, nz_le1, nz_gt1, nz_vp, nz_vp0, nz_vp1, six_nI, vix_nI, bix_nI, pix_nI, fix_nI, gix_nI, rix_nI, zix_nI, pix_0, pix_1, bix_0, fix_0, fix_1, rix_1, true_and, and_true]
    repeat' (first | with_reducible rfl | with_reducible trivial | omega | with_reducible apply And.intro | rfl))
abbrev ws_X11_isGroup : List Cond := Cond.code yX11_isGroup cX11_isGroup 2 (some .boolean) :: W0
abbrev rm_X11_isGroup : Room := ({ frames := 0, cells := 0, slots := 0, locals := 0 } : Room)
def wp_X11_isGroup (P : Int32 → RST → Prop) (p0 : Int32) (r : Nat → Int32) (q : Nat → Nat → Int32) : Prop := (p0 ≤ 0 → (P 0 (r, q))) ∧ (¬ p0 ≤ 0 → (vp_in 1 3334 ∧ (((1 <<< ((q 0 (Int32.toNatClampNeg 1)) &&& 31)) ≤ p0 → (P 0 (r, q))) ∧ (¬ (1 <<< ((q 0 (Int32.toNatClampNeg 1)) &&& 31)) ≤ p0 → (P 1 (r, q))))))
set_option maxRecDepth 100000 in
set_option maxHeartbeats 4000000 in
theorem t_X11_isGroup {p : Program} {l : Launch} {e : Env} {s : State} {m : MethodId} {args : Array Value} {below : List Frame} {meth : Method} {c : Code} {D : va_G} {A : Nat → Prop} {T : Nat → ClassId} {m0 : Nat} {a : Nat → Nat} (C : GC p s m args meth c cX11_isGroup "FreightRaterModel" (ws_X11_isGroup) 2 D A (zty T)) (hr : meth.sig.returnType = (some .boolean)) (P : Int32 → RST → Prop) : ∀ (p0 : Int32) (r : Nat → Int32) (q : Nat → Nat → Int32), wp_X11_isGroup P p0 r q → GW p l e rm_X11_isGroup s m args below meth c D A 2 0 0 (MQ below (va_Qi P (RE D T m0 a A) A) args s 0 0 A) (RW m0 a T r q) 0 0 0 [(0, .ref m0), (1, .int p0)] [] := by
  have hw : ∀ {w : Cond}, w ∈ W0 → w.before args s = true := fun h => C.2.2.2.2.1 _ (List.mem_cons_of_mem _ h)
  intro p0 r q h
  unfold wp_X11_isGroup at h
  refine g_iload_n C dX11_isGroup_0 rfl 1 rfl ?_
  refine g_if_le (tgt := 20) C dX11_isGroup_1 (by decide) (fun z1 => ?_) (fun z1 => ?_)
  · replace h := h.1 z1
    refine g_iconst (v := 0) C dX11_isGroup_20 (by decide) ?_
    exact gr_zret C hr vz0 dX11_isGroup_21 h
  · replace h := h.2 z1
    refine g_iload_n C dX11_isGroup_4 rfl 1 rfl ?_
    refine g_iconst (v := 1) C dX11_isGroup_5 (by decide) ?_
    refine g_aload_n C dX11_isGroup_6 rfl 0 rfl ?_
    refine gr_get C iwx_X11 0 (hw kw_1809) (by decide) rfl rfl dX11_isGroup_7 ?_
    refine g_iconst (v := 1) C dX11_isGroup_10 (by decide) ?_
    obtain ⟨g2, h⟩ := h
    refine gr_ald_0 C g2 dX11_isGroup_11 ?_
    refine g_ishl C dX11_isGroup_12 ?_
    refine g_icmp_ge (tgt := 20) C dX11_isGroup_13 (by decide) (fun z3 => ?_) (fun z3 => ?_)
    · replace h := h.1 z3
      refine g_iconst (v := 0) C dX11_isGroup_20 (by decide) ?_
      exact gr_zret C hr vz0 dX11_isGroup_21 h
    · replace h := h.2 z3
      refine g_iconst (v := 1) C dX11_isGroup_16 (by decide) ?_
      refine g_goto (tgt := 21) C dX11_isGroup_17 (by decide) ?_
      exact gr_zret C hr vz1 dX11_isGroup_21 h
theorem c_X11_isGroup (l : Launch) (D : va_G) (T : Nat → ClassId) (m0 : Nat) (a : Nat → Nat) (p0 : Int32) (r : Nat → Int32) (q : Nat → Nat → Int32) (P : Int32 → RST → Prop) (h : wp_X11_isGroup P p0 r q) : RMi l yX11_isGroup (ws_X11_isGroup) rm_X11_isGroup D T m0 a [.ref m0, .int p0] r q P := gr_meti (by decide) rfl rfl (Nat.le_of_ble_eq_true rfl) (fun p e s m args below meth c A C hr => t_X11_isGroup C hr P p0 r q h)
theorem k_X11_isGroup (l : Launch) (D : va_G) (T : Nat → ClassId) (m0 : Nat) (a : Nat → Nat) (p0 : Int32) (r : Nat → Int32) (q : Nat → Nat → Int32) : RMi l yX11_isGroup (ws_X11_isGroup) rm_X11_isGroup D T m0 a [.ref m0, .int p0] r q (fun v u => v = (grpF (q 0) p0) ∧ u = (r, q)) := c_X11_isGroup l D T m0 a p0 r q _ <|
  (by
    unfold wp_X11_isGroup
    refine ⟨fun z => ⟨?_, rfl⟩, fun z => ⟨vp_in_nI (n := 1) (by decide) (by decide), fun z2 => ⟨?_, rfl⟩, fun z2 => ⟨?_, rfl⟩⟩⟩
    · simp [grpF, Int32.not_lt.mpr z]
    · have z2 : ((1 : Int32) <<< (q 0 1 &&& 31)) ≤ p0 := z2
      simp [grpF, Int32.not_le.mp z, Int32.not_lt.mpr z2]
    · have z2 : ¬ ((1 : Int32) <<< (q 0 1 &&& 31)) ≤ p0 := z2
      simp [grpF, Int32.not_le.mp z, Int32.not_le.mp z2])

end S_R1S
