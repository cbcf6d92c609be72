section S_R2S
abbrev ws_X11_isVersion : List Cond := Cond.code yX11_isVersion cX11_isVersion 2 (some .boolean) :: W0
abbrev rm_X11_isVersion : Room := ({ frames := 1, cells := 0, slots := 0, locals := 22 } : Room)
def wp_X11_isVersion (P : Int32 → RST → Prop) (p0 : Int32) (r : Nat → Int32) (q : Nat → Nat → Int32) : Prop := vp_in 0 3334 ∧ (vz (zin p0 0 ((q 0 (Int32.toNatClampNeg 0)) - 1)) ∧ P (zin p0 0 ((q 0 (Int32.toNatClampNeg 0)) - 1)) (r, q))
set_option maxRecDepth 100000 in
set_option maxHeartbeats 4000000 in
theorem t_X11_isVersion {p : Program} {l : Launch} {e : Env} {s : State} {m : MethodId} {args : Array Value} {below : List Frame} {meth : Method} {c : Code} {D : va_G} {A : Nat → Prop} {T : Nat → ClassId} {m0 : Nat} {a : Nat → Nat} (C : GC p s m args meth c cX11_isVersion "FreightRaterModel" (ws_X11_isVersion) 2 D A (zty T)) (hr : meth.sig.returnType = (some .boolean)) (P : Int32 → RST → Prop) : ∀ (p0 : Int32) (r : Nat → Int32) (q : Nat → Nat → Int32), wp_X11_isVersion P p0 r q → GW p l e rm_X11_isVersion s m args below meth c D A 2 0 0 (MQ below (va_Qi P (RE D T m0 a A) A) args s 0 0 A) (RW m0 a T r q) 0 0 0 [(0, .ref m0), (1, .int p0)] [] := by
  have hw : ∀ {w : Cond}, w ∈ W0 → w.before args s = true := fun h => C.2.2.2.2.1 _ (List.mem_cons_of_mem _ h)
  intro p0 r q h
  unfold wp_X11_isVersion at h
  refine g_iload_n C dX11_isVersion_0 rfl 1 rfl ?_
  refine g_iconst (v := 0) C dX11_isVersion_1 (by decide) ?_
  refine g_aload_n C dX11_isVersion_2 rfl 0 rfl ?_
  refine gr_get C iwx_X11 0 (hw kw_1809) (by decide) rfl rfl dX11_isVersion_3 ?_
  refine g_iconst (v := 0) C dX11_isVersion_6 (by decide) ?_
  obtain ⟨g1, h⟩ := h
  refine gr_ald_0 C g1 dX11_isVersion_7 ?_
  refine g_iconst (v := 1) C dX11_isVersion_8 (by decide) ?_
  refine g_isub C dX11_isVersion_9 ?_
  refine gr_callSf C [.int p0, .int 0, .int ((q 0 (Int32.toNatClampNeg 0)) - 1)] rfl (k_X11_in l D T m0 a p0 0 ((q 0 (Int32.toNatClampNeg 0)) - 1) r q) (w0_S 3 C.2.2.2.2.1 kw_1944 kw_1945 kw_9 kw_1946 rfl rfl (by decide +kernel) ⟨by decide, by decide⟩) rfl (Nat.le_of_ble_eq_true rfl) (Nat.zero_le _) (Nat.zero_le _) dX11_isVersion_10 ?_
  exact gr_zret C hr h.1 dX11_isVersion_13 h.2
theorem c_X11_isVersion (l : Launch) (D : va_G) (T : Nat → ClassId) (m0 : Nat) (a : Nat → Nat) (p0 : Int32) (r : Nat → Int32) (q : Nat → Nat → Int32) (P : Int32 → RST → Prop) (h : wp_X11_isVersion P p0 r q) : RMi l yX11_isVersion (ws_X11_isVersion) rm_X11_isVersion D T m0 a [.ref m0, .int p0] r q P := gr_meti (by decide) rfl rfl (Nat.le_of_ble_eq_true rfl) (fun p e s m args below meth c A C hr => t_X11_isVersion C hr P p0 r q h)
theorem k_X11_isVersion (l : Launch) (D : va_G) (T : Nat → ClassId) (m0 : Nat) (a : Nat → Nat) (p0 : Int32) (r : Nat → Int32) (q : Nat → Nat → Int32) : RMi l yX11_isVersion (ws_X11_isVersion) rm_X11_isVersion D T m0 a [.ref m0, .int p0] r q (fun v u => v = (zin p0 0 (q 0 0 - 1)) ∧ u = (r, q)) := c_X11_isVersion l D T m0 a p0 r q _ <|
  (by unfold wp_X11_isVersion; exact ⟨vp_in_nI (n := 0) (by decide) (by decide), zin_vz _ _ _, rfl, rfl⟩)
abbrev ws_X11_isShipment : List Cond := Cond.code yX11_isShipment cX11_isShipment 2 (some .boolean) :: W0
abbrev rm_X11_isShipment : Room := ({ frames := 1, cells := 0, slots := 0, locals := 22 } : Room)
def wp_X11_isShipment (P : Int32 → RST → Prop) (p0 : Int32) (r : Nat → Int32) (q : Nat → Nat → Int32) : Prop := vp_in 1 3334 ∧ (vz (zin p0 0 ((q 0 (Int32.toNatClampNeg 1)) - 1)) ∧ P (zin p0 0 ((q 0 (Int32.toNatClampNeg 1)) - 1)) (r, q))
set_option maxRecDepth 100000 in
set_option maxHeartbeats 4000000 in
theorem t_X11_isShipment {p : Program} {l : Launch} {e : Env} {s : State} {m : MethodId} {args : Array Value} {below : List Frame} {meth : Method} {c : Code} {D : va_G} {A : Nat → Prop} {T : Nat → ClassId} {m0 : Nat} {a : Nat → Nat} (C : GC p s m args meth c cX11_isShipment "FreightRaterModel" (ws_X11_isShipment) 2 D A (zty T)) (hr : meth.sig.returnType = (some .boolean)) (P : Int32 → RST → Prop) : ∀ (p0 : Int32) (r : Nat → Int32) (q : Nat → Nat → Int32), wp_X11_isShipment P p0 r q → GW p l e rm_X11_isShipment s m args below meth c D A 2 0 0 (MQ below (va_Qi P (RE D T m0 a A) A) args s 0 0 A) (RW m0 a T r q) 0 0 0 [(0, .ref m0), (1, .int p0)] [] := by
  have hw : ∀ {w : Cond}, w ∈ W0 → w.before args s = true := fun h => C.2.2.2.2.1 _ (List.mem_cons_of_mem _ h)
  intro p0 r q h
  unfold wp_X11_isShipment at h
  refine g_iload_n C dX11_isShipment_0 rfl 1 rfl ?_
  refine g_iconst (v := 0) C dX11_isShipment_1 (by decide) ?_
  refine g_aload_n C dX11_isShipment_2 rfl 0 rfl ?_
  refine gr_get C iwx_X11 0 (hw kw_1809) (by decide) rfl rfl dX11_isShipment_3 ?_
  refine g_iconst (v := 1) C dX11_isShipment_6 (by decide) ?_
  obtain ⟨g1, h⟩ := h
  refine gr_ald_0 C g1 dX11_isShipment_7 ?_
  refine g_iconst (v := 1) C dX11_isShipment_8 (by decide) ?_
  refine g_isub C dX11_isShipment_9 ?_
  refine gr_callSf C [.int p0, .int 0, .int ((q 0 (Int32.toNatClampNeg 1)) - 1)] rfl (k_X11_in l D T m0 a p0 0 ((q 0 (Int32.toNatClampNeg 1)) - 1) r q) (w0_S 3 C.2.2.2.2.1 kw_1944 kw_1945 kw_9 kw_1946 rfl rfl (by decide +kernel) ⟨by decide, by decide⟩) rfl (Nat.le_of_ble_eq_true rfl) (Nat.zero_le _) (Nat.zero_le _) dX11_isShipment_10 ?_
  exact gr_zret C hr h.1 dX11_isShipment_13 h.2
theorem c_X11_isShipment (l : Launch) (D : va_G) (T : Nat → ClassId) (m0 : Nat) (a : Nat → Nat) (p0 : Int32) (r : Nat → Int32) (q : Nat → Nat → Int32) (P : Int32 → RST → Prop) (h : wp_X11_isShipment P p0 r q) : RMi l yX11_isShipment (ws_X11_isShipment) rm_X11_isShipment D T m0 a [.ref m0, .int p0] r q P := gr_meti (by decide) rfl rfl (Nat.le_of_ble_eq_true rfl) (fun p e s m args below meth c A C hr => t_X11_isShipment C hr P p0 r q h)
theorem k_X11_isShipment (l : Launch) (D : va_G) (T : Nat → ClassId) (m0 : Nat) (a : Nat → Nat) (p0 : Int32) (r : Nat → Int32) (q : Nat → Nat → Int32) : RMi l yX11_isShipment (ws_X11_isShipment) rm_X11_isShipment D T m0 a [.ref m0, .int p0] r q (fun v u => v = (zin p0 0 (q 0 1 - 1)) ∧ u = (r, q)) := c_X11_isShipment l D T m0 a p0 r q _ <|
  (by unfold wp_X11_isShipment; exact ⟨vp_in_nI (n := 1) (by decide) (by decide), zin_vz _ _ _, rfl, rfl⟩)
abbrev ws_X11_isSide : List Cond := Cond.code yX11_isSide cX11_isSide 1 (some .boolean) :: W0
abbrev rm_X11_isSide : Room := ({ frames := 1, cells := 0, slots := 0, locals := 22 } : Room)
def wp_X11_isSide (P : Int32 → RST → Prop) (p0 : Int32) (r : Nat → Int32) (q : Nat → Nat → Int32) : Prop := vz (zin p0 1 200) ∧ P (zin p0 1 200) (r, q)
set_option maxRecDepth 100000 in
set_option maxHeartbeats 4000000 in
theorem t_X11_isSide {p : Program} {l : Launch} {e : Env} {s : State} {m : MethodId} {args : Array Value} {below : List Frame} {meth : Method} {c : Code} {D : va_G} {A : Nat → Prop} {T : Nat → ClassId} {m0 : Nat} {a : Nat → Nat} (C : GC p s m args meth c cX11_isSide "FreightRaterModel" (ws_X11_isSide) 1 D A (zty T)) (hr : meth.sig.returnType = (some .boolean)) (P : Int32 → RST → Prop) : ∀ (p0 : Int32) (r : Nat → Int32) (q : Nat → Nat → Int32), wp_X11_isSide P p0 r q → GW p l e rm_X11_isSide s m args below meth c D A 1 0 0 (MQ below (va_Qi P (RE D T m0 a A) A) args s 0 0 A) (RW m0 a T r q) 0 0 0 [(0, .int p0)] [] := by
  have hw : ∀ {w : Cond}, w ∈ W0 → w.before args s = true := fun h => C.2.2.2.2.1 _ (List.mem_cons_of_mem _ h)
  intro p0 r q h
  unfold wp_X11_isSide at h
  refine g_iload_n C dX11_isSide_0 rfl 0 rfl ?_
  refine g_iconst (v := 1) C dX11_isSide_1 (by decide) ?_
  refine g_sipush (v := 200) C dX11_isSide_2 (by decide) ?_
  refine gr_callSf C [.int p0, .int 1, .int 200] rfl (k_X11_in l D T m0 a p0 1 200 r q) (w0_S 3 C.2.2.2.2.1 kw_1944 kw_1945 kw_9 kw_1946 rfl rfl (by decide +kernel) ⟨by decide, by decide⟩) rfl (Nat.le_of_ble_eq_true rfl) (Nat.zero_le _) (Nat.zero_le _) dX11_isSide_5 ?_
  exact gr_zret C hr h.1 dX11_isSide_8 h.2
theorem c_X11_isSide (l : Launch) (D : va_G) (T : Nat → ClassId) (m0 : Nat) (a : Nat → Nat) (p0 : Int32) (r : Nat → Int32) (q : Nat → Nat → Int32) (P : Int32 → RST → Prop) (h : wp_X11_isSide P p0 r q) : RMi l yX11_isSide (ws_X11_isSide) rm_X11_isSide D T m0 a [.int p0] r q P := gr_meti (by decide) rfl rfl (Nat.le_of_ble_eq_true rfl) (fun p e s m args below meth c A C hr => t_X11_isSide C hr P p0 r q h)
theorem k_X11_isSide (l : Launch) (D : va_G) (T : Nat → ClassId) (m0 : Nat) (a : Nat → Nat) (p0 : Int32) (r : Nat → Int32) (q : Nat → Nat → Int32) : RMi l yX11_isSide (ws_X11_isSide) rm_X11_isSide D T m0 a [.int p0] r q (fun v u => v = (zin p0 1 200) ∧ u = (r, q)) := c_X11_isSide l D T m0 a p0 r q _ <|
  (by unfold wp_X11_isSide; exact ⟨zin_vz _ _ _, rfl, rfl⟩)
abbrev ws_X11_extra : List Cond := Cond.code yX11_extra cX11_extra 2 (some .int) :: W0
abbrev rm_X11_extra : Room := ({ frames := 1, cells := 0, slots := 0, locals := 20 } : Room)
def wp_X11_extra (P : Int32 → RST → Prop) (p0 : Int32) (p1 : Int32) (r : Nat → Int32) (q : Nat → Nat → Int32) : Prop := P (((274 + 510 * p0) + 150) + (36 * p1)) (r, q)
set_option maxRecDepth 100000 in
set_option maxHeartbeats 4000000 in
theorem t_X11_extra {p : Program} {l : Launch} {e : Env} {s : State} {m : MethodId} {args : Array Value} {below : List Frame} {meth : Method} {c : Code} {D : va_G} {A : Nat → Prop} {T : Nat → ClassId} {m0 : Nat} {a : Nat → Nat} (C : GC p s m args meth c cX11_extra "FreightRaterModel" (ws_X11_extra) 2 D A (zty T)) (hr : meth.sig.returnType = (some .int)) (P : Int32 → RST → Prop) : ∀ (p0 : Int32) (p1 : Int32) (r : Nat → Int32) (q : Nat → Nat → Int32), wp_X11_extra P p0 p1 r q → GW p l e rm_X11_extra s m args below meth c D A 2 0 0 (MQ below (va_Qi P (RE D T m0 a A) A) args s 0 0 A) (RW m0 a T r q) 0 0 0 [(0, .int p0), (1, .int p1)] [] := by
  have hw : ∀ {w : Cond}, w ∈ W0 → w.before args s = true := fun h => C.2.2.2.2.1 _ (List.mem_cons_of_mem _ h)
  intro p0 p1 r q h
  unfold wp_X11_extra at h
  refine g_iload_n C dX11_extra_0 rfl 0 rfl ?_
  refine gr_callSf C [.int p0] rfl (k_X11_at l D T m0 a p0 r q) (w0_S 1 C.2.2.2.2.1 kw_1947 kw_1948 kw_9 kw_1949 rfl rfl (by decide +kernel) ⟨by decide, by decide⟩) rfl (Nat.le_of_ble_eq_true rfl) (Nat.zero_le _) (Nat.zero_le _) dX11_extra_1 ?_
  refine g_sipush (v := 150) C dX11_extra_4 (by decide) ?_
  refine g_iadd C dX11_extra_7 ?_
  refine g_bipush (v := 36) C dX11_extra_8 (by decide) ?_
  refine g_iload_n C dX11_extra_10 rfl 1 rfl ?_
  refine g_imul C dX11_extra_11 ?_
  refine g_iadd C dX11_extra_12 ?_
  exact gr_iret C hr dX11_extra_13 h
theorem c_X11_extra (l : Launch) (D : va_G) (T : Nat → ClassId) (m0 : Nat) (a : Nat → Nat) (p0 : Int32) (p1 : Int32) (r : Nat → Int32) (q : Nat → Nat → Int32) (P : Int32 → RST → Prop) (h : wp_X11_extra P p0 p1 r q) : RMi l yX11_extra (ws_X11_extra) rm_X11_extra D T m0 a [.int p0, .int p1] r q P := gr_meti (by decide) rfl rfl (Nat.le_of_ble_eq_true rfl) (fun p e s m args below meth c A C hr => t_X11_extra C hr P p0 p1 r q h)
theorem k_X11_extra (l : Launch) (D : va_G) (T : Nat → ClassId) (m0 : Nat) (a : Nat → Nat) (p0 : Int32) (p1 : Int32) (r : Nat → Int32) (q : Nat → Nat → Int32) : RMi l yX11_extra (ws_X11_extra) rm_X11_extra D T m0 a [.int p0, .int p1] r q (fun v u => v = (274 + 510 * p0 + 150 + 36 * p1) ∧ u = (r, q)) := c_X11_extra l D T m0 a p0 p1 r q _ <|
  (by unfold wp_X11_extra; exact ⟨rfl, rfl⟩)
abbrev ws_X11_breakAt : List Cond := Cond.code yX11_breakAt cX11_breakAt 3 (some .int) :: W0
abbrev rm_X11_breakAt : Room := ({ frames := 1, cells := 0, slots := 0, locals := 20 } : Room)
def wp_X11_breakAt (P : Int32 → RST → Prop) (p0 : Int32) (p1 : Int32) (p2 : Int32) (r : Nat → Int32) (q : Nat → Nat → Int32) : Prop := P ((((274 + 510 * p0) + 47) + (10 * (p1 - 1))) + (2 * p2)) (r, q)
set_option maxRecDepth 100000 in
set_option maxHeartbeats 4000000 in
theorem t_X11_breakAt {p : Program} {l : Launch} {e : Env} {s : State} {m : MethodId} {args : Array Value} {below : List Frame} {meth : Method} {c : Code} {D : va_G} {A : Nat → Prop} {T : Nat → ClassId} {m0 : Nat} {a : Nat → Nat} (C : GC p s m args meth c cX11_breakAt "FreightRaterModel" (ws_X11_breakAt) 3 D A (zty T)) (hr : meth.sig.returnType = (some .int)) (P : Int32 → RST → Prop) : ∀ (p0 : Int32) (p1 : Int32) (p2 : Int32) (r : Nat → Int32) (q : Nat → Nat → Int32), wp_X11_breakAt P p0 p1 p2 r q → GW p l e rm_X11_breakAt s m args below meth c D A 3 0 0 (MQ below (va_Qi P (RE D T m0 a A) A) args s 0 0 A) (RW m0 a T r q) 0 0 0 [(0, .int p0), (1, .int p1), (2, .int p2)] [] := by
  have hw : ∀ {w : Cond}, w ∈ W0 → w.before args s = true := fun h => C.2.2.2.2.1 _ (List.mem_cons_of_mem _ h)
  intro p0 p1 p2 r q h
  unfold wp_X11_breakAt at h
  refine g_iload_n C dX11_breakAt_0 rfl 0 rfl ?_
  refine gr_callSf C [.int p0] rfl (k_X11_at l D T m0 a p0 r q) (w0_S 1 C.2.2.2.2.1 kw_1947 kw_1948 kw_9 kw_1949 rfl rfl (by decide +kernel) ⟨by decide, by decide⟩) rfl (Nat.le_of_ble_eq_true rfl) (Nat.zero_le _) (Nat.zero_le _) dX11_breakAt_1 ?_
  refine g_bipush (v := 47) C dX11_breakAt_4 (by decide) ?_
  refine g_iadd C dX11_breakAt_6 ?_
  refine g_bipush (v := 10) C dX11_breakAt_7 (by decide) ?_
  refine g_iload_n C dX11_breakAt_9 rfl 1 rfl ?_
  refine g_iconst (v := 1) C dX11_breakAt_10 (by decide) ?_
  refine g_isub C dX11_breakAt_11 ?_
  refine g_imul C dX11_breakAt_12 ?_
  refine g_iadd C dX11_breakAt_13 ?_
  refine g_iconst (v := 2) C dX11_breakAt_14 (by decide) ?_
  refine g_iload_n C dX11_breakAt_15 rfl 2 rfl ?_
  refine g_imul C dX11_breakAt_16 ?_
  refine g_iadd C dX11_breakAt_17 ?_
  exact gr_iret C hr dX11_breakAt_18 h
theorem c_X11_breakAt (l : Launch) (D : va_G) (T : Nat → ClassId) (m0 : Nat) (a : Nat → Nat) (p0 : Int32) (p1 : Int32) (p2 : Int32) (r : Nat → Int32) (q : Nat → Nat → Int32) (P : Int32 → RST → Prop) (h : wp_X11_breakAt P p0 p1 p2 r q) : RMi l yX11_breakAt (ws_X11_breakAt) rm_X11_breakAt D T m0 a [.int p0, .int p1, .int p2] r q P := gr_meti (by decide) rfl rfl (Nat.le_of_ble_eq_true rfl) (fun p e s m args below meth c A C hr => t_X11_breakAt C hr P p0 p1 p2 r q h)
theorem k_X11_breakAt (l : Launch) (D : va_G) (T : Nat → ClassId) (m0 : Nat) (a : Nat → Nat) (p0 : Int32) (p1 : Int32) (p2 : Int32) (r : Nat → Int32) (q : Nat → Nat → Int32) : RMi l yX11_breakAt (ws_X11_breakAt) rm_X11_breakAt D T m0 a [.int p0, .int p1, .int p2] r q (fun v u => v = (274 + 510 * p0 + 47 + 10 * (p1 - 1) + 2 * p2) ∧ u = (r, q)) := c_X11_breakAt l D T m0 a p0 p1 p2 r q _ <|
  (by unfold wp_X11_breakAt; exact ⟨rfl, rfl⟩)
abbrev ws_X11_breaks : List Cond := Cond.code yX11_breaks cX11_breaks 3 (some .int) :: W0
abbrev rm_X11_breaks : Room := ({ frames := 1, cells := 0, slots := 0, locals := 20 } : Room)
def wp_X11_breaks (P : Int32 → RST → Prop) (p0 : Int32) (p1 : Int32) (r : Nat → Int32) (q : Nat → Nat → Int32) : Prop := vp_in ((((274 + 510 * p0) + 38) + p1) - 1) 3334 ∧ (P (q 0 (Int32.toNatClampNeg ((((274 + 510 * p0) + 38) + p1) - 1))) (r, q))
set_option maxRecDepth 100000 in
set_option maxHeartbeats 4000000 in
theorem t_X11_breaks {p : Program} {l : Launch} {e : Env} {s : State} {m : MethodId} {args : Array Value} {below : List Frame} {meth : Method} {c : Code} {D : va_G} {A : Nat → Prop} {T : Nat → ClassId} {m0 : Nat} {a : Nat → Nat} (C : GC p s m args meth c cX11_breaks "FreightRaterModel" (ws_X11_breaks) 3 D A (zty T)) (hr : meth.sig.returnType = (some .int)) (P : Int32 → RST → Prop) : ∀ (p0 : Int32) (p1 : Int32) (r : Nat → Int32) (q : Nat → Nat → Int32), wp_X11_breaks P p0 p1 r q → GW p l e rm_X11_breaks s m args below meth c D A 3 0 0 (MQ below (va_Qi P (RE D T m0 a A) A) args s 0 0 A) (RW m0 a T r q) 0 0 0 [(0, .ref m0), (1, .int p0), (2, .int p1)] [] := by
  have hw : ∀ {w : Cond}, w ∈ W0 → w.before args s = true := fun h => C.2.2.2.2.1 _ (List.mem_cons_of_mem _ h)
  intro p0 p1 r q h
  unfold wp_X11_breaks at h
  refine g_aload_n C dX11_breaks_0 rfl 0 rfl ?_
  refine gr_get C iwx_X11 0 (hw kw_1809) (by decide) rfl rfl dX11_breaks_1 ?_
  refine g_iload_n C dX11_breaks_4 rfl 1 rfl ?_
  refine gr_callSf C [.int p0] rfl (k_X11_at l D T m0 a p0 r q) (w0_S 1 C.2.2.2.2.1 kw_1947 kw_1948 kw_9 kw_1949 rfl rfl (by decide +kernel) ⟨by decide, by decide⟩) rfl (Nat.le_of_ble_eq_true rfl) (Nat.zero_le _) (Nat.zero_le _) dX11_breaks_5 ?_
  refine g_bipush (v := 38) C dX11_breaks_8 (by decide) ?_
  refine g_iadd C dX11_breaks_10 ?_
  refine g_iload_n C dX11_breaks_11 rfl 2 rfl ?_
  refine g_iadd C dX11_breaks_12 ?_
  refine g_iconst (v := 1) C dX11_breaks_13 (by decide) ?_
  refine g_isub C dX11_breaks_14 ?_
  obtain ⟨g1, h⟩ := h
  refine gr_ald_0 C g1 dX11_breaks_15 ?_
  exact gr_iret C hr dX11_breaks_16 h
theorem c_X11_breaks (l : Launch) (D : va_G) (T : Nat → ClassId) (m0 : Nat) (a : Nat → Nat) (p0 : Int32) (p1 : Int32) (r : Nat → Int32) (q : Nat → Nat → Int32) (P : Int32 → RST → Prop) (h : wp_X11_breaks P p0 p1 r q) : RMi l yX11_breaks (ws_X11_breaks) rm_X11_breaks D T m0 a [.ref m0, .int p0, .int p1] r q P := gr_meti (by decide) rfl rfl (Nat.le_of_ble_eq_true rfl) (fun p e s m args below meth c A C hr => t_X11_breaks C hr P p0 p1 r q h)
theorem k_X11_breaks (l : Launch) (D : va_G) (T : Nat → ClassId) (m0 : Nat) (a : Nat → Nat) (p0 : Int32) (p1 : Int32) (r : Nat → Int32) (q : Nat → Nat → Int32) (h : vix p0 ∧ zix p1) : RMi l yX11_breaks (ws_X11_breaks) rm_X11_breaks D T m0 a [.ref m0, .int p0, .int p1] r q (fun v u => v = (q 0 (274 + 510 * iv p0 + 38 + iv p1 - 1)) ∧ u = (r, q)) := c_X11_breaks l D T m0 a p0 p1 r q _ <|
  (by
    obtain ⟨⟨v, hv, rfl⟩, ⟨z, hz1, hz2, rfl⟩⟩ := h
    unfold wp_X11_breaks
    simp (disch := omega) only [li_2, li_3, li_4, li_5, li_6, li_7, li_8, li_9, li_10, li_12, li_14, li_20, li_26, li_30, li_31, li_36, li_38, li_47, li_48, li_50, li_57, li_58, li_80, li_98, li_99, li_100, li_102, li_104, li_105, li_108, li_109, li_110, li_114, li_115, li_119, li_122, li_137, li_146, li_147, li_148, li_149, li_150, li_200, li_255, li_256, li_274, li_510, li_512, li_640, li_999, li_1000, li_1024, li_3334, li_5000, li_9999, li_10000, li_23338, li_26672, li_30000, li_99999, li_150000, li_300000, pk_mul, nI_add, pk_sub, nI_clamp, nI_1, nI_p1, nI_a0, nI_0a, nI_m0, nI_m1, cl_0, cl_1, z01, z11, nI_leI, nI_ltI, nI_eq, nz_lt0, nz_le, nz_eq0, nz_pos, nz_le0, nz_eq1, nz_lt1, nz_ge1, nz_le1, nz_gt1, nz_vp, nz_vp0, nz_vp1, six_nI, vix_nI, bix_nI, pix_nI, fix_nI, gix_nI, rix_nI, zix_nI, pix_0, pix_1, bix_0, fix_0, fix_1, rix_1, true_and, and_true]
    repeat' (first | with_reducible rfl | with_reducible trivial | omega | with_reducible apply And.intro | rfl))
abbrev ws_X11_minimum : List Cond := Cond.code yX11_minimum cX11_minimum 3 (some .int) :: W0
abbrev rm_X11_minimum : Room := ({ frames := 1, cells := 0, slots := 0, locals := 20 } : Room)
def wp_X11_minimum (P : Int32 → RST → Prop) (p0 : Int32) (p1 : Int32) (r : Nat → Int32) (q : Nat → Nat → Int32) : Prop := vp_in ((((274 + 510 * p0) + 137) + p1) - 1) 3334 ∧ (P (q 0 (Int32.toNatClampNeg ((((274 + 510 * p0) + 137) + p1) - 1))) (r, q))
set_option maxRecDepth 100000 in
set_option maxHeartbeats 4000000 in
theorem t_X11_minimum {p : Program} {l : Launch} {e : Env} {s : State} {m : MethodId} {args : Array Value} {below : List Frame} {meth : Method} {c : Code} {D : va_G} {A : Nat → Prop} {T : Nat → ClassId} {m0 : Nat} {a : Nat → Nat} (C : GC p s m args meth c cX11_minimum "FreightRaterModel" (ws_X11_minimum) 3 D A (zty T)) (hr : meth.sig.returnType = (some .int)) (P : Int32 → RST → Prop) : ∀ (p0 : Int32) (p1 : Int32) (r : Nat → Int32) (q : Nat → Nat → Int32), wp_X11_minimum P p0 p1 r q → GW p l e rm_X11_minimum s m args below meth c D A 3 0 0 (MQ below (va_Qi P (RE D T m0 a A) A) args s 0 0 A) (RW m0 a T r q) 0 0 0 [(0, .ref m0), (1, .int p0), (2, .int p1)] [] := by
  have hw : ∀ {w : Cond}, w ∈ W0 → w.before args s = true := fun h => C.2.2.2.2.1 _ (List.mem_cons_of_mem _ h)
  intro p0 p1 r q h
  unfold wp_X11_minimum at h
  refine g_aload_n C dX11_minimum_0 rfl 0 rfl ?_
  refine gr_get C iwx_X11 0 (hw kw_1809) (by decide) rfl rfl dX11_minimum_1 ?_
  refine g_iload_n C dX11_minimum_4 rfl 1 rfl ?_
  refine gr_callSf C [.int p0] rfl (k_X11_at l D T m0 a p0 r q) (w0_S 1 C.2.2.2.2.1 kw_1947 kw_1948 kw_9 kw_1949 rfl rfl (by decide +kernel) ⟨by decide, by decide⟩) rfl (Nat.le_of_ble_eq_true rfl) (Nat.zero_le _) (Nat.zero_le _) dX11_minimum_5 ?_
  refine g_sipush (v := 137) C dX11_minimum_8 (by decide) ?_
  refine g_iadd C dX11_minimum_11 ?_
  refine g_iload_n C dX11_minimum_12 rfl 2 rfl ?_
  refine g_iadd C dX11_minimum_13 ?_
  refine g_iconst (v := 1) C dX11_minimum_14 (by decide) ?_
  refine g_isub C dX11_minimum_15 ?_
  obtain ⟨g1, h⟩ := h
  refine gr_ald_0 C g1 dX11_minimum_16 ?_
  exact gr_iret C hr dX11_minimum_17 h
theorem c_X11_minimum (l : Launch) (D : va_G) (T : Nat → ClassId) (m0 : Nat) (a : Nat → Nat) (p0 : Int32) (p1 : Int32) (r : Nat → Int32) (q : Nat → Nat → Int32) (P : Int32 → RST → Prop) (h : wp_X11_minimum P p0 p1 r q) : RMi l yX11_minimum (ws_X11_minimum) rm_X11_minimum D T m0 a [.ref m0, .int p0, .int p1] r q P := gr_meti (by decide) rfl rfl (Nat.le_of_ble_eq_true rfl) (fun p e s m args below meth c A C hr => t_X11_minimum C hr P p0 p1 r q h)
theorem k_X11_minimum (l : Launch) (D : va_G) (T : Nat → ClassId) (m0 : Nat) (a : Nat → Nat) (p0 : Int32) (p1 : Int32) (r : Nat → Int32) (q : Nat → Nat → Int32) (h : vix p0 ∧ zix p1) : RMi l yX11_minimum (ws_X11_minimum) rm_X11_minimum D T m0 a [.ref m0, .int p0, .int p1] r q (fun v u => v = (q 0 (274 + 510 * iv p0 + 137 + iv p1 - 1)) ∧ u = (r, q)) := c_X11_minimum l D T m0 a p0 p1 r q _ <|
  (by
    obtain ⟨⟨v, hv, rfl⟩, ⟨z, hz1, hz2, rfl⟩⟩ := h
    unfold wp_X11_minimum
    simp (disch := omega) only [li_2, li_3, li_4, li_5, li_6, li_7, li_8, li_9, li_10, li_12, li_14, li_20, li_26, li_30, li_31, li_36, li_38, li_47, li_48, li_50, li_57, li_58, li_80, li_98, li_99, li_100, li_102, li_104, li_105, li_108, li_109, li_110, li_114, li_115, li_119, li_122, li_137, li_146, li_147, li_148, li_149, li_150, li_200, li_255, li_256, li_274, li_510, li_512, li_640, li_999, li_1000, li_1024, li_3334, li_5000, li_9999, li_10000, li_23338, li_26672, li_30000, li_99999, li_150000, li_300000, pk_mul, nI_add, pk_sub, nI_clamp, nI_1, nI_p1, nI_a0, nI_0a, nI_m0, nI_m1, cl_0, cl_1, z01, z11, nI_leI, nI_ltI, nI_eq, nz_lt0, nz_le, nz_eq0, nz_pos, nz_le0, nz_eq1, nz_lt1, nz_ge1, nz_le1, nz_gt1, nz_vp, nz_vp0, nz_vp1, six_nI, vix_nI, bix_nI, pix_nI, fix_nI, gix_nI, rix_nI, zix_nI, pix_0, pix_1, bix_0, fix_0, fix_1, rix_1, true_and, and_true]
    repeat' (first | with_reducible rfl | with_reducible trivial | omega | with_reducible apply And.intro | rfl))
abbrev ws_X11_zoneIn : List Cond := Cond.code yX11_zoneIn cX11_zoneIn 6 (some .int) :: W0
abbrev rm_X11_zoneIn : Room := ({ frames := 1, cells := 0, slots := 0, locals := 22 } : Room)
def wb_X11_zoneIn_5 (rec : Int32 → Int32 → Int32 → Int32 → (Nat → Int32) → (Nat → Nat → Int32) → Prop) (P : Int32 → RST → Prop) (x1 : Int32) (x2 : Int32) (x3 : Int32) (x4 : Int32) (r : Nat → Int32) (q : Nat → Nat → Int32) : Prop := vp_in ((274 + 510 * x1) + 1) 3334 ∧ (((q 0 (Int32.toNatClampNeg ((274 + 510 * x1) + 1))) ≤ x4 → (P x3 (r, q))) ∧ (¬ (q 0 (Int32.toNatClampNeg ((274 + 510 * x1) + 1))) ≤ x4 → (∀ v3 : Int32, v3 = (((274 + 510 * x1) + 2) + (3 * x4)) → (vp_in v3 3334 ∧ (vp_in (v3 + 1) 3334 ∧ (((zin x2 (q 0 (Int32.toNatClampNeg v3)) (q 0 (Int32.toNatClampNeg (v3 + 1)))) = 0 → (∀ v7 : Int32, v7 = x4 + 1 → (rec x1 x2 x3 v7 r q))) ∧ (¬ (zin x2 (q 0 (Int32.toNatClampNeg v3)) (q 0 (Int32.toNatClampNeg (v3 + 1)))) = 0 → (vp_in (v3 + 2) 3334 ∧ (∀ v9 : Int32, v9 = (q 0 (Int32.toNatClampNeg (v3 + 2))) → (∀ v10 : Int32, v10 = x4 + 1 → (rec x1 x2 v9 v10 r q)))))))))))
def wp_X11_zoneIn_5 (P : Int32 → RST → Prop) : Nat → Int32 → Int32 → Int32 → Int32 → (Nat → Int32) → (Nat → Nat → Int32) → Prop
  | 0 => fun _ _ _ _ _ _ => False
  | n + 1 => fun x1 x2 x3 x4 r q => wb_X11_zoneIn_5 (wp_X11_zoneIn_5  P n)  P x1 x2 x3 x4 r q
set_option maxRecDepth 100000 in
set_option maxHeartbeats 4000000 in
theorem t_X11_zoneIn_5 {p : Program} {l : Launch} {e : Env} {s : State} {m : MethodId} {args : Array Value} {below : List Frame} {meth : Method} {c : Code} {D : va_G} {A : Nat → Prop} {T : Nat → ClassId} {m0 : Nat} {a : Nat → Nat} (C : GC p s m args meth c cX11_zoneIn "FreightRaterModel" (ws_X11_zoneIn) 6 D A (zty T)) (hr : meth.sig.returnType = (some .int)) (P : Int32 → RST → Prop) : ∀ (n : Nat) (x1 : Int32) (x2 : Int32) (x3 : Int32) (x4 : Int32) (r : Nat → Int32) (q : Nat → Nat → Int32), wp_X11_zoneIn_5  P n x1 x2 x3 x4 r q → GW p l e rm_X11_zoneIn s m args below meth c D A 6 0 0 (MQ below (va_Qi P (RE D T m0 a A) A) args s 0 0 A) (RW m0 a T r q) 0 0 5 [(0, .ref m0), (1, .int x1), (2, .int x2), (3, .int x3), (4, .int x4)] [] := by
  have hw : ∀ {w : Cond}, w ∈ W0 → w.before args s = true := fun h => C.2.2.2.2.1 _ (List.mem_cons_of_mem _ h)
  intro n
  induction n with
  | zero => intro x1 x2 x3 x4 r q h; exact h.elim
  | succ n ih =>
    intro x1 x2 x3 x4 r q h
    replace h : wb_X11_zoneIn_5 (wp_X11_zoneIn_5  P n)  P x1 x2 x3 x4 r q := h
    unfold wb_X11_zoneIn_5 at h
    refine g_iload C dX11_zoneIn_5 4 rfl ?_
    refine g_aload_n C dX11_zoneIn_7 rfl 0 rfl ?_
    refine gr_get C iwx_X11 0 (hw kw_1809) (by decide) rfl rfl dX11_zoneIn_8 ?_
    refine g_iload_n C dX11_zoneIn_11 rfl 1 rfl ?_
    refine gr_callSf C [.int x1] rfl (k_X11_at l D T m0 a x1 r q) (w0_S 1 C.2.2.2.2.1 kw_1947 kw_1948 kw_9 kw_1949 rfl rfl (by decide +kernel) ⟨by decide, by decide⟩) rfl (Nat.le_of_ble_eq_true rfl) (Nat.zero_le _) (Nat.zero_le _) dX11_zoneIn_12 ?_
    refine g_iconst (v := 1) C dX11_zoneIn_15 (by decide) ?_
    refine g_iadd C dX11_zoneIn_16 ?_
    obtain ⟨g1, h⟩ := h
    refine gr_ald_0 C g1 dX11_zoneIn_17 ?_
    refine g_icmp_ge (tgt := 77) C dX11_zoneIn_18 (by decide) (fun z2 => ?_) (fun z2 => ?_)
    · replace h := h.1 z2
      refine g_iload_n C dX11_zoneIn_77 rfl 3 rfl ?_
      exact gr_iret C hr dX11_zoneIn_78 h
    · replace h := h.2 z2
      refine g_iload_n C dX11_zoneIn_21 rfl 1 rfl ?_
      refine gr_callSf C [.int x1] rfl (k_X11_at l D T m0 a x1 r q) (w0_S 1 C.2.2.2.2.1 kw_1947 kw_1948 kw_9 kw_1949 rfl rfl (by decide +kernel) ⟨by decide, by decide⟩) rfl (Nat.le_of_ble_eq_true rfl) (Nat.zero_le _) (Nat.zero_le _) dX11_zoneIn_22 ?_
      refine g_iconst (v := 2) C dX11_zoneIn_25 (by decide) ?_
      refine g_iadd C dX11_zoneIn_26 ?_
      refine g_iconst (v := 3) C dX11_zoneIn_27 (by decide) ?_
      refine g_iload C dX11_zoneIn_28 4 rfl ?_
      refine g_imul C dX11_zoneIn_30 ?_
      refine g_iadd C dX11_zoneIn_31 ?_
      refine g_topi (fun v3 ev3 => ?_)
      replace h := h v3 ev3
      refine g_istore (lv' := [(5, .int v3), (0, .ref m0), (1, .int x1), (2, .int x2), (3, .int x3), (4, .int x4)]) C dX11_zoneIn_32 (by decide) rfl ?_
      refine g_iload_n C dX11_zoneIn_34 rfl 3 rfl ?_
      refine g_aload_n C dX11_zoneIn_35 rfl 1 rfl ?_
      refine gr_get C iwx_X11 0 (hw kw_1809) (by decide) rfl rfl dX11_zoneIn_36 ?_
      refine g_iload C dX11_zoneIn_39 0 rfl ?_
      obtain ⟨g4, h⟩ := h
      refine gr_ald_0 C g4 dX11_zoneIn_41 ?_
      refine g_aload_n C dX11_zoneIn_42 rfl 1 rfl ?_
      refine gr_get C iwx_X11 0 (hw kw_1809) (by decide) rfl rfl dX11_zoneIn_43 ?_
      refine g_iload C dX11_zoneIn_46 0 rfl ?_
      refine g_iconst (v := 1) C dX11_zoneIn_48 (by decide) ?_
      refine g_iadd C dX11_zoneIn_49 ?_
      obtain ⟨g5, h⟩ := h
      refine gr_ald_0 C g5 dX11_zoneIn_50 ?_
      refine gr_callSf C [.int x2, .int (q 0 (Int32.toNatClampNeg v3)), .int (q 0 (Int32.toNatClampNeg (v3 + 1)))] rfl (k_X11_in l D T m0 a x2 (q 0 (Int32.toNatClampNeg v3)) (q 0 (Int32.toNatClampNeg (v3 + 1))) r q) (w0_S 3 C.2.2.2.2.1 kw_1944 kw_1945 kw_9 kw_1946 rfl rfl (by decide +kernel) ⟨by decide, by decide⟩) rfl (Nat.le_of_ble_eq_true rfl) (Nat.zero_le _) (Nat.zero_le _) dX11_zoneIn_51 ?_
      refine g_if_eq (tgt := 69) C dX11_zoneIn_54 (by decide) (fun z6 => ?_) (fun z6 => ?_)
      · replace h := h.1 z6
        refine g_iload_n C dX11_zoneIn_69 rfl 4 rfl ?_
        refine g_istore_n (lv' := [(3, .int x3), (5, .int v3), (0, .ref m0), (1, .int x1), (2, .int x2), (4, .int x4)]) C dX11_zoneIn_70 rfl (by decide) rfl ?_
        obtain ⟨v7, ev7⟩ : ∃ y : Int32, y = x4 + 1 := ⟨_, rfl⟩
        replace h := h v7 ev7
        refine g_iinc (v := v7) (lv' := [(4, .int v7), (3, .int x3), (5, .int v3), (0, .ref m0), (1, .int x1), (2, .int x2)]) C dX11_zoneIn_71 (j := 5) rfl (by rw [ev7]; rfl) (by decide) rfl ?_
        refine g_goto (tgt := 5) C dX11_zoneIn_74 (by decide) ?_
        refine g_locals [3, 4, 5, 1, 0] rfl ?_
        exact ih x1 x2 x3 v7 r q h
      · replace h := h.2 z6
        refine g_aload_n C dX11_zoneIn_57 rfl 1 rfl ?_
        refine gr_get C iwx_X11 0 (hw kw_1809) (by decide) rfl rfl dX11_zoneIn_58 ?_
        refine g_iload C dX11_zoneIn_61 0 rfl ?_
        refine g_iconst (v := 2) C dX11_zoneIn_63 (by decide) ?_
        refine g_iadd C dX11_zoneIn_64 ?_
        obtain ⟨g8, h⟩ := h
        refine gr_ald_0 C g8 dX11_zoneIn_65 ?_
        refine g_goto (tgt := 70) C dX11_zoneIn_66 (by decide) ?_
        refine g_topi (fun v9 ev9 => ?_)
        replace h := h v9 ev9
        refine g_istore_n (lv' := [(3, .int v9), (5, .int v3), (0, .ref m0), (1, .int x1), (2, .int x2), (4, .int x4)]) C dX11_zoneIn_70 rfl (by decide) rfl ?_
        obtain ⟨v10, ev10⟩ : ∃ y : Int32, y = x4 + 1 := ⟨_, rfl⟩
        replace h := h v10 ev10
        refine g_iinc (v := v10) (lv' := [(4, .int v10), (3, .int v9), (5, .int v3), (0, .ref m0), (1, .int x1), (2, .int x2)]) C dX11_zoneIn_71 (j := 5) rfl (by rw [ev10]; rfl) (by decide) rfl ?_
        refine g_goto (tgt := 5) C dX11_zoneIn_74 (by decide) ?_
        refine g_locals [3, 4, 5, 1, 0] rfl ?_
        exact ih x1 x2 v9 v10 r q h
def wp_X11_zoneIn (P : Int32 → RST → Prop) (p0 : Int32) (p1 : Int32) (r : Nat → Int32) (q : Nat → Nat → Int32) : Prop := ∃ k11 : Nat, wp_X11_zoneIn_5  P k11 p0 p1 0 0 r q
set_option maxRecDepth 100000 in
set_option maxHeartbeats 4000000 in
theorem t_X11_zoneIn {p : Program} {l : Launch} {e : Env} {s : State} {m : MethodId} {args : Array Value} {below : List Frame} {meth : Method} {c : Code} {D : va_G} {A : Nat → Prop} {T : Nat → ClassId} {m0 : Nat} {a : Nat → Nat} (C : GC p s m args meth c cX11_zoneIn "FreightRaterModel" (ws_X11_zoneIn) 6 D A (zty T)) (hr : meth.sig.returnType = (some .int)) (P : Int32 → RST → Prop) : ∀ (p0 : Int32) (p1 : Int32) (r : Nat → Int32) (q : Nat → Nat → Int32), wp_X11_zoneIn P p0 p1 r q → GW p l e rm_X11_zoneIn s m args below meth c D A 6 0 0 (MQ below (va_Qi P (RE D T m0 a A) A) args s 0 0 A) (RW m0 a T r q) 0 0 0 [(0, .ref m0), (1, .int p0), (2, .int p1)] [] := by
  have hw : ∀ {w : Cond}, w ∈ W0 → w.before args s = true := fun h => C.2.2.2.2.1 _ (List.mem_cons_of_mem _ h)
  intro p0 p1 r q h
  unfold wp_X11_zoneIn at h
  refine g_iconst (v := 0) C dX11_zoneIn_0 (by decide) ?_
  refine g_istore_n (lv' := [(3, .int 0), (0, .ref m0), (1, .int p0), (2, .int p1)]) C dX11_zoneIn_1 rfl (by decide) rfl ?_
  refine g_iconst (v := 0) C dX11_zoneIn_2 (by decide) ?_
  refine g_istore (lv' := [(4, .int 0), (3, .int 0), (0, .ref m0), (1, .int p0), (2, .int p1)]) C dX11_zoneIn_3 (by decide) rfl ?_
  refine g_locals [2, 3, 4, 1, 0] rfl ?_
  obtain ⟨k11, h⟩ := h
  refine t_X11_zoneIn_5 C hr  P  k11 p0 p1 0 0 r q h
theorem c_X11_zoneIn (l : Launch) (D : va_G) (T : Nat → ClassId) (m0 : Nat) (a : Nat → Nat) (p0 : Int32) (p1 : Int32) (r : Nat → Int32) (q : Nat → Nat → Int32) (P : Int32 → RST → Prop) (h : wp_X11_zoneIn P p0 p1 r q) : RMi l yX11_zoneIn (ws_X11_zoneIn) rm_X11_zoneIn D T m0 a [.ref m0, .int p0, .int p1] r q P := gr_meti (by decide) rfl rfl (Nat.le_of_ble_eq_true rfl) (fun p e s m args below meth c A C hr => t_X11_zoneIn C hr P p0 p1 r q h)
theorem rl_zoneIn {P : Int32 → RST → Prop} {r : Nat → Int32} {q : Nat → Nat → Int32} {v : Nat} (hv : v < 6) {place : Int32} {n0 : Nat} (hn0 : n0 ≤ 12) (hm : q 0 (274 + 510 * v + 1) = nI n0) : ∀ (k i fuel : Nat) (z : Int32), i + k = n0 → k < fuel → P (zFold (q 0) v place k i z) (r, q) → wp_X11_zoneIn_5 P fuel (nI v) place z (nI i) r q := by
  intro k
  induction k with
  | zero =>
    intro i fuel z hi hf hp
    obtain ⟨f, rfl⟩ : ∃ f, fuel = f + 1 := ⟨fuel - 1, by omega⟩
    rw [wp_X11_zoneIn_5]; unfold wb_X11_zoneIn_5
    simp (disch := omega) only [hm, li_2, li_3, li_4, li_5, li_6, li_7, li_8, li_9, li_10, li_12, li_14, li_20, li_26, li_30, li_31, li_36, li_38, li_47, li_48, li_50, li_57, li_58, li_80, li_98, li_99, li_100, li_102, li_104, li_105, li_108, li_109, li_110, li_114, li_115, li_119, li_122, li_137, li_146, li_147, li_148, li_149, li_150, li_200, li_255, li_256, li_274, li_510, li_512, li_640, li_999, li_1000, li_1024, li_3334, li_5000, li_9999, li_10000, li_23338, li_26672, li_30000, li_99999, li_150000, li_300000, pk_mul, nI_add, pk_sub, nI_clamp, nI_1, nI_p1, nI_a0, nI_0a, nI_m0, nI_m1, cl_0, cl_1, z01, z11, nI_leI, nI_ltI, nI_eq, nz_lt0, nz_le, nz_eq0, nz_pos, nz_le0, nz_eq1, nz_lt1, nz_ge1, nz_le1, nz_gt1, nz_vp, nz_vp0, nz_vp1, six_nI, vix_nI, bix_nI, pix_nI, fix_nI, gix_nI, rix_nI, zix_nI, pix_0, pix_1, bix_0, fix_0, fix_1, rix_1, true_and, and_true]
    exact ⟨by omega, fun _ => hp, fun h => absurd (by omega) h⟩
  | succ k ih =>
    intro i fuel z hi hf hp
    obtain ⟨f, rfl⟩ : ∃ f, fuel = f + 1 := ⟨fuel - 1, by omega⟩
    rw [wp_X11_zoneIn_5]; unfold wb_X11_zoneIn_5
    simp (disch := omega) only [li_2, li_3, li_4, li_5, li_6, li_7, li_8, li_9, li_10, li_12, li_14, li_20, li_26, li_30, li_31, li_36, li_38, li_47, li_48, li_50, li_57, li_58, li_80, li_98, li_99, li_100, li_102, li_104, li_105, li_108, li_109, li_110, li_114, li_115, li_119, li_122, li_137, li_146, li_147, li_148, li_149, li_150, li_200, li_255, li_256, li_274, li_510, li_512, li_640, li_999, li_1000, li_1024, li_3334, li_5000, li_9999, li_10000, li_23338, li_26672, li_30000, li_99999, li_150000, li_300000, pk_mul, nI_add, pk_sub, nI_clamp, nI_1, nI_p1, nI_a0, nI_0a, nI_m0, nI_m1, cl_0, cl_1, z01, z11]
    rw [hm]
    refine ⟨vp_in_nI (by omega) (by decide), fun h => absurd h (nI_ge (by omega) (by omega)), fun _ v3 e3 => ?_⟩
    subst e3
    simp (disch := omega) only [li_2, li_3, li_4, li_5, li_6, li_7, li_8, li_9, li_10, li_12, li_14, li_20, li_26, li_30, li_31, li_36, li_38, li_47, li_48, li_50, li_57, li_58, li_80, li_98, li_99, li_100, li_102, li_104, li_105, li_108, li_109, li_110, li_114, li_115, li_119, li_122, li_137, li_146, li_147, li_148, li_149, li_150, li_200, li_255, li_256, li_274, li_510, li_512, li_640, li_999, li_1000, li_1024, li_3334, li_5000, li_9999, li_10000, li_23338, li_26672, li_30000, li_99999, li_150000, li_300000, pk_mul, nI_add, pk_sub, nI_clamp, nI_1, nI_p1, nI_a0, nI_0a, nI_m0, nI_m1, cl_0, cl_1, z01, z11]
    refine ⟨vp_in_nI (by omega) (by decide), vp_in_nI (by omega) (by decide), fun h0 v7 e7 => ?_, fun h0 => ⟨vp_in_nI (by omega) (by decide), fun v9 e9 v10 e10 => ?_⟩⟩
    · subst e7
      refine ih (i + 1) f _ (by omega) (by omega) ?_
      have hp2 : P (zFold (q 0) v place k (i + 1) (if zin place (q 0 (274 + 510 * v + 2 + 3 * i)) (q 0 (274 + 510 * v + 2 + 3 * i + 1)) = 0 then z else q 0 (274 + 510 * v + 2 + 3 * i + 2))) (r, q) := hp
      rw [if_pos h0] at hp2
      exact hp2
    · subst e9 e10
      refine ih (i + 1) f _ (by omega) (by omega) ?_
      have hp2 : P (zFold (q 0) v place k (i + 1) (if zin place (q 0 (274 + 510 * v + 2 + 3 * i)) (q 0 (274 + 510 * v + 2 + 3 * i + 1)) = 0 then z else q 0 (274 + 510 * v + 2 + 3 * i + 2))) (r, q) := hp
      rw [if_neg h0] at hp2
      exact hp2
theorem k_X11_zoneIn (l : Launch) (D : va_G) (T : Nat → ClassId) (m0 : Nat) (a : Nat → Nat) (p0 : Int32) (p1 : Int32) (r : Nat → Int32) (q : Nat → Nat → Int32) (h : WF (q 0) ∧ vix p0) : RMi l yX11_zoneIn (ws_X11_zoneIn) rm_X11_zoneIn D T m0 a [.ref m0, .int p0, .int p1] r q (fun v u => v = (zIn (q 0) (iv p0) p1) ∧ u = (r, q)) := c_X11_zoneIn l D T m0 a p0 p1 r q _ <|
  (by
    obtain ⟨hw, ⟨v, hv, rfl⟩⟩ := h
    obtain ⟨n0, hn0, hm⟩ := hw.rng hv
    unfold wp_X11_zoneIn
    refine ⟨n0 + 1, ?_⟩
    refine rl_zoneIn (P := fun v_1 u => v_1 = zIn (q 0) (iv (nI v)) p1 ∧ u = (r, q)) hv hn0 hm n0 0 _ 0 (by omega) (by omega) ⟨?_, rfl⟩
    unfold zIn
    simp (disch := omega) only [nI_clamp, hm])
abbrev ws_X11_versionOf : List Cond := Cond.code yX11_versionOf cX11_versionOf 5 (some .int) :: W0
abbrev rm_X11_versionOf : Room := ({ frames := 1, cells := 0, slots := 0, locals := 20 } : Room)
def wp_X11_versionOf_34 (K4 : Int32 → Int32 → Int32 → (Nat → Int32) → (Nat → Nat → Int32) → Prop) (P : Int32 → RST → Prop) (x1 : Int32) (x2 : Int32) (x3 : Int32) (s0 : Int32) (r : Nat → Int32) (q : Nat → Nat → Int32) : Prop := (s0 = 0 → (∀ v6 : Int32, v6 = x3 + 1 → (K4 x1 x2 v6 r q))) ∧ (¬ s0 = 0 → ((x2 < 0 → (∀ v8 : Int32, v8 = x3 + 1 → (K4 x1 x3 v8 r q))) ∧ (¬ x2 < 0 → (vp_in ((274 + 510 * x3) + 0) 3334 ∧ (vp_in ((274 + 510 * x2) + 0) 3334 ∧ (((q 0 (Int32.toNatClampNeg ((274 + 510 * x3) + 0))) ≤ (q 0 (Int32.toNatClampNeg ((274 + 510 * x2) + 0))) → (∀ v12 : Int32, v12 = x3 + 1 → (K4 x1 x2 v12 r q))) ∧ (¬ (q 0 (Int32.toNatClampNeg ((274 + 510 * x3) + 0))) ≤ (q 0 (Int32.toNatClampNeg ((274 + 510 * x2) + 0))) → (∀ v13 : Int32, v13 = x3 + 1 → (K4 x1 x3 v13 r q)))))))))
set_option maxRecDepth 100000 in
set_option maxHeartbeats 4000000 in
theorem t_X11_versionOf_34 {p : Program} {l : Launch} {e : Env} {s : State} {m : MethodId} {args : Array Value} {below : List Frame} {meth : Method} {c : Code} {D : va_G} {A : Nat → Prop} {T : Nat → ClassId} {m0 : Nat} {a : Nat → Nat} (C : GC p s m args meth c cX11_versionOf "FreightRaterModel" (ws_X11_versionOf) 5 D A (zty T)) (hr : meth.sig.returnType = (some .int)) (K4 : Int32 → Int32 → Int32 → (Nat → Int32) → (Nat → Nat → Int32) → Prop) (P : Int32 → RST → Prop) (hK4 : ∀ (x1 : Int32) (x2 : Int32) (x3 : Int32) (r : Nat → Int32) (q : Nat → Nat → Int32), K4 x1 x2 x3 r q → GW p l e rm_X11_versionOf s m args below meth c D A 5 0 0 (MQ below (va_Qi P (RE D T m0 a A) A) args s 0 0 A) (RW m0 a T r q) 0 0 4 [(0, .ref m0), (1, .int x1), (2, .int x2), (3, .int x3)] []) : ∀ (x1 : Int32) (x2 : Int32) (x3 : Int32) (s0 : Int32) (r : Nat → Int32) (q : Nat → Nat → Int32), wp_X11_versionOf_34 K4 P x1 x2 x3 s0 r q → GW p l e rm_X11_versionOf s m args below meth c D A 5 0 0 (MQ below (va_Qi P (RE D T m0 a A) A) args s 0 0 A) (RW m0 a T r q) 0 0 34 [(0, .ref m0), (1, .int x1), (2, .int x2), (3, .int x3)] [.int s0] := by
  have hw : ∀ {w : Cond}, w ∈ W0 → w.before args s = true := fun h => C.2.2.2.2.1 _ (List.mem_cons_of_mem _ h)
  intro x1 x2 x3 s0 r q h
  unfold wp_X11_versionOf_34 at h
  refine g_istore (lv' := [(4, .int s0), (0, .ref m0), (1, .int x1), (2, .int x2), (3, .int x3)]) C dX11_versionOf_34 (by decide) rfl ?_
  refine g_iload C dX11_versionOf_36 0 rfl ?_
  refine g_if_eq (tgt := 74) C dX11_versionOf_38 (by decide) (fun z5 => ?_) (fun z5 => ?_)
  · replace h := h.1 z5
    refine g_iload_n C dX11_versionOf_74 rfl 3 rfl ?_
    refine g_istore_n (lv' := [(2, .int x2), (4, .int s0), (0, .ref m0), (1, .int x1), (3, .int x3)]) C dX11_versionOf_75 rfl (by decide) rfl ?_
    obtain ⟨v6, ev6⟩ : ∃ y : Int32, y = x3 + 1 := ⟨_, rfl⟩
    replace h := h v6 ev6
    refine g_iinc (v := v6) (lv' := [(3, .int v6), (2, .int x2), (4, .int s0), (0, .ref m0), (1, .int x1)]) C dX11_versionOf_76 (j := 4) rfl (by rw [ev6]; rfl) (by decide) rfl ?_
    refine g_goto (tgt := 4) C dX11_versionOf_79 (by decide) ?_
    refine g_locals [3, 4, 1, 0] rfl ?_
    exact hK4 x1 x2 v6 r q h
  · replace h := h.2 z5
    refine g_iload_n C dX11_versionOf_41 rfl 3 rfl ?_
    refine g_if_lt (tgt := 70) C dX11_versionOf_42 (by decide) (fun z7 => ?_) (fun z7 => ?_)
    · replace h := h.1 z7
      refine g_iload_n C dX11_versionOf_70 rfl 4 rfl ?_
      refine g_goto (tgt := 75) C dX11_versionOf_71 (by decide) ?_
      refine g_istore_n (lv' := [(2, .int x3), (4, .int s0), (0, .ref m0), (1, .int x1), (3, .int x3)]) C dX11_versionOf_75 rfl (by decide) rfl ?_
      obtain ⟨v8, ev8⟩ : ∃ y : Int32, y = x3 + 1 := ⟨_, rfl⟩
      replace h := h v8 ev8
      refine g_iinc (v := v8) (lv' := [(3, .int v8), (2, .int x3), (4, .int s0), (0, .ref m0), (1, .int x1)]) C dX11_versionOf_76 (j := 4) rfl (by rw [ev8]; rfl) (by decide) rfl ?_
      refine g_goto (tgt := 4) C dX11_versionOf_79 (by decide) ?_
      refine g_locals [3, 4, 1, 0] rfl ?_
      exact hK4 x1 x3 v8 r q h
    · replace h := h.2 z7
      refine g_aload_n C dX11_versionOf_45 rfl 1 rfl ?_
      refine gr_get C iwx_X11 0 (hw kw_1809) (by decide) rfl rfl dX11_versionOf_46 ?_
      refine g_iload_n C dX11_versionOf_49 rfl 4 rfl ?_
      refine gr_callSf C [.int x3] rfl (k_X11_at l D T m0 a x3 r q) (w0_S 1 C.2.2.2.2.1 kw_1947 kw_1948 kw_9 kw_1949 rfl rfl (by decide +kernel) ⟨by decide, by decide⟩) rfl (Nat.le_of_ble_eq_true rfl) (Nat.zero_le _) (Nat.zero_le _) dX11_versionOf_50 ?_
      refine g_iconst (v := 0) C dX11_versionOf_53 (by decide) ?_
      refine g_iadd C dX11_versionOf_54 ?_
      obtain ⟨g9, h⟩ := h
      refine gr_ald_0 C g9 dX11_versionOf_55 ?_
      refine g_aload_n C dX11_versionOf_56 rfl 1 rfl ?_
      refine gr_get C iwx_X11 0 (hw kw_1809) (by decide) rfl rfl dX11_versionOf_57 ?_
      refine g_iload_n C dX11_versionOf_60 rfl 3 rfl ?_
      refine gr_callSf C [.int x2] rfl (k_X11_at l D T m0 a x2 r q) (w0_S 1 C.2.2.2.2.1 kw_1947 kw_1948 kw_9 kw_1949 rfl rfl (by decide +kernel) ⟨by decide, by decide⟩) rfl (Nat.le_of_ble_eq_true rfl) (Nat.zero_le _) (Nat.zero_le _) dX11_versionOf_61 ?_
      refine g_iconst (v := 0) C dX11_versionOf_64 (by decide) ?_
      refine g_iadd C dX11_versionOf_65 ?_
      obtain ⟨g10, h⟩ := h
      refine gr_ald_0 C g10 dX11_versionOf_66 ?_
      refine g_icmp_le (tgt := 74) C dX11_versionOf_67 (by decide) (fun z11 => ?_) (fun z11 => ?_)
      · replace h := h.1 z11
        refine g_iload_n C dX11_versionOf_74 rfl 3 rfl ?_
        refine g_istore_n (lv' := [(2, .int x2), (4, .int s0), (0, .ref m0), (1, .int x1), (3, .int x3)]) C dX11_versionOf_75 rfl (by decide) rfl ?_
        obtain ⟨v12, ev12⟩ : ∃ y : Int32, y = x3 + 1 := ⟨_, rfl⟩
        replace h := h v12 ev12
        refine g_iinc (v := v12) (lv' := [(3, .int v12), (2, .int x2), (4, .int s0), (0, .ref m0), (1, .int x1)]) C dX11_versionOf_76 (j := 4) rfl (by rw [ev12]; rfl) (by decide) rfl ?_
        refine g_goto (tgt := 4) C dX11_versionOf_79 (by decide) ?_
        refine g_locals [3, 4, 1, 0] rfl ?_
        exact hK4 x1 x2 v12 r q h
      · replace h := h.2 z11
        refine g_iload_n C dX11_versionOf_70 rfl 4 rfl ?_
        refine g_goto (tgt := 75) C dX11_versionOf_71 (by decide) ?_
        refine g_istore_n (lv' := [(2, .int x3), (4, .int s0), (0, .ref m0), (1, .int x1), (3, .int x3)]) C dX11_versionOf_75 rfl (by decide) rfl ?_
        obtain ⟨v13, ev13⟩ : ∃ y : Int32, y = x3 + 1 := ⟨_, rfl⟩
        replace h := h v13 ev13
        refine g_iinc (v := v13) (lv' := [(3, .int v13), (2, .int x3), (4, .int s0), (0, .ref m0), (1, .int x1)]) C dX11_versionOf_76 (j := 4) rfl (by rw [ev13]; rfl) (by decide) rfl ?_
        refine g_goto (tgt := 4) C dX11_versionOf_79 (by decide) ?_
        refine g_locals [3, 4, 1, 0] rfl ?_
        exact hK4 x1 x3 v13 r q h
def wb_X11_versionOf_4 (rec : Int32 → Int32 → Int32 → (Nat → Int32) → (Nat → Nat → Int32) → Prop) (P : Int32 → RST → Prop) (x1 : Int32) (x2 : Int32) (x3 : Int32) (r : Nat → Int32) (q : Nat → Nat → Int32) : Prop := vp_in 0 3334 ∧ (((q 0 (Int32.toNatClampNeg 0)) ≤ x3 → (P x2 (r, q))) ∧ (¬ (q 0 (Int32.toNatClampNeg 0)) ≤ x3 → (vp_in ((274 + 510 * x3) + 0) 3334 ∧ ((x1 < (q 0 (Int32.toNatClampNeg ((274 + 510 * x3) + 0))) → (wp_X11_versionOf_34 (fun (y14 : Int32) (y15 : Int32) (y16 : Int32) (r17 : Nat → Int32) (q18 : Nat → Nat → Int32) => rec y14 y15 y16 r17 q18) P x1 x2 x3 0 r q)) ∧ (¬ x1 < (q 0 (Int32.toNatClampNeg ((274 + 510 * x3) + 0))) → (wp_X11_versionOf_34 (fun (y19 : Int32) (y20 : Int32) (y21 : Int32) (r22 : Nat → Int32) (q23 : Nat → Nat → Int32) => rec y19 y20 y21 r22 q23) P x1 x2 x3 1 r q))))))
def wp_X11_versionOf_4 (P : Int32 → RST → Prop) : Nat → Int32 → Int32 → Int32 → (Nat → Int32) → (Nat → Nat → Int32) → Prop
  | 0 => fun _ _ _ _ _ => False
  | n + 1 => fun x1 x2 x3 r q => wb_X11_versionOf_4 (wp_X11_versionOf_4  P n)  P x1 x2 x3 r q
set_option maxRecDepth 100000 in
set_option maxHeartbeats 4000000 in
theorem t_X11_versionOf_4 {p : Program} {l : Launch} {e : Env} {s : State} {m : MethodId} {args : Array Value} {below : List Frame} {meth : Method} {c : Code} {D : va_G} {A : Nat → Prop} {T : Nat → ClassId} {m0 : Nat} {a : Nat → Nat} (C : GC p s m args meth c cX11_versionOf "FreightRaterModel" (ws_X11_versionOf) 5 D A (zty T)) (hr : meth.sig.returnType = (some .int)) (P : Int32 → RST → Prop) : ∀ (n : Nat) (x1 : Int32) (x2 : Int32) (x3 : Int32) (r : Nat → Int32) (q : Nat → Nat → Int32), wp_X11_versionOf_4  P n x1 x2 x3 r q → GW p l e rm_X11_versionOf s m args below meth c D A 5 0 0 (MQ below (va_Qi P (RE D T m0 a A) A) args s 0 0 A) (RW m0 a T r q) 0 0 4 [(0, .ref m0), (1, .int x1), (2, .int x2), (3, .int x3)] [] := by
  have hw : ∀ {w : Cond}, w ∈ W0 → w.before args s = true := fun h => C.2.2.2.2.1 _ (List.mem_cons_of_mem _ h)
  intro n
  induction n with
  | zero => intro x1 x2 x3 r q h; exact h.elim
  | succ n ih =>
    intro x1 x2 x3 r q h
    replace h : wb_X11_versionOf_4 (wp_X11_versionOf_4  P n)  P x1 x2 x3 r q := h
    unfold wb_X11_versionOf_4 at h
    refine g_iload_n C dX11_versionOf_4 rfl 3 rfl ?_
    refine g_aload_n C dX11_versionOf_5 rfl 0 rfl ?_
    refine gr_get C iwx_X11 0 (hw kw_1809) (by decide) rfl rfl dX11_versionOf_6 ?_
    refine g_iconst (v := 0) C dX11_versionOf_9 (by decide) ?_
    obtain ⟨g1, h⟩ := h
    refine gr_ald_0 C g1 dX11_versionOf_10 ?_
    refine g_icmp_ge (tgt := 82) C dX11_versionOf_11 (by decide) (fun z2 => ?_) (fun z2 => ?_)
    · replace h := h.1 z2
      refine g_iload_n C dX11_versionOf_82 rfl 2 rfl ?_
      exact gr_iret C hr dX11_versionOf_83 h
    · replace h := h.2 z2
      refine g_aload_n C dX11_versionOf_14 rfl 0 rfl ?_
      refine gr_get C iwx_X11 0 (hw kw_1809) (by decide) rfl rfl dX11_versionOf_15 ?_
      refine g_iload_n C dX11_versionOf_18 rfl 3 rfl ?_
      refine gr_callSf C [.int x3] rfl (k_X11_at l D T m0 a x3 r q) (w0_S 1 C.2.2.2.2.1 kw_1947 kw_1948 kw_9 kw_1949 rfl rfl (by decide +kernel) ⟨by decide, by decide⟩) rfl (Nat.le_of_ble_eq_true rfl) (Nat.zero_le _) (Nat.zero_le _) dX11_versionOf_19 ?_
      refine g_iconst (v := 0) C dX11_versionOf_22 (by decide) ?_
      refine g_iadd C dX11_versionOf_23 ?_
      obtain ⟨g3, h⟩ := h
      refine gr_ald_0 C g3 dX11_versionOf_24 ?_
      refine g_iload_n C dX11_versionOf_25 rfl 1 rfl ?_
      refine g_icmp_gt (tgt := 33) C dX11_versionOf_26 (by decide) (fun z4 => ?_) (fun z4 => ?_)
      · replace h := h.1 z4
        refine g_iconst (v := 0) C dX11_versionOf_33 (by decide) ?_
        refine g_locals [0, 1, 2, 3] rfl ?_
        refine t_X11_versionOf_34 C hr _ P ?_ x1 x2 x3 0 r q h
        · intro y14 y15 y16 r17 q18 h
          refine g_locals [0, 1, 2, 3] rfl ?_
          exact ih y14 y15 y16 r17 q18 h
      · replace h := h.2 z4
        refine g_iconst (v := 1) C dX11_versionOf_29 (by decide) ?_
        refine g_goto (tgt := 34) C dX11_versionOf_30 (by decide) ?_
        refine g_locals [0, 1, 2, 3] rfl ?_
        refine t_X11_versionOf_34 C hr _ P ?_ x1 x2 x3 1 r q h
        · intro y19 y20 y21 r22 q23 h
          refine g_locals [0, 1, 2, 3] rfl ?_
          exact ih y19 y20 y21 r22 q23 h
def wp_X11_versionOf (P : Int32 → RST → Prop) (p0 : Int32) (r : Nat → Int32) (q : Nat → Nat → Int32) : Prop := ∃ k24 : Nat, wp_X11_versionOf_4  P k24 p0 (-1) 0 r q
set_option maxRecDepth 100000 in
set_option maxHeartbeats 4000000 in
theorem t_X11_versionOf {p : Program} {l : Launch} {e : Env} {s : State} {m : MethodId} {args : Array Value} {below : List Frame} {meth : Method} {c : Code} {D : va_G} {A : Nat → Prop} {T : Nat → ClassId} {m0 : Nat} {a : Nat → Nat} (C : GC p s m args meth c cX11_versionOf "FreightRaterModel" (ws_X11_versionOf) 5 D A (zty T)) (hr : meth.sig.returnType = (some .int)) (P : Int32 → RST → Prop) : ∀ (p0 : Int32) (r : Nat → Int32) (q : Nat → Nat → Int32), wp_X11_versionOf P p0 r q → GW p l e rm_X11_versionOf s m args below meth c D A 5 0 0 (MQ below (va_Qi P (RE D T m0 a A) A) args s 0 0 A) (RW m0 a T r q) 0 0 0 [(0, .ref m0), (1, .int p0)] [] := by
  have hw : ∀ {w : Cond}, w ∈ W0 → w.before args s = true := fun h => C.2.2.2.2.1 _ (List.mem_cons_of_mem _ h)
  intro p0 r q h
  unfold wp_X11_versionOf at h
  refine g_iconst (v := -1) C dX11_versionOf_0 (by decide) ?_
  refine g_istore_n (lv' := [(2, .int (-1)), (0, .ref m0), (1, .int p0)]) C dX11_versionOf_1 rfl (by decide) rfl ?_
  refine g_iconst (v := 0) C dX11_versionOf_2 (by decide) ?_
  refine g_istore_n (lv' := [(3, .int 0), (2, .int (-1)), (0, .ref m0), (1, .int p0)]) C dX11_versionOf_3 rfl (by decide) rfl ?_
  refine g_locals [2, 3, 1, 0] rfl ?_
  obtain ⟨k24, h⟩ := h
  refine t_X11_versionOf_4 C hr  P  k24 p0 (-1) 0 r q h
theorem c_X11_versionOf (l : Launch) (D : va_G) (T : Nat → ClassId) (m0 : Nat) (a : Nat → Nat) (p0 : Int32) (r : Nat → Int32) (q : Nat → Nat → Int32) (P : Int32 → RST → Prop) (h : wp_X11_versionOf P p0 r q) : RMi l yX11_versionOf (ws_X11_versionOf) rm_X11_versionOf D T m0 a [.ref m0, .int p0] r q P := gr_meti (by decide) rfl rfl (Nat.le_of_ble_eq_true rfl) (fun p e s m args below meth c A C hr => t_X11_versionOf C hr P p0 r q h)
theorem nI_m1lt : ((-1 : Int32) < 0) := by decide
theorem vk_step {K : Int32 → Int32 → Int32 → (Nat → Int32) → (Nat → Nat → Int32) → Prop} {P : Int32 → RST → Prop} {r : Nat → Int32} {q : Nat → Nat → Int32} {day b : Int32} {v n0 : Nat} (hv : v < n0) (hn0 : n0 ≤ 6) (hb : b = -1 ∨ ∃ j, j < v ∧ b = nI j) (hK : K day (if q 0 (274 + 510 * v) ≤ day ∧ (b < 0 ∨ q 0 (274 + 510 * iv b) < q 0 (274 + 510 * v)) then nI v else b) (nI (v + 1)) r q) : (day < q 0 (274 + 510 * v) → wp_X11_versionOf_34 K P day b (nI v) 0 r q) ∧ (¬ day < q 0 (274 + 510 * v) → wp_X11_versionOf_34 K P day b (nI v) 1 r q) := by
  have e0 : 274 + 510 * v + 0 = 274 + 510 * v := rfl
  refine ⟨fun z => ?_, fun z => ?_⟩
  · unfold wp_X11_versionOf_34
    refine ⟨fun _ v6 e6 => ?_, fun h => absurd rfl h⟩
    subst e6
    simp (disch := omega) only [li_2, li_3, li_4, li_5, li_6, li_7, li_8, li_9, li_10, li_12, li_14, li_20, li_26, li_30, li_31, li_36, li_38, li_47, li_48, li_50, li_57, li_58, li_80, li_98, li_99, li_100, li_102, li_104, li_105, li_108, li_109, li_110, li_114, li_115, li_119, li_122, li_137, li_146, li_147, li_148, li_149, li_150, li_200, li_255, li_256, li_274, li_510, li_512, li_640, li_999, li_1000, li_1024, li_3334, li_5000, li_9999, li_10000, li_23338, li_26672, li_30000, li_99999, li_150000, li_300000, pk_mul, nI_add, pk_sub, nI_clamp, nI_1, nI_p1, nI_a0, nI_0a, nI_m0, nI_m1, cl_0, cl_1, z01, z11]
    rw [if_neg (fun h => absurd z (Int32.not_lt.mpr h.1))] at hK
    exact hK
  · have z' := Int32.not_lt.mp z
    unfold wp_X11_versionOf_34
    refine ⟨fun h => absurd h (by decide), fun _ => ⟨fun h2 v8 e8 => ?_, fun h2 => ?_⟩⟩
    · subst e8
      simp (disch := omega) only [li_2, li_3, li_4, li_5, li_6, li_7, li_8, li_9, li_10, li_12, li_14, li_20, li_26, li_30, li_31, li_36, li_38, li_47, li_48, li_50, li_57, li_58, li_80, li_98, li_99, li_100, li_102, li_104, li_105, li_108, li_109, li_110, li_114, li_115, li_119, li_122, li_137, li_146, li_147, li_148, li_149, li_150, li_200, li_255, li_256, li_274, li_510, li_512, li_640, li_999, li_1000, li_1024, li_3334, li_5000, li_9999, li_10000, li_23338, li_26672, li_30000, li_99999, li_150000, li_300000, pk_mul, nI_add, pk_sub, nI_clamp, nI_1, nI_p1, nI_a0, nI_0a, nI_m0, nI_m1, cl_0, cl_1, z01, z11]
      rw [if_pos ⟨z', Or.inl h2⟩] at hK
      exact hK
    · rcases hb with hb | ⟨j, hj, hb⟩
      · exact absurd (by rw [hb]; exact nI_m1lt) h2
      · subst hb
        rw [show iv (nI j) = j from nI_clamp (by omega)] at hK
        simp (disch := omega) only [li_2, li_3, li_4, li_5, li_6, li_7, li_8, li_9, li_10, li_12, li_14, li_20, li_26, li_30, li_31, li_36, li_38, li_47, li_48, li_50, li_57, li_58, li_80, li_98, li_99, li_100, li_102, li_104, li_105, li_108, li_109, li_110, li_114, li_115, li_119, li_122, li_137, li_146, li_147, li_148, li_149, li_150, li_200, li_255, li_256, li_274, li_510, li_512, li_640, li_999, li_1000, li_1024, li_3334, li_5000, li_9999, li_10000, li_23338, li_26672, li_30000, li_99999, li_150000, li_300000, pk_mul, nI_add, pk_sub, nI_clamp, nI_1, nI_p1, nI_a0, nI_0a, nI_m0, nI_m1, cl_0, cl_1, z01, z11]
        refine ⟨vp_in_nI (by omega) (by decide), vp_in_nI (by omega) (by decide), fun h3 v12 e12 => ?_, fun h3 v13 e13 => ?_⟩
        · subst e12
          rw [if_neg (fun h => h.2.elim (fun h4 => h2 h4) (fun h4 => absurd h4 (Int32.not_lt.mpr h3)))] at hK
          exact hK
        · subst e13
          rw [if_pos ⟨z', Or.inr (Int32.not_le.mp h3)⟩] at hK
          exact hK
theorem rl_versionOf {P : Int32 → RST → Prop} {r : Nat → Int32} {q : Nat → Nat → Int32} {day : Int32} {n0 : Nat} (hn0 : n0 ≤ 6) (hm : q 0 0 = nI n0) : ∀ (k v fuel : Nat) (b : Int32), v + k = n0 → k < fuel → (b = -1 ∨ ∃ j, j < v ∧ b = nI j) → P (vFold (q 0) day k v b) (r, q) → wp_X11_versionOf_4 P fuel day b (nI v) r q := by
  intro k
  induction k with
  | zero =>
    intro v fuel b hv hf hb hp
    obtain ⟨f, rfl⟩ : ∃ f, fuel = f + 1 := ⟨fuel - 1, by omega⟩
    rw [wp_X11_versionOf_4]; unfold wb_X11_versionOf_4
    simp (disch := omega) only [hm, li_2, li_3, li_4, li_5, li_6, li_7, li_8, li_9, li_10, li_12, li_14, li_20, li_26, li_30, li_31, li_36, li_38, li_47, li_48, li_50, li_57, li_58, li_80, li_98, li_99, li_100, li_102, li_104, li_105, li_108, li_109, li_110, li_114, li_115, li_119, li_122, li_137, li_146, li_147, li_148, li_149, li_150, li_200, li_255, li_256, li_274, li_510, li_512, li_640, li_999, li_1000, li_1024, li_3334, li_5000, li_9999, li_10000, li_23338, li_26672, li_30000, li_99999, li_150000, li_300000, pk_mul, nI_add, pk_sub, nI_clamp, nI_1, nI_p1, nI_a0, nI_0a, nI_m0, nI_m1, cl_0, cl_1, z01, z11, nI_leI, nI_ltI, nI_eq, nz_lt0, nz_le, nz_eq0, nz_pos, nz_le0, nz_eq1, nz_lt1, nz_ge1, nz_le1, nz_gt1, nz_vp, nz_vp0, nz_vp1, six_nI, vix_nI, bix_nI, pix_nI, fix_nI, gix_nI, rix_nI, zix_nI, pix_0, pix_1, bix_0, fix_0, fix_1, rix_1, true_and, and_true]
    exact ⟨by omega, fun _ => hp, fun h => absurd (by omega) h⟩
  | succ k ih =>
    intro v fuel b hv hf hb hp
    obtain ⟨f, rfl⟩ : ∃ f, fuel = f + 1 := ⟨fuel - 1, by omega⟩
    rw [wp_X11_versionOf_4]; unfold wb_X11_versionOf_4
    simp (disch := omega) only [hm, li_2, li_3, li_4, li_5, li_6, li_7, li_8, li_9, li_10, li_12, li_14, li_20, li_26, li_30, li_31, li_36, li_38, li_47, li_48, li_50, li_57, li_58, li_80, li_98, li_99, li_100, li_102, li_104, li_105, li_108, li_109, li_110, li_114, li_115, li_119, li_122, li_137, li_146, li_147, li_148, li_149, li_150, li_200, li_255, li_256, li_274, li_510, li_512, li_640, li_999, li_1000, li_1024, li_3334, li_5000, li_9999, li_10000, li_23338, li_26672, li_30000, li_99999, li_150000, li_300000, pk_mul, nI_add, pk_sub, nI_clamp, nI_1, nI_p1, nI_a0, nI_0a, nI_m0, nI_m1, cl_0, cl_1, z01, z11, nI_leI, nI_ltI, nI_eq, nz_lt0, nz_le, nz_eq0, nz_pos, nz_le0, nz_eq1, nz_lt1, nz_ge1, nz_le1, nz_gt1, nz_vp, nz_vp0, nz_vp1, six_nI, vix_nI, bix_nI, pix_nI, fix_nI, gix_nI, rix_nI, zix_nI, pix_0, pix_1, bix_0, fix_0, fix_1, rix_1, true_and, and_true]
    refine ⟨by omega, fun h => absurd h (by omega), fun _ => ⟨by omega, ?_⟩⟩
    refine vk_step (n0 := n0) (by omega) hn0 hb ?_
    refine ih (v + 1) f _ (by omega) (by omega) ?_ hp
    split
    · exact Or.inr ⟨v, by omega, rfl⟩
    · rcases hb with hb | ⟨j, hj, hb⟩
      · exact Or.inl hb
      · exact Or.inr ⟨j, by omega, hb⟩
theorem k_X11_versionOf (l : Launch) (D : va_G) (T : Nat → ClassId) (m0 : Nat) (a : Nat → Nat) (p0 : Int32) (r : Nat → Int32) (q : Nat → Nat → Int32) (h : WF (q 0)) : RMi l yX11_versionOf (ws_X11_versionOf) rm_X11_versionOf D T m0 a [.ref m0, .int p0] r q (fun v u => v = (vOf (q 0) p0) ∧ u = (r, q)) := c_X11_versionOf l D T m0 a p0 r q _ <|
  (by
    obtain ⟨n0, hn0, hm⟩ := h.1
    unfold wp_X11_versionOf
    refine ⟨n0 + 1, ?_⟩
    refine rl_versionOf (P := fun v_1 u => v_1 = vOf (q 0) p0 ∧ u = (r, q)) hn0 hm n0 0 _ (-1) (by omega) (by omega) (Or.inl rfl) ⟨?_, rfl⟩
    unfold vOf
    rw [hm, show iv (nI n0) = n0 from nI_clamp (by omega)])
abbrev ws_X11_allBreaks : List Cond := Cond.code yX11_allBreaks cX11_allBreaks 4 (some .int) :: W0
abbrev rm_X11_allBreaks : Room := ({ frames := 1, cells := 0, slots := 0, locals := 20 } : Room)
def wb_X11_allBreaks_4 (rec : Int32 → Int32 → Int32 → (Nat → Int32) → (Nat → Nat → Int32) → Prop) (P : Int32 → RST → Prop) (x1 : Int32) (x2 : Int32) (x3 : Int32) (r : Nat → Int32) (q : Nat → Nat → Int32) : Prop := (9 ≤ x3 → (P x2 (r, q))) ∧ (¬ 9 ≤ x3 → (vp_in (((274 + 510 * x1) + 38) + x3) 3334 ∧ (∀ v3 : Int32, v3 = (x2 + (q 0 (Int32.toNatClampNeg (((274 + 510 * x1) + 38) + x3)))) → (∀ v4 : Int32, v4 = x3 + 1 → (rec x1 v3 v4 r q)))))
def wp_X11_allBreaks_4 (P : Int32 → RST → Prop) : Nat → Int32 → Int32 → Int32 → (Nat → Int32) → (Nat → Nat → Int32) → Prop
  | 0 => fun _ _ _ _ _ => False
  | n + 1 => fun x1 x2 x3 r q => wb_X11_allBreaks_4 (wp_X11_allBreaks_4  P n)  P x1 x2 x3 r q
set_option maxRecDepth 100000 in
set_option maxHeartbeats 4000000 in
theorem t_X11_allBreaks_4 {p : Program} {l : Launch} {e : Env} {s : State} {m : MethodId} {args : Array Value} {below : List Frame} {meth : Method} {c : Code} {D : va_G} {A : Nat → Prop} {T : Nat → ClassId} {m0 : Nat} {a : Nat → Nat} (C : GC p s m args meth c cX11_allBreaks "FreightRaterModel" (ws_X11_allBreaks) 4 D A (zty T)) (hr : meth.sig.returnType = (some .int)) (P : Int32 → RST → Prop) : ∀ (n : Nat) (x1 : Int32) (x2 : Int32) (x3 : Int32) (r : Nat → Int32) (q : Nat → Nat → Int32), wp_X11_allBreaks_4  P n x1 x2 x3 r q → GW p l e rm_X11_allBreaks s m args below meth c D A 4 0 0 (MQ below (va_Qi P (RE D T m0 a A) A) args s 0 0 A) (RW m0 a T r q) 0 0 4 [(0, .ref m0), (1, .int x1), (2, .int x2), (3, .int x3)] [] := by
  have hw : ∀ {w : Cond}, w ∈ W0 → w.before args s = true := fun h => C.2.2.2.2.1 _ (List.mem_cons_of_mem _ h)
  intro n
  induction n with
  | zero => intro x1 x2 x3 r q h; exact h.elim
  | succ n ih =>
    intro x1 x2 x3 r q h
    replace h : wb_X11_allBreaks_4 (wp_X11_allBreaks_4  P n)  P x1 x2 x3 r q := h
    unfold wb_X11_allBreaks_4 at h
    refine g_iload_n C dX11_allBreaks_4 rfl 3 rfl ?_
    refine g_bipush (v := 9) C dX11_allBreaks_5 (by decide) ?_
    refine g_icmp_ge (tgt := 33) C dX11_allBreaks_7 (by decide) (fun z1 => ?_) (fun z1 => ?_)
    · replace h := h.1 z1
      refine g_iload_n C dX11_allBreaks_33 rfl 2 rfl ?_
      exact gr_iret C hr dX11_allBreaks_34 h
    · replace h := h.2 z1
      refine g_iload_n C dX11_allBreaks_10 rfl 2 rfl ?_
      refine g_aload_n C dX11_allBreaks_11 rfl 0 rfl ?_
      refine gr_get C iwx_X11 0 (hw kw_1809) (by decide) rfl rfl dX11_allBreaks_12 ?_
      refine g_iload_n C dX11_allBreaks_15 rfl 1 rfl ?_
      refine gr_callSf C [.int x1] rfl (k_X11_at l D T m0 a x1 r q) (w0_S 1 C.2.2.2.2.1 kw_1947 kw_1948 kw_9 kw_1949 rfl rfl (by decide +kernel) ⟨by decide, by decide⟩) rfl (Nat.le_of_ble_eq_true rfl) (Nat.zero_le _) (Nat.zero_le _) dX11_allBreaks_16 ?_
      refine g_bipush (v := 38) C dX11_allBreaks_19 (by decide) ?_
      refine g_iadd C dX11_allBreaks_21 ?_
      refine g_iload_n C dX11_allBreaks_22 rfl 3 rfl ?_
      refine g_iadd C dX11_allBreaks_23 ?_
      obtain ⟨g2, h⟩ := h
      refine gr_ald_0 C g2 dX11_allBreaks_24 ?_
      refine g_iadd C dX11_allBreaks_25 ?_
      refine g_topi (fun v3 ev3 => ?_)
      replace h := h v3 ev3
      refine g_istore_n (lv' := [(2, .int v3), (0, .ref m0), (1, .int x1), (3, .int x3)]) C dX11_allBreaks_26 rfl (by decide) rfl ?_
      obtain ⟨v4, ev4⟩ : ∃ y : Int32, y = x3 + 1 := ⟨_, rfl⟩
      replace h := h v4 ev4
      refine g_iinc (v := v4) (lv' := [(3, .int v4), (2, .int v3), (0, .ref m0), (1, .int x1)]) C dX11_allBreaks_27 (j := 3) rfl (by rw [ev4]; rfl) (by decide) rfl ?_
      refine g_goto (tgt := 4) C dX11_allBreaks_30 (by decide) ?_
      refine g_locals [2, 3, 1, 0] rfl ?_
      exact ih x1 v3 v4 r q h
def wp_X11_allBreaks (P : Int32 → RST → Prop) (p0 : Int32) (r : Nat → Int32) (q : Nat → Nat → Int32) : Prop := ∃ k5 : Nat, wp_X11_allBreaks_4  P k5 p0 0 0 r q
set_option maxRecDepth 100000 in
set_option maxHeartbeats 4000000 in
theorem t_X11_allBreaks {p : Program} {l : Launch} {e : Env} {s : State} {m : MethodId} {args : Array Value} {below : List Frame} {meth : Method} {c : Code} {D : va_G} {A : Nat → Prop} {T : Nat → ClassId} {m0 : Nat} {a : Nat → Nat} (C : GC p s m args meth c cX11_allBreaks "FreightRaterModel" (ws_X11_allBreaks) 4 D A (zty T)) (hr : meth.sig.returnType = (some .int)) (P : Int32 → RST → Prop) : ∀ (p0 : Int32) (r : Nat → Int32) (q : Nat → Nat → Int32), wp_X11_allBreaks P p0 r q → GW p l e rm_X11_allBreaks s m args below meth c D A 4 0 0 (MQ below (va_Qi P (RE D T m0 a A) A) args s 0 0 A) (RW m0 a T r q) 0 0 0 [(0, .ref m0), (1, .int p0)] [] := by
  have hw : ∀ {w : Cond}, w ∈ W0 → w.before args s = true := fun h => C.2.2.2.2.1 _ (List.mem_cons_of_mem _ h)
  intro p0 r q h
  unfold wp_X11_allBreaks at h
  refine g_iconst (v := 0) C dX11_allBreaks_0 (by decide) ?_
  refine g_istore_n (lv' := [(2, .int 0), (0, .ref m0), (1, .int p0)]) C dX11_allBreaks_1 rfl (by decide) rfl ?_
  refine g_iconst (v := 0) C dX11_allBreaks_2 (by decide) ?_
  refine g_istore_n (lv' := [(3, .int 0), (2, .int 0), (0, .ref m0), (1, .int p0)]) C dX11_allBreaks_3 rfl (by decide) rfl ?_
  refine g_locals [2, 3, 1, 0] rfl ?_
  obtain ⟨k5, h⟩ := h
  refine t_X11_allBreaks_4 C hr  P  k5 p0 0 0 r q h
theorem c_X11_allBreaks (l : Launch) (D : va_G) (T : Nat → ClassId) (m0 : Nat) (a : Nat → Nat) (p0 : Int32) (r : Nat → Int32) (q : Nat → Nat → Int32) (P : Int32 → RST → Prop) (h : wp_X11_allBreaks P p0 r q) : RMi l yX11_allBreaks (ws_X11_allBreaks) rm_X11_allBreaks D T m0 a [.ref m0, .int p0] r q P := gr_meti (by decide) rfl rfl (Nat.le_of_ble_eq_true rfl) (fun p e s m args below meth c A C hr => t_X11_allBreaks C hr P p0 r q h)
theorem rl_allBreaks {P : Int32 → RST → Prop} {r : Nat → Int32} {q : Nat → Nat → Int32} {v : Nat} (hv : v < 6) : ∀ (k z fuel : Nat) (n : Int32), z + k = 9 → k < fuel → P (aBrFold (q 0) v k z n) (r, q) → wp_X11_allBreaks_4 P fuel (nI v) n (nI z) r q := by
  intro k
  induction k with
  | zero =>
    intro z fuel n hz hf hp
    obtain ⟨f, rfl⟩ : ∃ f, fuel = f + 1 := ⟨fuel - 1, by omega⟩
    rw [wp_X11_allBreaks_4]; unfold wb_X11_allBreaks_4
    simp (disch := omega) only [li_2, li_3, li_4, li_5, li_6, li_7, li_8, li_9, li_10, li_12, li_14, li_20, li_26, li_30, li_31, li_36, li_38, li_47, li_48, li_50, li_57, li_58, li_80, li_98, li_99, li_100, li_102, li_104, li_105, li_108, li_109, li_110, li_114, li_115, li_119, li_122, li_137, li_146, li_147, li_148, li_149, li_150, li_200, li_255, li_256, li_274, li_510, li_512, li_640, li_999, li_1000, li_1024, li_3334, li_5000, li_9999, li_10000, li_23338, li_26672, li_30000, li_99999, li_150000, li_300000, pk_mul, nI_add, pk_sub, nI_clamp, nI_1, nI_p1, nI_a0, nI_0a, nI_m0, nI_m1, cl_0, cl_1, z01, z11]
    exact ⟨fun _ => hp, fun h => absurd (nI_le (by omega) (by omega)) h⟩
  | succ k ih =>
    intro z fuel n hz hf hp
    obtain ⟨f, rfl⟩ : ∃ f, fuel = f + 1 := ⟨fuel - 1, by omega⟩
    rw [wp_X11_allBreaks_4]; unfold wb_X11_allBreaks_4
    simp (disch := omega) only [li_2, li_3, li_4, li_5, li_6, li_7, li_8, li_9, li_10, li_12, li_14, li_20, li_26, li_30, li_31, li_36, li_38, li_47, li_48, li_50, li_57, li_58, li_80, li_98, li_99, li_100, li_102, li_104, li_105, li_108, li_109, li_110, li_114, li_115, li_119, li_122, li_137, li_146, li_147, li_148, li_149, li_150, li_200, li_255, li_256, li_274, li_510, li_512, li_640, li_999, li_1000, li_1024, li_3334, li_5000, li_9999, li_10000, li_23338, li_26672, li_30000, li_99999, li_150000, li_300000, pk_mul, nI_add, pk_sub, nI_clamp, nI_1, nI_p1, nI_a0, nI_0a, nI_m0, nI_m1, cl_0, cl_1, z01, z11]
    refine ⟨fun h => absurd h (nI_ge (by omega) (by omega)), fun _ => ⟨vp_in_nI (by omega) (by decide), fun v3 e3 v4 e4 => ?_⟩⟩
    subst e3 e4
    exact ih (z + 1) f _ (by omega) (by omega) hp
theorem k_X11_allBreaks (l : Launch) (D : va_G) (T : Nat → ClassId) (m0 : Nat) (a : Nat → Nat) (p0 : Int32) (r : Nat → Int32) (q : Nat → Nat → Int32) (h : vix p0) : RMi l yX11_allBreaks (ws_X11_allBreaks) rm_X11_allBreaks D T m0 a [.ref m0, .int p0] r q (fun v u => v = (aBr (q 0) (iv p0)) ∧ u = (r, q)) := c_X11_allBreaks l D T m0 a p0 r q _ <|
  (by
    obtain ⟨v, hv, rfl⟩ := h
    unfold wp_X11_allBreaks
    refine ⟨10, ?_⟩
    refine rl_allBreaks (P := fun v_1 u => v_1 = aBr (q 0) (iv (nI v)) ∧ u = (r, q)) hv 9 0 _ 0 (by omega) (by omega) ⟨?_, rfl⟩
    unfold aBr
    rw [show iv (nI v) = v from nI_clamp (by omega)])
abbrev ws_X11_isPosted : List Cond := Cond.code yX11_isPosted cX11_isPosted 2 (some .boolean) :: W0
abbrev rm_X11_isPosted : Room := ({ frames := 1, cells := 0, slots := 0, locals := 22 } : Room)
def wp_X11_isPosted (P : Int32 → RST → Prop) (p0 : Int32) (r : Nat → Int32) (q : Nat → Nat → Int32) : Prop := (six p0 ∧ pix 5) ∧ (((q 0 (14 + 26 * iv p0 + iv 5)) < 0 → (P 0 (r, q))) ∧ (¬ (q 0 (14 + 26 * iv p0 + iv 5)) < 0 → (P 1 (r, q))))
set_option maxRecDepth 100000 in
set_option maxHeartbeats 4000000 in
theorem t_X11_isPosted {p : Program} {l : Launch} {e : Env} {s : State} {m : MethodId} {args : Array Value} {below : List Frame} {meth : Method} {c : Code} {D : va_G} {A : Nat → Prop} {T : Nat → ClassId} {m0 : Nat} {a : Nat → Nat} (C : GC p s m args meth c cX11_isPosted "FreightRaterModel" (ws_X11_isPosted) 2 D A (zty T)) (hr : meth.sig.returnType = (some .boolean)) (P : Int32 → RST → Prop) : ∀ (p0 : Int32) (r : Nat → Int32) (q : Nat → Nat → Int32), wp_X11_isPosted P p0 r q → GW p l e rm_X11_isPosted s m args below meth c D A 2 0 0 (MQ below (va_Qi P (RE D T m0 a A) A) args s 0 0 A) (RW m0 a T r q) 0 0 0 [(0, .ref m0), (1, .int p0)] [] := by
  have hw : ∀ {w : Cond}, w ∈ W0 → w.before args s = true := fun h => C.2.2.2.2.1 _ (List.mem_cons_of_mem _ h)
  intro p0 r q h
  unfold wp_X11_isPosted at h
  refine g_aload_n C dX11_isPosted_0 rfl 0 rfl ?_
  refine g_iload_n C dX11_isPosted_1 rfl 1 rfl ?_
  refine g_iconst (v := 5) C dX11_isPosted_2 (by decide) ?_
  obtain ⟨g1, h⟩ := h
  refine gr_callVf C [.int p0, .int 5] rfl (k_X11_of l D T m0 a p0 5 r q g1) (w0_V 2 C.2.2.2.2.1 kw_2127 kw_2129 ks_79 kw_9 kw_2130 rfl rfl (by decide +kernel) ⟨by decide, by decide⟩) rfl (Nat.le_of_ble_eq_true rfl) (Nat.zero_le _) (Nat.zero_le _) dX11_isPosted_3 ?_
  refine g_if_lt (tgt := 13) C dX11_isPosted_6 (by decide) (fun z2 => ?_) (fun z2 => ?_)
  · replace h := h.1 z2
    refine g_iconst (v := 0) C dX11_isPosted_13 (by decide) ?_
    exact gr_zret C hr vz0 dX11_isPosted_14 h
  · replace h := h.2 z2
    refine g_iconst (v := 1) C dX11_isPosted_9 (by decide) ?_
    refine g_goto (tgt := 14) C dX11_isPosted_10 (by decide) ?_
    exact gr_zret C hr vz1 dX11_isPosted_14 h
theorem c_X11_isPosted (l : Launch) (D : va_G) (T : Nat → ClassId) (m0 : Nat) (a : Nat → Nat) (p0 : Int32) (r : Nat → Int32) (q : Nat → Nat → Int32) (P : Int32 → RST → Prop) (h : wp_X11_isPosted P p0 r q) : RMi l yX11_isPosted (ws_X11_isPosted) rm_X11_isPosted D T m0 a [.ref m0, .int p0] r q P := gr_meti (by decide) rfl rfl (Nat.le_of_ble_eq_true rfl) (fun p e s m args below meth c A C hr => t_X11_isPosted C hr P p0 r q h)
theorem k_X11_isPosted (l : Launch) (D : va_G) (T : Nat → ClassId) (m0 : Nat) (a : Nat → Nat) (p0 : Int32) (r : Nat → Int32) (q : Nat → Nat → Int32) (h : six p0) : RMi l yX11_isPosted (ws_X11_isPosted) rm_X11_isPosted D T m0 a [.ref m0, .int p0] r q (fun v u => v = (psF (q 0) (iv p0)) ∧ u = (r, q)) := c_X11_isPosted l D T m0 a p0 r q _ <|
  (by
    obtain ⟨s, hs, rfl⟩ := h
    unfold wp_X11_isPosted
    refine ⟨⟨⟨s, hs, rfl⟩, ⟨5, by decide, rfl⟩⟩, fun z => ⟨?_, rfl⟩, fun z => ⟨?_, rfl⟩⟩
    · have z : q 0 (14 + 26 * iv (nI s) + 5) < 0 := z
      unfold psF
      rw [if_neg (Int32.not_le.mpr z)]
    · have z : ¬ q 0 (14 + 26 * iv (nI s) + 5) < 0 := z
      unfold psF
      rw [if_pos (Int32.not_lt.mp z)])
abbrev ws_X11_side : List Cond := Cond.code yX11_side cX11_side 4 (some .int) :: W0
abbrev rm_X11_side : Room := ({ frames := 1, cells := 0, slots := 0, locals := 22 } : Room)
def wp_X11_side (P : Int32 → RST → Prop) (p0 : Int32) (p1 : Int32) (p2 : Int32) (r : Nat → Int32) (q : Nat → Nat → Int32) : Prop := (six p0 ∧ pix ((6 + (4 * p1)) + p2)) ∧ (P (q 0 (14 + 26 * iv p0 + iv ((6 + (4 * p1)) + p2))) (r, q))
set_option maxRecDepth 100000 in
set_option maxHeartbeats 4000000 in
theorem t_X11_side {p : Program} {l : Launch} {e : Env} {s : State} {m : MethodId} {args : Array Value} {below : List Frame} {meth : Method} {c : Code} {D : va_G} {A : Nat → Prop} {T : Nat → ClassId} {m0 : Nat} {a : Nat → Nat} (C : GC p s m args meth c cX11_side "FreightRaterModel" (ws_X11_side) 4 D A (zty T)) (hr : meth.sig.returnType = (some .int)) (P : Int32 → RST → Prop) : ∀ (p0 : Int32) (p1 : Int32) (p2 : Int32) (r : Nat → Int32) (q : Nat → Nat → Int32), wp_X11_side P p0 p1 p2 r q → GW p l e rm_X11_side s m args below meth c D A 4 0 0 (MQ below (va_Qi P (RE D T m0 a A) A) args s 0 0 A) (RW m0 a T r q) 0 0 0 [(0, .ref m0), (1, .int p0), (2, .int p1), (3, .int p2)] [] := by
  have hw : ∀ {w : Cond}, w ∈ W0 → w.before args s = true := fun h => C.2.2.2.2.1 _ (List.mem_cons_of_mem _ h)
  intro p0 p1 p2 r q h
  unfold wp_X11_side at h
  refine g_aload_n C dX11_side_0 rfl 0 rfl ?_
  refine g_iload_n C dX11_side_1 rfl 1 rfl ?_
  refine g_bipush (v := 6) C dX11_side_2 (by decide) ?_
  refine g_iconst (v := 4) C dX11_side_4 (by decide) ?_
  refine g_iload_n C dX11_side_5 rfl 2 rfl ?_
  refine g_imul C dX11_side_6 ?_
  refine g_iadd C dX11_side_7 ?_
  refine g_iload_n C dX11_side_8 rfl 3 rfl ?_
  refine g_iadd C dX11_side_9 ?_
  obtain ⟨g1, h⟩ := h
  refine gr_callVf C [.int p0, .int ((6 + (4 * p1)) + p2)] rfl (k_X11_of l D T m0 a p0 ((6 + (4 * p1)) + p2) r q g1) (w0_V 2 C.2.2.2.2.1 kw_2127 kw_2129 ks_79 kw_9 kw_2130 rfl rfl (by decide +kernel) ⟨by decide, by decide⟩) rfl (Nat.le_of_ble_eq_true rfl) (Nat.zero_le _) (Nat.zero_le _) dX11_side_10 ?_
  exact gr_iret C hr dX11_side_13 h
theorem c_X11_side (l : Launch) (D : va_G) (T : Nat → ClassId) (m0 : Nat) (a : Nat → Nat) (p0 : Int32) (p1 : Int32) (p2 : Int32) (r : Nat → Int32) (q : Nat → Nat → Int32) (P : Int32 → RST → Prop) (h : wp_X11_side P p0 p1 p2 r q) : RMi l yX11_side (ws_X11_side) rm_X11_side D T m0 a [.ref m0, .int p0, .int p1, .int p2] r q P := gr_meti (by decide) rfl rfl (Nat.le_of_ble_eq_true rfl) (fun p e s m args below meth c A C hr => t_X11_side C hr P p0 p1 p2 r q h)
theorem k_X11_side (l : Launch) (D : va_G) (T : Nat → ClassId) (m0 : Nat) (a : Nat → Nat) (p0 : Int32) (p1 : Int32) (p2 : Int32) (r : Nat → Int32) (q : Nat → Nat → Int32) (h : six p0 ∧ bix p1 ∧ fix4 p2) : RMi l yX11_side (ws_X11_side) rm_X11_side D T m0 a [.ref m0, .int p0, .int p1, .int p2] r q (fun v u => v = (q 0 (14 + 26 * iv p0 + (6 + 4 * iv p1 + iv p2))) ∧ u = (r, q)) := c_X11_side l D T m0 a p0 p1 p2 r q _ <|
  (by
    obtain ⟨⟨s, hs, rfl⟩, ⟨b, hb, rfl⟩, ⟨w, hw, rfl⟩⟩ := h
    unfold wp_X11_side
    simp (disch := omega) only [li_2, li_3, li_4, li_5, li_6, li_7, li_8, li_9, li_10, li_12, li_14, li_20, li_26, li_30, li_31, li_36, li_38, li_47, li_48, li_50, li_57, li_58, li_80, li_98, li_99, li_100, li_102, li_104, li_105, li_108, li_109, li_110, li_114, li_115, li_119, li_122, li_137, li_146, li_147, li_148, li_149, li_150, li_200, li_255, li_256, li_274, li_510, li_512, li_640, li_999, li_1000, li_1024, li_3334, li_5000, li_9999, li_10000, li_23338, li_26672, li_30000, li_99999, li_150000, li_300000, pk_mul, nI_add, pk_sub, nI_clamp, nI_1, nI_p1, nI_a0, nI_0a, nI_m0, nI_m1, cl_0, cl_1, z01, z11]
    refine ⟨⟨⟨s, hs, rfl⟩, ⟨6 + 4 * b + w, by omega, rfl⟩⟩, ?_⟩
    repeat' (first | with_reducible rfl | with_reducible trivial | omega | with_reducible apply And.intro | rfl))

end S_R2S
