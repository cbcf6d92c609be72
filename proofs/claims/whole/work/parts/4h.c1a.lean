section S_C1A
abbrev ws_X10_isBetween : List Cond := Cond.code yX10_isBetween cX10_isBetween 3 (some .boolean) :: W0
abbrev rm_X10_isBetween : Room := ({ frames := 0, cells := 0, slots := 0, locals := 0 } : Room)
def wp_X10_isBetween (P : Int32 → HS → Prop) (p0 : Int32) (p1 : Int32) (p2 : Int32) (S : HS) : Prop := (p0 < p1 → (P 0 S)) ∧ (¬ p0 < p1 → ((p2 < p0 → (P 0 S)) ∧ (¬ p2 < p0 → (P 1 S))))
set_option maxRecDepth 100000 in
set_option maxHeartbeats 4000000 in
theorem t_X10_isBetween {p : Program} {l : Launch} {e : Env} {s : State} {m : MethodId} {args : Array Value} {below : List Frame} {meth : Method} {c : Code} {D : va_G} {A : Nat → Prop} {T : Nat → ClassId} (C : GC p s m args meth c cX10_isBetween "FreightRater" (ws_X10_isBetween) 3 D A (zty T)) (E : GE T A s) (hr : meth.sig.returnType = (some .boolean)) (P : Int32 → HS → Prop) : ∀ (p0 : Int32) (p1 : Int32) (p2 : Int32) (S0 S : HS) (L : List Nat), S0 = S → wt S → hL S L → wp_X10_isBetween P p0 p1 p2 S → GW p l e { rm_X10_isBetween with cells := 0, slots := 0 } s m args below meth c D A 3 0 0 (MQ below (va_Qi (fun v (u : HS × List Nat) => P v u.1 ∧ CO S0 u) (CE D T A) A) args s 0 0 A) (CW T S L) 0 0 0 [(0, .int p0), (1, .int p1), (2, .int p2)] [] := by
  have hW : ∀ {w : Cond}, w ∈ W0 → w.before args s = true := fun h => C.2.2.2.2.1 _ (List.mem_cons_of_mem _ h)
  intro p0 p1 p2 S0 S L hS0 hw hL  h
  have he : ext S0 S := by rw [hS0]; exact ext_rf
  unfold wp_X10_isBetween at h
  refine g_iload_n C dX10_isBetween_0 rfl 0 rfl ?_
  refine g_iload_n C dX10_isBetween_1 rfl 1 rfl ?_
  refine g_icmp_lt (tgt := 14) C dX10_isBetween_2 (by decide) (fun z1 => ?_) (fun z1 => ?_)
  · replace h := h.1 z1
    refine g_iconst (v := 0) C dX10_isBetween_14 (by decide) ?_
    exact gc_zret C vz0 hw hL he hr dX10_isBetween_15 h
  · replace h := h.2 z1
    refine g_iload_n C dX10_isBetween_5 rfl 0 rfl ?_
    refine g_iload_n C dX10_isBetween_6 rfl 2 rfl ?_
    refine g_icmp_gt (tgt := 14) C dX10_isBetween_7 (by decide) (fun z2 => ?_) (fun z2 => ?_)
    · replace h := h.1 z2
      refine g_iconst (v := 0) C dX10_isBetween_14 (by decide) ?_
      exact gc_zret C vz0 hw hL he hr dX10_isBetween_15 h
    · replace h := h.2 z2
      refine g_iconst (v := 1) C dX10_isBetween_10 (by decide) ?_
      refine g_goto (tgt := 15) C dX10_isBetween_11 (by decide) ?_
      exact gc_zret C vz1 hw hL he hr dX10_isBetween_15 h
theorem c_X10_isBetween (l : Launch) (D : va_G) (T : Nat → ClassId) (p0 : Int32) (p1 : Int32) (p2 : Int32) (S : HS)  (P : Int32 → HS → Prop) (h : wp_X10_isBetween P p0 p1 p2 S) : CMi l yX10_isBetween (ws_X10_isBetween) rm_X10_isBetween D T [.int p0, .int p1, .int p2] S 0 0 P := gc_meti (by decide) rfl rfl (Nat.le_of_ble_eq_true rfl) (fun p e s m args below meth c A L C E hnm hr hw hL => t_X10_isBetween C E   hr P p0 p1 p2 S S L rfl hw hL  h)
theorem k_X10_isBetween (l : Launch) (D : va_G) (T : Nat → ClassId) (p0 : Int32) (p1 : Int32) (p2 : Int32) (S : HS)  : CMi l yX10_isBetween (ws_X10_isBetween) rm_X10_isBetween D T [.int p0, .int p1, .int p2] S 0 0 (fun v S1 => v = (zin p0 p1 p2) ∧ S1 = S) := c_X10_isBetween l D T p0 p1 p2 S  _ <|
  (by
    unfold wp_X10_isBetween zin
    refine ⟨fun c => ⟨by rw [if_pos c], rfl⟩, fun c => ⟨fun c2 => ⟨by rw [if_neg c, if_pos c2], rfl⟩, fun c2 => ⟨by rw [if_neg c, if_neg c2], rfl⟩⟩⟩)
abbrev ws_X10_isIn : List Cond := Cond.code yX10_isIn cX10_isIn 2 (some .boolean) :: W0
abbrev rm_X10_isIn : Room := ({ frames := 0, cells := 0, slots := 0, locals := 0 } : Room)
def wp_X10_isIn (P : Int32 → HS → Prop) (p0 : Int32) (p1 : Int32) (S : HS) : Prop := (¬ ((p0 >>> (p1 &&& 31)) &&& 1) = 1 → (P 0 S)) ∧ (((p0 >>> (p1 &&& 31)) &&& 1) = 1 → (P 1 S))
set_option maxRecDepth 100000 in
set_option maxHeartbeats 4000000 in
theorem t_X10_isIn {p : Program} {l : Launch} {e : Env} {s : State} {m : MethodId} {args : Array Value} {below : List Frame} {meth : Method} {c : Code} {D : va_G} {A : Nat → Prop} {T : Nat → ClassId} (C : GC p s m args meth c cX10_isIn "FreightRater" (ws_X10_isIn) 2 D A (zty T)) (E : GE T A s) (hr : meth.sig.returnType = (some .boolean)) (P : Int32 → HS → Prop) : ∀ (p0 : Int32) (p1 : Int32) (S0 S : HS) (L : List Nat), S0 = S → wt S → hL S L → wp_X10_isIn P p0 p1 S → GW p l e { rm_X10_isIn with cells := 0, slots := 0 } s m args below meth c D A 2 0 0 (MQ below (va_Qi (fun v (u : HS × List Nat) => P v u.1 ∧ CO S0 u) (CE D T A) A) args s 0 0 A) (CW T S L) 0 0 0 [(0, .int p0), (1, .int p1)] [] := by
  have hW : ∀ {w : Cond}, w ∈ W0 → w.before args s = true := fun h => C.2.2.2.2.1 _ (List.mem_cons_of_mem _ h)
  intro p0 p1 S0 S L hS0 hw hL  h
  have he : ext S0 S := by rw [hS0]; exact ext_rf
  unfold wp_X10_isIn at h
  refine g_iload_n C dX10_isIn_0 rfl 0 rfl ?_
  refine g_iload_n C dX10_isIn_1 rfl 1 rfl ?_
  refine g_ishr C dX10_isIn_2 ?_
  refine g_iconst (v := 1) C dX10_isIn_3 (by decide) ?_
  refine g_iand C dX10_isIn_4 ?_
  refine g_iconst (v := 1) C dX10_isIn_5 (by decide) ?_
  refine g_icmp_ne (tgt := 13) C dX10_isIn_6 (by decide) (fun z1 => ?_) (fun z1 => ?_)
  · replace h := h.1 z1
    refine g_iconst (v := 0) C dX10_isIn_13 (by decide) ?_
    exact gc_zret C vz0 hw hL he hr dX10_isIn_14 h
  · replace h := h.2 z1
    refine g_iconst (v := 1) C dX10_isIn_9 (by decide) ?_
    refine g_goto (tgt := 14) C dX10_isIn_10 (by decide) ?_
    exact gc_zret C vz1 hw hL he hr dX10_isIn_14 h
theorem c_X10_isIn (l : Launch) (D : va_G) (T : Nat → ClassId) (p0 : Int32) (p1 : Int32) (S : HS)  (P : Int32 → HS → Prop) (h : wp_X10_isIn P p0 p1 S) : CMi l yX10_isIn (ws_X10_isIn) rm_X10_isIn D T [.int p0, .int p1] S 0 0 P := gc_meti (by decide) rfl rfl (Nat.le_of_ble_eq_true rfl) (fun p e s m args below meth c A L C E hnm hr hw hL => t_X10_isIn C E   hr P p0 p1 S S L rfl hw hL  h)
theorem k_X10_isIn (l : Launch) (D : va_G) (T : Nat → ClassId) (p0 : Int32) (p1 : Int32) (S : HS)  : CMi l yX10_isIn (ws_X10_isIn) rm_X10_isIn D T [.int p0, .int p1] S 0 0 (fun v S1 => v = (hasF p0 p1) ∧ S1 = S) := c_X10_isIn l D T p0 p1 S  _ <|
  (by
    unfold wp_X10_isIn hasF
    refine ⟨fun c => ⟨by rw [if_neg c], rfl⟩, fun c => ⟨by rw [if_pos c], rfl⟩⟩)
abbrev ws_X10_percentOf : List Cond := Cond.code yX10_percentOf cX10_percentOf 2 (some .int) :: W0
abbrev rm_X10_percentOf : Room := ({ frames := 0, cells := 0, slots := 0, locals := 0 } : Room)
def wp_X10_percentOf (P : Int32 → HS → Prop) (p0 : Int32) (p1 : Int32) (S : HS) : Prop := P (Int64.toInt32 ((((Int32.toInt64 p0) * (Int32.toInt64 p1)) + 50) / 100)) S
set_option maxRecDepth 100000 in
set_option maxHeartbeats 4000000 in
theorem t_X10_percentOf {p : Program} {l : Launch} {e : Env} {s : State} {m : MethodId} {args : Array Value} {below : List Frame} {meth : Method} {c : Code} {D : va_G} {A : Nat → Prop} {T : Nat → ClassId} (C : GC p s m args meth c cX10_percentOf "FreightRater" (ws_X10_percentOf) 2 D A (zty T)) (E : GE T A s) (hr : meth.sig.returnType = (some .int)) (P : Int32 → HS → Prop) : ∀ (p0 : Int32) (p1 : Int32) (S0 S : HS) (L : List Nat), S0 = S → wt S → hL S L → wp_X10_percentOf P p0 p1 S → GW p l e { rm_X10_percentOf with cells := 0, slots := 0 } s m args below meth c D A 2 0 0 (MQ below (va_Qi (fun v (u : HS × List Nat) => P v u.1 ∧ CO S0 u) (CE D T A) A) args s 0 0 A) (CW T S L) 0 0 0 [(0, .int p0), (1, .int p1)] [] := by
  have hW : ∀ {w : Cond}, w ∈ W0 → w.before args s = true := fun h => C.2.2.2.2.1 _ (List.mem_cons_of_mem _ h)
  intro p0 p1 S0 S L hS0 hw hL  h
  have he : ext S0 S := by rw [hS0]; exact ext_rf
  unfold wp_X10_percentOf at h
  refine g_iload_n C dX10_percentOf_0 rfl 0 rfl ?_
  refine g_i2l C dX10_percentOf_1 rfl ?_
  refine g_iload_n C dX10_percentOf_2 rfl 1 rfl ?_
  refine g_i2l C dX10_percentOf_3 rfl ?_
  refine g_lmul C dX10_percentOf_4 ?_
  refine g_ldc2 (v := 50) C dX10_percentOf_5 (hW kw_1280) ?_
  refine g_ladd C dX10_percentOf_8 ?_
  refine g_ldc2 (v := 100) C dX10_percentOf_9 (hW kw_1281) ?_
  refine g_ldiv C dX10_percentOf_12 (by decide) ?_
  refine g_l2i C dX10_percentOf_13 rfl ?_
  exact gc_iret C hw hL he hr dX10_percentOf_14 h
theorem c_X10_percentOf (l : Launch) (D : va_G) (T : Nat → ClassId) (p0 : Int32) (p1 : Int32) (S : HS)  (P : Int32 → HS → Prop) (h : wp_X10_percentOf P p0 p1 S) : CMi l yX10_percentOf (ws_X10_percentOf) rm_X10_percentOf D T [.int p0, .int p1] S 0 0 P := gc_meti (by decide) rfl rfl (Nat.le_of_ble_eq_true rfl) (fun p e s m args below meth c A L C E hnm hr hw hL => t_X10_percentOf C E   hr P p0 p1 S S L rfl hw hL  h)
theorem k_X10_percentOf (l : Launch) (D : va_G) (T : Nat → ClassId) (p0 : Int32) (p1 : Int32) (S : HS)  : CMi l yX10_percentOf (ws_X10_percentOf) rm_X10_percentOf D T [.int p0, .int p1] S 0 0 (fun v S1 => v = (pctF p0 p1) ∧ S1 = S) := c_X10_percentOf l D T p0 p1 S  _ <|
  (by
    unfold wp_X10_percentOf
    exact ⟨rfl, rfl⟩)
abbrev ws_X10_isSide : List Cond := Cond.code yX10_isSide cX10_isSide 1 (some .boolean) :: W0
abbrev rm_X10_isSide : Room := ({ frames := 1, cells := 0, slots := 0, locals := 22 } : Room)
def wp_X10_isSide (P : Int32 → HS → Prop) (p0 : Int32) (S : HS) : Prop := vz (zin p0 1 200) ∧ P (zin p0 1 200) S
set_option maxRecDepth 100000 in
set_option maxHeartbeats 4000000 in
theorem t_X10_isSide {p : Program} {l : Launch} {e : Env} {s : State} {m : MethodId} {args : Array Value} {below : List Frame} {meth : Method} {c : Code} {D : va_G} {A : Nat → Prop} {T : Nat → ClassId} (C : GC p s m args meth c cX10_isSide "FreightRater" (ws_X10_isSide) 1 D A (zty T)) (E : GE T A s) (hr : meth.sig.returnType = (some .boolean)) (P : Int32 → HS → Prop) : ∀ (p0 : Int32) (S0 S : HS) (L : List Nat), S0 = S → wt S → hL S L → wp_X10_isSide P p0 S → GW p l e { rm_X10_isSide with cells := 0, slots := 0 } s m args below meth c D A 1 0 0 (MQ below (va_Qi (fun v (u : HS × List Nat) => P v u.1 ∧ CO S0 u) (CE D T A) A) args s 0 0 A) (CW T S L) 0 0 0 [(0, .int p0)] [] := by
  have hW : ∀ {w : Cond}, w ∈ W0 → w.before args s = true := fun h => C.2.2.2.2.1 _ (List.mem_cons_of_mem _ h)
  intro p0 S0 S L hS0 hw hL  h
  have he : ext S0 S := by rw [hS0]; exact ext_rf
  unfold wp_X10_isSide at h
  refine g_iload_n C dX10_isSide_0 rfl 0 rfl ?_
  refine g_iconst (v := 1) C dX10_isSide_1 (by decide) ?_
  refine g_sipush (v := 200) C dX10_isSide_2 (by decide) ?_
  refine gc_calliS (host := "") C E hw hL [.int p0, .int 1, .int 200] rfl (k_X10_isBetween l D T p0 1 200 S ) (w0_S 3 C.2.2.2.2.1 kw_303 kw_304 kw_1 kw_305 rfl rfl (by decide +kernel) ⟨Nat.le_of_ble_eq_true rfl, Nat.le_of_ble_eq_true rfl⟩) rfl (Nat.le_of_ble_eq_true rfl) (Nat.le_refl _) (Nat.le_refl _) (Nat.zero_le _) (Nat.zero_le _) dX10_isSide_5 (fun v9 S9 L1 he9 hw9 hL9 hp => ?_)
  obtain ⟨hv9, hs9⟩ := hp
  replace hs9 := hs9.symm
  subst hs9
  replace hv9 := hv9.symm
  subst hv9
  have w4 := hL9
  exact gc_zret C h.1 hw w4 he hr dX10_isSide_8 h.2
theorem c_X10_isSide (l : Launch) (D : va_G) (T : Nat → ClassId) (p0 : Int32) (S : HS)  (P : Int32 → HS → Prop) (h : wp_X10_isSide P p0 S) : CMi l yX10_isSide (ws_X10_isSide) rm_X10_isSide D T [.int p0] S 0 0 P := gc_meti (by decide) rfl rfl (Nat.le_of_ble_eq_true rfl) (fun p e s m args below meth c A L C E hnm hr hw hL => t_X10_isSide C E   hr P p0 S S L rfl hw hL  h)
theorem k_X10_isSide (l : Launch) (D : va_G) (T : Nat → ClassId) (p0 : Int32) (S : HS)  : CMi l yX10_isSide (ws_X10_isSide) rm_X10_isSide D T [.int p0] S 0 0 (fun v S1 => v = (zin p0 1 200) ∧ S1 = S) := c_X10_isSide l D T p0 S  _ <|
  (by
    unfold wp_X10_isSide
    exact ⟨zin_vz _ _ _, rfl, rfl⟩)
abbrev ws_X10_isRoute : List Cond := Cond.code yX10_isRoute cX10_isRoute 2 (some .boolean) :: W0
abbrev rm_X10_isRoute : Room := ({ frames := 1, cells := 0, slots := 0, locals := 22 } : Room)
def wp_X10_isRoute (P : Int32 → HS → Prop) (p0 : Int32) (p1 : Int32) (S : HS) : Prop := ((zin p0 0 999) = 0 → (P 0 S)) ∧ (¬ (zin p0 0 999) = 0 → (((zin p1 0 999) = 0 → (P 0 S)) ∧ (¬ (zin p1 0 999) = 0 → (P 1 S))))
set_option maxRecDepth 100000 in
set_option maxHeartbeats 4000000 in
theorem t_X10_isRoute {p : Program} {l : Launch} {e : Env} {s : State} {m : MethodId} {args : Array Value} {below : List Frame} {meth : Method} {c : Code} {D : va_G} {A : Nat → Prop} {T : Nat → ClassId} (C : GC p s m args meth c cX10_isRoute "FreightRater" (ws_X10_isRoute) 2 D A (zty T)) (E : GE T A s) (hr : meth.sig.returnType = (some .boolean)) (P : Int32 → HS → Prop) : ∀ (p0 : Int32) (p1 : Int32) (S0 S : HS) (L : List Nat), S0 = S → wt S → hL S L → wp_X10_isRoute P p0 p1 S → GW p l e { rm_X10_isRoute with cells := 0, slots := 0 } s m args below meth c D A 2 0 0 (MQ below (va_Qi (fun v (u : HS × List Nat) => P v u.1 ∧ CO S0 u) (CE D T A) A) args s 0 0 A) (CW T S L) 0 0 0 [(0, .int p0), (1, .int p1)] [] := by
  have hW : ∀ {w : Cond}, w ∈ W0 → w.before args s = true := fun h => C.2.2.2.2.1 _ (List.mem_cons_of_mem _ h)
  intro p0 p1 S0 S L hS0 hw hL  h
  have he : ext S0 S := by rw [hS0]; exact ext_rf
  unfold wp_X10_isRoute at h
  refine g_iload_n C dX10_isRoute_0 rfl 0 rfl ?_
  refine g_iconst (v := 0) C dX10_isRoute_1 (by decide) ?_
  refine g_sipush (v := 999) C dX10_isRoute_2 (by decide) ?_
  refine gc_calliS (host := "") C E hw hL [.int p0, .int 0, .int 999] rfl (k_X10_isBetween l D T p0 0 999 S ) (w0_S 3 C.2.2.2.2.1 kw_303 kw_304 kw_1 kw_305 rfl rfl (by decide +kernel) ⟨Nat.le_of_ble_eq_true rfl, Nat.le_of_ble_eq_true rfl⟩) rfl (Nat.le_of_ble_eq_true rfl) (Nat.le_refl _) (Nat.le_refl _) (Nat.zero_le _) (Nat.zero_le _) dX10_isRoute_5 (fun v9 S9 L1 he9 hw9 hL9 hp => ?_)
  obtain ⟨hv9, hs9⟩ := hp
  replace hs9 := hs9.symm
  subst hs9
  replace hv9 := hv9.symm
  subst hv9
  have w4 := hL9
  refine g_if_eq (tgt := 26) C dX10_isRoute_8 (by decide) (fun z5 => ?_) (fun z5 => ?_)
  · replace h := h.1 z5
    refine g_iconst (v := 0) C dX10_isRoute_26 (by decide) ?_
    exact gc_zret C vz0 hw w4 he hr dX10_isRoute_27 h
  · replace h := h.2 z5
    refine g_iload_n C dX10_isRoute_11 rfl 1 rfl ?_
    refine g_iconst (v := 0) C dX10_isRoute_12 (by decide) ?_
    refine g_sipush (v := 999) C dX10_isRoute_13 (by decide) ?_
    refine gc_calliS (host := "") C E hw w4 [.int p1, .int 0, .int 999] rfl (k_X10_isBetween l D T p1 0 999 S ) (w0_S 3 C.2.2.2.2.1 kw_303 kw_304 kw_1 kw_305 rfl rfl (by decide +kernel) ⟨Nat.le_of_ble_eq_true rfl, Nat.le_of_ble_eq_true rfl⟩) rfl (Nat.le_of_ble_eq_true rfl) (Nat.le_refl _) (Nat.le_refl _) (Nat.zero_le _) (Nat.zero_le _) dX10_isRoute_16 (fun v9 S9 L6 he9 hw9 hL9 hp => ?_)
    obtain ⟨hv9, hs9⟩ := hp
    replace hs9 := hs9.symm
    subst hs9
    replace hv9 := hv9.symm
    subst hv9
    have w9 := hL9
    refine g_if_eq (tgt := 26) C dX10_isRoute_19 (by decide) (fun z10 => ?_) (fun z10 => ?_)
    · replace h := h.1 z10
      refine g_iconst (v := 0) C dX10_isRoute_26 (by decide) ?_
      exact gc_zret C vz0 hw w9 he hr dX10_isRoute_27 h
    · replace h := h.2 z10
      refine g_iconst (v := 1) C dX10_isRoute_22 (by decide) ?_
      refine g_goto (tgt := 27) C dX10_isRoute_23 (by decide) ?_
      exact gc_zret C vz1 hw w9 he hr dX10_isRoute_27 h
theorem c_X10_isRoute (l : Launch) (D : va_G) (T : Nat → ClassId) (p0 : Int32) (p1 : Int32) (S : HS)  (P : Int32 → HS → Prop) (h : wp_X10_isRoute P p0 p1 S) : CMi l yX10_isRoute (ws_X10_isRoute) rm_X10_isRoute D T [.int p0, .int p1] S 0 0 P := gc_meti (by decide) rfl rfl (Nat.le_of_ble_eq_true rfl) (fun p e s m args below meth c A L C E hnm hr hw hL => t_X10_isRoute C E   hr P p0 p1 S S L rfl hw hL  h)
theorem k_X10_isRoute (l : Launch) (D : va_G) (T : Nat → ClassId) (p0 : Int32) (p1 : Int32) (S : HS)  : CMi l yX10_isRoute (ws_X10_isRoute) rm_X10_isRoute D T [.int p0, .int p1] S 0 0 (fun v S1 => v = (andF (zin p0 0 999) (zin p1 0 999)) ∧ S1 = S) := c_X10_isRoute l D T p0 p1 S  _ <|
  (by
    unfold wp_X10_isRoute andF
    refine ⟨fun c => ⟨by rw [if_pos c], rfl⟩, fun c => ⟨fun c2 => ⟨by rw [if_neg c, if_pos c2], rfl⟩, fun c2 => ⟨by rw [if_neg c, if_neg c2], rfl⟩⟩⟩)
abbrev ws_X4_amountBy : List Cond := Cond.code yX4_amountBy cX4_amountBy 3 (some .int) :: W0
abbrev rm_X4_amountBy : Room := ({ frames := 1, cells := 0, slots := 0, locals := 21 } : Room)
def wp_X4_amountBy (P : Int32 → HS → Prop) (x0 : Nat) (p0 : Int32) (p1 : Int32) (S : HS) : Prop := ∃ b2 : Nat, hR S 101 x0 = some b2 ∧ (hK S b2 = 22 → (vp_in p0 (hN S b2) ∧ (∃ b6 : Nat, hR S 102 x0 = some b6 ∧ (hK S b6 = 22 → (vp_in p0 (hN S b6) ∧ (P ((if p1 < (hA S b2 (Int32.toNatClampNeg p0)) then (hA S b2 (Int32.toNatClampNeg p0)) else p1) * (hA S b6 (Int32.toNatClampNeg p0))) S))))))
set_option maxRecDepth 100000 in
set_option maxHeartbeats 4000000 in
theorem t_X4_amountBy {p : Program} {l : Launch} {e : Env} {s : State} {m : MethodId} {args : Array Value} {below : List Frame} {meth : Method} {c : Code} {D : va_G} {A : Nat → Prop} {T : Nat → ClassId} (C : GC p s m args meth c cX4_amountBy "FreightRater$Scale" (ws_X4_amountBy) 3 D A (zty T)) (E : GE T A s) (hr : meth.sig.returnType = (some .int)) (P : Int32 → HS → Prop) : ∀ (x0 : Nat) (p0 : Int32) (p1 : Int32) (S0 S : HS) (L : List Nat), S0 = S → wt S → hL S L → (hK S x0 = 5) → wp_X4_amountBy P x0 p0 p1 S → GW p l e { rm_X4_amountBy with cells := 0, slots := 0 } s m args below meth c D A 3 0 0 (MQ below (va_Qi (fun v (u : HS × List Nat) => P v u.1 ∧ CO S0 u) (CE D T A) A) args s 0 0 A) (CW T S L) 0 0 0 [(0, .ref x0), (1, .int p0), (2, .int p1)] [] := by
  have hW : ∀ {w : Cond}, w ∈ W0 → w.before args s = true := fun h => C.2.2.2.2.1 _ (List.mem_cons_of_mem _ h)
  intro x0 p0 p1 S0 S L hS0 hw hL hx0 h
  have he : ext S0 S := by rw [hS0]; exact ext_rf
  unfold wp_X4_amountBy at h
  refine g_iload_n C dX4_amountBy_0 rfl 2 rfl ?_
  refine g_aload_n C dX4_amountBy_1 rfl 0 rfl ?_
  refine gc_getR C hw iwx_X4 hL hx0 (by decide) (by decide) rfl 1 (by decide) (hW kw_397) rfl rfl rfl dX4_amountBy_2 (fun o1 eo1 ko1 => ?_)
  obtain ⟨b2, hb9, h⟩ := h
  have g3 : hK S b2 = 22 := ko1 b2 (eo1.trans hb9)
  replace h := h g3
  refine g_opt (eo1.trans hb9) ?_
  refine g_iload_n C dX4_amountBy_5 rfl 1 rfl ?_
  obtain ⟨g4, h⟩ := h
  refine gc_iald C hL g3 g4 dX4_amountBy_6 ?_
  refine g_mmax C (hW kw_1058) (hW kw_626) (hW kw_18) (hW kw_627) (Nat.le_of_ble_eq_true rfl) (Nat.le_of_ble_eq_true rfl) (Nat.le_refl _) (Nat.le_refl _) dX4_amountBy_7 ?_
  refine g_aload_n C dX4_amountBy_10 rfl 0 rfl ?_
  refine gc_getR C hw iwx_X4 hL hx0 (by decide) (by decide) rfl 2 (by decide) (hW kw_400) rfl rfl rfl dX4_amountBy_11 (fun o5 eo5 ko5 => ?_)
  obtain ⟨b6, hb9, h⟩ := h
  have g7 : hK S b6 = 22 := ko5 b6 (eo5.trans hb9)
  replace h := h g7
  refine g_opt (eo5.trans hb9) ?_
  refine g_iload_n C dX4_amountBy_14 rfl 1 rfl ?_
  obtain ⟨g8, h⟩ := h
  refine gc_iald C hL g7 g8 dX4_amountBy_15 ?_
  refine g_imul C dX4_amountBy_16 ?_
  exact gc_iret C hw hL he hr dX4_amountBy_17 h
theorem c_X4_amountBy (l : Launch) (D : va_G) (T : Nat → ClassId) (x0 : Nat) (p0 : Int32) (p1 : Int32) (S : HS) (hx0 : hK S x0 = 5) (P : Int32 → HS → Prop) (h : wp_X4_amountBy P x0 p0 p1 S) : CMi l yX4_amountBy (ws_X4_amountBy) rm_X4_amountBy D T [.ref x0, .int p0, .int p1] S 0 0 P := gc_meti (by decide) rfl rfl (Nat.le_of_ble_eq_true rfl) (fun p e s m args below meth c A L C E hnm hr hw hL => t_X4_amountBy C E   hr P x0 p0 p1 S S L rfl hw hL hx0 h)
theorem k_X4_amountBy (l : Launch) (D : va_G) (T : Nat → ClassId) (x0 : Nat) (p0 : Int32) (p1 : Int32) (S : HS) (e0 : (Nat → Prop)) (e1 : Nat → Int32) (e2 : Nat) (e3 : Nat) (hx0 : hK S x0 = 5) (h : WF e1 ∧ e2 < 6 ∧ 1 ≤ e3 ∧ e3 ≤ 9 ∧ RelSc S e0 x0 e1 e2 e3 ∧ ∃ i : Nat, i < iv (e1 (274 + 510 * e2 + 38 + e3 - 1)) ∧ p0 = nI i) : CMi l yX4_amountBy (ws_X4_amountBy) rm_X4_amountBy D T [.ref x0, .int p0, .int p1] S 0 0 (fun v S1 => v = (amtF e1 e2 e3 (iv p0) p1) ∧ S1 = S) := c_X4_amountBy l D T x0 p0 p1 S hx0 _ <|
  (by
    obtain ⟨hw, hv, h1, h9, hR, i, hi, rfl⟩ := h
    obtain ⟨_, _, r1, r2, w, p, rw_, rp, ⟨kw, nw, _⟩, ⟨kp, np, _⟩, hc⟩ := hR
    obtain ⟨c, hc5, ec⟩ := hw.brk hv h1 h9
    have ic : iv (e1 (274 + 510 * e2 + 38 + e3 - 1)) = c := by rw [ec]; exact nI_clamp (by omega)
    rw [ic] at hi hc
    obtain ⟨g1, g2⟩ := hc i hi
    unfold wp_X4_amountBy
    refine ⟨w, rw_, fun _ => ?_⟩
    rw [nw, nz_vp (by omega) (by decide)]
    refine ⟨by omega, p, rp, fun _ => ?_⟩
    rw [np, nz_vp (by omega) (by decide), nI_clamp (n := i) (by omega), g1, g2]
    refine ⟨by omega, ?_, rfl⟩
    unfold amtF
    rw [show iv (nI i) = i from nI_clamp (by omega)])
abbrev ws_X4_findCheapest : List Cond := Cond.code yX4_findCheapest cX4_findCheapest 4 (some .int) :: W0
abbrev rm_X4_findCheapest : Room := ({ frames := 2, cells := 0, slots := 0, locals := 43 } : Room)
def wb_X4_findCheapest_4 (rec : Nat → Int32 → Int32 → Int32 → HS → Prop) (P : Int32 → HS → Prop) (x0 : Nat) (x1 : Int32) (x2 : Int32) (x3 : Int32) (S : HS) : Prop := ((hI S 100 x0) ≤ x3 → (P x2 S)) ∧ (¬ (hI S 100 x0) ≤ x3 → ((x2 < 0 → (∀ v3 : Int32, v3 = x3 + 1 → (rec x0 x1 x3 v3 S))) ∧ (¬ x2 < 0 → (∃ (m4 : (Nat → Prop)) (m5 : Nat → Int32) (m6 : Nat) (m7 : Nat), ((WF m5 ∧ m6 < 6 ∧ 1 ≤ m7 ∧ m7 ≤ 9 ∧ RelSc S m4 x0 m5 m6 m7 ∧ ∃ i : Nat, i < iv (m5 (274 + 510 * m6 + 38 + m7 - 1)) ∧ x3 = nI i) ∧ (∃ (m13 : (Nat → Prop)) (m14 : Nat → Int32) (m15 : Nat) (m16 : Nat), ((WF m14 ∧ m15 < 6 ∧ 1 ≤ m16 ∧ m16 ≤ 9 ∧ RelSc S m13 x0 m14 m15 m16 ∧ ∃ i : Nat, i < iv (m14 (274 + 510 * m15 + 38 + m16 - 1)) ∧ x2 = nI i) ∧ (((amtF m14 m15 m16 (iv x2) x1) ≤ (amtF m5 m6 m7 (iv x3) x1) → (∀ v23 : Int32, v23 = x3 + 1 → (rec x0 x1 x2 v23 S))) ∧ (¬ (amtF m14 m15 m16 (iv x2) x1) ≤ (amtF m5 m6 m7 (iv x3) x1) → (∀ v24 : Int32, v24 = x3 + 1 → (rec x0 x1 x3 v24 S)))))))))))
def wp_X4_findCheapest_4 (P : Int32 → HS → Prop) : Nat → Nat → Int32 → Int32 → Int32 → HS → Prop
  | 0 => fun _ _ _ _ _ => False
  | n + 1 => fun x0 x1 x2 x3 S => wb_X4_findCheapest_4 (wp_X4_findCheapest_4  P n)  P x0 x1 x2 x3 S
set_option maxRecDepth 100000 in
set_option maxHeartbeats 4000000 in
theorem t_X4_findCheapest_4 {p : Program} {l : Launch} {e : Env} {s : State} {m : MethodId} {args : Array Value} {below : List Frame} {meth : Method} {c : Code} {D : va_G} {A : Nat → Prop} {T : Nat → ClassId} (C : GC p s m args meth c cX4_findCheapest "FreightRater$Scale" (ws_X4_findCheapest) 4 D A (zty T)) (E : GE T A s) (hr : meth.sig.returnType = (some .int)) (S0 : HS) (P : Int32 → HS → Prop) : ∀ (n : Nat) (x0 : Nat) (x1 : Int32) (x2 : Int32) (x3 : Int32) (S : HS) (L : List Nat), wt S → hL S L → ext S0 S → (hK S x0 = 5) → wp_X4_findCheapest_4  P n x0 x1 x2 x3 S → GW p l e { rm_X4_findCheapest with cells := 0, slots := 0 } s m args below meth c D A 4 0 0 (MQ below (va_Qi (fun v (u : HS × List Nat) => P v u.1 ∧ CO S0 u) (CE D T A) A) args s 0 0 A) (CW T S L) 0 0 4 [(0, .ref x0), (1, .int x1), (2, .int x2), (3, .int x3)] [] := by
  have hW : ∀ {w : Cond}, w ∈ W0 → w.before args s = true := fun h => C.2.2.2.2.1 _ (List.mem_cons_of_mem _ h)
  intro n
  induction n with
  | zero => intro x0 x1 x2 x3 S L hw hL he hx0 h; exact h.elim
  | succ n ih =>
    intro x0 x1 x2 x3 S L hw hL he hx0 h
    replace h : wb_X4_findCheapest_4 (wp_X4_findCheapest_4  P n)  P x0 x1 x2 x3 S := h
    unfold wb_X4_findCheapest_4 at h
    refine g_iload_n C dX4_findCheapest_4 rfl 3 rfl ?_
    refine g_aload_n C dX4_findCheapest_5 rfl 0 rfl ?_
    refine gc_getI C iwx_X4 hL hx0 (by decide) (by decide) rfl 0 (by decide) (hW kw_393) rfl rfl rfl dX4_findCheapest_6 ?_
    refine g_icmp_ge (tgt := 39) C dX4_findCheapest_9 (by decide) (fun z1 => ?_) (fun z1 => ?_)
    · replace h := h.1 z1
      refine g_iload_n C dX4_findCheapest_39 rfl 2 rfl ?_
      exact gc_iret C hw hL he hr dX4_findCheapest_40 h
    · replace h := h.2 z1
      refine g_iload_n C dX4_findCheapest_12 rfl 2 rfl ?_
      refine g_if_lt (tgt := 31) C dX4_findCheapest_13 (by decide) (fun z2 => ?_) (fun z2 => ?_)
      · replace h := h.1 z2
        refine g_iload_n C dX4_findCheapest_31 rfl 3 rfl ?_
        refine g_istore_n (lv' := [(2, .int x3), (0, .ref x0), (1, .int x1), (3, .int x3)]) C dX4_findCheapest_32 rfl (by decide) rfl ?_
        obtain ⟨v3, ev3⟩ : ∃ y : Int32, y = x3 + 1 := ⟨_, rfl⟩
        replace h := h v3 ev3
        refine g_iinc (v := v3) (lv' := [(3, .int v3), (2, .int x3), (0, .ref x0), (1, .int x1)]) C dX4_findCheapest_33 (j := 3) rfl (by rw [ev3]; rfl) (by decide) rfl ?_
        refine g_goto (tgt := 4) C dX4_findCheapest_36 (by decide) ?_
        refine g_locals [2, 3, 1, 0] rfl ?_
        exact ih x0 x1 x3 v3 S L hw hL he hx0 h
      · replace h := h.2 z2
        refine g_aload_n C dX4_findCheapest_16 rfl 0 rfl ?_
        refine g_iload_n C dX4_findCheapest_17 rfl 3 rfl ?_
        refine g_iload_n C dX4_findCheapest_18 rfl 1 rfl ?_
        obtain ⟨m4, m5, m6, m7, h⟩ := h
        obtain ⟨g8, h⟩ := h
        refine gc_calliV (host := "") C E hw hL hx0 (by decide) (by decide) rfl [.int x3, .int x1] rfl (k_X4_amountBy l D T x0 x3 x1 S m4 m5 m6 m7 hx0 g8) (w0_V 2 C.2.2.2.2.1 kw_1054 kw_1056 ks_24 kw_15 kw_1057 rfl rfl (by decide +kernel) ⟨Nat.le_of_ble_eq_true rfl, Nat.le_of_ble_eq_true rfl⟩) rfl (Nat.le_of_ble_eq_true rfl) (Nat.le_refl _) (Nat.le_refl _) (Nat.zero_le _) (Nat.zero_le _) dX4_findCheapest_19 (fun v9 S9 L9 he9 hw9 hL9 hp => ?_)
        obtain ⟨hv9, hs9⟩ := hp
        replace hs9 := hs9.symm
        subst hs9
        replace hv9 := hv9.symm
        subst hv9
        have w12 := hL9
        refine g_aload_n C dX4_findCheapest_22 rfl 0 rfl ?_
        refine g_iload_n C dX4_findCheapest_23 rfl 2 rfl ?_
        refine g_iload_n C dX4_findCheapest_24 rfl 1 rfl ?_
        obtain ⟨m13, m14, m15, m16, h⟩ := h
        obtain ⟨g17, h⟩ := h
        refine gc_calliV (host := "") C E hw w12 hx0 (by decide) (by decide) rfl [.int x2, .int x1] rfl (k_X4_amountBy l D T x0 x2 x1 S m13 m14 m15 m16 hx0 g17) (w0_V 2 C.2.2.2.2.1 kw_1054 kw_1056 ks_24 kw_15 kw_1057 rfl rfl (by decide +kernel) ⟨Nat.le_of_ble_eq_true rfl, Nat.le_of_ble_eq_true rfl⟩) rfl (Nat.le_of_ble_eq_true rfl) (Nat.le_refl _) (Nat.le_refl _) (Nat.zero_le _) (Nat.zero_le _) dX4_findCheapest_25 (fun v9 S9 L18 he9 hw9 hL9 hp => ?_)
        obtain ⟨hv9, hs9⟩ := hp
        replace hs9 := hs9.symm
        subst hs9
        replace hv9 := hv9.symm
        subst hv9
        have w21 := hL9
        refine g_icmp_ge (tgt := 33) C dX4_findCheapest_28 (by decide) (fun z22 => ?_) (fun z22 => ?_)
        · replace h := h.1 z22
          obtain ⟨v23, ev23⟩ : ∃ y : Int32, y = x3 + 1 := ⟨_, rfl⟩
          replace h := h v23 ev23
          refine g_iinc (v := v23) (lv' := [(3, .int v23), (0, .ref x0), (1, .int x1), (2, .int x2)]) C dX4_findCheapest_33 (j := 3) rfl (by rw [ev23]; rfl) (by decide) rfl ?_
          refine g_goto (tgt := 4) C dX4_findCheapest_36 (by decide) ?_
          refine g_locals [1, 2, 3, 0] rfl ?_
          exact ih x0 x1 x2 v23 S L18 hw w21 he hx0 h
        · replace h := h.2 z22
          refine g_iload_n C dX4_findCheapest_31 rfl 3 rfl ?_
          refine g_istore_n (lv' := [(2, .int x3), (0, .ref x0), (1, .int x1), (3, .int x3)]) C dX4_findCheapest_32 rfl (by decide) rfl ?_
          obtain ⟨v24, ev24⟩ : ∃ y : Int32, y = x3 + 1 := ⟨_, rfl⟩
          replace h := h v24 ev24
          refine g_iinc (v := v24) (lv' := [(3, .int v24), (2, .int x3), (0, .ref x0), (1, .int x1)]) C dX4_findCheapest_33 (j := 3) rfl (by rw [ev24]; rfl) (by decide) rfl ?_
          refine g_goto (tgt := 4) C dX4_findCheapest_36 (by decide) ?_
          refine g_locals [2, 3, 1, 0] rfl ?_
          exact ih x0 x1 x3 v24 S L18 hw w21 he hx0 h
def wp_X4_findCheapest (P : Int32 → HS → Prop) (x0 : Nat) (p0 : Int32) (S : HS) : Prop := ∃ k25 : Nat, wp_X4_findCheapest_4  P k25 x0 p0 (-1) 0 S
set_option maxRecDepth 100000 in
set_option maxHeartbeats 4000000 in
theorem t_X4_findCheapest {p : Program} {l : Launch} {e : Env} {s : State} {m : MethodId} {args : Array Value} {below : List Frame} {meth : Method} {c : Code} {D : va_G} {A : Nat → Prop} {T : Nat → ClassId} (C : GC p s m args meth c cX4_findCheapest "FreightRater$Scale" (ws_X4_findCheapest) 4 D A (zty T)) (E : GE T A s) (hr : meth.sig.returnType = (some .int)) (P : Int32 → HS → Prop) : ∀ (x0 : Nat) (p0 : Int32) (S0 S : HS) (L : List Nat), S0 = S → wt S → hL S L → (hK S x0 = 5) → wp_X4_findCheapest P x0 p0 S → GW p l e { rm_X4_findCheapest with cells := 0, slots := 0 } s m args below meth c D A 4 0 0 (MQ below (va_Qi (fun v (u : HS × List Nat) => P v u.1 ∧ CO S0 u) (CE D T A) A) args s 0 0 A) (CW T S L) 0 0 0 [(0, .ref x0), (1, .int p0)] [] := by
  have hW : ∀ {w : Cond}, w ∈ W0 → w.before args s = true := fun h => C.2.2.2.2.1 _ (List.mem_cons_of_mem _ h)
  intro x0 p0 S0 S L hS0 hw hL hx0 h
  have he : ext S0 S := by rw [hS0]; exact ext_rf
  unfold wp_X4_findCheapest at h
  refine g_iconst (v := -1) C dX4_findCheapest_0 (by decide) ?_
  refine g_istore_n (lv' := [(2, .int (-1)), (0, .ref x0), (1, .int p0)]) C dX4_findCheapest_1 rfl (by decide) rfl ?_
  refine g_iconst (v := 0) C dX4_findCheapest_2 (by decide) ?_
  refine g_istore_n (lv' := [(3, .int 0), (2, .int (-1)), (0, .ref x0), (1, .int p0)]) C dX4_findCheapest_3 rfl (by decide) rfl ?_
  refine g_locals [2, 3, 1, 0] rfl ?_
  obtain ⟨k25, h⟩ := h
  refine t_X4_findCheapest_4 C E hr S0  P  k25 x0 p0 (-1) 0 S L hw hL he hx0 h
theorem c_X4_findCheapest (l : Launch) (D : va_G) (T : Nat → ClassId) (x0 : Nat) (p0 : Int32) (S : HS) (hx0 : hK S x0 = 5) (P : Int32 → HS → Prop) (h : wp_X4_findCheapest P x0 p0 S) : CMi l yX4_findCheapest (ws_X4_findCheapest) rm_X4_findCheapest D T [.ref x0, .int p0] S 0 0 P := gc_meti (by decide) rfl rfl (Nat.le_of_ble_eq_true rfl) (fun p e s m args below meth c A L C E hnm hr hw hL => t_X4_findCheapest C E   hr P x0 p0 S S L rfl hw hL hx0 h)
theorem rl_fc {P : Int32 → HS → Prop} {S : HS} {M : Nat → Prop} {x v z c : Nat} {μ : Nat → Int32} {w : Int32} (hw : WF μ) (hv : v < 6) (h1 : 1 ≤ z) (h9 : z ≤ 9) (hR : RelSc S M x μ v z) (hc : c ≤ 5) (ec : μ (274 + 510 * v + 38 + z - 1) = nI c) : ∀ (k i b fuel : Nat), i + k = c → k < fuel → b < c → P (nI (chpFold μ v z w k i b)) S → wp_X4_findCheapest_4 P fuel x w (nI b) (nI i) S := by
  have ic : iv (μ (274 + 510 * v + 38 + z - 1)) = c := by rw [ec]; exact nI_clamp (by omega)
  have r1 : hI S 100 x = nI c := hR.2.2.1.trans ec
  intro k
  induction k with
  | zero =>
    intro i b fuel hi hf hb hP
    obtain ⟨f, rfl⟩ : ∃ f, fuel = f + 1 := ⟨fuel - 1, by omega⟩; rw [wp_X4_findCheapest_4]; unfold wb_X4_findCheapest_4; dsimp only
    rw [r1, nI_leI (by omega) (by omega)]
    exact ⟨fun _ => hP, fun z9 => absurd (by omega) z9⟩
  | succ k ih =>
    intro i b fuel hi hf hb hP
    obtain ⟨f, rfl⟩ : ∃ f, fuel = f + 1 := ⟨fuel - 1, by omega⟩; rw [wp_X4_findCheapest_4]; unfold wb_X4_findCheapest_4; dsimp only
    rw [r1, nI_leI (by omega) (by omega), nz_lt0 (by omega), nI_1, show iv (nI i) = i from nI_clamp (by omega), show iv (nI b) = b from nI_clamp (by omega)]
    rw [chpFold] at hP
    refine ⟨fun z9 => absurd z9 (by omega), fun _ => ⟨fun z9 => absurd z9 (by decide), fun _ => ⟨M, μ, v, z, ⟨hw, hv, h1, h9, hR, i, by omega, rfl⟩, M, μ, v, z, ⟨hw, hv, h1, h9, hR, b, by omega, rfl⟩, fun c9 v23 e23 => ?_, fun c9 v23 e23 => ?_⟩⟩⟩
    · subst e23
      rw [if_neg (Int32.not_lt.mpr c9)] at hP
      exact ih (i + 1) b f (by omega) (by omega) hb hP
    · subst e23
      rw [if_pos (Int32.not_le.mp c9)] at hP
      exact ih (i + 1) i f (by omega) (by omega) (by omega) hP
theorem k_X4_findCheapest (l : Launch) (D : va_G) (T : Nat → ClassId) (x0 : Nat) (p0 : Int32) (S : HS) (e0 : (Nat → Prop)) (e1 : Nat → Int32) (e2 : Nat) (e3 : Nat) (hx0 : hK S x0 = 5) (h : WF e1 ∧ e2 < 6 ∧ 1 ≤ e3 ∧ e3 ≤ 9 ∧ RelSc S e0 x0 e1 e2 e3) : CMi l yX4_findCheapest (ws_X4_findCheapest) rm_X4_findCheapest D T [.ref x0, .int p0] S 0 0 (fun v S1 => v = ((if e1 (274 + 510 * e2 + 38 + e3 - 1) = 0 then -1 else nI (chpF e1 e2 e3 p0))) ∧ S1 = S) := c_X4_findCheapest l D T x0 p0 S hx0 _ <|
  (by
    obtain ⟨hw, hv, h1, h9, hR⟩ := h
    obtain ⟨c, hc, ec⟩ := hw.brk hv h1 h9
    have ic : iv (e1 (274 + 510 * e2 + 38 + e3 - 1)) = c := by rw [ec]; exact nI_clamp (by omega)
    have r1 : hI S 100 x0 = nI c := hR.2.2.1.trans ec
    unfold wp_X4_findCheapest
    refine ⟨20, ?_⟩
    rw [wp_X4_findCheapest_4]; unfold wb_X4_findCheapest_4; dsimp only
    rw [r1, nz_le0 (by omega)]
    refine ⟨fun c9 => ⟨?_, rfl⟩, fun c9 => ⟨fun _ v3 e3' => ?_, fun z9 => absurd (by decide) z9⟩⟩
    · rw [ec, show c = 0 by omega, if_pos (show nI 0 = 0 from rfl)]
    · subst e3'
      refine rl_fc hw hv h1 h9 hR hc ec (c - 1) 1 0 19 (by omega) (by omega) (by omega) ⟨?_, rfl⟩
      rw [if_neg (fun z9 => by rw [ec, nz_eq0 (by omega)] at z9; omega)]
      unfold chpF
      rw [ic])
abbrev ws_X4_chargeFor : List Cond := Cond.code yX4_chargeFor cX4_chargeFor 3 (some .int) :: W0
abbrev rm_X4_chargeFor : Room := ({ frames := 2, cells := 0, slots := 0, locals := 43 } : Room)
def wp_X4_chargeFor (P : Int32 → HS → Prop) (x0 : Nat) (p0 : Int32) (p1 : Int32) (S : HS) : Prop := ∃ (m1 : (Nat → Prop)) (m2 : Nat → Int32) (m3 : Nat) (m4 : Nat), ((WF m2 ∧ m3 < 6 ∧ 1 ≤ m4 ∧ m4 ≤ 9 ∧ RelSc S m1 x0 m2 m3 m4 ∧ ∃ i : Nat, i < iv (m2 (274 + 510 * m3 + 38 + m4 - 1)) ∧ p0 = nI i) ∧ (P (if (amtF m2 m3 m4 (iv p0) p1) < (hI S 103 x0) then (hI S 103 x0) else (amtF m2 m3 m4 (iv p0) p1)) S))
set_option maxRecDepth 100000 in
set_option maxHeartbeats 4000000 in
theorem t_X4_chargeFor {p : Program} {l : Launch} {e : Env} {s : State} {m : MethodId} {args : Array Value} {below : List Frame} {meth : Method} {c : Code} {D : va_G} {A : Nat → Prop} {T : Nat → ClassId} (C : GC p s m args meth c cX4_chargeFor "FreightRater$Scale" (ws_X4_chargeFor) 3 D A (zty T)) (E : GE T A s) (hr : meth.sig.returnType = (some .int)) (P : Int32 → HS → Prop) : ∀ (x0 : Nat) (p0 : Int32) (p1 : Int32) (S0 S : HS) (L : List Nat), S0 = S → wt S → hL S L → (hK S x0 = 5) → wp_X4_chargeFor P x0 p0 p1 S → GW p l e { rm_X4_chargeFor with cells := 0, slots := 0 } s m args below meth c D A 3 0 0 (MQ below (va_Qi (fun v (u : HS × List Nat) => P v u.1 ∧ CO S0 u) (CE D T A) A) args s 0 0 A) (CW T S L) 0 0 0 [(0, .ref x0), (1, .int p0), (2, .int p1)] [] := by
  have hW : ∀ {w : Cond}, w ∈ W0 → w.before args s = true := fun h => C.2.2.2.2.1 _ (List.mem_cons_of_mem _ h)
  intro x0 p0 p1 S0 S L hS0 hw hL hx0 h
  have he : ext S0 S := by rw [hS0]; exact ext_rf
  unfold wp_X4_chargeFor at h
  refine g_aload_n C dX4_chargeFor_0 rfl 0 rfl ?_
  refine g_iload_n C dX4_chargeFor_1 rfl 1 rfl ?_
  refine g_iload_n C dX4_chargeFor_2 rfl 2 rfl ?_
  obtain ⟨m1, m2, m3, m4, h⟩ := h
  obtain ⟨g5, h⟩ := h
  refine gc_calliV (host := "") C E hw hL hx0 (by decide) (by decide) rfl [.int p0, .int p1] rfl (k_X4_amountBy l D T x0 p0 p1 S m1 m2 m3 m4 hx0 g5) (w0_V 2 C.2.2.2.2.1 kw_1054 kw_1056 ks_24 kw_15 kw_1057 rfl rfl (by decide +kernel) ⟨Nat.le_of_ble_eq_true rfl, Nat.le_of_ble_eq_true rfl⟩) rfl (Nat.le_of_ble_eq_true rfl) (Nat.le_refl _) (Nat.le_refl _) (Nat.zero_le _) (Nat.zero_le _) dX4_chargeFor_3 (fun v9 S9 L6 he9 hw9 hL9 hp => ?_)
  obtain ⟨hv9, hs9⟩ := hp
  replace hs9 := hs9.symm
  subst hs9
  replace hv9 := hv9.symm
  subst hv9
  have w9 := hL9
  refine g_aload_n C dX4_chargeFor_6 rfl 0 rfl ?_
  refine gc_getI C iwx_X4 w9 hx0 (by decide) (by decide) rfl 3 (by decide) (hW kw_402) rfl rfl rfl dX4_chargeFor_7 ?_
  refine g_mmax C (hW kw_1058) (hW kw_626) (hW kw_18) (hW kw_627) (Nat.le_of_ble_eq_true rfl) (Nat.le_of_ble_eq_true rfl) (Nat.le_refl _) (Nat.le_refl _) dX4_chargeFor_10 ?_
  exact gc_iret C hw w9 he hr dX4_chargeFor_13 h
theorem c_X4_chargeFor (l : Launch) (D : va_G) (T : Nat → ClassId) (x0 : Nat) (p0 : Int32) (p1 : Int32) (S : HS) (hx0 : hK S x0 = 5) (P : Int32 → HS → Prop) (h : wp_X4_chargeFor P x0 p0 p1 S) : CMi l yX4_chargeFor (ws_X4_chargeFor) rm_X4_chargeFor D T [.ref x0, .int p0, .int p1] S 0 0 P := gc_meti (by decide) rfl rfl (Nat.le_of_ble_eq_true rfl) (fun p e s m args below meth c A L C E hnm hr hw hL => t_X4_chargeFor C E   hr P x0 p0 p1 S S L rfl hw hL hx0 h)
theorem k_X4_chargeFor (l : Launch) (D : va_G) (T : Nat → ClassId) (x0 : Nat) (p0 : Int32) (p1 : Int32) (S : HS) (e0 : (Nat → Prop)) (e1 : Nat → Int32) (e2 : Nat) (e3 : Nat) (hx0 : hK S x0 = 5) (h : WF e1 ∧ e2 < 6 ∧ 1 ≤ e3 ∧ e3 ≤ 9 ∧ RelSc S e0 x0 e1 e2 e3 ∧ p0 = nI (chpF e1 e2 e3 p1) ∧ ¬ e1 (274 + 510 * e2 + 38 + e3 - 1) = 0) : CMi l yX4_chargeFor (ws_X4_chargeFor) rm_X4_chargeFor D T [.ref x0, .int p0, .int p1] S 0 0 (fun v S1 => v = (baseF e1 e2 e3 p1) ∧ S1 = S) := c_X4_chargeFor l D T x0 p0 p1 S hx0 _ <|
  (by
    obtain ⟨hw, hv, h1, h9, hR, ep, hne⟩ := h
    obtain ⟨c, hc, ec⟩ := hw.brk hv h1 h9
    have ic : iv (e1 (274 + 510 * e2 + 38 + e3 - 1)) = c := by rw [ec]; exact nI_clamp (by omega)
    have hc0 : 0 < c := by
      rcases Nat.eq_zero_or_pos c with z9 | z9
      · subst z9; exact absurd ec hne
      · exact z9
    have hlt : chpF e1 e2 e3 p1 < c := by
      have gen : ∀ k i b, i + k = c → b < c → chpFold e1 e2 e3 p1 k i b < c := by
        intro k
        induction k with
        | zero => intro i b _ hb; exact hb
        | succ k ih =>
          intro i b hi hb
          rw [chpFold]
          refine ih (i + 1) _ (by omega) ?_
          split
          · omega
          · exact hb
      unfold chpF
      rw [ic]
      exact gen (c - 1) 1 0 (by omega) hc0
    have r2 : hI S 103 x0 = e1 (274 + 510 * e2 + 137 + e3 - 1) := hR.2.2.2.1
    unfold wp_X4_chargeFor
    refine ⟨e0, e1, e2, e3, ⟨hw, hv, h1, h9, hR, chpF e1 e2 e3 p1, by rw [ic]; exact hlt, ep⟩, ?_, rfl⟩
    unfold baseF
    rw [r2, ep, show iv (nI (chpF e1 e2 e3 p1)) = chpF e1 e2 e3 p1 from nI_clamp (by omega)])

end S_C1A
