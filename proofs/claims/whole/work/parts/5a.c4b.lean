section S_C4B
abbrev ws_X4_init : List Cond := Cond.code yX4_init cX4_init 1 none :: W0
abbrev rm_X4_init : Room := ({ frames := 1, cells := 0, slots := 0, locals := 20 } : Room)
def wp_X4_init (P : HS → Prop) (x0 : Nat) (S : HS) (mc ms : Nat) : Prop := ((¬ 5 < (0 : Int32) ∧ (Int32.toNatClampNeg 5) ≤ 100000000) ∧ 1 ≤ mc ∧ (Int32.toNatClampNeg 5) ≤ ms) ∧ (∀ q1 : Nat, hK S q1 = 0 → zr S q1 → (∀ S8 : HS, S8 = newA S q1 22 (Int32.toNatClampNeg 5) → (∀ S15 : HS, S15 = putR S8 101 x0 (some q1) → (((¬ 5 < (0 : Int32) ∧ (Int32.toNatClampNeg 5) ≤ 100000000) ∧ 1 ≤ (mc - 1) ∧ (Int32.toNatClampNeg 5) ≤ (ms - (Int32.toNatClampNeg 5))) ∧ (∀ q20 : Nat, hK S15 q20 = 0 → zr S15 q20 → (∀ S27 : HS, S27 = newA S15 q20 22 (Int32.toNatClampNeg 5) → (∀ S34 : HS, S34 = putR S27 102 x0 (some q20) → (P S34))))))))
set_option maxRecDepth 100000 in
set_option maxHeartbeats 4000000 in
theorem t_X4_init {p : Program} {l : Launch} {e : Env} {s : State} {m : MethodId} {args : Array Value} {below : List Frame} {meth : Method} {c : Code} {D : va_G} {A : Nat → Prop} {T : Nat → ClassId} (C : GC p s m args meth c cX4_init "FreightRater$Scale" (ws_X4_init) 1 D A (zty T)) (E : GE T A s) (hr : meth.sig.returnType = none) (hin : meth.name = "<init>") (P : HS → Prop) : ∀ (x0 : Nat) (S0 S : HS) (mc ms : Nat) (L : List Nat), S0 = S → wt S → hL S L → (hK S x0 = 5) → wp_X4_init P x0 S mc ms → GW p l e { rm_X4_init with cells := mc, slots := ms } s m args below meth c D A 1 mc ms (MQ below (va_Qv (fun (u : HS × List Nat) => P u.1 ∧ CO S0 u) (CE D T A) A) args s mc ms A) (CW T S L) mc ms 0 [(0, .ref x0)] [] := by
  have hW : ∀ {w : Cond}, w ∈ W0 → w.before args s = true := fun h => C.2.2.2.2.1 _ (List.mem_cons_of_mem _ h)
  intro x0 S0 S mc ms L hS0 hw hL hx0 h
  have he : ext S0 S := by rw [hS0]; exact ext_rf
  unfold wp_X4_init at h
  refine g_aload_n C dX4_init_0 rfl 0 rfl ?_
  refine g_objInit C (hW kw_392) (hW kw_46) (hW kw_47) dX4_init_1 (Nat.le_of_ble_eq_true rfl) (Nat.le_of_ble_eq_true rfl) ?_
  refine g_aload_n C dX4_init_4 rfl 0 rfl ?_
  refine g_iconst (v := 5) C dX4_init_5 (by decide) ?_
  obtain ⟨g2, h⟩ := h
  refine gc_newi C E hw hL (Nat.le_refl _) (Nat.le_refl _) (hW kw_91) g2.1.1 g2.1.2 g2.2.1 g2.2.2 dX4_init_6 (fun q1 h0q1 zq1 => ?_)
  replace h := h q1 h0q1 zq1
  have g3 := newA_old 22 (Int32.toNatClampNeg 5) hx0 (by decide) h0q1
  have w4 := wt_newA hw 22 (Int32.toNatClampNeg 5) h0q1 (by decide)
  have w5 := hL_new (S' := newA S q1 22 (Int32.toNatClampNeg 5)) hL (show 22 ≠ 0 by decide) rfl
  have w6 := ext_newA he h0q1 22 (Int32.toNatClampNeg 5)
  have g7 := newA_self S q1 22 (Int32.toNatClampNeg 5)
  refine gc_nS (fun S8 eS8 => ?_)
  replace h := h S8 eS8
  have w9 : wt S8 := by rw [eS8]; exact w4
  have w10 : isL S8 (L ++ [q1]) := by rw [eS8]; exact w5
  have w11 : ext S0 S8 := by rw [eS8]; exact w6
  have g12 : hK S8 q1 = 22 := by rw [eS8]; exact g7
  have g13 : hK S8 x0 = 5 := by rw [eS8]; exact g3
  refine gc_putRF C iwx_X4 w10 g13 (by decide) (by decide) rfl 1 (by decide) (hW kw_397) rfl tyX4 tyX4_ok nmX4 rfl rfl rfl hin rfl (some q1) rfl rfl dX4_init_8 ?_
  have w14 := wt_putR w9 101 (some q1) (k_ne g13 (by decide)) (fun b hb => by cases hb; exact g12) (by decide)
  refine gc_nS (fun S15 eS15 => ?_)
  replace h := h S15 eS15
  have w16 : wt S15 := by rw [eS15]; exact w14
  have w17 : isL S15 (L ++ [q1]) := by rw [eS15]; exact w10
  have w18 : ext S0 S15 := by rw [eS15]; exact w11
  have g19 : hK S15 x0 = 5 := by rw [eS15]; exact g13
  refine g_aload_n C dX4_init_11 rfl 0 rfl ?_
  refine g_iconst (v := 5) C dX4_init_12 (by decide) ?_
  obtain ⟨g21, h⟩ := h
  refine gc_newi C E w16 w17 (Nat.le_refl _) (Nat.le_refl _) (hW kw_91) g21.1.1 g21.1.2 g21.2.1 g21.2.2 dX4_init_13 (fun q20 h0q20 zq20 => ?_)
  replace h := h q20 h0q20 zq20
  have g22 := newA_old 22 (Int32.toNatClampNeg 5) g19 (by decide) h0q20
  have w23 := wt_newA w16 22 (Int32.toNatClampNeg 5) h0q20 (by decide)
  have w24 := hL_new (S' := newA S15 q20 22 (Int32.toNatClampNeg 5)) w17 (show 22 ≠ 0 by decide) rfl
  have w25 := ext_newA w18 h0q20 22 (Int32.toNatClampNeg 5)
  have g26 := newA_self S15 q20 22 (Int32.toNatClampNeg 5)
  refine gc_nS (fun S27 eS27 => ?_)
  replace h := h S27 eS27
  have w28 : wt S27 := by rw [eS27]; exact w23
  have w29 : isL S27 ((L ++ [q1]) ++ [q20]) := by rw [eS27]; exact w24
  have w30 : ext S0 S27 := by rw [eS27]; exact w25
  have g31 : hK S27 q20 = 22 := by rw [eS27]; exact g26
  have g32 : hK S27 x0 = 5 := by rw [eS27]; exact g22
  refine gc_putRF C iwx_X4 w29 g32 (by decide) (by decide) rfl 2 (by decide) (hW kw_400) rfl tyX4 tyX4_ok nmX4 rfl rfl rfl hin rfl (some q20) rfl rfl dX4_init_15 ?_
  have w33 := wt_putR w28 102 (some q20) (k_ne g32 (by decide)) (fun b hb => by cases hb; exact g31) (by decide)
  refine gc_nS (fun S34 eS34 => ?_)
  replace h := h S34 eS34
  have w35 : wt S34 := by rw [eS34]; exact w33
  have w36 : isL S34 ((L ++ [q1]) ++ [q20]) := by rw [eS34]; exact w29
  have w37 : ext S0 S34 := by rw [eS34]; exact w30
  have g38 : hK S34 x0 = 5 := by rw [eS34]; exact g32
  exact gc_vret C w35 w36 w37 hr dX4_init_18 h
theorem c_X4_init (l : Launch) (D : va_G) (T : Nat → ClassId) (x0 : Nat) (S : HS) (mc ms : Nat) (hx0 : hK S x0 = 5) (P : HS → Prop) (h : wp_X4_init P x0 S mc ms) : CMv l yX4_init (ws_X4_init) rm_X4_init D T [.ref x0] S mc ms P := gc_metv (by decide) rfl rfl (Nat.le_of_ble_eq_true rfl) (fun p e s m args below meth c A L C E hnm hr hw hL => t_X4_init C E   hr hnm P x0 S S mc ms L rfl hw hL hx0 h)
theorem k_X4_init (l : Launch) (D : va_G) (T : Nat → ClassId) (x0 : Nat) (S : HS) (mc ms : Nat) (hx0 : hK S x0 = 5) (h : 2 ≤ mc ∧ 10 ≤ ms) : CMv l yX4_init (ws_X4_init) rm_X4_init D T [.ref x0] S mc ms (fun S1 => (∃ w p, hK S w = 0 ∧ zr S w ∧ hK (putR (newA S w 22 5) 101 x0 (some w)) p = 0 ∧ zr (putR (newA S w 22 5) 101 x0 (some w)) p ∧ S1 = putR (newA (putR (newA S w 22 5) 101 x0 (some w)) p 22 5) 102 x0 (some p))) := c_X4_init l D T x0 S mc ms hx0 _ <|
  (by
    unfold wp_X4_init
    rw [show Int32.toNatClampNeg 5 = 5 by decide]
    refine ⟨⟨⟨by decide, by decide⟩, by omega, by omega⟩, fun w h0 hz S8 e8 S15 e15 => ?_⟩
    rw [e8] at e15
    rw [e15]
    exact ⟨⟨⟨by decide, by decide⟩, by omega, by omega⟩, fun p h1 hz1 S27 e27 S34 e34 => ⟨w, p, h0, hz, h1, hz1, by rw [e34, e27]⟩⟩)
abbrev ws_X2_init : List Cond := Cond.code yX2_init cX2_init 1 none :: W0
abbrev rm_X2_init : Room := ({ frames := 1, cells := 0, slots := 0, locals := 20 } : Room)
def wp_X2_init (P : HS → Prop) (x0 : Nat) (S : HS) (mc ms : Nat) : Prop := ((¬ 10 < (0 : Int32) ∧ (Int32.toNatClampNeg 10) ≤ 100000000) ∧ 1 ≤ mc ∧ (Int32.toNatClampNeg 10) ≤ ms) ∧ (∀ q1 : Nat, hK S q1 = 0 → zr S q1 → (∀ S8 : HS, S8 = newA S q1 27 (Int32.toNatClampNeg 10) → (∀ S15 : HS, S15 = putR S8 61 x0 (some q1) → (((¬ 10 < (0 : Int32) ∧ (Int32.toNatClampNeg 10) ≤ 100000000) ∧ 1 ≤ (mc - 1) ∧ (Int32.toNatClampNeg 10) ≤ (ms - (Int32.toNatClampNeg 10))) ∧ (∀ q20 : Nat, hK S15 q20 = 0 → zr S15 q20 → (∀ S27 : HS, S27 = newA S15 q20 22 (Int32.toNatClampNeg 10) → (∀ S34 : HS, S34 = putR S27 62 x0 (some q20) → (P S34))))))))
set_option maxRecDepth 100000 in
set_option maxHeartbeats 4000000 in
theorem t_X2_init {p : Program} {l : Launch} {e : Env} {s : State} {m : MethodId} {args : Array Value} {below : List Frame} {meth : Method} {c : Code} {D : va_G} {A : Nat → Prop} {T : Nat → ClassId} (C : GC p s m args meth c cX2_init "FreightRater$Rating" (ws_X2_init) 1 D A (zty T)) (E : GE T A s) (hr : meth.sig.returnType = none) (hin : meth.name = "<init>") (P : HS → Prop) : ∀ (x0 : Nat) (S0 S : HS) (mc ms : Nat) (L : List Nat), S0 = S → wt S → hL S L → (hK S x0 = 3) → wp_X2_init P x0 S mc ms → GW p l e { rm_X2_init with cells := mc, slots := ms } s m args below meth c D A 1 mc ms (MQ below (va_Qv (fun (u : HS × List Nat) => P u.1 ∧ CO S0 u) (CE D T A) A) args s mc ms A) (CW T S L) mc ms 0 [(0, .ref x0)] [] := by
  have hW : ∀ {w : Cond}, w ∈ W0 → w.before args s = true := fun h => C.2.2.2.2.1 _ (List.mem_cons_of_mem _ h)
  intro x0 S0 S mc ms L hS0 hw hL hx0 h
  have he : ext S0 S := by rw [hS0]; exact ext_rf
  unfold wp_X2_init at h
  refine g_aload_n C dX2_init_0 rfl 0 rfl ?_
  refine g_objInit C (hW kw_132) (hW kw_46) (hW kw_47) dX2_init_1 (Nat.le_of_ble_eq_true rfl) (Nat.le_of_ble_eq_true rfl) ?_
  refine g_aload_n C dX2_init_4 rfl 0 rfl ?_
  refine g_bipush (v := 10) C dX2_init_5 (by decide) ?_
  obtain ⟨g2, h⟩ := h
  refine gc_anew (kd := 27) C E hw hL (Nat.le_refl _) (Nat.le_refl _) (show "FreightRater$Shipment" ∈ overL by decide) (by decide) rfl (hW kw_133) g2.1.1 g2.1.2 g2.2.1 g2.2.2 dX2_init_7 (fun q1 h0q1 zq1 => ?_)
  replace h := h q1 h0q1 zq1
  have g3 := newA_old 27 (Int32.toNatClampNeg 10) hx0 (by decide) h0q1
  have w4 := wt_newA hw 27 (Int32.toNatClampNeg 10) h0q1 (by decide)
  have w5 := hL_new (S' := newA S q1 27 (Int32.toNatClampNeg 10)) hL (show 27 ≠ 0 by decide) rfl
  have w6 := ext_newA he h0q1 27 (Int32.toNatClampNeg 10)
  have g7 := newA_self S q1 27 (Int32.toNatClampNeg 10)
  refine gc_nS (fun S8 eS8 => ?_)
  replace h := h S8 eS8
  have w9 : wt S8 := by rw [eS8]; exact w4
  have w10 : isL S8 (L ++ [q1]) := by rw [eS8]; exact w5
  have w11 : ext S0 S8 := by rw [eS8]; exact w6
  have g12 : hK S8 q1 = 27 := by rw [eS8]; exact g7
  have g13 : hK S8 x0 = 3 := by rw [eS8]; exact g3
  refine gc_putRF C iwx_X2 w10 g13 (by decide) (by decide) rfl 1 (by decide) (hW kw_135) rfl tyX2 tyX2_ok nmX2 rfl rfl rfl hin rfl (some q1) rfl rfl dX2_init_10 ?_
  have w14 := wt_putR w9 61 (some q1) (k_ne g13 (by decide)) (fun b hb => by cases hb; exact g12) (by decide)
  refine gc_nS (fun S15 eS15 => ?_)
  replace h := h S15 eS15
  have w16 : wt S15 := by rw [eS15]; exact w14
  have w17 : isL S15 (L ++ [q1]) := by rw [eS15]; exact w10
  have w18 : ext S0 S15 := by rw [eS15]; exact w11
  have g19 : hK S15 x0 = 3 := by rw [eS15]; exact g13
  refine g_aload_n C dX2_init_13 rfl 0 rfl ?_
  refine g_bipush (v := 10) C dX2_init_14 (by decide) ?_
  obtain ⟨g21, h⟩ := h
  refine gc_newi C E w16 w17 (Nat.le_refl _) (Nat.le_refl _) (hW kw_91) g21.1.1 g21.1.2 g21.2.1 g21.2.2 dX2_init_16 (fun q20 h0q20 zq20 => ?_)
  replace h := h q20 h0q20 zq20
  have g22 := newA_old 22 (Int32.toNatClampNeg 10) g19 (by decide) h0q20
  have w23 := wt_newA w16 22 (Int32.toNatClampNeg 10) h0q20 (by decide)
  have w24 := hL_new (S' := newA S15 q20 22 (Int32.toNatClampNeg 10)) w17 (show 22 ≠ 0 by decide) rfl
  have w25 := ext_newA w18 h0q20 22 (Int32.toNatClampNeg 10)
  have g26 := newA_self S15 q20 22 (Int32.toNatClampNeg 10)
  refine gc_nS (fun S27 eS27 => ?_)
  replace h := h S27 eS27
  have w28 : wt S27 := by rw [eS27]; exact w23
  have w29 : isL S27 ((L ++ [q1]) ++ [q20]) := by rw [eS27]; exact w24
  have w30 : ext S0 S27 := by rw [eS27]; exact w25
  have g31 : hK S27 q20 = 22 := by rw [eS27]; exact g26
  have g32 : hK S27 x0 = 3 := by rw [eS27]; exact g22
  refine gc_putRF C iwx_X2 w29 g32 (by decide) (by decide) rfl 2 (by decide) (hW kw_136) rfl tyX2 tyX2_ok nmX2 rfl rfl rfl hin rfl (some q20) rfl rfl dX2_init_18 ?_
  have w33 := wt_putR w28 62 (some q20) (k_ne g32 (by decide)) (fun b hb => by cases hb; exact g31) (by decide)
  refine gc_nS (fun S34 eS34 => ?_)
  replace h := h S34 eS34
  have w35 : wt S34 := by rw [eS34]; exact w33
  have w36 : isL S34 ((L ++ [q1]) ++ [q20]) := by rw [eS34]; exact w29
  have w37 : ext S0 S34 := by rw [eS34]; exact w30
  have g38 : hK S34 x0 = 3 := by rw [eS34]; exact g32
  exact gc_vret C w35 w36 w37 hr dX2_init_21 h
theorem c_X2_init (l : Launch) (D : va_G) (T : Nat → ClassId) (x0 : Nat) (S : HS) (mc ms : Nat) (hx0 : hK S x0 = 3) (P : HS → Prop) (h : wp_X2_init P x0 S mc ms) : CMv l yX2_init (ws_X2_init) rm_X2_init D T [.ref x0] S mc ms P := gc_metv (by decide) rfl rfl (Nat.le_of_ble_eq_true rfl) (fun p e s m args below meth c A L C E hnm hr hw hL => t_X2_init C E   hr hnm P x0 S S mc ms L rfl hw hL hx0 h)
theorem k_X2_init (l : Launch) (D : va_G) (T : Nat → ClassId) (x0 : Nat) (S : HS) (mc ms : Nat) (hx0 : hK S x0 = 3) (h : 2 ≤ mc ∧ 20 ≤ ms) : CMv l yX2_init (ws_X2_init) rm_X2_init D T [.ref x0] S mc ms (fun S1 => (∃ w p, hK S w = 0 ∧ zr S w ∧ hK (putR (newA S w 27 10) 61 x0 (some w)) p = 0 ∧ zr (putR (newA S w 27 10) 61 x0 (some w)) p ∧ S1 = putR (newA (putR (newA S w 27 10) 61 x0 (some w)) p 22 10) 62 x0 (some p))) := c_X2_init l D T x0 S mc ms hx0 _ <|
  (by
    unfold wp_X2_init
    rw [show Int32.toNatClampNeg 10 = 10 by decide]
    refine ⟨⟨⟨by decide, by decide⟩, by omega, by omega⟩, fun w h0 hz S8 e8 S15 e15 => ?_⟩
    rw [e8] at e15
    rw [e15]
    exact ⟨⟨⟨by decide, by decide⟩, by omega, by omega⟩, fun p h1 hz1 S27 e27 S34 e34 => ⟨w, p, h0, hz, h1, hz1, by rw [e34, e27]⟩⟩)
abbrev ws_X5_init : List Cond := Cond.code yX5_init cX5_init 5 none :: W0
abbrev rm_X5_init : Room := ({ frames := 1, cells := 0, slots := 0, locals := 20 } : Room)
def wp_X5_init (P : HS → Prop) (x0 : Nat) (p0 : Int32) (p1 : Int32) (p2 : Int32) (p3 : Int32) (S : HS) (mc ms : Nat) : Prop := ∀ S2 : HS, S2 = putI S 128 x0 (-1) → (∀ S8 : HS, S8 = putI S2 120 x0 p0 → (∀ S14 : HS, S14 = putI S8 121 x0 p1 → (∀ S20 : HS, S20 = putI S14 122 x0 p2 → (∀ S26 : HS, S26 = putI S20 123 x0 p3 → (((¬ 5 < (0 : Int32) ∧ (Int32.toNatClampNeg 5) ≤ 100000000) ∧ 1 ≤ mc ∧ (Int32.toNatClampNeg 5) ≤ ms) ∧ (∀ q31 : Nat, hK S26 q31 = 0 → zr S26 q31 → (∀ S38 : HS, S38 = newA S26 q31 22 (Int32.toNatClampNeg 5) → (∀ S45 : HS, S45 = putR S38 125 x0 (some q31) → (P S45)))))))))
set_option maxRecDepth 100000 in
set_option maxHeartbeats 4000000 in
theorem t_X5_init {p : Program} {l : Launch} {e : Env} {s : State} {m : MethodId} {args : Array Value} {below : List Frame} {meth : Method} {c : Code} {D : va_G} {A : Nat → Prop} {T : Nat → ClassId} (C : GC p s m args meth c cX5_init "FreightRater$Shipment" (ws_X5_init) 5 D A (zty T)) (E : GE T A s) (hr : meth.sig.returnType = none) (hin : meth.name = "<init>") (P : HS → Prop) : ∀ (x0 : Nat) (p0 : Int32) (p1 : Int32) (p2 : Int32) (p3 : Int32) (S0 S : HS) (mc ms : Nat) (L : List Nat), S0 = S → wt S → hL S L → (hK S x0 = 6) → wp_X5_init P x0 p0 p1 p2 p3 S mc ms → GW p l e { rm_X5_init with cells := mc, slots := ms } s m args below meth c D A 5 mc ms (MQ below (va_Qv (fun (u : HS × List Nat) => P u.1 ∧ CO S0 u) (CE D T A) A) args s mc ms A) (CW T S L) mc ms 0 [(0, .ref x0), (1, .int p0), (2, .int p1), (3, .int p2), (4, .int p3)] [] := by
  have hW : ∀ {w : Cond}, w ∈ W0 → w.before args s = true := fun h => C.2.2.2.2.1 _ (List.mem_cons_of_mem _ h)
  intro x0 p0 p1 p2 p3 S0 S mc ms L hS0 hw hL hx0 h
  have he : ext S0 S := by rw [hS0]; exact ext_rf
  unfold wp_X5_init at h
  refine g_aload_n C dX5_init_0 rfl 0 rfl ?_
  refine g_objInit C (hW kw_1078) (hW kw_46) (hW kw_47) dX5_init_1 (Nat.le_of_ble_eq_true rfl) (Nat.le_of_ble_eq_true rfl) ?_
  refine g_aload_n C dX5_init_4 rfl 0 rfl ?_
  refine g_iconst (v := -1) C dX5_init_5 (by decide) ?_
  refine gc_putI C iwx_X5 hL hx0 (by decide) (by decide) rfl 8 (by decide) (hW kw_1101) rfl tyX5 tyX5_ok nmX5 rfl rfl rfl rfl rfl dX5_init_6 ?_
  have w1 := wt_putI hw 128 (-1) (k_ne hx0 (by decide))
  refine gc_nS (fun S2 eS2 => ?_)
  replace h := h S2 eS2
  have w3 : wt S2 := by rw [eS2]; exact w1
  have w4 : isL S2 L := by rw [eS2]; exact hL
  have w5 : ext S0 S2 := by rw [eS2]; exact he
  have g6 : hK S2 x0 = 6 := by rw [eS2]; exact hx0
  refine g_aload_n C dX5_init_9 rfl 0 rfl ?_
  refine g_iload_n C dX5_init_10 rfl 1 rfl ?_
  refine gc_putI C iwx_X5 w4 g6 (by decide) (by decide) rfl 0 (by decide) (hW kw_1079) rfl tyX5 tyX5_ok nmX5 rfl rfl rfl rfl rfl dX5_init_11 ?_
  have w7 := wt_putI w3 120 p0 (k_ne g6 (by decide))
  refine gc_nS (fun S8 eS8 => ?_)
  replace h := h S8 eS8
  have w9 : wt S8 := by rw [eS8]; exact w7
  have w10 : isL S8 L := by rw [eS8]; exact w4
  have w11 : ext S0 S8 := by rw [eS8]; exact w5
  have g12 : hK S8 x0 = 6 := by rw [eS8]; exact g6
  refine g_aload_n C dX5_init_14 rfl 0 rfl ?_
  refine g_iload_n C dX5_init_15 rfl 2 rfl ?_
  refine gc_putI C iwx_X5 w10 g12 (by decide) (by decide) rfl 1 (by decide) (hW kw_1082) rfl tyX5 tyX5_ok nmX5 rfl rfl rfl rfl rfl dX5_init_16 ?_
  have w13 := wt_putI w9 121 p1 (k_ne g12 (by decide))
  refine gc_nS (fun S14 eS14 => ?_)
  replace h := h S14 eS14
  have w15 : wt S14 := by rw [eS14]; exact w13
  have w16 : isL S14 L := by rw [eS14]; exact w10
  have w17 : ext S0 S14 := by rw [eS14]; exact w11
  have g18 : hK S14 x0 = 6 := by rw [eS14]; exact g12
  refine g_aload_n C dX5_init_19 rfl 0 rfl ?_
  refine g_iload_n C dX5_init_20 rfl 3 rfl ?_
  refine gc_putI C iwx_X5 w16 g18 (by decide) (by decide) rfl 2 (by decide) (hW kw_1085) rfl tyX5 tyX5_ok nmX5 rfl rfl rfl rfl rfl dX5_init_21 ?_
  have w19 := wt_putI w15 122 p2 (k_ne g18 (by decide))
  refine gc_nS (fun S20 eS20 => ?_)
  replace h := h S20 eS20
  have w21 : wt S20 := by rw [eS20]; exact w19
  have w22 : isL S20 L := by rw [eS20]; exact w16
  have w23 : ext S0 S20 := by rw [eS20]; exact w17
  have g24 : hK S20 x0 = 6 := by rw [eS20]; exact g18
  refine g_aload_n C dX5_init_24 rfl 0 rfl ?_
  refine g_iload C dX5_init_25 4 rfl ?_
  refine gc_putIF C iwx_X5 w22 g24 (by decide) (by decide) rfl 3 (by decide) (hW kw_1088) rfl tyX5 tyX5_ok nmX5 rfl rfl rfl hin rfl rfl rfl dX5_init_27 ?_
  have w25 := wt_putI w21 123 p3 (k_ne g24 (by decide))
  refine gc_nS (fun S26 eS26 => ?_)
  replace h := h S26 eS26
  have w27 : wt S26 := by rw [eS26]; exact w25
  have w28 : isL S26 L := by rw [eS26]; exact w22
  have w29 : ext S0 S26 := by rw [eS26]; exact w23
  have g30 : hK S26 x0 = 6 := by rw [eS26]; exact g24
  refine g_aload_n C dX5_init_30 rfl 0 rfl ?_
  refine g_iconst (v := 5) C dX5_init_31 (by decide) ?_
  obtain ⟨g32, h⟩ := h
  refine gc_newi C E w27 w28 (Nat.le_refl _) (Nat.le_refl _) (hW kw_91) g32.1.1 g32.1.2 g32.2.1 g32.2.2 dX5_init_32 (fun q31 h0q31 zq31 => ?_)
  replace h := h q31 h0q31 zq31
  have g33 := newA_old 22 (Int32.toNatClampNeg 5) g30 (by decide) h0q31
  have w34 := wt_newA w27 22 (Int32.toNatClampNeg 5) h0q31 (by decide)
  have w35 := hL_new (S' := newA S26 q31 22 (Int32.toNatClampNeg 5)) w28 (show 22 ≠ 0 by decide) rfl
  have w36 := ext_newA w29 h0q31 22 (Int32.toNatClampNeg 5)
  have g37 := newA_self S26 q31 22 (Int32.toNatClampNeg 5)
  refine gc_nS (fun S38 eS38 => ?_)
  replace h := h S38 eS38
  have w39 : wt S38 := by rw [eS38]; exact w34
  have w40 : isL S38 (L ++ [q31]) := by rw [eS38]; exact w35
  have w41 : ext S0 S38 := by rw [eS38]; exact w36
  have g42 : hK S38 q31 = 22 := by rw [eS38]; exact g37
  have g43 : hK S38 x0 = 6 := by rw [eS38]; exact g33
  refine gc_putRF C iwx_X5 w40 g43 (by decide) (by decide) rfl 5 (by decide) (hW kw_1094) rfl tyX5 tyX5_ok nmX5 rfl rfl rfl hin rfl (some q31) rfl rfl dX5_init_34 ?_
  have w44 := wt_putR w39 125 (some q31) (k_ne g43 (by decide)) (fun b hb => by cases hb; exact g42) (by decide)
  refine gc_nS (fun S45 eS45 => ?_)
  replace h := h S45 eS45
  have w46 : wt S45 := by rw [eS45]; exact w44
  have w47 : isL S45 (L ++ [q31]) := by rw [eS45]; exact w40
  have w48 : ext S0 S45 := by rw [eS45]; exact w41
  have g49 : hK S45 x0 = 6 := by rw [eS45]; exact g43
  exact gc_vret C w46 w47 w48 hr dX5_init_37 h
theorem c_X5_init (l : Launch) (D : va_G) (T : Nat → ClassId) (x0 : Nat) (p0 : Int32) (p1 : Int32) (p2 : Int32) (p3 : Int32) (S : HS) (mc ms : Nat) (hx0 : hK S x0 = 6) (P : HS → Prop) (h : wp_X5_init P x0 p0 p1 p2 p3 S mc ms) : CMv l yX5_init (ws_X5_init) rm_X5_init D T [.ref x0, .int p0, .int p1, .int p2, .int p3] S mc ms P := gc_metv (by decide) rfl rfl (Nat.le_of_ble_eq_true rfl) (fun p e s m args below meth c A L C E hnm hr hw hL => t_X5_init C E   hr hnm P x0 p0 p1 p2 p3 S S mc ms L rfl hw hL hx0 h)
theorem k_X5_init (l : Launch) (D : va_G) (T : Nat → ClassId) (x0 : Nat) (p0 : Int32) (p1 : Int32) (p2 : Int32) (p3 : Int32) (S : HS) (mc ms : Nat) (hx0 : hK S x0 = 6) (h : 1 ≤ mc ∧ 5 ≤ ms) : CMv l yX5_init (ws_X5_init) rm_X5_init D T [.ref x0, .int p0, .int p1, .int p2, .int p3] S mc ms (fun S1 => (∃ b, hK (putI (putI (putI (putI (putI S 128 x0 (-1)) 120 x0 p0) 121 x0 p1) 122 x0 p2) 123 x0 p3) b = 0 ∧ zr (putI (putI (putI (putI (putI S 128 x0 (-1)) 120 x0 p0) 121 x0 p1) 122 x0 p2) 123 x0 p3) b ∧ S1 = putR (newA (putI (putI (putI (putI (putI S 128 x0 (-1)) 120 x0 p0) 121 x0 p1) 122 x0 p2) 123 x0 p3) b 22 5) 125 x0 (some b))) := c_X5_init l D T x0 p0 p1 p2 p3 S mc ms hx0 _ <|
  (by
    unfold wp_X5_init
    rw [show Int32.toNatClampNeg 5 = 5 by decide]
    intro S2 e2 S8 e8 S14 e14 S20 e20 S26 e26
    rw [e2] at e8
    rw [e8] at e14
    rw [e14] at e20
    rw [e20] at e26
    rw [e26]
    exact ⟨⟨⟨by decide, by decide⟩, by omega, by omega⟩, fun w h0 hz S38 e38 S45 e45 => ⟨w, h0, hz, by rw [e45, e38]⟩⟩)

end S_C4B
