section S_C4C
abbrev ws_X3_init : List Cond := Cond.code yX3_init cX3_init 3 none :: W0
abbrev rm_X3_init : Room := ({ frames := 1, cells := 0, slots := 0, locals := 21 } : Room)
def wp_X3_init (P : HS → Prop) (x0 : Nat) (p0 : Nat) (p1 : Int32) (S : HS) : Prop := ∀ S2 : HS, S2 = putR S 80 x0 (some p0) → (∀ S9 : HS, S9 = putI S2 81 x0 (if (Int32.ofNat (hN S2 p0)) < p1 then (Int32.ofNat (hN S2 p0)) else p1) → (P S9))
set_option maxRecDepth 100000 in
set_option maxHeartbeats 4000000 in
theorem t_X3_init {p : Program} {l : Launch} {e : Env} {s : State} {m : MethodId} {args : Array Value} {below : List Frame} {meth : Method} {c : Code} {D : va_G} {A : Nat → Prop} {T : Nat → ClassId} (C : GC p s m args meth c cX3_init "FreightRater$Reader" (ws_X3_init) 3 D A (zty T)) (E : GE T A s) (hr : meth.sig.returnType = none) (hin : meth.name = "<init>") (P : HS → Prop) : ∀ (x0 : Nat) (p0 : Nat) (p1 : Int32) (S0 S : HS) (L : List Nat), S0 = S → wt S → hL S L → (hK S x0 = 4) → (hK S p0 = 21) → wp_X3_init P x0 p0 p1 S → GW p l e { rm_X3_init with cells := 0, slots := 0 } s m args below meth c D A 3 0 0 (MQ below (va_Qv (fun (u : HS × List Nat) => P u.1 ∧ CO S0 u) (CE D T A) A) args s 0 0 A) (CW T S L) 0 0 0 [(0, .ref x0), (1, .ref p0), (2, .int p1)] [] := by
  have hW : ∀ {w : Cond}, w ∈ W0 → w.before args s = true := fun h => C.2.2.2.2.1 _ (List.mem_cons_of_mem _ h)
  intro x0 p0 p1 S0 S L hS0 hw hL hx0 hp0 h
  have he : ext S0 S := by rw [hS0]; exact ext_rf
  unfold wp_X3_init at h
  refine g_aload_n C dX3_init_0 rfl 0 rfl ?_
  refine g_objInit C (hW kw_541) (hW kw_46) (hW kw_47) dX3_init_1 (Nat.le_of_ble_eq_true rfl) (Nat.le_of_ble_eq_true rfl) ?_
  refine g_aload_n C dX3_init_4 rfl 0 rfl ?_
  refine g_aload_n C dX3_init_5 rfl 1 rfl ?_
  refine gc_putRF C iwx_X3 hL hx0 (by decide) (by decide) rfl 0 (by decide) (hW kw_543) rfl tyX3 tyX3_ok nmX3 rfl rfl rfl hin rfl (some p0) rfl rfl dX3_init_6 ?_
  have w1 := wt_putR hw 80 (some p0) (k_ne hx0 (by decide)) (fun b hb => by cases hb; exact hp0) (by decide)
  refine gc_nS (fun S2 eS2 => ?_)
  replace h := h S2 eS2
  have w3 : wt S2 := by rw [eS2]; exact w1
  have w4 : isL S2 L := by rw [eS2]; exact hL
  have w5 : ext S0 S2 := by rw [eS2]; exact he
  have g6 : hK S2 x0 = 4 := by rw [eS2]; exact hx0
  have g7 : hK S2 p0 = 21 := by rw [eS2]; exact hp0
  refine g_aload_n C dX3_init_9 rfl 0 rfl ?_
  refine g_iload_n C dX3_init_10 rfl 2 rfl ?_
  refine g_aload_n C dX3_init_11 rfl 1 rfl ?_
  refine gc_alen C E w4 g7 (by decide) rfl dX3_init_12 ?_
  refine g_mmin C (hW kw_542) (hW kw_500) (hW kw_18) (hW kw_501) (Nat.le_of_ble_eq_true rfl) (Nat.le_of_ble_eq_true rfl) (Nat.le_refl _) (Nat.le_refl _) dX3_init_13 ?_
  refine gc_putIF C iwx_X3 w4 g6 (by decide) (by decide) rfl 1 (by decide) (hW kw_544) rfl tyX3 tyX3_ok nmX3 rfl rfl rfl hin rfl rfl rfl dX3_init_16 ?_
  have w8 := wt_putI w3 81 (if (Int32.ofNat (hN S2 p0)) < p1 then (Int32.ofNat (hN S2 p0)) else p1) (k_ne g6 (by decide))
  refine gc_nS (fun S9 eS9 => ?_)
  replace h := h S9 eS9
  have w10 : wt S9 := by rw [eS9]; exact w8
  have w11 : isL S9 L := by rw [eS9]; exact w4
  have w12 : ext S0 S9 := by rw [eS9]; exact w5
  have g13 : hK S9 x0 = 4 := by rw [eS9]; exact g6
  have g14 : hK S9 p0 = 21 := by rw [eS9]; exact g7
  exact gc_vret C w10 w11 w12 hr dX3_init_19 h
theorem c_X3_init (l : Launch) (D : va_G) (T : Nat → ClassId) (x0 : Nat) (p0 : Nat) (p1 : Int32) (S : HS) (hx0 : hK S x0 = 4) (hp0 : hK S p0 = 21) (P : HS → Prop) (h : wp_X3_init P x0 p0 p1 S) : CMv l yX3_init (ws_X3_init) rm_X3_init D T [.ref x0, .ref p0, .int p1] S 0 0 P := gc_metv (by decide) rfl rfl (Nat.le_of_ble_eq_true rfl) (fun p e s m args below meth c A L C E hnm hr hw hL => t_X3_init C E   hr hnm P x0 p0 p1 S S L rfl hw hL hx0 hp0 h)
/-- new rows, one after the other: kind, length, field -/
def mkA (x : Nat) : List (Nat × Nat × Nat) → HS → HS → Prop
  | [], S, S1 => S1 = S
  | (kd, n, f) :: l, S, S1 => ∃ q, hK S q = 0 ∧ zr S q ∧ mkA x l (putR (newA S q kd n) f x (some q)) S1
theorem k_X3_init (l : Launch) (D : va_G) (T : Nat → ClassId) (x0 : Nat) (p0 : Nat) (p1 : Int32) (S : HS) (hx0 : hK S x0 = 4) (hp0 : hK S p0 = 21) : CMv l yX3_init (ws_X3_init) rm_X3_init D T [.ref x0, .ref p0, .int p1] S 0 0 (fun S1 => (S1 = putI (putR S 80 x0 (some p0)) 81 x0 (if Int32.ofNat (hN S p0) < p1 then Int32.ofNat (hN S p0) else p1))) := c_X3_init l D T x0 p0 p1 S hx0 hp0 _ <|
  (by
    unfold wp_X3_init
    intro S2 e2 S9 e9
    rw [e2] at e9
    exact e9)
abbrev ws_X6_init : List Cond := Cond.code yX6_init cX6_init 1 none :: W0
abbrev rm_X6_init : Room := ({ frames := 1, cells := 0, slots := 0, locals := 20 } : Room)
def wp_X6_init (P : HS → Prop) (x0 : Nat) (S : HS) (mc ms : Nat) : Prop := ((¬ 6 < (0 : Int32) ∧ (Int32.toNatClampNeg 6) ≤ 100000000) ∧ 1 ≤ mc ∧ (Int32.toNatClampNeg 6) ≤ ms) ∧ (∀ q1 : Nat, hK S q1 = 0 → zr S q1 → (∀ S8 : HS, S8 = newA S q1 29 (Int32.toNatClampNeg 6) → (∀ S15 : HS, S15 = putR S8 140 x0 (some q1) → (((¬ 10 < (0 : Int32) ∧ (Int32.toNatClampNeg 10) ≤ 100000000) ∧ 1 ≤ (mc - 1) ∧ (Int32.toNatClampNeg 10) ≤ (ms - (Int32.toNatClampNeg 6))) ∧ (∀ q20 : Nat, hK S15 q20 = 0 → zr S15 q20 → (∀ S27 : HS, S27 = newA S15 q20 27 (Int32.toNatClampNeg 10) → (∀ S34 : HS, S34 = putR S27 142 x0 (some q20) → (((¬ 5 < (0 : Int32) ∧ (Int32.toNatClampNeg 5) ≤ 100000000) ∧ 1 ≤ ((mc - 1) - 1) ∧ (Int32.toNatClampNeg 5) ≤ ((ms - (Int32.toNatClampNeg 6)) - (Int32.toNatClampNeg 10))) ∧ (∀ q39 : Nat, hK S34 q39 = 0 → zr S34 q39 → (∀ S46 : HS, S46 = newA S34 q39 22 (Int32.toNatClampNeg 5) → (∀ S53 : HS, S53 = putR S46 144 x0 (some q39) → (((¬ 5 < (0 : Int32) ∧ (Int32.toNatClampNeg 5) ≤ 100000000) ∧ 1 ≤ (((mc - 1) - 1) - 1) ∧ (Int32.toNatClampNeg 5) ≤ (((ms - (Int32.toNatClampNeg 6)) - (Int32.toNatClampNeg 10)) - (Int32.toNatClampNeg 5))) ∧ (∀ q58 : Nat, hK S53 q58 = 0 → zr S53 q58 → (∀ S65 : HS, S65 = newA S53 q58 22 (Int32.toNatClampNeg 5) → (∀ S72 : HS, S72 = putR S65 145 x0 (some q58) → (P S72))))))))))))))))
set_option maxRecDepth 100000 in
set_option maxHeartbeats 4000000 in
theorem t_X6_init {p : Program} {l : Launch} {e : Env} {s : State} {m : MethodId} {args : Array Value} {below : List Frame} {meth : Method} {c : Code} {D : va_G} {A : Nat → Prop} {T : Nat → ClassId} (C : GC p s m args meth c cX6_init "FreightRater$State" (ws_X6_init) 1 D A (zty T)) (E : GE T A s) (hr : meth.sig.returnType = none) (hin : meth.name = "<init>") (P : HS → Prop) : ∀ (x0 : Nat) (S0 S : HS) (mc ms : Nat) (L : List Nat), S0 = S → wt S → hL S L → (hK S x0 = 7) → wp_X6_init P x0 S mc ms → GW p l e { rm_X6_init with cells := mc, slots := ms } s m args below meth c D A 1 mc ms (MQ below (va_Qv (fun (u : HS × List Nat) => P u.1 ∧ CO S0 u) (CE D T A) A) args s mc ms A) (CW T S L) mc ms 0 [(0, .ref x0)] [] := by
  have hW : ∀ {w : Cond}, w ∈ W0 → w.before args s = true := fun h => C.2.2.2.2.1 _ (List.mem_cons_of_mem _ h)
  intro x0 S0 S mc ms L hS0 hw hL hx0 h
  have he : ext S0 S := by rw [hS0]; exact ext_rf
  unfold wp_X6_init at h
  refine g_aload_n C dX6_init_0 rfl 0 rfl ?_
  refine g_objInit C (hW kw_53) (hW kw_46) (hW kw_47) dX6_init_1 (Nat.le_of_ble_eq_true rfl) (Nat.le_of_ble_eq_true rfl) ?_
  refine g_aload_n C dX6_init_4 rfl 0 rfl ?_
  refine g_bipush (v := 6) C dX6_init_5 (by decide) ?_
  obtain ⟨g2, h⟩ := h
  refine gc_anew (kd := 29) C E hw hL (Nat.le_refl _) (Nat.le_refl _) (show "FreightRater$Version" ∈ overL by decide) (by decide) rfl (hW kw_54) g2.1.1 g2.1.2 g2.2.1 g2.2.2 dX6_init_7 (fun q1 h0q1 zq1 => ?_)
  replace h := h q1 h0q1 zq1
  have g3 := newA_old 29 (Int32.toNatClampNeg 6) hx0 (by decide) h0q1
  have w4 := wt_newA hw 29 (Int32.toNatClampNeg 6) h0q1 (by decide)
  have w5 := hL_new (S' := newA S q1 29 (Int32.toNatClampNeg 6)) hL (show 29 ≠ 0 by decide) rfl
  have w6 := ext_newA he h0q1 29 (Int32.toNatClampNeg 6)
  have g7 := newA_self S q1 29 (Int32.toNatClampNeg 6)
  refine gc_nS (fun S8 eS8 => ?_)
  replace h := h S8 eS8
  have w9 : wt S8 := by rw [eS8]; exact w4
  have w10 : isL S8 (L ++ [q1]) := by rw [eS8]; exact w5
  have w11 : ext S0 S8 := by rw [eS8]; exact w6
  have g12 : hK S8 q1 = 29 := by rw [eS8]; exact g7
  have g13 : hK S8 x0 = 7 := by rw [eS8]; exact g3
  refine gc_putRF C iwx_X6 w10 g13 (by decide) (by decide) rfl 0 (by decide) (hW kw_58) rfl tyX6 tyX6_ok nmX6 rfl rfl rfl hin rfl (some q1) rfl rfl dX6_init_10 ?_
  have w14 := wt_putR w9 140 (some q1) (k_ne g13 (by decide)) (fun b hb => by cases hb; exact g12) (by decide)
  refine gc_nS (fun S15 eS15 => ?_)
  replace h := h S15 eS15
  have w16 : wt S15 := by rw [eS15]; exact w14
  have w17 : isL S15 (L ++ [q1]) := by rw [eS15]; exact w10
  have w18 : ext S0 S15 := by rw [eS15]; exact w11
  have g19 : hK S15 x0 = 7 := by rw [eS15]; exact g13
  refine g_aload_n C dX6_init_13 rfl 0 rfl ?_
  refine g_bipush (v := 10) C dX6_init_14 (by decide) ?_
  obtain ⟨g21, h⟩ := h
  refine gc_anew (kd := 27) C E w16 w17 (Nat.le_refl _) (Nat.le_refl _) (show "FreightRater$Shipment" ∈ overL by decide) (by decide) rfl (hW kw_56) g21.1.1 g21.1.2 g21.2.1 g21.2.2 dX6_init_16 (fun q20 h0q20 zq20 => ?_)
  replace h := h q20 h0q20 zq20
  have g22 := newA_old 27 (Int32.toNatClampNeg 10) g19 (by decide) h0q20
  have w23 := wt_newA w16 27 (Int32.toNatClampNeg 10) h0q20 (by decide)
  have w24 := hL_new (S' := newA S15 q20 27 (Int32.toNatClampNeg 10)) w17 (show 27 ≠ 0 by decide) rfl
  have w25 := ext_newA w18 h0q20 27 (Int32.toNatClampNeg 10)
  have g26 := newA_self S15 q20 27 (Int32.toNatClampNeg 10)
  refine gc_nS (fun S27 eS27 => ?_)
  replace h := h S27 eS27
  have w28 : wt S27 := by rw [eS27]; exact w23
  have w29 : isL S27 ((L ++ [q1]) ++ [q20]) := by rw [eS27]; exact w24
  have w30 : ext S0 S27 := by rw [eS27]; exact w25
  have g31 : hK S27 q20 = 27 := by rw [eS27]; exact g26
  have g32 : hK S27 x0 = 7 := by rw [eS27]; exact g22
  refine gc_putRF C iwx_X6 w29 g32 (by decide) (by decide) rfl 2 (by decide) (hW kw_62) rfl tyX6 tyX6_ok nmX6 rfl rfl rfl hin rfl (some q20) rfl rfl dX6_init_19 ?_
  have w33 := wt_putR w28 142 (some q20) (k_ne g32 (by decide)) (fun b hb => by cases hb; exact g31) (by decide)
  refine gc_nS (fun S34 eS34 => ?_)
  replace h := h S34 eS34
  have w35 : wt S34 := by rw [eS34]; exact w33
  have w36 : isL S34 ((L ++ [q1]) ++ [q20]) := by rw [eS34]; exact w29
  have w37 : ext S0 S34 := by rw [eS34]; exact w30
  have g38 : hK S34 x0 = 7 := by rw [eS34]; exact g32
  refine g_aload_n C dX6_init_22 rfl 0 rfl ?_
  refine g_iconst (v := 5) C dX6_init_23 (by decide) ?_
  obtain ⟨g40, h⟩ := h
  refine gc_newi C E w35 w36 (Nat.le_refl _) (Nat.le_refl _) (hW kw_91) g40.1.1 g40.1.2 g40.2.1 g40.2.2 dX6_init_24 (fun q39 h0q39 zq39 => ?_)
  replace h := h q39 h0q39 zq39
  have g41 := newA_old 22 (Int32.toNatClampNeg 5) g38 (by decide) h0q39
  have w42 := wt_newA w35 22 (Int32.toNatClampNeg 5) h0q39 (by decide)
  have w43 := hL_new (S' := newA S34 q39 22 (Int32.toNatClampNeg 5)) w36 (show 22 ≠ 0 by decide) rfl
  have w44 := ext_newA w37 h0q39 22 (Int32.toNatClampNeg 5)
  have g45 := newA_self S34 q39 22 (Int32.toNatClampNeg 5)
  refine gc_nS (fun S46 eS46 => ?_)
  replace h := h S46 eS46
  have w47 : wt S46 := by rw [eS46]; exact w42
  have w48 : isL S46 (((L ++ [q1]) ++ [q20]) ++ [q39]) := by rw [eS46]; exact w43
  have w49 : ext S0 S46 := by rw [eS46]; exact w44
  have g50 : hK S46 q39 = 22 := by rw [eS46]; exact g45
  have g51 : hK S46 x0 = 7 := by rw [eS46]; exact g41
  refine gc_putRF C iwx_X6 w48 g51 (by decide) (by decide) rfl 4 (by decide) (hW kw_68) rfl tyX6 tyX6_ok nmX6 rfl rfl rfl hin rfl (some q39) rfl rfl dX6_init_26 ?_
  have w52 := wt_putR w47 144 (some q39) (k_ne g51 (by decide)) (fun b hb => by cases hb; exact g50) (by decide)
  refine gc_nS (fun S53 eS53 => ?_)
  replace h := h S53 eS53
  have w54 : wt S53 := by rw [eS53]; exact w52
  have w55 : isL S53 (((L ++ [q1]) ++ [q20]) ++ [q39]) := by rw [eS53]; exact w48
  have w56 : ext S0 S53 := by rw [eS53]; exact w49
  have g57 : hK S53 x0 = 7 := by rw [eS53]; exact g51
  refine g_aload_n C dX6_init_29 rfl 0 rfl ?_
  refine g_iconst (v := 5) C dX6_init_30 (by decide) ?_
  obtain ⟨g59, h⟩ := h
  refine gc_newi C E w54 w55 (Nat.le_refl _) (Nat.le_refl _) (hW kw_91) g59.1.1 g59.1.2 g59.2.1 g59.2.2 dX6_init_31 (fun q58 h0q58 zq58 => ?_)
  replace h := h q58 h0q58 zq58
  have g60 := newA_old 22 (Int32.toNatClampNeg 5) g57 (by decide) h0q58
  have w61 := wt_newA w54 22 (Int32.toNatClampNeg 5) h0q58 (by decide)
  have w62 := hL_new (S' := newA S53 q58 22 (Int32.toNatClampNeg 5)) w55 (show 22 ≠ 0 by decide) rfl
  have w63 := ext_newA w56 h0q58 22 (Int32.toNatClampNeg 5)
  have g64 := newA_self S53 q58 22 (Int32.toNatClampNeg 5)
  refine gc_nS (fun S65 eS65 => ?_)
  replace h := h S65 eS65
  have w66 : wt S65 := by rw [eS65]; exact w61
  have w67 : isL S65 ((((L ++ [q1]) ++ [q20]) ++ [q39]) ++ [q58]) := by rw [eS65]; exact w62
  have w68 : ext S0 S65 := by rw [eS65]; exact w63
  have g69 : hK S65 q58 = 22 := by rw [eS65]; exact g64
  have g70 : hK S65 x0 = 7 := by rw [eS65]; exact g60
  refine gc_putRF C iwx_X6 w67 g70 (by decide) (by decide) rfl 5 (by decide) (hW kw_69) rfl tyX6 tyX6_ok nmX6 rfl rfl rfl hin rfl (some q58) rfl rfl dX6_init_33 ?_
  have w71 := wt_putR w66 145 (some q58) (k_ne g70 (by decide)) (fun b hb => by cases hb; exact g69) (by decide)
  refine gc_nS (fun S72 eS72 => ?_)
  replace h := h S72 eS72
  have w73 : wt S72 := by rw [eS72]; exact w71
  have w74 : isL S72 ((((L ++ [q1]) ++ [q20]) ++ [q39]) ++ [q58]) := by rw [eS72]; exact w67
  have w75 : ext S0 S72 := by rw [eS72]; exact w68
  have g76 : hK S72 x0 = 7 := by rw [eS72]; exact g70
  exact gc_vret C w73 w74 w75 hr dX6_init_36 h
theorem c_X6_init (l : Launch) (D : va_G) (T : Nat → ClassId) (x0 : Nat) (S : HS) (mc ms : Nat) (hx0 : hK S x0 = 7) (P : HS → Prop) (h : wp_X6_init P x0 S mc ms) : CMv l yX6_init (ws_X6_init) rm_X6_init D T [.ref x0] S mc ms P := gc_metv (by decide) rfl rfl (Nat.le_of_ble_eq_true rfl) (fun p e s m args below meth c A L C E hnm hr hw hL => t_X6_init C E   hr hnm P x0 S S mc ms L rfl hw hL hx0 h)
theorem k_X6_init (l : Launch) (D : va_G) (T : Nat → ClassId) (x0 : Nat) (S : HS) (mc ms : Nat) (hx0 : hK S x0 = 7) (h : 4 ≤ mc ∧ 26 ≤ ms) : CMv l yX6_init (ws_X6_init) rm_X6_init D T [.ref x0] S mc ms (fun S1 => (mkA x0 [(29, 6, 140), (27, 10, 142), (22, 5, 144), (22, 5, 145)] S S1)) := c_X6_init l D T x0 S mc ms hx0 _ <|
  (by
    unfold wp_X6_init
    rw [show Int32.toNatClampNeg 6 = 6 by decide, show Int32.toNatClampNeg 10 = 10 by decide, show Int32.toNatClampNeg 5 = 5 by decide]
    refine ⟨⟨⟨by decide, by decide⟩, by omega, by omega⟩, fun a a0 az S8 e8 S15 e15 => ?_⟩
    refine ⟨⟨⟨by decide, by decide⟩, by omega, by omega⟩, fun b b0 bz S27 e27 S34 e34 => ?_⟩
    refine ⟨⟨⟨by decide, by decide⟩, by omega, by omega⟩, fun c c0 cz S46 e46 S53 e53 => ?_⟩
    refine ⟨⟨⟨by decide, by decide⟩, by omega, by omega⟩, fun d d0 dz S65 e65 S72 e72 => ?_⟩
    subst e8 e15 e27 e34 e46 e53 e65 e72
    exact ⟨a, a0, az, b, b0, bz, c, c0, cz, d, d0, dz, rfl⟩)
abbrev ws_X1_init : List Cond := Cond.code yX1_init cX1_init 1 none :: W0
abbrev rm_X1_init : Room := ({ frames := 1, cells := 0, slots := 0, locals := 20 } : Room)
def wp_X1_init (P : HS → Prop) (x0 : Nat) (S : HS) (mc ms : Nat) : Prop := ((¬ 256 < (0 : Int32) ∧ (Int32.toNatClampNeg 256) ≤ 100000000) ∧ 1 ≤ mc ∧ (Int32.toNatClampNeg 256) ≤ ms) ∧ (∀ q1 : Nat, hK S q1 = 0 → zr S q1 → (∀ S8 : HS, S8 = newA S q1 22 (Int32.toNatClampNeg 256) → (∀ S15 : HS, S15 = putR S8 41 x0 (some q1) → (((¬ 256 < (0 : Int32) ∧ (Int32.toNatClampNeg 256) ≤ 100000000) ∧ 1 ≤ (mc - 1) ∧ (Int32.toNatClampNeg 256) ≤ (ms - (Int32.toNatClampNeg 256))) ∧ (∀ q20 : Nat, hK S15 q20 = 0 → zr S15 q20 → (∀ S27 : HS, S27 = newA S15 q20 22 (Int32.toNatClampNeg 256) → (∀ S34 : HS, S34 = putR S27 42 x0 (some q20) → (((¬ 256 < (0 : Int32) ∧ (Int32.toNatClampNeg 256) ≤ 100000000) ∧ 1 ≤ ((mc - 1) - 1) ∧ (Int32.toNatClampNeg 256) ≤ ((ms - (Int32.toNatClampNeg 256)) - (Int32.toNatClampNeg 256))) ∧ (∀ q39 : Nat, hK S34 q39 = 0 → zr S34 q39 → (∀ S46 : HS, S46 = newA S34 q39 22 (Int32.toNatClampNeg 256) → (∀ S53 : HS, S53 = putR S46 43 x0 (some q39) → (((¬ 256 < (0 : Int32) ∧ (Int32.toNatClampNeg 256) ≤ 100000000) ∧ 1 ≤ (((mc - 1) - 1) - 1) ∧ (Int32.toNatClampNeg 256) ≤ (((ms - (Int32.toNatClampNeg 256)) - (Int32.toNatClampNeg 256)) - (Int32.toNatClampNeg 256))) ∧ (∀ q58 : Nat, hK S53 q58 = 0 → zr S53 q58 → (∀ S65 : HS, S65 = newA S53 q58 22 (Int32.toNatClampNeg 256) → (∀ S72 : HS, S72 = putR S65 44 x0 (some q58) → (((¬ 256 < (0 : Int32) ∧ (Int32.toNatClampNeg 256) ≤ 100000000) ∧ 1 ≤ ((((mc - 1) - 1) - 1) - 1) ∧ (Int32.toNatClampNeg 256) ≤ ((((ms - (Int32.toNatClampNeg 256)) - (Int32.toNatClampNeg 256)) - (Int32.toNatClampNeg 256)) - (Int32.toNatClampNeg 256))) ∧ (∀ q77 : Nat, hK S72 q77 = 0 → zr S72 q77 → (∀ S84 : HS, S84 = newA S72 q77 22 (Int32.toNatClampNeg 256) → (∀ S91 : HS, S91 = putR S84 45 x0 (some q77) → (((¬ 8 < (0 : Int32) ∧ (Int32.toNatClampNeg 8) ≤ 100000000) ∧ 1 ≤ (((((mc - 1) - 1) - 1) - 1) - 1) ∧ (Int32.toNatClampNeg 8) ≤ (((((ms - (Int32.toNatClampNeg 256)) - (Int32.toNatClampNeg 256)) - (Int32.toNatClampNeg 256)) - (Int32.toNatClampNeg 256)) - (Int32.toNatClampNeg 256))) ∧ (∀ q96 : Nat, hK S91 q96 = 0 → zr S91 q96 → (∀ S103 : HS, S103 = newA S91 q96 22 (Int32.toNatClampNeg 8) → (∀ S110 : HS, S110 = putR S103 46 x0 (some q96) → (P S110))))))))))))))))))))))))
set_option maxRecDepth 100000 in
set_option maxHeartbeats 4000000 in
theorem t_X1_init {p : Program} {l : Launch} {e : Env} {s : State} {m : MethodId} {args : Array Value} {below : List Frame} {meth : Method} {c : Code} {D : va_G} {A : Nat → Prop} {T : Nat → ClassId} (C : GC p s m args meth c cX1_init "FreightRater$Plan" (ws_X1_init) 1 D A (zty T)) (E : GE T A s) (hr : meth.sig.returnType = none) (hin : meth.name = "<init>") (P : HS → Prop) : ∀ (x0 : Nat) (S0 S : HS) (mc ms : Nat) (L : List Nat), S0 = S → wt S → hL S L → (hK S x0 = 2) → wp_X1_init P x0 S mc ms → GW p l e { rm_X1_init with cells := mc, slots := ms } s m args below meth c D A 1 mc ms (MQ below (va_Qv (fun (u : HS × List Nat) => P u.1 ∧ CO S0 u) (CE D T A) A) args s mc ms A) (CW T S L) mc ms 0 [(0, .ref x0)] [] := by
  have hW : ∀ {w : Cond}, w ∈ W0 → w.before args s = true := fun h => C.2.2.2.2.1 _ (List.mem_cons_of_mem _ h)
  intro x0 S0 S mc ms L hS0 hw hL hx0 h
  have he : ext S0 S := by rw [hS0]; exact ext_rf
  unfold wp_X1_init at h
  refine g_aload_n C dX1_init_0 rfl 0 rfl ?_
  refine g_objInit C (hW kw_212) (hW kw_46) (hW kw_47) dX1_init_1 (Nat.le_of_ble_eq_true rfl) (Nat.le_of_ble_eq_true rfl) ?_
  refine g_aload_n C dX1_init_4 rfl 0 rfl ?_
  refine g_sipush (v := 256) C dX1_init_5 (by decide) ?_
  obtain ⟨g2, h⟩ := h
  refine gc_newi C E hw hL (Nat.le_refl _) (Nat.le_refl _) (hW kw_91) g2.1.1 g2.1.2 g2.2.1 g2.2.2 dX1_init_8 (fun q1 h0q1 zq1 => ?_)
  replace h := h q1 h0q1 zq1
  have g3 := newA_old 22 (Int32.toNatClampNeg 256) hx0 (by decide) h0q1
  have w4 := wt_newA hw 22 (Int32.toNatClampNeg 256) h0q1 (by decide)
  have w5 := hL_new (S' := newA S q1 22 (Int32.toNatClampNeg 256)) hL (show 22 ≠ 0 by decide) rfl
  have w6 := ext_newA he h0q1 22 (Int32.toNatClampNeg 256)
  have g7 := newA_self S q1 22 (Int32.toNatClampNeg 256)
  refine gc_nS (fun S8 eS8 => ?_)
  replace h := h S8 eS8
  have w9 : wt S8 := by rw [eS8]; exact w4
  have w10 : isL S8 (L ++ [q1]) := by rw [eS8]; exact w5
  have w11 : ext S0 S8 := by rw [eS8]; exact w6
  have g12 : hK S8 q1 = 22 := by rw [eS8]; exact g7
  have g13 : hK S8 x0 = 2 := by rw [eS8]; exact g3
  refine gc_putRF C iwx_X1 w10 g13 (by decide) (by decide) rfl 1 (by decide) (hW kw_214) rfl tyX1 tyX1_ok nmX1 rfl rfl rfl hin rfl (some q1) rfl rfl dX1_init_10 ?_
  have w14 := wt_putR w9 41 (some q1) (k_ne g13 (by decide)) (fun b hb => by cases hb; exact g12) (by decide)
  refine gc_nS (fun S15 eS15 => ?_)
  replace h := h S15 eS15
  have w16 : wt S15 := by rw [eS15]; exact w14
  have w17 : isL S15 (L ++ [q1]) := by rw [eS15]; exact w10
  have w18 : ext S0 S15 := by rw [eS15]; exact w11
  have g19 : hK S15 x0 = 2 := by rw [eS15]; exact g13
  refine g_aload_n C dX1_init_13 rfl 0 rfl ?_
  refine g_sipush (v := 256) C dX1_init_14 (by decide) ?_
  obtain ⟨g21, h⟩ := h
  refine gc_newi C E w16 w17 (Nat.le_refl _) (Nat.le_refl _) (hW kw_91) g21.1.1 g21.1.2 g21.2.1 g21.2.2 dX1_init_17 (fun q20 h0q20 zq20 => ?_)
  replace h := h q20 h0q20 zq20
  have g22 := newA_old 22 (Int32.toNatClampNeg 256) g19 (by decide) h0q20
  have w23 := wt_newA w16 22 (Int32.toNatClampNeg 256) h0q20 (by decide)
  have w24 := hL_new (S' := newA S15 q20 22 (Int32.toNatClampNeg 256)) w17 (show 22 ≠ 0 by decide) rfl
  have w25 := ext_newA w18 h0q20 22 (Int32.toNatClampNeg 256)
  have g26 := newA_self S15 q20 22 (Int32.toNatClampNeg 256)
  refine gc_nS (fun S27 eS27 => ?_)
  replace h := h S27 eS27
  have w28 : wt S27 := by rw [eS27]; exact w23
  have w29 : isL S27 ((L ++ [q1]) ++ [q20]) := by rw [eS27]; exact w24
  have w30 : ext S0 S27 := by rw [eS27]; exact w25
  have g31 : hK S27 q20 = 22 := by rw [eS27]; exact g26
  have g32 : hK S27 x0 = 2 := by rw [eS27]; exact g22
  refine gc_putRF C iwx_X1 w29 g32 (by decide) (by decide) rfl 2 (by decide) (hW kw_216) rfl tyX1 tyX1_ok nmX1 rfl rfl rfl hin rfl (some q20) rfl rfl dX1_init_19 ?_
  have w33 := wt_putR w28 42 (some q20) (k_ne g32 (by decide)) (fun b hb => by cases hb; exact g31) (by decide)
  refine gc_nS (fun S34 eS34 => ?_)
  replace h := h S34 eS34
  have w35 : wt S34 := by rw [eS34]; exact w33
  have w36 : isL S34 ((L ++ [q1]) ++ [q20]) := by rw [eS34]; exact w29
  have w37 : ext S0 S34 := by rw [eS34]; exact w30
  have g38 : hK S34 x0 = 2 := by rw [eS34]; exact g32
  refine g_aload_n C dX1_init_22 rfl 0 rfl ?_
  refine g_sipush (v := 256) C dX1_init_23 (by decide) ?_
  obtain ⟨g40, h⟩ := h
  refine gc_newi C E w35 w36 (Nat.le_refl _) (Nat.le_refl _) (hW kw_91) g40.1.1 g40.1.2 g40.2.1 g40.2.2 dX1_init_26 (fun q39 h0q39 zq39 => ?_)
  replace h := h q39 h0q39 zq39
  have g41 := newA_old 22 (Int32.toNatClampNeg 256) g38 (by decide) h0q39
  have w42 := wt_newA w35 22 (Int32.toNatClampNeg 256) h0q39 (by decide)
  have w43 := hL_new (S' := newA S34 q39 22 (Int32.toNatClampNeg 256)) w36 (show 22 ≠ 0 by decide) rfl
  have w44 := ext_newA w37 h0q39 22 (Int32.toNatClampNeg 256)
  have g45 := newA_self S34 q39 22 (Int32.toNatClampNeg 256)
  refine gc_nS (fun S46 eS46 => ?_)
  replace h := h S46 eS46
  have w47 : wt S46 := by rw [eS46]; exact w42
  have w48 : isL S46 (((L ++ [q1]) ++ [q20]) ++ [q39]) := by rw [eS46]; exact w43
  have w49 : ext S0 S46 := by rw [eS46]; exact w44
  have g50 : hK S46 q39 = 22 := by rw [eS46]; exact g45
  have g51 : hK S46 x0 = 2 := by rw [eS46]; exact g41
  refine gc_putRF C iwx_X1 w48 g51 (by decide) (by decide) rfl 3 (by decide) (hW kw_218) rfl tyX1 tyX1_ok nmX1 rfl rfl rfl hin rfl (some q39) rfl rfl dX1_init_28 ?_
  have w52 := wt_putR w47 43 (some q39) (k_ne g51 (by decide)) (fun b hb => by cases hb; exact g50) (by decide)
  refine gc_nS (fun S53 eS53 => ?_)
  replace h := h S53 eS53
  have w54 : wt S53 := by rw [eS53]; exact w52
  have w55 : isL S53 (((L ++ [q1]) ++ [q20]) ++ [q39]) := by rw [eS53]; exact w48
  have w56 : ext S0 S53 := by rw [eS53]; exact w49
  have g57 : hK S53 x0 = 2 := by rw [eS53]; exact g51
  refine g_aload_n C dX1_init_31 rfl 0 rfl ?_
  refine g_sipush (v := 256) C dX1_init_32 (by decide) ?_
  obtain ⟨g59, h⟩ := h
  refine gc_newi C E w54 w55 (Nat.le_refl _) (Nat.le_refl _) (hW kw_91) g59.1.1 g59.1.2 g59.2.1 g59.2.2 dX1_init_35 (fun q58 h0q58 zq58 => ?_)
  replace h := h q58 h0q58 zq58
  have g60 := newA_old 22 (Int32.toNatClampNeg 256) g57 (by decide) h0q58
  have w61 := wt_newA w54 22 (Int32.toNatClampNeg 256) h0q58 (by decide)
  have w62 := hL_new (S' := newA S53 q58 22 (Int32.toNatClampNeg 256)) w55 (show 22 ≠ 0 by decide) rfl
  have w63 := ext_newA w56 h0q58 22 (Int32.toNatClampNeg 256)
  have g64 := newA_self S53 q58 22 (Int32.toNatClampNeg 256)
  refine gc_nS (fun S65 eS65 => ?_)
  replace h := h S65 eS65
  have w66 : wt S65 := by rw [eS65]; exact w61
  have w67 : isL S65 ((((L ++ [q1]) ++ [q20]) ++ [q39]) ++ [q58]) := by rw [eS65]; exact w62
  have w68 : ext S0 S65 := by rw [eS65]; exact w63
  have g69 : hK S65 q58 = 22 := by rw [eS65]; exact g64
  have g70 : hK S65 x0 = 2 := by rw [eS65]; exact g60
  refine gc_putRF C iwx_X1 w67 g70 (by decide) (by decide) rfl 4 (by decide) (hW kw_219) rfl tyX1 tyX1_ok nmX1 rfl rfl rfl hin rfl (some q58) rfl rfl dX1_init_37 ?_
  have w71 := wt_putR w66 44 (some q58) (k_ne g70 (by decide)) (fun b hb => by cases hb; exact g69) (by decide)
  refine gc_nS (fun S72 eS72 => ?_)
  replace h := h S72 eS72
  have w73 : wt S72 := by rw [eS72]; exact w71
  have w74 : isL S72 ((((L ++ [q1]) ++ [q20]) ++ [q39]) ++ [q58]) := by rw [eS72]; exact w67
  have w75 : ext S0 S72 := by rw [eS72]; exact w68
  have g76 : hK S72 x0 = 2 := by rw [eS72]; exact g70
  refine g_aload_n C dX1_init_40 rfl 0 rfl ?_
  refine g_sipush (v := 256) C dX1_init_41 (by decide) ?_
  obtain ⟨g78, h⟩ := h
  refine gc_newi C E w73 w74 (Nat.le_refl _) (Nat.le_refl _) (hW kw_91) g78.1.1 g78.1.2 g78.2.1 g78.2.2 dX1_init_44 (fun q77 h0q77 zq77 => ?_)
  replace h := h q77 h0q77 zq77
  have g79 := newA_old 22 (Int32.toNatClampNeg 256) g76 (by decide) h0q77
  have w80 := wt_newA w73 22 (Int32.toNatClampNeg 256) h0q77 (by decide)
  have w81 := hL_new (S' := newA S72 q77 22 (Int32.toNatClampNeg 256)) w74 (show 22 ≠ 0 by decide) rfl
  have w82 := ext_newA w75 h0q77 22 (Int32.toNatClampNeg 256)
  have g83 := newA_self S72 q77 22 (Int32.toNatClampNeg 256)
  refine gc_nS (fun S84 eS84 => ?_)
  replace h := h S84 eS84
  have w85 : wt S84 := by rw [eS84]; exact w80
  have w86 : isL S84 (((((L ++ [q1]) ++ [q20]) ++ [q39]) ++ [q58]) ++ [q77]) := by rw [eS84]; exact w81
  have w87 : ext S0 S84 := by rw [eS84]; exact w82
  have g88 : hK S84 q77 = 22 := by rw [eS84]; exact g83
  have g89 : hK S84 x0 = 2 := by rw [eS84]; exact g79
  refine gc_putRF C iwx_X1 w86 g89 (by decide) (by decide) rfl 5 (by decide) (hW kw_220) rfl tyX1 tyX1_ok nmX1 rfl rfl rfl hin rfl (some q77) rfl rfl dX1_init_46 ?_
  have w90 := wt_putR w85 45 (some q77) (k_ne g89 (by decide)) (fun b hb => by cases hb; exact g88) (by decide)
  refine gc_nS (fun S91 eS91 => ?_)
  replace h := h S91 eS91
  have w92 : wt S91 := by rw [eS91]; exact w90
  have w93 : isL S91 (((((L ++ [q1]) ++ [q20]) ++ [q39]) ++ [q58]) ++ [q77]) := by rw [eS91]; exact w86
  have w94 : ext S0 S91 := by rw [eS91]; exact w87
  have g95 : hK S91 x0 = 2 := by rw [eS91]; exact g89
  refine g_aload_n C dX1_init_49 rfl 0 rfl ?_
  refine g_bipush (v := 8) C dX1_init_50 (by decide) ?_
  obtain ⟨g97, h⟩ := h
  refine gc_newi C E w92 w93 (Nat.le_refl _) (Nat.le_refl _) (hW kw_91) g97.1.1 g97.1.2 g97.2.1 g97.2.2 dX1_init_52 (fun q96 h0q96 zq96 => ?_)
  replace h := h q96 h0q96 zq96
  have g98 := newA_old 22 (Int32.toNatClampNeg 8) g95 (by decide) h0q96
  have w99 := wt_newA w92 22 (Int32.toNatClampNeg 8) h0q96 (by decide)
  have w100 := hL_new (S' := newA S91 q96 22 (Int32.toNatClampNeg 8)) w93 (show 22 ≠ 0 by decide) rfl
  have w101 := ext_newA w94 h0q96 22 (Int32.toNatClampNeg 8)
  have g102 := newA_self S91 q96 22 (Int32.toNatClampNeg 8)
  refine gc_nS (fun S103 eS103 => ?_)
  replace h := h S103 eS103
  have w104 : wt S103 := by rw [eS103]; exact w99
  have w105 : isL S103 ((((((L ++ [q1]) ++ [q20]) ++ [q39]) ++ [q58]) ++ [q77]) ++ [q96]) := by rw [eS103]; exact w100
  have w106 : ext S0 S103 := by rw [eS103]; exact w101
  have g107 : hK S103 q96 = 22 := by rw [eS103]; exact g102
  have g108 : hK S103 x0 = 2 := by rw [eS103]; exact g98
  refine gc_putRF C iwx_X1 w105 g108 (by decide) (by decide) rfl 6 (by decide) (hW kw_221) rfl tyX1 tyX1_ok nmX1 rfl rfl rfl hin rfl (some q96) rfl rfl dX1_init_54 ?_
  have w109 := wt_putR w104 46 (some q96) (k_ne g108 (by decide)) (fun b hb => by cases hb; exact g107) (by decide)
  refine gc_nS (fun S110 eS110 => ?_)
  replace h := h S110 eS110
  have w111 : wt S110 := by rw [eS110]; exact w109
  have w112 : isL S110 ((((((L ++ [q1]) ++ [q20]) ++ [q39]) ++ [q58]) ++ [q77]) ++ [q96]) := by rw [eS110]; exact w105
  have w113 : ext S0 S110 := by rw [eS110]; exact w106
  have g114 : hK S110 x0 = 2 := by rw [eS110]; exact g108
  exact gc_vret C w111 w112 w113 hr dX1_init_57 h
theorem c_X1_init (l : Launch) (D : va_G) (T : Nat → ClassId) (x0 : Nat) (S : HS) (mc ms : Nat) (hx0 : hK S x0 = 2) (P : HS → Prop) (h : wp_X1_init P x0 S mc ms) : CMv l yX1_init (ws_X1_init) rm_X1_init D T [.ref x0] S mc ms P := gc_metv (by decide) rfl rfl (Nat.le_of_ble_eq_true rfl) (fun p e s m args below meth c A L C E hnm hr hw hL => t_X1_init C E   hr hnm P x0 S S mc ms L rfl hw hL hx0 h)
theorem k_X1_init (l : Launch) (D : va_G) (T : Nat → ClassId) (x0 : Nat) (S : HS) (mc ms : Nat) (hx0 : hK S x0 = 2) (h : 6 ≤ mc ∧ 1288 ≤ ms) : CMv l yX1_init (ws_X1_init) rm_X1_init D T [.ref x0] S mc ms (fun S1 => (mkA x0 [(22, 256, 41), (22, 256, 42), (22, 256, 43), (22, 256, 44), (22, 256, 45), (22, 8, 46)] S S1)) := c_X1_init l D T x0 S mc ms hx0 _ <|
  (by
    unfold wp_X1_init
    rw [show Int32.toNatClampNeg 256 = 256 by decide, show Int32.toNatClampNeg 8 = 8 by decide]
    refine ⟨⟨⟨by decide, by decide⟩, by omega, by omega⟩, fun a a0 az S8 e8 S15 e15 => ?_⟩
    refine ⟨⟨⟨by decide, by decide⟩, by omega, by omega⟩, fun b b0 bz S27 e27 S34 e34 => ?_⟩
    refine ⟨⟨⟨by decide, by decide⟩, by omega, by omega⟩, fun c c0 cz S46 e46 S53 e53 => ?_⟩
    refine ⟨⟨⟨by decide, by decide⟩, by omega, by omega⟩, fun d d0 dz S65 e65 S72 e72 => ?_⟩
    refine ⟨⟨⟨by decide, by decide⟩, by omega, by omega⟩, fun i i0 iz S84 e84 S91 e91 => ?_⟩
    refine ⟨⟨⟨by decide, by decide⟩, by omega, by omega⟩, fun j j0 jz S103 e103 S110 e110 => ?_⟩
    subst e8 e15 e27 e34 e46 e53 e65 e72 e84 e91 e103 e110
    exact ⟨a, a0, az, b, b0, bz, c, c0, cz, d, d0, dz, i, i0, iz, j, j0, jz, rfl⟩)

end S_C4C
