section S_C6A
abbrev ws_X3_hasFault : List Cond := Cond.code yX3_hasFault cX3_hasFault 1 (some .boolean) :: W0
abbrev rm_X3_hasFault : Room := ({ frames := 0, cells := 0, slots := 0, locals := 0 } : Room)
def wp_X3_hasFault (P : Int32 → HS → Prop) (x0 : Nat) (S : HS) : Prop := (¬ (hI S 83 x0) = 0 → (P 1 S)) ∧ ((hI S 83 x0) = 0 → (((hI S 81 x0) ≤ (hI S 82 x0) → (P 0 S)) ∧ (¬ (hI S 81 x0) ≤ (hI S 82 x0) → (P 1 S))))
set_option maxRecDepth 100000 in
set_option maxHeartbeats 4000000 in
theorem t_X3_hasFault {p : Program} {l : Launch} {e : Env} {s : State} {m : MethodId} {args : Array Value} {below : List Frame} {meth : Method} {c : Code} {D : va_G} {A : Nat → Prop} {T : Nat → ClassId} (C : GC p s m args meth c cX3_hasFault "FreightRater$Reader" (ws_X3_hasFault) 1 D A (zty T)) (E : GE T A s) (hr : meth.sig.returnType = (some .boolean)) (P : Int32 → HS → Prop) : ∀ (x0 : Nat) (S0 S : HS) (L : List Nat), S0 = S → wt S → hL S L → (hK S x0 = 4) → wp_X3_hasFault P x0 S → GW p l e { rm_X3_hasFault with cells := 0, slots := 0 } s m args below meth c D A 1 0 0 (MQ below (va_Qi (fun v (u : HS × List Nat) => P v u.1 ∧ CO S0 u) (CE D T A) A) args s 0 0 A) (CW T S L) 0 0 0 [(0, .ref x0)] [] := by
  have hW : ∀ {w : Cond}, w ∈ W0 → w.before args s = true := fun h => C.2.2.2.2.1 _ (List.mem_cons_of_mem _ h)
  intro x0 S0 S L hS0 hw hL hx0 h
  have he : ext S0 S := by rw [hS0]; exact ext_rf
  unfold wp_X3_hasFault at h
  refine g_aload_n C dX3_hasFault_0 rfl 0 rfl ?_
  refine gc_getI C iwx_X3 hL hx0 (by decide) (by decide) rfl 3 (by decide) (hW kw_547) rfl rfl rfl dX3_hasFault_1 ?_
  refine g_if_ne (tgt := 18) C dX3_hasFault_4 (by decide) (fun z1 => ?_) (fun z1 => ?_)
  · replace h := h.1 z1
    refine g_iconst (v := 1) C dX3_hasFault_18 (by decide) ?_
    refine g_goto (tgt := 23) C dX3_hasFault_19 (by decide) ?_
    exact gc_zret C vz1 hw hL he hr dX3_hasFault_23 h
  · replace h := h.2 z1
    refine g_aload_n C dX3_hasFault_7 rfl 0 rfl ?_
    refine gc_getI C iwx_X3 hL hx0 (by decide) (by decide) rfl 2 (by decide) (hW kw_545) rfl rfl rfl dX3_hasFault_8 ?_
    refine g_aload_n C dX3_hasFault_11 rfl 0 rfl ?_
    refine gc_getI C iwx_X3 hL hx0 (by decide) (by decide) rfl 1 (by decide) (hW kw_544) rfl rfl rfl dX3_hasFault_12 ?_
    refine g_icmp_ge (tgt := 22) C dX3_hasFault_15 (by decide) (fun z2 => ?_) (fun z2 => ?_)
    · replace h := h.1 z2
      refine g_iconst (v := 0) C dX3_hasFault_22 (by decide) ?_
      exact gc_zret C vz0 hw hL he hr dX3_hasFault_23 h
    · replace h := h.2 z2
      refine g_iconst (v := 1) C dX3_hasFault_18 (by decide) ?_
      refine g_goto (tgt := 23) C dX3_hasFault_19 (by decide) ?_
      exact gc_zret C vz1 hw hL he hr dX3_hasFault_23 h
theorem c_X3_hasFault (l : Launch) (D : va_G) (T : Nat → ClassId) (x0 : Nat) (S : HS) (hx0 : hK S x0 = 4) (P : Int32 → HS → Prop) (h : wp_X3_hasFault P x0 S) : CMi l yX3_hasFault (ws_X3_hasFault) rm_X3_hasFault D T [.ref x0] S 0 0 P := gc_meti (by decide) rfl rfl (Nat.le_of_ble_eq_true rfl) (fun p e s m args below meth c A L C E hnm hr hw hL => t_X3_hasFault C E   hr P x0 S S L rfl hw hL hx0 h)
/-- a reader's object: its text, its place, whether it has failed -/
def RdO (S : HS) (x : Nat) (b : Nat → Int32) (n : Nat) (σ : PS) : Prop := hI S 82 x = nI σ.1 ∧ hI S 83 x = b2i σ.2 ∧ σ.1 ≤ n ∧ hI S 81 x = nI n ∧ n ≤ 80 ∧ ∃ t, hR S 80 x = some t ∧ hK S t = 21 ∧ hN S t = 80 ∧ ∀ i, i < n → hA S t i = b i
theorem nz_beq {d : Nat} (h : d ≠ 0) : (d == 0) = false := by
  cases d with
  | zero => exact absurd rfl h
  | succ d => rfl
theorem RdO.c {S S1 : HS} {x n : Nat} {b : Nat → Int32} {σ σ1 : PS} (h : RdO S x b n σ) (hc : c3 S S1 x [82, 83]) (h82 : hI S1 82 x = nI σ1.1) (h83 : hI S1 83 x = b2i σ1.2) (hle : σ1.1 ≤ n) : RdO S1 x b n σ1 := by
  obtain ⟨h1, h2, h3, h4, h5, t, r1, r2, r3, r4⟩ := h
  exact ⟨h82, h83, hle, by rw [hc.I (by decide)]; exact h4, h5, t, by rw [hc.2.2.1]; exact r1, by rw [hc.1]; exact r2, by rw [hc.2.1]; exact r3, fun i hi => by rw [hc.2.2.2.1]; exact r4 i hi⟩
theorem RdO.nx {S S1 : HS} {x n : Nat} {b : Nat → Int32} {σ : PS} (h : RdO S x b n σ) (hl : σ.1 < n) (hf : σ.2 = false) (e : S1 = putI S 82 x (nI (σ.1 + 1))) : c3 S S1 x [82, 83] ∧ RdO S1 x b n (σ.1 + 1, σ.2) := by
  have hc : c3 S S1 x [82, 83] := by rw [e]; exact c3.rf.up (by decide) _
  exact ⟨hc, h.c hc (by rw [e, putI_s]) (by rw [e, putI_i _ _ _ (by decide), h.2.1]) hl⟩
theorem RdO.bad {S S1 : HS} {x n : Nat} {b : Nat → Int32} {σ : PS} (h : RdO S x b n σ) (e : S1 = putI S 83 x 1) : c3 S S1 x [82, 83] ∧ RdO S1 x b n (σ.1, true) := by
  have hc : c3 S S1 x [82, 83] := by rw [e]; exact c3.rf.up (by decide) _
  exact ⟨hc, h.c hc (by rw [e, putI_i _ _ _ (by decide), h.1]) (by rw [e, putI_s]; rfl) h.2.2.1⟩
theorem RdO.lt {S : HS} {x n : Nat} {b : Nat → Int32} {σ : PS} (h : RdO S x b n σ) : (hI S 81 x ≤ hI S 82 x) = (n ≤ σ.1) := by
  obtain ⟨h1, h2, h3, h4, h5, _⟩ := h
  rw [h1, h4, nI_leI (by omega) (by omega)]
theorem RdO.f0 {S : HS} {x n : Nat} {b : Nat → Int32} {σ : PS} (h : RdO S x b n σ) (c : hI S 83 x = 0) : σ.2 = false := b2i_z (h.2.1.symm.trans c)
theorem RdO.f1 {S : HS} {x n : Nat} {b : Nat → Int32} {σ : PS} (h : RdO S x b n σ) (c : ¬ hI S 83 x = 0) : σ.2 = true := b2i_nz (fun z => c (h.2.1.trans z))
theorem RdO.at {S : HS} {x n : Nat} {b : Nat → Int32} {σ : PS} (h : RdO S x b n σ) (hl : σ.1 < n) {t : Nat} (ht : hR S 80 x = some t) : vp_in (hI S 82 x) (hN S t) ∧ hA S t (iv (hI S 82 x)) = sg b n σ := by
  obtain ⟨h1, h2, h3, h4, h5, u, r1, r2, r3, r4⟩ := h
  have e : u = t := Option.some.inj (r1.symm.trans ht)
  subst e
  rw [h1, r3, nz_vp (by omega) (by decide), show iv (nI σ.1) = σ.1 from nI_clamp (by omega), r4 _ hl]
  unfold sg
  rw [if_pos hl]
  exact ⟨by omega, rfl⟩
theorem k_X3_hasFault (l : Launch) (D : va_G) (T : Nat → ClassId) (x0 : Nat) (S : HS) (e0 : Nat → Int32) (e1 : Nat) (e2 : PS) (hx0 : hK S x0 = 4) (h : RdO S x0 e0 e1 e2) : CMi l yX3_hasFault (ws_X3_hasFault) rm_X3_hasFault D T [.ref x0] S 0 0 (fun v S1 => v = (b2i (e2.2 || decide (e2.1 < e1))) ∧ S1 = S) := c_X3_hasFault l D T x0 S hx0 _ <|
  (by
    unfold wp_X3_hasFault
    rw [h.lt]
    refine ⟨fun c => ⟨?_, rfl⟩, fun c => ⟨fun c2 => ⟨?_, rfl⟩, fun c2 => ⟨?_, rfl⟩⟩⟩
    · rw [h.f1 c]; rfl
    · rw [h.f0 c, decide_eq_false (by omega)]; rfl
    · rw [h.f0 c, decide_eq_true (by omega)]; rfl)
abbrev ws_X3_take : List Cond := Cond.code yX3_take cX3_take 2 (some .boolean) :: W0
abbrev rm_X3_take : Room := ({ frames := 0, cells := 0, slots := 0, locals := 0 } : Room)
def wp_X3_take (P : Int32 → HS → Prop) (x0 : Nat) (p0 : Int32) (S : HS) : Prop := (¬ (hI S 83 x0) = 0 → (P 0 S)) ∧ ((hI S 83 x0) = 0 → (((hI S 81 x0) ≤ (hI S 82 x0) → (P 0 S)) ∧ (¬ (hI S 81 x0) ≤ (hI S 82 x0) → (∃ b4 : Nat, hR S 80 x0 = some b4 ∧ (hK S b4 = 21 → (vp_in (hI S 82 x0) (hN S b4) ∧ (((hA S b4 (Int32.toNatClampNeg (hI S 82 x0))) = p0 → (∀ S9 : HS, S9 = putI S 82 x0 ((hI S 82 x0) + 1) → (P 1 S9))) ∧ (¬ (hA S b4 (Int32.toNatClampNeg (hI S 82 x0))) = p0 → (P 0 S)))))))))
set_option maxRecDepth 100000 in
set_option maxHeartbeats 4000000 in
theorem t_X3_take {p : Program} {l : Launch} {e : Env} {s : State} {m : MethodId} {args : Array Value} {below : List Frame} {meth : Method} {c : Code} {D : va_G} {A : Nat → Prop} {T : Nat → ClassId} (C : GC p s m args meth c cX3_take "FreightRater$Reader" (ws_X3_take) 2 D A (zty T)) (E : GE T A s) (hr : meth.sig.returnType = (some .boolean)) (P : Int32 → HS → Prop) : ∀ (x0 : Nat) (p0 : Int32) (S0 S : HS) (L : List Nat), S0 = S → wt S → hL S L → (hK S x0 = 4) → wp_X3_take P x0 p0 S → GW p l e { rm_X3_take with cells := 0, slots := 0 } s m args below meth c D A 2 0 0 (MQ below (va_Qi (fun v (u : HS × List Nat) => P v u.1 ∧ CO S0 u) (CE D T A) A) args s 0 0 A) (CW T S L) 0 0 0 [(0, .ref x0), (1, .int p0)] [] := by
  have hW : ∀ {w : Cond}, w ∈ W0 → w.before args s = true := fun h => C.2.2.2.2.1 _ (List.mem_cons_of_mem _ h)
  intro x0 p0 S0 S L hS0 hw hL hx0 h
  have he : ext S0 S := by rw [hS0]; exact ext_rf
  unfold wp_X3_take at h
  refine g_aload_n C dX3_take_0 rfl 0 rfl ?_
  refine gc_getI C iwx_X3 hL hx0 (by decide) (by decide) rfl 3 (by decide) (hW kw_547) rfl rfl rfl dX3_take_1 ?_
  refine g_if_ne (tgt := 31) C dX3_take_4 (by decide) (fun z1 => ?_) (fun z1 => ?_)
  · replace h := h.1 z1
    refine g_iconst (v := 0) C dX3_take_31 (by decide) ?_
    exact gc_zret C vz0 hw hL he hr dX3_take_32 h
  · replace h := h.2 z1
    refine g_aload_n C dX3_take_7 rfl 0 rfl ?_
    refine gc_getI C iwx_X3 hL hx0 (by decide) (by decide) rfl 2 (by decide) (hW kw_545) rfl rfl rfl dX3_take_8 ?_
    refine g_aload_n C dX3_take_11 rfl 0 rfl ?_
    refine gc_getI C iwx_X3 hL hx0 (by decide) (by decide) rfl 1 (by decide) (hW kw_544) rfl rfl rfl dX3_take_12 ?_
    refine g_icmp_ge (tgt := 31) C dX3_take_15 (by decide) (fun z2 => ?_) (fun z2 => ?_)
    · replace h := h.1 z2
      refine g_iconst (v := 0) C dX3_take_31 (by decide) ?_
      exact gc_zret C vz0 hw hL he hr dX3_take_32 h
    · replace h := h.2 z2
      refine g_aload_n C dX3_take_18 rfl 0 rfl ?_
      refine gc_getR C hw iwx_X3 hL hx0 (by decide) (by decide) rfl 0 (by decide) (hW kw_543) rfl rfl rfl dX3_take_19 (fun o3 eo3 ko3 => ?_)
      obtain ⟨b4, hb9, h⟩ := h
      have g5 : hK S b4 = 21 := ko3 b4 (eo3.trans hb9)
      replace h := h g5
      refine g_opt (eo3.trans hb9) ?_
      refine g_aload_n C dX3_take_22 rfl 0 rfl ?_
      refine gc_getI C iwx_X3 hL hx0 (by decide) (by decide) rfl 2 (by decide) (hW kw_545) rfl rfl rfl dX3_take_23 ?_
      obtain ⟨g6, h⟩ := h
      refine gc_cald C hL g5 g6 dX3_take_26 ?_
      refine g_iload_n C dX3_take_27 rfl 1 rfl ?_
      refine g_icmp_eq (tgt := 33) C dX3_take_28 (by decide) (fun z7 => ?_) (fun z7 => ?_)
      · replace h := h.1 z7
        refine g_aload_n C dX3_take_33 rfl 0 rfl ?_
        refine g_dup C dX3_take_34 rfl ?_
        refine gc_getI C iwx_X3 hL hx0 (by decide) (by decide) rfl 2 (by decide) (hW kw_545) rfl rfl rfl dX3_take_35 ?_
        refine g_iconst (v := 1) C dX3_take_38 (by decide) ?_
        refine g_iadd C dX3_take_39 ?_
        refine gc_putI C iwx_X3 hL hx0 (by decide) (by decide) rfl 2 (by decide) (hW kw_545) rfl tyX3 tyX3_ok nmX3 rfl rfl rfl rfl rfl dX3_take_40 ?_
        have w8 := wt_putI hw 82 ((hI S 82 x0) + 1) (k_ne hx0 (by decide))
        refine gc_nS (fun S9 eS9 => ?_)
        replace h := h S9 eS9
        have w10 : wt S9 := by rw [eS9]; exact w8
        have w11 : isL S9 L := by rw [eS9]; exact hL
        have w12 : ext S0 S9 := by rw [eS9]; exact he
        have g13 : hK S9 x0 = 4 := by rw [eS9]; exact hx0
        refine g_iconst (v := 1) C dX3_take_43 (by decide) ?_
        exact gc_zret C vz1 w10 w11 w12 hr dX3_take_44 h
      · replace h := h.2 z7
        refine g_iconst (v := 0) C dX3_take_31 (by decide) ?_
        exact gc_zret C vz0 hw hL he hr dX3_take_32 h
theorem c_X3_take (l : Launch) (D : va_G) (T : Nat → ClassId) (x0 : Nat) (p0 : Int32) (S : HS) (hx0 : hK S x0 = 4) (P : Int32 → HS → Prop) (h : wp_X3_take P x0 p0 S) : CMi l yX3_take (ws_X3_take) rm_X3_take D T [.ref x0, .int p0] S 0 0 P := gc_meti (by decide) rfl rfl (Nat.le_of_ble_eq_true rfl) (fun p e s m args below meth c A L C E hnm hr hw hL => t_X3_take C E   hr P x0 p0 S S L rfl hw hL hx0 h)
theorem k_X3_take (l : Launch) (D : va_G) (T : Nat → ClassId) (x0 : Nat) (p0 : Int32) (S : HS) (e0 : Nat → Int32) (e1 : Nat) (e2 : PS) (hx0 : hK S x0 = 4) (h : RdO S x0 e0 e1 e2 ∧ ¬ p0 = (-1 : Int32)) : CMi l yX3_take (ws_X3_take) rm_X3_take D T [.ref x0, .int p0] S 0 0 (fun v S1 => (v = b2i (tkB e0 e1 e2 p0) ∧ c3 S S1 x0 [82, 83] ∧ RdO S1 x0 e0 e1 (tkS e0 e1 e2 p0))) := c_X3_take l D T x0 p0 S hx0 _ <|
  (by
    obtain ⟨h, hp⟩ := h
    have h0 := h
    obtain ⟨h1, h2, h3, h4, h5, t, r1, r2, r3, r4⟩ := h0
    have no : tkB e0 e1 e2 p0 = false → (0 : Int32) = b2i (tkB e0 e1 e2 p0) ∧ c3 S S x0 [82, 83] ∧ RdO S x0 e0 e1 (tkS e0 e1 e2 p0) := fun e => by
      unfold tkS
      rw [e]
      exact ⟨rfl, c3.rf, h⟩
    unfold wp_X3_take
    rw [h.lt]
    refine ⟨fun c => no ?_, fun c => ⟨fun c2 => no ?_, fun c2 => ⟨t, r1, fun _ => ?_⟩⟩⟩
    · unfold tkB; rw [h.f1 c]; rfl
    · unfold tkB sg
      rw [if_neg (by omega), decide_eq_false (fun z => hp z.symm), Bool.and_false]
    · obtain ⟨a1, a2⟩ := h.at (by omega) r1
      rw [show Int32.toNatClampNeg (hI S 82 x0) = iv (hI S 82 x0) from rfl, a2]
      refine ⟨a1, fun c3' S9 e9 => ?_, fun c3' => no ?_⟩
      · rw [h1, nI_1] at e9
        have eB : tkB e0 e1 e2 p0 = true := by unfold tkB; rw [h.f0 c, decide_eq_true c3']; rfl
        have k := h.nx (by omega) (h.f0 c) e9
        unfold tkS
        rw [eB]
        exact ⟨rfl, k⟩
      · unfold tkB; rw [decide_eq_false c3', Bool.and_false])
abbrev ws_X3_expect : List Cond := Cond.code yX3_expect cX3_expect 2 none :: W0
abbrev rm_X3_expect : Room := ({ frames := 1, cells := 0, slots := 0, locals := 21 } : Room)
def wp_X3_expect (P : HS → Prop) (x0 : Nat) (p0 : Int32) (S : HS) : Prop := ∃ (m1 : Nat → Int32) (m2 : Nat) (m3 : PS), ((RdO S x0 m1 m2 m3 ∧ ¬ p0 = (-1 : Int32)) ∧ (∀ (v10 : Int32) (S5 : HS), ext S S5 → (v10 = b2i (tkB m1 m2 m3 p0) ∧ c3 S S5 x0 [82, 83] ∧ RdO S5 x0 m1 m2 (tkS m1 m2 m3 p0)) → ((¬ v10 = 0 → (P S5)) ∧ (v10 = 0 → (∀ S15 : HS, S15 = putI S5 83 x0 1 → (P S15))))))
set_option maxRecDepth 100000 in
set_option maxHeartbeats 4000000 in
theorem t_X3_expect {p : Program} {l : Launch} {e : Env} {s : State} {m : MethodId} {args : Array Value} {below : List Frame} {meth : Method} {c : Code} {D : va_G} {A : Nat → Prop} {T : Nat → ClassId} (C : GC p s m args meth c cX3_expect "FreightRater$Reader" (ws_X3_expect) 2 D A (zty T)) (E : GE T A s) (hr : meth.sig.returnType = none) (P : HS → Prop) : ∀ (x0 : Nat) (p0 : Int32) (S0 S : HS) (L : List Nat), S0 = S → wt S → hL S L → (hK S x0 = 4) → wp_X3_expect P x0 p0 S → GW p l e { rm_X3_expect with cells := 0, slots := 0 } s m args below meth c D A 2 0 0 (MQ below (va_Qv (fun (u : HS × List Nat) => P u.1 ∧ CO S0 u) (CE D T A) A) args s 0 0 A) (CW T S L) 0 0 0 [(0, .ref x0), (1, .int p0)] [] := by
  have hW : ∀ {w : Cond}, w ∈ W0 → w.before args s = true := fun h => C.2.2.2.2.1 _ (List.mem_cons_of_mem _ h)
  intro x0 p0 S0 S L hS0 hw hL hx0 h
  have he : ext S0 S := by rw [hS0]; exact ext_rf
  unfold wp_X3_expect at h
  refine g_aload_n C dX3_expect_0 rfl 0 rfl ?_
  refine g_iload_n C dX3_expect_1 rfl 1 rfl ?_
  obtain ⟨m1, m2, m3, h⟩ := h
  obtain ⟨g4, h⟩ := h
  refine gc_calliV (host := "") C E hw hL hx0 (by decide) (by decide) rfl [.int p0] rfl (k_X3_take l D T x0 p0 S m1 m2 m3 hx0 g4) (w0_V 1 C.2.2.2.2.1 kw_719 kw_721 ks_7 kw_19 kw_722 rfl rfl (by decide +kernel) ⟨Nat.le_of_ble_eq_true rfl, Nat.le_of_ble_eq_true rfl⟩) rfl (Nat.le_of_ble_eq_true rfl) (Nat.le_refl _) (Nat.le_refl _) (Nat.zero_le _) (Nat.zero_le _) dX3_expect_2 (fun v10 S5 L6 e7 w8 w9 hp => ?_)
  replace h := h v10 S5 e7 hp
  have g11 := ext_K e7 hx0 (by decide)
  have w12 := ext_tr he e7
  refine g_if_ne (tgt := 13) C dX3_expect_5 (by decide) (fun z13 => ?_) (fun z13 => ?_)
  · replace h := h.1 z13
    exact gc_vret C w8 w9 w12 hr dX3_expect_13 h
  · replace h := h.2 z13
    refine g_aload_n C dX3_expect_8 rfl 0 rfl ?_
    refine g_iconst (v := 1) C dX3_expect_9 (by decide) ?_
    refine gc_putI C iwx_X3 w9 g11 (by decide) (by decide) rfl 3 (by decide) (hW kw_547) rfl tyX3 tyX3_ok nmX3 rfl rfl rfl (vz_n vz1) (vz_f vz1) dX3_expect_10 ?_
    have w14 := wt_putI w8 83 1 (k_ne g11 (by decide))
    refine gc_nS (fun S15 eS15 => ?_)
    replace h := h S15 eS15
    have w16 : wt S15 := by rw [eS15]; exact w14
    have w17 : isL S15 L6 := by rw [eS15]; exact w9
    have w18 : ext S0 S15 := by rw [eS15]; exact w12
    have g19 : hK S15 x0 = 4 := by rw [eS15]; exact g11
    exact gc_vret C w16 w17 w18 hr dX3_expect_13 h
theorem c_X3_expect (l : Launch) (D : va_G) (T : Nat → ClassId) (x0 : Nat) (p0 : Int32) (S : HS) (hx0 : hK S x0 = 4) (P : HS → Prop) (h : wp_X3_expect P x0 p0 S) : CMv l yX3_expect (ws_X3_expect) rm_X3_expect D T [.ref x0, .int p0] S 0 0 P := gc_metv (by decide) rfl rfl (Nat.le_of_ble_eq_true rfl) (fun p e s m args below meth c A L C E hnm hr hw hL => t_X3_expect C E   hr P x0 p0 S S L rfl hw hL hx0 h)
theorem k_X3_expect (l : Launch) (D : va_G) (T : Nat → ClassId) (x0 : Nat) (p0 : Int32) (S : HS) (e0 : Nat → Int32) (e1 : Nat) (e2 : PS) (hx0 : hK S x0 = 4) (h : RdO S x0 e0 e1 e2 ∧ ¬ p0 = (-1 : Int32)) : CMv l yX3_expect (ws_X3_expect) rm_X3_expect D T [.ref x0, .int p0] S 0 0 (fun S1 => (c3 S S1 x0 [82, 83] ∧ RdO S1 x0 e0 e1 (ndS e0 e1 e2 p0))) := c_X3_expect l D T x0 p0 S hx0 _ <|
  (by
    obtain ⟨h, hp⟩ := h
    unfold wp_X3_expect
    refine ⟨e0, e1, e2, ⟨h, hp⟩, fun v S1 _ h1 => ?_⟩
    obtain ⟨ev, hc, hr⟩ := h1
    subst ev
    refine ⟨fun c => ⟨hc, ?_⟩, fun c S11 e11 => ?_⟩
    · have eB := b2i_nz c
      have e : ndS e0 e1 e2 p0 = tkS e0 e1 e2 p0 := by
        unfold ndS
        rw [eB]
        have hf : e2.2 = false := by
          unfold tkB at eB
          cases hs : e2.2 with
          | false => rfl
          | true => rw [hs, Bool.not_true, Bool.false_and] at eB; cases eB
        unfold tkS
        rw [if_pos eB, hf]
        rfl
      rw [e]
      exact hr
    · have eB := b2i_z c
      have k := hr.bad e11
      have e : ndS e0 e1 e2 p0 = ((tkS e0 e1 e2 p0).1, true) := by
        unfold ndS
        rw [eB]
        rfl
      rw [e]
      exact ⟨hc.tr k.1 (fun _ h => h) (fun _ h => h), k.2⟩)
abbrev ws_X3_readDigit : List Cond := Cond.code yX3_readDigit cX3_readDigit 3 (some .int) :: W0
abbrev rm_X3_readDigit : Room := ({ frames := 0, cells := 0, slots := 0, locals := 0 } : Room)
def wp_X3_readDigit (P : Int32 → HS → Prop) (x0 : Nat) (p0 : Int32) (p1 : Int32) (S : HS) : Prop := (¬ (hI S 83 x0) = 0 → (∀ S3 : HS, S3 = putI S 83 x0 1 → (P 0 S3))) ∧ ((hI S 83 x0) = 0 → (((hI S 81 x0) ≤ (hI S 82 x0) → (∀ S10 : HS, S10 = putI S 83 x0 1 → (P 0 S10))) ∧ (¬ (hI S 81 x0) ≤ (hI S 82 x0) → (∃ b16 : Nat, hR S 80 x0 = some b16 ∧ (hK S b16 = 21 → (vp_in (hI S 82 x0) (hN S b16) ∧ (((hA S b16 (Int32.toNatClampNeg (hI S 82 x0))) < p0 → (∀ S21 : HS, S21 = putI S 83 x0 1 → (P 0 S21))) ∧ (¬ (hA S b16 (Int32.toNatClampNeg (hI S 82 x0))) < p0 → (∃ b27 : Nat, hR S 80 x0 = some b27 ∧ (hK S b27 = 21 → (vp_in (hI S 82 x0) (hN S b27) ∧ (((hA S b27 (Int32.toNatClampNeg (hI S 82 x0))) ≤ p1 → (∀ S32 : HS, S32 = putI S 82 x0 ((hI S 82 x0) + 1) → (∃ b38 : Nat, hR S32 80 x0 = some b38 ∧ (hK S32 b38 = 21 → (vp_in ((hI S32 82 x0) - 1) (hN S32 b38) ∧ (P ((hA S32 b38 (Int32.toNatClampNeg ((hI S32 82 x0) - 1))) - 48) S32)))))) ∧ (¬ (hA S b27 (Int32.toNatClampNeg (hI S 82 x0))) ≤ p1 → (∀ S42 : HS, S42 = putI S 83 x0 1 → (P 0 S42)))))))))))))))
set_option maxRecDepth 100000 in
set_option maxHeartbeats 4000000 in
theorem t_X3_readDigit {p : Program} {l : Launch} {e : Env} {s : State} {m : MethodId} {args : Array Value} {below : List Frame} {meth : Method} {c : Code} {D : va_G} {A : Nat → Prop} {T : Nat → ClassId} (C : GC p s m args meth c cX3_readDigit "FreightRater$Reader" (ws_X3_readDigit) 3 D A (zty T)) (E : GE T A s) (hr : meth.sig.returnType = (some .int)) (P : Int32 → HS → Prop) : ∀ (x0 : Nat) (p0 : Int32) (p1 : Int32) (S0 S : HS) (L : List Nat), S0 = S → wt S → hL S L → (hK S x0 = 4) → wp_X3_readDigit P x0 p0 p1 S → GW p l e { rm_X3_readDigit with cells := 0, slots := 0 } s m args below meth c D A 3 0 0 (MQ below (va_Qi (fun v (u : HS × List Nat) => P v u.1 ∧ CO S0 u) (CE D T A) A) args s 0 0 A) (CW T S L) 0 0 0 [(0, .ref x0), (1, .int p0), (2, .int p1)] [] := by
  have hW : ∀ {w : Cond}, w ∈ W0 → w.before args s = true := fun h => C.2.2.2.2.1 _ (List.mem_cons_of_mem _ h)
  intro x0 p0 p1 S0 S L hS0 hw hL hx0 h
  have he : ext S0 S := by rw [hS0]; exact ext_rf
  unfold wp_X3_readDigit at h
  refine g_aload_n C dX3_readDigit_0 rfl 0 rfl ?_
  refine gc_getI C iwx_X3 hL hx0 (by decide) (by decide) rfl 3 (by decide) (hW kw_547) rfl rfl rfl dX3_readDigit_1 ?_
  refine g_if_ne (tgt := 44) C dX3_readDigit_4 (by decide) (fun z1 => ?_) (fun z1 => ?_)
  · replace h := h.1 z1
    refine g_aload_n C dX3_readDigit_44 rfl 0 rfl ?_
    refine g_iconst (v := 1) C dX3_readDigit_45 (by decide) ?_
    refine gc_putI C iwx_X3 hL hx0 (by decide) (by decide) rfl 3 (by decide) (hW kw_547) rfl tyX3 tyX3_ok nmX3 rfl rfl rfl (vz_n vz1) (vz_f vz1) dX3_readDigit_46 ?_
    have w2 := wt_putI hw 83 1 (k_ne hx0 (by decide))
    refine gc_nS (fun S3 eS3 => ?_)
    replace h := h S3 eS3
    have w4 : wt S3 := by rw [eS3]; exact w2
    have w5 : isL S3 L := by rw [eS3]; exact hL
    have w6 : ext S0 S3 := by rw [eS3]; exact he
    have g7 : hK S3 x0 = 4 := by rw [eS3]; exact hx0
    refine g_iconst (v := 0) C dX3_readDigit_49 (by decide) ?_
    exact gc_iret C w4 w5 w6 hr dX3_readDigit_50 h
  · replace h := h.2 z1
    refine g_aload_n C dX3_readDigit_7 rfl 0 rfl ?_
    refine gc_getI C iwx_X3 hL hx0 (by decide) (by decide) rfl 2 (by decide) (hW kw_545) rfl rfl rfl dX3_readDigit_8 ?_
    refine g_aload_n C dX3_readDigit_11 rfl 0 rfl ?_
    refine gc_getI C iwx_X3 hL hx0 (by decide) (by decide) rfl 1 (by decide) (hW kw_544) rfl rfl rfl dX3_readDigit_12 ?_
    refine g_icmp_ge (tgt := 44) C dX3_readDigit_15 (by decide) (fun z8 => ?_) (fun z8 => ?_)
    · replace h := h.1 z8
      refine g_aload_n C dX3_readDigit_44 rfl 0 rfl ?_
      refine g_iconst (v := 1) C dX3_readDigit_45 (by decide) ?_
      refine gc_putI C iwx_X3 hL hx0 (by decide) (by decide) rfl 3 (by decide) (hW kw_547) rfl tyX3 tyX3_ok nmX3 rfl rfl rfl (vz_n vz1) (vz_f vz1) dX3_readDigit_46 ?_
      have w9 := wt_putI hw 83 1 (k_ne hx0 (by decide))
      refine gc_nS (fun S10 eS10 => ?_)
      replace h := h S10 eS10
      have w11 : wt S10 := by rw [eS10]; exact w9
      have w12 : isL S10 L := by rw [eS10]; exact hL
      have w13 : ext S0 S10 := by rw [eS10]; exact he
      have g14 : hK S10 x0 = 4 := by rw [eS10]; exact hx0
      refine g_iconst (v := 0) C dX3_readDigit_49 (by decide) ?_
      exact gc_iret C w11 w12 w13 hr dX3_readDigit_50 h
    · replace h := h.2 z8
      refine g_aload_n C dX3_readDigit_18 rfl 0 rfl ?_
      refine gc_getR C hw iwx_X3 hL hx0 (by decide) (by decide) rfl 0 (by decide) (hW kw_543) rfl rfl rfl dX3_readDigit_19 (fun o15 eo15 ko15 => ?_)
      obtain ⟨b16, hb9, h⟩ := h
      have g17 : hK S b16 = 21 := ko15 b16 (eo15.trans hb9)
      replace h := h g17
      refine g_opt (eo15.trans hb9) ?_
      refine g_aload_n C dX3_readDigit_22 rfl 0 rfl ?_
      refine gc_getI C iwx_X3 hL hx0 (by decide) (by decide) rfl 2 (by decide) (hW kw_545) rfl rfl rfl dX3_readDigit_23 ?_
      obtain ⟨g18, h⟩ := h
      refine gc_cald C hL g17 g18 dX3_readDigit_26 ?_
      refine g_iload_n C dX3_readDigit_27 rfl 1 rfl ?_
      refine g_icmp_lt (tgt := 44) C dX3_readDigit_28 (by decide) (fun z19 => ?_) (fun z19 => ?_)
      · replace h := h.1 z19
        refine g_aload_n C dX3_readDigit_44 rfl 0 rfl ?_
        refine g_iconst (v := 1) C dX3_readDigit_45 (by decide) ?_
        refine gc_putI C iwx_X3 hL hx0 (by decide) (by decide) rfl 3 (by decide) (hW kw_547) rfl tyX3 tyX3_ok nmX3 rfl rfl rfl (vz_n vz1) (vz_f vz1) dX3_readDigit_46 ?_
        have w20 := wt_putI hw 83 1 (k_ne hx0 (by decide))
        refine gc_nS (fun S21 eS21 => ?_)
        replace h := h S21 eS21
        have w22 : wt S21 := by rw [eS21]; exact w20
        have w23 : isL S21 L := by rw [eS21]; exact hL
        have w24 : ext S0 S21 := by rw [eS21]; exact he
        have g25 : hK S21 x0 = 4 := by rw [eS21]; exact hx0
        refine g_iconst (v := 0) C dX3_readDigit_49 (by decide) ?_
        exact gc_iret C w22 w23 w24 hr dX3_readDigit_50 h
      · replace h := h.2 z19
        refine g_aload_n C dX3_readDigit_31 rfl 0 rfl ?_
        refine gc_getR C hw iwx_X3 hL hx0 (by decide) (by decide) rfl 0 (by decide) (hW kw_543) rfl rfl rfl dX3_readDigit_32 (fun o26 eo26 ko26 => ?_)
        obtain ⟨b27, hb9, h⟩ := h
        have g28 : hK S b27 = 21 := ko26 b27 (eo26.trans hb9)
        replace h := h g28
        refine g_opt (eo26.trans hb9) ?_
        refine g_aload_n C dX3_readDigit_35 rfl 0 rfl ?_
        refine gc_getI C iwx_X3 hL hx0 (by decide) (by decide) rfl 2 (by decide) (hW kw_545) rfl rfl rfl dX3_readDigit_36 ?_
        obtain ⟨g29, h⟩ := h
        refine gc_cald C hL g28 g29 dX3_readDigit_39 ?_
        refine g_iload_n C dX3_readDigit_40 rfl 2 rfl ?_
        refine g_icmp_le (tgt := 51) C dX3_readDigit_41 (by decide) (fun z30 => ?_) (fun z30 => ?_)
        · replace h := h.1 z30
          refine g_aload_n C dX3_readDigit_51 rfl 0 rfl ?_
          refine g_dup C dX3_readDigit_52 rfl ?_
          refine gc_getI C iwx_X3 hL hx0 (by decide) (by decide) rfl 2 (by decide) (hW kw_545) rfl rfl rfl dX3_readDigit_53 ?_
          refine g_iconst (v := 1) C dX3_readDigit_56 (by decide) ?_
          refine g_iadd C dX3_readDigit_57 ?_
          refine gc_putI C iwx_X3 hL hx0 (by decide) (by decide) rfl 2 (by decide) (hW kw_545) rfl tyX3 tyX3_ok nmX3 rfl rfl rfl rfl rfl dX3_readDigit_58 ?_
          have w31 := wt_putI hw 82 ((hI S 82 x0) + 1) (k_ne hx0 (by decide))
          refine gc_nS (fun S32 eS32 => ?_)
          replace h := h S32 eS32
          have w33 : wt S32 := by rw [eS32]; exact w31
          have w34 : isL S32 L := by rw [eS32]; exact hL
          have w35 : ext S0 S32 := by rw [eS32]; exact he
          have g36 : hK S32 x0 = 4 := by rw [eS32]; exact hx0
          refine g_aload_n C dX3_readDigit_61 rfl 0 rfl ?_
          refine gc_getR C w33 iwx_X3 w34 g36 (by decide) (by decide) rfl 0 (by decide) (hW kw_543) rfl rfl rfl dX3_readDigit_62 (fun o37 eo37 ko37 => ?_)
          obtain ⟨b38, hb9, h⟩ := h
          have g39 : hK S32 b38 = 21 := ko37 b38 (eo37.trans hb9)
          replace h := h g39
          refine g_opt (eo37.trans hb9) ?_
          refine g_aload_n C dX3_readDigit_65 rfl 0 rfl ?_
          refine gc_getI C iwx_X3 w34 g36 (by decide) (by decide) rfl 2 (by decide) (hW kw_545) rfl rfl rfl dX3_readDigit_66 ?_
          refine g_iconst (v := 1) C dX3_readDigit_69 (by decide) ?_
          refine g_isub C dX3_readDigit_70 ?_
          obtain ⟨g40, h⟩ := h
          refine gc_cald C w34 g39 g40 dX3_readDigit_71 ?_
          refine g_bipush (v := 48) C dX3_readDigit_72 (by decide) ?_
          refine g_isub C dX3_readDigit_74 ?_
          exact gc_iret C w33 w34 w35 hr dX3_readDigit_75 h
        · replace h := h.2 z30
          refine g_aload_n C dX3_readDigit_44 rfl 0 rfl ?_
          refine g_iconst (v := 1) C dX3_readDigit_45 (by decide) ?_
          refine gc_putI C iwx_X3 hL hx0 (by decide) (by decide) rfl 3 (by decide) (hW kw_547) rfl tyX3 tyX3_ok nmX3 rfl rfl rfl (vz_n vz1) (vz_f vz1) dX3_readDigit_46 ?_
          have w41 := wt_putI hw 83 1 (k_ne hx0 (by decide))
          refine gc_nS (fun S42 eS42 => ?_)
          replace h := h S42 eS42
          have w43 : wt S42 := by rw [eS42]; exact w41
          have w44 : isL S42 L := by rw [eS42]; exact hL
          have w45 : ext S0 S42 := by rw [eS42]; exact he
          have g46 : hK S42 x0 = 4 := by rw [eS42]; exact hx0
          refine g_iconst (v := 0) C dX3_readDigit_49 (by decide) ?_
          exact gc_iret C w43 w44 w45 hr dX3_readDigit_50 h
theorem c_X3_readDigit (l : Launch) (D : va_G) (T : Nat → ClassId) (x0 : Nat) (p0 : Int32) (p1 : Int32) (S : HS) (hx0 : hK S x0 = 4) (P : Int32 → HS → Prop) (h : wp_X3_readDigit P x0 p0 p1 S) : CMi l yX3_readDigit (ws_X3_readDigit) rm_X3_readDigit D T [.ref x0, .int p0, .int p1] S 0 0 P := gc_meti (by decide) rfl rfl (Nat.le_of_ble_eq_true rfl) (fun p e s m args below meth c A L C E hnm hr hw hL => t_X3_readDigit C E   hr P x0 p0 p1 S S L rfl hw hL hx0 h)
theorem k_X3_readDigit (l : Launch) (D : va_G) (T : Nat → ClassId) (x0 : Nat) (p0 : Int32) (p1 : Int32) (S : HS) (e0 : Nat → Int32) (e1 : Nat) (e2 : PS) (e3 : Int32) (e4 : Int32) (hx0 : hK S x0 = 4) (h : RdO S x0 e0 e1 e2 ∧ p0 = 48 + e3 ∧ p1 = 48 + e4 ∧ dix e3 e4) : CMi l yX3_readDigit (ws_X3_readDigit) rm_X3_readDigit D T [.ref x0, .int p0, .int p1] S 0 0 (fun v S1 => (v = dgV e0 e1 e2 e3 e4 ∧ c3 S S1 x0 [82, 83] ∧ RdO S1 x0 e0 e1 (dgS e0 e1 e2 e3 e4))) := c_X3_readDigit l D T x0 p0 p1 S hx0 _ <|
  (by
    obtain ⟨h, q0, q1⟩ := h
    have h0 := h
    obtain ⟨h1, h2, h3, h4, h5, t, r1, r2, r3, r4⟩ := h0
    have no : dgB e0 e1 e2 e3 e4 = false → ∀ S3 : HS, S3 = putI S 83 x0 1 → (0 : Int32) = dgV e0 e1 e2 e3 e4 ∧ c3 S S3 x0 [82, 83] ∧ RdO S3 x0 e0 e1 (dgS e0 e1 e2 e3 e4) := fun e S3 es => by
      unfold dgV dgS
      rw [e]
      exact ⟨rfl, h.bad es⟩
    unfold wp_X3_readDigit
    rw [h.lt]
    refine ⟨fun c => no ?_, fun c => ⟨fun c2 => no ?_, fun c2 => ⟨t, r1, fun _ => ?_⟩⟩⟩
    · unfold dgB; rw [h.f1 c]; rfl
    · unfold dgB sg
      rw [if_neg (by omega)]
      obtain ⟨a, c9, ha, hc9, el, eh⟩ := q1.2
      have : zin (-1) (48 + e3) (48 + e4) = 0 := by
        by_cases g : zin (-1) (48 + e3) (48 + e4) = 0
        · exact g
        · have w := (zin_0.mp g).1
          rw [el, show (48 : Int32) + nI a = nI (48 + a) from nI_add 48 a] at w
          exact absurd (Int32.lt_of_le_of_lt w (show (-1 : Int32) < 0 by decide)) (nI_pos (by omega))
      rw [decide_eq_false (fun z => z this), Bool.and_false]
    · obtain ⟨a1, a2⟩ := h.at (by omega) r1
      rw [show Int32.toNatClampNeg (hI S 82 x0) = iv (hI S 82 x0) from rfl, a2]
      refine ⟨a1, fun c4 => no ?_, fun c4 => ⟨t, r1, fun _ => ⟨a1, fun c5 S32 e32 => ?_, fun c5 => no ?_⟩⟩⟩
      · unfold dgB
        rw [decide_eq_false (fun z => Int32.not_lt.mpr (zin_0.mp z).1 (by rw [← q0]; exact c4)), Bool.and_false]
      · rw [h1, nI_1] at e32
        have eB : dgB e0 e1 e2 e3 e4 = true := by
          unfold dgB
          rw [h.f0 c, decide_eq_true (zin_0.mpr ⟨by rw [← q0]; exact Int32.not_lt.mp c4, by rw [← q1.1, ← a2]; exact c5⟩)]
          rfl
        have k := h.nx (by omega) (h.f0 c) e32
        refine ⟨t, by rw [e32, px_RI]; exact r1, fun _ => ?_⟩
        have e82 : hI S32 82 x0 - 1 = nI e2.1 := by rw [e32, putI_s]; exact sub_k (b := 1) (by omega)
        rw [e82, show hN S32 t = 80 by rw [e32, px_NI]; exact r3, nz_vp (by omega) (by decide), nI_clamp (n := e2.1) (by omega), e32, px_AI, r4 _ (by omega), ← e32]
        unfold dgV dgS
        rw [eB]
        exact ⟨by omega, rfl, k⟩
      · unfold dgB
        rw [decide_eq_false (fun z => c5 (by rw [q1.1, a2]; exact (zin_0.mp z).2)), Bool.and_false])
abbrev ws_X3_readNumber : List Cond := Cond.code yX3_readNumber cX3_readNumber 3 (some .int) :: W0
abbrev rm_X3_readNumber : Room := ({ frames := 0, cells := 0, slots := 0, locals := 0 } : Room)
def wb_X3_readNumber_4 (rec : Nat → Int32 → Int32 → HS → Prop) (P : Int32 → HS → Prop) (x0 : Nat) (x1 : Int32) (x2 : Int32) (S : HS) : Prop := (4 ≤ x2 → ((¬ (hI S 83 x0) = 0 → (∀ S4 : HS, S4 = putI S 83 x0 1 → (P x1 S4))) ∧ ((hI S 83 x0) = 0 → ((¬ x2 = 0 → (∀ S11 : HS, S11 = putI S 83 x0 0 → (P x1 S11))) ∧ (x2 = 0 → (∀ S17 : HS, S17 = putI S 83 x0 1 → (P x1 S17))))))) ∧ (¬ 4 ≤ x2 → ((¬ (hI S 83 x0) = 0 → ((¬ (hI S 83 x0) = 0 → (∀ S25 : HS, S25 = putI S 83 x0 1 → (P x1 S25))) ∧ ((hI S 83 x0) = 0 → ((¬ x2 = 0 → (∀ S32 : HS, S32 = putI S 83 x0 0 → (P x1 S32))) ∧ (x2 = 0 → (∀ S38 : HS, S38 = putI S 83 x0 1 → (P x1 S38))))))) ∧ ((hI S 83 x0) = 0 → (((hI S 81 x0) ≤ (hI S 82 x0) → ((¬ (hI S 83 x0) = 0 → (∀ S46 : HS, S46 = putI S 83 x0 1 → (P x1 S46))) ∧ ((hI S 83 x0) = 0 → ((¬ x2 = 0 → (∀ S53 : HS, S53 = putI S 83 x0 0 → (P x1 S53))) ∧ (x2 = 0 → (∀ S59 : HS, S59 = putI S 83 x0 1 → (P x1 S59))))))) ∧ (¬ (hI S 81 x0) ≤ (hI S 82 x0) → (∃ b65 : Nat, hR S 80 x0 = some b65 ∧ (hK S b65 = 21 → (vp_in (hI S 82 x0) (hN S b65) ∧ (((hA S b65 (Int32.toNatClampNeg (hI S 82 x0))) < 48 → ((¬ (hI S 83 x0) = 0 → (∀ S71 : HS, S71 = putI S 83 x0 1 → (P x1 S71))) ∧ ((hI S 83 x0) = 0 → ((¬ x2 = 0 → (∀ S78 : HS, S78 = putI S 83 x0 0 → (P x1 S78))) ∧ (x2 = 0 → (∀ S84 : HS, S84 = putI S 83 x0 1 → (P x1 S84))))))) ∧ (¬ (hA S b65 (Int32.toNatClampNeg (hI S 82 x0))) < 48 → (∃ b90 : Nat, hR S 80 x0 = some b90 ∧ (hK S b90 = 21 → (vp_in (hI S 82 x0) (hN S b90) ∧ ((57 < (hA S b90 (Int32.toNatClampNeg (hI S 82 x0))) → ((¬ (hI S 83 x0) = 0 → (∀ S96 : HS, S96 = putI S 83 x0 1 → (P x1 S96))) ∧ ((hI S 83 x0) = 0 → ((¬ x2 = 0 → (∀ S103 : HS, S103 = putI S 83 x0 0 → (P x1 S103))) ∧ (x2 = 0 → (∀ S109 : HS, S109 = putI S 83 x0 1 → (P x1 S109))))))) ∧ (¬ 57 < (hA S b90 (Int32.toNatClampNeg (hI S 82 x0))) → (∃ b115 : Nat, hR S 80 x0 = some b115 ∧ (hK S b115 = 21 → (vp_in (hI S 82 x0) (hN S b115) ∧ (∀ v118 : Int32, v118 = (((x1 * 10) + (hA S b115 (Int32.toNatClampNeg (hI S 82 x0)))) - 48) → (∀ S120 : HS, S120 = putI S 82 x0 ((hI S 82 x0) + 1) → (∀ v125 : Int32, v125 = x2 + 1 → (rec x0 v118 v125 S120))))))))))))))))))))))
def wp_X3_readNumber_4 (P : Int32 → HS → Prop) : Nat → Nat → Int32 → Int32 → HS → Prop
  | 0 => fun _ _ _ _ => False
  | n + 1 => fun x0 x1 x2 S => wb_X3_readNumber_4 (wp_X3_readNumber_4  P n)  P x0 x1 x2 S
set_option maxRecDepth 100000 in
set_option maxHeartbeats 4000000 in
theorem t_X3_readNumber_4 {p : Program} {l : Launch} {e : Env} {s : State} {m : MethodId} {args : Array Value} {below : List Frame} {meth : Method} {c : Code} {D : va_G} {A : Nat → Prop} {T : Nat → ClassId} (C : GC p s m args meth c cX3_readNumber "FreightRater$Reader" (ws_X3_readNumber) 3 D A (zty T)) (E : GE T A s) (hr : meth.sig.returnType = (some .int)) (S0 : HS) (P : Int32 → HS → Prop) : ∀ (n : Nat) (x0 : Nat) (x1 : Int32) (x2 : Int32) (S : HS) (L : List Nat), wt S → hL S L → ext S0 S → (hK S x0 = 4) → wp_X3_readNumber_4  P n x0 x1 x2 S → GW p l e { rm_X3_readNumber with cells := 0, slots := 0 } s m args below meth c D A 3 0 0 (MQ below (va_Qi (fun v (u : HS × List Nat) => P v u.1 ∧ CO S0 u) (CE D T A) A) args s 0 0 A) (CW T S L) 0 0 4 [(0, .ref x0), (1, .int x1), (2, .int x2)] [] := by
  have hW : ∀ {w : Cond}, w ∈ W0 → w.before args s = true := fun h => C.2.2.2.2.1 _ (List.mem_cons_of_mem _ h)
  intro n
  induction n with
  | zero => intro x0 x1 x2 S L hw hL he hx0 h; exact h.elim
  | succ n ih =>
    intro x0 x1 x2 S L hw hL he hx0 h
    replace h : wb_X3_readNumber_4 (wp_X3_readNumber_4  P n)  P x0 x1 x2 S := h
    unfold wb_X3_readNumber_4 at h
    refine g_iload_n C dX3_readNumber_4 rfl 2 rfl ?_
    refine g_iconst (v := 4) C dX3_readNumber_5 (by decide) ?_
    refine g_icmp_ge (tgt := 89) C dX3_readNumber_6 (by decide) (fun z1 => ?_) (fun z1 => ?_)
    · replace h := h.1 z1
      refine g_aload_n C dX3_readNumber_89 rfl 0 rfl ?_
      refine g_aload_n C dX3_readNumber_90 rfl 0 rfl ?_
      refine gc_getI C iwx_X3 hL hx0 (by decide) (by decide) rfl 3 (by decide) (hW kw_547) rfl rfl rfl dX3_readNumber_91 ?_
      refine g_if_ne (tgt := 101) C dX3_readNumber_94 (by decide) (fun z2 => ?_) (fun z2 => ?_)
      · replace h := h.1 z2
        refine g_iconst (v := 1) C dX3_readNumber_101 (by decide) ?_
        refine g_goto (tgt := 106) C dX3_readNumber_102 (by decide) ?_
        refine gc_putI C iwx_X3 hL hx0 (by decide) (by decide) rfl 3 (by decide) (hW kw_547) rfl tyX3 tyX3_ok nmX3 rfl rfl rfl (vz_n vz1) (vz_f vz1) dX3_readNumber_106 ?_
        have w3 := wt_putI hw 83 1 (k_ne hx0 (by decide))
        refine gc_nS (fun S4 eS4 => ?_)
        replace h := h S4 eS4
        have w5 : wt S4 := by rw [eS4]; exact w3
        have w6 : isL S4 L := by rw [eS4]; exact hL
        have w7 : ext S0 S4 := by rw [eS4]; exact he
        have g8 : hK S4 x0 = 4 := by rw [eS4]; exact hx0
        refine g_iload_n C dX3_readNumber_109 rfl 1 rfl ?_
        exact gc_iret C w5 w6 w7 hr dX3_readNumber_110 h
      · replace h := h.2 z2
        refine g_iload_n C dX3_readNumber_97 rfl 2 rfl ?_
        refine g_if_ne (tgt := 105) C dX3_readNumber_98 (by decide) (fun z9 => ?_) (fun z9 => ?_)
        · replace h := h.1 z9
          refine g_iconst (v := 0) C dX3_readNumber_105 (by decide) ?_
          refine gc_putI C iwx_X3 hL hx0 (by decide) (by decide) rfl 3 (by decide) (hW kw_547) rfl tyX3 tyX3_ok nmX3 rfl rfl rfl (vz_n vz0) (vz_f vz0) dX3_readNumber_106 ?_
          have w10 := wt_putI hw 83 0 (k_ne hx0 (by decide))
          refine gc_nS (fun S11 eS11 => ?_)
          replace h := h S11 eS11
          have w12 : wt S11 := by rw [eS11]; exact w10
          have w13 : isL S11 L := by rw [eS11]; exact hL
          have w14 : ext S0 S11 := by rw [eS11]; exact he
          have g15 : hK S11 x0 = 4 := by rw [eS11]; exact hx0
          refine g_iload_n C dX3_readNumber_109 rfl 1 rfl ?_
          exact gc_iret C w12 w13 w14 hr dX3_readNumber_110 h
        · replace h := h.2 z9
          refine g_iconst (v := 1) C dX3_readNumber_101 (by decide) ?_
          refine g_goto (tgt := 106) C dX3_readNumber_102 (by decide) ?_
          refine gc_putI C iwx_X3 hL hx0 (by decide) (by decide) rfl 3 (by decide) (hW kw_547) rfl tyX3 tyX3_ok nmX3 rfl rfl rfl (vz_n vz1) (vz_f vz1) dX3_readNumber_106 ?_
          have w16 := wt_putI hw 83 1 (k_ne hx0 (by decide))
          refine gc_nS (fun S17 eS17 => ?_)
          replace h := h S17 eS17
          have w18 : wt S17 := by rw [eS17]; exact w16
          have w19 : isL S17 L := by rw [eS17]; exact hL
          have w20 : ext S0 S17 := by rw [eS17]; exact he
          have g21 : hK S17 x0 = 4 := by rw [eS17]; exact hx0
          refine g_iload_n C dX3_readNumber_109 rfl 1 rfl ?_
          exact gc_iret C w18 w19 w20 hr dX3_readNumber_110 h
    · replace h := h.2 z1
      refine g_aload_n C dX3_readNumber_9 rfl 0 rfl ?_
      refine gc_getI C iwx_X3 hL hx0 (by decide) (by decide) rfl 3 (by decide) (hW kw_547) rfl rfl rfl dX3_readNumber_10 ?_
      refine g_if_ne (tgt := 89) C dX3_readNumber_13 (by decide) (fun z22 => ?_) (fun z22 => ?_)
      · replace h := h.1 z22
        refine g_aload_n C dX3_readNumber_89 rfl 0 rfl ?_
        refine g_aload_n C dX3_readNumber_90 rfl 0 rfl ?_
        refine gc_getI C iwx_X3 hL hx0 (by decide) (by decide) rfl 3 (by decide) (hW kw_547) rfl rfl rfl dX3_readNumber_91 ?_
        refine g_if_ne (tgt := 101) C dX3_readNumber_94 (by decide) (fun z23 => ?_) (fun z23 => ?_)
        · replace h := h.1 z23
          refine g_iconst (v := 1) C dX3_readNumber_101 (by decide) ?_
          refine g_goto (tgt := 106) C dX3_readNumber_102 (by decide) ?_
          refine gc_putI C iwx_X3 hL hx0 (by decide) (by decide) rfl 3 (by decide) (hW kw_547) rfl tyX3 tyX3_ok nmX3 rfl rfl rfl (vz_n vz1) (vz_f vz1) dX3_readNumber_106 ?_
          have w24 := wt_putI hw 83 1 (k_ne hx0 (by decide))
          refine gc_nS (fun S25 eS25 => ?_)
          replace h := h S25 eS25
          have w26 : wt S25 := by rw [eS25]; exact w24
          have w27 : isL S25 L := by rw [eS25]; exact hL
          have w28 : ext S0 S25 := by rw [eS25]; exact he
          have g29 : hK S25 x0 = 4 := by rw [eS25]; exact hx0
          refine g_iload_n C dX3_readNumber_109 rfl 1 rfl ?_
          exact gc_iret C w26 w27 w28 hr dX3_readNumber_110 h
        · replace h := h.2 z23
          refine g_iload_n C dX3_readNumber_97 rfl 2 rfl ?_
          refine g_if_ne (tgt := 105) C dX3_readNumber_98 (by decide) (fun z30 => ?_) (fun z30 => ?_)
          · replace h := h.1 z30
            refine g_iconst (v := 0) C dX3_readNumber_105 (by decide) ?_
            refine gc_putI C iwx_X3 hL hx0 (by decide) (by decide) rfl 3 (by decide) (hW kw_547) rfl tyX3 tyX3_ok nmX3 rfl rfl rfl (vz_n vz0) (vz_f vz0) dX3_readNumber_106 ?_
            have w31 := wt_putI hw 83 0 (k_ne hx0 (by decide))
            refine gc_nS (fun S32 eS32 => ?_)
            replace h := h S32 eS32
            have w33 : wt S32 := by rw [eS32]; exact w31
            have w34 : isL S32 L := by rw [eS32]; exact hL
            have w35 : ext S0 S32 := by rw [eS32]; exact he
            have g36 : hK S32 x0 = 4 := by rw [eS32]; exact hx0
            refine g_iload_n C dX3_readNumber_109 rfl 1 rfl ?_
            exact gc_iret C w33 w34 w35 hr dX3_readNumber_110 h
          · replace h := h.2 z30
            refine g_iconst (v := 1) C dX3_readNumber_101 (by decide) ?_
            refine g_goto (tgt := 106) C dX3_readNumber_102 (by decide) ?_
            refine gc_putI C iwx_X3 hL hx0 (by decide) (by decide) rfl 3 (by decide) (hW kw_547) rfl tyX3 tyX3_ok nmX3 rfl rfl rfl (vz_n vz1) (vz_f vz1) dX3_readNumber_106 ?_
            have w37 := wt_putI hw 83 1 (k_ne hx0 (by decide))
            refine gc_nS (fun S38 eS38 => ?_)
            replace h := h S38 eS38
            have w39 : wt S38 := by rw [eS38]; exact w37
            have w40 : isL S38 L := by rw [eS38]; exact hL
            have w41 : ext S0 S38 := by rw [eS38]; exact he
            have g42 : hK S38 x0 = 4 := by rw [eS38]; exact hx0
            refine g_iload_n C dX3_readNumber_109 rfl 1 rfl ?_
            exact gc_iret C w39 w40 w41 hr dX3_readNumber_110 h
      · replace h := h.2 z22
        refine g_aload_n C dX3_readNumber_16 rfl 0 rfl ?_
        refine gc_getI C iwx_X3 hL hx0 (by decide) (by decide) rfl 2 (by decide) (hW kw_545) rfl rfl rfl dX3_readNumber_17 ?_
        refine g_aload_n C dX3_readNumber_20 rfl 0 rfl ?_
        refine gc_getI C iwx_X3 hL hx0 (by decide) (by decide) rfl 1 (by decide) (hW kw_544) rfl rfl rfl dX3_readNumber_21 ?_
        refine g_icmp_ge (tgt := 89) C dX3_readNumber_24 (by decide) (fun z43 => ?_) (fun z43 => ?_)
        · replace h := h.1 z43
          refine g_aload_n C dX3_readNumber_89 rfl 0 rfl ?_
          refine g_aload_n C dX3_readNumber_90 rfl 0 rfl ?_
          refine gc_getI C iwx_X3 hL hx0 (by decide) (by decide) rfl 3 (by decide) (hW kw_547) rfl rfl rfl dX3_readNumber_91 ?_
          refine g_if_ne (tgt := 101) C dX3_readNumber_94 (by decide) (fun z44 => ?_) (fun z44 => ?_)
          · replace h := h.1 z44
            refine g_iconst (v := 1) C dX3_readNumber_101 (by decide) ?_
            refine g_goto (tgt := 106) C dX3_readNumber_102 (by decide) ?_
            refine gc_putI C iwx_X3 hL hx0 (by decide) (by decide) rfl 3 (by decide) (hW kw_547) rfl tyX3 tyX3_ok nmX3 rfl rfl rfl (vz_n vz1) (vz_f vz1) dX3_readNumber_106 ?_
            have w45 := wt_putI hw 83 1 (k_ne hx0 (by decide))
            refine gc_nS (fun S46 eS46 => ?_)
            replace h := h S46 eS46
            have w47 : wt S46 := by rw [eS46]; exact w45
            have w48 : isL S46 L := by rw [eS46]; exact hL
            have w49 : ext S0 S46 := by rw [eS46]; exact he
            have g50 : hK S46 x0 = 4 := by rw [eS46]; exact hx0
            refine g_iload_n C dX3_readNumber_109 rfl 1 rfl ?_
            exact gc_iret C w47 w48 w49 hr dX3_readNumber_110 h
          · replace h := h.2 z44
            refine g_iload_n C dX3_readNumber_97 rfl 2 rfl ?_
            refine g_if_ne (tgt := 105) C dX3_readNumber_98 (by decide) (fun z51 => ?_) (fun z51 => ?_)
            · replace h := h.1 z51
              refine g_iconst (v := 0) C dX3_readNumber_105 (by decide) ?_
              refine gc_putI C iwx_X3 hL hx0 (by decide) (by decide) rfl 3 (by decide) (hW kw_547) rfl tyX3 tyX3_ok nmX3 rfl rfl rfl (vz_n vz0) (vz_f vz0) dX3_readNumber_106 ?_
              have w52 := wt_putI hw 83 0 (k_ne hx0 (by decide))
              refine gc_nS (fun S53 eS53 => ?_)
              replace h := h S53 eS53
              have w54 : wt S53 := by rw [eS53]; exact w52
              have w55 : isL S53 L := by rw [eS53]; exact hL
              have w56 : ext S0 S53 := by rw [eS53]; exact he
              have g57 : hK S53 x0 = 4 := by rw [eS53]; exact hx0
              refine g_iload_n C dX3_readNumber_109 rfl 1 rfl ?_
              exact gc_iret C w54 w55 w56 hr dX3_readNumber_110 h
            · replace h := h.2 z51
              refine g_iconst (v := 1) C dX3_readNumber_101 (by decide) ?_
              refine g_goto (tgt := 106) C dX3_readNumber_102 (by decide) ?_
              refine gc_putI C iwx_X3 hL hx0 (by decide) (by decide) rfl 3 (by decide) (hW kw_547) rfl tyX3 tyX3_ok nmX3 rfl rfl rfl (vz_n vz1) (vz_f vz1) dX3_readNumber_106 ?_
              have w58 := wt_putI hw 83 1 (k_ne hx0 (by decide))
              refine gc_nS (fun S59 eS59 => ?_)
              replace h := h S59 eS59
              have w60 : wt S59 := by rw [eS59]; exact w58
              have w61 : isL S59 L := by rw [eS59]; exact hL
              have w62 : ext S0 S59 := by rw [eS59]; exact he
              have g63 : hK S59 x0 = 4 := by rw [eS59]; exact hx0
              refine g_iload_n C dX3_readNumber_109 rfl 1 rfl ?_
              exact gc_iret C w60 w61 w62 hr dX3_readNumber_110 h
        · replace h := h.2 z43
          refine g_aload_n C dX3_readNumber_27 rfl 0 rfl ?_
          refine gc_getR C hw iwx_X3 hL hx0 (by decide) (by decide) rfl 0 (by decide) (hW kw_543) rfl rfl rfl dX3_readNumber_28 (fun o64 eo64 ko64 => ?_)
          obtain ⟨b65, hb9, h⟩ := h
          have g66 : hK S b65 = 21 := ko64 b65 (eo64.trans hb9)
          replace h := h g66
          refine g_opt (eo64.trans hb9) ?_
          refine g_aload_n C dX3_readNumber_31 rfl 0 rfl ?_
          refine gc_getI C iwx_X3 hL hx0 (by decide) (by decide) rfl 2 (by decide) (hW kw_545) rfl rfl rfl dX3_readNumber_32 ?_
          obtain ⟨g67, h⟩ := h
          refine gc_cald C hL g66 g67 dX3_readNumber_35 ?_
          refine g_bipush (v := 48) C dX3_readNumber_36 (by decide) ?_
          refine g_icmp_lt (tgt := 89) C dX3_readNumber_38 (by decide) (fun z68 => ?_) (fun z68 => ?_)
          · replace h := h.1 z68
            refine g_aload_n C dX3_readNumber_89 rfl 0 rfl ?_
            refine g_aload_n C dX3_readNumber_90 rfl 0 rfl ?_
            refine gc_getI C iwx_X3 hL hx0 (by decide) (by decide) rfl 3 (by decide) (hW kw_547) rfl rfl rfl dX3_readNumber_91 ?_
            refine g_if_ne (tgt := 101) C dX3_readNumber_94 (by decide) (fun z69 => ?_) (fun z69 => ?_)
            · replace h := h.1 z69
              refine g_iconst (v := 1) C dX3_readNumber_101 (by decide) ?_
              refine g_goto (tgt := 106) C dX3_readNumber_102 (by decide) ?_
              refine gc_putI C iwx_X3 hL hx0 (by decide) (by decide) rfl 3 (by decide) (hW kw_547) rfl tyX3 tyX3_ok nmX3 rfl rfl rfl (vz_n vz1) (vz_f vz1) dX3_readNumber_106 ?_
              have w70 := wt_putI hw 83 1 (k_ne hx0 (by decide))
              refine gc_nS (fun S71 eS71 => ?_)
              replace h := h S71 eS71
              have w72 : wt S71 := by rw [eS71]; exact w70
              have w73 : isL S71 L := by rw [eS71]; exact hL
              have w74 : ext S0 S71 := by rw [eS71]; exact he
              have g75 : hK S71 x0 = 4 := by rw [eS71]; exact hx0
              refine g_iload_n C dX3_readNumber_109 rfl 1 rfl ?_
              exact gc_iret C w72 w73 w74 hr dX3_readNumber_110 h
            · replace h := h.2 z69
              refine g_iload_n C dX3_readNumber_97 rfl 2 rfl ?_
              refine g_if_ne (tgt := 105) C dX3_readNumber_98 (by decide) (fun z76 => ?_) (fun z76 => ?_)
              · replace h := h.1 z76
                refine g_iconst (v := 0) C dX3_readNumber_105 (by decide) ?_
                refine gc_putI C iwx_X3 hL hx0 (by decide) (by decide) rfl 3 (by decide) (hW kw_547) rfl tyX3 tyX3_ok nmX3 rfl rfl rfl (vz_n vz0) (vz_f vz0) dX3_readNumber_106 ?_
                have w77 := wt_putI hw 83 0 (k_ne hx0 (by decide))
                refine gc_nS (fun S78 eS78 => ?_)
                replace h := h S78 eS78
                have w79 : wt S78 := by rw [eS78]; exact w77
                have w80 : isL S78 L := by rw [eS78]; exact hL
                have w81 : ext S0 S78 := by rw [eS78]; exact he
                have g82 : hK S78 x0 = 4 := by rw [eS78]; exact hx0
                refine g_iload_n C dX3_readNumber_109 rfl 1 rfl ?_
                exact gc_iret C w79 w80 w81 hr dX3_readNumber_110 h
              · replace h := h.2 z76
                refine g_iconst (v := 1) C dX3_readNumber_101 (by decide) ?_
                refine g_goto (tgt := 106) C dX3_readNumber_102 (by decide) ?_
                refine gc_putI C iwx_X3 hL hx0 (by decide) (by decide) rfl 3 (by decide) (hW kw_547) rfl tyX3 tyX3_ok nmX3 rfl rfl rfl (vz_n vz1) (vz_f vz1) dX3_readNumber_106 ?_
                have w83 := wt_putI hw 83 1 (k_ne hx0 (by decide))
                refine gc_nS (fun S84 eS84 => ?_)
                replace h := h S84 eS84
                have w85 : wt S84 := by rw [eS84]; exact w83
                have w86 : isL S84 L := by rw [eS84]; exact hL
                have w87 : ext S0 S84 := by rw [eS84]; exact he
                have g88 : hK S84 x0 = 4 := by rw [eS84]; exact hx0
                refine g_iload_n C dX3_readNumber_109 rfl 1 rfl ?_
                exact gc_iret C w85 w86 w87 hr dX3_readNumber_110 h
          · replace h := h.2 z68
            refine g_aload_n C dX3_readNumber_41 rfl 0 rfl ?_
            refine gc_getR C hw iwx_X3 hL hx0 (by decide) (by decide) rfl 0 (by decide) (hW kw_543) rfl rfl rfl dX3_readNumber_42 (fun o89 eo89 ko89 => ?_)
            obtain ⟨b90, hb9, h⟩ := h
            have g91 : hK S b90 = 21 := ko89 b90 (eo89.trans hb9)
            replace h := h g91
            refine g_opt (eo89.trans hb9) ?_
            refine g_aload_n C dX3_readNumber_45 rfl 0 rfl ?_
            refine gc_getI C iwx_X3 hL hx0 (by decide) (by decide) rfl 2 (by decide) (hW kw_545) rfl rfl rfl dX3_readNumber_46 ?_
            obtain ⟨g92, h⟩ := h
            refine gc_cald C hL g91 g92 dX3_readNumber_49 ?_
            refine g_bipush (v := 57) C dX3_readNumber_50 (by decide) ?_
            refine g_icmp_gt (tgt := 89) C dX3_readNumber_52 (by decide) (fun z93 => ?_) (fun z93 => ?_)
            · replace h := h.1 z93
              refine g_aload_n C dX3_readNumber_89 rfl 0 rfl ?_
              refine g_aload_n C dX3_readNumber_90 rfl 0 rfl ?_
              refine gc_getI C iwx_X3 hL hx0 (by decide) (by decide) rfl 3 (by decide) (hW kw_547) rfl rfl rfl dX3_readNumber_91 ?_
              refine g_if_ne (tgt := 101) C dX3_readNumber_94 (by decide) (fun z94 => ?_) (fun z94 => ?_)
              · replace h := h.1 z94
                refine g_iconst (v := 1) C dX3_readNumber_101 (by decide) ?_
                refine g_goto (tgt := 106) C dX3_readNumber_102 (by decide) ?_
                refine gc_putI C iwx_X3 hL hx0 (by decide) (by decide) rfl 3 (by decide) (hW kw_547) rfl tyX3 tyX3_ok nmX3 rfl rfl rfl (vz_n vz1) (vz_f vz1) dX3_readNumber_106 ?_
                have w95 := wt_putI hw 83 1 (k_ne hx0 (by decide))
                refine gc_nS (fun S96 eS96 => ?_)
                replace h := h S96 eS96
                have w97 : wt S96 := by rw [eS96]; exact w95
                have w98 : isL S96 L := by rw [eS96]; exact hL
                have w99 : ext S0 S96 := by rw [eS96]; exact he
                have g100 : hK S96 x0 = 4 := by rw [eS96]; exact hx0
                refine g_iload_n C dX3_readNumber_109 rfl 1 rfl ?_
                exact gc_iret C w97 w98 w99 hr dX3_readNumber_110 h
              · replace h := h.2 z94
                refine g_iload_n C dX3_readNumber_97 rfl 2 rfl ?_
                refine g_if_ne (tgt := 105) C dX3_readNumber_98 (by decide) (fun z101 => ?_) (fun z101 => ?_)
                · replace h := h.1 z101
                  refine g_iconst (v := 0) C dX3_readNumber_105 (by decide) ?_
                  refine gc_putI C iwx_X3 hL hx0 (by decide) (by decide) rfl 3 (by decide) (hW kw_547) rfl tyX3 tyX3_ok nmX3 rfl rfl rfl (vz_n vz0) (vz_f vz0) dX3_readNumber_106 ?_
                  have w102 := wt_putI hw 83 0 (k_ne hx0 (by decide))
                  refine gc_nS (fun S103 eS103 => ?_)
                  replace h := h S103 eS103
                  have w104 : wt S103 := by rw [eS103]; exact w102
                  have w105 : isL S103 L := by rw [eS103]; exact hL
                  have w106 : ext S0 S103 := by rw [eS103]; exact he
                  have g107 : hK S103 x0 = 4 := by rw [eS103]; exact hx0
                  refine g_iload_n C dX3_readNumber_109 rfl 1 rfl ?_
                  exact gc_iret C w104 w105 w106 hr dX3_readNumber_110 h
                · replace h := h.2 z101
                  refine g_iconst (v := 1) C dX3_readNumber_101 (by decide) ?_
                  refine g_goto (tgt := 106) C dX3_readNumber_102 (by decide) ?_
                  refine gc_putI C iwx_X3 hL hx0 (by decide) (by decide) rfl 3 (by decide) (hW kw_547) rfl tyX3 tyX3_ok nmX3 rfl rfl rfl (vz_n vz1) (vz_f vz1) dX3_readNumber_106 ?_
                  have w108 := wt_putI hw 83 1 (k_ne hx0 (by decide))
                  refine gc_nS (fun S109 eS109 => ?_)
                  replace h := h S109 eS109
                  have w110 : wt S109 := by rw [eS109]; exact w108
                  have w111 : isL S109 L := by rw [eS109]; exact hL
                  have w112 : ext S0 S109 := by rw [eS109]; exact he
                  have g113 : hK S109 x0 = 4 := by rw [eS109]; exact hx0
                  refine g_iload_n C dX3_readNumber_109 rfl 1 rfl ?_
                  exact gc_iret C w110 w111 w112 hr dX3_readNumber_110 h
            · replace h := h.2 z93
              refine g_iload_n C dX3_readNumber_55 rfl 1 rfl ?_
              refine g_bipush (v := 10) C dX3_readNumber_56 (by decide) ?_
              refine g_imul C dX3_readNumber_58 ?_
              refine g_aload_n C dX3_readNumber_59 rfl 0 rfl ?_
              refine gc_getR C hw iwx_X3 hL hx0 (by decide) (by decide) rfl 0 (by decide) (hW kw_543) rfl rfl rfl dX3_readNumber_60 (fun o114 eo114 ko114 => ?_)
              obtain ⟨b115, hb9, h⟩ := h
              have g116 : hK S b115 = 21 := ko114 b115 (eo114.trans hb9)
              replace h := h g116
              refine g_opt (eo114.trans hb9) ?_
              refine g_aload_n C dX3_readNumber_63 rfl 0 rfl ?_
              refine gc_getI C iwx_X3 hL hx0 (by decide) (by decide) rfl 2 (by decide) (hW kw_545) rfl rfl rfl dX3_readNumber_64 ?_
              obtain ⟨g117, h⟩ := h
              refine gc_cald C hL g116 g117 dX3_readNumber_67 ?_
              refine g_iadd C dX3_readNumber_68 ?_
              refine g_bipush (v := 48) C dX3_readNumber_69 (by decide) ?_
              refine g_isub C dX3_readNumber_71 ?_
              refine g_topi (fun v118 ev118 => ?_)
              replace h := h v118 ev118
              refine g_istore_n (lv' := [(1, .int v118), (0, .ref x0), (2, .int x2)]) C dX3_readNumber_72 rfl (by decide) rfl ?_
              refine g_aload_n C dX3_readNumber_73 rfl 1 rfl ?_
              refine g_dup C dX3_readNumber_74 rfl ?_
              refine gc_getI C iwx_X3 hL hx0 (by decide) (by decide) rfl 2 (by decide) (hW kw_545) rfl rfl rfl dX3_readNumber_75 ?_
              refine g_iconst (v := 1) C dX3_readNumber_78 (by decide) ?_
              refine g_iadd C dX3_readNumber_79 ?_
              refine gc_putI C iwx_X3 hL hx0 (by decide) (by decide) rfl 2 (by decide) (hW kw_545) rfl tyX3 tyX3_ok nmX3 rfl rfl rfl rfl rfl dX3_readNumber_80 ?_
              have w119 := wt_putI hw 82 ((hI S 82 x0) + 1) (k_ne hx0 (by decide))
              refine gc_nS (fun S120 eS120 => ?_)
              replace h := h S120 eS120
              have w121 : wt S120 := by rw [eS120]; exact w119
              have w122 : isL S120 L := by rw [eS120]; exact hL
              have w123 : ext S0 S120 := by rw [eS120]; exact he
              have g124 : hK S120 x0 = 4 := by rw [eS120]; exact hx0
              obtain ⟨v125, ev125⟩ : ∃ y : Int32, y = x2 + 1 := ⟨_, rfl⟩
              replace h := h v125 ev125
              refine g_iinc (v := v125) (lv' := [(2, .int v125), (1, .int v118), (0, .ref x0)]) C dX3_readNumber_83 (j := 2) rfl (by rw [ev125]; rfl) (by decide) rfl ?_
              refine g_goto (tgt := 4) C dX3_readNumber_86 (by decide) ?_
              refine g_locals [2, 1, 0] rfl ?_
              exact ih x0 v118 v125 S120 L w121 w122 w123 g124 h
def wp_X3_readNumber (P : Int32 → HS → Prop) (x0 : Nat) (S : HS) : Prop := ∃ k126 : Nat, wp_X3_readNumber_4  P k126 x0 0 0 S
set_option maxRecDepth 100000 in
set_option maxHeartbeats 4000000 in
theorem t_X3_readNumber {p : Program} {l : Launch} {e : Env} {s : State} {m : MethodId} {args : Array Value} {below : List Frame} {meth : Method} {c : Code} {D : va_G} {A : Nat → Prop} {T : Nat → ClassId} (C : GC p s m args meth c cX3_readNumber "FreightRater$Reader" (ws_X3_readNumber) 3 D A (zty T)) (E : GE T A s) (hr : meth.sig.returnType = (some .int)) (P : Int32 → HS → Prop) : ∀ (x0 : Nat) (S0 S : HS) (L : List Nat), S0 = S → wt S → hL S L → (hK S x0 = 4) → wp_X3_readNumber P x0 S → GW p l e { rm_X3_readNumber with cells := 0, slots := 0 } s m args below meth c D A 3 0 0 (MQ below (va_Qi (fun v (u : HS × List Nat) => P v u.1 ∧ CO S0 u) (CE D T A) A) args s 0 0 A) (CW T S L) 0 0 0 [(0, .ref x0)] [] := by
  have hW : ∀ {w : Cond}, w ∈ W0 → w.before args s = true := fun h => C.2.2.2.2.1 _ (List.mem_cons_of_mem _ h)
  intro x0 S0 S L hS0 hw hL hx0 h
  have he : ext S0 S := by rw [hS0]; exact ext_rf
  unfold wp_X3_readNumber at h
  refine g_iconst (v := 0) C dX3_readNumber_0 (by decide) ?_
  refine g_istore_n (lv' := [(1, .int 0), (0, .ref x0)]) C dX3_readNumber_1 rfl (by decide) rfl ?_
  refine g_iconst (v := 0) C dX3_readNumber_2 (by decide) ?_
  refine g_istore_n (lv' := [(2, .int 0), (1, .int 0), (0, .ref x0)]) C dX3_readNumber_3 rfl (by decide) rfl ?_
  refine g_locals [2, 1, 0] rfl ?_
  obtain ⟨k126, h⟩ := h
  refine t_X3_readNumber_4 C E hr S0  P  k126 x0 0 0 S L hw hL he hx0 h
theorem c_X3_readNumber (l : Launch) (D : va_G) (T : Nat → ClassId) (x0 : Nat) (S : HS) (hx0 : hK S x0 = 4) (P : Int32 → HS → Prop) (h : wp_X3_readNumber P x0 S) : CMi l yX3_readNumber (ws_X3_readNumber) rm_X3_readNumber D T [.ref x0] S 0 0 P := gc_meti (by decide) rfl rfl (Nat.le_of_ble_eq_true rfl) (fun p e s m args below meth c A L C E hnm hr hw hL => t_X3_readNumber C E   hr P x0 S S L rfl hw hL hx0 h)
theorem nb_ar (v b : Int32) : (v * 10 + b) - 48 = 10 * v + (b - 48) := by
  rw [Int32.mul_comm, Int32.sub_eq_add_neg, Int32.sub_eq_add_neg, Int32.add_assoc]
/-- a number's digits, as the class reads them -/
def nbC (b : Nat → Int32) (n : Nat) : Nat → Nat → Int32 → PS → Int32 × PS
  | 0, d, v, σ => (v, (σ.1, σ.2 || d == 0))
  | k + 1, d, v, σ => if dgB b n σ 0 9 then nbC b n k (d + 1) (10 * v + dgV b n σ 0 9) (σ.1 + 1, σ.2) else (v, (σ.1, σ.2 || d == 0))
theorem nbC_1 {b : Nat → Int32} {n : Nat} : ∀ (k d : Nat) (v : Int32) (σ : PS), 0 < d → nbC b n k d v σ = nbL b n k v σ := by
  intro k
  induction k with
  | zero =>
    intro d v σ h
    rw [nbC, nbL, show (d == 0) = false from nz_beq (by omega), Bool.or_false]
  | succ k ih =>
    intro d v σ h
    rw [nbC, nbL]
    by_cases c : dgB b n σ 0 9 = true
    · rw [if_pos c, if_pos c, ih _ _ _ (by omega)]
      unfold dgS
      rw [if_pos c]
    · rw [if_neg c, if_neg c, show (d == 0) = false from nz_beq (by omega), Bool.or_false]
theorem nbC_0 {b : Nat → Int32} {n : Nat} {σ : PS} : nbC b n 4 0 0 σ = nbF b n σ := by
  unfold nbF
  rw [nbC]
  by_cases c : dgB b n σ 0 9 = true
  · rw [if_pos c, nbC_1 _ _ _ _ (by omega), show (10 : Int32) * 0 = 0 from rfl, Int32.zero_add]
    unfold dgS
    rw [if_pos c]
  · have e1 : dgV b n σ 0 9 = 0 := by unfold dgV; rw [if_neg c]
    have e2 : dgS b n σ 0 9 = (σ.1, true) := by unfold dgS; rw [if_neg c]
    rw [if_neg c, e1, e2, nbL]
    have e3 : dgB b n (σ.1, true) 0 9 = false := by unfold dgB; rfl
    rw [e3, show ((0 : Nat) == 0) = true from rfl, Bool.or_true]
    rfl
theorem rl_rn {P : Int32 → HS → Prop} {S0 : HS} {x n : Nat} {b : Nat → Int32} {R : Int32 × PS} (hP : ∀ S1, c3 S0 S1 x [82, 83] → RdO S1 x b n R.2 → P R.1 S1) : ∀ (k d fuel : Nat) (v : Int32) (S : HS) (σ : PS), d + k = 4 → k < fuel → c3 S0 S x [82, 83] → RdO S x b n σ → nbC b n k d v σ = R → wp_X3_readNumber_4 P fuel x v (nI d) S := by
  intro k
  induction k with
  | zero =>
    intro d fuel v S σ hd hf hc h hR9
    rw [nbC] at hR9
    subst hR9
    have hs : d = 4 := by omega
    subst hs
    obtain ⟨f, rfl⟩ : ∃ f, fuel = f + 1 := ⟨fuel - 1, by omega⟩; rw [wp_X3_readNumber_4]; unfold wb_X3_readNumber_4; dsimp only
    refine ⟨fun _ => ⟨fun c S4 e4 => ?_, fun c => ⟨fun _ S11 e11 => ?_, fun z => absurd z (by decide)⟩⟩, fun z => absurd (by decide) z⟩
    · have q := h.bad e4
      rw [h.f1 c] at hP
      exact hP S4 (hc.tr q.1 (fun _ h => h) (fun _ h => h)) q.2
    · have q : c3 S S11 x [82, 83] := by rw [e11]; exact c3.rf.up (by decide) _
      have hf0 := h.f0 c
      rw [hf0] at hP
      exact hP S11 (hc.tr q (fun _ h => h) (fun _ h => h)) (h.c q (by rw [e11, putI_i _ _ _ (by decide), h.1]) (by rw [e11, putI_s]; rfl) h.2.2.1)
  | succ k ih =>
    intro d fuel v S σ hd hf hc h hR9
    have h0 := h
    obtain ⟨h1, h2, h3, h4, h5, t, r1, r2, r3, r4⟩ := h0
    rw [nbC] at hR9
    have fin : dgB b n σ 0 9 = false → (¬ hI S 83 x = 0 → ∀ S4 : HS, S4 = putI S 83 x 1 → P v S4) ∧ (hI S 83 x = 0 → (¬ nI d = 0 → ∀ S4 : HS, S4 = putI S 83 x 0 → P v S4) ∧ (nI d = 0 → ∀ S4 : HS, S4 = putI S 83 x 1 → P v S4)) := fun e => by
      rw [e] at hR9
      have hR8 : (v, (σ.1, σ.2 || d == 0)) = R := hR9
      subst hR8
      refine ⟨fun c S4 e4 => ?_, fun c => ⟨fun c1 S4 e4 => ?_, fun c1 S4 e4 => ?_⟩⟩
      · have q := h.bad e4
        rw [h.f1 c] at hP
        exact hP S4 (hc.tr q.1 (fun _ h => h) (fun _ h => h)) q.2
      · have q : c3 S S4 x [82, 83] := by rw [e4]; exact c3.rf.up (by decide) _
        have hd0 : (d == 0) = false := nz_beq (fun z => c1 (by rw [z]; rfl))
        rw [h.f0 c, hd0] at hP
        exact hP S4 (hc.tr q (fun _ h => h) (fun _ h => h)) (h.c q (by rw [e4, putI_i _ _ _ (by decide), h.1]) (by rw [e4, putI_s]; rfl) h.2.2.1)
      · have q := h.bad e4
        have hd0 : d = 0 := (nI_eq (b := 0) (by omega) (by decide)).mp c1
        rw [hd0, show ((0 : Nat) == 0) = true from rfl, Bool.or_true] at hP
        exact hP S4 (hc.tr q.1 (fun _ h => h) (fun _ h => h)) q.2
    obtain ⟨f, rfl⟩ : ∃ f, fuel = f + 1 := ⟨fuel - 1, by omega⟩; rw [wp_X3_readNumber_4]; unfold wb_X3_readNumber_4; dsimp only
    rw [h.lt, show (4 : Int32) = nI 4 from rfl, nI_leI (by omega) (by omega), nI_1]
    refine ⟨fun z => absurd z (by omega), fun _ => ⟨fun c => fin ?_, fun c => ⟨fun c2 => fin ?_, fun c2 => ⟨t, r1, fun _ => ?_⟩⟩⟩⟩
    · unfold dgB; rw [h.f1 c]; rfl
    · unfold dgB sg
      rw [if_neg (by omega)]
      rw [decide_eq_false (fun z => z (by decide)), Bool.and_false]
    · obtain ⟨a1, a2⟩ := h.at (by omega) r1
      rw [show Int32.toNatClampNeg (hI S 82 x) = iv (hI S 82 x) from rfl, a2]
      refine ⟨a1, fun c4 => fin ?_, fun c4 => ⟨t, r1, fun _ => ⟨a1, fun c5 => fin ?_, fun c5 => ⟨t, r1, fun _ => ⟨a1, fun v9 e9 S12 e12 w9 e8 => ?_⟩⟩⟩⟩⟩
      · unfold dgB
        rw [show (48 : Int32) + 0 = 48 from rfl, show (48 : Int32) + 9 = 57 from rfl, decide_eq_false (fun z => Int32.not_lt.mpr (zin_0.mp z).1 c4), Bool.and_false]
      · unfold dgB
        rw [a2] at c5
        rw [show (48 : Int32) + 0 = 48 from rfl, show (48 : Int32) + 9 = 57 from rfl, decide_eq_false (fun z => Int32.not_lt.mpr (zin_0.mp z).2 c5), Bool.and_false]
      · have eB : dgB b n σ 0 9 = true := by
          unfold dgB
          rw [a2] at c5
          rw [show (48 : Int32) + 0 = 48 from rfl, show (48 : Int32) + 9 = 57 from rfl, h.f0 c, decide_eq_true (zin_0.mpr ⟨Int32.not_lt.mp c4, Int32.not_lt.mp c5⟩)]
          rfl
        rw [if_pos eB] at hR9
        rw [h1, nI_1] at e12
        have q := h.nx (by omega) (h.f0 c) e12
        have ev : v9 = 10 * v + dgV b n σ 0 9 := by
          rw [e9, nb_ar, a2]
          unfold dgV sg
          rw [if_pos eB, if_pos (by omega)]
        subst e8
        rw [ev]
        exact ih (d + 1) f _ S12 _ (by omega) (by omega) (hc.tr q.1 (fun _ h => h) (fun _ h => h)) q.2 hR9
theorem k_X3_readNumber (l : Launch) (D : va_G) (T : Nat → ClassId) (x0 : Nat) (S : HS) (e0 : Nat → Int32) (e1 : Nat) (e2 : PS) (hx0 : hK S x0 = 4) (h : RdO S x0 e0 e1 e2) : CMi l yX3_readNumber (ws_X3_readNumber) rm_X3_readNumber D T [.ref x0] S 0 0 (fun v S1 => (v = (nbF e0 e1 e2).1 ∧ c3 S S1 x0 [82, 83] ∧ RdO S1 x0 e0 e1 ((nbF e0 e1 e2).2))) := c_X3_readNumber l D T x0 S hx0 _ <|
  (by
    unfold wp_X3_readNumber
    exact ⟨20, rl_rn (R := nbF e0 e1 e2) (fun S1 c1 q1 => ⟨rfl, c1, q1⟩) 4 0 20 0 S e2 (by omega) (by omega) c3.rf h nbC_0⟩)

end S_C6A
