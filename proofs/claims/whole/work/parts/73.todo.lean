section S_CW
def wp_X4_amountBy (P : Int32 → HS → Prop) (x0 : Nat) (p0 : Int32) (p1 : Int32) (S : HS) : Prop := ∃ b2 : Nat, hR S 101 x0 = some b2 ∧ (hK S b2 = 22 → (vp_in p0 (hN S b2) ∧ (∃ b6 : Nat, hR S 102 x0 = some b6 ∧ (hK S b6 = 22 → (vp_in p0 (hN S b6) ∧ (P ((if p1 < (hA S b2 (Int32.toNatClampNeg p0)) then (hA S b2 (Int32.toNatClampNeg p0)) else p1) * (hA S b6 (Int32.toNatClampNeg p0))) S))))))
set_option maxRecDepth 100000 in
set_option maxHeartbeats 4000000 in
theorem t_X4_amountBy {p : Program} {l : Launch} {e : Env} {s : State} {m : MethodId} {args : Array Value} {below : List Frame} {meth : Method} {c : Code} {D : va_G} {A : Nat → Prop} {T : Nat → ClassId} (C : GC p s m args meth c cX4_amountBy "FreightRater$Scale" (ws_X4_amountBy) 3 D A (zty T)) (E : GE A s) (hr : meth.sig.returnType = (some .int)) (P : Int32 → HS → Prop) : ∀ (x0 : Nat) (p0 : Int32) (p1 : Int32) (S0 S : HS) (L : List Nat), S0 = S → wt S → hL S L → (hK S x0 = 5) → wp_X4_amountBy P x0 p0 p1 S → GW p l e { rm_X4_amountBy with cells := 0, slots := 0 } s m args below meth c D A 3 0 0 (MQ below (va_Qi (fun v (u : HS × List Nat) => P v u.1 ∧ CO S0 u) (CE D T A) A) args s 0 0 A) (CW T S L) 0 0 0 [(0, .ref x0), (1, .int p0), (2, .int p1)] [] := by
  have hW : ∀ {w : Cond}, w ∈ W0 → w.before args s = true := fun h => C.2.2.2.2.1 _ (List.mem_cons_of_mem _ h)
  intro x0 p0 p1 S0 S L hS0 hw hL hx0 h
  have he : ext S0 S := by rw [hS0]; exact ext_rf
  unfold wp_X4_amountBy at h
  refine g_iload_n C dX4_amountBy_0 rfl 2 rfl ?_
  refine g_aload_n C dX4_amountBy_1 rfl 0 rfl ?_
  refine gc_getR C hw iwx_X4 hL hx0 (by decide) (by decide) rfl 1 (by decide) (hW kw_397) rfl rfl rfl dX4_amountBy_2 (fun o1 eo1 ko1 => ?_)
  obtain ⟨b2, hb9, h⟩ := h
  have g3 : hK S b2 = 22 := ko1 b2 (eo1.trans hb9)
  replace h := h g3
  refine g_opt (eo1.trans hb9) ?_
  refine g_iload_n C dX4_amountBy_5 rfl 1 rfl ?_
  obtain ⟨g4, h⟩ := h
  refine gc_iald C hL g3 g4 dX4_amountBy_6 ?_
  refine g_mmax C (hW kw_1058) (hW kw_626) (hW kw_18) (hW kw_627) (Nat.le_of_ble_eq_true rfl) (Nat.le_of_ble_eq_true rfl) (Nat.le_refl _) (Nat.le_refl _) dX4_amountBy_7 ?_
  refine g_aload_n C dX4_amountBy_10 rfl 0 rfl ?_
  refine gc_getR C hw iwx_X4 hL hx0 (by decide) (by decide) rfl 2 (by decide) (hW kw_400) rfl rfl rfl dX4_amountBy_11 (fun o5 eo5 ko5 => ?_)
  obtain ⟨b6, hb9, h⟩ := h
  have g7 : hK S b6 = 22 := ko5 b6 (eo5.trans hb9)
  replace h := h g7
  refine g_opt (eo5.trans hb9) ?_
  refine g_iload_n C dX4_amountBy_14 rfl 1 rfl ?_
  obtain ⟨g8, h⟩ := h
  refine gc_iald C hL g7 g8 dX4_amountBy_15 ?_
  refine g_imul C dX4_amountBy_16 ?_
  exact gc_iret C hw hL he hr dX4_amountBy_17 h
theorem c_X4_amountBy (l : Launch) (D : va_G) (T : Nat → ClassId) (x0 : Nat) (p0 : Int32) (p1 : Int32) (S : HS) (hx0 : hK S x0 = 5) (P : Int32 → HS → Prop) (h : wp_X4_amountBy P x0 p0 p1 S) : CMi l yX4_amountBy (ws_X4_amountBy) rm_X4_amountBy D T [.ref x0, .int p0, .int p1] S 0 0 P := gc_meti (by decide) rfl rfl (Nat.le_of_ble_eq_true rfl) (fun p e s m args below meth c A L C E hnm hr hw hL => t_X4_amountBy C E   hr P x0 p0 p1 S S L rfl hw hL hx0 h)
def wp_X5_isPosted (P : Int32 → HS → Prop) (x0 : Nat) (S : HS) : Prop := ((hI S 128 x0) = (-1) → (P 0 S)) ∧ (¬ (hI S 128 x0) = (-1) → (P 1 S))
set_option maxRecDepth 100000 in
set_option maxHeartbeats 4000000 in
theorem t_X5_isPosted {p : Program} {l : Launch} {e : Env} {s : State} {m : MethodId} {args : Array Value} {below : List Frame} {meth : Method} {c : Code} {D : va_G} {A : Nat → Prop} {T : Nat → ClassId} (C : GC p s m args meth c cX5_isPosted "FreightRater$Shipment" (ws_X5_isPosted) 1 D A (zty T)) (E : GE A s) (hr : meth.sig.returnType = (some .boolean)) (P : Int32 → HS → Prop) : ∀ (x0 : Nat) (S0 S : HS) (L : List Nat), S0 = S → wt S → hL S L → (hK S x0 = 6) → wp_X5_isPosted P x0 S → GW p l e { rm_X5_isPosted with cells := 0, slots := 0 } s m args below meth c D A 1 0 0 (MQ below (va_Qi (fun v (u : HS × List Nat) => P v u.1 ∧ CO S0 u) (CE D T A) A) args s 0 0 A) (CW T S L) 0 0 0 [(0, .ref x0)] [] := by
  have hW : ∀ {w : Cond}, w ∈ W0 → w.before args s = true := fun h => C.2.2.2.2.1 _ (List.mem_cons_of_mem _ h)
  intro x0 S0 S L hS0 hw hL hx0 h
  have he : ext S0 S := by rw [hS0]; exact ext_rf
  unfold wp_X5_isPosted at h
  refine g_aload_n C dX5_isPosted_0 rfl 0 rfl ?_
  refine gc_getI C iwx_X5 hL hx0 (by decide) (by decide) rfl 8 (by decide) (hW kw_1101) rfl rfl rfl dX5_isPosted_1 ?_
  refine g_iconst (v := -1) C dX5_isPosted_4 (by decide) ?_
  refine g_icmp_eq (tgt := 12) C dX5_isPosted_5 (by decide) (fun z1 => ?_) (fun z1 => ?_)
  · replace h := h.1 z1
    refine g_iconst (v := 0) C dX5_isPosted_12 (by decide) ?_
    exact gc_zret C vz0 hw hL he hr dX5_isPosted_13 h
  · replace h := h.2 z1
    refine g_iconst (v := 1) C dX5_isPosted_8 (by decide) ?_
    refine g_goto (tgt := 13) C dX5_isPosted_9 (by decide) ?_
    exact gc_zret C vz1 hw hL he hr dX5_isPosted_13 h
theorem c_X5_isPosted (l : Launch) (D : va_G) (T : Nat → ClassId) (x0 : Nat) (S : HS) (hx0 : hK S x0 = 6) (P : Int32 → HS → Prop) (h : wp_X5_isPosted P x0 S) : CMi l yX5_isPosted (ws_X5_isPosted) rm_X5_isPosted D T [.ref x0] S 0 0 P := gc_meti (by decide) rfl rfl (Nat.le_of_ble_eq_true rfl) (fun p e s m args below meth c A L C E hnm hr hw hL => t_X5_isPosted C E   hr P x0 S S L rfl hw hL hx0 h)
def wb_X5_volume_4 (rec : Nat → Int32 → Int32 → HS → Prop) (P : Int32 → HS → Prop) (x0 : Nat) (x1 : Int32) (x2 : Int32) (S : HS) : Prop := ((hI S 124 x0) ≤ x2 → (P x1 S)) ∧ (¬ (hI S 124 x0) ≤ x2 → (∃ b3 : Nat, hR S 125 x0 = some b3 ∧ (hK S b3 = 22 → (vp_in x2 (hN S b3) ∧ (∀ v6 : Int32, v6 = (x1 + (hA S b3 (Int32.toNatClampNeg x2))) → (∀ v7 : Int32, v7 = x2 + 1 → (rec x0 v6 v7 S)))))))
def wp_X5_volume_4 (P : Int32 → HS → Prop) : Nat → Nat → Int32 → Int32 → HS → Prop
  | 0 => fun _ _ _ _ => False
  | n + 1 => fun x0 x1 x2 S => wb_X5_volume_4 (wp_X5_volume_4  P n)  P x0 x1 x2 S
set_option maxRecDepth 100000 in
set_option maxHeartbeats 4000000 in
theorem t_X5_volume_4 {p : Program} {l : Launch} {e : Env} {s : State} {m : MethodId} {args : Array Value} {below : List Frame} {meth : Method} {c : Code} {D : va_G} {A : Nat → Prop} {T : Nat → ClassId} (C : GC p s m args meth c cX5_volume "FreightRater$Shipment" (ws_X5_volume) 3 D A (zty T)) (E : GE A s) (hr : meth.sig.returnType = (some .int)) (S0 : HS) (P : Int32 → HS → Prop) : ∀ (n : Nat) (x0 : Nat) (x1 : Int32) (x2 : Int32) (S : HS) (L : List Nat), wt S → hL S L → ext S0 S → (hK S x0 = 6) → wp_X5_volume_4  P n x0 x1 x2 S → GW p l e { rm_X5_volume with cells := 0, slots := 0 } s m args below meth c D A 3 0 0 (MQ below (va_Qi (fun v (u : HS × List Nat) => P v u.1 ∧ CO S0 u) (CE D T A) A) args s 0 0 A) (CW T S L) 0 0 4 [(0, .ref x0), (1, .int x1), (2, .int x2)] [] := by
  have hW : ∀ {w : Cond}, w ∈ W0 → w.before args s = true := fun h => C.2.2.2.2.1 _ (List.mem_cons_of_mem _ h)
  intro n
  induction n with
  | zero => intro x0 x1 x2 S L hw hL he hx0 h; exact h.elim
  | succ n ih =>
    intro x0 x1 x2 S L hw hL he hx0 h
    replace h : wb_X5_volume_4 (wp_X5_volume_4  P n)  P x0 x1 x2 S := h
    unfold wb_X5_volume_4 at h
    refine g_iload_n C dX5_volume_4 rfl 2 rfl ?_
    refine g_aload_n C dX5_volume_5 rfl 0 rfl ?_
    refine gc_getI C iwx_X5 hL hx0 (by decide) (by decide) rfl 4 (by decide) (hW kw_1091) rfl rfl rfl dX5_volume_6 ?_
    refine g_icmp_ge (tgt := 27) C dX5_volume_9 (by decide) (fun z1 => ?_) (fun z1 => ?_)
    · replace h := h.1 z1
      refine g_iload_n C dX5_volume_27 rfl 1 rfl ?_
      exact gc_iret C hw hL he hr dX5_volume_28 h
    · replace h := h.2 z1
      refine g_iload_n C dX5_volume_12 rfl 1 rfl ?_
      refine g_aload_n C dX5_volume_13 rfl 0 rfl ?_
      refine gc_getR C hw iwx_X5 hL hx0 (by decide) (by decide) rfl 5 (by decide) (hW kw_1094) rfl rfl rfl dX5_volume_14 (fun o2 eo2 ko2 => ?_)
      obtain ⟨b3, hb9, h⟩ := h
      have g4 : hK S b3 = 22 := ko2 b3 (eo2.trans hb9)
      replace h := h g4
      refine g_opt (eo2.trans hb9) ?_
      refine g_iload_n C dX5_volume_17 rfl 2 rfl ?_
      obtain ⟨g5, h⟩ := h
      refine gc_iald C hL g4 g5 dX5_volume_18 ?_
      refine g_iadd C dX5_volume_19 ?_
      refine g_topi (fun v6 ev6 => ?_)
      replace h := h v6 ev6
      refine g_istore_n (lv' := [(1, .int v6), (0, .ref x0), (2, .int x2)]) C dX5_volume_20 rfl (by decide) rfl ?_
      obtain ⟨v7, ev7⟩ : ∃ y : Int32, y = x2 + 1 := ⟨_, rfl⟩
      replace h := h v7 ev7
      refine g_iinc (v := v7) (lv' := [(2, .int v7), (1, .int v6), (0, .ref x0)]) C dX5_volume_21 (j := 2) rfl (by rw [ev7]; rfl) (by decide) rfl ?_
      refine g_goto (tgt := 4) C dX5_volume_24 (by decide) ?_
      refine g_locals [2, 1, 0] rfl ?_
      exact ih x0 v6 v7 S L hw hL he hx0 h
def wp_X5_volume (P : Int32 → HS → Prop) (x0 : Nat) (S : HS) : Prop := ∃ k8 : Nat, wp_X5_volume_4  P k8 x0 0 0 S
set_option maxRecDepth 100000 in
set_option maxHeartbeats 4000000 in
theorem t_X5_volume {p : Program} {l : Launch} {e : Env} {s : State} {m : MethodId} {args : Array Value} {below : List Frame} {meth : Method} {c : Code} {D : va_G} {A : Nat → Prop} {T : Nat → ClassId} (C : GC p s m args meth c cX5_volume "FreightRater$Shipment" (ws_X5_volume) 3 D A (zty T)) (E : GE A s) (hr : meth.sig.returnType = (some .int)) (P : Int32 → HS → Prop) : ∀ (x0 : Nat) (S0 S : HS) (L : List Nat), S0 = S → wt S → hL S L → (hK S x0 = 6) → wp_X5_volume P x0 S → GW p l e { rm_X5_volume with cells := 0, slots := 0 } s m args below meth c D A 3 0 0 (MQ below (va_Qi (fun v (u : HS × List Nat) => P v u.1 ∧ CO S0 u) (CE D T A) A) args s 0 0 A) (CW T S L) 0 0 0 [(0, .ref x0)] [] := by
  have hW : ∀ {w : Cond}, w ∈ W0 → w.before args s = true := fun h => C.2.2.2.2.1 _ (List.mem_cons_of_mem _ h)
  intro x0 S0 S L hS0 hw hL hx0 h
  have he : ext S0 S := by rw [hS0]; exact ext_rf
  unfold wp_X5_volume at h
  refine g_iconst (v := 0) C dX5_volume_0 (by decide) ?_
  refine g_istore_n (lv' := [(1, .int 0), (0, .ref x0)]) C dX5_volume_1 rfl (by decide) rfl ?_
  refine g_iconst (v := 0) C dX5_volume_2 (by decide) ?_
  refine g_istore_n (lv' := [(2, .int 0), (1, .int 0), (0, .ref x0)]) C dX5_volume_3 rfl (by decide) rfl ?_
  refine g_locals [2, 1, 0] rfl ?_
  obtain ⟨k8, h⟩ := h
  refine t_X5_volume_4 C E hr S0  P  k8 x0 0 0 S L hw hL he hx0 h
theorem c_X5_volume (l : Launch) (D : va_G) (T : Nat → ClassId) (x0 : Nat) (S : HS) (hx0 : hK S x0 = 6) (P : Int32 → HS → Prop) (h : wp_X5_volume P x0 S) : CMi l yX5_volume (ws_X5_volume) rm_X5_volume D T [.ref x0] S 0 0 P := gc_meti (by decide) rfl rfl (Nat.le_of_ble_eq_true rfl) (fun p e s m args below meth c A L C E hnm hr hw hL => t_X5_volume C E   hr P x0 S S L rfl hw hL hx0 h)
def wb_X5_dimensionalWeight_11 (rec : Nat → Int32 → Int32 → Int32 → HS → Prop) (P : Int32 → HS → Prop) (x0 : Nat) (x1 : Int32) (x2 : Int32) (x3 : Int32) (S : HS) : Prop := ((hI S 124 x0) ≤ x3 → (P x2 S)) ∧ (¬ (hI S 124 x0) ≤ x3 → (∃ b4 : Nat, hR S 125 x0 = some b4 ∧ (hK S b4 = 22 → (vp_in x3 (hN S b4) ∧ (¬ x1 = 0 ∧ (∀ v8 : Int32, v8 = (x2 + ((((hA S b4 (Int32.toNatClampNeg x3)) + x1) - 1) / x1)) → (∀ v9 : Int32, v9 = x3 + 1 → (rec x0 x1 v8 v9 S))))))))
def wp_X5_dimensionalWeight_11 (P : Int32 → HS → Prop) : Nat → Nat → Int32 → Int32 → Int32 → HS → Prop
  | 0 => fun _ _ _ _ _ => False
  | n + 1 => fun x0 x1 x2 x3 S => wb_X5_dimensionalWeight_11 (wp_X5_dimensionalWeight_11  P n)  P x0 x1 x2 x3 S
set_option maxRecDepth 100000 in
set_option maxHeartbeats 4000000 in
theorem t_X5_dimensionalWeight_11 {p : Program} {l : Launch} {e : Env} {s : State} {m : MethodId} {args : Array Value} {below : List Frame} {meth : Method} {c : Code} {D : va_G} {A : Nat → Prop} {T : Nat → ClassId} (C : GC p s m args meth c cX5_dimensionalWeight "FreightRater$Shipment" (ws_X5_dimensionalWeight) 4 D A (zty T)) (E : GE A s) (hr : meth.sig.returnType = (some .int)) (S0 : HS) (P : Int32 → HS → Prop) : ∀ (n : Nat) (x0 : Nat) (x1 : Int32) (x2 : Int32) (x3 : Int32) (S : HS) (L : List Nat), wt S → hL S L → ext S0 S → (hK S x0 = 6) → wp_X5_dimensionalWeight_11  P n x0 x1 x2 x3 S → GW p l e { rm_X5_dimensionalWeight with cells := 0, slots := 0 } s m args below meth c D A 4 0 0 (MQ below (va_Qi (fun v (u : HS × List Nat) => P v u.1 ∧ CO S0 u) (CE D T A) A) args s 0 0 A) (CW T S L) 0 0 11 [(0, .ref x0), (1, .int x1), (2, .int x2), (3, .int x3)] [] := by
  have hW : ∀ {w : Cond}, w ∈ W0 → w.before args s = true := fun h => C.2.2.2.2.1 _ (List.mem_cons_of_mem _ h)
  intro n
  induction n with
  | zero => intro x0 x1 x2 x3 S L hw hL he hx0 h; exact h.elim
  | succ n ih =>
    intro x0 x1 x2 x3 S L hw hL he hx0 h
    replace h : wb_X5_dimensionalWeight_11 (wp_X5_dimensionalWeight_11  P n)  P x0 x1 x2 x3 S := h
    unfold wb_X5_dimensionalWeight_11 at h
    refine g_iload_n C dX5_dimensionalWeight_11 rfl 3 rfl ?_
    refine g_aload_n C dX5_dimensionalWeight_12 rfl 0 rfl ?_
    refine gc_getI C iwx_X5 hL hx0 (by decide) (by decide) rfl 4 (by decide) (hW kw_1091) rfl rfl rfl dX5_dimensionalWeight_13 ?_
    refine g_icmp_ge (tgt := 40) C dX5_dimensionalWeight_16 (by decide) (fun z2 => ?_) (fun z2 => ?_)
    · replace h := h.1 z2
      refine g_iload_n C dX5_dimensionalWeight_40 rfl 2 rfl ?_
      exact gc_iret C hw hL he hr dX5_dimensionalWeight_41 h
    · replace h := h.2 z2
      refine g_iload_n C dX5_dimensionalWeight_19 rfl 2 rfl ?_
      refine g_aload_n C dX5_dimensionalWeight_20 rfl 0 rfl ?_
      refine gc_getR C hw iwx_X5 hL hx0 (by decide) (by decide) rfl 5 (by decide) (hW kw_1094) rfl rfl rfl dX5_dimensionalWeight_21 (fun o3 eo3 ko3 => ?_)
      obtain ⟨b4, hb9, h⟩ := h
      have g5 : hK S b4 = 22 := ko3 b4 (eo3.trans hb9)
      replace h := h g5
      refine g_opt (eo3.trans hb9) ?_
      refine g_iload_n C dX5_dimensionalWeight_24 rfl 3 rfl ?_
      obtain ⟨g6, h⟩ := h
      refine gc_iald C hL g5 g6 dX5_dimensionalWeight_25 ?_
      refine g_iload_n C dX5_dimensionalWeight_26 rfl 1 rfl ?_
      refine g_iadd C dX5_dimensionalWeight_27 ?_
      refine g_iconst (v := 1) C dX5_dimensionalWeight_28 (by decide) ?_
      refine g_isub C dX5_dimensionalWeight_29 ?_
      refine g_iload_n C dX5_dimensionalWeight_30 rfl 1 rfl ?_
      obtain ⟨g7, h⟩ := h
      refine g_idiv C dX5_dimensionalWeight_31 g7 ?_
      refine g_iadd C dX5_dimensionalWeight_32 ?_
      refine g_topi (fun v8 ev8 => ?_)
      replace h := h v8 ev8
      refine g_istore_n (lv' := [(2, .int v8), (0, .ref x0), (1, .int x1), (3, .int x3)]) C dX5_dimensionalWeight_33 rfl (by decide) rfl ?_
      obtain ⟨v9, ev9⟩ : ∃ y : Int32, y = x3 + 1 := ⟨_, rfl⟩
      replace h := h v9 ev9
      refine g_iinc (v := v9) (lv' := [(3, .int v9), (2, .int v8), (0, .ref x0), (1, .int x1)]) C dX5_dimensionalWeight_34 (j := 3) rfl (by rw [ev9]; rfl) (by decide) rfl ?_
      refine g_goto (tgt := 11) C dX5_dimensionalWeight_37 (by decide) ?_
      refine g_locals [2, 3, 1, 0] rfl ?_
      exact ih x0 x1 v8 v9 S L hw hL he hx0 h
def wp_X5_dimensionalWeight (P : Int32 → HS → Prop) (x0 : Nat) (p0 : Int32) (S : HS) : Prop := (1 ≤ p0 → (∃ k10 : Nat, wp_X5_dimensionalWeight_11  P k10 x0 p0 0 0 S)) ∧ (¬ 1 ≤ p0 → (P 0 S))
set_option maxRecDepth 100000 in
set_option maxHeartbeats 4000000 in
theorem t_X5_dimensionalWeight {p : Program} {l : Launch} {e : Env} {s : State} {m : MethodId} {args : Array Value} {below : List Frame} {meth : Method} {c : Code} {D : va_G} {A : Nat → Prop} {T : Nat → ClassId} (C : GC p s m args meth c cX5_dimensionalWeight "FreightRater$Shipment" (ws_X5_dimensionalWeight) 4 D A (zty T)) (E : GE A s) (hr : meth.sig.returnType = (some .int)) (P : Int32 → HS → Prop) : ∀ (x0 : Nat) (p0 : Int32) (S0 S : HS) (L : List Nat), S0 = S → wt S → hL S L → (hK S x0 = 6) → wp_X5_dimensionalWeight P x0 p0 S → GW p l e { rm_X5_dimensionalWeight with cells := 0, slots := 0 } s m args below meth c D A 4 0 0 (MQ below (va_Qi (fun v (u : HS × List Nat) => P v u.1 ∧ CO S0 u) (CE D T A) A) args s 0 0 A) (CW T S L) 0 0 0 [(0, .ref x0), (1, .int p0)] [] := by
  have hW : ∀ {w : Cond}, w ∈ W0 → w.before args s = true := fun h => C.2.2.2.2.1 _ (List.mem_cons_of_mem _ h)
  intro x0 p0 S0 S L hS0 hw hL hx0 h
  have he : ext S0 S := by rw [hS0]; exact ext_rf
  unfold wp_X5_dimensionalWeight at h
  refine g_iload_n C dX5_dimensionalWeight_0 rfl 1 rfl ?_
  refine g_iconst (v := 1) C dX5_dimensionalWeight_1 (by decide) ?_
  refine g_icmp_ge (tgt := 7) C dX5_dimensionalWeight_2 (by decide) (fun z1 => ?_) (fun z1 => ?_)
  · replace h := h.1 z1
    refine g_iconst (v := 0) C dX5_dimensionalWeight_7 (by decide) ?_
    refine g_istore_n (lv' := [(2, .int 0), (0, .ref x0), (1, .int p0)]) C dX5_dimensionalWeight_8 rfl (by decide) rfl ?_
    refine g_iconst (v := 0) C dX5_dimensionalWeight_9 (by decide) ?_
    refine g_istore_n (lv' := [(3, .int 0), (2, .int 0), (0, .ref x0), (1, .int p0)]) C dX5_dimensionalWeight_10 rfl (by decide) rfl ?_
    refine g_locals [2, 3, 1, 0] rfl ?_
    obtain ⟨k10, h⟩ := h
    refine t_X5_dimensionalWeight_11 C E hr S0  P  k10 x0 p0 0 0 S L hw hL he hx0 h
  · replace h := h.2 z1
    refine g_iconst (v := 0) C dX5_dimensionalWeight_5 (by decide) ?_
    exact gc_iret C hw hL he hr dX5_dimensionalWeight_6 h
theorem c_X5_dimensionalWeight (l : Launch) (D : va_G) (T : Nat → ClassId) (x0 : Nat) (p0 : Int32) (S : HS) (hx0 : hK S x0 = 6) (P : Int32 → HS → Prop) (h : wp_X5_dimensionalWeight P x0 p0 S) : CMi l yX5_dimensionalWeight (ws_X5_dimensionalWeight) rm_X5_dimensionalWeight D T [.ref x0, .int p0] S 0 0 P := gc_meti (by decide) rfl rfl (Nat.le_of_ble_eq_true rfl) (fun p e s m args below meth c A L C E hnm hr hw hL => t_X5_dimensionalWeight C E   hr P x0 p0 S S L rfl hw hL hx0 h)
def wb_X9_accessorialSet_4 (rec : Nat → Int32 → Int32 → HS → Prop) (P : Int32 → HS → Prop) (x0 : Nat) (x1 : Int32) (x2 : Int32) (S : HS) : Prop := (10 ≤ x2 → (P x1 S)) ∧ (¬ 10 ≤ x2 → (∃ b3 : Nat, hR S 210 x0 = some b3 ∧ (hK S b3 = 25 → (vp_in x2 (hN S b3) ∧ (∀ o6 : Option Nat, o6 = hB S b3 (Int32.toNatClampNeg x2) → (∀ b, o6 = some b → hK S b = 1) → ((o6 = none → (∀ v9 : Int32, v9 = x2 + 1 → (rec x0 x1 v9 S))) ∧ (∀ b7 : Nat, o6 = some b7 → hK S b7 = 1 → (∀ v10 : Int32, v10 = (x1 ||| ((1 : Int32) <<< (x2 &&& 31))) → (∀ v11 : Int32, v11 = x2 + 1 → (rec x0 v10 v11 S))))))))))
def wp_X9_accessorialSet_4 (P : Int32 → HS → Prop) : Nat → Nat → Int32 → Int32 → HS → Prop
  | 0 => fun _ _ _ _ => False
  | n + 1 => fun x0 x1 x2 S => wb_X9_accessorialSet_4 (wp_X9_accessorialSet_4  P n)  P x0 x1 x2 S
set_option maxRecDepth 100000 in
set_option maxHeartbeats 4000000 in
theorem t_X9_accessorialSet_4 {p : Program} {l : Launch} {e : Env} {s : State} {m : MethodId} {args : Array Value} {below : List Frame} {meth : Method} {c : Code} {D : va_G} {A : Nat → Prop} {T : Nat → ClassId} (C : GC p s m args meth c cX9_accessorialSet "FreightRater$Version" (ws_X9_accessorialSet) 3 D A (zty T)) (E : GE A s) (hr : meth.sig.returnType = (some .int)) (S0 : HS) (P : Int32 → HS → Prop) : ∀ (n : Nat) (x0 : Nat) (x1 : Int32) (x2 : Int32) (S : HS) (L : List Nat), wt S → hL S L → ext S0 S → (hK S x0 = 10) → wp_X9_accessorialSet_4  P n x0 x1 x2 S → GW p l e { rm_X9_accessorialSet with cells := 0, slots := 0 } s m args below meth c D A 3 0 0 (MQ below (va_Qi (fun v (u : HS × List Nat) => P v u.1 ∧ CO S0 u) (CE D T A) A) args s 0 0 A) (CW T S L) 0 0 4 [(0, .ref x0), (1, .int x1), (2, .int x2)] [] := by
  have hW : ∀ {w : Cond}, w ∈ W0 → w.before args s = true := fun h => C.2.2.2.2.1 _ (List.mem_cons_of_mem _ h)
  intro n
  induction n with
  | zero => intro x0 x1 x2 S L hw hL he hx0 h; exact h.elim
  | succ n ih =>
    intro x0 x1 x2 S L hw hL he hx0 h
    replace h : wb_X9_accessorialSet_4 (wp_X9_accessorialSet_4  P n)  P x0 x1 x2 S := h
    unfold wb_X9_accessorialSet_4 at h
    refine g_iload_n C dX9_accessorialSet_4 rfl 2 rfl ?_
    refine g_bipush (v := 10) C dX9_accessorialSet_5 (by decide) ?_
    refine g_icmp_ge (tgt := 31) C dX9_accessorialSet_7 (by decide) (fun z1 => ?_) (fun z1 => ?_)
    · replace h := h.1 z1
      refine g_iload_n C dX9_accessorialSet_31 rfl 1 rfl ?_
      exact gc_iret C hw hL he hr dX9_accessorialSet_32 h
    · replace h := h.2 z1
      refine g_aload_n C dX9_accessorialSet_10 rfl 0 rfl ?_
      refine gc_getR C hw iwx_X9 hL hx0 (by decide) (by decide) rfl 10 (by decide) (hW kw_435) rfl rfl rfl dX9_accessorialSet_11 (fun o2 eo2 ko2 => ?_)
      obtain ⟨b3, hb9, h⟩ := h
      have g4 : hK S b3 = 25 := ko2 b3 (eo2.trans hb9)
      replace h := h g4
      refine g_opt (eo2.trans hb9) ?_
      refine g_iload_n C dX9_accessorialSet_14 rfl 2 rfl ?_
      obtain ⟨g5, h⟩ := h
      refine gc_aald C hw hL g4 (by decide) rfl g5 dX9_accessorialSet_15 (fun o6 eo6 ko6 => ?_)
      replace h := h o6 eo6 ko6
      rcases o6 with _ | b7
      · replace h := h.1 rfl
        refine g_ifnullN (tgt := 25) C dX9_accessorialSet_16 (by decide) ?_
        obtain ⟨v9, ev9⟩ : ∃ y : Int32, y = x2 + 1 := ⟨_, rfl⟩
        replace h := h v9 ev9
        refine g_iinc (v := v9) (lv' := [(2, .int v9), (0, .ref x0), (1, .int x1)]) C dX9_accessorialSet_25 (j := 2) rfl (by rw [ev9]; rfl) (by decide) rfl ?_
        refine g_goto (tgt := 4) C dX9_accessorialSet_28 (by decide) ?_
        refine g_locals [1, 2, 0] rfl ?_
        exact ih x0 x1 v9 S L hw hL he hx0 h
      · have g8 : hK S b7 = 1 := ko6 b7 rfl
        replace h := h.2 b7 rfl g8
        refine g_ifnull C dX9_accessorialSet_16 ?_
        refine g_iload_n C dX9_accessorialSet_19 rfl 1 rfl ?_
        refine g_iconst (v := 1) C dX9_accessorialSet_20 (by decide) ?_
        refine g_iload_n C dX9_accessorialSet_21 rfl 2 rfl ?_
        refine g_ishl C dX9_accessorialSet_22 ?_
        refine g_ior C dX9_accessorialSet_23 ?_
        refine g_topi (fun v10 ev10 => ?_)
        replace h := h v10 ev10
        refine g_istore_n (lv' := [(1, .int v10), (0, .ref x0), (2, .int x2)]) C dX9_accessorialSet_24 rfl (by decide) rfl ?_
        obtain ⟨v11, ev11⟩ : ∃ y : Int32, y = x2 + 1 := ⟨_, rfl⟩
        replace h := h v11 ev11
        refine g_iinc (v := v11) (lv' := [(2, .int v11), (1, .int v10), (0, .ref x0)]) C dX9_accessorialSet_25 (j := 2) rfl (by rw [ev11]; rfl) (by decide) rfl ?_
        refine g_goto (tgt := 4) C dX9_accessorialSet_28 (by decide) ?_
        refine g_locals [2, 1, 0] rfl ?_
        exact ih x0 v10 v11 S L hw hL he hx0 h
def wp_X9_accessorialSet (P : Int32 → HS → Prop) (x0 : Nat) (S : HS) : Prop := ∃ k12 : Nat, wp_X9_accessorialSet_4  P k12 x0 0 0 S
set_option maxRecDepth 100000 in
set_option maxHeartbeats 4000000 in
theorem t_X9_accessorialSet {p : Program} {l : Launch} {e : Env} {s : State} {m : MethodId} {args : Array Value} {below : List Frame} {meth : Method} {c : Code} {D : va_G} {A : Nat → Prop} {T : Nat → ClassId} (C : GC p s m args meth c cX9_accessorialSet "FreightRater$Version" (ws_X9_accessorialSet) 3 D A (zty T)) (E : GE A s) (hr : meth.sig.returnType = (some .int)) (P : Int32 → HS → Prop) : ∀ (x0 : Nat) (S0 S : HS) (L : List Nat), S0 = S → wt S → hL S L → (hK S x0 = 10) → wp_X9_accessorialSet P x0 S → GW p l e { rm_X9_accessorialSet with cells := 0, slots := 0 } s m args below meth c D A 3 0 0 (MQ below (va_Qi (fun v (u : HS × List Nat) => P v u.1 ∧ CO S0 u) (CE D T A) A) args s 0 0 A) (CW T S L) 0 0 0 [(0, .ref x0)] [] := by
  have hW : ∀ {w : Cond}, w ∈ W0 → w.before args s = true := fun h => C.2.2.2.2.1 _ (List.mem_cons_of_mem _ h)
  intro x0 S0 S L hS0 hw hL hx0 h
  have he : ext S0 S := by rw [hS0]; exact ext_rf
  unfold wp_X9_accessorialSet at h
  refine g_iconst (v := 0) C dX9_accessorialSet_0 (by decide) ?_
  refine g_istore_n (lv' := [(1, .int 0), (0, .ref x0)]) C dX9_accessorialSet_1 rfl (by decide) rfl ?_
  refine g_iconst (v := 0) C dX9_accessorialSet_2 (by decide) ?_
  refine g_istore_n (lv' := [(2, .int 0), (1, .int 0), (0, .ref x0)]) C dX9_accessorialSet_3 rfl (by decide) rfl ?_
  refine g_locals [2, 1, 0] rfl ?_
  obtain ⟨k12, h⟩ := h
  refine t_X9_accessorialSet_4 C E hr S0  P  k12 x0 0 0 S L hw hL he hx0 h
theorem c_X9_accessorialSet (l : Launch) (D : va_G) (T : Nat → ClassId) (x0 : Nat) (S : HS) (hx0 : hK S x0 = 10) (P : Int32 → HS → Prop) (h : wp_X9_accessorialSet P x0 S) : CMi l yX9_accessorialSet (ws_X9_accessorialSet) rm_X9_accessorialSet D T [.ref x0] S 0 0 P := gc_meti (by decide) rfl rfl (Nat.le_of_ble_eq_true rfl) (fun p e s m args below meth c A L C E hnm hr hw hL => t_X9_accessorialSet C E   hr P x0 S S L rfl hw hL hx0 h)
def wb_X9_countBreaks_4 (rec : Nat → Int32 → Int32 → HS → Prop) (P : Int32 → HS → Prop) (x0 : Nat) (x1 : Int32) (x2 : Int32) (S : HS) : Prop := (9 ≤ x2 → (P x1 S)) ∧ (¬ 9 ≤ x2 → (∃ b3 : Nat, hR S 205 x0 = some b3 ∧ (hK S b3 = 26 → (vp_in x2 (hN S b3) ∧ (∀ o6 : Option Nat, o6 = hB S b3 (Int32.toNatClampNeg x2) → (∀ b, o6 = some b → hK S b = 5) → (∃ b7 : Nat, o6 = some b7 ∧ (hK S b7 = 5 → (∀ v9 : Int32, v9 = (x1 + (hI S 100 b7)) → (∀ v10 : Int32, v10 = x2 + 1 → (rec x0 v9 v10 S))))))))))
def wp_X9_countBreaks_4 (P : Int32 → HS → Prop) : Nat → Nat → Int32 → Int32 → HS → Prop
  | 0 => fun _ _ _ _ => False
  | n + 1 => fun x0 x1 x2 S => wb_X9_countBreaks_4 (wp_X9_countBreaks_4  P n)  P x0 x1 x2 S
set_option maxRecDepth 100000 in
set_option maxHeartbeats 4000000 in
theorem t_X9_countBreaks_4 {p : Program} {l : Launch} {e : Env} {s : State} {m : MethodId} {args : Array Value} {below : List Frame} {meth : Method} {c : Code} {D : va_G} {A : Nat → Prop} {T : Nat → ClassId} (C : GC p s m args meth c cX9_countBreaks "FreightRater$Version" (ws_X9_countBreaks) 3 D A (zty T)) (E : GE A s) (hr : meth.sig.returnType = (some .int)) (S0 : HS) (P : Int32 → HS → Prop) : ∀ (n : Nat) (x0 : Nat) (x1 : Int32) (x2 : Int32) (S : HS) (L : List Nat), wt S → hL S L → ext S0 S → (hK S x0 = 10) → wp_X9_countBreaks_4  P n x0 x1 x2 S → GW p l e { rm_X9_countBreaks with cells := 0, slots := 0 } s m args below meth c D A 3 0 0 (MQ below (va_Qi (fun v (u : HS × List Nat) => P v u.1 ∧ CO S0 u) (CE D T A) A) args s 0 0 A) (CW T S L) 0 0 4 [(0, .ref x0), (1, .int x1), (2, .int x2)] [] := by
  have hW : ∀ {w : Cond}, w ∈ W0 → w.before args s = true := fun h => C.2.2.2.2.1 _ (List.mem_cons_of_mem _ h)
  intro n
  induction n with
  | zero => intro x0 x1 x2 S L hw hL he hx0 h; exact h.elim
  | succ n ih =>
    intro x0 x1 x2 S L hw hL he hx0 h
    replace h : wb_X9_countBreaks_4 (wp_X9_countBreaks_4  P n)  P x0 x1 x2 S := h
    unfold wb_X9_countBreaks_4 at h
    refine g_iload_n C dX9_countBreaks_4 rfl 2 rfl ?_
    refine g_bipush (v := 9) C dX9_countBreaks_5 (by decide) ?_
    refine g_icmp_ge (tgt := 28) C dX9_countBreaks_7 (by decide) (fun z1 => ?_) (fun z1 => ?_)
    · replace h := h.1 z1
      refine g_iload_n C dX9_countBreaks_28 rfl 1 rfl ?_
      exact gc_iret C hw hL he hr dX9_countBreaks_29 h
    · replace h := h.2 z1
      refine g_iload_n C dX9_countBreaks_10 rfl 1 rfl ?_
      refine g_aload_n C dX9_countBreaks_11 rfl 0 rfl ?_
      refine gc_getR C hw iwx_X9 hL hx0 (by decide) (by decide) rfl 5 (by decide) (hW kw_422) rfl rfl rfl dX9_countBreaks_12 (fun o2 eo2 ko2 => ?_)
      obtain ⟨b3, hb9, h⟩ := h
      have g4 : hK S b3 = 26 := ko2 b3 (eo2.trans hb9)
      replace h := h g4
      refine g_opt (eo2.trans hb9) ?_
      refine g_iload_n C dX9_countBreaks_15 rfl 2 rfl ?_
      obtain ⟨g5, h⟩ := h
      refine gc_aald C hw hL g4 (by decide) rfl g5 dX9_countBreaks_16 (fun o6 eo6 ko6 => ?_)
      replace h := h o6 eo6 ko6
      obtain ⟨b7, rfl, h⟩ := h
      have g8 : hK S b7 = 5 := ko6 b7 rfl
      replace h := h g8
      refine gc_getI C iwx_X4 hL g8 (by decide) (by decide) rfl 0 (by decide) (hW kw_394) rfl rfl rfl dX9_countBreaks_17 ?_
      refine g_iadd C dX9_countBreaks_20 ?_
      refine g_topi (fun v9 ev9 => ?_)
      replace h := h v9 ev9
      refine g_istore_n (lv' := [(1, .int v9), (0, .ref x0), (2, .int x2)]) C dX9_countBreaks_21 rfl (by decide) rfl ?_
      obtain ⟨v10, ev10⟩ : ∃ y : Int32, y = x2 + 1 := ⟨_, rfl⟩
      replace h := h v10 ev10
      refine g_iinc (v := v10) (lv' := [(2, .int v10), (1, .int v9), (0, .ref x0)]) C dX9_countBreaks_22 (j := 2) rfl (by rw [ev10]; rfl) (by decide) rfl ?_
      refine g_goto (tgt := 4) C dX9_countBreaks_25 (by decide) ?_
      refine g_locals [2, 1, 0] rfl ?_
      exact ih x0 v9 v10 S L hw hL he hx0 h
def wp_X9_countBreaks (P : Int32 → HS → Prop) (x0 : Nat) (S : HS) : Prop := ∃ k11 : Nat, wp_X9_countBreaks_4  P k11 x0 0 0 S
set_option maxRecDepth 100000 in
set_option maxHeartbeats 4000000 in
theorem t_X9_countBreaks {p : Program} {l : Launch} {e : Env} {s : State} {m : MethodId} {args : Array Value} {below : List Frame} {meth : Method} {c : Code} {D : va_G} {A : Nat → Prop} {T : Nat → ClassId} (C : GC p s m args meth c cX9_countBreaks "FreightRater$Version" (ws_X9_countBreaks) 3 D A (zty T)) (E : GE A s) (hr : meth.sig.returnType = (some .int)) (P : Int32 → HS → Prop) : ∀ (x0 : Nat) (S0 S : HS) (L : List Nat), S0 = S → wt S → hL S L → (hK S x0 = 10) → wp_X9_countBreaks P x0 S → GW p l e { rm_X9_countBreaks with cells := 0, slots := 0 } s m args below meth c D A 3 0 0 (MQ below (va_Qi (fun v (u : HS × List Nat) => P v u.1 ∧ CO S0 u) (CE D T A) A) args s 0 0 A) (CW T S L) 0 0 0 [(0, .ref x0)] [] := by
  have hW : ∀ {w : Cond}, w ∈ W0 → w.before args s = true := fun h => C.2.2.2.2.1 _ (List.mem_cons_of_mem _ h)
  intro x0 S0 S L hS0 hw hL hx0 h
  have he : ext S0 S := by rw [hS0]; exact ext_rf
  unfold wp_X9_countBreaks at h
  refine g_iconst (v := 0) C dX9_countBreaks_0 (by decide) ?_
  refine g_istore_n (lv' := [(1, .int 0), (0, .ref x0)]) C dX9_countBreaks_1 rfl (by decide) rfl ?_
  refine g_iconst (v := 0) C dX9_countBreaks_2 (by decide) ?_
  refine g_istore_n (lv' := [(2, .int 0), (1, .int 0), (0, .ref x0)]) C dX9_countBreaks_3 rfl (by decide) rfl ?_
  refine g_locals [2, 1, 0] rfl ?_
  obtain ⟨k11, h⟩ := h
  refine t_X9_countBreaks_4 C E hr S0  P  k11 x0 0 0 S L hw hL he hx0 h
theorem c_X9_countBreaks (l : Launch) (D : va_G) (T : Nat → ClassId) (x0 : Nat) (S : HS) (hx0 : hK S x0 = 10) (P : Int32 → HS → Prop) (h : wp_X9_countBreaks P x0 S) : CMi l yX9_countBreaks (ws_X9_countBreaks) rm_X9_countBreaks D T [.ref x0] S 0 0 P := gc_meti (by decide) rfl rfl (Nat.le_of_ble_eq_true rfl) (fun p e s m args below meth c A L C E hnm hr hw hL => t_X9_countBreaks C E   hr P x0 S S L rfl hw hL hx0 h)
def wp_X10_isBetween (P : Int32 → HS → Prop) (p0 : Int32) (p1 : Int32) (p2 : Int32) (S : HS) : Prop := (p0 < p1 → (P 0 S)) ∧ (¬ p0 < p1 → ((p2 < p0 → (P 0 S)) ∧ (¬ p2 < p0 → (P 1 S))))
set_option maxRecDepth 100000 in
set_option maxHeartbeats 4000000 in
theorem t_X10_isBetween {p : Program} {l : Launch} {e : Env} {s : State} {m : MethodId} {args : Array Value} {below : List Frame} {meth : Method} {c : Code} {D : va_G} {A : Nat → Prop} {T : Nat → ClassId} (C : GC p s m args meth c cX10_isBetween "FreightRater" (ws_X10_isBetween) 3 D A (zty T)) (E : GE A s) (hr : meth.sig.returnType = (some .boolean)) (P : Int32 → HS → Prop) : ∀ (p0 : Int32) (p1 : Int32) (p2 : Int32) (S0 S : HS) (L : List Nat), S0 = S → wt S → hL S L → wp_X10_isBetween P p0 p1 p2 S → GW p l e { rm_X10_isBetween with cells := 0, slots := 0 } s m args below meth c D A 3 0 0 (MQ below (va_Qi (fun v (u : HS × List Nat) => P v u.1 ∧ CO S0 u) (CE D T A) A) args s 0 0 A) (CW T S L) 0 0 0 [(0, .int p0), (1, .int p1), (2, .int p2)] [] := by
  have hW : ∀ {w : Cond}, w ∈ W0 → w.before args s = true := fun h => C.2.2.2.2.1 _ (List.mem_cons_of_mem _ h)
  intro p0 p1 p2 S0 S L hS0 hw hL  h
  have he : ext S0 S := by rw [hS0]; exact ext_rf
  unfold wp_X10_isBetween at h
  refine g_iload_n C dX10_isBetween_0 rfl 0 rfl ?_
  refine g_iload_n C dX10_isBetween_1 rfl 1 rfl ?_
  refine g_icmp_lt (tgt := 14) C dX10_isBetween_2 (by decide) (fun z1 => ?_) (fun z1 => ?_)
  · replace h := h.1 z1
    refine g_iconst (v := 0) C dX10_isBetween_14 (by decide) ?_
    exact gc_zret C vz0 hw hL he hr dX10_isBetween_15 h
  · replace h := h.2 z1
    refine g_iload_n C dX10_isBetween_5 rfl 0 rfl ?_
    refine g_iload_n C dX10_isBetween_6 rfl 2 rfl ?_
    refine g_icmp_gt (tgt := 14) C dX10_isBetween_7 (by decide) (fun z2 => ?_) (fun z2 => ?_)
    · replace h := h.1 z2
      refine g_iconst (v := 0) C dX10_isBetween_14 (by decide) ?_
      exact gc_zret C vz0 hw hL he hr dX10_isBetween_15 h
    · replace h := h.2 z2
      refine g_iconst (v := 1) C dX10_isBetween_10 (by decide) ?_
      refine g_goto (tgt := 15) C dX10_isBetween_11 (by decide) ?_
      exact gc_zret C vz1 hw hL he hr dX10_isBetween_15 h
theorem c_X10_isBetween (l : Launch) (D : va_G) (T : Nat → ClassId) (p0 : Int32) (p1 : Int32) (p2 : Int32) (S : HS)  (P : Int32 → HS → Prop) (h : wp_X10_isBetween P p0 p1 p2 S) : CMi l yX10_isBetween (ws_X10_isBetween) rm_X10_isBetween D T [.int p0, .int p1, .int p2] S 0 0 P := gc_meti (by decide) rfl rfl (Nat.le_of_ble_eq_true rfl) (fun p e s m args below meth c A L C E hnm hr hw hL => t_X10_isBetween C E   hr P p0 p1 p2 S S L rfl hw hL  h)
def wp_X10_isIn (P : Int32 → HS → Prop) (p0 : Int32) (p1 : Int32) (S : HS) : Prop := (¬ ((p0 >>> (p1 &&& 31)) &&& 1) = 1 → (P 0 S)) ∧ (((p0 >>> (p1 &&& 31)) &&& 1) = 1 → (P 1 S))
set_option maxRecDepth 100000 in
set_option maxHeartbeats 4000000 in
theorem t_X10_isIn {p : Program} {l : Launch} {e : Env} {s : State} {m : MethodId} {args : Array Value} {below : List Frame} {meth : Method} {c : Code} {D : va_G} {A : Nat → Prop} {T : Nat → ClassId} (C : GC p s m args meth c cX10_isIn "FreightRater" (ws_X10_isIn) 2 D A (zty T)) (E : GE A s) (hr : meth.sig.returnType = (some .boolean)) (P : Int32 → HS → Prop) : ∀ (p0 : Int32) (p1 : Int32) (S0 S : HS) (L : List Nat), S0 = S → wt S → hL S L → wp_X10_isIn P p0 p1 S → GW p l e { rm_X10_isIn with cells := 0, slots := 0 } s m args below meth c D A 2 0 0 (MQ below (va_Qi (fun v (u : HS × List Nat) => P v u.1 ∧ CO S0 u) (CE D T A) A) args s 0 0 A) (CW T S L) 0 0 0 [(0, .int p0), (1, .int p1)] [] := by
  have hW : ∀ {w : Cond}, w ∈ W0 → w.before args s = true := fun h => C.2.2.2.2.1 _ (List.mem_cons_of_mem _ h)
  intro p0 p1 S0 S L hS0 hw hL  h
  have he : ext S0 S := by rw [hS0]; exact ext_rf
  unfold wp_X10_isIn at h
  refine g_iload_n C dX10_isIn_0 rfl 0 rfl ?_
  refine g_iload_n C dX10_isIn_1 rfl 1 rfl ?_
  refine g_ishr C dX10_isIn_2 ?_
  refine g_iconst (v := 1) C dX10_isIn_3 (by decide) ?_
  refine g_iand C dX10_isIn_4 ?_
  refine g_iconst (v := 1) C dX10_isIn_5 (by decide) ?_
  refine g_icmp_ne (tgt := 13) C dX10_isIn_6 (by decide) (fun z1 => ?_) (fun z1 => ?_)
  · replace h := h.1 z1
    refine g_iconst (v := 0) C dX10_isIn_13 (by decide) ?_
    exact gc_zret C vz0 hw hL he hr dX10_isIn_14 h
  · replace h := h.2 z1
    refine g_iconst (v := 1) C dX10_isIn_9 (by decide) ?_
    refine g_goto (tgt := 14) C dX10_isIn_10 (by decide) ?_
    exact gc_zret C vz1 hw hL he hr dX10_isIn_14 h
theorem c_X10_isIn (l : Launch) (D : va_G) (T : Nat → ClassId) (p0 : Int32) (p1 : Int32) (S : HS)  (P : Int32 → HS → Prop) (h : wp_X10_isIn P p0 p1 S) : CMi l yX10_isIn (ws_X10_isIn) rm_X10_isIn D T [.int p0, .int p1] S 0 0 P := gc_meti (by decide) rfl rfl (Nat.le_of_ble_eq_true rfl) (fun p e s m args below meth c A L C E hnm hr hw hL => t_X10_isIn C E   hr P p0 p1 S S L rfl hw hL  h)
def wp_X10_percentOf (P : Int32 → HS → Prop) (p0 : Int32) (p1 : Int32) (S : HS) : Prop := P (Int64.toInt32 ((((Int32.toInt64 p0) * (Int32.toInt64 p1)) + 50) / 100)) S
set_option maxRecDepth 100000 in
set_option maxHeartbeats 4000000 in
theorem t_X10_percentOf {p : Program} {l : Launch} {e : Env} {s : State} {m : MethodId} {args : Array Value} {below : List Frame} {meth : Method} {c : Code} {D : va_G} {A : Nat → Prop} {T : Nat → ClassId} (C : GC p s m args meth c cX10_percentOf "FreightRater" (ws_X10_percentOf) 2 D A (zty T)) (E : GE A s) (hr : meth.sig.returnType = (some .int)) (P : Int32 → HS → Prop) : ∀ (p0 : Int32) (p1 : Int32) (S0 S : HS) (L : List Nat), S0 = S → wt S → hL S L → wp_X10_percentOf P p0 p1 S → GW p l e { rm_X10_percentOf with cells := 0, slots := 0 } s m args below meth c D A 2 0 0 (MQ below (va_Qi (fun v (u : HS × List Nat) => P v u.1 ∧ CO S0 u) (CE D T A) A) args s 0 0 A) (CW T S L) 0 0 0 [(0, .int p0), (1, .int p1)] [] := by
  have hW : ∀ {w : Cond}, w ∈ W0 → w.before args s = true := fun h => C.2.2.2.2.1 _ (List.mem_cons_of_mem _ h)
  intro p0 p1 S0 S L hS0 hw hL  h
  have he : ext S0 S := by rw [hS0]; exact ext_rf
  unfold wp_X10_percentOf at h
  refine g_iload_n C dX10_percentOf_0 rfl 0 rfl ?_
  refine g_i2l C dX10_percentOf_1 rfl ?_
  refine g_iload_n C dX10_percentOf_2 rfl 1 rfl ?_
  refine g_i2l C dX10_percentOf_3 rfl ?_
  refine g_lmul C dX10_percentOf_4 ?_
  refine g_ldc2 (v := 50) C dX10_percentOf_5 (hW kw_1280) ?_
  refine g_ladd C dX10_percentOf_8 ?_
  refine g_ldc2 (v := 100) C dX10_percentOf_9 (hW kw_1281) ?_
  refine g_ldiv C dX10_percentOf_12 (by decide) ?_
  refine g_l2i C dX10_percentOf_13 rfl ?_
  exact gc_iret C hw hL he hr dX10_percentOf_14 h
theorem c_X10_percentOf (l : Launch) (D : va_G) (T : Nat → ClassId) (p0 : Int32) (p1 : Int32) (S : HS)  (P : Int32 → HS → Prop) (h : wp_X10_percentOf P p0 p1 S) : CMi l yX10_percentOf (ws_X10_percentOf) rm_X10_percentOf D T [.int p0, .int p1] S 0 0 P := gc_meti (by decide) rfl rfl (Nat.le_of_ble_eq_true rfl) (fun p e s m args below meth c A L C E hnm hr hw hL => t_X10_percentOf C E   hr P p0 p1 S S L rfl hw hL  h)
def wb_X4_findCheapest_4 (rec : Nat → Int32 → Int32 → Int32 → HS → Prop) (P : Int32 → HS → Prop) (x0 : Nat) (x1 : Int32) (x2 : Int32) (x3 : Int32) (S : HS) : Prop := ((hI S 100 x0) ≤ x3 → (P x2 S)) ∧ (¬ (hI S 100 x0) ≤ x3 → ((x2 < 0 → (∀ v3 : Int32, v3 = x3 + 1 → (rec x0 x1 x3 v3 S))) ∧ (¬ x2 < 0 → (∃ (m4 : (Nat → Prop)) (m5 : Nat → Int32) (m6 : Nat) (m7 : Nat), ((WF m5 ∧ m6 < 6 ∧ 1 ≤ m7 ∧ m7 ≤ 9 ∧ RelSc S m4 x0 m5 m6 m7 ∧ ∃ i : Nat, i < iv (m5 (274 + 510 * m6 + 38 + m7 - 1)) ∧ x3 = nI i) ∧ (∃ (m13 : (Nat → Prop)) (m14 : Nat → Int32) (m15 : Nat) (m16 : Nat), ((WF m14 ∧ m15 < 6 ∧ 1 ≤ m16 ∧ m16 ≤ 9 ∧ RelSc S m13 x0 m14 m15 m16 ∧ ∃ i : Nat, i < iv (m14 (274 + 510 * m15 + 38 + m16 - 1)) ∧ x2 = nI i) ∧ (((amtF m14 m15 m16 (iv x2) x1) ≤ (amtF m5 m6 m7 (iv x3) x1) → (∀ v23 : Int32, v23 = x3 + 1 → (rec x0 x1 x2 v23 S))) ∧ (¬ (amtF m14 m15 m16 (iv x2) x1) ≤ (amtF m5 m6 m7 (iv x3) x1) → (∀ v24 : Int32, v24 = x3 + 1 → (rec x0 x1 x3 v24 S)))))))))))
def wp_X4_findCheapest_4 (P : Int32 → HS → Prop) : Nat → Nat → Int32 → Int32 → Int32 → HS → Prop
  | 0 => fun _ _ _ _ _ => False
  | n + 1 => fun x0 x1 x2 x3 S => wb_X4_findCheapest_4 (wp_X4_findCheapest_4  P n)  P x0 x1 x2 x3 S
set_option maxRecDepth 100000 in
set_option maxHeartbeats 4000000 in
theorem t_X4_findCheapest_4 {p : Program} {l : Launch} {e : Env} {s : State} {m : MethodId} {args : Array Value} {below : List Frame} {meth : Method} {c : Code} {D : va_G} {A : Nat → Prop} {T : Nat → ClassId} (C : GC p s m args meth c cX4_findCheapest "FreightRater$Scale" (ws_X4_findCheapest) 4 D A (zty T)) (E : GE A s) (hr : meth.sig.returnType = (some .int)) (S0 : HS) (P : Int32 → HS → Prop) : ∀ (n : Nat) (x0 : Nat) (x1 : Int32) (x2 : Int32) (x3 : Int32) (S : HS) (L : List Nat), wt S → hL S L → ext S0 S → (hK S x0 = 5) → wp_X4_findCheapest_4  P n x0 x1 x2 x3 S → GW p l e { rm_X4_findCheapest with cells := 0, slots := 0 } s m args below meth c D A 4 0 0 (MQ below (va_Qi (fun v (u : HS × List Nat) => P v u.1 ∧ CO S0 u) (CE D T A) A) args s 0 0 A) (CW T S L) 0 0 4 [(0, .ref x0), (1, .int x1), (2, .int x2), (3, .int x3)] [] := by
  have hW : ∀ {w : Cond}, w ∈ W0 → w.before args s = true := fun h => C.2.2.2.2.1 _ (List.mem_cons_of_mem _ h)
  intro n
  induction n with
  | zero => intro x0 x1 x2 x3 S L hw hL he hx0 h; exact h.elim
  | succ n ih =>
    intro x0 x1 x2 x3 S L hw hL he hx0 h
    replace h : wb_X4_findCheapest_4 (wp_X4_findCheapest_4  P n)  P x0 x1 x2 x3 S := h
    unfold wb_X4_findCheapest_4 at h
    refine g_iload_n C dX4_findCheapest_4 rfl 3 rfl ?_
    refine g_aload_n C dX4_findCheapest_5 rfl 0 rfl ?_
    refine gc_getI C iwx_X4 hL hx0 (by decide) (by decide) rfl 0 (by decide) (hW kw_393) rfl rfl rfl dX4_findCheapest_6 ?_
    refine g_icmp_ge (tgt := 39) C dX4_findCheapest_9 (by decide) (fun z1 => ?_) (fun z1 => ?_)
    · replace h := h.1 z1
      refine g_iload_n C dX4_findCheapest_39 rfl 2 rfl ?_
      exact gc_iret C hw hL he hr dX4_findCheapest_40 h
    · replace h := h.2 z1
      refine g_iload_n C dX4_findCheapest_12 rfl 2 rfl ?_
      refine g_if_lt (tgt := 31) C dX4_findCheapest_13 (by decide) (fun z2 => ?_) (fun z2 => ?_)
      · replace h := h.1 z2
        refine g_iload_n C dX4_findCheapest_31 rfl 3 rfl ?_
        refine g_istore_n (lv' := [(2, .int x3), (0, .ref x0), (1, .int x1), (3, .int x3)]) C dX4_findCheapest_32 rfl (by decide) rfl ?_
        obtain ⟨v3, ev3⟩ : ∃ y : Int32, y = x3 + 1 := ⟨_, rfl⟩
        replace h := h v3 ev3
        refine g_iinc (v := v3) (lv' := [(3, .int v3), (2, .int x3), (0, .ref x0), (1, .int x1)]) C dX4_findCheapest_33 (j := 3) rfl (by rw [ev3]; rfl) (by decide) rfl ?_
        refine g_goto (tgt := 4) C dX4_findCheapest_36 (by decide) ?_
        refine g_locals [2, 3, 1, 0] rfl ?_
        exact ih x0 x1 x3 v3 S L hw hL he hx0 h
      · replace h := h.2 z2
        refine g_aload_n C dX4_findCheapest_16 rfl 0 rfl ?_
        refine g_iload_n C dX4_findCheapest_17 rfl 3 rfl ?_
        refine g_iload_n C dX4_findCheapest_18 rfl 1 rfl ?_
        obtain ⟨m4, m5, m6, m7, h⟩ := h
        obtain ⟨g8, h⟩ := h
        refine gc_calliV (host := "") C E hw hL hx0 (by decide) (by decide) rfl [.int x3, .int x1] rfl (k_X4_amountBy l D T x0 x3 x1 S m4 m5 m6 m7 hx0 g8) (w0_V 2 C.2.2.2.2.1 kw_1054 kw_1056 ks_24 kw_15 kw_1057 rfl rfl (by decide +kernel) ⟨Nat.le_of_ble_eq_true rfl, Nat.le_of_ble_eq_true rfl⟩) rfl (Nat.le_of_ble_eq_true rfl) (Nat.le_refl _) (Nat.le_refl _) (Nat.zero_le _) (Nat.zero_le _) dX4_findCheapest_19 (fun v9 S9 L9 he9 hw9 hL9 hp => ?_)
        obtain ⟨hv9, hs9⟩ := hp
        replace hs9 := hs9.symm
        subst hs9
        replace hv9 := hv9.symm
        subst hv9
        have w12 := hL9
        refine g_aload_n C dX4_findCheapest_22 rfl 0 rfl ?_
        refine g_iload_n C dX4_findCheapest_23 rfl 2 rfl ?_
        refine g_iload_n C dX4_findCheapest_24 rfl 1 rfl ?_
        obtain ⟨m13, m14, m15, m16, h⟩ := h
        obtain ⟨g17, h⟩ := h
        refine gc_calliV (host := "") C E hw w12 hx0 (by decide) (by decide) rfl [.int x2, .int x1] rfl (k_X4_amountBy l D T x0 x2 x1 S m13 m14 m15 m16 hx0 g17) (w0_V 2 C.2.2.2.2.1 kw_1054 kw_1056 ks_24 kw_15 kw_1057 rfl rfl (by decide +kernel) ⟨Nat.le_of_ble_eq_true rfl, Nat.le_of_ble_eq_true rfl⟩) rfl (Nat.le_of_ble_eq_true rfl) (Nat.le_refl _) (Nat.le_refl _) (Nat.zero_le _) (Nat.zero_le _) dX4_findCheapest_25 (fun v9 S9 L18 he9 hw9 hL9 hp => ?_)
        obtain ⟨hv9, hs9⟩ := hp
        replace hs9 := hs9.symm
        subst hs9
        replace hv9 := hv9.symm
        subst hv9
        have w21 := hL9
        refine g_icmp_ge (tgt := 33) C dX4_findCheapest_28 (by decide) (fun z22 => ?_) (fun z22 => ?_)
        · replace h := h.1 z22
          obtain ⟨v23, ev23⟩ : ∃ y : Int32, y = x3 + 1 := ⟨_, rfl⟩
          replace h := h v23 ev23
          refine g_iinc (v := v23) (lv' := [(3, .int v23), (0, .ref x0), (1, .int x1), (2, .int x2)]) C dX4_findCheapest_33 (j := 3) rfl (by rw [ev23]; rfl) (by decide) rfl ?_
          refine g_goto (tgt := 4) C dX4_findCheapest_36 (by decide) ?_
          refine g_locals [1, 2, 3, 0] rfl ?_
          exact ih x0 x1 x2 v23 S L18 hw w21 he hx0 h
        · replace h := h.2 z22
          refine g_iload_n C dX4_findCheapest_31 rfl 3 rfl ?_
          refine g_istore_n (lv' := [(2, .int x3), (0, .ref x0), (1, .int x1), (3, .int x3)]) C dX4_findCheapest_32 rfl (by decide) rfl ?_
          obtain ⟨v24, ev24⟩ : ∃ y : Int32, y = x3 + 1 := ⟨_, rfl⟩
          replace h := h v24 ev24
          refine g_iinc (v := v24) (lv' := [(3, .int v24), (2, .int x3), (0, .ref x0), (1, .int x1)]) C dX4_findCheapest_33 (j := 3) rfl (by rw [ev24]; rfl) (by decide) rfl ?_
          refine g_goto (tgt := 4) C dX4_findCheapest_36 (by decide) ?_
          refine g_locals [2, 3, 1, 0] rfl ?_
          exact ih x0 x1 x3 v24 S L18 hw w21 he hx0 h
def wp_X4_findCheapest (P : Int32 → HS → Prop) (x0 : Nat) (p0 : Int32) (S : HS) : Prop := ∃ k25 : Nat, wp_X4_findCheapest_4  P k25 x0 p0 (-1) 0 S
set_option maxRecDepth 100000 in
set_option maxHeartbeats 4000000 in
theorem t_X4_findCheapest {p : Program} {l : Launch} {e : Env} {s : State} {m : MethodId} {args : Array Value} {below : List Frame} {meth : Method} {c : Code} {D : va_G} {A : Nat → Prop} {T : Nat → ClassId} (C : GC p s m args meth c cX4_findCheapest "FreightRater$Scale" (ws_X4_findCheapest) 4 D A (zty T)) (E : GE A s) (hr : meth.sig.returnType = (some .int)) (P : Int32 → HS → Prop) : ∀ (x0 : Nat) (p0 : Int32) (S0 S : HS) (L : List Nat), S0 = S → wt S → hL S L → (hK S x0 = 5) → wp_X4_findCheapest P x0 p0 S → GW p l e { rm_X4_findCheapest with cells := 0, slots := 0 } s m args below meth c D A 4 0 0 (MQ below (va_Qi (fun v (u : HS × List Nat) => P v u.1 ∧ CO S0 u) (CE D T A) A) args s 0 0 A) (CW T S L) 0 0 0 [(0, .ref x0), (1, .int p0)] [] := by
  have hW : ∀ {w : Cond}, w ∈ W0 → w.before args s = true := fun h => C.2.2.2.2.1 _ (List.mem_cons_of_mem _ h)
  intro x0 p0 S0 S L hS0 hw hL hx0 h
  have he : ext S0 S := by rw [hS0]; exact ext_rf
  unfold wp_X4_findCheapest at h
  refine g_iconst (v := -1) C dX4_findCheapest_0 (by decide) ?_
  refine g_istore_n (lv' := [(2, .int (-1)), (0, .ref x0), (1, .int p0)]) C dX4_findCheapest_1 rfl (by decide) rfl ?_
  refine g_iconst (v := 0) C dX4_findCheapest_2 (by decide) ?_
  refine g_istore_n (lv' := [(3, .int 0), (2, .int (-1)), (0, .ref x0), (1, .int p0)]) C dX4_findCheapest_3 rfl (by decide) rfl ?_
  refine g_locals [2, 3, 1, 0] rfl ?_
  obtain ⟨k25, h⟩ := h
  refine t_X4_findCheapest_4 C E hr S0  P  k25 x0 p0 (-1) 0 S L hw hL he hx0 h
theorem c_X4_findCheapest (l : Launch) (D : va_G) (T : Nat → ClassId) (x0 : Nat) (p0 : Int32) (S : HS) (hx0 : hK S x0 = 5) (P : Int32 → HS → Prop) (h : wp_X4_findCheapest P x0 p0 S) : CMi l yX4_findCheapest (ws_X4_findCheapest) rm_X4_findCheapest D T [.ref x0, .int p0] S 0 0 P := gc_meti (by decide) rfl rfl (Nat.le_of_ble_eq_true rfl) (fun p e s m args below meth c A L C E hnm hr hw hL => t_X4_findCheapest C E   hr P x0 p0 S S L rfl hw hL hx0 h)
def wp_X4_chargeFor (P : Int32 → HS → Prop) (x0 : Nat) (p0 : Int32) (p1 : Int32) (S : HS) : Prop := ∃ (m1 : (Nat → Prop)) (m2 : Nat → Int32) (m3 : Nat) (m4 : Nat), ((WF m2 ∧ m3 < 6 ∧ 1 ≤ m4 ∧ m4 ≤ 9 ∧ RelSc S m1 x0 m2 m3 m4 ∧ ∃ i : Nat, i < iv (m2 (274 + 510 * m3 + 38 + m4 - 1)) ∧ p0 = nI i) ∧ (P (if (amtF m2 m3 m4 (iv p0) p1) < (hI S 103 x0) then (hI S 103 x0) else (amtF m2 m3 m4 (iv p0) p1)) S))
set_option maxRecDepth 100000 in
set_option maxHeartbeats 4000000 in
theorem t_X4_chargeFor {p : Program} {l : Launch} {e : Env} {s : State} {m : MethodId} {args : Array Value} {below : List Frame} {meth : Method} {c : Code} {D : va_G} {A : Nat → Prop} {T : Nat → ClassId} (C : GC p s m args meth c cX4_chargeFor "FreightRater$Scale" (ws_X4_chargeFor) 3 D A (zty T)) (E : GE A s) (hr : meth.sig.returnType = (some .int)) (P : Int32 → HS → Prop) : ∀ (x0 : Nat) (p0 : Int32) (p1 : Int32) (S0 S : HS) (L : List Nat), S0 = S → wt S → hL S L → (hK S x0 = 5) → wp_X4_chargeFor P x0 p0 p1 S → GW p l e { rm_X4_chargeFor with cells := 0, slots := 0 } s m args below meth c D A 3 0 0 (MQ below (va_Qi (fun v (u : HS × List Nat) => P v u.1 ∧ CO S0 u) (CE D T A) A) args s 0 0 A) (CW T S L) 0 0 0 [(0, .ref x0), (1, .int p0), (2, .int p1)] [] := by
  have hW : ∀ {w : Cond}, w ∈ W0 → w.before args s = true := fun h => C.2.2.2.2.1 _ (List.mem_cons_of_mem _ h)
  intro x0 p0 p1 S0 S L hS0 hw hL hx0 h
  have he : ext S0 S := by rw [hS0]; exact ext_rf
  unfold wp_X4_chargeFor at h
  refine g_aload_n C dX4_chargeFor_0 rfl 0 rfl ?_
  refine g_iload_n C dX4_chargeFor_1 rfl 1 rfl ?_
  refine g_iload_n C dX4_chargeFor_2 rfl 2 rfl ?_
  obtain ⟨m1, m2, m3, m4, h⟩ := h
  obtain ⟨g5, h⟩ := h
  refine gc_calliV (host := "") C E hw hL hx0 (by decide) (by decide) rfl [.int p0, .int p1] rfl (k_X4_amountBy l D T x0 p0 p1 S m1 m2 m3 m4 hx0 g5) (w0_V 2 C.2.2.2.2.1 kw_1054 kw_1056 ks_24 kw_15 kw_1057 rfl rfl (by decide +kernel) ⟨Nat.le_of_ble_eq_true rfl, Nat.le_of_ble_eq_true rfl⟩) rfl (Nat.le_of_ble_eq_true rfl) (Nat.le_refl _) (Nat.le_refl _) (Nat.zero_le _) (Nat.zero_le _) dX4_chargeFor_3 (fun v9 S9 L6 he9 hw9 hL9 hp => ?_)
  obtain ⟨hv9, hs9⟩ := hp
  replace hs9 := hs9.symm
  subst hs9
  replace hv9 := hv9.symm
  subst hv9
  have w9 := hL9
  refine g_aload_n C dX4_chargeFor_6 rfl 0 rfl ?_
  refine gc_getI C iwx_X4 w9 hx0 (by decide) (by decide) rfl 3 (by decide) (hW kw_402) rfl rfl rfl dX4_chargeFor_7 ?_
  refine g_mmax C (hW kw_1058) (hW kw_626) (hW kw_18) (hW kw_627) (Nat.le_of_ble_eq_true rfl) (Nat.le_of_ble_eq_true rfl) (Nat.le_refl _) (Nat.le_refl _) dX4_chargeFor_10 ?_
  exact gc_iret C hw w9 he hr dX4_chargeFor_13 h
theorem c_X4_chargeFor (l : Launch) (D : va_G) (T : Nat → ClassId) (x0 : Nat) (p0 : Int32) (p1 : Int32) (S : HS) (hx0 : hK S x0 = 5) (P : Int32 → HS → Prop) (h : wp_X4_chargeFor P x0 p0 p1 S) : CMi l yX4_chargeFor (ws_X4_chargeFor) rm_X4_chargeFor D T [.ref x0, .int p0, .int p1] S 0 0 P := gc_meti (by decide) rfl rfl (Nat.le_of_ble_eq_true rfl) (fun p e s m args below meth c A L C E hnm hr hw hL => t_X4_chargeFor C E   hr P x0 p0 p1 S S L rfl hw hL hx0 h)
def wp_X6_versionAt (P : Option Nat → HS → Prop) (x0 : Nat) (p0 : Int32) (S : HS) : Prop := ((zin p0 0 ((hI S 141 x0) - 1)) = 0 → (P none S)) ∧ (¬ (zin p0 0 ((hI S 141 x0) - 1)) = 0 → (∃ b7 : Nat, hR S 140 x0 = some b7 ∧ (hK S b7 = 29 → (vp_in p0 (hN S b7) ∧ (∀ o10 : Option Nat, o10 = hB S b7 (Int32.toNatClampNeg p0) → (∀ b, o10 = some b → hK S b = 10) → (P o10 S))))))
set_option maxRecDepth 100000 in
set_option maxHeartbeats 4000000 in
theorem t_X6_versionAt {p : Program} {l : Launch} {e : Env} {s : State} {m : MethodId} {args : Array Value} {below : List Frame} {meth : Method} {c : Code} {D : va_G} {A : Nat → Prop} {T : Nat → ClassId} (C : GC p s m args meth c cX6_versionAt "FreightRater$State" (ws_X6_versionAt) 2 D A (zty T)) (E : GE A s) (hr : meth.sig.returnType = (some (.object "FreightRater$Version"))) (P : Option Nat → HS → Prop) : ∀ (x0 : Nat) (p0 : Int32) (S0 S : HS) (L : List Nat), S0 = S → wt S → hL S L → (hK S x0 = 7) → wp_X6_versionAt P x0 p0 S → GW p l e { rm_X6_versionAt with cells := 0, slots := 0 } s m args below meth c D A 2 0 0 (MQ below (va_Qq (fun v (u : HS × List Nat) => (P v u.1 ∧ ∀ b, v = some b → hK u.1 b = 10) ∧ CO S0 u) (CE D T A) A) args s 0 0 A) (CW T S L) 0 0 0 [(0, .ref x0), (1, .int p0)] [] := by
  have hW : ∀ {w : Cond}, w ∈ W0 → w.before args s = true := fun h => C.2.2.2.2.1 _ (List.mem_cons_of_mem _ h)
  intro x0 p0 S0 S L hS0 hw hL hx0 h
  have he : ext S0 S := by rw [hS0]; exact ext_rf
  unfold wp_X6_versionAt at h
  refine g_iload_n C dX6_versionAt_0 rfl 1 rfl ?_
  refine g_iconst (v := 0) C dX6_versionAt_1 (by decide) ?_
  refine g_aload_n C dX6_versionAt_2 rfl 0 rfl ?_
  refine gc_getI C iwx_X6 hL hx0 (by decide) (by decide) rfl 1 (by decide) (hW kw_61) rfl rfl rfl dX6_versionAt_3 ?_
  refine g_iconst (v := 1) C dX6_versionAt_6 (by decide) ?_
  refine g_isub C dX6_versionAt_7 ?_
  refine gc_calliSN (host := "FreightRater") C E hw hL [.int p0, .int 0, .int ((hI S 141 x0) - 1)] rfl (k_X10_isBetween l D T p0 0 ((hI S 141 x0) - 1) S ) (w0_SN 3 E C.2.2.2.2.1 (by decide) kw_304 kw_1 kw_305 rfl rfl (by decide +kernel) ⟨Nat.le_of_ble_eq_true rfl, Nat.le_of_ble_eq_true rfl⟩) rfl (Nat.le_of_ble_eq_true rfl) (Nat.le_refl _) (Nat.le_refl _) (Nat.zero_le _) (Nat.zero_le _) dX6_versionAt_8 (fun v9 S9 L1 he9 hw9 hL9 hp => ?_)
  obtain ⟨hv9, hs9⟩ := hp
  replace hs9 := hs9.symm
  subst hs9
  replace hv9 := hv9.symm
  subst hv9
  have w4 := hL9
  refine g_if_eq (tgt := 23) C dX6_versionAt_11 (by decide) (fun z5 => ?_) (fun z5 => ?_)
  · replace h := h.1 z5
    refine g_null C dX6_versionAt_23 ?_
    exact gc_aret (v := none) (kd := 10) C (Or.inl ⟨_, rfl⟩) (fun b hb => by cases hb) hw w4 he hr dX6_versionAt_24 h
  · replace h := h.2 z5
    refine g_aload_n C dX6_versionAt_14 rfl 0 rfl ?_
    refine gc_getR C hw iwx_X6 w4 hx0 (by decide) (by decide) rfl 0 (by decide) (hW kw_58) rfl rfl rfl dX6_versionAt_15 (fun o6 eo6 ko6 => ?_)
    obtain ⟨b7, hb9, h⟩ := h
    have g8 : hK S b7 = 29 := ko6 b7 (eo6.trans hb9)
    replace h := h g8
    refine g_opt (eo6.trans hb9) ?_
    refine g_iload_n C dX6_versionAt_18 rfl 1 rfl ?_
    obtain ⟨g9, h⟩ := h
    refine gc_aald C hw w4 g8 (by decide) rfl g9 dX6_versionAt_19 (fun o10 eo10 ko10 => ?_)
    replace h := h o10 eo10 ko10
    refine g_goto (tgt := 24) C dX6_versionAt_20 (by decide) ?_
    exact gc_aret (v := o10) (kd := 10) C (Or.inl ⟨_, rfl⟩) ko10 hw w4 he hr dX6_versionAt_24 h
theorem c_X6_versionAt (l : Launch) (D : va_G) (T : Nat → ClassId) (x0 : Nat) (p0 : Int32) (S : HS) (hx0 : hK S x0 = 7) (P : Option Nat → HS → Prop) (h : wp_X6_versionAt P x0 p0 S) : CMq l yX6_versionAt (ws_X6_versionAt) rm_X6_versionAt D T [.ref x0, .int p0] S 0 0 10 P := gc_metq (by decide) rfl rfl (Nat.le_of_ble_eq_true rfl) (fun p e s m args below meth c A L C E hnm hr hw hL => t_X6_versionAt C E   hr P x0 p0 S S L rfl hw hL hx0 h)
def wp_X6_shipmentAt (P : Option Nat → HS → Prop) (x0 : Nat) (p0 : Int32) (S : HS) : Prop := ((zin p0 0 ((hI S 143 x0) - 1)) = 0 → (P none S)) ∧ (¬ (zin p0 0 ((hI S 143 x0) - 1)) = 0 → (∃ b7 : Nat, hR S 142 x0 = some b7 ∧ (hK S b7 = 27 → (vp_in p0 (hN S b7) ∧ (∀ o10 : Option Nat, o10 = hB S b7 (Int32.toNatClampNeg p0) → (∀ b, o10 = some b → hK S b = 6) → (P o10 S))))))
set_option maxRecDepth 100000 in
set_option maxHeartbeats 4000000 in
theorem t_X6_shipmentAt {p : Program} {l : Launch} {e : Env} {s : State} {m : MethodId} {args : Array Value} {below : List Frame} {meth : Method} {c : Code} {D : va_G} {A : Nat → Prop} {T : Nat → ClassId} (C : GC p s m args meth c cX6_shipmentAt "FreightRater$State" (ws_X6_shipmentAt) 2 D A (zty T)) (E : GE A s) (hr : meth.sig.returnType = (some (.object "FreightRater$Shipment"))) (P : Option Nat → HS → Prop) : ∀ (x0 : Nat) (p0 : Int32) (S0 S : HS) (L : List Nat), S0 = S → wt S → hL S L → (hK S x0 = 7) → wp_X6_shipmentAt P x0 p0 S → GW p l e { rm_X6_shipmentAt with cells := 0, slots := 0 } s m args below meth c D A 2 0 0 (MQ below (va_Qq (fun v (u : HS × List Nat) => (P v u.1 ∧ ∀ b, v = some b → hK u.1 b = 6) ∧ CO S0 u) (CE D T A) A) args s 0 0 A) (CW T S L) 0 0 0 [(0, .ref x0), (1, .int p0)] [] := by
  have hW : ∀ {w : Cond}, w ∈ W0 → w.before args s = true := fun h => C.2.2.2.2.1 _ (List.mem_cons_of_mem _ h)
  intro x0 p0 S0 S L hS0 hw hL hx0 h
  have he : ext S0 S := by rw [hS0]; exact ext_rf
  unfold wp_X6_shipmentAt at h
  refine g_iload_n C dX6_shipmentAt_0 rfl 1 rfl ?_
  refine g_iconst (v := 0) C dX6_shipmentAt_1 (by decide) ?_
  refine g_aload_n C dX6_shipmentAt_2 rfl 0 rfl ?_
  refine gc_getI C iwx_X6 hL hx0 (by decide) (by decide) rfl 3 (by decide) (hW kw_65) rfl rfl rfl dX6_shipmentAt_3 ?_
  refine g_iconst (v := 1) C dX6_shipmentAt_6 (by decide) ?_
  refine g_isub C dX6_shipmentAt_7 ?_
  refine gc_calliSN (host := "FreightRater") C E hw hL [.int p0, .int 0, .int ((hI S 143 x0) - 1)] rfl (k_X10_isBetween l D T p0 0 ((hI S 143 x0) - 1) S ) (w0_SN 3 E C.2.2.2.2.1 (by decide) kw_304 kw_1 kw_305 rfl rfl (by decide +kernel) ⟨Nat.le_of_ble_eq_true rfl, Nat.le_of_ble_eq_true rfl⟩) rfl (Nat.le_of_ble_eq_true rfl) (Nat.le_refl _) (Nat.le_refl _) (Nat.zero_le _) (Nat.zero_le _) dX6_shipmentAt_8 (fun v9 S9 L1 he9 hw9 hL9 hp => ?_)
  obtain ⟨hv9, hs9⟩ := hp
  replace hs9 := hs9.symm
  subst hs9
  replace hv9 := hv9.symm
  subst hv9
  have w4 := hL9
  refine g_if_eq (tgt := 23) C dX6_shipmentAt_11 (by decide) (fun z5 => ?_) (fun z5 => ?_)
  · replace h := h.1 z5
    refine g_null C dX6_shipmentAt_23 ?_
    exact gc_aret (v := none) (kd := 6) C (Or.inl ⟨_, rfl⟩) (fun b hb => by cases hb) hw w4 he hr dX6_shipmentAt_24 h
  · replace h := h.2 z5
    refine g_aload_n C dX6_shipmentAt_14 rfl 0 rfl ?_
    refine gc_getR C hw iwx_X6 w4 hx0 (by decide) (by decide) rfl 2 (by decide) (hW kw_62) rfl rfl rfl dX6_shipmentAt_15 (fun o6 eo6 ko6 => ?_)
    obtain ⟨b7, hb9, h⟩ := h
    have g8 : hK S b7 = 27 := ko6 b7 (eo6.trans hb9)
    replace h := h g8
    refine g_opt (eo6.trans hb9) ?_
    refine g_iload_n C dX6_shipmentAt_18 rfl 1 rfl ?_
    obtain ⟨g9, h⟩ := h
    refine gc_aald C hw w4 g8 (by decide) rfl g9 dX6_shipmentAt_19 (fun o10 eo10 ko10 => ?_)
    replace h := h o10 eo10 ko10
    refine g_goto (tgt := 24) C dX6_shipmentAt_20 (by decide) ?_
    exact gc_aret (v := o10) (kd := 6) C (Or.inl ⟨_, rfl⟩) ko10 hw w4 he hr dX6_shipmentAt_24 h
theorem c_X6_shipmentAt (l : Launch) (D : va_G) (T : Nat → ClassId) (x0 : Nat) (p0 : Int32) (S : HS) (hx0 : hK S x0 = 7) (P : Option Nat → HS → Prop) (h : wp_X6_shipmentAt P x0 p0 S) : CMq l yX6_shipmentAt (ws_X6_shipmentAt) rm_X6_shipmentAt D T [.ref x0, .int p0] S 0 0 6 P := gc_metq (by decide) rfl rfl (Nat.le_of_ble_eq_true rfl) (fun p e s m args below meth c A L C E hnm hr hw hL => t_X6_shipmentAt C E   hr P x0 p0 S S L rfl hw hL hx0 h)
def wp_X9_scaleOf (P : Option Nat → HS → Prop) (x0 : Nat) (p0 : Int32) (S : HS) : Prop := ((zin p0 1 9) = 0 → (P none S)) ∧ (¬ (zin p0 1 9) = 0 → (∃ b7 : Nat, hR S 205 x0 = some b7 ∧ (hK S b7 = 26 → (vp_in (p0 - 1) (hN S b7) ∧ (∀ o10 : Option Nat, o10 = hB S b7 (Int32.toNatClampNeg (p0 - 1)) → (∀ b, o10 = some b → hK S b = 5) → (P o10 S))))))
set_option maxRecDepth 100000 in
set_option maxHeartbeats 4000000 in
theorem t_X9_scaleOf {p : Program} {l : Launch} {e : Env} {s : State} {m : MethodId} {args : Array Value} {below : List Frame} {meth : Method} {c : Code} {D : va_G} {A : Nat → Prop} {T : Nat → ClassId} (C : GC p s m args meth c cX9_scaleOf "FreightRater$Version" (ws_X9_scaleOf) 2 D A (zty T)) (E : GE A s) (hr : meth.sig.returnType = (some (.object "FreightRater$Scale"))) (P : Option Nat → HS → Prop) : ∀ (x0 : Nat) (p0 : Int32) (S0 S : HS) (L : List Nat), S0 = S → wt S → hL S L → (hK S x0 = 10) → wp_X9_scaleOf P x0 p0 S → GW p l e { rm_X9_scaleOf with cells := 0, slots := 0 } s m args below meth c D A 2 0 0 (MQ below (va_Qq (fun v (u : HS × List Nat) => (P v u.1 ∧ ∀ b, v = some b → hK u.1 b = 5) ∧ CO S0 u) (CE D T A) A) args s 0 0 A) (CW T S L) 0 0 0 [(0, .ref x0), (1, .int p0)] [] := by
  have hW : ∀ {w : Cond}, w ∈ W0 → w.before args s = true := fun h => C.2.2.2.2.1 _ (List.mem_cons_of_mem _ h)
  intro x0 p0 S0 S L hS0 hw hL hx0 h
  have he : ext S0 S := by rw [hS0]; exact ext_rf
  unfold wp_X9_scaleOf at h
  refine g_iload_n C dX9_scaleOf_0 rfl 1 rfl ?_
  refine g_iconst (v := 1) C dX9_scaleOf_1 (by decide) ?_
  refine g_bipush (v := 9) C dX9_scaleOf_2 (by decide) ?_
  refine gc_calliSN (host := "FreightRater") C E hw hL [.int p0, .int 1, .int 9] rfl (k_X10_isBetween l D T p0 1 9 S ) (w0_SN 3 E C.2.2.2.2.1 (by decide) kw_304 kw_1 kw_305 rfl rfl (by decide +kernel) ⟨Nat.le_of_ble_eq_true rfl, Nat.le_of_ble_eq_true rfl⟩) rfl (Nat.le_of_ble_eq_true rfl) (Nat.le_refl _) (Nat.le_refl _) (Nat.zero_le _) (Nat.zero_le _) dX9_scaleOf_4 (fun v9 S9 L1 he9 hw9 hL9 hp => ?_)
  obtain ⟨hv9, hs9⟩ := hp
  replace hs9 := hs9.symm
  subst hs9
  replace hv9 := hv9.symm
  subst hv9
  have w4 := hL9
  refine g_if_eq (tgt := 21) C dX9_scaleOf_7 (by decide) (fun z5 => ?_) (fun z5 => ?_)
  · replace h := h.1 z5
    refine g_null C dX9_scaleOf_21 ?_
    exact gc_aret (v := none) (kd := 5) C (Or.inl ⟨_, rfl⟩) (fun b hb => by cases hb) hw w4 he hr dX9_scaleOf_22 h
  · replace h := h.2 z5
    refine g_aload_n C dX9_scaleOf_10 rfl 0 rfl ?_
    refine gc_getR C hw iwx_X9 w4 hx0 (by decide) (by decide) rfl 5 (by decide) (hW kw_422) rfl rfl rfl dX9_scaleOf_11 (fun o6 eo6 ko6 => ?_)
    obtain ⟨b7, hb9, h⟩ := h
    have g8 : hK S b7 = 26 := ko6 b7 (eo6.trans hb9)
    replace h := h g8
    refine g_opt (eo6.trans hb9) ?_
    refine g_iload_n C dX9_scaleOf_14 rfl 1 rfl ?_
    refine g_iconst (v := 1) C dX9_scaleOf_15 (by decide) ?_
    refine g_isub C dX9_scaleOf_16 ?_
    obtain ⟨g9, h⟩ := h
    refine gc_aald C hw w4 g8 (by decide) rfl g9 dX9_scaleOf_17 (fun o10 eo10 ko10 => ?_)
    replace h := h o10 eo10 ko10
    refine g_goto (tgt := 22) C dX9_scaleOf_18 (by decide) ?_
    exact gc_aret (v := o10) (kd := 5) C (Or.inl ⟨_, rfl⟩) ko10 hw w4 he hr dX9_scaleOf_22 h
theorem c_X9_scaleOf (l : Launch) (D : va_G) (T : Nat → ClassId) (x0 : Nat) (p0 : Int32) (S : HS) (hx0 : hK S x0 = 10) (P : Option Nat → HS → Prop) (h : wp_X9_scaleOf P x0 p0 S) : CMq l yX9_scaleOf (ws_X9_scaleOf) rm_X9_scaleOf D T [.ref x0, .int p0] S 0 0 5 P := gc_metq (by decide) rfl rfl (Nat.le_of_ble_eq_true rfl) (fun p e s m args below meth c A L C E hnm hr hw hL => t_X9_scaleOf C E   hr P x0 p0 S S L rfl hw hL hx0 h)
def wp_X9_accessorialAt (P : Option Nat → HS → Prop) (x0 : Nat) (p0 : Int32) (S : HS) : Prop := ((zin p0 0 9) = 0 → (P none S)) ∧ (¬ (zin p0 0 9) = 0 → (∃ b7 : Nat, hR S 210 x0 = some b7 ∧ (hK S b7 = 25 → (vp_in p0 (hN S b7) ∧ (∀ o10 : Option Nat, o10 = hB S b7 (Int32.toNatClampNeg p0) → (∀ b, o10 = some b → hK S b = 1) → (P o10 S))))))
set_option maxRecDepth 100000 in
set_option maxHeartbeats 4000000 in
theorem t_X9_accessorialAt {p : Program} {l : Launch} {e : Env} {s : State} {m : MethodId} {args : Array Value} {below : List Frame} {meth : Method} {c : Code} {D : va_G} {A : Nat → Prop} {T : Nat → ClassId} (C : GC p s m args meth c cX9_accessorialAt "FreightRater$Version" (ws_X9_accessorialAt) 2 D A (zty T)) (E : GE A s) (hr : meth.sig.returnType = (some (.object "FreightRater$Accessorial"))) (P : Option Nat → HS → Prop) : ∀ (x0 : Nat) (p0 : Int32) (S0 S : HS) (L : List Nat), S0 = S → wt S → hL S L → (hK S x0 = 10) → wp_X9_accessorialAt P x0 p0 S → GW p l e { rm_X9_accessorialAt with cells := 0, slots := 0 } s m args below meth c D A 2 0 0 (MQ below (va_Qq (fun v (u : HS × List Nat) => (P v u.1 ∧ ∀ b, v = some b → hK u.1 b = 1) ∧ CO S0 u) (CE D T A) A) args s 0 0 A) (CW T S L) 0 0 0 [(0, .ref x0), (1, .int p0)] [] := by
  have hW : ∀ {w : Cond}, w ∈ W0 → w.before args s = true := fun h => C.2.2.2.2.1 _ (List.mem_cons_of_mem _ h)
  intro x0 p0 S0 S L hS0 hw hL hx0 h
  have he : ext S0 S := by rw [hS0]; exact ext_rf
  unfold wp_X9_accessorialAt at h
  refine g_iload_n C dX9_accessorialAt_0 rfl 1 rfl ?_
  refine g_iconst (v := 0) C dX9_accessorialAt_1 (by decide) ?_
  refine g_bipush (v := 9) C dX9_accessorialAt_2 (by decide) ?_
  refine gc_calliSN (host := "FreightRater") C E hw hL [.int p0, .int 0, .int 9] rfl (k_X10_isBetween l D T p0 0 9 S ) (w0_SN 3 E C.2.2.2.2.1 (by decide) kw_304 kw_1 kw_305 rfl rfl (by decide +kernel) ⟨Nat.le_of_ble_eq_true rfl, Nat.le_of_ble_eq_true rfl⟩) rfl (Nat.le_of_ble_eq_true rfl) (Nat.le_refl _) (Nat.le_refl _) (Nat.zero_le _) (Nat.zero_le _) dX9_accessorialAt_4 (fun v9 S9 L1 he9 hw9 hL9 hp => ?_)
  obtain ⟨hv9, hs9⟩ := hp
  replace hs9 := hs9.symm
  subst hs9
  replace hv9 := hv9.symm
  subst hv9
  have w4 := hL9
  refine g_if_eq (tgt := 19) C dX9_accessorialAt_7 (by decide) (fun z5 => ?_) (fun z5 => ?_)
  · replace h := h.1 z5
    refine g_null C dX9_accessorialAt_19 ?_
    exact gc_aret (v := none) (kd := 1) C (Or.inl ⟨_, rfl⟩) (fun b hb => by cases hb) hw w4 he hr dX9_accessorialAt_20 h
  · replace h := h.2 z5
    refine g_aload_n C dX9_accessorialAt_10 rfl 0 rfl ?_
    refine gc_getR C hw iwx_X9 w4 hx0 (by decide) (by decide) rfl 10 (by decide) (hW kw_435) rfl rfl rfl dX9_accessorialAt_11 (fun o6 eo6 ko6 => ?_)
    obtain ⟨b7, hb9, h⟩ := h
    have g8 : hK S b7 = 25 := ko6 b7 (eo6.trans hb9)
    replace h := h g8
    refine g_opt (eo6.trans hb9) ?_
    refine g_iload_n C dX9_accessorialAt_14 rfl 1 rfl ?_
    obtain ⟨g9, h⟩ := h
    refine gc_aald C hw w4 g8 (by decide) rfl g9 dX9_accessorialAt_15 (fun o10 eo10 ko10 => ?_)
    replace h := h o10 eo10 ko10
    refine g_goto (tgt := 20) C dX9_accessorialAt_16 (by decide) ?_
    exact gc_aret (v := o10) (kd := 1) C (Or.inl ⟨_, rfl⟩) ko10 hw w4 he hr dX9_accessorialAt_20 h
theorem c_X9_accessorialAt (l : Launch) (D : va_G) (T : Nat → ClassId) (x0 : Nat) (p0 : Int32) (S : HS) (hx0 : hK S x0 = 10) (P : Option Nat → HS → Prop) (h : wp_X9_accessorialAt P x0 p0 S) : CMq l yX9_accessorialAt (ws_X9_accessorialAt) rm_X9_accessorialAt D T [.ref x0, .int p0] S 0 0 1 P := gc_metq (by decide) rfl rfl (Nat.le_of_ble_eq_true rfl) (fun p e s m args below meth c A L C E hnm hr hw hL => t_X9_accessorialAt C E   hr P x0 p0 S S L rfl hw hL hx0 h)
def wb_X9_findZone_7 (rec : Nat → Int32 → Int32 → HS → Prop) (P : Int32 → HS → Prop) (x0 : Nat) (x1 : Int32) (x2 : Int32) (S : HS) : Prop := (x2 < 0 → (P 0 S)) ∧ (¬ x2 < 0 → (∃ b4 : Nat, hR S 202 x0 = some b4 ∧ (hK S b4 = 22 → (vp_in x2 (hN S b4) ∧ (∃ b8 : Nat, hR S 203 x0 = some b8 ∧ (hK S b8 = 22 → (vp_in x2 (hN S b8) ∧ (((zin x1 (hA S b4 (Int32.toNatClampNeg x2)) (hA S b8 (Int32.toNatClampNeg x2))) = 0 → (∀ v16 : Int32, v16 = x2 + (-1) → (rec x0 x1 v16 S))) ∧ (¬ (zin x1 (hA S b4 (Int32.toNatClampNeg x2)) (hA S b8 (Int32.toNatClampNeg x2))) = 0 → (∃ b18 : Nat, hR S 204 x0 = some b18 ∧ (hK S b18 = 22 → (vp_in x2 (hN S b18) ∧ (P (hA S b18 (Int32.toNatClampNeg x2)) S)))))))))))))
def wp_X9_findZone_7 (P : Int32 → HS → Prop) : Nat → Nat → Int32 → Int32 → HS → Prop
  | 0 => fun _ _ _ _ => False
  | n + 1 => fun x0 x1 x2 S => wb_X9_findZone_7 (wp_X9_findZone_7  P n)  P x0 x1 x2 S
set_option maxRecDepth 100000 in
set_option maxHeartbeats 4000000 in
theorem t_X9_findZone_7 {p : Program} {l : Launch} {e : Env} {s : State} {m : MethodId} {args : Array Value} {below : List Frame} {meth : Method} {c : Code} {D : va_G} {A : Nat → Prop} {T : Nat → ClassId} (C : GC p s m args meth c cX9_findZone "FreightRater$Version" (ws_X9_findZone) 3 D A (zty T)) (E : GE A s) (hr : meth.sig.returnType = (some .int)) (S0 : HS) (P : Int32 → HS → Prop) : ∀ (n : Nat) (x0 : Nat) (x1 : Int32) (x2 : Int32) (S : HS) (L : List Nat), wt S → hL S L → ext S0 S → (hK S x0 = 10) → wp_X9_findZone_7  P n x0 x1 x2 S → GW p l e { rm_X9_findZone with cells := 0, slots := 0 } s m args below meth c D A 3 0 0 (MQ below (va_Qi (fun v (u : HS × List Nat) => P v u.1 ∧ CO S0 u) (CE D T A) A) args s 0 0 A) (CW T S L) 0 0 7 [(0, .ref x0), (1, .int x1), (2, .int x2)] [] := by
  have hW : ∀ {w : Cond}, w ∈ W0 → w.before args s = true := fun h => C.2.2.2.2.1 _ (List.mem_cons_of_mem _ h)
  intro n
  induction n with
  | zero => intro x0 x1 x2 S L hw hL he hx0 h; exact h.elim
  | succ n ih =>
    intro x0 x1 x2 S L hw hL he hx0 h
    replace h : wb_X9_findZone_7 (wp_X9_findZone_7  P n)  P x0 x1 x2 S := h
    unfold wb_X9_findZone_7 at h
    refine g_iload_n C dX9_findZone_7 rfl 2 rfl ?_
    refine g_if_lt (tgt := 43) C dX9_findZone_8 (by decide) (fun z2 => ?_) (fun z2 => ?_)
    · replace h := h.1 z2
      refine g_iconst (v := 0) C dX9_findZone_43 (by decide) ?_
      exact gc_iret C hw hL he hr dX9_findZone_44 h
    · replace h := h.2 z2
      refine g_iload_n C dX9_findZone_11 rfl 1 rfl ?_
      refine g_aload_n C dX9_findZone_12 rfl 0 rfl ?_
      refine gc_getR C hw iwx_X9 hL hx0 (by decide) (by decide) rfl 2 (by decide) (hW kw_419) rfl rfl rfl dX9_findZone_13 (fun o3 eo3 ko3 => ?_)
      obtain ⟨b4, hb9, h⟩ := h
      have g5 : hK S b4 = 22 := ko3 b4 (eo3.trans hb9)
      replace h := h g5
      refine g_opt (eo3.trans hb9) ?_
      refine g_iload_n C dX9_findZone_16 rfl 2 rfl ?_
      obtain ⟨g6, h⟩ := h
      refine gc_iald C hL g5 g6 dX9_findZone_17 ?_
      refine g_aload_n C dX9_findZone_18 rfl 0 rfl ?_
      refine gc_getR C hw iwx_X9 hL hx0 (by decide) (by decide) rfl 3 (by decide) (hW kw_420) rfl rfl rfl dX9_findZone_19 (fun o7 eo7 ko7 => ?_)
      obtain ⟨b8, hb9, h⟩ := h
      have g9 : hK S b8 = 22 := ko7 b8 (eo7.trans hb9)
      replace h := h g9
      refine g_opt (eo7.trans hb9) ?_
      refine g_iload_n C dX9_findZone_22 rfl 2 rfl ?_
      obtain ⟨g10, h⟩ := h
      refine gc_iald C hL g9 g10 dX9_findZone_23 ?_
      refine gc_calliSN (host := "FreightRater") C E hw hL [.int x1, .int (hA S b4 (Int32.toNatClampNeg x2)), .int (hA S b8 (Int32.toNatClampNeg x2))] rfl (k_X10_isBetween l D T x1 (hA S b4 (Int32.toNatClampNeg x2)) (hA S b8 (Int32.toNatClampNeg x2)) S ) (w0_SN 3 E C.2.2.2.2.1 (by decide) kw_304 kw_1 kw_305 rfl rfl (by decide +kernel) ⟨Nat.le_of_ble_eq_true rfl, Nat.le_of_ble_eq_true rfl⟩) rfl (Nat.le_of_ble_eq_true rfl) (Nat.le_refl _) (Nat.le_refl _) (Nat.zero_le _) (Nat.zero_le _) dX9_findZone_24 (fun v9 S9 L11 he9 hw9 hL9 hp => ?_)
      obtain ⟨hv9, hs9⟩ := hp
      replace hs9 := hs9.symm
      subst hs9
      replace hv9 := hv9.symm
      subst hv9
      have w14 := hL9
      refine g_if_eq (tgt := 37) C dX9_findZone_27 (by decide) (fun z15 => ?_) (fun z15 => ?_)
      · replace h := h.1 z15
        obtain ⟨v16, ev16⟩ : ∃ y : Int32, y = x2 + (-1) := ⟨_, rfl⟩
        replace h := h v16 ev16
        refine g_iinc (v := v16) (lv' := [(2, .int v16), (0, .ref x0), (1, .int x1)]) C dX9_findZone_37 (j := 2) rfl (by rw [ev16]; rfl) (by decide) rfl ?_
        refine g_goto (tgt := 7) C dX9_findZone_40 (by decide) ?_
        refine g_locals [1, 2, 0] rfl ?_
        exact ih x0 x1 v16 S L11 hw w14 he hx0 h
      · replace h := h.2 z15
        refine g_aload_n C dX9_findZone_30 rfl 0 rfl ?_
        refine gc_getR C hw iwx_X9 w14 hx0 (by decide) (by decide) rfl 4 (by decide) (hW kw_421) rfl rfl rfl dX9_findZone_31 (fun o17 eo17 ko17 => ?_)
        obtain ⟨b18, hb9, h⟩ := h
        have g19 : hK S b18 = 22 := ko17 b18 (eo17.trans hb9)
        replace h := h g19
        refine g_opt (eo17.trans hb9) ?_
        refine g_iload_n C dX9_findZone_34 rfl 2 rfl ?_
        obtain ⟨g20, h⟩ := h
        refine gc_iald C w14 g19 g20 dX9_findZone_35 ?_
        exact gc_iret C hw w14 he hr dX9_findZone_36 h
def wp_X9_findZone (P : Int32 → HS → Prop) (x0 : Nat) (p0 : Int32) (S : HS) : Prop := ∀ v1 : Int32, v1 = ((hI S 201 x0) - 1) → (∃ k21 : Nat, wp_X9_findZone_7  P k21 x0 p0 v1 S)
set_option maxRecDepth 100000 in
set_option maxHeartbeats 4000000 in
theorem t_X9_findZone {p : Program} {l : Launch} {e : Env} {s : State} {m : MethodId} {args : Array Value} {below : List Frame} {meth : Method} {c : Code} {D : va_G} {A : Nat → Prop} {T : Nat → ClassId} (C : GC p s m args meth c cX9_findZone "FreightRater$Version" (ws_X9_findZone) 3 D A (zty T)) (E : GE A s) (hr : meth.sig.returnType = (some .int)) (P : Int32 → HS → Prop) : ∀ (x0 : Nat) (p0 : Int32) (S0 S : HS) (L : List Nat), S0 = S → wt S → hL S L → (hK S x0 = 10) → wp_X9_findZone P x0 p0 S → GW p l e { rm_X9_findZone with cells := 0, slots := 0 } s m args below meth c D A 3 0 0 (MQ below (va_Qi (fun v (u : HS × List Nat) => P v u.1 ∧ CO S0 u) (CE D T A) A) args s 0 0 A) (CW T S L) 0 0 0 [(0, .ref x0), (1, .int p0)] [] := by
  have hW : ∀ {w : Cond}, w ∈ W0 → w.before args s = true := fun h => C.2.2.2.2.1 _ (List.mem_cons_of_mem _ h)
  intro x0 p0 S0 S L hS0 hw hL hx0 h
  have he : ext S0 S := by rw [hS0]; exact ext_rf
  unfold wp_X9_findZone at h
  refine g_aload_n C dX9_findZone_0 rfl 0 rfl ?_
  refine gc_getI C iwx_X9 hL hx0 (by decide) (by decide) rfl 1 (by decide) (hW kw_417) rfl rfl rfl dX9_findZone_1 ?_
  refine g_iconst (v := 1) C dX9_findZone_4 (by decide) ?_
  refine g_isub C dX9_findZone_5 ?_
  refine g_topi (fun v1 ev1 => ?_)
  replace h := h v1 ev1
  refine g_istore_n (lv' := [(2, .int v1), (0, .ref x0), (1, .int p0)]) C dX9_findZone_6 rfl (by decide) rfl ?_
  refine g_locals [1, 2, 0] rfl ?_
  obtain ⟨k21, h⟩ := h
  refine t_X9_findZone_7 C E hr S0  P  k21 x0 p0 v1 S L hw hL he hx0 h
theorem c_X9_findZone (l : Launch) (D : va_G) (T : Nat → ClassId) (x0 : Nat) (p0 : Int32) (S : HS) (hx0 : hK S x0 = 10) (P : Int32 → HS → Prop) (h : wp_X9_findZone P x0 p0 S) : CMi l yX9_findZone (ws_X9_findZone) rm_X9_findZone D T [.ref x0, .int p0] S 0 0 P := gc_meti (by decide) rfl rfl (Nat.le_of_ble_eq_true rfl) (fun p e s m args below meth c A L C E hnm hr hw hL => t_X9_findZone C E   hr P x0 p0 S S L rfl hw hL hx0 h)
def wp_X10_isRoute (P : Int32 → HS → Prop) (p0 : Int32) (p1 : Int32) (S : HS) : Prop := ((zin p0 0 999) = 0 → (P 0 S)) ∧ (¬ (zin p0 0 999) = 0 → (((zin p1 0 999) = 0 → (P 0 S)) ∧ (¬ (zin p1 0 999) = 0 → (P 1 S))))
set_option maxRecDepth 100000 in
set_option maxHeartbeats 4000000 in
theorem t_X10_isRoute {p : Program} {l : Launch} {e : Env} {s : State} {m : MethodId} {args : Array Value} {below : List Frame} {meth : Method} {c : Code} {D : va_G} {A : Nat → Prop} {T : Nat → ClassId} (C : GC p s m args meth c cX10_isRoute "FreightRater" (ws_X10_isRoute) 2 D A (zty T)) (E : GE A s) (hr : meth.sig.returnType = (some .boolean)) (P : Int32 → HS → Prop) : ∀ (p0 : Int32) (p1 : Int32) (S0 S : HS) (L : List Nat), S0 = S → wt S → hL S L → wp_X10_isRoute P p0 p1 S → GW p l e { rm_X10_isRoute with cells := 0, slots := 0 } s m args below meth c D A 2 0 0 (MQ below (va_Qi (fun v (u : HS × List Nat) => P v u.1 ∧ CO S0 u) (CE D T A) A) args s 0 0 A) (CW T S L) 0 0 0 [(0, .int p0), (1, .int p1)] [] := by
  have hW : ∀ {w : Cond}, w ∈ W0 → w.before args s = true := fun h => C.2.2.2.2.1 _ (List.mem_cons_of_mem _ h)
  intro p0 p1 S0 S L hS0 hw hL  h
  have he : ext S0 S := by rw [hS0]; exact ext_rf
  unfold wp_X10_isRoute at h
  refine g_iload_n C dX10_isRoute_0 rfl 0 rfl ?_
  refine g_iconst (v := 0) C dX10_isRoute_1 (by decide) ?_
  refine g_sipush (v := 999) C dX10_isRoute_2 (by decide) ?_
  refine gc_calliS (host := "") C E hw hL [.int p0, .int 0, .int 999] rfl (k_X10_isBetween l D T p0 0 999 S ) (w0_S 3 C.2.2.2.2.1 kw_303 kw_304 kw_1 kw_305 rfl rfl (by decide +kernel) ⟨Nat.le_of_ble_eq_true rfl, Nat.le_of_ble_eq_true rfl⟩) rfl (Nat.le_of_ble_eq_true rfl) (Nat.le_refl _) (Nat.le_refl _) (Nat.zero_le _) (Nat.zero_le _) dX10_isRoute_5 (fun v9 S9 L1 he9 hw9 hL9 hp => ?_)
  obtain ⟨hv9, hs9⟩ := hp
  replace hs9 := hs9.symm
  subst hs9
  replace hv9 := hv9.symm
  subst hv9
  have w4 := hL9
  refine g_if_eq (tgt := 26) C dX10_isRoute_8 (by decide) (fun z5 => ?_) (fun z5 => ?_)
  · replace h := h.1 z5
    refine g_iconst (v := 0) C dX10_isRoute_26 (by decide) ?_
    exact gc_zret C vz0 hw w4 he hr dX10_isRoute_27 h
  · replace h := h.2 z5
    refine g_iload_n C dX10_isRoute_11 rfl 1 rfl ?_
    refine g_iconst (v := 0) C dX10_isRoute_12 (by decide) ?_
    refine g_sipush (v := 999) C dX10_isRoute_13 (by decide) ?_
    refine gc_calliS (host := "") C E hw w4 [.int p1, .int 0, .int 999] rfl (k_X10_isBetween l D T p1 0 999 S ) (w0_S 3 C.2.2.2.2.1 kw_303 kw_304 kw_1 kw_305 rfl rfl (by decide +kernel) ⟨Nat.le_of_ble_eq_true rfl, Nat.le_of_ble_eq_true rfl⟩) rfl (Nat.le_of_ble_eq_true rfl) (Nat.le_refl _) (Nat.le_refl _) (Nat.zero_le _) (Nat.zero_le _) dX10_isRoute_16 (fun v9 S9 L6 he9 hw9 hL9 hp => ?_)
    obtain ⟨hv9, hs9⟩ := hp
    replace hs9 := hs9.symm
    subst hs9
    replace hv9 := hv9.symm
    subst hv9
    have w9 := hL9
    refine g_if_eq (tgt := 26) C dX10_isRoute_19 (by decide) (fun z10 => ?_) (fun z10 => ?_)
    · replace h := h.1 z10
      refine g_iconst (v := 0) C dX10_isRoute_26 (by decide) ?_
      exact gc_zret C vz0 hw w9 he hr dX10_isRoute_27 h
    · replace h := h.2 z10
      refine g_iconst (v := 1) C dX10_isRoute_22 (by decide) ?_
      refine g_goto (tgt := 27) C dX10_isRoute_23 (by decide) ?_
      exact gc_zret C vz1 hw w9 he hr dX10_isRoute_27 h
theorem c_X10_isRoute (l : Launch) (D : va_G) (T : Nat → ClassId) (p0 : Int32) (p1 : Int32) (S : HS)  (P : Int32 → HS → Prop) (h : wp_X10_isRoute P p0 p1 S) : CMi l yX10_isRoute (ws_X10_isRoute) rm_X10_isRoute D T [.int p0, .int p1] S 0 0 P := gc_meti (by decide) rfl rfl (Nat.le_of_ble_eq_true rfl) (fun p e s m args below meth c A L C E hnm hr hw hL => t_X10_isRoute C E   hr P p0 p1 S S L rfl hw hL  h)
def wp_X10_isSide (P : Int32 → HS → Prop) (p0 : Int32) (S : HS) : Prop := vz (zin p0 1 200) ∧ P (zin p0 1 200) S
set_option maxRecDepth 100000 in
set_option maxHeartbeats 4000000 in
theorem t_X10_isSide {p : Program} {l : Launch} {e : Env} {s : State} {m : MethodId} {args : Array Value} {below : List Frame} {meth : Method} {c : Code} {D : va_G} {A : Nat → Prop} {T : Nat → ClassId} (C : GC p s m args meth c cX10_isSide "FreightRater" (ws_X10_isSide) 1 D A (zty T)) (E : GE A s) (hr : meth.sig.returnType = (some .boolean)) (P : Int32 → HS → Prop) : ∀ (p0 : Int32) (S0 S : HS) (L : List Nat), S0 = S → wt S → hL S L → wp_X10_isSide P p0 S → GW p l e { rm_X10_isSide with cells := 0, slots := 0 } s m args below meth c D A 1 0 0 (MQ below (va_Qi (fun v (u : HS × List Nat) => P v u.1 ∧ CO S0 u) (CE D T A) A) args s 0 0 A) (CW T S L) 0 0 0 [(0, .int p0)] [] := by
  have hW : ∀ {w : Cond}, w ∈ W0 → w.before args s = true := fun h => C.2.2.2.2.1 _ (List.mem_cons_of_mem _ h)
  intro p0 S0 S L hS0 hw hL  h
  have he : ext S0 S := by rw [hS0]; exact ext_rf
  unfold wp_X10_isSide at h
  refine g_iload_n C dX10_isSide_0 rfl 0 rfl ?_
  refine g_iconst (v := 1) C dX10_isSide_1 (by decide) ?_
  refine g_sipush (v := 200) C dX10_isSide_2 (by decide) ?_
  refine gc_calliS (host := "") C E hw hL [.int p0, .int 1, .int 200] rfl (k_X10_isBetween l D T p0 1 200 S ) (w0_S 3 C.2.2.2.2.1 kw_303 kw_304 kw_1 kw_305 rfl rfl (by decide +kernel) ⟨Nat.le_of_ble_eq_true rfl, Nat.le_of_ble_eq_true rfl⟩) rfl (Nat.le_of_ble_eq_true rfl) (Nat.le_refl _) (Nat.le_refl _) (Nat.zero_le _) (Nat.zero_le _) dX10_isSide_5 (fun v9 S9 L1 he9 hw9 hL9 hp => ?_)
  obtain ⟨hv9, hs9⟩ := hp
  replace hs9 := hs9.symm
  subst hs9
  replace hv9 := hv9.symm
  subst hv9
  have w4 := hL9
  exact gc_zret C h.1 hw w4 he hr dX10_isSide_8 h.2
theorem c_X10_isSide (l : Launch) (D : va_G) (T : Nat → ClassId) (p0 : Int32) (S : HS)  (P : Int32 → HS → Prop) (h : wp_X10_isSide P p0 S) : CMi l yX10_isSide (ws_X10_isSide) rm_X10_isSide D T [.int p0] S 0 0 P := gc_meti (by decide) rfl rfl (Nat.le_of_ble_eq_true rfl) (fun p e s m args below meth c A L C E hnm hr hw hL => t_X10_isSide C E   hr P p0 S S L rfl hw hL  h)
end S_CW
