section S_C1B
abbrev ws_X5_isPosted : List Cond := Cond.code yX5_isPosted cX5_isPosted 1 (some .boolean) :: W0
abbrev rm_X5_isPosted : Room := ({ frames := 0, cells := 0, slots := 0, locals := 0 } : Room)
def wp_X5_isPosted (P : Int32 → HS → Prop) (x0 : Nat) (S : HS) : Prop := ((hI S 128 x0) = (-1) → (P 0 S)) ∧ (¬ (hI S 128 x0) = (-1) → (P 1 S))
set_option maxRecDepth 100000 in
set_option maxHeartbeats 4000000 in
theorem t_X5_isPosted {p : Program} {l : Launch} {e : Env} {s : State} {m : MethodId} {args : Array Value} {below : List Frame} {meth : Method} {c : Code} {D : va_G} {A : Nat → Prop} {T : Nat → ClassId} (C : GC p s m args meth c cX5_isPosted "FreightRater$Shipment" (ws_X5_isPosted) 1 D A (zty T)) (E : GE T A s) (hr : meth.sig.returnType = (some .boolean)) (P : Int32 → HS → Prop) : ∀ (x0 : Nat) (S0 S : HS) (L : List Nat), S0 = S → wt S → hL S L → (hK S x0 = 6) → wp_X5_isPosted P x0 S → GW p l e { rm_X5_isPosted with cells := 0, slots := 0 } s m args below meth c D A 1 0 0 (MQ below (va_Qi (fun v (u : HS × List Nat) => P v u.1 ∧ CO S0 u) (CE D T A) A) args s 0 0 A) (CW T S L) 0 0 0 [(0, .ref x0)] [] := by
  have hW : ∀ {w : Cond}, w ∈ W0 → w.before args s = true := fun h => C.2.2.2.2.1 _ (List.mem_cons_of_mem _ h)
  intro x0 S0 S L hS0 hw hL hx0 h
  have he : ext S0 S := by rw [hS0]; exact ext_rf
  unfold wp_X5_isPosted at h
  refine g_aload_n C dX5_isPosted_0 rfl 0 rfl ?_
  refine gc_getI C iwx_X5 hL hx0 (by decide) (by decide) rfl 8 (by decide) (hW kw_1101) rfl rfl rfl dX5_isPosted_1 ?_
  refine g_iconst (v := -1) C dX5_isPosted_4 (by decide) ?_
  refine g_icmp_eq (tgt := 12) C dX5_isPosted_5 (by decide) (fun z1 => ?_) (fun z1 => ?_)
  · replace h := h.1 z1
    refine g_iconst (v := 0) C dX5_isPosted_12 (by decide) ?_
    exact gc_zret C vz0 hw hL he hr dX5_isPosted_13 h
  · replace h := h.2 z1
    refine g_iconst (v := 1) C dX5_isPosted_8 (by decide) ?_
    refine g_goto (tgt := 13) C dX5_isPosted_9 (by decide) ?_
    exact gc_zret C vz1 hw hL he hr dX5_isPosted_13 h
theorem c_X5_isPosted (l : Launch) (D : va_G) (T : Nat → ClassId) (x0 : Nat) (S : HS) (hx0 : hK S x0 = 6) (P : Int32 → HS → Prop) (h : wp_X5_isPosted P x0 S) : CMi l yX5_isPosted (ws_X5_isPosted) rm_X5_isPosted D T [.ref x0] S 0 0 P := gc_meti (by decide) rfl rfl (Nat.le_of_ble_eq_true rfl) (fun p e s m args below meth c A L C E hnm hr hw hL => t_X5_isPosted C E   hr P x0 S S L rfl hw hL hx0 h)
theorem k_X5_isPosted (l : Launch) (D : va_G) (T : Nat → ClassId) (x0 : Nat) (S : HS) (e0 : (Nat → Prop)) (e1 : Nat → Int32) (e2 : Nat) (hx0 : hK S x0 = 6) (h : WF e1 ∧ e2 < 10 ∧ RelS S e0 x0 e1 e2) : CMi l yX5_isPosted (ws_X5_isPosted) rm_X5_isPosted D T [.ref x0] S 0 0 (fun v S1 => v = (psF e1 e2) ∧ S1 = S) := c_X5_isPosted l D T x0 S hx0 _ <|
  (by
    obtain ⟨hw, hs, hR⟩ := h
    have e8 : hI S 128 x0 = e1 (14 + 26 * e2 + 5) := hR.2.2.2.2.2.2.2.2.2.1
    unfold wp_X5_isPosted psF
    rw [e8]
    rcases (hw.s hs).2.2.2.1 with z9 | z9
    · rw [z9]
      exact ⟨fun _ => ⟨by rw [if_neg (by decide)], rfl⟩, fun w9 => absurd rfl w9⟩
    · refine ⟨fun w9 => ?_, fun _ => ⟨by rw [if_pos z9], rfl⟩⟩
      rw [w9] at z9; exact absurd z9 (by decide))
abbrev ws_X5_volume : List Cond := Cond.code yX5_volume cX5_volume 3 (some .int) :: W0
abbrev rm_X5_volume : Room := ({ frames := 0, cells := 0, slots := 0, locals := 0 } : Room)
def wb_X5_volume_4 (rec : Nat → Int32 → Int32 → HS → Prop) (P : Int32 → HS → Prop) (x0 : Nat) (x1 : Int32) (x2 : Int32) (S : HS) : Prop := ((hI S 124 x0) ≤ x2 → (P x1 S)) ∧ (¬ (hI S 124 x0) ≤ x2 → (∃ b3 : Nat, hR S 125 x0 = some b3 ∧ (hK S b3 = 22 → (vp_in x2 (hN S b3) ∧ (∀ v6 : Int32, v6 = (x1 + (hA S b3 (Int32.toNatClampNeg x2))) → (∀ v7 : Int32, v7 = x2 + 1 → (rec x0 v6 v7 S)))))))
def wp_X5_volume_4 (P : Int32 → HS → Prop) : Nat → Nat → Int32 → Int32 → HS → Prop
  | 0 => fun _ _ _ _ => False
  | n + 1 => fun x0 x1 x2 S => wb_X5_volume_4 (wp_X5_volume_4  P n)  P x0 x1 x2 S
set_option maxRecDepth 100000 in
set_option maxHeartbeats 4000000 in
theorem t_X5_volume_4 {p : Program} {l : Launch} {e : Env} {s : State} {m : MethodId} {args : Array Value} {below : List Frame} {meth : Method} {c : Code} {D : va_G} {A : Nat → Prop} {T : Nat → ClassId} (C : GC p s m args meth c cX5_volume "FreightRater$Shipment" (ws_X5_volume) 3 D A (zty T)) (E : GE T A s) (hr : meth.sig.returnType = (some .int)) (S0 : HS) (P : Int32 → HS → Prop) : ∀ (n : Nat) (x0 : Nat) (x1 : Int32) (x2 : Int32) (S : HS) (L : List Nat), wt S → hL S L → ext S0 S → (hK S x0 = 6) → wp_X5_volume_4  P n x0 x1 x2 S → GW p l e { rm_X5_volume with cells := 0, slots := 0 } s m args below meth c D A 3 0 0 (MQ below (va_Qi (fun v (u : HS × List Nat) => P v u.1 ∧ CO S0 u) (CE D T A) A) args s 0 0 A) (CW T S L) 0 0 4 [(0, .ref x0), (1, .int x1), (2, .int x2)] [] := by
  have hW : ∀ {w : Cond}, w ∈ W0 → w.before args s = true := fun h => C.2.2.2.2.1 _ (List.mem_cons_of_mem _ h)
  intro n
  induction n with
  | zero => intro x0 x1 x2 S L hw hL he hx0 h; exact h.elim
  | succ n ih =>
    intro x0 x1 x2 S L hw hL he hx0 h
    replace h : wb_X5_volume_4 (wp_X5_volume_4  P n)  P x0 x1 x2 S := h
    unfold wb_X5_volume_4 at h
    refine g_iload_n C dX5_volume_4 rfl 2 rfl ?_
    refine g_aload_n C dX5_volume_5 rfl 0 rfl ?_
    refine gc_getI C iwx_X5 hL hx0 (by decide) (by decide) rfl 4 (by decide) (hW kw_1091) rfl rfl rfl dX5_volume_6 ?_
    refine g_icmp_ge (tgt := 27) C dX5_volume_9 (by decide) (fun z1 => ?_) (fun z1 => ?_)
    · replace h := h.1 z1
      refine g_iload_n C dX5_volume_27 rfl 1 rfl ?_
      exact gc_iret C hw hL he hr dX5_volume_28 h
    · replace h := h.2 z1
      refine g_iload_n C dX5_volume_12 rfl 1 rfl ?_
      refine g_aload_n C dX5_volume_13 rfl 0 rfl ?_
      refine gc_getR C hw iwx_X5 hL hx0 (by decide) (by decide) rfl 5 (by decide) (hW kw_1094) rfl rfl rfl dX5_volume_14 (fun o2 eo2 ko2 => ?_)
      obtain ⟨b3, hb9, h⟩ := h
      have g4 : hK S b3 = 22 := ko2 b3 (eo2.trans hb9)
      replace h := h g4
      refine g_opt (eo2.trans hb9) ?_
      refine g_iload_n C dX5_volume_17 rfl 2 rfl ?_
      obtain ⟨g5, h⟩ := h
      refine gc_iald C hL g4 g5 dX5_volume_18 ?_
      refine g_iadd C dX5_volume_19 ?_
      refine g_topi (fun v6 ev6 => ?_)
      replace h := h v6 ev6
      refine g_istore_n (lv' := [(1, .int v6), (0, .ref x0), (2, .int x2)]) C dX5_volume_20 rfl (by decide) rfl ?_
      obtain ⟨v7, ev7⟩ : ∃ y : Int32, y = x2 + 1 := ⟨_, rfl⟩
      replace h := h v7 ev7
      refine g_iinc (v := v7) (lv' := [(2, .int v7), (1, .int v6), (0, .ref x0)]) C dX5_volume_21 (j := 2) rfl (by rw [ev7]; rfl) (by decide) rfl ?_
      refine g_goto (tgt := 4) C dX5_volume_24 (by decide) ?_
      refine g_locals [2, 1, 0] rfl ?_
      exact ih x0 v6 v7 S L hw hL he hx0 h
def wp_X5_volume (P : Int32 → HS → Prop) (x0 : Nat) (S : HS) : Prop := ∃ k8 : Nat, wp_X5_volume_4  P k8 x0 0 0 S
set_option maxRecDepth 100000 in
set_option maxHeartbeats 4000000 in
theorem t_X5_volume {p : Program} {l : Launch} {e : Env} {s : State} {m : MethodId} {args : Array Value} {below : List Frame} {meth : Method} {c : Code} {D : va_G} {A : Nat → Prop} {T : Nat → ClassId} (C : GC p s m args meth c cX5_volume "FreightRater$Shipment" (ws_X5_volume) 3 D A (zty T)) (E : GE T A s) (hr : meth.sig.returnType = (some .int)) (P : Int32 → HS → Prop) : ∀ (x0 : Nat) (S0 S : HS) (L : List Nat), S0 = S → wt S → hL S L → (hK S x0 = 6) → wp_X5_volume P x0 S → GW p l e { rm_X5_volume with cells := 0, slots := 0 } s m args below meth c D A 3 0 0 (MQ below (va_Qi (fun v (u : HS × List Nat) => P v u.1 ∧ CO S0 u) (CE D T A) A) args s 0 0 A) (CW T S L) 0 0 0 [(0, .ref x0)] [] := by
  have hW : ∀ {w : Cond}, w ∈ W0 → w.before args s = true := fun h => C.2.2.2.2.1 _ (List.mem_cons_of_mem _ h)
  intro x0 S0 S L hS0 hw hL hx0 h
  have he : ext S0 S := by rw [hS0]; exact ext_rf
  unfold wp_X5_volume at h
  refine g_iconst (v := 0) C dX5_volume_0 (by decide) ?_
  refine g_istore_n (lv' := [(1, .int 0), (0, .ref x0)]) C dX5_volume_1 rfl (by decide) rfl ?_
  refine g_iconst (v := 0) C dX5_volume_2 (by decide) ?_
  refine g_istore_n (lv' := [(2, .int 0), (1, .int 0), (0, .ref x0)]) C dX5_volume_3 rfl (by decide) rfl ?_
  refine g_locals [2, 1, 0] rfl ?_
  obtain ⟨k8, h⟩ := h
  refine t_X5_volume_4 C E hr S0  P  k8 x0 0 0 S L hw hL he hx0 h
theorem c_X5_volume (l : Launch) (D : va_G) (T : Nat → ClassId) (x0 : Nat) (S : HS) (hx0 : hK S x0 = 6) (P : Int32 → HS → Prop) (h : wp_X5_volume P x0 S) : CMi l yX5_volume (ws_X5_volume) rm_X5_volume D T [.ref x0] S 0 0 P := gc_meti (by decide) rfl rfl (Nat.le_of_ble_eq_true rfl) (fun p e s m args below meth c A L C E hnm hr hw hL => t_X5_volume C E   hr P x0 S S L rfl hw hL hx0 h)
theorem rl_vol {P : Int32 → HS → Prop} {S : HS} {M : Nat → Prop} {x s c : Nat} {μ : Nat → Int32} (hR : RelS S M x μ s) (hc : c ≤ 5) (ec : μ (14 + 26 * s + 4) = nI c) (hd : ∀ p : Nat, p < 5 → (volF μ s p + 1 - 1) / 1 = volF μ s p) : ∀ (k p fuel : Nat) (n : Int32), p + k = c → k < fuel → P (dimFold μ s 1 k p n) S → wp_X5_volume_4 P fuel x n (nI p) S := by
  obtain ⟨_, _, _, _, _, _, r4, _, _, _, b, rb, ⟨kb, nb, _⟩, hb⟩ := hR
  rw [ec] at r4 hb
  rw [show iv (nI c) = c from nI_clamp (by omega)] at hb
  intro k
  induction k with
  | zero =>
    intro p fuel n hp hf hP
    obtain ⟨f, rfl⟩ : ∃ f, fuel = f + 1 := ⟨fuel - 1, by omega⟩; rw [wp_X5_volume_4]; unfold wb_X5_volume_4; dsimp only
    rw [r4, nI_leI (by omega) (by omega)]
    exact ⟨fun _ => hP, fun z9 => absurd (by omega) z9⟩
  | succ k ih =>
    intro p fuel n hp hf hP
    rw [dimFold, hd p (by omega)] at hP
    obtain ⟨f, rfl⟩ : ∃ f, fuel = f + 1 := ⟨fuel - 1, by omega⟩; rw [wp_X5_volume_4]; unfold wb_X5_volume_4; dsimp only
    rw [r4, nI_leI (by omega) (by omega), nI_1]
    refine ⟨fun z9 => absurd z9 (by omega), fun _ => ⟨b, rb, fun _ => ?_⟩⟩
    rw [nb, nz_vp (by omega) (by decide), nI_clamp (n := p) (by omega), hb p (by omega)]
    refine ⟨by omega, fun v6 e6 v7 e7 => ?_⟩
    subst e6 e7
    exact ih (p + 1) f _ (by omega) (by omega) hP
theorem k_X5_volume (l : Launch) (D : va_G) (T : Nat → ClassId) (x0 : Nat) (S : HS) (e0 : (Nat → Prop)) (e1 : Nat → Int32) (e2 : Nat) (hx0 : hK S x0 = 6) (h : WF e1 ∧ e2 < 10 ∧ RelS S e0 x0 e1 e2) : CMi l yX5_volume (ws_X5_volume) rm_X5_volume D T [.ref x0] S 0 0 (fun v S1 => v = (dimF e1 e2 1) ∧ S1 = S) := c_X5_volume l D T x0 S hx0 _ <|
  (by
    obtain ⟨hw, hs, hR⟩ := h
    obtain ⟨c, hc, ec⟩ := hw.pcs hs
    unfold wp_X5_volume
    refine ⟨20, rl_vol hR hc ec (fun p hp => ?_) c 0 20 0 (by omega) (by omega) ⟨?_, rfl⟩⟩
    · obtain ⟨m, hm, em⟩ := volF_bn hw hs hp
      rw [em, nI_1, nI_p1 (by omega), show (1 : Int32) = nI 1 from rfl, pk_div (by omega) (by decide) (by decide), Nat.div_one, Nat.add_sub_cancel]
    · unfold dimF
      rw [ec, show iv (nI c) = c from nI_clamp (by omega)])
abbrev ws_X5_dimensionalWeight : List Cond := Cond.code yX5_dimensionalWeight cX5_dimensionalWeight 4 (some .int) :: W0
abbrev rm_X5_dimensionalWeight : Room := ({ frames := 0, cells := 0, slots := 0, locals := 0 } : Room)
def wb_X5_dimensionalWeight_11 (rec : Nat → Int32 → Int32 → Int32 → HS → Prop) (P : Int32 → HS → Prop) (x0 : Nat) (x1 : Int32) (x2 : Int32) (x3 : Int32) (S : HS) : Prop := ((hI S 124 x0) ≤ x3 → (P x2 S)) ∧ (¬ (hI S 124 x0) ≤ x3 → (∃ b4 : Nat, hR S 125 x0 = some b4 ∧ (hK S b4 = 22 → (vp_in x3 (hN S b4) ∧ (¬ x1 = 0 ∧ (∀ v8 : Int32, v8 = (x2 + ((((hA S b4 (Int32.toNatClampNeg x3)) + x1) - 1) / x1)) → (∀ v9 : Int32, v9 = x3 + 1 → (rec x0 x1 v8 v9 S))))))))
def wp_X5_dimensionalWeight_11 (P : Int32 → HS → Prop) : Nat → Nat → Int32 → Int32 → Int32 → HS → Prop
  | 0 => fun _ _ _ _ _ => False
  | n + 1 => fun x0 x1 x2 x3 S => wb_X5_dimensionalWeight_11 (wp_X5_dimensionalWeight_11  P n)  P x0 x1 x2 x3 S
set_option maxRecDepth 100000 in
set_option maxHeartbeats 4000000 in
theorem t_X5_dimensionalWeight_11 {p : Program} {l : Launch} {e : Env} {s : State} {m : MethodId} {args : Array Value} {below : List Frame} {meth : Method} {c : Code} {D : va_G} {A : Nat → Prop} {T : Nat → ClassId} (C : GC p s m args meth c cX5_dimensionalWeight "FreightRater$Shipment" (ws_X5_dimensionalWeight) 4 D A (zty T)) (E : GE T A s) (hr : meth.sig.returnType = (some .int)) (S0 : HS) (P : Int32 → HS → Prop) : ∀ (n : Nat) (x0 : Nat) (x1 : Int32) (x2 : Int32) (x3 : Int32) (S : HS) (L : List Nat), wt S → hL S L → ext S0 S → (hK S x0 = 6) → wp_X5_dimensionalWeight_11  P n x0 x1 x2 x3 S → GW p l e { rm_X5_dimensionalWeight with cells := 0, slots := 0 } s m args below meth c D A 4 0 0 (MQ below (va_Qi (fun v (u : HS × List Nat) => P v u.1 ∧ CO S0 u) (CE D T A) A) args s 0 0 A) (CW T S L) 0 0 11 [(0, .ref x0), (1, .int x1), (2, .int x2), (3, .int x3)] [] := by
  have hW : ∀ {w : Cond}, w ∈ W0 → w.before args s = true := fun h => C.2.2.2.2.1 _ (List.mem_cons_of_mem _ h)
  intro n
  induction n with
  | zero => intro x0 x1 x2 x3 S L hw hL he hx0 h; exact h.elim
  | succ n ih =>
    intro x0 x1 x2 x3 S L hw hL he hx0 h
    replace h : wb_X5_dimensionalWeight_11 (wp_X5_dimensionalWeight_11  P n)  P x0 x1 x2 x3 S := h
    unfold wb_X5_dimensionalWeight_11 at h
    refine g_iload_n C dX5_dimensionalWeight_11 rfl 3 rfl ?_
    refine g_aload_n C dX5_dimensionalWeight_12 rfl 0 rfl ?_
    refine gc_getI C iwx_X5 hL hx0 (by decide) (by decide) rfl 4 (by decide) (hW kw_1091) rfl rfl rfl dX5_dimensionalWeight_13 ?_
    refine g_icmp_ge (tgt := 40) C dX5_dimensionalWeight_16 (by decide) (fun z2 => ?_) (fun z2 => ?_)
    · replace h := h.1 z2
      refine g_iload_n C dX5_dimensionalWeight_40 rfl 2 rfl ?_
      exact gc_iret C hw hL he hr dX5_dimensionalWeight_41 h
    · replace h := h.2 z2
      refine g_iload_n C dX5_dimensionalWeight_19 rfl 2 rfl ?_
      refine g_aload_n C dX5_dimensionalWeight_20 rfl 0 rfl ?_
      refine gc_getR C hw iwx_X5 hL hx0 (by decide) (by decide) rfl 5 (by decide) (hW kw_1094) rfl rfl rfl dX5_dimensionalWeight_21 (fun o3 eo3 ko3 => ?_)
      obtain ⟨b4, hb9, h⟩ := h
      have g5 : hK S b4 = 22 := ko3 b4 (eo3.trans hb9)
      replace h := h g5
      refine g_opt (eo3.trans hb9) ?_
      refine g_iload_n C dX5_dimensionalWeight_24 rfl 3 rfl ?_
      obtain ⟨g6, h⟩ := h
      refine gc_iald C hL g5 g6 dX5_dimensionalWeight_25 ?_
      refine g_iload_n C dX5_dimensionalWeight_26 rfl 1 rfl ?_
      refine g_iadd C dX5_dimensionalWeight_27 ?_
      refine g_iconst (v := 1) C dX5_dimensionalWeight_28 (by decide) ?_
      refine g_isub C dX5_dimensionalWeight_29 ?_
      refine g_iload_n C dX5_dimensionalWeight_30 rfl 1 rfl ?_
      obtain ⟨g7, h⟩ := h
      refine g_idiv C dX5_dimensionalWeight_31 g7 ?_
      refine g_iadd C dX5_dimensionalWeight_32 ?_
      refine g_topi (fun v8 ev8 => ?_)
      replace h := h v8 ev8
      refine g_istore_n (lv' := [(2, .int v8), (0, .ref x0), (1, .int x1), (3, .int x3)]) C dX5_dimensionalWeight_33 rfl (by decide) rfl ?_
      obtain ⟨v9, ev9⟩ : ∃ y : Int32, y = x3 + 1 := ⟨_, rfl⟩
      replace h := h v9 ev9
      refine g_iinc (v := v9) (lv' := [(3, .int v9), (2, .int v8), (0, .ref x0), (1, .int x1)]) C dX5_dimensionalWeight_34 (j := 3) rfl (by rw [ev9]; rfl) (by decide) rfl ?_
      refine g_goto (tgt := 11) C dX5_dimensionalWeight_37 (by decide) ?_
      refine g_locals [2, 3, 1, 0] rfl ?_
      exact ih x0 x1 v8 v9 S L hw hL he hx0 h
def wp_X5_dimensionalWeight (P : Int32 → HS → Prop) (x0 : Nat) (p0 : Int32) (S : HS) : Prop := (1 ≤ p0 → (∃ k10 : Nat, wp_X5_dimensionalWeight_11  P k10 x0 p0 0 0 S)) ∧ (¬ 1 ≤ p0 → (P 0 S))
set_option maxRecDepth 100000 in
set_option maxHeartbeats 4000000 in
theorem t_X5_dimensionalWeight {p : Program} {l : Launch} {e : Env} {s : State} {m : MethodId} {args : Array Value} {below : List Frame} {meth : Method} {c : Code} {D : va_G} {A : Nat → Prop} {T : Nat → ClassId} (C : GC p s m args meth c cX5_dimensionalWeight "FreightRater$Shipment" (ws_X5_dimensionalWeight) 4 D A (zty T)) (E : GE T A s) (hr : meth.sig.returnType = (some .int)) (P : Int32 → HS → Prop) : ∀ (x0 : Nat) (p0 : Int32) (S0 S : HS) (L : List Nat), S0 = S → wt S → hL S L → (hK S x0 = 6) → wp_X5_dimensionalWeight P x0 p0 S → GW p l e { rm_X5_dimensionalWeight with cells := 0, slots := 0 } s m args below meth c D A 4 0 0 (MQ below (va_Qi (fun v (u : HS × List Nat) => P v u.1 ∧ CO S0 u) (CE D T A) A) args s 0 0 A) (CW T S L) 0 0 0 [(0, .ref x0), (1, .int p0)] [] := by
  have hW : ∀ {w : Cond}, w ∈ W0 → w.before args s = true := fun h => C.2.2.2.2.1 _ (List.mem_cons_of_mem _ h)
  intro x0 p0 S0 S L hS0 hw hL hx0 h
  have he : ext S0 S := by rw [hS0]; exact ext_rf
  unfold wp_X5_dimensionalWeight at h
  refine g_iload_n C dX5_dimensionalWeight_0 rfl 1 rfl ?_
  refine g_iconst (v := 1) C dX5_dimensionalWeight_1 (by decide) ?_
  refine g_icmp_ge (tgt := 7) C dX5_dimensionalWeight_2 (by decide) (fun z1 => ?_) (fun z1 => ?_)
  · replace h := h.1 z1
    refine g_iconst (v := 0) C dX5_dimensionalWeight_7 (by decide) ?_
    refine g_istore_n (lv' := [(2, .int 0), (0, .ref x0), (1, .int p0)]) C dX5_dimensionalWeight_8 rfl (by decide) rfl ?_
    refine g_iconst (v := 0) C dX5_dimensionalWeight_9 (by decide) ?_
    refine g_istore_n (lv' := [(3, .int 0), (2, .int 0), (0, .ref x0), (1, .int p0)]) C dX5_dimensionalWeight_10 rfl (by decide) rfl ?_
    refine g_locals [2, 3, 1, 0] rfl ?_
    obtain ⟨k10, h⟩ := h
    refine t_X5_dimensionalWeight_11 C E hr S0  P  k10 x0 p0 0 0 S L hw hL he hx0 h
  · replace h := h.2 z1
    refine g_iconst (v := 0) C dX5_dimensionalWeight_5 (by decide) ?_
    exact gc_iret C hw hL he hr dX5_dimensionalWeight_6 h
theorem c_X5_dimensionalWeight (l : Launch) (D : va_G) (T : Nat → ClassId) (x0 : Nat) (p0 : Int32) (S : HS) (hx0 : hK S x0 = 6) (P : Int32 → HS → Prop) (h : wp_X5_dimensionalWeight P x0 p0 S) : CMi l yX5_dimensionalWeight (ws_X5_dimensionalWeight) rm_X5_dimensionalWeight D T [.ref x0, .int p0] S 0 0 P := gc_meti (by decide) rfl rfl (Nat.le_of_ble_eq_true rfl) (fun p e s m args below meth c A L C E hnm hr hw hL => t_X5_dimensionalWeight C E   hr P x0 p0 S S L rfl hw hL hx0 h)
theorem rl_dim {P : Int32 → HS → Prop} {S : HS} {M : Nat → Prop} {x s c : Nat} {μ : Nat → Int32} {d : Int32} (hd : ¬ d = 0) (hR : RelS S M x μ s) (hc : c ≤ 5) (ec : μ (14 + 26 * s + 4) = nI c) : ∀ (k p fuel : Nat) (n : Int32), p + k = c → k < fuel → P (dimFold μ s d k p n) S → wp_X5_dimensionalWeight_11 P fuel x d n (nI p) S := by
  obtain ⟨_, _, _, _, _, _, r4, _, _, _, b, rb, ⟨kb, nb, _⟩, hb⟩ := hR
  rw [ec] at r4 hb
  rw [show iv (nI c) = c from nI_clamp (by omega)] at hb
  intro k
  induction k with
  | zero =>
    intro p fuel n hp hf hP
    obtain ⟨f, rfl⟩ : ∃ f, fuel = f + 1 := ⟨fuel - 1, by omega⟩; rw [wp_X5_dimensionalWeight_11]; unfold wb_X5_dimensionalWeight_11; dsimp only
    rw [r4, nI_leI (by omega) (by omega)]
    exact ⟨fun _ => hP, fun z9 => absurd (by omega) z9⟩
  | succ k ih =>
    intro p fuel n hp hf hP
    rw [dimFold] at hP
    obtain ⟨f, rfl⟩ : ∃ f, fuel = f + 1 := ⟨fuel - 1, by omega⟩; rw [wp_X5_dimensionalWeight_11]; unfold wb_X5_dimensionalWeight_11; dsimp only
    rw [r4, nI_leI (by omega) (by omega), nI_1]
    refine ⟨fun z9 => absurd z9 (by omega), fun _ => ⟨b, rb, fun _ => ?_⟩⟩
    rw [nb, nz_vp (by omega) (by decide), nI_clamp (n := p) (by omega), hb p (by omega)]
    refine ⟨by omega, hd, fun v6 e6 v7 e7 => ?_⟩
    subst e6 e7
    exact ih (p + 1) f _ (by omega) (by omega) hP
theorem k_X5_dimensionalWeight (l : Launch) (D : va_G) (T : Nat → ClassId) (x0 : Nat) (p0 : Int32) (S : HS) (e0 : (Nat → Prop)) (e1 : Nat → Int32) (e2 : Nat) (hx0 : hK S x0 = 6) (h : WF e1 ∧ e2 < 10 ∧ RelS S e0 x0 e1 e2 ∧ ∃ d : Nat, 1 ≤ d ∧ d ≤ 9999 ∧ p0 = nI d) : CMi l yX5_dimensionalWeight (ws_X5_dimensionalWeight) rm_X5_dimensionalWeight D T [.ref x0, .int p0] S 0 0 (fun v S1 => v = (dimF e1 e2 p0) ∧ S1 = S) := c_X5_dimensionalWeight l D T x0 p0 S hx0 _ <|
  (by
    obtain ⟨hw, hs, hR, d, hd1, hd2, rfl⟩ := h
    obtain ⟨c, hc, ec⟩ := hw.pcs hs
    unfold wp_X5_dimensionalWeight
    rw [nz_ge1 (by omega)]
    refine ⟨fun _ => ⟨20, rl_dim (fun z9 => by rw [nz_eq0 (by omega)] at z9; omega) hR hc ec c 0 20 0 (by omega) (by omega) ⟨?_, rfl⟩⟩, fun z9 => absurd (by omega) z9⟩
    unfold dimF
    rw [ec, show iv (nI c) = c from nI_clamp (by omega)])
abbrev ws_X9_findZone : List Cond := Cond.code yX9_findZone cX9_findZone 3 (some .int) :: W0
abbrev rm_X9_findZone : Room := ({ frames := 1, cells := 0, slots := 0, locals := 22 } : Room)
def wb_X9_findZone_7 (rec : Nat → Int32 → Int32 → HS → Prop) (P : Int32 → HS → Prop) (x0 : Nat) (x1 : Int32) (x2 : Int32) (S : HS) : Prop := (x2 < 0 → (P 0 S)) ∧ (¬ x2 < 0 → (∃ b4 : Nat, hR S 202 x0 = some b4 ∧ (hK S b4 = 22 → (vp_in x2 (hN S b4) ∧ (∃ b8 : Nat, hR S 203 x0 = some b8 ∧ (hK S b8 = 22 → (vp_in x2 (hN S b8) ∧ (((zin x1 (hA S b4 (Int32.toNatClampNeg x2)) (hA S b8 (Int32.toNatClampNeg x2))) = 0 → (∀ v16 : Int32, v16 = x2 + (-1) → (rec x0 x1 v16 S))) ∧ (¬ (zin x1 (hA S b4 (Int32.toNatClampNeg x2)) (hA S b8 (Int32.toNatClampNeg x2))) = 0 → (∃ b18 : Nat, hR S 204 x0 = some b18 ∧ (hK S b18 = 22 → (vp_in x2 (hN S b18) ∧ (P (hA S b18 (Int32.toNatClampNeg x2)) S)))))))))))))
def wp_X9_findZone_7 (P : Int32 → HS → Prop) : Nat → Nat → Int32 → Int32 → HS → Prop
  | 0 => fun _ _ _ _ => False
  | n + 1 => fun x0 x1 x2 S => wb_X9_findZone_7 (wp_X9_findZone_7  P n)  P x0 x1 x2 S
set_option maxRecDepth 100000 in
set_option maxHeartbeats 4000000 in
theorem t_X9_findZone_7 {p : Program} {l : Launch} {e : Env} {s : State} {m : MethodId} {args : Array Value} {below : List Frame} {meth : Method} {c : Code} {D : va_G} {A : Nat → Prop} {T : Nat → ClassId} (C : GC p s m args meth c cX9_findZone "FreightRater$Version" (ws_X9_findZone) 3 D A (zty T)) (E : GE T A s) (hr : meth.sig.returnType = (some .int)) (S0 : HS) (P : Int32 → HS → Prop) : ∀ (n : Nat) (x0 : Nat) (x1 : Int32) (x2 : Int32) (S : HS) (L : List Nat), wt S → hL S L → ext S0 S → (hK S x0 = 10) → wp_X9_findZone_7  P n x0 x1 x2 S → GW p l e { rm_X9_findZone with cells := 0, slots := 0 } s m args below meth c D A 3 0 0 (MQ below (va_Qi (fun v (u : HS × List Nat) => P v u.1 ∧ CO S0 u) (CE D T A) A) args s 0 0 A) (CW T S L) 0 0 7 [(0, .ref x0), (1, .int x1), (2, .int x2)] [] := by
  have hW : ∀ {w : Cond}, w ∈ W0 → w.before args s = true := fun h => C.2.2.2.2.1 _ (List.mem_cons_of_mem _ h)
  intro n
  induction n with
  | zero => intro x0 x1 x2 S L hw hL he hx0 h; exact h.elim
  | succ n ih =>
    intro x0 x1 x2 S L hw hL he hx0 h
    replace h : wb_X9_findZone_7 (wp_X9_findZone_7  P n)  P x0 x1 x2 S := h
    unfold wb_X9_findZone_7 at h
    refine g_iload_n C dX9_findZone_7 rfl 2 rfl ?_
    refine g_if_lt (tgt := 43) C dX9_findZone_8 (by decide) (fun z2 => ?_) (fun z2 => ?_)
    · replace h := h.1 z2
      refine g_iconst (v := 0) C dX9_findZone_43 (by decide) ?_
      exact gc_iret C hw hL he hr dX9_findZone_44 h
    · replace h := h.2 z2
      refine g_iload_n C dX9_findZone_11 rfl 1 rfl ?_
      refine g_aload_n C dX9_findZone_12 rfl 0 rfl ?_
      refine gc_getR C hw iwx_X9 hL hx0 (by decide) (by decide) rfl 2 (by decide) (hW kw_419) rfl rfl rfl dX9_findZone_13 (fun o3 eo3 ko3 => ?_)
      obtain ⟨b4, hb9, h⟩ := h
      have g5 : hK S b4 = 22 := ko3 b4 (eo3.trans hb9)
      replace h := h g5
      refine g_opt (eo3.trans hb9) ?_
      refine g_iload_n C dX9_findZone_16 rfl 2 rfl ?_
      obtain ⟨g6, h⟩ := h
      refine gc_iald C hL g5 g6 dX9_findZone_17 ?_
      refine g_aload_n C dX9_findZone_18 rfl 0 rfl ?_
      refine gc_getR C hw iwx_X9 hL hx0 (by decide) (by decide) rfl 3 (by decide) (hW kw_420) rfl rfl rfl dX9_findZone_19 (fun o7 eo7 ko7 => ?_)
      obtain ⟨b8, hb9, h⟩ := h
      have g9 : hK S b8 = 22 := ko7 b8 (eo7.trans hb9)
      replace h := h g9
      refine g_opt (eo7.trans hb9) ?_
      refine g_iload_n C dX9_findZone_22 rfl 2 rfl ?_
      obtain ⟨g10, h⟩ := h
      refine gc_iald C hL g9 g10 dX9_findZone_23 ?_
      refine gc_calliSN (host := "FreightRater") C E hw hL [.int x1, .int (hA S b4 (Int32.toNatClampNeg x2)), .int (hA S b8 (Int32.toNatClampNeg x2))] rfl (k_X10_isBetween l D T x1 (hA S b4 (Int32.toNatClampNeg x2)) (hA S b8 (Int32.toNatClampNeg x2)) S ) (w0_SN 3 E C.2.2.2.2.1 (by decide) kw_304 kw_1 kw_305 rfl rfl (by decide +kernel) ⟨Nat.le_of_ble_eq_true rfl, Nat.le_of_ble_eq_true rfl⟩) rfl (Nat.le_of_ble_eq_true rfl) (Nat.le_refl _) (Nat.le_refl _) (Nat.zero_le _) (Nat.zero_le _) dX9_findZone_24 (fun v9 S9 L11 he9 hw9 hL9 hp => ?_)
      obtain ⟨hv9, hs9⟩ := hp
      replace hs9 := hs9.symm
      subst hs9
      replace hv9 := hv9.symm
      subst hv9
      have w14 := hL9
      refine g_if_eq (tgt := 37) C dX9_findZone_27 (by decide) (fun z15 => ?_) (fun z15 => ?_)
      · replace h := h.1 z15
        obtain ⟨v16, ev16⟩ : ∃ y : Int32, y = x2 + (-1) := ⟨_, rfl⟩
        replace h := h v16 ev16
        refine g_iinc (v := v16) (lv' := [(2, .int v16), (0, .ref x0), (1, .int x1)]) C dX9_findZone_37 (j := 2) rfl (by rw [ev16]; rfl) (by decide) rfl ?_
        refine g_goto (tgt := 7) C dX9_findZone_40 (by decide) ?_
        refine g_locals [1, 2, 0] rfl ?_
        exact ih x0 x1 v16 S L11 hw w14 he hx0 h
      · replace h := h.2 z15
        refine g_aload_n C dX9_findZone_30 rfl 0 rfl ?_
        refine gc_getR C hw iwx_X9 w14 hx0 (by decide) (by decide) rfl 4 (by decide) (hW kw_421) rfl rfl rfl dX9_findZone_31 (fun o17 eo17 ko17 => ?_)
        obtain ⟨b18, hb9, h⟩ := h
        have g19 : hK S b18 = 22 := ko17 b18 (eo17.trans hb9)
        replace h := h g19
        refine g_opt (eo17.trans hb9) ?_
        refine g_iload_n C dX9_findZone_34 rfl 2 rfl ?_
        obtain ⟨g20, h⟩ := h
        refine gc_iald C w14 g19 g20 dX9_findZone_35 ?_
        exact gc_iret C hw w14 he hr dX9_findZone_36 h
def wp_X9_findZone (P : Int32 → HS → Prop) (x0 : Nat) (p0 : Int32) (S : HS) : Prop := ∀ v1 : Int32, v1 = ((hI S 201 x0) - 1) → (∃ k21 : Nat, wp_X9_findZone_7  P k21 x0 p0 v1 S)
set_option maxRecDepth 100000 in
set_option maxHeartbeats 4000000 in
theorem t_X9_findZone {p : Program} {l : Launch} {e : Env} {s : State} {m : MethodId} {args : Array Value} {below : List Frame} {meth : Method} {c : Code} {D : va_G} {A : Nat → Prop} {T : Nat → ClassId} (C : GC p s m args meth c cX9_findZone "FreightRater$Version" (ws_X9_findZone) 3 D A (zty T)) (E : GE T A s) (hr : meth.sig.returnType = (some .int)) (P : Int32 → HS → Prop) : ∀ (x0 : Nat) (p0 : Int32) (S0 S : HS) (L : List Nat), S0 = S → wt S → hL S L → (hK S x0 = 10) → wp_X9_findZone P x0 p0 S → GW p l e { rm_X9_findZone with cells := 0, slots := 0 } s m args below meth c D A 3 0 0 (MQ below (va_Qi (fun v (u : HS × List Nat) => P v u.1 ∧ CO S0 u) (CE D T A) A) args s 0 0 A) (CW T S L) 0 0 0 [(0, .ref x0), (1, .int p0)] [] := by
  have hW : ∀ {w : Cond}, w ∈ W0 → w.before args s = true := fun h => C.2.2.2.2.1 _ (List.mem_cons_of_mem _ h)
  intro x0 p0 S0 S L hS0 hw hL hx0 h
  have he : ext S0 S := by rw [hS0]; exact ext_rf
  unfold wp_X9_findZone at h
  refine g_aload_n C dX9_findZone_0 rfl 0 rfl ?_
  refine gc_getI C iwx_X9 hL hx0 (by decide) (by decide) rfl 1 (by decide) (hW kw_417) rfl rfl rfl dX9_findZone_1 ?_
  refine g_iconst (v := 1) C dX9_findZone_4 (by decide) ?_
  refine g_isub C dX9_findZone_5 ?_
  refine g_topi (fun v1 ev1 => ?_)
  replace h := h v1 ev1
  refine g_istore_n (lv' := [(2, .int v1), (0, .ref x0), (1, .int p0)]) C dX9_findZone_6 rfl (by decide) rfl ?_
  refine g_locals [1, 2, 0] rfl ?_
  obtain ⟨k21, h⟩ := h
  refine t_X9_findZone_7 C E hr S0  P  k21 x0 p0 v1 S L hw hL he hx0 h
theorem c_X9_findZone (l : Launch) (D : va_G) (T : Nat → ClassId) (x0 : Nat) (p0 : Int32) (S : HS) (hx0 : hK S x0 = 10) (P : Int32 → HS → Prop) (h : wp_X9_findZone P x0 p0 S) : CMi l yX9_findZone (ws_X9_findZone) rm_X9_findZone D T [.ref x0, .int p0] S 0 0 P := gc_meti (by decide) rfl rfl (Nat.le_of_ble_eq_true rfl) (fun p e s m args below meth c A L C E hnm hr hw hL => t_X9_findZone C E   hr P x0 p0 S S L rfl hw hL hx0 h)
/-- the reference looks for the zone from below, the class from above -/
theorem z_up {μ : Nat → Int32} {v : Nat} {p : Int32} : ∀ (k i : Nat) (z : Int32), zFold μ v p (k + 1) i z = (if zin p (μ (274 + 510 * v + 2 + 3 * (i + k))) (μ (274 + 510 * v + 2 + 3 * (i + k) + 1)) = 0 then zFold μ v p k i z else μ (274 + 510 * v + 2 + 3 * (i + k) + 2)) := by
  intro k
  induction k with
  | zero => intro i z; rw [zFold]; rfl
  | succ k ih =>
    intro i z
    rw [zFold, ih (i + 1), zFold, show i + 1 + k = i + (k + 1) by omega]
theorem rl_fz {P : Int32 → HS → Prop} {S : HS} {M : Nat → Prop} {x v c : Nat} {μ : Nat → Int32} {p : Int32} (hR : RelV S M x μ v) (hc : c ≤ 12) (ec : μ (274 + 510 * v + 1) = nI c) : ∀ (k fuel : Nat), k ≤ c → k < fuel → P (zFold μ v p k 0 0) S → wp_X9_findZone_7 P fuel x p (nI k - 1) S := by
  obtain ⟨_, ⟨fa, t, z, rf_, rt, rz, ⟨kf, nf, _⟩, ⟨kt, nt, _⟩, ⟨kz, nz, _⟩, hh⟩, _, _⟩ := hR
  rw [ec, show iv (nI c) = c from nI_clamp (by omega)] at hh
  intro k
  induction k with
  | zero =>
    intro fuel hk hf hP
    obtain ⟨f, rfl⟩ : ∃ f, fuel = f + 1 := ⟨fuel - 1, by omega⟩; rw [wp_X9_findZone_7]; unfold wb_X9_findZone_7; dsimp only
    exact ⟨fun _ => hP, fun z9 => absurd (by decide) z9⟩
  | succ k ih =>
    intro fuel hk hf hP
    rw [z_up, Nat.zero_add] at hP
    obtain ⟨g1, g2, g3⟩ := hh k (by omega)
    obtain ⟨f, rfl⟩ : ∃ f, fuel = f + 1 := ⟨fuel - 1, by omega⟩; rw [wp_X9_findZone_7]; unfold wb_X9_findZone_7; dsimp only
    rw [show nI (k + 1) - 1 = nI k from by rw [nI_p1 (by omega)]; rfl, nz_lt0 (by omega), nI_clamp (n := k) (by omega)]
    refine ⟨fun z9 => absurd z9 (by decide), fun _ => ⟨fa, rf_, fun _ => ?_⟩⟩
    rw [nf, nz_vp (by omega) (by decide)]
    refine ⟨by omega, t, rt, fun _ => ?_⟩
    rw [nt, nz_vp (by omega) (by decide), g1, g2]
    refine ⟨by omega, fun c9 v16 e16 => ?_, fun c9 => ⟨z, rz, fun _ => ?_⟩⟩
    · rw [if_pos c9] at hP
      rw [e16, ← Int32.sub_eq_add_neg]
      exact ih f (by omega) (by omega) hP
    · rw [if_neg c9] at hP
      rw [nz, nz_vp (by omega) (by decide), g3]
      exact ⟨by omega, hP⟩
theorem k_X9_findZone (l : Launch) (D : va_G) (T : Nat → ClassId) (x0 : Nat) (p0 : Int32) (S : HS) (e0 : (Nat → Prop)) (e1 : Nat → Int32) (e2 : Nat) (hx0 : hK S x0 = 10) (h : WF e1 ∧ e2 < 6 ∧ RelV S e0 x0 e1 e2) : CMi l yX9_findZone (ws_X9_findZone) rm_X9_findZone D T [.ref x0, .int p0] S 0 0 (fun v S1 => v = (zIn e1 e2 p0) ∧ S1 = S) := c_X9_findZone l D T x0 p0 S hx0 _ <|
  (by
    obtain ⟨hw, hv, hR⟩ := h
    obtain ⟨c, hc, ec⟩ := hw.rng hv
    unfold wp_X9_findZone
    intro v1 e1'
    rw [hR.1.2.2.2.1, ec] at e1'
    subst e1'
    refine ⟨20, rl_fz hR hc ec c 20 (Nat.le_refl _) (by omega) ⟨?_, rfl⟩⟩
    unfold zIn
    rw [ec, show iv (nI c) = c from nI_clamp (by omega)])
abbrev ws_X9_countBreaks : List Cond := Cond.code yX9_countBreaks cX9_countBreaks 3 (some .int) :: W0
abbrev rm_X9_countBreaks : Room := ({ frames := 0, cells := 0, slots := 0, locals := 0 } : Room)
def wb_X9_countBreaks_4 (rec : Nat → Int32 → Int32 → HS → Prop) (P : Int32 → HS → Prop) (x0 : Nat) (x1 : Int32) (x2 : Int32) (S : HS) : Prop := (9 ≤ x2 → (P x1 S)) ∧ (¬ 9 ≤ x2 → (∃ b3 : Nat, hR S 205 x0 = some b3 ∧ (hK S b3 = 26 → (vp_in x2 (hN S b3) ∧ (∀ o6 : Option Nat, o6 = hB S b3 (Int32.toNatClampNeg x2) → (∀ b, o6 = some b → hK S b = 5) → (∃ b7 : Nat, o6 = some b7 ∧ (hK S b7 = 5 → (∀ v9 : Int32, v9 = (x1 + (hI S 100 b7)) → (∀ v10 : Int32, v10 = x2 + 1 → (rec x0 v9 v10 S))))))))))
def wp_X9_countBreaks_4 (P : Int32 → HS → Prop) : Nat → Nat → Int32 → Int32 → HS → Prop
  | 0 => fun _ _ _ _ => False
  | n + 1 => fun x0 x1 x2 S => wb_X9_countBreaks_4 (wp_X9_countBreaks_4  P n)  P x0 x1 x2 S
set_option maxRecDepth 100000 in
set_option maxHeartbeats 4000000 in
theorem t_X9_countBreaks_4 {p : Program} {l : Launch} {e : Env} {s : State} {m : MethodId} {args : Array Value} {below : List Frame} {meth : Method} {c : Code} {D : va_G} {A : Nat → Prop} {T : Nat → ClassId} (C : GC p s m args meth c cX9_countBreaks "FreightRater$Version" (ws_X9_countBreaks) 3 D A (zty T)) (E : GE T A s) (hr : meth.sig.returnType = (some .int)) (S0 : HS) (P : Int32 → HS → Prop) : ∀ (n : Nat) (x0 : Nat) (x1 : Int32) (x2 : Int32) (S : HS) (L : List Nat), wt S → hL S L → ext S0 S → (hK S x0 = 10) → wp_X9_countBreaks_4  P n x0 x1 x2 S → GW p l e { rm_X9_countBreaks with cells := 0, slots := 0 } s m args below meth c D A 3 0 0 (MQ below (va_Qi (fun v (u : HS × List Nat) => P v u.1 ∧ CO S0 u) (CE D T A) A) args s 0 0 A) (CW T S L) 0 0 4 [(0, .ref x0), (1, .int x1), (2, .int x2)] [] := by
  have hW : ∀ {w : Cond}, w ∈ W0 → w.before args s = true := fun h => C.2.2.2.2.1 _ (List.mem_cons_of_mem _ h)
  intro n
  induction n with
  | zero => intro x0 x1 x2 S L hw hL he hx0 h; exact h.elim
  | succ n ih =>
    intro x0 x1 x2 S L hw hL he hx0 h
    replace h : wb_X9_countBreaks_4 (wp_X9_countBreaks_4  P n)  P x0 x1 x2 S := h
    unfold wb_X9_countBreaks_4 at h
    refine g_iload_n C dX9_countBreaks_4 rfl 2 rfl ?_
    refine g_bipush (v := 9) C dX9_countBreaks_5 (by decide) ?_
    refine g_icmp_ge (tgt := 28) C dX9_countBreaks_7 (by decide) (fun z1 => ?_) (fun z1 => ?_)
    · replace h := h.1 z1
      refine g_iload_n C dX9_countBreaks_28 rfl 1 rfl ?_
      exact gc_iret C hw hL he hr dX9_countBreaks_29 h
    · replace h := h.2 z1
      refine g_iload_n C dX9_countBreaks_10 rfl 1 rfl ?_
      refine g_aload_n C dX9_countBreaks_11 rfl 0 rfl ?_
      refine gc_getR C hw iwx_X9 hL hx0 (by decide) (by decide) rfl 5 (by decide) (hW kw_422) rfl rfl rfl dX9_countBreaks_12 (fun o2 eo2 ko2 => ?_)
      obtain ⟨b3, hb9, h⟩ := h
      have g4 : hK S b3 = 26 := ko2 b3 (eo2.trans hb9)
      replace h := h g4
      refine g_opt (eo2.trans hb9) ?_
      refine g_iload_n C dX9_countBreaks_15 rfl 2 rfl ?_
      obtain ⟨g5, h⟩ := h
      refine gc_aald C hw hL g4 (by decide) rfl g5 dX9_countBreaks_16 (fun o6 eo6 ko6 => ?_)
      replace h := h o6 eo6 ko6
      obtain ⟨b7, rfl, h⟩ := h
      have g8 : hK S b7 = 5 := ko6 b7 rfl
      replace h := h g8
      refine gc_getI C iwx_X4 hL g8 (by decide) (by decide) rfl 0 (by decide) (hW kw_394) rfl rfl rfl dX9_countBreaks_17 ?_
      refine g_iadd C dX9_countBreaks_20 ?_
      refine g_topi (fun v9 ev9 => ?_)
      replace h := h v9 ev9
      refine g_istore_n (lv' := [(1, .int v9), (0, .ref x0), (2, .int x2)]) C dX9_countBreaks_21 rfl (by decide) rfl ?_
      obtain ⟨v10, ev10⟩ : ∃ y : Int32, y = x2 + 1 := ⟨_, rfl⟩
      replace h := h v10 ev10
      refine g_iinc (v := v10) (lv' := [(2, .int v10), (1, .int v9), (0, .ref x0)]) C dX9_countBreaks_22 (j := 2) rfl (by rw [ev10]; rfl) (by decide) rfl ?_
      refine g_goto (tgt := 4) C dX9_countBreaks_25 (by decide) ?_
      refine g_locals [2, 1, 0] rfl ?_
      exact ih x0 v9 v10 S L hw hL he hx0 h
def wp_X9_countBreaks (P : Int32 → HS → Prop) (x0 : Nat) (S : HS) : Prop := ∃ k11 : Nat, wp_X9_countBreaks_4  P k11 x0 0 0 S
set_option maxRecDepth 100000 in
set_option maxHeartbeats 4000000 in
theorem t_X9_countBreaks {p : Program} {l : Launch} {e : Env} {s : State} {m : MethodId} {args : Array Value} {below : List Frame} {meth : Method} {c : Code} {D : va_G} {A : Nat → Prop} {T : Nat → ClassId} (C : GC p s m args meth c cX9_countBreaks "FreightRater$Version" (ws_X9_countBreaks) 3 D A (zty T)) (E : GE T A s) (hr : meth.sig.returnType = (some .int)) (P : Int32 → HS → Prop) : ∀ (x0 : Nat) (S0 S : HS) (L : List Nat), S0 = S → wt S → hL S L → (hK S x0 = 10) → wp_X9_countBreaks P x0 S → GW p l e { rm_X9_countBreaks with cells := 0, slots := 0 } s m args below meth c D A 3 0 0 (MQ below (va_Qi (fun v (u : HS × List Nat) => P v u.1 ∧ CO S0 u) (CE D T A) A) args s 0 0 A) (CW T S L) 0 0 0 [(0, .ref x0)] [] := by
  have hW : ∀ {w : Cond}, w ∈ W0 → w.before args s = true := fun h => C.2.2.2.2.1 _ (List.mem_cons_of_mem _ h)
  intro x0 S0 S L hS0 hw hL hx0 h
  have he : ext S0 S := by rw [hS0]; exact ext_rf
  unfold wp_X9_countBreaks at h
  refine g_iconst (v := 0) C dX9_countBreaks_0 (by decide) ?_
  refine g_istore_n (lv' := [(1, .int 0), (0, .ref x0)]) C dX9_countBreaks_1 rfl (by decide) rfl ?_
  refine g_iconst (v := 0) C dX9_countBreaks_2 (by decide) ?_
  refine g_istore_n (lv' := [(2, .int 0), (1, .int 0), (0, .ref x0)]) C dX9_countBreaks_3 rfl (by decide) rfl ?_
  refine g_locals [2, 1, 0] rfl ?_
  obtain ⟨k11, h⟩ := h
  refine t_X9_countBreaks_4 C E hr S0  P  k11 x0 0 0 S L hw hL he hx0 h
theorem c_X9_countBreaks (l : Launch) (D : va_G) (T : Nat → ClassId) (x0 : Nat) (S : HS) (hx0 : hK S x0 = 10) (P : Int32 → HS → Prop) (h : wp_X9_countBreaks P x0 S) : CMi l yX9_countBreaks (ws_X9_countBreaks) rm_X9_countBreaks D T [.ref x0] S 0 0 P := gc_meti (by decide) rfl rfl (Nat.le_of_ble_eq_true rfl) (fun p e s m args below meth c A L C E hnm hr hw hL => t_X9_countBreaks C E   hr P x0 S S L rfl hw hL hx0 h)
theorem rl_cb {P : Int32 → HS → Prop} {S : HS} {M : Nat → Prop} {x v : Nat} {μ : Nat → Int32} (hR : RelV S M x μ v) : ∀ (k z fuel : Nat) (n : Int32), z + k = 9 → k < fuel → P (aBrFold μ v k z n) S → wp_X9_countBreaks_4 P fuel x n (nI z) S := by
  obtain ⟨_, _, ⟨sc, rsc, ⟨ksc, nsc, _⟩, hh⟩, _⟩ := hR
  intro k
  induction k with
  | zero =>
    intro z fuel n hz hf hP
    obtain ⟨f, rfl⟩ : ∃ f, fuel = f + 1 := ⟨fuel - 1, by omega⟩; rw [wp_X9_countBreaks_4]; unfold wb_X9_countBreaks_4; dsimp only
    refine ⟨fun _ => hP, fun z9 => absurd ((nI_leI (a := 9) (by decide) (by omega)).mpr (by omega)) z9⟩
  | succ k ih =>
    intro z fuel n hz hf hP
    obtain ⟨y, hy, hS⟩ := hh z (by omega)
    have r1 : hI S 100 y = μ (274 + 510 * v + 38 + z) := hS.2.2.1
    rw [aBrFold] at hP
    obtain ⟨f, rfl⟩ : ∃ f, fuel = f + 1 := ⟨fuel - 1, by omega⟩; rw [wp_X9_countBreaks_4]; unfold wb_X9_countBreaks_4; dsimp only
    rw [nI_1]
    refine ⟨fun z9 => absurd ((nI_leI (a := 9) (by decide) (by omega)).mp z9) (by omega), fun _ => ⟨sc, rsc, fun _ => ?_⟩⟩
    rw [nsc, nz_vp (by omega) (by decide), nI_clamp (n := z) (by omega), hy]
    refine ⟨by omega, fun o6 e6 _ => ⟨y, e6, fun _ v9 e9 v10 e10 => ?_⟩⟩
    rw [r1] at e9
    subst e9 e10
    exact ih (z + 1) f _ (by omega) (by omega) hP
theorem k_X9_countBreaks (l : Launch) (D : va_G) (T : Nat → ClassId) (x0 : Nat) (S : HS) (e0 : (Nat → Prop)) (e1 : Nat → Int32) (e2 : Nat) (hx0 : hK S x0 = 10) (h : WF e1 ∧ e2 < 6 ∧ RelV S e0 x0 e1 e2) : CMi l yX9_countBreaks (ws_X9_countBreaks) rm_X9_countBreaks D T [.ref x0] S 0 0 (fun v S1 => v = (aBr e1 e2) ∧ S1 = S) := c_X9_countBreaks l D T x0 S hx0 _ <|
  (by
    obtain ⟨hw, hv, hR⟩ := h
    unfold wp_X9_countBreaks
    exact ⟨20, rl_cb hR 9 0 20 0 (by omega) (by omega) ⟨rfl, rfl⟩⟩)
abbrev ws_X9_accessorialSet : List Cond := Cond.code yX9_accessorialSet cX9_accessorialSet 3 (some .int) :: W0
abbrev rm_X9_accessorialSet : Room := ({ frames := 0, cells := 0, slots := 0, locals := 0 } : Room)
def wb_X9_accessorialSet_4 (rec : Nat → Int32 → Int32 → HS → Prop) (P : Int32 → HS → Prop) (x0 : Nat) (x1 : Int32) (x2 : Int32) (S : HS) : Prop := (10 ≤ x2 → (P x1 S)) ∧ (¬ 10 ≤ x2 → (∃ b3 : Nat, hR S 210 x0 = some b3 ∧ (hK S b3 = 25 → (vp_in x2 (hN S b3) ∧ (∀ o6 : Option Nat, o6 = hB S b3 (Int32.toNatClampNeg x2) → (∀ b, o6 = some b → hK S b = 1) → ((o6 = none → (∀ v9 : Int32, v9 = x2 + 1 → (rec x0 x1 v9 S))) ∧ (∀ b7 : Nat, o6 = some b7 → hK S b7 = 1 → (∀ v10 : Int32, v10 = (x1 ||| ((1 : Int32) <<< (x2 &&& 31))) → (∀ v11 : Int32, v11 = x2 + 1 → (rec x0 v10 v11 S))))))))))
def wp_X9_accessorialSet_4 (P : Int32 → HS → Prop) : Nat → Nat → Int32 → Int32 → HS → Prop
  | 0 => fun _ _ _ _ => False
  | n + 1 => fun x0 x1 x2 S => wb_X9_accessorialSet_4 (wp_X9_accessorialSet_4  P n)  P x0 x1 x2 S
set_option maxRecDepth 100000 in
set_option maxHeartbeats 4000000 in
theorem t_X9_accessorialSet_4 {p : Program} {l : Launch} {e : Env} {s : State} {m : MethodId} {args : Array Value} {below : List Frame} {meth : Method} {c : Code} {D : va_G} {A : Nat → Prop} {T : Nat → ClassId} (C : GC p s m args meth c cX9_accessorialSet "FreightRater$Version" (ws_X9_accessorialSet) 3 D A (zty T)) (E : GE T A s) (hr : meth.sig.returnType = (some .int)) (S0 : HS) (P : Int32 → HS → Prop) : ∀ (n : Nat) (x0 : Nat) (x1 : Int32) (x2 : Int32) (S : HS) (L : List Nat), wt S → hL S L → ext S0 S → (hK S x0 = 10) → wp_X9_accessorialSet_4  P n x0 x1 x2 S → GW p l e { rm_X9_accessorialSet with cells := 0, slots := 0 } s m args below meth c D A 3 0 0 (MQ below (va_Qi (fun v (u : HS × List Nat) => P v u.1 ∧ CO S0 u) (CE D T A) A) args s 0 0 A) (CW T S L) 0 0 4 [(0, .ref x0), (1, .int x1), (2, .int x2)] [] := by
  have hW : ∀ {w : Cond}, w ∈ W0 → w.before args s = true := fun h => C.2.2.2.2.1 _ (List.mem_cons_of_mem _ h)
  intro n
  induction n with
  | zero => intro x0 x1 x2 S L hw hL he hx0 h; exact h.elim
  | succ n ih =>
    intro x0 x1 x2 S L hw hL he hx0 h
    replace h : wb_X9_accessorialSet_4 (wp_X9_accessorialSet_4  P n)  P x0 x1 x2 S := h
    unfold wb_X9_accessorialSet_4 at h
    refine g_iload_n C dX9_accessorialSet_4 rfl 2 rfl ?_
    refine g_bipush (v := 10) C dX9_accessorialSet_5 (by decide) ?_
    refine g_icmp_ge (tgt := 31) C dX9_accessorialSet_7 (by decide) (fun z1 => ?_) (fun z1 => ?_)
    · replace h := h.1 z1
      refine g_iload_n C dX9_accessorialSet_31 rfl 1 rfl ?_
      exact gc_iret C hw hL he hr dX9_accessorialSet_32 h
    · replace h := h.2 z1
      refine g_aload_n C dX9_accessorialSet_10 rfl 0 rfl ?_
      refine gc_getR C hw iwx_X9 hL hx0 (by decide) (by decide) rfl 10 (by decide) (hW kw_435) rfl rfl rfl dX9_accessorialSet_11 (fun o2 eo2 ko2 => ?_)
      obtain ⟨b3, hb9, h⟩ := h
      have g4 : hK S b3 = 25 := ko2 b3 (eo2.trans hb9)
      replace h := h g4
      refine g_opt (eo2.trans hb9) ?_
      refine g_iload_n C dX9_accessorialSet_14 rfl 2 rfl ?_
      obtain ⟨g5, h⟩ := h
      refine gc_aald C hw hL g4 (by decide) rfl g5 dX9_accessorialSet_15 (fun o6 eo6 ko6 => ?_)
      replace h := h o6 eo6 ko6
      rcases o6 with _ | b7
      · replace h := h.1 rfl
        refine g_ifnullN (tgt := 25) C dX9_accessorialSet_16 (by decide) ?_
        obtain ⟨v9, ev9⟩ : ∃ y : Int32, y = x2 + 1 := ⟨_, rfl⟩
        replace h := h v9 ev9
        refine g_iinc (v := v9) (lv' := [(2, .int v9), (0, .ref x0), (1, .int x1)]) C dX9_accessorialSet_25 (j := 2) rfl (by rw [ev9]; rfl) (by decide) rfl ?_
        refine g_goto (tgt := 4) C dX9_accessorialSet_28 (by decide) ?_
        refine g_locals [1, 2, 0] rfl ?_
        exact ih x0 x1 v9 S L hw hL he hx0 h
      · have g8 : hK S b7 = 1 := ko6 b7 rfl
        replace h := h.2 b7 rfl g8
        refine g_ifnull C dX9_accessorialSet_16 ?_
        refine g_iload_n C dX9_accessorialSet_19 rfl 1 rfl ?_
        refine g_iconst (v := 1) C dX9_accessorialSet_20 (by decide) ?_
        refine g_iload_n C dX9_accessorialSet_21 rfl 2 rfl ?_
        refine g_ishl C dX9_accessorialSet_22 ?_
        refine g_ior C dX9_accessorialSet_23 ?_
        refine g_topi (fun v10 ev10 => ?_)
        replace h := h v10 ev10
        refine g_istore_n (lv' := [(1, .int v10), (0, .ref x0), (2, .int x2)]) C dX9_accessorialSet_24 rfl (by decide) rfl ?_
        obtain ⟨v11, ev11⟩ : ∃ y : Int32, y = x2 + 1 := ⟨_, rfl⟩
        replace h := h v11 ev11
        refine g_iinc (v := v11) (lv' := [(2, .int v11), (1, .int v10), (0, .ref x0)]) C dX9_accessorialSet_25 (j := 2) rfl (by rw [ev11]; rfl) (by decide) rfl ?_
        refine g_goto (tgt := 4) C dX9_accessorialSet_28 (by decide) ?_
        refine g_locals [2, 1, 0] rfl ?_
        exact ih x0 v10 v11 S L hw hL he hx0 h
def wp_X9_accessorialSet (P : Int32 → HS → Prop) (x0 : Nat) (S : HS) : Prop := ∃ k12 : Nat, wp_X9_accessorialSet_4  P k12 x0 0 0 S
set_option maxRecDepth 100000 in
set_option maxHeartbeats 4000000 in
theorem t_X9_accessorialSet {p : Program} {l : Launch} {e : Env} {s : State} {m : MethodId} {args : Array Value} {below : List Frame} {meth : Method} {c : Code} {D : va_G} {A : Nat → Prop} {T : Nat → ClassId} (C : GC p s m args meth c cX9_accessorialSet "FreightRater$Version" (ws_X9_accessorialSet) 3 D A (zty T)) (E : GE T A s) (hr : meth.sig.returnType = (some .int)) (P : Int32 → HS → Prop) : ∀ (x0 : Nat) (S0 S : HS) (L : List Nat), S0 = S → wt S → hL S L → (hK S x0 = 10) → wp_X9_accessorialSet P x0 S → GW p l e { rm_X9_accessorialSet with cells := 0, slots := 0 } s m args below meth c D A 3 0 0 (MQ below (va_Qi (fun v (u : HS × List Nat) => P v u.1 ∧ CO S0 u) (CE D T A) A) args s 0 0 A) (CW T S L) 0 0 0 [(0, .ref x0)] [] := by
  have hW : ∀ {w : Cond}, w ∈ W0 → w.before args s = true := fun h => C.2.2.2.2.1 _ (List.mem_cons_of_mem _ h)
  intro x0 S0 S L hS0 hw hL hx0 h
  have he : ext S0 S := by rw [hS0]; exact ext_rf
  unfold wp_X9_accessorialSet at h
  refine g_iconst (v := 0) C dX9_accessorialSet_0 (by decide) ?_
  refine g_istore_n (lv' := [(1, .int 0), (0, .ref x0)]) C dX9_accessorialSet_1 rfl (by decide) rfl ?_
  refine g_iconst (v := 0) C dX9_accessorialSet_2 (by decide) ?_
  refine g_istore_n (lv' := [(2, .int 0), (1, .int 0), (0, .ref x0)]) C dX9_accessorialSet_3 rfl (by decide) rfl ?_
  refine g_locals [2, 1, 0] rfl ?_
  obtain ⟨k12, h⟩ := h
  refine t_X9_accessorialSet_4 C E hr S0  P  k12 x0 0 0 S L hw hL he hx0 h
theorem c_X9_accessorialSet (l : Launch) (D : va_G) (T : Nat → ClassId) (x0 : Nat) (S : HS) (hx0 : hK S x0 = 10) (P : Int32 → HS → Prop) (h : wp_X9_accessorialSet P x0 S) : CMi l yX9_accessorialSet (ws_X9_accessorialSet) rm_X9_accessorialSet D T [.ref x0] S 0 0 P := gc_meti (by decide) rfl rfl (Nat.le_of_ble_eq_true rfl) (fun p e s m args below meth c A L C E hnm hr hw hL => t_X9_accessorialSet C E   hr P x0 S S L rfl hw hL hx0 h)
theorem rl_as {P : Int32 → HS → Prop} {S : HS} {M : Nat → Prop} {x v : Nat} {μ : Nat → Int32} (hR : RelV S M x μ v) : ∀ (k a fuel : Nat) (n : Int32), a + k = 10 → k < fuel → P (eFold μ v k a n) S → wp_X9_accessorialSet_4 P fuel x n (nI a) S := by
  obtain ⟨_, _, _, ⟨ac, rac, ⟨kac, nac, _⟩, hh⟩⟩ := hR
  intro k
  induction k with
  | zero =>
    intro a fuel n ha hf hP
    obtain ⟨f, rfl⟩ : ∃ f, fuel = f + 1 := ⟨fuel - 1, by omega⟩; rw [wp_X9_accessorialSet_4]; unfold wb_X9_accessorialSet_4; dsimp only
    refine ⟨fun _ => hP, fun z9 => absurd ((nI_leI (a := 10) (by decide) (by omega)).mpr (by omega)) z9⟩
  | succ k ih =>
    intro a fuel n ha hf hP
    rw [eFold] at hP
    obtain ⟨f, rfl⟩ : ∃ f, fuel = f + 1 := ⟨fuel - 1, by omega⟩; rw [wp_X9_accessorialSet_4]; unfold wb_X9_accessorialSet_4; dsimp only
    rw [nI_1]
    refine ⟨fun z9 => absurd ((nI_leI (a := 10) (by decide) (by omega)).mp z9) (by omega), fun _ => ⟨ac, rac, fun _ => ?_⟩⟩
    rw [nac, nz_vp (by omega) (by decide), nI_clamp (n := a) (by omega)]
    refine ⟨by omega, fun o6 e6 _ => ⟨fun c9 v9 e9 => ?_, fun b7 c9 _ v10 e10 v11 e11 => ?_⟩⟩
    · subst e9
      rcases hh a (by omega) with ⟨h0, _⟩ | ⟨_, y, hy, _⟩
      · rw [if_neg (by rw [h0]; decide), Int32.or_zero] at hP
        exact ih (a + 1) f n (by omega) (by omega) hP
      · rw [hy] at e6; rw [e6] at c9; cases c9
    · subst e11
      rcases hh a (by omega) with ⟨_, hn⟩ | ⟨h1, _⟩
      · rw [hn] at e6; rw [e6] at c9; cases c9
      · rw [if_pos h1] at hP
        rw [e10]
        exact ih (a + 1) f _ (by omega) (by omega) hP
theorem k_X9_accessorialSet (l : Launch) (D : va_G) (T : Nat → ClassId) (x0 : Nat) (S : HS) (e0 : (Nat → Prop)) (e1 : Nat → Int32) (e2 : Nat) (hx0 : hK S x0 = 10) (h : WF e1 ∧ e2 < 6 ∧ RelV S e0 x0 e1 e2) : CMi l yX9_accessorialSet (ws_X9_accessorialSet) rm_X9_accessorialSet D T [.ref x0] S 0 0 (fun v S1 => v = (eSet e1 e2) ∧ S1 = S) := c_X9_accessorialSet l D T x0 S hx0 _ <|
  (by
    obtain ⟨hw, hv, hR⟩ := h
    unfold wp_X9_accessorialSet
    exact ⟨20, rl_as hR 10 0 20 0 (by omega) (by omega) ⟨rfl, rfl⟩⟩)
abbrev ws_X9_scaleOf : List Cond := Cond.code yX9_scaleOf cX9_scaleOf 2 (some (.object "FreightRater$Scale")) :: W0
abbrev rm_X9_scaleOf : Room := ({ frames := 1, cells := 0, slots := 0, locals := 22 } : Room)
def wp_X9_scaleOf (P : Option Nat → HS → Prop) (x0 : Nat) (p0 : Int32) (S : HS) : Prop := ((zin p0 1 9) = 0 → (P none S)) ∧ (¬ (zin p0 1 9) = 0 → (∃ b7 : Nat, hR S 205 x0 = some b7 ∧ (hK S b7 = 26 → (vp_in (p0 - 1) (hN S b7) ∧ (∀ o10 : Option Nat, o10 = hB S b7 (Int32.toNatClampNeg (p0 - 1)) → (∀ b, o10 = some b → hK S b = 5) → (P o10 S))))))
set_option maxRecDepth 100000 in
set_option maxHeartbeats 4000000 in
theorem t_X9_scaleOf {p : Program} {l : Launch} {e : Env} {s : State} {m : MethodId} {args : Array Value} {below : List Frame} {meth : Method} {c : Code} {D : va_G} {A : Nat → Prop} {T : Nat → ClassId} (C : GC p s m args meth c cX9_scaleOf "FreightRater$Version" (ws_X9_scaleOf) 2 D A (zty T)) (E : GE T A s) (hr : meth.sig.returnType = (some (.object "FreightRater$Scale"))) (P : Option Nat → HS → Prop) : ∀ (x0 : Nat) (p0 : Int32) (S0 S : HS) (L : List Nat), S0 = S → wt S → hL S L → (hK S x0 = 10) → wp_X9_scaleOf P x0 p0 S → GW p l e { rm_X9_scaleOf with cells := 0, slots := 0 } s m args below meth c D A 2 0 0 (MQ below (va_Qq (fun v (u : HS × List Nat) => (P v u.1 ∧ ∀ b, v = some b → hK u.1 b = 5) ∧ CO S0 u) (CE D T A) A) args s 0 0 A) (CW T S L) 0 0 0 [(0, .ref x0), (1, .int p0)] [] := by
  have hW : ∀ {w : Cond}, w ∈ W0 → w.before args s = true := fun h => C.2.2.2.2.1 _ (List.mem_cons_of_mem _ h)
  intro x0 p0 S0 S L hS0 hw hL hx0 h
  have he : ext S0 S := by rw [hS0]; exact ext_rf
  unfold wp_X9_scaleOf at h
  refine g_iload_n C dX9_scaleOf_0 rfl 1 rfl ?_
  refine g_iconst (v := 1) C dX9_scaleOf_1 (by decide) ?_
  refine g_bipush (v := 9) C dX9_scaleOf_2 (by decide) ?_
  refine gc_calliSN (host := "FreightRater") C E hw hL [.int p0, .int 1, .int 9] rfl (k_X10_isBetween l D T p0 1 9 S ) (w0_SN 3 E C.2.2.2.2.1 (by decide) kw_304 kw_1 kw_305 rfl rfl (by decide +kernel) ⟨Nat.le_of_ble_eq_true rfl, Nat.le_of_ble_eq_true rfl⟩) rfl (Nat.le_of_ble_eq_true rfl) (Nat.le_refl _) (Nat.le_refl _) (Nat.zero_le _) (Nat.zero_le _) dX9_scaleOf_4 (fun v9 S9 L1 he9 hw9 hL9 hp => ?_)
  obtain ⟨hv9, hs9⟩ := hp
  replace hs9 := hs9.symm
  subst hs9
  replace hv9 := hv9.symm
  subst hv9
  have w4 := hL9
  refine g_if_eq (tgt := 21) C dX9_scaleOf_7 (by decide) (fun z5 => ?_) (fun z5 => ?_)
  · replace h := h.1 z5
    refine g_null C dX9_scaleOf_21 ?_
    exact gc_aret (v := none) (kd := 5) C (Or.inl ⟨_, rfl⟩) (fun b hb => by cases hb) hw w4 he hr dX9_scaleOf_22 h
  · replace h := h.2 z5
    refine g_aload_n C dX9_scaleOf_10 rfl 0 rfl ?_
    refine gc_getR C hw iwx_X9 w4 hx0 (by decide) (by decide) rfl 5 (by decide) (hW kw_422) rfl rfl rfl dX9_scaleOf_11 (fun o6 eo6 ko6 => ?_)
    obtain ⟨b7, hb9, h⟩ := h
    have g8 : hK S b7 = 26 := ko6 b7 (eo6.trans hb9)
    replace h := h g8
    refine g_opt (eo6.trans hb9) ?_
    refine g_iload_n C dX9_scaleOf_14 rfl 1 rfl ?_
    refine g_iconst (v := 1) C dX9_scaleOf_15 (by decide) ?_
    refine g_isub C dX9_scaleOf_16 ?_
    obtain ⟨g9, h⟩ := h
    refine gc_aald C hw w4 g8 (by decide) rfl g9 dX9_scaleOf_17 (fun o10 eo10 ko10 => ?_)
    replace h := h o10 eo10 ko10
    refine g_goto (tgt := 22) C dX9_scaleOf_18 (by decide) ?_
    exact gc_aret (v := o10) (kd := 5) C (Or.inl ⟨_, rfl⟩) ko10 hw w4 he hr dX9_scaleOf_22 h
theorem c_X9_scaleOf (l : Launch) (D : va_G) (T : Nat → ClassId) (x0 : Nat) (p0 : Int32) (S : HS) (hx0 : hK S x0 = 10) (P : Option Nat → HS → Prop) (h : wp_X9_scaleOf P x0 p0 S) : CMq l yX9_scaleOf (ws_X9_scaleOf) rm_X9_scaleOf D T [.ref x0, .int p0] S 0 0 5 P := gc_metq (by decide) rfl rfl (Nat.le_of_ble_eq_true rfl) (fun p e s m args below meth c A L C E hnm hr hw hL => t_X9_scaleOf C E   hr P x0 p0 S S L rfl hw hL hx0 h)
theorem k_X9_scaleOf (l : Launch) (D : va_G) (T : Nat → ClassId) (x0 : Nat) (p0 : Int32) (S : HS) (e0 : (Nat → Prop)) (e1 : Nat → Int32) (e2 : Nat) (hx0 : hK S x0 = 10) (h : WF e1 ∧ e2 < 6 ∧ RelV S e0 x0 e1 e2) : CMq l yX9_scaleOf (ws_X9_scaleOf) rm_X9_scaleOf D T [.ref x0, .int p0] S 0 0 5 (fun v S1 => (S1 = S ∧ (zin p0 1 9 = 0 → v = none) ∧ (¬ zin p0 1 9 = 0 → ∃ y, v = some y ∧ RelSc S e0 y e1 e2 (iv p0) ∧ ∃ sc, hR S 205 x0 = some sc ∧ hB S sc (iv p0 - 1) = some y))) := c_X9_scaleOf l D T x0 p0 S hx0 _ <|
  (by
    obtain ⟨hw, hv, hR⟩ := h
    obtain ⟨_, _, ⟨sc, rsc, ⟨ksc, nsc, _⟩, hh⟩, _⟩ := hR
    unfold wp_X9_scaleOf
    refine ⟨fun c9 => ⟨rfl, fun _ => rfl, fun z9 => absurd c9 z9⟩, fun c9 => ⟨sc, rsc, fun _ => ?_⟩⟩
    obtain ⟨z, hz1, hz9, rfl⟩ := zin_1 (m := 9) (by decide) c9
    obtain ⟨y, hy, hS⟩ := hh (z - 1) (by omega)
    rw [nsc, nI_p1 (by omega), nz_vp (by omega) (by decide), nI_clamp (n := z - 1) (by omega), hy]
    refine ⟨by omega, fun o10 e10 _ => ⟨rfl, fun z9 => absurd z9 c9, fun _ => ⟨y, e10, ?_⟩⟩⟩
    rw [show iv (nI z) = z from nI_clamp (by omega)]
    rw [show z - 1 + 1 = z by omega] at hS
    exact ⟨hS, sc, rsc, hy⟩)
abbrev ws_X9_accessorialAt : List Cond := Cond.code yX9_accessorialAt cX9_accessorialAt 2 (some (.object "FreightRater$Accessorial")) :: W0
abbrev rm_X9_accessorialAt : Room := ({ frames := 1, cells := 0, slots := 0, locals := 22 } : Room)
def wp_X9_accessorialAt (P : Option Nat → HS → Prop) (x0 : Nat) (p0 : Int32) (S : HS) : Prop := ((zin p0 0 9) = 0 → (P none S)) ∧ (¬ (zin p0 0 9) = 0 → (∃ b7 : Nat, hR S 210 x0 = some b7 ∧ (hK S b7 = 25 → (vp_in p0 (hN S b7) ∧ (∀ o10 : Option Nat, o10 = hB S b7 (Int32.toNatClampNeg p0) → (∀ b, o10 = some b → hK S b = 1) → (P o10 S))))))
set_option maxRecDepth 100000 in
set_option maxHeartbeats 4000000 in
theorem t_X9_accessorialAt {p : Program} {l : Launch} {e : Env} {s : State} {m : MethodId} {args : Array Value} {below : List Frame} {meth : Method} {c : Code} {D : va_G} {A : Nat → Prop} {T : Nat → ClassId} (C : GC p s m args meth c cX9_accessorialAt "FreightRater$Version" (ws_X9_accessorialAt) 2 D A (zty T)) (E : GE T A s) (hr : meth.sig.returnType = (some (.object "FreightRater$Accessorial"))) (P : Option Nat → HS → Prop) : ∀ (x0 : Nat) (p0 : Int32) (S0 S : HS) (L : List Nat), S0 = S → wt S → hL S L → (hK S x0 = 10) → wp_X9_accessorialAt P x0 p0 S → GW p l e { rm_X9_accessorialAt with cells := 0, slots := 0 } s m args below meth c D A 2 0 0 (MQ below (va_Qq (fun v (u : HS × List Nat) => (P v u.1 ∧ ∀ b, v = some b → hK u.1 b = 1) ∧ CO S0 u) (CE D T A) A) args s 0 0 A) (CW T S L) 0 0 0 [(0, .ref x0), (1, .int p0)] [] := by
  have hW : ∀ {w : Cond}, w ∈ W0 → w.before args s = true := fun h => C.2.2.2.2.1 _ (List.mem_cons_of_mem _ h)
  intro x0 p0 S0 S L hS0 hw hL hx0 h
  have he : ext S0 S := by rw [hS0]; exact ext_rf
  unfold wp_X9_accessorialAt at h
  refine g_iload_n C dX9_accessorialAt_0 rfl 1 rfl ?_
  refine g_iconst (v := 0) C dX9_accessorialAt_1 (by decide) ?_
  refine g_bipush (v := 9) C dX9_accessorialAt_2 (by decide) ?_
  refine gc_calliSN (host := "FreightRater") C E hw hL [.int p0, .int 0, .int 9] rfl (k_X10_isBetween l D T p0 0 9 S ) (w0_SN 3 E C.2.2.2.2.1 (by decide) kw_304 kw_1 kw_305 rfl rfl (by decide +kernel) ⟨Nat.le_of_ble_eq_true rfl, Nat.le_of_ble_eq_true rfl⟩) rfl (Nat.le_of_ble_eq_true rfl) (Nat.le_refl _) (Nat.le_refl _) (Nat.zero_le _) (Nat.zero_le _) dX9_accessorialAt_4 (fun v9 S9 L1 he9 hw9 hL9 hp => ?_)
  obtain ⟨hv9, hs9⟩ := hp
  replace hs9 := hs9.symm
  subst hs9
  replace hv9 := hv9.symm
  subst hv9
  have w4 := hL9
  refine g_if_eq (tgt := 19) C dX9_accessorialAt_7 (by decide) (fun z5 => ?_) (fun z5 => ?_)
  · replace h := h.1 z5
    refine g_null C dX9_accessorialAt_19 ?_
    exact gc_aret (v := none) (kd := 1) C (Or.inl ⟨_, rfl⟩) (fun b hb => by cases hb) hw w4 he hr dX9_accessorialAt_20 h
  · replace h := h.2 z5
    refine g_aload_n C dX9_accessorialAt_10 rfl 0 rfl ?_
    refine gc_getR C hw iwx_X9 w4 hx0 (by decide) (by decide) rfl 10 (by decide) (hW kw_435) rfl rfl rfl dX9_accessorialAt_11 (fun o6 eo6 ko6 => ?_)
    obtain ⟨b7, hb9, h⟩ := h
    have g8 : hK S b7 = 25 := ko6 b7 (eo6.trans hb9)
    replace h := h g8
    refine g_opt (eo6.trans hb9) ?_
    refine g_iload_n C dX9_accessorialAt_14 rfl 1 rfl ?_
    obtain ⟨g9, h⟩ := h
    refine gc_aald C hw w4 g8 (by decide) rfl g9 dX9_accessorialAt_15 (fun o10 eo10 ko10 => ?_)
    replace h := h o10 eo10 ko10
    refine g_goto (tgt := 20) C dX9_accessorialAt_16 (by decide) ?_
    exact gc_aret (v := o10) (kd := 1) C (Or.inl ⟨_, rfl⟩) ko10 hw w4 he hr dX9_accessorialAt_20 h
theorem c_X9_accessorialAt (l : Launch) (D : va_G) (T : Nat → ClassId) (x0 : Nat) (p0 : Int32) (S : HS) (hx0 : hK S x0 = 10) (P : Option Nat → HS → Prop) (h : wp_X9_accessorialAt P x0 p0 S) : CMq l yX9_accessorialAt (ws_X9_accessorialAt) rm_X9_accessorialAt D T [.ref x0, .int p0] S 0 0 1 P := gc_metq (by decide) rfl rfl (Nat.le_of_ble_eq_true rfl) (fun p e s m args below meth c A L C E hnm hr hw hL => t_X9_accessorialAt C E   hr P x0 p0 S S L rfl hw hL hx0 h)
theorem k_X9_accessorialAt (l : Launch) (D : va_G) (T : Nat → ClassId) (x0 : Nat) (p0 : Int32) (S : HS) (e0 : (Nat → Prop)) (e1 : Nat → Int32) (e2 : Nat) (hx0 : hK S x0 = 10) (h : WF e1 ∧ e2 < 6 ∧ RelV S e0 x0 e1 e2) : CMq l yX9_accessorialAt (ws_X9_accessorialAt) rm_X9_accessorialAt D T [.ref x0, .int p0] S 0 0 1 (fun v S1 => (S1 = S ∧ (¬ acX e1 e2 p0 → v = none) ∧ (acX e1 e2 p0 → ∃ y, v = some y ∧ RelA S e0 y e1 e2 (iv p0)))) := c_X9_accessorialAt l D T x0 p0 S hx0 _ <|
  (by
    obtain ⟨hw, hv, hR⟩ := h
    obtain ⟨_, _, _, ⟨ac, rac, ⟨kac, nac, _⟩, hh⟩⟩ := hR
    unfold wp_X9_accessorialAt
    refine ⟨fun c9 => ⟨rfl, fun _ => rfl, fun z9 => absurd c9 z9.1⟩, fun c9 => ⟨ac, rac, fun _ => ?_⟩⟩
    obtain ⟨a, ha, rfl⟩ := zin_n (m := 9) (by decide) c9
    have ia : iv (nI a) = a := nI_clamp (by omega)
    rw [nac, nz_vp (by omega) (by decide), nI_clamp (n := a) (by omega)]
    refine ⟨by omega, fun o10 e10 _ => ⟨rfl, fun z9 => ?_, fun z9 => ?_⟩⟩
    · rcases hh a (by omega) with ⟨_, hn⟩ | ⟨h1, _⟩
      · rw [e10, hn]
      · refine absurd ⟨c9, ?_⟩ z9
        rw [ia, h1]; decide
    · unfold acX at z9
      rw [ia] at z9
      rcases hh a (by omega) with ⟨h0, _⟩ | ⟨_, y, hy, hA⟩
      · exact absurd h0 z9.2
      · exact ⟨y, e10.trans hy, by rw [ia]; exact hA⟩)
abbrev ws_X6_versionAt : List Cond := Cond.code yX6_versionAt cX6_versionAt 2 (some (.object "FreightRater$Version")) :: W0
abbrev rm_X6_versionAt : Room := ({ frames := 1, cells := 0, slots := 0, locals := 22 } : Room)
def wp_X6_versionAt (P : Option Nat → HS → Prop) (x0 : Nat) (p0 : Int32) (S : HS) : Prop := ((zin p0 0 ((hI S 141 x0) - 1)) = 0 → (P none S)) ∧ (¬ (zin p0 0 ((hI S 141 x0) - 1)) = 0 → (∃ b7 : Nat, hR S 140 x0 = some b7 ∧ (hK S b7 = 29 → (vp_in p0 (hN S b7) ∧ (∀ o10 : Option Nat, o10 = hB S b7 (Int32.toNatClampNeg p0) → (∀ b, o10 = some b → hK S b = 10) → (P o10 S))))))
set_option maxRecDepth 100000 in
set_option maxHeartbeats 4000000 in
theorem t_X6_versionAt {p : Program} {l : Launch} {e : Env} {s : State} {m : MethodId} {args : Array Value} {below : List Frame} {meth : Method} {c : Code} {D : va_G} {A : Nat → Prop} {T : Nat → ClassId} (C : GC p s m args meth c cX6_versionAt "FreightRater$State" (ws_X6_versionAt) 2 D A (zty T)) (E : GE T A s) (hr : meth.sig.returnType = (some (.object "FreightRater$Version"))) (P : Option Nat → HS → Prop) : ∀ (x0 : Nat) (p0 : Int32) (S0 S : HS) (L : List Nat), S0 = S → wt S → hL S L → (hK S x0 = 7) → wp_X6_versionAt P x0 p0 S → GW p l e { rm_X6_versionAt with cells := 0, slots := 0 } s m args below meth c D A 2 0 0 (MQ below (va_Qq (fun v (u : HS × List Nat) => (P v u.1 ∧ ∀ b, v = some b → hK u.1 b = 10) ∧ CO S0 u) (CE D T A) A) args s 0 0 A) (CW T S L) 0 0 0 [(0, .ref x0), (1, .int p0)] [] := by
  have hW : ∀ {w : Cond}, w ∈ W0 → w.before args s = true := fun h => C.2.2.2.2.1 _ (List.mem_cons_of_mem _ h)
  intro x0 p0 S0 S L hS0 hw hL hx0 h
  have he : ext S0 S := by rw [hS0]; exact ext_rf
  unfold wp_X6_versionAt at h
  refine g_iload_n C dX6_versionAt_0 rfl 1 rfl ?_
  refine g_iconst (v := 0) C dX6_versionAt_1 (by decide) ?_
  refine g_aload_n C dX6_versionAt_2 rfl 0 rfl ?_
  refine gc_getI C iwx_X6 hL hx0 (by decide) (by decide) rfl 1 (by decide) (hW kw_61) rfl rfl rfl dX6_versionAt_3 ?_
  refine g_iconst (v := 1) C dX6_versionAt_6 (by decide) ?_
  refine g_isub C dX6_versionAt_7 ?_
  refine gc_calliSN (host := "FreightRater") C E hw hL [.int p0, .int 0, .int ((hI S 141 x0) - 1)] rfl (k_X10_isBetween l D T p0 0 ((hI S 141 x0) - 1) S ) (w0_SN 3 E C.2.2.2.2.1 (by decide) kw_304 kw_1 kw_305 rfl rfl (by decide +kernel) ⟨Nat.le_of_ble_eq_true rfl, Nat.le_of_ble_eq_true rfl⟩) rfl (Nat.le_of_ble_eq_true rfl) (Nat.le_refl _) (Nat.le_refl _) (Nat.zero_le _) (Nat.zero_le _) dX6_versionAt_8 (fun v9 S9 L1 he9 hw9 hL9 hp => ?_)
  obtain ⟨hv9, hs9⟩ := hp
  replace hs9 := hs9.symm
  subst hs9
  replace hv9 := hv9.symm
  subst hv9
  have w4 := hL9
  refine g_if_eq (tgt := 23) C dX6_versionAt_11 (by decide) (fun z5 => ?_) (fun z5 => ?_)
  · replace h := h.1 z5
    refine g_null C dX6_versionAt_23 ?_
    exact gc_aret (v := none) (kd := 10) C (Or.inl ⟨_, rfl⟩) (fun b hb => by cases hb) hw w4 he hr dX6_versionAt_24 h
  · replace h := h.2 z5
    refine g_aload_n C dX6_versionAt_14 rfl 0 rfl ?_
    refine gc_getR C hw iwx_X6 w4 hx0 (by decide) (by decide) rfl 0 (by decide) (hW kw_58) rfl rfl rfl dX6_versionAt_15 (fun o6 eo6 ko6 => ?_)
    obtain ⟨b7, hb9, h⟩ := h
    have g8 : hK S b7 = 29 := ko6 b7 (eo6.trans hb9)
    replace h := h g8
    refine g_opt (eo6.trans hb9) ?_
    refine g_iload_n C dX6_versionAt_18 rfl 1 rfl ?_
    obtain ⟨g9, h⟩ := h
    refine gc_aald C hw w4 g8 (by decide) rfl g9 dX6_versionAt_19 (fun o10 eo10 ko10 => ?_)
    replace h := h o10 eo10 ko10
    refine g_goto (tgt := 24) C dX6_versionAt_20 (by decide) ?_
    exact gc_aret (v := o10) (kd := 10) C (Or.inl ⟨_, rfl⟩) ko10 hw w4 he hr dX6_versionAt_24 h
theorem c_X6_versionAt (l : Launch) (D : va_G) (T : Nat → ClassId) (x0 : Nat) (p0 : Int32) (S : HS) (hx0 : hK S x0 = 7) (P : Option Nat → HS → Prop) (h : wp_X6_versionAt P x0 p0 S) : CMq l yX6_versionAt (ws_X6_versionAt) rm_X6_versionAt D T [.ref x0, .int p0] S 0 0 10 P := gc_metq (by decide) rfl rfl (Nat.le_of_ble_eq_true rfl) (fun p e s m args below meth c A L C E hnm hr hw hL => t_X6_versionAt C E   hr P x0 p0 S S L rfl hw hL hx0 h)
theorem k_X6_versionAt (l : Launch) (D : va_G) (T : Nat → ClassId) (x0 : Nat) (p0 : Int32) (S : HS) (e0 : (Nat → Prop)) (e1 : Nat → Int32) (hx0 : hK S x0 = 7) (h : WF e1 ∧ RelSt S e0 x0 e1) : CMq l yX6_versionAt (ws_X6_versionAt) rm_X6_versionAt D T [.ref x0, .int p0] S 0 0 10 (fun v S1 => (S1 = S ∧ (zin p0 0 (e1 0 - 1) = 0 → v = none) ∧ (¬ zin p0 0 (e1 0 - 1) = 0 → ∃ y, v = some y ∧ RelV S e0 y e1 (iv p0)))) := c_X6_versionAt l D T x0 p0 S hx0 _ <|
  (by
    obtain ⟨hw, ⟨_, e141, _⟩, ⟨b, rb, kb, nb, hb⟩, _⟩ := h
    obtain ⟨n, hn, en⟩ := hw.1
    unfold wp_X6_versionAt
    rw [e141]
    refine ⟨fun c9 => ⟨rfl, fun _ => rfl, fun z9 => absurd c9 z9⟩, fun c9 => ⟨b, rb, fun _ => ?_⟩⟩
    obtain ⟨v, m, hv, hm, em, rfl⟩ := vers_ix hw c9
    have i0 : iv (e1 0) = m := by rw [em]; exact nI_clamp (by omega)
    obtain ⟨y, hy, hS⟩ := hb v (by omega)
    rw [nb, nz_vp (by omega) (by decide), nI_clamp (n := v) (by omega), hy]
    refine ⟨by omega, fun o10 e10 _ => ⟨rfl, fun z9 => absurd z9 c9, fun _ => ⟨y, e10, ?_⟩⟩⟩
    rw [show iv (nI v) = v from nI_clamp (by omega)]
    exact hS)
abbrev ws_X6_shipmentAt : List Cond := Cond.code yX6_shipmentAt cX6_shipmentAt 2 (some (.object "FreightRater$Shipment")) :: W0
abbrev rm_X6_shipmentAt : Room := ({ frames := 1, cells := 0, slots := 0, locals := 22 } : Room)
def wp_X6_shipmentAt (P : Option Nat → HS → Prop) (x0 : Nat) (p0 : Int32) (S : HS) : Prop := ((zin p0 0 ((hI S 143 x0) - 1)) = 0 → (P none S)) ∧ (¬ (zin p0 0 ((hI S 143 x0) - 1)) = 0 → (∃ b7 : Nat, hR S 142 x0 = some b7 ∧ (hK S b7 = 27 → (vp_in p0 (hN S b7) ∧ (∀ o10 : Option Nat, o10 = hB S b7 (Int32.toNatClampNeg p0) → (∀ b, o10 = some b → hK S b = 6) → (P o10 S))))))
set_option maxRecDepth 100000 in
set_option maxHeartbeats 4000000 in
theorem t_X6_shipmentAt {p : Program} {l : Launch} {e : Env} {s : State} {m : MethodId} {args : Array Value} {below : List Frame} {meth : Method} {c : Code} {D : va_G} {A : Nat → Prop} {T : Nat → ClassId} (C : GC p s m args meth c cX6_shipmentAt "FreightRater$State" (ws_X6_shipmentAt) 2 D A (zty T)) (E : GE T A s) (hr : meth.sig.returnType = (some (.object "FreightRater$Shipment"))) (P : Option Nat → HS → Prop) : ∀ (x0 : Nat) (p0 : Int32) (S0 S : HS) (L : List Nat), S0 = S → wt S → hL S L → (hK S x0 = 7) → wp_X6_shipmentAt P x0 p0 S → GW p l e { rm_X6_shipmentAt with cells := 0, slots := 0 } s m args below meth c D A 2 0 0 (MQ below (va_Qq (fun v (u : HS × List Nat) => (P v u.1 ∧ ∀ b, v = some b → hK u.1 b = 6) ∧ CO S0 u) (CE D T A) A) args s 0 0 A) (CW T S L) 0 0 0 [(0, .ref x0), (1, .int p0)] [] := by
  have hW : ∀ {w : Cond}, w ∈ W0 → w.before args s = true := fun h => C.2.2.2.2.1 _ (List.mem_cons_of_mem _ h)
  intro x0 p0 S0 S L hS0 hw hL hx0 h
  have he : ext S0 S := by rw [hS0]; exact ext_rf
  unfold wp_X6_shipmentAt at h
  refine g_iload_n C dX6_shipmentAt_0 rfl 1 rfl ?_
  refine g_iconst (v := 0) C dX6_shipmentAt_1 (by decide) ?_
  refine g_aload_n C dX6_shipmentAt_2 rfl 0 rfl ?_
  refine gc_getI C iwx_X6 hL hx0 (by decide) (by decide) rfl 3 (by decide) (hW kw_65) rfl rfl rfl dX6_shipmentAt_3 ?_
  refine g_iconst (v := 1) C dX6_shipmentAt_6 (by decide) ?_
  refine g_isub C dX6_shipmentAt_7 ?_
  refine gc_calliSN (host := "FreightRater") C E hw hL [.int p0, .int 0, .int ((hI S 143 x0) - 1)] rfl (k_X10_isBetween l D T p0 0 ((hI S 143 x0) - 1) S ) (w0_SN 3 E C.2.2.2.2.1 (by decide) kw_304 kw_1 kw_305 rfl rfl (by decide +kernel) ⟨Nat.le_of_ble_eq_true rfl, Nat.le_of_ble_eq_true rfl⟩) rfl (Nat.le_of_ble_eq_true rfl) (Nat.le_refl _) (Nat.le_refl _) (Nat.zero_le _) (Nat.zero_le _) dX6_shipmentAt_8 (fun v9 S9 L1 he9 hw9 hL9 hp => ?_)
  obtain ⟨hv9, hs9⟩ := hp
  replace hs9 := hs9.symm
  subst hs9
  replace hv9 := hv9.symm
  subst hv9
  have w4 := hL9
  refine g_if_eq (tgt := 23) C dX6_shipmentAt_11 (by decide) (fun z5 => ?_) (fun z5 => ?_)
  · replace h := h.1 z5
    refine g_null C dX6_shipmentAt_23 ?_
    exact gc_aret (v := none) (kd := 6) C (Or.inl ⟨_, rfl⟩) (fun b hb => by cases hb) hw w4 he hr dX6_shipmentAt_24 h
  · replace h := h.2 z5
    refine g_aload_n C dX6_shipmentAt_14 rfl 0 rfl ?_
    refine gc_getR C hw iwx_X6 w4 hx0 (by decide) (by decide) rfl 2 (by decide) (hW kw_62) rfl rfl rfl dX6_shipmentAt_15 (fun o6 eo6 ko6 => ?_)
    obtain ⟨b7, hb9, h⟩ := h
    have g8 : hK S b7 = 27 := ko6 b7 (eo6.trans hb9)
    replace h := h g8
    refine g_opt (eo6.trans hb9) ?_
    refine g_iload_n C dX6_shipmentAt_18 rfl 1 rfl ?_
    obtain ⟨g9, h⟩ := h
    refine gc_aald C hw w4 g8 (by decide) rfl g9 dX6_shipmentAt_19 (fun o10 eo10 ko10 => ?_)
    replace h := h o10 eo10 ko10
    refine g_goto (tgt := 24) C dX6_shipmentAt_20 (by decide) ?_
    exact gc_aret (v := o10) (kd := 6) C (Or.inl ⟨_, rfl⟩) ko10 hw w4 he hr dX6_shipmentAt_24 h
theorem c_X6_shipmentAt (l : Launch) (D : va_G) (T : Nat → ClassId) (x0 : Nat) (p0 : Int32) (S : HS) (hx0 : hK S x0 = 7) (P : Option Nat → HS → Prop) (h : wp_X6_shipmentAt P x0 p0 S) : CMq l yX6_shipmentAt (ws_X6_shipmentAt) rm_X6_shipmentAt D T [.ref x0, .int p0] S 0 0 6 P := gc_metq (by decide) rfl rfl (Nat.le_of_ble_eq_true rfl) (fun p e s m args below meth c A L C E hnm hr hw hL => t_X6_shipmentAt C E   hr P x0 p0 S S L rfl hw hL hx0 h)
theorem k_X6_shipmentAt (l : Launch) (D : va_G) (T : Nat → ClassId) (x0 : Nat) (p0 : Int32) (S : HS) (e0 : (Nat → Prop)) (e1 : Nat → Int32) (hx0 : hK S x0 = 7) (h : WF e1 ∧ RelSt S e0 x0 e1) : CMq l yX6_shipmentAt (ws_X6_shipmentAt) rm_X6_shipmentAt D T [.ref x0, .int p0] S 0 0 6 (fun v S1 => (S1 = S ∧ (zin p0 0 (e1 1 - 1) = 0 → v = none) ∧ (¬ zin p0 0 (e1 1 - 1) = 0 → ∃ y, v = some y ∧ RelS S e0 y e1 (iv p0)))) := c_X6_shipmentAt l D T x0 p0 S hx0 _ <|
  (by
    obtain ⟨hw, ⟨_, _, e143, _⟩, _, ⟨b, rb, kb, nb, hb⟩, _⟩ := h
    unfold wp_X6_shipmentAt
    rw [e143]
    refine ⟨fun c9 => ⟨rfl, fun _ => rfl, fun z9 => absurd c9 z9⟩, fun c9 => ⟨b, rb, fun _ => ?_⟩⟩
    obtain ⟨v, m, hv, hm, em, rfl⟩ := ship_ix hw c9
    have i0 : iv (e1 1) = m := by rw [em]; exact nI_clamp (by omega)
    obtain ⟨y, hy, hS⟩ := hb v (by omega)
    rw [nb, nz_vp (by omega) (by decide), nI_clamp (n := v) (by omega), hy]
    refine ⟨by omega, fun o10 e10 _ => ⟨rfl, fun z9 => absurd z9 c9, fun _ => ⟨y, e10, ?_⟩⟩⟩
    rw [show iv (nI v) = v from nI_clamp (by omega)]
    exact hS)

end S_C1B
