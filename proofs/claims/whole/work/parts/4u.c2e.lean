section S_C2E
abbrev ws_X1_merge : List Cond := Cond.code yX1_merge cX1_merge 2 none :: W0
abbrev rm_X1_merge : Room := ({ frames := 2, cells := 0, slots := 0, locals := 50 } : Room)
def wb_X1_merge_10 (rec : Nat → Int32 → HS → Prop) (K33 : Nat → HS → Prop) (P : HS → Prop) (x0 : Nat) (x1 : Int32) (S : HS) : Prop := ((hI S 40 x0) ≤ x1 → (K33 x0 S)) ∧ (¬ (hI S 40 x0) ≤ x1 → (∃ b9 : Nat, hR S 46 x0 = some b9 ∧ (hK S b9 = 22 → (vp_in x1 (hN S b9) ∧ (∀ S13 : HS, S13 = putA S b9 (Int32.toNatClampNeg x1) ((1 : Int32) <<< (x1 &&& 31)) → (∀ v18 : Int32, v18 = x1 + 1 → (rec x0 v18 S13)))))))
def wp_X1_merge_10 (K33 : Nat → HS → Prop) (P : HS → Prop) : Nat → Nat → Int32 → HS → Prop
  | 0 => fun _ _ _ => False
  | n + 1 => fun x0 x1 S => wb_X1_merge_10 (wp_X1_merge_10 K33 P n) K33 P x0 x1 S
set_option maxRecDepth 100000 in
set_option maxHeartbeats 4000000 in
theorem t_X1_merge_10 {p : Program} {l : Launch} {e : Env} {s : State} {m : MethodId} {args : Array Value} {below : List Frame} {meth : Method} {c : Code} {D : va_G} {A : Nat → Prop} {T : Nat → ClassId} (C : GC p s m args meth c cX1_merge "FreightRater$Plan" (ws_X1_merge) 2 D A (zty T)) (E : GE T A s) (hr : meth.sig.returnType = none) (S0 : HS) (K33 : Nat → HS → Prop) (P : HS → Prop) (hK33 : ∀ (x0 : Nat) (S : HS) (L : List Nat), wt S → hL S L → ext S0 S → (hK S x0 = 2) → K33 x0 S → GW p l e { rm_X1_merge with cells := 0, slots := 0 } s m args below meth c D A 2 0 0 (MQ below (va_Qv (fun (u : HS × List Nat) => P u.1 ∧ CO S0 u) (CE D T A) A) args s 0 0 A) (CW T S L) 0 0 33 [(0, .ref x0)] []) : ∀ (n : Nat) (x0 : Nat) (x1 : Int32) (S : HS) (L : List Nat), wt S → hL S L → ext S0 S → (hK S x0 = 2) → wp_X1_merge_10 K33 P n x0 x1 S → GW p l e { rm_X1_merge with cells := 0, slots := 0 } s m args below meth c D A 2 0 0 (MQ below (va_Qv (fun (u : HS × List Nat) => P u.1 ∧ CO S0 u) (CE D T A) A) args s 0 0 A) (CW T S L) 0 0 10 [(0, .ref x0), (1, .int x1)] [] := by
  have hW : ∀ {w : Cond}, w ∈ W0 → w.before args s = true := fun h => C.2.2.2.2.1 _ (List.mem_cons_of_mem _ h)
  intro n
  induction n with
  | zero => intro x0 x1 S L hw hL he hx0 h; exact h.elim
  | succ n ih =>
    intro x0 x1 S L hw hL he hx0 h
    replace h : wb_X1_merge_10 (wp_X1_merge_10 K33 P n) K33 P x0 x1 S := h
    unfold wb_X1_merge_10 at h
    refine g_iload_n C dX1_merge_10 rfl 1 rfl ?_
    refine g_aload_n C dX1_merge_11 rfl 0 rfl ?_
    refine gc_getI C iwx_X1 hL hx0 (by decide) (by decide) rfl 0 (by decide) (hW kw_213) rfl rfl rfl dX1_merge_12 ?_
    refine g_icmp_ge (tgt := 33) C dX1_merge_15 (by decide) (fun z7 => ?_) (fun z7 => ?_)
    · replace h := h.1 z7
      refine g_locals [0] rfl ?_
      exact hK33 x0 S L hw hL he hx0 h
    · replace h := h.2 z7
      refine g_aload_n C dX1_merge_18 rfl 0 rfl ?_
      refine gc_getR C hw iwx_X1 hL hx0 (by decide) (by decide) rfl 6 (by decide) (hW kw_221) rfl rfl rfl dX1_merge_19 (fun o8 eo8 ko8 => ?_)
      obtain ⟨b9, hb9, h⟩ := h
      have g10 : hK S b9 = 22 := ko8 b9 (eo8.trans hb9)
      replace h := h g10
      refine g_opt (eo8.trans hb9) ?_
      refine g_iload_n C dX1_merge_22 rfl 1 rfl ?_
      refine g_iconst (v := 1) C dX1_merge_23 (by decide) ?_
      refine g_iload_n C dX1_merge_24 rfl 1 rfl ?_
      refine g_ishl C dX1_merge_25 ?_
      obtain ⟨g11, h⟩ := h
      refine gc_iast C hL g10 g11 dX1_merge_26 ?_
      have w12 := wt_putA hw (Int32.toNatClampNeg x1) ((1 : Int32) <<< (x1 &&& 31)) (k_ne g10 (by decide))
      refine gc_nS (fun S13 eS13 => ?_)
      replace h := h S13 eS13
      have w14 : wt S13 := by rw [eS13]; exact w12
      have w15 : isL S13 L := by rw [eS13]; exact hL
      have w16 : ext S0 S13 := by rw [eS13]; exact he
      have g17 : hK S13 x0 = 2 := by rw [eS13]; exact hx0
      obtain ⟨v18, ev18⟩ : ∃ y : Int32, y = x1 + 1 := ⟨_, rfl⟩
      replace h := h v18 ev18
      refine g_iinc (v := v18) (lv' := [(1, .int v18), (0, .ref x0)]) C dX1_merge_27 (j := 1) rfl (by rw [ev18]; rfl) (by decide) rfl ?_
      refine g_goto (tgt := 10) C dX1_merge_30 (by decide) ?_
      refine g_locals [1, 0] rfl ?_
      exact ih x0 v18 S13 L w14 w15 w16 g17 h
def wb_X1_merge_35 (rec : Nat → Int32 → HS → Prop) (P : HS → Prop) (x0 : Nat) (x1 : Int32) (S : HS) : Prop := ((hI S 40 x0) ≤ x1 → (P S)) ∧ (¬ (hI S 40 x0) ≤ x1 → (∃ (m21 : Nat → Nat) (m22 : List Nat), ((PlO S x0 m21 ∧ PlP S x0 m21 m22 ∧ ∀ i j, i < m22.length → j < m22.length → (hA S (m21 1) (gl m22 i ||| gl m22 j) = -1 ∨ 0 ≤ hA S (m21 1) (gl m22 i ||| gl m22 j))) ∧ (∀ (v29 : Int32) (S24 : HS), ext S S24 → (((fpF (hA S (m21 1)) m22).2 = none → v29 = 0 ∧ S24 = S) ∧ ∀ i j, (fpF (hA S (m21 1)) m22).2 = some (i, j) → v29 = 1 ∧ frP S S24 x0 m21 [47] [5] ∧ PlP S24 x0 m21 (mgS m22 i j)) → ((¬ v29 = 0 → (∀ v33 : Int32, v33 = x1 + 1 → (rec x0 v33 S24))) ∧ (v29 = 0 → (P S24)))))))
def wp_X1_merge_35 (P : HS → Prop) : Nat → Nat → Int32 → HS → Prop
  | 0 => fun _ _ _ => False
  | n + 1 => fun x0 x1 S => wb_X1_merge_35 (wp_X1_merge_35  P n)  P x0 x1 S
set_option maxRecDepth 100000 in
set_option maxHeartbeats 4000000 in
theorem t_X1_merge_35 {p : Program} {l : Launch} {e : Env} {s : State} {m : MethodId} {args : Array Value} {below : List Frame} {meth : Method} {c : Code} {D : va_G} {A : Nat → Prop} {T : Nat → ClassId} (C : GC p s m args meth c cX1_merge "FreightRater$Plan" (ws_X1_merge) 2 D A (zty T)) (E : GE T A s) (hr : meth.sig.returnType = none) (S0 : HS) (P : HS → Prop) : ∀ (n : Nat) (x0 : Nat) (x1 : Int32) (S : HS) (L : List Nat), wt S → hL S L → ext S0 S → (hK S x0 = 2) → wp_X1_merge_35  P n x0 x1 S → GW p l e { rm_X1_merge with cells := 0, slots := 0 } s m args below meth c D A 2 0 0 (MQ below (va_Qv (fun (u : HS × List Nat) => P u.1 ∧ CO S0 u) (CE D T A) A) args s 0 0 A) (CW T S L) 0 0 35 [(0, .ref x0), (1, .int x1)] [] := by
  have hW : ∀ {w : Cond}, w ∈ W0 → w.before args s = true := fun h => C.2.2.2.2.1 _ (List.mem_cons_of_mem _ h)
  intro n
  induction n with
  | zero => intro x0 x1 S L hw hL he hx0 h; exact h.elim
  | succ n ih =>
    intro x0 x1 S L hw hL he hx0 h
    replace h : wb_X1_merge_35 (wp_X1_merge_35  P n)  P x0 x1 S := h
    unfold wb_X1_merge_35 at h
    refine g_iload_n C dX1_merge_35 rfl 1 rfl ?_
    refine g_aload_n C dX1_merge_36 rfl 0 rfl ?_
    refine gc_getI C iwx_X1 hL hx0 (by decide) (by decide) rfl 0 (by decide) (hW kw_213) rfl rfl rfl dX1_merge_37 ?_
    refine g_icmp_ge (tgt := 59) C dX1_merge_40 (by decide) (fun z20 => ?_) (fun z20 => ?_)
    · replace h := h.1 z20
      exact gc_vret C hw hL he hr dX1_merge_59 h
    · replace h := h.2 z20
      refine g_aload_n C dX1_merge_43 rfl 0 rfl ?_
      obtain ⟨m21, m22, h⟩ := h
      obtain ⟨g23, h⟩ := h
      refine gc_calliV (host := "") C E hw hL hx0 (by decide) (by decide) rfl [] rfl (k_X1_mergePair l D T x0 S m21 m22 hx0 g23) (w0_V 0 C.2.2.2.2.1 kw_1410 kw_1412 ks_46 kw_8 kw_1413 rfl rfl (by decide +kernel) ⟨Nat.le_of_ble_eq_true rfl, Nat.le_of_ble_eq_true rfl⟩) rfl (Nat.le_of_ble_eq_true rfl) (Nat.le_refl _) (Nat.le_refl _) (Nat.zero_le _) (Nat.zero_le _) dX1_merge_44 (fun v29 S24 L25 e26 w27 w28 hp => ?_)
      replace h := h v29 S24 e26 hp
      have g30 := ext_K e26 hx0 (by decide)
      have w31 := ext_tr he e26
      refine g_if_ne (tgt := 53) C dX1_merge_47 (by decide) (fun z32 => ?_) (fun z32 => ?_)
      · replace h := h.1 z32
        obtain ⟨v33, ev33⟩ : ∃ y : Int32, y = x1 + 1 := ⟨_, rfl⟩
        replace h := h v33 ev33
        refine g_iinc (v := v33) (lv' := [(1, .int v33), (0, .ref x0)]) C dX1_merge_53 (j := 1) rfl (by rw [ev33]; rfl) (by decide) rfl ?_
        refine g_goto (tgt := 35) C dX1_merge_56 (by decide) ?_
        refine g_locals [1, 0] rfl ?_
        exact ih x0 v33 S24 L25 w27 w28 w31 g30 h
      · replace h := h.2 z32
        refine g_goto (tgt := 59) C dX1_merge_50 (by decide) ?_
        exact gc_vret C w27 w28 w31 hr dX1_merge_59 h
def wp_X1_merge (P : HS → Prop) (x0 : Nat) (S : HS) : Prop := ∀ S2 : HS, S2 = putI S 47 x0 (hI S 40 x0) → (∃ k35 : Nat, wp_X1_merge_10 (fun (y19_x0 : Nat) (Sy19_ : HS) => (hK Sy19_ y19_x0 = 2) → (∃ k34 : Nat, wp_X1_merge_35  P k34 y19_x0 1 Sy19_)) P k35 x0 0 S2)
set_option maxRecDepth 100000 in
set_option maxHeartbeats 4000000 in
theorem t_X1_merge {p : Program} {l : Launch} {e : Env} {s : State} {m : MethodId} {args : Array Value} {below : List Frame} {meth : Method} {c : Code} {D : va_G} {A : Nat → Prop} {T : Nat → ClassId} (C : GC p s m args meth c cX1_merge "FreightRater$Plan" (ws_X1_merge) 2 D A (zty T)) (E : GE T A s) (hr : meth.sig.returnType = none) (P : HS → Prop) : ∀ (x0 : Nat) (S0 S : HS) (L : List Nat), S0 = S → wt S → hL S L → (hK S x0 = 2) → wp_X1_merge P x0 S → GW p l e { rm_X1_merge with cells := 0, slots := 0 } s m args below meth c D A 2 0 0 (MQ below (va_Qv (fun (u : HS × List Nat) => P u.1 ∧ CO S0 u) (CE D T A) A) args s 0 0 A) (CW T S L) 0 0 0 [(0, .ref x0)] [] := by
  have hW : ∀ {w : Cond}, w ∈ W0 → w.before args s = true := fun h => C.2.2.2.2.1 _ (List.mem_cons_of_mem _ h)
  intro x0 S0 S L hS0 hw hL hx0 h
  have he : ext S0 S := by rw [hS0]; exact ext_rf
  unfold wp_X1_merge at h
  refine g_aload_n C dX1_merge_0 rfl 0 rfl ?_
  refine g_aload_n C dX1_merge_1 rfl 0 rfl ?_
  refine gc_getI C iwx_X1 hL hx0 (by decide) (by decide) rfl 0 (by decide) (hW kw_213) rfl rfl rfl dX1_merge_2 ?_
  refine gc_putI C iwx_X1 hL hx0 (by decide) (by decide) rfl 7 (by decide) (hW kw_223) rfl tyX1 tyX1_ok nmX1 rfl rfl rfl rfl rfl dX1_merge_5 ?_
  have w1 := wt_putI hw 47 (hI S 40 x0) (k_ne hx0 (by decide))
  refine gc_nS (fun S2 eS2 => ?_)
  replace h := h S2 eS2
  have w3 : wt S2 := by rw [eS2]; exact w1
  have w4 : isL S2 L := by rw [eS2]; exact hL
  have w5 : ext S0 S2 := by rw [eS2]; exact he
  have g6 : hK S2 x0 = 2 := by rw [eS2]; exact hx0
  refine g_iconst (v := 0) C dX1_merge_8 (by decide) ?_
  refine g_istore_n (lv' := [(1, .int 0), (0, .ref x0)]) C dX1_merge_9 rfl (by decide) rfl ?_
  refine g_locals [1, 0] rfl ?_
  obtain ⟨k35, h⟩ := h
  refine t_X1_merge_10 C E hr S0 _ P ?_ k35 x0 0 S2 L w3 w4 w5 g6 h
  · intro y19_x0 Sy19_ Ly19_ hwy19_ hLy19_ hey19_ hy19_x0 h
    replace h := h hy19_x0
    refine g_iconst (v := 1) C dX1_merge_33 (by decide) ?_
    refine g_istore_n (lv' := [(1, .int 1), (0, .ref y19_x0)]) C dX1_merge_34 rfl (by decide) rfl ?_
    refine g_locals [1, 0] rfl ?_
    obtain ⟨k34, h⟩ := h
    refine t_X1_merge_35 C E hr S0  P  k34 y19_x0 1 Sy19_ Ly19_ hwy19_ hLy19_ hey19_ hy19_x0 h
theorem c_X1_merge (l : Launch) (D : va_G) (T : Nat → ClassId) (x0 : Nat) (S : HS) (hx0 : hK S x0 = 2) (P : HS → Prop) (h : wp_X1_merge P x0 S) : CMv l yX1_merge (ws_X1_merge) rm_X1_merge D T [.ref x0] S 0 0 P := gc_metv (by decide) rfl rfl (Nat.le_of_ble_eq_true rfl) (fun p e s m args below meth c A L C E hnm hr hw hL => t_X1_merge C E   hr P x0 S S L rfl hw hL hx0 h)
/-- the single parts -/
def siC : Nat → Nat → List Nat
  | 0, _ => []
  | k + 1, i => 2 ^ i :: siC k (i + 1)
theorem siC_l : ∀ k i, (siC k i).length = k := by
  intro k
  induction k with
  | zero => intro i; rfl
  | succ k ih => intro i; rw [siC, List.length_cons, ih]
theorem siC_g : ∀ k i j, j < k → gl (siC k i) j = 2 ^ (i + j) := by
  intro k
  induction k with
  | zero => intro i j h; omega
  | succ k ih =>
    intro i j h
    rw [siC]
    cases j with
    | zero => rfl
    | succ j => rw [gl_c, ih _ _ (by omega), show i + 1 + j = i + (j + 1) by omega]
theorem rl_me {K : Nat → HS → Prop} {P : HS → Prop} {S0 : HS} {x n : Nat} {a : Nat → Nat} (hO : PlO S0 x a) (hn : n ≤ 8) (h40 : hI S0 40 x = nI n) (h47 : hI S0 47 x = nI n) (hK : ∀ S1, frP S0 S1 x a [] [5] → PlP S1 x a (siC n 0) → K x S1) : ∀ (k i fuel : Nat) (S : HS), i + k = n → k < fuel → frP S0 S x a [] [5] → (∀ j, j < i → hA S (a 5) j = nI (2 ^ j)) → wp_X1_merge_10 K P fuel x (nI i) S := by
  intro k
  induction k with
  | zero =>
    intro i fuel S hi hf hF hh
    have i40 : hI S 40 x = nI n := (hF.2.2.2.2.1 40 x (Or.inr (by decide))).trans h40
    have i47 : hI S 47 x = nI n := (hF.2.2.2.2.1 47 x (Or.inr (by decide))).trans h47
    obtain ⟨f, rfl⟩ : ∃ f, fuel = f + 1 := ⟨fuel - 1, by omega⟩; rw [wp_X1_merge_10]; unfold wb_X1_merge_10; dsimp only
    rw [i40, nI_leI (by omega) (by omega)]
    refine ⟨fun _ => hK S hF ⟨by rw [siC_l]; exact i47, by rw [siC_l]; exact hn, fun j hj => ?_⟩, fun z9 => absurd (by omega) z9⟩
    rw [siC_l] at hj
    rw [siC_g _ _ _ hj, Nat.zero_add]
    have : 2 ^ j ≤ 128 := Nat.pow_le_pow_right (n := 2) (by decide) (show j ≤ 7 by omega)
    exact ⟨hh j (by omega), by omega⟩
  | succ k ih =>
    intro i fuel S hi hf hF hh
    have i40 : hI S 40 x = nI n := (hF.2.2.2.2.1 40 x (Or.inr (by decide))).trans h40
    have hO1 := hO.fr hF
    obtain ⟨f, rfl⟩ : ∃ f, fuel = f + 1 := ⟨fuel - 1, by omega⟩; rw [wp_X1_merge_10]; unfold wb_X1_merge_10; dsimp only
    rw [i40, nI_leI (by omega) (by omega), nI_1, sh1 (by omega)]
    refine ⟨fun z9 => absurd z9 (by omega), fun _ => ⟨a 5, hO1.pts, fun _ => ?_⟩⟩
    rw [hO1.n5, nz_vp (by omega) (by decide), nI_clamp (n := i) (by omega)]
    refine ⟨by omega, fun S13 e13 v18 e18 => ?_⟩
    subst e18
    have F13 : frP S0 S13 x a [] [5] := by rw [e13]; exact hF.A 5 _ _ (by decide)
    refine ih (i + 1) f S13 (by omega) (by omega) F13 (fun j hj => ?_)
    by_cases c : j = i
    · subst c; rw [e13, putA_s]
    · rw [e13, putA_n _ _ c]; exact hh j (by omega)
theorem rl_mr {P : HS → Prop} {S0 : HS} {x n : Nat} {a : Nat → Nat} {R : List Nat} (hO : PlO S0 x a) (hn : n ≤ 8) (h40 : hI S0 40 x = nI n) (hT : ∀ p, 0 < p → p < 2 ^ n → hA S0 (a 1) p = -1 ∨ 0 ≤ hA S0 (a 1) p) (hP : ∀ S1, frP S0 S1 x a [47] [5] → PlP S1 x a R → P S1) : ∀ (k i fuel : Nat) (G : List Nat) (S : HS), i + k = n → k < fuel → frP S0 S x a [47] [5] → PlP S x a G → sbL G (2 ^ n - 1) → mgL (hA S0 (a 1)) k G = R → wp_X1_merge_35 P fuel x (nI i) S := by
  intro k
  induction k with
  | zero =>
    intro i fuel G S hi hf hF hG hs9 hR
    have i40 : hI S 40 x = nI n := (hF.2.2.2.2.1 40 x (Or.inr (by decide))).trans h40
    obtain ⟨f, rfl⟩ : ∃ f, fuel = f + 1 := ⟨fuel - 1, by omega⟩; rw [wp_X1_merge_35]; unfold wb_X1_merge_35; dsimp only
    rw [i40, nI_leI (by omega) (by omega)]
    exact ⟨fun _ => hP S hF (by rw [← hR]; exact hG), fun z9 => absurd (by omega) z9⟩
  | succ k ih =>
    intro i fuel G S hi hf hF hG hs9 hR
    have i40 : hI S 40 x = nI n := (hF.2.2.2.2.1 40 x (Or.inr (by decide))).trans h40
    have tT : hA S (a 1) = hA S0 (a 1) := hF.2.2.2.2.2 _ (fun j hj => hO.ne (by omega) (by
      simp only [List.mem_cons, List.not_mem_nil, or_false] at hj; omega) (by
      simp only [List.mem_cons, List.not_mem_nil, or_false] at hj; omega))
    rw [mgL] at hR
    obtain ⟨f, rfl⟩ : ∃ f, fuel = f + 1 := ⟨fuel - 1, by omega⟩; rw [wp_X1_merge_35]; unfold wb_X1_merge_35; dsimp only
    rw [i40, nI_leI (by omega) (by omega), nI_1]
    refine ⟨fun z9 => absurd z9 (by omega), fun _ => ⟨a, G, ⟨hO.fr hF, hG, by
      rw [tT]
      exact fun i j hi hj => hT _ (or_pos (hs9 i hi).1) (by
        have := sub_le (sub_or (hs9 i hi).2 (hs9 j hj).2)
        have := Nat.two_pow_pos n
        omega)⟩, fun v26 S21 _ h21 => ?_⟩⟩
    rw [tT] at h21
    obtain ⟨d1, d2⟩ := h21
    cases e9 : (fpF (hA S0 (a 1)) G).2 with
    | none =>
      obtain ⟨v0, eS⟩ := d1 e9
      subst eS
      rw [e9] at hR
      refine ⟨fun z => absurd v0 z, fun _ => hP S21 hF (by rw [← hR]; exact hG)⟩
    | some op =>
      obtain ⟨o, p⟩ := op
      obtain ⟨v1, F1, G1⟩ := d2 o p e9
      rw [e9] at hR
      rw [v1]
      refine ⟨fun _ v30 e30 => ?_, fun z => absurd z (by decide)⟩
      subst e30
      exact ih (i + 1) f _ S21 (by omega) (by omega) (hF.tr F1 (fun _ h => h) (fun _ h => h) (fun _ h => h) (fun _ h => h)) G1 (hs9.mg (fpF_ok e9).1 (fpF_ok e9).2.1) hR
theorem siC_sb (n : Nat) : sbL (siC n 0) (2 ^ n - 1) := fun i hi => by
  rw [siC_l] at hi
  rw [siC_g n 0 i hi, Nat.zero_add]
  refine ⟨Nat.two_pow_pos _, sub_tb.mpr fun j hj => ?_⟩
  rw [Nat.testBit_two_pow] at hj
  rw [Nat.testBit_two_pow_sub_one, ← of_decide_eq_true hj, decide_eq_true hi]
theorem k_X1_merge (l : Launch) (D : va_G) (T : Nat → ClassId) (x0 : Nat) (S : HS) (e0 : Nat → Nat) (e1 : Nat) (hx0 : hK S x0 = 2) (h : PlO S x0 e0 ∧ hI S 40 x0 = nI e1 ∧ e1 ≤ 8 ∧ ∀ p, 0 < p → p < 2 ^ e1 → hA S (e0 1) p = -1 ∨ 0 ≤ hA S (e0 1) p) : CMv l yX1_merge (ws_X1_merge) rm_X1_merge D T [.ref x0] S 0 0 (fun S1 => (frP S S1 x0 e0 [47] [5] ∧ PlP S1 x0 e0 (mgL (hA S (e0 1)) (e1 - 1) (siC e1 0)))) := c_X1_merge l D T x0 S hx0 _ <|
  (by
    obtain ⟨hO, h40, hn, hT⟩ := h
    unfold wp_X1_merge
    intro S2 e2
    rw [h40] at e2
    have F2 : frP S S2 x0 e0 [47] [5] := by rw [e2]; exact frP.rf.I 47 _ (by decide)
    have i47 : hI S2 47 x0 = nI e1 := by rw [e2]; exact putI_s _ _ _ _
    have i40 : hI S2 40 x0 = nI e1 := by rw [e2, putI_i _ _ _ (by decide)]; exact h40
    have a2 : hA S2 (e0 1) = hA S (e0 1) := by rw [e2]; rfl
    have O2 := hO.fr F2
    refine ⟨20, rl_me O2 hn i40 i47 (fun S1 F1 P1 => ?_) e1 0 20 S2 (by omega) (by omega) frP.rf (fun j hj => absurd hj (Nat.not_lt_zero _))⟩
    intro _
    have j40 : hI S1 40 x0 = nI e1 := (F1.2.2.2.2.1 40 x0 (Or.inr (by decide))).trans i40
    have a1 : hA S1 (e0 1) = hA S (e0 1) := (F1.2.2.2.2.2 _ (fun j hj => hO.ne (by omega) (by
      simp only [List.mem_cons, List.not_mem_nil, or_false] at hj; omega) (by
      simp only [List.mem_cons, List.not_mem_nil, or_false] at hj; omega))).trans a2
    have F21 : frP S S1 x0 e0 [47] [5] := F2.tr F1 (fun _ h => h) (by decide) (fun _ h => h) (fun _ h => h)
    rcases Nat.eq_zero_or_pos e1 with z | z
    · subst z
      refine ⟨20, ?_⟩
      rw [wp_X1_merge_35]; unfold wb_X1_merge_35; dsimp only
      rw [j40]
      exact ⟨fun _ => ⟨F21, P1⟩, fun w => absurd (by decide) w⟩
    · refine ⟨20, rl_mr (hO.fr F21) hn j40 (by rw [a1]; exact hT) (fun S9 F9 P9 => ⟨F21.tr F9 (fun _ h => h) (fun _ h => h) (fun _ h => h) (fun _ h => h), P9⟩) (e1 - 1) 1 20 _ S1 (by omega) (by omega) frP.rf P1 (siC_sb e1) (by rw [a1])⟩)

end S_C2E
