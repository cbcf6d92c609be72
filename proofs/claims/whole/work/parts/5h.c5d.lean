section S_C5D
abbrev ws_X4_removeBreak : List Cond := Cond.code yX4_removeBreak cX4_removeBreak 3 (some .boolean) :: W0
abbrev rm_X4_removeBreak : Room := ({ frames := 0, cells := 0, slots := 0, locals := 0 } : Room)
def wb_X4_removeBreak_12 (rec : Nat → Int32 → HS → Prop) (P : Int32 → HS → Prop) (x0 : Nat) (x2 : Int32) (S : HS) : Prop := ((hI S 100 x0) ≤ x2 → (P 1 S)) ∧ (¬ (hI S 100 x0) ≤ x2 → (∃ b9 : Nat, hR S 101 x0 = some b9 ∧ (hK S b9 = 22 → (∃ b12 : Nat, hR S 101 x0 = some b12 ∧ (hK S b12 = 22 → (vp_in (x2 + 1) (hN S b12) ∧ (vp_in x2 (hN S b9) ∧ (∀ S17 : HS, S17 = putA S b9 (Int32.toNatClampNeg x2) (hA S b12 (Int32.toNatClampNeg (x2 + 1))) → (∃ b23 : Nat, hR S17 102 x0 = some b23 ∧ (hK S17 b23 = 22 → (∃ b26 : Nat, hR S17 102 x0 = some b26 ∧ (hK S17 b26 = 22 → (vp_in (x2 + 1) (hN S17 b26) ∧ (vp_in x2 (hN S17 b23) ∧ (∀ S31 : HS, S31 = putA S17 b23 (Int32.toNatClampNeg x2) (hA S17 b26 (Int32.toNatClampNeg (x2 + 1))) → (∀ v36 : Int32, v36 = x2 + 1 → (rec x0 v36 S31)))))))))))))))))
def wp_X4_removeBreak_12 (P : Int32 → HS → Prop) : Nat → Nat → Int32 → HS → Prop
  | 0 => fun _ _ _ => False
  | n + 1 => fun x0 x2 S => wb_X4_removeBreak_12 (wp_X4_removeBreak_12  P n)  P x0 x2 S
set_option maxRecDepth 100000 in
set_option maxHeartbeats 4000000 in
theorem t_X4_removeBreak_12 {p : Program} {l : Launch} {e : Env} {s : State} {m : MethodId} {args : Array Value} {below : List Frame} {meth : Method} {c : Code} {D : va_G} {A : Nat → Prop} {T : Nat → ClassId} (C : GC p s m args meth c cX4_removeBreak "FreightRater$Scale" (ws_X4_removeBreak) 3 D A (zty T)) (E : GE T A s) (hr : meth.sig.returnType = (some .boolean)) (S0 : HS) (P : Int32 → HS → Prop) : ∀ (n : Nat) (x0 : Nat) (x2 : Int32) (S : HS) (L : List Nat), wt S → hL S L → ext S0 S → (hK S x0 = 5) → wp_X4_removeBreak_12  P n x0 x2 S → GW p l e { rm_X4_removeBreak with cells := 0, slots := 0 } s m args below meth c D A 3 0 0 (MQ below (va_Qi (fun v (u : HS × List Nat) => P v u.1 ∧ CO S0 u) (CE D T A) A) args s 0 0 A) (CW T S L) 0 0 12 [(0, .ref x0), (2, .int x2)] [] := by
  have hW : ∀ {w : Cond}, w ∈ W0 → w.before args s = true := fun h => C.2.2.2.2.1 _ (List.mem_cons_of_mem _ h)
  intro n
  induction n with
  | zero => intro x0 x2 S L hw hL he hx0 h; exact h.elim
  | succ n ih =>
    intro x0 x2 S L hw hL he hx0 h
    replace h : wb_X4_removeBreak_12 (wp_X4_removeBreak_12  P n)  P x0 x2 S := h
    unfold wb_X4_removeBreak_12 at h
    refine g_iload_n C dX4_removeBreak_12 rfl 1 rfl ?_
    refine g_aload_n C dX4_removeBreak_13 rfl 0 rfl ?_
    refine gc_getI C iwx_X4 hL hx0 (by decide) (by decide) rfl 0 (by decide) (hW kw_393) rfl rfl rfl dX4_removeBreak_14 ?_
    refine g_icmp_ge (tgt := 54) C dX4_removeBreak_17 (by decide) (fun z7 => ?_) (fun z7 => ?_)
    · replace h := h.1 z7
      refine g_iconst (v := 1) C dX4_removeBreak_54 (by decide) ?_
      exact gc_zret C vz1 hw hL he hr dX4_removeBreak_55 h
    · replace h := h.2 z7
      refine g_aload_n C dX4_removeBreak_20 rfl 0 rfl ?_
      refine gc_getR C hw iwx_X4 hL hx0 (by decide) (by decide) rfl 1 (by decide) (hW kw_397) rfl rfl rfl dX4_removeBreak_21 (fun o8 eo8 ko8 => ?_)
      obtain ⟨b9, hb9, h⟩ := h
      have g10 : hK S b9 = 22 := ko8 b9 (eo8.trans hb9)
      replace h := h g10
      refine g_opt (eo8.trans hb9) ?_
      refine g_iload_n C dX4_removeBreak_24 rfl 1 rfl ?_
      refine g_aload_n C dX4_removeBreak_25 rfl 0 rfl ?_
      refine gc_getR C hw iwx_X4 hL hx0 (by decide) (by decide) rfl 1 (by decide) (hW kw_397) rfl rfl rfl dX4_removeBreak_26 (fun o11 eo11 ko11 => ?_)
      obtain ⟨b12, hb9, h⟩ := h
      have g13 : hK S b12 = 22 := ko11 b12 (eo11.trans hb9)
      replace h := h g13
      refine g_opt (eo11.trans hb9) ?_
      refine g_iload_n C dX4_removeBreak_29 rfl 1 rfl ?_
      refine g_iconst (v := 1) C dX4_removeBreak_30 (by decide) ?_
      refine g_iadd C dX4_removeBreak_31 ?_
      obtain ⟨g14, h⟩ := h
      refine gc_iald C hL g13 g14 dX4_removeBreak_32 ?_
      obtain ⟨g15, h⟩ := h
      refine gc_iast C hL g10 g15 dX4_removeBreak_33 ?_
      have w16 := wt_putA hw (Int32.toNatClampNeg x2) (hA S b12 (Int32.toNatClampNeg (x2 + 1))) (k_ne g10 (by decide))
      refine gc_nS (fun S17 eS17 => ?_)
      replace h := h S17 eS17
      have w18 : wt S17 := by rw [eS17]; exact w16
      have w19 : isL S17 L := by rw [eS17]; exact hL
      have w20 : ext S0 S17 := by rw [eS17]; exact he
      have g21 : hK S17 x0 = 5 := by rw [eS17]; exact hx0
      refine g_aload_n C dX4_removeBreak_34 rfl 0 rfl ?_
      refine gc_getR C w18 iwx_X4 w19 g21 (by decide) (by decide) rfl 2 (by decide) (hW kw_400) rfl rfl rfl dX4_removeBreak_35 (fun o22 eo22 ko22 => ?_)
      obtain ⟨b23, hb9, h⟩ := h
      have g24 : hK S17 b23 = 22 := ko22 b23 (eo22.trans hb9)
      replace h := h g24
      refine g_opt (eo22.trans hb9) ?_
      refine g_iload_n C dX4_removeBreak_38 rfl 1 rfl ?_
      refine g_aload_n C dX4_removeBreak_39 rfl 0 rfl ?_
      refine gc_getR C w18 iwx_X4 w19 g21 (by decide) (by decide) rfl 2 (by decide) (hW kw_400) rfl rfl rfl dX4_removeBreak_40 (fun o25 eo25 ko25 => ?_)
      obtain ⟨b26, hb9, h⟩ := h
      have g27 : hK S17 b26 = 22 := ko25 b26 (eo25.trans hb9)
      replace h := h g27
      refine g_opt (eo25.trans hb9) ?_
      refine g_iload_n C dX4_removeBreak_43 rfl 1 rfl ?_
      refine g_iconst (v := 1) C dX4_removeBreak_44 (by decide) ?_
      refine g_iadd C dX4_removeBreak_45 ?_
      obtain ⟨g28, h⟩ := h
      refine gc_iald C w19 g27 g28 dX4_removeBreak_46 ?_
      obtain ⟨g29, h⟩ := h
      refine gc_iast C w19 g24 g29 dX4_removeBreak_47 ?_
      have w30 := wt_putA w18 (Int32.toNatClampNeg x2) (hA S17 b26 (Int32.toNatClampNeg (x2 + 1))) (k_ne g24 (by decide))
      refine gc_nS (fun S31 eS31 => ?_)
      replace h := h S31 eS31
      have w32 : wt S31 := by rw [eS31]; exact w30
      have w33 : isL S31 L := by rw [eS31]; exact w19
      have w34 : ext S0 S31 := by rw [eS31]; exact w20
      have g35 : hK S31 x0 = 5 := by rw [eS31]; exact g21
      obtain ⟨v36, ev36⟩ : ∃ y : Int32, y = x2 + 1 := ⟨_, rfl⟩
      replace h := h v36 ev36
      refine g_iinc (v := v36) (lv' := [(2, .int v36), (0, .ref x0)]) C dX4_removeBreak_48 (j := 1) rfl (by rw [ev36]; rfl) (by decide) rfl ?_
      refine g_goto (tgt := 12) C dX4_removeBreak_51 (by decide) ?_
      refine g_locals [1, 0] rfl ?_
      exact ih x0 v36 S31 L w32 w33 w34 g35 h
def wp_X4_removeBreak (P : Int32 → HS → Prop) (x0 : Nat) (p0 : Int32) (S : HS) : Prop := ∀ S2 : HS, S2 = putI S 100 x0 ((hI S 100 x0) - 1) → (∃ k37 : Nat, wp_X4_removeBreak_12  P k37 x0 p0 S2)
set_option maxRecDepth 100000 in
set_option maxHeartbeats 4000000 in
theorem t_X4_removeBreak {p : Program} {l : Launch} {e : Env} {s : State} {m : MethodId} {args : Array Value} {below : List Frame} {meth : Method} {c : Code} {D : va_G} {A : Nat → Prop} {T : Nat → ClassId} (C : GC p s m args meth c cX4_removeBreak "FreightRater$Scale" (ws_X4_removeBreak) 3 D A (zty T)) (E : GE T A s) (hr : meth.sig.returnType = (some .boolean)) (P : Int32 → HS → Prop) : ∀ (x0 : Nat) (p0 : Int32) (S0 S : HS) (L : List Nat), S0 = S → wt S → hL S L → (hK S x0 = 5) → wp_X4_removeBreak P x0 p0 S → GW p l e { rm_X4_removeBreak with cells := 0, slots := 0 } s m args below meth c D A 3 0 0 (MQ below (va_Qi (fun v (u : HS × List Nat) => P v u.1 ∧ CO S0 u) (CE D T A) A) args s 0 0 A) (CW T S L) 0 0 0 [(0, .ref x0), (1, .int p0)] [] := by
  have hW : ∀ {w : Cond}, w ∈ W0 → w.before args s = true := fun h => C.2.2.2.2.1 _ (List.mem_cons_of_mem _ h)
  intro x0 p0 S0 S L hS0 hw hL hx0 h
  have he : ext S0 S := by rw [hS0]; exact ext_rf
  unfold wp_X4_removeBreak at h
  refine g_aload_n C dX4_removeBreak_0 rfl 0 rfl ?_
  refine g_dup C dX4_removeBreak_1 rfl ?_
  refine gc_getI C iwx_X4 hL hx0 (by decide) (by decide) rfl 0 (by decide) (hW kw_393) rfl rfl rfl dX4_removeBreak_2 ?_
  refine g_iconst (v := 1) C dX4_removeBreak_5 (by decide) ?_
  refine g_isub C dX4_removeBreak_6 ?_
  refine gc_putI C iwx_X4 hL hx0 (by decide) (by decide) rfl 0 (by decide) (hW kw_393) rfl tyX4 tyX4_ok nmX4 rfl rfl rfl rfl rfl dX4_removeBreak_7 ?_
  have w1 := wt_putI hw 100 ((hI S 100 x0) - 1) (k_ne hx0 (by decide))
  refine gc_nS (fun S2 eS2 => ?_)
  replace h := h S2 eS2
  have w3 : wt S2 := by rw [eS2]; exact w1
  have w4 : isL S2 L := by rw [eS2]; exact hL
  have w5 : ext S0 S2 := by rw [eS2]; exact he
  have g6 : hK S2 x0 = 5 := by rw [eS2]; exact hx0
  refine g_iload_n C dX4_removeBreak_10 rfl 1 rfl ?_
  refine g_istore_n (lv' := [(2, .int p0), (0, .ref x0), (1, .int p0)]) C dX4_removeBreak_11 rfl (by decide) rfl ?_
  refine g_locals [1, 0] rfl ?_
  obtain ⟨k37, h⟩ := h
  refine t_X4_removeBreak_12 C E hr S0  P  k37 x0 p0 S2 L w3 w4 w5 g6 h
theorem c_X4_removeBreak (l : Launch) (D : va_G) (T : Nat → ClassId) (x0 : Nat) (p0 : Int32) (S : HS) (hx0 : hK S x0 = 5) (P : Int32 → HS → Prop) (h : wp_X4_removeBreak P x0 p0 S) : CMi l yX4_removeBreak (ws_X4_removeBreak) rm_X4_removeBreak D T [.ref x0, .int p0] S 0 0 P := gc_meti (by decide) rfl rfl (Nat.le_of_ble_eq_true rfl) (fun p e s m args below meth c A L C E hnm hr hw hL => t_X4_removeBreak C E   hr P x0 p0 S S L rfl hw hL hx0 h)
/-- a scale's object with its rows -/
def ScO (S : HS) (x w p c : Nat) : Prop := hR S 101 x = some w ∧ hR S 102 x = some p ∧ hK S w = 22 ∧ hN S w = 5 ∧ hK S p = 22 ∧ hN S p = 5 ∧ w ≠ p ∧ hI S 100 x = nI c
/-- only a scale's count and rows change -/
def frA (S S1 : HS) (x w p : Nat) : Prop := hK S1 = hK S ∧ hN S1 = hN S ∧ hR S1 = hR S ∧ hB S1 = hB S ∧ (∀ i b, ¬ (b = x ∧ i = 100) → hI S1 i b = hI S i b) ∧ ∀ b, b ≠ w → b ≠ p → hA S1 b = hA S b
theorem frA.rf {S : HS} {x w p : Nat} : frA S S x w p := ⟨rfl, rfl, rfl, rfl, fun _ _ _ => rfl, fun _ _ _ => rfl⟩
theorem frA.tr {S S1 S2 : HS} {x w p : Nat} (h : frA S S1 x w p) (g : frA S1 S2 x w p) : frA S S2 x w p := ⟨g.1.trans h.1, g.2.1.trans h.2.1, g.2.2.1.trans h.2.2.1, g.2.2.2.1.trans h.2.2.2.1, fun i b hb => (g.2.2.2.2.1 i b hb).trans (h.2.2.2.2.1 i b hb), fun b h1 h2 => (g.2.2.2.2.2 b h1 h2).trans (h.2.2.2.2.2 b h1 h2)⟩
theorem frA.I {S S1 : HS} {x w p : Nat} (h : frA S S1 x w p) (v : Int32) : frA S (putI S1 100 x v) x w p := ⟨h.1, h.2.1, h.2.2.1, h.2.2.2.1, fun i b hb => by rw [px_II, if_neg (fun z => hb ⟨z.2, z.1⟩)]; exact h.2.2.2.2.1 i b hb, h.2.2.2.2.2⟩
theorem frA.W {S S1 : HS} {x w p : Nat} (h : frA S S1 x w p) (n : Nat) (v : Int32) : frA S (putA S1 w n v) x w p := ⟨h.1, h.2.1, h.2.2.1, h.2.2.2.1, h.2.2.2.2.1, fun b h1 h2 => by rw [putA_o _ _ _ h1]; exact h.2.2.2.2.2 b h1 h2⟩
theorem frA.P {S S1 : HS} {x w p : Nat} (h : frA S S1 x w p) (n : Nat) (v : Int32) : frA S (putA S1 p n v) x w p := ⟨h.1, h.2.1, h.2.2.1, h.2.2.2.1, h.2.2.2.2.1, fun b h1 h2 => by rw [putA_o _ _ _ h2]; exact h.2.2.2.2.2 b h1 h2⟩
theorem ScO.fr {S S1 : HS} {x w p c c1 : Nat} (h : ScO S x w p c) (hf : frA S S1 x w p) (hc : hI S1 100 x = nI c1) : ScO S1 x w p c1 := by
  obtain ⟨h1, h2, h3, h4, h5, h6, h7, h8⟩ := h
  obtain ⟨f1, f2, f3, f4, f5, f6⟩ := hf
  exact ⟨by rw [f3]; exact h1, by rw [f3]; exact h2, by rw [f1]; exact h3, by rw [f2]; exact h4, by rw [f1]; exact h5, by rw [f2]; exact h6, h7, hc⟩
theorem rl_rb {P : Int32 → HS → Prop} {S0 : HS} {x w p c i : Nat} (hO : ScO S0 x w p c) (hc : 0 < c ∧ c ≤ 5) (hP : ∀ S1, frA S0 S1 x w p → hI S1 100 x = nI (c - 1) → (∀ j, hA S1 w j = if i ≤ j ∧ j < c - 1 then hA S0 w (j + 1) else hA S0 w j) → (∀ j, hA S1 p j = if i ≤ j ∧ j < c - 1 then hA S0 p (j + 1) else hA S0 p j) → P 1 S1) : ∀ (m k fuel : Nat) (S : HS), k + m = c - 1 → i ≤ k → m < fuel → frA S0 S x w p → hI S 100 x = nI (c - 1) → (∀ j, hA S w j = if i ≤ j ∧ j < k then hA S0 w (j + 1) else hA S0 w j) → (∀ j, hA S p j = if i ≤ j ∧ j < k then hA S0 p (j + 1) else hA S0 p j) → wp_X4_removeBreak_12 P fuel x (nI k) S := by
  intro m
  induction m with
  | zero =>
    intro k fuel S hk hi hf hF h1 hw hp
    obtain ⟨f, rfl⟩ : ∃ f, fuel = f + 1 := ⟨fuel - 1, by omega⟩; rw [wp_X4_removeBreak_12]; unfold wb_X4_removeBreak_12; dsimp only
    rw [h1, nI_leI (by omega) (by omega)]
    rw [show k = c - 1 by omega] at hw hp
    exact ⟨fun _ => hP S hF h1 hw hp, fun z9 => absurd (by omega) z9⟩
  | succ m ih =>
    intro k fuel S hk hi hf hF h1 hw hp
    have hO1 := hO.fr hF h1
    obtain ⟨f, rfl⟩ : ∃ f, fuel = f + 1 := ⟨fuel - 1, by omega⟩; rw [wp_X4_removeBreak_12]; unfold wb_X4_removeBreak_12; dsimp only
    rw [h1, nI_leI (by omega) (by omega), nI_1]
    refine ⟨fun z9 => absurd z9 (by omega), fun _ => ⟨w, hO1.1, fun _ => ⟨w, hO1.1, fun _ => ?_⟩⟩⟩
    rw [hO1.2.2.2.1, nz_vp (by omega) (by decide), nz_vp (by omega) (by decide), nI_clamp (n := k) (by omega), nI_clamp (n := k + 1) (by omega)]
    refine ⟨by omega, by omega, fun S17 e17 => ?_⟩
    have F17 : frA S0 S17 x w p := by rw [e17]; exact hF.W _ _
    have O17 : ScO S17 x w p (c - 1) := hO.fr F17 (by rw [e17]; exact h1)
    refine ⟨p, O17.2.1, fun _ => ⟨p, O17.2.1, fun _ => ?_⟩⟩
    rw [O17.2.2.2.2.2.1, nz_vp (by omega) (by decide), nz_vp (by omega) (by decide)]
    refine ⟨by omega, by omega, fun S31 e31 v36 e36 => ?_⟩
    subst e36
    have hwp : w ≠ p := hO.2.2.2.2.2.2.1
    have a1 : hA S31 w = hA S17 w := by rw [e31]; exact putA_o _ _ _ hwp
    have a2 : hA S17 p = hA S p := by rw [e17]; exact putA_o _ _ _ (fun z => hwp z.symm)
    refine ih (k + 1) f S31 (by omega) (by omega) (by omega) (by rw [e31]; exact F17.P _ _) (by rw [e31, e17]; exact h1) (fun j => ?_) (fun j => ?_)
    · rw [a1, e17]
      by_cases g : j = k
      · rw [g, putA_s, if_pos ⟨hi, by omega⟩, hw, if_neg (by omega)]
      · rw [putA_n _ _ g, hw]
        by_cases g2 : i ≤ j ∧ j < k
        · rw [if_pos g2, if_pos ⟨g2.1, by omega⟩]
        · rw [if_neg g2, if_neg (by omega)]
    · rw [e31]
      by_cases g : j = k
      · rw [g, putA_s, if_pos ⟨hi, by omega⟩, a2, hp, if_neg (by omega)]
      · rw [putA_n _ _ g, a2, hp]
        by_cases g2 : i ≤ j ∧ j < k
        · rw [if_pos g2, if_pos ⟨g2.1, by omega⟩]
        · rw [if_neg g2, if_neg (by omega)]
theorem k_X4_removeBreak (l : Launch) (D : va_G) (T : Nat → ClassId) (x0 : Nat) (p0 : Int32) (S : HS) (e0 : Nat) (e1 : Nat) (e2 : Nat) (e3 : Nat) (hx0 : hK S x0 = 5) (h : ScO S x0 e0 e1 e2 ∧ e2 ≤ 5 ∧ e3 < e2 ∧ p0 = nI e3) : CMi l yX4_removeBreak (ws_X4_removeBreak) rm_X4_removeBreak D T [.ref x0, .int p0] S 0 0 (fun v S1 => (v = 1 ∧ frA S S1 x0 e0 e1 ∧ hI S1 100 x0 = nI (e2 - 1) ∧ (∀ j, hA S1 e0 j = if e3 ≤ j ∧ j < e2 - 1 then hA S e0 (j + 1) else hA S e0 j) ∧ (∀ j, hA S1 e1 j = if e3 ≤ j ∧ j < e2 - 1 then hA S e1 (j + 1) else hA S e1 j))) := c_X4_removeBreak l D T x0 p0 S hx0 _ <|
  (by
    obtain ⟨hO, hc, hi, e9⟩ := h
    subst e9
    unfold wp_X4_removeBreak
    intro S2 eS
    have h100 := hO.2.2.2.2.2.2.2
    rw [h100, show nI e2 - 1 = nI (e2 - 1) from sub_k (b := 1) (by omega)] at eS
    have F2 : frA S S2 x0 e0 e1 := by rw [eS]; exact frA.rf.I _
    refine ⟨20, rl_rb (i := e3) hO ⟨by omega, hc⟩ (fun S1 f1 g1 g2 g3 => ⟨rfl, f1, g1, g2, g3⟩) (e2 - 1 - e3) e3 20 S2 (by omega) (by omega) (by omega) F2 (by rw [eS]; exact putI_s _ _ _ _) (fun j => ?_) (fun j => ?_)⟩
    · rw [if_neg (by omega), eS, px_AI]
    · rw [if_neg (by omega), eS, px_AI])
abbrev ws_X4_openGap : List Cond := Cond.code yX4_openGap cX4_openGap 3 (some .boolean) :: W0
abbrev rm_X4_openGap : Room := ({ frames := 0, cells := 0, slots := 0, locals := 0 } : Room)
def wb_X4_openGap_15 (rec : Nat → Int32 → Int32 → HS → Prop) (P : Int32 → HS → Prop) (x0 : Nat) (x1 : Int32) (x2 : Int32) (S : HS) : Prop := (x2 ≤ x1 → (∀ S5 : HS, S5 = putI S 100 x0 ((hI S 100 x0) + 1) → (P 1 S5))) ∧ (¬ x2 ≤ x1 → (∃ b11 : Nat, hR S 101 x0 = some b11 ∧ (hK S b11 = 22 → (∃ b14 : Nat, hR S 101 x0 = some b14 ∧ (hK S b14 = 22 → (vp_in (x2 - 1) (hN S b14) ∧ (vp_in x2 (hN S b11) ∧ (∀ S19 : HS, S19 = putA S b11 (Int32.toNatClampNeg x2) (hA S b14 (Int32.toNatClampNeg (x2 - 1))) → (∃ b25 : Nat, hR S19 102 x0 = some b25 ∧ (hK S19 b25 = 22 → (∃ b28 : Nat, hR S19 102 x0 = some b28 ∧ (hK S19 b28 = 22 → (vp_in (x2 - 1) (hN S19 b28) ∧ (vp_in x2 (hN S19 b25) ∧ (∀ S33 : HS, S33 = putA S19 b25 (Int32.toNatClampNeg x2) (hA S19 b28 (Int32.toNatClampNeg (x2 - 1))) → (∀ v38 : Int32, v38 = x2 + (-1) → (rec x0 x1 v38 S33)))))))))))))))))
def wp_X4_openGap_15 (P : Int32 → HS → Prop) : Nat → Nat → Int32 → Int32 → HS → Prop
  | 0 => fun _ _ _ _ => False
  | n + 1 => fun x0 x1 x2 S => wb_X4_openGap_15 (wp_X4_openGap_15  P n)  P x0 x1 x2 S
set_option maxRecDepth 100000 in
set_option maxHeartbeats 4000000 in
theorem t_X4_openGap_15 {p : Program} {l : Launch} {e : Env} {s : State} {m : MethodId} {args : Array Value} {below : List Frame} {meth : Method} {c : Code} {D : va_G} {A : Nat → Prop} {T : Nat → ClassId} (C : GC p s m args meth c cX4_openGap "FreightRater$Scale" (ws_X4_openGap) 3 D A (zty T)) (E : GE T A s) (hr : meth.sig.returnType = (some .boolean)) (S0 : HS) (P : Int32 → HS → Prop) : ∀ (n : Nat) (x0 : Nat) (x1 : Int32) (x2 : Int32) (S : HS) (L : List Nat), wt S → hL S L → ext S0 S → (hK S x0 = 5) → wp_X4_openGap_15  P n x0 x1 x2 S → GW p l e { rm_X4_openGap with cells := 0, slots := 0 } s m args below meth c D A 3 0 0 (MQ below (va_Qi (fun v (u : HS × List Nat) => P v u.1 ∧ CO S0 u) (CE D T A) A) args s 0 0 A) (CW T S L) 0 0 15 [(0, .ref x0), (1, .int x1), (2, .int x2)] [] := by
  have hW : ∀ {w : Cond}, w ∈ W0 → w.before args s = true := fun h => C.2.2.2.2.1 _ (List.mem_cons_of_mem _ h)
  intro n
  induction n with
  | zero => intro x0 x1 x2 S L hw hL he hx0 h; exact h.elim
  | succ n ih =>
    intro x0 x1 x2 S L hw hL he hx0 h
    replace h : wb_X4_openGap_15 (wp_X4_openGap_15  P n)  P x0 x1 x2 S := h
    unfold wb_X4_openGap_15 at h
    refine g_iload_n C dX4_openGap_15 rfl 2 rfl ?_
    refine g_iload_n C dX4_openGap_16 rfl 1 rfl ?_
    refine g_icmp_le (tgt := 54) C dX4_openGap_17 (by decide) (fun z3 => ?_) (fun z3 => ?_)
    · replace h := h.1 z3
      refine g_aload_n C dX4_openGap_54 rfl 0 rfl ?_
      refine g_dup C dX4_openGap_55 rfl ?_
      refine gc_getI C iwx_X4 hL hx0 (by decide) (by decide) rfl 0 (by decide) (hW kw_393) rfl rfl rfl dX4_openGap_56 ?_
      refine g_iconst (v := 1) C dX4_openGap_59 (by decide) ?_
      refine g_iadd C dX4_openGap_60 ?_
      refine gc_putI C iwx_X4 hL hx0 (by decide) (by decide) rfl 0 (by decide) (hW kw_393) rfl tyX4 tyX4_ok nmX4 rfl rfl rfl rfl rfl dX4_openGap_61 ?_
      have w4 := wt_putI hw 100 ((hI S 100 x0) + 1) (k_ne hx0 (by decide))
      refine gc_nS (fun S5 eS5 => ?_)
      replace h := h S5 eS5
      have w6 : wt S5 := by rw [eS5]; exact w4
      have w7 : isL S5 L := by rw [eS5]; exact hL
      have w8 : ext S0 S5 := by rw [eS5]; exact he
      have g9 : hK S5 x0 = 5 := by rw [eS5]; exact hx0
      refine g_iconst (v := 1) C dX4_openGap_64 (by decide) ?_
      exact gc_zret C vz1 w6 w7 w8 hr dX4_openGap_65 h
    · replace h := h.2 z3
      refine g_aload_n C dX4_openGap_20 rfl 0 rfl ?_
      refine gc_getR C hw iwx_X4 hL hx0 (by decide) (by decide) rfl 1 (by decide) (hW kw_397) rfl rfl rfl dX4_openGap_21 (fun o10 eo10 ko10 => ?_)
      obtain ⟨b11, hb9, h⟩ := h
      have g12 : hK S b11 = 22 := ko10 b11 (eo10.trans hb9)
      replace h := h g12
      refine g_opt (eo10.trans hb9) ?_
      refine g_iload_n C dX4_openGap_24 rfl 2 rfl ?_
      refine g_aload_n C dX4_openGap_25 rfl 0 rfl ?_
      refine gc_getR C hw iwx_X4 hL hx0 (by decide) (by decide) rfl 1 (by decide) (hW kw_397) rfl rfl rfl dX4_openGap_26 (fun o13 eo13 ko13 => ?_)
      obtain ⟨b14, hb9, h⟩ := h
      have g15 : hK S b14 = 22 := ko13 b14 (eo13.trans hb9)
      replace h := h g15
      refine g_opt (eo13.trans hb9) ?_
      refine g_iload_n C dX4_openGap_29 rfl 2 rfl ?_
      refine g_iconst (v := 1) C dX4_openGap_30 (by decide) ?_
      refine g_isub C dX4_openGap_31 ?_
      obtain ⟨g16, h⟩ := h
      refine gc_iald C hL g15 g16 dX4_openGap_32 ?_
      obtain ⟨g17, h⟩ := h
      refine gc_iast C hL g12 g17 dX4_openGap_33 ?_
      have w18 := wt_putA hw (Int32.toNatClampNeg x2) (hA S b14 (Int32.toNatClampNeg (x2 - 1))) (k_ne g12 (by decide))
      refine gc_nS (fun S19 eS19 => ?_)
      replace h := h S19 eS19
      have w20 : wt S19 := by rw [eS19]; exact w18
      have w21 : isL S19 L := by rw [eS19]; exact hL
      have w22 : ext S0 S19 := by rw [eS19]; exact he
      have g23 : hK S19 x0 = 5 := by rw [eS19]; exact hx0
      refine g_aload_n C dX4_openGap_34 rfl 0 rfl ?_
      refine gc_getR C w20 iwx_X4 w21 g23 (by decide) (by decide) rfl 2 (by decide) (hW kw_400) rfl rfl rfl dX4_openGap_35 (fun o24 eo24 ko24 => ?_)
      obtain ⟨b25, hb9, h⟩ := h
      have g26 : hK S19 b25 = 22 := ko24 b25 (eo24.trans hb9)
      replace h := h g26
      refine g_opt (eo24.trans hb9) ?_
      refine g_iload_n C dX4_openGap_38 rfl 2 rfl ?_
      refine g_aload_n C dX4_openGap_39 rfl 0 rfl ?_
      refine gc_getR C w20 iwx_X4 w21 g23 (by decide) (by decide) rfl 2 (by decide) (hW kw_400) rfl rfl rfl dX4_openGap_40 (fun o27 eo27 ko27 => ?_)
      obtain ⟨b28, hb9, h⟩ := h
      have g29 : hK S19 b28 = 22 := ko27 b28 (eo27.trans hb9)
      replace h := h g29
      refine g_opt (eo27.trans hb9) ?_
      refine g_iload_n C dX4_openGap_43 rfl 2 rfl ?_
      refine g_iconst (v := 1) C dX4_openGap_44 (by decide) ?_
      refine g_isub C dX4_openGap_45 ?_
      obtain ⟨g30, h⟩ := h
      refine gc_iald C w21 g29 g30 dX4_openGap_46 ?_
      obtain ⟨g31, h⟩ := h
      refine gc_iast C w21 g26 g31 dX4_openGap_47 ?_
      have w32 := wt_putA w20 (Int32.toNatClampNeg x2) (hA S19 b28 (Int32.toNatClampNeg (x2 - 1))) (k_ne g26 (by decide))
      refine gc_nS (fun S33 eS33 => ?_)
      replace h := h S33 eS33
      have w34 : wt S33 := by rw [eS33]; exact w32
      have w35 : isL S33 L := by rw [eS33]; exact w21
      have w36 : ext S0 S33 := by rw [eS33]; exact w22
      have g37 : hK S33 x0 = 5 := by rw [eS33]; exact g23
      obtain ⟨v38, ev38⟩ : ∃ y : Int32, y = x2 + (-1) := ⟨_, rfl⟩
      replace h := h v38 ev38
      refine g_iinc (v := v38) (lv' := [(2, .int v38), (0, .ref x0), (1, .int x1)]) C dX4_openGap_48 (j := 2) rfl (by rw [ev38]; rfl) (by decide) rfl ?_
      refine g_goto (tgt := 15) C dX4_openGap_51 (by decide) ?_
      refine g_locals [1, 2, 0] rfl ?_
      exact ih x0 x1 v38 S33 L w34 w35 w36 g37 h
def wp_X4_openGap (P : Int32 → HS → Prop) (x0 : Nat) (p0 : Int32) (S : HS) : Prop := ((hI S 100 x0) < 5 → (∀ v2 : Int32, v2 = (hI S 100 x0) → (∃ k39 : Nat, wp_X4_openGap_15  P k39 x0 p0 v2 S))) ∧ (¬ (hI S 100 x0) < 5 → (P 0 S))
set_option maxRecDepth 100000 in
set_option maxHeartbeats 4000000 in
theorem t_X4_openGap {p : Program} {l : Launch} {e : Env} {s : State} {m : MethodId} {args : Array Value} {below : List Frame} {meth : Method} {c : Code} {D : va_G} {A : Nat → Prop} {T : Nat → ClassId} (C : GC p s m args meth c cX4_openGap "FreightRater$Scale" (ws_X4_openGap) 3 D A (zty T)) (E : GE T A s) (hr : meth.sig.returnType = (some .boolean)) (P : Int32 → HS → Prop) : ∀ (x0 : Nat) (p0 : Int32) (S0 S : HS) (L : List Nat), S0 = S → wt S → hL S L → (hK S x0 = 5) → wp_X4_openGap P x0 p0 S → GW p l e { rm_X4_openGap with cells := 0, slots := 0 } s m args below meth c D A 3 0 0 (MQ below (va_Qi (fun v (u : HS × List Nat) => P v u.1 ∧ CO S0 u) (CE D T A) A) args s 0 0 A) (CW T S L) 0 0 0 [(0, .ref x0), (1, .int p0)] [] := by
  have hW : ∀ {w : Cond}, w ∈ W0 → w.before args s = true := fun h => C.2.2.2.2.1 _ (List.mem_cons_of_mem _ h)
  intro x0 p0 S0 S L hS0 hw hL hx0 h
  have he : ext S0 S := by rw [hS0]; exact ext_rf
  unfold wp_X4_openGap at h
  refine g_aload_n C dX4_openGap_0 rfl 0 rfl ?_
  refine gc_getI C iwx_X4 hL hx0 (by decide) (by decide) rfl 0 (by decide) (hW kw_393) rfl rfl rfl dX4_openGap_1 ?_
  refine g_iconst (v := 5) C dX4_openGap_4 (by decide) ?_
  refine g_icmp_lt (tgt := 10) C dX4_openGap_5 (by decide) (fun z1 => ?_) (fun z1 => ?_)
  · replace h := h.1 z1
    refine g_aload_n C dX4_openGap_10 rfl 0 rfl ?_
    refine gc_getI C iwx_X4 hL hx0 (by decide) (by decide) rfl 0 (by decide) (hW kw_393) rfl rfl rfl dX4_openGap_11 ?_
    refine g_topi (fun v2 ev2 => ?_)
    replace h := h v2 ev2
    refine g_istore_n (lv' := [(2, .int v2), (0, .ref x0), (1, .int p0)]) C dX4_openGap_14 rfl (by decide) rfl ?_
    refine g_locals [1, 2, 0] rfl ?_
    obtain ⟨k39, h⟩ := h
    refine t_X4_openGap_15 C E hr S0  P  k39 x0 p0 v2 S L hw hL he hx0 h
  · replace h := h.2 z1
    refine g_iconst (v := 0) C dX4_openGap_8 (by decide) ?_
    exact gc_zret C vz0 hw hL he hr dX4_openGap_9 h
theorem c_X4_openGap (l : Launch) (D : va_G) (T : Nat → ClassId) (x0 : Nat) (p0 : Int32) (S : HS) (hx0 : hK S x0 = 5) (P : Int32 → HS → Prop) (h : wp_X4_openGap P x0 p0 S) : CMi l yX4_openGap (ws_X4_openGap) rm_X4_openGap D T [.ref x0, .int p0] S 0 0 P := gc_meti (by decide) rfl rfl (Nat.le_of_ble_eq_true rfl) (fun p e s m args below meth c A L C E hnm hr hw hL => t_X4_openGap C E   hr P x0 p0 S S L rfl hw hL hx0 h)
theorem rl_og {P : Int32 → HS → Prop} {S0 : HS} {x w p c i : Nat} (hO : ScO S0 x w p c) (hc : c < 5) (hi : i ≤ c) (hP : ∀ S1, frA S0 S1 x w p → hI S1 100 x = nI (c + 1) → (∀ j, hA S1 w j = if i < j ∧ j ≤ c then hA S0 w (j - 1) else hA S0 w j) → (∀ j, hA S1 p j = if i < j ∧ j ≤ c then hA S0 p (j - 1) else hA S0 p j) → P 1 S1) : ∀ (m k fuel : Nat) (S : HS), i + m = k → k ≤ c → m < fuel → frA S0 S x w p → hI S 100 x = nI c → (∀ j, hA S w j = if k < j ∧ j ≤ c then hA S0 w (j - 1) else hA S0 w j) → (∀ j, hA S p j = if k < j ∧ j ≤ c then hA S0 p (j - 1) else hA S0 p j) → wp_X4_openGap_15 P fuel x (nI i) (nI k) S := by
  intro m
  induction m with
  | zero =>
    intro k fuel S hk hkc hf hF h1 hw hp
    obtain ⟨f, rfl⟩ : ∃ f, fuel = f + 1 := ⟨fuel - 1, by omega⟩; rw [wp_X4_openGap_15]; unfold wb_X4_openGap_15; dsimp only
    rw [nI_leI (by omega) (by omega)]
    rw [show k = i by omega] at hw hp
    refine ⟨fun _ S5 e5 => hP S5 (by rw [e5]; exact hF.I _) (by rw [e5, putI_s, h1, nI_1]) (fun j => ?_) (fun j => ?_), fun z9 => absurd (by omega) z9⟩
    · rw [e5, px_AI]; exact hw j
    · rw [e5, px_AI]; exact hp j
  | succ m ih =>
    intro k fuel S hk hkc hf hF h1 hw hp
    have hO1 := hO.fr hF h1
    obtain ⟨f, rfl⟩ : ∃ f, fuel = f + 1 := ⟨fuel - 1, by omega⟩; rw [wp_X4_openGap_15]; unfold wb_X4_openGap_15; dsimp only
    rw [nI_leI (by omega) (by omega), show nI k - 1 = nI (k - 1) from sub_k (b := 1) (by omega)]
    refine ⟨fun z9 => absurd z9 (by omega), fun _ => ⟨w, hO1.1, fun _ => ⟨w, hO1.1, fun _ => ?_⟩⟩⟩
    rw [hO1.2.2.2.1, nz_vp (by omega) (by decide), nz_vp (by omega) (by decide), nI_clamp (n := k) (by omega), nI_clamp (n := k - 1) (by omega)]
    refine ⟨by omega, by omega, fun S17 e17 => ?_⟩
    have F17 : frA S0 S17 x w p := by rw [e17]; exact hF.W _ _
    have O17 : ScO S17 x w p c := hO.fr F17 (by rw [e17]; exact h1)
    refine ⟨p, O17.2.1, fun _ => ⟨p, O17.2.1, fun _ => ?_⟩⟩
    rw [O17.2.2.2.2.2.1, nz_vp (by omega) (by decide), nz_vp (by omega) (by decide)]
    refine ⟨by omega, by omega, fun S31 e31 v36 e36 => ?_⟩
    rw [show nI k + (-1) = nI (k - 1) by rw [← Int32.sub_eq_add_neg]; exact sub_k (b := 1) (by omega)] at e36
    subst e36
    have hwp : w ≠ p := hO.2.2.2.2.2.2.1
    have a1 : hA S31 w = hA S17 w := by rw [e31]; exact putA_o _ _ _ hwp
    have a2 : hA S17 p = hA S p := by rw [e17]; exact putA_o _ _ _ (fun z => hwp z.symm)
    refine ih (k - 1) f S31 (by omega) (by omega) (by omega) (by rw [e31]; exact F17.P _ _) (by rw [e31, e17]; exact h1) (fun j => ?_) (fun j => ?_)
    · rw [a1, e17]
      by_cases g : j = k
      · rw [g, putA_s, if_pos ⟨by omega, by omega⟩, hw, if_neg (by omega)]
      · rw [putA_n _ _ g, hw]
        by_cases g2 : k < j ∧ j ≤ c
        · rw [if_pos g2, if_pos ⟨by omega, by omega⟩]
        · rw [if_neg g2, if_neg (by omega)]
    · rw [e31]
      by_cases g : j = k
      · rw [g, putA_s, if_pos ⟨by omega, by omega⟩, a2, hp, if_neg (by omega)]
      · rw [putA_n _ _ g, a2, hp]
        by_cases g2 : k < j ∧ j ≤ c
        · rw [if_pos g2, if_pos ⟨by omega, by omega⟩]
        · rw [if_neg g2, if_neg (by omega)]
theorem k_X4_openGap (l : Launch) (D : va_G) (T : Nat → ClassId) (x0 : Nat) (p0 : Int32) (S : HS) (e0 : Nat) (e1 : Nat) (e2 : Nat) (e3 : Nat) (hx0 : hK S x0 = 5) (h : ScO S x0 e0 e1 e2 ∧ e2 ≤ 5 ∧ e3 ≤ e2 ∧ p0 = nI e3) : CMi l yX4_openGap (ws_X4_openGap) rm_X4_openGap D T [.ref x0, .int p0] S 0 0 (fun v S1 => ((e2 = 5 → v = 0 ∧ S1 = S) ∧ (¬ e2 = 5 → v = 1 ∧ frA S S1 x0 e0 e1 ∧ hI S1 100 x0 = nI (e2 + 1) ∧ (∀ j, hA S1 e0 j = if e3 < j ∧ j ≤ e2 then hA S e0 (j - 1) else hA S e0 j) ∧ (∀ j, hA S1 e1 j = if e3 < j ∧ j ≤ e2 then hA S e1 (j - 1) else hA S e1 j)))) := c_X4_openGap l D T x0 p0 S hx0 _ <|
  (by
    obtain ⟨hO, hc, hi, e9⟩ := h
    subst e9
    have h100 := hO.2.2.2.2.2.2.2
    unfold wp_X4_openGap
    rw [h100]
    refine ⟨fun c v ev => ?_, fun c => ?_⟩
    · have c5 : e2 < 5 := (nI_ltI (b := 5) (by omega) (by decide)).mp c
      subst ev
      refine ⟨20, rl_og (i := e3) hO c5 hi (fun S1 f1 g1 g2 g3 => ⟨fun z => absurd z (by omega), fun _ => ⟨rfl, f1, g1, g2, g3⟩⟩) (e2 - e3) e2 20 S (by omega) (by omega) (by omega) frA.rf h100 (fun j => ?_) (fun j => ?_)⟩
      · rw [if_neg (by omega)]
      · rw [if_neg (by omega)]
    · have c5 : ¬ e2 < 5 := fun z => c ((nI_ltI (b := 5) (by omega) (by decide)).mpr z)
      exact ⟨fun _ => ⟨rfl, rfl⟩, fun z => absurd (by omega) z⟩)
abbrev ws_X4_putBreak : List Cond := Cond.code yX4_putBreak cX4_putBreak 5 (some .boolean) :: W0
abbrev rm_X4_putBreak : Room := ({ frames := 1, cells := 0, slots := 0, locals := 22 } : Room)
def wb_X4_putBreak_2 (rec : Nat → Int32 → Int32 → Int32 → HS → Prop) (K26 : Nat → Int32 → Int32 → Int32 → HS → Prop) (P : Int32 → HS → Prop) (x0 : Nat) (x1 : Int32) (x2 : Int32) (x3 : Int32) (S : HS) : Prop := ((hI S 100 x0) ≤ x3 → (K26 x0 x1 x2 x3 S)) ∧ (¬ (hI S 100 x0) ≤ x3 → (∃ b3 : Nat, hR S 101 x0 = some b3 ∧ (hK S b3 = 22 → (vp_in x3 (hN S b3) ∧ ((x1 ≤ (hA S b3 (Int32.toNatClampNeg x3)) → (K26 x0 x1 x2 x3 S)) ∧ (¬ x1 ≤ (hA S b3 (Int32.toNatClampNeg x3)) → (∀ v7 : Int32, v7 = x3 + 1 → (rec x0 x1 x2 v7 S))))))))
def wp_X4_putBreak_2 (K26 : Nat → Int32 → Int32 → Int32 → HS → Prop) (P : Int32 → HS → Prop) : Nat → Nat → Int32 → Int32 → Int32 → HS → Prop
  | 0 => fun _ _ _ _ _ => False
  | n + 1 => fun x0 x1 x2 x3 S => wb_X4_putBreak_2 (wp_X4_putBreak_2 K26 P n) K26 P x0 x1 x2 x3 S
set_option maxRecDepth 100000 in
set_option maxHeartbeats 4000000 in
theorem t_X4_putBreak_2 {p : Program} {l : Launch} {e : Env} {s : State} {m : MethodId} {args : Array Value} {below : List Frame} {meth : Method} {c : Code} {D : va_G} {A : Nat → Prop} {T : Nat → ClassId} (C : GC p s m args meth c cX4_putBreak "FreightRater$Scale" (ws_X4_putBreak) 5 D A (zty T)) (E : GE T A s) (hr : meth.sig.returnType = (some .boolean)) (S0 : HS) (K26 : Nat → Int32 → Int32 → Int32 → HS → Prop) (P : Int32 → HS → Prop) (hK26 : ∀ (x0 : Nat) (x1 : Int32) (x2 : Int32) (x3 : Int32) (S : HS) (L : List Nat), wt S → hL S L → ext S0 S → (hK S x0 = 5) → K26 x0 x1 x2 x3 S → GW p l e { rm_X4_putBreak with cells := 0, slots := 0 } s m args below meth c D A 5 0 0 (MQ below (va_Qi (fun v (u : HS × List Nat) => P v u.1 ∧ CO S0 u) (CE D T A) A) args s 0 0 A) (CW T S L) 0 0 26 [(0, .ref x0), (1, .int x1), (2, .int x2), (3, .int x3)] []) : ∀ (n : Nat) (x0 : Nat) (x1 : Int32) (x2 : Int32) (x3 : Int32) (S : HS) (L : List Nat), wt S → hL S L → ext S0 S → (hK S x0 = 5) → wp_X4_putBreak_2 K26 P n x0 x1 x2 x3 S → GW p l e { rm_X4_putBreak with cells := 0, slots := 0 } s m args below meth c D A 5 0 0 (MQ below (va_Qi (fun v (u : HS × List Nat) => P v u.1 ∧ CO S0 u) (CE D T A) A) args s 0 0 A) (CW T S L) 0 0 2 [(0, .ref x0), (1, .int x1), (2, .int x2), (3, .int x3)] [] := by
  have hW : ∀ {w : Cond}, w ∈ W0 → w.before args s = true := fun h => C.2.2.2.2.1 _ (List.mem_cons_of_mem _ h)
  intro n
  induction n with
  | zero => intro x0 x1 x2 x3 S L hw hL he hx0 h; exact h.elim
  | succ n ih =>
    intro x0 x1 x2 x3 S L hw hL he hx0 h
    replace h : wb_X4_putBreak_2 (wp_X4_putBreak_2 K26 P n) K26 P x0 x1 x2 x3 S := h
    unfold wb_X4_putBreak_2 at h
    refine g_iload_n C dX4_putBreak_2 rfl 3 rfl ?_
    refine g_aload_n C dX4_putBreak_3 rfl 0 rfl ?_
    refine gc_getI C iwx_X4 hL hx0 (by decide) (by decide) rfl 0 (by decide) (hW kw_393) rfl rfl rfl dX4_putBreak_4 ?_
    refine g_icmp_ge (tgt := 26) C dX4_putBreak_7 (by decide) (fun z1 => ?_) (fun z1 => ?_)
    · replace h := h.1 z1
      refine g_locals [0, 1, 2, 3] rfl ?_
      exact hK26 x0 x1 x2 x3 S L hw hL he hx0 h
    · replace h := h.2 z1
      refine g_aload_n C dX4_putBreak_10 rfl 0 rfl ?_
      refine gc_getR C hw iwx_X4 hL hx0 (by decide) (by decide) rfl 1 (by decide) (hW kw_397) rfl rfl rfl dX4_putBreak_11 (fun o2 eo2 ko2 => ?_)
      obtain ⟨b3, hb9, h⟩ := h
      have g4 : hK S b3 = 22 := ko2 b3 (eo2.trans hb9)
      replace h := h g4
      refine g_opt (eo2.trans hb9) ?_
      refine g_iload_n C dX4_putBreak_14 rfl 3 rfl ?_
      obtain ⟨g5, h⟩ := h
      refine gc_iald C hL g4 g5 dX4_putBreak_15 ?_
      refine g_iload_n C dX4_putBreak_16 rfl 1 rfl ?_
      refine g_icmp_ge (tgt := 26) C dX4_putBreak_17 (by decide) (fun z6 => ?_) (fun z6 => ?_)
      · replace h := h.1 z6
        refine g_locals [0, 1, 2, 3] rfl ?_
        exact hK26 x0 x1 x2 x3 S L hw hL he hx0 h
      · replace h := h.2 z6
        obtain ⟨v7, ev7⟩ : ∃ y : Int32, y = x3 + 1 := ⟨_, rfl⟩
        replace h := h v7 ev7
        refine g_iinc (v := v7) (lv' := [(3, .int v7), (0, .ref x0), (1, .int x1), (2, .int x2)]) C dX4_putBreak_20 (j := 3) rfl (by rw [ev7]; rfl) (by decide) rfl ?_
        refine g_goto (tgt := 2) C dX4_putBreak_23 (by decide) ?_
        refine g_locals [1, 2, 3, 0] rfl ?_
        exact ih x0 x1 x2 v7 S L hw hL he hx0 h
def wp_X4_putBreak_49 (P : Int32 → HS → Prop) (x0 : Nat) (x1 : Int32) (x2 : Int32) (x3 : Int32) (s0 : Int32) (S : HS) : Prop := (x2 ≤ 99 → ((¬ x2 = 0 → ((¬ s0 = 0 → (∃ b14 : Nat, hR S 101 x0 = some b14 ∧ (hK S b14 = 22 → (vp_in x3 (hN S b14) ∧ (∀ S18 : HS, S18 = putA S b14 (Int32.toNatClampNeg x3) x1 → (∃ b24 : Nat, hR S18 102 x0 = some b24 ∧ (hK S18 b24 = 22 → (vp_in x3 (hN S18 b24) ∧ (∀ S28 : HS, S28 = putA S18 b24 (Int32.toNatClampNeg x3) x2 → (P 1 S28)))))))))) ∧ (s0 = 0 → (∃ (m33 : Nat) (m34 : Nat) (m35 : Nat) (m36 : Nat), ((ScO S x0 m33 m34 m35 ∧ m35 ≤ 5 ∧ m36 ≤ m35 ∧ x3 = nI m36) ∧ (∀ (v43 : Int32) (S38 : HS), ext S S38 → ((m35 = 5 → v43 = 0 ∧ S38 = S) ∧ (¬ m35 = 5 → v43 = 1 ∧ frA S S38 x0 m33 m34 ∧ hI S38 100 x0 = nI (m35 + 1) ∧ (∀ j, hA S38 m33 j = if m36 < j ∧ j ≤ m35 then hA S m33 (j - 1) else hA S m33 j) ∧ (∀ j, hA S38 m34 j = if m36 < j ∧ j ≤ m35 then hA S m34 (j - 1) else hA S m34 j))) → ((¬ v43 = 0 → (∃ b48 : Nat, hR S38 101 x0 = some b48 ∧ (hK S38 b48 = 22 → (vp_in x3 (hN S38 b48) ∧ (∀ S52 : HS, S52 = putA S38 b48 (Int32.toNatClampNeg x3) x1 → (∃ b58 : Nat, hR S52 102 x0 = some b58 ∧ (hK S52 b58 = 22 → (vp_in x3 (hN S52 b58) ∧ (∀ S62 : HS, S62 = putA S52 b58 (Int32.toNatClampNeg x3) x2 → (P 1 S62)))))))))) ∧ (v43 = 0 → (P 0 S38))))))))) ∧ (x2 = 0 → ((s0 = 0 → (P 0 S)) ∧ (¬ s0 = 0 → (∃ (m68 : Nat) (m69 : Nat) (m70 : Nat) (m71 : Nat), ((ScO S x0 m68 m69 m70 ∧ m70 ≤ 5 ∧ m71 < m70 ∧ x3 = nI m71) ∧ (∀ (v78 : Int32) (S73 : HS), ext S S73 → (v78 = 1 ∧ frA S S73 x0 m68 m69 ∧ hI S73 100 x0 = nI (m70 - 1) ∧ (∀ j, hA S73 m68 j = if m71 ≤ j ∧ j < m70 - 1 then hA S m68 (j + 1) else hA S m68 j) ∧ (∀ j, hA S73 m69 j = if m71 ≤ j ∧ j < m70 - 1 then hA S m69 (j + 1) else hA S m69 j)) → ((v78 = 0 → (P 0 S73)) ∧ (¬ v78 = 0 → (P 1 S73))))))))))) ∧ (¬ x2 ≤ 99 → (P 0 S))
set_option maxRecDepth 100000 in
set_option maxHeartbeats 4000000 in
theorem t_X4_putBreak_49 {p : Program} {l : Launch} {e : Env} {s : State} {m : MethodId} {args : Array Value} {below : List Frame} {meth : Method} {c : Code} {D : va_G} {A : Nat → Prop} {T : Nat → ClassId} (C : GC p s m args meth c cX4_putBreak "FreightRater$Scale" (ws_X4_putBreak) 5 D A (zty T)) (E : GE T A s) (hr : meth.sig.returnType = (some .boolean)) (S0 : HS) (P : Int32 → HS → Prop) : ∀ (x0 : Nat) (x1 : Int32) (x2 : Int32) (x3 : Int32) (s0 : Int32) (S : HS) (L : List Nat), wt S → hL S L → ext S0 S → (hK S x0 = 5) → wp_X4_putBreak_49  P x0 x1 x2 x3 s0 S → GW p l e { rm_X4_putBreak with cells := 0, slots := 0 } s m args below meth c D A 5 0 0 (MQ below (va_Qi (fun v (u : HS × List Nat) => P v u.1 ∧ CO S0 u) (CE D T A) A) args s 0 0 A) (CW T S L) 0 0 49 [(0, .ref x0), (1, .int x1), (2, .int x2), (3, .int x3)] [.int s0] := by
  have hW : ∀ {w : Cond}, w ∈ W0 → w.before args s = true := fun h => C.2.2.2.2.1 _ (List.mem_cons_of_mem _ h)
  intro x0 x1 x2 x3 s0 S L hw hL he hx0 h
  unfold wp_X4_putBreak_49 at h
  refine g_istore (lv' := [(4, .int s0), (0, .ref x0), (1, .int x1), (2, .int x2), (3, .int x3)]) C dX4_putBreak_49 (by decide) rfl ?_
  refine g_iload_n C dX4_putBreak_51 rfl 3 rfl ?_
  refine g_bipush (v := 99) C dX4_putBreak_52 (by decide) ?_
  refine g_icmp_le (tgt := 59) C dX4_putBreak_54 (by decide) (fun z10 => ?_) (fun z10 => ?_)
  · replace h := h.1 z10
    refine g_iload_n C dX4_putBreak_59 rfl 3 rfl ?_
    refine g_if_ne (tgt := 82) C dX4_putBreak_60 (by decide) (fun z11 => ?_) (fun z11 => ?_)
    · replace h := h.1 z11
      refine g_iload C dX4_putBreak_82 0 rfl ?_
      refine g_if_ne (tgt := 97) C dX4_putBreak_84 (by decide) (fun z12 => ?_) (fun z12 => ?_)
      · replace h := h.1 z12
        refine g_aload_n C dX4_putBreak_97 rfl 1 rfl ?_
        refine gc_getR C hw iwx_X4 hL hx0 (by decide) (by decide) rfl 1 (by decide) (hW kw_397) rfl rfl rfl dX4_putBreak_98 (fun o13 eo13 ko13 => ?_)
        obtain ⟨b14, hb9, h⟩ := h
        have g15 : hK S b14 = 22 := ko13 b14 (eo13.trans hb9)
        replace h := h g15
        refine g_opt (eo13.trans hb9) ?_
        refine g_iload_n C dX4_putBreak_101 rfl 4 rfl ?_
        refine g_iload_n C dX4_putBreak_102 rfl 2 rfl ?_
        obtain ⟨g16, h⟩ := h
        refine gc_iast C hL g15 g16 dX4_putBreak_103 ?_
        have w17 := wt_putA hw (Int32.toNatClampNeg x3) x1 (k_ne g15 (by decide))
        refine gc_nS (fun S18 eS18 => ?_)
        replace h := h S18 eS18
        have w19 : wt S18 := by rw [eS18]; exact w17
        have w20 : isL S18 L := by rw [eS18]; exact hL
        have w21 : ext S0 S18 := by rw [eS18]; exact he
        have g22 : hK S18 x0 = 5 := by rw [eS18]; exact hx0
        refine g_aload_n C dX4_putBreak_104 rfl 1 rfl ?_
        refine gc_getR C w19 iwx_X4 w20 g22 (by decide) (by decide) rfl 2 (by decide) (hW kw_400) rfl rfl rfl dX4_putBreak_105 (fun o23 eo23 ko23 => ?_)
        obtain ⟨b24, hb9, h⟩ := h
        have g25 : hK S18 b24 = 22 := ko23 b24 (eo23.trans hb9)
        replace h := h g25
        refine g_opt (eo23.trans hb9) ?_
        refine g_iload_n C dX4_putBreak_108 rfl 4 rfl ?_
        refine g_iload_n C dX4_putBreak_109 rfl 3 rfl ?_
        obtain ⟨g26, h⟩ := h
        refine gc_iast C w20 g25 g26 dX4_putBreak_110 ?_
        have w27 := wt_putA w19 (Int32.toNatClampNeg x3) x2 (k_ne g25 (by decide))
        refine gc_nS (fun S28 eS28 => ?_)
        replace h := h S28 eS28
        have w29 : wt S28 := by rw [eS28]; exact w27
        have w30 : isL S28 L := by rw [eS28]; exact w20
        have w31 : ext S0 S28 := by rw [eS28]; exact w21
        have g32 : hK S28 x0 = 5 := by rw [eS28]; exact g22
        refine g_iconst (v := 1) C dX4_putBreak_111 (by decide) ?_
        exact gc_zret C vz1 w29 w30 w31 hr dX4_putBreak_112 h
      · replace h := h.2 z12
        refine g_aload_n C dX4_putBreak_87 rfl 1 rfl ?_
        refine g_iload_n C dX4_putBreak_88 rfl 4 rfl ?_
        obtain ⟨m33, m34, m35, m36, h⟩ := h
        obtain ⟨g37, h⟩ := h
        refine gc_calliV (host := "") C E hw hL hx0 (by decide) (by decide) rfl [.int x3] rfl (k_X4_openGap l D T x0 x3 S m33 m34 m35 m36 hx0 g37) (w0_V 1 C.2.2.2.2.1 kw_919 kw_921 ks_18 kw_15 kw_922 rfl rfl (by decide +kernel) ⟨Nat.le_of_ble_eq_true rfl, Nat.le_of_ble_eq_true rfl⟩) rfl (Nat.le_of_ble_eq_true rfl) (Nat.le_refl _) (Nat.le_refl _) (Nat.zero_le _) (Nat.zero_le _) dX4_putBreak_89 (fun v43 S38 L39 e40 w41 w42 hp => ?_)
        replace h := h v43 S38 e40 hp
        have g44 := ext_K e40 hx0 (by decide)
        have w45 := ext_tr he e40
        refine g_if_ne (tgt := 97) C dX4_putBreak_92 (by decide) (fun z46 => ?_) (fun z46 => ?_)
        · replace h := h.1 z46
          refine g_aload_n C dX4_putBreak_97 rfl 1 rfl ?_
          refine gc_getR C w41 iwx_X4 w42 g44 (by decide) (by decide) rfl 1 (by decide) (hW kw_397) rfl rfl rfl dX4_putBreak_98 (fun o47 eo47 ko47 => ?_)
          obtain ⟨b48, hb9, h⟩ := h
          have g49 : hK S38 b48 = 22 := ko47 b48 (eo47.trans hb9)
          replace h := h g49
          refine g_opt (eo47.trans hb9) ?_
          refine g_iload_n C dX4_putBreak_101 rfl 4 rfl ?_
          refine g_iload_n C dX4_putBreak_102 rfl 2 rfl ?_
          obtain ⟨g50, h⟩ := h
          refine gc_iast C w42 g49 g50 dX4_putBreak_103 ?_
          have w51 := wt_putA w41 (Int32.toNatClampNeg x3) x1 (k_ne g49 (by decide))
          refine gc_nS (fun S52 eS52 => ?_)
          replace h := h S52 eS52
          have w53 : wt S52 := by rw [eS52]; exact w51
          have w54 : isL S52 L39 := by rw [eS52]; exact w42
          have w55 : ext S0 S52 := by rw [eS52]; exact w45
          have g56 : hK S52 x0 = 5 := by rw [eS52]; exact g44
          refine g_aload_n C dX4_putBreak_104 rfl 1 rfl ?_
          refine gc_getR C w53 iwx_X4 w54 g56 (by decide) (by decide) rfl 2 (by decide) (hW kw_400) rfl rfl rfl dX4_putBreak_105 (fun o57 eo57 ko57 => ?_)
          obtain ⟨b58, hb9, h⟩ := h
          have g59 : hK S52 b58 = 22 := ko57 b58 (eo57.trans hb9)
          replace h := h g59
          refine g_opt (eo57.trans hb9) ?_
          refine g_iload_n C dX4_putBreak_108 rfl 4 rfl ?_
          refine g_iload_n C dX4_putBreak_109 rfl 3 rfl ?_
          obtain ⟨g60, h⟩ := h
          refine gc_iast C w54 g59 g60 dX4_putBreak_110 ?_
          have w61 := wt_putA w53 (Int32.toNatClampNeg x3) x2 (k_ne g59 (by decide))
          refine gc_nS (fun S62 eS62 => ?_)
          replace h := h S62 eS62
          have w63 : wt S62 := by rw [eS62]; exact w61
          have w64 : isL S62 L39 := by rw [eS62]; exact w54
          have w65 : ext S0 S62 := by rw [eS62]; exact w55
          have g66 : hK S62 x0 = 5 := by rw [eS62]; exact g56
          refine g_iconst (v := 1) C dX4_putBreak_111 (by decide) ?_
          exact gc_zret C vz1 w63 w64 w65 hr dX4_putBreak_112 h
        · replace h := h.2 z46
          refine g_iconst (v := 0) C dX4_putBreak_95 (by decide) ?_
          exact gc_zret C vz0 w41 w42 w45 hr dX4_putBreak_96 h
    · replace h := h.2 z11
      refine g_iload C dX4_putBreak_63 0 rfl ?_
      refine g_if_eq (tgt := 80) C dX4_putBreak_65 (by decide) (fun z67 => ?_) (fun z67 => ?_)
      · replace h := h.1 z67
        refine g_iconst (v := 0) C dX4_putBreak_80 (by decide) ?_
        exact gc_zret C vz0 hw hL he hr dX4_putBreak_81 h
      · replace h := h.2 z67
        refine g_aload_n C dX4_putBreak_68 rfl 1 rfl ?_
        refine g_iload_n C dX4_putBreak_69 rfl 4 rfl ?_
        obtain ⟨m68, m69, m70, m71, h⟩ := h
        obtain ⟨g72, h⟩ := h
        refine gc_calliV (host := "") C E hw hL hx0 (by decide) (by decide) rfl [.int x3] rfl (k_X4_removeBreak l D T x0 x3 S m68 m69 m70 m71 hx0 g72) (w0_V 1 C.2.2.2.2.1 kw_915 kw_917 ks_17 kw_15 kw_918 rfl rfl (by decide +kernel) ⟨Nat.le_of_ble_eq_true rfl, Nat.le_of_ble_eq_true rfl⟩) rfl (Nat.le_of_ble_eq_true rfl) (Nat.le_refl _) (Nat.le_refl _) (Nat.zero_le _) (Nat.zero_le _) dX4_putBreak_70 (fun v78 S73 L74 e75 w76 w77 hp => ?_)
        replace h := h v78 S73 e75 hp
        have g79 := ext_K e75 hx0 (by decide)
        have w80 := ext_tr he e75
        refine g_if_eq (tgt := 80) C dX4_putBreak_73 (by decide) (fun z81 => ?_) (fun z81 => ?_)
        · replace h := h.1 z81
          refine g_iconst (v := 0) C dX4_putBreak_80 (by decide) ?_
          exact gc_zret C vz0 w76 w77 w80 hr dX4_putBreak_81 h
        · replace h := h.2 z81
          refine g_iconst (v := 1) C dX4_putBreak_76 (by decide) ?_
          refine g_goto (tgt := 81) C dX4_putBreak_77 (by decide) ?_
          exact gc_zret C vz1 w76 w77 w80 hr dX4_putBreak_81 h
  · replace h := h.2 z10
    refine g_iconst (v := 0) C dX4_putBreak_57 (by decide) ?_
    exact gc_zret C vz0 hw hL he hr dX4_putBreak_58 h
def wp_X4_putBreak (P : Int32 → HS → Prop) (x0 : Nat) (p0 : Int32) (p1 : Int32) (S : HS) : Prop := ∃ k87 : Nat, wp_X4_putBreak_2 (fun (y8_x0 : Nat) (y8_x1 : Int32) (y8_x2 : Int32) (y8_x3 : Int32) (Sy8_ : HS) => (hK Sy8_ y8_x0 = 5) → (((hI Sy8_ 100 y8_x0) ≤ y8_x3 → (wp_X4_putBreak_49  P y8_x0 y8_x1 y8_x2 y8_x3 0 Sy8_)) ∧ (¬ (hI Sy8_ 100 y8_x0) ≤ y8_x3 → (∃ b83 : Nat, hR Sy8_ 101 y8_x0 = some b83 ∧ (hK Sy8_ b83 = 22 → (vp_in y8_x3 (hN Sy8_ b83) ∧ ((¬ (hA Sy8_ b83 (Int32.toNatClampNeg y8_x3)) = y8_x1 → (wp_X4_putBreak_49  P y8_x0 y8_x1 y8_x2 y8_x3 0 Sy8_)) ∧ ((hA Sy8_ b83 (Int32.toNatClampNeg y8_x3)) = y8_x1 → (wp_X4_putBreak_49  P y8_x0 y8_x1 y8_x2 y8_x3 1 Sy8_))))))))) P k87 x0 p0 p1 0 S
set_option maxRecDepth 100000 in
set_option maxHeartbeats 4000000 in
theorem t_X4_putBreak {p : Program} {l : Launch} {e : Env} {s : State} {m : MethodId} {args : Array Value} {below : List Frame} {meth : Method} {c : Code} {D : va_G} {A : Nat → Prop} {T : Nat → ClassId} (C : GC p s m args meth c cX4_putBreak "FreightRater$Scale" (ws_X4_putBreak) 5 D A (zty T)) (E : GE T A s) (hr : meth.sig.returnType = (some .boolean)) (P : Int32 → HS → Prop) : ∀ (x0 : Nat) (p0 : Int32) (p1 : Int32) (S0 S : HS) (L : List Nat), S0 = S → wt S → hL S L → (hK S x0 = 5) → wp_X4_putBreak P x0 p0 p1 S → GW p l e { rm_X4_putBreak with cells := 0, slots := 0 } s m args below meth c D A 5 0 0 (MQ below (va_Qi (fun v (u : HS × List Nat) => P v u.1 ∧ CO S0 u) (CE D T A) A) args s 0 0 A) (CW T S L) 0 0 0 [(0, .ref x0), (1, .int p0), (2, .int p1)] [] := by
  have hW : ∀ {w : Cond}, w ∈ W0 → w.before args s = true := fun h => C.2.2.2.2.1 _ (List.mem_cons_of_mem _ h)
  intro x0 p0 p1 S0 S L hS0 hw hL hx0 h
  have he : ext S0 S := by rw [hS0]; exact ext_rf
  unfold wp_X4_putBreak at h
  refine g_iconst (v := 0) C dX4_putBreak_0 (by decide) ?_
  refine g_istore_n (lv' := [(3, .int 0), (0, .ref x0), (1, .int p0), (2, .int p1)]) C dX4_putBreak_1 rfl (by decide) rfl ?_
  refine g_locals [1, 2, 3, 0] rfl ?_
  obtain ⟨k87, h⟩ := h
  refine t_X4_putBreak_2 C E hr S0 _ P ?_ k87 x0 p0 p1 0 S L hw hL he hx0 h
  · intro y8_x0 y8_x1 y8_x2 y8_x3 Sy8_ Ly8_ hwy8_ hLy8_ hey8_ hy8_x0 h
    replace h := h hy8_x0
    refine g_iload_n C dX4_putBreak_26 rfl 3 rfl ?_
    refine g_aload_n C dX4_putBreak_27 rfl 0 rfl ?_
    refine gc_getI C iwx_X4 hLy8_ hy8_x0 (by decide) (by decide) rfl 0 (by decide) (hW kw_393) rfl rfl rfl dX4_putBreak_28 ?_
    refine g_icmp_ge (tgt := 48) C dX4_putBreak_31 (by decide) (fun z9 => ?_) (fun z9 => ?_)
    · replace h := h.1 z9
      refine g_iconst (v := 0) C dX4_putBreak_48 (by decide) ?_
      refine g_locals [0, 1, 2, 3] rfl ?_
      refine t_X4_putBreak_49 C E hr S0  P  y8_x0 y8_x1 y8_x2 y8_x3 0 Sy8_ Ly8_ hwy8_ hLy8_ hey8_ hy8_x0 h
    · replace h := h.2 z9
      refine g_aload_n C dX4_putBreak_34 rfl 0 rfl ?_
      refine gc_getR C hwy8_ iwx_X4 hLy8_ hy8_x0 (by decide) (by decide) rfl 1 (by decide) (hW kw_397) rfl rfl rfl dX4_putBreak_35 (fun o82 eo82 ko82 => ?_)
      obtain ⟨b83, hb9, h⟩ := h
      have g84 : hK Sy8_ b83 = 22 := ko82 b83 (eo82.trans hb9)
      replace h := h g84
      refine g_opt (eo82.trans hb9) ?_
      refine g_iload_n C dX4_putBreak_38 rfl 3 rfl ?_
      obtain ⟨g85, h⟩ := h
      refine gc_iald C hLy8_ g84 g85 dX4_putBreak_39 ?_
      refine g_iload_n C dX4_putBreak_40 rfl 1 rfl ?_
      refine g_icmp_ne (tgt := 48) C dX4_putBreak_41 (by decide) (fun z86 => ?_) (fun z86 => ?_)
      · replace h := h.1 z86
        refine g_iconst (v := 0) C dX4_putBreak_48 (by decide) ?_
        refine g_locals [0, 1, 2, 3] rfl ?_
        refine t_X4_putBreak_49 C E hr S0  P  y8_x0 y8_x1 y8_x2 y8_x3 0 Sy8_ Ly8_ hwy8_ hLy8_ hey8_ hy8_x0 h
      · replace h := h.2 z86
        refine g_iconst (v := 1) C dX4_putBreak_44 (by decide) ?_
        refine g_goto (tgt := 49) C dX4_putBreak_45 (by decide) ?_
        refine g_locals [0, 1, 2, 3] rfl ?_
        refine t_X4_putBreak_49 C E hr S0  P  y8_x0 y8_x1 y8_x2 y8_x3 1 Sy8_ Ly8_ hwy8_ hLy8_ hey8_ hy8_x0 h
theorem c_X4_putBreak (l : Launch) (D : va_G) (T : Nat → ClassId) (x0 : Nat) (p0 : Int32) (p1 : Int32) (S : HS) (hx0 : hK S x0 = 5) (P : Int32 → HS → Prop) (h : wp_X4_putBreak P x0 p0 p1 S) : CMi l yX4_putBreak (ws_X4_putBreak) rm_X4_putBreak D T [.ref x0, .int p0, .int p1] S 0 0 P := gc_meti (by decide) rfl rfl (Nat.le_of_ble_eq_true rfl) (fun p e s m args below meth c A L C E hnm hr hw hL => t_X4_putBreak C E   hr P x0 p0 p1 S S L rfl hw hL hx0 h)
/-- what a scale's rows are in the row of numbers -/
def scR (S : HS) (w p : Nat) (μ : Nat → Int32) (v z c : Nat) : Prop := ∀ i, i < c → hA S w i = μ (274 + 510 * v + 47 + 10 * (z - 1) + 2 * i) ∧ hA S p i = μ (274 + 510 * v + 47 + 10 * (z - 1) + 2 * i + 1)
theorem RelSc.mk' {S S1 : HS} {M : Nat → Prop} {x w p c v z : Nat} {μ μ' : Nat → Int32} (hr : RelSc S M x μ v z) (hO : ScO S x w p c) (hF : frA S S1 x w p) (hx : hK S x = 5) {c1 : Nat} (hc5 : c1 ≤ 5) (hc : hI S1 100 x = nI c1) (hm : μ' (274 + 510 * v + 38 + z - 1) = nI c1) (h137 : μ' (274 + 510 * v + 137 + z - 1) = μ (274 + 510 * v + 137 + z - 1)) (hs : scR S1 w p μ' v z c1) : RelSc S1 M x μ' v z := by
  obtain ⟨h1, h2, h3, h4, w', p', g1, g2, g3, g4, g5⟩ := hr
  obtain ⟨f1, f2, f3, f4, f5, f6⟩ := hF
  have ew : w' = w := Option.some.inj (g1.symm.trans hO.1)
  have ep : p' = p := Option.some.inj (g2.symm.trans hO.2.1)
  subst ew ep
  refine ⟨by rw [f1]; exact h1, h2, hc.trans hm.symm, ?_, w', p', by rw [f3]; exact g1, by rw [f3]; exact g2, ⟨by rw [f1]; exact g3.1, by rw [f2]; exact g3.2.1, g3.2.2⟩, ⟨by rw [f1]; exact g4.1, by rw [f2]; exact g4.2.1, g4.2.2⟩, fun i hi => ?_⟩
  · rw [h137, ← h4]
    exact f5 103 x (fun z => absurd z.2 (by decide))
  · rw [hm, show iv (nI c1) = c1 from nI_clamp (by omega)] at hi
    exact hs i hi
theorem rl_pb {K : Nat → Int32 → Int32 → Int32 → HS → Prop} {P : Int32 → HS → Prop} {S : HS} {x w p c v z : Nat} {μ : Nat → Int32} {t y : Int32} (hO : ScO S x w p c) (hc : c ≤ 5) (hs : scR S w p μ v z c) : ∀ (k i fuel : Nat), i + k = c → k < fuel → K x t y (nI (bxF μ v z t k i)) S → wp_X4_putBreak_2 K P fuel x t y (nI i) S := by
  have h100 := hO.2.2.2.2.2.2.2
  intro k
  induction k with
  | zero =>
    intro i fuel hi hf hk
    obtain ⟨f, rfl⟩ : ∃ f, fuel = f + 1 := ⟨fuel - 1, by omega⟩; rw [wp_X4_putBreak_2]; unfold wb_X4_putBreak_2; dsimp only
    rw [h100, nI_leI (by omega) (by omega)]
    exact ⟨fun _ => hk, fun z9 => absurd (by omega) z9⟩
  | succ k ih =>
    intro i fuel hi hf hk
    rw [bxF] at hk
    obtain ⟨f, rfl⟩ : ∃ f, fuel = f + 1 := ⟨fuel - 1, by omega⟩; rw [wp_X4_putBreak_2]; unfold wb_X4_putBreak_2; dsimp only
    rw [h100, nI_leI (by omega) (by omega), nI_1]
    refine ⟨fun z9 => absurd z9 (by omega), fun _ => ⟨w, hO.1, fun _ => ?_⟩⟩
    rw [hO.2.2.2.1, nz_vp (by omega) (by decide), nI_clamp (n := i) (by omega), (hs i (by omega)).1]
    refine ⟨by omega, fun c1 => ?_, fun c1 v7 e7 => ?_⟩
    · rw [if_neg (Int32.not_lt.mpr c1)] at hk
      exact hk
    · rw [if_pos (Int32.not_le.mp c1)] at hk
      subst e7
      exact ih (i + 1) f (by omega) (by omega) hk
theorem b2i_z {b : Bool} (h : b2i b = 0) : b = false := by cases b; rfl; exact absurd h (by decide)
theorem b2i_nz {b : Bool} (h : ¬ b2i b = 0) : b = true := by cases b; exact absurd rfl h; rfl
theorem px_A1 (S : HS) (a n : Nat) (v : Int32) (j : Nat) : hA (putA S a n v) a j = if j = n then v else hA S a j := by
  rw [px_AA]
  by_cases g : j = n
  · rw [if_pos ⟨rfl, g⟩, if_pos g]
  · rw [if_neg (fun z => g z.2), if_neg g]
theorem bkS_p {μ : Nat → Int32} {v z j : Nat} {w y : Int32} (y0 : ¬ y = 0) (hb : bxB μ v z w = true) : bkS μ v z w y (274 + 510 * v + 47 + 10 * (z - 1) + 2 * j) = (if j = bxI μ v z w then w else μ (274 + 510 * v + 47 + 10 * (z - 1) + 2 * j)) ∧ bkS μ v z w y (274 + 510 * v + 47 + 10 * (z - 1) + 2 * j + 1) = (if j = bxI μ v z w then y else μ (274 + 510 * v + 47 + 10 * (z - 1) + 2 * j + 1)) := by
  unfold bkS
  rw [if_neg y0, if_pos hb]
  unfold upd
  by_cases g : j = bxI μ v z w
  · rw [if_pos g, if_pos g, if_neg (by omega), if_pos (by omega), if_pos (by omega)]
    exact ⟨rfl, rfl⟩
  · rw [if_neg g, if_neg g, if_neg (by omega), if_neg (by omega), if_neg (by omega), if_neg (by omega)]
    exact ⟨rfl, rfl⟩
theorem bkS_u {μ : Nat → Int32} {v z j c : Nat} {w y : Int32} (y0 : ¬ y = 0) (hb : bxB μ v z w = false) (ic : iv (μ (274 + 510 * v + 38 + z - 1)) = c) (hz : z ≤ 9) : bkS μ v z w y (274 + 510 * v + 47 + 10 * (z - 1) + 2 * j) = (if j = bxI μ v z w then w else if bxI μ v z w < j ∧ j ≤ c then μ (274 + 510 * v + 47 + 10 * (z - 1) + 2 * (j - 1)) else μ (274 + 510 * v + 47 + 10 * (z - 1) + 2 * j)) ∧ bkS μ v z w y (274 + 510 * v + 47 + 10 * (z - 1) + 2 * j + 1) = (if j = bxI μ v z w then y else if bxI μ v z w < j ∧ j ≤ c then μ (274 + 510 * v + 47 + 10 * (z - 1) + 2 * (j - 1) + 1) else μ (274 + 510 * v + 47 + 10 * (z - 1) + 2 * j + 1)) := by
  unfold bkS
  rw [if_neg y0, hb, ic]
  unfold upd bkU
  simp only [Bool.false_eq_true, if_false]
  refine ⟨?_, ?_⟩ <;> (repeat' split) <;> first | rfl | omega | (congr 1; omega)
theorem bkS_d {μ : Nat → Int32} {v z j c : Nat} {w y : Int32} (y0 : y = 0) (ic : iv (μ (274 + 510 * v + 38 + z - 1)) = c) (h1 : 1 ≤ z) (hz : z ≤ 9) (hj : j < c - 1) : bkS μ v z w y (274 + 510 * v + 47 + 10 * (z - 1) + 2 * j) = (if bxI μ v z w ≤ j ∧ j < c - 1 then μ (274 + 510 * v + 47 + 10 * (z - 1) + 2 * (j + 1)) else μ (274 + 510 * v + 47 + 10 * (z - 1) + 2 * j)) ∧ bkS μ v z w y (274 + 510 * v + 47 + 10 * (z - 1) + 2 * j + 1) = (if bxI μ v z w ≤ j ∧ j < c - 1 then μ (274 + 510 * v + 47 + 10 * (z - 1) + 2 * (j + 1) + 1) else μ (274 + 510 * v + 47 + 10 * (z - 1) + 2 * j + 1)) := by
  unfold bkS
  rw [if_pos y0, ic]
  unfold bkD
  refine ⟨?_, ?_⟩ <;> (repeat' split) <;> first | rfl | omega | (congr 1; omega)
theorem w_pb49 {M : Nat → Prop} {S : HS} {x w p c v z : Nat} {μ : Nat → Int32} {t y : Int32} (hx : hK S x = 5) (hr : RelSc S M x μ v z) (h1 : 1 ≤ z) (h9 : z ≤ 9) (hO : ScO S x w p c) (hc : c ≤ 5) (ec : μ (274 + 510 * v + 38 + z - 1) = nI c) (hs : scR S w p μ v z c) (hi : bxI μ v z t ≤ c) (hy : bn y 9999) : wp_X4_putBreak_49 (fun v1 S1 => v1 = b2i (bkB μ v z t y) ∧ (bkB μ v z t y = true → RelSc S1 M x (bkS μ v z t y) v z) ∧ ∃ w p, hR S 101 x = some w ∧ hR S 102 x = some p ∧ frA S S1 x w p) x t y (nI (bxI μ v z t)) (b2i (bxB μ v z t)) S := by
  have h100 := hO.2.2.2.2.2.2.2
  have hwp : w ≠ p := hO.2.2.2.2.2.2.1
  have ic : iv (μ (274 + 510 * v + 38 + z - 1)) = c := by rw [ec]; exact nI_clamp (by omega)
  have bad : bkB μ v z t y = false → (0 : Int32) = b2i (bkB μ v z t y) ∧ (bkB μ v z t y = true → RelSc S M x (bkS μ v z t y) v z) ∧ ∃ w p, hR S 101 x = some w ∧ hR S 102 x = some p ∧ frA S S x w p := fun e => ⟨by rw [e]; rfl, fun g => by rw [e] at g; exact absurd g (by decide), w, p, hO.1, hO.2.1, frA.rf⟩
  have hbx : bxB μ v z t = true → bxI μ v z t < c := fun e => by
    unfold bxB at e
    rw [Bool.and_eq_true, decide_eq_true_eq, ic] at e
    exact e.1
  have put : ∀ S33 : HS, ScO S33 x w p (if bxB μ v z t = true then c else c + 1) → frA S S33 x w p → bkB μ v z t y = true → ∀ S47, S47 = putA S33 w (bxI μ v z t) t → ∀ S57, S57 = putA S47 p (bxI μ v z t) y → (∀ S1, S1 = S57 → RelSc S1 M x (bkS μ v z t y) v z) → (1 : Int32) = b2i (bkB μ v z t y) ∧ (bkB μ v z t y = true → RelSc S57 M x (bkS μ v z t y) v z) ∧ ∃ w p, hR S 101 x = some w ∧ hR S 102 x = some p ∧ frA S S57 x w p := fun S33 O33 F33 eb S47 e47 S57 e57 hR9 => ⟨by rw [eb]; rfl, fun _ => hR9 S57 rfl, w, p, hO.1, hO.2.1, by rw [e57, e47]; exact (F33.W _ _).P _ _⟩
  unfold wp_X4_putBreak_49
  refine ⟨fun h99 => ⟨fun y0 => ⟨fun s1 => ?_, fun s1 => ?_⟩, fun y0 => ⟨fun s1 => ?_, fun s1 => ?_⟩⟩, fun h99 => bad ?_⟩
  · have hb := b2i_nz s1
    have hI := hbx hb
    have eb : bkB μ v z t y = true := by
      unfold bkB
      rw [decide_eq_false (Int32.not_lt.mpr h99), if_neg y0, hb]; rfl
    refine ⟨w, hO.1, fun _ => ?_⟩
    rw [hO.2.2.2.1, nz_vp (by omega) (by decide), nI_clamp (n := bxI μ v z t) (by omega)]
    refine ⟨by omega, fun S18 e18 => ⟨p, by rw [e18, px_RA]; exact hO.2.1, fun _ => ?_⟩⟩
    rw [show hN S18 p = 5 by rw [e18, px_NA]; exact hO.2.2.2.2.2.1, nz_vp (by omega) (by decide)]
    refine ⟨by omega, fun S28 e28 => put S (by rw [if_pos hb]; exact hO) frA.rf eb S18 e18 S28 e28 (fun S1 e1 => ?_)⟩
    have F1 : frA S S1 x w p := by rw [e1, e28, e18]; exact (frA.rf.W _ _).P _ _
    refine RelSc.mk' (c1 := c) hr hO F1 hx hc (by rw [e1, e28, e18, px_IA, px_IA]; exact h100) ?_ ?_ (fun j hj => ?_)
    · unfold bkS
      rw [if_neg y0, if_pos hb]
      unfold upd
      rw [if_neg (by omega), if_neg (by omega), ec]
    · unfold bkS
      rw [if_neg y0, if_pos hb]
      unfold upd
      rw [if_neg (by omega), if_neg (by omega)]
    · have aw : hA S1 w j = if j = bxI μ v z t then t else hA S w j := by
        rw [e1, e28, putA_o _ _ _ hwp, e18, px_A1]
      have ap : hA S1 p j = if j = bxI μ v z t then y else hA S p j := by
        rw [e1, e28, px_A1, e18, putA_o _ _ _ (fun z => hwp z.symm)]
      obtain ⟨r0, r1⟩ := bkS_p (μ := μ) (v := v) (z := z) (w := t) (j := j) y0 hb
      rw [aw, ap, r0, r1]
      by_cases g : j = bxI μ v z t
      · simp only [if_pos g, and_self]
      · simp only [if_neg g]
        exact hs j hj
  · have hb := b2i_z s1
    refine ⟨w, p, c, bxI μ v z t, ⟨hO, hc, hi, rfl⟩, fun v38 S33 _ h33 => ?_⟩
    obtain ⟨g1, g2⟩ := h33
    by_cases c5 : c = 5
    · obtain ⟨ev, eS⟩ := g1 c5
      subst ev eS
      refine ⟨fun z => absurd rfl z, fun _ => bad ?_⟩
      unfold bkB
      rw [if_neg y0, hb, ec, c5, decide_eq_true (show nI 5 = (5 : Int32) from rfl)]
      simp
    · obtain ⟨ev, F33, i33, w33, p33⟩ := g2 c5
      subst ev
      have O33 : ScO S33 x w p (c + 1) := hO.fr F33 i33
      have eb : bkB μ v z t y = true := by
        unfold bkB
        rw [decide_eq_false (Int32.not_lt.mpr h99), if_neg y0, hb, ec, decide_eq_false (show ¬ nI c = (5 : Int32) from fun z9 => c5 ((nI_eq (b := 5) (by omega) (by decide)).mp z9))]; rfl
      refine ⟨fun _ => ⟨w, O33.1, fun _ => ?_⟩, fun z => absurd z (by decide)⟩
      rw [O33.2.2.2.1, nz_vp (by omega) (by decide), nI_clamp (n := bxI μ v z t) (by omega)]
      refine ⟨by omega, fun S47 e47 => ⟨p, by rw [e47, px_RA]; exact O33.2.1, fun _ => ?_⟩⟩
      rw [show hN S47 p = 5 by rw [e47, px_NA]; exact O33.2.2.2.2.2.1, nz_vp (by omega) (by decide)]
      refine ⟨by omega, fun S57 e57 => put S33 (by rw [hb, if_neg (by decide)]; exact O33) F33 eb S47 e47 S57 e57 (fun S1 e1 => ?_)⟩
      have F1 : frA S S1 x w p := by rw [e1, e57, e47]; exact (F33.W _ _).P _ _
      refine RelSc.mk' (c1 := c + 1) hr hO F1 hx (by omega) (by rw [e1, e57, e47, px_IA, px_IA]; exact i33) ?_ ?_ (fun j hj => ?_)
      · unfold bkS
        rw [if_neg y0, hb, if_neg (by decide)]
        unfold upd
        rw [if_neg (by omega), if_neg (by omega), if_pos rfl, ec, nI_1]
      · unfold bkS
        rw [if_neg y0, hb, if_neg (by decide)]
        unfold upd bkU
        rw [if_neg (by omega), if_neg (by omega), if_neg (by omega), if_neg (by omega)]
      · have aw : hA S1 w j = if j = bxI μ v z t then t else hA S33 w j := by
          rw [e1, e57, putA_o _ _ _ hwp, e47, px_A1]
        have ap : hA S1 p j = if j = bxI μ v z t then y else hA S33 p j := by
          rw [e1, e57, px_A1, e47, putA_o _ _ _ (fun z => hwp z.symm)]
        obtain ⟨r0, r1⟩ := bkS_u (μ := μ) (v := v) (z := z) (w := t) (j := j) (c := c) y0 hb ic (by omega)
        rw [aw, ap, r0, r1, w33, p33]
        by_cases g : j = bxI μ v z t
        · simp only [if_pos g, and_self]
        · simp only [if_neg g]
          by_cases g2 : bxI μ v z t < j ∧ j ≤ c
          · simp only [if_pos g2]
            exact hs (j - 1) (by omega)
          · simp only [if_neg g2]
            exact hs j (by omega)
  · have hb := b2i_z s1
    refine bad ?_
    unfold bkB
    rw [if_pos y0, hb, Bool.and_false]
  · have hb := b2i_nz s1
    have hI := hbx hb
    have eb : bkB μ v z t y = true := by
      unfold bkB
      rw [decide_eq_false (Int32.not_lt.mpr h99), if_pos y0, hb]; rfl
    refine ⟨w, p, c, bxI μ v z t, ⟨hO, hc, hI, rfl⟩, fun v68 S63 _ h63 => ?_⟩
    obtain ⟨ev, F63, i63, w63, p63⟩ := h63
    subst ev
    refine ⟨fun z => absurd z (by decide), fun _ => ⟨by rw [eb]; rfl, fun _ => ?_, w, p, hO.1, hO.2.1, F63⟩⟩
    refine RelSc.mk' (c1 := c - 1) hr hO F63 hx (by omega) i63 ?_ ?_ (fun j hj => ?_)
    · unfold bkS
      rw [if_pos y0, ic]
      unfold bkD
      rw [if_pos rfl]
    · unfold bkS
      rw [if_pos y0, ic]
      unfold bkD
      rw [if_neg (by omega), if_neg (by omega)]
    · obtain ⟨r0, r1⟩ := bkS_d (μ := μ) (v := v) (z := z) (w := t) (j := j) (c := c) y0 ic h1 h9 hj
      rw [w63, p63, r0, r1]
      by_cases g2 : bxI μ v z t ≤ j ∧ j < c - 1
      · simp only [if_pos g2]
        exact hs (j + 1) (by omega)
      · simp only [if_neg g2]
        exact hs j (by omega)
  · unfold bkB
    rw [decide_eq_true (Int32.not_le.mp h99)]
    rfl
theorem k_X4_putBreak (l : Launch) (D : va_G) (T : Nat → ClassId) (x0 : Nat) (p0 : Int32) (p1 : Int32) (S : HS) (e0 : (Nat → Prop)) (e1 : Nat → Int32) (e2 : Nat) (e3 : Nat) (hx0 : hK S x0 = 5) (h : RelSc S e0 x0 e1 e2 e3 ∧ 1 ≤ e3 ∧ e3 ≤ 9 ∧ sm e1 (274 + 510 * e2 + 38 + e3 - 1) 5 ∧ (∀ w p, hR S 101 x0 = some w → hR S 102 x0 = some p → w ≠ p) ∧ bn p1 9999) : CMi l yX4_putBreak (ws_X4_putBreak) rm_X4_putBreak D T [.ref x0, .int p0, .int p1] S 0 0 (fun v S1 => (v = b2i (bkB e1 e2 e3 p0 p1) ∧ (bkB e1 e2 e3 p0 p1 = true → RelSc S1 e0 x0 (bkS e1 e2 e3 p0 p1) e2 e3) ∧ ∃ w p, hR S 101 x0 = some w ∧ hR S 102 x0 = some p ∧ frA S S1 x0 w p)) := c_X4_putBreak l D T x0 p0 p1 S hx0 _ <|
  (by
    obtain ⟨hr, h1, h9, ⟨c, hc, ec⟩, hne, hy⟩ := h
    have hr0 := hr
    obtain ⟨k1, k2, k3, k4, w, p, g1, g2, g3, g4, g5⟩ := hr
    have ic : iv (e1 (274 + 510 * e2 + 38 + e3 - 1)) = c := by rw [ec]; exact nI_clamp (by omega)
    have hO : ScO S x0 w p c := ⟨g1, g2, g3.1, g3.2.1, g4.1, g4.2.1, hne w p g1 g2, k3.trans ec⟩
    have hs : scR S w p e1 e2 e3 c := fun i hi => g5 i (by rw [ic]; exact hi)
    have hle : bxI e1 e2 e3 p0 ≤ c := by
      have := (bxF_le (μ := e1) (v := e2) (z := e3) (w := p0) c 0).2
      unfold bxI
      rw [ic]
      omega
    unfold wp_X4_putBreak
    refine ⟨20, rl_pb hO hc hs c 0 20 (by omega) (by omega) (fun _ => ?_)⟩
    have key := w_pb49 (t := p0) (y := p1) hx0 hr0 h1 h9 hO hc ec hs hle hy
    have eI : bxF e1 e2 e3 p0 c 0 = bxI e1 e2 e3 p0 := by unfold bxI; rw [ic]
    rw [eI, k3.trans ec, nI_leI (by omega) (by omega)]
    have eB : bxB e1 e2 e3 p0 = (decide (bxI e1 e2 e3 p0 < c) && decide (e1 (274 + 510 * e2 + 47 + 10 * (e3 - 1) + 2 * bxI e1 e2 e3 p0) = p0)) := by unfold bxB; rw [ic]
    refine ⟨fun g => ?_, fun g => ⟨w, g1, fun _ => ?_⟩⟩
    · rw [eB, decide_eq_false (by omega), Bool.false_and] at key
      exact key
    · rw [g3.2.1, nz_vp (by omega) (by decide), nI_clamp (n := bxI e1 e2 e3 p0) (by omega), (hs _ (by omega)).1]
      refine ⟨by omega, fun g2 => ?_, fun g2 => ?_⟩
      · rw [eB, decide_eq_false g2, Bool.and_false] at key
        exact key
      · rw [eB, decide_eq_true g2, decide_eq_true (by omega : bxI e1 e2 e3 p0 < c), Bool.and_true] at key
        exact key)

end S_C5D
