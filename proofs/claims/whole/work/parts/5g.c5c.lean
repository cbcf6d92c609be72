section S_C5C
abbrev ws_X4_init_ : List Cond := Cond.code yX4_init_ cX4_init_ 2 none :: W0
abbrev rm_X4_init_ : Room := ({ frames := 1, cells := 0, slots := 0, locals := 22 } : Room)
def wp_X4_init_ (P : HS → Prop) (x0 : Nat) (p0 : Nat) (S : HS) (mc ms : Nat) : Prop := ∀ S2 : HS, S2 = putI S 100 x0 (hI S 100 p0) → (∃ b9 : Nat, hR S2 101 p0 = some b9 ∧ (hK S2 b9 = 22 → ((1 ≤ mc ∧ hN S2 b9 ≤ ms) ∧ (∀ q11 : Nat, hK S2 q11 = 0 → zr S2 q11 → (∀ S19 : HS, S19 = newC S2 q11 22 (hN S2 b9) (hA S2 b9) → (∀ S27 : HS, S27 = putR S19 101 x0 (some q11) → (∃ b34 : Nat, hR S27 102 p0 = some b34 ∧ (hK S27 b34 = 22 → ((1 ≤ (mc - 1) ∧ hN S27 b34 ≤ (ms - (hN S2 b9))) ∧ (∀ q36 : Nat, hK S27 q36 = 0 → zr S27 q36 → (∀ S44 : HS, S44 = newC S27 q36 22 (hN S27 b34) (hA S27 b34) → (∀ S52 : HS, S52 = putR S44 102 x0 (some q36) → (∀ S59 : HS, S59 = putI S52 103 x0 (hI S52 103 p0) → (P S59))))))))))))))
set_option maxRecDepth 100000 in
set_option maxHeartbeats 4000000 in
theorem t_X4_init_ {p : Program} {l : Launch} {e : Env} {s : State} {m : MethodId} {args : Array Value} {below : List Frame} {meth : Method} {c : Code} {D : va_G} {A : Nat → Prop} {T : Nat → ClassId} (C : GC p s m args meth c cX4_init_ "FreightRater$Scale" (ws_X4_init_) 2 D A (zty T)) (E : GE T A s) (hr : meth.sig.returnType = none) (hin : meth.name = "<init>") (P : HS → Prop) : ∀ (x0 : Nat) (p0 : Nat) (S0 S : HS) (mc ms : Nat) (L : List Nat), S0 = S → wt S → hL S L → (hK S x0 = 5) → (hK S p0 = 5) → wp_X4_init_ P x0 p0 S mc ms → GW p l e { rm_X4_init_ with cells := mc, slots := ms } s m args below meth c D A 2 mc ms (MQ below (va_Qv (fun (u : HS × List Nat) => P u.1 ∧ CO S0 u) (CE D T A) A) args s mc ms A) (CW T S L) mc ms 0 [(0, .ref x0), (1, .ref p0)] [] := by
  have hW : ∀ {w : Cond}, w ∈ W0 → w.before args s = true := fun h => C.2.2.2.2.1 _ (List.mem_cons_of_mem _ h)
  intro x0 p0 S0 S mc ms L hS0 hw hL hx0 hp0 h
  have he : ext S0 S := by rw [hS0]; exact ext_rf
  unfold wp_X4_init_ at h
  refine g_aload_n C dX4_init__0 rfl 0 rfl ?_
  refine g_objInit C (hW kw_392) (hW kw_46) (hW kw_47) dX4_init__1 (Nat.le_of_ble_eq_true rfl) (Nat.le_of_ble_eq_true rfl) ?_
  refine g_aload_n C dX4_init__4 rfl 0 rfl ?_
  refine g_aload_n C dX4_init__5 rfl 1 rfl ?_
  refine gc_getI C iwx_X4 hL hp0 (by decide) (by decide) rfl 0 (by decide) (hW kw_393) rfl rfl rfl dX4_init__6 ?_
  refine gc_putI C iwx_X4 hL hx0 (by decide) (by decide) rfl 0 (by decide) (hW kw_393) rfl tyX4 tyX4_ok nmX4 rfl rfl rfl rfl rfl dX4_init__9 ?_
  have w1 := wt_putI hw 100 (hI S 100 p0) (k_ne hx0 (by decide))
  refine gc_nS (fun S2 eS2 => ?_)
  replace h := h S2 eS2
  have w3 : wt S2 := by rw [eS2]; exact w1
  have w4 : isL S2 L := by rw [eS2]; exact hL
  have w5 : ext S0 S2 := by rw [eS2]; exact he
  have g6 : hK S2 x0 = 5 := by rw [eS2]; exact hx0
  have g7 : hK S2 p0 = 5 := by rw [eS2]; exact hp0
  refine g_aload_n C dX4_init__12 rfl 0 rfl ?_
  refine g_aload_n C dX4_init__13 rfl 1 rfl ?_
  refine gc_getR C w3 iwx_X4 w4 g7 (by decide) (by decide) rfl 1 (by decide) (hW kw_397) rfl rfl rfl dX4_init__14 (fun o8 eo8 ko8 => ?_)
  obtain ⟨b9, hb9, h⟩ := h
  have g10 : hK S2 b9 = 22 := ko8 b9 (eo8.trans hb9)
  replace h := h g10
  refine g_opt (eo8.trans hb9) ?_
  obtain ⟨g12, h⟩ := h
  refine gc_clone C E w3 w4 (Nat.le_refl _) (Nat.le_refl _) g10 (hW kw_515) (hW kw_506) (hW kw_507) (hW kw_508) (hW kw_509) (by decide) (Nat.le_of_ble_eq_true rfl) (Nat.le_of_ble_eq_true rfl) g12.1 g12.2 dX4_init__17 (fun q11 h0q11 zq11 => ?_)
  replace h := h q11 h0q11 zq11
  have g13 := newC_old 22 (hN S2 b9) (hA S2 b9) g6 (by decide) h0q11
  have g14 := newC_old 22 (hN S2 b9) (hA S2 b9) g7 (by decide) h0q11
  have w15 := wt_newC w3 22 (hN S2 b9) (hA S2 b9) h0q11 (by decide)
  have w16 := hL_new (S' := newC S2 q11 22 (hN S2 b9) (hA S2 b9)) w4 (show 22 ≠ 0 by decide) rfl
  have w17 := ext_newC w5 h0q11 22 (hN S2 b9) (hA S2 b9)
  have g18 := newC_self S2 q11 22 (hN S2 b9) (hA S2 b9)
  refine gc_nS (fun S19 eS19 => ?_)
  replace h := h S19 eS19
  have w20 : wt S19 := by rw [eS19]; exact w15
  have w21 : isL S19 (L ++ [q11]) := by rw [eS19]; exact w16
  have w22 : ext S0 S19 := by rw [eS19]; exact w17
  have g23 : hK S19 q11 = 22 := by rw [eS19]; exact g18
  have g24 : hK S19 x0 = 5 := by rw [eS19]; exact g13
  have g25 : hK S19 p0 = 5 := by rw [eS19]; exact g14
  refine gc_castI C w21 g23 (hW kw_516) dX4_init__20 ?_
  refine gc_putRF C iwx_X4 w21 g24 (by decide) (by decide) rfl 1 (by decide) (hW kw_397) rfl tyX4 tyX4_ok nmX4 rfl rfl rfl hin rfl (some q11) rfl rfl dX4_init__23 ?_
  have w26 := wt_putR w20 101 (some q11) (k_ne g24 (by decide)) (fun b hb => by cases hb; exact g23) (by decide)
  refine gc_nS (fun S27 eS27 => ?_)
  replace h := h S27 eS27
  have w28 : wt S27 := by rw [eS27]; exact w26
  have w29 : isL S27 (L ++ [q11]) := by rw [eS27]; exact w21
  have w30 : ext S0 S27 := by rw [eS27]; exact w22
  have g31 : hK S27 x0 = 5 := by rw [eS27]; exact g24
  have g32 : hK S27 p0 = 5 := by rw [eS27]; exact g25
  refine g_aload_n C dX4_init__26 rfl 0 rfl ?_
  refine g_aload_n C dX4_init__27 rfl 1 rfl ?_
  refine gc_getR C w28 iwx_X4 w29 g32 (by decide) (by decide) rfl 2 (by decide) (hW kw_400) rfl rfl rfl dX4_init__28 (fun o33 eo33 ko33 => ?_)
  obtain ⟨b34, hb9, h⟩ := h
  have g35 : hK S27 b34 = 22 := ko33 b34 (eo33.trans hb9)
  replace h := h g35
  refine g_opt (eo33.trans hb9) ?_
  obtain ⟨g37, h⟩ := h
  refine gc_clone C E w28 w29 (Nat.le_refl _) (Nat.le_refl _) g35 (hW kw_515) (hW kw_506) (hW kw_507) (hW kw_508) (hW kw_509) (by decide) (Nat.le_of_ble_eq_true rfl) (Nat.le_of_ble_eq_true rfl) g37.1 g37.2 dX4_init__31 (fun q36 h0q36 zq36 => ?_)
  replace h := h q36 h0q36 zq36
  have g38 := newC_old 22 (hN S27 b34) (hA S27 b34) g31 (by decide) h0q36
  have g39 := newC_old 22 (hN S27 b34) (hA S27 b34) g32 (by decide) h0q36
  have w40 := wt_newC w28 22 (hN S27 b34) (hA S27 b34) h0q36 (by decide)
  have w41 := hL_new (S' := newC S27 q36 22 (hN S27 b34) (hA S27 b34)) w29 (show 22 ≠ 0 by decide) rfl
  have w42 := ext_newC w30 h0q36 22 (hN S27 b34) (hA S27 b34)
  have g43 := newC_self S27 q36 22 (hN S27 b34) (hA S27 b34)
  refine gc_nS (fun S44 eS44 => ?_)
  replace h := h S44 eS44
  have w45 : wt S44 := by rw [eS44]; exact w40
  have w46 : isL S44 ((L ++ [q11]) ++ [q36]) := by rw [eS44]; exact w41
  have w47 : ext S0 S44 := by rw [eS44]; exact w42
  have g48 : hK S44 q36 = 22 := by rw [eS44]; exact g43
  have g49 : hK S44 x0 = 5 := by rw [eS44]; exact g38
  have g50 : hK S44 p0 = 5 := by rw [eS44]; exact g39
  refine gc_castI C w46 g48 (hW kw_516) dX4_init__34 ?_
  refine gc_putRF C iwx_X4 w46 g49 (by decide) (by decide) rfl 2 (by decide) (hW kw_400) rfl tyX4 tyX4_ok nmX4 rfl rfl rfl hin rfl (some q36) rfl rfl dX4_init__37 ?_
  have w51 := wt_putR w45 102 (some q36) (k_ne g49 (by decide)) (fun b hb => by cases hb; exact g48) (by decide)
  refine gc_nS (fun S52 eS52 => ?_)
  replace h := h S52 eS52
  have w53 : wt S52 := by rw [eS52]; exact w51
  have w54 : isL S52 ((L ++ [q11]) ++ [q36]) := by rw [eS52]; exact w46
  have w55 : ext S0 S52 := by rw [eS52]; exact w47
  have g56 : hK S52 x0 = 5 := by rw [eS52]; exact g49
  have g57 : hK S52 p0 = 5 := by rw [eS52]; exact g50
  refine g_aload_n C dX4_init__40 rfl 0 rfl ?_
  refine g_aload_n C dX4_init__41 rfl 1 rfl ?_
  refine gc_getI C iwx_X4 w54 g57 (by decide) (by decide) rfl 3 (by decide) (hW kw_402) rfl rfl rfl dX4_init__42 ?_
  refine gc_putI C iwx_X4 w54 g56 (by decide) (by decide) rfl 3 (by decide) (hW kw_402) rfl tyX4 tyX4_ok nmX4 rfl rfl rfl rfl rfl dX4_init__45 ?_
  have w58 := wt_putI w53 103 (hI S52 103 p0) (k_ne g56 (by decide))
  refine gc_nS (fun S59 eS59 => ?_)
  replace h := h S59 eS59
  have w60 : wt S59 := by rw [eS59]; exact w58
  have w61 : isL S59 ((L ++ [q11]) ++ [q36]) := by rw [eS59]; exact w54
  have w62 : ext S0 S59 := by rw [eS59]; exact w55
  have g63 : hK S59 x0 = 5 := by rw [eS59]; exact g56
  have g64 : hK S59 p0 = 5 := by rw [eS59]; exact g57
  exact gc_vret C w60 w61 w62 hr dX4_init__48 h
theorem c_X4_init_ (l : Launch) (D : va_G) (T : Nat → ClassId) (x0 : Nat) (p0 : Nat) (S : HS) (mc ms : Nat) (hx0 : hK S x0 = 5) (hp0 : hK S p0 = 5) (P : HS → Prop) (h : wp_X4_init_ P x0 p0 S mc ms) : CMv l yX4_init_ (ws_X4_init_) rm_X4_init_ D T [.ref x0, .ref p0] S mc ms P := gc_metv (by decide) rfl rfl (Nat.le_of_ble_eq_true rfl) (fun p e s m args below meth c A L C E hnm hr hw hL => t_X4_init_ C E   hr hnm P x0 p0 S S mc ms L rfl hw hL hx0 hp0 h)
/-- a new scale's rows are new and two -/
def scN (S S1 : HS) (x : Nat) : Prop := ∃ w p, hR S1 101 x = some w ∧ hR S1 102 x = some p ∧ hK S w = 0 ∧ hK S p = 0 ∧ w ≠ p
theorem rf_cg {μ μ' : Nat → Int32} {s s' : Nat} (h : ∀ k, k < 26 → μ' (14 + 26 * s' + k) = μ (14 + 26 * s + k)) : ∀ (k p : Nat) (n : Int32), p + k ≤ 5 → realFold μ' s' k p n = realFold μ s k p n := by
  intro k
  induction k with
  | zero => intro p n _; rfl
  | succ k ih => intro p n hp; rw [realFold, realFold, h _ (by omega), ih _ _ (by omega)]
theorem vo_cg {μ μ' : Nat → Int32} {s s' : Nat} (h : ∀ k, k < 26 → μ' (14 + 26 * s' + k) = μ (14 + 26 * s + k)) {p : Nat} (hp : p < 5) : volF μ' s' p = volF μ s p := by
  unfold volF
  rw [h _ (by omega), h _ (by omega), h _ (by omega)]
theorem lf_cg {μ μ' : Nat → Int32} {s s' : Nat} (h : ∀ k, k < 26 → μ' (14 + 26 * s' + k) = μ (14 + 26 * s + k)) : ∀ (k p : Nat) (n : Int32), p + k ≤ 5 → longFold μ' s' k p n = longFold μ s k p n := by
  intro k
  induction k with
  | zero => intro p n _; rfl
  | succ k ih => intro p n hp; rw [longFold, longFold, h _ (by omega), h _ (by omega), h _ (by omega), ih _ _ (by omega)]
theorem RelS.cg {S : HS} {M : Nat → Prop} {x : Nat} {μ μ' : Nat → Int32} {s s' : Nat} (hr : RelS S M x μ s) (h : ∀ k, k < 26 → μ' (14 + 26 * s' + k) = μ (14 + 26 * s + k)) (h5 : sm μ (14 + 26 * s + 4) 5) : RelS S M x μ' s' := by
  obtain ⟨n, hn, en⟩ := h5
  have e4 := h 4 (by omega)
  have ei : iv (μ (14 + 26 * s + 4)) = n := by rw [en]; exact nI_clamp (by omega)
  obtain ⟨h1, h2, h3, h4, h5, h6, h7, h8, h9, h10, b, g1, g2, g3⟩ := hr
  refine ⟨h1, h2, h3.trans (h 0 (by omega)).symm, h4.trans (h 1 (by omega)).symm, h5.trans (h 2 (by omega)).symm, h6.trans (h 3 (by omega)).symm, h7.trans e4.symm, ?_, ?_, h10.trans (h 5 (by omega)).symm, b, g1, g2, fun p hp => ?_⟩
  · rw [h8]; unfold realF; rw [e4, ei, rf_cg h _ _ _ (by omega)]
  · rw [h9]; unfold longF; rw [e4, ei, lf_cg h _ _ _ (by omega)]
  · rw [e4] at hp
    rw [g3 p hp, vo_cg h (by omega)]
theorem RelA.cg {S : HS} {M : Nat → Prop} {x : Nat} {μ μ' : Nat → Int32} {v v' a a' : Nat} (hr : RelA S M x μ v a) (h : ∀ k, k < 36 → μ' (274 + 510 * v' + 150 + 36 * a' + k) = μ (274 + 510 * v + 150 + 36 * a + k)) (h5 : iv (μ (274 + 510 * v + 150 + 36 * a + 4)) ≤ 30) : RelA S M x μ' v' a' := by
  have e4 := h 4 (by omega)
  obtain ⟨h1, h2, h3, h4, h5, h6, al, ar, g1, g2, g3, g4, g5, g6, g7, g8, g9⟩ := hr
  refine ⟨h1, h2, h3.trans (h 1 (by omega)).symm, h4.trans (h 2 (by omega)).symm, h5.trans (h 5 (by omega)).symm, h6.trans (h 3 (by omega)).symm, al, ar, g1, g2, g3, g4, g5, g6, g7.trans e4.symm, by rw [e4]; exact g8, fun j hj => ?_⟩
  rw [e4] at hj
  obtain ⟨t, t1, t2⟩ := g9 j hj
  refine ⟨t, t1, ?_⟩
  have e1 : μ' (274 + 510 * v' + 150 + 36 * a' + 6 + j) = μ (274 + 510 * v + 150 + 36 * a + 6 + j) := by
    have := h (6 + j) (by omega)
    rw [← Nat.add_assoc, ← Nat.add_assoc] at this
    exact this
  rw [e1]
  by_cases c : j = 0
  · subst c
    have ep : (0 = 0 ∨ ¬ iv (μ (274 + 510 * v + 150 + 36 * a + 6 + 0)) / 300000 = iv (μ' (274 + 510 * v' + 150 + 36 * a' + 6 + 0 - 1)) / 300000) = (0 = 0 ∨ ¬ iv (μ (274 + 510 * v + 150 + 36 * a + 6 + 0)) / 300000 = iv (μ (274 + 510 * v + 150 + 36 * a + 6 + 0 - 1)) / 300000) := by
      rw [eq_true (rfl : (0 : Nat) = 0), true_or, true_or]
    rw [ep]
    exact t2
  · have e2 : μ' (274 + 510 * v' + 150 + 36 * a' + 6 + j - 1) = μ (274 + 510 * v + 150 + 36 * a + 6 + j - 1) := by
      have := h (6 + j - 1) (by omega)
      rw [show 274 + 510 * v' + 150 + 36 * a' + 6 + j - 1 = 274 + 510 * v' + 150 + 36 * a' + (6 + j - 1) by omega, show 274 + 510 * v + 150 + 36 * a + 6 + j - 1 = 274 + 510 * v + 150 + 36 * a + (6 + j - 1) by omega]
      exact this
    rw [e2]
    exact t2
theorem RelSc.cg {S : HS} {M : Nat → Prop} {x : Nat} {μ μ' : Nat → Int32} {v v' z : Nat} (hr : RelSc S M x μ v z) (hz : 1 ≤ z ∧ z ≤ 9) (h : ∀ k, k < 150 → μ' (274 + 510 * v' + k) = μ (274 + 510 * v + k)) (h5 : sm μ (274 + 510 * v + 38 + z - 1) 5) : RelSc S M x μ' v' z := by
  obtain ⟨n, hn, en⟩ := h5
  have e0 : ∀ {a b k : Nat}, a = 274 + 510 * v' + k → b = 274 + 510 * v + k → k < 150 → μ' a = μ b := fun ha hb hk => by rw [ha, hb]; exact h _ hk
  have e4 : μ' (274 + 510 * v' + 38 + z - 1) = μ (274 + 510 * v + 38 + z - 1) := e0 (k := 38 + z - 1) (by omega) (by omega) (by omega)
  obtain ⟨h1, h2, h3, h4, w, p, g1, g2, g3, g4, g5⟩ := hr
  refine ⟨h1, h2, h3.trans e4.symm, h4.trans (e0 (k := 137 + z - 1) (by omega) (by omega) (by omega)).symm, w, p, g1, g2, g3, g4, fun i hi => ?_⟩
  rw [e4] at hi
  have hi5 : i < 5 := by
    have := hi
    rw [en, show iv (nI n) = n from nI_clamp (by omega)] at this
    omega
  obtain ⟨u1, u2⟩ := g5 i hi
  exact ⟨u1.trans (e0 (k := 47 + 10 * (z - 1) + 2 * i) (by omega) (by omega) (by omega)).symm, u2.trans (e0 (k := 47 + 10 * (z - 1) + 2 * i + 1) (by omega) (by omega) (by omega)).symm⟩
theorem RelV.cg {S : HS} {M : Nat → Prop} {x : Nat} {μ μ' : Nat → Int32} {v v' : Nat} (hr : RelV S M x μ v) (h : ∀ k, k < 510 → μ' (274 + 510 * v' + k) = μ (274 + 510 * v + k)) (h12 : sm μ (274 + 510 * v + 1) 12) (h5 : ∀ z, 1 ≤ z → z ≤ 9 → sm μ (274 + 510 * v + 38 + z - 1) 5) (h30 : ∀ a, a < 10 → iv (μ (274 + 510 * v + 150 + 36 * a + 4)) ≤ 30) : RelV S M x μ' v' := by
  obtain ⟨n, hn, en⟩ := h12
  have e0 : ∀ {a b k : Nat}, a = 274 + 510 * v' + k → b = 274 + 510 * v + k → k < 510 → μ' a = μ b := fun ha hb hk => by rw [ha, hb]; exact h _ hk
  obtain ⟨⟨h1, h2, h3, h4, h6, h7, h8, h9⟩, ⟨fa, t, z, r1, r2, r3, z1, z2, z3, hh⟩, ⟨sc, r4, z4, hs⟩, ⟨ac, r5, z5, ha⟩⟩ := hr
  refine ⟨⟨h1, h2, h3.trans (h 0 (by omega)).symm, h4.trans (h 1 (by omega)).symm, h6.trans (h 146 (by omega)).symm, h7.trans (h 147 (by omega)).symm, h8.trans (h 148 (by omega)).symm, h9.trans (h 149 (by omega)).symm⟩, ⟨fa, t, z, r1, r2, r3, z1, z2, z3, fun i hi => ?_⟩, ⟨sc, r4, z4, fun w hw => ?_⟩, ⟨ac, r5, z5, fun a ha9 => ?_⟩⟩
  · rw [h 1 (by omega)] at hi
    have hi12 : i < 12 := by
      have := hi
      rw [en, show iv (nI n) = n from nI_clamp (by omega)] at this
      omega
    obtain ⟨u1, u2, u3⟩ := hh i hi
    exact ⟨u1.trans (e0 (k := 2 + 3 * i) (by omega) (by omega) (by omega)).symm, u2.trans (e0 (k := 2 + 3 * i + 1) (by omega) (by omega) (by omega)).symm, u3.trans (e0 (k := 2 + 3 * i + 2) (by omega) (by omega) (by omega)).symm⟩
  · obtain ⟨u, u1, u2⟩ := hs w hw
    exact ⟨u, u1, u2.cg ⟨by omega, by omega⟩ (fun k hk => h k (by omega)) (h5 (w + 1) (by omega) (by omega))⟩
  · have e1 : μ' (274 + 510 * v' + 150 + 36 * a) = μ (274 + 510 * v + 150 + 36 * a) := e0 (k := 150 + 36 * a) (by omega) (by omega) (by omega)
    rw [e1]
    rcases ha a ha9 with h | ⟨u1, u, u2, u3⟩
    · exact Or.inl h
    · exact Or.inr ⟨u1, u, u2, u3.cg (fun k hk => e0 (k := 150 + 36 * a + k) (by omega) (by omega) (by omega)) (h30 a ha9)⟩
theorem k_X4_init_ (l : Launch) (D : va_G) (T : Nat → ClassId) (x0 : Nat) (p0 : Nat) (S : HS) (e0 : (Nat → Prop)) (e1 : Nat → Int32) (e2 : Nat) (e3 : Nat) (mc ms : Nat) (hx0 : hK S x0 = 5) (hp0 : hK S p0 = 5) (h : RelSc S e0 p0 e1 e2 e3 ∧ p0 ≠ x0 ∧ ¬ e0 x0 ∧ (∀ b, e0 b → hK S b ≠ 0) ∧ 2 ≤ mc ∧ 10 ≤ ms) : CMv l yX4_init_ (ws_X4_init_) rm_X4_init_ D T [.ref x0, .ref p0] S mc ms (fun S1 => (frM S S1 (fun b => b = x0) ∧ RelSc S1 e0 x0 e1 e2 e3 ∧ scN S S1 x0)) := c_X4_init_ l D T x0 p0 S mc ms hx0 hp0 _ <|
  (by
    obtain ⟨hr, hxp, hMx, hM0, hmc, hms⟩ := h
    obtain ⟨h1, h2, h3, h4, w, p, g1, g2, g3, g4, g5⟩ := hr
    have hpx : ¬ p0 = x0 := hxp
    have hw0 : ∀ {b : Nat}, hK S b = 22 → ∀ {q : Nat}, hK S q = 0 → b ≠ q := fun h22 _ h0 z => by rw [z, h0] at h22; exact absurd h22 (by decide)
    have hwx : w ≠ x0 := fun z => by have := g3.1; rw [z, hx0] at this; exact absurd this (by decide)
    unfold wp_X4_init_
    intro S2 e2
    subst e2
    refine ⟨w, g1, fun _ => ?_⟩
    rw [px_NI, px_AI, g3.2.1]
    refine ⟨⟨by omega, by omega⟩, fun q q0 qz S19 e19 S27 e27 => ?_⟩
    subst e19 e27
    have q0' : hK S q = 0 := q0
    have hqx : q ≠ x0 := fun z => by rw [z, hx0] at q0'; exact absurd q0' (by decide)
    have hpq : p ≠ q := hw0 g4.1 q0'
    have hwq : w ≠ q := hw0 g3.1 q0'
    refine ⟨p, by rw [px_RR, if_neg (fun z => absurd z.1 (by decide))]; exact g2, fun _ => ?_⟩
    rw [px_NR, px_NC, if_neg hpq, px_NI, g4.2.1]
    refine ⟨⟨by omega, by omega⟩, fun q2 q20 qz2 S44 e44 S52 e52 S59 e59 => ?_⟩
    subst e44 e52 e59
    have n2 : q2 ≠ q := fun z => by rw [z, px_KR, px_KC, if_pos rfl] at q20; exact absurd q20 (by decide)
    rw [px_KR, px_KC, if_neg n2] at q20
    have q20' : hK S q2 = 0 := q20
    have n3 : q ≠ q2 := fun z => n2 z.symm
    have hq2x : q2 ≠ x0 := fun z => by rw [z, hx0] at q20'; exact absurd q20' (by decide)
    have hpq2 : p ≠ q2 := hw0 g4.1 q20'
    have hqM : ¬ e0 q := fun z => hM0 _ z q0'
    have hq2M : ¬ e0 q2 := fun z => hM0 _ z q20'
    refine ⟨?_, ⟨?_, hMx, ?_, ?_, q, q2, ?_, ?_, ⟨?_, ?_, hqM⟩, ⟨?_, ?_, hq2M⟩, fun i hi => ?_⟩, q, q2, ?_, ?_, q0', q20', fun z => n2 z.symm⟩
    · intro b hb h0
      have b1 : b ≠ q := fun z => h0 (by rw [z]; exact q0')
      have b2 : b ≠ q2 := fun z => h0 (by rw [z]; exact q20')
      refine ⟨?_, ?_, fun i => ?_, fun i => ?_, ?_, ?_⟩ <;> simp only [px_KI, px_KR, px_KA, px_KB, px_KO, px_KW, px_KC, px_NI, px_NR, px_NA, px_NB, px_NO, px_NW, px_NC, px_II, px_IR, px_IA, px_IB, px_IO, px_IW, px_IC, px_RI, px_RR, px_RA, px_RB, px_RO, px_RW, px_RC, px_AI, px_AR, px_AA, px_AB, px_AO, px_AW, px_AC, px_BI, px_BR, px_BA, px_BB, px_BO, px_BW, px_BC, b1, b2, hb, and_false, if_false]
    all_goals simp (disch := decide) only [px_KI, px_KR, px_KA, px_KB, px_KO, px_KW, px_KC, px_NI, px_NR, px_NA, px_NB, px_NO, px_NW, px_NC, px_II, px_IR, px_IA, px_IB, px_IO, px_IW, px_IC, px_RI, px_RR, px_RA, px_RB, px_RO, px_RW, px_RC, px_AI, px_AR, px_AA, px_AB, px_AO, px_AW, px_AC, px_BI, px_BR, px_BA, px_BB, px_BO, px_BW, px_BC, hqx, hq2x, n2, n3, hpx, hwq, hpq, hpq2, Ne.symm hqx, Ne.symm hq2x, Nat.reduceEqDiff, Nat.succ_ne_self, and_true, and_false, true_and, false_and, if_true, if_false]
    all_goals (first | exact hx0 | exact h3 | exact h4 | rfl | exact g5 i hi))
abbrev ws_X5_addPiece : List Cond := Cond.code yX5_addPiece cX5_addPiece 5 none :: W0
abbrev rm_X5_addPiece : Room := ({ frames := 1, cells := 0, slots := 0, locals := 21 } : Room)
def wp_X5_addPiece (P : HS → Prop) (x0 : Nat) (p0 : Int32) (p1 : Int32) (p2 : Int32) (p3 : Int32) (S : HS) : Prop := ((hI S 124 x0) < 5 → (∃ b3 : Nat, hR S 125 x0 = some b3 ∧ (hK S b3 = 22 → (vp_in (hI S 124 x0) (hN S b3) ∧ (∀ S7 : HS, S7 = putA S b3 (Int32.toNatClampNeg (hI S 124 x0)) ((p0 * p1) * p2) → (∀ S13 : HS, S13 = putI S7 124 x0 ((hI S7 124 x0) + 1) → (∀ S19 : HS, S19 = putI S13 126 x0 ((hI S13 126 x0) + p3) → (∀ S25 : HS, S25 = putI S19 127 x0 (if (hI S19 127 x0) < (if p0 < (if p1 < p2 then p2 else p1) then (if p1 < p2 then p2 else p1) else p0) then (if p0 < (if p1 < p2 then p2 else p1) then (if p1 < p2 then p2 else p1) else p0) else (hI S19 127 x0)) → (P S25))))))))) ∧ (¬ (hI S 124 x0) < 5 → (P S))
set_option maxRecDepth 100000 in
set_option maxHeartbeats 4000000 in
theorem t_X5_addPiece {p : Program} {l : Launch} {e : Env} {s : State} {m : MethodId} {args : Array Value} {below : List Frame} {meth : Method} {c : Code} {D : va_G} {A : Nat → Prop} {T : Nat → ClassId} (C : GC p s m args meth c cX5_addPiece "FreightRater$Shipment" (ws_X5_addPiece) 5 D A (zty T)) (E : GE T A s) (hr : meth.sig.returnType = none) (P : HS → Prop) : ∀ (x0 : Nat) (p0 : Int32) (p1 : Int32) (p2 : Int32) (p3 : Int32) (S0 S : HS) (L : List Nat), S0 = S → wt S → hL S L → (hK S x0 = 6) → wp_X5_addPiece P x0 p0 p1 p2 p3 S → GW p l e { rm_X5_addPiece with cells := 0, slots := 0 } s m args below meth c D A 5 0 0 (MQ below (va_Qv (fun (u : HS × List Nat) => P u.1 ∧ CO S0 u) (CE D T A) A) args s 0 0 A) (CW T S L) 0 0 0 [(0, .ref x0), (1, .int p0), (2, .int p1), (3, .int p2), (4, .int p3)] [] := by
  have hW : ∀ {w : Cond}, w ∈ W0 → w.before args s = true := fun h => C.2.2.2.2.1 _ (List.mem_cons_of_mem _ h)
  intro x0 p0 p1 p2 p3 S0 S L hS0 hw hL hx0 h
  have he : ext S0 S := by rw [hS0]; exact ext_rf
  unfold wp_X5_addPiece at h
  refine g_aload_n C dX5_addPiece_0 rfl 0 rfl ?_
  refine gc_getI C iwx_X5 hL hx0 (by decide) (by decide) rfl 4 (by decide) (hW kw_1091) rfl rfl rfl dX5_addPiece_1 ?_
  refine g_iconst (v := 5) C dX5_addPiece_4 (by decide) ?_
  refine g_icmp_lt (tgt := 9) C dX5_addPiece_5 (by decide) (fun z1 => ?_) (fun z1 => ?_)
  · replace h := h.1 z1
    refine g_aload_n C dX5_addPiece_9 rfl 0 rfl ?_
    refine gc_getR C hw iwx_X5 hL hx0 (by decide) (by decide) rfl 5 (by decide) (hW kw_1094) rfl rfl rfl dX5_addPiece_10 (fun o2 eo2 ko2 => ?_)
    obtain ⟨b3, hb9, h⟩ := h
    have g4 : hK S b3 = 22 := ko2 b3 (eo2.trans hb9)
    replace h := h g4
    refine g_opt (eo2.trans hb9) ?_
    refine g_aload_n C dX5_addPiece_13 rfl 0 rfl ?_
    refine gc_getI C iwx_X5 hL hx0 (by decide) (by decide) rfl 4 (by decide) (hW kw_1091) rfl rfl rfl dX5_addPiece_14 ?_
    refine g_iload_n C dX5_addPiece_17 rfl 1 rfl ?_
    refine g_iload_n C dX5_addPiece_18 rfl 2 rfl ?_
    refine g_imul C dX5_addPiece_19 ?_
    refine g_iload_n C dX5_addPiece_20 rfl 3 rfl ?_
    refine g_imul C dX5_addPiece_21 ?_
    obtain ⟨g5, h⟩ := h
    refine gc_iast C hL g4 g5 dX5_addPiece_22 ?_
    have w6 := wt_putA hw (Int32.toNatClampNeg (hI S 124 x0)) ((p0 * p1) * p2) (k_ne g4 (by decide))
    refine gc_nS (fun S7 eS7 => ?_)
    replace h := h S7 eS7
    have w8 : wt S7 := by rw [eS7]; exact w6
    have w9 : isL S7 L := by rw [eS7]; exact hL
    have w10 : ext S0 S7 := by rw [eS7]; exact he
    have g11 : hK S7 x0 = 6 := by rw [eS7]; exact hx0
    refine g_aload_n C dX5_addPiece_23 rfl 0 rfl ?_
    refine g_dup C dX5_addPiece_24 rfl ?_
    refine gc_getI C iwx_X5 w9 g11 (by decide) (by decide) rfl 4 (by decide) (hW kw_1091) rfl rfl rfl dX5_addPiece_25 ?_
    refine g_iconst (v := 1) C dX5_addPiece_28 (by decide) ?_
    refine g_iadd C dX5_addPiece_29 ?_
    refine gc_putI C iwx_X5 w9 g11 (by decide) (by decide) rfl 4 (by decide) (hW kw_1091) rfl tyX5 tyX5_ok nmX5 rfl rfl rfl rfl rfl dX5_addPiece_30 ?_
    have w12 := wt_putI w8 124 ((hI S7 124 x0) + 1) (k_ne g11 (by decide))
    refine gc_nS (fun S13 eS13 => ?_)
    replace h := h S13 eS13
    have w14 : wt S13 := by rw [eS13]; exact w12
    have w15 : isL S13 L := by rw [eS13]; exact w9
    have w16 : ext S0 S13 := by rw [eS13]; exact w10
    have g17 : hK S13 x0 = 6 := by rw [eS13]; exact g11
    refine g_aload_n C dX5_addPiece_33 rfl 0 rfl ?_
    refine g_dup C dX5_addPiece_34 rfl ?_
    refine gc_getI C iwx_X5 w15 g17 (by decide) (by decide) rfl 6 (by decide) (hW kw_1095) rfl rfl rfl dX5_addPiece_35 ?_
    refine g_iload C dX5_addPiece_38 4 rfl ?_
    refine g_iadd C dX5_addPiece_40 ?_
    refine gc_putI C iwx_X5 w15 g17 (by decide) (by decide) rfl 6 (by decide) (hW kw_1095) rfl tyX5 tyX5_ok nmX5 rfl rfl rfl rfl rfl dX5_addPiece_41 ?_
    have w18 := wt_putI w14 126 ((hI S13 126 x0) + p3) (k_ne g17 (by decide))
    refine gc_nS (fun S19 eS19 => ?_)
    replace h := h S19 eS19
    have w20 : wt S19 := by rw [eS19]; exact w18
    have w21 : isL S19 L := by rw [eS19]; exact w15
    have w22 : ext S0 S19 := by rw [eS19]; exact w16
    have g23 : hK S19 x0 = 6 := by rw [eS19]; exact g17
    refine g_aload_n C dX5_addPiece_44 rfl 0 rfl ?_
    refine g_aload_n C dX5_addPiece_45 rfl 0 rfl ?_
    refine gc_getI C iwx_X5 w21 g23 (by decide) (by decide) rfl 7 (by decide) (hW kw_1098) rfl rfl rfl dX5_addPiece_46 ?_
    refine g_iload_n C dX5_addPiece_49 rfl 1 rfl ?_
    refine g_iload_n C dX5_addPiece_50 rfl 2 rfl ?_
    refine g_iload_n C dX5_addPiece_51 rfl 3 rfl ?_
    refine g_mmax C (hW kw_1158) (hW kw_626) (hW kw_18) (hW kw_627) (Nat.le_of_ble_eq_true rfl) (Nat.le_of_ble_eq_true rfl) (Nat.le_refl _) (Nat.le_refl _) dX5_addPiece_52 ?_
    refine g_mmax C (hW kw_1158) (hW kw_626) (hW kw_18) (hW kw_627) (Nat.le_of_ble_eq_true rfl) (Nat.le_of_ble_eq_true rfl) (Nat.le_refl _) (Nat.le_refl _) dX5_addPiece_55 ?_
    refine g_mmax C (hW kw_1158) (hW kw_626) (hW kw_18) (hW kw_627) (Nat.le_of_ble_eq_true rfl) (Nat.le_of_ble_eq_true rfl) (Nat.le_refl _) (Nat.le_refl _) dX5_addPiece_58 ?_
    refine gc_putI C iwx_X5 w21 g23 (by decide) (by decide) rfl 7 (by decide) (hW kw_1098) rfl tyX5 tyX5_ok nmX5 rfl rfl rfl rfl rfl dX5_addPiece_61 ?_
    have w24 := wt_putI w20 127 (if (hI S19 127 x0) < (if p0 < (if p1 < p2 then p2 else p1) then (if p1 < p2 then p2 else p1) else p0) then (if p0 < (if p1 < p2 then p2 else p1) then (if p1 < p2 then p2 else p1) else p0) else (hI S19 127 x0)) (k_ne g23 (by decide))
    refine gc_nS (fun S25 eS25 => ?_)
    replace h := h S25 eS25
    have w26 : wt S25 := by rw [eS25]; exact w24
    have w27 : isL S25 L := by rw [eS25]; exact w21
    have w28 : ext S0 S25 := by rw [eS25]; exact w22
    have g29 : hK S25 x0 = 6 := by rw [eS25]; exact g23
    exact gc_vret C w26 w27 w28 hr dX5_addPiece_64 h
  · replace h := h.2 z1
    exact gc_vret C hw hL he hr dX5_addPiece_8 h
theorem c_X5_addPiece (l : Launch) (D : va_G) (T : Nat → ClassId) (x0 : Nat) (p0 : Int32) (p1 : Int32) (p2 : Int32) (p3 : Int32) (S : HS) (hx0 : hK S x0 = 6) (P : HS → Prop) (h : wp_X5_addPiece P x0 p0 p1 p2 p3 S) : CMv l yX5_addPiece (ws_X5_addPiece) rm_X5_addPiece D T [.ref x0, .int p0, .int p1, .int p2, .int p3] S 0 0 P := gc_metv (by decide) rfl rfl (Nat.le_of_ble_eq_true rfl) (fun p e s m args below meth c A L C E hnm hr hw hL => t_X5_addPiece C E   hr P x0 p0 p1 p2 p3 S S L rfl hw hL hx0 h)
theorem mxF_i (a b : Int32) : (mxF a b).toInt = max a.toInt b.toInt := by
  unfold mxF
  by_cases c : a < b
  · rw [if_pos c]; have := Int32.lt_iff_toInt_lt.mp c; omega
  · rw [if_neg c]; have : ¬ a.toInt < b.toInt := fun z => c (Int32.lt_iff_toInt_lt.mpr z); omega
theorem mxF_3 (n a b c : Int32) : mxF n (mxF a (mxF b c)) = mxF (mxF (mxF n a) b) c := by
  apply Int32.toInt_inj.mp
  simp only [mxF_i]
  omega
theorem rf_sn {μ : Nat → Int32} {s : Nat} : ∀ (k p : Nat) (n : Int32), realFold μ s (k + 1) p n = realFold μ s k p n + μ (14 + 26 * s + (6 + 4 * (p + k) + 3)) := by
  intro k
  induction k with
  | zero => intro p n; rfl
  | succ k ih => intro p n; rw [realFold, ih, realFold, show p + 1 + k = p + (k + 1) by omega]
theorem lf_sn {μ : Nat → Int32} {s : Nat} : ∀ (k p : Nat) (n : Int32), longFold μ s (k + 1) p n = mxF (mxF (mxF (longFold μ s k p n) (μ (14 + 26 * s + (6 + 4 * (p + k))))) (μ (14 + 26 * s + (6 + 4 * (p + k) + 1)))) (μ (14 + 26 * s + (6 + 4 * (p + k) + 2))) := by
  intro k
  induction k with
  | zero => intro p n; rfl
  | succ k ih => intro p n; rw [longFold, ih, longFold, show p + 1 + k = p + (k + 1) by omega]
theorem rf_c1 {μ μ' : Nat → Int32} {s : Nat} : ∀ (k p : Nat) (n : Int32), (∀ j, p ≤ j → j < p + k → μ' (14 + 26 * s + (6 + 4 * j + 3)) = μ (14 + 26 * s + (6 + 4 * j + 3))) → realFold μ' s k p n = realFold μ s k p n := by
  intro k
  induction k with
  | zero => intro p n _; rfl
  | succ k ih => intro p n h; rw [realFold, realFold, h p (by omega) (by omega), ih _ _ (fun j h1 h2 => h j (by omega) (by omega))]
theorem lf_c1 {μ μ' : Nat → Int32} {s : Nat} : ∀ (k p : Nat) (n : Int32), (∀ j i, p ≤ j → j < p + k → i < 3 → μ' (14 + 26 * s + (6 + 4 * j + i)) = μ (14 + 26 * s + (6 + 4 * j + i))) → longFold μ' s k p n = longFold μ s k p n := by
  intro k
  induction k with
  | zero => intro p n _; rfl
  | succ k ih =>
    intro p n h
    have a0 := h p 0 (by omega) (by omega) (by omega)
    rw [Nat.add_zero] at a0
    rw [longFold, longFold, a0, h p 1 (by omega) (by omega) (by omega), h p 2 (by omega) (by omega) (by omega), ih _ _ (fun j i h1 h2 h3 => h j i (by omega) (by omega) h3)]
/-- a shipment's cells with one piece more -/
theorem pak_c {μ : Nat → Int32} {s n : Nat} {a b c w : Int32} (en : μ (14 + 26 * s + 4) = nI n) (hn : n < 5) : (∀ k, k < 14 + 26 * s ∨ 14 + 26 * s + 26 ≤ k → pakF μ s a b c w k = μ k) ∧ (∀ k, k < 6 → k ≠ 4 → pakF μ s a b c w (14 + 26 * s + k) = μ (14 + 26 * s + k)) ∧ pakF μ s a b c w (14 + 26 * s + 4) = nI (n + 1) ∧ (∀ j i, j < n → i < 4 → pakF μ s a b c w (14 + 26 * s + (6 + 4 * j + i)) = μ (14 + 26 * s + (6 + 4 * j + i))) ∧ pakF μ s a b c w (14 + 26 * s + (6 + 4 * n)) = a ∧ pakF μ s a b c w (14 + 26 * s + (6 + 4 * n + 1)) = b ∧ pakF μ s a b c w (14 + 26 * s + (6 + 4 * n + 2)) = c ∧ pakF μ s a b c w (14 + 26 * s + (6 + 4 * n + 3)) = w := by
  have ei : iv (μ (14 + 26 * s + 4)) = n := by rw [en]; exact nI_clamp (by omega)
  unfold pakF
  rw [ei, en, nI_1]
  unfold upd
  refine ⟨fun k hk => ?_, fun k hk h4 => ?_, ?_, fun j i hj hi => ?_, ?_, ?_, ?_, ?_⟩
  · rw [if_neg (by omega), if_neg (by omega), if_neg (by omega), if_neg (by omega), if_neg (by omega)]
  · rw [if_neg (by omega), if_neg (by omega), if_neg (by omega), if_neg (by omega), if_neg (by omega)]
  · rw [if_pos rfl]
  · rw [if_neg (by omega), if_neg (by omega), if_neg (by omega), if_neg (by omega), if_neg (by omega)]
  · rw [if_neg (by omega), if_neg (by omega), if_neg (by omega), if_neg (by omega), if_pos (by omega)]
  · rw [if_neg (by omega), if_neg (by omega), if_neg (by omega), if_pos (by omega)]
  · rw [if_neg (by omega), if_neg (by omega), if_pos (by omega)]
  · rw [if_neg (by omega), if_pos (by omega)]
theorem pak_f {μ : Nat → Int32} {s n : Nat} {a b c w : Int32} (en : μ (14 + 26 * s + 4) = nI n) (hn : n < 5) : realF (pakF μ s a b c w) s = realF μ s + w ∧ longF (pakF μ s a b c w) s = mxF (longF μ s) (mxF a (mxF b c)) ∧ (∀ p, p < n → volF (pakF μ s a b c w) s p = volF μ s p) ∧ volF (pakF μ s a b c w) s n = a * b * c := by
  obtain ⟨_, _, c3, c4, c5, c6, c7, c8⟩ := pak_c (a := a) (b := b) (c := c) (w := w) en hn
  have ei : iv (μ (14 + 26 * s + 4)) = n := by rw [en]; exact nI_clamp (by omega)
  have ei' : iv (pakF μ s a b c w (14 + 26 * s + 4)) = n + 1 := by rw [c3]; exact nI_clamp (by omega)
  refine ⟨?_, ?_, fun p hp => ?_, ?_⟩
  · unfold realF
    rw [ei', ei, rf_sn, Nat.zero_add, c8, rf_c1 _ _ _ (fun j _ hj => c4 j 3 (by omega) (by omega))]
  · unfold longF
    rw [ei', ei, lf_sn, Nat.zero_add, c5, c6, c7, lf_c1 _ _ _ (fun j i _ hj hi => c4 j i (by omega) (by omega)), mxF_3]
  · unfold volF
    have := c4 p 0 hp (by omega)
    rw [Nat.add_zero] at this
    rw [this, c4 p 1 hp (by omega), c4 p 2 hp (by omega)]
  · unfold volF
    rw [c5, c6, c7]
theorem k_X5_addPiece (l : Launch) (D : va_G) (T : Nat → ClassId) (x0 : Nat) (p0 : Int32) (p1 : Int32) (p2 : Int32) (p3 : Int32) (S : HS) (e0 : (Nat → Prop)) (e1 : Nat → Int32) (e2 : Nat) (hx0 : hK S x0 = 6) (h : RelS S e0 x0 e1 e2 ∧ ∃ n : Nat, n < 5 ∧ e1 (14 + 26 * e2 + 4) = nI n) : CMv l yX5_addPiece (ws_X5_addPiece) rm_X5_addPiece D T [.ref x0, .int p0, .int p1, .int p2, .int p3] S 0 0 (fun S1 => (frM S S1 (fun b => b = x0 ∨ hR S 125 x0 = some b) ∧ RelS S1 e0 x0 (pakF e1 e2 p0 p1 p2 p3) e2 ∧ hK S1 = hK S ∧ hN S1 = hN S ∧ hR S1 = hR S)) := c_X5_addPiece l D T x0 p0 p1 p2 p3 S hx0 _ <|
  (by
    obtain ⟨hr, n, hn, en⟩ := h
    obtain ⟨h1, h2, h3, h4, h5, h6, h7, h8, h9, h10, b, g1, g2, g3⟩ := hr
    obtain ⟨c1, c2, c3, c4, c5, c6, c7, c8⟩ := pak_c (a := p0) (b := p1) (c := p2) (w := p3) en hn
    obtain ⟨d1, d2, d3, d4⟩ := pak_f (a := p0) (b := p1) (c := p2) (w := p3) en hn
    have ei : iv (e1 (14 + 26 * e2 + 4)) = n := by rw [en]; exact nI_clamp (by omega)
    have i4 : hI S 124 x0 = nI n := h7.trans en
    unfold wp_X5_addPiece
    rw [i4]
    refine ⟨fun _ => ⟨b, g1, fun _ => ?_⟩, fun z => absurd ((nI_ltI (b := 5) (by omega) (by decide)).mpr hn) z⟩
    rw [g2.2.1, nz_vp (by omega) (by decide), nI_clamp (n := n) (by omega)]
    refine ⟨hn, fun S7 e7 S13 e13 S19 e19 S25 e25 => ?_⟩
    subst e7 e13 e19 e25
    have hbx : b ≠ x0 := fun z => by have := g2.1; rw [z, hx0] at this; exact absurd this (by decide)
    refine ⟨?_, ?_, rfl, rfl, rfl⟩
    · exact (((frM.rf.pA (Or.inr g1) _ _).pI (Or.inl rfl) _ _).pI (Or.inl rfl) _ _).pI (Or.inl rfl) _ _
    · have e0' := c2 0 (by omega) (by omega)
      rw [Nat.add_zero] at e0'
      refine ⟨hx0, h2, ?_, ?_, ?_, ?_, ?_, ?_, ?_, ?_, b, g1, g2, fun p hp => ?_⟩
      · rw [e0', ← h3]; simp only [px_KI, px_KR, px_KA, px_KB, px_KO, px_KW, px_KC, px_NI, px_NR, px_NA, px_NB, px_NO, px_NW, px_NC, px_II, px_IR, px_IA, px_IB, px_IO, px_IW, px_IC, px_RI, px_RR, px_RA, px_RB, px_RO, px_RW, px_RC, px_AI, px_AR, px_AA, px_AB, px_AO, px_AW, px_AC, px_BI, px_BR, px_BA, px_BB, px_BO, px_BW, px_BC, Nat.reduceEqDiff, false_and, if_false]
      · rw [c2 1 (by omega) (by omega), ← h4]; simp only [px_KI, px_KR, px_KA, px_KB, px_KO, px_KW, px_KC, px_NI, px_NR, px_NA, px_NB, px_NO, px_NW, px_NC, px_II, px_IR, px_IA, px_IB, px_IO, px_IW, px_IC, px_RI, px_RR, px_RA, px_RB, px_RO, px_RW, px_RC, px_AI, px_AR, px_AA, px_AB, px_AO, px_AW, px_AC, px_BI, px_BR, px_BA, px_BB, px_BO, px_BW, px_BC, Nat.reduceEqDiff, false_and, if_false]
      · rw [c2 2 (by omega) (by omega), ← h5]; simp only [px_KI, px_KR, px_KA, px_KB, px_KO, px_KW, px_KC, px_NI, px_NR, px_NA, px_NB, px_NO, px_NW, px_NC, px_II, px_IR, px_IA, px_IB, px_IO, px_IW, px_IC, px_RI, px_RR, px_RA, px_RB, px_RO, px_RW, px_RC, px_AI, px_AR, px_AA, px_AB, px_AO, px_AW, px_AC, px_BI, px_BR, px_BA, px_BB, px_BO, px_BW, px_BC, Nat.reduceEqDiff, false_and, if_false]
      · rw [c2 3 (by omega) (by omega), ← h6]; simp only [px_KI, px_KR, px_KA, px_KB, px_KO, px_KW, px_KC, px_NI, px_NR, px_NA, px_NB, px_NO, px_NW, px_NC, px_II, px_IR, px_IA, px_IB, px_IO, px_IW, px_IC, px_RI, px_RR, px_RA, px_RB, px_RO, px_RW, px_RC, px_AI, px_AR, px_AA, px_AB, px_AO, px_AW, px_AC, px_BI, px_BR, px_BA, px_BB, px_BO, px_BW, px_BC, Nat.reduceEqDiff, false_and, if_false]
      · rw [c3]
        simp only [px_KI, px_KR, px_KA, px_KB, px_KO, px_KW, px_KC, px_NI, px_NR, px_NA, px_NB, px_NO, px_NW, px_NC, px_II, px_IR, px_IA, px_IB, px_IO, px_IW, px_IC, px_RI, px_RR, px_RA, px_RB, px_RO, px_RW, px_RC, px_AI, px_AR, px_AA, px_AB, px_AO, px_AW, px_AC, px_BI, px_BR, px_BA, px_BB, px_BO, px_BW, px_BC, Nat.reduceEqDiff, and_true, and_false, true_and, false_and, if_true, if_false]
        rw [i4, nI_1]
      · rw [d1, ← h8]
        simp only [px_KI, px_KR, px_KA, px_KB, px_KO, px_KW, px_KC, px_NI, px_NR, px_NA, px_NB, px_NO, px_NW, px_NC, px_II, px_IR, px_IA, px_IB, px_IO, px_IW, px_IC, px_RI, px_RR, px_RA, px_RB, px_RO, px_RW, px_RC, px_AI, px_AR, px_AA, px_AB, px_AO, px_AW, px_AC, px_BI, px_BR, px_BA, px_BB, px_BO, px_BW, px_BC, Nat.reduceEqDiff, and_true, and_false, true_and, false_and, if_true, if_false]
      · rw [d2, ← h9]
        simp only [px_KI, px_KR, px_KA, px_KB, px_KO, px_KW, px_KC, px_NI, px_NR, px_NA, px_NB, px_NO, px_NW, px_NC, px_II, px_IR, px_IA, px_IB, px_IO, px_IW, px_IC, px_RI, px_RR, px_RA, px_RB, px_RO, px_RW, px_RC, px_AI, px_AR, px_AA, px_AB, px_AO, px_AW, px_AC, px_BI, px_BR, px_BA, px_BB, px_BO, px_BW, px_BC, Nat.reduceEqDiff, and_true, and_false, true_and, false_and, if_true, if_false]
        rfl
      · rw [c2 5 (by omega) (by omega), ← h10]; simp only [px_KI, px_KR, px_KA, px_KB, px_KO, px_KW, px_KC, px_NI, px_NR, px_NA, px_NB, px_NO, px_NW, px_NC, px_II, px_IR, px_IA, px_IB, px_IO, px_IW, px_IC, px_RI, px_RR, px_RA, px_RB, px_RO, px_RW, px_RC, px_AI, px_AR, px_AA, px_AB, px_AO, px_AW, px_AC, px_BI, px_BR, px_BA, px_BB, px_BO, px_BW, px_BC, Nat.reduceEqDiff, false_and, if_false]
      · have hp' : p < n + 1 := by rw [c3, show iv (nI (n + 1)) = n + 1 from nI_clamp (by omega)] at hp; exact hp
        simp only [px_KI, px_KR, px_KA, px_KB, px_KO, px_KW, px_KC, px_NI, px_NR, px_NA, px_NB, px_NO, px_NW, px_NC, px_II, px_IR, px_IA, px_IB, px_IO, px_IW, px_IC, px_RI, px_RR, px_RA, px_RB, px_RO, px_RW, px_RC, px_AI, px_AR, px_AA, px_AB, px_AO, px_AW, px_AC, px_BI, px_BR, px_BA, px_BB, px_BO, px_BW, px_BC, true_and]
        by_cases c : p = n
        · rw [if_pos c, c, d4]
        · rw [if_neg c, d3 p (by omega)]
          exact g3 p (by rw [ei]; omega))
abbrev ws_X5_init_ : List Cond := Cond.code yX5_init_ cX5_init_ 2 none :: W0
abbrev rm_X5_init_ : Room := ({ frames := 1, cells := 0, slots := 0, locals := 22 } : Room)
def wp_X5_init_ (P : HS → Prop) (x0 : Nat) (p0 : Nat) (S : HS) (mc ms : Nat) : Prop := ∀ S2 : HS, S2 = putI S 128 x0 (-1) → (∀ S9 : HS, S9 = putI S2 120 x0 (hI S2 120 p0) → (∀ S16 : HS, S16 = putI S9 121 x0 (hI S9 121 p0) → (∀ S23 : HS, S23 = putI S16 122 x0 (hI S16 122 p0) → (∀ S30 : HS, S30 = putI S23 123 x0 (hI S23 123 p0) → (∀ S37 : HS, S37 = putI S30 124 x0 (hI S30 124 p0) → (∃ b44 : Nat, hR S37 125 p0 = some b44 ∧ (hK S37 b44 = 22 → ((1 ≤ mc ∧ hN S37 b44 ≤ ms) ∧ (∀ q46 : Nat, hK S37 q46 = 0 → zr S37 q46 → (∀ S54 : HS, S54 = newC S37 q46 22 (hN S37 b44) (hA S37 b44) → (∀ S62 : HS, S62 = putR S54 125 x0 (some q46) → (∀ S69 : HS, S69 = putI S62 126 x0 (hI S62 126 p0) → (∀ S76 : HS, S76 = putI S69 127 x0 (hI S69 127 p0) → (∀ S83 : HS, S83 = putI S76 128 x0 (hI S76 128 p0) → (P S83)))))))))))))))
set_option maxRecDepth 100000 in
set_option maxHeartbeats 4000000 in
theorem t_X5_init_ {p : Program} {l : Launch} {e : Env} {s : State} {m : MethodId} {args : Array Value} {below : List Frame} {meth : Method} {c : Code} {D : va_G} {A : Nat → Prop} {T : Nat → ClassId} (C : GC p s m args meth c cX5_init_ "FreightRater$Shipment" (ws_X5_init_) 2 D A (zty T)) (E : GE T A s) (hr : meth.sig.returnType = none) (hin : meth.name = "<init>") (P : HS → Prop) : ∀ (x0 : Nat) (p0 : Nat) (S0 S : HS) (mc ms : Nat) (L : List Nat), S0 = S → wt S → hL S L → (hK S x0 = 6) → (hK S p0 = 6) → wp_X5_init_ P x0 p0 S mc ms → GW p l e { rm_X5_init_ with cells := mc, slots := ms } s m args below meth c D A 2 mc ms (MQ below (va_Qv (fun (u : HS × List Nat) => P u.1 ∧ CO S0 u) (CE D T A) A) args s mc ms A) (CW T S L) mc ms 0 [(0, .ref x0), (1, .ref p0)] [] := by
  have hW : ∀ {w : Cond}, w ∈ W0 → w.before args s = true := fun h => C.2.2.2.2.1 _ (List.mem_cons_of_mem _ h)
  intro x0 p0 S0 S mc ms L hS0 hw hL hx0 hp0 h
  have he : ext S0 S := by rw [hS0]; exact ext_rf
  unfold wp_X5_init_ at h
  refine g_aload_n C dX5_init__0 rfl 0 rfl ?_
  refine g_objInit C (hW kw_1078) (hW kw_46) (hW kw_47) dX5_init__1 (Nat.le_of_ble_eq_true rfl) (Nat.le_of_ble_eq_true rfl) ?_
  refine g_aload_n C dX5_init__4 rfl 0 rfl ?_
  refine g_iconst (v := -1) C dX5_init__5 (by decide) ?_
  refine gc_putI C iwx_X5 hL hx0 (by decide) (by decide) rfl 8 (by decide) (hW kw_1101) rfl tyX5 tyX5_ok nmX5 rfl rfl rfl rfl rfl dX5_init__6 ?_
  have w1 := wt_putI hw 128 (-1) (k_ne hx0 (by decide))
  refine gc_nS (fun S2 eS2 => ?_)
  replace h := h S2 eS2
  have w3 : wt S2 := by rw [eS2]; exact w1
  have w4 : isL S2 L := by rw [eS2]; exact hL
  have w5 : ext S0 S2 := by rw [eS2]; exact he
  have g6 : hK S2 x0 = 6 := by rw [eS2]; exact hx0
  have g7 : hK S2 p0 = 6 := by rw [eS2]; exact hp0
  refine g_aload_n C dX5_init__9 rfl 0 rfl ?_
  refine g_aload_n C dX5_init__10 rfl 1 rfl ?_
  refine gc_getI C iwx_X5 w4 g7 (by decide) (by decide) rfl 0 (by decide) (hW kw_1079) rfl rfl rfl dX5_init__11 ?_
  refine gc_putI C iwx_X5 w4 g6 (by decide) (by decide) rfl 0 (by decide) (hW kw_1079) rfl tyX5 tyX5_ok nmX5 rfl rfl rfl rfl rfl dX5_init__14 ?_
  have w8 := wt_putI w3 120 (hI S2 120 p0) (k_ne g6 (by decide))
  refine gc_nS (fun S9 eS9 => ?_)
  replace h := h S9 eS9
  have w10 : wt S9 := by rw [eS9]; exact w8
  have w11 : isL S9 L := by rw [eS9]; exact w4
  have w12 : ext S0 S9 := by rw [eS9]; exact w5
  have g13 : hK S9 x0 = 6 := by rw [eS9]; exact g6
  have g14 : hK S9 p0 = 6 := by rw [eS9]; exact g7
  refine g_aload_n C dX5_init__17 rfl 0 rfl ?_
  refine g_aload_n C dX5_init__18 rfl 1 rfl ?_
  refine gc_getI C iwx_X5 w11 g14 (by decide) (by decide) rfl 1 (by decide) (hW kw_1082) rfl rfl rfl dX5_init__19 ?_
  refine gc_putI C iwx_X5 w11 g13 (by decide) (by decide) rfl 1 (by decide) (hW kw_1082) rfl tyX5 tyX5_ok nmX5 rfl rfl rfl rfl rfl dX5_init__22 ?_
  have w15 := wt_putI w10 121 (hI S9 121 p0) (k_ne g13 (by decide))
  refine gc_nS (fun S16 eS16 => ?_)
  replace h := h S16 eS16
  have w17 : wt S16 := by rw [eS16]; exact w15
  have w18 : isL S16 L := by rw [eS16]; exact w11
  have w19 : ext S0 S16 := by rw [eS16]; exact w12
  have g20 : hK S16 x0 = 6 := by rw [eS16]; exact g13
  have g21 : hK S16 p0 = 6 := by rw [eS16]; exact g14
  refine g_aload_n C dX5_init__25 rfl 0 rfl ?_
  refine g_aload_n C dX5_init__26 rfl 1 rfl ?_
  refine gc_getI C iwx_X5 w18 g21 (by decide) (by decide) rfl 2 (by decide) (hW kw_1085) rfl rfl rfl dX5_init__27 ?_
  refine gc_putI C iwx_X5 w18 g20 (by decide) (by decide) rfl 2 (by decide) (hW kw_1085) rfl tyX5 tyX5_ok nmX5 rfl rfl rfl rfl rfl dX5_init__30 ?_
  have w22 := wt_putI w17 122 (hI S16 122 p0) (k_ne g20 (by decide))
  refine gc_nS (fun S23 eS23 => ?_)
  replace h := h S23 eS23
  have w24 : wt S23 := by rw [eS23]; exact w22
  have w25 : isL S23 L := by rw [eS23]; exact w18
  have w26 : ext S0 S23 := by rw [eS23]; exact w19
  have g27 : hK S23 x0 = 6 := by rw [eS23]; exact g20
  have g28 : hK S23 p0 = 6 := by rw [eS23]; exact g21
  refine g_aload_n C dX5_init__33 rfl 0 rfl ?_
  refine g_aload_n C dX5_init__34 rfl 1 rfl ?_
  refine gc_getI C iwx_X5 w25 g28 (by decide) (by decide) rfl 3 (by decide) (hW kw_1088) rfl rfl rfl dX5_init__35 ?_
  refine gc_putIF C iwx_X5 w25 g27 (by decide) (by decide) rfl 3 (by decide) (hW kw_1088) rfl tyX5 tyX5_ok nmX5 rfl rfl rfl hin rfl rfl rfl dX5_init__38 ?_
  have w29 := wt_putI w24 123 (hI S23 123 p0) (k_ne g27 (by decide))
  refine gc_nS (fun S30 eS30 => ?_)
  replace h := h S30 eS30
  have w31 : wt S30 := by rw [eS30]; exact w29
  have w32 : isL S30 L := by rw [eS30]; exact w25
  have w33 : ext S0 S30 := by rw [eS30]; exact w26
  have g34 : hK S30 x0 = 6 := by rw [eS30]; exact g27
  have g35 : hK S30 p0 = 6 := by rw [eS30]; exact g28
  refine g_aload_n C dX5_init__41 rfl 0 rfl ?_
  refine g_aload_n C dX5_init__42 rfl 1 rfl ?_
  refine gc_getI C iwx_X5 w32 g35 (by decide) (by decide) rfl 4 (by decide) (hW kw_1091) rfl rfl rfl dX5_init__43 ?_
  refine gc_putI C iwx_X5 w32 g34 (by decide) (by decide) rfl 4 (by decide) (hW kw_1091) rfl tyX5 tyX5_ok nmX5 rfl rfl rfl rfl rfl dX5_init__46 ?_
  have w36 := wt_putI w31 124 (hI S30 124 p0) (k_ne g34 (by decide))
  refine gc_nS (fun S37 eS37 => ?_)
  replace h := h S37 eS37
  have w38 : wt S37 := by rw [eS37]; exact w36
  have w39 : isL S37 L := by rw [eS37]; exact w32
  have w40 : ext S0 S37 := by rw [eS37]; exact w33
  have g41 : hK S37 x0 = 6 := by rw [eS37]; exact g34
  have g42 : hK S37 p0 = 6 := by rw [eS37]; exact g35
  refine g_aload_n C dX5_init__49 rfl 0 rfl ?_
  refine g_aload_n C dX5_init__50 rfl 1 rfl ?_
  refine gc_getR C w38 iwx_X5 w39 g42 (by decide) (by decide) rfl 5 (by decide) (hW kw_1094) rfl rfl rfl dX5_init__51 (fun o43 eo43 ko43 => ?_)
  obtain ⟨b44, hb9, h⟩ := h
  have g45 : hK S37 b44 = 22 := ko43 b44 (eo43.trans hb9)
  replace h := h g45
  refine g_opt (eo43.trans hb9) ?_
  obtain ⟨g47, h⟩ := h
  refine gc_clone C E w38 w39 (Nat.le_refl _) (Nat.le_refl _) g45 (hW kw_1152) (hW kw_506) (hW kw_507) (hW kw_508) (hW kw_509) (by decide) (Nat.le_of_ble_eq_true rfl) (Nat.le_of_ble_eq_true rfl) g47.1 g47.2 dX5_init__54 (fun q46 h0q46 zq46 => ?_)
  replace h := h q46 h0q46 zq46
  have g48 := newC_old 22 (hN S37 b44) (hA S37 b44) g41 (by decide) h0q46
  have g49 := newC_old 22 (hN S37 b44) (hA S37 b44) g42 (by decide) h0q46
  have w50 := wt_newC w38 22 (hN S37 b44) (hA S37 b44) h0q46 (by decide)
  have w51 := hL_new (S' := newC S37 q46 22 (hN S37 b44) (hA S37 b44)) w39 (show 22 ≠ 0 by decide) rfl
  have w52 := ext_newC w40 h0q46 22 (hN S37 b44) (hA S37 b44)
  have g53 := newC_self S37 q46 22 (hN S37 b44) (hA S37 b44)
  refine gc_nS (fun S54 eS54 => ?_)
  replace h := h S54 eS54
  have w55 : wt S54 := by rw [eS54]; exact w50
  have w56 : isL S54 (L ++ [q46]) := by rw [eS54]; exact w51
  have w57 : ext S0 S54 := by rw [eS54]; exact w52
  have g58 : hK S54 q46 = 22 := by rw [eS54]; exact g53
  have g59 : hK S54 x0 = 6 := by rw [eS54]; exact g48
  have g60 : hK S54 p0 = 6 := by rw [eS54]; exact g49
  refine gc_castI C w56 g58 (hW kw_1153) dX5_init__57 ?_
  refine gc_putRF C iwx_X5 w56 g59 (by decide) (by decide) rfl 5 (by decide) (hW kw_1094) rfl tyX5 tyX5_ok nmX5 rfl rfl rfl hin rfl (some q46) rfl rfl dX5_init__60 ?_
  have w61 := wt_putR w55 125 (some q46) (k_ne g59 (by decide)) (fun b hb => by cases hb; exact g58) (by decide)
  refine gc_nS (fun S62 eS62 => ?_)
  replace h := h S62 eS62
  have w63 : wt S62 := by rw [eS62]; exact w61
  have w64 : isL S62 (L ++ [q46]) := by rw [eS62]; exact w56
  have w65 : ext S0 S62 := by rw [eS62]; exact w57
  have g66 : hK S62 x0 = 6 := by rw [eS62]; exact g59
  have g67 : hK S62 p0 = 6 := by rw [eS62]; exact g60
  refine g_aload_n C dX5_init__63 rfl 0 rfl ?_
  refine g_aload_n C dX5_init__64 rfl 1 rfl ?_
  refine gc_getI C iwx_X5 w64 g67 (by decide) (by decide) rfl 6 (by decide) (hW kw_1095) rfl rfl rfl dX5_init__65 ?_
  refine gc_putI C iwx_X5 w64 g66 (by decide) (by decide) rfl 6 (by decide) (hW kw_1095) rfl tyX5 tyX5_ok nmX5 rfl rfl rfl rfl rfl dX5_init__68 ?_
  have w68 := wt_putI w63 126 (hI S62 126 p0) (k_ne g66 (by decide))
  refine gc_nS (fun S69 eS69 => ?_)
  replace h := h S69 eS69
  have w70 : wt S69 := by rw [eS69]; exact w68
  have w71 : isL S69 (L ++ [q46]) := by rw [eS69]; exact w64
  have w72 : ext S0 S69 := by rw [eS69]; exact w65
  have g73 : hK S69 x0 = 6 := by rw [eS69]; exact g66
  have g74 : hK S69 p0 = 6 := by rw [eS69]; exact g67
  refine g_aload_n C dX5_init__71 rfl 0 rfl ?_
  refine g_aload_n C dX5_init__72 rfl 1 rfl ?_
  refine gc_getI C iwx_X5 w71 g74 (by decide) (by decide) rfl 7 (by decide) (hW kw_1098) rfl rfl rfl dX5_init__73 ?_
  refine gc_putI C iwx_X5 w71 g73 (by decide) (by decide) rfl 7 (by decide) (hW kw_1098) rfl tyX5 tyX5_ok nmX5 rfl rfl rfl rfl rfl dX5_init__76 ?_
  have w75 := wt_putI w70 127 (hI S69 127 p0) (k_ne g73 (by decide))
  refine gc_nS (fun S76 eS76 => ?_)
  replace h := h S76 eS76
  have w77 : wt S76 := by rw [eS76]; exact w75
  have w78 : isL S76 (L ++ [q46]) := by rw [eS76]; exact w71
  have w79 : ext S0 S76 := by rw [eS76]; exact w72
  have g80 : hK S76 x0 = 6 := by rw [eS76]; exact g73
  have g81 : hK S76 p0 = 6 := by rw [eS76]; exact g74
  refine g_aload_n C dX5_init__79 rfl 0 rfl ?_
  refine g_aload_n C dX5_init__80 rfl 1 rfl ?_
  refine gc_getI C iwx_X5 w78 g81 (by decide) (by decide) rfl 8 (by decide) (hW kw_1101) rfl rfl rfl dX5_init__81 ?_
  refine gc_putI C iwx_X5 w78 g80 (by decide) (by decide) rfl 8 (by decide) (hW kw_1101) rfl tyX5 tyX5_ok nmX5 rfl rfl rfl rfl rfl dX5_init__84 ?_
  have w82 := wt_putI w77 128 (hI S76 128 p0) (k_ne g80 (by decide))
  refine gc_nS (fun S83 eS83 => ?_)
  replace h := h S83 eS83
  have w84 : wt S83 := by rw [eS83]; exact w82
  have w85 : isL S83 (L ++ [q46]) := by rw [eS83]; exact w78
  have w86 : ext S0 S83 := by rw [eS83]; exact w79
  have g87 : hK S83 x0 = 6 := by rw [eS83]; exact g80
  have g88 : hK S83 p0 = 6 := by rw [eS83]; exact g81
  exact gc_vret C w84 w85 w86 hr dX5_init__87 h
theorem c_X5_init_ (l : Launch) (D : va_G) (T : Nat → ClassId) (x0 : Nat) (p0 : Nat) (S : HS) (mc ms : Nat) (hx0 : hK S x0 = 6) (hp0 : hK S p0 = 6) (P : HS → Prop) (h : wp_X5_init_ P x0 p0 S mc ms) : CMv l yX5_init_ (ws_X5_init_) rm_X5_init_ D T [.ref x0, .ref p0] S mc ms P := gc_metv (by decide) rfl rfl (Nat.le_of_ble_eq_true rfl) (fun p e s m args below meth c A L C E hnm hr hw hL => t_X5_init_ C E   hr hnm P x0 p0 S S mc ms L rfl hw hL hx0 hp0 h)
theorem k_X5_init_ (l : Launch) (D : va_G) (T : Nat → ClassId) (x0 : Nat) (p0 : Nat) (S : HS) (e0 : (Nat → Prop)) (e1 : Nat → Int32) (e2 : Nat) (mc ms : Nat) (hx0 : hK S x0 = 6) (hp0 : hK S p0 = 6) (h : RelS S e0 p0 e1 e2 ∧ p0 ≠ x0 ∧ ¬ e0 x0 ∧ (∀ b, e0 b → hK S b ≠ 0) ∧ 1 ≤ mc ∧ 5 ≤ ms) : CMv l yX5_init_ (ws_X5_init_) rm_X5_init_ D T [.ref x0, .ref p0] S mc ms (fun S1 => (frM S S1 (fun b => b = x0) ∧ RelS S1 e0 x0 e1 e2 ∧ ∃ b, hR S1 125 x0 = some b ∧ hK S b = 0)) := c_X5_init_ l D T x0 p0 S mc ms hx0 hp0 _ <|
  (by
    obtain ⟨hr, hxp, hMx, hM0, hmc, hms⟩ := h
    obtain ⟨h1, h2, h3, h4, h5, h6, h7, h8, h9, h10, b, g1, g2, g3⟩ := hr
    have hpx : ¬ p0 = x0 := hxp
    unfold wp_X5_init_
    intro S2 e2 S9 e9 S16 e16 S23 e23 S30 e30 S37 e37
    subst e2
    simp only [px_II, hpx, and_false, if_false] at e9
    subst e9
    simp only [px_II, hpx, and_false, if_false] at e16
    subst e16
    simp only [px_II, hpx, and_false, if_false] at e23
    subst e23
    simp only [px_II, hpx, and_false, if_false] at e30
    subst e30
    simp only [px_II, hpx, and_false, if_false] at e37
    subst e37
    refine ⟨b, by simp only [px_KI, px_KR, px_KA, px_KB, px_KO, px_KW, px_KC, px_NI, px_NR, px_NA, px_NB, px_NO, px_NW, px_NC, px_II, px_IR, px_IA, px_IB, px_IO, px_IW, px_IC, px_RI, px_RR, px_RA, px_RB, px_RO, px_RW, px_RC, px_AI, px_AR, px_AA, px_AB, px_AO, px_AW, px_AC, px_BI, px_BR, px_BA, px_BB, px_BO, px_BW, px_BC]; exact g1, fun _ => ?_⟩
    simp only [px_NI, px_AI]
    rw [g2.2.1]
    refine ⟨⟨hmc, hms⟩, fun q q0 qz S54 e54 S62 e62 S69 e69 S76 e76 S83 e83 => ?_⟩
    subst e54 e62
    simp only [px_II, px_IR, px_IC, hpx, and_false, if_false] at e69
    subst e69
    simp only [px_II, px_IR, px_IC, hpx, and_false, if_false] at e76
    subst e76
    simp only [px_II, px_IR, px_IC, hpx, and_false, if_false] at e83
    subst e83
    have q0' : hK S q = 0 := by simp only [px_KI, px_KR, px_KA, px_KB, px_KO, px_KW, px_KC, px_NI, px_NR, px_NA, px_NB, px_NO, px_NW, px_NC, px_II, px_IR, px_IA, px_IB, px_IO, px_IW, px_IC, px_RI, px_RR, px_RA, px_RB, px_RO, px_RW, px_RC, px_AI, px_AR, px_AA, px_AB, px_AO, px_AW, px_AC, px_BI, px_BR, px_BA, px_BB, px_BO, px_BW, px_BC] at q0; exact q0
    clear q0 qz
    have hqx : q ≠ x0 := fun z => by rw [z, hx0] at q0'; exact absurd q0' (by decide)
    have hbq : b ≠ q := fun z => by have := g2.1; rw [z, q0'] at this; exact absurd this (by decide)
    have hqM : ¬ e0 q := fun z => hM0 _ z q0'
    refine ⟨?_, ⟨?_, hMx, ?_, ?_, ?_, ?_, ?_, ?_, ?_, ?_, q, ?_, ⟨?_, ?_, hqM⟩, fun i hi => ?_⟩, q, ?_, q0'⟩
    · intro b9 hb h0
      try clear g3
      have b1 : b9 ≠ q := fun z => h0 (by rw [z]; exact q0')
      refine ⟨?_, ?_, fun i => ?_, fun i => ?_, ?_, ?_⟩ <;> simp only [px_KI, px_KR, px_KA, px_KB, px_KO, px_KW, px_KC, px_NI, px_NR, px_NA, px_NB, px_NO, px_NW, px_NC, px_II, px_IR, px_IA, px_IB, px_IO, px_IW, px_IC, px_RI, px_RR, px_RA, px_RB, px_RO, px_RW, px_RC, px_AI, px_AR, px_AA, px_AB, px_AO, px_AW, px_AC, px_BI, px_BR, px_BA, px_BB, px_BO, px_BW, px_BC, b1, hb, and_false, if_false]
    all_goals simp (disch := decide) only [px_KI, px_KR, px_KA, px_KB, px_KO, px_KW, px_KC, px_NI, px_NR, px_NA, px_NB, px_NO, px_NW, px_NC, px_II, px_IR, px_IA, px_IB, px_IO, px_IW, px_IC, px_RI, px_RR, px_RA, px_RB, px_RO, px_RW, px_RC, px_AI, px_AR, px_AA, px_AB, px_AO, px_AW, px_AC, px_BI, px_BR, px_BA, px_BB, px_BO, px_BW, px_BC, hqx, hpx, hbq, Ne.symm hqx, Nat.reduceEqDiff, Nat.succ_ne_self, and_true, and_false, true_and, false_and, if_true, if_false]
    all_goals (first | exact hx0 | exact h3 | exact h4 | exact h5 | exact h6 | exact h7 | exact h8 | exact h9 | exact h10 | rfl | exact g3 i hi))

end S_C5C
