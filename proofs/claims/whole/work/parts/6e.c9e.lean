section S_C9E
abbrev ws_X10_ship : List Cond := Cond.code yX10_ship cX10_ship 5 (some .int) :: W0
abbrev rm_X10_ship : Room := ({ frames := 6, cells := 0, slots := 0, locals := 100 } : Room)
def wp_X10_ship (P : Int32 → HS → Prop) (X : String → HS → Prop) (x0 : Nat) (p0 : Int32) (p1 : Int32) (p2 : Int32) (p3 : Int32) (S : HS) (mc ms : Nat) : Prop := ((andF (zin p0 0 999) (zin p1 0 999)) = 0 → ((1 ≤ mc ∧ 6 ≤ ms) ∧ X "java/lang/IllegalArgumentException" S)) ∧ (¬ (andF (zin p0 0 999) (zin p1 0 999)) = 0 → (((zin p2 0 255) = 0 → ((1 ≤ mc ∧ 6 ≤ ms) ∧ X "java/lang/IllegalArgumentException" S)) ∧ (¬ (zin p2 0 255) = 0 → ((¬ (zin p3 0 3) = 0 → (∃ b19 : Nat, hR S 220 x0 = some b19 ∧ (hK S b19 = 7 → (((hI S 143 b19) < 10 → (∃ (m22 : (Nat → Nat)) (m23 : (Nat → Nat → Int32)) (m24 : (Nat → Int32)) (m25 : (Nat → Int32)) (m26 : (List Int32)), ((FrS S m22 m23 m24 m25 m26 ∧ x0 = m22 50) ∧ (∀ (S28 : HS), ext S S28 → (FrS S28 m22 (rmU m23 m24) (rmG m24) m25 m26 ∧ frM S S28 (fxM m22) ∧ hK S28 = hK S ∧ hR S28 = hR S ∧ (∀ i, 54 ≤ i → i < 64 → sam S S28 (m22 i))) → (∃ b36 : Nat, hR S28 220 x0 = some b36 ∧ (hK S28 b36 = 7 → ((1 ≤ mc ∧ 9 ≤ ms) ∧ (∀ q38 : Nat, hK S28 q38 = 0 → zr S28 q38 → (∀ S46 : HS, S46 = newO S28 q38 6 → (∃ cc53 cc54 : Nat, (cc53 ≤ (mc - 1) ∧ cc54 ≤ (ms - 9)) ∧ ((1 ≤ cc53 ∧ 5 ≤ cc54) ∧ (∀ (S57 : HS), ext S46 S57 → (∃ b, hK (putI (putI (putI (putI (putI S46 128 q38 (-1)) 120 q38 p0) 121 q38 p1) 122 q38 p2) 123 q38 p3) b = 0 ∧ zr (putI (putI (putI (putI (putI S46 128 q38 (-1)) 120 q38 p0) 121 q38 p1) 122 q38 p2) 123 q38 p3) b ∧ S57 = putR (newA (putI (putI (putI (putI (putI S46 128 q38 (-1)) 120 q38 p0) 121 q38 p1) 122 q38 p2) 123 q38 p3) b 22 5) 125 q38 (some b)) → (∃ (m66 : Nat) (m67 : Nat), ((hR S57 142 b36 = some m66 ∧ hK S57 m66 = 27 ∧ hN S57 m66 = 10 ∧ hI S57 143 b36 = nI m67 ∧ m67 < 10) ∧ (∀ (v74 : Int32) (S69 : HS), ext S57 S69 → (v74 = nI m67 ∧ S69 = putI (putB S57 m66 m67 (some q38)) 143 b36 (nI (m67 + 1))) → (P v74 S69)))))))))))))))) ∧ (¬ (hI S 143 b19) < 10 → ((1 ≤ mc ∧ 6 ≤ ms) ∧ X "java/lang/IllegalStateException" S)))))) ∧ ((zin p3 0 3) = 0 → ((1 ≤ mc ∧ 6 ≤ ms) ∧ X "java/lang/IllegalArgumentException" S))))))
set_option maxRecDepth 100000 in
set_option maxHeartbeats 4000000 in
theorem t_X10_ship {p : Program} {l : Launch} {e : Env} {s : State} {m : MethodId} {args : Array Value} {below : List Frame} {meth : Method} {c : Code} {D : va_G} {A : Nat → Prop} {T : Nat → ClassId} (C : GC p s m args meth c cX10_ship "FreightRater" (ws_X10_ship) 5 D A (zty T)) (E : GE T A s) (hst : l.stackTraces = false) (htab : ∀ z ∈ c.exceptionTable.toList, False) (hr : meth.sig.returnType = (some .int)) (P : Int32 → HS → Prop) (X : String → HS → Prop) : ∀ (x0 : Nat) (p0 : Int32) (p1 : Int32) (p2 : Int32) (p3 : Int32) (S0 S : HS) (mc ms : Nat) (L : List Nat), S0 = S → wt S → hL S L → (hK S x0 = 11) → wp_X10_ship P X x0 p0 p1 p2 p3 S mc ms → GW p l e { rm_X10_ship with cells := mc, slots := ms } s m args below meth c D A 5 mc ms (vx_MQ below (va_Qi (fun v (u : HS × List Nat) => P v u.1 ∧ CO S0 u) (CE D T A) A) (CXX D T A S0 X) args s mc ms A) (CW T S L) mc ms 0 [(0, .ref x0), (1, .int p0), (2, .int p1), (3, .int p2), (4, .int p3)] [] := by
  have hW : ∀ {w : Cond}, w ∈ W0 → w.before args s = true := fun h => C.2.2.2.2.1 _ (List.mem_cons_of_mem _ h)
  intro x0 p0 p1 p2 p3 S0 S mc ms L hS0 hw hL hx0 h
  have he : ext S0 S := by rw [hS0]; exact ext_rf
  unfold wp_X10_ship at h
  refine g_iload_n C dX10_ship_0 rfl 1 rfl ?_
  refine g_iload_n C dX10_ship_1 rfl 2 rfl ?_
  refine gc_calliS (host := "") C E hw hL [.int p0, .int p1] rfl (k_X10_isRoute l D T p0 p1 S ) (w0_S 2 C.2.2.2.2.1 kw_1070 kw_1071 kw_1 kw_1072 rfl rfl (by decide +kernel) ⟨Nat.le_of_ble_eq_true rfl, Nat.le_of_ble_eq_true rfl⟩) rfl (Nat.le_of_ble_eq_true rfl) (Nat.le_refl _) (Nat.le_refl _) (Nat.zero_le _) (Nat.zero_le _) dX10_ship_2 (fun v9 S9 L1 he9 hw9 hL9 hp => ?_)
  obtain ⟨hv9, hs9⟩ := hp
  replace hs9 := hs9.symm
  subst hs9
  replace hv9 := hv9.symm
  subst hv9
  have w4 := hL9
  refine g_if_eq (tgt := 29) C dX10_ship_5 (by decide) (fun z5 => ?_) (fun z5 => ?_)
  · replace h := h.1 z5
    obtain ⟨g6, h⟩ := h
    exact gx_throw (cls := "java/lang/IllegalArgumentException") (names := ["java/lang/RuntimeException", "java/lang/Exception"]) C E hst hw w4 he (Nat.le_refl _) (Nat.le_refl _) (by decide) (by decide) (hW kw_310) (hW kw_13) (th_FreightRater_62 hW E) tv_FreightRater_62 dX10_ship_29 dX10_ship_32 dX10_ship_33 dX10_ship_36 htab (Nat.le_of_ble_eq_true rfl) (Nat.le_of_ble_eq_true rfl) g6.1 g6.2 h
  · replace h := h.2 z5
    refine g_iload_n C dX10_ship_8 rfl 3 rfl ?_
    refine g_iconst (v := 0) C dX10_ship_9 (by decide) ?_
    refine g_sipush (v := 255) C dX10_ship_10 (by decide) ?_
    refine gc_calliS (host := "") C E hw w4 [.int p2, .int 0, .int 255] rfl (k_X10_isBetween l D T p2 0 255 S ) (w0_S 3 C.2.2.2.2.1 kw_303 kw_304 kw_1 kw_305 rfl rfl (by decide +kernel) ⟨Nat.le_of_ble_eq_true rfl, Nat.le_of_ble_eq_true rfl⟩) rfl (Nat.le_of_ble_eq_true rfl) (Nat.le_refl _) (Nat.le_refl _) (Nat.zero_le _) (Nat.zero_le _) dX10_ship_13 (fun v9 S9 L7 he9 hw9 hL9 hp => ?_)
    obtain ⟨hv9, hs9⟩ := hp
    replace hs9 := hs9.symm
    subst hs9
    replace hv9 := hv9.symm
    subst hv9
    have w10 := hL9
    refine g_if_eq (tgt := 29) C dX10_ship_16 (by decide) (fun z11 => ?_) (fun z11 => ?_)
    · replace h := h.1 z11
      obtain ⟨g12, h⟩ := h
      exact gx_throw (cls := "java/lang/IllegalArgumentException") (names := ["java/lang/RuntimeException", "java/lang/Exception"]) C E hst hw w10 he (Nat.le_refl _) (Nat.le_refl _) (by decide) (by decide) (hW kw_310) (hW kw_13) (th_FreightRater_62 hW E) tv_FreightRater_62 dX10_ship_29 dX10_ship_32 dX10_ship_33 dX10_ship_36 htab (Nat.le_of_ble_eq_true rfl) (Nat.le_of_ble_eq_true rfl) g12.1 g12.2 h
    · replace h := h.2 z11
      refine g_iload C dX10_ship_19 4 rfl ?_
      refine g_iconst (v := 0) C dX10_ship_21 (by decide) ?_
      refine g_iconst (v := 3) C dX10_ship_22 (by decide) ?_
      refine gc_calliS (host := "") C E hw w10 [.int p3, .int 0, .int 3] rfl (k_X10_isBetween l D T p3 0 3 S ) (w0_S 3 C.2.2.2.2.1 kw_303 kw_304 kw_1 kw_305 rfl rfl (by decide +kernel) ⟨Nat.le_of_ble_eq_true rfl, Nat.le_of_ble_eq_true rfl⟩) rfl (Nat.le_of_ble_eq_true rfl) (Nat.le_refl _) (Nat.le_refl _) (Nat.zero_le _) (Nat.zero_le _) dX10_ship_23 (fun v9 S9 L13 he9 hw9 hL9 hp => ?_)
      obtain ⟨hv9, hs9⟩ := hp
      replace hs9 := hs9.symm
      subst hs9
      replace hv9 := hv9.symm
      subst hv9
      have w16 := hL9
      refine g_if_ne (tgt := 37) C dX10_ship_26 (by decide) (fun z17 => ?_) (fun z17 => ?_)
      · replace h := h.1 z17
        refine g_aload_n C dX10_ship_37 rfl 0 rfl ?_
        refine gc_getR C hw iwx_X10 w16 hx0 (by decide) (by decide) rfl 0 (by decide) (hW kw_242) rfl rfl rfl dX10_ship_38 (fun o18 eo18 ko18 => ?_)
        obtain ⟨b19, hb9, h⟩ := h
        have g20 : hK S b19 = 7 := ko18 b19 (eo18.trans hb9)
        replace h := h g20
        refine g_opt (eo18.trans hb9) ?_
        refine gc_getI C iwx_X6 w16 g20 (by decide) (by decide) rfl 3 (by decide) (hW kw_67) rfl rfl rfl dX10_ship_41 ?_
        refine g_bipush (v := 10) C dX10_ship_44 (by decide) ?_
        refine g_icmp_lt (tgt := 57) C dX10_ship_46 (by decide) (fun z21 => ?_) (fun z21 => ?_)
        · replace h := h.1 z21
          refine g_aload_n C dX10_ship_57 rfl 0 rfl ?_
          obtain ⟨m22, m23, m24, m25, m26, h⟩ := h
          obtain ⟨g27, h⟩ := h
          refine gc_callvV (host := "") C E hw w16 hx0 (by decide) (by decide) rfl [] rfl (k_X10_remember l D T x0 S m22 m23 m24 m25 m26 hx0 g27) (w0_V 0 C.2.2.2.2.1 kw_495 kw_497 ks_1 kw_1 kw_498 rfl rfl (by decide +kernel) ⟨Nat.le_of_ble_eq_true rfl, Nat.le_of_ble_eq_true rfl⟩) rfl (Nat.le_of_ble_eq_true rfl) (Nat.le_refl _) (Nat.le_refl _) (Nat.zero_le _) (Nat.zero_le _) dX10_ship_58 (fun S28 L29 e30 w31 w32 hp => ?_)
          replace h := h S28 e30 hp
          have g33 := ext_K e30 hx0 (by decide)
          have w34 := ext_tr he e30
          refine g_aload_n C dX10_ship_61 rfl 0 rfl ?_
          refine gc_getR C w31 iwx_X10 w32 g33 (by decide) (by decide) rfl 0 (by decide) (hW kw_242) rfl rfl rfl dX10_ship_62 (fun o35 eo35 ko35 => ?_)
          obtain ⟨b36, hb9, h⟩ := h
          have g37 : hK S28 b36 = 7 := ko35 b36 (eo35.trans hb9)
          replace h := h g37
          refine g_opt (eo35.trans hb9) ?_
          obtain ⟨g39, h⟩ := h
          refine gc_new (kd := 6) (N := 9) C E w31 w32 (Nat.le_refl _) (Nat.le_refl _) iwx_X5 tyX5 tyX5_ok (by decide) (by decide) rfl (fun j hj => by rcases (show j = 0 ∨ j = 1 ∨ j = 2 ∨ j = 3 ∨ j = 4 ∨ j = 5 ∨ j = 6 ∨ j = 7 ∨ j = 8 by omega) with rfl | rfl | rfl | rfl | rfl | rfl | rfl | rfl | rfl <;> rfl) (hW kw_1073) (hW kw_1074) (hW kw_35) g39.1 g39.2 dX10_ship_65 (fun q38 h0q38 zq38 => ?_)
          replace h := h q38 h0q38 zq38
          have g40 := newO_old 6 g37 (by decide) h0q38
          have g41 := newO_old 6 g33 (by decide) h0q38
          have w42 := wt_newO w31 6 h0q38 (by decide)
          have w43 := hL_new (S' := newO S28 q38 6) w32 (show 6 ≠ 0 by decide) rfl
          have w44 := ext_newO w34 h0q38 6
          have g45 := newO_self S28 q38 6
          refine gc_nS (fun S46 eS46 => ?_)
          replace h := h S46 eS46
          have w47 : wt S46 := by rw [eS46]; exact w42
          have w48 : isL S46 (L29 ++ [q38]) := by rw [eS46]; exact w43
          have w49 : ext S0 S46 := by rw [eS46]; exact w44
          have g50 : hK S46 q38 = 6 := by rw [eS46]; exact g45
          have g51 : hK S46 b36 = 7 := by rw [eS46]; exact g40
          have g52 : hK S46 x0 = 11 := by rw [eS46]; exact g41
          refine g_dup C dX10_ship_68 rfl ?_
          refine g_iload_n C dX10_ship_69 rfl 1 rfl ?_
          refine g_iload_n C dX10_ship_70 rfl 2 rfl ?_
          refine g_iload_n C dX10_ship_71 rfl 3 rfl ?_
          refine g_iload C dX10_ship_72 4 rfl ?_
          obtain ⟨cc53, cc54, g55, h⟩ := h
          obtain ⟨g56, h⟩ := h
          refine gc_callvI (host := "") (ret := none) C E w47 w48 [.int p0, .int p1, .int p2, .int p3] rfl (k_X5_init l D T q38 p0 p1 p2 p3 S46 cc53 cc54 g50 g56) (w0_I 4 C.2.2.2.2.1 kw_1075 kw_1076 kw_35 kw_1077 rfl rfl rfl (by decide +kernel) ⟨Nat.le_of_ble_eq_true rfl, Nat.le_of_ble_eq_true rfl⟩) rfl (Nat.le_of_ble_eq_true rfl) (Nat.le_refl _) (Nat.le_refl _) g55.1 g55.2 dX10_ship_74 (fun S57 L58 e59 w60 w61 hp => ?_)
          replace h := h S57 e59 hp
          have g62 := ext_K e59 g50 (by decide)
          have g63 := ext_K e59 g51 (by decide)
          have g64 := ext_K e59 g52 (by decide)
          have w65 := ext_tr w49 e59
          obtain ⟨m66, m67, h⟩ := h
          obtain ⟨g68, h⟩ := h
          refine gc_calliV (host := "") C E w60 w61 g63 (by decide) (by decide) rfl [.ref q38] rfl (k_X6_addShipment l D T b36 q38 S57 m66 m67 g63 g62 g68) (w0_V 1 C.2.2.2.2.1 kw_1123 kw_1124 kw_1125 kw_2 kw_1126 rfl rfl (by decide +kernel) ⟨Nat.le_of_ble_eq_true rfl, Nat.le_of_ble_eq_true rfl⟩) rfl (Nat.le_of_ble_eq_true rfl) (Nat.le_refl _) (Nat.le_refl _) (Nat.zero_le _) (Nat.zero_le _) dX10_ship_77 (fun v74 S69 L70 e71 w72 w73 hp => ?_)
          replace h := h v74 S69 e71 hp
          have g75 := ext_K e71 g64 (by decide)
          have w76 := ext_tr w65 e71
          exact gx_iret C w72 w73 w76 hr dX10_ship_80 h
        · replace h := h.2 z21
          obtain ⟨g77, h⟩ := h
          exact gx_throw (cls := "java/lang/IllegalStateException") (names := ["java/lang/RuntimeException", "java/lang/Exception"]) C E hst hw w16 he (Nat.le_refl _) (Nat.le_refl _) (by decide) (by decide) (hW kw_480) (hW kw_17) (th_FreightRater_78 hW E) tv_FreightRater_78 dX10_ship_49 dX10_ship_52 dX10_ship_53 dX10_ship_56 htab (Nat.le_of_ble_eq_true rfl) (Nat.le_of_ble_eq_true rfl) g77.1 g77.2 h
      · replace h := h.2 z17
        obtain ⟨g78, h⟩ := h
        exact gx_throw (cls := "java/lang/IllegalArgumentException") (names := ["java/lang/RuntimeException", "java/lang/Exception"]) C E hst hw w16 he (Nat.le_refl _) (Nat.le_refl _) (by decide) (by decide) (hW kw_310) (hW kw_13) (th_FreightRater_62 hW E) tv_FreightRater_62 dX10_ship_29 dX10_ship_32 dX10_ship_33 dX10_ship_36 htab (Nat.le_of_ble_eq_true rfl) (Nat.le_of_ble_eq_true rfl) g78.1 g78.2 h
theorem c_X10_ship (l : Launch) (hst : l.stackTraces = false) (D : va_G) (T : Nat → ClassId) (x0 : Nat) (p0 : Int32) (p1 : Int32) (p2 : Int32) (p3 : Int32) (S : HS) (mc ms : Nat) (hx0 : hK S x0 = 11) (P : Int32 → HS → Prop) (X : String → HS → Prop) (h : wp_X10_ship P X x0 p0 p1 p2 p3 S mc ms) : CXi l yX10_ship (ws_X10_ship) rm_X10_ship D T [.ref x0, .int p0, .int p1, .int p2, .int p3] S mc ms P X := gx_meti (by decide) rfl rfl (Nat.le_of_ble_eq_true rfl) (fun p e s m args below meth c A L C E hnm hr htab hw hL => t_X10_ship C E hst htab hr P X x0 p0 p1 p2 p3 S S mc ms L rfl hw hL hx0 h)
/-- what calls leave of the rows: everything of a version but its number -/
theorem WFA_c2 {μ μ' : Nat → Int32} {v v' a : Nat} (e : ∀ c, c < 36 → μ' (274 + 510 * v' + 150 + 36 * a + c) = μ (274 + 510 * v + 150 + 36 * a + c)) (h : WFA μ v a) : WFA μ' v' a := by
  obtain ⟨h1, h2, h3, h4, h5, h6, h7, h8, h9⟩ := h
  have e0 : μ' (274 + 510 * v' + 150 + 36 * a) = μ (274 + 510 * v + 150 + 36 * a) := e 0 (by decide)
  have s0 : ∀ {i j B : Nat}, μ' i = μ j → sm μ j B → sm μ' i B := fun he ⟨n, hn, en⟩ => ⟨n, hn, he.trans en⟩
  refine ⟨by rw [e0]; exact h1, s0 (e 1 (by decide)) h2, s0 (e 2 (by decide)) h3, s0 (e 3 (by decide)) h4, s0 (e 4 (by decide)) h5, by rw [e 5 (by decide)]; exact h6.imp id (s0 (e 5 (by decide))), fun k hk => s0 (by have := e (6 + k) (by omega); rw [← Nat.add_assoc, ← Nat.add_assoc] at this; exact this) (h7 k hk), fun z9 => ?_, fun z9 => ?_⟩
  · rw [e 2 (by decide)] at z9
    exact s0 (e 1 (by decide)) (h8 z9)
  · rw [e 2 (by decide)] at z9
    exact s0 (e 1 (by decide)) (h9 z9)
theorem WFV_c2 {μ μ' : Nat → Int32} {v v' : Nat} (e : ∀ o, 1 ≤ o → o < 510 → μ' (274 + 510 * v' + o) = μ (274 + 510 * v + o)) (h : WFV μ v) (hl : ∀ n, μ' 0 = nI n → n ≤ 6 → v' < n → ∃ d : Nat, 1000 ≤ d ∧ d ≤ 9999 ∧ μ' (274 + 510 * v' + 146) = nI d) : WFV μ' v' := by
  obtain ⟨h1, h2, h3, h4, h5, h6, h7, h8, h9⟩ := h
  have s0 : ∀ {i j B : Nat}, μ' i = μ j → sm μ j B → sm μ' i B := fun he ⟨n, hn, en⟩ => ⟨n, hn, he.trans en⟩
  have e9 : ∀ {i j : Nat} (o : Nat), i = 274 + 510 * v' + o → j = 274 + 510 * v + o → 1 ≤ o → o < 510 → μ' i = μ j := fun o hi hj h1 h5 => by rw [hi, hj]; exact e o h1 h5
  refine ⟨s0 (e 1 (by decide) (by decide)) h1, fun z z1 z9 => ?_, fun i hi => ?_, s0 (e 146 (by decide) (by decide)) h4, s0 (e 147 (by decide) (by decide)) h5, s0 (e 148 (by decide) (by decide)) h6, s0 (e 149 (by decide) (by decide)) h7, fun a ha => WFA_c2 (fun c hc => ?_) (h8 a ha), hl⟩
  · obtain ⟨a1, a2, a3⟩ := h2 z z1 z9
    exact ⟨s0 (e9 (38 + z - 1) (by omega) (by omega) (by omega) (by omega)) a1, s0 (e9 (137 + z - 1) (by omega) (by omega) (by omega) (by omega)) a2, fun i hi => ⟨s0 (e9 (47 + 10 * (z - 1) + 2 * i) (by omega) (by omega) (by omega) (by omega)) (a3 i hi).1, s0 (e9 (47 + 10 * (z - 1) + 2 * i + 1) (by omega) (by omega) (by omega) (by omega)) (a3 i hi).2⟩⟩
  · exact s0 (e9 (2 + 3 * i + 2) (by omega) (by omega) (by omega) (by omega)) (h3 i hi)
  · exact e9 (150 + 36 * a + c) (by omega) (by omega) (by omega) (by omega)
theorem rwO_c2 {μ μ' : Nat → Int32} {v v' a : Nat} (e : ∀ c, 1 ≤ c → μ' (274 + 510 * v' + 150 + 36 * a + c) = μ (274 + 510 * v + 150 + 36 * a + c)) (h : rwO μ v a) : rwO μ' v' a := by
  have e6 : ∀ j, μ' (274 + 510 * v' + 150 + 36 * a + 6 + j) = μ (274 + 510 * v + 150 + 36 * a + 6 + j) := fun j => by
    have := e (6 + j) (by omega)
    rw [← Nat.add_assoc, ← Nat.add_assoc] at this
    exact this
  have e60 : μ' (274 + 510 * v' + 150 + 36 * a + 6) = μ (274 + 510 * v + 150 + 36 * a + 6) := e 6 (by omega)
  unfold rwO at h ⊢
  simp only [e 3 (by omega), e 4 (by omega), e60, e6]
  exact h
theorem WFR_cg {μ μ' : Nat → Int32} (e : ∀ k, 274 ≤ k → μ' k = μ k) (h : WFR μ) : WFR μ' := fun v hv a ha => rwO_c2 (fun c _ => e _ (by omega)) (h v hv a ha)
theorem WFP_cg {μ μ' : Nat → Int32} (hw : WF μ) (e : ∀ k, 274 ≤ k → μ' k = μ k) (h : WFP μ) : WFP μ' := fun v hv a ha => paE hw hv ha (fun c _ => e _ (by omega)) (h v hv a ha)
theorem WF_s {μ μ' : Nat → Int32} {s : Nat} (e : ∀ k, k ≠ 1 → k < 14 + 26 * s ∨ 14 + 26 * s + 26 ≤ k → μ' k = μ k) (hs : s < 10) (h1 : sm μ' 1 10) (h : WF μ) (hS : WFS μ' s) : WF μ' := by
  obtain ⟨a1, _, a3, a4, a5⟩ := h
  refine ⟨sm_cg (e 0 (by omega) (by omega)) a1, h1, sm_cg (e 2 (by omega) (by omega)) a3, fun v hv => WFV_cg (e 0 (by omega) (by omega)) (fun o ho => e _ (by omega) (by omega)) (a4 v hv), fun t ht => ?_⟩
  by_cases c : t = s
  · rw [c]; exact hS
  · exact WFS_cg (fun o ho => e _ (by omega) (by omega)) (a5 t ht)
/-- one shipment's cells (and the number of shipments) change -/
theorem GWF_s {μ μ' : Nat → Int32} {s : Nat} (e : ∀ k, k ≠ 1 → k < 14 + 26 * s ∨ 14 + 26 * s + 26 ≤ k → μ' k = μ k) (hs : s < 10) (h1 : sm μ' 1 10) (h : GWF μ) (hS : WFS μ' s) : GWF μ' := by
  obtain ⟨w, r, o, p⟩ := h
  refine ⟨WF_s e hs h1 w hS, WFR_cg (fun k hk => e k (by omega) (by omega)) r, fun i hi => ?_, WFP_cg w (fun k hk => e k (by omega) (by omega)) p⟩
  rw [e 2 (by omega) (by omega)] at hi
  obtain ⟨n, hn, en⟩ := w.2.2.1
  have hi9 := hi
  rw [en, show iv (nI n) = n from nI_clamp (by omega)] at hi9
  rw [e (4 + 2 * i) (by omega) (by omega)]
  exact o i hi
theorem shi_c {μ : Nat → Int32} {n : Nat} (en : μ 1 = nI n) (hn : n < 10) (p d h c : Int32) : (∀ k, k ≠ 1 → k < 14 + 26 * n ∨ 14 + 26 * n + 26 ≤ k → shiF μ p d h c k = μ k) ∧ shiF μ p d h c 1 = nI (n + 1) ∧ shiF μ p d h c (14 + 26 * n) = p ∧ shiF μ p d h c (14 + 26 * n + 1) = d ∧ shiF μ p d h c (14 + 26 * n + 2) = h ∧ shiF μ p d h c (14 + 26 * n + 3) = c ∧ shiF μ p d h c (14 + 26 * n + 4) = 0 ∧ shiF μ p d h c (14 + 26 * n + 5) = -1 ∧ ∀ k, 6 ≤ k → k < 26 → shiF μ p d h c (14 + 26 * n + k) = 0 := by
  have ei : iv (μ 1) = n := by rw [en]; exact nI_clamp (by omega)
  unfold shiF
  rw [ei, en, nI_1]
  unfold upd zf
  refine ⟨fun k h1 h2 => ?_, ?_, ?_, ?_, ?_, ?_, ?_, ?_, fun k h1 h2 => ?_⟩ <;> (repeat' split) <;> first | rfl | omega
theorem shi_gw {μ : Nat → Int32} (hG : GWF μ) {n : Nat} (en : μ 1 = nI n) (hn : n < 10) {p d h c : Int32} (hh : bn h 255) (hc : bn c 3) : GWF (shiF μ p d h c) := by
  obtain ⟨c1, c2, c3, c4, c5, c6, c7, c8, c9⟩ := shi_c en hn p d h c
  have z6 : ∀ k B, 6 ≤ k → k < 26 → sm (shiF μ p d h c) (14 + 26 * n + k) B := fun k B h1 h2 => ⟨0, Nat.zero_le _, c9 k h1 h2⟩
  refine GWF_s c1 hn ⟨n + 1, by omega, c2⟩ hG ⟨?_, ?_, ⟨0, Nat.zero_le _, c7⟩, Or.inl c8, fun q hq => ⟨fun k hk => z6 _ _ (by omega) (by omega), z6 _ _ (by omega) (by omega)⟩, fun m hm hm5 q hq => ?_⟩
  · obtain ⟨m, hm, em⟩ := hh; exact ⟨m, hm, c5.trans em⟩
  · obtain ⟨m, hm, em⟩ := hc; exact ⟨m, hm, c6.trans em⟩
  · rw [c7] at hm
    have := (nI_eq (a := 0) (b := m) (by decide) (by omega)).mp hm
    omega
theorem pak_c2 {μ : Nat → Int32} {s n : Nat} {a b c w : Int32} (en : μ (14 + 26 * s + 4) = nI n) (hn : n < 5) : ∀ j i, j ≠ n → j < 5 → i < 4 → pakF μ s a b c w (14 + 26 * s + (6 + 4 * j + i)) = μ (14 + 26 * s + (6 + 4 * j + i)) := fun j i hj h5 hi => by
  have ei : iv (μ (14 + 26 * s + 4)) = n := by rw [en]; exact nI_clamp (by omega)
  unfold pakF
  rw [ei]
  unfold upd
  rw [if_neg (by omega), if_neg (by omega), if_neg (by omega), if_neg (by omega), if_neg (by omega)]
theorem pak_gw {μ : Nat → Int32} (hG : GWF μ) {s n : Nat} {a b c w : Int32} (hs : s < 10) (en : μ (14 + 26 * s + 4) = nI n) (hn : n < 5) (ha : ¬ zin a 1 200 = 0) (hb : ¬ zin b 1 200 = 0) (hc : ¬ zin c 1 200 = 0) (hw : ¬ zin w 1 999 = 0) : GWF (pakF μ s a b c w) := by
  obtain ⟨c1, c2, c3, c4, c5, c6, c7, c8⟩ := pak_c (a := a) (b := b) (c := c) (w := w) en hn
  have d4 := pak_c2 (a := a) (b := b) (c := c) (w := w) en hn
  obtain ⟨a1, a2, a3, a4⟩ := zin_1 (m := 200) (by decide) ha
  obtain ⟨b1, b2, b3, b4⟩ := zin_1 (m := 200) (by decide) hb
  obtain ⟨g1, g2, g3, g4⟩ := zin_1 (m := 200) (by decide) hc
  obtain ⟨w1, w2, w3, w4⟩ := zin_1 (m := 999) (by decide) hw
  obtain ⟨s1, s2, s3, s4, s5, s6⟩ := hG.1.s hs
  have nz : ∀ {x : Int32} {j : Nat}, x = nI j → 1 ≤ j → j ≤ 999 → ¬ x = 0 := fun e h1 h2 z => by
    have := (nI_eq (b := 0) (by omega) (by decide)).mp (e.symm.trans z)
    omega
  have ca : ∀ i, i < 4 → pakF μ s a b c w (14 + 26 * s + (6 + 4 * n + i)) = if i = 0 then a else if i = 1 then b else if i = 2 then c else w := fun i hi => by
    have : i = 0 ∨ i = 1 ∨ i = 2 ∨ i = 3 := by omega
    rcases this with q | q | q | q <;> subst q
    · exact c5
    · exact c6
    · exact c7
    · exact c8
  refine GWF_s (fun k _ h2 => c1 k h2) hs (sm_cg (c1 1 (by omega)) hG.1.2.1) hG ⟨sm_cg (c2 2 (by omega) (by omega)) s1, sm_cg (c2 3 (by omega) (by omega)) s2, ⟨n + 1, by omega, c3⟩, by rw [c2 5 (by omega) (by omega)]; exact s4, fun p hp => ⟨fun k hk => ?_, ?_⟩, fun m hm hm5 p hp k hk => ?_⟩
  · by_cases q : p = n
    · subst q
      refine ⟨if k = 0 then a1 else if k = 1 then b1 else g1, by (repeat' split) <;> omega, ?_⟩
      rw [ca k (by omega)]
      (repeat' split) <;> first | assumption | omega
    · exact sm_cg (d4 p k q hp (by omega)) ((s5 p hp).1 k hk)
  · by_cases q : p = n
    · subst q
      exact ⟨w1, w3, c8.trans w4⟩
    · exact sm_cg (d4 p 3 q hp (by omega)) (s5 p hp).2
  · rw [c3] at hm
    have := (nI_eq (by omega) (by omega)).mp hm
    by_cases q : p = n
    · subst q
      rw [ca k hk]
      (repeat' split)
      · exact nz a4 a2 (by omega)
      · exact nz b4 b2 (by omega)
      · exact nz g4 g2 (by omega)
      · exact nz w4 w2 w3
    · rw [d4 p k q (by omega) hk]
      exact s6 n en (by omega) p (by omega) k hk
/-- place, day, handlings and share may change -/
theorem WFS_c4 {μ μ' : Nat → Int32} {s : Nat} (e : ∀ o, 3 ≤ o → o < 26 → o ≠ 5 → μ' (14 + 26 * s + o) = μ (14 + 26 * s + o)) (h2 : sm μ' (14 + 26 * s + 2) 255) (h5 : μ' (14 + 26 * s + 5) = -1 ∨ 0 ≤ μ' (14 + 26 * s + 5)) (h : WFS μ s) : WFS μ' s := by
  obtain ⟨a1, a2, a3, a4, a5, a6⟩ := h
  refine ⟨h2, sm_cg (e 3 (by omega) (by omega) (by omega)) a2, sm_cg (e 4 (by omega) (by omega) (by omega)) a3, h5, fun p hp => ⟨fun k hk => sm_cg (e (6 + 4 * p + k) (by omega) (by omega) (by omega)) ((a5 p hp).1 k hk), sm_cg (e (6 + 4 * p + 3) (by omega) (by omega) (by omega)) (a5 p hp).2⟩, fun n hn hn5 p hp k hk => ?_⟩
  rw [e 4 (by omega) (by omega) (by omega)] at hn
  rw [e (6 + 4 * p + k) (by omega) (by omega) (by omega)]
  exact a6 n hn hn5 p hp k hk
theorem rou_gw {μ : Nat → Int32} (hG : GWF μ) {s : Nat} (hs : s < 10) {p d : Int32} : GWF (rouF μ s p d) := by
  have e : ∀ k, k ≠ 14 + 26 * s → k ≠ 14 + 26 * s + 1 → rouF μ s p d k = μ k := fun k h1 h2 => by
    unfold rouF upd
    rw [if_neg h2, if_neg h1]
  refine GWF_s (fun k _ h2 => e k (by omega) (by omega)) hs (sm_cg (e 1 (by omega) (by omega)) hG.1.2.1) hG (WFS_c4 (fun o h1 h2 _ => e _ (by omega) (by omega)) (sm_cg (e _ (by omega) (by omega)) (hG.1.s hs).1) ?_ (hG.1.s hs))
  rw [e _ (by omega) (by omega)]
  exact (hG.1.s hs).2.2.2.1
theorem han_gw {μ : Nat → Int32} (hG : GWF μ) {s : Nat} (hs : s < 10) {x : Int32} (hx : bn x 255) : GWF (upd μ (14 + 26 * s + 2) x) := by
  have e : ∀ k, k ≠ 14 + 26 * s + 2 → upd μ (14 + 26 * s + 2) x k = μ k := fun k h1 => by
    unfold upd
    rw [if_neg h1]
  obtain ⟨n, hn, en⟩ := hx
  refine GWF_s (fun k _ h2 => e k (by omega)) hs (sm_cg (e 1 (by omega)) hG.1.2.1) hG (WFS_c4 (fun o h1 h2 _ => e _ (by omega)) ⟨n, hn, by unfold upd; rw [if_pos rfl]; exact en⟩ ?_ (hG.1.s hs))
  rw [e _ (by omega)]
  exact (hG.1.s hs).2.2.2.1
theorem RelS.ch {S S1 : HS} {M : Nat → Prop} {x s : Nat} {μ μ' : Nat → Int32} (h : RelS S M x μ s) (h5 : sm μ (14 + 26 * s + 4) 5) (eK : hK S1 = hK S) (eN : hN S1 = hN S) (eR : hR S1 = hR S) (eA : hA S1 = hA S) (eI : ∀ i, i ≠ 120 → i ≠ 121 → i ≠ 122 → i ≠ 128 → hI S1 i x = hI S i x) (h120 : hI S1 120 x = μ' (14 + 26 * s)) (h121 : hI S1 121 x = μ' (14 + 26 * s + 1)) (h122 : hI S1 122 x = μ' (14 + 26 * s + 2)) (h128 : hI S1 128 x = μ' (14 + 26 * s + 5)) (hc : ∀ k, 3 ≤ k → k < 26 → k ≠ 5 → μ' (14 + 26 * s + k) = μ (14 + 26 * s + k)) : RelS S1 M x μ' s := by
  obtain ⟨h1, h2, _, _, _, h6, h7, h8, h9, _, b, g1, g2, g3⟩ := h
  obtain ⟨n, hn, en⟩ := h5
  have ei : iv (μ (14 + 26 * s + 4)) = n := by rw [en]; exact nI_clamp (by omega)
  have e4 := hc 4 (by omega) (by omega) (by omega)
  have ei' : iv (μ' (14 + 26 * s + 4)) = n := by rw [e4]; exact ei
  refine ⟨by rw [eK]; exact h1, h2, h120, h121, h122, by rw [eI 123 (by decide) (by decide) (by decide) (by decide), hc 3 (by omega) (by omega) (by omega)]; exact h6, by rw [eI 124 (by decide) (by decide) (by decide) (by decide), e4]; exact h7, ?_, ?_, h128, b, by rw [eR]; exact g1, ⟨by rw [eK]; exact g2.1, by rw [eN]; exact g2.2.1, g2.2.2⟩, fun p hp => ?_⟩
  · rw [eI 126 (by decide) (by decide) (by decide) (by decide), h8]
    unfold realF
    rw [ei', ei]
    exact (rf_c1 _ _ _ (fun j _ hj => hc _ (by omega) (by omega) (by omega))).symm
  · rw [eI 127 (by decide) (by decide) (by decide) (by decide), h9]
    unfold longF
    rw [ei', ei]
    exact (lf_c1 _ _ _ (fun j i _ hj hi => hc _ (by omega) (by omega) (by omega))).symm
  · rw [ei'] at hp
    rw [eA, g3 p (by rw [ei]; exact hp)]
    unfold volF
    rw [hc (6 + 4 * p) (by omega) (by omega) (by omega), hc (6 + 4 * p + 1) (by omega) (by omega) (by omega), hc (6 + 4 * p + 2) (by omega) (by omega) (by omega)]
theorem RelSt.sh {S S1 : HS} {M : Nat → Prop} {y b : Nat} {μ μ' : Nat → Int32} (h : RelSt S M y μ) (hw : WF μ) (r2 : hR S 142 y = some b) (hf : frM S S1 M) (eK : hK S1 = hK S) (eN : hN S1 = hN S) (eR : hR S1 = hR S) (eI : ∀ i, i ≠ 143 → hI S1 i y = hI S i y) (e43 : hI S1 143 y = μ' 1) (eA : hA S1 = hA S) (eB : ∀ c, c ≠ b → hB S1 c = hB S c) (hc : ∀ k, k ≠ 1 → k < 14 ∨ 274 ≤ k → μ' k = μ k) (hs : ∀ s, s < iv (μ' 1) → ∃ z, hB S1 b s = some z ∧ RelS S1 M z μ' s) : RelSt S1 M y μ' := by
  obtain ⟨⟨h1, h2, h3, h4, h5⟩, ⟨b1, r1, k1, n1, hb⟩, ⟨c, r2', k2, n2, _⟩, ⟨t, p, r3, r4, k3, k4, n3, n4, ht⟩⟩ := h
  have ec : c = b := Option.some.inj (r2'.symm.trans r2)
  subst ec
  have hb1 : b1 ≠ c := fun z => by rw [z, k2] at k1; exact absurd k1 (by decide)
  have c0 : μ' 0 = μ 0 := hc 0 (by omega) (by omega)
  have c2 : μ' 2 = μ 2 := hc 2 (by omega) (by omega)
  refine ⟨⟨by rw [eK]; exact h1, by rw [eI 141 (by decide), c0]; exact h2, e43, by rw [eI 146 (by decide), c2]; exact h4, by rw [eI 147 (by decide), hc 3 (by omega) (by omega)]; exact h5⟩, ⟨b1, by rw [eR]; exact r1, by rw [eK]; exact k1, by rw [eN]; exact n1, fun v hv => ?_⟩, ⟨c, by rw [eR]; exact r2', by rw [eK]; exact k2, by rw [eN]; exact n2, hs⟩, ⟨t, p, by rw [eR]; exact r3, by rw [eR]; exact r4, by rw [eK]; exact k3, by rw [eK]; exact k4, by rw [eN]; exact n3, by rw [eN]; exact n4, fun i hi => ?_⟩⟩
  · rw [c0] at hv
    obtain ⟨nv, hn6, en⟩ := hw.1
    have hv9 := hv
    rw [en, show iv (nI nv) = nv from nI_clamp (by omega)] at hv9
    have hv6 : v < 6 := by omega
    obtain ⟨u, u1, u2⟩ := hb v hv
    exact ⟨u, by rw [eB b1 hb1]; exact u1, (u2.fm hf).cg (fun k hk => hc _ (by omega) (by omega)) (hw.rng hv6) (fun z z1 z9 => hw.brk hv6 z1 z9) (hw.v30 hv6)⟩
  · rw [c2] at hi
    obtain ⟨ns, hn5, en⟩ := hw.2.2.1
    have hi9 := hi
    rw [en, show iv (nI ns) = ns from nI_clamp (by omega)] at hi9
    rw [eA, hc (4 + 2 * i) (by omega) (by omega), hc (4 + 2 * i + 1) (by omega) (by omega)]
    exact ht i hi
theorem FrS.nw {S S1 : HS} {a : Nat → Nat} {mu : Nat → Nat → Int32} {g b : Nat → Int32} {sh : List Int32} (h : FrS S a mu g b sh) (he : ext S S1) (hf : frM S S1 (fun _ => False)) : FrS S1 a mu g b sh :=
  h.sc he hf (fun _ _ z => z.elim) (fun i _ h2 j => (hf (a i) (fun z => z) (h.1.k h2)).2.2.2.1 j) (h.1.z8 (fun i h1 h2 => by rw [(hf (a i) (fun z => z) (h.1.k (by omega))).2.2.2.2.1]))
theorem FrS.s2 {S : HS} {a : Nat → Nat} {mu : Nat → Nat → Int32} {g b : Nat → Int32} {sh : List Int32} (h : FrS S a mu g b sh) : hR S 142 (a 0) = some (a 2) := (h.1.2.2.2.1 0 (by omega)).2.1
theorem FrS.s1 {S : HS} {a : Nat → Nat} {mu : Nat → Nat → Int32} {g b : Nat → Int32} {sh : List Int32} (h : FrS S a mu g b sh) : hR S 140 (a 0) = some (a 1) := (h.1.2.2.2.1 0 (by omega)).1
theorem FrS.n2 {S : HS} {a : Nat → Nat} {mu : Nat → Nat → Int32} {g b : Nat → Int32} {sh : List Int32} (h : FrS S a mu g b sh) : hN S (a 2) = 10 := h.1.2.1 2 (by omega) (by unfold fxA; omega)
theorem FrS.n1 {S : HS} {a : Nat → Nat} {mu : Nat → Nat → Int32} {g b : Nat → Int32} {sh : List Int32} (h : FrS S a mu g b sh) : hN S (a 1) = 6 := h.1.2.1 1 (by omega) (by unfold fxA; omega)
/-- a shipment's object is replaced -/
theorem FrS.ps {S : HS} {a : Nat → Nat} {mu : Nat → Nat → Int32} {g b : Nat → Int32} {sh : List Int32} {s q : Nat} {μ : Nat → Int32} (h : FrS S a mu g b sh) (hs : s < 10) (hq : RelS S (fxM a) q μ s) (hc : ∀ k, k < 14 + 26 * s ∨ 14 + 26 * s + 26 ≤ k → μ k = mu 0 k) (hG : GWF μ) : FrS (putB S (a 2) s (some q)) a (fun t => if t = 0 then μ else mu t) g b sh := by
  have f0 : frM S (putB S (a 2) s (some q)) (fxM a) := frM.pB (M := fxM a) frM.rf ⟨2, by omega, rfl⟩ _ _
  refine h.st (s := 0) (by omega) (ext_putB ext_rf _ _ _) (frM.rf.pB (Or.inr (Or.inr (Or.inl h.s2))) _ _) (fun i _ j => rfl) hG ?_
  refine h.now.2.sh h.now.1 h.s2 f0 rfl rfl rfl (fun _ _ => rfl) ?_ rfl (fun c hc9 => putB_o _ _ _ hc9) (fun k h1 h2 => hc k (by omega)) (fun t ht => ?_)
  · rw [hc 1 (by omega)]
    exact h.now.2.1.2.2.1
  · rw [hc 1 (by omega)] at ht
    rw [px_BB]
    by_cases e : t = s
    · subst e
      exact ⟨q, by rw [if_pos ⟨rfl, rfl⟩], hq.fm f0⟩
    · obtain ⟨c, r, _, _, hh⟩ := h.now.2.2.2.1
      obtain ⟨u, u1, u2⟩ := hh t ht
      have ec : c = a 2 := Option.some.inj (r.symm.trans h.s2)
      subst ec
      obtain ⟨ns, hns, ens⟩ := h.now.1.2.1
      have ht9 := ht
      rw [ens, show iv (nI ns) = ns from nI_clamp (by omega)] at ht9
      exact ⟨u, by rw [if_neg (fun z => e z.2)]; exact u1, (u2.fm f0).cg (fun k hk => hc _ (by omega)) (h.now.1.pcs (by omega))⟩
theorem rmU_0 {mu : Nat → Nat → Int32} {g : Nat → Int32} : rmU mu g 0 = mu 0 := by
  unfold rmU
  rw [if_neg (by omega)]
theorem k_X10_ship (l : Launch) (hst : l.stackTraces = false) (D : va_G) (T : Nat → ClassId) (x0 : Nat) (p0 : Int32) (p1 : Int32) (p2 : Int32) (p3 : Int32) (S : HS) (e0 : (Nat → Nat)) (e1 : (Nat → Nat → Int32)) (e2 : (Nat → Int32)) (e3 : (Nat → Int32)) (e4 : (List Int32)) (mc ms : Nat) (hx0 : hK S x0 = 11) (h : FrS S e0 e1 e2 e3 e4 ∧ x0 = e0 50 ∧ 200 ≤ mc ∧ 2000 ≤ ms) : CXi l yX10_ship (ws_X10_ship) rm_X10_ship D T [.ref x0, .int p0, .int p1, .int p2, .int p3] S mc ms (fun v S1 => (shiC (e1 0) p0 p1 p2 p3 = 0 ∧ v = e1 0 1 ∧ FrS S1 e0 (fun t => if t = 0 then shiF (e1 0) p0 p1 p2 p3 else rmU e1 e2 t) (rmG e2) e3 e4)) (fun E9 S1 => ((shiC (e1 0) p0 p1 p2 p3 = 1 ∧ E9 = "java/lang/IllegalArgumentException") ∨ (shiC (e1 0) p0 p1 p2 p3 = 2 ∧ E9 = "java/lang/IllegalStateException")) ∧ FrS S1 e0 e1 e2 e3 e4) := c_X10_ship l hst D T x0 p0 p1 p2 p3 S mc ms hx0 _ _ <|
  (by
    obtain ⟨h, e, hmc, hms⟩ := h
    subst e
    obtain ⟨n, hn, en⟩ := h.now.1.2.1
    have i43 := h.now.2.1.2.2.1.trans en
    have aF : andF (zin p0 0 999) (zin p1 0 999) = 0 → shiC (e1 0) p0 p1 p2 p3 = 1 := fun z => by
      unfold andF at z
      unfold shiC
      by_cases c : zin p0 0 999 = 0
      · rw [if_pos c]
      · rw [if_neg c] at z ⊢
        by_cases c' : zin p1 0 999 = 0
        · rw [if_pos c']
        · rw [if_neg c'] at z; exact absurd z (by decide)
    have aG : ¬ andF (zin p0 0 999) (zin p1 0 999) = 0 → ¬ zin p0 0 999 = 0 ∧ ¬ zin p1 0 999 = 0 := fun z => by
      unfold andF at z
      by_cases c : zin p0 0 999 = 0
      · rw [if_pos c] at z; exact absurd rfl z
      · rw [if_neg c] at z
        by_cases c' : zin p1 0 999 = 0
        · rw [if_pos c'] at z; exact absurd rfl z
        · exact ⟨c, c'⟩
    unfold wp_X10_ship
    refine ⟨fun c => ⟨⟨by omega, by omega⟩, Or.inl ⟨aF c, rfl⟩, h⟩, fun c => ?_⟩
    obtain ⟨ca, cb⟩ := aG c
    refine ⟨fun c2 => ⟨⟨by omega, by omega⟩, Or.inl ⟨by unfold shiC; rw [if_neg ca, if_neg cb, if_pos c2], rfl⟩, h⟩, fun c2 => ⟨fun c3' => ⟨e0 0, h.r0, fun _ => ?_⟩, fun c3' => ⟨⟨by omega, by omega⟩, Or.inl ⟨by unfold shiC; rw [if_neg ca, if_neg cb, if_neg c2, if_pos c3'], rfl⟩, h⟩⟩⟩
    rw [i43, show (nI n < (10 : Int32)) = (n < 10) from propext (nI_ltI (b := 10) (by omega) (by decide))]
    have eC : shiC (e1 0) p0 p1 p2 p3 = if n = 10 then 2 else 0 := by
      unfold shiC
      rw [if_neg ca, if_neg cb, if_neg c2, if_neg c3', en]
      exact ite_congr (propext (nI_eq (b := 10) (by omega) (by decide))) (fun _ => rfl) (fun _ => rfl)
    refine ⟨fun c4 => ⟨e0, e1, e2, e3, e4, ⟨h, rfl⟩, fun S28 he28 h28 => ?_⟩, fun c4 => ⟨⟨by omega, by omega⟩, Or.inr ⟨by rw [eC, if_pos (by omega)], rfl⟩, h⟩⟩
    obtain ⟨H28, f28, k28, r28, s28⟩ := h28
    refine ⟨e0 0, H28.r0, fun _ => ⟨⟨by omega, by omega⟩, fun q q0 qz S46 e46 => ?_⟩⟩
    refine ⟨1, 5, ⟨by omega, by omega⟩, ⟨by omega, by omega⟩, fun S57 he57 h57 => ?_⟩
    obtain ⟨b, b0, bz, e57⟩ := h57
    have x46 : ext S28 S46 := by rw [e46]; exact ext_newO ext_rf q0 6
    have x57 := ext_tr x46 he57
    subst e46
    have b0' : (if b = q then 6 else hK S28 b) = 0 := b0
    have hbq : b ≠ q := fun z => by rw [if_pos z] at b0'; exact absurd b0' (by decide)
    rw [if_neg hbq] at b0'
    have hqb : q ≠ b := fun z => hbq z.symm
    have f57 : frM S28 S57 (fun _ => False) := by
      rw [e57]
      intro c9 _ h0
      have n1 : c9 ≠ q := fun z => h0 (by rw [z]; exact q0)
      have n2 : c9 ≠ b := fun z => h0 (by rw [z]; exact b0')
      refine ⟨?_, ?_, fun i => ?_, fun i => ?_, ?_, ?_⟩ <;> simp only [px_KI, px_KR, px_KA, px_KB, px_KO, px_KW, px_KC, px_NI, px_NR, px_NA, px_NB, px_NO, px_NW, px_NC, px_II, px_IR, px_IA, px_IB, px_IO, px_IW, px_IC, px_RI, px_RR, px_RA, px_RB, px_RO, px_RW, px_RC, px_AI, px_AR, px_AA, px_AB, px_AO, px_AW, px_AC, px_BI, px_BR, px_BA, px_BB, px_BO, px_BW, px_BC, n1, n2, and_false, if_false]
    have H57 := H28.nw x57 f57
    have qM : ¬ fxM e0 q := fun ⟨i, hi, e⟩ => H28.1.k hi (by rw [← e]; exact q0)
    have bM : ¬ fxM e0 b := fun ⟨i, hi, e⟩ => H28.1.k hi (by rw [← e]; exact b0')
    obtain ⟨c1, k2, k3, k4, k5, k6, k7, k8, k9⟩ := shi_c en c4 p0 p1 p2 p3
    have i57 : hI S57 143 (e0 0) = nI n := by
      rw [H57.now.2.1.2.2.1, rmU_0]; exact en
    refine ⟨e0 2, n, ⟨H57.s2, H57.1.1 2 (by omega), H57.n2, i57, c4⟩, fun v S69 he69 h69 => ?_⟩
    obtain ⟨ev, e69⟩ := h69
    have f69 : frM S57 S69 (fxM e0) := by
      rw [e69]
      exact (frM.pB (M := fxM e0) frM.rf ⟨2, by omega, rfl⟩ _ _).pI (M := fxM e0) ⟨0, by omega, rfl⟩ _ _
    have Rq : RelS S57 (fxM e0) q (shiF (e1 0) p0 p1 p2 p3) n := by
      obtain ⟨z1, z2, z3, z4⟩ := qz
      refine ⟨?_, qM, ?_, ?_, ?_, ?_, ?_, ?_, ?_, ?_, b, ?_, ⟨?_, ?_, bM⟩, fun p hp => ?_⟩
      · rw [e57]; simp (disch := decide) only [px_KI, px_KR, px_KA, px_KB, px_KO, px_KW, px_KC, px_NI, px_NR, px_NA, px_NB, px_NO, px_NW, px_NC, px_II, px_IR, px_IA, px_IB, px_IO, px_IW, px_IC, px_RI, px_RR, px_RA, px_RB, px_RO, px_RW, px_RC, px_AI, px_AR, px_AA, px_AB, px_AO, px_AW, px_AC, px_BI, px_BR, px_BA, px_BB, px_BO, px_BW, px_BC, hqb, hbq, if_true, if_false]
      · rw [k3, e57]; simp (disch := decide) only [px_KI, px_KR, px_KA, px_KB, px_KO, px_KW, px_KC, px_NI, px_NR, px_NA, px_NB, px_NO, px_NW, px_NC, px_II, px_IR, px_IA, px_IB, px_IO, px_IW, px_IC, px_RI, px_RR, px_RA, px_RB, px_RO, px_RW, px_RC, px_AI, px_AR, px_AA, px_AB, px_AO, px_AW, px_AC, px_BI, px_BR, px_BA, px_BB, px_BO, px_BW, px_BC, hqb, hbq, Nat.reduceEqDiff, and_true, and_false, true_and, false_and, if_true, if_false]
      · rw [k4, e57]; simp (disch := decide) only [px_KI, px_KR, px_KA, px_KB, px_KO, px_KW, px_KC, px_NI, px_NR, px_NA, px_NB, px_NO, px_NW, px_NC, px_II, px_IR, px_IA, px_IB, px_IO, px_IW, px_IC, px_RI, px_RR, px_RA, px_RB, px_RO, px_RW, px_RC, px_AI, px_AR, px_AA, px_AB, px_AO, px_AW, px_AC, px_BI, px_BR, px_BA, px_BB, px_BO, px_BW, px_BC, hqb, hbq, Nat.reduceEqDiff, and_true, and_false, true_and, false_and, if_true, if_false]
      · rw [k5, e57]; simp (disch := decide) only [px_KI, px_KR, px_KA, px_KB, px_KO, px_KW, px_KC, px_NI, px_NR, px_NA, px_NB, px_NO, px_NW, px_NC, px_II, px_IR, px_IA, px_IB, px_IO, px_IW, px_IC, px_RI, px_RR, px_RA, px_RB, px_RO, px_RW, px_RC, px_AI, px_AR, px_AA, px_AB, px_AO, px_AW, px_AC, px_BI, px_BR, px_BA, px_BB, px_BO, px_BW, px_BC, hqb, hbq, Nat.reduceEqDiff, and_true, and_false, true_and, false_and, if_true, if_false]
      · rw [k6, e57]; simp (disch := decide) only [px_KI, px_KR, px_KA, px_KB, px_KO, px_KW, px_KC, px_NI, px_NR, px_NA, px_NB, px_NO, px_NW, px_NC, px_II, px_IR, px_IA, px_IB, px_IO, px_IW, px_IC, px_RI, px_RR, px_RA, px_RB, px_RO, px_RW, px_RC, px_AI, px_AR, px_AA, px_AB, px_AO, px_AW, px_AC, px_BI, px_BR, px_BA, px_BB, px_BO, px_BW, px_BC, hqb, hbq, Nat.reduceEqDiff, and_true, and_false, true_and, false_and, if_true, if_false]
      · rw [k7, e57]; simp (disch := decide) only [px_KI, px_KR, px_KA, px_KB, px_KO, px_KW, px_KC, px_NI, px_NR, px_NA, px_NB, px_NO, px_NW, px_NC, px_II, px_IR, px_IA, px_IB, px_IO, px_IW, px_IC, px_RI, px_RR, px_RA, px_RB, px_RO, px_RW, px_RC, px_AI, px_AR, px_AA, px_AB, px_AO, px_AW, px_AC, px_BI, px_BR, px_BA, px_BB, px_BO, px_BW, px_BC, hqb, hbq, Nat.reduceEqDiff, and_true, and_false, true_and, false_and, if_true, if_false]; exact z1 124
      · have : realF (shiF (e1 0) p0 p1 p2 p3) n = 0 := by unfold realF; rw [k7]; rfl
        rw [this, e57]; simp (disch := decide) only [px_KI, px_KR, px_KA, px_KB, px_KO, px_KW, px_KC, px_NI, px_NR, px_NA, px_NB, px_NO, px_NW, px_NC, px_II, px_IR, px_IA, px_IB, px_IO, px_IW, px_IC, px_RI, px_RR, px_RA, px_RB, px_RO, px_RW, px_RC, px_AI, px_AR, px_AA, px_AB, px_AO, px_AW, px_AC, px_BI, px_BR, px_BA, px_BB, px_BO, px_BW, px_BC, hqb, hbq, Nat.reduceEqDiff, and_true, and_false, true_and, false_and, if_true, if_false]; exact z1 126
      · have : longF (shiF (e1 0) p0 p1 p2 p3) n = 0 := by unfold longF; rw [k7]; rfl
        rw [this, e57]; simp (disch := decide) only [px_KI, px_KR, px_KA, px_KB, px_KO, px_KW, px_KC, px_NI, px_NR, px_NA, px_NB, px_NO, px_NW, px_NC, px_II, px_IR, px_IA, px_IB, px_IO, px_IW, px_IC, px_RI, px_RR, px_RA, px_RB, px_RO, px_RW, px_RC, px_AI, px_AR, px_AA, px_AB, px_AO, px_AW, px_AC, px_BI, px_BR, px_BA, px_BB, px_BO, px_BW, px_BC, hqb, hbq, Nat.reduceEqDiff, and_true, and_false, true_and, false_and, if_true, if_false]; exact z1 127
      · rw [k8, e57]; simp (disch := decide) only [px_KI, px_KR, px_KA, px_KB, px_KO, px_KW, px_KC, px_NI, px_NR, px_NA, px_NB, px_NO, px_NW, px_NC, px_II, px_IR, px_IA, px_IB, px_IO, px_IW, px_IC, px_RI, px_RR, px_RA, px_RB, px_RO, px_RW, px_RC, px_AI, px_AR, px_AA, px_AB, px_AO, px_AW, px_AC, px_BI, px_BR, px_BA, px_BB, px_BO, px_BW, px_BC, hqb, hbq, Nat.reduceEqDiff, and_true, and_false, true_and, false_and, if_true, if_false]
      · rw [e57]; simp (disch := decide) only [px_KI, px_KR, px_KA, px_KB, px_KO, px_KW, px_KC, px_NI, px_NR, px_NA, px_NB, px_NO, px_NW, px_NC, px_II, px_IR, px_IA, px_IB, px_IO, px_IW, px_IC, px_RI, px_RR, px_RA, px_RB, px_RO, px_RW, px_RC, px_AI, px_AR, px_AA, px_AB, px_AO, px_AW, px_AC, px_BI, px_BR, px_BA, px_BB, px_BO, px_BW, px_BC, and_true, true_and, if_true]
      · rw [e57]; simp (disch := decide) only [px_KI, px_KR, px_KA, px_KB, px_KO, px_KW, px_KC, px_NI, px_NR, px_NA, px_NB, px_NO, px_NW, px_NC, px_II, px_IR, px_IA, px_IB, px_IO, px_IW, px_IC, px_RI, px_RR, px_RA, px_RB, px_RO, px_RW, px_RC, px_AI, px_AR, px_AA, px_AB, px_AO, px_AW, px_AC, px_BI, px_BR, px_BA, px_BB, px_BO, px_BW, px_BC, if_true]
      · rw [e57]; simp (disch := decide) only [px_KI, px_KR, px_KA, px_KB, px_KO, px_KW, px_KC, px_NI, px_NR, px_NA, px_NB, px_NO, px_NW, px_NC, px_II, px_IR, px_IA, px_IB, px_IO, px_IW, px_IC, px_RI, px_RR, px_RA, px_RB, px_RO, px_RW, px_RC, px_AI, px_AR, px_AA, px_AB, px_AO, px_AW, px_AC, px_BI, px_BR, px_BA, px_BB, px_BO, px_BW, px_BC, if_true]
      · rw [k7] at hp; exact absurd hp (Nat.not_lt_zero p)
    refine ⟨by rw [eC, if_neg (by omega)], by rw [ev, en], ?_⟩
    refine H57.st (s := 0) (by omega) he69 (by rw [e69]; exact (frM.rf.pB (Or.inr (Or.inr (Or.inl H57.s2))) _ _).pI (Or.inl rfl) _ _) (fun i _ j => by rw [e69, px_RI, px_RB]) (shi_gw (h.2.1 0 (by omega)).1 en c4 (zin_n (m := 255) (by decide) c2) (zin_n (m := 3) (by decide) c3')) ?_
    refine H57.now.2.sh H57.now.1 H57.s2 f69 (by rw [e69, px_KI, px_KB]) (by rw [e69, px_NI, px_NB]) (by rw [e69, px_RI, px_RB]) (fun i hi => by rw [e69, px_II, if_neg (fun z => hi z.1), px_IB]) (by rw [e69, px_II, if_pos ⟨rfl, rfl⟩, k2]) (by rw [e69, px_AI, px_AB]) (fun c9 hc9 => by rw [e69, px_BI]; exact putB_o _ _ _ hc9) (fun k h1 h2 => by rw [rmU_0]; exact c1 k h1 (by omega)) (fun t ht => ?_)
    rw [k2, show iv (nI (n + 1)) = n + 1 from nI_clamp (by omega)] at ht
    rw [e69, px_BI, px_BB]
    rw [← e69]
    by_cases c9 : t = n
    · subst c9
      exact ⟨q, by rw [if_pos ⟨rfl, rfl⟩], Rq.fm f69⟩
    · obtain ⟨c, r, _, _, hh⟩ := H57.now.2.2.2.1
      have ec : c = e0 2 := Option.some.inj (r.symm.trans H57.s2)
      rw [ec] at hh
      obtain ⟨u, u1, u2⟩ := hh t (by rw [rmU_0, en, show iv (nI n) = n from nI_clamp (by omega)]; omega)
      exact ⟨u, by rw [if_neg (fun z => c9 z.2)]; exact u1, (u2.fm f69).cg (fun k hk => by rw [rmU_0]; exact c1 _ (by omega) (by omega)) (H57.now.1.pcs (by omega))⟩)

end S_C9E
