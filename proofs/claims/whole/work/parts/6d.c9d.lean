section S_C9D
abbrev ws_X10_requireSet : List Cond := Cond.code yX10_requireSet cX10_requireSet 2 none :: W0
abbrev rm_X10_requireSet : Room := ({ frames := 7, cells := 0, slots := 0, locals := 121 } : Room)
def wp_X10_requireSet (P : HS → Prop) (X : String → HS → Prop) (x0 : Nat) (p0 : Int32) (S : HS) (mc ms : Nat) : Prop := ∃ cc1 cc2 : Nat, (cc1 ≤ mc ∧ cc2 ≤ ms) ∧ (∃ (m4 : (Nat → Nat)) (m5 : (Nat → Nat → Int32)) (m6 : (Nat → Int32)) (m7 : (Nat → Int32)) (m8 : (List Int32)), ((FrS S m4 m5 m6 m7 m8 ∧ x0 = m4 50 ∧ 1 ≤ cc1 ∧ 6 ≤ cc2) ∧ ((∀ (E9 : String) (S9 : HS), ext S S9 → (grpF (m5 0) p0 = 0 ∧ E9 = "java/lang/IndexOutOfBoundsException" ∧ S9 = S) → X E9 S9) ∧ (∀ (S10 : HS), ext S S10 → (grpF (m5 0) p0 = 1 ∧ S10 = S) → (∃ (m18 : Nat), ((m18 < 1024 ∧ p0 = nI m18) ∧ (((nI (popN m18)) ≤ 8 → (P S10)) ∧ (¬ (nI (popN m18)) ≤ 8 → ((1 ≤ (mc - cc1) ∧ 6 ≤ (ms - cc2)) ∧ X "java/lang/IllegalArgumentException" S10)))))))))
set_option maxRecDepth 100000 in
set_option maxHeartbeats 4000000 in
theorem t_X10_requireSet {p : Program} {l : Launch} {e : Env} {s : State} {m : MethodId} {args : Array Value} {below : List Frame} {meth : Method} {c : Code} {D : va_G} {A : Nat → Prop} {T : Nat → ClassId} (C : GC p s m args meth c cX10_requireSet "FreightRater" (ws_X10_requireSet) 2 D A (zty T)) (E : GE T A s) (hst : l.stackTraces = false) (htab : ∀ z ∈ c.exceptionTable.toList, False) (hr : meth.sig.returnType = none) (P : HS → Prop) (X : String → HS → Prop) : ∀ (x0 : Nat) (p0 : Int32) (S0 S : HS) (mc ms : Nat) (L : List Nat), S0 = S → wt S → hL S L → (hK S x0 = 11) → wp_X10_requireSet P X x0 p0 S mc ms → GW p l e { rm_X10_requireSet with cells := mc, slots := ms } s m args below meth c D A 2 mc ms (vx_MQ below (va_Qv (fun (u : HS × List Nat) => P u.1 ∧ CO S0 u) (CE D T A) A) (CXX D T A S0 X) args s mc ms A) (CW T S L) mc ms 0 [(0, .ref x0), (1, .int p0)] [] := by
  have hW : ∀ {w : Cond}, w ∈ W0 → w.before args s = true := fun h => C.2.2.2.2.1 _ (List.mem_cons_of_mem _ h)
  intro x0 p0 S0 S mc ms L hS0 hw hL hx0 h
  have he : ext S0 S := by rw [hS0]; exact ext_rf
  unfold wp_X10_requireSet at h
  refine g_aload_n C dX10_requireSet_0 rfl 0 rfl ?_
  refine g_iload_n C dX10_requireSet_1 rfl 1 rfl ?_
  obtain ⟨cc1, cc2, g3, h⟩ := h
  obtain ⟨m4, m5, m6, m7, m8, h⟩ := h
  obtain ⟨g9, h⟩ := h
  obtain ⟨g15, h⟩ := h
  refine gx_callvV (host := "") C E hw hL hx0 (by decide) (by decide) rfl [.int p0] rfl (k_X10_requireGroup l hst D T x0 p0 S m4 m5 m6 m7 m8 cc1 cc2 hx0 g9) (w0_V 1 C.2.2.2.2.1 kw_1191 kw_1193 ks_26 kw_1 kw_1194 rfl rfl (by decide +kernel) ⟨Nat.le_of_ble_eq_true rfl, Nat.le_of_ble_eq_true rfl⟩) rfl (Nat.le_of_ble_eq_true rfl) (Nat.le_refl _) (Nat.le_refl _) g3.1 g3.2 dX10_requireSet_2 he htab g15 (fun S10 L11 e12 w13 w14 hp => ?_)
  replace h := h S10 e12 hp
  have g16 := ext_K e12 hx0 (by decide)
  have w17 := ext_tr he e12
  refine g_iload_n C dX10_requireSet_5 rfl 1 rfl ?_
  obtain ⟨m18, h⟩ := h
  obtain ⟨g19, h⟩ := h
  refine gc_calliS (host := "") C E w13 w14 [.int p0] rfl (k_J6_bitCount_0f7a4 l D T p0 S10 m18  g19) (w0_S 1 C.2.2.2.2.1 kw_1334 kw_1335 kw_37 kw_1336 rfl rfl (by decide +kernel) ⟨Nat.le_of_ble_eq_true rfl, Nat.le_of_ble_eq_true rfl⟩) rfl (Nat.le_of_ble_eq_true rfl) (Nat.le_refl _) (Nat.le_refl _) (Nat.zero_le _) (Nat.zero_le _) dX10_requireSet_6 (fun v9 S9 L20 he9 hw9 hL9 hp => ?_)
  obtain ⟨hv9, hs9⟩ := hp
  replace hs9 := hs9.symm
  subst hs9
  replace hv9 := hv9.symm
  subst hv9
  have w23 := hL9
  refine g_bipush (v := 8) C dX10_requireSet_9 (by decide) ?_
  refine g_icmp_le (tgt := 22) C dX10_requireSet_11 (by decide) (fun z24 => ?_) (fun z24 => ?_)
  · replace h := h.1 z24
    exact gx_vret C w13 w23 w17 hr dX10_requireSet_22 h
  · replace h := h.2 z24
    obtain ⟨g25, h⟩ := h
    exact gx_throw (cls := "java/lang/IllegalArgumentException") (names := ["java/lang/RuntimeException", "java/lang/Exception"]) C E hst w13 w23 w17 (Nat.le_refl _) (Nat.le_refl _) (by decide) (by decide) (hW kw_310) (hW kw_13) (th_FreightRater_62 hW E) tv_FreightRater_62 dX10_requireSet_14 dX10_requireSet_17 dX10_requireSet_18 dX10_requireSet_21 htab (Nat.le_of_ble_eq_true rfl) (Nat.le_of_ble_eq_true rfl) g25.1 g25.2 h
theorem c_X10_requireSet (l : Launch) (hst : l.stackTraces = false) (D : va_G) (T : Nat → ClassId) (x0 : Nat) (p0 : Int32) (S : HS) (mc ms : Nat) (hx0 : hK S x0 = 11) (P : HS → Prop) (X : String → HS → Prop) (h : wp_X10_requireSet P X x0 p0 S mc ms) : CXv l yX10_requireSet (ws_X10_requireSet) rm_X10_requireSet D T [.ref x0, .int p0] S mc ms P X := gx_metv (by decide) rfl rfl (Nat.le_of_ble_eq_true rfl) (fun p e s m args below meth c A L C E hnm hr htab hw hL => t_X10_requireSet C E hst htab hr P X x0 p0 S S mc ms L rfl hw hL hx0 h)
/-- the rater through a rating's work -/
theorem FrS.wk {S S1 : HS} {a : Nat → Nat} {mu : Nat → Nat → Int32} {g b : Nat → Int32} {sh : List Int32} (h : FrS S a mu g b sh) (he : ext S S1) (hf : frR S S1 (a 54)) : FrS S1 a mu g b sh := by
  have q := h.1.2.2.2.2.2.2.1
  refine h.sc (N := fun c => c = a 54 ∨ c = a 55 ∨ c = a 56) he (hf.M (Or.inl rfl) (fun b9 hb => Or.inr (Or.inl (Option.some.inj (hb.symm.trans q.1)))) (fun b9 hb => Or.inr (Or.inr (Option.some.inj (hb.symm.trans q.2))))) (fun c _ hc => ?_) (fun i _ _ j => by rw [hf.2.2.1]) ?_
  · rcases hc with e | e | e
    · exact ⟨54, by omega, by omega, e⟩
    · exact ⟨55, by omega, by omega, e⟩
    · exact ⟨56, by omega, by omega, e⟩
  · exact h.1.z8 (fun i h1 h2 => by rw [hf.2.2.2.2.1 (a i) (fun z => h.1.ne (i := 56) (j := i) (by omega) (by omega) (by omega) (Option.some.inj (q.2.symm.trans z)))])
theorem FrS.wfr {S : HS} {a : Nat → Nat} {mu : Nat → Nat → Int32} {g b : Nat → Int32} {sh : List Int32} (h : FrS S a mu g b sh) : WFR (mu 0) := (h.2.1 0 (by omega)).1.2.1
theorem k_X10_requireSet (l : Launch) (hst : l.stackTraces = false) (D : va_G) (T : Nat → ClassId) (x0 : Nat) (p0 : Int32) (S : HS) (e0 : (Nat → Nat)) (e1 : (Nat → Nat → Int32)) (e2 : (Nat → Int32)) (e3 : (Nat → Int32)) (e4 : (List Int32)) (mc ms : Nat) (hx0 : hK S x0 = 11) (h : FrS S e0 e1 e2 e3 e4 ∧ x0 = e0 50 ∧ 2 ≤ mc ∧ 12 ≤ ms) : CXv l yX10_requireSet (ws_X10_requireSet) rm_X10_requireSet D T [.ref x0, .int p0] S mc ms (fun S1 => (lckF (e1 0) p0 8 = 0 ∧ S1 = S)) (fun E9 S1 => ((lckF (e1 0) p0 8 = 1 ∧ E9 = "java/lang/IndexOutOfBoundsException") ∨ (lckF (e1 0) p0 8 = 2 ∧ E9 = "java/lang/IllegalArgumentException")) ∧ S1 = S) := c_X10_requireSet l hst D T x0 p0 S mc ms hx0 _ _ <|
  (by
    obtain ⟨h, e, hmc, hms⟩ := h
    unfold wp_X10_requireSet
    refine ⟨1, 6, ⟨by omega, by omega⟩, e0, e1, e2, e3, e4, ⟨h, e, Nat.le_refl _, Nat.le_refl _⟩, fun E9 S9 _ h9 => ?_, fun S10 _ h10 => ?_⟩
    · obtain ⟨c, eE, eS⟩ := h9
      exact ⟨Or.inl ⟨by unfold lckF; rw [if_pos c], eE⟩, eS⟩
    obtain ⟨c, eS⟩ := h10
    have c0 : ¬ grpF (e1 0) p0 = 0 := by rw [c]; decide
    obtain ⟨n, hn, hn0, ep, ei⟩ := (grp_gok h.now.1 c0).n
    have hp := (ones_pop hn).2
    refine ⟨n, ⟨hn, ep⟩, ?_⟩
    rw [show (nI (popN n) ≤ (8 : Int32)) = (popN n ≤ 8) from propext (nI_leI (b := 8) (by omega) (by decide))]
    have el : lckF (e1 0) p0 8 = if 8 < popN n then 2 else 0 := by unfold lckF; rw [if_neg c0, ei]
    exact ⟨fun c8 => ⟨by rw [el, if_neg (by omega)], eS⟩, fun c8 => ⟨⟨by omega, by omega⟩, Or.inr ⟨by rw [el, if_pos (by omega)], rfl⟩, eS⟩⟩)
abbrev ws_X10_requireRated : List Cond := Cond.code yX10_requireRated cX10_requireRated 2 none :: W0
abbrev rm_X10_requireRated : Room := ({ frames := 16, cells := 0, slots := 0, locals := 493 } : Room)
def wp_X10_requireRated (P : HS → Prop) (X : String → HS → Prop) (x0 : Nat) (p0 : Int32) (S : HS) (mc ms : Nat) : Prop := ∃ b2 : Nat, hR S 232 x0 = some b2 ∧ (hK S b2 = 3 → (∃ b5 : Nat, hR S 220 x0 = some b5 ∧ (hK S b5 = 7 → (∃ (m7 : (Nat → Prop)) (m8 : Nat → Int32), ((WF m8 ∧ WFR m8 ∧ RelSt S m7 b5 m8 ∧ RtO S m7 b2 b5 ∧ gok m8 p0) ∧ (∀ (S10 : HS), ext S S10 → (frR S S10 b2 ∧ wkP S10 b2 m8 (iv p0)) → (∃ b18 : Nat, hR S10 232 x0 = some b18 ∧ (hK S10 b18 = 3 → (((hI S10 63 b18) = 0 → (P S10)) ∧ (¬ (hI S10 63 b18) = 0 → ((1 ≤ mc ∧ 6 ≤ ms) ∧ X "java/lang/IllegalStateException" S10)))))))))))
set_option maxRecDepth 100000 in
set_option maxHeartbeats 4000000 in
theorem t_X10_requireRated {p : Program} {l : Launch} {e : Env} {s : State} {m : MethodId} {args : Array Value} {below : List Frame} {meth : Method} {c : Code} {D : va_G} {A : Nat → Prop} {T : Nat → ClassId} (C : GC p s m args meth c cX10_requireRated "FreightRater" (ws_X10_requireRated) 2 D A (zty T)) (E : GE T A s) (hst : l.stackTraces = false) (htab : ∀ z ∈ c.exceptionTable.toList, False) (hr : meth.sig.returnType = none) (P : HS → Prop) (X : String → HS → Prop) : ∀ (x0 : Nat) (p0 : Int32) (S0 S : HS) (mc ms : Nat) (L : List Nat), S0 = S → wt S → hL S L → (hK S x0 = 11) → wp_X10_requireRated P X x0 p0 S mc ms → GW p l e { rm_X10_requireRated with cells := mc, slots := ms } s m args below meth c D A 2 mc ms (vx_MQ below (va_Qv (fun (u : HS × List Nat) => P u.1 ∧ CO S0 u) (CE D T A) A) (CXX D T A S0 X) args s mc ms A) (CW T S L) mc ms 0 [(0, .ref x0), (1, .int p0)] [] := by
  have hW : ∀ {w : Cond}, w ∈ W0 → w.before args s = true := fun h => C.2.2.2.2.1 _ (List.mem_cons_of_mem _ h)
  intro x0 p0 S0 S mc ms L hS0 hw hL hx0 h
  have he : ext S0 S := by rw [hS0]; exact ext_rf
  unfold wp_X10_requireRated at h
  refine g_aload_n C dX10_requireRated_0 rfl 0 rfl ?_
  refine gc_getR C hw iwx_X10 hL hx0 (by decide) (by decide) rfl 12 (by decide) (hW kw_254) rfl rfl rfl dX10_requireRated_1 (fun o1 eo1 ko1 => ?_)
  obtain ⟨b2, hb9, h⟩ := h
  have g3 : hK S b2 = 3 := ko1 b2 (eo1.trans hb9)
  replace h := h g3
  refine g_opt (eo1.trans hb9) ?_
  refine g_aload_n C dX10_requireRated_4 rfl 0 rfl ?_
  refine gc_getR C hw iwx_X10 hL hx0 (by decide) (by decide) rfl 0 (by decide) (hW kw_242) rfl rfl rfl dX10_requireRated_5 (fun o4 eo4 ko4 => ?_)
  obtain ⟨b5, hb9, h⟩ := h
  have g6 : hK S b5 = 7 := ko4 b5 (eo4.trans hb9)
  replace h := h g6
  refine g_opt (eo4.trans hb9) ?_
  refine g_iload_n C dX10_requireRated_8 rfl 1 rfl ?_
  obtain ⟨m7, m8, h⟩ := h
  obtain ⟨g9, h⟩ := h
  refine gc_callvV (host := "") C E hw hL g3 (by decide) (by decide) rfl [.ref b5, .int p0] rfl (k_X2_work l D T b2 b5 p0 S m7 m8 g3 g6 g9) (w0_V 2 C.2.2.2.2.1 kw_1195 kw_1196 kw_1197 kw_7 kw_1198 rfl rfl (by decide +kernel) ⟨Nat.le_of_ble_eq_true rfl, Nat.le_of_ble_eq_true rfl⟩) rfl (Nat.le_of_ble_eq_true rfl) (Nat.le_refl _) (Nat.le_refl _) (Nat.zero_le _) (Nat.zero_le _) dX10_requireRated_9 (fun S10 L11 e12 w13 w14 hp => ?_)
  replace h := h S10 e12 hp
  have g15 := ext_K e12 hx0 (by decide)
  have w16 := ext_tr he e12
  refine g_aload_n C dX10_requireRated_12 rfl 0 rfl ?_
  refine gc_getR C w13 iwx_X10 w14 g15 (by decide) (by decide) rfl 12 (by decide) (hW kw_254) rfl rfl rfl dX10_requireRated_13 (fun o17 eo17 ko17 => ?_)
  obtain ⟨b18, hb9, h⟩ := h
  have g19 : hK S10 b18 = 3 := ko17 b18 (eo17.trans hb9)
  replace h := h g19
  refine g_opt (eo17.trans hb9) ?_
  refine gc_getI C iwx_X2 w14 g19 (by decide) (by decide) rfl 3 (by decide) (hW kw_139) rfl rfl rfl dX10_requireRated_16 ?_
  refine g_if_eq (tgt := 30) C dX10_requireRated_19 (by decide) (fun z20 => ?_) (fun z20 => ?_)
  · replace h := h.1 z20
    exact gx_vret C w13 w14 w16 hr dX10_requireRated_30 h
  · replace h := h.2 z20
    obtain ⟨g21, h⟩ := h
    exact gx_throw (cls := "java/lang/IllegalStateException") (names := ["java/lang/RuntimeException", "java/lang/Exception"]) C E hst w13 w14 w16 (Nat.le_refl _) (Nat.le_refl _) (by decide) (by decide) (hW kw_480) (hW kw_17) (th_FreightRater_78 hW E) tv_FreightRater_78 dX10_requireRated_22 dX10_requireRated_25 dX10_requireRated_26 dX10_requireRated_29 htab (Nat.le_of_ble_eq_true rfl) (Nat.le_of_ble_eq_true rfl) g21.1 g21.2 h
theorem c_X10_requireRated (l : Launch) (hst : l.stackTraces = false) (D : va_G) (T : Nat → ClassId) (x0 : Nat) (p0 : Int32) (S : HS) (mc ms : Nat) (hx0 : hK S x0 = 11) (P : HS → Prop) (X : String → HS → Prop) (h : wp_X10_requireRated P X x0 p0 S mc ms) : CXv l yX10_requireRated (ws_X10_requireRated) rm_X10_requireRated D T [.ref x0, .int p0] S mc ms P X := gx_metv (by decide) rfl rfl (Nat.le_of_ble_eq_true rfl) (fun p e s m args below meth c A L C E hnm hr htab hw hL => t_X10_requireRated C E hst htab hr P X x0 p0 S S mc ms L rfl hw hL hx0 h)
theorem k_X10_requireRated (l : Launch) (hst : l.stackTraces = false) (D : va_G) (T : Nat → ClassId) (x0 : Nat) (p0 : Int32) (S : HS) (e0 : (Nat → Nat)) (e1 : (Nat → Nat → Int32)) (e2 : (Nat → Int32)) (e3 : (Nat → Int32)) (e4 : (List Int32)) (mc ms : Nat) (hx0 : hK S x0 = 11) (h : FrS S e0 e1 e2 e3 e4 ∧ x0 = e0 50 ∧ gok (e1 0) p0 ∧ 1 ≤ mc ∧ 6 ≤ ms) : CXv l yX10_requireRated (ws_X10_requireRated) rm_X10_requireRated D T [.ref x0, .int p0] S mc ms (fun S1 => ((rsnD (e1 0) (iv p0)).1 = 0 ∧ wkP S1 (e0 54) (e1 0) (iv p0) ∧ FrS S1 e0 e1 e2 e3 e4)) (fun E9 S1 => ¬ (rsnD (e1 0) (iv p0)).1 = 0 ∧ E9 = "java/lang/IllegalStateException" ∧ FrS S1 e0 e1 e2 e3 e4) := c_X10_requireRated l hst D T x0 p0 S mc ms hx0 _ _ <|
  (by
    obtain ⟨h, e, hg, hmc, hms⟩ := h
    subst e
    unfold wp_X10_requireRated
    refine ⟨e0 54, h.r12, fun _ => ⟨e0 0, h.r0, fun _ => ⟨fxM e0, e1 0, ⟨h.now.1, h.wfr, h.now.2, h.1.rt, hg⟩, fun S10 he10 h10 => ?_⟩⟩⟩
    obtain ⟨f10, w10⟩ := h10
    have h10 := h.wk he10 f10
    refine ⟨e0 54, h10.r12, fun _ => ?_⟩
    have h8 := rsnD_8 (μ := e1 0) (g := iv p0)
    rw [w10.1, nz_eq0 (by omega)]
    exact ⟨fun c => ⟨c, w10, h10⟩, fun c => ⟨⟨hmc, hms⟩, c, rfl, h10⟩⟩)
abbrev ws_X10_requireSingles : List Cond := Cond.code yX10_requireSingles cX10_requireSingles 4 none :: W0
abbrev rm_X10_requireSingles : Room := ({ frames := 16, cells := 0, slots := 0, locals := 493 } : Room)
def wb_X10_requireSingles_2 (rec : Nat → Int32 → Int32 → Int32 → HS → Nat → Nat → Prop) (P : HS → Prop) (X : String → HS → Prop) (x0 : Nat) (x1 : Int32) (x2 : Int32) (x3 : Int32) (S : HS) (kc ks : Nat) : Prop := (10 ≤ x3 → (P S)) ∧ (¬ 10 ≤ x3 → ((¬ (hasF x1 x3) = 0 → (∃ b8 : Nat, hR S 232 x0 = some b8 ∧ (hK S b8 = 3 → (∃ b11 : Nat, hR S 220 x0 = some b11 ∧ (hK S b11 = 7 → (∃ (m13 : (Nat → Prop)) (m14 : Nat → Int32), ((WF m14 ∧ WFR m14 ∧ RelSt S m13 b11 m14 ∧ RtO S m13 b8 b11 ∧ gok m14 ((1 : Int32) <<< (x3 &&& 31))) ∧ (∀ (S16 : HS), ext S S16 → (frR S S16 b8 ∧ wkP S16 b8 m14 (iv ((1 : Int32) <<< (x3 &&& 31)))) → (∃ b24 : Nat, hR S16 232 x0 = some b24 ∧ (hK S16 b24 = 3 → (((hI S16 63 b24) = 0 → (∀ v27 : Int32, v27 = x3 + 1 → (rec x0 x1 x2 v27 S16 kc ks))) ∧ (¬ (hI S16 63 b24) = 0 → ((x2 = 0 → ((1 ≤ kc ∧ 6 ≤ ks) ∧ X "java/lang/IllegalStateException" S16)) ∧ (¬ x2 = 0 → (∃ (m30 : (Nat → Nat)) (m31 : (Nat → Nat → Int32)) (m32 : (Nat → Int32)) (m33 : (Nat → Int32)) (m34 : (List Int32)), ((FrS S16 m30 m31 m32 m33 m34 ∧ x0 = m30 50) ∧ (∀ (S36 : HS), ext S16 S36 → (FrS S36 m30 m31 (kpG m32 (hI S16 63 (m30 54)) (hI S16 64 (m30 54))) m33 m34) → ((1 ≤ kc ∧ 6 ≤ ks) ∧ X "java/lang/IllegalStateException" S36)))))))))))))))))) ∧ ((hasF x1 x3) = 0 → (∀ v44 : Int32, v44 = x3 + 1 → (rec x0 x1 x2 v44 S kc ks)))))
def wp_X10_requireSingles_2 (P : HS → Prop) (X : String → HS → Prop) : Nat → Nat → Int32 → Int32 → Int32 → HS → Nat → Nat → Prop
  | 0 => fun _ _ _ _ _ _ _ => False
  | n + 1 => fun x0 x1 x2 x3 S kc ks => wb_X10_requireSingles_2 (wp_X10_requireSingles_2  P X n)  P X x0 x1 x2 x3 S kc ks
set_option maxRecDepth 100000 in
set_option maxHeartbeats 4000000 in
theorem t_X10_requireSingles_2 {p : Program} {l : Launch} {e : Env} {s : State} {m : MethodId} {args : Array Value} {below : List Frame} {meth : Method} {c : Code} {D : va_G} {A : Nat → Prop} {T : Nat → ClassId} {mc ms : Nat} (C : GC p s m args meth c cX10_requireSingles "FreightRater" (ws_X10_requireSingles) 4 D A (zty T)) (E : GE T A s) (hst : l.stackTraces = false) (htab : ∀ z ∈ c.exceptionTable.toList, False) (hr : meth.sig.returnType = none) (S0 : HS) (P : HS → Prop) (X : String → HS → Prop) : ∀ (n : Nat) (x0 : Nat) (x1 : Int32) (x2 : Int32) (x3 : Int32) (S : HS) (kc ks : Nat) (L : List Nat), wt S → hL S L → ext S0 S → (hK S x0 = 11) → wp_X10_requireSingles_2  P X n x0 x1 x2 x3 S kc ks → GW p l e { rm_X10_requireSingles with cells := mc, slots := ms } s m args below meth c D A 4 mc ms (vx_MQ below (va_Qv (fun (u : HS × List Nat) => P u.1 ∧ CO S0 u) (CE D T A) A) (CXX D T A S0 X) args s mc ms A) (CW T S L) kc ks 2 [(0, .ref x0), (1, .int x1), (2, .int x2), (3, .int x3)] [] := by
  have hW : ∀ {w : Cond}, w ∈ W0 → w.before args s = true := fun h => C.2.2.2.2.1 _ (List.mem_cons_of_mem _ h)
  intro n
  induction n with
  | zero => intro x0 x1 x2 x3 S kc ks L hw hL he hx0 h; exact h.elim
  | succ n ih =>
    intro x0 x1 x2 x3 S kc ks L hw hL he hx0 h
    replace h : wb_X10_requireSingles_2 (wp_X10_requireSingles_2  P X n)  P X x0 x1 x2 x3 S kc ks := h
    unfold wb_X10_requireSingles_2 at h
    refine g_iload_n C dX10_requireSingles_2 rfl 3 rfl ?_
    refine g_bipush (v := 10) C dX10_requireSingles_3 (by decide) ?_
    refine g_icmp_ge (tgt := 65) C dX10_requireSingles_5 (by decide) (fun z1 => ?_) (fun z1 => ?_)
    · replace h := h.1 z1
      exact gx_vret C hw hL he hr dX10_requireSingles_65 h
    · replace h := h.2 z1
      refine g_iload_n C dX10_requireSingles_8 rfl 1 rfl ?_
      refine g_iload_n C dX10_requireSingles_9 rfl 3 rfl ?_
      refine gc_calliS (host := "") C E hw hL [.int x1, .int x3] rfl (k_X10_isIn l D T x1 x3 S ) (w0_S 2 C.2.2.2.2.1 kw_1344 kw_1204 kw_1 kw_1205 rfl rfl (by decide +kernel) ⟨Nat.le_of_ble_eq_true rfl, Nat.le_of_ble_eq_true rfl⟩) rfl (Nat.le_of_ble_eq_true rfl) (Nat.le_refl _) (Nat.le_refl _) (Nat.zero_le _) (Nat.zero_le _) dX10_requireSingles_10 (fun v9 S9 L2 he9 hw9 hL9 hp => ?_)
      obtain ⟨hv9, hs9⟩ := hp
      replace hs9 := hs9.symm
      subst hs9
      replace hv9 := hv9.symm
      subst hv9
      have w5 := hL9
      refine g_if_ne (tgt := 19) C dX10_requireSingles_13 (by decide) (fun z6 => ?_) (fun z6 => ?_)
      · replace h := h.1 z6
        refine g_aload_n C dX10_requireSingles_19 rfl 0 rfl ?_
        refine gc_getR C hw iwx_X10 w5 hx0 (by decide) (by decide) rfl 12 (by decide) (hW kw_254) rfl rfl rfl dX10_requireSingles_20 (fun o7 eo7 ko7 => ?_)
        obtain ⟨b8, hb9, h⟩ := h
        have g9 : hK S b8 = 3 := ko7 b8 (eo7.trans hb9)
        replace h := h g9
        refine g_opt (eo7.trans hb9) ?_
        refine g_aload_n C dX10_requireSingles_23 rfl 0 rfl ?_
        refine gc_getR C hw iwx_X10 w5 hx0 (by decide) (by decide) rfl 0 (by decide) (hW kw_242) rfl rfl rfl dX10_requireSingles_24 (fun o10 eo10 ko10 => ?_)
        obtain ⟨b11, hb9, h⟩ := h
        have g12 : hK S b11 = 7 := ko10 b11 (eo10.trans hb9)
        replace h := h g12
        refine g_opt (eo10.trans hb9) ?_
        refine g_iconst (v := 1) C dX10_requireSingles_27 (by decide) ?_
        refine g_iload_n C dX10_requireSingles_28 rfl 3 rfl ?_
        refine g_ishl C dX10_requireSingles_29 ?_
        obtain ⟨m13, m14, h⟩ := h
        obtain ⟨g15, h⟩ := h
        refine gc_callvV (host := "") C E hw w5 g9 (by decide) (by decide) rfl [.ref b11, .int ((1 : Int32) <<< (x3 &&& 31))] rfl (k_X2_work l D T b8 b11 ((1 : Int32) <<< (x3 &&& 31)) S m13 m14 g9 g12 g15) (w0_V 2 C.2.2.2.2.1 kw_1195 kw_1196 kw_1197 kw_7 kw_1198 rfl rfl (by decide +kernel) ⟨Nat.le_of_ble_eq_true rfl, Nat.le_of_ble_eq_true rfl⟩) rfl (Nat.le_of_ble_eq_true rfl) (Nat.le_refl _) (Nat.le_refl _) (Nat.zero_le _) (Nat.zero_le _) dX10_requireSingles_30 (fun S16 L17 e18 w19 w20 hp => ?_)
        replace h := h S16 e18 hp
        have g21 := ext_K e18 hx0 (by decide)
        have w22 := ext_tr he e18
        refine g_aload_n C dX10_requireSingles_33 rfl 0 rfl ?_
        refine gc_getR C w19 iwx_X10 w20 g21 (by decide) (by decide) rfl 12 (by decide) (hW kw_254) rfl rfl rfl dX10_requireSingles_34 (fun o23 eo23 ko23 => ?_)
        obtain ⟨b24, hb9, h⟩ := h
        have g25 : hK S16 b24 = 3 := ko23 b24 (eo23.trans hb9)
        replace h := h g25
        refine g_opt (eo23.trans hb9) ?_
        refine gc_getI C iwx_X2 w20 g25 (by decide) (by decide) rfl 3 (by decide) (hW kw_139) rfl rfl rfl dX10_requireSingles_37 ?_
        refine g_if_eq (tgt := 59) C dX10_requireSingles_40 (by decide) (fun z26 => ?_) (fun z26 => ?_)
        · replace h := h.1 z26
          obtain ⟨v27, ev27⟩ : ∃ y : Int32, y = x3 + 1 := ⟨_, rfl⟩
          replace h := h v27 ev27
          refine g_iinc (v := v27) (lv' := [(3, .int v27), (0, .ref x0), (1, .int x1), (2, .int x2)]) C dX10_requireSingles_59 (j := 3) rfl (by rw [ev27]; rfl) (by decide) rfl ?_
          refine g_goto (tgt := 2) C dX10_requireSingles_62 (by decide) ?_
          refine g_locals [1, 2, 3, 0] rfl ?_
          exact ih x0 x1 x2 v27 S16 kc ks L17 w19 w20 w22 g21 h
        · replace h := h.2 z26
          refine g_iload_n C dX10_requireSingles_43 rfl 2 rfl ?_
          refine g_if_eq (tgt := 51) C dX10_requireSingles_44 (by decide) (fun z28 => ?_) (fun z28 => ?_)
          · replace h := h.1 z28
            obtain ⟨g29, h⟩ := h
            exact gx_throw (cls := "java/lang/IllegalStateException") (names := ["java/lang/RuntimeException", "java/lang/Exception"]) C E hst w19 w20 w22 (Nat.le_refl _) (Nat.le_refl _) (by decide) (by decide) (hW kw_480) (hW kw_17) (th_FreightRater_78 hW E) tv_FreightRater_78 dX10_requireSingles_51 dX10_requireSingles_54 dX10_requireSingles_55 dX10_requireSingles_58 htab (Nat.le_of_ble_eq_true rfl) (Nat.le_of_ble_eq_true rfl) g29.1 g29.2 h
          · replace h := h.2 z28
            refine g_aload_n C dX10_requireSingles_47 rfl 0 rfl ?_
            obtain ⟨m30, m31, m32, m33, m34, h⟩ := h
            obtain ⟨g35, h⟩ := h
            refine gc_callvV (host := "") C E w19 w20 g21 (by decide) (by decide) rfl [] rfl (k_X10_keepReason l D T x0 S16 m30 m31 m32 m33 m34 g21 g35) (w0_V 0 C.2.2.2.2.1 kw_1283 kw_1285 ks_38 kw_1 kw_1286 rfl rfl (by decide +kernel) ⟨Nat.le_of_ble_eq_true rfl, Nat.le_of_ble_eq_true rfl⟩) rfl (Nat.le_of_ble_eq_true rfl) (Nat.le_refl _) (Nat.le_refl _) (Nat.zero_le _) (Nat.zero_le _) dX10_requireSingles_48 (fun S36 L37 e38 w39 w40 hp => ?_)
            replace h := h S36 e38 hp
            have g41 := ext_K e38 g21 (by decide)
            have w42 := ext_tr w22 e38
            obtain ⟨g43, h⟩ := h
            exact gx_throw (cls := "java/lang/IllegalStateException") (names := ["java/lang/RuntimeException", "java/lang/Exception"]) C E hst w39 w40 w42 (Nat.le_refl _) (Nat.le_refl _) (by decide) (by decide) (hW kw_480) (hW kw_17) (th_FreightRater_78 hW E) tv_FreightRater_78 dX10_requireSingles_51 dX10_requireSingles_54 dX10_requireSingles_55 dX10_requireSingles_58 htab (Nat.le_of_ble_eq_true rfl) (Nat.le_of_ble_eq_true rfl) g43.1 g43.2 h
      · replace h := h.2 z6
        refine g_goto (tgt := 59) C dX10_requireSingles_16 (by decide) ?_
        obtain ⟨v44, ev44⟩ : ∃ y : Int32, y = x3 + 1 := ⟨_, rfl⟩
        replace h := h v44 ev44
        refine g_iinc (v := v44) (lv' := [(3, .int v44), (0, .ref x0), (1, .int x1), (2, .int x2)]) C dX10_requireSingles_59 (j := 3) rfl (by rw [ev44]; rfl) (by decide) rfl ?_
        refine g_goto (tgt := 2) C dX10_requireSingles_62 (by decide) ?_
        refine g_locals [1, 2, 3, 0] rfl ?_
        exact ih x0 x1 x2 v44 S kc ks L2 hw w5 he hx0 h
def wp_X10_requireSingles (P : HS → Prop) (X : String → HS → Prop) (x0 : Nat) (p0 : Int32) (p1 : Int32) (S : HS) (mc ms : Nat) : Prop := ∃ k45 : Nat, wp_X10_requireSingles_2  P X k45 x0 p0 p1 0 S mc ms
set_option maxRecDepth 100000 in
set_option maxHeartbeats 4000000 in
theorem t_X10_requireSingles {p : Program} {l : Launch} {e : Env} {s : State} {m : MethodId} {args : Array Value} {below : List Frame} {meth : Method} {c : Code} {D : va_G} {A : Nat → Prop} {T : Nat → ClassId} (C : GC p s m args meth c cX10_requireSingles "FreightRater" (ws_X10_requireSingles) 4 D A (zty T)) (E : GE T A s) (hst : l.stackTraces = false) (htab : ∀ z ∈ c.exceptionTable.toList, False) (hr : meth.sig.returnType = none) (P : HS → Prop) (X : String → HS → Prop) : ∀ (x0 : Nat) (p0 : Int32) (p1 : Int32) (S0 S : HS) (mc ms : Nat) (L : List Nat), S0 = S → wt S → hL S L → (hK S x0 = 11) → wp_X10_requireSingles P X x0 p0 p1 S mc ms → GW p l e { rm_X10_requireSingles with cells := mc, slots := ms } s m args below meth c D A 4 mc ms (vx_MQ below (va_Qv (fun (u : HS × List Nat) => P u.1 ∧ CO S0 u) (CE D T A) A) (CXX D T A S0 X) args s mc ms A) (CW T S L) mc ms 0 [(0, .ref x0), (1, .int p0), (2, .int p1)] [] := by
  have hW : ∀ {w : Cond}, w ∈ W0 → w.before args s = true := fun h => C.2.2.2.2.1 _ (List.mem_cons_of_mem _ h)
  intro x0 p0 p1 S0 S mc ms L hS0 hw hL hx0 h
  have he : ext S0 S := by rw [hS0]; exact ext_rf
  unfold wp_X10_requireSingles at h
  refine g_iconst (v := 0) C dX10_requireSingles_0 (by decide) ?_
  refine g_istore_n (lv' := [(3, .int 0), (0, .ref x0), (1, .int p0), (2, .int p1)]) C dX10_requireSingles_1 rfl (by decide) rfl ?_
  refine g_locals [1, 2, 3, 0] rfl ?_
  obtain ⟨k45, h⟩ := h
  refine t_X10_requireSingles_2 C E hst htab hr S0  P X  k45 x0 p0 p1 0 S mc ms L hw hL he hx0 h
theorem c_X10_requireSingles (l : Launch) (hst : l.stackTraces = false) (D : va_G) (T : Nat → ClassId) (x0 : Nat) (p0 : Int32) (p1 : Int32) (S : HS) (mc ms : Nat) (hx0 : hK S x0 = 11) (P : HS → Prop) (X : String → HS → Prop) (h : wp_X10_requireSingles P X x0 p0 p1 S mc ms) : CXv l yX10_requireSingles (ws_X10_requireSingles) rm_X10_requireSingles D T [.ref x0, .int p0, .int p1] S mc ms P X := gx_metv (by decide) rfl rfl (Nat.le_of_ble_eq_true rfl) (fun p e s m args below meth c A L C E hnm hr htab hw hL => t_X10_requireSingles C E hst htab hr P X x0 p0 p1 S S mc ms L rfl hw hL hx0 h)
theorem rl_rs {P : HS → Prop} {X : String → HS → Prop} {a : Nat → Nat} {mu : Nat → Nat → Int32} {g b : Nat → Int32} {sh : List Int32} {n ns mc ms : Nat} {x2 : Int32} (hns : mu 0 1 = nI ns) (hn10 : ns ≤ 10) (hn : n < 2 ^ ns) (hmc : 1 ≤ mc) (hms : 6 ≤ ms) : ∀ (k s fuel : Nat) (S : HS), s + k = 10 → k < fuel → FrS S a mu g b sh → (∀ S1, rfFold (mu 0) n (ns - s) s = none → FrS S1 a mu g b sh → P S1) → (∀ S1 t, rfFold (mu 0) n (ns - s) s = some t → FrS S1 a mu (if x2 = 0 then g else kpG g (nI (rsnD (mu 0) (2 ^ t)).1) (rsnD (mu 0) (2 ^ t)).2) b sh → X "java/lang/IllegalStateException" S1) → wp_X10_requireSingles_2 P X fuel (a 50) (nI n) x2 (nI s) S mc ms := by
  have hn1 : n < 1024 := Nat.lt_of_lt_of_le hn (p2_le hn10)
  intro k
  induction k with
  | zero =>
    intro s fuel S hs hf h hP hX
    obtain ⟨f, rfl⟩ : ∃ f, fuel = f + 1 := ⟨fuel - 1, by omega⟩; rw [wp_X10_requireSingles_2]; unfold wb_X10_requireSingles_2; dsimp only
    rw [show ((10 : Int32) ≤ nI s) = (10 ≤ s) from propext (nI_leI (a := 10) (by decide) (by omega))]
    exact ⟨fun _ => hP S (by rw [show ns - s = 0 by omega, rfFold]) h, fun c => absurd (by omega) c⟩
  | succ k ih =>
    intro s fuel S hs hf h hP hX
    obtain ⟨f, rfl⟩ : ∃ f, fuel = f + 1 := ⟨fuel - 1, by omega⟩; rw [wp_X10_requireSingles_2]; unfold wb_X10_requireSingles_2; dsimp only
    rw [show ((10 : Int32) ≤ nI s) = (10 ≤ s) from propext (nI_leI (a := 10) (by decide) (by omega)), nI_1]
    refine ⟨fun c => absurd c (by omega), fun _ => ⟨fun c => ?_, fun c v e => ?_⟩⟩
    · have tb : n.testBit s = true := by
        by_cases t : n.testBit s = true
        · exact t
        · exact absurd ((has_0 hn1 (by omega)).mpr t) c
      have hsn : s < ns := by
        rcases Nat.lt_or_ge s ns with q | q
        · exact q
        · exact absurd tb (by rw [Nat.testBit_lt_two_pow (Nat.lt_of_lt_of_le hn (Nat.pow_le_pow_right (by decide) q))]; decide)
      have hg : gok (mu 0) (nI (2 ^ s)) := gok.tb (n := 0) hns hn10 hsn
      have hp : 2 ^ s ≤ 512 := Nat.pow_le_pow_right (n := 2) (by decide) (show s ≤ 9 by omega)
      rw [sh1 (by omega)]
      refine ⟨a 54, h.r12, fun _ => ⟨a 0, h.r0, fun _ => ⟨fxM a, mu 0, ⟨h.now.1, h.wfr, h.now.2, h.1.rt, hg⟩, fun S16 he16 h16 => ?_⟩⟩⟩
      obtain ⟨f16, w16⟩ := h16
      have h16 := h.wk he16 f16
      rw [show iv (nI (2 ^ s)) = 2 ^ s from nI_clamp (by omega)] at w16
      have h8 := rsnD_8 (μ := mu 0) (g := 2 ^ s)
      refine ⟨a 54, h16.r12, fun _ => ?_⟩
      rw [w16.1, nz_eq0 (by omega)]
      have er : rfFold (mu 0) n (ns - s) s = if n.testBit s = true ∧ ¬ (rsnD (mu 0) (2 ^ s)).1 = 0 then some s else rfFold (mu 0) n (ns - (s + 1)) (s + 1) := by
        rw [show ns - s = (ns - (s + 1)) + 1 by omega, rfFold]
      refine ⟨fun c2 v e => ?_, fun c2 => ⟨fun c3 => ⟨⟨hmc, hms⟩, ?_⟩, fun c3 => ?_⟩⟩
      · subst e
        exact ih (s + 1) f S16 (by omega) (by omega) h16 (fun S1 q1 => hP S1 (by rw [er, if_neg (fun z => z.2 c2)]; exact q1)) (fun S1 t q1 => hX S1 t (by rw [er, if_neg (fun z => z.2 c2)]; exact q1))
      · refine hX S16 s (by rw [er, if_pos ⟨tb, c2⟩]) ?_
        rw [if_pos c3]
        exact h16
      · refine ⟨a, mu, g, b, sh, ⟨h16, rfl⟩, fun S36 _ h36 => ⟨⟨hmc, hms⟩, hX S36 s (by rw [er, if_pos ⟨tb, c2⟩]) ?_⟩⟩
        rw [if_neg c3]
        rw [w16.1, w16.2.1 c2] at h36
        exact h36
    · subst e
      have tb := (has_0 hn1 (show s < 10 by omega)).mp c
      have er : rfFold (mu 0) n (ns - s) s = rfFold (mu 0) n (ns - (s + 1)) (s + 1) := by
        rcases Nat.lt_or_ge s ns with q | q
        · rw [show ns - s = (ns - (s + 1)) + 1 by omega, rfFold, if_neg (fun z => tb z.1)]
        · rw [show ns - s = 0 by omega, show ns - (s + 1) = 0 by omega]; rfl
      exact ih (s + 1) f S (by omega) (by omega) h (fun S1 q1 => hP S1 (by rw [er]; exact q1)) (fun S1 t q1 => hX S1 t (by rw [er]; exact q1))
theorem k_X10_requireSingles (l : Launch) (hst : l.stackTraces = false) (D : va_G) (T : Nat → ClassId) (x0 : Nat) (p0 : Int32) (p1 : Int32) (S : HS) (e0 : (Nat → Nat)) (e1 : (Nat → Nat → Int32)) (e2 : (Nat → Int32)) (e3 : (Nat → Int32)) (e4 : (List Int32)) (mc ms : Nat) (hx0 : hK S x0 = 11) (h : FrS S e0 e1 e2 e3 e4 ∧ x0 = e0 50 ∧ gok (e1 0) p0 ∧ 1 ≤ mc ∧ 6 ≤ ms) : CXv l yX10_requireSingles (ws_X10_requireSingles) rm_X10_requireSingles D T [.ref x0, .int p0, .int p1] S mc ms (fun S1 => (rfF (e1 0) (iv p0) = none ∧ FrS S1 e0 e1 e2 e3 e4)) (fun E9 S1 => E9 = "java/lang/IllegalStateException" ∧ ∃ t, rfF (e1 0) (iv p0) = some t ∧ FrS S1 e0 e1 (if (p1 : Int32) = 0 then e2 else kpG e2 (nI (rsnD (e1 0) (2 ^ t)).1) (rsnD (e1 0) (2 ^ t)).2) e3 e4) := c_X10_requireSingles l hst D T x0 p0 p1 S mc ms hx0 _ _ <|
  (by
    obtain ⟨h, e, hg, hmc, hms⟩ := h
    subst e
    obtain ⟨n, ns, ens, hns, hn0, hn, eg⟩ := hg
    subst eg
    have hn1 : n < 1024 := Nat.lt_of_lt_of_le hn (p2_le hns)
    have ig : iv (nI n) = n := nI_clamp (by omega)
    have ins : iv (e1 0 1) = ns := by rw [ens]; exact nI_clamp (by omega)
    have er : rfF (e1 0) n = rfFold (e1 0) n (ns - 0) 0 := by unfold rfF; rw [ins]; rfl
    unfold wp_X10_requireSingles
    rw [ig, er]
    exact ⟨20, rl_rs ens hns hn hmc hms 10 0 20 S (by omega) (by omega) h (fun S1 q1 q2 => ⟨q1, q2⟩) (fun S1 t q1 q2 => ⟨rfl, t, q1, q2⟩)⟩)
abbrev ws_X10_rate : List Cond := Cond.code yX10_rate cX10_rate 2 (some .int) :: W0
abbrev rm_X10_rate : Room := ({ frames := 16, cells := 0, slots := 0, locals := 493 } : Room)
def wp_X10_rate (P : Int32 → HS → Prop) (X : String → HS → Prop) (x0 : Nat) (p0 : Int32) (S : HS) (mc ms : Nat) : Prop := ∃ cc1 cc2 : Nat, (cc1 ≤ mc ∧ cc2 ≤ ms) ∧ (∃ (m4 : (Nat → Nat)) (m5 : (Nat → Nat → Int32)) (m6 : (Nat → Int32)) (m7 : (Nat → Int32)) (m8 : (List Int32)), ((FrS S m4 m5 m6 m7 m8 ∧ x0 = m4 50 ∧ 1 ≤ cc1 ∧ 6 ≤ cc2) ∧ ((∀ (E9 : String) (S9 : HS), ext S S9 → (grpF (m5 0) p0 = 0 ∧ E9 = "java/lang/IndexOutOfBoundsException" ∧ S9 = S) → X E9 S9) ∧ (∀ (S10 : HS), ext S S10 → (grpF (m5 0) p0 = 1 ∧ S10 = S) → (∃ b19 : Nat, hR S10 232 x0 = some b19 ∧ (hK S10 b19 = 3 → (∃ b22 : Nat, hR S10 220 x0 = some b22 ∧ (hK S10 b22 = 7 → (∃ (m24 : (Nat → Prop)) (m25 : Nat → Int32), ((WF m25 ∧ WFR m25 ∧ RelSt S10 m24 b22 m25 ∧ RtO S10 m24 b19 b22 ∧ gok m25 p0) ∧ (∀ (S27 : HS), ext S10 S27 → (frR S10 S27 b19 ∧ wkP S27 b19 m25 (iv p0)) → (∃ b35 : Nat, hR S27 232 x0 = some b35 ∧ (hK S27 b35 = 3 → (((hI S27 63 b35) = 0 → (∃ b39 : Nat, hR S27 232 x0 = some b39 ∧ (hK S27 b39 = 3 → (P (hI S27 71 b39 + hI S27 74 b39 + hI S27 76 b39 + hI S27 77 b39) S27)))) ∧ (¬ (hI S27 63 b35) = 0 → (∃ (m45 : (Nat → Nat)) (m46 : (Nat → Nat → Int32)) (m47 : (Nat → Int32)) (m48 : (Nat → Int32)) (m49 : (List Int32)), ((FrS S27 m45 m46 m47 m48 m49 ∧ x0 = m45 50) ∧ (∀ (S51 : HS), ext S27 S51 → (FrS S51 m45 m46 (kpG m47 (hI S27 63 (m45 54)) (hI S27 64 (m45 54))) m48 m49) → ((1 ≤ (mc - cc1) ∧ 6 ≤ (ms - cc2)) ∧ X "java/lang/IllegalStateException" S51)))))))))))))))))))
set_option maxRecDepth 100000 in
set_option maxHeartbeats 4000000 in
theorem t_X10_rate {p : Program} {l : Launch} {e : Env} {s : State} {m : MethodId} {args : Array Value} {below : List Frame} {meth : Method} {c : Code} {D : va_G} {A : Nat → Prop} {T : Nat → ClassId} (C : GC p s m args meth c cX10_rate "FreightRater" (ws_X10_rate) 2 D A (zty T)) (E : GE T A s) (hst : l.stackTraces = false) (htab : ∀ z ∈ c.exceptionTable.toList, False) (hr : meth.sig.returnType = (some .int)) (P : Int32 → HS → Prop) (X : String → HS → Prop) : ∀ (x0 : Nat) (p0 : Int32) (S0 S : HS) (mc ms : Nat) (L : List Nat), S0 = S → wt S → hL S L → (hK S x0 = 11) → wp_X10_rate P X x0 p0 S mc ms → GW p l e { rm_X10_rate with cells := mc, slots := ms } s m args below meth c D A 2 mc ms (vx_MQ below (va_Qi (fun v (u : HS × List Nat) => P v u.1 ∧ CO S0 u) (CE D T A) A) (CXX D T A S0 X) args s mc ms A) (CW T S L) mc ms 0 [(0, .ref x0), (1, .int p0)] [] := by
  have hW : ∀ {w : Cond}, w ∈ W0 → w.before args s = true := fun h => C.2.2.2.2.1 _ (List.mem_cons_of_mem _ h)
  intro x0 p0 S0 S mc ms L hS0 hw hL hx0 h
  have he : ext S0 S := by rw [hS0]; exact ext_rf
  unfold wp_X10_rate at h
  refine g_aload_n C dX10_rate_0 rfl 0 rfl ?_
  refine g_iload_n C dX10_rate_1 rfl 1 rfl ?_
  obtain ⟨cc1, cc2, g3, h⟩ := h
  obtain ⟨m4, m5, m6, m7, m8, h⟩ := h
  obtain ⟨g9, h⟩ := h
  obtain ⟨g15, h⟩ := h
  refine gx_callvV (host := "") C E hw hL hx0 (by decide) (by decide) rfl [.int p0] rfl (k_X10_requireGroup l hst D T x0 p0 S m4 m5 m6 m7 m8 cc1 cc2 hx0 g9) (w0_V 1 C.2.2.2.2.1 kw_1191 kw_1193 ks_26 kw_1 kw_1194 rfl rfl (by decide +kernel) ⟨Nat.le_of_ble_eq_true rfl, Nat.le_of_ble_eq_true rfl⟩) rfl (Nat.le_of_ble_eq_true rfl) (Nat.le_refl _) (Nat.le_refl _) g3.1 g3.2 dX10_rate_2 he htab g15 (fun S10 L11 e12 w13 w14 hp => ?_)
  replace h := h S10 e12 hp
  have g16 := ext_K e12 hx0 (by decide)
  have w17 := ext_tr he e12
  refine g_aload_n C dX10_rate_5 rfl 0 rfl ?_
  refine gc_getR C w13 iwx_X10 w14 g16 (by decide) (by decide) rfl 12 (by decide) (hW kw_254) rfl rfl rfl dX10_rate_6 (fun o18 eo18 ko18 => ?_)
  obtain ⟨b19, hb9, h⟩ := h
  have g20 : hK S10 b19 = 3 := ko18 b19 (eo18.trans hb9)
  replace h := h g20
  refine g_opt (eo18.trans hb9) ?_
  refine g_aload_n C dX10_rate_9 rfl 0 rfl ?_
  refine gc_getR C w13 iwx_X10 w14 g16 (by decide) (by decide) rfl 0 (by decide) (hW kw_242) rfl rfl rfl dX10_rate_10 (fun o21 eo21 ko21 => ?_)
  obtain ⟨b22, hb9, h⟩ := h
  have g23 : hK S10 b22 = 7 := ko21 b22 (eo21.trans hb9)
  replace h := h g23
  refine g_opt (eo21.trans hb9) ?_
  refine g_iload_n C dX10_rate_13 rfl 1 rfl ?_
  obtain ⟨m24, m25, h⟩ := h
  obtain ⟨g26, h⟩ := h
  refine gc_callvV (host := "") C E w13 w14 g20 (by decide) (by decide) rfl [.ref b22, .int p0] rfl (k_X2_work l D T b19 b22 p0 S10 m24 m25 g20 g23 g26) (w0_V 2 C.2.2.2.2.1 kw_1195 kw_1196 kw_1197 kw_7 kw_1198 rfl rfl (by decide +kernel) ⟨Nat.le_of_ble_eq_true rfl, Nat.le_of_ble_eq_true rfl⟩) rfl (Nat.le_of_ble_eq_true rfl) (Nat.le_refl _) (Nat.le_refl _) (Nat.zero_le _) (Nat.zero_le _) dX10_rate_14 (fun S27 L28 e29 w30 w31 hp => ?_)
  replace h := h S27 e29 hp
  have g32 := ext_K e29 g16 (by decide)
  have w33 := ext_tr w17 e29
  refine g_aload_n C dX10_rate_17 rfl 0 rfl ?_
  refine gc_getR C w30 iwx_X10 w31 g32 (by decide) (by decide) rfl 12 (by decide) (hW kw_254) rfl rfl rfl dX10_rate_18 (fun o34 eo34 ko34 => ?_)
  obtain ⟨b35, hb9, h⟩ := h
  have g36 : hK S27 b35 = 3 := ko34 b35 (eo34.trans hb9)
  replace h := h g36
  refine g_opt (eo34.trans hb9) ?_
  refine gc_getI C iwx_X2 w31 g36 (by decide) (by decide) rfl 3 (by decide) (hW kw_139) rfl rfl rfl dX10_rate_21 ?_
  refine g_if_eq (tgt := 39) C dX10_rate_24 (by decide) (fun z37 => ?_) (fun z37 => ?_)
  · replace h := h.1 z37
    refine g_aload_n C dX10_rate_39 rfl 0 rfl ?_
    refine gc_getR C w30 iwx_X10 w31 g32 (by decide) (by decide) rfl 12 (by decide) (hW kw_254) rfl rfl rfl dX10_rate_40 (fun o38 eo38 ko38 => ?_)
    obtain ⟨b39, hb9, h⟩ := h
    have g40 : hK S27 b39 = 3 := ko38 b39 (eo38.trans hb9)
    replace h := h g40
    refine g_opt (eo38.trans hb9) ?_
    refine gc_calliV (host := "") C E w30 w31 g40 (by decide) (by decide) rfl [] rfl (k_X2_total l D T b39 S27 g40) (w0_V 0 C.2.2.2.2.1 kw_1287 kw_1288 kw_1289 kw_7 kw_1290 rfl rfl (by decide +kernel) ⟨Nat.le_of_ble_eq_true rfl, Nat.le_of_ble_eq_true rfl⟩) rfl (Nat.le_of_ble_eq_true rfl) (Nat.le_refl _) (Nat.le_refl _) (Nat.zero_le _) (Nat.zero_le _) dX10_rate_43 (fun v9 S9 L41 he9 hw9 hL9 hp => ?_)
    obtain ⟨hv9, hs9⟩ := hp
    replace hs9 := hs9.symm
    subst hs9
    replace hv9 := hv9.symm
    subst hv9
    have w44 := hL9
    exact gx_iret C w30 w44 w33 hr dX10_rate_46 h
  · replace h := h.2 z37
    refine g_aload_n C dX10_rate_27 rfl 0 rfl ?_
    obtain ⟨m45, m46, m47, m48, m49, h⟩ := h
    obtain ⟨g50, h⟩ := h
    refine gc_callvV (host := "") C E w30 w31 g32 (by decide) (by decide) rfl [] rfl (k_X10_keepReason l D T x0 S27 m45 m46 m47 m48 m49 g32 g50) (w0_V 0 C.2.2.2.2.1 kw_1283 kw_1285 ks_38 kw_1 kw_1286 rfl rfl (by decide +kernel) ⟨Nat.le_of_ble_eq_true rfl, Nat.le_of_ble_eq_true rfl⟩) rfl (Nat.le_of_ble_eq_true rfl) (Nat.le_refl _) (Nat.le_refl _) (Nat.zero_le _) (Nat.zero_le _) dX10_rate_28 (fun S51 L52 e53 w54 w55 hp => ?_)
    replace h := h S51 e53 hp
    have g56 := ext_K e53 g32 (by decide)
    have w57 := ext_tr w33 e53
    obtain ⟨g58, h⟩ := h
    exact gx_throw (cls := "java/lang/IllegalStateException") (names := ["java/lang/RuntimeException", "java/lang/Exception"]) C E hst w54 w55 w57 (Nat.le_refl _) (Nat.le_refl _) (by decide) (by decide) (hW kw_480) (hW kw_17) (th_FreightRater_78 hW E) tv_FreightRater_78 dX10_rate_31 dX10_rate_34 dX10_rate_35 dX10_rate_38 htab (Nat.le_of_ble_eq_true rfl) (Nat.le_of_ble_eq_true rfl) g58.1 g58.2 h
theorem c_X10_rate (l : Launch) (hst : l.stackTraces = false) (D : va_G) (T : Nat → ClassId) (x0 : Nat) (p0 : Int32) (S : HS) (mc ms : Nat) (hx0 : hK S x0 = 11) (P : Int32 → HS → Prop) (X : String → HS → Prop) (h : wp_X10_rate P X x0 p0 S mc ms) : CXi l yX10_rate (ws_X10_rate) rm_X10_rate D T [.ref x0, .int p0] S mc ms P X := gx_meti (by decide) rfl rfl (Nat.le_of_ble_eq_true rfl) (fun p e s m args below meth c A L C E hnm hr htab hw hL => t_X10_rate C E hst htab hr P X x0 p0 S S mc ms L rfl hw hL hx0 h)
theorem k_X10_rate (l : Launch) (hst : l.stackTraces = false) (D : va_G) (T : Nat → ClassId) (x0 : Nat) (p0 : Int32) (S : HS) (e0 : (Nat → Nat)) (e1 : (Nat → Nat → Int32)) (e2 : (Nat → Int32)) (e3 : (Nat → Int32)) (e4 : (List Int32)) (mc ms : Nat) (hx0 : hK S x0 = 11) (h : FrS S e0 e1 e2 e3 e4 ∧ x0 = e0 50 ∧ 200 ≤ mc ∧ 2000 ≤ ms) : CXi l yX10_rate (ws_X10_rate) rm_X10_rate D T [.ref x0, .int p0] S mc ms (fun v S1 => (rateC (e1 0) p0 = 0 ∧ v = totF (e1 0) (iv p0) ∧ FrS S1 e0 e1 e2 e3 e4)) (fun E9 S1 => ((rateC (e1 0) p0 = 1 ∧ E9 = "java/lang/IndexOutOfBoundsException") ∨ (rateC (e1 0) p0 = 2 ∧ E9 = "java/lang/IllegalStateException")) ∧ FrS S1 e0 e1 (if rateC (e1 0) p0 = 2 then kpG e2 (nI (rsnD (e1 0) (iv p0)).1) (rsnD (e1 0) (iv p0)).2 else e2) e3 e4) := c_X10_rate l hst D T x0 p0 S mc ms hx0 _ _ <|
  (by
    obtain ⟨h, e, hmc, hms⟩ := h
    unfold wp_X10_rate
    refine ⟨1, 6, ⟨by omega, by omega⟩, e0, e1, e2, e3, e4, ⟨h, e, Nat.le_refl _, Nat.le_refl _⟩, fun E9 S9 _ h9 => ?_, fun S10 _ h10 => ?_⟩
    · obtain ⟨c, eE, eS⟩ := h9
      subst eS
      have rC : rateC (e1 0) p0 = 1 := by unfold rateC; rw [if_pos c]
      refine ⟨Or.inl ⟨rC, eE⟩, ?_⟩
      rw [rC, if_neg (by decide)]
      exact h
    obtain ⟨c, eS⟩ := h10
    subst eS e
    have c0 : ¬ grpF (e1 0) p0 = 0 := by rw [c]; decide
    have hg := grp_gok h.now.1 c0
    have rC : rateC (e1 0) p0 = if (rsnD (e1 0) (iv p0)).1 = 0 then 0 else 2 := by unfold rateC; rw [if_neg c0]
    refine ⟨e0 54, h.r12, fun _ => ⟨e0 0, h.r0, fun _ => ⟨fxM e0, e1 0, ⟨h.now.1, h.wfr, h.now.2, h.1.rt, hg⟩, fun S27 he27 h27 => ?_⟩⟩⟩
    obtain ⟨f27, w27⟩ := h27
    have h27 := h.wk he27 f27
    have h8 := rsnD_8 (μ := e1 0) (g := iv p0)
    refine ⟨e0 54, h27.r12, fun _ => ?_⟩
    rw [w27.1, nz_eq0 (by omega)]
    refine ⟨fun c2 => ⟨e0 54, h27.r12, fun _ => ⟨by rw [rC, if_pos c2], ?_, h27⟩⟩, fun c2 => ⟨e0, e1, e2, e3, e4, ⟨h27, rfl⟩, fun S51 _ h51 => ⟨⟨by omega, by omega⟩, Or.inr ⟨by rw [rC, if_neg c2], rfl⟩, ?_⟩⟩⟩
    · obtain ⟨_, _, _, w71, _, _, w74, _, w76, w77⟩ := w27.2.2 c2
      rw [w71, w74, w76, w77]
      rfl
    · rw [if_pos (show rateC (e1 0) p0 = 2 by rw [rC, if_neg c2])]
      rw [w27.1, w27.2.1 c2] at h51
      exact h51)
abbrev ws_X10_refuses : List Cond := Cond.code yX10_refuses cX10_refuses 2 (some .int) :: W0
abbrev rm_X10_refuses : Room := ({ frames := 16, cells := 0, slots := 0, locals := 493 } : Room)
def wp_X10_refuses (P : Int32 → HS → Prop) (X : String → HS → Prop) (x0 : Nat) (p0 : Int32) (S : HS) (mc ms : Nat) : Prop := ∃ cc1 cc2 : Nat, (cc1 ≤ mc ∧ cc2 ≤ ms) ∧ (∃ (m4 : (Nat → Nat)) (m5 : (Nat → Nat → Int32)) (m6 : (Nat → Int32)) (m7 : (Nat → Int32)) (m8 : (List Int32)), ((FrS S m4 m5 m6 m7 m8 ∧ x0 = m4 50 ∧ 1 ≤ cc1 ∧ 6 ≤ cc2) ∧ ((∀ (E9 : String) (S9 : HS), ext S S9 → (grpF (m5 0) p0 = 0 ∧ E9 = "java/lang/IndexOutOfBoundsException" ∧ S9 = S) → X E9 S9) ∧ (∀ (S10 : HS), ext S S10 → (grpF (m5 0) p0 = 1 ∧ S10 = S) → (∃ b19 : Nat, hR S10 232 x0 = some b19 ∧ (hK S10 b19 = 3 → (∃ b22 : Nat, hR S10 220 x0 = some b22 ∧ (hK S10 b22 = 7 → (∃ (m24 : (Nat → Prop)) (m25 : Nat → Int32), ((WF m25 ∧ WFR m25 ∧ RelSt S10 m24 b22 m25 ∧ RtO S10 m24 b19 b22 ∧ gok m25 p0) ∧ (∀ (S27 : HS), ext S10 S27 → (frR S10 S27 b19 ∧ wkP S27 b19 m25 (iv p0)) → (∃ b35 : Nat, hR S27 232 x0 = some b35 ∧ (hK S27 b35 = 3 → (P (hI S27 63 b35) S27))))))))))))))
set_option maxRecDepth 100000 in
set_option maxHeartbeats 4000000 in
theorem t_X10_refuses {p : Program} {l : Launch} {e : Env} {s : State} {m : MethodId} {args : Array Value} {below : List Frame} {meth : Method} {c : Code} {D : va_G} {A : Nat → Prop} {T : Nat → ClassId} (C : GC p s m args meth c cX10_refuses "FreightRater" (ws_X10_refuses) 2 D A (zty T)) (E : GE T A s) (hst : l.stackTraces = false) (htab : ∀ z ∈ c.exceptionTable.toList, False) (hr : meth.sig.returnType = (some .int)) (P : Int32 → HS → Prop) (X : String → HS → Prop) : ∀ (x0 : Nat) (p0 : Int32) (S0 S : HS) (mc ms : Nat) (L : List Nat), S0 = S → wt S → hL S L → (hK S x0 = 11) → wp_X10_refuses P X x0 p0 S mc ms → GW p l e { rm_X10_refuses with cells := mc, slots := ms } s m args below meth c D A 2 mc ms (vx_MQ below (va_Qi (fun v (u : HS × List Nat) => P v u.1 ∧ CO S0 u) (CE D T A) A) (CXX D T A S0 X) args s mc ms A) (CW T S L) mc ms 0 [(0, .ref x0), (1, .int p0)] [] := by
  have hW : ∀ {w : Cond}, w ∈ W0 → w.before args s = true := fun h => C.2.2.2.2.1 _ (List.mem_cons_of_mem _ h)
  intro x0 p0 S0 S mc ms L hS0 hw hL hx0 h
  have he : ext S0 S := by rw [hS0]; exact ext_rf
  unfold wp_X10_refuses at h
  refine g_aload_n C dX10_refuses_0 rfl 0 rfl ?_
  refine g_iload_n C dX10_refuses_1 rfl 1 rfl ?_
  obtain ⟨cc1, cc2, g3, h⟩ := h
  obtain ⟨m4, m5, m6, m7, m8, h⟩ := h
  obtain ⟨g9, h⟩ := h
  obtain ⟨g15, h⟩ := h
  refine gx_callvV (host := "") C E hw hL hx0 (by decide) (by decide) rfl [.int p0] rfl (k_X10_requireGroup l hst D T x0 p0 S m4 m5 m6 m7 m8 cc1 cc2 hx0 g9) (w0_V 1 C.2.2.2.2.1 kw_1191 kw_1193 ks_26 kw_1 kw_1194 rfl rfl (by decide +kernel) ⟨Nat.le_of_ble_eq_true rfl, Nat.le_of_ble_eq_true rfl⟩) rfl (Nat.le_of_ble_eq_true rfl) (Nat.le_refl _) (Nat.le_refl _) g3.1 g3.2 dX10_refuses_2 he htab g15 (fun S10 L11 e12 w13 w14 hp => ?_)
  replace h := h S10 e12 hp
  have g16 := ext_K e12 hx0 (by decide)
  have w17 := ext_tr he e12
  refine g_aload_n C dX10_refuses_5 rfl 0 rfl ?_
  refine gc_getR C w13 iwx_X10 w14 g16 (by decide) (by decide) rfl 12 (by decide) (hW kw_254) rfl rfl rfl dX10_refuses_6 (fun o18 eo18 ko18 => ?_)
  obtain ⟨b19, hb9, h⟩ := h
  have g20 : hK S10 b19 = 3 := ko18 b19 (eo18.trans hb9)
  replace h := h g20
  refine g_opt (eo18.trans hb9) ?_
  refine g_aload_n C dX10_refuses_9 rfl 0 rfl ?_
  refine gc_getR C w13 iwx_X10 w14 g16 (by decide) (by decide) rfl 0 (by decide) (hW kw_242) rfl rfl rfl dX10_refuses_10 (fun o21 eo21 ko21 => ?_)
  obtain ⟨b22, hb9, h⟩ := h
  have g23 : hK S10 b22 = 7 := ko21 b22 (eo21.trans hb9)
  replace h := h g23
  refine g_opt (eo21.trans hb9) ?_
  refine g_iload_n C dX10_refuses_13 rfl 1 rfl ?_
  obtain ⟨m24, m25, h⟩ := h
  obtain ⟨g26, h⟩ := h
  refine gc_callvV (host := "") C E w13 w14 g20 (by decide) (by decide) rfl [.ref b22, .int p0] rfl (k_X2_work l D T b19 b22 p0 S10 m24 m25 g20 g23 g26) (w0_V 2 C.2.2.2.2.1 kw_1195 kw_1196 kw_1197 kw_7 kw_1198 rfl rfl (by decide +kernel) ⟨Nat.le_of_ble_eq_true rfl, Nat.le_of_ble_eq_true rfl⟩) rfl (Nat.le_of_ble_eq_true rfl) (Nat.le_refl _) (Nat.le_refl _) (Nat.zero_le _) (Nat.zero_le _) dX10_refuses_14 (fun S27 L28 e29 w30 w31 hp => ?_)
  replace h := h S27 e29 hp
  have g32 := ext_K e29 g16 (by decide)
  have w33 := ext_tr w17 e29
  refine g_aload_n C dX10_refuses_17 rfl 0 rfl ?_
  refine gc_getR C w30 iwx_X10 w31 g32 (by decide) (by decide) rfl 12 (by decide) (hW kw_254) rfl rfl rfl dX10_refuses_18 (fun o34 eo34 ko34 => ?_)
  obtain ⟨b35, hb9, h⟩ := h
  have g36 : hK S27 b35 = 3 := ko34 b35 (eo34.trans hb9)
  replace h := h g36
  refine g_opt (eo34.trans hb9) ?_
  refine gc_getI C iwx_X2 w31 g36 (by decide) (by decide) rfl 3 (by decide) (hW kw_139) rfl rfl rfl dX10_refuses_21 ?_
  exact gx_iret C w30 w31 w33 hr dX10_refuses_24 h
theorem c_X10_refuses (l : Launch) (hst : l.stackTraces = false) (D : va_G) (T : Nat → ClassId) (x0 : Nat) (p0 : Int32) (S : HS) (mc ms : Nat) (hx0 : hK S x0 = 11) (P : Int32 → HS → Prop) (X : String → HS → Prop) (h : wp_X10_refuses P X x0 p0 S mc ms) : CXi l yX10_refuses (ws_X10_refuses) rm_X10_refuses D T [.ref x0, .int p0] S mc ms P X := gx_meti (by decide) rfl rfl (Nat.le_of_ble_eq_true rfl) (fun p e s m args below meth c A L C E hnm hr htab hw hL => t_X10_refuses C E hst htab hr P X x0 p0 S S mc ms L rfl hw hL hx0 h)
theorem k_X10_refuses (l : Launch) (hst : l.stackTraces = false) (D : va_G) (T : Nat → ClassId) (x0 : Nat) (p0 : Int32) (S : HS) (e0 : (Nat → Nat)) (e1 : (Nat → Nat → Int32)) (e2 : (Nat → Int32)) (e3 : (Nat → Int32)) (e4 : (List Int32)) (mc ms : Nat) (hx0 : hK S x0 = 11) (h : FrS S e0 e1 e2 e3 e4 ∧ x0 = e0 50 ∧ 200 ≤ mc ∧ 2000 ≤ ms) : CXi l yX10_refuses (ws_X10_refuses) rm_X10_refuses D T [.ref x0, .int p0] S mc ms (fun v S1 => ((if grpF (e1 0) p0 = 0 then 1 else 0) = 0 ∧ v = nI (rsnD (e1 0) (iv p0)).1 ∧ FrS S1 e0 e1 e2 e3 e4)) (fun E9 S1 => (((if grpF (e1 0) p0 = 0 then 1 else 0) = 1 ∧ E9 = "java/lang/IndexOutOfBoundsException")) ∧ FrS S1 e0 e1 e2 e3 e4) := c_X10_refuses l hst D T x0 p0 S mc ms hx0 _ _ <|
  (by
    obtain ⟨h, e, hmc, hms⟩ := h
    unfold wp_X10_refuses
    refine ⟨1, 6, ⟨by omega, by omega⟩, e0, e1, e2, e3, e4, ⟨h, e, Nat.le_refl _, Nat.le_refl _⟩, fun E9 S9 _ h9 => ?_, fun S10 _ h10 => ?_⟩
    · obtain ⟨c, eE, eS⟩ := h9
      subst eS
      exact ⟨⟨by rw [if_pos c], eE⟩, h⟩
    obtain ⟨c, eS⟩ := h10
    subst eS e
    have c0 : ¬ grpF (e1 0) p0 = 0 := by rw [c]; decide
    refine ⟨e0 54, h.r12, fun _ => ⟨e0 0, h.r0, fun _ => ⟨fxM e0, e1 0, ⟨h.now.1, h.wfr, h.now.2, h.1.rt, grp_gok h.now.1 c0⟩, fun S27 he27 h27 => ?_⟩⟩⟩
    obtain ⟨f27, w27⟩ := h27
    have h27 := h.wk he27 f27
    exact ⟨e0 54, h27.r12, fun _ => ⟨by rw [if_neg c0], w27.1, h27⟩⟩)
abbrev ws_X10_rating : List Cond := Cond.code yX10_rating cX10_rating 3 (some .int) :: W0
abbrev rm_X10_rating : Room := ({ frames := 17, cells := 0, slots := 0, locals := 514 } : Room)
def wp_X10_rating (P : Int32 → HS → Prop) (X : String → HS → Prop) (x0 : Nat) (p0 : Int32) (p1 : Int32) (S : HS) (mc ms : Nat) : Prop := ∃ cc1 cc2 : Nat, (cc1 ≤ mc ∧ cc2 ≤ ms) ∧ (∃ (m4 : (Nat → Nat)) (m5 : (Nat → Nat → Int32)) (m6 : (Nat → Int32)) (m7 : (Nat → Int32)) (m8 : (List Int32)), ((FrS S m4 m5 m6 m7 m8 ∧ x0 = m4 50 ∧ 1 ≤ cc1 ∧ 6 ≤ cc2) ∧ ((∀ (E9 : String) (S9 : HS), ext S S9 → (grpF (m5 0) p0 = 0 ∧ E9 = "java/lang/IndexOutOfBoundsException" ∧ S9 = S) → X E9 S9) ∧ (∀ (S10 : HS), ext S S10 → (grpF (m5 0) p0 = 1 ∧ S10 = S) → ((¬ (zin p1 0 9) = 0 → (∃ cc23 cc24 : Nat, (cc23 ≤ (mc - cc1) ∧ cc24 ≤ (ms - cc2)) ∧ (∃ (m26 : (Nat → Nat)) (m27 : (Nat → Nat → Int32)) (m28 : (Nat → Int32)) (m29 : (Nat → Int32)) (m30 : (List Int32)), ((FrS S10 m26 m27 m28 m29 m30 ∧ x0 = m26 50 ∧ gok (m27 0) p0 ∧ 1 ≤ cc23 ∧ 6 ≤ cc24) ∧ ((∀ (E9 : String) (S9 : HS), ext S10 S9 → (¬ (rsnD (m27 0) (iv p0)).1 = 0 ∧ E9 = "java/lang/IllegalStateException" ∧ FrS S9 m26 m27 m28 m29 m30) → X E9 S9) ∧ (∀ (S32 : HS), ext S10 S32 → ((rsnD (m27 0) (iv p0)).1 = 0 ∧ wkP S32 (m26 54) (m27 0) (iv p0) ∧ FrS S32 m26 m27 m28 m29 m30) → ((p1 = 0 → (∃ b42 : Nat, hR S32 232 x0 = some b42 ∧ (hK S32 b42 = 3 → (P (hI S32 71 b42) S32)))) ∧ (¬ p1 = 0 → ((p1 = 1 → (∃ b46 : Nat, hR S32 232 x0 = some b46 ∧ (hK S32 b46 = 3 → (P (hI S32 74 b46) S32)))) ∧ (¬ p1 = 1 → ((p1 = 2 → (∃ b50 : Nat, hR S32 232 x0 = some b50 ∧ (hK S32 b50 = 3 → (P (hI S32 76 b50) S32)))) ∧ (¬ p1 = 2 → ((p1 = 3 → (∃ b54 : Nat, hR S32 232 x0 = some b54 ∧ (hK S32 b54 = 3 → (P (hI S32 77 b54) S32)))) ∧ (¬ p1 = 3 → ((p1 = 4 → (∃ b58 : Nat, hR S32 232 x0 = some b58 ∧ (hK S32 b58 = 3 → (P (hI S32 67 b58) S32)))) ∧ (¬ p1 = 4 → ((p1 = 5 → (∃ b62 : Nat, hR S32 232 x0 = some b62 ∧ (hK S32 b62 = 3 → (P (hI S32 72 b62) S32)))) ∧ (¬ p1 = 5 → ((p1 = 6 → (∃ b66 : Nat, hR S32 232 x0 = some b66 ∧ (hK S32 b66 = 3 → (P (hI S32 73 b66) S32)))) ∧ (¬ p1 = 6 → ((p1 = 7 → (∃ b70 : Nat, hR S32 232 x0 = some b70 ∧ (hK S32 b70 = 3 → (P (hI S32 75 b70) S32)))) ∧ (¬ p1 = 7 → ((p1 = 8 → (∃ b74 : Nat, hR S32 232 x0 = some b74 ∧ (hK S32 b74 = 3 → (P (hI S32 66 b74) S32)))) ∧ (¬ p1 = 8 → (∃ b77 : Nat, hR S32 232 x0 = some b77 ∧ (hK S32 b77 = 3 → (P (hI S32 65 b77) S32))))))))))))))))))))))))))) ∧ ((zin p1 0 9) = 0 → ((1 ≤ (mc - cc1) ∧ 6 ≤ (ms - cc2)) ∧ X "java/lang/IllegalArgumentException" S10)))))))
set_option maxRecDepth 100000 in
set_option maxHeartbeats 4000000 in
theorem t_X10_rating {p : Program} {l : Launch} {e : Env} {s : State} {m : MethodId} {args : Array Value} {below : List Frame} {meth : Method} {c : Code} {D : va_G} {A : Nat → Prop} {T : Nat → ClassId} (C : GC p s m args meth c cX10_rating "FreightRater" (ws_X10_rating) 3 D A (zty T)) (E : GE T A s) (hst : l.stackTraces = false) (htab : ∀ z ∈ c.exceptionTable.toList, False) (hr : meth.sig.returnType = (some .int)) (P : Int32 → HS → Prop) (X : String → HS → Prop) : ∀ (x0 : Nat) (p0 : Int32) (p1 : Int32) (S0 S : HS) (mc ms : Nat) (L : List Nat), S0 = S → wt S → hL S L → (hK S x0 = 11) → wp_X10_rating P X x0 p0 p1 S mc ms → GW p l e { rm_X10_rating with cells := mc, slots := ms } s m args below meth c D A 3 mc ms (vx_MQ below (va_Qi (fun v (u : HS × List Nat) => P v u.1 ∧ CO S0 u) (CE D T A) A) (CXX D T A S0 X) args s mc ms A) (CW T S L) mc ms 0 [(0, .ref x0), (1, .int p0), (2, .int p1)] [] := by
  have hW : ∀ {w : Cond}, w ∈ W0 → w.before args s = true := fun h => C.2.2.2.2.1 _ (List.mem_cons_of_mem _ h)
  intro x0 p0 p1 S0 S mc ms L hS0 hw hL hx0 h
  have he : ext S0 S := by rw [hS0]; exact ext_rf
  unfold wp_X10_rating at h
  refine g_aload_n C dX10_rating_0 rfl 0 rfl ?_
  refine g_iload_n C dX10_rating_1 rfl 1 rfl ?_
  obtain ⟨cc1, cc2, g3, h⟩ := h
  obtain ⟨m4, m5, m6, m7, m8, h⟩ := h
  obtain ⟨g9, h⟩ := h
  obtain ⟨g15, h⟩ := h
  refine gx_callvV (host := "") C E hw hL hx0 (by decide) (by decide) rfl [.int p0] rfl (k_X10_requireGroup l hst D T x0 p0 S m4 m5 m6 m7 m8 cc1 cc2 hx0 g9) (w0_V 1 C.2.2.2.2.1 kw_1191 kw_1193 ks_26 kw_1 kw_1194 rfl rfl (by decide +kernel) ⟨Nat.le_of_ble_eq_true rfl, Nat.le_of_ble_eq_true rfl⟩) rfl (Nat.le_of_ble_eq_true rfl) (Nat.le_refl _) (Nat.le_refl _) g3.1 g3.2 dX10_rating_2 he htab g15 (fun S10 L11 e12 w13 w14 hp => ?_)
  replace h := h S10 e12 hp
  have g16 := ext_K e12 hx0 (by decide)
  have w17 := ext_tr he e12
  refine g_iload_n C dX10_rating_5 rfl 2 rfl ?_
  refine g_iconst (v := 0) C dX10_rating_6 (by decide) ?_
  refine g_bipush (v := 9) C dX10_rating_7 (by decide) ?_
  refine gc_calliS (host := "") C E w13 w14 [.int p1, .int 0, .int 9] rfl (k_X10_isBetween l D T p1 0 9 S10 ) (w0_S 3 C.2.2.2.2.1 kw_303 kw_304 kw_1 kw_305 rfl rfl (by decide +kernel) ⟨Nat.le_of_ble_eq_true rfl, Nat.le_of_ble_eq_true rfl⟩) rfl (Nat.le_of_ble_eq_true rfl) (Nat.le_refl _) (Nat.le_refl _) (Nat.zero_le _) (Nat.zero_le _) dX10_rating_9 (fun v9 S9 L18 he9 hw9 hL9 hp => ?_)
  obtain ⟨hv9, hs9⟩ := hp
  replace hs9 := hs9.symm
  subst hs9
  replace hv9 := hv9.symm
  subst hv9
  have w21 := hL9
  refine g_if_ne (tgt := 23) C dX10_rating_12 (by decide) (fun z22 => ?_) (fun z22 => ?_)
  · replace h := h.1 z22
    refine g_aload_n C dX10_rating_23 rfl 0 rfl ?_
    refine g_iload_n C dX10_rating_24 rfl 1 rfl ?_
    obtain ⟨cc23, cc24, g25, h⟩ := h
    obtain ⟨m26, m27, m28, m29, m30, h⟩ := h
    obtain ⟨g31, h⟩ := h
    obtain ⟨g37, h⟩ := h
    refine gx_callvV (host := "") C E w13 w21 g16 (by decide) (by decide) rfl [.int p0] rfl (k_X10_requireRated l hst D T x0 p0 S10 m26 m27 m28 m29 m30 cc23 cc24 g16 g31) (w0_V 1 C.2.2.2.2.1 kw_1298 kw_1300 ks_39 kw_1 kw_1301 rfl rfl (by decide +kernel) ⟨Nat.le_of_ble_eq_true rfl, Nat.le_of_ble_eq_true rfl⟩) rfl (Nat.le_of_ble_eq_true rfl) (Nat.le_refl _) (Nat.le_refl _) g25.1 g25.2 dX10_rating_25 w17 htab g37 (fun S32 L33 e34 w35 w36 hp => ?_)
    replace h := h S32 e34 hp
    have g38 := ext_K e34 g16 (by decide)
    have w39 := ext_tr w17 e34
    refine g_iload_n C dX10_rating_28 rfl 2 rfl ?_
    rcases Decidable.em (p1 = 0) with z40 | z40
    · refine g_tableIn (off := 51) (tgt := 80) C dX10_rating_29 (by rw [z40]; decide) (by rw [z40]; decide) (by rw [z40]; decide) (by decide) ?_
      replace h := h.1 z40
      refine g_aload_n C dX10_rating_80 rfl 0 rfl ?_
      refine gc_getR C w35 iwx_X10 w36 g38 (by decide) (by decide) rfl 12 (by decide) (hW kw_254) rfl rfl rfl dX10_rating_81 (fun o41 eo41 ko41 => ?_)
      obtain ⟨b42, hb9, h⟩ := h
      have g43 : hK S32 b42 = 3 := ko41 b42 (eo41.trans hb9)
      replace h := h g43
      refine g_opt (eo41.trans hb9) ?_
      refine gc_getI C iwx_X2 w36 g43 (by decide) (by decide) rfl 11 (by decide) (hW kw_157) rfl rfl rfl dX10_rating_84 ?_
      exact gx_iret C w35 w36 w39 hr dX10_rating_87 h
    replace h := h.2 z40
    rcases Decidable.em (p1 = 1) with z44 | z44
    · refine g_tableIn (off := 59) (tgt := 88) C dX10_rating_29 (by rw [z44]; decide) (by rw [z44]; decide) (by rw [z44]; decide) (by decide) ?_
      replace h := h.1 z44
      refine g_aload_n C dX10_rating_88 rfl 0 rfl ?_
      refine gc_getR C w35 iwx_X10 w36 g38 (by decide) (by decide) rfl 12 (by decide) (hW kw_254) rfl rfl rfl dX10_rating_89 (fun o45 eo45 ko45 => ?_)
      obtain ⟨b46, hb9, h⟩ := h
      have g47 : hK S32 b46 = 3 := ko45 b46 (eo45.trans hb9)
      replace h := h g47
      refine g_opt (eo45.trans hb9) ?_
      refine gc_getI C iwx_X2 w36 g47 (by decide) (by decide) rfl 14 (by decide) (hW kw_163) rfl rfl rfl dX10_rating_92 ?_
      exact gx_iret C w35 w36 w39 hr dX10_rating_95 h
    replace h := h.2 z44
    rcases Decidable.em (p1 = 2) with z48 | z48
    · refine g_tableIn (off := 67) (tgt := 96) C dX10_rating_29 (by rw [z48]; decide) (by rw [z48]; decide) (by rw [z48]; decide) (by decide) ?_
      replace h := h.1 z48
      refine g_aload_n C dX10_rating_96 rfl 0 rfl ?_
      refine gc_getR C w35 iwx_X10 w36 g38 (by decide) (by decide) rfl 12 (by decide) (hW kw_254) rfl rfl rfl dX10_rating_97 (fun o49 eo49 ko49 => ?_)
      obtain ⟨b50, hb9, h⟩ := h
      have g51 : hK S32 b50 = 3 := ko49 b50 (eo49.trans hb9)
      replace h := h g51
      refine g_opt (eo49.trans hb9) ?_
      refine gc_getI C iwx_X2 w36 g51 (by decide) (by decide) rfl 16 (by decide) (hW kw_167) rfl rfl rfl dX10_rating_100 ?_
      exact gx_iret C w35 w36 w39 hr dX10_rating_103 h
    replace h := h.2 z48
    rcases Decidable.em (p1 = 3) with z52 | z52
    · refine g_tableIn (off := 75) (tgt := 104) C dX10_rating_29 (by rw [z52]; decide) (by rw [z52]; decide) (by rw [z52]; decide) (by decide) ?_
      replace h := h.1 z52
      refine g_aload_n C dX10_rating_104 rfl 0 rfl ?_
      refine gc_getR C w35 iwx_X10 w36 g38 (by decide) (by decide) rfl 12 (by decide) (hW kw_254) rfl rfl rfl dX10_rating_105 (fun o53 eo53 ko53 => ?_)
      obtain ⟨b54, hb9, h⟩ := h
      have g55 : hK S32 b54 = 3 := ko53 b54 (eo53.trans hb9)
      replace h := h g55
      refine g_opt (eo53.trans hb9) ?_
      refine gc_getI C iwx_X2 w36 g55 (by decide) (by decide) rfl 17 (by decide) (hW kw_169) rfl rfl rfl dX10_rating_108 ?_
      exact gx_iret C w35 w36 w39 hr dX10_rating_111 h
    replace h := h.2 z52
    rcases Decidable.em (p1 = 4) with z56 | z56
    · refine g_tableIn (off := 83) (tgt := 112) C dX10_rating_29 (by rw [z56]; decide) (by rw [z56]; decide) (by rw [z56]; decide) (by decide) ?_
      replace h := h.1 z56
      refine g_aload_n C dX10_rating_112 rfl 0 rfl ?_
      refine gc_getR C w35 iwx_X10 w36 g38 (by decide) (by decide) rfl 12 (by decide) (hW kw_254) rfl rfl rfl dX10_rating_113 (fun o57 eo57 ko57 => ?_)
      obtain ⟨b58, hb9, h⟩ := h
      have g59 : hK S32 b58 = 3 := ko57 b58 (eo57.trans hb9)
      replace h := h g59
      refine g_opt (eo57.trans hb9) ?_
      refine gc_getI C iwx_X2 w36 g59 (by decide) (by decide) rfl 7 (by decide) (hW kw_149) rfl rfl rfl dX10_rating_116 ?_
      exact gx_iret C w35 w36 w39 hr dX10_rating_119 h
    replace h := h.2 z56
    rcases Decidable.em (p1 = 5) with z60 | z60
    · refine g_tableIn (off := 91) (tgt := 120) C dX10_rating_29 (by rw [z60]; decide) (by rw [z60]; decide) (by rw [z60]; decide) (by decide) ?_
      replace h := h.1 z60
      refine g_aload_n C dX10_rating_120 rfl 0 rfl ?_
      refine gc_getR C w35 iwx_X10 w36 g38 (by decide) (by decide) rfl 12 (by decide) (hW kw_254) rfl rfl rfl dX10_rating_121 (fun o61 eo61 ko61 => ?_)
      obtain ⟨b62, hb9, h⟩ := h
      have g63 : hK S32 b62 = 3 := ko61 b62 (eo61.trans hb9)
      replace h := h g63
      refine g_opt (eo61.trans hb9) ?_
      refine gc_getI C iwx_X2 w36 g63 (by decide) (by decide) rfl 12 (by decide) (hW kw_159) rfl rfl rfl dX10_rating_124 ?_
      exact gx_iret C w35 w36 w39 hr dX10_rating_127 h
    replace h := h.2 z60
    rcases Decidable.em (p1 = 6) with z64 | z64
    · refine g_tableIn (off := 99) (tgt := 128) C dX10_rating_29 (by rw [z64]; decide) (by rw [z64]; decide) (by rw [z64]; decide) (by decide) ?_
      replace h := h.1 z64
      refine g_aload_n C dX10_rating_128 rfl 0 rfl ?_
      refine gc_getR C w35 iwx_X10 w36 g38 (by decide) (by decide) rfl 12 (by decide) (hW kw_254) rfl rfl rfl dX10_rating_129 (fun o65 eo65 ko65 => ?_)
      obtain ⟨b66, hb9, h⟩ := h
      have g67 : hK S32 b66 = 3 := ko65 b66 (eo65.trans hb9)
      replace h := h g67
      refine g_opt (eo65.trans hb9) ?_
      refine gc_getI C iwx_X2 w36 g67 (by decide) (by decide) rfl 13 (by decide) (hW kw_161) rfl rfl rfl dX10_rating_132 ?_
      exact gx_iret C w35 w36 w39 hr dX10_rating_135 h
    replace h := h.2 z64
    rcases Decidable.em (p1 = 7) with z68 | z68
    · refine g_tableIn (off := 107) (tgt := 136) C dX10_rating_29 (by rw [z68]; decide) (by rw [z68]; decide) (by rw [z68]; decide) (by decide) ?_
      replace h := h.1 z68
      refine g_aload_n C dX10_rating_136 rfl 0 rfl ?_
      refine gc_getR C w35 iwx_X10 w36 g38 (by decide) (by decide) rfl 12 (by decide) (hW kw_254) rfl rfl rfl dX10_rating_137 (fun o69 eo69 ko69 => ?_)
      obtain ⟨b70, hb9, h⟩ := h
      have g71 : hK S32 b70 = 3 := ko69 b70 (eo69.trans hb9)
      replace h := h g71
      refine g_opt (eo69.trans hb9) ?_
      refine gc_getI C iwx_X2 w36 g71 (by decide) (by decide) rfl 15 (by decide) (hW kw_165) rfl rfl rfl dX10_rating_140 ?_
      exact gx_iret C w35 w36 w39 hr dX10_rating_143 h
    replace h := h.2 z68
    rcases Decidable.em (p1 = 8) with z72 | z72
    · refine g_tableIn (off := 115) (tgt := 144) C dX10_rating_29 (by rw [z72]; decide) (by rw [z72]; decide) (by rw [z72]; decide) (by decide) ?_
      replace h := h.1 z72
      refine g_aload_n C dX10_rating_144 rfl 0 rfl ?_
      refine gc_getR C w35 iwx_X10 w36 g38 (by decide) (by decide) rfl 12 (by decide) (hW kw_254) rfl rfl rfl dX10_rating_145 (fun o73 eo73 ko73 => ?_)
      obtain ⟨b74, hb9, h⟩ := h
      have g75 : hK S32 b74 = 3 := ko73 b74 (eo73.trans hb9)
      replace h := h g75
      refine g_opt (eo73.trans hb9) ?_
      refine gc_getI C iwx_X2 w36 g75 (by decide) (by decide) rfl 6 (by decide) (hW kw_146) rfl rfl rfl dX10_rating_148 ?_
      exact gx_iret C w35 w36 w39 hr dX10_rating_151 h
    replace h := h.2 z72
    refine g_tableD (tgt := 152) C dX10_rating_29 (by decide) (fun j hj => ?_) (by decide) ?_
    · rcases (show j = 0 ∨ j = 1 ∨ j = 2 ∨ j = 3 ∨ j = 4 ∨ j = 5 ∨ j = 6 ∨ j = 7 ∨ j = 8 by have hj2 : j < 9 := hj; omega) with rfl | rfl | rfl | rfl | rfl | rfl | rfl | rfl | rfl <;> first | exact Or.inr rfl | exact Or.inl (by first | exact lv_neT z40 rfl | exact lv_neT z44 rfl | exact lv_neT z48 rfl | exact lv_neT z52 rfl | exact lv_neT z56 rfl | exact lv_neT z60 rfl | exact lv_neT z64 rfl | exact lv_neT z68 rfl | exact lv_neT z72 rfl)
    refine g_aload_n C dX10_rating_152 rfl 0 rfl ?_
    refine gc_getR C w35 iwx_X10 w36 g38 (by decide) (by decide) rfl 12 (by decide) (hW kw_254) rfl rfl rfl dX10_rating_153 (fun o76 eo76 ko76 => ?_)
    obtain ⟨b77, hb9, h⟩ := h
    have g78 : hK S32 b77 = 3 := ko76 b77 (eo76.trans hb9)
    replace h := h g78
    refine g_opt (eo76.trans hb9) ?_
    refine gc_getI C iwx_X2 w36 g78 (by decide) (by decide) rfl 5 (by decide) (hW kw_143) rfl rfl rfl dX10_rating_156 ?_
    exact gx_iret C w35 w36 w39 hr dX10_rating_159 h
  · replace h := h.2 z22
    obtain ⟨g79, h⟩ := h
    exact gx_throw (cls := "java/lang/IllegalArgumentException") (names := ["java/lang/RuntimeException", "java/lang/Exception"]) C E hst w13 w21 w17 (Nat.le_refl _) (Nat.le_refl _) (by decide) (by decide) (hW kw_310) (hW kw_13) (th_FreightRater_62 hW E) tv_FreightRater_62 dX10_rating_15 dX10_rating_18 dX10_rating_19 dX10_rating_22 htab (Nat.le_of_ble_eq_true rfl) (Nat.le_of_ble_eq_true rfl) g79.1 g79.2 h
theorem c_X10_rating (l : Launch) (hst : l.stackTraces = false) (D : va_G) (T : Nat → ClassId) (x0 : Nat) (p0 : Int32) (p1 : Int32) (S : HS) (mc ms : Nat) (hx0 : hK S x0 = 11) (P : Int32 → HS → Prop) (X : String → HS → Prop) (h : wp_X10_rating P X x0 p0 p1 S mc ms) : CXi l yX10_rating (ws_X10_rating) rm_X10_rating D T [.ref x0, .int p0, .int p1] S mc ms P X := gx_meti (by decide) rfl rfl (Nat.le_of_ble_eq_true rfl) (fun p e s m args below meth c A L C E hnm hr htab hw hL => t_X10_rating C E hst htab hr P X x0 p0 p1 S S mc ms L rfl hw hL hx0 h)
theorem ra_0 {μ : Nat → Int32} {g : Nat} : raF μ g 0 = baseF μ (iv (gvF μ g)) (iv (gzF μ g)) (wtF μ (iv (gvF μ g)) g) := by
  unfold raF
  dsimp only
  rw [if_pos rfl]
theorem ra_1 {μ : Nat → Int32} {g : Nat} : raF μ g 1 = (exAC μ (iv (gvF μ g)) (iv (gzF μ g)) (wtF μ (iv (gvF μ g)) g) (pcF μ (iv (gvF μ g)) g) (lgF μ (iv (gvF μ g)) g) (hdF μ (iv (gvF μ g)) g)).1 := by
  unfold raF
  dsimp only
  rw [if_neg (show ¬ (1 : Int32) = 0 by decide), if_pos rfl]
theorem ra_2 {μ : Nat → Int32} {g : Nat} : raF μ g 2 = stF μ (iv (gvF μ g)) g := by
  unfold raF
  dsimp only
  rw [if_neg (show ¬ (2 : Int32) = 0 by decide), if_neg (show ¬ (2 : Int32) = 1 by decide), if_pos rfl]
theorem ra_3 {μ : Nat → Int32} {g : Nat} : raF μ g 3 = fuF μ (iv (gvF μ g)) (iv (gzF μ g)) g (wtF μ (iv (gvF μ g)) g) (pcF μ (iv (gvF μ g)) g) (lgF μ (iv (gvF μ g)) g) (hdF μ (iv (gvF μ g)) g) := by
  unfold raF
  dsimp only
  rw [if_neg (show ¬ (3 : Int32) = 0 by decide), if_neg (show ¬ (3 : Int32) = 1 by decide), if_neg (show ¬ (3 : Int32) = 2 by decide), if_pos rfl]
theorem ra_4 {μ : Nat → Int32} {g : Nat} : raF μ g 4 = wtF μ (iv (gvF μ g)) g := by
  unfold raF
  dsimp only
  rw [if_neg (show ¬ (4 : Int32) = 0 by decide), if_neg (show ¬ (4 : Int32) = 1 by decide), if_neg (show ¬ (4 : Int32) = 2 by decide), if_neg (show ¬ (4 : Int32) = 3 by decide), if_pos rfl]
theorem ra_5 {μ : Nat → Int32} {g : Nat} : raF μ g 5 = mxF (wtF μ (iv (gvF μ g)) g) (μ (274 + 510 * iv (gvF μ g) + 47 + 10 * (iv (gzF μ g) - 1) + 2 * chpF μ (iv (gvF μ g)) (iv (gzF μ g)) (wtF μ (iv (gvF μ g)) g))) := by
  unfold raF
  dsimp only
  rw [if_neg (show ¬ (5 : Int32) = 0 by decide), if_neg (show ¬ (5 : Int32) = 1 by decide), if_neg (show ¬ (5 : Int32) = 2 by decide), if_neg (show ¬ (5 : Int32) = 3 by decide), if_neg (show ¬ (5 : Int32) = 4 by decide), if_pos rfl]
theorem ra_6 {μ : Nat → Int32} {g : Nat} : raF μ g 6 = μ (274 + 510 * iv (gvF μ g) + 47 + 10 * (iv (gzF μ g) - 1) + 2 * chpF μ (iv (gvF μ g)) (iv (gzF μ g)) (wtF μ (iv (gvF μ g)) g)) := by
  unfold raF
  dsimp only
  rw [if_neg (show ¬ (6 : Int32) = 0 by decide), if_neg (show ¬ (6 : Int32) = 1 by decide), if_neg (show ¬ (6 : Int32) = 2 by decide), if_neg (show ¬ (6 : Int32) = 3 by decide), if_neg (show ¬ (6 : Int32) = 4 by decide), if_neg (show ¬ (6 : Int32) = 5 by decide), if_pos rfl]
theorem ra_7 {μ : Nat → Int32} {g : Nat} : raF μ g 7 = (exAC μ (iv (gvF μ g)) (iv (gzF μ g)) (wtF μ (iv (gvF μ g)) g) (pcF μ (iv (gvF μ g)) g) (lgF μ (iv (gvF μ g)) g) (hdF μ (iv (gvF μ g)) g)).2 := by
  unfold raF
  dsimp only
  rw [if_neg (show ¬ (7 : Int32) = 0 by decide), if_neg (show ¬ (7 : Int32) = 1 by decide), if_neg (show ¬ (7 : Int32) = 2 by decide), if_neg (show ¬ (7 : Int32) = 3 by decide), if_neg (show ¬ (7 : Int32) = 4 by decide), if_neg (show ¬ (7 : Int32) = 5 by decide), if_neg (show ¬ (7 : Int32) = 6 by decide), if_pos rfl]
theorem ra_8 {μ : Nat → Int32} {g : Nat} : raF μ g 8 = gzF μ g := by
  unfold raF
  dsimp only
  rw [if_neg (show ¬ (8 : Int32) = 0 by decide), if_neg (show ¬ (8 : Int32) = 1 by decide), if_neg (show ¬ (8 : Int32) = 2 by decide), if_neg (show ¬ (8 : Int32) = 3 by decide), if_neg (show ¬ (8 : Int32) = 4 by decide), if_neg (show ¬ (8 : Int32) = 5 by decide), if_neg (show ¬ (8 : Int32) = 6 by decide), if_neg (show ¬ (8 : Int32) = 7 by decide), if_pos rfl]
theorem k_X10_rating (l : Launch) (hst : l.stackTraces = false) (D : va_G) (T : Nat → ClassId) (x0 : Nat) (p0 : Int32) (p1 : Int32) (S : HS) (e0 : (Nat → Nat)) (e1 : (Nat → Nat → Int32)) (e2 : (Nat → Int32)) (e3 : (Nat → Int32)) (e4 : (List Int32)) (mc ms : Nat) (hx0 : hK S x0 = 11) (h : FrS S e0 e1 e2 e3 e4 ∧ x0 = e0 50 ∧ 200 ≤ mc ∧ 2000 ≤ ms) : CXi l yX10_rating (ws_X10_rating) rm_X10_rating D T [.ref x0, .int p0, .int p1] S mc ms (fun v S1 => (ratC (e1 0) p0 p1 = 0 ∧ v = raF (e1 0) (iv p0) p1 ∧ FrS S1 e0 e1 e2 e3 e4)) (fun E9 S1 => ((ratC (e1 0) p0 p1 = 1 ∧ E9 = "java/lang/IndexOutOfBoundsException") ∨ (ratC (e1 0) p0 p1 = 2 ∧ E9 = "java/lang/IllegalArgumentException") ∨ (ratC (e1 0) p0 p1 = 3 ∧ E9 = "java/lang/IllegalStateException")) ∧ FrS S1 e0 e1 e2 e3 e4) := c_X10_rating l hst D T x0 p0 p1 S mc ms hx0 _ _ <|
  (by
    obtain ⟨h, e, hmc, hms⟩ := h
    unfold wp_X10_rating
    refine ⟨1, 6, ⟨by omega, by omega⟩, e0, e1, e2, e3, e4, ⟨h, e, Nat.le_refl _, Nat.le_refl _⟩, fun E9 S9 _ h9 => ?_, fun S10 _ h10 => ?_⟩
    · obtain ⟨c, eE, eS⟩ := h9
      subst eS
      exact ⟨Or.inl ⟨by unfold ratC; rw [if_pos c], eE⟩, h⟩
    obtain ⟨c, eS⟩ := h10
    subst eS e
    have c0 : ¬ grpF (e1 0) p0 = 0 := by rw [c]; decide
    have hg := grp_gok h.now.1 c0
    refine ⟨fun c1 => ⟨1, 6, ⟨by omega, by omega⟩, e0, e1, e2, e3, e4, ⟨h, rfl, hg, Nat.le_refl _, Nat.le_refl _⟩, fun E9 S9 _ h9 => ?_, fun S26 _ h26 => ?_⟩, fun c1 => ⟨⟨by omega, by omega⟩, Or.inr (Or.inl ⟨by unfold ratC; rw [if_neg c0, if_pos c1], rfl⟩), h⟩⟩
    · obtain ⟨c2, eE, h9⟩ := h9
      exact ⟨Or.inr (Or.inr ⟨by unfold ratC; rw [if_neg c0, if_neg c1, if_neg c2], eE⟩), h9⟩
    obtain ⟨z26, w26, h26⟩ := h26
    obtain ⟨w65, w66, w67, w71, w73, w72, w74, w75, w76, w77⟩ := w26.2.2 z26
    have ok : ratC (e1 0) p0 p1 = 0 := by unfold ratC; rw [if_neg c0, if_neg c1, if_pos z26]
    refine ⟨fun c => ⟨e0 54, h26.r12, fun _ => ⟨ok, ?_, h26⟩⟩, fun d0 => ⟨fun c => ⟨e0 54, h26.r12, fun _ => ⟨ok, ?_, h26⟩⟩, fun d1 => ⟨fun c => ⟨e0 54, h26.r12, fun _ => ⟨ok, ?_, h26⟩⟩, fun d2 => ⟨fun c => ⟨e0 54, h26.r12, fun _ => ⟨ok, ?_, h26⟩⟩, fun d3 => ⟨fun c => ⟨e0 54, h26.r12, fun _ => ⟨ok, ?_, h26⟩⟩, fun d4 => ⟨fun c => ⟨e0 54, h26.r12, fun _ => ⟨ok, ?_, h26⟩⟩, fun d5 => ⟨fun c => ⟨e0 54, h26.r12, fun _ => ⟨ok, ?_, h26⟩⟩, fun d6 => ⟨fun c => ⟨e0 54, h26.r12, fun _ => ⟨ok, ?_, h26⟩⟩, fun d7 => ⟨fun c => ⟨e0 54, h26.r12, fun _ => ⟨ok, ?_, h26⟩⟩, fun d8 => ⟨e0 54, h26.r12, fun _ => ⟨ok, ?_, h26⟩⟩⟩⟩⟩⟩⟩⟩⟩⟩⟩
    · subst c; exact w71.trans ra_0.symm
    · subst c; exact w74.trans ra_1.symm
    · subst c; exact w76.trans ra_2.symm
    · subst c; exact w77.trans ra_3.symm
    · subst c; exact w67.trans ra_4.symm
    · subst c; exact w72.trans ra_5.symm
    · subst c; exact w73.trans ra_6.symm
    · subst c; exact w75.trans ra_7.symm
    · subst c; exact w66.trans ra_8.symm
    · unfold raF
      dsimp only
      rw [if_neg d0, if_neg d1, if_neg d2, if_neg d3, if_neg d4, if_neg d5, if_neg d6, if_neg d7, if_neg d8]
      exact w65)

end S_C9D
