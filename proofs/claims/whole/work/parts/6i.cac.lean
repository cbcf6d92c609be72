section S_CAC
abbrev ws_X10_consolidate : List Cond := Cond.code yX10_consolidate cX10_consolidate 2 (some .int) :: W0
abbrev rm_X10_consolidate : Room := ({ frames := 17, cells := 0, slots := 0, locals := 517 } : Room)
def wp_X10_consolidate (P : Int32 → HS → Prop) (X : String → HS → Prop) (x0 : Nat) (p0 : Int32) (S : HS) (mc ms : Nat) : Prop := ∃ cc1 cc2 : Nat, (cc1 ≤ mc ∧ cc2 ≤ ms) ∧ (∃ (m4 : (Nat → Nat)) (m5 : (Nat → Nat → Int32)) (m6 : (Nat → Int32)) (m7 : (Nat → Int32)) (m8 : (List Int32)), ((FrS S m4 m5 m6 m7 m8 ∧ x0 = m4 50 ∧ 2 ≤ cc1 ∧ 12 ≤ cc2) ∧ ((∀ (E9 : String) (S9 : HS), ext S S9 → (((lckF (m5 0) p0 8 = 1 ∧ E9 = "java/lang/IndexOutOfBoundsException") ∨ (lckF (m5 0) p0 8 = 2 ∧ E9 = "java/lang/IllegalArgumentException")) ∧ S9 = S) → X E9 S9) ∧ (∀ (S10 : HS), ext S S10 → (lckF (m5 0) p0 8 = 0 ∧ S10 = S) → (∃ cc18 cc19 : Nat, (cc18 ≤ (mc - cc1) ∧ cc19 ≤ (ms - cc2)) ∧ (∃ (m21 : (Nat → Nat)) (m22 : (Nat → Nat → Int32)) (m23 : (Nat → Int32)) (m24 : (Nat → Int32)) (m25 : (List Int32)), ((FrS S10 m21 m22 m23 m24 m25 ∧ x0 = m21 50 ∧ gok (m22 0) p0 ∧ 1 ≤ cc18 ∧ 6 ≤ cc19) ∧ ((∀ (E9 : String) (S9 : HS), ext S10 S9 → (E9 = "java/lang/IllegalStateException" ∧ ∃ t, rfF (m22 0) (iv p0) = some t ∧ FrS S9 m21 m22 (if (1 : Int32) = 0 then m23 else kpG m23 (nI (rsnD (m22 0) (2 ^ t)).1) (rsnD (m22 0) (2 ^ t)).2) m24 m25) → X E9 S9) ∧ (∀ (S27 : HS), ext S10 S27 → (rfF (m22 0) (iv p0) = none ∧ FrS S27 m21 m22 m23 m24 m25) → (∃ b36 : Nat, hR S27 233 x0 = some b36 ∧ (hK S27 b36 = 2 → (∃ b39 : Nat, hR S27 220 x0 = some b39 ∧ (hK S27 b39 = 7 → (∃ b42 : Nat, hR S27 232 x0 = some b42 ∧ (hK S27 b42 = 3 → (∃ (m44 : (Nat → Prop)) (m45 : Nat → Int32) (m46 : Nat → Nat) (m47 : Nat), ((prC S27 m44 b39 m45 b42 b36 m46 ∧ m47 < 2 ^ iv (m45 1) ∧ p0 = nI m47 ∧ (memL m47 10 0).length ≤ 8 ∧ hA S27 (m46 0) 0 = 0) ∧ (∀ (S49 : HS), ext S27 S49 → (frQ S27 S49 b36 b42 m46 ∧ hI S49 40 b36 = nI (memL m47 10 0).length ∧ hI S49 47 b36 = hI S27 47 b36 ∧ (∀ p, p < 2 ^ (memL m47 10 0).length → hA S49 (m46 0) p = nI (spr (memL m47 10 0) (memL m47 10 0).length p)) ∧ ∀ p, 0 < p → p < 2 ^ (memL m47 10 0).length → hA S49 (m46 1) p = ttF m45 (spr (memL m47 10 0) (memL m47 10 0).length p)) → (∃ b57 : Nat, hR S49 233 x0 = some b57 ∧ (hK S49 b57 = 2 → (∃ (m59 : Nat → Nat) (m60 : Nat) (m61 : List Nat), ((PlO S49 b57 m59 ∧ hI S49 40 b57 = nI m60 ∧ m60 ≤ 8 ∧ m61.length ≤ 8 ∧ (fbK (hA S49 (m59 1)) (2 ^ m60 - 1) 1 (roW S49 m59)).2.1 (2 ^ m60 - 1) = nI m61.length ∧ chn (fbK (hA S49 (m59 1)) (2 ^ m60 - 1) 1 (roW S49 m59)).2.2 (2 ^ m60 - 1) m61) ∧ (∀ (S63 : HS), ext S49 S63 → (frP S49 S63 b57 m59 [47] [2, 3, 4, 5] ∧ PlP S63 b57 m59 m61 ∧ hA S63 (m59 2) 0 = hA S49 (m59 2) 0 ∧ hA S63 (m59 3) 0 = hA S49 (m59 3) 0) → (∃ b71 : Nat, hR S63 233 x0 = some b71 ∧ (hK S63 b71 = 2 → (∃ (m73 : Nat → Nat) (m74 : List Nat), ((PlO S63 b71 m73 ∧ PlP S63 b71 m73 m74) ∧ (P (suL (hA S63 (m73 1)) m74 0) S63))))))))))))))))))))))))))))
set_option maxRecDepth 100000 in
set_option maxHeartbeats 4000000 in
theorem t_X10_consolidate {p : Program} {l : Launch} {e : Env} {s : State} {m : MethodId} {args : Array Value} {below : List Frame} {meth : Method} {c : Code} {D : va_G} {A : Nat → Prop} {T : Nat → ClassId} (C : GC p s m args meth c cX10_consolidate "FreightRater" (ws_X10_consolidate) 2 D A (zty T)) (E : GE T A s) (hst : l.stackTraces = false) (htab : ∀ z ∈ c.exceptionTable.toList, False) (hr : meth.sig.returnType = (some .int)) (P : Int32 → HS → Prop) (X : String → HS → Prop) : ∀ (x0 : Nat) (p0 : Int32) (S0 S : HS) (mc ms : Nat) (L : List Nat), S0 = S → wt S → hL S L → (hK S x0 = 11) → wp_X10_consolidate P X x0 p0 S mc ms → GW p l e { rm_X10_consolidate with cells := mc, slots := ms } s m args below meth c D A 2 mc ms (vx_MQ below (va_Qi (fun v (u : HS × List Nat) => P v u.1 ∧ CO S0 u) (CE D T A) A) (CXX D T A S0 X) args s mc ms A) (CW T S L) mc ms 0 [(0, .ref x0), (1, .int p0)] [] := by
  have hW : ∀ {w : Cond}, w ∈ W0 → w.before args s = true := fun h => C.2.2.2.2.1 _ (List.mem_cons_of_mem _ h)
  intro x0 p0 S0 S mc ms L hS0 hw hL hx0 h
  have he : ext S0 S := by rw [hS0]; exact ext_rf
  unfold wp_X10_consolidate at h
  refine g_aload_n C dX10_consolidate_0 rfl 0 rfl ?_
  refine g_iload_n C dX10_consolidate_1 rfl 1 rfl ?_
  obtain ⟨cc1, cc2, g3, h⟩ := h
  obtain ⟨m4, m5, m6, m7, m8, h⟩ := h
  obtain ⟨g9, h⟩ := h
  obtain ⟨g15, h⟩ := h
  refine gx_callvV (host := "") C E hw hL hx0 (by decide) (by decide) rfl [.int p0] rfl (k_X10_requireSet l hst D T x0 p0 S m4 m5 m6 m7 m8 cc1 cc2 hx0 g9) (w0_V 1 C.2.2.2.2.1 kw_1330 kw_1332 ks_40 kw_1 kw_1333 rfl rfl (by decide +kernel) ⟨Nat.le_of_ble_eq_true rfl, Nat.le_of_ble_eq_true rfl⟩) rfl (Nat.le_of_ble_eq_true rfl) (Nat.le_refl _) (Nat.le_refl _) g3.1 g3.2 dX10_consolidate_2 he htab g15 (fun S10 L11 e12 w13 w14 hp => ?_)
  replace h := h S10 e12 hp
  have g16 := ext_K e12 hx0 (by decide)
  have w17 := ext_tr he e12
  refine g_aload_n C dX10_consolidate_5 rfl 0 rfl ?_
  refine g_iload_n C dX10_consolidate_6 rfl 1 rfl ?_
  refine g_iconst (v := 1) C dX10_consolidate_7 (by decide) ?_
  obtain ⟨cc18, cc19, g20, h⟩ := h
  obtain ⟨m21, m22, m23, m24, m25, h⟩ := h
  obtain ⟨g26, h⟩ := h
  obtain ⟨g32, h⟩ := h
  refine gx_callvV (host := "") C E w13 w14 g16 (by decide) (by decide) rfl [.int p0, .int 1] rfl (k_X10_requireSingles l hst D T x0 p0 1 S10 m21 m22 m23 m24 m25 cc18 cc19 g16 g26) (w0_V 2 C.2.2.2.2.1 kw_1340 kw_1342 ks_41 kw_1 kw_1343 rfl rfl (by decide +kernel) ⟨Nat.le_of_ble_eq_true rfl, Nat.le_of_ble_eq_true rfl⟩) rfl (Nat.le_of_ble_eq_true rfl) (Nat.le_refl _) (Nat.le_refl _) g20.1 g20.2 dX10_consolidate_8 w17 htab g32 (fun S27 L28 e29 w30 w31 hp => ?_)
  replace h := h S27 e29 hp
  have g33 := ext_K e29 g16 (by decide)
  have w34 := ext_tr w17 e29
  refine g_aload_n C dX10_consolidate_11 rfl 0 rfl ?_
  refine gc_getR C w30 iwx_X10 w31 g33 (by decide) (by decide) rfl 13 (by decide) (hW kw_255) rfl rfl rfl dX10_consolidate_12 (fun o35 eo35 ko35 => ?_)
  obtain ⟨b36, hb9, h⟩ := h
  have g37 : hK S27 b36 = 2 := ko35 b36 (eo35.trans hb9)
  replace h := h g37
  refine g_opt (eo35.trans hb9) ?_
  refine g_aload_n C dX10_consolidate_15 rfl 0 rfl ?_
  refine gc_getR C w30 iwx_X10 w31 g33 (by decide) (by decide) rfl 0 (by decide) (hW kw_242) rfl rfl rfl dX10_consolidate_16 (fun o38 eo38 ko38 => ?_)
  obtain ⟨b39, hb9, h⟩ := h
  have g40 : hK S27 b39 = 7 := ko38 b39 (eo38.trans hb9)
  replace h := h g40
  refine g_opt (eo38.trans hb9) ?_
  refine g_iload_n C dX10_consolidate_19 rfl 1 rfl ?_
  refine g_aload_n C dX10_consolidate_20 rfl 0 rfl ?_
  refine gc_getR C w30 iwx_X10 w31 g33 (by decide) (by decide) rfl 12 (by decide) (hW kw_254) rfl rfl rfl dX10_consolidate_21 (fun o41 eo41 ko41 => ?_)
  obtain ⟨b42, hb9, h⟩ := h
  have g43 : hK S27 b42 = 3 := ko41 b42 (eo41.trans hb9)
  replace h := h g43
  refine g_opt (eo41.trans hb9) ?_
  obtain ⟨m44, m45, m46, m47, h⟩ := h
  obtain ⟨g48, h⟩ := h
  refine gc_callvV (host := "") C E w30 w31 g37 (by decide) (by decide) rfl [.ref b39, .int p0, .ref b42] rfl (k_X1_prepare l D T b36 b39 p0 b42 S27 m44 m45 m46 m47 g37 g40 g43 g48) (w0_V 3 C.2.2.2.2.1 kw_1345 kw_1346 kw_1347 kw_8 kw_1348 rfl rfl (by decide +kernel) ⟨Nat.le_of_ble_eq_true rfl, Nat.le_of_ble_eq_true rfl⟩) rfl (Nat.le_of_ble_eq_true rfl) (Nat.le_refl _) (Nat.le_refl _) (Nat.zero_le _) (Nat.zero_le _) dX10_consolidate_24 (fun S49 L50 e51 w52 w53 hp => ?_)
  replace h := h S49 e51 hp
  have g54 := ext_K e51 g33 (by decide)
  have w55 := ext_tr w34 e51
  refine g_aload_n C dX10_consolidate_27 rfl 0 rfl ?_
  refine gc_getR C w52 iwx_X10 w53 g54 (by decide) (by decide) rfl 13 (by decide) (hW kw_255) rfl rfl rfl dX10_consolidate_28 (fun o56 eo56 ko56 => ?_)
  obtain ⟨b57, hb9, h⟩ := h
  have g58 : hK S49 b57 = 2 := ko56 b57 (eo56.trans hb9)
  replace h := h g58
  refine g_opt (eo56.trans hb9) ?_
  obtain ⟨m59, m60, m61, h⟩ := h
  obtain ⟨g62, h⟩ := h
  refine gc_callvV (host := "") C E w52 w53 g58 (by decide) (by decide) rfl [] rfl (k_X1_findBest l D T b57 S49 m59 m60 m61 g58 g62) (w0_V 0 C.2.2.2.2.1 kw_1356 kw_1357 kw_1358 kw_8 kw_1359 rfl rfl (by decide +kernel) ⟨Nat.le_of_ble_eq_true rfl, Nat.le_of_ble_eq_true rfl⟩) rfl (Nat.le_of_ble_eq_true rfl) (Nat.le_refl _) (Nat.le_refl _) (Nat.zero_le _) (Nat.zero_le _) dX10_consolidate_31 (fun S63 L64 e65 w66 w67 hp => ?_)
  replace h := h S63 e65 hp
  have g68 := ext_K e65 g54 (by decide)
  have w69 := ext_tr w55 e65
  refine g_aload_n C dX10_consolidate_34 rfl 0 rfl ?_
  refine gc_getR C w66 iwx_X10 w67 g68 (by decide) (by decide) rfl 13 (by decide) (hW kw_255) rfl rfl rfl dX10_consolidate_35 (fun o70 eo70 ko70 => ?_)
  obtain ⟨b71, hb9, h⟩ := h
  have g72 : hK S63 b71 = 2 := ko70 b71 (eo70.trans hb9)
  replace h := h g72
  refine g_opt (eo70.trans hb9) ?_
  obtain ⟨m73, m74, h⟩ := h
  obtain ⟨g75, h⟩ := h
  refine gc_calliV (host := "") C E w66 w67 g72 (by decide) (by decide) rfl [] rfl (k_X1_total l D T b71 S63 m73 m74 g72 g75) (w0_V 0 C.2.2.2.2.1 kw_1369 kw_1370 kw_1371 kw_8 kw_1372 rfl rfl (by decide +kernel) ⟨Nat.le_of_ble_eq_true rfl, Nat.le_of_ble_eq_true rfl⟩) rfl (Nat.le_of_ble_eq_true rfl) (Nat.le_refl _) (Nat.le_refl _) (Nat.zero_le _) (Nat.zero_le _) dX10_consolidate_38 (fun v9 S9 L76 he9 hw9 hL9 hp => ?_)
  obtain ⟨hv9, hs9⟩ := hp
  replace hs9 := hs9.symm
  subst hs9
  replace hv9 := hv9.symm
  subst hv9
  have w79 := hL9
  exact gx_iret C w66 w79 w69 hr dX10_consolidate_41 h
theorem c_X10_consolidate (l : Launch) (hst : l.stackTraces = false) (D : va_G) (T : Nat → ClassId) (x0 : Nat) (p0 : Int32) (S : HS) (mc ms : Nat) (hx0 : hK S x0 = 11) (P : Int32 → HS → Prop) (X : String → HS → Prop) (h : wp_X10_consolidate P X x0 p0 S mc ms) : CXi l yX10_consolidate (ws_X10_consolidate) rm_X10_consolidate D T [.ref x0, .int p0] S mc ms P X := gx_meti (by decide) rfl rfl (Nat.le_of_ble_eq_true rfl) (fun p e s m args below meth c A L C E hnm hr htab hw hL => t_X10_consolidate C E hst htab hr P X x0 p0 S S mc ms L rfl hw hL hx0 h)
theorem FrS.pr {S : HS} {a : Nat → Nat} {mu : Nat → Nat → Int32} {g b : Nat → Int32} {sh : List Int32} (h : FrS S a mu g b sh) : prC S (fxM a) (a 0) (mu 0) (a 54) (a 57) (fun i => a (58 + i)) := by
  obtain ⟨_, _, r3, r4⟩ := h.1.2.2.2.1 0 (by omega)
  have q := h.1.2.2.2.2.2.2.1
  refine ⟨h.now.1, h.wfr, h.now.2, h.1.rt, h.1.pl, ⟨57, by omega, rfl⟩, ⟨58, by omega, rfl⟩, ⟨59, by omega, rfl⟩, fun i hi => ⟨fun z => ?_, fun z => ?_, fun z => ?_⟩⟩
  · exact h.1.ne (i := 3) (j := 58 + i) (by omega) (by omega) (by omega) (Option.some.inj (r3.symm.trans z))
  · exact h.1.ne (i := 4) (j := 58 + i) (by omega) (by omega) (by omega) (Option.some.inj (r4.symm.trans z))
  · exact h.1.ne (i := 56) (j := 58 + i) (by omega) (by omega) (by omega) (Option.some.inj (q.2.symm.trans z))
/-- the rater through a preparing of its plan -/
theorem FrS.fq {S S1 : HS} {a : Nat → Nat} {mu : Nat → Nat → Int32} {g b : Nat → Int32} {sh : List Int32} (h : FrS S a mu g b sh) (he : ext S S1) (hf : frQ S S1 (a 57) (a 54) (fun i => a (58 + i))) (h58 : hA S1 (a 58) 0 = 0) : FrS S1 a mu g b sh := by
  have q := h.1.2.2.2.2.2.2.1
  have sm9 : ∀ i, i < 64 → i ≠ 57 → i ≠ 58 → i ≠ 59 → i ≠ 54 → i ≠ 55 → i ≠ 56 → sam S S1 (a i) := fun i hi h1 h2 h3 h4 h5 h6 => hf.2.2.2 (a i) (h.1.ne hi (by omega) h1) (h.1.ne (j := 58) hi (by omega) h2) (h.1.ne (j := 59) hi (by omega) h3) (h.1.ne hi (by omega) h4) (fun z => h.1.ne (j := 55) hi (by omega) h5 (Option.some.inj (z.symm.trans q.1))) (fun z => h.1.ne (j := 56) hi (by omega) h6 (Option.some.inj (z.symm.trans q.2)))
  refine h.sc (N := fun c => c = a 57 ∨ c = a 58 ∨ c = a 59 ∨ c = a 54 ∨ c = a 55 ∨ c = a 56) he (fun c hc _ => hf.2.2.2 c (fun z => hc (Or.inl z)) (fun z => hc (Or.inr (Or.inl z))) (fun z => hc (Or.inr (Or.inr (Or.inl z)))) (fun z => hc (Or.inr (Or.inr (Or.inr (Or.inl z))))) (fun z => hc (Or.inr (Or.inr (Or.inr (Or.inr (Or.inl (Option.some.inj (z.symm.trans q.1)))))))) (fun z => hc (Or.inr (Or.inr (Or.inr (Or.inr (Or.inr (Option.some.inj (z.symm.trans q.2))))))))) (fun c _ hc => ?_) (fun i _ _ j => by rw [hf.2.2.1]) ⟨h58, ?_, ?_⟩
  · rcases hc with e | e | e | e | e | e
    · exact ⟨57, by omega, by omega, e⟩
    · exact ⟨58, by omega, by omega, e⟩
    · exact ⟨59, by omega, by omega, e⟩
    · exact ⟨54, by omega, by omega, e⟩
    · exact ⟨55, by omega, by omega, e⟩
    · exact ⟨56, by omega, by omega, e⟩
  · rw [(sm9 60 (by omega) (by omega) (by omega) (by omega) (by omega) (by omega) (by omega)).2.2.2.2.1]
    exact h.1.2.2.2.2.2.2.2.2.2.1
  · rw [(sm9 61 (by omega) (by omega) (by omega) (by omega) (by omega) (by omega) (by omega)).2.2.2.2.1]
    exact h.1.2.2.2.2.2.2.2.2.2.2
/-- the rater through a work of its plan -/
theorem FrS.fp {S S1 : HS} {a : Nat → Nat} {mu : Nat → Nat → Int32} {g b : Nat → Int32} {sh : List Int32} {I J : List Nat} (h : FrS S a mu g b sh) (he : ext S S1) (hf : frP S S1 (a 57) (fun i => a (58 + i)) I J) (hJ : ∀ j, j ∈ J → j < 6) (h58 : z58 S1 a) : FrS S1 a mu g b sh := by
  refine h.sc (N := fun c => c = a 57 ∨ ∃ j, j ∈ J ∧ c = a (58 + j)) he (hf.M (Or.inl rfl) (fun j hj => Or.inr ⟨j, hj, rfl⟩)) (fun c _ hc => ?_) (fun i _ _ j => by rw [hf.2.2.1]) h58
  rcases hc with e | ⟨j, hj, e⟩
  · exact ⟨57, by omega, by omega, e⟩
  · exact ⟨58 + j, by omega, by have := hJ j hj; omega, e⟩
theorem FrS.fp5 {S S1 : HS} {a : Nat → Nat} {mu : Nat → Nat → Int32} {g b : Nat → Int32} {sh : List Int32} {I : List Nat} (h : FrS S a mu g b sh) (he : ext S S1) (hf : frP S S1 (a 57) (fun i => a (58 + i)) I [5]) : FrS S1 a mu g b sh := by
  refine h.fp he hf (fun j hj => by simp only [List.mem_cons, List.not_mem_nil, or_false] at hj; omega) (h.1.z8 (fun i h1 h2 => ?_))
  rw [hf.2.2.2.2.2 (a i) (fun j hj => by
    simp only [List.mem_cons, List.not_mem_nil, or_false] at hj
    subst hj
    exact h.1.ne (by omega) (by omega) (by omega))]
theorem spr_z {L : List Nat} {m : Nat} : spr L m 0 = 0 := by
  have hp := Nat.two_pow_pos m
  apply Nat.eq_of_testBit_eq
  intro j
  rw [Nat.zero_testBit, Bool.eq_iff_iff, spr_tb _ 0 hp]
  exact ⟨fun ⟨i, _, _, h⟩ => by rw [Nat.zero_testBit] at h; exact h, fun h => absurd h (by decide)⟩
theorem con_3 {μ : Nat → Int32} {g : Int32} {m t : Nat} (h : lckF μ g m = 0) (hr : rfF μ (iv g) = some t) : conC μ g m = 3 := by unfold conC; rw [if_pos h, hr]
theorem con_0 {μ : Nat → Int32} {g : Int32} {m : Nat} (h : lckF μ g m = 0) (hr : rfF μ (iv g) = none) : conC μ g m = 0 := by unfold conC; rw [if_pos h, hr]
theorem con_l {μ : Nat → Int32} {g : Int32} {m : Nat} (h : ¬ lckF μ g m = 0) : conC μ g m = lckF μ g m := by unfold conC; rw [if_neg h]
/-- a set that can be consolidated -/
theorem lck_n {μ : Nat → Int32} {g : Int32} {m : Nat} (hw : WF μ) (h : lckF μ g m = 0) : ∃ n ns, μ 1 = nI ns ∧ ns ≤ 10 ∧ 0 < n ∧ n < 2 ^ ns ∧ n < 1024 ∧ g = nI n ∧ iv g = n ∧ (memL n 10 0).length ≤ m := by
  obtain ⟨n, ns, h1, h2, h3, h4, h5⟩ := lck_0 hw h
  have n10 : n < 1024 := Nat.lt_of_lt_of_le h4 (p2_le h2)
  have ei : iv g = n := by rw [h5]; exact nI_clamp (by omega)
  refine ⟨n, ns, h1, h2, h3, h4, n10, h5, ei, ?_⟩
  rw [mem_10 h4 h2, mem_pop h4 h2]
  unfold lckF at h
  by_cases c : grpF μ g = 0
  · rw [if_pos c] at h; exact absurd h (by decide)
  · rw [if_neg c, ei] at h
    by_cases d : m < popN n
    · rw [if_pos d] at h; exact absurd h (by decide)
    · omega
/-- what a prepared plan says -/
theorem FrS.bb {S1 : HS} {a : Nat → Nat} {mu : Nat → Nat → Int32} {g b : Nat → Int32} {sh : List Int32} {n ns : Nat} (h : FrS S1 a mu g b sh) (e1 : mu 0 1 = nI ns) (hns : ns ≤ 10) (h0 : 0 < n) (hn : n < 2 ^ ns) (hr : rfF (mu 0) n = none) (h8 : (memL n 10 0).length ≤ 8) (hE : ∀ p, 0 < p → p < 2 ^ (memL n 10 0).length → hA S1 (a 59) p = ttF (mu 0) (spr (memL n 10 0) (memL n 10 0).length p)) : ttO (ttF (mu 0)) n ∧ plc n (memL n 10 0).length (memL n 10 0) ∧ ∃ G : List Nat, G.length ≤ 8 ∧ (fbK (hA S1 (a 59)) (2 ^ (memL n 10 0).length - 1) 1 (roW S1 (fun i => a (58 + i)))).2.1 (2 ^ (memL n 10 0).length - 1) = nI G.length ∧ chn (fbK (hA S1 (a 59)) (2 ^ (memL n 10 0).length - 1) 1 (roW S1 (fun i => a (58 + i)))).2.2 (2 ^ (memL n 10 0).length - 1) G ∧ chM (spr (memL n 10 0) (memL n 10 0).length) (dpZ (ttF (mu 0)) n).2.2 n G ∧ (dpZ (ttF (mu 0)) n).1 n = suL (hA S1 (a 59)) G 0 ∧ (dpZ (ttF (mu 0)) n).2.1 n = nI G.length ∧ (chP (2 ^ (memL n 10 0).length - 1) G ∧ raL (hA S1 (a 59)) G = true ∧ ∀ v, v < 2 ^ (memL n 10 0).length → ∀ g, 0 < v → Vc (hA S1 (a 59)) v g → (dpZ (ttF (mu 0)) n).1 (spr (memL n 10 0) (memL n 10 0).length v) ≤ hA S1 (a 59) g + (dpZ (ttF (mu 0)) n).1 (spr (memL n 10 0) (memL n 10 0).length (v - g))) ∧ ∀ i, i < G.length → 0 < gl G i ∧ gl G i < 2 ^ (memL n 10 0).length :=
  br_all h.now.1 ⟨n, ns, e1, hns, h0, hn, rfl⟩ (Nat.lt_of_lt_of_le hn (p2_le hns)) hr rfl h8 hE ⟨h.1.2.2.2.2.2.2.2.2.2.1, h.1.2.2.2.2.2.2.2.2.2.2⟩
theorem k_X10_consolidate (l : Launch) (hst : l.stackTraces = false) (D : va_G) (T : Nat → ClassId) (x0 : Nat) (p0 : Int32) (S : HS) (e0 : (Nat → Nat)) (e1 : (Nat → Nat → Int32)) (e2 : (Nat → Int32)) (e3 : (Nat → Int32)) (e4 : (List Int32)) (mc ms : Nat) (hx0 : hK S x0 = 11) (h : FrS S e0 e1 e2 e3 e4 ∧ x0 = e0 50 ∧ 200 ≤ mc ∧ 2000 ≤ ms) : CXi l yX10_consolidate (ws_X10_consolidate) rm_X10_consolidate D T [.ref x0, .int p0] S mc ms (fun v S1 => (conC (e1 0) p0 8 = 0 ∧ v = (dpZ (ttF (e1 0)) (iv p0)).1 (iv p0) ∧ FrS S1 e0 e1 e2 e3 e4)) (fun E9 S1 => ((conC (e1 0) p0 8 = 1 ∧ E9 = "java/lang/IndexOutOfBoundsException") ∨ (conC (e1 0) p0 8 = 2 ∧ E9 = "java/lang/IllegalArgumentException") ∨ (conC (e1 0) p0 8 = 3 ∧ E9 = "java/lang/IllegalStateException")) ∧ FrS S1 e0 e1 (if conC (e1 0) p0 8 = 3 then kpG e2 (rfR (e1 0) (iv p0)) (rfT (e1 0) (iv p0)) else e2) e3 e4) := c_X10_consolidate l hst D T x0 p0 S mc ms hx0 _ _ <|
  (by
    obtain ⟨h, e, hmc, hms⟩ := h
    unfold wp_X10_consolidate
    refine ⟨2, 12, ⟨by omega, by omega⟩, e0, e1, e2, e3, e4, ⟨h, e, Nat.le_refl _, Nat.le_refl _⟩, fun E9 S9 _ h9 => ?_, fun S10 _ h10 => ?_⟩
    · obtain ⟨c, eS⟩ := h9
      subst eS
      rcases c with ⟨c, eE⟩ | ⟨c, eE⟩
      · have cc : conC (e1 0) p0 8 = 1 := (con_l (by rw [c]; decide)).trans c
        refine ⟨Or.inl ⟨cc, eE⟩, ?_⟩
        rw [cc, if_neg (by decide)]; exact h
      · have cc : conC (e1 0) p0 8 = 2 := (con_l (by rw [c]; decide)).trans c
        refine ⟨Or.inr (Or.inl ⟨cc, eE⟩), ?_⟩
        rw [cc, if_neg (by decide)]; exact h
    obtain ⟨c, eS⟩ := h10
    subst eS e
    obtain ⟨n, ns, ens, hns, hn0, hn, hn1, eg, ei, h8⟩ := lck_n h.now.1 c
    refine ⟨1, 6, ⟨by omega, by omega⟩, e0, e1, e2, e3, e4, ⟨h, rfl, lck_0 h.now.1 c, Nat.le_refl _, Nat.le_refl _⟩, fun E9 S9 _ h9 => ?_, fun S27 _ h27 => ?_⟩
    · obtain ⟨eE, t, er, h9⟩ := h9
      have cc := con_3 c er
      refine ⟨Or.inr (Or.inr ⟨cc, eE⟩), ?_⟩
      rw [if_neg (by decide)] at h9
      rw [cc, if_pos rfl]
      unfold rfR rfT
      rw [er]
      exact h9
    obtain ⟨er, H27⟩ := h27
    refine ⟨e0 57, H27.r13, fun _ => ⟨e0 0, H27.r0, fun _ => ⟨e0 54, H27.r12, fun _ => ⟨fxM e0, e1 0, fun i => e0 (58 + i), n, ⟨H27.pr, by rw [ens, show iv (nI ns) = ns from nI_clamp (by omega)]; exact hn, eg, h8, H27.1.2.2.2.2.2.2.2.2.1⟩, fun S49 he49 h49 => ?_⟩⟩⟩⟩
    obtain ⟨f49, i40, i47, sets, tots⟩ := h49
    have H49 := H27.fq he49 f49 (by rw [sets 0 (Nat.two_pow_pos _), spr_z]; rfl)
    rw [ei] at er
    obtain ⟨tt, hl, G, g8, gC, gch, gM, gS, gD, gx, gg⟩ := H49.bb ens hns hn0 hn er h8 tots
    refine ⟨e0 57, H49.r13, fun _ => ⟨fun i => e0 (58 + i), (memL n 10 0).length, G, ⟨H49.1.pl, i40, h8, g8, gC, gch⟩, fun S63 he63 h63 => ?_⟩⟩
    obtain ⟨f63, P63, z2, z3⟩ := h63
    have k1 : hA S63 (e0 59) = hA S49 (e0 59) := f63.2.2.2.2.2 _ (fun j hj => by
      simp only [List.mem_cons, List.not_mem_nil, or_false] at hj
      exact H49.1.ne (by omega) (by omega) (by omega))
    have k0 : hA S63 (e0 58) = hA S49 (e0 58) := f63.2.2.2.2.2 _ (fun j hj => by
      simp only [List.mem_cons, List.not_mem_nil, or_false] at hj
      exact H49.1.ne (by omega) (by omega) (by omega))
    have H63 := H49.fp he63 f63 (fun j hj => by simp only [List.mem_cons, List.not_mem_nil, or_false] at hj; omega) ⟨by rw [k0]; exact H49.1.2.2.2.2.2.2.2.2.1, z2.trans H49.1.2.2.2.2.2.2.2.2.2.1, z3.trans H49.1.2.2.2.2.2.2.2.2.2.2⟩
    refine ⟨e0 57, H63.r13, fun _ => ⟨fun i => e0 (58 + i), G, ⟨H63.1.pl, P63⟩, con_0 c (by rw [ei]; exact er), ?_, H63⟩⟩
    rw [ei, gS]
    show suL (hA S63 (e0 59)) G 0 = _
    rw [k1])
abbrev ws_X10_group : List Cond := Cond.code yX10_group cX10_group 3 (some .int) :: W0
abbrev rm_X10_group : Room := ({ frames := 17, cells := 0, slots := 0, locals := 517 } : Room)
def wp_X10_group (P : Int32 → HS → Prop) (X : String → HS → Prop) (x0 : Nat) (p0 : Int32) (p1 : Int32) (S : HS) (mc ms : Nat) : Prop := ∃ cc1 cc2 : Nat, (cc1 ≤ mc ∧ cc2 ≤ ms) ∧ (∃ (m4 : (Nat → Nat)) (m5 : (Nat → Nat → Int32)) (m6 : (Nat → Int32)) (m7 : (Nat → Int32)) (m8 : (List Int32)), ((FrS S m4 m5 m6 m7 m8 ∧ x0 = m4 50 ∧ 2 ≤ cc1 ∧ 12 ≤ cc2) ∧ ((∀ (E9 : String) (S9 : HS), ext S S9 → (((lckF (m5 0) p0 8 = 1 ∧ E9 = "java/lang/IndexOutOfBoundsException") ∨ (lckF (m5 0) p0 8 = 2 ∧ E9 = "java/lang/IllegalArgumentException")) ∧ S9 = S) → X E9 S9) ∧ (∀ (S10 : HS), ext S S10 → (lckF (m5 0) p0 8 = 0 ∧ S10 = S) → (∃ cc18 cc19 : Nat, (cc18 ≤ (mc - cc1) ∧ cc19 ≤ (ms - cc2)) ∧ (∃ (m21 : (Nat → Nat)) (m22 : (Nat → Nat → Int32)) (m23 : (Nat → Int32)) (m24 : (Nat → Int32)) (m25 : (List Int32)), ((FrS S10 m21 m22 m23 m24 m25 ∧ x0 = m21 50 ∧ gok (m22 0) p0 ∧ 1 ≤ cc18 ∧ 6 ≤ cc19) ∧ ((∀ (E9 : String) (S9 : HS), ext S10 S9 → (E9 = "java/lang/IllegalStateException" ∧ ∃ t, rfF (m22 0) (iv p0) = some t ∧ FrS S9 m21 m22 (if (0 : Int32) = 0 then m23 else kpG m23 (nI (rsnD (m22 0) (2 ^ t)).1) (rsnD (m22 0) (2 ^ t)).2) m24 m25) → X E9 S9) ∧ (∀ (S27 : HS), ext S10 S27 → (rfF (m22 0) (iv p0) = none ∧ FrS S27 m21 m22 m23 m24 m25) → (∃ b36 : Nat, hR S27 233 x0 = some b36 ∧ (hK S27 b36 = 2 → (∃ b39 : Nat, hR S27 220 x0 = some b39 ∧ (hK S27 b39 = 7 → (∃ b42 : Nat, hR S27 232 x0 = some b42 ∧ (hK S27 b42 = 3 → (∃ (m44 : (Nat → Prop)) (m45 : Nat → Int32) (m46 : Nat → Nat) (m47 : Nat), ((prC S27 m44 b39 m45 b42 b36 m46 ∧ m47 < 2 ^ iv (m45 1) ∧ p0 = nI m47 ∧ (memL m47 10 0).length ≤ 8 ∧ hA S27 (m46 0) 0 = 0) ∧ (∀ (S49 : HS), ext S27 S49 → (frQ S27 S49 b36 b42 m46 ∧ hI S49 40 b36 = nI (memL m47 10 0).length ∧ hI S49 47 b36 = hI S27 47 b36 ∧ (∀ p, p < 2 ^ (memL m47 10 0).length → hA S49 (m46 0) p = nI (spr (memL m47 10 0) (memL m47 10 0).length p)) ∧ ∀ p, 0 < p → p < 2 ^ (memL m47 10 0).length → hA S49 (m46 1) p = ttF m45 (spr (memL m47 10 0) (memL m47 10 0).length p)) → (∃ b57 : Nat, hR S49 233 x0 = some b57 ∧ (hK S49 b57 = 2 → (∃ (m59 : Nat → Nat) (m60 : Nat) (m61 : List Nat), ((PlO S49 b57 m59 ∧ hI S49 40 b57 = nI m60 ∧ m60 ≤ 8 ∧ m61.length ≤ 8 ∧ (fbK (hA S49 (m59 1)) (2 ^ m60 - 1) 1 (roW S49 m59)).2.1 (2 ^ m60 - 1) = nI m61.length ∧ chn (fbK (hA S49 (m59 1)) (2 ^ m60 - 1) 1 (roW S49 m59)).2.2 (2 ^ m60 - 1) m61) ∧ (∀ (S63 : HS), ext S49 S63 → (frP S49 S63 b57 m59 [47] [2, 3, 4, 5] ∧ PlP S63 b57 m59 m61 ∧ hA S63 (m59 2) 0 = hA S49 (m59 2) 0 ∧ hA S63 (m59 3) 0 = hA S49 (m59 3) 0) → (∃ b71 : Nat, hR S63 233 x0 = some b71 ∧ (hK S63 b71 = 2 → ((¬ (zin p1 (-1) ((hI S63 47 b71) - 1)) = 0 → ((¬ p1 = (-1) → (∃ b80 : Nat, hR S63 233 x0 = some b80 ∧ (hK S63 b80 = 2 → (∃ b83 : Nat, hR S63 41 b80 = some b83 ∧ (hK S63 b83 = 22 → (∃ b86 : Nat, hR S63 233 x0 = some b86 ∧ (hK S63 b86 = 2 → (∃ b89 : Nat, hR S63 46 b86 = some b89 ∧ (hK S63 b89 = 22 → (vp_in p1 (hN S63 b89) ∧ (vp_in (hA S63 b89 (Int32.toNatClampNeg p1)) (hN S63 b83) ∧ (P (hA S63 b83 (Int32.toNatClampNeg (hA S63 b89 (Int32.toNatClampNeg p1)))) S63)))))))))))) ∧ (p1 = (-1) → (∃ b94 : Nat, hR S63 233 x0 = some b94 ∧ (hK S63 b94 = 2 → (P (hI S63 47 b94) S63)))))) ∧ ((zin p1 (-1) ((hI S63 47 b71) - 1)) = 0 → ((1 ≤ ((mc - cc1) - cc18) ∧ 6 ≤ ((ms - cc2) - cc19)) ∧ X "java/util/NoSuchElementException" S63))))))))))))))))))))))))))))
set_option maxRecDepth 100000 in
set_option maxHeartbeats 4000000 in
theorem t_X10_group {p : Program} {l : Launch} {e : Env} {s : State} {m : MethodId} {args : Array Value} {below : List Frame} {meth : Method} {c : Code} {D : va_G} {A : Nat → Prop} {T : Nat → ClassId} (C : GC p s m args meth c cX10_group "FreightRater" (ws_X10_group) 3 D A (zty T)) (E : GE T A s) (hst : l.stackTraces = false) (htab : ∀ z ∈ c.exceptionTable.toList, False) (hr : meth.sig.returnType = (some .int)) (P : Int32 → HS → Prop) (X : String → HS → Prop) : ∀ (x0 : Nat) (p0 : Int32) (p1 : Int32) (S0 S : HS) (mc ms : Nat) (L : List Nat), S0 = S → wt S → hL S L → (hK S x0 = 11) → wp_X10_group P X x0 p0 p1 S mc ms → GW p l e { rm_X10_group with cells := mc, slots := ms } s m args below meth c D A 3 mc ms (vx_MQ below (va_Qi (fun v (u : HS × List Nat) => P v u.1 ∧ CO S0 u) (CE D T A) A) (CXX D T A S0 X) args s mc ms A) (CW T S L) mc ms 0 [(0, .ref x0), (1, .int p0), (2, .int p1)] [] := by
  have hW : ∀ {w : Cond}, w ∈ W0 → w.before args s = true := fun h => C.2.2.2.2.1 _ (List.mem_cons_of_mem _ h)
  intro x0 p0 p1 S0 S mc ms L hS0 hw hL hx0 h
  have he : ext S0 S := by rw [hS0]; exact ext_rf
  unfold wp_X10_group at h
  refine g_aload_n C dX10_group_0 rfl 0 rfl ?_
  refine g_iload_n C dX10_group_1 rfl 1 rfl ?_
  obtain ⟨cc1, cc2, g3, h⟩ := h
  obtain ⟨m4, m5, m6, m7, m8, h⟩ := h
  obtain ⟨g9, h⟩ := h
  obtain ⟨g15, h⟩ := h
  refine gx_callvV (host := "") C E hw hL hx0 (by decide) (by decide) rfl [.int p0] rfl (k_X10_requireSet l hst D T x0 p0 S m4 m5 m6 m7 m8 cc1 cc2 hx0 g9) (w0_V 1 C.2.2.2.2.1 kw_1330 kw_1332 ks_40 kw_1 kw_1333 rfl rfl (by decide +kernel) ⟨Nat.le_of_ble_eq_true rfl, Nat.le_of_ble_eq_true rfl⟩) rfl (Nat.le_of_ble_eq_true rfl) (Nat.le_refl _) (Nat.le_refl _) g3.1 g3.2 dX10_group_2 he htab g15 (fun S10 L11 e12 w13 w14 hp => ?_)
  replace h := h S10 e12 hp
  have g16 := ext_K e12 hx0 (by decide)
  have w17 := ext_tr he e12
  refine g_aload_n C dX10_group_5 rfl 0 rfl ?_
  refine g_iload_n C dX10_group_6 rfl 1 rfl ?_
  refine g_iconst (v := 0) C dX10_group_7 (by decide) ?_
  obtain ⟨cc18, cc19, g20, h⟩ := h
  obtain ⟨m21, m22, m23, m24, m25, h⟩ := h
  obtain ⟨g26, h⟩ := h
  obtain ⟨g32, h⟩ := h
  refine gx_callvV (host := "") C E w13 w14 g16 (by decide) (by decide) rfl [.int p0, .int 0] rfl (k_X10_requireSingles l hst D T x0 p0 0 S10 m21 m22 m23 m24 m25 cc18 cc19 g16 g26) (w0_V 2 C.2.2.2.2.1 kw_1340 kw_1342 ks_41 kw_1 kw_1343 rfl rfl (by decide +kernel) ⟨Nat.le_of_ble_eq_true rfl, Nat.le_of_ble_eq_true rfl⟩) rfl (Nat.le_of_ble_eq_true rfl) (Nat.le_refl _) (Nat.le_refl _) g20.1 g20.2 dX10_group_8 w17 htab g32 (fun S27 L28 e29 w30 w31 hp => ?_)
  replace h := h S27 e29 hp
  have g33 := ext_K e29 g16 (by decide)
  have w34 := ext_tr w17 e29
  refine g_aload_n C dX10_group_11 rfl 0 rfl ?_
  refine gc_getR C w30 iwx_X10 w31 g33 (by decide) (by decide) rfl 13 (by decide) (hW kw_255) rfl rfl rfl dX10_group_12 (fun o35 eo35 ko35 => ?_)
  obtain ⟨b36, hb9, h⟩ := h
  have g37 : hK S27 b36 = 2 := ko35 b36 (eo35.trans hb9)
  replace h := h g37
  refine g_opt (eo35.trans hb9) ?_
  refine g_aload_n C dX10_group_15 rfl 0 rfl ?_
  refine gc_getR C w30 iwx_X10 w31 g33 (by decide) (by decide) rfl 0 (by decide) (hW kw_242) rfl rfl rfl dX10_group_16 (fun o38 eo38 ko38 => ?_)
  obtain ⟨b39, hb9, h⟩ := h
  have g40 : hK S27 b39 = 7 := ko38 b39 (eo38.trans hb9)
  replace h := h g40
  refine g_opt (eo38.trans hb9) ?_
  refine g_iload_n C dX10_group_19 rfl 1 rfl ?_
  refine g_aload_n C dX10_group_20 rfl 0 rfl ?_
  refine gc_getR C w30 iwx_X10 w31 g33 (by decide) (by decide) rfl 12 (by decide) (hW kw_254) rfl rfl rfl dX10_group_21 (fun o41 eo41 ko41 => ?_)
  obtain ⟨b42, hb9, h⟩ := h
  have g43 : hK S27 b42 = 3 := ko41 b42 (eo41.trans hb9)
  replace h := h g43
  refine g_opt (eo41.trans hb9) ?_
  obtain ⟨m44, m45, m46, m47, h⟩ := h
  obtain ⟨g48, h⟩ := h
  refine gc_callvV (host := "") C E w30 w31 g37 (by decide) (by decide) rfl [.ref b39, .int p0, .ref b42] rfl (k_X1_prepare l D T b36 b39 p0 b42 S27 m44 m45 m46 m47 g37 g40 g43 g48) (w0_V 3 C.2.2.2.2.1 kw_1345 kw_1346 kw_1347 kw_8 kw_1348 rfl rfl (by decide +kernel) ⟨Nat.le_of_ble_eq_true rfl, Nat.le_of_ble_eq_true rfl⟩) rfl (Nat.le_of_ble_eq_true rfl) (Nat.le_refl _) (Nat.le_refl _) (Nat.zero_le _) (Nat.zero_le _) dX10_group_24 (fun S49 L50 e51 w52 w53 hp => ?_)
  replace h := h S49 e51 hp
  have g54 := ext_K e51 g33 (by decide)
  have w55 := ext_tr w34 e51
  refine g_aload_n C dX10_group_27 rfl 0 rfl ?_
  refine gc_getR C w52 iwx_X10 w53 g54 (by decide) (by decide) rfl 13 (by decide) (hW kw_255) rfl rfl rfl dX10_group_28 (fun o56 eo56 ko56 => ?_)
  obtain ⟨b57, hb9, h⟩ := h
  have g58 : hK S49 b57 = 2 := ko56 b57 (eo56.trans hb9)
  replace h := h g58
  refine g_opt (eo56.trans hb9) ?_
  obtain ⟨m59, m60, m61, h⟩ := h
  obtain ⟨g62, h⟩ := h
  refine gc_callvV (host := "") C E w52 w53 g58 (by decide) (by decide) rfl [] rfl (k_X1_findBest l D T b57 S49 m59 m60 m61 g58 g62) (w0_V 0 C.2.2.2.2.1 kw_1356 kw_1357 kw_1358 kw_8 kw_1359 rfl rfl (by decide +kernel) ⟨Nat.le_of_ble_eq_true rfl, Nat.le_of_ble_eq_true rfl⟩) rfl (Nat.le_of_ble_eq_true rfl) (Nat.le_refl _) (Nat.le_refl _) (Nat.zero_le _) (Nat.zero_le _) dX10_group_31 (fun S63 L64 e65 w66 w67 hp => ?_)
  replace h := h S63 e65 hp
  have g68 := ext_K e65 g54 (by decide)
  have w69 := ext_tr w55 e65
  refine g_iload_n C dX10_group_34 rfl 2 rfl ?_
  refine g_iconst (v := -1) C dX10_group_35 (by decide) ?_
  refine g_aload_n C dX10_group_36 rfl 0 rfl ?_
  refine gc_getR C w66 iwx_X10 w67 g68 (by decide) (by decide) rfl 13 (by decide) (hW kw_255) rfl rfl rfl dX10_group_37 (fun o70 eo70 ko70 => ?_)
  obtain ⟨b71, hb9, h⟩ := h
  have g72 : hK S63 b71 = 2 := ko70 b71 (eo70.trans hb9)
  replace h := h g72
  refine g_opt (eo70.trans hb9) ?_
  refine gc_getI C iwx_X1 w67 g72 (by decide) (by decide) rfl 7 (by decide) (hW kw_224) rfl rfl rfl dX10_group_40 ?_
  refine g_iconst (v := 1) C dX10_group_43 (by decide) ?_
  refine g_isub C dX10_group_44 ?_
  refine gc_calliS (host := "") C E w66 w67 [.int p1, .int (-1), .int ((hI S63 47 b71) - 1)] rfl (k_X10_isBetween l D T p1 (-1) ((hI S63 47 b71) - 1) S63 ) (w0_S 3 C.2.2.2.2.1 kw_303 kw_304 kw_1 kw_305 rfl rfl (by decide +kernel) ⟨Nat.le_of_ble_eq_true rfl, Nat.le_of_ble_eq_true rfl⟩) rfl (Nat.le_of_ble_eq_true rfl) (Nat.le_refl _) (Nat.le_refl _) (Nat.zero_le _) (Nat.zero_le _) dX10_group_45 (fun v9 S9 L73 he9 hw9 hL9 hp => ?_)
  obtain ⟨hv9, hs9⟩ := hp
  replace hs9 := hs9.symm
  subst hs9
  replace hv9 := hv9.symm
  subst hv9
  have w76 := hL9
  refine g_if_ne (tgt := 59) C dX10_group_48 (by decide) (fun z77 => ?_) (fun z77 => ?_)
  · replace h := h.1 z77
    refine g_iload_n C dX10_group_59 rfl 2 rfl ?_
    refine g_iconst (v := -1) C dX10_group_60 (by decide) ?_
    refine g_icmp_ne (tgt := 74) C dX10_group_61 (by decide) (fun z78 => ?_) (fun z78 => ?_)
    · replace h := h.1 z78
      refine g_aload_n C dX10_group_74 rfl 0 rfl ?_
      refine gc_getR C w66 iwx_X10 w76 g68 (by decide) (by decide) rfl 13 (by decide) (hW kw_255) rfl rfl rfl dX10_group_75 (fun o79 eo79 ko79 => ?_)
      obtain ⟨b80, hb9, h⟩ := h
      have g81 : hK S63 b80 = 2 := ko79 b80 (eo79.trans hb9)
      replace h := h g81
      refine g_opt (eo79.trans hb9) ?_
      refine gc_getR C w66 iwx_X1 w76 g81 (by decide) (by decide) rfl 1 (by decide) (hW kw_215) rfl rfl rfl dX10_group_78 (fun o82 eo82 ko82 => ?_)
      obtain ⟨b83, hb9, h⟩ := h
      have g84 : hK S63 b83 = 22 := ko82 b83 (eo82.trans hb9)
      replace h := h g84
      refine g_opt (eo82.trans hb9) ?_
      refine g_aload_n C dX10_group_81 rfl 0 rfl ?_
      refine gc_getR C w66 iwx_X10 w76 g68 (by decide) (by decide) rfl 13 (by decide) (hW kw_255) rfl rfl rfl dX10_group_82 (fun o85 eo85 ko85 => ?_)
      obtain ⟨b86, hb9, h⟩ := h
      have g87 : hK S63 b86 = 2 := ko85 b86 (eo85.trans hb9)
      replace h := h g87
      refine g_opt (eo85.trans hb9) ?_
      refine gc_getR C w66 iwx_X1 w76 g87 (by decide) (by decide) rfl 6 (by decide) (hW kw_222) rfl rfl rfl dX10_group_85 (fun o88 eo88 ko88 => ?_)
      obtain ⟨b89, hb9, h⟩ := h
      have g90 : hK S63 b89 = 22 := ko88 b89 (eo88.trans hb9)
      replace h := h g90
      refine g_opt (eo88.trans hb9) ?_
      refine g_iload_n C dX10_group_88 rfl 2 rfl ?_
      obtain ⟨g91, h⟩ := h
      refine gc_iald C w76 g90 g91 dX10_group_89 ?_
      obtain ⟨g92, h⟩ := h
      refine gc_iald C w76 g84 g92 dX10_group_90 ?_
      exact gx_iret C w66 w76 w69 hr dX10_group_91 h
    · replace h := h.2 z78
      refine g_aload_n C dX10_group_64 rfl 0 rfl ?_
      refine gc_getR C w66 iwx_X10 w76 g68 (by decide) (by decide) rfl 13 (by decide) (hW kw_255) rfl rfl rfl dX10_group_65 (fun o93 eo93 ko93 => ?_)
      obtain ⟨b94, hb9, h⟩ := h
      have g95 : hK S63 b94 = 2 := ko93 b94 (eo93.trans hb9)
      replace h := h g95
      refine g_opt (eo93.trans hb9) ?_
      refine gc_getI C iwx_X1 w76 g95 (by decide) (by decide) rfl 7 (by decide) (hW kw_224) rfl rfl rfl dX10_group_68 ?_
      refine g_goto (tgt := 91) C dX10_group_71 (by decide) ?_
      exact gx_iret C w66 w76 w69 hr dX10_group_91 h
  · replace h := h.2 z77
    obtain ⟨g96, h⟩ := h
    exact gx_throw (cls := "java/util/NoSuchElementException") (names := ["java/lang/RuntimeException", "java/lang/Exception"]) C E hst w66 w76 w69 (Nat.le_refl _) (Nat.le_refl _) (by decide) (by decide) (hW kw_966) (hW kw_34) (th_FreightRater_136 hW E) tv_FreightRater_136 dX10_group_51 dX10_group_54 dX10_group_55 dX10_group_58 htab (Nat.le_of_ble_eq_true rfl) (Nat.le_of_ble_eq_true rfl) g96.1 g96.2 h
theorem c_X10_group (l : Launch) (hst : l.stackTraces = false) (D : va_G) (T : Nat → ClassId) (x0 : Nat) (p0 : Int32) (p1 : Int32) (S : HS) (mc ms : Nat) (hx0 : hK S x0 = 11) (P : Int32 → HS → Prop) (X : String → HS → Prop) (h : wp_X10_group P X x0 p0 p1 S mc ms) : CXi l yX10_group (ws_X10_group) rm_X10_group D T [.ref x0, .int p0, .int p1] S mc ms P X := gx_meti (by decide) rfl rfl (Nat.le_of_ble_eq_true rfl) (fun p e s m args below meth c A L C E hnm hr htab hw hL => t_X10_group C E hst htab hr P X x0 p0 p1 S S mc ms L rfl hw hL hx0 h)
theorem k_X10_group (l : Launch) (hst : l.stackTraces = false) (D : va_G) (T : Nat → ClassId) (x0 : Nat) (p0 : Int32) (p1 : Int32) (S : HS) (e0 : (Nat → Nat)) (e1 : (Nat → Nat → Int32)) (e2 : (Nat → Int32)) (e3 : (Nat → Int32)) (e4 : (List Int32)) (mc ms : Nat) (hx0 : hK S x0 = 11) (h : FrS S e0 e1 e2 e3 e4 ∧ x0 = e0 50 ∧ 200 ≤ mc ∧ 2000 ≤ ms) : CXi l yX10_group (ws_X10_group) rm_X10_group D T [.ref x0, .int p0, .int p1] S mc ms (fun v S1 => (grC (e1 0) p0 p1 = 0 ∧ v = grA (e1 0) (iv p0) p1 ∧ FrS S1 e0 e1 e2 e3 e4)) (fun E9 S1 => ((grC (e1 0) p0 p1 = 1 ∧ E9 = "java/lang/IndexOutOfBoundsException") ∨ (grC (e1 0) p0 p1 = 2 ∧ E9 = "java/lang/IllegalArgumentException") ∨ (grC (e1 0) p0 p1 = 3 ∧ E9 = "java/lang/IllegalStateException") ∨ (grC (e1 0) p0 p1 = 4 ∧ E9 = "java/util/NoSuchElementException")) ∧ FrS S1 e0 e1 e2 e3 e4) := c_X10_group l hst D T x0 p0 p1 S mc ms hx0 _ _ <|
  (by
    obtain ⟨h, e, hmc, hms⟩ := h
    unfold wp_X10_group
    refine ⟨2, 12, ⟨by omega, by omega⟩, e0, e1, e2, e3, e4, ⟨h, e, Nat.le_refl _, Nat.le_refl _⟩, fun E9 S9 _ h9 => ?_, fun S10 _ h10 => ?_⟩
    · obtain ⟨c, eS⟩ := h9
      subst eS
      rcases c with ⟨c, eE⟩ | ⟨c, eE⟩
      · have cc : conC (e1 0) p0 8 = 1 := (con_l (by rw [c]; decide)).trans c
        exact ⟨Or.inl ⟨by unfold grC; rw [cc, if_neg (by decide)], eE⟩, h⟩
      · have cc : conC (e1 0) p0 8 = 2 := (con_l (by rw [c]; decide)).trans c
        exact ⟨Or.inr (Or.inl ⟨by unfold grC; rw [cc, if_neg (by decide)], eE⟩), h⟩
    obtain ⟨c, eS⟩ := h10
    subst eS e
    obtain ⟨n, ns, ens, hns, hn0, hn, hn1, eg, ei, h8⟩ := lck_n h.now.1 c
    refine ⟨1, 6, ⟨by omega, by omega⟩, e0, e1, e2, e3, e4, ⟨h, rfl, lck_0 h.now.1 c, Nat.le_refl _, Nat.le_refl _⟩, fun E9 S9 _ h9 => ?_, fun S27 _ h27 => ?_⟩
    · obtain ⟨eE, t, er, h9⟩ := h9
      have cc := con_3 c er
      rw [if_pos rfl] at h9
      exact ⟨Or.inr (Or.inr (Or.inl ⟨by unfold grC; rw [cc, if_neg (by decide)], eE⟩)), h9⟩
    obtain ⟨er, H27⟩ := h27
    have cc := con_0 c er
    refine ⟨e0 57, H27.r13, fun _ => ⟨e0 0, H27.r0, fun _ => ⟨e0 54, H27.r12, fun _ => ⟨fxM e0, e1 0, fun i => e0 (58 + i), n, ⟨H27.pr, by rw [ens, show iv (nI ns) = ns from nI_clamp (by omega)]; exact hn, eg, h8, H27.1.2.2.2.2.2.2.2.2.1⟩, fun S49 he49 h49 => ?_⟩⟩⟩⟩
    obtain ⟨f49, i40, i47, sets, tots⟩ := h49
    have H49 := H27.fq he49 f49 (by rw [sets 0 (Nat.two_pow_pos _), spr_z]; rfl)
    rw [ei] at er
    obtain ⟨tt, hl, G, g8, gC, gch, gM, gS, gD, gx, gg⟩ := H49.bb ens hns hn0 hn er h8 tots
    refine ⟨e0 57, H49.r13, fun _ => ⟨fun i => e0 (58 + i), (memL n 10 0).length, G, ⟨H49.1.pl, i40, h8, g8, gC, gch⟩, fun S63 he63 h63 => ?_⟩⟩
    obtain ⟨f63, P63, z2, z3⟩ := h63
    have k0 : hA S63 (e0 58) = hA S49 (e0 58) := f63.2.2.2.2.2 _ (fun j hj => by
      simp only [List.mem_cons, List.not_mem_nil, or_false] at hj
      exact H49.1.ne (by omega) (by omega) (by omega))
    have H63 := H49.fp he63 f63 (fun j hj => by simp only [List.mem_cons, List.not_mem_nil, or_false] at hj; omega) ⟨by rw [k0]; exact H49.1.2.2.2.2.2.2.2.2.1, z2.trans H49.1.2.2.2.2.2.2.2.2.2.1, z3.trans H49.1.2.2.2.2.2.2.2.2.2.2⟩
    have i47' : hI S63 47 (e0 57) = nI G.length := P63.1
    refine ⟨e0 57, H63.r13, fun _ => ?_⟩
    rw [i47']
    have gC' : grC (e1 0) p0 p1 = if p1 = -1 then 0 else if zin p1 0 (nI G.length - 1) = 0 then 4 else 0 := by
      unfold grC
      rw [if_pos cc, ei, gD]
    refine ⟨fun cz => ⟨fun c1 => ?_, fun c1 => ⟨e0 57, H63.r13, fun _ => ⟨by rw [gC', if_pos c1], ?_, H63⟩⟩⟩, fun cz => ⟨⟨by omega, by omega⟩, Or.inr (Or.inr (Or.inr ⟨?_, rfl⟩)), H63⟩⟩
    · rcases zin_k (by omega) cz with z | ⟨j, hj, ej⟩
      · exact absurd z c1
      · have ij : iv p1 = j := by rw [ej]; exact nI_clamp (by omega)
        have zj : ¬ zin p1 0 (nI G.length - 1) = 0 := by
          have := zin_0.mp cz
          exact zin_0.mpr ⟨by rw [ej]; exact nI_pos' (by omega), this.2⟩
        refine ⟨e0 57, H63.r13, fun _ => ⟨e0 58, H63.1.pl.sets, fun _ => ⟨e0 57, H63.r13, fun _ => ⟨e0 63, H63.1.pl.pts, fun _ => ?_⟩⟩⟩⟩
        have g1 := gg j hj
        have p8 := hl.p
        have pj := (P63.2.2 j hj).1
        rw [show hN S63 (e0 63) = 8 from H63.1.pl.n5, show hN S63 (e0 58) = 256 from H63.1.pl.n (show 0 < 5 by omega), show Int32.toNatClampNeg p1 = j from ij, show hA S63 (e0 63) j = nI (gl G j) from pj, nz_vp (by omega) (by decide), show Int32.toNatClampNeg (nI (gl G j)) = gl G j from nI_clamp (by omega), k0, show hA S49 (e0 58) (gl G j) = nI (spr (memL n 10 0) (memL n 10 0).length (gl G j)) from sets _ g1.2]
        refine ⟨by rw [ej, nz_vp (by omega) (by decide)]; omega, by omega, by rw [gC', if_neg c1, if_neg zj], ?_, H63⟩
        unfold grA
        rw [if_neg c1, ei, ij]
        exact (chM_g G n j hn1 gM hj).symm
    · unfold grA
      rw [if_pos c1, ei, gD, i47']
    · have n1 : ¬ p1 = -1 := fun z => by
        subst z
        refine absurd cz (zin_0.mpr ⟨Int32.le_refl _, ?_⟩)
        rw [le_toInt]
        rcases Nat.eq_zero_or_pos G.length with q | q
        · rw [q]; decide
        · rw [nI_p1 q]
          have := le_toInt.mp (nI_pos' (n := G.length - 1) (by omega))
          rw [Int32.toInt_zero] at this
          have e1 : (-1 : Int32).toInt = -1 := by decide
          omega
      have n2 : zin p1 0 (nI G.length - 1) = 0 := by
        by_cases q : zin p1 0 (nI G.length - 1) = 0
        · exact q
        · have := zin_0.mp q
          refine absurd cz (zin_0.mpr ⟨?_, this.2⟩)
          exact Int32.le_trans (by decide) this.1
      rw [gC', if_neg n1, if_pos n2])

end S_CAC
