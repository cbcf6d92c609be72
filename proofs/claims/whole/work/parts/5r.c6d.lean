section S_C6D
abbrev ws_X3_readZone : List Cond := Cond.code yX3_readZone cX3_readZone 2 none :: W0
abbrev rm_X3_readZone : Room := ({ frames := 2, cells := 0, slots := 0, locals := 42 } : Room)
def wp_X3_readZone (P : HS → Prop) (x0 : Nat) (p0 : Nat) (S : HS) : Prop := ∃ (m1 : Nat → Int32) (m2 : Nat) (m3 : PS) (m4 : Int32) (m5 : Int32), ((RdO S x0 m1 m2 m3 ∧ 49 = 48 + m4 ∧ 57 = 48 + m5 ∧ dix m4 m5) ∧ (∀ (v12 : Int32) (S7 : HS), ext S S7 → (v12 = dgV m1 m2 m3 m4 m5 ∧ c3 S S7 x0 [82, 83] ∧ RdO S7 x0 m1 m2 (dgS m1 m2 m3 m4 m5)) → (∀ S17 : HS, S17 = putI S7 161 p0 v12 → (∃ (m23 : Nat → Int32) (m24 : Nat) (m25 : PS), ((RdO S17 x0 m23 m24 m25 ∧ ¬ 58 = (-1 : Int32)) ∧ (∀ (S27 : HS), ext S17 S27 → (c3 S17 S27 x0 [82, 83] ∧ RdO S27 x0 m23 m24 (ndS m23 m24 m25 58)) → (∃ (m35 : Nat → Int32) (m36 : Nat) (m37 : PS), ((RdO S27 x0 m35 m36 m37) ∧ (∀ (v44 : Int32) (S39 : HS), ext S27 S39 → (v44 = (nbF m35 m36 m37).1 ∧ c3 S27 S39 x0 [82, 83] ∧ RdO S39 x0 m35 m36 ((nbF m35 m36 m37).2)) → (∀ S49 : HS, S49 = putI S39 162 p0 v44 → (P S49)))))))))))
set_option maxRecDepth 100000 in
set_option maxHeartbeats 4000000 in
theorem t_X3_readZone {p : Program} {l : Launch} {e : Env} {s : State} {m : MethodId} {args : Array Value} {below : List Frame} {meth : Method} {c : Code} {D : va_G} {A : Nat → Prop} {T : Nat → ClassId} (C : GC p s m args meth c cX3_readZone "FreightRater$Reader" (ws_X3_readZone) 2 D A (zty T)) (E : GE T A s) (hr : meth.sig.returnType = none) (P : HS → Prop) : ∀ (x0 : Nat) (p0 : Nat) (S0 S : HS) (L : List Nat), S0 = S → wt S → hL S L → (hK S x0 = 4) → (hK S p0 = 8) → wp_X3_readZone P x0 p0 S → GW p l e { rm_X3_readZone with cells := 0, slots := 0 } s m args below meth c D A 2 0 0 (MQ below (va_Qv (fun (u : HS × List Nat) => P u.1 ∧ CO S0 u) (CE D T A) A) args s 0 0 A) (CW T S L) 0 0 0 [(0, .ref x0), (1, .ref p0)] [] := by
  have hW : ∀ {w : Cond}, w ∈ W0 → w.before args s = true := fun h => C.2.2.2.2.1 _ (List.mem_cons_of_mem _ h)
  intro x0 p0 S0 S L hS0 hw hL hx0 hp0 h
  have he : ext S0 S := by rw [hS0]; exact ext_rf
  unfold wp_X3_readZone at h
  refine g_aload_n C dX3_readZone_0 rfl 1 rfl ?_
  refine g_aload_n C dX3_readZone_1 rfl 0 rfl ?_
  refine g_bipush (v := 49) C dX3_readZone_2 (by decide) ?_
  refine g_bipush (v := 57) C dX3_readZone_4 (by decide) ?_
  obtain ⟨m1, m2, m3, m4, m5, h⟩ := h
  obtain ⟨g6, h⟩ := h
  refine gc_calliV (host := "") C E hw hL hx0 (by decide) (by decide) rfl [.int 49, .int 57] rfl (k_X3_readDigit l D T x0 49 57 S m1 m2 m3 m4 m5 hx0 g6) (w0_V 2 C.2.2.2.2.1 kw_711 kw_713 ks_5 kw_19 kw_714 rfl rfl (by decide +kernel) ⟨Nat.le_of_ble_eq_true rfl, Nat.le_of_ble_eq_true rfl⟩) rfl (Nat.le_of_ble_eq_true rfl) (Nat.le_refl _) (Nat.le_refl _) (Nat.zero_le _) (Nat.zero_le _) dX3_readZone_6 (fun v12 S7 L8 e9 w10 w11 hp => ?_)
  replace h := h v12 S7 e9 hp
  have g13 := ext_K e9 hp0 (by decide)
  have g14 := ext_K e9 hx0 (by decide)
  have w15 := ext_tr he e9
  refine gc_putI C iwx_X7 w11 g13 (by decide) (by decide) rfl 1 (by decide) (hW kw_688) rfl tyX7 tyX7_ok nmX7 rfl rfl rfl rfl rfl dX3_readZone_9 ?_
  have w16 := wt_putI w10 161 v12 (k_ne g13 (by decide))
  refine gc_nS (fun S17 eS17 => ?_)
  replace h := h S17 eS17
  have w18 : wt S17 := by rw [eS17]; exact w16
  have w19 : isL S17 L8 := by rw [eS17]; exact w11
  have w20 : ext S0 S17 := by rw [eS17]; exact w15
  have g21 : hK S17 x0 = 4 := by rw [eS17]; exact g14
  have g22 : hK S17 p0 = 8 := by rw [eS17]; exact g13
  refine g_aload_n C dX3_readZone_12 rfl 0 rfl ?_
  refine g_bipush (v := 58) C dX3_readZone_13 (by decide) ?_
  obtain ⟨m23, m24, m25, h⟩ := h
  obtain ⟨g26, h⟩ := h
  refine gc_callvV (host := "") C E w18 w19 g21 (by decide) (by decide) rfl [.int 58] rfl (k_X3_expect l D T x0 58 S17 m23 m24 m25 g21 g26) (w0_V 1 C.2.2.2.2.1 kw_715 kw_717 ks_6 kw_19 kw_718 rfl rfl (by decide +kernel) ⟨Nat.le_of_ble_eq_true rfl, Nat.le_of_ble_eq_true rfl⟩) rfl (Nat.le_of_ble_eq_true rfl) (Nat.le_refl _) (Nat.le_refl _) (Nat.zero_le _) (Nat.zero_le _) dX3_readZone_15 (fun S27 L28 e29 w30 w31 hp => ?_)
  replace h := h S27 e29 hp
  have g32 := ext_K e29 g21 (by decide)
  have g33 := ext_K e29 g22 (by decide)
  have w34 := ext_tr w20 e29
  refine g_aload_n C dX3_readZone_18 rfl 1 rfl ?_
  refine g_aload_n C dX3_readZone_19 rfl 0 rfl ?_
  obtain ⟨m35, m36, m37, h⟩ := h
  obtain ⟨g38, h⟩ := h
  refine gc_calliV (host := "") C E w30 w31 g32 (by decide) (by decide) rfl [] rfl (k_X3_readNumber l D T x0 S27 m35 m36 m37 g32 g38) (w0_V 0 C.2.2.2.2.1 kw_723 kw_725 ks_8 kw_19 kw_726 rfl rfl (by decide +kernel) ⟨Nat.le_of_ble_eq_true rfl, Nat.le_of_ble_eq_true rfl⟩) rfl (Nat.le_of_ble_eq_true rfl) (Nat.le_refl _) (Nat.le_refl _) (Nat.zero_le _) (Nat.zero_le _) dX3_readZone_20 (fun v44 S39 L40 e41 w42 w43 hp => ?_)
  replace h := h v44 S39 e41 hp
  have g45 := ext_K e41 g33 (by decide)
  have g46 := ext_K e41 g32 (by decide)
  have w47 := ext_tr w34 e41
  refine gc_putI C iwx_X7 w43 g45 (by decide) (by decide) rfl 2 (by decide) (hW kw_690) rfl tyX7 tyX7_ok nmX7 rfl rfl rfl rfl rfl dX3_readZone_23 ?_
  have w48 := wt_putI w42 162 v44 (k_ne g45 (by decide))
  refine gc_nS (fun S49 eS49 => ?_)
  replace h := h S49 eS49
  have w50 : wt S49 := by rw [eS49]; exact w48
  have w51 : isL S49 L40 := by rw [eS49]; exact w43
  have w52 : ext S0 S49 := by rw [eS49]; exact w47
  have g53 : hK S49 x0 = 4 := by rw [eS49]; exact g46
  have g54 : hK S49 p0 = 8 := by rw [eS49]; exact g45
  exact gc_vret C w50 w51 w52 hr dX3_readZone_26 h
theorem c_X3_readZone (l : Launch) (D : va_G) (T : Nat → ClassId) (x0 : Nat) (p0 : Nat) (S : HS) (hx0 : hK S x0 = 4) (hp0 : hK S p0 = 8) (P : HS → Prop) (h : wp_X3_readZone P x0 p0 S) : CMv l yX3_readZone (ws_X3_readZone) rm_X3_readZone D T [.ref x0, .ref p0] S 0 0 P := gc_metv (by decide) rfl rfl (Nat.le_of_ble_eq_true rfl) (fun p e s m args below meth c A L C E hnm hr hw hL => t_X3_readZone C E   hr P x0 p0 S S L rfl hw hL hx0 hp0 h)
theorem c3.fm {S S1 : HS} {x : Nat} {L : List Nat} (h : c3 S S1 x L) : frM S S1 (fun b => b = x) := fun b hb _ => ⟨by rw [h.1], by rw [h.2.1], fun i => h.2.2.2.2.2 i b (Or.inl hb), fun i => by rw [h.2.2.1], by rw [h.2.2.2.1], by rw [h.2.2.2.2.1]⟩
theorem RdO.fm {S S1 : HS} {x n : Nat} {b : Nat → Int32} {σ : PS} {N : Nat → Prop} (h : RdO S x b n σ) (hf : frM S S1 N) (kx : hK S x = 4) (hx : ¬ N x) (ht : ∀ t, hK S t = 21 → ¬ N t) : RdO S1 x b n σ := by
  obtain ⟨h1, h2, h3, h4, h5, t, r1, r2, r3, r4⟩ := h
  have s1 := hf x hx (by rw [kx]; decide)
  have s2 := hf t (ht t r2) (by rw [r2]; decide)
  exact ⟨by rw [s1.2.2.1]; exact h1, by rw [s1.2.2.1]; exact h2, h3, by rw [s1.2.2.1]; exact h4, h5, t, by rw [s1.2.2.2.1]; exact r1, by rw [s2.1]; exact r2, by rw [s2.2.1]; exact r3, fun i hi => by rw [s2.2.2.2.2.1]; exact r4 i hi⟩
theorem RdO.pI {S S1 : HS} {x q n i : Nat} {b : Nat → Int32} {σ : PS} {v : Int32} (h : RdO S x b n σ) (kx : hK S x = 4) (hq : hK S q ≠ 4) (hq2 : hK S q ≠ 21) (e : S1 = putI S i q v) : RdO S1 x b n σ := h.fm (N := fun y => y = q) (by rw [e]; exact frM.pI (M := fun y => y = q) frM.rf rfl _ _) kx (fun z => hq (by rw [← z]; exact kx)) (fun t ht z => hq2 (by rw [← z]; exact ht))
theorem k_X3_readZone (l : Launch) (D : va_G) (T : Nat → ClassId) (x0 : Nat) (p0 : Nat) (S : HS) (e0 : Nat → Int32) (e1 : Nat) (e2 : PS) (hx0 : hK S x0 = 4) (hp0 : hK S p0 = 8) (h : RdO S x0 e0 e1 e2) : CMv l yX3_readZone (ws_X3_readZone) rm_X3_readZone D T [.ref x0, .ref p0] S 0 0 (fun S1 => (frM S S1 (fun b => b = x0 ∨ b = p0) ∧ RdO S1 x0 e0 e1 (nbF e0 e1 (ndS e0 e1 (dgS e0 e1 e2 1 9) 58)).2 ∧ hI S1 161 p0 = dgV e0 e1 e2 1 9 ∧ hI S1 162 p0 = (nbF e0 e1 (ndS e0 e1 (dgS e0 e1 e2 1 9) 58)).1 ∧ (∀ i, i ≠ 161 → i ≠ 162 → hI S1 i p0 = hI S i p0) ∧ hR S1 = hR S ∧ hK S1 = hK S ∧ hN S1 = hN S)) := c_X3_readZone l D T x0 p0 S hx0 hp0 _ <|
  (by
    have hne : p0 ≠ x0 := fun z => by rw [z, hx0] at hp0; exact absurd hp0 (by decide)
    unfold wp_X3_readZone
    refine ⟨e0, e1, e2, 1, 9, ⟨h, rfl, rfl, 1, 9, by decide, by decide, rfl, rfl⟩, fun v6 S1 _ h1 => ?_⟩
    obtain ⟨ev, cc1, R1⟩ := h1
    intro S11 e11
    have k1 : hK S1 = hK S := cc1.1
    have R11 := R1.pI (by rw [k1]; exact hx0) (by rw [k1, hp0]; decide) (by rw [k1, hp0]; decide) e11
    have k11 : hK S11 = hK S := by rw [e11, px_KI]; exact k1
    refine ⟨e0, e1, _, ⟨R11, by decide⟩, fun S17 _ h17 => ?_⟩
    obtain ⟨cc17, R17⟩ := h17
    refine ⟨e0, e1, _, R17, fun v30 S25 _ h25 => ?_⟩
    obtain ⟨ev2, cc25, R25⟩ := h25
    intro S35 e35
    have k25 : hK S25 = hK S := cc25.1.trans (cc17.1.trans k11)
    have R35 := R25.pI (by rw [k25]; exact hx0) (by rw [k25, hp0]; decide) (by rw [k25, hp0]; decide) e35
    have F : frM S S35 (fun b => b = x0 ∨ b = p0) := by
      have f1 : frM S S11 (fun b => b = x0 ∨ b = p0) := by rw [e11]; exact frM.pI (M := fun b => b = x0 ∨ b = p0) (cc1.fm.sub (fun _ z => Or.inl z)) (Or.inr rfl) _ _
      have f2 := (f1.nw cc17.fm (fun _ _ z => Or.inl z)).nw cc25.fm (fun _ _ z => Or.inl z)
      rw [e35]
      exact frM.pI (M := fun b => b = x0 ∨ b = p0) f2 (Or.inr rfl) _ _
    have ip : ∀ i, hI S25 i p0 = hI S11 i p0 := fun i => (cc25.2.2.2.2.2 i p0 (Or.inl hne)).trans (cc17.2.2.2.2.2 i p0 (Or.inl hne))
    have ip1 : ∀ i, hI S1 i p0 = hI S i p0 := fun i => cc1.2.2.2.2.2 i p0 (Or.inl hne)
    refine ⟨F, R35, ?_, ?_, fun i h1 h2 => ?_, ?_, ?_, ?_⟩
    · rw [e35, px_II, if_neg (fun z => absurd z.1 (by decide)), ip, e11, putI_s, ev]
    · rw [e35, putI_s, ev2]
    · rw [e35, px_II, if_neg (fun z => h2 z.1), ip, e11, px_II, if_neg (fun z => h1 z.1), ip1]
    · rw [e35, px_RI, cc25.2.2.1, cc17.2.2.1, e11, px_RI, cc1.2.2.1]
    · rw [e35, px_KI]; exact k25
    · rw [e35, px_NI, cc25.2.1, cc17.2.1, e11, px_NI, cc1.2.1])
theorem ix1 (c : Int32) : ixZ 1 c = kindF c := by
  show ixL c [104, 119, 110, 108, 122] 0 = kindF c
  unfold kindF
  by_cases h1 : c = 104
  · subst h1; rfl
  by_cases h2 : c = 119
  · subst h2; rfl
  by_cases h3 : c = 110
  · subst h3; rfl
  by_cases h4 : c = 108
  · subst h4; rfl
  by_cases h5 : c = 122
  · subst h5; rfl
  rw [if_neg h1, if_neg h2, if_neg h3, if_neg h4, if_neg h5, ixL, if_neg (fun z => h1 z.symm), ixL, if_neg (fun z => h2 z.symm), ixL, if_neg (fun z => h3 z.symm), ixL, if_neg (fun z => h4 z.symm), ixL, if_neg (fun z => h5 z.symm), ixL]
theorem ix2 (c : Int32) : ixZ 2 c = compF c := by
  show ixL c [60, 62, 61] 0 = compF c
  unfold compF
  by_cases h1 : c = 60
  · subst h1; rfl
  by_cases h2 : c = 62
  · subst h2; rfl
  by_cases h3 : c = 61
  · subst h3; rfl
  rw [if_neg h1, if_neg h2, if_neg h3, ixL, if_neg (fun z => h1 z.symm), ixL, if_neg (fun z => h2 z.symm), ixL, if_neg (fun z => h3 z.symm), ixL]
theorem toB_k {b : Nat → Int32} {n : Nat} {σ : PS} : toB b n σ 1 = (!σ.2 && decide (0 ≤ kindF (sg b n σ))) := by
  unfold toB sg
  by_cases h : σ.1 < n
  · rw [if_pos h, decide_eq_true h, Bool.true_and, ix1]
  · rw [if_neg h, decide_eq_false h, Bool.false_and, decide_eq_false (show ¬ 0 ≤ kindF (-1) by decide)]
theorem toB_c {b : Nat → Int32} {n : Nat} {σ : PS} : toB b n σ 2 = (!σ.2 && decide (0 ≤ compF (sg b n σ))) := by
  unfold toB sg
  by_cases h : σ.1 < n
  · rw [if_pos h, decide_eq_true h, Bool.true_and, ix2]
  · rw [if_neg h, decide_eq_false h, Bool.false_and, decide_eq_false (show ¬ 0 ≤ compF (-1) by decide)]
theorem toB_in {b : Nat → Int32} {n i : Nat} {σ : PS} (h : toB b n σ i = true) : σ.2 = false ∧ σ.1 < n ∧ sg b n σ = b σ.1 := by
  unfold toB at h
  rw [Bool.and_eq_true, Bool.and_eq_true, decide_eq_true_eq] at h
  refine ⟨by cases hs : σ.2; rfl; rw [hs] at h; exact absurd h.1 (by decide), h.2.1, ?_⟩
  unfold sg
  rw [if_pos h.2.1]
theorem nbF_bad {b : Nat → Int32} {n p : Nat} : nbF b n (p, true) = (0, (p, true)) := by
  unfold nbF
  have e3 : dgB b n (p, true) 0 9 = false := by unfold dgB; rfl
  have e1 : dgV b n (p, true) 0 9 = 0 := by unfold dgV; rw [e3]; rfl
  have e2 : dgS b n (p, true) 0 9 = (p, true) := by unfold dgS; rw [e3]; rfl
  rw [e1, e2, nbL, e3]
  rfl
theorem let_kind {c : Int32} (h : 0 ≤ kindF c) : letF (kindF c) = c := by
  unfold kindF at h ⊢
  by_cases h1 : c = 104
  · subst h1; rfl
  by_cases h2 : c = 119
  · subst h2; rfl
  by_cases h3 : c = 110
  · subst h3; rfl
  by_cases h4 : c = 108
  · subst h4; rfl
  by_cases h5 : c = 122
  · subst h5; rfl
  rw [if_neg h1, if_neg h2, if_neg h3, if_neg h4, if_neg h5] at h
  exact absurd h (by decide)

end S_C6D
