section S_C8C
abbrev ws_X3_readStatement : List Cond := Cond.code yX3_readStatement cX3_readStatement 2 (some (.object "FreightRater$Statement")) :: W0
abbrev rm_X3_readStatement : Room := ({ frames := 21, cells := 0, slots := 0, locals := 786 } : Room)
def wp_X3_readStatement (T : Nat → ClassId) (P : Option Nat → HS → Prop) (x0 : Nat) (S : HS) (mc ms : Nat) : Prop := (1 ≤ mc ∧ 5 ≤ ms) ∧ (∀ q1 : Nat, hK S q1 = 0 → zr S q1 → (∀ S8 : HS, S8 = newO S q1 8 → (∃ (m14 : Nat → Int32) (m15 : Nat) (m16 : PS), ((RdO S8 x0 m14 m15 m16 ∧ chO m14 m15) ∧ (∀ (v23 : Int32) (S18 : HS), ext S8 S18 → (v23 = (if toB m14 m15 m16 0 = true then m14 m16.1 else 0) ∧ c3 S8 S18 x0 [82, 83] ∧ RdO S18 x0 m14 m15 (toS m14 m15 m16 0)) → (∀ (S27 : HS), ext S18 S27 → (S27 = putI S18 160 q1 v23) → (∀ v35 : Int32, v35 = (hI S27 160 q1) → ((v35 = 97 → (∃ (m37 : Nat → Int32) (m38 : Nat) (m39 : PS) (m40 : Int32) (m41 : Int32), ((RdO S27 x0 m37 m38 m39 ∧ 48 = 48 + m40 ∧ 57 = 48 + m41 ∧ dix m40 m41) ∧ (∀ (v48 : Int32) (S43 : HS), ext S27 S43 → (v48 = dgV m37 m38 m39 m40 m41 ∧ c3 S27 S43 x0 [82, 83] ∧ RdO S43 x0 m37 m38 (dgS m37 m38 m39 m40 m41)) → (∀ S53 : HS, S53 = putI S43 161 q1 v48 → (∃ (m59 : Nat → Int32) (m60 : Nat) (m61 : PS), ((RdO S53 x0 m59 m60 m61 ∧ ¬ 58 = (-1 : Int32)) ∧ (∀ (S63 : HS), ext S53 S63 → (c3 S53 S63 x0 [82, 83] ∧ RdO S63 x0 m59 m60 (ndS m59 m60 m61 58)) → (∃ cc71 cc72 : Nat, (cc71 ≤ (mc - 1) ∧ cc72 ≤ (ms - 5)) ∧ (∃ (m74 : Nat → Int32) (m75 : Nat) (m76 : PS) (m77 : (Nat → Prop)), ((RdO S63 x0 m74 m75 m76 ∧ chO m74 m75 ∧ hK S63 (T 120) = 30 ∧ hN S63 (T 120) = 0 ∧ (∀ b, m77 b → hK S63 b ≠ 0) ∧ ¬ m77 (T 120) ∧ 2 + 2 * (axR m74 m75 m76).1.2.2.1.1.length ≤ cc71 ∧ 8 + 405 * (axR m74 m75 m76).1.2.2.1.1.length ≤ cc72) ∧ (∀ (o84 : Option Nat) (S79 : HS), ext S63 S79 → (∀ b, o84 = some b → hK S79 b = 1) → (frM S63 S79 (fun b => b = x0) ∧ RdO S79 x0 m74 m75 (axR m74 m75 m76).2 ∧ ∃ y, o84 = some y ∧ hK S63 y = 0 ∧ ((axR m74 m75 m76).2.2 = false → AxO S79 m77 (T 120) y (axR m74 m75 m76).1)) → (∃ b88 : Nat, o84 = some b88 ∧ (hK S79 b88 = 1 → (∀ S91 : HS, S91 = putR S79 164 q1 (some b88) → (P (some q1) S91)))))))))))))))) ∧ (¬ v35 = 97 → ((v35 = 98 → (∃ (m98 : Nat → Int32) (m99 : Nat) (m100 : PS), ((RdO S27 x0 m98 m99 m100) ∧ (∀ (S102 : HS), ext S27 S102 → (frM S27 S102 (fun b => b = x0 ∨ b = q1) ∧ RdO S102 x0 m98 m99 (nbF m98 m99 (ndS m98 m99 (dgS m98 m99 m100 1 9) 58)).2 ∧ hI S102 161 q1 = dgV m98 m99 m100 1 9 ∧ hI S102 162 q1 = (nbF m98 m99 (ndS m98 m99 (dgS m98 m99 m100 1 9) 58)).1 ∧ (∀ i, i ≠ 161 → i ≠ 162 → hI S102 i q1 = hI S27 i q1) ∧ hR S102 = hR S27 ∧ hK S102 = hK S27 ∧ hN S102 = hN S27) → (∃ (m110 : Nat → Int32) (m111 : Nat) (m112 : PS), ((RdO S102 x0 m110 m111 m112 ∧ ¬ 42 = (-1 : Int32)) ∧ (∀ (S114 : HS), ext S102 S114 → (c3 S102 S114 x0 [82, 83] ∧ RdO S114 x0 m110 m111 (ndS m110 m111 m112 42)) → (∃ (m122 : Nat → Int32) (m123 : Nat) (m124 : PS), ((RdO S114 x0 m122 m123 m124) ∧ (∀ (v131 : Int32) (S126 : HS), ext S114 S126 → (v131 = (nbF m122 m123 m124).1 ∧ c3 S114 S126 x0 [82, 83] ∧ RdO S126 x0 m122 m123 ((nbF m122 m123 m124).2)) → (∀ S136 : HS, S136 = putI S126 163 q1 v131 → (P (some q1) S136)))))))))))) ∧ (¬ v35 = 98 → ((v35 = 109 → (∃ (m143 : Nat → Int32) (m144 : Nat) (m145 : PS), ((RdO S27 x0 m143 m144 m145) ∧ (∀ (S147 : HS), ext S27 S147 → (frM S27 S147 (fun b => b = x0 ∨ b = q1) ∧ RdO S147 x0 m143 m144 (nbF m143 m144 (ndS m143 m144 (dgS m143 m144 m145 1 9) 58)).2 ∧ hI S147 161 q1 = dgV m143 m144 m145 1 9 ∧ hI S147 162 q1 = (nbF m143 m144 (ndS m143 m144 (dgS m143 m144 m145 1 9) 58)).1 ∧ (∀ i, i ≠ 161 → i ≠ 162 → hI S147 i q1 = hI S27 i q1) ∧ hR S147 = hR S27 ∧ hK S147 = hK S27 ∧ hN S147 = hN S27) → (P (some q1) S147))))) ∧ (¬ v35 = 109 → ((v35 = 114 → (∃ (m156 : Nat → Int32) (m157 : Nat) (m158 : PS) (m159 : Int32) (m160 : Int32), ((RdO S27 x0 m156 m157 m158 ∧ 48 = 48 + m159 ∧ 57 = 48 + m160 ∧ dix m159 m160) ∧ (∀ (v167 : Int32) (S162 : HS), ext S27 S162 → (v167 = dgV m156 m157 m158 m159 m160 ∧ c3 S27 S162 x0 [82, 83] ∧ RdO S162 x0 m156 m157 (dgS m156 m157 m158 m159 m160)) → (∀ S172 : HS, S172 = putI S162 161 q1 v167 → (P (some q1) S172)))))) ∧ (¬ v35 = 114 → ((v35 = 122 → (∃ (m179 : Nat → Int32) (m180 : Nat) (m181 : PS), ((RdO S27 x0 m179 m180 m181) ∧ (∀ (S183 : HS), ext S27 S183 → (frM S27 S183 (fun b => b = x0 ∨ b = q1) ∧ RdO S183 x0 m179 m180 (nbF m179 m180 (ndS m179 m180 (dgS m179 m180 m181 1 9) 58)).2 ∧ hI S183 161 q1 = dgV m179 m180 m181 1 9 ∧ hI S183 162 q1 = (nbF m179 m180 (ndS m179 m180 (dgS m179 m180 m181 1 9) 58)).1 ∧ (∀ i, i ≠ 161 → i ≠ 162 → hI S183 i q1 = hI S27 i q1) ∧ hR S183 = hR S27 ∧ hK S183 = hK S27 ∧ hN S183 = hN S27) → (∃ (m191 : Nat → Int32) (m192 : Nat) (m193 : PS), ((RdO S183 x0 m191 m192 m193 ∧ ¬ 45 = (-1 : Int32)) ∧ (∀ (S195 : HS), ext S183 S195 → (c3 S183 S195 x0 [82, 83] ∧ RdO S195 x0 m191 m192 (ndS m191 m192 m193 45)) → (∃ (m203 : Nat → Int32) (m204 : Nat) (m205 : PS), ((RdO S195 x0 m203 m204 m205) ∧ (∀ (v212 : Int32) (S207 : HS), ext S195 S207 → (v212 = (nbF m203 m204 m205).1 ∧ c3 S195 S207 x0 [82, 83] ∧ RdO S207 x0 m203 m204 ((nbF m203 m204 m205).2)) → (∀ S217 : HS, S217 = putI S207 163 q1 v212 → (P (some q1) S217)))))))))))) ∧ (¬ v35 = 122 → (∃ (m223 : Nat → Int32) (m224 : Nat) (m225 : PS), ((RdO S27 x0 m223 m224 m225) ∧ (∀ (v232 : Int32) (S227 : HS), ext S27 S227 → (v232 = (nbF m223 m224 m225).1 ∧ c3 S27 S227 x0 [82, 83] ∧ RdO S227 x0 m223 m224 ((nbF m223 m224 m225).2)) → (∀ S237 : HS, S237 = putI S227 162 q1 v232 → (P (some q1) S237))))))))))))))))))))))
set_option maxRecDepth 100000 in
set_option maxHeartbeats 4000000 in
theorem t_X3_readStatement {p : Program} {l : Launch} {e : Env} {s : State} {m : MethodId} {args : Array Value} {below : List Frame} {meth : Method} {c : Code} {D : va_G} {A : Nat → Prop} {T : Nat → ClassId} (C : GC p s m args meth c cX3_readStatement "FreightRater$Reader" (ws_X3_readStatement) 2 D A (zty T)) (E : GE T A s) (hr : meth.sig.returnType = (some (.object "FreightRater$Statement"))) (P : Option Nat → HS → Prop) : ∀ (x0 : Nat) (S0 S : HS) (mc ms : Nat) (L : List Nat), S0 = S → wt S → hL S L → (hK S x0 = 4) → wp_X3_readStatement T P x0 S mc ms → GW p l e { rm_X3_readStatement with cells := mc, slots := ms } s m args below meth c D A 2 mc ms (MQ below (va_Qq (fun v (u : HS × List Nat) => (P v u.1 ∧ ∀ b, v = some b → hK u.1 b = 8) ∧ CO S0 u) (CE D T A) A) args s mc ms A) (CW T S L) mc ms 0 [(0, .ref x0)] [] := by
  have hW : ∀ {w : Cond}, w ∈ W0 → w.before args s = true := fun h => C.2.2.2.2.1 _ (List.mem_cons_of_mem _ h)
  intro x0 S0 S mc ms L hS0 hw hL hx0 h
  have he : ext S0 S := by rw [hS0]; exact ext_rf
  unfold wp_X3_readStatement at h
  obtain ⟨g2, h⟩ := h
  refine gc_new (kd := 8) (N := 5) C E hw hL (Nat.le_refl _) (Nat.le_refl _) iwx_X7 tyX7 tyX7_ok (by decide) (by decide) rfl (fun j hj => by rcases (show j = 0 ∨ j = 1 ∨ j = 2 ∨ j = 3 ∨ j = 4 by omega) with rfl | rfl | rfl | rfl | rfl <;> rfl) (hW kw_591) (hW kw_592) (hW kw_23) g2.1 g2.2 dX3_readStatement_0 (fun q1 h0q1 zq1 => ?_)
  replace h := h q1 h0q1 zq1
  have g3 := newO_old 8 hx0 (by decide) h0q1
  have w4 := wt_newO hw 8 h0q1 (by decide)
  have w5 := hL_new (S' := newO S q1 8) hL (show 8 ≠ 0 by decide) rfl
  have w6 := ext_newO he h0q1 8
  have g7 := newO_self S q1 8
  refine gc_nS (fun S8 eS8 => ?_)
  replace h := h S8 eS8
  have w9 : wt S8 := by rw [eS8]; exact w4
  have w10 : isL S8 (L ++ [q1]) := by rw [eS8]; exact w5
  have w11 : ext S0 S8 := by rw [eS8]; exact w6
  have g12 : hK S8 q1 = 8 := by rw [eS8]; exact g7
  have g13 : hK S8 x0 = 4 := by rw [eS8]; exact g3
  refine g_dup C dX3_readStatement_3 rfl ?_
  refine g_aload_n C dX3_readStatement_4 rfl 0 rfl ?_
  refine gt_ldc C E.2.2.2.2.2.2.2.1 dX3_readStatement_5 ?_
  obtain ⟨m14, m15, m16, h⟩ := h
  obtain ⟨g17, h⟩ := h
  refine gc_calliV (host := "") C E w9 w10 g13 (by decide) (by decide) rfl [.ref (T (100 + 0))] rfl (k_X3_takeOneOf l D T x0 0 S8 m14 m15 m16 g13 (show 0 < 3 by decide) g17) (w0_V 1 C.2.2.2.2.1 kw_594 kw_596 ks_3 kw_19 kw_597 rfl rfl (by decide +kernel) ⟨Nat.le_of_ble_eq_true rfl, Nat.le_of_ble_eq_true rfl⟩) rfl (Nat.le_of_ble_eq_true rfl) (Nat.le_refl _) (Nat.le_refl _) (Nat.zero_le _) (Nat.zero_le _) dX3_readStatement_7 (fun v23 S18 L19 e20 w21 w22 hp => ?_)
  replace h := h v23 S18 e20 hp
  have g24 := ext_K e20 g12 (by decide)
  have g25 := ext_K e20 g13 (by decide)
  have w26 := ext_tr w11 e20
  refine gc_callvI (host := "") (ret := none) C E w21 w22 [.int v23] rfl (k_X7_init l D T q1 v23 S18 g24) (w0_I 1 C.2.2.2.2.1 kw_681 kw_682 kw_23 kw_683 rfl rfl rfl (by decide +kernel) ⟨Nat.le_of_ble_eq_true rfl, Nat.le_of_ble_eq_true rfl⟩) rfl (Nat.le_of_ble_eq_true rfl) (Nat.le_refl _) (Nat.le_refl _) (Nat.zero_le _) (Nat.zero_le _) dX3_readStatement_10 (fun S27 L28 e29 w30 w31 hp => ?_)
  replace h := h S27 e29 hp
  have g32 := ext_K e29 g24 (by decide)
  have g33 := ext_K e29 g25 (by decide)
  have w34 := ext_tr w26 e29
  refine g_astore_n (lv' := [(1, .ref q1), (0, .ref x0)]) C dX3_readStatement_13 rfl (by decide) rfl ?_
  refine g_aload_n C dX3_readStatement_14 rfl 0 rfl ?_
  refine gc_getI C iwx_X7 w31 g32 (by decide) (by decide) rfl 0 (by decide) (hW kw_686) rfl rfl rfl dX3_readStatement_15 ?_
  refine g_topi (fun v35 ev35 => ?_)
  replace h := h v35 ev35
  rcases Decidable.em (v35 = 97) with z36 | z36
  · refine g_lookup (off := 102) (tgt := 120) C dX3_readStatement_18 (by decide) (by rw [z36]; decide) (by decide) ?_
    replace h := h.1 z36
    refine g_aload_n C dX3_readStatement_120 rfl 0 rfl ?_
    refine g_aload_n C dX3_readStatement_121 rfl 1 rfl ?_
    refine g_bipush (v := 48) C dX3_readStatement_122 (by decide) ?_
    refine g_bipush (v := 57) C dX3_readStatement_124 (by decide) ?_
    obtain ⟨m37, m38, m39, m40, m41, h⟩ := h
    obtain ⟨g42, h⟩ := h
    refine gc_calliV (host := "") C E w30 w31 g33 (by decide) (by decide) rfl [.int 48, .int 57] rfl (k_X3_readDigit l D T x0 48 57 S27 m37 m38 m39 m40 m41 g33 g42) (w0_V 2 C.2.2.2.2.1 kw_711 kw_713 ks_5 kw_19 kw_714 rfl rfl (by decide +kernel) ⟨Nat.le_of_ble_eq_true rfl, Nat.le_of_ble_eq_true rfl⟩) rfl (Nat.le_of_ble_eq_true rfl) (Nat.le_refl _) (Nat.le_refl _) (Nat.zero_le _) (Nat.zero_le _) dX3_readStatement_126 (fun v48 S43 L44 e45 w46 w47 hp => ?_)
    replace h := h v48 S43 e45 hp
    have g49 := ext_K e45 g32 (by decide)
    have g50 := ext_K e45 g33 (by decide)
    have w51 := ext_tr w34 e45
    refine gc_putI C iwx_X7 w47 g49 (by decide) (by decide) rfl 1 (by decide) (hW kw_688) rfl tyX7 tyX7_ok nmX7 rfl rfl rfl rfl rfl dX3_readStatement_129 ?_
    have w52 := wt_putI w46 161 v48 (k_ne g49 (by decide))
    refine gc_nS (fun S53 eS53 => ?_)
    replace h := h S53 eS53
    have w54 : wt S53 := by rw [eS53]; exact w52
    have w55 : isL S53 L44 := by rw [eS53]; exact w47
    have w56 : ext S0 S53 := by rw [eS53]; exact w51
    have g57 : hK S53 q1 = 8 := by rw [eS53]; exact g49
    have g58 : hK S53 x0 = 4 := by rw [eS53]; exact g50
    refine g_aload_n C dX3_readStatement_132 rfl 1 rfl ?_
    refine g_bipush (v := 58) C dX3_readStatement_133 (by decide) ?_
    obtain ⟨m59, m60, m61, h⟩ := h
    obtain ⟨g62, h⟩ := h
    refine gc_callvV (host := "") C E w54 w55 g58 (by decide) (by decide) rfl [.int 58] rfl (k_X3_expect l D T x0 58 S53 m59 m60 m61 g58 g62) (w0_V 1 C.2.2.2.2.1 kw_715 kw_717 ks_6 kw_19 kw_718 rfl rfl (by decide +kernel) ⟨Nat.le_of_ble_eq_true rfl, Nat.le_of_ble_eq_true rfl⟩) rfl (Nat.le_of_ble_eq_true rfl) (Nat.le_refl _) (Nat.le_refl _) (Nat.zero_le _) (Nat.zero_le _) dX3_readStatement_135 (fun S63 L64 e65 w66 w67 hp => ?_)
    replace h := h S63 e65 hp
    have g68 := ext_K e65 g57 (by decide)
    have g69 := ext_K e65 g58 (by decide)
    have w70 := ext_tr w56 e65
    refine g_aload_n C dX3_readStatement_138 rfl 0 rfl ?_
    refine g_aload_n C dX3_readStatement_139 rfl 1 rfl ?_
    obtain ⟨cc71, cc72, g73, h⟩ := h
    obtain ⟨m74, m75, m76, m77, h⟩ := h
    obtain ⟨g78, h⟩ := h
    refine gc_callqV (host := "") C E w66 w67 g69 (by decide) (by decide) rfl [] rfl (k_X3_readAccessorial l D T x0 S63 m74 m75 m76 m77 cc71 cc72 g69 g78) (w0_V 0 C.2.2.2.2.1 kw_727 kw_729 ks_9 kw_19 kw_730 rfl rfl (by decide +kernel) ⟨Nat.le_of_ble_eq_true rfl, Nat.le_of_ble_eq_true rfl⟩) rfl (Nat.le_of_ble_eq_true rfl) (Nat.le_refl _) (Nat.le_refl _) g73.1 g73.2 dX3_readStatement_140 (fun o84 S79 L80 e81 w82 w83 ko84 hp => ?_)
    replace h := h o84 S79 e81 ko84 hp
    have g85 := ext_K e81 g68 (by decide)
    have g86 := ext_K e81 g69 (by decide)
    have w87 := ext_tr w70 e81
    obtain ⟨b88, rfl, h⟩ := h
    have g89 : hK S79 b88 = 1 := ko84 b88 rfl
    replace h := h g89
    refine gc_putR C iwx_X7 w83 g85 (by decide) (by decide) rfl 4 (by decide) (hW kw_694) rfl tyX7 tyX7_ok nmX7 rfl rfl rfl (some b88) rfl rfl dX3_readStatement_143 ?_
    have w90 := wt_putR w82 164 (some b88) (k_ne g85 (by decide)) (fun b hb => by cases hb; exact g89) (by decide)
    refine gc_nS (fun S91 eS91 => ?_)
    replace h := h S91 eS91
    have w92 : wt S91 := by rw [eS91]; exact w90
    have w93 : isL S91 L80 := by rw [eS91]; exact w83
    have w94 : ext S0 S91 := by rw [eS91]; exact w87
    have g95 : hK S91 q1 = 8 := by rw [eS91]; exact g85
    have g96 : hK S91 x0 = 4 := by rw [eS91]; exact g86
    refine g_goto (tgt := 172) C dX3_readStatement_146 (by decide) ?_
    refine g_aload_n C dX3_readStatement_172 rfl 0 rfl ?_
    exact gc_aret (v := (some q1)) (kd := 8) C (Or.inl ⟨_, rfl⟩) (fun b hb => by cases hb; exact g95) w92 w93 w94 hr dX3_readStatement_173 h
  replace h := h.2 z36
  rcases Decidable.em (v35 = 98) with z97 | z97
  · refine g_lookup (off := 72) (tgt := 90) C dX3_readStatement_18 (by decide) (by rw [z97]; decide) (by decide) ?_
    replace h := h.1 z97
    refine g_aload_n C dX3_readStatement_90 rfl 1 rfl ?_
    refine g_aload_n C dX3_readStatement_91 rfl 0 rfl ?_
    obtain ⟨m98, m99, m100, h⟩ := h
    obtain ⟨g101, h⟩ := h
    refine gc_callvV (host := "") C E w30 w31 g33 (by decide) (by decide) rfl [.ref q1] rfl (k_X3_readZone l D T x0 q1 S27 m98 m99 m100 g33 g32 g101) (w0_V 1 C.2.2.2.2.1 kw_707 kw_709 ks_4 kw_19 kw_710 rfl rfl (by decide +kernel) ⟨Nat.le_of_ble_eq_true rfl, Nat.le_of_ble_eq_true rfl⟩) rfl (Nat.le_of_ble_eq_true rfl) (Nat.le_refl _) (Nat.le_refl _) (Nat.zero_le _) (Nat.zero_le _) dX3_readStatement_92 (fun S102 L103 e104 w105 w106 hp => ?_)
    replace h := h S102 e104 hp
    have g107 := ext_K e104 g32 (by decide)
    have g108 := ext_K e104 g33 (by decide)
    have w109 := ext_tr w34 e104
    refine g_aload_n C dX3_readStatement_95 rfl 1 rfl ?_
    refine g_bipush (v := 42) C dX3_readStatement_96 (by decide) ?_
    obtain ⟨m110, m111, m112, h⟩ := h
    obtain ⟨g113, h⟩ := h
    refine gc_callvV (host := "") C E w105 w106 g108 (by decide) (by decide) rfl [.int 42] rfl (k_X3_expect l D T x0 42 S102 m110 m111 m112 g108 g113) (w0_V 1 C.2.2.2.2.1 kw_715 kw_717 ks_6 kw_19 kw_718 rfl rfl (by decide +kernel) ⟨Nat.le_of_ble_eq_true rfl, Nat.le_of_ble_eq_true rfl⟩) rfl (Nat.le_of_ble_eq_true rfl) (Nat.le_refl _) (Nat.le_refl _) (Nat.zero_le _) (Nat.zero_le _) dX3_readStatement_98 (fun S114 L115 e116 w117 w118 hp => ?_)
    replace h := h S114 e116 hp
    have g119 := ext_K e116 g107 (by decide)
    have g120 := ext_K e116 g108 (by decide)
    have w121 := ext_tr w109 e116
    refine g_aload_n C dX3_readStatement_101 rfl 0 rfl ?_
    refine g_aload_n C dX3_readStatement_102 rfl 1 rfl ?_
    obtain ⟨m122, m123, m124, h⟩ := h
    obtain ⟨g125, h⟩ := h
    refine gc_calliV (host := "") C E w117 w118 g120 (by decide) (by decide) rfl [] rfl (k_X3_readNumber l D T x0 S114 m122 m123 m124 g120 g125) (w0_V 0 C.2.2.2.2.1 kw_723 kw_725 ks_8 kw_19 kw_726 rfl rfl (by decide +kernel) ⟨Nat.le_of_ble_eq_true rfl, Nat.le_of_ble_eq_true rfl⟩) rfl (Nat.le_of_ble_eq_true rfl) (Nat.le_refl _) (Nat.le_refl _) (Nat.zero_le _) (Nat.zero_le _) dX3_readStatement_103 (fun v131 S126 L127 e128 w129 w130 hp => ?_)
    replace h := h v131 S126 e128 hp
    have g132 := ext_K e128 g119 (by decide)
    have g133 := ext_K e128 g120 (by decide)
    have w134 := ext_tr w121 e128
    refine gc_putI C iwx_X7 w130 g132 (by decide) (by decide) rfl 3 (by decide) (hW kw_692) rfl tyX7 tyX7_ok nmX7 rfl rfl rfl rfl rfl dX3_readStatement_106 ?_
    have w135 := wt_putI w129 163 v131 (k_ne g132 (by decide))
    refine gc_nS (fun S136 eS136 => ?_)
    replace h := h S136 eS136
    have w137 : wt S136 := by rw [eS136]; exact w135
    have w138 : isL S136 L127 := by rw [eS136]; exact w130
    have w139 : ext S0 S136 := by rw [eS136]; exact w134
    have g140 : hK S136 q1 = 8 := by rw [eS136]; exact g132
    have g141 : hK S136 x0 = 4 := by rw [eS136]; exact g133
    refine g_goto (tgt := 172) C dX3_readStatement_109 (by decide) ?_
    refine g_aload_n C dX3_readStatement_172 rfl 0 rfl ?_
    exact gc_aret (v := (some q1)) (kd := 8) C (Or.inl ⟨_, rfl⟩) (fun b hb => by cases hb; exact g140) w137 w138 w139 hr dX3_readStatement_173 h
  replace h := h.2 z97
  rcases Decidable.em (v35 = 109) with z142 | z142
  · refine g_lookup (off := 94) (tgt := 112) C dX3_readStatement_18 (by decide) (by rw [z142]; decide) (by decide) ?_
    replace h := h.1 z142
    refine g_aload_n C dX3_readStatement_112 rfl 1 rfl ?_
    refine g_aload_n C dX3_readStatement_113 rfl 0 rfl ?_
    obtain ⟨m143, m144, m145, h⟩ := h
    obtain ⟨g146, h⟩ := h
    refine gc_callvV (host := "") C E w30 w31 g33 (by decide) (by decide) rfl [.ref q1] rfl (k_X3_readZone l D T x0 q1 S27 m143 m144 m145 g33 g32 g146) (w0_V 1 C.2.2.2.2.1 kw_707 kw_709 ks_4 kw_19 kw_710 rfl rfl (by decide +kernel) ⟨Nat.le_of_ble_eq_true rfl, Nat.le_of_ble_eq_true rfl⟩) rfl (Nat.le_of_ble_eq_true rfl) (Nat.le_refl _) (Nat.le_refl _) (Nat.zero_le _) (Nat.zero_le _) dX3_readStatement_114 (fun S147 L148 e149 w150 w151 hp => ?_)
    replace h := h S147 e149 hp
    have g152 := ext_K e149 g32 (by decide)
    have g153 := ext_K e149 g33 (by decide)
    have w154 := ext_tr w34 e149
    refine g_goto (tgt := 172) C dX3_readStatement_117 (by decide) ?_
    refine g_aload_n C dX3_readStatement_172 rfl 0 rfl ?_
    exact gc_aret (v := (some q1)) (kd := 8) C (Or.inl ⟨_, rfl⟩) (fun b hb => by cases hb; exact g152) w150 w151 w154 hr dX3_readStatement_173 h
  replace h := h.2 z142
  rcases Decidable.em (v35 = 114) with z155 | z155
  · refine g_lookup (off := 131) (tgt := 149) C dX3_readStatement_18 (by decide) (by rw [z155]; decide) (by decide) ?_
    replace h := h.1 z155
    refine g_aload_n C dX3_readStatement_149 rfl 0 rfl ?_
    refine g_aload_n C dX3_readStatement_150 rfl 1 rfl ?_
    refine g_bipush (v := 48) C dX3_readStatement_151 (by decide) ?_
    refine g_bipush (v := 57) C dX3_readStatement_153 (by decide) ?_
    obtain ⟨m156, m157, m158, m159, m160, h⟩ := h
    obtain ⟨g161, h⟩ := h
    refine gc_calliV (host := "") C E w30 w31 g33 (by decide) (by decide) rfl [.int 48, .int 57] rfl (k_X3_readDigit l D T x0 48 57 S27 m156 m157 m158 m159 m160 g33 g161) (w0_V 2 C.2.2.2.2.1 kw_711 kw_713 ks_5 kw_19 kw_714 rfl rfl (by decide +kernel) ⟨Nat.le_of_ble_eq_true rfl, Nat.le_of_ble_eq_true rfl⟩) rfl (Nat.le_of_ble_eq_true rfl) (Nat.le_refl _) (Nat.le_refl _) (Nat.zero_le _) (Nat.zero_le _) dX3_readStatement_155 (fun v167 S162 L163 e164 w165 w166 hp => ?_)
    replace h := h v167 S162 e164 hp
    have g168 := ext_K e164 g32 (by decide)
    have g169 := ext_K e164 g33 (by decide)
    have w170 := ext_tr w34 e164
    refine gc_putI C iwx_X7 w166 g168 (by decide) (by decide) rfl 1 (by decide) (hW kw_688) rfl tyX7 tyX7_ok nmX7 rfl rfl rfl rfl rfl dX3_readStatement_158 ?_
    have w171 := wt_putI w165 161 v167 (k_ne g168 (by decide))
    refine gc_nS (fun S172 eS172 => ?_)
    replace h := h S172 eS172
    have w173 : wt S172 := by rw [eS172]; exact w171
    have w174 : isL S172 L163 := by rw [eS172]; exact w166
    have w175 : ext S0 S172 := by rw [eS172]; exact w170
    have g176 : hK S172 q1 = 8 := by rw [eS172]; exact g168
    have g177 : hK S172 x0 = 4 := by rw [eS172]; exact g169
    refine g_goto (tgt := 172) C dX3_readStatement_161 (by decide) ?_
    refine g_aload_n C dX3_readStatement_172 rfl 0 rfl ?_
    exact gc_aret (v := (some q1)) (kd := 8) C (Or.inl ⟨_, rfl⟩) (fun b hb => by cases hb; exact g176) w173 w174 w175 hr dX3_readStatement_173 h
  replace h := h.2 z155
  rcases Decidable.em (v35 = 122) with z178 | z178
  · refine g_lookup (off := 50) (tgt := 68) C dX3_readStatement_18 (by decide) (by rw [z178]; decide) (by decide) ?_
    replace h := h.1 z178
    refine g_aload_n C dX3_readStatement_68 rfl 1 rfl ?_
    refine g_aload_n C dX3_readStatement_69 rfl 0 rfl ?_
    obtain ⟨m179, m180, m181, h⟩ := h
    obtain ⟨g182, h⟩ := h
    refine gc_callvV (host := "") C E w30 w31 g33 (by decide) (by decide) rfl [.ref q1] rfl (k_X3_readZone l D T x0 q1 S27 m179 m180 m181 g33 g32 g182) (w0_V 1 C.2.2.2.2.1 kw_707 kw_709 ks_4 kw_19 kw_710 rfl rfl (by decide +kernel) ⟨Nat.le_of_ble_eq_true rfl, Nat.le_of_ble_eq_true rfl⟩) rfl (Nat.le_of_ble_eq_true rfl) (Nat.le_refl _) (Nat.le_refl _) (Nat.zero_le _) (Nat.zero_le _) dX3_readStatement_70 (fun S183 L184 e185 w186 w187 hp => ?_)
    replace h := h S183 e185 hp
    have g188 := ext_K e185 g32 (by decide)
    have g189 := ext_K e185 g33 (by decide)
    have w190 := ext_tr w34 e185
    refine g_aload_n C dX3_readStatement_73 rfl 1 rfl ?_
    refine g_bipush (v := 45) C dX3_readStatement_74 (by decide) ?_
    obtain ⟨m191, m192, m193, h⟩ := h
    obtain ⟨g194, h⟩ := h
    refine gc_callvV (host := "") C E w186 w187 g189 (by decide) (by decide) rfl [.int 45] rfl (k_X3_expect l D T x0 45 S183 m191 m192 m193 g189 g194) (w0_V 1 C.2.2.2.2.1 kw_715 kw_717 ks_6 kw_19 kw_718 rfl rfl (by decide +kernel) ⟨Nat.le_of_ble_eq_true rfl, Nat.le_of_ble_eq_true rfl⟩) rfl (Nat.le_of_ble_eq_true rfl) (Nat.le_refl _) (Nat.le_refl _) (Nat.zero_le _) (Nat.zero_le _) dX3_readStatement_76 (fun S195 L196 e197 w198 w199 hp => ?_)
    replace h := h S195 e197 hp
    have g200 := ext_K e197 g188 (by decide)
    have g201 := ext_K e197 g189 (by decide)
    have w202 := ext_tr w190 e197
    refine g_aload_n C dX3_readStatement_79 rfl 0 rfl ?_
    refine g_aload_n C dX3_readStatement_80 rfl 1 rfl ?_
    obtain ⟨m203, m204, m205, h⟩ := h
    obtain ⟨g206, h⟩ := h
    refine gc_calliV (host := "") C E w198 w199 g201 (by decide) (by decide) rfl [] rfl (k_X3_readNumber l D T x0 S195 m203 m204 m205 g201 g206) (w0_V 0 C.2.2.2.2.1 kw_723 kw_725 ks_8 kw_19 kw_726 rfl rfl (by decide +kernel) ⟨Nat.le_of_ble_eq_true rfl, Nat.le_of_ble_eq_true rfl⟩) rfl (Nat.le_of_ble_eq_true rfl) (Nat.le_refl _) (Nat.le_refl _) (Nat.zero_le _) (Nat.zero_le _) dX3_readStatement_81 (fun v212 S207 L208 e209 w210 w211 hp => ?_)
    replace h := h v212 S207 e209 hp
    have g213 := ext_K e209 g200 (by decide)
    have g214 := ext_K e209 g201 (by decide)
    have w215 := ext_tr w202 e209
    refine gc_putI C iwx_X7 w211 g213 (by decide) (by decide) rfl 3 (by decide) (hW kw_692) rfl tyX7 tyX7_ok nmX7 rfl rfl rfl rfl rfl dX3_readStatement_84 ?_
    have w216 := wt_putI w210 163 v212 (k_ne g213 (by decide))
    refine gc_nS (fun S217 eS217 => ?_)
    replace h := h S217 eS217
    have w218 : wt S217 := by rw [eS217]; exact w216
    have w219 : isL S217 L208 := by rw [eS217]; exact w211
    have w220 : ext S0 S217 := by rw [eS217]; exact w215
    have g221 : hK S217 q1 = 8 := by rw [eS217]; exact g213
    have g222 : hK S217 x0 = 4 := by rw [eS217]; exact g214
    refine g_goto (tgt := 172) C dX3_readStatement_87 (by decide) ?_
    refine g_aload_n C dX3_readStatement_172 rfl 0 rfl ?_
    exact gc_aret (v := (some q1)) (kd := 8) C (Or.inl ⟨_, rfl⟩) (fun b hb => by cases hb; exact g221) w218 w219 w220 hr dX3_readStatement_173 h
  replace h := h.2 z178
  refine g_lookup (off := 146) (tgt := 164) C dX3_readStatement_18 (by decide) ((lv_osw z36 rfl).trans ((lv_osw z97 rfl).trans ((lv_osw z142 rfl).trans ((lv_osw z155 rfl).trans ((lv_osw z178 rfl).trans rfl))))) (by decide) ?_
  refine g_aload_n C dX3_readStatement_164 rfl 0 rfl ?_
  refine g_aload_n C dX3_readStatement_165 rfl 1 rfl ?_
  obtain ⟨m223, m224, m225, h⟩ := h
  obtain ⟨g226, h⟩ := h
  refine gc_calliV (host := "") C E w30 w31 g33 (by decide) (by decide) rfl [] rfl (k_X3_readNumber l D T x0 S27 m223 m224 m225 g33 g226) (w0_V 0 C.2.2.2.2.1 kw_723 kw_725 ks_8 kw_19 kw_726 rfl rfl (by decide +kernel) ⟨Nat.le_of_ble_eq_true rfl, Nat.le_of_ble_eq_true rfl⟩) rfl (Nat.le_of_ble_eq_true rfl) (Nat.le_refl _) (Nat.le_refl _) (Nat.zero_le _) (Nat.zero_le _) dX3_readStatement_166 (fun v232 S227 L228 e229 w230 w231 hp => ?_)
  replace h := h v232 S227 e229 hp
  have g233 := ext_K e229 g32 (by decide)
  have g234 := ext_K e229 g33 (by decide)
  have w235 := ext_tr w34 e229
  refine gc_putI C iwx_X7 w231 g233 (by decide) (by decide) rfl 2 (by decide) (hW kw_690) rfl tyX7 tyX7_ok nmX7 rfl rfl rfl rfl rfl dX3_readStatement_169 ?_
  have w236 := wt_putI w230 162 v232 (k_ne g233 (by decide))
  refine gc_nS (fun S237 eS237 => ?_)
  replace h := h S237 eS237
  have w238 : wt S237 := by rw [eS237]; exact w236
  have w239 : isL S237 L228 := by rw [eS237]; exact w231
  have w240 : ext S0 S237 := by rw [eS237]; exact w235
  have g241 : hK S237 q1 = 8 := by rw [eS237]; exact g233
  have g242 : hK S237 x0 = 4 := by rw [eS237]; exact g234
  refine g_aload_n C dX3_readStatement_172 rfl 0 rfl ?_
  exact gc_aret (v := (some q1)) (kd := 8) C (Or.inl ⟨_, rfl⟩) (fun b hb => by cases hb; exact g241) w238 w239 w240 hr dX3_readStatement_173 h
theorem c_X3_readStatement (l : Launch) (D : va_G) (T : Nat → ClassId) (x0 : Nat) (S : HS) (mc ms : Nat) (hx0 : hK S x0 = 4) (P : Option Nat → HS → Prop) (h : wp_X3_readStatement T P x0 S mc ms) : CMq l yX3_readStatement (ws_X3_readStatement) rm_X3_readStatement D T [.ref x0] S mc ms 8 P := gc_metq (by decide) rfl rfl (Nat.le_of_ble_eq_true rfl) (fun p e s m args below meth c A L C E hnm hr hw hL => t_X3_readStatement C E   hr P x0 S S mc ms L rfl hw hL hx0 h)
theorem RelT.mM {S : HS} {M M2 : Nat → Prop} {t n : Nat} {op : Prop} (h : RelT S M t n op) (hm : ∀ b, hK S b ≠ 0 → M2 b → M b) : RelT S M2 t n op := ⟨h.1, fun z => h.2.1 (hm t (nz_of h.1 (by decide)) z), h.2.2⟩
theorem RelT.op {S : HS} {M : Nat → Prop} {t n : Nat} {op op' : Prop} (h : RelT S M t n op) (e : op = op') : RelT S M t n op' := by
  rw [← e]; exact h
theorem RelA.mM {S : HS} {M M2 : Nat → Prop} {y v a : Nat} {μ : Nat → Int32} (h : RelA S M y μ v a) (hm : ∀ b, hK S b ≠ 0 → M2 b → M b) : RelA S M2 y μ v a := by
  obtain ⟨h1, h2, h3, h4, h5, h6, al, ar, g1, g2, g3, g4, g5, g6, g7, g8, g9⟩ := h
  refine ⟨h1, fun z => h2 (hm y (nz_of h1 (by decide)) z), h3, h4, h5, h6, al, ar, g1, g2, fun z => g3 (hm al (nz_of g2 (by decide)) z), g4, g5, fun z => g6 (hm ar (nz_of g5 (by decide)) z), g7, g8, fun j hj => ?_⟩
  obtain ⟨t, t1, t2⟩ := g9 j hj
  exact ⟨t, t1, t2.mM hm⟩
theorem StmR.mM {S : HS} {M M2 : Nat → Prop} {s : Nat} {y : STM} (h : StmR S M s y) (hm : ∀ b, hK S b ≠ 0 → M2 b → M b) : StmR S M2 s y := by
  obtain ⟨h1, h2, h3, h4, h5, h6⟩ := h
  refine ⟨h1, h2, h3, h4, h5, fun z => ?_⟩
  obtain ⟨t, t1, t2⟩ := h6 z
  exact ⟨t, t1, t2.mM hm⟩
theorem StmR.fm {S S1 : HS} {M : Nat → Prop} {s : Nat} {y : STM} (h : StmR S M s y) (hf : frM S S1 M) (hs : ¬ M s) (k0 : hK S s ≠ 0) : StmR S1 M s y := by
  obtain ⟨_, _, e, r, _⟩ := hf s hs k0
  obtain ⟨h1, h2, h3, h4, h5, h6⟩ := h
  refine ⟨by rw [e]; exact h1, fun z => by rw [e]; exact h2 z, fun z => by rw [e]; exact h3 z, fun z => by rw [e]; exact h4 z, fun z => by rw [e]; exact h5 z, fun z => ?_⟩
  obtain ⟨t, t1, t2⟩ := h6 z
  exact ⟨t, by rw [r]; exact t1, t2.fm hf⟩
theorem AxO.fx {S S1 : HS} {M N : Nat → Prop} {d y : Nat} {z : Int32 × Int32 × (List (Nat × TS) × Nat) × Int32} (h : AxO S M d y z) (hf : frM S S1 N) (he : ext S S1) (hN : ∀ c, hK S c = 1 ∨ hK S c = 13 ∨ hK S c = 30 ∨ hK S c = 9 → ¬ N c) : AxO S1 M d y z := by
  obtain ⟨hk, hM, i20, i21, i22, i23, al, r24, hal, hL, ar, r61, har⟩ := h
  have sy := hf y (hN y (Or.inl hk)) (nz_of hk (by decide))
  have hL' := hL
  obtain ⟨xs, ⟨k13, _, a9, q1, q2, _⟩, _⟩ := hL'
  have e9 := Option.some.inj (q1.symm.trans r61)
  have sl := hf al (hN al (Or.inr (Or.inl k13))) (nz_of k13 (by decide))
  refine ⟨by rw [sy.1]; exact hk, hM, by rw [sy.2.2.1]; exact i20, by rw [sy.2.2.1]; exact i21, by rw [sy.2.2.1]; exact i22, by rw [sy.2.2.1]; exact i23, al, by rw [sy.2.2.2.1]; exact r24, hal, hL.fx hf he (hN al (Or.inr (Or.inl k13))) (fun a ha => ?_) (fun q hq => hN q (Or.inr (Or.inr (Or.inr hq)))), ar, by rw [sl.2.2.2.1]; exact r61, har⟩
  rw [← Option.some.inj (q1.symm.trans ha)]
  exact hN a9 (Or.inr (Or.inr (Or.inl q2)))
theorem ts_row {t : TS} {row : Nat} (h : tsW t) (hr : row ≤ 30) : iv (tsE (nI row) t) / 300000 = row := by
  obtain ⟨kd, by_, v, e1, e2, e3, hk, hb, hv⟩ := h
  obtain ⟨mi, em, hm⟩ : ∃ mi : Nat, (if t.1 = true then 1 else 0) = mi ∧ mi ≤ 1 := ⟨_, rfl, by split <;> omega⟩
  rw [tsE_n e1 e2 e3 hk hb hv hr, em, show iv (nI (((((row * 2 + mi) * 5 + kd) * 3) + by_) * 10000 + v)) = ((((row * 2 + mi) * 5 + kd) * 3) + by_) * 10000 + v from nI_clamp (by omega)]
  omega
theorem gtl_in {l : List (Nat × TS)} {j : Nat} (h : j < l.length) : gtl l j ∈ l := by
  unfold gtl
  rw [List.getElem?_eq_getElem h]
  exact List.getElem_mem h
theorem AxO.rel {S : HS} {M : Nat → Prop} {d y rows : Nat} {nm kd xc : Int32} {l : List (Nat × TS)} (h : AxO S M d y (nm, kd, (l, rows), xc)) (hl : l.length ≤ 30) (hr : rows ≤ 30) (hy : ∀ z, z ∈ l → z.1 < rows ∧ tsW z.2) : RelA S M y (seF (fun _ => 0) 0 0 nm kd (nI rows) (nI l.length) (tvF l) xc) 0 0 := by
  obtain ⟨hk, hM, i20, i21, i22, i23, al, r24, hal, ⟨xs, ⟨k13, i262, a9, q1, q2, q3, q4, q5, q6, q7⟩, hX⟩, ar, r61, har⟩ := h
  have e9 := Option.some.inj (q1.symm.trans r61)
  subst e9
  have f1 : seF (fun _ => 0) 0 0 nm kd (nI rows) (nI l.length) (tvF l) xc (274 + 510 * 0 + 150 + 36 * 0 + 1) = nm := by rw [sef_v]; rfl
  have f2 : seF (fun _ => 0) 0 0 nm kd (nI rows) (nI l.length) (tvF l) xc (274 + 510 * 0 + 150 + 36 * 0 + 2) = kd := by rw [sef_v]; rfl
  have f3 : seF (fun _ => 0) 0 0 nm kd (nI rows) (nI l.length) (tvF l) xc (274 + 510 * 0 + 150 + 36 * 0 + 3) = nI rows := by rw [sef_v]; rfl
  have f4 : seF (fun _ => 0) 0 0 nm kd (nI rows) (nI l.length) (tvF l) xc (274 + 510 * 0 + 150 + 36 * 0 + 4) = nI l.length := by rw [sef_v]; rfl
  have f5 : seF (fun _ => 0) 0 0 nm kd (nI rows) (nI l.length) (tvF l) xc (274 + 510 * 0 + 150 + 36 * 0 + 5) = xc := by rw [sef_v]; rfl
  have f6 : ∀ j, j < l.length → seF (fun _ => 0) 0 0 nm kd (nI rows) (nI l.length) (tvF l) xc (274 + 510 * 0 + 150 + 36 * 0 + 6 + j) = tsE (nI (gtl l j).1) (gtl l j).2 := fun j hj => by
    rw [Nat.add_assoc, sef_v, if_pos ⟨by omega, by omega⟩, show 6 + j - 6 = j by omega, show iv (nI l.length) = l.length from nI_clamp (by omega), if_pos hj]
    unfold tvF gtl
    rw [List.getElem?_eq_getElem hj]
    rfl
  have el : iv (nI l.length) = l.length := nI_clamp (by omega)
  unfold RelA
  rw [f1, f2, f3, f4, f5]
  refine ⟨hk, hM, i20, i21, i22, i23, al, a9, r24, k13, hal, q1, q2, har, i262, by rw [el]; exact q3, fun j hj => ⟨xs j, ?_, ?_⟩⟩
  · rw [el] at hj; exact (q6 j hj).1
  · rw [el] at hj
    obtain ⟨w1, w2⟩ := hy _ (gtl_in hj)
    have q := (hX j hj).rel (row := (gtl l j).1) w2 (by omega)
    rw [f6 j hj]
    refine RelT.op q ?_
    unfold opL
    by_cases g : j = 0
    · rw [eq_true g, true_or, true_or]
    · obtain ⟨u1, u2⟩ := hy _ (gtl_in (l := l) (j := j - 1) (by omega))
      rw [show 274 + 510 * 0 + 150 + 36 * 0 + 6 + j - 1 = 274 + 510 * 0 + 150 + 36 * 0 + 6 + (j - 1) by omega, f6 (j - 1) (by omega), ts_row w2 (by omega), ts_row u2 (by omega)]
def letX (c : Int32) : Prop := c = 122 ∨ c = 98 ∨ c = 109 ∨ c = 100 ∨ c = 102 ∨ c = 115 ∨ c = 99 ∨ c = 97 ∨ c = 114
theorem ix0 (c : Int32) : 0 ≤ ixZ 0 c ↔ letX c := by
  show 0 ≤ ixL c [122, 98, 109, 100, 102, 115, 99, 97, 114] 0 ↔ letX c
  unfold letX
  constructor
  · intro h
    by_cases h1 : c = 122
    · exact Or.inl h1
    by_cases h2 : c = 98
    · exact Or.inr (Or.inl h2)
    by_cases h3 : c = 109
    · exact Or.inr (Or.inr (Or.inl h3))
    by_cases h4 : c = 100
    · exact Or.inr (Or.inr (Or.inr (Or.inl h4)))
    by_cases h5 : c = 102
    · exact Or.inr (Or.inr (Or.inr (Or.inr (Or.inl h5))))
    by_cases h6 : c = 115
    · exact Or.inr (Or.inr (Or.inr (Or.inr (Or.inr (Or.inl h6)))))
    by_cases h7 : c = 99
    · exact Or.inr (Or.inr (Or.inr (Or.inr (Or.inr (Or.inr (Or.inl h7))))))
    by_cases h8 : c = 97
    · exact Or.inr (Or.inr (Or.inr (Or.inr (Or.inr (Or.inr (Or.inr (Or.inl h8)))))))
    by_cases h9 : c = 114
    · exact Or.inr (Or.inr (Or.inr (Or.inr (Or.inr (Or.inr (Or.inr (Or.inr h9)))))))
    rw [ixL, if_neg (fun z => h1 z.symm), ixL, if_neg (fun z => h2 z.symm), ixL, if_neg (fun z => h3 z.symm), ixL, if_neg (fun z => h4 z.symm), ixL, if_neg (fun z => h5 z.symm), ixL, if_neg (fun z => h6 z.symm), ixL, if_neg (fun z => h7 z.symm), ixL, if_neg (fun z => h8 z.symm), ixL, if_neg (fun z => h9 z.symm), ixL] at h
    exact absurd h (by decide)
  · intro h
    rcases h with e | e | e | e | e | e | e | e | e <;> subst e <;> decide
theorem toB_0 {b : Nat → Int32} {n : Nat} {σ : PS} : toB b n σ 0 = (!σ.2 && decide (0 ≤ ixZ 0 (sg b n σ))) := by
  unfold toB sg
  by_cases h : σ.1 < n
  · rw [if_pos h, decide_eq_true h, Bool.true_and]
  · rw [if_neg h, decide_eq_false h, Bool.false_and, decide_eq_false (show ¬ 0 ≤ ixZ 0 (-1) from fun z => absurd ((ix0 _).mp z) (by unfold letX; decide))]
/-- a statement's reading under way: its object's numbers -/
def SmI (S0 S : HS) (x0 q : Nat) (b : Nat → Int32) (n : Nat) (σ : PS) (g : Nat → Int32) : Prop := ext S0 S ∧ frM S0 S (fun c => c = x0) ∧ RdO S x0 b n σ ∧ hK S q = 8 ∧ ∀ i, hI S i q = g i
theorem SmI.tk {S0 S S1 : HS} {x0 q n : Nat} {b g : Nat → Int32} {σ σ1 : PS} (h : SmI S0 S x0 q b n σ g) (kx0 : hK S0 x0 = 4) (he : ext S S1) (hc : c3 S S1 x0 [82, 83]) (hr : RdO S1 x0 b n σ1) : SmI S0 S1 x0 q b n σ1 g := by
  obtain ⟨h1, h2, h3, h4, h5⟩ := h
  have kx0' : hK S x0 = 4 := ext_K h1 kx0 (by decide)
  exact ⟨ext_tr h1 he, h2.nw hc.fm (fun _ _ z => z), hr, by rw [hc.1]; exact h4, fun i => by rw [hc.2.2.2.2.2 i q (Or.inl (fun z => by rw [z, kx0'] at h4; exact absurd h4 (by decide)))]; exact h5 i⟩
theorem SmI.pI {S0 S S1 : HS} {x0 q n i : Nat} {b g : Nat → Int32} {v : Int32} {σ : PS} (h : SmI S0 S x0 q b n σ g) (kx0 : hK S0 x0 = 4) (q0 : hK S0 q = 0) (e : S1 = putI S i q v) : SmI S0 S1 x0 q b n σ (fun j => if j = i then v else g j) := by
  obtain ⟨h1, h2, h3, h4, h5⟩ := h
  refine ⟨by rw [e]; exact ext_putI h1 _ _ _, ?_, h3.pI (ext_K h1 kx0 (by decide)) (by rw [h4]; decide) (by rw [h4]; decide) e, by rw [e, px_KI]; exact h4, fun j => ?_⟩
  · rw [e]
    exact h2.nw (N := fun c => c = q) (frM.pI (M := fun c => c = q) frM.rf rfl _ _) (fun c hc z => absurd q0 (by rw [← z]; exact hc))
  · rw [e, px_II]
    dsimp only
    by_cases c : j = i
    · rw [if_pos ⟨c, rfl⟩, if_pos c]
    · rw [if_neg (fun z => c z.1), if_neg c]; exact h5 j
theorem SmI.zo {S0 S S1 : HS} {x0 q n : Nat} {b g : Nat → Int32} {σ σ1 : PS} {d1 d2 : Int32} (h : SmI S0 S x0 q b n σ g) (q0 : hK S0 q = 0) (he : ext S S1) (hf : frM S S1 (fun c => c = x0 ∨ c = q)) (hr : RdO S1 x0 b n σ1) (i1 : hI S1 161 q = d1) (i2 : hI S1 162 q = d2) (ii : ∀ i, i ≠ 161 → i ≠ 162 → hI S1 i q = hI S i q) (hk : hK S1 = hK S) : SmI S0 S1 x0 q b n σ1 (fun j => if j = 161 then d1 else if j = 162 then d2 else g j) := by
  obtain ⟨h1, h2, h3, h4, h5⟩ := h
  refine ⟨ext_tr h1 he, h2.nw hf (fun c hc z => ?_), hr, by rw [hk]; exact h4, fun j => ?_⟩
  · rcases z with z | z
    · exact z
    · exact absurd q0 (by rw [← z]; exact hc)
  · dsimp only
    by_cases c : j = 161
    · rw [c, if_pos rfl]; exact i1
    · rw [if_neg c]
      by_cases c2 : j = 162
      · rw [c2, if_pos rfl]; exact i2
      · rw [if_neg c2, ii j c c2]; exact h5 j
theorem stR_z {b : Nat → Int32} {n : Nat} {σ : PS} (h : sg b n σ = 122 ∨ sg b n σ = 98 ∨ sg b n σ = 109) : stR b n σ = (((sg b n σ, (zoR b n (sg b n σ) (σ.1 + 1, σ.2)).1), ([], 0), 0), (zoR b n (sg b n σ) (σ.1 + 1, σ.2)).2) := by
  unfold stR
  rw [if_pos h]
theorem stR_d {b : Nat → Int32} {n : Nat} {σ : PS} (h : sg b n σ = 100 ∨ sg b n σ = 102 ∨ sg b n σ = 115 ∨ sg b n σ = 99) : stR b n σ = (((sg b n σ, (nbF b n (σ.1 + 1, σ.2)).1, 0, 0), ([], 0), 0), (nbF b n (σ.1 + 1, σ.2)).2) := by
  unfold stR
  rw [if_neg (by intro z; rcases h with h | h | h | h <;> rw [h] at z <;> revert z <;> decide), if_pos h]
theorem stR_a {b : Nat → Int32} {n : Nat} {σ : PS} (h : sg b n σ = 97) : stR b n σ = exR b n (σ.1 + 1, σ.2) := by
  unfold stR
  rw [h, if_neg (by decide), if_neg (by decide), if_pos rfl]
theorem stR_r {b : Nat → Int32} {n : Nat} {σ : PS} (h : sg b n σ = 114) : stR b n σ = (((114, dgV b n (σ.1 + 1, σ.2) 0 9, 0, 0), ([], 0), 0), dgS b n (σ.1 + 1, σ.2) 0 9) := by
  unfold stR
  rw [h, if_neg (by decide), if_neg (by decide), if_neg (by decide), if_pos rfl]
theorem stR_n {b : Nat → Int32} {n : Nat} {σ : PS} (h : ¬ letX (sg b n σ)) : stR b n σ = (((0, 0, 0, 0), ([], 0), 0), (σ.1, true)) := by
  unfold letX at h
  unfold stR
  rw [if_neg (fun z => h (by rcases z with z | z | z <;> simp [z])), if_neg (fun z => h (by rcases z with z | z | z | z <;> simp [z])), if_neg (fun z => h (by simp [z])), if_neg (fun z => h (by simp [z]))]
theorem exR_ax {b : Nat → Int32} {n : Nat} {σ : PS} : exR b n σ = (((97, dgV b n σ 0 9, (axR b n (ndS b n (dgS b n σ 0 9) 58)).1.1, (axR b n (ndS b n (dgS b n σ 0 9) 58)).1.2.1), (axR b n (ndS b n (dgS b n σ 0 9) 58)).1.2.2.1, (axR b n (ndS b n (dgS b n σ 0 9) 58)).1.2.2.2), (axR b n (ndS b n (dgS b n σ 0 9) 58)).2) := by
  unfold exR axR exN
  dsimp only
theorem k_X3_readStatement (l : Launch) (D : va_G) (T : Nat → ClassId) (x0 : Nat) (S : HS) (e0 : Nat → Int32) (e1 : Nat) (e2 : PS) (e3 : (Nat → Prop)) (mc ms : Nat) (hx0 : hK S x0 = 4) (h : RdO S x0 e0 e1 e2 ∧ chO e0 e1 ∧ e2.2 = false ∧ hK S (T 120) = 30 ∧ hN S (T 120) = 0 ∧ (∀ b, e3 b → hK S b ≠ 0) ∧ ¬ e3 (T 120) ∧ 3 + 2 * (stR e0 e1 e2).1.2.1.1.length ≤ mc ∧ 13 + 405 * (stR e0 e1 e2).1.2.1.1.length ≤ ms) : CMq l yX3_readStatement (ws_X3_readStatement) rm_X3_readStatement D T [.ref x0] S mc ms 8 (fun v S1 => (frM S S1 (fun b => b = x0) ∧ RdO S1 x0 e0 e1 (stR e0 e1 e2).2 ∧ ∃ y, v = some y ∧ hK S y = 0 ∧ ((stR e0 e1 e2).2.2 = false → StmR S1 e3 y (stR e0 e1 e2).1))) := c_X3_readStatement l D T x0 S mc ms hx0 _ <|
  (by
    obtain ⟨h, hch, hg, k120, n120, hM, hd, hmc, hms⟩ := h
    have hn := h.2.2.1
    have h80 : e1 ≤ 80 := h.2.2.2.2.1
    unfold wp_X3_readStatement
    refine ⟨⟨by omega, by omega⟩, fun q q0 qz S8 e8 => ?_⟩
    have hqx : q ≠ x0 := fun z => by rw [z, hx0] at q0; exact absurd q0 (by decide)
    have x8 : ext S S8 := by rw [e8]; exact ext_newO ext_rf q0 8
    have J8 : SmI S S8 x0 q e0 e1 e2 (fun _ => 0) := by
      refine ⟨x8, by rw [e8]; exact frM.nO frM.rf ext_rf q0 8, h.fm (N := fun _ => False) (by rw [e8]; exact frM.nO frM.rf ext_rf q0 8) hx0 (fun z => z) (fun _ _ z => z), by rw [e8, px_KO, if_pos rfl], fun i => by rw [e8, px_IO]; exact qz.1 i⟩
    refine ⟨e0, e1, e2, ⟨J8.2.2.1, hch⟩, fun v23 S18 he18 h18 S27 he27 e27 v35 ev35 => ?_⟩
    obtain ⟨ev, c18, R18⟩ := h18
    have J27 := (J8.tk hx0 he18 c18 R18).pI hx0 q0 e27
    have e35 : v35 = v23 := by rw [ev35, e27, putI_s]
    have fin : ∀ {S1 : HS} {x : STM} {τ : PS} {g : Nat → Int32}, stR e0 e1 e2 = (x, τ) → SmI S S1 x0 q e0 e1 τ g → (τ.2 = false → StmR S1 e3 q x) → frM S S1 (fun b => b = x0) ∧ RdO S1 x0 e0 e1 (stR e0 e1 e2).2 ∧ ∃ y, some q = some y ∧ hK S y = 0 ∧ ((stR e0 e1 e2).2.2 = false → StmR S1 e3 y (stR e0 e1 e2).1) := fun {S1 x τ g} es J hs => by
      rw [es]
      exact ⟨J.2.1, J.2.2.1, q, rfl, q0, hs⟩
    subst e35
    have zone : ∀ (kd ch : Int32) (S102 S114 S126 S136 : HS) (v131 : Int32), toS e0 e1 e2 0 = (e2.1 + 1, e2.2) → v35 = kd → sg e0 e1 e2 = kd → (kd = 98 ∧ ch = 42) ∨ (kd = 122 ∧ ch = 45) → ext S27 S102 → (frM S27 S102 (fun b => b = x0 ∨ b = q) ∧ RdO S102 x0 e0 e1 (nbF e0 e1 (ndS e0 e1 (dgS e0 e1 (e2.1 + 1, e2.2) 1 9) 58)).2 ∧ hI S102 161 q = dgV e0 e1 (e2.1 + 1, e2.2) 1 9 ∧ hI S102 162 q = (nbF e0 e1 (ndS e0 e1 (dgS e0 e1 (e2.1 + 1, e2.2) 1 9) 58)).1 ∧ (∀ i, i ≠ 161 → i ≠ 162 → hI S102 i q = hI S27 i q) ∧ hR S102 = hR S27 ∧ hK S102 = hK S27 ∧ hN S102 = hN S27) → ext S102 S114 → (c3 S102 S114 x0 [82, 83] ∧ RdO S114 x0 e0 e1 (ndS e0 e1 (nbF e0 e1 (ndS e0 e1 (dgS e0 e1 (e2.1 + 1, e2.2) 1 9) 58)).2 ch)) → ext S114 S126 → (v131 = (nbF e0 e1 (ndS e0 e1 (nbF e0 e1 (ndS e0 e1 (dgS e0 e1 (e2.1 + 1, e2.2) 1 9) 58)).2 ch)).1 ∧ c3 S114 S126 x0 [82, 83] ∧ RdO S126 x0 e0 e1 ((nbF e0 e1 (ndS e0 e1 (nbF e0 e1 (ndS e0 e1 (dgS e0 e1 (e2.1 + 1, e2.2) 1 9) 58)).2 ch)).2)) → S136 = putI S126 163 q v131 → frM S S136 (fun b => b = x0) ∧ RdO S136 x0 e0 e1 (stR e0 e1 e2).2 ∧ ∃ y, some q = some y ∧ hK S y = 0 ∧ ((stR e0 e1 e2).2.2 = false → StmR S136 e3 y (stR e0 e1 e2).1) := fun kd ch S102 S114 S126 S136 v131 _ ekv ekd hkc he102 h102 he114 h114 he126 h126 e136 => by
      obtain ⟨f102, R102, i1, i2, ii, _, kk, _⟩ := h102
      obtain ⟨c114, R114⟩ := h114
      obtain ⟨ev2, c126, R126⟩ := h126
      have J136 := (((J27.zo q0 he102 f102 R102 i1 i2 ii kk).tk hx0 he114 c114 R114).tk hx0 he126 c126 R126).pI hx0 q0 e136
      have es : stR e0 e1 e2 = (((kd, dgV e0 e1 (e2.1 + 1, e2.2) 1 9, (nbF e0 e1 (ndS e0 e1 (dgS e0 e1 (e2.1 + 1, e2.2) 1 9) 58)).1, v131), ([], 0), 0), (nbF e0 e1 (ndS e0 e1 (nbF e0 e1 (ndS e0 e1 (dgS e0 e1 (e2.1 + 1, e2.2) 1 9) 58)).2 ch)).2) := by
        rw [stR_z (by rw [ekd]; rcases hkc with z | z <;> rw [z.1] <;> decide), ekd, ev2]
        unfold zoR
        rcases hkc with z | z
        · rw [z.1, z.2, if_neg (by decide), if_neg (by decide)]
        · rw [z.1, z.2, if_neg (by decide), if_pos (by decide)]
      refine fin es J136 (fun _ => ?_)
      have hj := J136.2.2.2.2
      refine ⟨?_, fun _ => ?_, fun _ => ?_, fun _ => ?_, fun z => ?_, fun z => ?_⟩
      · rw [hj]; exact ekv
      · rw [hj]; rfl
      · rw [hj]; rfl
      · rw [hj]; rfl
      · exfalso
        dsimp only at z
        rcases hkc with y | y <;> rw [y.1] at z <;> revert z <;> decide
      · exfalso
        dsimp only at z
        rcases hkc with y | y <;> rw [y.1] at z <;> revert z <;> decide
    by_cases hB : toB e0 e1 e2 0 = true
    · obtain ⟨_, hlt, sgv⟩ := toB_in hB
      rw [if_pos hB] at ev
      have eS : toS e0 e1 e2 0 = (e2.1 + 1, e2.2) := by unfold toS; rw [if_pos hB]
      have esg : sg e0 e1 e2 = v35 := by rw [sgv, ev]
      have hlet : letX v35 := by
        rw [toB_0, hg, Bool.not_false, Bool.true_and] at hB
        rw [← esg]
        exact (ix0 _).mp (of_decide_eq_true hB)
      rw [eS] at J27
      refine ⟨fun c => ?_, fun c1 => ⟨fun c => ?_, fun c2 => ⟨fun c => ?_, fun c3' => ⟨fun c => ?_, fun c4 => ⟨fun c => ?_, fun c5 => ?_⟩⟩⟩⟩⟩
      · refine ⟨e0, e1, _, 0, 9, ⟨J27.2.2.1, rfl, rfl, dix09⟩, fun v48 S43 he43 h43 S53 e53 => ?_⟩
        obtain ⟨ev48, c43, R43⟩ := h43
        subst ev48
        have J53 := (J27.tk hx0 he43 c43 R43).pI hx0 q0 e53
        refine ⟨e0, e1, _, ⟨J53.2.2.1, by decide⟩, fun S63 he63 h63 => ?_⟩
        obtain ⟨c63, R63⟩ := h63
        have J63 := J53.tk hx0 he63 c63 R63
        have es := (stR_a (b := e0) (n := e1) (σ := e2) (esg.trans c)).trans (exR_ax (b := e0) (n := e1) (σ := (e2.1 + 1, e2.2)))
        rw [es] at hmc hms
        refine ⟨mc - 1, ms - 5, ⟨Nat.le_refl _, Nat.le_refl _⟩, e0, e1, _, e3, ⟨J63.2.2.1, hch, ext_K J63.1 k120 (by decide), by rw [(J63.1 _ (nz_of k120 (by decide))).2]; exact n120, fun b hb => by rw [(J63.1 b (hM b hb)).1]; exact hM b hb, hd, by dsimp only at hmc; omega, by dsimp only at hms; omega⟩, fun o S79 he79 _ h79 => ?_⟩
        obtain ⟨f79, R79, z, ez, z0, hz⟩ := h79
        refine ⟨z, ez, fun _ S91 e91 => ?_⟩
        have kq63 : hK S63 q = 8 := J63.2.2.2.1
        have kq79 : hK S79 q = 8 := ext_K he79 kq63 (by decide)
        have kx79 : hK S79 x0 = 4 := ext_K (ext_tr J63.1 he79) hx0 (by decide)
        have sq := f79 q hqx (nz_of kq63 (by decide))
        have fq : frM S79 S91 (fun c => c = q) := by rw [e91]; exact frM.pR (M := fun c => c = q) frM.rf rfl _ _
        have xq : ext S79 S91 := by rw [e91]; exact ext_putR ext_rf _ _ _
        have J91 : SmI S S91 x0 q e0 e1 (axR e0 e1 (ndS e0 e1 (dgS e0 e1 (e2.1 + 1, e2.2) 0 9) 58)).2 (hI S91 · q) := ⟨ext_tr J63.1 (ext_tr he79 xq), (J63.2.1.nw f79 (fun _ _ z => z)).nw fq (fun c hc z => absurd q0 (by rw [← z]; exact hc)), R79.fm fq kx79 (fun z => hqx z.symm) (fun t ht z => by rw [z, kq79] at ht; exact absurd ht (by decide)), by rw [e91, px_KR]; exact kq79, fun _ => rfl⟩
        have hi : ∀ i, hI S91 i q = hI S63 i q := fun i => by rw [e91, px_IR]; exact sq.2.2.1 i
        refine fin es J91 (fun hgd => ?_)
        have hW := st_gd h80 hn (by rw [es]; exact hgd)
        rw [es] at hW
        have hO := (hz hgd).fx (S1 := S91) fq xq (fun c hc z => by rw [z, kq79] at hc; omega)
        unfold stW at hW
        obtain ⟨w1, w2, w3, w5, w6, w7, w8, w9⟩ : six _ ∧ _ := by
          rcases hW with w | w | w | w | w | w
          · exact absurd w.1 (by dsimp only; decide)
          · exact absurd w.1 (by dsimp only; decide)
          · exact absurd w.1 (by dsimp only; decide)
          · exact absurd w.1 (by dsimp only; decide)
          · exact w.2
          · exact absurd w.1 (by dsimp only; decide)
        have hj := J63.2.2.2.2
        refine ⟨?_, fun _ => ?_, fun z9 => ?_, fun z9 => ?_, fun z9 => ?_, fun _ => ⟨z, ?_, ?_⟩⟩
        · rw [hi, hj]; exact c
        · rw [hi, hj]; rfl
        · exact absurd z9 (by dsimp only; decide)
        · exact absurd z9 (by dsimp only; decide)
        · exact absurd z9 (by dsimp only; decide)
        · rw [e91, px_RR, if_pos ⟨rfl, rfl⟩]
        · exact hO.rel w5 w6 w7
      · refine ⟨e0, e1, _, J27.2.2.1, fun S102 he102 h102 => ⟨e0, e1, _, ⟨h102.2.1, by decide⟩, fun S114 he114 h114 => ⟨e0, e1, _, h114.2, fun v131 S126 he126 h126 S136 e136 => ?_⟩⟩⟩
        exact zone 98 42 S102 S114 S126 S136 v131 eS c (esg.trans c) (Or.inl ⟨rfl, rfl⟩) he102 h102 he114 h114 he126 h126 e136
      · refine ⟨e0, e1, _, J27.2.2.1, fun S147 he147 h147 => ?_⟩
        obtain ⟨f147, R147, i1, i2, ii, _, kk, _⟩ := h147
        have J147 := J27.zo q0 he147 f147 R147 i1 i2 ii kk
        have es : stR e0 e1 e2 = (((109, dgV e0 e1 (e2.1 + 1, e2.2) 1 9, (nbF e0 e1 (ndS e0 e1 (dgS e0 e1 (e2.1 + 1, e2.2) 1 9) 58)).1, 0), ([], 0), 0), (nbF e0 e1 (ndS e0 e1 (dgS e0 e1 (e2.1 + 1, e2.2) 1 9) 58)).2) := by
          rw [stR_z (by rw [esg, c]; decide), esg, c]
          unfold zoR
          rw [if_pos rfl]
        have hj := J147.2.2.2.2
        refine fin es J147 (fun _ => ⟨?_, fun _ => ?_, fun _ => ?_, fun z => ?_, fun z => ?_, fun z => ?_⟩)
        · rw [hj]; exact c
        · rw [hj]; rfl
        · rw [hj]; rfl
        · exact absurd z (by dsimp only; decide)
        · exact absurd z (by dsimp only; decide)
        · exact absurd z (by dsimp only; decide)
      · refine ⟨e0, e1, _, 0, 9, ⟨J27.2.2.1, rfl, rfl, dix09⟩, fun v167 S162 he162 h162 S172 e172 => ?_⟩
        obtain ⟨ev2, c162, R162⟩ := h162
        subst ev2
        have J172 := (J27.tk hx0 he162 c162 R162).pI hx0 q0 e172
        have hj := J172.2.2.2.2
        refine fin (stR_r (esg.trans c)) J172 (fun _ => ⟨?_, fun _ => ?_, fun z => ?_, fun z => ?_, fun z => ?_, fun z => ?_⟩)
        · rw [hj]; exact c
        · rw [hj]; rfl
        · exact absurd z (by dsimp only; decide)
        · exact absurd z (by dsimp only; decide)
        · exact absurd z (by dsimp only; decide)
        · exact absurd z (by dsimp only; decide)
      · refine ⟨e0, e1, _, J27.2.2.1, fun S183 he183 h183 => ⟨e0, e1, _, ⟨h183.2.1, by decide⟩, fun S195 he195 h195 => ⟨e0, e1, _, h195.2, fun v212 S207 he207 h207 S217 e217 => ?_⟩⟩⟩
        exact zone 122 45 S183 S195 S207 S217 v212 eS c (esg.trans c) (Or.inr ⟨rfl, rfl⟩) he183 h183 he195 h195 he207 h207 e217
      · refine ⟨e0, e1, _, J27.2.2.1, fun v232 S227 he227 h227 S237 e237 => ?_⟩
        obtain ⟨ev2, c227, R227⟩ := h227
        subst ev2
        have J237 := (J27.tk hx0 he227 c227 R227).pI hx0 q0 e237
        have hj := J237.2.2.2.2
        have hl4 : v35 = 100 ∨ v35 = 102 ∨ v35 = 115 ∨ v35 = 99 := by
          unfold letX at hlet
          rcases hlet with z | z | z | z | z | z | z | z | z
          · exact absurd z c5
          · exact absurd z c2
          · exact absurd z c3'
          · exact Or.inl z
          · exact Or.inr (Or.inl z)
          · exact Or.inr (Or.inr (Or.inl z))
          · exact Or.inr (Or.inr (Or.inr z))
          · exact absurd z c1
          · exact absurd z c4
        have es := stR_d (b := e0) (n := e1) (σ := e2) (by rw [esg]; exact hl4)
        rw [esg] at es
        refine fin es J237 (fun _ => ⟨?_, fun z => ?_, fun z => ?_, fun z => ?_, fun z => ?_, fun z => ?_⟩)
        · rw [hj]; rfl
        · exfalso
          dsimp only at z
          rcases hl4 with y | y | y | y <;> rw [y] at z <;> revert z <;> decide
        · exfalso
          dsimp only at z
          rcases hl4 with y | y | y | y <;> rw [y] at z <;> revert z <;> decide
        · exfalso
          dsimp only at z
          rcases hl4 with y | y | y | y <;> rw [y] at z <;> revert z <;> decide
        · rw [hj]; rfl
        · exfalso
          dsimp only at z
          rcases hl4 with y | y | y | y <;> rw [y] at z <;> revert z <;> decide
    · rw [if_neg hB] at ev
      have eS : toS e0 e1 e2 0 = (e2.1, true) := by unfold toS; rw [if_neg hB]
      rw [eS] at J27
      have hlet : ¬ letX (sg e0 e1 e2) := fun z => hB (by
        rw [toB_0, hg, Bool.not_false, Bool.true_and]
        exact decide_eq_true ((ix0 _).mpr z))
      subst ev
      refine ⟨fun c => absurd c (by decide), fun _ => ⟨fun c => absurd c (by decide), fun _ => ⟨fun c => absurd c (by decide), fun _ => ⟨fun c => absurd c (by decide), fun _ => ⟨fun c => absurd c (by decide), fun _ => ?_⟩⟩⟩⟩⟩
      refine ⟨e0, e1, _, J27.2.2.1, fun v232 S227 he227 h227 S237 e237 => ?_⟩
      obtain ⟨ev2, c227, R227⟩ := h227
      rw [nbF_bad] at R227
      have J237 := (J27.tk hx0 he227 c227 R227).pI hx0 q0 e237
      exact fin (stR_n hlet) J237 (fun z => by cases z))

end S_C8C
