section S_C5H
abbrev ws_X9_carryOut : List Cond := Cond.code yX9_carryOut cX9_carryOut 3 (some .boolean) :: W0
abbrev rm_X9_carryOut : Room := ({ frames := 3, cells := 0, slots := 0, locals := 70 } : Room)
def wp_X9_carryOut (P : Int32 → HS → Prop) (x0 : Nat) (p0 : Nat) (S : HS) : Prop := ∀ v1 : Int32, v1 = (hI S 162 p0) → (∀ v2 : Int32, v2 = (hI S 160 p0) → ((v2 = 97 → (∀ o4 : Option Nat, o4 = hR S 164 p0 → (∀ b, o4 = some b → hK S b = 1) → (∃ (m5 : (Nat → Prop)) (m6 : Nat → Int32) (m7 : Nat) (m8 : Nat → Nat) (m9 : Int32) (m10 : Int32) (m11 : Int32) (m12 : Int32) (m13 : Nat → Int32) (m14 : Int32), ((((WF m6 ∧ m7 < 6 ∧ RelV S m5 x0 m6 m7) ∧ OwV S x0 m8) ∧ six (hI S 161 p0) ∧ ∃ y, o4 = some y ∧ RelA S m5 y (seF (fun _ => 0) 0 0 m9 m10 m11 m12 m13 m14) 0 0 ∧ bn m9 9999 ∧ bn m12 30) ∧ (∀ (v21 : Int32) (S16 : HS), ext S S16 → (v21 = b2i (seB m9 m10) ∧ (seB m9 m10 = true → RelV S16 m5 x0 (seF m6 m7 (iv (hI S 161 p0)) m9 m10 m11 m12 m13 m14) m7) ∧ vmP S S16 x0 m8) → (vz v21 ∧ P v21 S16)))))) ∧ (¬ v2 = 97 → ((v2 = 98 → (∃ (m26 : (Nat → Prop)) (m27 : Nat → Int32) (m28 : Nat) (m29 : Nat → Nat), ((((WF m27 ∧ m28 < 6 ∧ RelV S m26 x0 m27 m28) ∧ OwV S x0 m29) ∧ zix (hI S 161 p0) ∧ bn (hI S 163 p0) 9999) ∧ (∀ (v36 : Int32) (S31 : HS), ext S S31 → (v36 = b2i (bkB m27 m28 (iv (hI S 161 p0)) v1 (hI S 163 p0)) ∧ (bkB m27 m28 (iv (hI S 161 p0)) v1 (hI S 163 p0) = true → RelV S31 m26 x0 (bkS m27 m28 (iv (hI S 161 p0)) v1 (hI S 163 p0)) m28) ∧ vmP S S31 x0 m29) → (vz v36 ∧ P v36 S31))))) ∧ (¬ v2 = 98 → ((v2 = 99 → (∀ S42 : HS, S42 = putI S 209 x0 v1 → (P 1 S42))) ∧ (¬ v2 = 99 → ((v2 = 100 → (∀ S50 : HS, S50 = putI S 206 x0 v1 → ((v1 < 1000 → (P 0 S50)) ∧ (¬ v1 < 1000 → (P 1 S50))))) ∧ (¬ v2 = 100 → ((v2 = 102 → (∀ S59 : HS, S59 = putI S 207 x0 v1 → ((99 < v1 → (P 0 S59)) ∧ (¬ 99 < v1 → (P 1 S59))))) ∧ (¬ v2 = 102 → ((v2 = 109 → (∃ (m67 : (Nat → Prop)) (m68 : Nat → Int32) (m69 : Nat) (m70 : Nat → Nat), ((((WF m68 ∧ m69 < 6 ∧ RelV S m67 x0 m68 m69) ∧ OwV S x0 m70) ∧ zix (hI S 161 p0)) ∧ (∀ (v77 : Int32) (S72 : HS), ext S S72 → (v77 = 1 ∧ (True → RelV S72 m67 x0 (upd m68 (274 + 510 * m69 + 137 + iv (hI S 161 p0) - 1) v1) m69) ∧ vmP S S72 x0 m70) → (vz v77 ∧ P v77 S72))))) ∧ (¬ v2 = 109 → ((v2 = 114 → (∃ (m82 : (Nat → Prop)) (m83 : Nat → Int32) (m84 : Nat) (m85 : Nat → Nat), ((((WF m83 ∧ m84 < 6 ∧ RelV S m82 x0 m83 m84) ∧ OwV S x0 m85) ∧ six (hI S 161 p0)) ∧ (∀ (v92 : Int32) (S87 : HS), ext S S87 → (v92 = b2i (decide (m83 (274 + 510 * m84 + 150 + 36 * iv (hI S 161 p0)) = 1)) ∧ (decide (m83 (274 + 510 * m84 + 150 + 36 * iv (hI S 161 p0)) = 1) = true → RelV S87 m82 x0 (zf m83 (274 + 510 * m84 + 150 + 36 * iv (hI S 161 p0)) 36) m84) ∧ vmP S S87 x0 m85) → (vz v92 ∧ P v92 S87))))) ∧ (¬ v2 = 114 → ((v2 = 115 → (∀ S98 : HS, S98 = putI S 208 x0 v1 → (P 1 S98))) ∧ (¬ v2 = 115 → ((v2 = 122 → (∃ (m105 : (Nat → Prop)) (m106 : Nat → Int32) (m107 : Nat) (m108 : Nat → Nat), ((((WF m106 ∧ m107 < 6 ∧ RelV S m105 x0 m106 m107) ∧ OwV S x0 m108)) ∧ (∀ (v115 : Int32) (S110 : HS), ext S S110 → (v115 = b2i (ptB m106 m107 v1 (hI S 163 p0)) ∧ (ptB m106 m107 v1 (hI S 163 p0) = true → RelV S110 m105 x0 (ptS m106 m107 (hI S 161 p0) v1 (hI S 163 p0)) m107) ∧ vmP S S110 x0 m108) → (vz v115 ∧ P v115 S110))))) ∧ (¬ v2 = 122 → (P 0 S))))))))))))))))))))
set_option maxRecDepth 100000 in
set_option maxHeartbeats 4000000 in
theorem t_X9_carryOut {p : Program} {l : Launch} {e : Env} {s : State} {m : MethodId} {args : Array Value} {below : List Frame} {meth : Method} {c : Code} {D : va_G} {A : Nat → Prop} {T : Nat → ClassId} (C : GC p s m args meth c cX9_carryOut "FreightRater$Version" (ws_X9_carryOut) 3 D A (zty T)) (E : GE T A s) (hr : meth.sig.returnType = (some .boolean)) (P : Int32 → HS → Prop) : ∀ (x0 : Nat) (p0 : Nat) (S0 S : HS) (L : List Nat), S0 = S → wt S → hL S L → (hK S x0 = 10) → (hK S p0 = 8) → wp_X9_carryOut P x0 p0 S → GW p l e { rm_X9_carryOut with cells := 0, slots := 0 } s m args below meth c D A 3 0 0 (MQ below (va_Qi (fun v (u : HS × List Nat) => P v u.1 ∧ CO S0 u) (CE D T A) A) args s 0 0 A) (CW T S L) 0 0 0 [(0, .ref x0), (1, .ref p0)] [] := by
  have hW : ∀ {w : Cond}, w ∈ W0 → w.before args s = true := fun h => C.2.2.2.2.1 _ (List.mem_cons_of_mem _ h)
  intro x0 p0 S0 S L hS0 hw hL hx0 hp0 h
  have he : ext S0 S := by rw [hS0]; exact ext_rf
  unfold wp_X9_carryOut at h
  refine g_aload_n C dX9_carryOut_0 rfl 1 rfl ?_
  refine gc_getI C iwx_X7 hL hp0 (by decide) (by decide) rfl 2 (by decide) (hW kw_691) rfl rfl rfl dX9_carryOut_1 ?_
  refine g_topi (fun v1 ev1 => ?_)
  replace h := h v1 ev1
  refine g_istore_n (lv' := [(2, .int v1), (0, .ref x0), (1, .ref p0)]) C dX9_carryOut_4 rfl (by decide) rfl ?_
  refine g_aload_n C dX9_carryOut_5 rfl 2 rfl ?_
  refine gc_getI C iwx_X7 hL hp0 (by decide) (by decide) rfl 0 (by decide) (hW kw_687) rfl rfl rfl dX9_carryOut_6 ?_
  refine g_topi (fun v2 ev2 => ?_)
  replace h := h v2 ev2
  rcases Decidable.em (v2 = 97) with z3 | z3
  · refine g_tableIn (off := 206) (tgt := 215) C dX9_carryOut_9 (by rw [z3]; decide) (by rw [z3]; decide) (by rw [z3]; decide) (by decide) ?_
    replace h := h.1 z3
    refine g_aload_n C dX9_carryOut_215 rfl 1 rfl ?_
    refine g_aload_n C dX9_carryOut_216 rfl 2 rfl ?_
    refine gc_getI C iwx_X7 hL hp0 (by decide) (by decide) rfl 1 (by decide) (hW kw_689) rfl rfl rfl dX9_carryOut_217 ?_
    refine g_aload_n C dX9_carryOut_220 rfl 2 rfl ?_
    refine gc_getR C hw iwx_X7 hL hp0 (by decide) (by decide) rfl 4 (by decide) (hW kw_695) rfl rfl rfl dX9_carryOut_221 (fun o4 eo4 ko4 => ?_)
    replace h := h o4 eo4 ko4
    obtain ⟨m5, m6, m7, m8, m9, m10, m11, m12, m13, m14, h⟩ := h
    obtain ⟨g15, h⟩ := h
    refine gc_calliV (host := "") C E hw hL hx0 (by decide) (by decide) rfl [.int (hI S 161 p0), va_rf o4] rfl (k_X9_putAccessorial l D T x0 (hI S 161 p0) o4 S m5 m6 m7 m8 m9 m10 m11 m12 m13 m14 hx0 ko4 g15) (w0_V 2 C.2.2.2.2.1 kw_927 kw_929 ks_20 kw_14 kw_930 rfl rfl (by decide +kernel) ⟨Nat.le_of_ble_eq_true rfl, Nat.le_of_ble_eq_true rfl⟩) rfl (Nat.le_of_ble_eq_true rfl) (Nat.le_refl _) (Nat.le_refl _) (Nat.zero_le _) (Nat.zero_le _) dX9_carryOut_224 (fun v21 S16 L17 e18 w19 w20 hp => ?_)
    replace h := h v21 S16 e18 hp
    have g22 := ext_K e18 hx0 (by decide)
    have g23 := ext_K e18 hp0 (by decide)
    have w24 := ext_tr he e18
    exact gc_zret C h.1 w19 w20 w24 hr dX9_carryOut_227 h.2
  replace h := h.2 z3
  rcases Decidable.em (v2 = 98) with z25 | z25
  · refine g_tableIn (off := 133) (tgt := 142) C dX9_carryOut_9 (by rw [z25]; decide) (by rw [z25]; decide) (by rw [z25]; decide) (by decide) ?_
    replace h := h.1 z25
    refine g_aload_n C dX9_carryOut_142 rfl 1 rfl ?_
    refine g_aload_n C dX9_carryOut_143 rfl 2 rfl ?_
    refine gc_getI C iwx_X7 hL hp0 (by decide) (by decide) rfl 1 (by decide) (hW kw_689) rfl rfl rfl dX9_carryOut_144 ?_
    refine g_iload_n C dX9_carryOut_147 rfl 0 rfl ?_
    refine g_aload_n C dX9_carryOut_148 rfl 2 rfl ?_
    refine gc_getI C iwx_X7 hL hp0 (by decide) (by decide) rfl 3 (by decide) (hW kw_693) rfl rfl rfl dX9_carryOut_149 ?_
    obtain ⟨m26, m27, m28, m29, h⟩ := h
    obtain ⟨g30, h⟩ := h
    refine gc_calliV (host := "") C E hw hL hx0 (by decide) (by decide) rfl [.int (hI S 161 p0), .int v1, .int (hI S 163 p0)] rfl (k_X9_putBreak l D T x0 (hI S 161 p0) v1 (hI S 163 p0) S m26 m27 m28 m29 hx0 g30) (w0_V 3 C.2.2.2.2.1 kw_902 kw_904 ks_16 kw_14 kw_905 rfl rfl (by decide +kernel) ⟨Nat.le_of_ble_eq_true rfl, Nat.le_of_ble_eq_true rfl⟩) rfl (Nat.le_of_ble_eq_true rfl) (Nat.le_refl _) (Nat.le_refl _) (Nat.zero_le _) (Nat.zero_le _) dX9_carryOut_152 (fun v36 S31 L32 e33 w34 w35 hp => ?_)
    replace h := h v36 S31 e33 hp
    have g37 := ext_K e33 hx0 (by decide)
    have g38 := ext_K e33 hp0 (by decide)
    have w39 := ext_tr he e33
    exact gc_zret C h.1 w34 w35 w39 hr dX9_carryOut_155 h.2
  replace h := h.2 z25
  rcases Decidable.em (v2 = 99) with z40 | z40
  · refine g_tableIn (off := 199) (tgt := 208) C dX9_carryOut_9 (by rw [z40]; decide) (by rw [z40]; decide) (by rw [z40]; decide) (by decide) ?_
    replace h := h.1 z40
    refine g_aload_n C dX9_carryOut_208 rfl 1 rfl ?_
    refine g_iload_n C dX9_carryOut_209 rfl 0 rfl ?_
    refine gc_putI C iwx_X9 hL hx0 (by decide) (by decide) rfl 9 (by decide) (hW kw_432) rfl tyX9 tyX9_ok nmX9 rfl rfl rfl rfl rfl dX9_carryOut_210 ?_
    have w41 := wt_putI hw 209 v1 (k_ne hx0 (by decide))
    refine gc_nS (fun S42 eS42 => ?_)
    replace h := h S42 eS42
    have w43 : wt S42 := by rw [eS42]; exact w41
    have w44 : isL S42 L := by rw [eS42]; exact hL
    have w45 : ext S0 S42 := by rw [eS42]; exact he
    have g46 : hK S42 x0 = 10 := by rw [eS42]; exact hx0
    have g47 : hK S42 p0 = 8 := by rw [eS42]; exact hp0
    refine g_iconst (v := 1) C dX9_carryOut_213 (by decide) ?_
    exact gc_zret C vz1 w43 w44 w45 hr dX9_carryOut_214 h
  replace h := h.2 z40
  rcases Decidable.em (v2 = 100) with z48 | z48
  · refine g_tableIn (off := 157) (tgt := 166) C dX9_carryOut_9 (by rw [z48]; decide) (by rw [z48]; decide) (by rw [z48]; decide) (by decide) ?_
    replace h := h.1 z48
    refine g_aload_n C dX9_carryOut_166 rfl 1 rfl ?_
    refine g_iload_n C dX9_carryOut_167 rfl 0 rfl ?_
    refine gc_putI C iwx_X9 hL hx0 (by decide) (by decide) rfl 6 (by decide) (hW kw_423) rfl tyX9 tyX9_ok nmX9 rfl rfl rfl rfl rfl dX9_carryOut_168 ?_
    have w49 := wt_putI hw 206 v1 (k_ne hx0 (by decide))
    refine gc_nS (fun S50 eS50 => ?_)
    replace h := h S50 eS50
    have w51 : wt S50 := by rw [eS50]; exact w49
    have w52 : isL S50 L := by rw [eS50]; exact hL
    have w53 : ext S0 S50 := by rw [eS50]; exact he
    have g54 : hK S50 x0 = 10 := by rw [eS50]; exact hx0
    have g55 : hK S50 p0 = 8 := by rw [eS50]; exact hp0
    refine g_iload_n C dX9_carryOut_171 rfl 0 rfl ?_
    refine g_sipush (v := 1000) C dX9_carryOut_172 (by decide) ?_
    refine g_icmp_lt (tgt := 182) C dX9_carryOut_175 (by decide) (fun z56 => ?_) (fun z56 => ?_)
    · replace h := h.1 z56
      refine g_iconst (v := 0) C dX9_carryOut_182 (by decide) ?_
      exact gc_zret C vz0 w51 w52 w53 hr dX9_carryOut_183 h
    · replace h := h.2 z56
      refine g_iconst (v := 1) C dX9_carryOut_178 (by decide) ?_
      refine g_goto (tgt := 183) C dX9_carryOut_179 (by decide) ?_
      exact gc_zret C vz1 w51 w52 w53 hr dX9_carryOut_183 h
  replace h := h.2 z48
  rcases Decidable.em (v2 = 102) with z57 | z57
  · refine g_tableIn (off := 175) (tgt := 184) C dX9_carryOut_9 (by rw [z57]; decide) (by rw [z57]; decide) (by rw [z57]; decide) (by decide) ?_
    replace h := h.1 z57
    refine g_aload_n C dX9_carryOut_184 rfl 1 rfl ?_
    refine g_iload_n C dX9_carryOut_185 rfl 0 rfl ?_
    refine gc_putI C iwx_X9 hL hx0 (by decide) (by decide) rfl 7 (by decide) (hW kw_426) rfl tyX9 tyX9_ok nmX9 rfl rfl rfl rfl rfl dX9_carryOut_186 ?_
    have w58 := wt_putI hw 207 v1 (k_ne hx0 (by decide))
    refine gc_nS (fun S59 eS59 => ?_)
    replace h := h S59 eS59
    have w60 : wt S59 := by rw [eS59]; exact w58
    have w61 : isL S59 L := by rw [eS59]; exact hL
    have w62 : ext S0 S59 := by rw [eS59]; exact he
    have g63 : hK S59 x0 = 10 := by rw [eS59]; exact hx0
    have g64 : hK S59 p0 = 8 := by rw [eS59]; exact hp0
    refine g_iload_n C dX9_carryOut_189 rfl 0 rfl ?_
    refine g_bipush (v := 99) C dX9_carryOut_190 (by decide) ?_
    refine g_icmp_gt (tgt := 199) C dX9_carryOut_192 (by decide) (fun z65 => ?_) (fun z65 => ?_)
    · replace h := h.1 z65
      refine g_iconst (v := 0) C dX9_carryOut_199 (by decide) ?_
      exact gc_zret C vz0 w60 w61 w62 hr dX9_carryOut_200 h
    · replace h := h.2 z65
      refine g_iconst (v := 1) C dX9_carryOut_195 (by decide) ?_
      refine g_goto (tgt := 200) C dX9_carryOut_196 (by decide) ?_
      exact gc_zret C vz1 w60 w61 w62 hr dX9_carryOut_200 h
  replace h := h.2 z57
  rcases Decidable.em (v2 = 109) with z66 | z66
  · refine g_tableIn (off := 147) (tgt := 156) C dX9_carryOut_9 (by rw [z66]; decide) (by rw [z66]; decide) (by rw [z66]; decide) (by decide) ?_
    replace h := h.1 z66
    refine g_aload_n C dX9_carryOut_156 rfl 1 rfl ?_
    refine g_aload_n C dX9_carryOut_157 rfl 2 rfl ?_
    refine gc_getI C iwx_X7 hL hp0 (by decide) (by decide) rfl 1 (by decide) (hW kw_689) rfl rfl rfl dX9_carryOut_158 ?_
    refine g_iload_n C dX9_carryOut_161 rfl 0 rfl ?_
    obtain ⟨m67, m68, m69, m70, h⟩ := h
    obtain ⟨g71, h⟩ := h
    refine gc_calliV (host := "") C E hw hL hx0 (by decide) (by decide) rfl [.int (hI S 161 p0), .int v1] rfl (k_X9_setMinimum l D T x0 (hI S 161 p0) v1 S m67 m68 m69 m70 hx0 g71) (w0_V 2 C.2.2.2.2.1 kw_923 kw_925 ks_19 kw_14 kw_926 rfl rfl (by decide +kernel) ⟨Nat.le_of_ble_eq_true rfl, Nat.le_of_ble_eq_true rfl⟩) rfl (Nat.le_of_ble_eq_true rfl) (Nat.le_refl _) (Nat.le_refl _) (Nat.zero_le _) (Nat.zero_le _) dX9_carryOut_162 (fun v77 S72 L73 e74 w75 w76 hp => ?_)
    replace h := h v77 S72 e74 hp
    have g78 := ext_K e74 hx0 (by decide)
    have g79 := ext_K e74 hp0 (by decide)
    have w80 := ext_tr he e74
    exact gc_zret C h.1 w75 w76 w80 hr dX9_carryOut_165 h.2
  replace h := h.2 z66
  rcases Decidable.em (v2 = 114) with z81 | z81
  · refine g_tableIn (off := 219) (tgt := 228) C dX9_carryOut_9 (by rw [z81]; decide) (by rw [z81]; decide) (by rw [z81]; decide) (by decide) ?_
    replace h := h.1 z81
    refine g_aload_n C dX9_carryOut_228 rfl 1 rfl ?_
    refine g_aload_n C dX9_carryOut_229 rfl 2 rfl ?_
    refine gc_getI C iwx_X7 hL hp0 (by decide) (by decide) rfl 1 (by decide) (hW kw_689) rfl rfl rfl dX9_carryOut_230 ?_
    obtain ⟨m82, m83, m84, m85, h⟩ := h
    obtain ⟨g86, h⟩ := h
    refine gc_calliV (host := "") C E hw hL hx0 (by decide) (by decide) rfl [.int (hI S 161 p0)] rfl (k_X9_removeAccessorial l D T x0 (hI S 161 p0) S m82 m83 m84 m85 hx0 g86) (w0_V 1 C.2.2.2.2.1 kw_935 kw_937 ks_21 kw_14 kw_938 rfl rfl (by decide +kernel) ⟨Nat.le_of_ble_eq_true rfl, Nat.le_of_ble_eq_true rfl⟩) rfl (Nat.le_of_ble_eq_true rfl) (Nat.le_refl _) (Nat.le_refl _) (Nat.zero_le _) (Nat.zero_le _) dX9_carryOut_233 (fun v92 S87 L88 e89 w90 w91 hp => ?_)
    replace h := h v92 S87 e89 hp
    have g93 := ext_K e89 hx0 (by decide)
    have g94 := ext_K e89 hp0 (by decide)
    have w95 := ext_tr he e89
    exact gc_zret C h.1 w90 w91 w95 hr dX9_carryOut_236 h.2
  replace h := h.2 z81
  rcases Decidable.em (v2 = 115) with z96 | z96
  · refine g_tableIn (off := 192) (tgt := 201) C dX9_carryOut_9 (by rw [z96]; decide) (by rw [z96]; decide) (by rw [z96]; decide) (by decide) ?_
    replace h := h.1 z96
    refine g_aload_n C dX9_carryOut_201 rfl 1 rfl ?_
    refine g_iload_n C dX9_carryOut_202 rfl 0 rfl ?_
    refine gc_putI C iwx_X9 hL hx0 (by decide) (by decide) rfl 8 (by decide) (hW kw_429) rfl tyX9 tyX9_ok nmX9 rfl rfl rfl rfl rfl dX9_carryOut_203 ?_
    have w97 := wt_putI hw 208 v1 (k_ne hx0 (by decide))
    refine gc_nS (fun S98 eS98 => ?_)
    replace h := h S98 eS98
    have w99 : wt S98 := by rw [eS98]; exact w97
    have w100 : isL S98 L := by rw [eS98]; exact hL
    have w101 : ext S0 S98 := by rw [eS98]; exact he
    have g102 : hK S98 x0 = 10 := by rw [eS98]; exact hx0
    have g103 : hK S98 p0 = 8 := by rw [eS98]; exact hp0
    refine g_iconst (v := 1) C dX9_carryOut_206 (by decide) ?_
    exact gc_zret C vz1 w99 w100 w101 hr dX9_carryOut_207 h
  replace h := h.2 z96
  rcases Decidable.em (v2 = 122) with z104 | z104
  · refine g_tableIn (off := 119) (tgt := 128) C dX9_carryOut_9 (by rw [z104]; decide) (by rw [z104]; decide) (by rw [z104]; decide) (by decide) ?_
    replace h := h.1 z104
    refine g_aload_n C dX9_carryOut_128 rfl 1 rfl ?_
    refine g_aload_n C dX9_carryOut_129 rfl 2 rfl ?_
    refine gc_getI C iwx_X7 hL hp0 (by decide) (by decide) rfl 1 (by decide) (hW kw_689) rfl rfl rfl dX9_carryOut_130 ?_
    refine g_iload_n C dX9_carryOut_133 rfl 0 rfl ?_
    refine g_aload_n C dX9_carryOut_134 rfl 2 rfl ?_
    refine gc_getI C iwx_X7 hL hp0 (by decide) (by decide) rfl 3 (by decide) (hW kw_693) rfl rfl rfl dX9_carryOut_135 ?_
    obtain ⟨m105, m106, m107, m108, h⟩ := h
    obtain ⟨g109, h⟩ := h
    refine gc_calliV (host := "") C E hw hL hx0 (by decide) (by decide) rfl [.int (hI S 161 p0), .int v1, .int (hI S 163 p0)] rfl (k_X9_addRange l D T x0 (hI S 161 p0) v1 (hI S 163 p0) S m105 m106 m107 m108 hx0 g109) (w0_V 3 C.2.2.2.2.1 kw_898 kw_900 ks_15 kw_14 kw_901 rfl rfl (by decide +kernel) ⟨Nat.le_of_ble_eq_true rfl, Nat.le_of_ble_eq_true rfl⟩) rfl (Nat.le_of_ble_eq_true rfl) (Nat.le_refl _) (Nat.le_refl _) (Nat.zero_le _) (Nat.zero_le _) dX9_carryOut_138 (fun v115 S110 L111 e112 w113 w114 hp => ?_)
    replace h := h v115 S110 e112 hp
    have g116 := ext_K e112 hx0 (by decide)
    have g117 := ext_K e112 hp0 (by decide)
    have w118 := ext_tr he e112
    exact gc_zret C h.1 w113 w114 w118 hr dX9_carryOut_141 h.2
  replace h := h.2 z104
  refine g_tableD (tgt := 237) C dX9_carryOut_9 (by decide) (fun j hj => ?_) (by decide) ?_
  · rcases (show j = 0 ∨ j = 1 ∨ j = 2 ∨ j = 3 ∨ j = 4 ∨ j = 5 ∨ j = 6 ∨ j = 7 ∨ j = 8 ∨ j = 9 ∨ j = 10 ∨ j = 11 ∨ j = 12 ∨ j = 13 ∨ j = 14 ∨ j = 15 ∨ j = 16 ∨ j = 17 ∨ j = 18 ∨ j = 19 ∨ j = 20 ∨ j = 21 ∨ j = 22 ∨ j = 23 ∨ j = 24 ∨ j = 25 by have hj2 : j < 26 := hj; omega) with rfl | rfl | rfl | rfl | rfl | rfl | rfl | rfl | rfl | rfl | rfl | rfl | rfl | rfl | rfl | rfl | rfl | rfl | rfl | rfl | rfl | rfl | rfl | rfl | rfl | rfl <;> first | exact Or.inr rfl | exact Or.inl (by first | exact lv_neT z3 rfl | exact lv_neT z25 rfl | exact lv_neT z40 rfl | exact lv_neT z48 rfl | exact lv_neT z57 rfl | exact lv_neT z66 rfl | exact lv_neT z81 rfl | exact lv_neT z96 rfl | exact lv_neT z104 rfl)
  refine g_iconst (v := 0) C dX9_carryOut_237 (by decide) ?_
  exact gc_zret C vz0 hw hL he hr dX9_carryOut_238 h
theorem c_X9_carryOut (l : Launch) (D : va_G) (T : Nat → ClassId) (x0 : Nat) (p0 : Nat) (S : HS) (hx0 : hK S x0 = 10) (hp0 : hK S p0 = 8) (P : Int32 → HS → Prop) (h : wp_X9_carryOut P x0 p0 S) : CMi l yX9_carryOut (ws_X9_carryOut) rm_X9_carryOut D T [.ref x0, .ref p0] S 0 0 P := gc_meti (by decide) rfl rfl (Nat.le_of_ble_eq_true rfl) (fun p e s m args below meth c A L C E hnm hr hw hL => t_X9_carryOut C E   hr P x0 p0 S S L rfl hw hL hx0 hp0 h)
/-- a statement's object against what has been read -/
def StmR (S : HS) (M : Nat → Prop) (s : Nat) (y : STM) : Prop := hI S 160 s = y.1.1 ∧ ((y.1.1 = 122 ∨ y.1.1 = 98 ∨ y.1.1 = 109 ∨ y.1.1 = 97 ∨ y.1.1 = 114) → hI S 161 s = y.1.2.1) ∧ ((y.1.1 = 122 ∨ y.1.1 = 98 ∨ y.1.1 = 109) → hI S 162 s = y.1.2.2.1) ∧ ((y.1.1 = 122 ∨ y.1.1 = 98) → hI S 163 s = y.1.2.2.2) ∧ ((y.1.1 = 100 ∨ y.1.1 = 102 ∨ y.1.1 = 115 ∨ y.1.1 = 99) → hI S 162 s = y.1.2.1) ∧ (y.1.1 = 97 → ∃ z, hR S 164 s = some z ∧ RelA S M z (seF (fun _ => 0) 0 0 y.1.2.2.1 y.1.2.2.2 (nI y.2.1.2) (nI y.2.1.1.length) (tvF y.2.1.1) y.2.2) 0 0)
/-- one number differs -/
theorem RelV.n1 {S : HS} {M : Nat → Prop} {x v i c : Nat} {μ : Nat → Int32} {a : Nat → Nat} {y : Int32} (hw : WF μ) (hv : v < 6) (hV : RelV S M x μ v) (hO : OwV S x a) (hi : (i = 206 ∧ c = 146) ∨ (i = 207 ∧ c = 147) ∨ (i = 208 ∧ c = 148) ∨ (i = 209 ∧ c = 149)) : RelV (putI S i x y) M x (upd μ (274 + 510 * v + c) y) v ∧ vmP S (putI S i x y) x a := by
  have hf : frM S (putI S i x y) (fun b => b = x) := frM.pI (M := fun b => b = x) frM.rf rfl _ _
  have hk : hK (putI S i x y) = hK S := by simp only [px_KI, px_KR, px_KA, px_KB, px_KO, px_KW, px_KC, px_NI, px_NR, px_NA, px_NB, px_NO, px_NW, px_NC, px_II, px_IR, px_IA, px_IB, px_IO, px_IW, px_IC, px_RI, px_RR, px_RA, px_RB, px_RO, px_RW, px_RC, px_AI, px_AR, px_AA, px_AB, px_AO, px_AW, px_AC, px_BI, px_BR, px_BA, px_BB, px_BO, px_BW, px_BC]
  have hn : hN (putI S i x y) = hN S := by simp only [px_KI, px_KR, px_KA, px_KB, px_KO, px_KW, px_KC, px_NI, px_NR, px_NA, px_NB, px_NO, px_NW, px_NC, px_II, px_IR, px_IA, px_IB, px_IO, px_IW, px_IC, px_RI, px_RR, px_RA, px_RB, px_RO, px_RW, px_RC, px_AI, px_AR, px_AA, px_AB, px_AO, px_AW, px_AC, px_BI, px_BR, px_BA, px_BB, px_BO, px_BW, px_BC]
  have hr : hR (putI S i x y) = hR S := by simp only [px_KI, px_KR, px_KA, px_KB, px_KO, px_KW, px_KC, px_NI, px_NR, px_NA, px_NB, px_NO, px_NW, px_NC, px_II, px_IR, px_IA, px_IB, px_IO, px_IW, px_IC, px_RI, px_RR, px_RA, px_RB, px_RO, px_RW, px_RC, px_AI, px_AR, px_AA, px_AB, px_AO, px_AW, px_AC, px_BI, px_BR, px_BA, px_BB, px_BO, px_BW, px_BC]
  have hb : hB (putI S i x y) = hB S := by simp only [px_KI, px_KR, px_KA, px_KB, px_KO, px_KW, px_KC, px_NI, px_NR, px_NA, px_NB, px_NO, px_NW, px_NC, px_II, px_IR, px_IA, px_IB, px_IO, px_IW, px_IC, px_RI, px_RR, px_RA, px_RB, px_RO, px_RW, px_RC, px_AI, px_AR, px_AA, px_AB, px_AO, px_AW, px_AC, px_BI, px_BR, px_BA, px_BB, px_BO, px_BW, px_BC]
  have hA9 : hA (putI S i x y) = hA S := by simp only [px_KI, px_KR, px_KA, px_KB, px_KO, px_KW, px_KC, px_NI, px_NR, px_NA, px_NB, px_NO, px_NW, px_NC, px_II, px_IR, px_IA, px_IB, px_IO, px_IW, px_IC, px_RI, px_RR, px_RA, px_RB, px_RO, px_RW, px_RC, px_AI, px_AR, px_AA, px_AB, px_AO, px_AW, px_AC, px_BI, px_BR, px_BA, px_BB, px_BO, px_BW, px_BC]
  have sa : ∀ j, j < 33 → j ≠ 0 → sam S (putI S i x y) (a j) := fun j hj h1 => hO.sa hf hj (fun q => hO.ne hj (j := 0) (by omega) h1 (q.trans hO.1.symm))
  have fo : frM S (putI S i x y) (owA a) := hf.sub (fun b hb => ⟨0, by omega, hb.trans hO.1.symm⟩)
  have hm : ∀ {k : Nat}, (k < 274 + 510 * v + c ∨ 274 + 510 * v + c < k) → upd μ (274 + 510 * v + c) y k = μ k := fun hk => by unfold upd; rw [if_neg (by omega)]
  have hs : ∀ {j d : Nat}, ((j = 206 ∧ d = 146) ∨ (j = 207 ∧ d = 147) ∨ (j = 208 ∧ d = 148) ∨ (j = 209 ∧ d = 149) ∨ (j = 200 ∧ d = 0) ∨ (j = 201 ∧ d = 1)) → hI S j x = μ (274 + 510 * v + d) → hI (putI S i x y) j x = upd μ (274 + 510 * v + c) y (274 + 510 * v + d) := fun {j d} hj e => by
    rw [px_II]
    unfold upd
    by_cases g : d = c
    · rw [if_pos ⟨by omega, rfl⟩, if_pos (by rw [g])]
    · rw [if_neg (fun q => by omega), if_neg (by omega)]; exact e
  have hV0 := hV
  obtain ⟨⟨h1, h2, h3, h4, h6, h7, h8, h9⟩, _⟩ := hV
  obtain ⟨g1, g2, g3, _⟩ := hV0.in hO
  refine ⟨hV0.of hO hk hn hr ⟨?_, hs (by omega) h4, hs (by omega) h6, hs (by omega) h7, hs (by omega) h8, hs (by omega) h9⟩ (fun j hj => ?_) (by rw [hb]) (fun z9 hz9 => ?_) (fun b hb9 => ?_), fo, hO.up (fun i _ => by rw [hk]) (fun i => by rw [hr]) (by rw [hb]) (fun i z _ => by rw [hr])⟩
  · exact hs (d := 0) (by omega) h3
  · obtain ⟨n, hn12, en⟩ := hw.rng hv
    have i1 : iv (μ (274 + 510 * v + 1)) = n := by rw [en]; exact nI_clamp (by omega)
    rw [hm (by omega)] at hj
    have hj9 := hj
    rw [i1] at hj9
    rw [hA9, hm (by omega), hm (by omega), hm (by omega)]
    exact g1 j hj
  · exact (hO.scs hz9 (g2 z9 hz9) (sa _ (by omega) (by omega)) (sa _ (by omega) (by omega)) (sa _ (by omega) (by omega))).c1 ⟨by omega, by omega⟩ (hm (by omega)) (hm (by omega)) (fun k hk9 => hm (by omega)) (hw.b5 hv _ (by omega) (by omega))
  · exact hO.acs hV0 fo hb9 (by rw [hb]) (fun k hk9 => hm (by omega)) (hw.v30 hv b hb9)
theorem zin_bn {y : Int32} {lo hi n : Nat} (e : y = nI n) (hn : n < 2 ^ 31) (h1 : lo < 2 ^ 31) (h2 : hi < 2 ^ 31) : (zin y (nI lo) (nI hi) = 0) = ¬ (lo ≤ n ∧ n ≤ hi) := by
  refine propext ⟨fun h g => ?_, fun h => ?_⟩
  · have := (zin_0 (x := y) (lo := nI lo) (hi := nI hi))
    refine (this.mpr ?_) h
    rw [e, nI_leI h1 hn, nI_leI hn h2]
    exact g
  · by_cases g : zin y (nI lo) (nI hi) = 0
    · exact g
    · have q := zin_0.mp g
      rw [e, nI_leI h1 hn, nI_leI hn h2] at q
      exact absurd q h
theorem k_X9_carryOut (l : Launch) (D : va_G) (T : Nat → ClassId) (x0 : Nat) (p0 : Nat) (S : HS) (e0 : (Nat → Prop)) (e1 : Nat → Int32) (e2 : Nat) (e3 : Nat → Nat) (e4 : STM) (hx0 : hK S x0 = 10) (hp0 : hK S p0 = 8) (h : ((WF e1 ∧ e2 < 6 ∧ RelV S e0 x0 e1 e2) ∧ OwV S x0 e3) ∧ stW e4 ∧ StmR S e0 p0 e4) : CMi l yX9_carryOut (ws_X9_carryOut) rm_X9_carryOut D T [.ref x0, .ref p0] S 0 0 (fun v S1 => (v = b2i (crBx e1 e2 e4) ∧ (crBx e1 e2 e4 = true → RelV S1 e0 x0 (crSx e1 e2 e4) e2) ∧ vmP S S1 x0 e3)) := c_X9_carryOut l D T x0 p0 S hx0 hp0 _ <|
  (by
    obtain ⟨⟨⟨hw, hv, hV⟩, hO⟩, hs, r1, r2, r3, r4, r5, r6⟩ := h
    obtain ⟨⟨k, x1, x2, x3⟩, ⟨L, rows⟩, excl⟩ := e4
    dsimp only at r1 r2 r3 r4 r5 r6
    unfold stW at hs
    dsimp only at hs
    unfold wp_X9_carryOut crBx crSx crB crS
    dsimp only
    intro v1 ev1 v2 ev2
    rw [r1] at ev2
    rcases hs with ⟨e, h1, h2, h3⟩ | ⟨e, h1, h2, h3⟩ | ⟨e, h1, h2⟩ | ⟨e, n, hn, en⟩ | ⟨e, h1, h2, h3, h4, h5, _⟩ | ⟨e, h1⟩
    · subst e ev2
      rw [r3 (by decide)] at ev1
      subst ev1
      refine ⟨fun c => absurd c (by decide), fun _ => ⟨fun c => absurd c (by decide), fun _ => ⟨fun c => absurd c (by decide), fun _ => ⟨fun c => absurd c (by decide), fun _ => ⟨fun c => absurd c (by decide), fun _ => ⟨fun c => absurd c (by decide), fun _ => ⟨fun c => absurd c (by decide), fun _ => ⟨fun c => absurd c (by decide), fun _ => ⟨fun _ => ?_, fun c => absurd rfl c⟩⟩⟩⟩⟩⟩⟩⟩⟩
      rw [r2 (by decide), r4 (by decide)]
      refine ⟨e0, e1, e2, e3, ⟨⟨hw, hv, hV⟩, hO⟩, fun v9 S9 _ h9 => ⟨by rw [h9.1]; exact b2i_vz _, h9⟩⟩
    · subst e ev2
      rw [r3 (by decide)] at ev1
      subst ev1
      refine ⟨fun c => absurd c (by decide), fun _ => ⟨fun _ => ?_, fun c => absurd rfl c⟩⟩
      rw [r2 (by decide), r4 (by decide)]
      refine ⟨e0, e1, e2, e3, ⟨⟨⟨hw, hv, hV⟩, hO⟩, h1, h3⟩, fun v9 S9 _ h9 => ⟨by rw [h9.1]; exact b2i_vz _, h9⟩⟩
    · subst e ev2
      rw [r3 (by decide)] at ev1
      subst ev1
      refine ⟨fun c => absurd c (by decide), fun _ => ⟨fun c => absurd c (by decide), fun _ => ⟨fun c => absurd c (by decide), fun _ => ⟨fun c => absurd c (by decide), fun _ => ⟨fun c => absurd c (by decide), fun _ => ⟨fun _ => ?_, fun c => absurd rfl c⟩⟩⟩⟩⟩⟩
      rw [r2 (by decide)]
      refine ⟨e0, e1, e2, e3, ⟨⟨⟨hw, hv, hV⟩, hO⟩, h1⟩, fun v9 S9 _ h9 => ⟨by rw [h9.1]; exact vz1, ?_⟩⟩
      obtain ⟨n, hn, en⟩ := h2
      have ez : (zin v1 0 9999 = 0) = ¬ (0 ≤ n ∧ n ≤ 9999) := zin_bn (lo := 0) (hi := 9999) en (by omega) (by decide) (by decide)
      have eb : b2i (decide (¬ zin v1 0 9999 = 0)) = 1 := by rw [decide_eq_true (by rw [ez]; omega)]; rfl
      exact ⟨h9.1.trans eb.symm, fun _ => h9.2.1 True.intro, h9.2.2⟩
    · rw [r5 e] at ev1
      subst ev1 ev2
      rcases e with e | e | e | e
      · subst e
        refine ⟨fun c => absurd c (by decide), fun _ => ⟨fun c => absurd c (by decide), fun _ => ⟨fun c => absurd c (by decide), fun _ => ⟨fun _ => ?_, fun c => absurd rfl c⟩⟩⟩⟩
        have key := fun y => hV.n1 (i := 206) (c := 146) (y := y) hw hv hO (by omega)
        have ez : (zin v1 1000 9999 = 0) = ¬ (1000 ≤ n ∧ n ≤ 9999) := zin_bn (lo := 1000) (hi := 9999) en (by omega) (by decide) (by decide)
        intro S9 e9
        subst e9
        refine ⟨fun c => ⟨?_, fun _ => (key v1).1, (key v1).2⟩, fun c => ⟨?_, fun _ => (key v1).1, (key v1).2⟩⟩
        · rw [en, show (1000 : Int32) = nI 1000 from rfl, nI_ltI (by omega) (by omega)] at c
          exact show (0 : Int32) = b2i (decide (¬ zin v1 1000 9999 = 0)) from by rw [decide_eq_false (by rw [ez]; omega)]; rfl
        · rw [en, show (1000 : Int32) = nI 1000 from rfl, nI_ltI (by omega) (by omega)] at c
          exact show (1 : Int32) = b2i (decide (¬ zin v1 1000 9999 = 0)) from by rw [decide_eq_true (by rw [ez]; omega)]; rfl
      · subst e
        refine ⟨fun c => absurd c (by decide), fun _ => ⟨fun c => absurd c (by decide), fun _ => ⟨fun c => absurd c (by decide), fun _ => ⟨fun c => absurd c (by decide), fun _ => ⟨fun _ => ?_, fun c => absurd rfl c⟩⟩⟩⟩⟩
        have key := fun y => hV.n1 (i := 207) (c := 147) (y := y) hw hv hO (by omega)
        have ez : (zin v1 0 99 = 0) = ¬ (0 ≤ n ∧ n ≤ 99) := zin_bn (lo := 0) (hi := 99) en (by omega) (by decide) (by decide)
        intro S9 e9
        subst e9
        refine ⟨fun c => ⟨?_, fun _ => (key v1).1, (key v1).2⟩, fun c => ⟨?_, fun _ => (key v1).1, (key v1).2⟩⟩
        · rw [en, show (99 : Int32) = nI 99 from rfl, nI_ltI (by omega) (by omega)] at c
          exact show (0 : Int32) = b2i (decide (¬ zin v1 0 99 = 0)) from by rw [decide_eq_false (by rw [ez]; omega)]; rfl
        · rw [en, show (99 : Int32) = nI 99 from rfl, nI_ltI (by omega) (by omega)] at c
          exact show (1 : Int32) = b2i (decide (¬ zin v1 0 99 = 0)) from by rw [decide_eq_true (by rw [ez]; omega)]; rfl
      · subst e
        refine ⟨fun c => absurd c (by decide), fun _ => ⟨fun c => absurd c (by decide), fun _ => ⟨fun c => absurd c (by decide), fun _ => ⟨fun c => absurd c (by decide), fun _ => ⟨fun c => absurd c (by decide), fun _ => ⟨fun c => absurd c (by decide), fun _ => ⟨fun c => absurd c (by decide), fun _ => ⟨fun _ => ?_, fun c => absurd rfl c⟩⟩⟩⟩⟩⟩⟩⟩
        have key := fun y => hV.n1 (i := 208) (c := 148) (y := y) hw hv hO (by omega)
        have ez : (zin v1 0 9999 = 0) = ¬ (0 ≤ n ∧ n ≤ 9999) := zin_bn (lo := 0) (hi := 9999) en (by omega) (by decide) (by decide)
        intro S9 e9
        subst e9
        refine ⟨?_, fun _ => (key v1).1, (key v1).2⟩
        exact show (1 : Int32) = b2i (decide (¬ zin v1 0 9999 = 0)) from by rw [decide_eq_true (by rw [ez]; omega)]; rfl
      · subst e
        refine ⟨fun c => absurd c (by decide), fun _ => ⟨fun c => absurd c (by decide), fun _ => ⟨fun _ => ?_, fun c => absurd rfl c⟩⟩⟩
        have key := fun y => hV.n1 (i := 209) (c := 149) (y := y) hw hv hO (by omega)
        have ez : (zin v1 0 9999 = 0) = ¬ (0 ≤ n ∧ n ≤ 9999) := zin_bn (lo := 0) (hi := 9999) en (by omega) (by decide) (by decide)
        intro S9 e9
        subst e9
        refine ⟨?_, fun _ => (key v1).1, (key v1).2⟩
        exact show (1 : Int32) = b2i (decide (¬ zin v1 0 9999 = 0)) from by rw [decide_eq_true (by rw [ez]; omega)]; rfl
    · subst e ev2
      obtain ⟨z, rz, hA9⟩ := r6 rfl
      refine ⟨fun _ => ?_, fun c => absurd rfl c⟩
      intro o eo _
      rw [r2 (by decide), eo, rz]
      refine ⟨e0, e1, e2, e3, x2, x3, nI rows, nI L.length, tvF L, excl, ⟨⟨⟨hw, hv, hV⟩, hO⟩, h1, z, rfl, hA9, h2, L.length, h4, rfl⟩, fun v9 S9 _ h9 => ⟨by rw [h9.1]; exact b2i_vz _, h9⟩⟩
    · subst e ev2
      refine ⟨fun c => absurd c (by decide), fun _ => ⟨fun c => absurd c (by decide), fun _ => ⟨fun c => absurd c (by decide), fun _ => ⟨fun c => absurd c (by decide), fun _ => ⟨fun c => absurd c (by decide), fun _ => ⟨fun c => absurd c (by decide), fun _ => ⟨fun _ => ?_, fun c => absurd rfl c⟩⟩⟩⟩⟩⟩⟩
      rw [r2 (by decide)]
      refine ⟨e0, e1, e2, e3, ⟨⟨⟨hw, hv, hV⟩, hO⟩, h1⟩, fun v9 S9 _ h9 => ⟨by rw [h9.1]; exact b2i_vz _, h9⟩⟩)

end S_C5H
