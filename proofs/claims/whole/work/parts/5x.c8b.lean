section S_C8B
abbrev ws_X3_readAccessorial : List Cond := Cond.code yX3_readAccessorial cX3_readAccessorial 2 (some (.object "FreightRater$Accessorial")) :: W0
abbrev rm_X3_readAccessorial : Room := ({ frames := 20, cells := 0, slots := 0, locals := 765 } : Room)
def wp_X3_readAccessorial_47 (T : Nat → ClassId) (P : Option Nat → HS → Prop) (x0 : Nat) (x1 : Nat) (S : HS) (kc ks : Nat) : Prop := ∃ (m74 : Nat → Int32) (m75 : Nat) (m76 : PS), ((RdO S x0 m74 m75 m76 ∧ ¬ 63 = (-1 : Int32)) ∧ (∀ (v83 : Int32) (S78 : HS), ext S S78 → (v83 = b2i (tkB m74 m75 m76 63) ∧ c3 S S78 x0 [82, 83] ∧ RdO S78 x0 m74 m75 (tkS m74 m75 m76 63)) → ((v83 = 0 → (∃ (m88 : Nat → Int32) (m89 : Nat) (m90 : PS), ((RdO S78 x0 m88 m89 m90 ∧ ¬ 33 = (-1 : Int32)) ∧ (∀ (v97 : Int32) (S92 : HS), ext S78 S92 → (v97 = b2i (tkB m88 m89 m90 33) ∧ c3 S78 S92 x0 [82, 83] ∧ RdO S92 x0 m88 m89 (tkS m88 m89 m90 33)) → ((v97 = 0 → (P (some x1) S92)) ∧ (¬ v97 = 0 → (∃ (m102 : Nat → Int32) (m103 : Nat) (m104 : PS) (m105 : Int32) (m106 : Int32), ((RdO S92 x0 m102 m103 m104 ∧ 48 = 48 + m105 ∧ 57 = 48 + m106 ∧ dix m105 m106) ∧ (∀ (v113 : Int32) (S108 : HS), ext S92 S108 → (v113 = dgV m102 m103 m104 m105 m106 ∧ c3 S92 S108 x0 [82, 83] ∧ RdO S108 x0 m102 m103 (dgS m102 m103 m104 m105 m106)) → (∀ S118 : HS, S118 = putI S108 22 x1 v113 → (P (some x1) S118))))))))))) ∧ (¬ v83 = 0 → (∃ cc124 cc125 : Nat, (cc124 ≤ kc ∧ cc125 ≤ ks) ∧ (∃ (m127 : Nat → Int32) (m128 : Nat) (m129 : PS) (m130 : Nat) (m131 : (Nat → Prop)), ((RdO S78 x0 m127 m128 m129 ∧ chO m127 m128 ∧ hR S78 24 x1 = some m130 ∧ LiO S78 (T 120) m130 0 9 (fun _ => 0) ∧ hR S78 261 m130 = some (T 120) ∧ hI S78 23 x1 = nI 0 ∧ hK S78 (T 120) = 30 ∧ hN S78 (T 120) = 0 ∧ (∀ b, m131 b → hK S78 b ≠ 0) ∧ 2 * (cnF m127 m128 m129).1.length ≤ cc124 ∧ 405 * (cnF m127 m128 m129).1.length ≤ cc125) ∧ (∀ (S133 : HS), ext S78 S133 → (frM S78 S133 (fun b => b = x0 ∨ b = x1 ∨ b = m130) ∧ RdO S133 x0 m127 m128 (cnF m127 m128 m129).2.2 ∧ hR S133 24 x1 = some m130 ∧ (∀ i, i ≠ 23 → hI S133 i x1 = hI S78 i x1) ∧ ((cnF m127 m128 m129).2.2.2 = false → hI S133 23 x1 = nI ((cnF m127 m128 m129).2.1 + 1) ∧ CdL S133 m131 (T 120) m130 (cnF m127 m128 m129).1) ∧ ∃ ar, hR S133 261 m130 = some ar ∧ hK S133 ar = 30 ∧ hK S78 ar = 0) → (∃ (m141 : Nat → Int32) (m142 : Nat) (m143 : PS), ((RdO S133 x0 m141 m142 m143 ∧ ¬ 33 = (-1 : Int32)) ∧ (∀ (v150 : Int32) (S145 : HS), ext S133 S145 → (v150 = b2i (tkB m141 m142 m143 33) ∧ c3 S133 S145 x0 [82, 83] ∧ RdO S145 x0 m141 m142 (tkS m141 m142 m143 33)) → ((v150 = 0 → (P (some x1) S145)) ∧ (¬ v150 = 0 → (∃ (m155 : Nat → Int32) (m156 : Nat) (m157 : PS) (m158 : Int32) (m159 : Int32), ((RdO S145 x0 m155 m156 m157 ∧ 48 = 48 + m158 ∧ 57 = 48 + m159 ∧ dix m158 m159) ∧ (∀ (v166 : Int32) (S161 : HS), ext S145 S161 → (v166 = dgV m155 m156 m157 m158 m159 ∧ c3 S145 S161 x0 [82, 83] ∧ RdO S161 x0 m155 m156 (dgS m155 m156 m157 m158 m159)) → (∀ S171 : HS, S171 = putI S161 22 x1 v166 → (P (some x1) S171))))))))))))))))))
set_option maxRecDepth 100000 in
set_option maxHeartbeats 4000000 in
theorem t_X3_readAccessorial_47 {p : Program} {l : Launch} {e : Env} {s : State} {m : MethodId} {args : Array Value} {below : List Frame} {meth : Method} {c : Code} {D : va_G} {A : Nat → Prop} {T : Nat → ClassId} {mc ms : Nat} (C : GC p s m args meth c cX3_readAccessorial "FreightRater$Reader" (ws_X3_readAccessorial) 2 D A (zty T)) (E : GE T A s) (hr : meth.sig.returnType = (some (.object "FreightRater$Accessorial"))) (S0 : HS) (P : Option Nat → HS → Prop) : ∀ (x0 : Nat) (x1 : Nat) (S : HS) (kc ks : Nat) (L : List Nat), wt S → hL S L → ext S0 S → (hK S x0 = 4) → (hK S x1 = 1) → wp_X3_readAccessorial_47 T  P x0 x1 S kc ks → GW p l e { rm_X3_readAccessorial with cells := mc, slots := ms } s m args below meth c D A 2 mc ms (MQ below (va_Qq (fun v (u : HS × List Nat) => (P v u.1 ∧ ∀ b, v = some b → hK u.1 b = 1) ∧ CO S0 u) (CE D T A) A) args s mc ms A) (CW T S L) kc ks 47 [(0, .ref x0), (1, .ref x1)] [] := by
  have hW : ∀ {w : Cond}, w ∈ W0 → w.before args s = true := fun h => C.2.2.2.2.1 _ (List.mem_cons_of_mem _ h)
  intro x0 x1 S kc ks L hw hL he hx0 hx1 h
  unfold wp_X3_readAccessorial_47 at h
  refine g_aload_n C dX3_readAccessorial_47 rfl 0 rfl ?_
  refine g_bipush (v := 63) C dX3_readAccessorial_48 (by decide) ?_
  obtain ⟨m74, m75, m76, h⟩ := h
  obtain ⟨g77, h⟩ := h
  refine gc_calliV (host := "") C E hw hL hx0 (by decide) (by decide) rfl [.int 63] rfl (k_X3_take l D T x0 63 S m74 m75 m76 hx0 g77) (w0_V 1 C.2.2.2.2.1 kw_719 kw_721 ks_7 kw_19 kw_722 rfl rfl (by decide +kernel) ⟨Nat.le_of_ble_eq_true rfl, Nat.le_of_ble_eq_true rfl⟩) rfl (Nat.le_of_ble_eq_true rfl) (Nat.le_refl _) (Nat.le_refl _) (Nat.zero_le _) (Nat.zero_le _) dX3_readAccessorial_50 (fun v83 S78 L79 e80 w81 w82 hp => ?_)
  replace h := h v83 S78 e80 hp
  have g84 := ext_K e80 hx0 (by decide)
  have g85 := ext_K e80 hx1 (by decide)
  have w86 := ext_tr he e80
  refine g_if_eq (tgt := 61) C dX3_readAccessorial_53 (by decide) (fun z87 => ?_) (fun z87 => ?_)
  · replace h := h.1 z87
    refine g_aload_n C dX3_readAccessorial_61 rfl 0 rfl ?_
    refine g_bipush (v := 33) C dX3_readAccessorial_62 (by decide) ?_
    obtain ⟨m88, m89, m90, h⟩ := h
    obtain ⟨g91, h⟩ := h
    refine gc_calliV (host := "") C E w81 w82 g84 (by decide) (by decide) rfl [.int 33] rfl (k_X3_take l D T x0 33 S78 m88 m89 m90 g84 g91) (w0_V 1 C.2.2.2.2.1 kw_719 kw_721 ks_7 kw_19 kw_722 rfl rfl (by decide +kernel) ⟨Nat.le_of_ble_eq_true rfl, Nat.le_of_ble_eq_true rfl⟩) rfl (Nat.le_of_ble_eq_true rfl) (Nat.le_refl _) (Nat.le_refl _) (Nat.zero_le _) (Nat.zero_le _) dX3_readAccessorial_64 (fun v97 S92 L93 e94 w95 w96 hp => ?_)
    replace h := h v97 S92 e94 hp
    have g98 := ext_K e94 g84 (by decide)
    have g99 := ext_K e94 g85 (by decide)
    have w100 := ext_tr w86 e94
    refine g_if_eq (tgt := 82) C dX3_readAccessorial_67 (by decide) (fun z101 => ?_) (fun z101 => ?_)
    · replace h := h.1 z101
      refine g_aload_n C dX3_readAccessorial_82 rfl 1 rfl ?_
      exact gc_aret (v := (some x1)) (kd := 1) C (Or.inl ⟨_, rfl⟩) (fun b hb => by cases hb; exact g99) w95 w96 w100 hr dX3_readAccessorial_83 h
    · replace h := h.2 z101
      refine g_aload_n C dX3_readAccessorial_70 rfl 1 rfl ?_
      refine g_aload_n C dX3_readAccessorial_71 rfl 0 rfl ?_
      refine g_bipush (v := 48) C dX3_readAccessorial_72 (by decide) ?_
      refine g_bipush (v := 57) C dX3_readAccessorial_74 (by decide) ?_
      obtain ⟨m102, m103, m104, m105, m106, h⟩ := h
      obtain ⟨g107, h⟩ := h
      refine gc_calliV (host := "") C E w95 w96 g98 (by decide) (by decide) rfl [.int 48, .int 57] rfl (k_X3_readDigit l D T x0 48 57 S92 m102 m103 m104 m105 m106 g98 g107) (w0_V 2 C.2.2.2.2.1 kw_711 kw_713 ks_5 kw_19 kw_714 rfl rfl (by decide +kernel) ⟨Nat.le_of_ble_eq_true rfl, Nat.le_of_ble_eq_true rfl⟩) rfl (Nat.le_of_ble_eq_true rfl) (Nat.le_refl _) (Nat.le_refl _) (Nat.zero_le _) (Nat.zero_le _) dX3_readAccessorial_76 (fun v113 S108 L109 e110 w111 w112 hp => ?_)
      replace h := h v113 S108 e110 hp
      have g114 := ext_K e110 g99 (by decide)
      have g115 := ext_K e110 g98 (by decide)
      have w116 := ext_tr w100 e110
      refine gc_putI C iwx_X0 w112 g114 (by decide) (by decide) rfl 2 (by decide) (hW kw_746) rfl tyX0 tyX0_ok nmX0 rfl rfl rfl rfl rfl dX3_readAccessorial_79 ?_
      have w117 := wt_putI w111 22 v113 (k_ne g114 (by decide))
      refine gc_nS (fun S118 eS118 => ?_)
      replace h := h S118 eS118
      have w119 : wt S118 := by rw [eS118]; exact w117
      have w120 : isL S118 L109 := by rw [eS118]; exact w112
      have w121 : ext S0 S118 := by rw [eS118]; exact w116
      have g122 : hK S118 x0 = 4 := by rw [eS118]; exact g115
      have g123 : hK S118 x1 = 1 := by rw [eS118]; exact g114
      refine g_aload_n C dX3_readAccessorial_82 rfl 1 rfl ?_
      exact gc_aret (v := (some x1)) (kd := 1) C (Or.inl ⟨_, rfl⟩) (fun b hb => by cases hb; exact g123) w119 w120 w121 hr dX3_readAccessorial_83 h
  · replace h := h.2 z87
    refine g_aload_n C dX3_readAccessorial_56 rfl 0 rfl ?_
    refine g_aload_n C dX3_readAccessorial_57 rfl 1 rfl ?_
    obtain ⟨cc124, cc125, g126, h⟩ := h
    obtain ⟨m127, m128, m129, m130, m131, h⟩ := h
    obtain ⟨g132, h⟩ := h
    refine gc_callvV (host := "") C E w81 w82 g84 (by decide) (by decide) rfl [.ref x1] rfl (k_X3_readCondition l D T x0 x1 S78 m127 m128 m129 m130 m131 cc124 cc125 g84 g85 g132) (w0_V 1 C.2.2.2.2.1 kw_764 kw_766 ks_10 kw_19 kw_767 rfl rfl (by decide +kernel) ⟨Nat.le_of_ble_eq_true rfl, Nat.le_of_ble_eq_true rfl⟩) rfl (Nat.le_of_ble_eq_true rfl) (Nat.le_refl _) (Nat.le_refl _) g126.1 g126.2 dX3_readAccessorial_58 (fun S133 L134 e135 w136 w137 hp => ?_)
    replace h := h S133 e135 hp
    have g138 := ext_K e135 g84 (by decide)
    have g139 := ext_K e135 g85 (by decide)
    have w140 := ext_tr w86 e135
    refine g_aload_n C dX3_readAccessorial_61 rfl 0 rfl ?_
    refine g_bipush (v := 33) C dX3_readAccessorial_62 (by decide) ?_
    obtain ⟨m141, m142, m143, h⟩ := h
    obtain ⟨g144, h⟩ := h
    refine gc_calliV (host := "") C E w136 w137 g138 (by decide) (by decide) rfl [.int 33] rfl (k_X3_take l D T x0 33 S133 m141 m142 m143 g138 g144) (w0_V 1 C.2.2.2.2.1 kw_719 kw_721 ks_7 kw_19 kw_722 rfl rfl (by decide +kernel) ⟨Nat.le_of_ble_eq_true rfl, Nat.le_of_ble_eq_true rfl⟩) rfl (Nat.le_of_ble_eq_true rfl) (Nat.le_refl _) (Nat.le_refl _) (Nat.zero_le _) (Nat.zero_le _) dX3_readAccessorial_64 (fun v150 S145 L146 e147 w148 w149 hp => ?_)
    replace h := h v150 S145 e147 hp
    have g151 := ext_K e147 g138 (by decide)
    have g152 := ext_K e147 g139 (by decide)
    have w153 := ext_tr w140 e147
    refine g_if_eq (tgt := 82) C dX3_readAccessorial_67 (by decide) (fun z154 => ?_) (fun z154 => ?_)
    · replace h := h.1 z154
      refine g_aload_n C dX3_readAccessorial_82 rfl 1 rfl ?_
      exact gc_aret (v := (some x1)) (kd := 1) C (Or.inl ⟨_, rfl⟩) (fun b hb => by cases hb; exact g152) w148 w149 w153 hr dX3_readAccessorial_83 h
    · replace h := h.2 z154
      refine g_aload_n C dX3_readAccessorial_70 rfl 1 rfl ?_
      refine g_aload_n C dX3_readAccessorial_71 rfl 0 rfl ?_
      refine g_bipush (v := 48) C dX3_readAccessorial_72 (by decide) ?_
      refine g_bipush (v := 57) C dX3_readAccessorial_74 (by decide) ?_
      obtain ⟨m155, m156, m157, m158, m159, h⟩ := h
      obtain ⟨g160, h⟩ := h
      refine gc_calliV (host := "") C E w148 w149 g151 (by decide) (by decide) rfl [.int 48, .int 57] rfl (k_X3_readDigit l D T x0 48 57 S145 m155 m156 m157 m158 m159 g151 g160) (w0_V 2 C.2.2.2.2.1 kw_711 kw_713 ks_5 kw_19 kw_714 rfl rfl (by decide +kernel) ⟨Nat.le_of_ble_eq_true rfl, Nat.le_of_ble_eq_true rfl⟩) rfl (Nat.le_of_ble_eq_true rfl) (Nat.le_refl _) (Nat.le_refl _) (Nat.zero_le _) (Nat.zero_le _) dX3_readAccessorial_76 (fun v166 S161 L162 e163 w164 w165 hp => ?_)
      replace h := h v166 S161 e163 hp
      have g167 := ext_K e163 g152 (by decide)
      have g168 := ext_K e163 g151 (by decide)
      have w169 := ext_tr w153 e163
      refine gc_putI C iwx_X0 w165 g167 (by decide) (by decide) rfl 2 (by decide) (hW kw_746) rfl tyX0 tyX0_ok nmX0 rfl rfl rfl rfl rfl dX3_readAccessorial_79 ?_
      have w170 := wt_putI w164 22 v166 (k_ne g167 (by decide))
      refine gc_nS (fun S171 eS171 => ?_)
      replace h := h S171 eS171
      have w172 : wt S171 := by rw [eS171]; exact w170
      have w173 : isL S171 L162 := by rw [eS171]; exact w165
      have w174 : ext S0 S171 := by rw [eS171]; exact w169
      have g175 : hK S171 x0 = 4 := by rw [eS171]; exact g168
      have g176 : hK S171 x1 = 1 := by rw [eS171]; exact g167
      refine g_aload_n C dX3_readAccessorial_82 rfl 1 rfl ?_
      exact gc_aret (v := (some x1)) (kd := 1) C (Or.inl ⟨_, rfl⟩) (fun b hb => by cases hb; exact g176) w172 w173 w174 hr dX3_readAccessorial_83 h
def wp_X3_readAccessorial (T : Nat → ClassId) (P : Option Nat → HS → Prop) (x0 : Nat) (S : HS) (mc ms : Nat) : Prop := (1 ≤ mc ∧ 5 ≤ ms) ∧ (∀ q1 : Nat, hK S q1 = 0 → zr S q1 → (∀ S8 : HS, S8 = newO S q1 1 → (∃ cc14 cc15 : Nat, (cc14 ≤ (mc - 1) ∧ cc15 ≤ (ms - 5)) ∧ ((hK S8 (T 120) = 30 ∧ hN S8 (T 120) = 0 ∧ 1 ≤ cc14 ∧ 3 ≤ cc15) ∧ (∀ (S18 : HS), ext S8 S18 → (frM S8 S18 (fun b => b = q1) ∧ (∀ i, hI S18 i q1 = if i = 22 then -1 else if i = 21 then 0 else hI S8 i q1) ∧ ∃ q, hK S8 q = 0 ∧ hR S18 24 q1 = some q ∧ LiO S18 (T 120) q 0 9 (fun _ => 0) ∧ hR S18 261 q = some (T 120)) → (∃ (m26 : Nat → Int32) (m27 : Nat) (m28 : PS), ((RdO S18 x0 m26 m27 m28) ∧ (∀ (v35 : Int32) (S30 : HS), ext S18 S30 → (v35 = (nbF m26 m27 m28).1 ∧ c3 S18 S30 x0 [82, 83] ∧ RdO S30 x0 m26 m27 ((nbF m26 m27 m28).2)) → (∀ S40 : HS, S40 = putI S30 20 q1 v35 → (∃ (m46 : Nat → Int32) (m47 : Nat) (m48 : PS), ((RdO S40 x0 m46 m47 m48 ∧ ¬ 37 = (-1 : Int32)) ∧ (∀ (v55 : Int32) (S50 : HS), ext S40 S50 → (v55 = b2i (tkB m46 m47 m48 37) ∧ c3 S40 S50 x0 [82, 83] ∧ RdO S50 x0 m46 m47 (tkS m46 m47 m48 37)) → ((v55 = 0 → (∃ (m60 : Nat → Int32) (m61 : Nat) (m62 : PS), ((RdO S50 x0 m60 m61 m62 ∧ ¬ 42 = (-1 : Int32)) ∧ (∀ (v69 : Int32) (S64 : HS), ext S50 S64 → (v69 = b2i (tkB m60 m61 m62 42) ∧ c3 S50 S64 x0 [82, 83] ∧ RdO S64 x0 m60 m61 (tkS m60 m61 m62 42)) → ((v69 = 0 → (wp_X3_readAccessorial_47 T  P x0 q1 S64 ((mc - 1) - cc14) ((ms - 5) - cc15))) ∧ (¬ v69 = 0 → (∀ S178 : HS, S178 = putI S64 21 q1 1 → (wp_X3_readAccessorial_47 T  P x0 q1 S178 ((mc - 1) - cc14) ((ms - 5) - cc15))))))))) ∧ (¬ v55 = 0 → (∀ S185 : HS, S185 = putI S50 21 q1 2 → (wp_X3_readAccessorial_47 T  P x0 q1 S185 ((mc - 1) - cc14) ((ms - 5) - cc15)))))))))))))))))
set_option maxRecDepth 100000 in
set_option maxHeartbeats 4000000 in
theorem t_X3_readAccessorial {p : Program} {l : Launch} {e : Env} {s : State} {m : MethodId} {args : Array Value} {below : List Frame} {meth : Method} {c : Code} {D : va_G} {A : Nat → Prop} {T : Nat → ClassId} (C : GC p s m args meth c cX3_readAccessorial "FreightRater$Reader" (ws_X3_readAccessorial) 2 D A (zty T)) (E : GE T A s) (hr : meth.sig.returnType = (some (.object "FreightRater$Accessorial"))) (P : Option Nat → HS → Prop) : ∀ (x0 : Nat) (S0 S : HS) (mc ms : Nat) (L : List Nat), S0 = S → wt S → hL S L → (hK S x0 = 4) → wp_X3_readAccessorial T P x0 S mc ms → GW p l e { rm_X3_readAccessorial with cells := mc, slots := ms } s m args below meth c D A 2 mc ms (MQ below (va_Qq (fun v (u : HS × List Nat) => (P v u.1 ∧ ∀ b, v = some b → hK u.1 b = 1) ∧ CO S0 u) (CE D T A) A) args s mc ms A) (CW T S L) mc ms 0 [(0, .ref x0)] [] := by
  have hW : ∀ {w : Cond}, w ∈ W0 → w.before args s = true := fun h => C.2.2.2.2.1 _ (List.mem_cons_of_mem _ h)
  intro x0 S0 S mc ms L hS0 hw hL hx0 h
  have he : ext S0 S := by rw [hS0]; exact ext_rf
  unfold wp_X3_readAccessorial at h
  obtain ⟨g2, h⟩ := h
  refine gc_new (kd := 1) (N := 5) C E hw hL (Nat.le_refl _) (Nat.le_refl _) iwx_X0 tyX0 tyX0_ok (by decide) (by decide) rfl (fun j hj => by rcases (show j = 0 ∨ j = 1 ∨ j = 2 ∨ j = 3 ∨ j = 4 by omega) with rfl | rfl | rfl | rfl | rfl <;> rfl) (hW kw_731) (hW kw_732) (hW kw_27) g2.1 g2.2 dX3_readAccessorial_0 (fun q1 h0q1 zq1 => ?_)
  replace h := h q1 h0q1 zq1
  have g3 := newO_old 1 hx0 (by decide) h0q1
  have w4 := wt_newO hw 1 h0q1 (by decide)
  have w5 := hL_new (S' := newO S q1 1) hL (show 1 ≠ 0 by decide) rfl
  have w6 := ext_newO he h0q1 1
  have g7 := newO_self S q1 1
  refine gc_nS (fun S8 eS8 => ?_)
  replace h := h S8 eS8
  have w9 : wt S8 := by rw [eS8]; exact w4
  have w10 : isL S8 (L ++ [q1]) := by rw [eS8]; exact w5
  have w11 : ext S0 S8 := by rw [eS8]; exact w6
  have g12 : hK S8 q1 = 1 := by rw [eS8]; exact g7
  have g13 : hK S8 x0 = 4 := by rw [eS8]; exact g3
  refine g_dup C dX3_readAccessorial_3 rfl ?_
  obtain ⟨cc14, cc15, g16, h⟩ := h
  obtain ⟨g17, h⟩ := h
  refine gc_callvIN (host := "FreightRater") (ret := none) C E w9 w10 [] rfl (k_X0_init l D T q1 S8 cc14 cc15 g12 g17) (w0_IN 0 E C.2.2.2.2.1 (by decide) kw_734 kw_27 kw_735 rfl rfl rfl (by decide +kernel) ⟨Nat.le_of_ble_eq_true rfl, Nat.le_of_ble_eq_true rfl⟩) rfl (Nat.le_of_ble_eq_true rfl) (Nat.le_refl _) (Nat.le_refl _) g16.1 g16.2 dX3_readAccessorial_4 (fun S18 L19 e20 w21 w22 hp => ?_)
  replace h := h S18 e20 hp
  have g23 := ext_K e20 g12 (by decide)
  have g24 := ext_K e20 g13 (by decide)
  have w25 := ext_tr w11 e20
  refine g_astore_n (lv' := [(1, .ref q1), (0, .ref x0)]) C dX3_readAccessorial_7 rfl (by decide) rfl ?_
  refine g_aload_n C dX3_readAccessorial_8 rfl 0 rfl ?_
  refine g_aload_n C dX3_readAccessorial_9 rfl 1 rfl ?_
  obtain ⟨m26, m27, m28, h⟩ := h
  obtain ⟨g29, h⟩ := h
  refine gc_calliV (host := "") C E w21 w22 g24 (by decide) (by decide) rfl [] rfl (k_X3_readNumber l D T x0 S18 m26 m27 m28 g24 g29) (w0_V 0 C.2.2.2.2.1 kw_723 kw_725 ks_8 kw_19 kw_726 rfl rfl (by decide +kernel) ⟨Nat.le_of_ble_eq_true rfl, Nat.le_of_ble_eq_true rfl⟩) rfl (Nat.le_of_ble_eq_true rfl) (Nat.le_refl _) (Nat.le_refl _) (Nat.zero_le _) (Nat.zero_le _) dX3_readAccessorial_10 (fun v35 S30 L31 e32 w33 w34 hp => ?_)
  replace h := h v35 S30 e32 hp
  have g36 := ext_K e32 g23 (by decide)
  have g37 := ext_K e32 g24 (by decide)
  have w38 := ext_tr w25 e32
  refine gc_putI C iwx_X0 w34 g36 (by decide) (by decide) rfl 0 (by decide) (hW kw_740) rfl tyX0 tyX0_ok nmX0 rfl rfl rfl rfl rfl dX3_readAccessorial_13 ?_
  have w39 := wt_putI w33 20 v35 (k_ne g36 (by decide))
  refine gc_nS (fun S40 eS40 => ?_)
  replace h := h S40 eS40
  have w41 : wt S40 := by rw [eS40]; exact w39
  have w42 : isL S40 L31 := by rw [eS40]; exact w34
  have w43 : ext S0 S40 := by rw [eS40]; exact w38
  have g44 : hK S40 q1 = 1 := by rw [eS40]; exact g36
  have g45 : hK S40 x0 = 4 := by rw [eS40]; exact g37
  refine g_aload_n C dX3_readAccessorial_16 rfl 1 rfl ?_
  refine g_bipush (v := 37) C dX3_readAccessorial_17 (by decide) ?_
  obtain ⟨m46, m47, m48, h⟩ := h
  obtain ⟨g49, h⟩ := h
  refine gc_calliV (host := "") C E w41 w42 g45 (by decide) (by decide) rfl [.int 37] rfl (k_X3_take l D T x0 37 S40 m46 m47 m48 g45 g49) (w0_V 1 C.2.2.2.2.1 kw_719 kw_721 ks_7 kw_19 kw_722 rfl rfl (by decide +kernel) ⟨Nat.le_of_ble_eq_true rfl, Nat.le_of_ble_eq_true rfl⟩) rfl (Nat.le_of_ble_eq_true rfl) (Nat.le_refl _) (Nat.le_refl _) (Nat.zero_le _) (Nat.zero_le _) dX3_readAccessorial_19 (fun v55 S50 L51 e52 w53 w54 hp => ?_)
  replace h := h v55 S50 e52 hp
  have g56 := ext_K e52 g44 (by decide)
  have g57 := ext_K e52 g45 (by decide)
  have w58 := ext_tr w43 e52
  refine g_if_eq (tgt := 33) C dX3_readAccessorial_22 (by decide) (fun z59 => ?_) (fun z59 => ?_)
  · replace h := h.1 z59
    refine g_aload_n C dX3_readAccessorial_33 rfl 1 rfl ?_
    refine g_bipush (v := 42) C dX3_readAccessorial_34 (by decide) ?_
    obtain ⟨m60, m61, m62, h⟩ := h
    obtain ⟨g63, h⟩ := h
    refine gc_calliV (host := "") C E w53 w54 g57 (by decide) (by decide) rfl [.int 42] rfl (k_X3_take l D T x0 42 S50 m60 m61 m62 g57 g63) (w0_V 1 C.2.2.2.2.1 kw_719 kw_721 ks_7 kw_19 kw_722 rfl rfl (by decide +kernel) ⟨Nat.le_of_ble_eq_true rfl, Nat.le_of_ble_eq_true rfl⟩) rfl (Nat.le_of_ble_eq_true rfl) (Nat.le_refl _) (Nat.le_refl _) (Nat.zero_le _) (Nat.zero_le _) dX3_readAccessorial_36 (fun v69 S64 L65 e66 w67 w68 hp => ?_)
    replace h := h v69 S64 e66 hp
    have g70 := ext_K e66 g56 (by decide)
    have g71 := ext_K e66 g57 (by decide)
    have w72 := ext_tr w58 e66
    refine g_if_eq (tgt := 47) C dX3_readAccessorial_39 (by decide) (fun z73 => ?_) (fun z73 => ?_)
    · replace h := h.1 z73
      refine g_locals [1, 0] rfl ?_
      refine t_X3_readAccessorial_47 C E hr S0  P  x0 q1 S64 ((mc - 1) - cc14) ((ms - 5) - cc15) L65 w67 w68 w72 g71 g70 h
    · replace h := h.2 z73
      refine g_aload_n C dX3_readAccessorial_42 rfl 0 rfl ?_
      refine g_iconst (v := 1) C dX3_readAccessorial_43 (by decide) ?_
      refine gc_putI C iwx_X0 w68 g70 (by decide) (by decide) rfl 1 (by decide) (hW kw_743) rfl tyX0 tyX0_ok nmX0 rfl rfl rfl rfl rfl dX3_readAccessorial_44 ?_
      have w177 := wt_putI w67 21 1 (k_ne g70 (by decide))
      refine gc_nS (fun S178 eS178 => ?_)
      replace h := h S178 eS178
      have w179 : wt S178 := by rw [eS178]; exact w177
      have w180 : isL S178 L65 := by rw [eS178]; exact w68
      have w181 : ext S0 S178 := by rw [eS178]; exact w72
      have g182 : hK S178 q1 = 1 := by rw [eS178]; exact g70
      have g183 : hK S178 x0 = 4 := by rw [eS178]; exact g71
      refine g_locals [1, 0] rfl ?_
      refine t_X3_readAccessorial_47 C E hr S0  P  x0 q1 S178 ((mc - 1) - cc14) ((ms - 5) - cc15) L65 w179 w180 w181 g183 g182 h
  · replace h := h.2 z59
    refine g_aload_n C dX3_readAccessorial_25 rfl 0 rfl ?_
    refine g_iconst (v := 2) C dX3_readAccessorial_26 (by decide) ?_
    refine gc_putI C iwx_X0 w54 g56 (by decide) (by decide) rfl 1 (by decide) (hW kw_743) rfl tyX0 tyX0_ok nmX0 rfl rfl rfl rfl rfl dX3_readAccessorial_27 ?_
    have w184 := wt_putI w53 21 2 (k_ne g56 (by decide))
    refine gc_nS (fun S185 eS185 => ?_)
    replace h := h S185 eS185
    have w186 : wt S185 := by rw [eS185]; exact w184
    have w187 : isL S185 L51 := by rw [eS185]; exact w54
    have w188 : ext S0 S185 := by rw [eS185]; exact w58
    have g189 : hK S185 q1 = 1 := by rw [eS185]; exact g56
    have g190 : hK S185 x0 = 4 := by rw [eS185]; exact g57
    refine g_goto (tgt := 47) C dX3_readAccessorial_30 (by decide) ?_
    refine g_locals [1, 0] rfl ?_
    refine t_X3_readAccessorial_47 C E hr S0  P  x0 q1 S185 ((mc - 1) - cc14) ((ms - 5) - cc15) L51 w186 w187 w188 g190 g189 h
theorem c_X3_readAccessorial (l : Launch) (D : va_G) (T : Nat → ClassId) (x0 : Nat) (S : HS) (mc ms : Nat) (hx0 : hK S x0 = 4) (P : Option Nat → HS → Prop) (h : wp_X3_readAccessorial T P x0 S mc ms) : CMq l yX3_readAccessorial (ws_X3_readAccessorial) rm_X3_readAccessorial D T [.ref x0] S mc ms 1 P := gc_metq (by decide) rfl rfl (Nat.le_of_ble_eq_true rfl) (fun p e s m args below meth c A L C E hnm hr hw hL => t_X3_readAccessorial C E   hr P x0 S S mc ms L rfl hw hL hx0 h)
/-- an accessorial's statement behind its colon -/
def axR (b : Nat → Int32) (n : Nat) (σ : PS) : (Int32 × Int32 × (List (Nat × TS) × Nat) × Int32) × PS := (((nbF b n σ).1, (exU b n (nbF b n σ).2).1, (exC b n (exU b n (nbF b n σ).2).2).1, (exX b n (exC b n (exU b n (nbF b n σ).2).2).2).1), (exX b n (exC b n (exU b n (nbF b n σ).2).2).2).2)
/-- an accessorial's object against what has been read -/
def AxO (S : HS) (M : Nat → Prop) (d y : Nat) (z : Int32 × Int32 × (List (Nat × TS) × Nat) × Int32) : Prop := hK S y = 1 ∧ ¬ M y ∧ hI S 20 y = z.1 ∧ hI S 21 y = z.2.1 ∧ hI S 22 y = z.2.2.2 ∧ hI S 23 y = nI z.2.2.1.2 ∧ ∃ al, hR S 24 y = some al ∧ ¬ M al ∧ CdL S M d al z.2.2.1.1 ∧ ∃ ar, hR S 261 al = some ar ∧ ¬ M ar
theorem CdL.fx {S S1 : HS} {M N : Nat → Prop} {d al : Nat} {l : List (Nat × TS)} (h : CdL S M d al l) (hf : frM S S1 N) (he : ext S S1) (hal : ¬ N al) (har : ∀ ar, hR S 261 al = some ar → ¬ N ar) (h9 : ∀ q, hK S q = 9 → ¬ N q) : CdL S1 M d al l := by
  obtain ⟨xs, h1, h2⟩ := h
  exact ⟨xs, h1.fx hf he hal har (by decide), fun j hj => (h2 j hj).fx hf (h9 _ (h2 j hj).1)⟩
/-- an accessorial's reading ahead of its condition -/
def AxB (S0 S : HS) (x0 y al d : Nat) (b : Nat → Int32) (n : Nat) (nm kd : Int32) (σ : PS) : Prop := ext S0 S ∧ frM S0 S (fun c => c = x0) ∧ RdO S x0 b n σ ∧ hK S y = 1 ∧ (hI S 20 y = nm ∧ hI S 21 y = kd ∧ hI S 22 y = -1 ∧ hI S 23 y = nI 0) ∧ hR S 24 y = some al ∧ LiO S d al 0 9 (fun _ => 0) ∧ hR S 261 al = some d
theorem AxB.tk {S0 S S1 : HS} {x0 y al d n : Nat} {b : Nat → Int32} {nm kd : Int32} {σ σ1 : PS} (h : AxB S0 S x0 y al d b n nm kd σ) (kx0 : hK S0 x0 = 4) (he : ext S S1) (hc : c3 S S1 x0 [82, 83]) (hr : RdO S1 x0 b n σ1) : AxB S0 S1 x0 y al d b n nm kd σ1 := by
  obtain ⟨h1, h2, h3, h4, h5, h6, h7, h8⟩ := h
  have kx0' : hK S x0 = 4 := ext_K h1 kx0 (by decide)
  have nk : ∀ {c k : Nat}, hK S c = k → k ≠ 4 → ¬ c = x0 := fun {c k} hy hk z => hk (by rw [← hy, z]; exact kx0')
  have e1 : ∀ i, hI S1 i y = hI S i y := fun i => hc.2.2.2.2.2 i y (Or.inl (nk h4 (by decide)))
  refine ⟨ext_tr h1 he, h2.nw hc.fm (fun _ _ z => z), hr, by rw [hc.1]; exact h4, ⟨by rw [e1]; exact h5.1, by rw [e1]; exact h5.2.1, by rw [e1]; exact h5.2.2.1, by rw [e1]; exact h5.2.2.2⟩, by rw [hc.2.2.1]; exact h6, h7.fx hc.fm he (nk h7.1 (by decide)) (fun a ha => ?_) (by decide), by rw [hc.2.2.1]; exact h8⟩
  obtain ⟨_, _, a9, q1, q2, _⟩ := h7
  rw [← Option.some.inj (q1.symm.trans ha)]
  exact nk q2 (by decide)
theorem AxB.pI {S0 S S1 : HS} {x0 y al d n i : Nat} {b : Nat → Int32} {nm kd v : Int32} {σ : PS} (h : AxB S0 S x0 y al d b n nm kd σ) (kx0 : hK S0 x0 = 4) (y0 : hK S0 y = 0) (hi : i = 20 ∨ i = 21) (e : S1 = putI S i y v) : AxB S0 S1 x0 y al d b n (if i = 20 then v else nm) (if i = 21 then v else kd) σ := by
  obtain ⟨h1, h2, h3, h4, h5, h6, h7, h8⟩ := h
  have kx0' : hK S x0 = 4 := ext_K h1 kx0 (by decide)
  have he : ext S S1 := by rw [e]; exact ext_putI ext_rf _ _ _
  have hf : frM S S1 (fun c => c = y) := by rw [e]; exact frM.pI (M := fun c => c = y) frM.rf rfl _ _
  have nk : ∀ {c k : Nat}, hK S c = k → k ≠ 1 → ¬ c = y := fun {c k} hy hk z => hk (by rw [← hy, z]; exact h4)
  refine ⟨ext_tr h1 he, h2.nw hf (fun c hc z => absurd y0 (by rw [← z]; exact hc)), h3.pI kx0' (by rw [h4]; decide) (by rw [h4]; decide) e, by rw [e, px_KI]; exact h4, ?_, by rw [e, px_RI]; exact h6, h7.fx hf he (nk h7.1 (by decide)) (fun a ha => ?_) (by decide), by rw [e, px_RI]; exact h8⟩
  · rw [e]
    simp only [px_II, and_true]
    rcases hi with g | g
    · rw [g]
      exact ⟨rfl, h5.2.1, h5.2.2⟩
    · rw [g]
      exact ⟨h5.1, rfl, h5.2.2⟩
  · obtain ⟨_, _, a9, q1, q2, _⟩ := h7
    rw [← Option.some.inj (q1.symm.trans ha)]
    exact nk q2 (by decide)
/-- an accessorial's reading behind its condition -/
def AxI (S0 S : HS) (x0 y d : Nat) (M : Nat → Prop) (b : Nat → Int32) (n : Nat) (nm kd xc : Int32) (C : List (Nat × TS) × Nat) (σ : PS) : Prop := ext S0 S ∧ frM S0 S (fun c => c = x0) ∧ RdO S x0 b n σ ∧ hK S y = 1 ∧ (hI S 20 y = nm ∧ hI S 21 y = kd ∧ hI S 22 y = xc) ∧ ∃ al, hR S 24 y = some al ∧ hK S0 al = 0 ∧ hK S al = 13 ∧ (∃ ar, hR S 261 al = some ar ∧ hK S ar = 30 ∧ (hK S0 ar = 0 ∨ ar = d)) ∧ (σ.2 = false → hI S 23 y = nI C.2 ∧ CdL S M d al C.1)
theorem AxB.I {S0 S : HS} {x0 y al d n : Nat} {M : Nat → Prop} {b : Nat → Int32} {nm kd : Int32} {σ : PS} (h : AxB S0 S x0 y al d b n nm kd σ) (al0 : hK S0 al = 0) : AxI S0 S x0 y d M b n nm kd (-1) ([], 0) σ := by
  obtain ⟨h1, h2, h3, h4, h5, h6, h7, h8⟩ := h
  have h7' := h7
  obtain ⟨q0, _, a9, q1, q2, _⟩ := h7'
  have e := Option.some.inj (q1.symm.trans h8)
  exact ⟨h1, h2, h3, h4, ⟨h5.1, h5.2.1, h5.2.2.1⟩, al, h6, al0, q0, ⟨d, h8, by rw [← e]; exact q2, Or.inr rfl⟩, fun _ => ⟨h5.2.2.2, fun _ => 0, h7, fun j hj => absurd hj (Nat.not_lt_zero j)⟩⟩
theorem AxI.fx {S0 S S1 : HS} {x0 y d n : Nat} {M : Nat → Prop} {b : Nat → Int32} {nm kd xc xc1 : Int32} {C : List (Nat × TS) × Nat} {σ σ1 : PS} {z : Nat} (h : AxI S0 S x0 y d M b n nm kd xc C σ) (he : ext S S1) (hf : frM S S1 (fun c => c = z)) (hr : RdO S1 x0 b n σ1) (hs : σ1.2 = false → σ.2 = false) (hz : (z = x0 ∧ hK S0 x0 = 4) ∨ (z = y ∧ hK S0 y = 0)) (hI0 : ∀ i, i ≠ 22 → hI S1 i y = hI S i y) (hR0 : hR S1 24 y = hR S 24 y) (hx : hI S1 22 y = xc1) : AxI S0 S1 x0 y d M b n nm kd xc1 C σ1 := by
  obtain ⟨h1, h2, h3, h4, h5, al, h6, h7, h8, ⟨ar, h9, h10, h11⟩, h12⟩ := h
  have hzk : hK S z = 4 ∨ hK S z = 1 := by
    rcases hz with ⟨g, g1⟩ | ⟨g, _⟩
    · rw [g]; exact Or.inl (ext_K h1 g1 (by decide))
    · rw [g]; exact Or.inr h4
  have nk : ∀ {c k : Nat}, hK S c = k → k ≠ 4 → k ≠ 1 → ¬ c = z := fun {c k} hy hk hk1 q => by
    rw [← q, hy] at hzk
    rcases hzk with g | g
    · exact hk g
    · exact hk1 g
  have sl := hf al (nk h8 (by decide) (by decide)) (nz_of h8 (by decide))
  have sr := hf ar (nk h10 (by decide) (by decide)) (nz_of h10 (by decide))
  refine ⟨ext_tr h1 he, h2.nw hf (fun c hc q => ?_), hr, ext_K he h4 (by decide), ⟨by rw [hI0 20 (by decide)]; exact h5.1, by rw [hI0 21 (by decide)]; exact h5.2.1, hx⟩, al, hR0.trans h6, h7, by rw [sl.1]; exact h8, ⟨ar, by rw [sl.2.2.2.1]; exact h9, by rw [sr.1]; exact h10, h11⟩, fun q => ?_⟩
  · rcases hz with ⟨g, _⟩ | ⟨g, g1⟩
    · exact q.trans g
    · rw [q, g] at hc; exact absurd g1 hc
  · obtain ⟨w1, w2⟩ := h12 (hs q)
    refine ⟨by rw [hI0 23 (by decide)]; exact w1, w2.fx hf he (nk h8 (by decide) (by decide)) (fun a ha => ?_) (fun q9 hq => nk hq (by decide) (by decide))⟩
    rw [← Option.some.inj (h9.symm.trans ha)]
    exact nk h10 (by decide) (by decide)
theorem AxI.tk {S0 S S1 : HS} {x0 y d n : Nat} {M : Nat → Prop} {b : Nat → Int32} {nm kd xc : Int32} {C : List (Nat × TS) × Nat} {σ σ1 : PS} (h : AxI S0 S x0 y d M b n nm kd xc C σ) (kx0 : hK S0 x0 = 4) (he : ext S S1) (hc : c3 S S1 x0 [82, 83]) (hr : RdO S1 x0 b n σ1) (hs : σ1.2 = false → σ.2 = false) : AxI S0 S1 x0 y d M b n nm kd xc C σ1 := by
  have kx0' : hK S x0 = 4 := ext_K h.1 kx0 (by decide)
  have e1 : ∀ i, hI S1 i y = hI S i y := fun i => hc.2.2.2.2.2 i y (Or.inl (fun z => by have q := h.2.2.2.1; rw [z, kx0'] at q; exact absurd q (by decide)))
  exact h.fx he hc.fm hr hs (Or.inl ⟨rfl, kx0⟩) (fun i _ => e1 i) (by rw [hc.2.2.1]) (by rw [e1]; exact h.2.2.2.2.1.2.2)
theorem AxI.O {S0 S : HS} {x0 y d n : Nat} {M : Nat → Prop} {b : Nat → Int32} {nm kd xc : Int32} {C : List (Nat × TS) × Nat} {σ : PS} (h : AxI S0 S x0 y d M b n nm kd xc C σ) (hM : ∀ c, M c → hK S0 c ≠ 0) (hd : ¬ M d) (y0 : hK S0 y = 0) (hs : σ.2 = false) : AxO S M d y (nm, kd, C, xc) := by
  obtain ⟨h1, h2, h3, h4, h5, al, h6, h7, h8, ⟨ar, h9, h10, h11⟩, h12⟩ := h
  obtain ⟨w1, w2⟩ := h12 hs
  refine ⟨h4, fun z => hM y z y0, h5.1, h5.2.1, h5.2.2, w1, al, h6, fun z => hM al z h7, w2, ar, h9, fun z => ?_⟩
  rcases h11 with g | g
  · exact hM ar z g
  · rw [g] at z; exact hd z
theorem dg_gd {b : Nat → Int32} {n : Nat} {σ : PS} (h : (exX b n σ).2.2 = false) : σ.2 = false := by
  unfold exX at h
  by_cases c : tkB b n σ 33 = true
  · exact (tkB_gd (by decide) c).1
  · rw [if_neg c] at h; exact h
theorem ax_tail {P : Option Nat → HS → Prop} {S0 S : HS} {x0 y d n : Nat} {M : Nat → Prop} {b : Nat → Int32} {nm kd : Int32} {C : List (Nat × TS) × Nat} {σ : PS} (kx0 : hK S0 x0 = 4) (y0 : hK S0 y = 0) (h : AxI S0 S x0 y d M b n nm kd (-1) C σ) (hP : ∀ S1, AxI S0 S1 x0 y d M b n nm kd (exX b n σ).1 C (exX b n σ).2 → P (some y) S1) : (∃ (m88 : Nat → Int32) (m89 : Nat) (m90 : PS), ((RdO S x0 m88 m89 m90 ∧ ¬ 33 = (-1 : Int32)) ∧ (∀ (v97 : Int32) (S92 : HS), ext S S92 → (v97 = b2i (tkB m88 m89 m90 33) ∧ c3 S S92 x0 [82, 83] ∧ RdO S92 x0 m88 m89 (tkS m88 m89 m90 33)) → ((v97 = 0 → (P (some y) S92)) ∧ (¬ v97 = 0 → (∃ (m102 : Nat → Int32) (m103 : Nat) (m104 : PS) (m105 : Int32) (m106 : Int32), ((RdO S92 x0 m102 m103 m104 ∧ 48 = 48 + m105 ∧ 57 = 48 + m106 ∧ dix m105 m106) ∧ (∀ (v113 : Int32) (S108 : HS), ext S92 S108 → (v113 = dgV m102 m103 m104 m105 m106 ∧ c3 S92 S108 x0 [82, 83] ∧ RdO S108 x0 m102 m103 (dgS m102 m103 m104 m105 m106)) → (∀ S118 : HS, S118 = putI S108 22 y v113 → (P (some y) S118)))))))))) := by
  refine ⟨b, n, σ, ⟨h.2.2.1, by decide⟩, fun v97 S92 he92 h92 => ?_⟩
  obtain ⟨ev, c92, R92⟩ := h92
  subst ev
  refine ⟨fun c => ?_, fun c => ?_⟩
  · have hB := b2i_z c
    rw [tkS_no hB] at R92
    have e : exX b n σ = (-1, σ) := by unfold exX; rw [hB]; rfl
    rw [e] at hP
    exact hP S92 (h.tk kx0 he92 c92 R92 (fun z => z))
  · have hB := b2i_nz c
    have e : exX b n σ = (dgV b n (tkS b n σ 33) 0 9, dgS b n (tkS b n σ 33) 0 9) := by unfold exX; rw [if_pos hB]
    have gd := (tkB_gd (by decide) hB).1
    have J92 := h.tk kx0 he92 c92 R92 (fun _ => gd)
    refine ⟨b, n, _, 0, 9, ⟨R92, rfl, rfl, dix09⟩, fun v113 S108 he108 h108 S118 e118 => ?_⟩
    obtain ⟨ev, c108, R108⟩ := h108
    have J108 := J92.tk kx0 he108 c108 R108 (fun z => dgS_bd z)
    rw [e] at hP
    have ky : hK S108 y = 1 := J108.2.2.2.1
    refine hP S118 (J108.fx (z := y) (by rw [e118]; exact ext_putI ext_rf _ _ _) (by rw [e118]; exact frM.pI (M := fun c => c = y) frM.rf rfl _ _) (R108.pI (ext_K J108.1 kx0 (by decide)) (by rw [ky]; decide) (by rw [ky]; decide) e118) (fun z => z) (Or.inr ⟨rfl, y0⟩) (fun i hi => ?_) ?_ ?_)
    · rw [e118, px_II, if_neg (fun z => hi z.1)]
    · rw [e118, px_RI]
    · rw [e118, putI_s, ev]
theorem rl_ra {T : Nat → ClassId} {P : Option Nat → HS → Prop} {S0 S : HS} {x0 y al n kc ks : Nat} {M : Nat → Prop} {b : Nat → Int32} {nm kd : Int32} {σ : PS} (kx0 : hK S0 x0 = 4) (y0 : hK S0 y = 0) (al0 : hK S0 al = 0) (k120 : hK S0 (T 120) = 30) (n120 : hN S0 (T 120) = 0) (hM : ∀ c, M c → hK S0 c ≠ 0) (hch : chO b n) (h : AxB S0 S x0 y al (T 120) b n nm kd σ) (hkc : 2 * (exC b n σ).1.1.length ≤ kc) (hks : 405 * (exC b n σ).1.1.length ≤ ks) (hP : ∀ S1, AxI S0 S1 x0 y (T 120) M b n nm kd (exX b n (exC b n σ).2).1 (exC b n σ).1 (exX b n (exC b n σ).2).2 → P (some y) S1) : wp_X3_readAccessorial_47 T P x0 y S kc ks := by
  unfold wp_X3_readAccessorial_47
  refine ⟨b, n, σ, ⟨h.2.2.1, by decide⟩, fun v83 S78 he78 h78 => ?_⟩
  obtain ⟨ev, c78, R78⟩ := h78
  subst ev
  have J78 := h.tk kx0 he78 c78 R78
  refine ⟨fun c => ?_, fun c => ?_⟩
  · have hB := b2i_z c
    have e : exC b n σ = (([], 0), σ) := by unfold exC; rw [hB]; rfl
    rw [e] at hP
    rw [tkS_no hB] at J78
    exact ax_tail kx0 y0 (J78.I al0) hP
  · have hB := b2i_nz c
    have e : exC b n σ = (((cnF b n (tkS b n σ 63)).1, (cnF b n (tkS b n σ 63)).2.1 + 1), (cnF b n (tkS b n σ 63)).2.2) := by unfold exC; rw [if_pos hB]
    rw [e] at hP hkc hks
    obtain ⟨g1, g2, g3, g4, g5, g6, g7, g8⟩ := J78
    refine ⟨kc, ks, ⟨Nat.le_refl _, Nat.le_refl _⟩, b, n, _, al, M, ⟨R78, hch, g6, g7, g8, g5.2.2.2, ext_K g1 k120 (by decide), by rw [(g1 _ (nz_of k120 (by decide))).2]; exact n120, fun c hc => by rw [(g1 c (hM c hc)).1]; exact hM c hc, hkc, hks⟩, fun S133 he133 h133 => ?_⟩
    obtain ⟨f133, R133, q24, qi, qL, ar, qr, qk, qz⟩ := h133
    have kx0' : hK S78 x0 = 4 := ext_K g1 kx0 (by decide)
    have ar0 : hK S0 ar = 0 := by
      by_cases g : hK S0 ar = 0
      · exact g
      · exact absurd (by rw [(g1 ar g).1] at qz; exact qz) g
    refine ax_tail (C := ((cnF b n (tkS b n σ 63)).1, (cnF b n (tkS b n σ 63)).2.1 + 1)) kx0 y0 ⟨ext_tr g1 he133, g2.nw f133 (fun c hc z => ?_), R133, ext_K he133 g4 (by decide), ⟨by rw [qi 20 (by decide)]; exact g5.1, by rw [qi 21 (by decide)]; exact g5.2.1, by rw [qi 22 (by decide)]; exact g5.2.2.1⟩, al, q24, al0, ext_K he133 g7.1 (by decide), ⟨ar, qr, qk, Or.inl ar0⟩, fun z => ⟨(qL z).1, (qL z).2⟩⟩ hP
    · rcases z with g | g | g
      · exact g
      · rw [g] at hc; exact absurd y0 hc
      · rw [g] at hc; exact absurd al0 hc
theorem k_X3_readAccessorial (l : Launch) (D : va_G) (T : Nat → ClassId) (x0 : Nat) (S : HS) (e0 : Nat → Int32) (e1 : Nat) (e2 : PS) (e3 : (Nat → Prop)) (mc ms : Nat) (hx0 : hK S x0 = 4) (h : RdO S x0 e0 e1 e2 ∧ chO e0 e1 ∧ hK S (T 120) = 30 ∧ hN S (T 120) = 0 ∧ (∀ b, e3 b → hK S b ≠ 0) ∧ ¬ e3 (T 120) ∧ 2 + 2 * (axR e0 e1 e2).1.2.2.1.1.length ≤ mc ∧ 8 + 405 * (axR e0 e1 e2).1.2.2.1.1.length ≤ ms) : CMq l yX3_readAccessorial (ws_X3_readAccessorial) rm_X3_readAccessorial D T [.ref x0] S mc ms 1 (fun v S1 => (frM S S1 (fun b => b = x0) ∧ RdO S1 x0 e0 e1 (axR e0 e1 e2).2 ∧ ∃ y, v = some y ∧ hK S y = 0 ∧ ((axR e0 e1 e2).2.2 = false → AxO S1 e3 (T 120) y (axR e0 e1 e2).1))) := c_X3_readAccessorial l D T x0 S mc ms hx0 _ <|
  (by
    obtain ⟨h, hch, k120, n120, hM, hd, hmc, hms⟩ := h
    have eL : (axR e0 e1 e2).1.2.2.1.1 = (exC e0 e1 (exU e0 e1 (nbF e0 e1 e2).2).2).1.1 := rfl
    rw [eL] at hmc hms
    unfold wp_X3_readAccessorial
    refine ⟨⟨by omega, by omega⟩, fun q q0 qz S8 e8 => ⟨1, 3, ⟨by omega, by omega⟩, ?_, fun S18 he18 h18 => ?_⟩⟩
    · have hne : T 120 ≠ q := fun z => by rw [z, q0] at k120; exact absurd k120 (by decide)
      rw [e8, px_KO, px_NO, if_neg hne]
      exact ⟨k120, n120, Nat.le_refl _, Nat.le_refl _⟩
    obtain ⟨f18, i18, al, al0, r24, L18, r61⟩ := h18
    have hqx : q ≠ x0 := fun z => by rw [z, hx0] at q0; exact absurd q0 (by decide)
    have x8 : ext S S8 := by rw [e8]; exact ext_newO ext_rf q0 1
    have f8 : frM S S8 (fun c => c = x0) := by rw [e8]; exact frM.nO frM.rf ext_rf q0 1
    have al00 : hK S al = 0 := by
      by_cases g : hK S al = 0
      · exact g
      · exact absurd (by rw [(x8 al g).1] at al0; exact al0) g
    have kq8 : hK S8 q = 1 := by rw [e8, px_KO, if_pos rfl]
    have R8 : RdO S8 x0 e0 e1 e2 := h.fm (N := fun _ => False) (by rw [e8]; exact frM.nO frM.rf ext_rf q0 1) hx0 (fun z => z) (fun _ _ z => z)
    have kx8 : hK S8 x0 = 4 := ext_K x8 hx0 (by decide)
    have R18 : RdO S18 x0 e0 e1 e2 := R8.fm f18 kx8 (fun z => hqx z.symm) (fun t ht z => by rw [z, kq8] at ht; exact absurd ht (by decide))
    have i8 : ∀ i, hI S8 i q = 0 := fun i => by rw [e8, px_IO]; exact qz.1 i
    have J18 : AxB S S18 x0 q al (T 120) e0 e1 0 0 e2 := by
      refine ⟨ext_tr x8 he18, f8.nw f18 (fun c hc z => absurd q0 (by rw [← z]; exact hc)), R18, ext_K he18 kq8 (by decide), ⟨?_, ?_, ?_, ?_⟩, r24, L18, r61⟩
      · rw [i18, if_neg (by decide), if_neg (by decide)]; exact i8 20
      · rw [i18, if_neg (by decide), if_pos rfl]
      · rw [i18, if_pos rfl]
      · rw [i18, if_neg (by decide), if_neg (by decide)]; exact i8 23
    refine ⟨e0, e1, e2, R18, fun v35 S30 he30 h30 S40 e40 => ?_⟩
    obtain ⟨ev35, c30, R30⟩ := h30
    subst ev35
    have J40 := (J18.tk hx0 he30 c30 R30).pI hx0 q0 (Or.inl rfl) e40
    rw [if_pos rfl, if_neg (by decide)] at J40
    refine ⟨e0, e1, _, ⟨J40.2.2.1, by decide⟩, fun v55 S50 he50 h50 => ?_⟩
    obtain ⟨ev55, c50, R50⟩ := h50
    subst ev55
    have J50 := J40.tk hx0 he50 c50 R50
    have fin : ∀ {S9 : HS} {kd : Int32} {σ9 : PS} {kc ks : Nat}, exU e0 e1 (nbF e0 e1 e2).2 = (kd, σ9) → AxB S S9 x0 q al (T 120) e0 e1 (nbF e0 e1 e2).1 kd σ9 → mc - 2 ≤ kc → ms - 8 ≤ ks → wp_X3_readAccessorial_47 T (fun v S1 => (frM S S1 (fun b => b = x0) ∧ RdO S1 x0 e0 e1 (axR e0 e1 e2).2 ∧ ∃ y, v = some y ∧ hK S y = 0 ∧ ((axR e0 e1 e2).2.2 = false → AxO S1 e3 (T 120) y (axR e0 e1 e2).1))) x0 q S9 kc ks := fun {S9 kd σ9 kc ks} eu J hk1 hk2 => by
      rw [eu] at hmc hms
      dsimp only at hmc hms
      refine rl_ra (M := e3) hx0 q0 al00 k120 n120 hM hch J (by omega) (by omega) (fun S1 h1 => ?_)
      have ea : axR e0 e1 e2 = (((nbF e0 e1 e2).1, kd, (exC e0 e1 σ9).1, (exX e0 e1 (exC e0 e1 σ9).2).1), (exX e0 e1 (exC e0 e1 σ9).2).2) := by
        unfold axR
        rw [eu]
      rw [ea]
      exact ⟨h1.2.1, h1.2.2.1, q, rfl, q0, fun z => h1.O hM hd q0 z⟩
    refine ⟨fun c => ?_, fun c S185 e185 => ?_⟩
    · have hB := b2i_z c
      rw [tkS_no hB] at J50
      refine ⟨e0, e1, _, ⟨J50.2.2.1, by decide⟩, fun v69 S64 he64 h64 => ?_⟩
      obtain ⟨ev69, c64, R64⟩ := h64
      subst ev69
      have J64 := J50.tk hx0 he64 c64 R64
      refine ⟨fun c2 => ?_, fun c2 S178 e178 => ?_⟩
      · have hB2 := b2i_z c2
        rw [tkS_no hB2] at J64
        exact fin (by unfold exU; rw [hB, hB2]; rfl) J64 (by omega) (by omega)
      · have hB2 := b2i_nz c2
        have J178 := J64.pI hx0 q0 (Or.inr rfl) e178
        rw [if_neg (by decide), if_pos rfl] at J178
        exact fin (by unfold exU; rw [hB, if_pos hB2]; rfl) J178 (by omega) (by omega)
    · have hB := b2i_nz c
      have J185 := J50.pI hx0 q0 (Or.inr rfl) e185
      rw [if_neg (by decide), if_pos rfl] at J185
      exact fin (by unfold exU; rw [if_pos hB]) J185 (by omega) (by omega))

end S_C8B
