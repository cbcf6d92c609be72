section S_CAO
abbrev ws_X10_init : List Cond := Cond.code yX10_init cX10_init 2 none :: W0
abbrev rm_X10_init : Room := ({ frames := 6, cells := 0, slots := 0, locals := 220 } : Room)
def wb_X10_init_83 (rec : Nat → Int32 → HS → Nat → Nat → Prop) (P : HS → Prop) (x0 : Nat) (x1 : Int32) (S : HS) (kc ks : Nat) : Prop := ∃ b201 : Nat, hR S 223 x0 = some b201 ∧ (hK S b201 = 28 → (((Int32.ofNat (hN S b201)) ≤ x1 → (P S)) ∧ (¬ (Int32.ofNat (hN S b201)) ≤ x1 → (∃ b205 : Nat, hR S 223 x0 = some b205 ∧ (hK S b205 = 28 → ((1 ≤ kc ∧ 8 ≤ ks) ∧ (∀ q207 : Nat, hK S q207 = 0 → zr S q207 → (∀ S215 : HS, S215 = newO S q207 7 → (∃ cc222 cc223 : Nat, (cc222 ≤ (kc - 1) ∧ cc223 ≤ (ks - 8)) ∧ ((4 ≤ cc222 ∧ 26 ≤ cc223) ∧ (∀ (S226 : HS), ext S215 S226 → (mkA q207 [(29, 6, 140), (27, 10, 142), (22, 5, 144), (22, 5, 145)] S215 S226) → (vp_in x1 (hN S226 b205) ∧ (∀ S237 : HS, S237 = putB S226 b205 (Int32.toNatClampNeg x1) (some q207) → (∀ v242 : Int32, v242 = x1 + 1 → (rec x0 v242 S237 ((kc - 1) - cc222) ((ks - 8) - cc223))))))))))))))))
def wp_X10_init_83 (P : HS → Prop) : Nat → Nat → Int32 → HS → Nat → Nat → Prop
  | 0 => fun _ _ _ _ _ => False
  | n + 1 => fun x0 x1 S kc ks => wb_X10_init_83 (wp_X10_init_83  P n)  P x0 x1 S kc ks
set_option maxRecDepth 100000 in
set_option maxHeartbeats 4000000 in
theorem t_X10_init_83 {p : Program} {l : Launch} {e : Env} {s : State} {m : MethodId} {args : Array Value} {below : List Frame} {meth : Method} {c : Code} {D : va_G} {A : Nat → Prop} {T : Nat → ClassId} {mc ms : Nat} (C : GC p s m args meth c cX10_init "FreightRater" (ws_X10_init) 2 D A (zty T)) (E : GE T A s) (hr : meth.sig.returnType = none) (hin : meth.name = "<init>") (S0 : HS) (P : HS → Prop) : ∀ (n : Nat) (x0 : Nat) (x1 : Int32) (S : HS) (kc ks : Nat) (L : List Nat), wt S → hL S L → ext S0 S → (hK S x0 = 11) → wp_X10_init_83  P n x0 x1 S kc ks → GW p l e { rm_X10_init with cells := mc, slots := ms } s m args below meth c D A 2 mc ms (MQ below (va_Qv (fun (u : HS × List Nat) => P u.1 ∧ CO S0 u) (CE D T A) A) args s mc ms A) (CW T S L) kc ks 83 [(0, .ref x0), (1, .int x1)] [] := by
  have hW : ∀ {w : Cond}, w ∈ W0 → w.before args s = true := fun h => C.2.2.2.2.1 _ (List.mem_cons_of_mem _ h)
  intro n
  induction n with
  | zero => intro x0 x1 S kc ks L hw hL he hx0 h; exact h.elim
  | succ n ih =>
    intro x0 x1 S kc ks L hw hL he hx0 h
    replace h : wb_X10_init_83 (wp_X10_init_83  P n)  P x0 x1 S kc ks := h
    unfold wb_X10_init_83 at h
    refine g_iload_n C dX10_init_83 rfl 1 rfl ?_
    refine g_aload_n C dX10_init_84 rfl 0 rfl ?_
    refine gc_getR C hw iwx_X10 hL hx0 (by decide) (by decide) rfl 3 (by decide) (hW kw_245) rfl rfl rfl dX10_init_85 (fun o200 eo200 ko200 => ?_)
    obtain ⟨b201, hb9, h⟩ := h
    have g202 : hK S b201 = 28 := ko200 b201 (eo200.trans hb9)
    replace h := h g202
    refine g_opt (eo200.trans hb9) ?_
    refine gc_alen C E hL g202 (by decide) rfl dX10_init_88 ?_
    refine g_icmp_ge (tgt := 111) C dX10_init_89 (by decide) (fun z203 => ?_) (fun z203 => ?_)
    · replace h := h.1 z203
      exact gc_vret C hw hL he hr dX10_init_111 h
    · replace h := h.2 z203
      refine g_aload_n C dX10_init_92 rfl 0 rfl ?_
      refine gc_getR C hw iwx_X10 hL hx0 (by decide) (by decide) rfl 3 (by decide) (hW kw_245) rfl rfl rfl dX10_init_93 (fun o204 eo204 ko204 => ?_)
      obtain ⟨b205, hb9, h⟩ := h
      have g206 : hK S b205 = 28 := ko204 b205 (eo204.trans hb9)
      replace h := h g206
      refine g_opt (eo204.trans hb9) ?_
      refine g_iload_n C dX10_init_96 rfl 1 rfl ?_
      obtain ⟨g208, h⟩ := h
      refine gc_new (kd := 7) (N := 8) C E hw hL (Nat.le_refl _) (Nat.le_refl _) iwx_X6 tyX6 tyX6_ok (by decide) (by decide) rfl (fun j hj => by rcases (show j = 0 ∨ j = 1 ∨ j = 2 ∨ j = 3 ∨ j = 4 ∨ j = 5 ∨ j = 6 ∨ j = 7 by omega) with rfl | rfl | rfl | rfl | rfl | rfl | rfl | rfl <;> rfl) (hW kw_48) (hW kw_49) (hW kw_2) g208.1 g208.2 dX10_init_97 (fun q207 h0q207 zq207 => ?_)
      replace h := h q207 h0q207 zq207
      have g209 := newO_old 7 g206 (by decide) h0q207
      have g210 := newO_old 7 hx0 (by decide) h0q207
      have w211 := wt_newO hw 7 h0q207 (by decide)
      have w212 := hL_new (S' := newO S q207 7) hL (show 7 ≠ 0 by decide) rfl
      have w213 := ext_newO he h0q207 7
      have g214 := newO_self S q207 7
      refine gc_nS (fun S215 eS215 => ?_)
      replace h := h S215 eS215
      have w216 : wt S215 := by rw [eS215]; exact w211
      have w217 : isL S215 (L ++ [q207]) := by rw [eS215]; exact w212
      have w218 : ext S0 S215 := by rw [eS215]; exact w213
      have g219 : hK S215 q207 = 7 := by rw [eS215]; exact g214
      have g220 : hK S215 b205 = 28 := by rw [eS215]; exact g209
      have g221 : hK S215 x0 = 11 := by rw [eS215]; exact g210
      refine g_dup C dX10_init_100 rfl ?_
      obtain ⟨cc222, cc223, g224, h⟩ := h
      obtain ⟨g225, h⟩ := h
      refine gc_callvIN (host := "FreightRater") (ret := none) C E w216 w217 [] rfl (k_X6_init l D T q207 S215 cc222 cc223 g219 g225) (w0_IN 0 E C.2.2.2.2.1 (by decide) kw_51 kw_2 kw_52 rfl rfl rfl (by decide +kernel) ⟨Nat.le_of_ble_eq_true rfl, Nat.le_of_ble_eq_true rfl⟩) rfl (Nat.le_of_ble_eq_true rfl) (Nat.le_refl _) (Nat.le_refl _) g224.1 g224.2 dX10_init_101 (fun S226 L227 e228 w229 w230 hp => ?_)
      replace h := h S226 e228 hp
      have g231 := ext_K e228 g219 (by decide)
      have g232 := ext_K e228 g220 (by decide)
      have g233 := ext_K e228 g221 (by decide)
      have w234 := ext_tr w218 e228
      obtain ⟨g235, h⟩ := h
      refine gc_aast C w230 g232 (by decide) rfl g231 (by decide) (by decide) rfl g235 dX10_init_104 ?_
      have w236 := wt_putB w229 (Int32.toNatClampNeg x1) (some q207) (k_ne g232 (by decide)) (fun b hb => by cases hb; rw [show hK S226 b205 = 28 from g232]; exact g231)
      refine gc_nS (fun S237 eS237 => ?_)
      replace h := h S237 eS237
      have w238 : wt S237 := by rw [eS237]; exact w236
      have w239 : isL S237 L227 := by rw [eS237]; exact w230
      have w240 : ext S0 S237 := by rw [eS237]; exact w234
      have g241 : hK S237 x0 = 11 := by rw [eS237]; exact g233
      obtain ⟨v242, ev242⟩ : ∃ y : Int32, y = x1 + 1 := ⟨_, rfl⟩
      replace h := h v242 ev242
      refine g_iinc (v := v242) (lv' := [(1, .int v242), (0, .ref x0)]) C dX10_init_105 (j := 1) rfl (by rw [ev242]; rfl) (by decide) rfl ?_
      refine g_goto (tgt := 83) C dX10_init_108 (by decide) ?_
      refine g_locals [1, 0] rfl ?_
      exact ih x0 v242 S237 ((kc - 1) - cc222) ((ks - 8) - cc223) L227 w238 w239 w240 g241 h
def wp_X10_init (P : HS → Prop) (x0 : Nat) (S : HS) (mc ms : Nat) : Prop := (1 ≤ mc ∧ 8 ≤ ms) ∧ (∀ q1 : Nat, hK S q1 = 0 → zr S q1 → (∀ S8 : HS, S8 = newO S q1 7 → (∃ cc14 cc15 : Nat, (cc14 ≤ (mc - 1) ∧ cc15 ≤ (ms - 8)) ∧ ((4 ≤ cc14 ∧ 26 ≤ cc15) ∧ (∀ (S18 : HS), ext S8 S18 → (mkA q1 [(29, 6, 140), (27, 10, 142), (22, 5, 144), (22, 5, 145)] S8 S18) → (∀ S27 : HS, S27 = putR S18 220 x0 (some q1) → ((1 ≤ ((mc - 1) - cc14) ∧ 8 ≤ ((ms - 8) - cc15)) ∧ (∀ q32 : Nat, hK S27 q32 = 0 → zr S27 q32 → (∀ S39 : HS, S39 = newO S27 q32 7 → (∃ cc45 cc46 : Nat, (cc45 ≤ (((mc - 1) - cc14) - 1) ∧ cc46 ≤ (((ms - 8) - cc15) - 8)) ∧ ((4 ≤ cc45 ∧ 26 ≤ cc46) ∧ (∀ (S49 : HS), ext S39 S49 → (mkA q32 [(29, 6, 140), (27, 10, 142), (22, 5, 144), (22, 5, 145)] S39 S49) → (∀ S58 : HS, S58 = putR S49 221 x0 (some q32) → (((¬ 8 < (0 : Int32) ∧ (Int32.toNatClampNeg 8) ≤ 100000000) ∧ 1 ≤ ((((mc - 1) - cc14) - 1) - cc45) ∧ (Int32.toNatClampNeg 8) ≤ ((((ms - 8) - cc15) - 8) - cc46)) ∧ (∀ q63 : Nat, hK S58 q63 = 0 → zr S58 q63 → (∀ S70 : HS, S70 = newA S58 q63 28 (Int32.toNatClampNeg 8) → (∀ S77 : HS, S77 = putR S70 223 x0 (some q63) → (((¬ 80 < (0 : Int32) ∧ (Int32.toNatClampNeg 80) ≤ 100000000) ∧ 1 ≤ (((((mc - 1) - cc14) - 1) - cc45) - 1) ∧ (Int32.toNatClampNeg 80) ≤ (((((ms - 8) - cc15) - 8) - cc46) - (Int32.toNatClampNeg 8))) ∧ (∀ q82 : Nat, hK S77 q82 = 0 → zr S77 q82 → (∀ S89 : HS, S89 = newA S77 q82 21 (Int32.toNatClampNeg 80) → (∀ S96 : HS, S96 = putR S89 226 x0 (some q82) → ((1 ≤ ((((((mc - 1) - cc14) - 1) - cc45) - 1) - 1) ∧ 4 ≤ ((((((ms - 8) - cc15) - 8) - cc46) - (Int32.toNatClampNeg 8)) - (Int32.toNatClampNeg 80))) ∧ (∀ q101 : Nat, hK S96 q101 = 0 → zr S96 q101 → (∀ S108 : HS, S108 = newO S96 q101 12 → (∃ cc114 cc115 : Nat, (cc114 ≤ (((((((mc - 1) - cc14) - 1) - cc45) - 1) - 1) - 1) ∧ cc115 ≤ (((((((ms - 8) - cc15) - 8) - cc46) - (Int32.toNatClampNeg 8)) - (Int32.toNatClampNeg 80)) - 4)) ∧ (((∀ i, hI S108 i q101 = 0) ∧ 1 ≤ cc114 ∧ 16 ≤ cc115) ∧ (∀ (S118 : HS), ext S108 S118 → (SbO S118 q101 [] ∧ sbC S118 q101 = 16 ∧ frM S108 S118 (fun b => b = q101) ∧ ∃ r, hR S118 240 q101 = some r ∧ hK S108 r = 0) → (∀ S127 : HS, S127 = putR S118 228 x0 (some q101) → (∀ S133 : HS, S133 = putI S127 229 x0 (-1) → ((1 ≤ ((((((((mc - 1) - cc14) - 1) - cc45) - 1) - 1) - 1) - cc114) ∧ 18 ≤ ((((((((ms - 8) - cc15) - 8) - cc46) - (Int32.toNatClampNeg 8)) - (Int32.toNatClampNeg 80)) - 4) - cc115)) ∧ (∀ q138 : Nat, hK S133 q138 = 0 → zr S133 q138 → (∀ S145 : HS, S145 = newO S133 q138 3 → (∃ cc151 cc152 : Nat, (cc151 ≤ (((((((((mc - 1) - cc14) - 1) - cc45) - 1) - 1) - 1) - cc114) - 1) ∧ cc152 ≤ (((((((((ms - 8) - cc15) - 8) - cc46) - (Int32.toNatClampNeg 8)) - (Int32.toNatClampNeg 80)) - 4) - cc115) - 18)) ∧ ((2 ≤ cc151 ∧ 20 ≤ cc152) ∧ (∀ (S155 : HS), ext S145 S155 → (∃ w p, hK S145 w = 0 ∧ zr S145 w ∧ hK (putR (newA S145 w 27 10) 61 q138 (some w)) p = 0 ∧ zr (putR (newA S145 w 27 10) 61 q138 (some w)) p ∧ S155 = putR (newA (putR (newA S145 w 27 10) 61 q138 (some w)) p 22 10) 62 q138 (some p)) → (∀ S164 : HS, S164 = putR S155 232 x0 (some q138) → ((1 ≤ ((((((((((mc - 1) - cc14) - 1) - cc45) - 1) - 1) - 1) - cc114) - 1) - cc151) ∧ 8 ≤ ((((((((((ms - 8) - cc15) - 8) - cc46) - (Int32.toNatClampNeg 8)) - (Int32.toNatClampNeg 80)) - 4) - cc115) - 18) - cc152)) ∧ (∀ q169 : Nat, hK S164 q169 = 0 → zr S164 q169 → (∀ S176 : HS, S176 = newO S164 q169 2 → (∃ cc182 cc183 : Nat, (cc182 ≤ (((((((((((mc - 1) - cc14) - 1) - cc45) - 1) - 1) - 1) - cc114) - 1) - cc151) - 1) ∧ cc183 ≤ (((((((((((ms - 8) - cc15) - 8) - cc46) - (Int32.toNatClampNeg 8)) - (Int32.toNatClampNeg 80)) - 4) - cc115) - 18) - cc152) - 8)) ∧ ((6 ≤ cc182 ∧ 1288 ≤ cc183) ∧ (∀ (S186 : HS), ext S176 S186 → (mkA q169 [(22, 256, 41), (22, 256, 42), (22, 256, 43), (22, 256, 44), (22, 256, 45), (22, 8, 46)] S176 S186) → (∀ S195 : HS, S195 = putR S186 233 x0 (some q169) → (∃ k243 : Nat, wp_X10_init_83  P k243 x0 0 S195 ((((((((((((mc - 1) - cc14) - 1) - cc45) - 1) - 1) - 1) - cc114) - 1) - cc151) - 1) - cc182) ((((((((((((ms - 8) - cc15) - 8) - cc46) - (Int32.toNatClampNeg 8)) - (Int32.toNatClampNeg 80)) - 4) - cc115) - 18) - cc152) - 8) - cc183)))))))))))))))))))))))))))))))))))))))))))))
set_option maxRecDepth 100000 in
set_option maxHeartbeats 4000000 in
theorem t_X10_init {p : Program} {l : Launch} {e : Env} {s : State} {m : MethodId} {args : Array Value} {below : List Frame} {meth : Method} {c : Code} {D : va_G} {A : Nat → Prop} {T : Nat → ClassId} (C : GC p s m args meth c cX10_init "FreightRater" (ws_X10_init) 2 D A (zty T)) (E : GE T A s) (hr : meth.sig.returnType = none) (hin : meth.name = "<init>") (P : HS → Prop) : ∀ (x0 : Nat) (S0 S : HS) (mc ms : Nat) (L : List Nat), S0 = S → wt S → hL S L → (hK S x0 = 11) → wp_X10_init P x0 S mc ms → GW p l e { rm_X10_init with cells := mc, slots := ms } s m args below meth c D A 2 mc ms (MQ below (va_Qv (fun (u : HS × List Nat) => P u.1 ∧ CO S0 u) (CE D T A) A) args s mc ms A) (CW T S L) mc ms 0 [(0, .ref x0)] [] := by
  have hW : ∀ {w : Cond}, w ∈ W0 → w.before args s = true := fun h => C.2.2.2.2.1 _ (List.mem_cons_of_mem _ h)
  intro x0 S0 S mc ms L hS0 hw hL hx0 h
  have he : ext S0 S := by rw [hS0]; exact ext_rf
  unfold wp_X10_init at h
  refine g_aload_n C dX10_init_0 rfl 0 rfl ?_
  refine g_objInit C (hW kw_45) (hW kw_46) (hW kw_47) dX10_init_1 (Nat.le_of_ble_eq_true rfl) (Nat.le_of_ble_eq_true rfl) ?_
  refine g_aload_n C dX10_init_4 rfl 0 rfl ?_
  obtain ⟨g2, h⟩ := h
  refine gc_new (kd := 7) (N := 8) C E hw hL (Nat.le_refl _) (Nat.le_refl _) iwx_X6 tyX6 tyX6_ok (by decide) (by decide) rfl (fun j hj => by rcases (show j = 0 ∨ j = 1 ∨ j = 2 ∨ j = 3 ∨ j = 4 ∨ j = 5 ∨ j = 6 ∨ j = 7 by omega) with rfl | rfl | rfl | rfl | rfl | rfl | rfl | rfl <;> rfl) (hW kw_48) (hW kw_49) (hW kw_2) g2.1 g2.2 dX10_init_5 (fun q1 h0q1 zq1 => ?_)
  replace h := h q1 h0q1 zq1
  have g3 := newO_old 7 hx0 (by decide) h0q1
  have w4 := wt_newO hw 7 h0q1 (by decide)
  have w5 := hL_new (S' := newO S q1 7) hL (show 7 ≠ 0 by decide) rfl
  have w6 := ext_newO he h0q1 7
  have g7 := newO_self S q1 7
  refine gc_nS (fun S8 eS8 => ?_)
  replace h := h S8 eS8
  have w9 : wt S8 := by rw [eS8]; exact w4
  have w10 : isL S8 (L ++ [q1]) := by rw [eS8]; exact w5
  have w11 : ext S0 S8 := by rw [eS8]; exact w6
  have g12 : hK S8 q1 = 7 := by rw [eS8]; exact g7
  have g13 : hK S8 x0 = 11 := by rw [eS8]; exact g3
  refine g_dup C dX10_init_8 rfl ?_
  obtain ⟨cc14, cc15, g16, h⟩ := h
  obtain ⟨g17, h⟩ := h
  refine gc_callvIN (host := "FreightRater") (ret := none) C E w9 w10 [] rfl (k_X6_init l D T q1 S8 cc14 cc15 g12 g17) (w0_IN 0 E C.2.2.2.2.1 (by decide) kw_51 kw_2 kw_52 rfl rfl rfl (by decide +kernel) ⟨Nat.le_of_ble_eq_true rfl, Nat.le_of_ble_eq_true rfl⟩) rfl (Nat.le_of_ble_eq_true rfl) (Nat.le_refl _) (Nat.le_refl _) g16.1 g16.2 dX10_init_9 (fun S18 L19 e20 w21 w22 hp => ?_)
  replace h := h S18 e20 hp
  have g23 := ext_K e20 g12 (by decide)
  have g24 := ext_K e20 g13 (by decide)
  have w25 := ext_tr w11 e20
  refine gc_putRF C iwx_X10 w22 g24 (by decide) (by decide) rfl 0 (by decide) (hW kw_242) rfl tyX10 tyX10_ok nmX10 rfl rfl rfl hin rfl (some q1) rfl rfl dX10_init_12 ?_
  have w26 := wt_putR w21 220 (some q1) (k_ne g24 (by decide)) (fun b hb => by cases hb; exact g23) (by decide)
  refine gc_nS (fun S27 eS27 => ?_)
  replace h := h S27 eS27
  have w28 : wt S27 := by rw [eS27]; exact w26
  have w29 : isL S27 L19 := by rw [eS27]; exact w22
  have w30 : ext S0 S27 := by rw [eS27]; exact w25
  have g31 : hK S27 x0 = 11 := by rw [eS27]; exact g24
  refine g_aload_n C dX10_init_15 rfl 0 rfl ?_
  obtain ⟨g33, h⟩ := h
  refine gc_new (kd := 7) (N := 8) C E w28 w29 (Nat.le_refl _) (Nat.le_refl _) iwx_X6 tyX6 tyX6_ok (by decide) (by decide) rfl (fun j hj => by rcases (show j = 0 ∨ j = 1 ∨ j = 2 ∨ j = 3 ∨ j = 4 ∨ j = 5 ∨ j = 6 ∨ j = 7 by omega) with rfl | rfl | rfl | rfl | rfl | rfl | rfl | rfl <;> rfl) (hW kw_48) (hW kw_49) (hW kw_2) g33.1 g33.2 dX10_init_16 (fun q32 h0q32 zq32 => ?_)
  replace h := h q32 h0q32 zq32
  have g34 := newO_old 7 g31 (by decide) h0q32
  have w35 := wt_newO w28 7 h0q32 (by decide)
  have w36 := hL_new (S' := newO S27 q32 7) w29 (show 7 ≠ 0 by decide) rfl
  have w37 := ext_newO w30 h0q32 7
  have g38 := newO_self S27 q32 7
  refine gc_nS (fun S39 eS39 => ?_)
  replace h := h S39 eS39
  have w40 : wt S39 := by rw [eS39]; exact w35
  have w41 : isL S39 (L19 ++ [q32]) := by rw [eS39]; exact w36
  have w42 : ext S0 S39 := by rw [eS39]; exact w37
  have g43 : hK S39 q32 = 7 := by rw [eS39]; exact g38
  have g44 : hK S39 x0 = 11 := by rw [eS39]; exact g34
  refine g_dup C dX10_init_19 rfl ?_
  obtain ⟨cc45, cc46, g47, h⟩ := h
  obtain ⟨g48, h⟩ := h
  refine gc_callvIN (host := "FreightRater") (ret := none) C E w40 w41 [] rfl (k_X6_init l D T q32 S39 cc45 cc46 g43 g48) (w0_IN 0 E C.2.2.2.2.1 (by decide) kw_51 kw_2 kw_52 rfl rfl rfl (by decide +kernel) ⟨Nat.le_of_ble_eq_true rfl, Nat.le_of_ble_eq_true rfl⟩) rfl (Nat.le_of_ble_eq_true rfl) (Nat.le_refl _) (Nat.le_refl _) g47.1 g47.2 dX10_init_20 (fun S49 L50 e51 w52 w53 hp => ?_)
  replace h := h S49 e51 hp
  have g54 := ext_K e51 g43 (by decide)
  have g55 := ext_K e51 g44 (by decide)
  have w56 := ext_tr w42 e51
  refine gc_putRF C iwx_X10 w53 g55 (by decide) (by decide) rfl 1 (by decide) (hW kw_243) rfl tyX10 tyX10_ok nmX10 rfl rfl rfl hin rfl (some q32) rfl rfl dX10_init_23 ?_
  have w57 := wt_putR w52 221 (some q32) (k_ne g55 (by decide)) (fun b hb => by cases hb; exact g54) (by decide)
  refine gc_nS (fun S58 eS58 => ?_)
  replace h := h S58 eS58
  have w59 : wt S58 := by rw [eS58]; exact w57
  have w60 : isL S58 L50 := by rw [eS58]; exact w53
  have w61 : ext S0 S58 := by rw [eS58]; exact w56
  have g62 : hK S58 x0 = 11 := by rw [eS58]; exact g55
  refine g_aload_n C dX10_init_26 rfl 0 rfl ?_
  refine g_bipush (v := 8) C dX10_init_27 (by decide) ?_
  obtain ⟨g64, h⟩ := h
  refine gc_anew (kd := 28) C E w59 w60 (Nat.le_refl _) (Nat.le_refl _) (show "FreightRater$State" ∈ overL by decide) (by decide) rfl (hW kw_48) g64.1.1 g64.1.2 g64.2.1 g64.2.2 dX10_init_29 (fun q63 h0q63 zq63 => ?_)
  replace h := h q63 h0q63 zq63
  have g65 := newA_old 28 (Int32.toNatClampNeg 8) g62 (by decide) h0q63
  have w66 := wt_newA w59 28 (Int32.toNatClampNeg 8) h0q63 (by decide)
  have w67 := hL_new (S' := newA S58 q63 28 (Int32.toNatClampNeg 8)) w60 (show 28 ≠ 0 by decide) rfl
  have w68 := ext_newA w61 h0q63 28 (Int32.toNatClampNeg 8)
  have g69 := newA_self S58 q63 28 (Int32.toNatClampNeg 8)
  refine gc_nS (fun S70 eS70 => ?_)
  replace h := h S70 eS70
  have w71 : wt S70 := by rw [eS70]; exact w66
  have w72 : isL S70 (L50 ++ [q63]) := by rw [eS70]; exact w67
  have w73 : ext S0 S70 := by rw [eS70]; exact w68
  have g74 : hK S70 q63 = 28 := by rw [eS70]; exact g69
  have g75 : hK S70 x0 = 11 := by rw [eS70]; exact g65
  refine gc_putRF C iwx_X10 w72 g75 (by decide) (by decide) rfl 3 (by decide) (hW kw_245) rfl tyX10 tyX10_ok nmX10 rfl rfl rfl hin rfl (some q63) rfl rfl dX10_init_32 ?_
  have w76 := wt_putR w71 223 (some q63) (k_ne g75 (by decide)) (fun b hb => by cases hb; exact g74) (by decide)
  refine gc_nS (fun S77 eS77 => ?_)
  replace h := h S77 eS77
  have w78 : wt S77 := by rw [eS77]; exact w76
  have w79 : isL S77 (L50 ++ [q63]) := by rw [eS77]; exact w72
  have w80 : ext S0 S77 := by rw [eS77]; exact w73
  have g81 : hK S77 x0 = 11 := by rw [eS77]; exact g75
  refine g_aload_n C dX10_init_35 rfl 0 rfl ?_
  refine g_bipush (v := 80) C dX10_init_36 (by decide) ?_
  obtain ⟨g83, h⟩ := h
  refine gc_newc C E w78 w79 (Nat.le_refl _) (Nat.le_refl _) (hW kw_125) g83.1.1 g83.1.2 g83.2.1 g83.2.2 dX10_init_38 (fun q82 h0q82 zq82 => ?_)
  replace h := h q82 h0q82 zq82
  have g84 := newA_old 21 (Int32.toNatClampNeg 80) g81 (by decide) h0q82
  have w85 := wt_newA w78 21 (Int32.toNatClampNeg 80) h0q82 (by decide)
  have w86 := hL_new (S' := newA S77 q82 21 (Int32.toNatClampNeg 80)) w79 (show 21 ≠ 0 by decide) rfl
  have w87 := ext_newA w80 h0q82 21 (Int32.toNatClampNeg 80)
  have g88 := newA_self S77 q82 21 (Int32.toNatClampNeg 80)
  refine gc_nS (fun S89 eS89 => ?_)
  replace h := h S89 eS89
  have w90 : wt S89 := by rw [eS89]; exact w85
  have w91 : isL S89 ((L50 ++ [q63]) ++ [q82]) := by rw [eS89]; exact w86
  have w92 : ext S0 S89 := by rw [eS89]; exact w87
  have g93 : hK S89 q82 = 21 := by rw [eS89]; exact g88
  have g94 : hK S89 x0 = 11 := by rw [eS89]; exact g84
  refine gc_putRF C iwx_X10 w91 g94 (by decide) (by decide) rfl 6 (by decide) (hW kw_248) rfl tyX10 tyX10_ok nmX10 rfl rfl rfl hin rfl (some q82) rfl rfl dX10_init_40 ?_
  have w95 := wt_putR w90 226 (some q82) (k_ne g94 (by decide)) (fun b hb => by cases hb; exact g93) (by decide)
  refine gc_nS (fun S96 eS96 => ?_)
  replace h := h S96 eS96
  have w97 : wt S96 := by rw [eS96]; exact w95
  have w98 : isL S96 ((L50 ++ [q63]) ++ [q82]) := by rw [eS96]; exact w91
  have w99 : ext S0 S96 := by rw [eS96]; exact w92
  have g100 : hK S96 x0 = 11 := by rw [eS96]; exact g94
  refine g_aload_n C dX10_init_43 rfl 0 rfl ?_
  obtain ⟨g102, h⟩ := h
  refine gc_new (kd := 12) (N := 4) C E w97 w98 (Nat.le_refl _) (Nat.le_refl _) iwx_J4 tyJ4 tyJ4_ok (by decide) (by decide) rfl (fun j hj => by rcases (show j = 0 ∨ j = 1 ∨ j = 2 ∨ j = 3 by omega) with rfl | rfl | rfl | rfl <;> rfl) (hW kw_93) (hW kw_94) (hW kw_4) g102.1 g102.2 dX10_init_44 (fun q101 h0q101 zq101 => ?_)
  replace h := h q101 h0q101 zq101
  have g103 := newO_old 12 g100 (by decide) h0q101
  have w104 := wt_newO w97 12 h0q101 (by decide)
  have w105 := hL_new (S' := newO S96 q101 12) w98 (show 12 ≠ 0 by decide) rfl
  have w106 := ext_newO w99 h0q101 12
  have g107 := newO_self S96 q101 12
  refine gc_nS (fun S108 eS108 => ?_)
  replace h := h S108 eS108
  have w109 : wt S108 := by rw [eS108]; exact w104
  have w110 : isL S108 (((L50 ++ [q63]) ++ [q82]) ++ [q101]) := by rw [eS108]; exact w105
  have w111 : ext S0 S108 := by rw [eS108]; exact w106
  have g112 : hK S108 q101 = 12 := by rw [eS108]; exact g107
  have g113 : hK S108 x0 = 11 := by rw [eS108]; exact g103
  refine g_dup C dX10_init_47 rfl ?_
  obtain ⟨cc114, cc115, g116, h⟩ := h
  obtain ⟨g117, h⟩ := h
  refine gc_callvI (host := "") (ret := none) C E w109 w110 [] rfl (k_J4_init_da8c8 l D T q101 S108 cc114 cc115 g112 g117) (w0_I 0 C.2.2.2.2.1 kw_95 kw_96 kw_4 kw_97 rfl rfl rfl (by decide +kernel) ⟨Nat.le_of_ble_eq_true rfl, Nat.le_of_ble_eq_true rfl⟩) rfl (Nat.le_of_ble_eq_true rfl) (Nat.le_refl _) (Nat.le_refl _) g116.1 g116.2 dX10_init_48 (fun S118 L119 e120 w121 w122 hp => ?_)
  replace h := h S118 e120 hp
  have g123 := ext_K e120 g112 (by decide)
  have g124 := ext_K e120 g113 (by decide)
  have w125 := ext_tr w111 e120
  refine gc_putRF C iwx_X10 w122 g124 (by decide) (by decide) rfl 8 (by decide) (hW kw_250) rfl tyX10 tyX10_ok nmX10 rfl rfl rfl hin rfl (some q101) rfl rfl dX10_init_51 ?_
  have w126 := wt_putR w121 228 (some q101) (k_ne g124 (by decide)) (fun b hb => by cases hb; exact g123) (by decide)
  refine gc_nS (fun S127 eS127 => ?_)
  replace h := h S127 eS127
  have w128 : wt S127 := by rw [eS127]; exact w126
  have w129 : isL S127 L119 := by rw [eS127]; exact w122
  have w130 : ext S0 S127 := by rw [eS127]; exact w125
  have g131 : hK S127 x0 = 11 := by rw [eS127]; exact g124
  refine g_aload_n C dX10_init_54 rfl 0 rfl ?_
  refine g_iconst (v := -1) C dX10_init_55 (by decide) ?_
  refine gc_putI C iwx_X10 w129 g131 (by decide) (by decide) rfl 9 (by decide) (hW kw_251) rfl tyX10 tyX10_ok nmX10 rfl rfl rfl rfl rfl dX10_init_56 ?_
  have w132 := wt_putI w128 229 (-1) (k_ne g131 (by decide))
  refine gc_nS (fun S133 eS133 => ?_)
  replace h := h S133 eS133
  have w134 : wt S133 := by rw [eS133]; exact w132
  have w135 : isL S133 L119 := by rw [eS133]; exact w129
  have w136 : ext S0 S133 := by rw [eS133]; exact w130
  have g137 : hK S133 x0 = 11 := by rw [eS133]; exact g131
  refine g_aload_n C dX10_init_59 rfl 0 rfl ?_
  obtain ⟨g139, h⟩ := h
  refine gc_new (kd := 3) (N := 18) C E w134 w135 (Nat.le_refl _) (Nat.le_refl _) iwx_X2 tyX2 tyX2_ok (by decide) (by decide) rfl (fun j hj => by rcases (show j = 0 ∨ j = 1 ∨ j = 2 ∨ j = 3 ∨ j = 4 ∨ j = 5 ∨ j = 6 ∨ j = 7 ∨ j = 8 ∨ j = 9 ∨ j = 10 ∨ j = 11 ∨ j = 12 ∨ j = 13 ∨ j = 14 ∨ j = 15 ∨ j = 16 ∨ j = 17 by omega) with rfl | rfl | rfl | rfl | rfl | rfl | rfl | rfl | rfl | rfl | rfl | rfl | rfl | rfl | rfl | rfl | rfl | rfl <;> rfl) (hW kw_127) (hW kw_128) (hW kw_7) g139.1 g139.2 dX10_init_60 (fun q138 h0q138 zq138 => ?_)
  replace h := h q138 h0q138 zq138
  have g140 := newO_old 3 g137 (by decide) h0q138
  have w141 := wt_newO w134 3 h0q138 (by decide)
  have w142 := hL_new (S' := newO S133 q138 3) w135 (show 3 ≠ 0 by decide) rfl
  have w143 := ext_newO w136 h0q138 3
  have g144 := newO_self S133 q138 3
  refine gc_nS (fun S145 eS145 => ?_)
  replace h := h S145 eS145
  have w146 : wt S145 := by rw [eS145]; exact w141
  have w147 : isL S145 (L119 ++ [q138]) := by rw [eS145]; exact w142
  have w148 : ext S0 S145 := by rw [eS145]; exact w143
  have g149 : hK S145 q138 = 3 := by rw [eS145]; exact g144
  have g150 : hK S145 x0 = 11 := by rw [eS145]; exact g140
  refine g_dup C dX10_init_63 rfl ?_
  obtain ⟨cc151, cc152, g153, h⟩ := h
  obtain ⟨g154, h⟩ := h
  refine gc_callvIN (host := "FreightRater") (ret := none) C E w146 w147 [] rfl (k_X2_init l D T q138 S145 cc151 cc152 g149 g154) (w0_IN 0 E C.2.2.2.2.1 (by decide) kw_130 kw_7 kw_131 rfl rfl rfl (by decide +kernel) ⟨Nat.le_of_ble_eq_true rfl, Nat.le_of_ble_eq_true rfl⟩) rfl (Nat.le_of_ble_eq_true rfl) (Nat.le_refl _) (Nat.le_refl _) g153.1 g153.2 dX10_init_64 (fun S155 L156 e157 w158 w159 hp => ?_)
  replace h := h S155 e157 hp
  have g160 := ext_K e157 g149 (by decide)
  have g161 := ext_K e157 g150 (by decide)
  have w162 := ext_tr w148 e157
  refine gc_putRF C iwx_X10 w159 g161 (by decide) (by decide) rfl 12 (by decide) (hW kw_254) rfl tyX10 tyX10_ok nmX10 rfl rfl rfl hin rfl (some q138) rfl rfl dX10_init_67 ?_
  have w163 := wt_putR w158 232 (some q138) (k_ne g161 (by decide)) (fun b hb => by cases hb; exact g160) (by decide)
  refine gc_nS (fun S164 eS164 => ?_)
  replace h := h S164 eS164
  have w165 : wt S164 := by rw [eS164]; exact w163
  have w166 : isL S164 L156 := by rw [eS164]; exact w159
  have w167 : ext S0 S164 := by rw [eS164]; exact w162
  have g168 : hK S164 x0 = 11 := by rw [eS164]; exact g161
  refine g_aload_n C dX10_init_70 rfl 0 rfl ?_
  obtain ⟨g170, h⟩ := h
  refine gc_new (kd := 2) (N := 8) C E w165 w166 (Nat.le_refl _) (Nat.le_refl _) iwx_X1 tyX1 tyX1_ok (by decide) (by decide) rfl (fun j hj => by rcases (show j = 0 ∨ j = 1 ∨ j = 2 ∨ j = 3 ∨ j = 4 ∨ j = 5 ∨ j = 6 ∨ j = 7 by omega) with rfl | rfl | rfl | rfl | rfl | rfl | rfl | rfl <;> rfl) (hW kw_207) (hW kw_208) (hW kw_8) g170.1 g170.2 dX10_init_71 (fun q169 h0q169 zq169 => ?_)
  replace h := h q169 h0q169 zq169
  have g171 := newO_old 2 g168 (by decide) h0q169
  have w172 := wt_newO w165 2 h0q169 (by decide)
  have w173 := hL_new (S' := newO S164 q169 2) w166 (show 2 ≠ 0 by decide) rfl
  have w174 := ext_newO w167 h0q169 2
  have g175 := newO_self S164 q169 2
  refine gc_nS (fun S176 eS176 => ?_)
  replace h := h S176 eS176
  have w177 : wt S176 := by rw [eS176]; exact w172
  have w178 : isL S176 (L156 ++ [q169]) := by rw [eS176]; exact w173
  have w179 : ext S0 S176 := by rw [eS176]; exact w174
  have g180 : hK S176 q169 = 2 := by rw [eS176]; exact g175
  have g181 : hK S176 x0 = 11 := by rw [eS176]; exact g171
  refine g_dup C dX10_init_74 rfl ?_
  obtain ⟨cc182, cc183, g184, h⟩ := h
  obtain ⟨g185, h⟩ := h
  refine gc_callvIN (host := "FreightRater") (ret := none) C E w177 w178 [] rfl (k_X1_init l D T q169 S176 cc182 cc183 g180 g185) (w0_IN 0 E C.2.2.2.2.1 (by decide) kw_210 kw_8 kw_211 rfl rfl rfl (by decide +kernel) ⟨Nat.le_of_ble_eq_true rfl, Nat.le_of_ble_eq_true rfl⟩) rfl (Nat.le_of_ble_eq_true rfl) (Nat.le_refl _) (Nat.le_refl _) g184.1 g184.2 dX10_init_75 (fun S186 L187 e188 w189 w190 hp => ?_)
  replace h := h S186 e188 hp
  have g191 := ext_K e188 g180 (by decide)
  have g192 := ext_K e188 g181 (by decide)
  have w193 := ext_tr w179 e188
  refine gc_putRF C iwx_X10 w190 g192 (by decide) (by decide) rfl 13 (by decide) (hW kw_255) rfl tyX10 tyX10_ok nmX10 rfl rfl rfl hin rfl (some q169) rfl rfl dX10_init_78 ?_
  have w194 := wt_putR w189 233 (some q169) (k_ne g192 (by decide)) (fun b hb => by cases hb; exact g191) (by decide)
  refine gc_nS (fun S195 eS195 => ?_)
  replace h := h S195 eS195
  have w196 : wt S195 := by rw [eS195]; exact w194
  have w197 : isL S195 L187 := by rw [eS195]; exact w190
  have w198 : ext S0 S195 := by rw [eS195]; exact w193
  have g199 : hK S195 x0 = 11 := by rw [eS195]; exact g192
  refine g_iconst (v := 0) C dX10_init_81 (by decide) ?_
  refine g_istore_n (lv' := [(1, .int 0), (0, .ref x0)]) C dX10_init_82 rfl (by decide) rfl ?_
  refine g_locals [1, 0] rfl ?_
  obtain ⟨k243, h⟩ := h
  refine t_X10_init_83 C E hr hin S0  P  k243 x0 0 S195 ((((((((((((mc - 1) - cc14) - 1) - cc45) - 1) - 1) - 1) - cc114) - 1) - cc151) - 1) - cc182) ((((((((((((ms - 8) - cc15) - 8) - cc46) - (Int32.toNatClampNeg 8)) - (Int32.toNatClampNeg 80)) - 4) - cc115) - 18) - cc152) - 8) - cc183) L187 w196 w197 w198 g199 h
theorem c_X10_init (l : Launch) (D : va_G) (T : Nat → ClassId) (x0 : Nat) (S : HS) (mc ms : Nat) (hx0 : hK S x0 = 11) (P : HS → Prop) (h : wp_X10_init P x0 S mc ms) : CMv l yX10_init (ws_X10_init) rm_X10_init D T [.ref x0] S mc ms P := gc_metv (by decide) rfl rfl (Nat.le_of_ble_eq_true rfl) (fun p e s m args below meth c A L C E hnm hr hw hL => t_X10_init C E   hr hnm P x0 S S mc ms L rfl hw hL hx0 h)
/-- new rows of an object, one after the other: all of them fresh and different -/
def mkQ (S S1 : HS) (x : Nat) (L : List (Nat × Nat × Nat)) (qs : Nat → Nat) : Prop := (∀ j t, L[j]? = some t → hK S (qs j) = 0 ∧ hK S1 (qs j) = t.1 ∧ hN S1 (qs j) = t.2.1 ∧ hR S1 t.2.2 x = some (qs j) ∧ ∀ k, hA S (qs j) k = 0) ∧ (∀ i j, i < L.length → j < L.length → qs i = qs j → i = j) ∧ ext S S1 ∧ frM S S1 (fun b => b = x) ∧ hI S1 = hI S ∧ hA S1 = hA S ∧ hB S1 = hB S ∧ ∀ i, (∀ t, t ∈ L → t.2.2 ≠ i) → hR S1 i x = hR S i x
theorem mkA.q : ∀ (L : List (Nat × Nat × Nat)) (S S1 : HS) (x : Nat), hK S x ≠ 0 → (∀ t, t ∈ L → t.1 ≠ 0) → (L.map (fun t => t.2.2)).Nodup → mkA x L S S1 → ∃ qs, mkQ S S1 x L qs := by
  intro L
  induction L with
  | nil =>
    intro S S1 x hx _ _ h
    have e : S1 = S := h
    subst e
    exact ⟨fun _ => 0, fun j t hj => by simp at hj, fun i j hi => absurd hi (Nat.not_lt_zero _), ext_rf, frM.rf, rfl, rfl, rfl, fun _ _ => rfl⟩
  | cons y l ih =>
    obtain ⟨kd, n, f⟩ := y
    intro S S1 x hx hk hd h
    obtain ⟨q, q0, qz, h⟩ := h
    have xq : x ≠ q := fun z => hx (by rw [z]; exact q0)
    have kd0 : kd ≠ 0 := hk (kd, n, f) List.mem_cons_self
    have kq : hK (putR (newA S q kd n) f x (some q)) q = kd := by rw [px_KR, px_KW, if_pos rfl]
    have nq : hN (putR (newA S q kd n) f x (some q)) q = n := by rw [px_NR, px_NW, if_pos rfl]
    have xS : ext S (putR (newA S q kd n) f x (some q)) := ext_putR (ext_newA ext_rf q0 kd n) f x (some q)
    rw [List.map_cons, List.nodup_cons] at hd
    obtain ⟨qs, g1, g2, g3, g4, g5, g6, g7, g8⟩ := ih (putR (newA S q kd n) f x (some q)) S1 x (by rw [px_KR, px_KW, if_neg xq]; exact hx) (fun t ht => hk t (List.mem_cons_of_mem _ ht)) hd.2 h
    have rf : hR S1 f x = some q := by
      rw [g8 f (fun t ht e => hd.1 (List.mem_map.mpr ⟨t, ht, e⟩)), px_RR, if_pos ⟨rfl, rfl⟩]
    have nq2 : ∀ j, j < l.length → qs j ≠ q := fun j hj e => by
      obtain ⟨t, ht⟩ : ∃ t, l[j]? = some t := ⟨_, List.getElem?_eq_getElem hj⟩
      have := (g1 j t ht).1
      rw [e, kq] at this
      exact kd0 this
    refine ⟨fun j => if j = 0 then q else qs (j - 1), fun j t hj => ?_, fun i j hi hj e => ?_, ext_tr xS g3, ((frM.rf.nW ext_rf q0 kd n).pR (M := fun b => b = x) rfl _ _).tr g4, g5.trans (by rw [px_IR, px_IW]), g6.trans (by rw [px_AR, px_AW]), g7.trans (by rw [px_BR, px_BW]), fun i hi => ?_⟩
    · cases j with
      | zero =>
        have et : t = (kd, n, f) := (Option.some.inj hj).symm
        subst et
        exact ⟨q0, ext_K g3 kq kd0, ((g3 q (by rw [kq]; exact kd0)).2).trans nq, rf, qz.2.2.1⟩
      | succ j =>
        obtain ⟨a1, a2, a3, a4, a5⟩ := g1 j t hj
        exact ⟨k0_of xS a1, a2, a3, a4, fun k => by have := a5 k; rw [px_AR, px_AW] at this; exact this⟩
    · rw [List.length_cons] at hi hj
      cases i with
      | zero =>
        cases j with
        | zero => rfl
        | succ j => exact absurd e.symm (nq2 j (by omega))
      | succ i =>
        cases j with
        | zero => exact absurd e (nq2 i (by omega))
        | succ j => exact congrArg Nat.succ (g2 i j (by omega) (by omega) e)
    · rw [g8 i (fun t ht => hi t (List.mem_cons_of_mem _ ht)), px_RR, if_neg (fun z => hi (kd, n, f) List.mem_cons_self z.1.symm), px_RW]
/-- a new state's object and rows -/
def StF (S : HS) (c : Nat → Nat) : Prop := (∀ i, i < 5 → hK S (c i) = fxK i) ∧ (∀ i, 1 ≤ i → i < 5 → hN S (c i) = fxN i) ∧ hR S 140 (c 0) = some (c 1) ∧ hR S 142 (c 0) = some (c 2) ∧ hR S 144 (c 0) = some (c 3) ∧ hR S 145 (c 0) = some (c 4) ∧ ∀ i, hI S i (c 0) = 0
theorem StF.fm {S S1 : HS} {c : Nat → Nat} {N : Nat → Prop} (h : StF S c) (hf : frM S S1 N) (hN9 : ∀ i, i < 5 → ¬ N (c i)) : StF S1 c := by
  obtain ⟨h1, h2, h3, h4, h5, h6, h7⟩ := h
  have sm9 : ∀ i, i < 5 → sam S S1 (c i) := fun i hi => hf _ (hN9 i hi) (by rw [h1 i hi]; exact fxK_ne i)
  have s0 := sm9 0 (by omega)
  exact ⟨fun i hi => by rw [(sm9 i hi).1]; exact h1 i hi, fun i h hi => by rw [(sm9 i hi).2.1]; exact h2 i h hi, by rw [s0.2.2.2.1]; exact h3, by rw [s0.2.2.2.1]; exact h4, by rw [s0.2.2.2.1]; exact h5, by rw [s0.2.2.2.1]; exact h6, fun i => by rw [s0.2.2.1]; exact h7 i⟩
theorem st_mk {S S1 S2 : HS} {q : Nat} (q0 : hK S q = 0) (qz : zr S q) (e1 : S1 = newO S q 7) (h : mkA q [(29, 6, 140), (27, 10, 142), (22, 5, 144), (22, 5, 145)] S1 S2) : ∃ c : Nat → Nat, c 0 = q ∧ StF S2 c ∧ (∀ i, i < 5 → hK S (c i) = 0) ∧ (∀ i j, i < 5 → j < 5 → c i = c j → i = j) ∧ ext S S2 ∧ frM S S2 (fun _ => False) ∧ hB S2 = hB S := by
  have kq : hK S1 q = 7 := by rw [e1, px_KO, if_pos rfl]
  have x1 : ext S S1 := by rw [e1]; exact ext_newO ext_rf q0 7
  obtain ⟨qs, g1, g2, g3, g4, g5, g6, g7, g8⟩ := mkA.q _ S1 S2 q (by rw [kq]; decide) (by decide) (by decide) h
  obtain ⟨a1, a2, a3, a4, _⟩ := g1 0 _ rfl
  obtain ⟨b1, b2, b3, b4, _⟩ := g1 1 _ rfl
  obtain ⟨c1, c2, c3, c4, _⟩ := g1 2 _ rfl
  obtain ⟨d1, d2, d3, d4, _⟩ := g1 3 _ rfl
  have f1 : frM S S2 (fun _ => False) := by
    have f0 : frM S S1 (fun _ => False) := by rw [e1]; exact frM.rf.nO ext_rf q0 7
    exact f0.nw g4 (fun b hb z => hb (by rw [z]; exact q0))
  have nq : ∀ j, j < 4 → qs j ≠ q := fun j hj e => by
    have : hK S1 (qs j) = 0 := by
      rcases (by omega : j = 0 ∨ j = 1 ∨ j = 2 ∨ j = 3) with z | z | z | z <;> subst z <;> assumption
    rw [e, kq] at this
    exact absurd this (by decide)
  refine ⟨fun i => if i = 0 then q else qs (i - 1), rfl, ⟨fun i hi => ?_, fun i h1 hi => ?_, a4, b4, c4, d4, fun i => ?_⟩, fun i hi => ?_, fun i j hi hj e => ?_, ext_tr x1 g3, f1, by rw [g7, e1, px_BO]⟩
  · rcases (by omega : i = 0 ∨ i = 1 ∨ i = 2 ∨ i = 3 ∨ i = 4) with z | z | z | z | z <;> subst z
    · exact ext_K g3 kq (by decide)
    · exact a2
    · exact b2
    · exact c2
    · exact d2
  · rcases (by omega : i = 1 ∨ i = 2 ∨ i = 3 ∨ i = 4) with z | z | z | z <;> subst z
    · exact a3
    · exact b3
    · exact c3
    · exact d3
  · show hI S2 i q = 0
    rw [g5, e1, px_IO]
    exact qz.1 i
  · rcases (by omega : i = 0 ∨ i = 1 ∨ i = 2 ∨ i = 3 ∨ i = 4) with z | z | z | z | z <;> subst z
    · exact q0
    · exact k0_of x1 a1
    · exact k0_of x1 b1
    · exact k0_of x1 c1
    · exact k0_of x1 d1
  · dsimp only at e
    by_cases hi0 : i = 0
    · by_cases hj0 : j = 0
      · rw [hi0, hj0]
      · rw [if_pos hi0, if_neg hj0] at e
        exact absurd e.symm (nq (j - 1) (by omega))
    · by_cases hj0 : j = 0
      · rw [if_neg hi0, if_pos hj0] at e
        exact absurd e (nq (i - 1) (by omega))
      · rw [if_neg hi0, if_neg hj0] at e
        have := g2 (i - 1) (j - 1) (show i - 1 < 4 by omega) (show j - 1 < 4 by omega) e
        omega
theorem sm0 (i B : Nat) : sm (fun _ => 0) i B := ⟨0, Nat.zero_le _, rfl⟩
theorem GWF_0 : GWF (fun _ => 0) := by
  have nz : ∀ n : Nat, (0 : Int32) = nI n → n ≤ 10 → n = 0 := fun n e h => ((nI_eq (a := n) (b := 0) (by omega) (by decide)).mp e.symm)
  have i0 : iv (0 : Int32) = 0 := by decide
  refine ⟨⟨sm0 _ _, sm0 _ _, sm0 _ _, fun v _ => ⟨sm0 _ _, fun z _ _ => ⟨sm0 _ _, sm0 _ _, fun i _ => ⟨sm0 _ _, sm0 _ _⟩⟩, fun i _ => sm0 _ _, sm0 _ _, sm0 _ _, sm0 _ _, sm0 _ _, fun a _ => ⟨Or.inl rfl, sm0 _ _, sm0 _ _, sm0 _ _, sm0 _ _, Or.inr (sm0 _ _), fun _ _ => sm0 _ _, fun z => absurd (show (0 : Int32) = 1 from z) (by decide), fun z => absurd (show (0 : Int32) = 2 from z) (by decide)⟩, fun n e h hv => ?_⟩, fun s _ => ⟨sm0 _ _, sm0 _ _, sm0 _ _, Or.inr (show (0 : Int32) ≤ 0 by decide), fun p _ => ⟨fun k _ => sm0 _ _, sm0 _ _⟩, fun n e h p hp => ?_⟩⟩, fun v _ a _ => ⟨fun _ => i0, fun z => ?_⟩, fun i hi => ?_, fun v _ a _ => ?_⟩
  · have := nz n e (by omega); omega
  · have := nz n e (by omega); omega
  · have z9 : 0 < iv (0 : Int32) := z
    rw [i0] at z9
    exact absurd z9 (Nat.lt_irrefl _)
  · have z9 : i < iv (0 : Int32) := hi
    rw [i0] at z9
    exact absurd z9 (Nat.not_lt_zero _)
  · show (paT (fun _ => 0) (274 + 510 * v + 150 + 36 * a) (iv (0 : Int32)) 0).length ≤ 80
    rw [i0]
    exact Nat.zero_le _
theorem StF.st {S : HS} {c : Nat → Nat} {M : Nat → Prop} (h : StF S c) : RelSt S M (c 0) (fun _ => 0) := by
  obtain ⟨h1, h2, h3, h4, h5, h6, h7⟩ := h
  have i0 : iv (0 : Int32) = 0 := by decide
  refine ⟨⟨h1 0 (by omega), h7 _, h7 _, h7 _, h7 _⟩, ⟨c 1, h3, h1 1 (by omega), h2 1 (by omega) (by omega), fun v hv => ?_⟩, ⟨c 2, h4, h1 2 (by omega), h2 2 (by omega) (by omega), fun s hs => ?_⟩, ⟨c 3, c 4, h5, h6, h1 3 (by omega), h1 4 (by omega), h2 3 (by omega) (by omega), h2 4 (by omega) (by omega), fun i hi => ?_⟩⟩
  · have z9 : v < iv (0 : Int32) := hv
    rw [i0] at z9
    exact absurd z9 (Nat.not_lt_zero _)
  · have z9 : s < iv (0 : Int32) := hs
    rw [i0] at z9
    exact absurd z9 (Nat.not_lt_zero _)
  · have z9 : i < iv (0 : Int32) := hi
    rw [i0] at z9
    exact absurd z9 (Nat.not_lt_zero _)
theorem rl_i83 {P : HS → Prop} {Sb : HS} {x0 p : Nat} (hx : hK Sb x0 = 11) (hr : hR Sb 223 x0 = some p) (hp : hK Sb p = 28) (hn : hN Sb p = 8) (hP : ∀ (F : HS) (cs : Nat → Nat → Nat), ext Sb F → frM Sb F (fun b => b = p) → (∀ s, s < 8 → StF F (cs s) ∧ (∀ i, i < 5 → hK Sb (cs s i) = 0) ∧ hB F p s = some (cs s 0)) → (∀ s t i j, s < 8 → t < 8 → i < 5 → j < 5 → cs s i = cs t j → s = t ∧ i = j) → P F) : ∀ (n t fuel : Nat) (S : HS) (cs : Nat → Nat → Nat) (kc ks : Nat), t + n = 8 → n < fuel → 5 * n ≤ kc → 34 * n ≤ ks → ext Sb S → frM Sb S (fun b => b = p) → (∀ s, s < t → StF S (cs s) ∧ (∀ i, i < 5 → hK Sb (cs s i) = 0) ∧ hB S p s = some (cs s 0)) → (∀ s t' i j, s < t → t' < t → i < 5 → j < 5 → cs s i = cs t' j → s = t' ∧ i = j) → wp_X10_init_83 P fuel x0 (nI t) S kc ks := by
  have xp : x0 ≠ p := fun z => by rw [z, hp] at hx; exact absurd hx (by decide)
  intro n
  induction n with
  | zero =>
    intro t fuel S cs kc ks ht hf _ _ he hm hc hi
    have e8 : t = 8 := ht
    subst e8
    obtain ⟨f, rfl⟩ : ∃ f, fuel = f + 1 := ⟨fuel - 1, by omega⟩; rw [wp_X10_init_83]; unfold wb_X10_init_83; dsimp only
    have sx := hm x0 xp (nz_of hx (by decide))
    refine ⟨p, by rw [sx.2.2.2.1]; exact hr, fun _ => ⟨fun _ => hP S cs he hm hc hi, fun z => ?_⟩⟩
    rw [(he p (nz_of hp (by decide))).2, hn] at z
    exact absurd (by decide) z
  | succ n ih =>
    intro t fuel S cs kc ks ht hf hkc hks he hm hc hi
    have sx := hm x0 xp (nz_of hx (by decide))
    have n8 : hN S p = 8 := by rw [(he p (nz_of hp (by decide))).2, hn]
    obtain ⟨f, rfl⟩ : ∃ f, fuel = f + 1 := ⟨fuel - 1, by omega⟩; rw [wp_X10_init_83]; unfold wb_X10_init_83; dsimp only
    refine ⟨p, by rw [sx.2.2.2.1]; exact hr, fun _ => ⟨fun z => ?_, fun _ => ⟨p, by rw [sx.2.2.2.1]; exact hr, fun _ => ⟨⟨by omega, by omega⟩, fun q q0 qz S1 e1 => ⟨4, 26, ⟨by omega, by omega⟩, ⟨by omega, by omega⟩, fun S2 _ m2 => ?_⟩⟩⟩⟩⟩
    · rw [n8] at z
      have := (nI_leI (a := 8) (by decide) (by omega)).mp z
      omega
    obtain ⟨c, c0, cF, cz, ci, x2, f2, b2⟩ := st_mk q0 qz e1 m2
    have kp : hK S p = 28 := ext_K he hp (by decide)
    rw [(x2 p (nz_of kp (by decide))).2, n8, nz_vp (by omega) (by decide), show (nI t).toNatClampNeg = t from nI_clamp (by omega)]
    refine ⟨by omega, fun S3 e3 v ev => ?_⟩
    rw [ev, show nI t + 1 = nI (t + 1) from nI_add t 1]
    have x3 : ext S2 S3 := by rw [e3]; exact ext_putB ext_rf _ _ _
    have f3 : frM S2 S3 (fun b => b = p) := by rw [e3]; exact frM.pB (M := fun b => b = p) frM.rf rfl _ _
    have f13 : frM S S3 (fun b => b = p) := (f2.sub (fun _ z => z.elim)).tr f3
    have np : ∀ i, i < 5 → c i ≠ p := fun i hi9 z => by have := cz i hi9; rw [z, kp] at this; exact absurd this (by decide)
    have old : ∀ s i, s < t → i < 5 → hK S (cs s i) ≠ 0 := fun s i hs hi9 => by rw [(hc s hs).1.1 i hi9]; exact fxK_ne i
    have npo : ∀ s i, s < t → i < 5 → cs s i ≠ p := fun s i hs hi9 z => by have := (hc s hs).2.1 i hi9; rw [z, hp] at this; exact absurd this (by decide)
    refine ih (t + 1) f S3 (fun s => if s = t then c else cs s) _ _ (by omega) (by omega) (by omega) (by omega) (ext_tr he (ext_tr x2 x3)) (hm.tr f13) (fun s hs => ?_) (fun s t' i j hs ht' hi9 hj9 e => ?_)
    · by_cases g : s = t
      · rw [if_pos g]
        refine ⟨cF.fm f3 np, fun i hi9 => k0_of he (cz i hi9), ?_⟩
        rw [e3, px_BB, if_pos ⟨rfl, g⟩, c0]
      · rw [if_neg g]
        have hs9 : s < t := by omega
        refine ⟨(hc s hs9).1.fm f13 (fun i hi9 => npo s i hs9 hi9), (hc s hs9).2.1, ?_⟩
        rw [e3, px_BB, if_neg (fun z => g z.2), b2]
        exact (hc s hs9).2.2
    · by_cases g1 : s = t
      · by_cases g2 : t' = t
        · rw [if_pos g1, if_pos g2] at e
          exact ⟨g1.trans g2.symm, ci i j hi9 hj9 e⟩
        · rw [if_pos g1, if_neg g2] at e
          exact absurd (by rw [← e]; exact cz i hi9) (old t' j (by omega) hj9)
      · by_cases g2 : t' = t
        · rw [if_neg g1, if_pos g2] at e
          exact absurd (by rw [e]; exact cz j hj9) (old s i (by omega) hi9)
        · rw [if_neg g1, if_neg g2] at e
          exact hi s t' i j (by omega) (by omega) hi9 hj9 e
theorem ca64 (Pr : Nat → Prop) (h1 : ∀ i, i < 5 → Pr i) (h2 : ∀ i, i < 5 → Pr (5 + i)) (h3 : ∀ t i, t < 8 → i < 5 → Pr (10 + 5 * t + i)) (h50 : Pr 50) (h51 : Pr 51) (h52 : Pr 52) (h53 : Pr 53) (h54 : Pr 54) (h55 : Pr 55) (h56 : Pr 56) (h57 : Pr 57) (h58 : ∀ i, i < 6 → Pr (58 + i)) : ∀ i, i < 64 → Pr i := by
  intro i hi
  rcases (by omega : i < 5 ∨ (5 ≤ i ∧ i < 10) ∨ (10 ≤ i ∧ i < 50) ∨ i = 50 ∨ i = 51 ∨ i = 52 ∨ i = 53 ∨ i = 54 ∨ i = 55 ∨ i = 56 ∨ i = 57 ∨ 58 ≤ i) with c | c | c | c | c | c | c | c | c | c | c | c
  · exact h1 i c
  · have := h2 (i - 5) (by omega)
    rw [show 5 + (i - 5) = i by omega] at this
    exact this
  · have := h3 ((i - 10) / 5) ((i - 10) % 5) (by omega) (by omega)
    rw [show 10 + 5 * ((i - 10) / 5) + (i - 10) % 5 = i by omega] at this
    exact this
  · rw [c]; exact h50
  · rw [c]; exact h51
  · rw [c]; exact h52
  · rw [c]; exact h53
  · rw [c]; exact h54
  · rw [c]; exact h55
  · rw [c]; exact h56
  · rw [c]; exact h57
  · have := h58 (i - 58) (by omega)
    rw [show 58 + (i - 58) = i by omega] at this
    exact this
theorem fxK_m {i j : Nat} (hi : i < 50) (hj : j < 50) (e : i % 5 = j % 5) : fxK i = fxK j := by
  unfold fxK
  rw [if_pos hi, if_pos hj, e]
theorem fxN_m {i j : Nat} (hi : i < 50) (hj : j < 50) (e : i % 5 = j % 5) : fxN i = fxN j := by
  unfold fxN
  rw [if_pos hi, if_pos hj, e]
theorem fxK_p {i : Nat} (h : i < 6) : fxK (58 + i) = 22 := by
  rcases (by omega : i = 0 ∨ i = 1 ∨ i = 2 ∨ i = 3 ∨ i = 4 ∨ i = 5) with c | c | c | c | c | c <;> subst c <;> decide
def rk (i r : Nat) : Prop := (i < 5 ∧ r = 0) ∨ (5 ≤ i ∧ i < 10 ∧ r = 1) ∨ (10 ≤ i ∧ i < 50 ∧ r = 7) ∨ (i = 51 ∧ r = 2) ∨ (i = 52 ∧ r = 3) ∨ (i = 53 ∧ r = 4) ∨ (54 ≤ i ∧ i < 57 ∧ r = 5) ∨ (57 ≤ i ∧ i < 64 ∧ r = 6)
theorem inj_rk {a : Nat → Nat} {T : Nat → HS} (hT : ∀ k, ext (T k) (T (k + 1))) (hz : ∀ i r, rk i r → hK (T r) (a i) = 0 ∧ hK (T (r + 1)) (a i) ≠ 0) (hin : ∀ i j r, rk i r → rk j r → a i = a j → i = j) : ∀ i j r r', rk i r → rk j r' → a i = a j → i = j := by
  have mono : ∀ d k b, hK (T k) b ≠ 0 → hK (T (k + d)) b ≠ 0 := by
    intro d
    induction d with
    | zero => intro k b h; exact h
    | succ d ih => intro k b h; rw [← Nat.add_assoc, (hT (k + d) b (ih k b h)).1]; exact ih k b h
  have lt : ∀ i j r r', rk i r → rk j r' → r < r' → a i ≠ a j := fun i j r r' h h' hl e => by
    have h1 := mono (r' - (r + 1)) (r + 1) _ (hz i r h).2
    rw [show r + 1 + (r' - (r + 1)) = r' by omega, e] at h1
    exact h1 (hz j r' h').1
  intro i j r r' h h' e
  rcases Nat.lt_trichotomy r r' with c | c | c
  · exact absurd e (lt i j r r' h h' c)
  · subst c; exact hin i j r h h' e
  · exact absurd e.symm (lt j i r' r h' h c)
def tx (x q : Nat) (A B : HS) : Prop := ext A B ∧ frM A B (fun b => b = x ∨ b = q)
theorem tx.tr {x q : Nat} {A B C : HS} (h : tx x q A B) (g : tx x q B C) : tx x q A C := ⟨ext_tr h.1 g.1, h.2.tr g.2⟩
theorem tx.nw {x q : Nat} {A B : HS} (h : ext A B) (g : frM A B (fun _ => False)) : tx x q A B := ⟨h, g.sub (fun _ z => z.elim)⟩
theorem tx.pR {x q : Nat} {A B : HS} {i : Nat} {v : Option Nat} (e : B = putR A i x v) : tx x q A B := by
  rw [e]; exact ⟨ext_rf, frM.pR (M := fun b => b = x ∨ b = q) frM.rf (Or.inl rfl) _ _⟩
theorem k_X10_init (l : Launch) (D : va_G) (T : Nat → ClassId) (x0 : Nat) (S : HS) (mc ms : Nat) (hx0 : hK S x0 = 11) (h : (∀ i, hI S i x0 = 0) ∧ 200 ≤ mc ∧ 2000 ≤ ms) : CMv l yX10_init (ws_X10_init) rm_X10_init D T [.ref x0] S mc ms (fun S1 => (∃ a : Nat → Nat, a 50 = x0 ∧ FrS S1 a (fun _ _ => 0) (fun i => if i = 229 then -1 else 0) (fun _ => 0) [])) := c_X10_init l D T x0 S mc ms hx0 _ <|
  (by
    obtain ⟨hz, hmc, hms⟩ := h
    unfold wp_X10_init
    have i8 : Int32.toNatClampNeg 8 = 8 := by decide
    have i80 : Int32.toNatClampNeg 80 = 80 := by decide
    rw [i8, i80]
    refine ⟨⟨by omega, by omega⟩, fun q1 a0 az S8 e8 => ⟨4, 26, ⟨by omega, by omega⟩, ⟨by omega, by omega⟩, fun S18 he18 m18 S27 e27 => ⟨⟨by omega, by omega⟩, fun q32 b0 bz S39 e39 => ⟨4, 26, ⟨by omega, by omega⟩, ⟨by omega, by omega⟩, fun S49 he49 m49 S58 e58 => ⟨⟨⟨by decide, by decide⟩, by omega, by omega⟩, fun q63 c0 cz S70 e70 S77 e77 => ⟨⟨⟨by decide, by decide⟩, by omega, by omega⟩, fun q82 d0 dz S89 e89 S96 e96 => ⟨⟨by omega, by omega⟩, fun q101 f0 fz9 S108 e108 => ⟨1, 16, ⟨by omega, by omega⟩, ⟨fun i => by rw [e108, px_IO]; exact fz9.1 i, by omega, by omega⟩, fun S118 he118 h118 S127 e127 S133 e133 => ⟨⟨by omega, by omega⟩, fun q138 g0 gz S145 e145 => ⟨2, 20, ⟨by omega, by omega⟩, ⟨by omega, by omega⟩, fun S155 he155 h155 S164 e164 => ⟨⟨by omega, by omega⟩, fun q169 k0 kz S176 e176 => ⟨6, 1288, ⟨by omega, by omega⟩, ⟨by omega, by omega⟩, fun S186 he186 m186 S195 e195 => ?_⟩⟩⟩⟩⟩⟩⟩⟩⟩⟩⟩⟩
    obtain ⟨n, n0, nF, nz, ni, nx, nf, _⟩ := st_mk a0 az e8 m18
    obtain ⟨s, s0, sF, sz, si, sx, sf, _⟩ := st_mk b0 bz e39 m49
    obtain ⟨O118, _, f118, rr, rr1, rr2⟩ := h118
    obtain ⟨w, pp, w0, wz, v0, vz9, e155⟩ := h155
    have x176 : ext S164 S176 := by rw [e176]; exact ext_newO ext_rf k0 2
    have kq : hK S176 q169 = 2 := by rw [e176, px_KO, if_pos rfl]
    obtain ⟨ps, p1, p2, p3, p4, p5, p6, p7, p8⟩ := mkA.q _ S176 S186 q169 (by rw [kq]; decide) (by decide) (by decide) m186
    -- steps
    have t1 : tx x0 q63 S18 S27 := tx.pR e27
    have t2 : tx x0 q63 S27 S49 := tx.nw sx sf
    have t3 : tx x0 q63 S49 S58 := tx.pR e58
    have u4 : frM S58 S70 (fun _ => False) := by rw [e70]; exact frM.rf.nW ext_rf c0 28 8
    have x4 : ext S58 S70 := by rw [e70]; exact ext_newA ext_rf c0 28 8
    have t4 : tx x0 q63 S58 S77 := (tx.nw x4 u4).tr (tx.pR e77)
    have u5 : frM S77 S89 (fun _ => False) := by rw [e89]; exact frM.rf.nW ext_rf d0 21 80
    have x5 : ext S77 S89 := by rw [e89]; exact ext_newA ext_rf d0 21 80
    have t5 : tx x0 q63 S77 S96 := (tx.nw x5 u5).tr (tx.pR e96)
    have x6a : ext S96 S108 := by rw [e108]; exact ext_newO ext_rf f0 12
    have u6 : frM S96 S118 (fun _ => False) := by
      have f6 : frM S96 S108 (fun _ => False) := by rw [e108]; exact frM.rf.nO ext_rf f0 12
      exact f6.nw f118 (fun b hb z => hb (by rw [z]; exact f0))
    have x6 := ext_tr x6a he118
    have t6 : tx x0 q63 S96 S118 := tx.nw x6 u6
    have t7a : tx x0 q63 S118 S127 := tx.pR e127
    have t7b : tx x0 q63 S127 S133 := by rw [e133]; exact ⟨ext_rf, frM.pI (M := fun b => b = x0 ∨ b = q63) frM.rf (Or.inl rfl) _ _⟩
    have t7 := t7a.tr t7b
    have x145 : ext S133 S145 := by rw [e145]; exact ext_newO ext_rf g0 3
    have kr : hK S145 q138 = 3 := by rw [e145, px_KO, if_pos rfl]
    have wq : w ≠ q138 := fun z => by rw [z, kr] at w0; exact absurd w0 (by decide)
    have xw : ext S145 (putR (newA S145 w 27 10) 61 q138 (some w)) := ext_putR (ext_newA ext_rf w0 27 10) _ _ _
    have kw : hK (putR (newA S145 w 27 10) 61 q138 (some w)) w = 27 := by rw [px_KR, px_KW, if_pos rfl]
    have pw : pp ≠ w := fun z => by rw [z, kw] at v0; exact absurd v0 (by decide)
    have kr2 : hK (putR (newA S145 w 27 10) 61 q138 (some w)) q138 = 3 := by rw [px_KR, px_KW, if_neg (fun z => wq z.symm)]; exact kr
    have pq : pp ≠ q138 := fun z => by rw [z, kr2] at v0; exact absurd v0 (by decide)
    have xp : ext (putR (newA S145 w 27 10) 61 q138 (some w)) S155 := by rw [e155]; exact ext_putR (ext_newA ext_rf v0 22 10) _ _ _
    have x8 : ext S133 S155 := ext_tr x145 he155
    have u8 : frM S133 S155 (fun _ => False) := by
      have f8 : frM S133 S145 (fun _ => False) := by rw [e145]; exact frM.rf.nO ext_rf g0 3
      have f9 : frM S145 S155 (fun b => b = q138) := by
        have fa : frM S145 (putR (newA S145 w 27 10) 61 q138 (some w)) (fun b => b = q138) := (frM.rf.nW ext_rf w0 27 10).pR (M := fun b => b = q138) rfl _ _
        have fb : frM (putR (newA S145 w 27 10) 61 q138 (some w)) S155 (fun b => b = q138) := by rw [e155]; exact (frM.rf.nW ext_rf v0 22 10).pR (M := fun b => b = q138) rfl _ _
        exact fa.tr fb
      exact f8.nw f9 (fun b hb z => hb (by rw [z]; exact g0))
    have t8 : tx x0 q63 S133 S155 := tx.nw x8 u8
    have t9 : tx x0 q63 S155 S164 := tx.pR e164
    have u10 : frM S164 S186 (fun _ => False) := by
      have f10 : frM S164 S176 (fun _ => False) := by rw [e176]; exact frM.rf.nO ext_rf k0 2
      exact f10.nw p4 (fun b hb z => hb (by rw [z]; exact k0))
    have x10 := ext_tr x176 p3
    have t10 : tx x0 q63 S164 S186 := tx.nw x10 u10
    have t11 : tx x0 q63 S186 S195 := tx.pR e195
    have y10 := t10.tr t11
    have y9 := t9.tr y10
    have y8 := t8.tr y9
    have y7 := t7.tr y8
    have y6 := t6.tr y7
    have y5 := t5.tr y6
    have y4 := t4.tr y5
    have y3 := t3.tr y4
    have y2 := t2.tr y3
    have y1 := t1.tr y2
    -- the rater's own fields
    have kx : ∀ {A : HS}, ext S A → hK A x0 = 11 := fun h => ext_K h hx0 (by decide)
    have nx0 : ∀ {A : HS}, ext S A → hK A x0 ≠ 0 := fun h => by rw [kx h]; decide
    have X18 := nx
    have X27 := ext_tr X18 t1.1
    have X58 := ext_tr X27 (t2.tr t3).1
    have X77 := ext_tr X58 t4.1
    have X96 := ext_tr X77 t5.1
    have X133 := ext_tr X96 (t6.tr t7).1
    have X164 := ext_tr X133 (t8.tr t9).1
    have X195 := ext_tr X164 y10.1
    have R195 : ∀ i, hR S195 i x0 = if i = 233 then some q169 else hR S186 i x0 := fun i => by
      rw [e195, px_RR]
      by_cases c : i = 233
      · rw [if_pos ⟨c, rfl⟩, if_pos c]
      · rw [if_neg (fun z => c z.1), if_neg c]
    have R186 : ∀ i, hR S186 i x0 = hR S164 i x0 := (u10 x0 (fun z => z) (nx0 X164)).2.2.2.1
    have R164 : ∀ i, hR S164 i x0 = if i = 232 then some q138 else hR S155 i x0 := fun i => by
      rw [e164, px_RR]
      by_cases c : i = 232
      · rw [if_pos ⟨c, rfl⟩, if_pos c]
      · rw [if_neg (fun z => c z.1), if_neg c]
    have R155 : ∀ i, hR S155 i x0 = hR S133 i x0 := (u8 x0 (fun z => z) (nx0 X133)).2.2.2.1
    have R133 : ∀ i, hR S133 i x0 = if i = 228 then some q101 else hR S118 i x0 := fun i => by
      rw [e133, px_RI, e127, px_RR]
      by_cases c : i = 228
      · rw [if_pos ⟨c, rfl⟩, if_pos c]
      · rw [if_neg (fun z => c z.1), if_neg c]
    have R118 : ∀ i, hR S118 i x0 = hR S96 i x0 := (u6 x0 (fun z => z) (nx0 X96)).2.2.2.1
    have R96 : ∀ i, hR S96 i x0 = if i = 226 then some q82 else hR S77 i x0 := fun i => by
      rw [e96, px_RR, e89, px_RW]
      by_cases c : i = 226
      · rw [if_pos ⟨c, rfl⟩, if_pos c]
      · rw [if_neg (fun z => c z.1), if_neg c]
    have R77 : ∀ i, hR S77 i x0 = if i = 223 then some q63 else hR S58 i x0 := fun i => by
      rw [e77, px_RR, e70, px_RW]
      by_cases c : i = 223
      · rw [if_pos ⟨c, rfl⟩, if_pos c]
      · rw [if_neg (fun z => c z.1), if_neg c]
    have R58 : ∀ i, hR S58 i x0 = if i = 221 then some q32 else hR S49 i x0 := fun i => by
      rw [e58, px_RR]
      by_cases c : i = 221
      · rw [if_pos ⟨c, rfl⟩, if_pos c]
      · rw [if_neg (fun z => c z.1), if_neg c]
    have R49 : ∀ i, hR S49 i x0 = hR S27 i x0 := (sf x0 (fun z => z) (nx0 X27)).2.2.2.1
    have R27 : hR S27 220 x0 = some q1 := by rw [e27, px_RR, if_pos ⟨rfl, rfl⟩]
    have I195 : ∀ i, hI S195 i x0 = if i = 229 then -1 else 0 := fun i => by
      rw [e195, px_IR, (u10 x0 (fun z => z) (nx0 X164)).2.2.1, e164, px_IR, (u8 x0 (fun z => z) (nx0 X133)).2.2.1, e133, px_II, e127, px_IR, (u6 x0 (fun z => z) (nx0 X96)).2.2.1, e96, px_IR, e89, px_IW, e77, px_IR, e70, px_IW, e58, px_IR, (sf x0 (fun z => z) (nx0 X27)).2.2.1, e27, px_IR, (nf x0 (fun z => z) (nx0 ext_rf)).2.2.1, hz]
      by_cases c : i = 229
      · rw [if_pos ⟨c, rfl⟩, if_pos c]
      · rw [if_neg (fun z => c z.1), if_neg c]
    have k77 : hK S77 q63 = 28 := by rw [e77, px_KR, e70, px_KW, if_pos rfl]
    have n77 : hN S77 q63 = 8 := by rw [e77, px_NR, e70, px_NW, if_pos rfl]
    refine ⟨9, rl_i83 (kx X195) (by rw [R195, if_neg (by decide), R186, R164, if_neg (by decide), R155, R133, if_neg (by decide), R118, R96, if_neg (by decide), R77, if_pos rfl]) (ext_K y5.1 k77 (by decide)) (by rw [(y5.1 q63 (nz_of k77 (by decide))).2, n77]) (fun F cs xF fF hc hi => ?_) 8 0 9 S195 (fun _ => n) _ _ rfl (by omega) (by omega) (by omega) ext_rf frM.rf (fun s hs => absurd hs (Nat.not_lt_zero _)) (fun s t i j hs => absurd hs (Nat.not_lt_zero _))⟩
    have z11 : tx x0 q63 S195 F := ⟨xF, fF.sub (fun b z => Or.inr z)⟩
    have xq : x0 ≠ q63 := fun z => by
      have := k0_of X58 c0
      rw [← z, hx0] at this
      exact absurd this (by decide)
    -- fresh ones are neither the rater nor, before the past's row or behind it, that row
    have nN : ∀ {A : HS} {b : Nat}, ext S A → hK A b = 0 → b ≠ q63 → ¬ (b = x0 ∨ b = q63) := fun X h h2 z => by
      rcases z with z | z
      · rw [z] at h; exact nx0 X h
      · exact h2 z
    have nF9 : StF F n := nF.fm (y1.tr z11).2 (fun i hi => nN ext_rf (nz i hi) (fun z => by
      have h1 : hK S18 q63 = 0 := k0_of (t1.tr (t2.tr t3)).1 c0
      have h2 := nF.1 i hi
      rw [z, h1] at h2
      exact fxK_ne i h2.symm))
    have sF9 : StF F s := sF.fm (y3.tr z11).2 (fun i hi => nN X27 (sz i hi) (fun z => by
      have h1 : hK S49 q63 = 0 := k0_of t3.1 c0
      have h2 := sF.1 i hi
      rw [z, h1] at h2
      exact fxK_ne i h2.symm))
    have k63 : ∀ {A : HS} {b : Nat}, ext S77 A → hK A b = 0 → b ≠ q63 := fun X h z => by
      rw [z, ext_K X k77 (by decide)] at h
      exact absurd h (by decide)
    have Y96 := t5.1
    have Y133 := ext_tr Y96 (t6.tr t7).1
    have Y164 := ext_tr Y133 (t8.tr t9).1
    have k82 : hK S89 q82 = 21 := by rw [e89, px_KW, if_pos rfl]
    have n82 : hN S89 q82 = 80 := by rw [e89, px_NW, if_pos rfl]
    have s82 : sam S89 F q82 := ((tx.pR e96 : tx x0 q63 S89 S96).tr (y6.tr z11)).2 q82 (nN X77 d0 (k63 ext_rf d0)) (nz_of k82 (by decide))
    have z101 := nN X96 f0 (k63 Y96 f0)
    have s138 : sam S155 F q138 := (y9.tr z11).2 q138 (nN X133 g0 (k63 Y133 g0)) (nz_of (ext_K he155 kr (by decide)) (by decide))
    have kw155 : hK S155 w = 27 := ext_K xp kw (by decide)
    have w133 : hK S133 w = 0 := k0_of x145 w0
    have v133 : hK S133 pp = 0 := k0_of x145 (k0_of xw v0)
    have sw : sam S155 F w := (y9.tr z11).2 w (nN X133 w133 (k63 Y133 w133)) (nz_of kw155 (by decide))
    have kp155 : hK S155 pp = 22 := by rw [e155, px_KR, px_KW, if_pos rfl]
    have sp : sam S155 F pp := (y9.tr z11).2 pp (nN X133 v133 (k63 Y133 v133)) (nz_of kp155 (by decide))
    have kq186 : hK S186 q169 = 2 := ext_K p3 kq (by decide)
    have s169 : sam S186 F q169 := (t11.tr z11).2 q169 (nN X164 k0 (k63 Y164 k0)) (nz_of kq186 (by decide))
    have pj : ∀ j, j < 6 → ∃ N, hK S164 (ps j) = 0 ∧ hK S186 (ps j) = 22 ∧ hN S186 (ps j) = N ∧ N = fxN (58 + j) ∧ hR S186 (41 + j) q169 = some (ps j) ∧ (∀ k, hA S176 (ps j) k = 0) ∧ sam S186 F (ps j) := fun j hj => by
      have gen : ∀ t : Nat × Nat × Nat, [((22 : Nat), (256 : Nat), (41 : Nat)), (22, 256, 42), (22, 256, 43), (22, 256, 44), (22, 256, 45), (22, 8, 46)][j]? = some t → t.1 = 22 → t.2.1 = fxN (58 + j) → t.2.2 = 41 + j → ∃ N, hK S164 (ps j) = 0 ∧ hK S186 (ps j) = 22 ∧ hN S186 (ps j) = N ∧ N = fxN (58 + j) ∧ hR S186 (41 + j) q169 = some (ps j) ∧ (∀ k, hA S176 (ps j) k = 0) ∧ sam S186 F (ps j) := fun t ht h1 h2 h3 => by
        obtain ⟨a1, a2, a3, a4, a5⟩ := p1 j t ht
        have b1 := k0_of x176 a1
        rw [h1] at a2
        rw [h3] at a4
        exact ⟨t.2.1, b1, a2, a3, h2, a4, a5, (t11.tr z11).2 (ps j) (nN X164 b1 (k63 Y164 b1)) (nz_of a2 (by decide))⟩
      rcases (by omega : j = 0 ∨ j = 1 ∨ j = 2 ∨ j = 3 ∨ j = 4 ∨ j = 5) with c | c | c | c | c | c <;> subst c
      · exact gen _ rfl rfl (by decide) rfl
      · exact gen _ rfl rfl (by decide) rfl
      · exact gen _ rfl rfl (by decide) rfl
      · exact gen _ rfl rfl (by decide) rfl
      · exact gen _ rfl rfl (by decide) rfl
      · exact gen _ rfl rfl (by decide) rfl
    have pqn : ∀ j, j < 6 → ps j ≠ q169 := fun j hj z => by
      obtain ⟨_, _, h2, _⟩ := pj j hj
      rw [z, kq186] at h2
      exact absurd h2 (by decide)
    have sx0 : sam S195 F x0 := fF x0 xq (nx0 X195)
    have RF : ∀ i, hR F i x0 = hR S195 i x0 := sx0.2.2.2.1
    have kF63 : hK F q63 = 28 := ext_K (ext_tr y5.1 xF) k77 (by decide)
    obtain ⟨a, ha⟩ : ∃ a : Nat → Nat, a = fun i => if i < 5 then n i else if i < 10 then s (i - 5) else if i < 50 then cs ((i - 10) / 5) ((i - 10) % 5) else if i = 50 then x0 else if i = 51 then q63 else if i = 52 then q82 else if i = 53 then q101 else if i = 54 then q138 else if i = 55 then w else if i = 56 then pp else if i = 57 then q169 else ps (i - 58) := ⟨_, rfl⟩
    have aL : ∀ i, i < 5 → a i = n i := fun i hi => by rw [ha]; exact if_pos hi
    have aS : ∀ i, i < 5 → a (5 + i) = s i := fun i hi => by
      rw [ha]; dsimp only
      rw [if_neg (by omega), if_pos (by omega), Nat.add_sub_cancel_left]
    have aC : ∀ t i, t < 8 → i < 5 → a (10 + 5 * t + i) = cs t i := fun t i ht hi9 => by
      rw [ha]; dsimp only
      rw [if_neg (by omega), if_neg (by omega), if_pos (by omega), show (10 + 5 * t + i - 10) / 5 = t by omega, show (10 + 5 * t + i - 10) % 5 = i by omega]
    have aP : ∀ i, i < 6 → a (58 + i) = ps i := fun i hi => by
      rw [ha]; dsimp only
      rw [if_neg (by omega), if_neg (by omega), if_neg (by omega), if_neg (by omega), if_neg (by omega), if_neg (by omega), if_neg (by omega), if_neg (by omega), if_neg (by omega), if_neg (by omega), if_neg (by omega), Nat.add_sub_cancel_left]
    have a50 : a 50 = x0 := by rw [ha]; rfl
    have a51 : a 51 = q63 := by rw [ha]; rfl
    have a52 : a 52 = q82 := by rw [ha]; rfl
    have a53 : a 53 = q101 := by rw [ha]; rfl
    have a54 : a 54 = q138 := by rw [ha]; rfl
    have a55 : a 55 = w := by rw [ha]; rfl
    have a56 : a 56 = pp := by rw [ha]; rfl
    have a57 : a 57 = q169 := by rw [ha]; rfl
    clear ha
    have kF : ∀ i, i < 64 → hK F (a i) = fxK i := by
      refine ca64 _ (fun i hi9 => ?_) (fun i hi9 => ?_) (fun t i ht hi9 => ?_) ?_ ?_ ?_ ?_ ?_ ?_ ?_ ?_ (fun i hi9 => ?_)
      · rw [aL i hi9]; exact nF9.1 i hi9
      · rw [aS i hi9, sF9.1 i hi9]; exact fxK_m (by omega) (by omega) (by omega)
      · rw [aC t i ht hi9, (hc t ht).1.1 i hi9]; exact fxK_m (by omega) (by omega) (by omega)
      · rw [a50]; exact kx (ext_tr X195 xF)
      · rw [a51]; exact kF63
      · rw [a52, s82.1]; exact k82
      · rw [a53]; exact ext_K (y7.tr z11).1 O118.1 (by decide)
      · rw [a54, s138.1]; exact ext_K he155 kr (by decide)
      · rw [a55, sw.1]; exact kw155
      · rw [a56, sp.1]; exact kp155
      · rw [a57, s169.1]; exact kq186
      · obtain ⟨_, _, h2, _, _, _, _, h7⟩ := pj i hi9
        rw [aP i hi9, h7.1, h2, fxK_p hi9]
    have nF8 : ∀ i, i < 64 → fxA i → hN F (a i) = fxN i := by
      refine ca64 _ (fun i hi9 hA => ?_) (fun i hi9 hA => ?_) (fun t i ht hi9 hA => ?_) (fun hA => ?_) (fun _ => ?_) (fun _ => ?_) (fun hA => ?_) (fun hA => ?_) (fun _ => ?_) (fun _ => ?_) (fun hA => ?_) (fun i hi9 _ => ?_)
      · have : 1 ≤ i := by unfold fxA at hA; omega
        rw [aL i hi9]; exact nF9.2.1 i this hi9
      · have : 1 ≤ i := by unfold fxA at hA; omega
        rw [aS i hi9, sF9.2.1 i this hi9]; exact fxN_m (by omega) (by omega) (by omega)
      · have : 1 ≤ i := by unfold fxA at hA; omega
        rw [aC t i ht hi9, (hc t ht).1.2.1 i this hi9]; exact fxN_m (by omega) (by omega) (by omega)
      · unfold fxA at hA; omega
      · rw [a51, ((ext_tr y5.1 xF) q63 (nz_of k77 (by decide))).2]; exact n77
      · rw [a52, s82.2.1]; exact n82
      · unfold fxA at hA; omega
      · unfold fxA at hA; omega
      · rw [a55, sw.2.1, (xp w (nz_of kw (by decide))).2, px_NR, px_NW, if_pos rfl]; rfl
      · rw [a56, sp.2.1, e155, px_NR, px_NW, if_pos rfl]; rfl
      · unfold fxA at hA; omega
      · obtain ⟨N, _, _, h3, h4, _, _, h7⟩ := pj i hi9
        rw [aP i hi9, h7.2.1, h3, h4]
    obtain ⟨T, hT0⟩ : ∃ T : Nat → HS, T = fun k => if k = 0 then S else if k = 1 then S27 else if k = 2 then S58 else if k = 3 then S77 else if k = 4 then S96 else if k = 5 then S133 else if k = 6 then S164 else if k = 7 then S195 else F := ⟨_, rfl⟩
    have TT : T 0 = S ∧ T 1 = S27 ∧ T 2 = S58 ∧ T 3 = S77 ∧ T 4 = S96 ∧ T 5 = S133 ∧ T 6 = S164 ∧ T 7 = S195 ∧ ∀ k, T (8 + k) = F := by
      rw [hT0]
      refine ⟨rfl, rfl, rfl, rfl, rfl, rfl, rfl, rfl, fun k => ?_⟩
      dsimp only
      rw [if_neg (by omega), if_neg (by omega), if_neg (by omega), if_neg (by omega), if_neg (by omega), if_neg (by omega), if_neg (by omega), if_neg (by omega)]
    clear hT0
    obtain ⟨T0, T1, T2, T3, T4, T5, T6, T7, T8⟩ := TT
    have hT : ∀ k, ext (T k) (T (k + 1)) := fun k => by
      rcases (by omega : k = 0 ∨ k = 1 ∨ k = 2 ∨ k = 3 ∨ k = 4 ∨ k = 5 ∨ k = 6 ∨ k = 7 ∨ 8 ≤ k) with c | c | c | c | c | c | c | c | c
      · subst c; rw [T0, T1]; exact X27
      · subst c; rw [T1, T2]; exact (t2.tr t3).1
      · subst c; rw [T2, T3]; exact t4.1
      · subst c; rw [T3, T4]; exact t5.1
      · subst c; rw [T4, T5]; exact (t6.tr t7).1
      · subst c; rw [T5, T6]; exact (t8.tr t9).1
      · subst c; rw [T6, T7]; exact y10.1
      · subst c; rw [T7, show T (7 + 1) = F from T8 0]; exact xF
      · have e1 := T8 (k - 8)
        have e2 := T8 (k + 1 - 8)
        rw [show 8 + (k - 8) = k by omega] at e1
        rw [show 8 + (k + 1 - 8) = k + 1 by omega] at e2
        rw [e1, e2]; exact ext_rf
    have hzT : ∀ i r, rk i r → hK (T r) (a i) = 0 ∧ hK (T (r + 1)) (a i) ≠ 0 := fun i r h => by
      have up : ∀ {A B : HS} {b : Nat}, ext A B → hK A b ≠ 0 → hK B b ≠ 0 := fun X h => by rw [(X _ h).1]; exact h
      rcases h with ⟨h1, h2⟩ | ⟨h1, h3, h2⟩ | ⟨h1, h3, h2⟩ | ⟨h1, h2⟩ | ⟨h1, h2⟩ | ⟨h1, h2⟩ | ⟨h1, h3, h2⟩ | ⟨h1, h3, h2⟩
      · subst h2
        rw [T0, T1, aL i h1]
        exact ⟨nz i h1, up t1.1 (by rw [nF.1 i h1]; exact fxK_ne i)⟩
      · subst h2
        have e := aS (i - 5) (by omega)
        rw [show 5 + (i - 5) = i by omega] at e
        rw [T1, T2, e]
        exact ⟨sz _ (by omega), up t3.1 (by rw [sF.1 _ (by omega)]; exact fxK_ne _)⟩
      · subst h2
        have e := aC ((i - 10) / 5) ((i - 10) % 5) (by omega) (by omega)
        rw [show 10 + 5 * ((i - 10) / 5) + (i - 10) % 5 = i by omega] at e
        rw [T7, show T (7 + 1) = F from T8 0, e]
        exact ⟨(hc _ (by omega)).2.1 _ (by omega), by rw [(hc _ (by omega)).1.1 _ (by omega)]; exact fxK_ne _⟩
      · subst h1 h2
        rw [T2, T3, a51]
        exact ⟨c0, nz_of k77 (by decide)⟩
      · subst h1 h2
        rw [T3, T4, a52]
        exact ⟨d0, by rw [e96, px_KR]; exact nz_of k82 (by decide)⟩
      · subst h1 h2
        rw [T4, T5, a53]
        exact ⟨f0, up t7.1 (nz_of O118.1 (by decide))⟩
      · subst h2
        rw [T5, T6]
        rcases (by omega : i = 54 ∨ i = 55 ∨ i = 56) with c | c | c <;> subst c
        · rw [a54]; exact ⟨g0, up t9.1 (nz_of (ext_K he155 kr (by decide)) (by decide))⟩
        · rw [a55]; exact ⟨w133, up t9.1 (nz_of kw155 (by decide))⟩
        · rw [a56]; exact ⟨v133, up t9.1 (nz_of kp155 (by decide))⟩
      · subst h2
        rw [T6, T7]
        rcases (by omega : i = 57 ∨ 58 ≤ i) with c | c
        · subst c
          rw [a57]; exact ⟨k0, up t11.1 (nz_of kq186 (by decide))⟩
        · have e := aP (i - 58) (by omega)
          rw [show 58 + (i - 58) = i by omega] at e
          obtain ⟨_, b1, b2, _⟩ := pj (i - 58) (by omega)
          rw [e]; exact ⟨b1, up t11.1 (nz_of b2 (by decide))⟩
    have hinT : ∀ i j r, rk i r → rk j r → a i = a j → i = j := fun i j r h h' e => by
      unfold rk at h h'
      rcases (by omega : (i < 5 ∧ j < 5) ∨ (5 ≤ i ∧ i < 10 ∧ 5 ≤ j ∧ j < 10) ∨ (10 ≤ i ∧ i < 50 ∧ 10 ≤ j ∧ j < 50) ∨ i = j ∨ (54 ≤ i ∧ i < 57 ∧ 54 ≤ j ∧ j < 57) ∨ (57 ≤ i ∧ i < 64 ∧ 57 ≤ j ∧ j < 64)) with c | c | c | c | c | c
      · rw [aL i c.1, aL j c.2] at e
        exact ni i j c.1 c.2 e
      · have ei := aS (i - 5) (by omega)
        have ej := aS (j - 5) (by omega)
        rw [show 5 + (i - 5) = i by omega] at ei
        rw [show 5 + (j - 5) = j by omega] at ej
        rw [ei, ej] at e
        have := si _ _ (by omega) (by omega) e
        omega
      · have ei := aC ((i - 10) / 5) ((i - 10) % 5) (by omega) (by omega)
        have ej := aC ((j - 10) / 5) ((j - 10) % 5) (by omega) (by omega)
        rw [show 10 + 5 * ((i - 10) / 5) + (i - 10) % 5 = i by omega] at ei
        rw [show 10 + 5 * ((j - 10) / 5) + (j - 10) % 5 = j by omega] at ej
        rw [ei, ej] at e
        have := hi _ _ _ _ (by omega) (by omega) (by omega) (by omega) e
        omega
      · exact c
      · have e1 : fxK i = fxK j := by rw [← kF i (by omega), ← kF j (by omega), e]
        rcases (by omega : i = 54 ∨ i = 55 ∨ i = 56) with d | d | d <;> rcases (by omega : j = 54 ∨ j = 55 ∨ j = 56) with d9 | d9 | d9 <;> subst d d9 <;> first | rfl | exact absurd e1 (by decide)
      · have pn : ∀ k, 58 ≤ k → k < 64 → a k = ps (k - 58) := fun k h1 h2 => by
          have ek := aP (k - 58) (by omega)
          rw [show 58 + (k - 58) = k by omega] at ek
          exact ek
        rcases (by omega : i = 57 ∨ 58 ≤ i) with d | d
        · rcases (by omega : j = 57 ∨ 58 ≤ j) with d9 | d9
          · rw [d, d9]
          · rw [d, a57, pn j d9 (by omega)] at e
            exact absurd e.symm (pqn _ (by omega))
        · rcases (by omega : j = 57 ∨ 58 ≤ j) with d9 | d9
          · rw [d9, a57, pn i d (by omega)] at e
            exact absurd e (pqn _ (by omega))
          · rw [pn i d (by omega), pn j d9 (by omega)] at e
            have := p2 (i - 58) (j - 58) (show i - 58 < 6 by omega) (show j - 58 < 6 by omega) e
            omega
    have rkE : ∀ i, i < 64 → i ≠ 50 → ∃ r, rk i r := fun i h1 h2 => by
      unfold rk
      rcases (by omega : i < 5 ∨ (5 ≤ i ∧ i < 10) ∨ (10 ≤ i ∧ i < 50) ∨ i = 51 ∨ i = 52 ∨ i = 53 ∨ (54 ≤ i ∧ i < 57) ∨ 57 ≤ i) with c | c | c | c | c | c | c | c
      · exact ⟨0, by omega⟩
      · exact ⟨1, by omega⟩
      · exact ⟨7, by omega⟩
      · exact ⟨2, by omega⟩
      · exact ⟨3, by omega⟩
      · exact ⟨4, by omega⟩
      · exact ⟨5, by omega⟩
      · exact ⟨6, by omega⟩
    have n50 : ∀ i, i < 64 → i ≠ 50 → a i ≠ x0 := fun i h1 h2 z => by
      have k1 := kF i h1
      rw [z, kx (ext_tr X195 xF)] at k1
      have : fxK i ≠ 11 := by
        unfold fxK
        split
        · repeat' split
          all_goals decide
        · repeat' split
          all_goals first | decide | omega
      exact this k1.symm
    have aI : ∀ i j, i < 64 → j < 64 → a i = a j → i = j := fun i j h1 h2 e => by
      by_cases c : i = 50
      · by_cases d : j = 50
        · rw [c, d]
        · rw [c, a50] at e
          exact absurd e.symm (n50 j h2 d)
      · by_cases d : j = 50
        · rw [d, a50] at e
          exact absurd e (n50 i h1 c)
        · obtain ⟨r, hr⟩ := rkE i h1 c
          obtain ⟨r', hr'⟩ := rkE j h2 d
          exact inj_rk hT hzT hinT i j r r' hr hr' e
    have st9 : ∀ t, t < 10 → StF F (fun i => a (5 * t + i)) := fun t ht => by
      have cg : ∀ {c c' : Nat → Nat}, (∀ i, i < 5 → c' i = c i) → StF F c → StF F c' := fun {c c'} e h => by
        obtain ⟨h1, h2, h3, h4, h5, h6, h7⟩ := h
        exact ⟨fun i hi9 => by rw [e i hi9]; exact h1 i hi9, fun i h9 hi9 => by rw [e i hi9]; exact h2 i h9 hi9, by rw [e 0 (by omega), e 1 (by omega)]; exact h3, by rw [e 0 (by omega), e 2 (by omega)]; exact h4, by rw [e 0 (by omega), e 3 (by omega)]; exact h5, by rw [e 0 (by omega), e 4 (by omega)]; exact h6, fun i => by rw [e 0 (by omega)]; exact h7 i⟩
      rcases (by omega : t = 0 ∨ t = 1 ∨ 2 ≤ t) with c | c | c
      · subst c
        exact cg (c := n) (fun i hi9 => by rw [show 5 * 0 + i = i by omega]; exact aL i hi9) nF9
      · subst c
        exact cg (c := s) (fun i hi9 => by rw [show 5 * 1 + i = 5 + i by omega]; exact aS i hi9) sF9
      · exact cg (c := cs (t - 2)) (fun i hi9 => by rw [show 5 * t + i = 10 + 5 * (t - 2) + i by omega]; exact aC (t - 2) i (by omega) hi9) (hc (t - 2) (by omega)).1
    have hB0 : SbO F q101 [] := O118.fx (y7.tr z11).2 z101 (fun c hc9 z => by
      rcases z with z | z
      · rw [z, kx (ext_tr X96 x6)] at hc9; exact absurd hc9 (by decide)
      · rw [z, ext_K (ext_tr Y96 x6) k77 (by decide)] at hc9; exact absurd hc9 (by decide))
    have pz : ∀ j, j < 6 → hA F (ps j) 0 = 0 := fun j hj => by
      obtain ⟨_, _, _, _, _, _, h6, h7⟩ := pj j hj
      rw [h7.2.2.2.2.1, p6]
      exact h6 0
    refine ⟨a, a50, ⟨kF, nF8, aI, fun t ht => ?_, ?_, fun i hi9 => ?_, ?_, fun i hi9 => ?_, ?_⟩, fun t ht => ⟨GWF_0, (st9 t ht).st⟩, ⟨⟨0, 0, 0, by omega, by omega, by omega, rfl, rfl, rfl, fun i hi9 => absurd hi9 (Nat.not_lt_zero _)⟩, Or.inl rfl⟩, fun i _ => ?_, fun i hi9 => ?_, ?_⟩
    · obtain ⟨_, _, h3, h4, h5, h6, _⟩ := st9 t ht
      exact ⟨h3, h4, h5, h6⟩
    · rw [a50, show a 0 = q1 from (aL 0 (by omega)).trans n0, show a 5 = q32 from (aS 0 (by omega)).trans s0, a51, a52, a53, a54, a57]
      refine ⟨?_, ?_, ?_, ?_, ?_, ?_, ?_⟩
      · rw [RF, R195, if_neg (by decide), R186, R164, if_neg (by decide), R155, R133, if_neg (by decide), R118, R96, if_neg (by decide), R77, if_neg (by decide), R58, if_neg (by decide), R49]; exact R27
      · rw [RF, R195, if_neg (by decide), R186, R164, if_neg (by decide), R155, R133, if_neg (by decide), R118, R96, if_neg (by decide), R77, if_neg (by decide), R58, if_pos rfl]
      · rw [RF, R195, if_neg (by decide), R186, R164, if_neg (by decide), R155, R133, if_neg (by decide), R118, R96, if_neg (by decide), R77, if_pos rfl]
      · rw [RF, R195, if_neg (by decide), R186, R164, if_neg (by decide), R155, R133, if_neg (by decide), R118, R96, if_pos rfl]
      · rw [RF, R195, if_neg (by decide), R186, R164, if_neg (by decide), R155, R133, if_pos rfl]
      · rw [RF, R195, if_neg (by decide), R186, R164, if_pos rfl]
      · rw [RF, R195, if_pos rfl]
    · rw [a51, (hc i hi9).2.2, show 10 + 5 * i = 10 + 5 * i + 0 by omega, aC i 0 hi9 (by omega)]
    · rw [a54, a55, a56, s138.2.2.2.1, s138.2.2.2.1, e155]
      refine ⟨?_, by rw [px_RR, if_pos ⟨rfl, rfl⟩]⟩
      rw [px_RR, if_neg (by omega), px_RW, px_RR, if_pos ⟨rfl, rfl⟩]
    · obtain ⟨_, _, _, _, _, h5, _⟩ := pj i hi9
      rw [a57, aP i hi9, s169.2.2.2.1]
      exact h5
    · exact ⟨by rw [show a 58 = ps 0 from aP 0 (by omega)]; exact pz 0 (by omega), by rw [show a 60 = ps 2 from aP 2 (by omega)]; exact pz 2 (by omega), by rw [show a 61 = ps 3 from aP 3 (by omega)]; exact pz 3 (by omega)⟩
    · rw [a50, sx0.2.2.1, I195]
    · rw [a52, s82.2.2.2.2.1, e89, px_AW]
      exact dz.2.2.1 i
    · rw [a53]; exact hB0)

end S_CAO
