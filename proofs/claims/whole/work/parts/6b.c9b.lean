section S_C9B
abbrev ws_X10_requireGroup : List Cond := Cond.code yX10_requireGroup cX10_requireGroup 2 none :: W0
abbrev rm_X10_requireGroup : Room := ({ frames := 6, cells := 0, slots := 0, locals := 100 } : Room)
def wp_X10_requireGroup (P : HS → Prop) (X : String → HS → Prop) (x0 : Nat) (p0 : Int32) (S : HS) (mc ms : Nat) : Prop := (p0 ≤ 0 → ((1 ≤ mc ∧ 6 ≤ ms) ∧ X "java/lang/IndexOutOfBoundsException" S)) ∧ (¬ p0 ≤ 0 → (∃ b4 : Nat, hR S 220 x0 = some b4 ∧ (hK S b4 = 7 → ((p0 < ((1 : Int32) <<< ((hI S 143 b4) &&& 31)) → (P S)) ∧ (¬ p0 < ((1 : Int32) <<< ((hI S 143 b4) &&& 31)) → ((1 ≤ mc ∧ 6 ≤ ms) ∧ X "java/lang/IndexOutOfBoundsException" S))))))
set_option maxRecDepth 100000 in
set_option maxHeartbeats 4000000 in
theorem t_X10_requireGroup {p : Program} {l : Launch} {e : Env} {s : State} {m : MethodId} {args : Array Value} {below : List Frame} {meth : Method} {c : Code} {D : va_G} {A : Nat → Prop} {T : Nat → ClassId} (C : GC p s m args meth c cX10_requireGroup "FreightRater" (ws_X10_requireGroup) 2 D A (zty T)) (E : GE T A s) (hst : l.stackTraces = false) (htab : ∀ z ∈ c.exceptionTable.toList, False) (hr : meth.sig.returnType = none) (P : HS → Prop) (X : String → HS → Prop) : ∀ (x0 : Nat) (p0 : Int32) (S0 S : HS) (mc ms : Nat) (L : List Nat), S0 = S → wt S → hL S L → (hK S x0 = 11) → wp_X10_requireGroup P X x0 p0 S mc ms → GW p l e { rm_X10_requireGroup with cells := mc, slots := ms } s m args below meth c D A 2 mc ms (vx_MQ below (va_Qv (fun (u : HS × List Nat) => P u.1 ∧ CO S0 u) (CE D T A) A) (CXX D T A S0 X) args s mc ms A) (CW T S L) mc ms 0 [(0, .ref x0), (1, .int p0)] [] := by
  have hW : ∀ {w : Cond}, w ∈ W0 → w.before args s = true := fun h => C.2.2.2.2.1 _ (List.mem_cons_of_mem _ h)
  intro x0 p0 S0 S mc ms L hS0 hw hL hx0 h
  have he : ext S0 S := by rw [hS0]; exact ext_rf
  unfold wp_X10_requireGroup at h
  refine g_iload_n C dX10_requireGroup_0 rfl 1 rfl ?_
  refine g_if_le (tgt := 17) C dX10_requireGroup_1 (by decide) (fun z1 => ?_) (fun z1 => ?_)
  · replace h := h.1 z1
    obtain ⟨g2, h⟩ := h
    exact gx_throw (cls := "java/lang/IndexOutOfBoundsException") (names := ["java/lang/RuntimeException", "java/lang/Exception"]) C E hst hw hL he (Nat.le_refl _) (Nat.le_refl _) (by decide) (by decide) (hW kw_465) (hW kw_16) (th_FreightRater_72 hW E) tv_FreightRater_72 dX10_requireGroup_17 dX10_requireGroup_20 dX10_requireGroup_21 dX10_requireGroup_24 htab (Nat.le_of_ble_eq_true rfl) (Nat.le_of_ble_eq_true rfl) g2.1 g2.2 h
  · replace h := h.2 z1
    refine g_iload_n C dX10_requireGroup_4 rfl 1 rfl ?_
    refine g_iconst (v := 1) C dX10_requireGroup_5 (by decide) ?_
    refine g_aload_n C dX10_requireGroup_6 rfl 0 rfl ?_
    refine gc_getR C hw iwx_X10 hL hx0 (by decide) (by decide) rfl 0 (by decide) (hW kw_242) rfl rfl rfl dX10_requireGroup_7 (fun o3 eo3 ko3 => ?_)
    obtain ⟨b4, hb9, h⟩ := h
    have g5 : hK S b4 = 7 := ko3 b4 (eo3.trans hb9)
    replace h := h g5
    refine g_opt (eo3.trans hb9) ?_
    refine gc_getI C iwx_X6 hL g5 (by decide) (by decide) rfl 3 (by decide) (hW kw_67) rfl rfl rfl dX10_requireGroup_10 ?_
    refine g_ishl C dX10_requireGroup_13 ?_
    refine g_icmp_lt (tgt := 25) C dX10_requireGroup_14 (by decide) (fun z6 => ?_) (fun z6 => ?_)
    · replace h := h.1 z6
      exact gx_vret C hw hL he hr dX10_requireGroup_25 h
    · replace h := h.2 z6
      obtain ⟨g7, h⟩ := h
      exact gx_throw (cls := "java/lang/IndexOutOfBoundsException") (names := ["java/lang/RuntimeException", "java/lang/Exception"]) C E hst hw hL he (Nat.le_refl _) (Nat.le_refl _) (by decide) (by decide) (hW kw_465) (hW kw_16) (th_FreightRater_72 hW E) tv_FreightRater_72 dX10_requireGroup_17 dX10_requireGroup_20 dX10_requireGroup_21 dX10_requireGroup_24 htab (Nat.le_of_ble_eq_true rfl) (Nat.le_of_ble_eq_true rfl) g7.1 g7.2 h
theorem c_X10_requireGroup (l : Launch) (hst : l.stackTraces = false) (D : va_G) (T : Nat → ClassId) (x0 : Nat) (p0 : Int32) (S : HS) (mc ms : Nat) (hx0 : hK S x0 = 11) (P : HS → Prop) (X : String → HS → Prop) (h : wp_X10_requireGroup P X x0 p0 S mc ms) : CXv l yX10_requireGroup (ws_X10_requireGroup) rm_X10_requireGroup D T [.ref x0, .int p0] S mc ms P X := gx_metv (by decide) rfl rfl (Nat.le_of_ble_eq_true rfl) (fun p e s m args below meth c A L C E hnm hr htab hw hL => t_X10_requireGroup C E hst htab hr P X x0 p0 S S mc ms L rfl hw hL hx0 h)
/-- a reason has been kept -/
def kpG (g : Nat → Int32) (r d : Int32) : Nat → Int32 := fun i => if i = 230 then r else if i = 231 then d else g i
/-- a state has been kept -/
def rmU (mu : Nat → Nat → Int32) (g : Nat → Int32) : Nat → Nat → Int32 := fun t => if t = 2 + iv (g 224) then mu 0 else mu t
def rmG (g : Nat → Int32) : Nat → Int32 := fun i => if i = 224 then nI ((iv (g 224) + 1) % 8) else if i = 225 then nI (if iv (g 225) < 8 then iv (g 225) + 1 else 8) else g i
def imX (g : Nat → Int32) : Int32 := if 0 ≤ g 229 then 0 else 1
theorem FrS.now {S : HS} {a : Nat → Nat} {mu : Nat → Nat → Int32} {g b : Nat → Int32} {sh : List Int32} (h : FrS S a mu g b sh) : WF (mu 0) ∧ RelSt S (fxM a) (a 0) (mu 0) := ⟨(h.2.1 0 (by omega)).1.1, (h.2.1 0 (by omega)).2⟩
theorem FrS.r0 {S : HS} {a : Nat → Nat} {mu : Nat → Nat → Int32} {g b : Nat → Int32} {sh : List Int32} (h : FrS S a mu g b sh) : hR S 220 (a 50) = some (a 0) := h.1.2.2.2.2.1.1
theorem FrS.r1 {S : HS} {a : Nat → Nat} {mu : Nat → Nat → Int32} {g b : Nat → Int32} {sh : List Int32} (h : FrS S a mu g b sh) : hR S 221 (a 50) = some (a 5) := h.1.2.2.2.2.1.2.1
theorem FrS.r3 {S : HS} {a : Nat → Nat} {mu : Nat → Nat → Int32} {g b : Nat → Int32} {sh : List Int32} (h : FrS S a mu g b sh) : hR S 223 (a 50) = some (a 51) := h.1.2.2.2.2.1.2.2.1
theorem FrS.r6 {S : HS} {a : Nat → Nat} {mu : Nat → Nat → Int32} {g b : Nat → Int32} {sh : List Int32} (h : FrS S a mu g b sh) : hR S 226 (a 50) = some (a 52) := h.1.2.2.2.2.1.2.2.2.1
theorem FrS.r12 {S : HS} {a : Nat → Nat} {mu : Nat → Nat → Int32} {g b : Nat → Int32} {sh : List Int32} (h : FrS S a mu g b sh) : hR S 232 (a 50) = some (a 54) := h.1.2.2.2.2.1.2.2.2.2.2.1
theorem FrS.r13 {S : HS} {a : Nat → Nat} {mu : Nat → Nat → Int32} {g b : Nat → Int32} {sh : List Int32} (h : FrS S a mu g b sh) : hR S 233 (a 50) = some (a 57) := h.1.2.2.2.2.1.2.2.2.2.2.2
theorem k_X10_requireGroup (l : Launch) (hst : l.stackTraces = false) (D : va_G) (T : Nat → ClassId) (x0 : Nat) (p0 : Int32) (S : HS) (e0 : (Nat → Nat)) (e1 : (Nat → Nat → Int32)) (e2 : (Nat → Int32)) (e3 : (Nat → Int32)) (e4 : (List Int32)) (mc ms : Nat) (hx0 : hK S x0 = 11) (h : FrS S e0 e1 e2 e3 e4 ∧ x0 = e0 50 ∧ 1 ≤ mc ∧ 6 ≤ ms) : CXv l yX10_requireGroup (ws_X10_requireGroup) rm_X10_requireGroup D T [.ref x0, .int p0] S mc ms (fun S1 => (grpF (e1 0) p0 = 1 ∧ S1 = S)) (fun E9 S1 => grpF (e1 0) p0 = 0 ∧ E9 = "java/lang/IndexOutOfBoundsException" ∧ S1 = S) := c_X10_requireGroup l hst D T x0 p0 S mc ms hx0 _ _ <|
  (by
    obtain ⟨h, e, hmc, hms⟩ := h
    subst e
    unfold wp_X10_requireGroup
    have i43 := h.now.2.1.2.2.1
    refine ⟨fun c => ⟨⟨hmc, hms⟩, ?_, rfl, rfl⟩, fun c => ⟨e0 0, h.r0, fun _ => ?_⟩⟩
    · unfold grpF
      rw [if_neg (Int32.not_lt.mpr c)]
    · rw [i43]
      have c := Int32.not_le.mp c
      refine ⟨fun c2 => ⟨?_, rfl⟩, fun c2 => ⟨⟨hmc, hms⟩, ?_, rfl, rfl⟩⟩
      · unfold grpF; rw [if_pos c, if_pos c2]
      · unfold grpF; rw [if_pos c, if_neg c2])
abbrev ws_X10_keepReason : List Cond := Cond.code yX10_keepReason cX10_keepReason 1 none :: W0
abbrev rm_X10_keepReason : Room := ({ frames := 0, cells := 0, slots := 0, locals := 0 } : Room)
def wp_X10_keepReason (P : HS → Prop) (x0 : Nat) (S : HS) : Prop := ∃ b2 : Nat, hR S 232 x0 = some b2 ∧ (hK S b2 = 3 → (∀ S5 : HS, S5 = putI S 230 x0 (hI S 63 b2) → (∃ b11 : Nat, hR S5 232 x0 = some b11 ∧ (hK S5 b11 = 3 → (∀ S14 : HS, S14 = putI S5 231 x0 (hI S5 64 b11) → (P S14))))))
set_option maxRecDepth 100000 in
set_option maxHeartbeats 4000000 in
theorem t_X10_keepReason {p : Program} {l : Launch} {e : Env} {s : State} {m : MethodId} {args : Array Value} {below : List Frame} {meth : Method} {c : Code} {D : va_G} {A : Nat → Prop} {T : Nat → ClassId} (C : GC p s m args meth c cX10_keepReason "FreightRater" (ws_X10_keepReason) 1 D A (zty T)) (E : GE T A s) (hr : meth.sig.returnType = none) (P : HS → Prop) : ∀ (x0 : Nat) (S0 S : HS) (L : List Nat), S0 = S → wt S → hL S L → (hK S x0 = 11) → wp_X10_keepReason P x0 S → GW p l e { rm_X10_keepReason with cells := 0, slots := 0 } s m args below meth c D A 1 0 0 (MQ below (va_Qv (fun (u : HS × List Nat) => P u.1 ∧ CO S0 u) (CE D T A) A) args s 0 0 A) (CW T S L) 0 0 0 [(0, .ref x0)] [] := by
  have hW : ∀ {w : Cond}, w ∈ W0 → w.before args s = true := fun h => C.2.2.2.2.1 _ (List.mem_cons_of_mem _ h)
  intro x0 S0 S L hS0 hw hL hx0 h
  have he : ext S0 S := by rw [hS0]; exact ext_rf
  unfold wp_X10_keepReason at h
  refine g_aload_n C dX10_keepReason_0 rfl 0 rfl ?_
  refine g_aload_n C dX10_keepReason_1 rfl 0 rfl ?_
  refine gc_getR C hw iwx_X10 hL hx0 (by decide) (by decide) rfl 12 (by decide) (hW kw_254) rfl rfl rfl dX10_keepReason_2 (fun o1 eo1 ko1 => ?_)
  obtain ⟨b2, hb9, h⟩ := h
  have g3 : hK S b2 = 3 := ko1 b2 (eo1.trans hb9)
  replace h := h g3
  refine g_opt (eo1.trans hb9) ?_
  refine gc_getI C iwx_X2 hL g3 (by decide) (by decide) rfl 3 (by decide) (hW kw_139) rfl rfl rfl dX10_keepReason_5 ?_
  refine gc_putI C iwx_X10 hL hx0 (by decide) (by decide) rfl 10 (by decide) (hW kw_252) rfl tyX10 tyX10_ok nmX10 rfl rfl rfl rfl rfl dX10_keepReason_8 ?_
  have w4 := wt_putI hw 230 (hI S 63 b2) (k_ne hx0 (by decide))
  refine gc_nS (fun S5 eS5 => ?_)
  replace h := h S5 eS5
  have w6 : wt S5 := by rw [eS5]; exact w4
  have w7 : isL S5 L := by rw [eS5]; exact hL
  have w8 : ext S0 S5 := by rw [eS5]; exact he
  have g9 : hK S5 x0 = 11 := by rw [eS5]; exact hx0
  refine g_aload_n C dX10_keepReason_11 rfl 0 rfl ?_
  refine g_aload_n C dX10_keepReason_12 rfl 0 rfl ?_
  refine gc_getR C w6 iwx_X10 w7 g9 (by decide) (by decide) rfl 12 (by decide) (hW kw_254) rfl rfl rfl dX10_keepReason_13 (fun o10 eo10 ko10 => ?_)
  obtain ⟨b11, hb9, h⟩ := h
  have g12 : hK S5 b11 = 3 := ko10 b11 (eo10.trans hb9)
  replace h := h g12
  refine g_opt (eo10.trans hb9) ?_
  refine gc_getI C iwx_X2 w7 g12 (by decide) (by decide) rfl 4 (by decide) (hW kw_141) rfl rfl rfl dX10_keepReason_16 ?_
  refine gc_putI C iwx_X10 w7 g9 (by decide) (by decide) rfl 11 (by decide) (hW kw_253) rfl tyX10 tyX10_ok nmX10 rfl rfl rfl rfl rfl dX10_keepReason_19 ?_
  have w13 := wt_putI w6 231 (hI S5 64 b11) (k_ne g9 (by decide))
  refine gc_nS (fun S14 eS14 => ?_)
  replace h := h S14 eS14
  have w15 : wt S14 := by rw [eS14]; exact w13
  have w16 : isL S14 L := by rw [eS14]; exact w7
  have w17 : ext S0 S14 := by rw [eS14]; exact w8
  have g18 : hK S14 x0 = 11 := by rw [eS14]; exact g9
  exact gc_vret C w15 w16 w17 hr dX10_keepReason_22 h
theorem c_X10_keepReason (l : Launch) (D : va_G) (T : Nat → ClassId) (x0 : Nat) (S : HS) (hx0 : hK S x0 = 11) (P : HS → Prop) (h : wp_X10_keepReason P x0 S) : CMv l yX10_keepReason (ws_X10_keepReason) rm_X10_keepReason D T [.ref x0] S 0 0 P := gc_metv (by decide) rfl rfl (Nat.le_of_ble_eq_true rfl) (fun p e s m args below meth c A L C E hnm hr hw hL => t_X10_keepReason C E   hr P x0 S S L rfl hw hL hx0 h)
theorem k_X10_keepReason (l : Launch) (D : va_G) (T : Nat → ClassId) (x0 : Nat) (S : HS) (e0 : (Nat → Nat)) (e1 : (Nat → Nat → Int32)) (e2 : (Nat → Int32)) (e3 : (Nat → Int32)) (e4 : (List Int32)) (hx0 : hK S x0 = 11) (h : FrS S e0 e1 e2 e3 e4 ∧ x0 = e0 50) : CMv l yX10_keepReason (ws_X10_keepReason) rm_X10_keepReason D T [.ref x0] S 0 0 (fun S1 => (FrS S1 e0 e1 (kpG e2 (hI S 63 (e0 54)) (hI S 64 (e0 54))) e3 e4)) := c_X10_keepReason l D T x0 S hx0 _ <|
  (by
    obtain ⟨h, e⟩ := h
    subst e
    unfold wp_X10_keepReason
    refine ⟨e0 54, h.r12, fun _ S5 e5 => ?_⟩
    have h5 : FrS S5 e0 e1 (fun i => if i = 230 then hI S 63 (e0 54) else e2 i) e3 e4 := h.ob e5 (fun j _ => rfl) h.2.2.1
    refine ⟨e0 54, h5.r12, fun _ S14 e14 => ?_⟩
    have hne : e0 54 ≠ e0 50 := h.1.ne (by omega) (by omega) (by omega)
    rw [show hI S5 64 (e0 54) = hI S 64 (e0 54) by rw [e5, px_II, if_neg (fun z => hne z.2)]] at e14
    refine h5.ob e14 (fun j _ => ?_) h.2.2.1
    unfold kpG
    by_cases c : j = 230
    · rw [if_pos c, if_neg (by omega), if_pos c]
    · rw [if_neg c, if_neg c])
abbrev ws_X10_remember : List Cond := Cond.code yX10_remember cX10_remember 1 none :: W0
abbrev rm_X10_remember : Room := ({ frames := 1, cells := 0, slots := 0, locals := 22 } : Room)
def wp_X10_remember (P : HS → Prop) (x0 : Nat) (S : HS) : Prop := ∃ b2 : Nat, hR S 223 x0 = some b2 ∧ (hK S b2 = 28 → (vp_in (hI S 224 x0) (hN S b2) ∧ (∀ o5 : Option Nat, o5 = hB S b2 (Int32.toNatClampNeg (hI S 224 x0)) → (∀ b, o5 = some b → hK S b = 7) → (∃ b7 : Nat, hR S 220 x0 = some b7 ∧ (hK S b7 = 7 → (∃ b9 : Nat, o5 = some b9 ∧ (hK S b9 = 7 → (∃ (m11 : (Nat → Prop)) (m12 : Nat → Int32), ((StO S b9 ∧ WF m12 ∧ RelSt S m11 b7 m12 ∧ (∀ b, stA S b9 b → m11 b) ∧ (∀ b, stA S b9 b → ¬ stA S b7 b)) ∧ (∀ (S14 : HS), ext S S14 → (frM S S14 (stA S b9) ∧ hK S14 = hK S ∧ hN S14 = hN S ∧ hR S14 = hR S ∧ RelSt S14 m11 b9 m12) → (∀ S22 : HS, S22 = putI S14 224 x0 (((hI S14 224 x0) + 1) - ((hI S14 224 x0) + 1) / 8 * 8) → (∀ S28 : HS, S28 = putI S22 225 x0 (if 8 < ((hI S22 225 x0) + 1) then 8 else ((hI S22 225 x0) + 1)) → (P S28)))))))))))))
set_option maxRecDepth 100000 in
set_option maxHeartbeats 4000000 in
theorem t_X10_remember {p : Program} {l : Launch} {e : Env} {s : State} {m : MethodId} {args : Array Value} {below : List Frame} {meth : Method} {c : Code} {D : va_G} {A : Nat → Prop} {T : Nat → ClassId} (C : GC p s m args meth c cX10_remember "FreightRater" (ws_X10_remember) 1 D A (zty T)) (E : GE T A s) (hr : meth.sig.returnType = none) (P : HS → Prop) : ∀ (x0 : Nat) (S0 S : HS) (L : List Nat), S0 = S → wt S → hL S L → (hK S x0 = 11) → wp_X10_remember P x0 S → GW p l e { rm_X10_remember with cells := 0, slots := 0 } s m args below meth c D A 1 0 0 (MQ below (va_Qv (fun (u : HS × List Nat) => P u.1 ∧ CO S0 u) (CE D T A) A) args s 0 0 A) (CW T S L) 0 0 0 [(0, .ref x0)] [] := by
  have hW : ∀ {w : Cond}, w ∈ W0 → w.before args s = true := fun h => C.2.2.2.2.1 _ (List.mem_cons_of_mem _ h)
  intro x0 S0 S L hS0 hw hL hx0 h
  have he : ext S0 S := by rw [hS0]; exact ext_rf
  unfold wp_X10_remember at h
  refine g_aload_n C dX10_remember_0 rfl 0 rfl ?_
  refine gc_getR C hw iwx_X10 hL hx0 (by decide) (by decide) rfl 3 (by decide) (hW kw_245) rfl rfl rfl dX10_remember_1 (fun o1 eo1 ko1 => ?_)
  obtain ⟨b2, hb9, h⟩ := h
  have g3 : hK S b2 = 28 := ko1 b2 (eo1.trans hb9)
  replace h := h g3
  refine g_opt (eo1.trans hb9) ?_
  refine g_aload_n C dX10_remember_4 rfl 0 rfl ?_
  refine gc_getI C iwx_X10 hL hx0 (by decide) (by decide) rfl 4 (by decide) (hW kw_246) rfl rfl rfl dX10_remember_5 ?_
  obtain ⟨g4, h⟩ := h
  refine gc_aald C hw hL g3 (by decide) rfl g4 dX10_remember_8 (fun o5 eo5 ko5 => ?_)
  replace h := h o5 eo5 ko5
  refine g_aload_n C dX10_remember_9 rfl 0 rfl ?_
  refine gc_getR C hw iwx_X10 hL hx0 (by decide) (by decide) rfl 0 (by decide) (hW kw_242) rfl rfl rfl dX10_remember_10 (fun o6 eo6 ko6 => ?_)
  obtain ⟨b7, hb9, h⟩ := h
  have g8 : hK S b7 = 7 := ko6 b7 (eo6.trans hb9)
  replace h := h g8
  refine g_opt (eo6.trans hb9) ?_
  obtain ⟨b9, rfl, h⟩ := h
  have g10 : hK S b9 = 7 := ko5 b9 rfl
  replace h := h g10
  obtain ⟨m11, m12, h⟩ := h
  obtain ⟨g13, h⟩ := h
  refine gc_callvV (host := "") C E hw hL g10 (by decide) (by decide) rfl [.ref b7] rfl (k_X6_copyFrom l D T b9 b7 S m11 m12 g10 g8 g13) (w0_V 1 C.2.2.2.2.1 kw_289 kw_290 kw_291 kw_2 kw_292 rfl rfl (by decide +kernel) ⟨Nat.le_of_ble_eq_true rfl, Nat.le_of_ble_eq_true rfl⟩) rfl (Nat.le_of_ble_eq_true rfl) (Nat.le_refl _) (Nat.le_refl _) (Nat.zero_le _) (Nat.zero_le _) dX10_remember_13 (fun S14 L15 e16 w17 w18 hp => ?_)
  replace h := h S14 e16 hp
  have g19 := ext_K e16 hx0 (by decide)
  have w20 := ext_tr he e16
  refine g_aload_n C dX10_remember_16 rfl 0 rfl ?_
  refine g_aload_n C dX10_remember_17 rfl 0 rfl ?_
  refine gc_getI C iwx_X10 w18 g19 (by decide) (by decide) rfl 4 (by decide) (hW kw_246) rfl rfl rfl dX10_remember_18 ?_
  refine g_iconst (v := 1) C dX10_remember_21 (by decide) ?_
  refine g_iadd C dX10_remember_22 ?_
  refine g_bipush (v := 8) C dX10_remember_23 (by decide) ?_
  refine g_irem C dX10_remember_25 (by decide) ?_
  refine gc_putI C iwx_X10 w18 g19 (by decide) (by decide) rfl 4 (by decide) (hW kw_246) rfl tyX10 tyX10_ok nmX10 rfl rfl rfl rfl rfl dX10_remember_26 ?_
  have w21 := wt_putI w17 224 (((hI S14 224 x0) + 1) - ((hI S14 224 x0) + 1) / 8 * 8) (k_ne g19 (by decide))
  refine gc_nS (fun S22 eS22 => ?_)
  replace h := h S22 eS22
  have w23 : wt S22 := by rw [eS22]; exact w21
  have w24 : isL S22 L15 := by rw [eS22]; exact w18
  have w25 : ext S0 S22 := by rw [eS22]; exact w20
  have g26 : hK S22 x0 = 11 := by rw [eS22]; exact g19
  refine g_aload_n C dX10_remember_29 rfl 0 rfl ?_
  refine g_aload_n C dX10_remember_30 rfl 0 rfl ?_
  refine gc_getI C iwx_X10 w24 g26 (by decide) (by decide) rfl 5 (by decide) (hW kw_247) rfl rfl rfl dX10_remember_31 ?_
  refine g_iconst (v := 1) C dX10_remember_34 (by decide) ?_
  refine g_iadd C dX10_remember_35 ?_
  refine g_bipush (v := 8) C dX10_remember_36 (by decide) ?_
  refine g_mmin C (hW kw_499) (hW kw_500) (hW kw_18) (hW kw_501) (Nat.le_of_ble_eq_true rfl) (Nat.le_of_ble_eq_true rfl) (Nat.le_refl _) (Nat.le_refl _) dX10_remember_38 ?_
  refine gc_putI C iwx_X10 w24 g26 (by decide) (by decide) rfl 5 (by decide) (hW kw_247) rfl tyX10 tyX10_ok nmX10 rfl rfl rfl rfl rfl dX10_remember_41 ?_
  have w27 := wt_putI w23 225 (if 8 < ((hI S22 225 x0) + 1) then 8 else ((hI S22 225 x0) + 1)) (k_ne g26 (by decide))
  refine gc_nS (fun S28 eS28 => ?_)
  replace h := h S28 eS28
  have w29 : wt S28 := by rw [eS28]; exact w27
  have w30 : isL S28 L15 := by rw [eS28]; exact w24
  have w31 : ext S0 S28 := by rw [eS28]; exact w25
  have g32 : hK S28 x0 = 11 := by rw [eS28]; exact g26
  exact gc_vret C w29 w30 w31 hr dX10_remember_44 h
theorem c_X10_remember (l : Launch) (D : va_G) (T : Nat → ClassId) (x0 : Nat) (S : HS) (hx0 : hK S x0 = 11) (P : HS → Prop) (h : wp_X10_remember P x0 S) : CMv l yX10_remember (ws_X10_remember) rm_X10_remember D T [.ref x0] S 0 0 P := gc_metv (by decide) rfl rfl (Nat.le_of_ble_eq_true rfl) (fun p e s m args below meth c A L C E hnm hr hw hL => t_X10_remember C E   hr P x0 S S L rfl hw hL hx0 h)
theorem rg_1 : ∀ p : Nat, p < 8 → (nI p + 1) - (nI p + 1) / 8 * 8 = nI ((p + 1) % 8) := by decide +kernel
theorem rg_2 : ∀ p : Nat, p < 9 → (if (8 : Int32) < nI p + 1 then (8 : Int32) else nI p + 1) = nI (if p < 8 then p + 1 else 8) := by decide +kernel
theorem rg_3 : ∀ p : Nat, p < 8 → (nI p + 8 - 1) - (nI p + 8 - 1) / 8 * 8 = nI ((p + 7) % 8) := by decide +kernel
theorem k_X10_remember (l : Launch) (D : va_G) (T : Nat → ClassId) (x0 : Nat) (S : HS) (e0 : (Nat → Nat)) (e1 : (Nat → Nat → Int32)) (e2 : (Nat → Int32)) (e3 : (Nat → Int32)) (e4 : (List Int32)) (hx0 : hK S x0 = 11) (h : FrS S e0 e1 e2 e3 e4 ∧ x0 = e0 50) : CMv l yX10_remember (ws_X10_remember) rm_X10_remember D T [.ref x0] S 0 0 (fun S1 => (FrS S1 e0 (rmU e1 e2) (rmG e2) e3 e4 ∧ frM S S1 (fxM e0) ∧ hK S1 = hK S ∧ hR S1 = hR S ∧ (∀ i, 54 ≤ i → i < 64 → sam S S1 (e0 i)))) := c_X10_remember l D T x0 S hx0 _ <|
  (by
    obtain ⟨h, e⟩ := h
    subst e
    obtain ⟨pe, pc, len, hpe, hpc, hlen, g4, g5, g7, hch⟩ := h.2.2.1.1
    have i4 : hI S 224 (e0 50) = nI pe := (h.2.2.2.1 224 (by unfold frI; omega)).trans g4
    have n51 : hN S (e0 51) = 8 := h.1.2.1 51 (by omega) (by unfold fxA; omega)
    have ipe : iv (e2 224) = pe := by rw [g4]; exact nI_clamp (by omega)
    have ipc : iv (e2 225) = pc := by rw [g5]; exact nI_clamp (by omega)
    have b51 : hB S (e0 51) pe = some (e0 (5 * (2 + pe))) := by
      rw [h.1.2.2.2.2.2.1 pe hpe, show 5 * (2 + pe) = 10 + 5 * pe by omega]
    unfold wp_X10_remember
    refine ⟨e0 51, h.r3, fun _ => ?_⟩
    rw [i4, n51, nz_vp (by omega) (by decide), nI_clamp (n := pe) (by omega)]
    refine ⟨hpe, fun o5 eo _ => ⟨e0 0, h.r0, fun _ => ⟨e0 (5 * (2 + pe)), by rw [eo, b51], fun _ => ⟨fxM e0, e1 0, ⟨h.1.st (by omega), h.now.1, h.now.2, fun b hb => h.1.sM (by omega) hb, fun b hb => h.1.sD (s := 2 + pe) (t := 0) (by omega) (by omega) (by omega) hb⟩, fun S14 he14 h14 => ?_⟩⟩⟩⟩
    obtain ⟨f14, k14, n14, r14, R14⟩ := h14
    have h14' : FrS S14 e0 (fun t => if t = 2 + pe then e1 0 else e1 t) e2 e3 e4 := h.st (by omega) he14 f14 (fun i _ j => by rw [r14]) (h.2.1 0 (by omega)).1 R14
    intro S22 e22 S28 e28
    rw [(h14'.2.2.2.1 224 (by unfold frI; omega)).trans g4, rg_1 pe hpe] at e22
    have G1 : FrG (fun i => if i = 224 then nI ((pe + 1) % 8) else e2 i) e3 := ⟨⟨(pe + 1) % 8, pc, len, Nat.mod_lt _ (by decide), hpc, hlen, rfl, g5, g7, hch⟩, h.2.2.1.2⟩
    have h22 := h14'.ob e22 (fun j _ => rfl) G1
    rw [(h22.2.2.2.1 225 (by unfold frI; omega)).trans g5, rg_2 pc (by omega)] at e28
    have h28 := h22.ob (g1 := rmG e2) e28 (fun j _ => by
      unfold rmG
      rw [ipe, ipc]
      by_cases c : j = 225
      · rw [if_pos c, if_neg (by omega), if_pos c]
      · rw [if_neg c, if_neg c]) ⟨⟨(pe + 1) % 8, _, len, Nat.mod_lt _ (by decide), (by show (if pc < 8 then pc + 1 else 8) ≤ 8; split <;> omega), hlen, by unfold rmG; rw [if_pos rfl, ipe], by unfold rmG; rw [if_neg (by omega), if_pos rfl, ipc], g7, hch⟩, h.2.2.1.2⟩
    have eU : rmU e1 e2 = fun t => if t = 2 + pe then e1 0 else e1 t := by unfold rmU; rw [ipe]
    rw [eU]
    refine ⟨h28, ?_, by rw [e28, e22, px_KI, px_KI]; exact k14, by rw [e28, e22, px_RI, px_RI]; exact r14, fun i hi hi2 => ?_⟩
    · rw [e28, e22]
      have f : frM S S14 (fxM e0) := f14.sub (fun c hc => h.1.sM (by omega) hc)
      exact frM.pI (M := fxM e0) (frM.pI (M := fxM e0) f ⟨50, by omega, rfl⟩ _ _) ⟨50, by omega, rfl⟩ _ _
    · have s1 := f14 (e0 i) (fun z => by
        obtain ⟨j, hj, e⟩ := h.1.sA (s := 2 + pe) (by omega) z
        exact h.1.ne (i := i) (j := 5 * (2 + pe) + j) hi2 (by omega) (by omega) e) (h.1.k hi2)
      have s2 : sam S14 S28 (e0 i) := by
        rw [e28, e22]
        have f : frM S14 (putI (putI S14 224 (e0 50) (nI ((pe + 1) % 8))) 225 (e0 50) (nI (if pc < 8 then pc + 1 else 8))) (fun c => c = e0 50) := frM.pI (M := fun c => c = e0 50) (frM.pI (M := fun c => c = e0 50) frM.rf rfl _ _) rfl _ _
        exact f (e0 i) (h.1.ne (by omega) (by omega) (by omega)) (by rw [k14]; exact h.1.k hi2)
      exact s1.tr s2)
abbrev ws_X10_impossible : List Cond := Cond.code yX10_impossible cX10_impossible 1 (some .int) :: W0
abbrev rm_X10_impossible : Room := ({ frames := 6, cells := 0, slots := 0, locals := 100 } : Room)
def wp_X10_impossible (P : Int32 → HS → Prop) (X : String → HS → Prop) (x0 : Nat) (S : HS) (mc ms : Nat) : Prop := (0 ≤ (hI S 229 x0) → (P (hI S 229 x0) S)) ∧ (¬ 0 ≤ (hI S 229 x0) → ((1 ≤ mc ∧ 6 ≤ ms) ∧ X "java/util/NoSuchElementException" S))
set_option maxRecDepth 100000 in
set_option maxHeartbeats 4000000 in
theorem t_X10_impossible {p : Program} {l : Launch} {e : Env} {s : State} {m : MethodId} {args : Array Value} {below : List Frame} {meth : Method} {c : Code} {D : va_G} {A : Nat → Prop} {T : Nat → ClassId} (C : GC p s m args meth c cX10_impossible "FreightRater" (ws_X10_impossible) 1 D A (zty T)) (E : GE T A s) (hst : l.stackTraces = false) (htab : ∀ z ∈ c.exceptionTable.toList, False) (hr : meth.sig.returnType = (some .int)) (P : Int32 → HS → Prop) (X : String → HS → Prop) : ∀ (x0 : Nat) (S0 S : HS) (mc ms : Nat) (L : List Nat), S0 = S → wt S → hL S L → (hK S x0 = 11) → wp_X10_impossible P X x0 S mc ms → GW p l e { rm_X10_impossible with cells := mc, slots := ms } s m args below meth c D A 1 mc ms (vx_MQ below (va_Qi (fun v (u : HS × List Nat) => P v u.1 ∧ CO S0 u) (CE D T A) A) (CXX D T A S0 X) args s mc ms A) (CW T S L) mc ms 0 [(0, .ref x0)] [] := by
  have hW : ∀ {w : Cond}, w ∈ W0 → w.before args s = true := fun h => C.2.2.2.2.1 _ (List.mem_cons_of_mem _ h)
  intro x0 S0 S mc ms L hS0 hw hL hx0 h
  have he : ext S0 S := by rw [hS0]; exact ext_rf
  unfold wp_X10_impossible at h
  refine g_aload_n C dX10_impossible_0 rfl 0 rfl ?_
  refine gc_getI C iwx_X10 hL hx0 (by decide) (by decide) rfl 9 (by decide) (hW kw_251) rfl rfl rfl dX10_impossible_1 ?_
  refine g_if_ge (tgt := 15) C dX10_impossible_4 (by decide) (fun z1 => ?_) (fun z1 => ?_)
  · replace h := h.1 z1
    refine g_aload_n C dX10_impossible_15 rfl 0 rfl ?_
    refine gc_getI C iwx_X10 hL hx0 (by decide) (by decide) rfl 9 (by decide) (hW kw_251) rfl rfl rfl dX10_impossible_16 ?_
    exact gx_iret C hw hL he hr dX10_impossible_19 h
  · replace h := h.2 z1
    obtain ⟨g2, h⟩ := h
    exact gx_throw (cls := "java/util/NoSuchElementException") (names := ["java/lang/RuntimeException", "java/lang/Exception"]) C E hst hw hL he (Nat.le_refl _) (Nat.le_refl _) (by decide) (by decide) (hW kw_966) (hW kw_34) (th_FreightRater_136 hW E) tv_FreightRater_136 dX10_impossible_7 dX10_impossible_10 dX10_impossible_11 dX10_impossible_14 htab (Nat.le_of_ble_eq_true rfl) (Nat.le_of_ble_eq_true rfl) g2.1 g2.2 h
theorem c_X10_impossible (l : Launch) (hst : l.stackTraces = false) (D : va_G) (T : Nat → ClassId) (x0 : Nat) (S : HS) (mc ms : Nat) (hx0 : hK S x0 = 11) (P : Int32 → HS → Prop) (X : String → HS → Prop) (h : wp_X10_impossible P X x0 S mc ms) : CXi l yX10_impossible (ws_X10_impossible) rm_X10_impossible D T [.ref x0] S mc ms P X := gx_meti (by decide) rfl rfl (Nat.le_of_ble_eq_true rfl) (fun p e s m args below meth c A L C E hnm hr htab hw hL => t_X10_impossible C E hst htab hr P X x0 S S mc ms L rfl hw hL hx0 h)
theorem k_X10_impossible (l : Launch) (hst : l.stackTraces = false) (D : va_G) (T : Nat → ClassId) (x0 : Nat) (S : HS) (e0 : (Nat → Nat)) (e1 : (Nat → Nat → Int32)) (e2 : (Nat → Int32)) (e3 : (Nat → Int32)) (e4 : (List Int32)) (mc ms : Nat) (hx0 : hK S x0 = 11) (h : FrS S e0 e1 e2 e3 e4 ∧ x0 = e0 50 ∧ 200 ≤ mc ∧ 2000 ≤ ms) : CXi l yX10_impossible (ws_X10_impossible) rm_X10_impossible D T [.ref x0] S mc ms (fun v S1 => (imX e2 = 0 ∧ v = e2 229 ∧ FrS S1 e0 e1 e2 e3 e4)) (fun E9 S1 => ((imX e2 = 1 ∧ E9 = "java/util/NoSuchElementException")) ∧ FrS S1 e0 e1 e2 e3 e4) := c_X10_impossible l hst D T x0 S mc ms hx0 _ _ <|
  (by
    obtain ⟨h, e, hmc, hms⟩ := h
    subst e
    unfold wp_X10_impossible imX
    rw [h.2.2.2.1 229 (by unfold frI; omega)]
    refine ⟨fun c => ⟨by rw [if_pos c], rfl, h⟩, fun c => ⟨⟨by omega, by omega⟩, ⟨by rw [if_neg c], rfl⟩, h⟩⟩)
abbrev ws_X10_refusal : List Cond := Cond.code yX10_refusal cX10_refusal 2 (some .int) :: W0
abbrev rm_X10_refusal : Room := ({ frames := 6, cells := 0, slots := 0, locals := 100 } : Room)
def wp_X10_refusal (P : Int32 → HS → Prop) (X : String → HS → Prop) (x0 : Nat) (p0 : Int32) (S : HS) (mc ms : Nat) : Prop := (¬ (hI S 230 x0) = 0 → ((p0 = 0 → (P (hI S 230 x0) S)) ∧ (¬ p0 = 0 → (P (hI S 231 x0) S)))) ∧ ((hI S 230 x0) = 0 → ((1 ≤ mc ∧ 6 ≤ ms) ∧ X "java/util/NoSuchElementException" S))
set_option maxRecDepth 100000 in
set_option maxHeartbeats 4000000 in
theorem t_X10_refusal {p : Program} {l : Launch} {e : Env} {s : State} {m : MethodId} {args : Array Value} {below : List Frame} {meth : Method} {c : Code} {D : va_G} {A : Nat → Prop} {T : Nat → ClassId} (C : GC p s m args meth c cX10_refusal "FreightRater" (ws_X10_refusal) 2 D A (zty T)) (E : GE T A s) (hst : l.stackTraces = false) (htab : ∀ z ∈ c.exceptionTable.toList, False) (hr : meth.sig.returnType = (some .int)) (P : Int32 → HS → Prop) (X : String → HS → Prop) : ∀ (x0 : Nat) (p0 : Int32) (S0 S : HS) (mc ms : Nat) (L : List Nat), S0 = S → wt S → hL S L → (hK S x0 = 11) → wp_X10_refusal P X x0 p0 S mc ms → GW p l e { rm_X10_refusal with cells := mc, slots := ms } s m args below meth c D A 2 mc ms (vx_MQ below (va_Qi (fun v (u : HS × List Nat) => P v u.1 ∧ CO S0 u) (CE D T A) A) (CXX D T A S0 X) args s mc ms A) (CW T S L) mc ms 0 [(0, .ref x0), (1, .int p0)] [] := by
  have hW : ∀ {w : Cond}, w ∈ W0 → w.before args s = true := fun h => C.2.2.2.2.1 _ (List.mem_cons_of_mem _ h)
  intro x0 p0 S0 S mc ms L hS0 hw hL hx0 h
  have he : ext S0 S := by rw [hS0]; exact ext_rf
  unfold wp_X10_refusal at h
  refine g_aload_n C dX10_refusal_0 rfl 0 rfl ?_
  refine gc_getI C iwx_X10 hL hx0 (by decide) (by decide) rfl 10 (by decide) (hW kw_252) rfl rfl rfl dX10_refusal_1 ?_
  refine g_if_ne (tgt := 15) C dX10_refusal_4 (by decide) (fun z1 => ?_) (fun z1 => ?_)
  · replace h := h.1 z1
    refine g_iload_n C dX10_refusal_15 rfl 1 rfl ?_
    refine g_if_eq (tgt := 26) C dX10_refusal_16 (by decide) (fun z2 => ?_) (fun z2 => ?_)
    · replace h := h.1 z2
      refine g_aload_n C dX10_refusal_26 rfl 0 rfl ?_
      refine gc_getI C iwx_X10 hL hx0 (by decide) (by decide) rfl 10 (by decide) (hW kw_252) rfl rfl rfl dX10_refusal_27 ?_
      exact gx_iret C hw hL he hr dX10_refusal_30 h
    · replace h := h.2 z2
      refine g_aload_n C dX10_refusal_19 rfl 0 rfl ?_
      refine gc_getI C iwx_X10 hL hx0 (by decide) (by decide) rfl 11 (by decide) (hW kw_253) rfl rfl rfl dX10_refusal_20 ?_
      refine g_goto (tgt := 30) C dX10_refusal_23 (by decide) ?_
      exact gx_iret C hw hL he hr dX10_refusal_30 h
  · replace h := h.2 z1
    obtain ⟨g3, h⟩ := h
    exact gx_throw (cls := "java/util/NoSuchElementException") (names := ["java/lang/RuntimeException", "java/lang/Exception"]) C E hst hw hL he (Nat.le_refl _) (Nat.le_refl _) (by decide) (by decide) (hW kw_966) (hW kw_34) (th_FreightRater_136 hW E) tv_FreightRater_136 dX10_refusal_7 dX10_refusal_10 dX10_refusal_11 dX10_refusal_14 htab (Nat.le_of_ble_eq_true rfl) (Nat.le_of_ble_eq_true rfl) g3.1 g3.2 h
theorem c_X10_refusal (l : Launch) (hst : l.stackTraces = false) (D : va_G) (T : Nat → ClassId) (x0 : Nat) (p0 : Int32) (S : HS) (mc ms : Nat) (hx0 : hK S x0 = 11) (P : Int32 → HS → Prop) (X : String → HS → Prop) (h : wp_X10_refusal P X x0 p0 S mc ms) : CXi l yX10_refusal (ws_X10_refusal) rm_X10_refusal D T [.ref x0, .int p0] S mc ms P X := gx_meti (by decide) rfl rfl (Nat.le_of_ble_eq_true rfl) (fun p e s m args below meth c A L C E hnm hr htab hw hL => t_X10_refusal C E hst htab hr P X x0 p0 S S mc ms L rfl hw hL hx0 h)
theorem k_X10_refusal (l : Launch) (hst : l.stackTraces = false) (D : va_G) (T : Nat → ClassId) (x0 : Nat) (p0 : Int32) (S : HS) (e0 : (Nat → Nat)) (e1 : (Nat → Nat → Int32)) (e2 : (Nat → Int32)) (e3 : (Nat → Int32)) (e4 : (List Int32)) (mc ms : Nat) (hx0 : hK S x0 = 11) (h : FrS S e0 e1 e2 e3 e4 ∧ x0 = e0 50 ∧ 200 ≤ mc ∧ 2000 ≤ ms) : CXi l yX10_refusal (ws_X10_refusal) rm_X10_refusal D T [.ref x0, .int p0] S mc ms (fun v S1 => ((if e2 230 = 0 then 1 else 0) = 0 ∧ v = (if p0 = 0 then e2 230 else e2 231) ∧ FrS S1 e0 e1 e2 e3 e4)) (fun E9 S1 => (((if e2 230 = 0 then 1 else 0) = 1 ∧ E9 = "java/util/NoSuchElementException")) ∧ FrS S1 e0 e1 e2 e3 e4) := c_X10_refusal l hst D T x0 p0 S mc ms hx0 _ _ <|
  (by
    obtain ⟨h, e, hmc, hms⟩ := h
    subst e
    unfold wp_X10_refusal
    rw [h.2.2.2.1 230 (by unfold frI; omega), h.2.2.2.1 231 (by unfold frI; omega)]
    refine ⟨fun c => ⟨fun c2 => ⟨by rw [if_neg c], by rw [if_pos c2], h⟩, fun c2 => ⟨by rw [if_neg c], by rw [if_neg c2], h⟩⟩, fun c => ⟨⟨by omega, by omega⟩, ⟨by rw [if_pos c], rfl⟩, h⟩⟩)
abbrev ws_X10_feed : List Cond := Cond.code yX10_feed cX10_feed 2 (some .int) :: W0
abbrev rm_X10_feed : Room := ({ frames := 6, cells := 0, slots := 0, locals := 100 } : Room)
def wp_X10_feed (P : Int32 → HS → Prop) (X : String → HS → Prop) (x0 : Nat) (p0 : Int32) (S : HS) (mc ms : Nat) : Prop := ((hI S 227 x0) < 80 → (∃ b3 : Nat, hR S 226 x0 = some b3 ∧ (hK S b3 = 21 → (vp_in (hI S 227 x0) (hN S b3) ∧ (∀ S7 : HS, S7 = putA S b3 (Int32.toNatClampNeg (hI S 227 x0)) (vp_nar .char p0) → (∀ S13 : HS, S13 = putI S7 227 x0 ((hI S7 227 x0) + 1) → (P (hI S13 227 x0) S13))))))) ∧ (¬ (hI S 227 x0) < 80 → ((1 ≤ mc ∧ 6 ≤ ms) ∧ X "java/lang/IllegalStateException" S))
set_option maxRecDepth 100000 in
set_option maxHeartbeats 4000000 in
theorem t_X10_feed {p : Program} {l : Launch} {e : Env} {s : State} {m : MethodId} {args : Array Value} {below : List Frame} {meth : Method} {c : Code} {D : va_G} {A : Nat → Prop} {T : Nat → ClassId} (C : GC p s m args meth c cX10_feed "FreightRater" (ws_X10_feed) 2 D A (zty T)) (E : GE T A s) (hst : l.stackTraces = false) (htab : ∀ z ∈ c.exceptionTable.toList, False) (hr : meth.sig.returnType = (some .int)) (P : Int32 → HS → Prop) (X : String → HS → Prop) : ∀ (x0 : Nat) (p0 : Int32) (S0 S : HS) (mc ms : Nat) (L : List Nat), S0 = S → wt S → hL S L → (hK S x0 = 11) → wp_X10_feed P X x0 p0 S mc ms → GW p l e { rm_X10_feed with cells := mc, slots := ms } s m args below meth c D A 2 mc ms (vx_MQ below (va_Qi (fun v (u : HS × List Nat) => P v u.1 ∧ CO S0 u) (CE D T A) A) (CXX D T A S0 X) args s mc ms A) (CW T S L) mc ms 0 [(0, .ref x0), (1, .int p0)] [] := by
  have hW : ∀ {w : Cond}, w ∈ W0 → w.before args s = true := fun h => C.2.2.2.2.1 _ (List.mem_cons_of_mem _ h)
  intro x0 p0 S0 S mc ms L hS0 hw hL hx0 h
  have he : ext S0 S := by rw [hS0]; exact ext_rf
  unfold wp_X10_feed at h
  refine g_aload_n C dX10_feed_0 rfl 0 rfl ?_
  refine gc_getI C iwx_X10 hL hx0 (by decide) (by decide) rfl 7 (by decide) (hW kw_249) rfl rfl rfl dX10_feed_1 ?_
  refine g_bipush (v := 80) C dX10_feed_4 (by decide) ?_
  refine g_icmp_lt (tgt := 17) C dX10_feed_6 (by decide) (fun z1 => ?_) (fun z1 => ?_)
  · replace h := h.1 z1
    refine g_aload_n C dX10_feed_17 rfl 0 rfl ?_
    refine gc_getR C hw iwx_X10 hL hx0 (by decide) (by decide) rfl 6 (by decide) (hW kw_248) rfl rfl rfl dX10_feed_18 (fun o2 eo2 ko2 => ?_)
    obtain ⟨b3, hb9, h⟩ := h
    have g4 : hK S b3 = 21 := ko2 b3 (eo2.trans hb9)
    replace h := h g4
    refine g_opt (eo2.trans hb9) ?_
    refine g_aload_n C dX10_feed_21 rfl 0 rfl ?_
    refine gc_getI C iwx_X10 hL hx0 (by decide) (by decide) rfl 7 (by decide) (hW kw_249) rfl rfl rfl dX10_feed_22 ?_
    refine g_iload_n C dX10_feed_25 rfl 1 rfl ?_
    obtain ⟨g5, h⟩ := h
    refine gc_cast C hL g4 g5 dX10_feed_26 ?_
    have w6 := wt_putA hw (Int32.toNatClampNeg (hI S 227 x0)) (vp_nar .char p0) (k_ne g4 (by decide))
    refine gc_nS (fun S7 eS7 => ?_)
    replace h := h S7 eS7
    have w8 : wt S7 := by rw [eS7]; exact w6
    have w9 : isL S7 L := by rw [eS7]; exact hL
    have w10 : ext S0 S7 := by rw [eS7]; exact he
    have g11 : hK S7 x0 = 11 := by rw [eS7]; exact hx0
    refine g_aload_n C dX10_feed_27 rfl 0 rfl ?_
    refine g_dup C dX10_feed_28 rfl ?_
    refine gc_getI C iwx_X10 w9 g11 (by decide) (by decide) rfl 7 (by decide) (hW kw_249) rfl rfl rfl dX10_feed_29 ?_
    refine g_iconst (v := 1) C dX10_feed_32 (by decide) ?_
    refine g_iadd C dX10_feed_33 ?_
    refine gc_putI C iwx_X10 w9 g11 (by decide) (by decide) rfl 7 (by decide) (hW kw_249) rfl tyX10 tyX10_ok nmX10 rfl rfl rfl rfl rfl dX10_feed_34 ?_
    have w12 := wt_putI w8 227 ((hI S7 227 x0) + 1) (k_ne g11 (by decide))
    refine gc_nS (fun S13 eS13 => ?_)
    replace h := h S13 eS13
    have w14 : wt S13 := by rw [eS13]; exact w12
    have w15 : isL S13 L := by rw [eS13]; exact w9
    have w16 : ext S0 S13 := by rw [eS13]; exact w10
    have g17 : hK S13 x0 = 11 := by rw [eS13]; exact g11
    refine g_aload_n C dX10_feed_37 rfl 0 rfl ?_
    refine gc_getI C iwx_X10 w15 g17 (by decide) (by decide) rfl 7 (by decide) (hW kw_249) rfl rfl rfl dX10_feed_38 ?_
    exact gx_iret C w14 w15 w16 hr dX10_feed_41 h
  · replace h := h.2 z1
    obtain ⟨g18, h⟩ := h
    exact gx_throw (cls := "java/lang/IllegalStateException") (names := ["java/lang/RuntimeException", "java/lang/Exception"]) C E hst hw hL he (Nat.le_refl _) (Nat.le_refl _) (by decide) (by decide) (hW kw_480) (hW kw_17) (th_FreightRater_78 hW E) tv_FreightRater_78 dX10_feed_9 dX10_feed_12 dX10_feed_13 dX10_feed_16 htab (Nat.le_of_ble_eq_true rfl) (Nat.le_of_ble_eq_true rfl) g18.1 g18.2 h
theorem c_X10_feed (l : Launch) (hst : l.stackTraces = false) (D : va_G) (T : Nat → ClassId) (x0 : Nat) (p0 : Int32) (S : HS) (mc ms : Nat) (hx0 : hK S x0 = 11) (P : Int32 → HS → Prop) (X : String → HS → Prop) (h : wp_X10_feed P X x0 p0 S mc ms) : CXi l yX10_feed (ws_X10_feed) rm_X10_feed D T [.ref x0, .int p0] S mc ms P X := gx_meti (by decide) rfl rfl (Nat.le_of_ble_eq_true rfl) (fun p e s m args below meth c A L C E hnm hr htab hw hL => t_X10_feed C E hst htab hr P X x0 p0 S S mc ms L rfl hw hL hx0 h)
theorem k_X10_feed (l : Launch) (hst : l.stackTraces = false) (D : va_G) (T : Nat → ClassId) (x0 : Nat) (p0 : Int32) (S : HS) (e0 : (Nat → Nat)) (e1 : (Nat → Nat → Int32)) (e2 : (Nat → Int32)) (e3 : (Nat → Int32)) (e4 : (List Int32)) (mc ms : Nat) (hx0 : hK S x0 = 11) (h : FrS S e0 e1 e2 e3 e4 ∧ x0 = e0 50 ∧ 200 ≤ mc ∧ 2000 ≤ ms ∧ vp_nar .char p0 = p0 ∧ vc p0 ∧ ∃ c : Nat, c < 65536 ∧ p0 = nI c) : CXi l yX10_feed (ws_X10_feed) rm_X10_feed D T [.ref x0, .int p0] S mc ms (fun v S1 => ((if e2 227 = 80 then 1 else 0) = 0 ∧ v = e2 227 + 1 ∧ FrS S1 e0 e1 (fun i => if i = 227 then e2 227 + 1 else e2 i) (upd e3 (iv (e2 227)) p0) e4)) (fun E9 S1 => (((if e2 227 = 80 then 1 else 0) = 1 ∧ E9 = "java/lang/IllegalStateException")) ∧ FrS S1 e0 e1 e2 e3 e4) := c_X10_feed l hst D T x0 p0 S mc ms hx0 _ _ <|
  (by
    obtain ⟨h, e, hmc, hms, hp1, hp2, cc, hp3, hp4⟩ := h
    subst e
    obtain ⟨pe, pc, len, hpe, hpc, hlen, g4, g5, g7, hch⟩ := h.2.2.1.1
    have i7 : hI S 227 (e0 50) = nI len := (h.2.2.2.1 227 (by unfold frI; omega)).trans g7
    have n52 : hN S (e0 52) = 80 := h.1.2.1 52 (by omega) (by unfold fxA; omega)
    have e80 : (nI len = (80 : Int32)) = (len = 80) := propext (nI_eq (b := 80) (by omega) (by decide))
    unfold wp_X10_feed
    rw [i7, g7, show (nI len < (80 : Int32)) = (len < 80) from propext (nI_ltI (b := 80) (by omega) (by decide))]
    refine ⟨fun c => ⟨e0 52, h.r6, fun _ => ?_⟩, fun c => ⟨⟨by omega, by omega⟩, ⟨by rw [if_pos (by rw [e80]; omega)], rfl⟩, h⟩⟩
    rw [n52, nz_vp (by omega) (by decide), nI_clamp (n := len) (by omega), hp1]
    refine ⟨c, fun S7 e7 S13 e13 => ?_⟩
    rw [show iv (nI len) = len from nI_clamp (by omega)]
    have hne : e0 50 ≠ e0 52 := h.1.ne (by omega) (by omega) (by omega)
    have i77 : hI S7 227 (e0 50) = nI len := by rw [e7, px_IA]; exact i7
    rw [i77] at e13
    have f7 : frM S S7 (fun c => c = e0 52) := by rw [e7]; exact frM.pA (M := fun c => c = e0 52) frM.rf rfl _ _
    have h7 : FrS S7 e0 e1 e2 (upd e3 len p0) e4 := by
      obtain ⟨hX, hS, hG, hI9, hA9, hB9⟩ := h
      refine ⟨hX.fm (by rw [e7]; exact ext_putA ext_rf _ _ _) (fun i hi j => by rw [e7, px_RA]) (fun i hi => by rw [e7, px_BA]) ?_, fun s hs => ⟨(hS s hs).1, (hS s hs).2.fm (f7.sub (fun c z => ⟨52, by omega, z⟩)) (fun c9 hc => ?_)⟩, ⟨⟨pe, pc, len, hpe, hpc, hlen, g4, g5, g7, fun i hi => ?_⟩, hG.2⟩, fun i hi => by rw [e7, px_IA]; exact hI9 i hi, fun i hi => ?_, hB9.fx f7 (hX.ne (by omega) (by omega) (by omega)) (fun c9 hc z => ?_)⟩
      · exact hX.z8 (fun i h1 h2 => by rw [e7, px_AA, if_neg (fun z => hX.ne (i := i) (j := 52) (by omega) (by omega) (by omega) z.1)])
      · obtain ⟨j, hj, e2'⟩ := hX.sA hs hc
        refine f7 c9 (fun z => hX.ne (i := 5 * s + j) (j := 52) (by omega) (by omega) (by omega) (e2'.symm.trans z)) ?_
        rw [e2']; exact hX.k (by omega)
      · unfold upd
        rw [if_neg (by omega)]
        exact hch i hi
      · rw [e7, px_AA]
        unfold upd
        by_cases g : i = len
        · rw [if_pos ⟨rfl, g⟩, if_pos g]
        · rw [if_neg (fun z => g z.2), if_neg g]; exact hA9 i hi
      · rw [z, hX.1 52 (by omega)] at hc
        exact absurd hc (by decide)
    have h13 : FrS S13 e0 e1 (fun i => if i = 227 then nI len + 1 else e2 i) (upd e3 len p0) e4 := by
      refine h7.ob e13 (fun j _ => rfl) ⟨⟨pe, pc, len + 1, hpe, hpc, by omega, g4, g5, nI_add len 1, fun i hi => ?_⟩, h.2.2.1.2⟩
      unfold upd
      by_cases g : i = len
      · rw [if_pos g]; exact ⟨hp2, cc, hp3, hp4⟩
      · rw [if_neg g]; exact hch i (by omega)
    refine ⟨by rw [if_neg (by rw [e80]; omega)], by rw [e13, putI_s], h13⟩)
abbrev ws_X10_undo : List Cond := Cond.code yX10_undo cX10_undo 1 (some .int) :: W0
abbrev rm_X10_undo : Room := ({ frames := 6, cells := 0, slots := 0, locals := 100 } : Room)
def wp_X10_undo (P : Int32 → HS → Prop) (X : String → HS → Prop) (x0 : Nat) (S : HS) (mc ms : Nat) : Prop := (¬ (hI S 225 x0) = 0 → (∀ S3 : HS, S3 = putI S 225 x0 ((hI S 225 x0) - 1) → (∀ S9 : HS, S9 = putI S3 224 x0 ((((hI S3 224 x0) + 8) - 1) - (((hI S3 224 x0) + 8) - 1) / 8 * 8) → (∃ b15 : Nat, hR S9 220 x0 = some b15 ∧ (hK S9 b15 = 7 → (∃ b18 : Nat, hR S9 223 x0 = some b18 ∧ (hK S9 b18 = 28 → (vp_in (hI S9 224 x0) (hN S9 b18) ∧ (∀ o21 : Option Nat, o21 = hB S9 b18 (Int32.toNatClampNeg (hI S9 224 x0)) → (∀ b, o21 = some b → hK S9 b = 7) → (∃ b22 : Nat, o21 = some b22 ∧ (hK S9 b22 = 7 → (∃ (m24 : (Nat → Prop)) (m25 : Nat → Int32), ((StO S9 b15 ∧ WF m25 ∧ RelSt S9 m24 b22 m25 ∧ (∀ b, stA S9 b15 b → m24 b) ∧ (∀ b, stA S9 b15 b → ¬ stA S9 b22 b)) ∧ (∀ (S27 : HS), ext S9 S27 → (frM S9 S27 (stA S9 b15) ∧ hK S27 = hK S9 ∧ hN S27 = hN S9 ∧ hR S27 = hR S9 ∧ RelSt S27 m24 b15 m25) → (P (hI S27 225 x0) S27))))))))))))))) ∧ ((hI S 225 x0) = 0 → ((1 ≤ mc ∧ 6 ≤ ms) ∧ X "java/lang/IllegalStateException" S))
set_option maxRecDepth 100000 in
set_option maxHeartbeats 4000000 in
theorem t_X10_undo {p : Program} {l : Launch} {e : Env} {s : State} {m : MethodId} {args : Array Value} {below : List Frame} {meth : Method} {c : Code} {D : va_G} {A : Nat → Prop} {T : Nat → ClassId} (C : GC p s m args meth c cX10_undo "FreightRater" (ws_X10_undo) 1 D A (zty T)) (E : GE T A s) (hst : l.stackTraces = false) (htab : ∀ z ∈ c.exceptionTable.toList, False) (hr : meth.sig.returnType = (some .int)) (P : Int32 → HS → Prop) (X : String → HS → Prop) : ∀ (x0 : Nat) (S0 S : HS) (mc ms : Nat) (L : List Nat), S0 = S → wt S → hL S L → (hK S x0 = 11) → wp_X10_undo P X x0 S mc ms → GW p l e { rm_X10_undo with cells := mc, slots := ms } s m args below meth c D A 1 mc ms (vx_MQ below (va_Qi (fun v (u : HS × List Nat) => P v u.1 ∧ CO S0 u) (CE D T A) A) (CXX D T A S0 X) args s mc ms A) (CW T S L) mc ms 0 [(0, .ref x0)] [] := by
  have hW : ∀ {w : Cond}, w ∈ W0 → w.before args s = true := fun h => C.2.2.2.2.1 _ (List.mem_cons_of_mem _ h)
  intro x0 S0 S mc ms L hS0 hw hL hx0 h
  have he : ext S0 S := by rw [hS0]; exact ext_rf
  unfold wp_X10_undo at h
  refine g_aload_n C dX10_undo_0 rfl 0 rfl ?_
  refine gc_getI C iwx_X10 hL hx0 (by decide) (by decide) rfl 5 (by decide) (hW kw_247) rfl rfl rfl dX10_undo_1 ?_
  refine g_if_ne (tgt := 15) C dX10_undo_4 (by decide) (fun z1 => ?_) (fun z1 => ?_)
  · replace h := h.1 z1
    refine g_aload_n C dX10_undo_15 rfl 0 rfl ?_
    refine g_dup C dX10_undo_16 rfl ?_
    refine gc_getI C iwx_X10 hL hx0 (by decide) (by decide) rfl 5 (by decide) (hW kw_247) rfl rfl rfl dX10_undo_17 ?_
    refine g_iconst (v := 1) C dX10_undo_20 (by decide) ?_
    refine g_isub C dX10_undo_21 ?_
    refine gc_putI C iwx_X10 hL hx0 (by decide) (by decide) rfl 5 (by decide) (hW kw_247) rfl tyX10 tyX10_ok nmX10 rfl rfl rfl rfl rfl dX10_undo_22 ?_
    have w2 := wt_putI hw 225 ((hI S 225 x0) - 1) (k_ne hx0 (by decide))
    refine gc_nS (fun S3 eS3 => ?_)
    replace h := h S3 eS3
    have w4 : wt S3 := by rw [eS3]; exact w2
    have w5 : isL S3 L := by rw [eS3]; exact hL
    have w6 : ext S0 S3 := by rw [eS3]; exact he
    have g7 : hK S3 x0 = 11 := by rw [eS3]; exact hx0
    refine g_aload_n C dX10_undo_25 rfl 0 rfl ?_
    refine g_aload_n C dX10_undo_26 rfl 0 rfl ?_
    refine gc_getI C iwx_X10 w5 g7 (by decide) (by decide) rfl 4 (by decide) (hW kw_246) rfl rfl rfl dX10_undo_27 ?_
    refine g_bipush (v := 8) C dX10_undo_30 (by decide) ?_
    refine g_iadd C dX10_undo_32 ?_
    refine g_iconst (v := 1) C dX10_undo_33 (by decide) ?_
    refine g_isub C dX10_undo_34 ?_
    refine g_bipush (v := 8) C dX10_undo_35 (by decide) ?_
    refine g_irem C dX10_undo_37 (by decide) ?_
    refine gc_putI C iwx_X10 w5 g7 (by decide) (by decide) rfl 4 (by decide) (hW kw_246) rfl tyX10 tyX10_ok nmX10 rfl rfl rfl rfl rfl dX10_undo_38 ?_
    have w8 := wt_putI w4 224 ((((hI S3 224 x0) + 8) - 1) - (((hI S3 224 x0) + 8) - 1) / 8 * 8) (k_ne g7 (by decide))
    refine gc_nS (fun S9 eS9 => ?_)
    replace h := h S9 eS9
    have w10 : wt S9 := by rw [eS9]; exact w8
    have w11 : isL S9 L := by rw [eS9]; exact w5
    have w12 : ext S0 S9 := by rw [eS9]; exact w6
    have g13 : hK S9 x0 = 11 := by rw [eS9]; exact g7
    refine g_aload_n C dX10_undo_41 rfl 0 rfl ?_
    refine gc_getR C w10 iwx_X10 w11 g13 (by decide) (by decide) rfl 0 (by decide) (hW kw_242) rfl rfl rfl dX10_undo_42 (fun o14 eo14 ko14 => ?_)
    obtain ⟨b15, hb9, h⟩ := h
    have g16 : hK S9 b15 = 7 := ko14 b15 (eo14.trans hb9)
    replace h := h g16
    refine g_opt (eo14.trans hb9) ?_
    refine g_aload_n C dX10_undo_45 rfl 0 rfl ?_
    refine gc_getR C w10 iwx_X10 w11 g13 (by decide) (by decide) rfl 3 (by decide) (hW kw_245) rfl rfl rfl dX10_undo_46 (fun o17 eo17 ko17 => ?_)
    obtain ⟨b18, hb9, h⟩ := h
    have g19 : hK S9 b18 = 28 := ko17 b18 (eo17.trans hb9)
    replace h := h g19
    refine g_opt (eo17.trans hb9) ?_
    refine g_aload_n C dX10_undo_49 rfl 0 rfl ?_
    refine gc_getI C iwx_X10 w11 g13 (by decide) (by decide) rfl 4 (by decide) (hW kw_246) rfl rfl rfl dX10_undo_50 ?_
    obtain ⟨g20, h⟩ := h
    refine gc_aald C w10 w11 g19 (by decide) rfl g20 dX10_undo_53 (fun o21 eo21 ko21 => ?_)
    replace h := h o21 eo21 ko21
    obtain ⟨b22, rfl, h⟩ := h
    have g23 : hK S9 b22 = 7 := ko21 b22 rfl
    replace h := h g23
    obtain ⟨m24, m25, h⟩ := h
    obtain ⟨g26, h⟩ := h
    refine gc_callvV (host := "") C E w10 w11 g16 (by decide) (by decide) rfl [.ref b22] rfl (k_X6_copyFrom l D T b15 b22 S9 m24 m25 g16 g23 g26) (w0_V 1 C.2.2.2.2.1 kw_289 kw_290 kw_291 kw_2 kw_292 rfl rfl (by decide +kernel) ⟨Nat.le_of_ble_eq_true rfl, Nat.le_of_ble_eq_true rfl⟩) rfl (Nat.le_of_ble_eq_true rfl) (Nat.le_refl _) (Nat.le_refl _) (Nat.zero_le _) (Nat.zero_le _) dX10_undo_54 (fun S27 L28 e29 w30 w31 hp => ?_)
    replace h := h S27 e29 hp
    have g32 := ext_K e29 g13 (by decide)
    have w33 := ext_tr w12 e29
    refine g_aload_n C dX10_undo_57 rfl 0 rfl ?_
    refine gc_getI C iwx_X10 w31 g32 (by decide) (by decide) rfl 5 (by decide) (hW kw_247) rfl rfl rfl dX10_undo_58 ?_
    exact gx_iret C w30 w31 w33 hr dX10_undo_61 h
  · replace h := h.2 z1
    obtain ⟨g34, h⟩ := h
    exact gx_throw (cls := "java/lang/IllegalStateException") (names := ["java/lang/RuntimeException", "java/lang/Exception"]) C E hst hw hL he (Nat.le_refl _) (Nat.le_refl _) (by decide) (by decide) (hW kw_480) (hW kw_17) (th_FreightRater_78 hW E) tv_FreightRater_78 dX10_undo_7 dX10_undo_10 dX10_undo_11 dX10_undo_14 htab (Nat.le_of_ble_eq_true rfl) (Nat.le_of_ble_eq_true rfl) g34.1 g34.2 h
theorem c_X10_undo (l : Launch) (hst : l.stackTraces = false) (D : va_G) (T : Nat → ClassId) (x0 : Nat) (S : HS) (mc ms : Nat) (hx0 : hK S x0 = 11) (P : Int32 → HS → Prop) (X : String → HS → Prop) (h : wp_X10_undo P X x0 S mc ms) : CXi l yX10_undo (ws_X10_undo) rm_X10_undo D T [.ref x0] S mc ms P X := gx_meti (by decide) rfl rfl (Nat.le_of_ble_eq_true rfl) (fun p e s m args below meth c A L C E hnm hr htab hw hL => t_X10_undo C E hst htab hr P X x0 S S mc ms L rfl hw hL hx0 h)
theorem k_X10_undo (l : Launch) (hst : l.stackTraces = false) (D : va_G) (T : Nat → ClassId) (x0 : Nat) (S : HS) (e0 : (Nat → Nat)) (e1 : (Nat → Nat → Int32)) (e2 : (Nat → Int32)) (e3 : (Nat → Int32)) (e4 : (List Int32)) (mc ms : Nat) (hx0 : hK S x0 = 11) (h : FrS S e0 e1 e2 e3 e4 ∧ x0 = e0 50 ∧ 200 ≤ mc ∧ 2000 ≤ ms) : CXi l yX10_undo (ws_X10_undo) rm_X10_undo D T [.ref x0] S mc ms (fun v S1 => ((if e2 225 = 0 then 1 else 0) = 0 ∧ v = e2 225 - 1 ∧ FrS S1 e0 (fun t => if t = 0 then e1 (2 + (iv (e2 224) + 7) % 8) else e1 t) (fun i => if i = 224 then nI ((iv (e2 224) + 7) % 8) else if i = 225 then e2 225 - 1 else e2 i) e3 e4)) (fun E9 S1 => (((if e2 225 = 0 then 1 else 0) = 1 ∧ E9 = "java/lang/IllegalStateException")) ∧ FrS S1 e0 e1 e2 e3 e4) := c_X10_undo l hst D T x0 S mc ms hx0 _ _ <|
  (by
    obtain ⟨h, e, hmc, hms⟩ := h
    subst e
    obtain ⟨pe, pc, len, hpe, hpc, hlen, g4, g5, g7, hch⟩ := h.2.2.1.1
    have i5 : hI S 225 (e0 50) = nI pc := (h.2.2.2.1 225 (by unfold frI; omega)).trans g5
    have ipe : iv (e2 224) = pe := by rw [g4]; exact nI_clamp (by omega)
    unfold wp_X10_undo
    rw [i5, g5, ipe]
    have z0 : (nI pc = (0 : Int32)) = (pc = 0) := nz_eq0 (by omega)
    refine ⟨fun c S3 e3' S9 e9 => ?_, fun c => ⟨⟨by omega, by omega⟩, ⟨by rw [if_pos c], rfl⟩, h⟩⟩
    have c0 : pc ≠ 0 := fun z => c (by rw [z0]; exact z)
    have epc : nI pc - 1 = nI (pc - 1) := sub_k (b := 1) (by omega)
    rw [epc] at e3' ⊢
    have h3 : FrS S3 e0 e1 (fun i => if i = 225 then nI (pc - 1) else e2 i) e3 e4 := h.ob e3' (fun j _ => rfl) ⟨⟨pe, pc - 1, len, hpe, by omega, hlen, g4, rfl, g7, hch⟩, h.2.2.1.2⟩
    rw [(h3.2.2.2.1 224 (by unfold frI; omega)).trans g4, rg_3 pe hpe] at e9
    have hl : (pe + 7) % 8 < 8 := Nat.mod_lt _ (by decide)
    have h9 := h3.ob (g1 := fun i => if i = 224 then nI ((pe + 7) % 8) else if i = 225 then nI (pc - 1) else e2 i) e9 (fun j _ => by
      dsimp only) ⟨⟨(pe + 7) % 8, pc - 1, len, hl, by omega, hlen, rfl, rfl, g7, hch⟩, h.2.2.1.2⟩
    have n51 : hN S9 (e0 51) = 8 := h9.1.2.1 51 (by omega) (by unfold fxA; omega)
    have i94 : hI S9 224 (e0 50) = nI ((pe + 7) % 8) := h9.2.2.2.1 224 (by unfold frI; omega)
    have b51 : hB S9 (e0 51) ((pe + 7) % 8) = some (e0 (5 * (2 + (pe + 7) % 8))) := by
      rw [h9.1.2.2.2.2.2.1 _ hl, show 5 * (2 + (pe + 7) % 8) = 10 + 5 * ((pe + 7) % 8) by omega]
    refine ⟨e0 0, h9.r0, fun _ => ⟨e0 51, h9.r3, fun _ => ?_⟩⟩
    rw [i94, n51, nz_vp (by omega) (by decide), nI_clamp (n := (pe + 7) % 8) (by omega)]
    have hs := h9.2.1 (2 + (pe + 7) % 8) (by omega)
    refine ⟨hl, fun o eo _ => ⟨e0 (5 * (2 + (pe + 7) % 8)), by rw [eo, b51], fun _ => ⟨fxM e0, e1 (2 + (pe + 7) % 8), ⟨h9.1.st (s := 0) (by omega), hs.1.1, hs.2, fun b hb => h9.1.sM (s := 0) (by omega) hb, fun b hb => h9.1.sD (s := 0) (t := 2 + (pe + 7) % 8) (by omega) (by omega) (by omega) hb⟩, fun S27 he27 h27 => ?_⟩⟩⟩
    obtain ⟨f27, k27, n27, r27, R27⟩ := h27
    have h27' : FrS S27 e0 (fun t => if t = 0 then e1 (2 + (pe + 7) % 8) else e1 t) (fun i => if i = 224 then nI ((pe + 7) % 8) else if i = 225 then nI (pc - 1) else e2 i) e3 e4 := h9.st (s := 0) (by omega) he27 f27 (fun i _ j => by rw [r27]) hs.1 R27
    refine ⟨by rw [if_neg c], h27'.2.2.2.1 225 (by unfold frI; omega), h27'⟩)
abbrev ws_X10_saveSnapshot : List Cond := Cond.code yX10_saveSnapshot cX10_saveSnapshot 1 (some .int) :: W0
abbrev rm_X10_saveSnapshot : Room := ({ frames := 1, cells := 0, slots := 0, locals := 22 } : Room)
def wp_X10_saveSnapshot (P : Int32 → HS → Prop) (x0 : Nat) (S : HS) : Prop := ∃ b2 : Nat, hR S 221 x0 = some b2 ∧ (hK S b2 = 7 → (∃ b5 : Nat, hR S 220 x0 = some b5 ∧ (hK S b5 = 7 → (∃ (m7 : (Nat → Prop)) (m8 : Nat → Int32), ((StO S b2 ∧ WF m8 ∧ RelSt S m7 b5 m8 ∧ (∀ b, stA S b2 b → m7 b) ∧ (∀ b, stA S b2 b → ¬ stA S b5 b)) ∧ (∀ (S10 : HS), ext S S10 → (frM S S10 (stA S b2) ∧ hK S10 = hK S ∧ hN S10 = hN S ∧ hR S10 = hR S ∧ RelSt S10 m7 b2 m8) → (∀ S18 : HS, S18 = putI S10 222 x0 1 → (∃ b24 : Nat, hR S18 220 x0 = some b24 ∧ (hK S18 b24 = 7 → (P (hI S18 143 b24) S18))))))))))
set_option maxRecDepth 100000 in
set_option maxHeartbeats 4000000 in
theorem t_X10_saveSnapshot {p : Program} {l : Launch} {e : Env} {s : State} {m : MethodId} {args : Array Value} {below : List Frame} {meth : Method} {c : Code} {D : va_G} {A : Nat → Prop} {T : Nat → ClassId} (C : GC p s m args meth c cX10_saveSnapshot "FreightRater" (ws_X10_saveSnapshot) 1 D A (zty T)) (E : GE T A s) (hr : meth.sig.returnType = (some .int)) (P : Int32 → HS → Prop) : ∀ (x0 : Nat) (S0 S : HS) (L : List Nat), S0 = S → wt S → hL S L → (hK S x0 = 11) → wp_X10_saveSnapshot P x0 S → GW p l e { rm_X10_saveSnapshot with cells := 0, slots := 0 } s m args below meth c D A 1 0 0 (MQ below (va_Qi (fun v (u : HS × List Nat) => P v u.1 ∧ CO S0 u) (CE D T A) A) args s 0 0 A) (CW T S L) 0 0 0 [(0, .ref x0)] [] := by
  have hW : ∀ {w : Cond}, w ∈ W0 → w.before args s = true := fun h => C.2.2.2.2.1 _ (List.mem_cons_of_mem _ h)
  intro x0 S0 S L hS0 hw hL hx0 h
  have he : ext S0 S := by rw [hS0]; exact ext_rf
  unfold wp_X10_saveSnapshot at h
  refine g_aload_n C dX10_saveSnapshot_0 rfl 0 rfl ?_
  refine gc_getR C hw iwx_X10 hL hx0 (by decide) (by decide) rfl 1 (by decide) (hW kw_243) rfl rfl rfl dX10_saveSnapshot_1 (fun o1 eo1 ko1 => ?_)
  obtain ⟨b2, hb9, h⟩ := h
  have g3 : hK S b2 = 7 := ko1 b2 (eo1.trans hb9)
  replace h := h g3
  refine g_opt (eo1.trans hb9) ?_
  refine g_aload_n C dX10_saveSnapshot_4 rfl 0 rfl ?_
  refine gc_getR C hw iwx_X10 hL hx0 (by decide) (by decide) rfl 0 (by decide) (hW kw_242) rfl rfl rfl dX10_saveSnapshot_5 (fun o4 eo4 ko4 => ?_)
  obtain ⟨b5, hb9, h⟩ := h
  have g6 : hK S b5 = 7 := ko4 b5 (eo4.trans hb9)
  replace h := h g6
  refine g_opt (eo4.trans hb9) ?_
  obtain ⟨m7, m8, h⟩ := h
  obtain ⟨g9, h⟩ := h
  refine gc_callvV (host := "") C E hw hL g3 (by decide) (by decide) rfl [.ref b5] rfl (k_X6_copyFrom l D T b2 b5 S m7 m8 g3 g6 g9) (w0_V 1 C.2.2.2.2.1 kw_289 kw_290 kw_291 kw_2 kw_292 rfl rfl (by decide +kernel) ⟨Nat.le_of_ble_eq_true rfl, Nat.le_of_ble_eq_true rfl⟩) rfl (Nat.le_of_ble_eq_true rfl) (Nat.le_refl _) (Nat.le_refl _) (Nat.zero_le _) (Nat.zero_le _) dX10_saveSnapshot_8 (fun S10 L11 e12 w13 w14 hp => ?_)
  replace h := h S10 e12 hp
  have g15 := ext_K e12 hx0 (by decide)
  have w16 := ext_tr he e12
  refine g_aload_n C dX10_saveSnapshot_11 rfl 0 rfl ?_
  refine g_iconst (v := 1) C dX10_saveSnapshot_12 (by decide) ?_
  refine gc_putI C iwx_X10 w14 g15 (by decide) (by decide) rfl 2 (by decide) (hW kw_244) rfl tyX10 tyX10_ok nmX10 rfl rfl rfl (vz_n vz1) (vz_f vz1) dX10_saveSnapshot_13 ?_
  have w17 := wt_putI w13 222 1 (k_ne g15 (by decide))
  refine gc_nS (fun S18 eS18 => ?_)
  replace h := h S18 eS18
  have w19 : wt S18 := by rw [eS18]; exact w17
  have w20 : isL S18 L11 := by rw [eS18]; exact w14
  have w21 : ext S0 S18 := by rw [eS18]; exact w16
  have g22 : hK S18 x0 = 11 := by rw [eS18]; exact g15
  refine g_aload_n C dX10_saveSnapshot_16 rfl 0 rfl ?_
  refine gc_getR C w19 iwx_X10 w20 g22 (by decide) (by decide) rfl 0 (by decide) (hW kw_242) rfl rfl rfl dX10_saveSnapshot_17 (fun o23 eo23 ko23 => ?_)
  obtain ⟨b24, hb9, h⟩ := h
  have g25 : hK S18 b24 = 7 := ko23 b24 (eo23.trans hb9)
  replace h := h g25
  refine g_opt (eo23.trans hb9) ?_
  refine gc_getI C iwx_X6 w20 g25 (by decide) (by decide) rfl 3 (by decide) (hW kw_67) rfl rfl rfl dX10_saveSnapshot_20 ?_
  exact gc_iret C w19 w20 w21 hr dX10_saveSnapshot_23 h
theorem c_X10_saveSnapshot (l : Launch) (D : va_G) (T : Nat → ClassId) (x0 : Nat) (S : HS) (hx0 : hK S x0 = 11) (P : Int32 → HS → Prop) (h : wp_X10_saveSnapshot P x0 S) : CMi l yX10_saveSnapshot (ws_X10_saveSnapshot) rm_X10_saveSnapshot D T [.ref x0] S 0 0 P := gc_meti (by decide) rfl rfl (Nat.le_of_ble_eq_true rfl) (fun p e s m args below meth c A L C E hnm hr hw hL => t_X10_saveSnapshot C E   hr P x0 S S L rfl hw hL hx0 h)
theorem k_X10_saveSnapshot (l : Launch) (D : va_G) (T : Nat → ClassId) (x0 : Nat) (S : HS) (e0 : (Nat → Nat)) (e1 : (Nat → Nat → Int32)) (e2 : (Nat → Int32)) (e3 : (Nat → Int32)) (e4 : (List Int32)) (hx0 : hK S x0 = 11) (h : FrS S e0 e1 e2 e3 e4 ∧ x0 = e0 50) : CMi l yX10_saveSnapshot (ws_X10_saveSnapshot) rm_X10_saveSnapshot D T [.ref x0] S 0 0 (fun v S1 => (v = e1 0 1 ∧ FrS S1 e0 (fun t => if t = 1 then e1 0 else e1 t) (fun i => if i = 222 then 1 else e2 i) e3 e4)) := c_X10_saveSnapshot l D T x0 S hx0 _ <|
  (by
    obtain ⟨h, e⟩ := h
    subst e
    unfold wp_X10_saveSnapshot
    refine ⟨e0 5, h.r1, fun _ => ⟨e0 0, h.r0, fun _ => ⟨fxM e0, e1 0, ⟨h.1.st (s := 1) (by omega), h.now.1, h.now.2, fun b hb => h.1.sM (s := 1) (by omega) hb, fun b hb => h.1.sD (s := 1) (t := 0) (by omega) (by omega) (by omega) hb⟩, fun S10 he10 h10 S18 e18 => ?_⟩⟩⟩
    obtain ⟨f10, k10, n10, r10, R10⟩ := h10
    have h10' : FrS S10 e0 (fun t => if t = 1 then e1 0 else e1 t) e2 e3 e4 := h.st (s := 1) (by omega) he10 f10 (fun i _ j => by rw [r10]) (h.2.1 0 (by omega)).1 R10
    have h18 : FrS S18 e0 (fun t => if t = 1 then e1 0 else e1 t) (fun i => if i = 222 then 1 else e2 i) e3 e4 := h10'.ob e18 (fun j _ => rfl) ⟨h.2.2.1.1, Or.inr rfl⟩
    exact ⟨e0 0, h18.r0, fun _ => ⟨h18.now.2.1.2.2.1, h18⟩⟩)
abbrev ws_X10_restoreSnapshot : List Cond := Cond.code yX10_restoreSnapshot cX10_restoreSnapshot 1 (some .int) :: W0
abbrev rm_X10_restoreSnapshot : Room := ({ frames := 6, cells := 0, slots := 0, locals := 100 } : Room)
def wp_X10_restoreSnapshot (P : Int32 → HS → Prop) (X : String → HS → Prop) (x0 : Nat) (S : HS) (mc ms : Nat) : Prop := (¬ (hI S 222 x0) = 0 → (∃ b3 : Nat, hR S 220 x0 = some b3 ∧ (hK S b3 = 7 → (∃ b6 : Nat, hR S 221 x0 = some b6 ∧ (hK S b6 = 7 → (∃ (m8 : (Nat → Prop)) (m9 : Nat → Int32), ((StO S b3 ∧ WF m9 ∧ RelSt S m8 b6 m9 ∧ (∀ b, stA S b3 b → m8 b) ∧ (∀ b, stA S b3 b → ¬ stA S b6 b)) ∧ (∀ (S11 : HS), ext S S11 → (frM S S11 (stA S b3) ∧ hK S11 = hK S ∧ hN S11 = hN S ∧ hR S11 = hR S ∧ RelSt S11 m8 b3 m9) → (∀ S19 : HS, S19 = putI S11 225 x0 0 → (∃ b25 : Nat, hR S19 220 x0 = some b25 ∧ (hK S19 b25 = 7 → (P (hI S19 143 b25) S19)))))))))))) ∧ ((hI S 222 x0) = 0 → ((1 ≤ mc ∧ 6 ≤ ms) ∧ X "java/lang/IllegalStateException" S))
set_option maxRecDepth 100000 in
set_option maxHeartbeats 4000000 in
theorem t_X10_restoreSnapshot {p : Program} {l : Launch} {e : Env} {s : State} {m : MethodId} {args : Array Value} {below : List Frame} {meth : Method} {c : Code} {D : va_G} {A : Nat → Prop} {T : Nat → ClassId} (C : GC p s m args meth c cX10_restoreSnapshot "FreightRater" (ws_X10_restoreSnapshot) 1 D A (zty T)) (E : GE T A s) (hst : l.stackTraces = false) (htab : ∀ z ∈ c.exceptionTable.toList, False) (hr : meth.sig.returnType = (some .int)) (P : Int32 → HS → Prop) (X : String → HS → Prop) : ∀ (x0 : Nat) (S0 S : HS) (mc ms : Nat) (L : List Nat), S0 = S → wt S → hL S L → (hK S x0 = 11) → wp_X10_restoreSnapshot P X x0 S mc ms → GW p l e { rm_X10_restoreSnapshot with cells := mc, slots := ms } s m args below meth c D A 1 mc ms (vx_MQ below (va_Qi (fun v (u : HS × List Nat) => P v u.1 ∧ CO S0 u) (CE D T A) A) (CXX D T A S0 X) args s mc ms A) (CW T S L) mc ms 0 [(0, .ref x0)] [] := by
  have hW : ∀ {w : Cond}, w ∈ W0 → w.before args s = true := fun h => C.2.2.2.2.1 _ (List.mem_cons_of_mem _ h)
  intro x0 S0 S mc ms L hS0 hw hL hx0 h
  have he : ext S0 S := by rw [hS0]; exact ext_rf
  unfold wp_X10_restoreSnapshot at h
  refine g_aload_n C dX10_restoreSnapshot_0 rfl 0 rfl ?_
  refine gc_getI C iwx_X10 hL hx0 (by decide) (by decide) rfl 2 (by decide) (hW kw_244) rfl rfl rfl dX10_restoreSnapshot_1 ?_
  refine g_if_ne (tgt := 15) C dX10_restoreSnapshot_4 (by decide) (fun z1 => ?_) (fun z1 => ?_)
  · replace h := h.1 z1
    refine g_aload_n C dX10_restoreSnapshot_15 rfl 0 rfl ?_
    refine gc_getR C hw iwx_X10 hL hx0 (by decide) (by decide) rfl 0 (by decide) (hW kw_242) rfl rfl rfl dX10_restoreSnapshot_16 (fun o2 eo2 ko2 => ?_)
    obtain ⟨b3, hb9, h⟩ := h
    have g4 : hK S b3 = 7 := ko2 b3 (eo2.trans hb9)
    replace h := h g4
    refine g_opt (eo2.trans hb9) ?_
    refine g_aload_n C dX10_restoreSnapshot_19 rfl 0 rfl ?_
    refine gc_getR C hw iwx_X10 hL hx0 (by decide) (by decide) rfl 1 (by decide) (hW kw_243) rfl rfl rfl dX10_restoreSnapshot_20 (fun o5 eo5 ko5 => ?_)
    obtain ⟨b6, hb9, h⟩ := h
    have g7 : hK S b6 = 7 := ko5 b6 (eo5.trans hb9)
    replace h := h g7
    refine g_opt (eo5.trans hb9) ?_
    obtain ⟨m8, m9, h⟩ := h
    obtain ⟨g10, h⟩ := h
    refine gc_callvV (host := "") C E hw hL g4 (by decide) (by decide) rfl [.ref b6] rfl (k_X6_copyFrom l D T b3 b6 S m8 m9 g4 g7 g10) (w0_V 1 C.2.2.2.2.1 kw_289 kw_290 kw_291 kw_2 kw_292 rfl rfl (by decide +kernel) ⟨Nat.le_of_ble_eq_true rfl, Nat.le_of_ble_eq_true rfl⟩) rfl (Nat.le_of_ble_eq_true rfl) (Nat.le_refl _) (Nat.le_refl _) (Nat.zero_le _) (Nat.zero_le _) dX10_restoreSnapshot_23 (fun S11 L12 e13 w14 w15 hp => ?_)
    replace h := h S11 e13 hp
    have g16 := ext_K e13 hx0 (by decide)
    have w17 := ext_tr he e13
    refine g_aload_n C dX10_restoreSnapshot_26 rfl 0 rfl ?_
    refine g_iconst (v := 0) C dX10_restoreSnapshot_27 (by decide) ?_
    refine gc_putI C iwx_X10 w15 g16 (by decide) (by decide) rfl 5 (by decide) (hW kw_247) rfl tyX10 tyX10_ok nmX10 rfl rfl rfl rfl rfl dX10_restoreSnapshot_28 ?_
    have w18 := wt_putI w14 225 0 (k_ne g16 (by decide))
    refine gc_nS (fun S19 eS19 => ?_)
    replace h := h S19 eS19
    have w20 : wt S19 := by rw [eS19]; exact w18
    have w21 : isL S19 L12 := by rw [eS19]; exact w15
    have w22 : ext S0 S19 := by rw [eS19]; exact w17
    have g23 : hK S19 x0 = 11 := by rw [eS19]; exact g16
    refine g_aload_n C dX10_restoreSnapshot_31 rfl 0 rfl ?_
    refine gc_getR C w20 iwx_X10 w21 g23 (by decide) (by decide) rfl 0 (by decide) (hW kw_242) rfl rfl rfl dX10_restoreSnapshot_32 (fun o24 eo24 ko24 => ?_)
    obtain ⟨b25, hb9, h⟩ := h
    have g26 : hK S19 b25 = 7 := ko24 b25 (eo24.trans hb9)
    replace h := h g26
    refine g_opt (eo24.trans hb9) ?_
    refine gc_getI C iwx_X6 w21 g26 (by decide) (by decide) rfl 3 (by decide) (hW kw_67) rfl rfl rfl dX10_restoreSnapshot_35 ?_
    exact gx_iret C w20 w21 w22 hr dX10_restoreSnapshot_38 h
  · replace h := h.2 z1
    obtain ⟨g27, h⟩ := h
    exact gx_throw (cls := "java/lang/IllegalStateException") (names := ["java/lang/RuntimeException", "java/lang/Exception"]) C E hst hw hL he (Nat.le_refl _) (Nat.le_refl _) (by decide) (by decide) (hW kw_480) (hW kw_17) (th_FreightRater_78 hW E) tv_FreightRater_78 dX10_restoreSnapshot_7 dX10_restoreSnapshot_10 dX10_restoreSnapshot_11 dX10_restoreSnapshot_14 htab (Nat.le_of_ble_eq_true rfl) (Nat.le_of_ble_eq_true rfl) g27.1 g27.2 h
theorem c_X10_restoreSnapshot (l : Launch) (hst : l.stackTraces = false) (D : va_G) (T : Nat → ClassId) (x0 : Nat) (S : HS) (mc ms : Nat) (hx0 : hK S x0 = 11) (P : Int32 → HS → Prop) (X : String → HS → Prop) (h : wp_X10_restoreSnapshot P X x0 S mc ms) : CXi l yX10_restoreSnapshot (ws_X10_restoreSnapshot) rm_X10_restoreSnapshot D T [.ref x0] S mc ms P X := gx_meti (by decide) rfl rfl (Nat.le_of_ble_eq_true rfl) (fun p e s m args below meth c A L C E hnm hr htab hw hL => t_X10_restoreSnapshot C E hst htab hr P X x0 S S mc ms L rfl hw hL hx0 h)
theorem k_X10_restoreSnapshot (l : Launch) (hst : l.stackTraces = false) (D : va_G) (T : Nat → ClassId) (x0 : Nat) (S : HS) (e0 : (Nat → Nat)) (e1 : (Nat → Nat → Int32)) (e2 : (Nat → Int32)) (e3 : (Nat → Int32)) (e4 : (List Int32)) (mc ms : Nat) (hx0 : hK S x0 = 11) (h : FrS S e0 e1 e2 e3 e4 ∧ x0 = e0 50 ∧ 200 ≤ mc ∧ 2000 ≤ ms) : CXi l yX10_restoreSnapshot (ws_X10_restoreSnapshot) rm_X10_restoreSnapshot D T [.ref x0] S mc ms (fun v S1 => ((if e2 222 = 0 then 1 else 0) = 0 ∧ v = e1 1 1 ∧ FrS S1 e0 (fun t => if t = 0 then e1 1 else e1 t) (fun i => if i = 225 then 0 else e2 i) e3 e4)) (fun E9 S1 => (((if e2 222 = 0 then 1 else 0) = 1 ∧ E9 = "java/lang/IllegalStateException")) ∧ FrS S1 e0 e1 e2 e3 e4) := c_X10_restoreSnapshot l hst D T x0 S mc ms hx0 _ _ <|
  (by
    obtain ⟨h, e, hmc, hms⟩ := h
    subst e
    obtain ⟨pe, pc, len, hpe, hpc, hlen, g4, g5, g7, hch⟩ := h.2.2.1.1
    unfold wp_X10_restoreSnapshot
    rw [h.2.2.2.1 222 (by unfold frI; omega)]
    refine ⟨fun c => ?_, fun c => ⟨⟨by omega, by omega⟩, ⟨by rw [if_pos c], rfl⟩, h⟩⟩
    have hs := h.2.1 1 (by omega)
    refine ⟨e0 0, h.r0, fun _ => ⟨e0 5, h.r1, fun _ => ⟨fxM e0, e1 1, ⟨h.1.st (s := 0) (by omega), hs.1.1, hs.2, fun b hb => h.1.sM (s := 0) (by omega) hb, fun b hb => h.1.sD (s := 0) (t := 1) (by omega) (by omega) (by omega) hb⟩, fun S11 he11 h11 S19 e19 => ?_⟩⟩⟩
    obtain ⟨f11, k11, n11, r11, R11⟩ := h11
    have h11' : FrS S11 e0 (fun t => if t = 0 then e1 1 else e1 t) e2 e3 e4 := h.st (s := 0) (by omega) he11 f11 (fun i _ j => by rw [r11]) hs.1 R11
    have h19 : FrS S19 e0 (fun t => if t = 0 then e1 1 else e1 t) (fun i => if i = 225 then 0 else e2 i) e3 e4 := h11'.ob e19 (fun j _ => rfl) ⟨⟨pe, 0, len, hpe, Nat.zero_le _, hlen, g4, rfl, g7, hch⟩, h.2.2.1.2⟩
    exact ⟨e0 0, h19.r0, fun _ => ⟨by rw [if_neg c], h19.now.2.1.2.2.1, h19⟩⟩)

end S_C9B
