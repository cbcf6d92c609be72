section S_C3B
abbrev ws_X1_findBest : List Cond := Cond.code yX1_findBest cX1_findBest 4 none :: W0
abbrev rm_X1_findBest : Room := ({ frames := 4, cells := 0, slots := 0, locals := 147 } : Room)
def wb_X1_findBest_11 (rec : Nat → Int32 → Int32 → HS → Prop) (K27 : Nat → Int32 → HS → Prop) (P : HS → Prop) (x0 : Nat) (x1 : Int32) (x2 : Int32) (S : HS) : Prop := (x1 < x2 → (K27 x0 x1 S)) ∧ (¬ x1 < x2 → (∃ (m3 : Nat → Nat), ((PlO S x0 m3 ∧ ∃ w : Nat, 0 < w ∧ w < 256 ∧ x2 = nI w) ∧ (∀ (S5 : HS), ext S S5 → (frP S S5 x0 m3 [] [2, 3, 4] ∧ (∀ j, j ≠ iv x2 → hA S5 (m3 2) j = hA S (m3 2) j ∧ hA S5 (m3 3) j = hA S (m3 3) j ∧ hA S5 (m3 4) j = hA S (m3 4) j) ∧ (hA S5 (m3 2) (iv x2), hA S5 (m3 3) (iv x2), hA S5 (m3 4) (iv x2)) = ffX (hA S (m3 1)) (hA S (m3 2)) (hA S (m3 3)) (iv x2)) → (∀ v12 : Int32, v12 = x2 + 1 → (rec x0 x1 v12 S5))))))
def wp_X1_findBest_11 (K27 : Nat → Int32 → HS → Prop) (P : HS → Prop) : Nat → Nat → Int32 → Int32 → HS → Prop
  | 0 => fun _ _ _ _ => False
  | n + 1 => fun x0 x1 x2 S => wb_X1_findBest_11 (wp_X1_findBest_11 K27 P n) K27 P x0 x1 x2 S
set_option maxRecDepth 100000 in
set_option maxHeartbeats 4000000 in
theorem t_X1_findBest_11 {p : Program} {l : Launch} {e : Env} {s : State} {m : MethodId} {args : Array Value} {below : List Frame} {meth : Method} {c : Code} {D : va_G} {A : Nat → Prop} {T : Nat → ClassId} (C : GC p s m args meth c cX1_findBest "FreightRater$Plan" (ws_X1_findBest) 4 D A (zty T)) (E : GE T A s) (hr : meth.sig.returnType = none) (S0 : HS) (K27 : Nat → Int32 → HS → Prop) (P : HS → Prop) (hK27 : ∀ (x0 : Nat) (x1 : Int32) (S : HS) (L : List Nat), wt S → hL S L → ext S0 S → (hK S x0 = 2) → K27 x0 x1 S → GW p l e { rm_X1_findBest with cells := 0, slots := 0 } s m args below meth c D A 4 0 0 (MQ below (va_Qv (fun (u : HS × List Nat) => P u.1 ∧ CO S0 u) (CE D T A) A) args s 0 0 A) (CW T S L) 0 0 27 [(0, .ref x0), (1, .int x1)] []) : ∀ (n : Nat) (x0 : Nat) (x1 : Int32) (x2 : Int32) (S : HS) (L : List Nat), wt S → hL S L → ext S0 S → (hK S x0 = 2) → wp_X1_findBest_11 K27 P n x0 x1 x2 S → GW p l e { rm_X1_findBest with cells := 0, slots := 0 } s m args below meth c D A 4 0 0 (MQ below (va_Qv (fun (u : HS × List Nat) => P u.1 ∧ CO S0 u) (CE D T A) A) args s 0 0 A) (CW T S L) 0 0 11 [(0, .ref x0), (1, .int x1), (2, .int x2)] [] := by
  have hW : ∀ {w : Cond}, w ∈ W0 → w.before args s = true := fun h => C.2.2.2.2.1 _ (List.mem_cons_of_mem _ h)
  intro n
  induction n with
  | zero => intro x0 x1 x2 S L hw hL he hx0 h; exact h.elim
  | succ n ih =>
    intro x0 x1 x2 S L hw hL he hx0 h
    replace h : wb_X1_findBest_11 (wp_X1_findBest_11 K27 P n) K27 P x0 x1 x2 S := h
    unfold wb_X1_findBest_11 at h
    refine g_iload_n C dX1_findBest_11 rfl 2 rfl ?_
    refine g_iload_n C dX1_findBest_12 rfl 1 rfl ?_
    refine g_icmp_gt (tgt := 27) C dX1_findBest_13 (by decide) (fun z2 => ?_) (fun z2 => ?_)
    · replace h := h.1 z2
      refine g_locals [0, 1] rfl ?_
      exact hK27 x0 x1 S L hw hL he hx0 h
    · replace h := h.2 z2
      refine g_aload_n C dX1_findBest_16 rfl 0 rfl ?_
      refine g_iload_n C dX1_findBest_17 rfl 2 rfl ?_
      obtain ⟨m3, h⟩ := h
      obtain ⟨g4, h⟩ := h
      refine gc_callvV (host := "") C E hw hL hx0 (by decide) (by decide) rfl [.int x2] rfl (k_X1_findFirst l D T x0 x2 S m3 hx0 g4) (w0_V 1 C.2.2.2.2.1 kw_1360 kw_1362 ks_43 kw_8 kw_1363 rfl rfl (by decide +kernel) ⟨Nat.le_of_ble_eq_true rfl, Nat.le_of_ble_eq_true rfl⟩) rfl (Nat.le_of_ble_eq_true rfl) (Nat.le_refl _) (Nat.le_refl _) (Nat.zero_le _) (Nat.zero_le _) dX1_findBest_18 (fun S5 L6 e7 w8 w9 hp => ?_)
      replace h := h S5 e7 hp
      have g10 := ext_K e7 hx0 (by decide)
      have w11 := ext_tr he e7
      obtain ⟨v12, ev12⟩ : ∃ y : Int32, y = x2 + 1 := ⟨_, rfl⟩
      replace h := h v12 ev12
      refine g_iinc (v := v12) (lv' := [(2, .int v12), (0, .ref x0), (1, .int x1)]) C dX1_findBest_21 (j := 2) rfl (by rw [ev12]; rfl) (by decide) rfl ?_
      refine g_goto (tgt := 11) C dX1_findBest_24 (by decide) ?_
      refine g_locals [1, 2, 0] rfl ?_
      exact ih x0 x1 v12 S5 L6 w8 w9 w11 g10 h
def wb_X1_findBest_41 (rec : Nat → Int32 → Int32 → HS → Prop) (P : HS → Prop) (x0 : Nat) (x2 : Int32) (x3 : Int32) (S : HS) : Prop := ((hI S 47 x0) ≤ x3 → (P S)) ∧ (¬ (hI S 47 x0) ≤ x3 → (∃ b26 : Nat, hR S 46 x0 = some b26 ∧ (hK S b26 = 22 → (∃ b29 : Nat, hR S 45 x0 = some b29 ∧ (hK S b29 = 22 → (vp_in x2 (hN S b29) ∧ (vp_in x3 (hN S b26) ∧ (∀ S34 : HS, S34 = putA S b26 (Int32.toNatClampNeg x3) (hA S b29 (Int32.toNatClampNeg x2)) → (∃ b40 : Nat, hR S34 46 x0 = some b40 ∧ (hK S34 b40 = 22 → (vp_in x3 (hN S34 b40) ∧ (∀ v43 : Int32, v43 = (x2 - (hA S34 b40 (Int32.toNatClampNeg x3))) → (∀ v44 : Int32, v44 = x3 + 1 → (rec x0 v43 v44 S34))))))))))))))
def wp_X1_findBest_41 (P : HS → Prop) : Nat → Nat → Int32 → Int32 → HS → Prop
  | 0 => fun _ _ _ _ => False
  | n + 1 => fun x0 x2 x3 S => wb_X1_findBest_41 (wp_X1_findBest_41  P n)  P x0 x2 x3 S
set_option maxRecDepth 100000 in
set_option maxHeartbeats 4000000 in
theorem t_X1_findBest_41 {p : Program} {l : Launch} {e : Env} {s : State} {m : MethodId} {args : Array Value} {below : List Frame} {meth : Method} {c : Code} {D : va_G} {A : Nat → Prop} {T : Nat → ClassId} (C : GC p s m args meth c cX1_findBest "FreightRater$Plan" (ws_X1_findBest) 4 D A (zty T)) (E : GE T A s) (hr : meth.sig.returnType = none) (S0 : HS) (P : HS → Prop) : ∀ (n : Nat) (x0 : Nat) (x2 : Int32) (x3 : Int32) (S : HS) (L : List Nat), wt S → hL S L → ext S0 S → (hK S x0 = 2) → wp_X1_findBest_41  P n x0 x2 x3 S → GW p l e { rm_X1_findBest with cells := 0, slots := 0 } s m args below meth c D A 4 0 0 (MQ below (va_Qv (fun (u : HS × List Nat) => P u.1 ∧ CO S0 u) (CE D T A) A) args s 0 0 A) (CW T S L) 0 0 41 [(0, .ref x0), (2, .int x2), (3, .int x3)] [] := by
  have hW : ∀ {w : Cond}, w ∈ W0 → w.before args s = true := fun h => C.2.2.2.2.1 _ (List.mem_cons_of_mem _ h)
  intro n
  induction n with
  | zero => intro x0 x2 x3 S L hw hL he hx0 h; exact h.elim
  | succ n ih =>
    intro x0 x2 x3 S L hw hL he hx0 h
    replace h : wb_X1_findBest_41 (wp_X1_findBest_41  P n)  P x0 x2 x3 S := h
    unfold wb_X1_findBest_41 at h
    refine g_iload_n C dX1_findBest_41 rfl 2 rfl ?_
    refine g_aload_n C dX1_findBest_42 rfl 0 rfl ?_
    refine gc_getI C iwx_X1 hL hx0 (by decide) (by decide) rfl 7 (by decide) (hW kw_223) rfl rfl rfl dX1_findBest_43 ?_
    refine g_icmp_ge (tgt := 76) C dX1_findBest_46 (by decide) (fun z24 => ?_) (fun z24 => ?_)
    · replace h := h.1 z24
      exact gc_vret C hw hL he hr dX1_findBest_76 h
    · replace h := h.2 z24
      refine g_aload_n C dX1_findBest_49 rfl 0 rfl ?_
      refine gc_getR C hw iwx_X1 hL hx0 (by decide) (by decide) rfl 6 (by decide) (hW kw_221) rfl rfl rfl dX1_findBest_50 (fun o25 eo25 ko25 => ?_)
      obtain ⟨b26, hb9, h⟩ := h
      have g27 : hK S b26 = 22 := ko25 b26 (eo25.trans hb9)
      replace h := h g27
      refine g_opt (eo25.trans hb9) ?_
      refine g_iload_n C dX1_findBest_53 rfl 2 rfl ?_
      refine g_aload_n C dX1_findBest_54 rfl 0 rfl ?_
      refine gc_getR C hw iwx_X1 hL hx0 (by decide) (by decide) rfl 5 (by decide) (hW kw_220) rfl rfl rfl dX1_findBest_55 (fun o28 eo28 ko28 => ?_)
      obtain ⟨b29, hb9, h⟩ := h
      have g30 : hK S b29 = 22 := ko28 b29 (eo28.trans hb9)
      replace h := h g30
      refine g_opt (eo28.trans hb9) ?_
      refine g_iload_n C dX1_findBest_58 rfl 1 rfl ?_
      obtain ⟨g31, h⟩ := h
      refine gc_iald C hL g30 g31 dX1_findBest_59 ?_
      obtain ⟨g32, h⟩ := h
      refine gc_iast C hL g27 g32 dX1_findBest_60 ?_
      have w33 := wt_putA hw (Int32.toNatClampNeg x3) (hA S b29 (Int32.toNatClampNeg x2)) (k_ne g27 (by decide))
      refine gc_nS (fun S34 eS34 => ?_)
      replace h := h S34 eS34
      have w35 : wt S34 := by rw [eS34]; exact w33
      have w36 : isL S34 L := by rw [eS34]; exact hL
      have w37 : ext S0 S34 := by rw [eS34]; exact he
      have g38 : hK S34 x0 = 2 := by rw [eS34]; exact hx0
      refine g_iload_n C dX1_findBest_61 rfl 1 rfl ?_
      refine g_aload_n C dX1_findBest_62 rfl 0 rfl ?_
      refine gc_getR C w35 iwx_X1 w36 g38 (by decide) (by decide) rfl 6 (by decide) (hW kw_221) rfl rfl rfl dX1_findBest_63 (fun o39 eo39 ko39 => ?_)
      obtain ⟨b40, hb9, h⟩ := h
      have g41 : hK S34 b40 = 22 := ko39 b40 (eo39.trans hb9)
      replace h := h g41
      refine g_opt (eo39.trans hb9) ?_
      refine g_iload_n C dX1_findBest_66 rfl 2 rfl ?_
      obtain ⟨g42, h⟩ := h
      refine gc_iald C w36 g41 g42 dX1_findBest_67 ?_
      refine g_isub C dX1_findBest_68 ?_
      refine g_topi (fun v43 ev43 => ?_)
      replace h := h v43 ev43
      refine g_istore_n (lv' := [(2, .int v43), (0, .ref x0), (3, .int x3)]) C dX1_findBest_69 rfl (by decide) rfl ?_
      obtain ⟨v44, ev44⟩ : ∃ y : Int32, y = x3 + 1 := ⟨_, rfl⟩
      replace h := h v44 ev44
      refine g_iinc (v := v44) (lv' := [(3, .int v44), (2, .int v43), (0, .ref x0)]) C dX1_findBest_70 (j := 2) rfl (by rw [ev44]; rfl) (by decide) rfl ?_
      refine g_goto (tgt := 41) C dX1_findBest_73 (by decide) ?_
      refine g_locals [2, 1, 0] rfl ?_
      exact ih x0 v43 v44 S34 L w35 w36 w37 g38 h
def wp_X1_findBest (P : HS → Prop) (x0 : Nat) (S : HS) : Prop := ∀ v1 : Int32, v1 = (((1 : Int32) <<< ((hI S 40 x0) &&& 31)) - 1) → (∃ k46 : Nat, wp_X1_findBest_11 (fun (y13_x0 : Nat) (y13_x1 : Int32) (Sy13_ : HS) => (hK Sy13_ y13_x0 = 2) → (∃ b15 : Nat, hR Sy13_ 44 y13_x0 = some b15 ∧ (hK Sy13_ b15 = 22 → (vp_in y13_x1 (hN Sy13_ b15) ∧ (∀ S19 : HS, S19 = putI Sy13_ 47 y13_x0 (hA Sy13_ b15 (Int32.toNatClampNeg y13_x1)) → (∃ k45 : Nat, wp_X1_findBest_41  P k45 y13_x0 y13_x1 0 S19)))))) P k46 x0 v1 1 S)
set_option maxRecDepth 100000 in
set_option maxHeartbeats 4000000 in
theorem t_X1_findBest {p : Program} {l : Launch} {e : Env} {s : State} {m : MethodId} {args : Array Value} {below : List Frame} {meth : Method} {c : Code} {D : va_G} {A : Nat → Prop} {T : Nat → ClassId} (C : GC p s m args meth c cX1_findBest "FreightRater$Plan" (ws_X1_findBest) 4 D A (zty T)) (E : GE T A s) (hr : meth.sig.returnType = none) (P : HS → Prop) : ∀ (x0 : Nat) (S0 S : HS) (L : List Nat), S0 = S → wt S → hL S L → (hK S x0 = 2) → wp_X1_findBest P x0 S → GW p l e { rm_X1_findBest with cells := 0, slots := 0 } s m args below meth c D A 4 0 0 (MQ below (va_Qv (fun (u : HS × List Nat) => P u.1 ∧ CO S0 u) (CE D T A) A) args s 0 0 A) (CW T S L) 0 0 0 [(0, .ref x0)] [] := by
  have hW : ∀ {w : Cond}, w ∈ W0 → w.before args s = true := fun h => C.2.2.2.2.1 _ (List.mem_cons_of_mem _ h)
  intro x0 S0 S L hS0 hw hL hx0 h
  have he : ext S0 S := by rw [hS0]; exact ext_rf
  unfold wp_X1_findBest at h
  refine g_iconst (v := 1) C dX1_findBest_0 (by decide) ?_
  refine g_aload_n C dX1_findBest_1 rfl 0 rfl ?_
  refine gc_getI C iwx_X1 hL hx0 (by decide) (by decide) rfl 0 (by decide) (hW kw_213) rfl rfl rfl dX1_findBest_2 ?_
  refine g_ishl C dX1_findBest_5 ?_
  refine g_iconst (v := 1) C dX1_findBest_6 (by decide) ?_
  refine g_isub C dX1_findBest_7 ?_
  refine g_topi (fun v1 ev1 => ?_)
  replace h := h v1 ev1
  refine g_istore_n (lv' := [(1, .int v1), (0, .ref x0)]) C dX1_findBest_8 rfl (by decide) rfl ?_
  refine g_iconst (v := 1) C dX1_findBest_9 (by decide) ?_
  refine g_istore_n (lv' := [(2, .int 1), (1, .int v1), (0, .ref x0)]) C dX1_findBest_10 rfl (by decide) rfl ?_
  refine g_locals [2, 1, 0] rfl ?_
  obtain ⟨k46, h⟩ := h
  refine t_X1_findBest_11 C E hr S0 _ P ?_ k46 x0 v1 1 S L hw hL he hx0 h
  · intro y13_x0 y13_x1 Sy13_ Ly13_ hwy13_ hLy13_ hey13_ hy13_x0 h
    replace h := h hy13_x0
    refine g_aload_n C dX1_findBest_27 rfl 0 rfl ?_
    refine g_aload_n C dX1_findBest_28 rfl 0 rfl ?_
    refine gc_getR C hwy13_ iwx_X1 hLy13_ hy13_x0 (by decide) (by decide) rfl 4 (by decide) (hW kw_219) rfl rfl rfl dX1_findBest_29 (fun o14 eo14 ko14 => ?_)
    obtain ⟨b15, hb9, h⟩ := h
    have g16 : hK Sy13_ b15 = 22 := ko14 b15 (eo14.trans hb9)
    replace h := h g16
    refine g_opt (eo14.trans hb9) ?_
    refine g_iload_n C dX1_findBest_32 rfl 1 rfl ?_
    obtain ⟨g17, h⟩ := h
    refine gc_iald C hLy13_ g16 g17 dX1_findBest_33 ?_
    refine gc_putI C iwx_X1 hLy13_ hy13_x0 (by decide) (by decide) rfl 7 (by decide) (hW kw_223) rfl tyX1 tyX1_ok nmX1 rfl rfl rfl rfl rfl dX1_findBest_34 ?_
    have w18 := wt_putI hwy13_ 47 (hA Sy13_ b15 (Int32.toNatClampNeg y13_x1)) (k_ne hy13_x0 (by decide))
    refine gc_nS (fun S19 eS19 => ?_)
    replace h := h S19 eS19
    have w20 : wt S19 := by rw [eS19]; exact w18
    have w21 : isL S19 Ly13_ := by rw [eS19]; exact hLy13_
    have w22 : ext S0 S19 := by rw [eS19]; exact hey13_
    have g23 : hK S19 y13_x0 = 2 := by rw [eS19]; exact hy13_x0
    refine g_iload_n C dX1_findBest_37 rfl 1 rfl ?_
    refine g_istore_n (lv' := [(2, .int y13_x1), (0, .ref y13_x0), (1, .int y13_x1)]) C dX1_findBest_38 rfl (by decide) rfl ?_
    refine g_iconst (v := 0) C dX1_findBest_39 (by decide) ?_
    refine g_istore_n (lv' := [(3, .int 0), (2, .int y13_x1), (0, .ref y13_x0), (1, .int y13_x1)]) C dX1_findBest_40 rfl (by decide) rfl ?_
    refine g_locals [2, 1, 0] rfl ?_
    obtain ⟨k45, h⟩ := h
    refine t_X1_findBest_41 C E hr S0  P  k45 y13_x0 y13_x1 0 S19 Ly13_ w20 w21 w22 g23 h
theorem c_X1_findBest (l : Launch) (D : va_G) (T : Nat → ClassId) (x0 : Nat) (S : HS) (hx0 : hK S x0 = 2) (P : HS → Prop) (h : wp_X1_findBest P x0 S) : CMv l yX1_findBest (ws_X1_findBest) rm_X1_findBest D T [.ref x0] S 0 0 P := gc_metv (by decide) rfl rfl (Nat.le_of_ble_eq_true rfl) (fun p e s m args below meth c A L C E hnm hr hw hL => t_X1_findBest C E   hr P x0 S S L rfl hw hL hx0 h)
def roW (S : HS) (a : Nat → Nat) : T3 := (hA S (a 2), hA S (a 3), hA S (a 4))
def fbS (T : Nat → Int32) (w : Nat) (t : T3) : T3 := (va_up t.1 w (ffX T t.1 t.2.1 w).1, va_up t.2.1 w (ffX T t.1 t.2.1 w).2.1, va_up t.2.2 w (ffX T t.1 t.2.1 w).2.2)
/-- the tables of the parts w, w + 1 .. -/
def fbK (T : Nat → Int32) : Nat → Nat → T3 → T3
  | 0, _, t => t
  | k + 1, w, t => fbK T k (w + 1) (fbS T w t)
/-- the groups as the table of first groups gives them -/
def chn (F : Nat → Int32) : Nat → List Nat → Prop
  | _, [] => True
  | r, g :: l => r < 256 ∧ F r = nI g ∧ g ≤ r ∧ chn F (r - g) l
theorem up_of {f g : Nat → Int32} {w : Nat} {v : Int32} (h : ∀ j, j ≠ w → g j = f j) (hv : g w = v) : g = va_up f w v := by
  funext j
  by_cases e : j = w
  · subst e; rw [va_up_self]; exact hv
  · rw [va_up_ne _ _ e]; exact h j e
theorem rl_fb {K : Nat → Int32 → HS → Prop} {P : HS → Prop} {S0 : HS} {x n : Nat} {a : Nat → Nat} {R : T3} (hO : PlO S0 x a) (hn : n ≤ 256) (hK : ∀ S1, frP S0 S1 x a [] [2, 3, 4] → roW S1 a = R → K x (nI (n - 1)) S1) : ∀ (m w fuel : Nat) (S : HS), w + m = n → 0 < w → m < fuel → frP S0 S x a [] [2, 3, 4] → fbK (hA S0 (a 1)) m w (roW S a) = R → wp_X1_findBest_11 K P fuel x (nI (n - 1)) (nI w) S := by
  intro m
  induction m with
  | zero =>
    intro w fuel S hw h0 hf hF hR
    obtain ⟨f, rfl⟩ : ∃ f, fuel = f + 1 := ⟨fuel - 1, by omega⟩; rw [wp_X1_findBest_11]; unfold wb_X1_findBest_11; dsimp only
    rw [nI_ltI (by omega) (by omega)]
    exact ⟨fun _ => hK S hF hR, fun z9 => absurd (by omega) z9⟩
  | succ m ih =>
    intro w fuel S hw h0 hf hF hR
    have tT : hA S (a 1) = hA S0 (a 1) := hF.2.2.2.2.2 _ (fun j hj => hO.ne (by omega) (by
      simp only [List.mem_cons, List.not_mem_nil, or_false] at hj; omega) (by
      simp only [List.mem_cons, List.not_mem_nil, or_false] at hj; omega))
    obtain ⟨f, rfl⟩ : ∃ f, fuel = f + 1 := ⟨fuel - 1, by omega⟩; rw [wp_X1_findBest_11]; unfold wb_X1_findBest_11; dsimp only
    rw [nI_ltI (by omega) (by omega), nI_1]
    refine ⟨fun z9 => absurd z9 (by omega), fun _ => ⟨a, ⟨hO.fr hF, w, h0, by omega, rfl⟩, fun S3 _ h3 v10 e10 => ?_⟩⟩
    subst e10
    rw [show iv (nI w) = w from nI_clamp (by omega), tT] at h3
    obtain ⟨F3, c3, x3⟩ := h3
    refine ih (w + 1) f S3 (by omega) (by omega) (by omega) (hF.tr F3 (fun _ h => h) (fun _ h => h) (fun _ h => h) (fun _ h => h)) ?_
    rw [← hR, fbK]
    congr 1
    unfold fbS roW
    rw [up_of (fun j hj => (c3 j hj).1) (congrArg (fun z : X3 => z.1) x3), up_of (fun j hj => (c3 j hj).2.1) (congrArg (fun z : X3 => z.2.1) x3), up_of (fun j hj => (c3 j hj).2.2) (congrArg (fun z : X3 => z.2.2) x3)]
theorem rl_fg {P : HS → Prop} {S0 : HS} {x : Nat} {a : Nat → Nat} {F : Nat → Int32} {G : List Nat} (hO : PlO S0 x a) (h8 : G.length ≤ 8) (h4 : hA S0 (a 4) = F) (hP : ∀ S1, frP S0 S1 x a [] [5] → PlP S1 x a G → P S1) (h47 : hI S0 47 x = nI G.length) : ∀ (m i fuel rest : Nat) (S : HS), i + m = G.length → m < fuel → frP S0 S x a [] [5] → (∀ j, j < i → hA S (a 5) j = nI (gl G j) ∧ gl G j < 256) → chn F rest (G.drop i) → wp_X1_findBest_41 P fuel x (nI rest) (nI i) S := by
  intro m
  induction m with
  | zero =>
    intro i fuel rest S hi hf hF hh hc
    have i47 : hI S 47 x = nI G.length := (hF.2.2.2.2.1 47 x (Or.inr (by decide))).trans h47
    obtain ⟨f, rfl⟩ : ∃ f, fuel = f + 1 := ⟨fuel - 1, by omega⟩; rw [wp_X1_findBest_41]; unfold wb_X1_findBest_41; dsimp only
    rw [i47, nI_leI (by omega) (by omega)]
    exact ⟨fun _ => hP S hF ⟨i47, h8, fun j hj => hh j (by omega)⟩, fun z9 => absurd (by omega) z9⟩
  | succ m ih =>
    intro i fuel rest S hi hf hF hh hc
    have i47 : hI S 47 x = nI G.length := (hF.2.2.2.2.1 47 x (Or.inr (by decide))).trans h47
    have tF : hA S (a 4) = F := (hF.2.2.2.2.2 _ (fun j hj => hO.ne (by omega) (by
      simp only [List.mem_cons, List.not_mem_nil, or_false] at hj; omega) (by
      simp only [List.mem_cons, List.not_mem_nil, or_false] at hj; omega))).trans h4
    have hO1 := hO.fr hF
    rw [gl_d hi, chn] at hc
    obtain ⟨c1, c2, c3, c4⟩ := hc
    obtain ⟨f, rfl⟩ : ∃ f, fuel = f + 1 := ⟨fuel - 1, by omega⟩; rw [wp_X1_findBest_41]; unfold wb_X1_findBest_41; dsimp only
    rw [i47, nI_leI (by omega) (by omega), nI_1]
    refine ⟨fun z9 => absurd z9 (by omega), fun _ => ⟨a 5, hO1.pts, fun _ => ⟨a 4, hO1.bf, fun _ => ?_⟩⟩⟩
    rw [hO1.n (show 4 < 5 by omega), hO1.n5, nz_vp (by omega) (by decide), nz_vp (by omega) (by decide), nI_clamp (n := i) (by omega), nI_clamp (n := rest) (by omega), tF, c2]
    refine ⟨c1, by omega, fun S32 e32 => ?_⟩
    have F32 : frP S0 S32 x a [] [5] := by rw [e32]; exact hF.A 5 _ _ (by decide)
    have hO2 := hO.fr F32
    refine ⟨a 5, hO2.pts, fun _ => ?_⟩
    rw [hO2.n5, nz_vp (by omega) (by decide)]
    refine ⟨by omega, fun v41 e41 v42 e42 => ?_⟩
    rw [e32, putA_s, sub_k c3] at e41
    subst e41 e42
    refine ih (i + 1) f (rest - gl G i) S32 (by omega) (by omega) F32 (fun j hj => ?_) c4
    by_cases e : j = i
    · subst e
      rw [e32, putA_s]
      exact ⟨rfl, by omega⟩
    · rw [e32, putA_n _ _ e]
      exact hh j (by omega)
theorem fb_0 {T : Nat → Int32} : ∀ (k w : Nat) (t : T3), 0 < w → (fbK T k w t).1 0 = t.1 0 ∧ (fbK T k w t).2.1 0 = t.2.1 0 := by
  intro k
  induction k with
  | zero => intro w t _; exact ⟨rfl, rfl⟩
  | succ k ih =>
    intro w t hw
    rw [fbK]
    obtain ⟨g1, g2⟩ := ih (w + 1) (fbS T w t) (by omega)
    refine ⟨g1.trans ?_, g2.trans ?_⟩
    · unfold fbS; exact va_up_ne _ _ (by omega)
    · unfold fbS; exact va_up_ne _ _ (by omega)
theorem k_X1_findBest (l : Launch) (D : va_G) (T : Nat → ClassId) (x0 : Nat) (S : HS) (e0 : Nat → Nat) (e1 : Nat) (e2 : List Nat) (hx0 : hK S x0 = 2) (h : PlO S x0 e0 ∧ hI S 40 x0 = nI e1 ∧ e1 ≤ 8 ∧ e2.length ≤ 8 ∧ (fbK (hA S (e0 1)) (2 ^ e1 - 1) 1 (roW S e0)).2.1 (2 ^ e1 - 1) = nI e2.length ∧ chn (fbK (hA S (e0 1)) (2 ^ e1 - 1) 1 (roW S e0)).2.2 (2 ^ e1 - 1) e2) : CMv l yX1_findBest (ws_X1_findBest) rm_X1_findBest D T [.ref x0] S 0 0 (fun S1 => (frP S S1 x0 e0 [47] [2, 3, 4, 5] ∧ PlP S1 x0 e0 e2 ∧ hA S1 (e0 2) 0 = hA S (e0 2) 0 ∧ hA S1 (e0 3) 0 = hA S (e0 3) 0)) := c_X1_findBest l D T x0 S hx0 _ <|
  (by
    obtain ⟨hO, h40, hk, h8, hC, hch⟩ := h
    have p8 : 2 ^ e1 ≤ 256 := Nat.pow_le_pow_right (n := 2) (by decide) hk
    have p0 : 0 < 2 ^ e1 := Nat.two_pow_pos _
    unfold wp_X1_findBest
    intro v1 e1'
    rw [h40, sh1 (by omega), nI_p1 p0] at e1'
    subst e1'
    refine ⟨300, rl_fb hO p8 (fun S1 F1 R1 => ?_) (2 ^ e1 - 1) 1 300 S (by omega) (by omega) (by omega) frP.rf rfl⟩
    intro _
    have hO1 := hO.fr F1
    have z0 := fb_0 (T := hA S (e0 1)) (2 ^ e1 - 1) 1 (roW S e0) (by omega)
    rw [← R1] at hC hch z0
    refine ⟨e0 3, hO1.bc, fun _ => ?_⟩
    rw [hO1.n (show 3 < 5 by omega), nz_vp (by omega) (by decide), nI_clamp (n := 2 ^ e1 - 1) (by omega), show hA S1 (e0 3) (2 ^ e1 - 1) = nI e2.length from hC]
    refine ⟨by omega, fun S17 e17 => ⟨20, ?_⟩⟩
    have F17 : frP S1 S17 x0 e0 [47] [] := by rw [e17]; exact frP.rf.I 47 _ (by decide)
    have i47 : hI S17 47 x0 = nI e2.length := by rw [e17]; exact putI_s _ _ _ _
    have j4 : hA S17 (e0 4) = hA S1 (e0 4) := by rw [e17]; rfl
    have k5 : ∀ S9 i, frP S17 S9 x0 e0 [] [5] → i < 5 → hA S9 (e0 i) = hA S17 (e0 i) := fun S9 i F9 hi => F9.2.2.2.2.2 _ (fun j hj => by
      simp only [List.mem_cons, List.not_mem_nil, or_false] at hj
      subst hj
      exact hO.ne (by omega) (by omega) (by omega))
    exact rl_fg (hO1.fr F17) h8 j4 (fun S9 F9 P9 => ⟨(F1.tr F17 (I := [47]) (J := [2, 3, 4, 5]) (by decide) (by decide) (by decide) (by decide)).tr F9 (by decide) (by decide) (by decide) (by decide), P9, by rw [k5 S9 2 F9 (by omega), e17]; exact z0.1, by rw [k5 S9 3 F9 (by omega), e17]; exact z0.2⟩) i47 e2.length 0 20 (2 ^ e1 - 1) S17 (by omega) (by omega) frP.rf (fun j hj => absurd hj (Nat.not_lt_zero _)) hch)

end S_C3B
