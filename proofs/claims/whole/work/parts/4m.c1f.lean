section S_C1F
abbrev ws_X2_gather : List Cond := Cond.code yX2_gather cX2_gather 4 none :: W0
abbrev rm_X2_gather : Room := ({ frames := 1, cells := 0, slots := 0, locals := 21 } : Room)
def wb_X2_gather_7 (rec : Nat → Nat → Int32 → Int32 → HS → Prop) (P : HS → Prop) (x0 : Nat) (x1 : Nat) (x2 : Int32) (x3 : Int32) (S : HS) : Prop := ((hI S 143 x1) ≤ x3 → (P S)) ∧ (¬ (hI S 143 x1) ≤ x3 → (((hasF x2 x3) = 0 → (∀ v14 : Int32, v14 = x3 + 1 → (rec x0 x1 x2 v14 S))) ∧ (¬ (hasF x2 x3) = 0 → (∃ b16 : Nat, hR S 61 x0 = some b16 ∧ (hK S b16 = 27 → (∃ b19 : Nat, hR S 142 x1 = some b19 ∧ (hK S b19 = 27 → (vp_in x3 (hN S b19) ∧ (∀ o22 : Option Nat, o22 = hB S b19 (Int32.toNatClampNeg x3) → (∀ b, o22 = some b → hK S b = 6) → (vp_in (hI S 60 x0) (hN S b16) ∧ (∀ S25 : HS, S25 = putB S b16 (Int32.toNatClampNeg (hI S 60 x0)) o22 → (∃ b32 : Nat, hR S25 62 x0 = some b32 ∧ (hK S25 b32 = 22 → (vp_in (hI S25 60 x0) (hN S25 b32) ∧ (∀ S36 : HS, S36 = putA S25 b32 (Int32.toNatClampNeg (hI S25 60 x0)) x3 → (∀ S43 : HS, S43 = putI S36 60 x0 ((hI S36 60 x0) + 1) → (∀ v49 : Int32, v49 = x3 + 1 → (rec x0 x1 x2 v49 S43))))))))))))))))))
def wp_X2_gather_7 (P : HS → Prop) : Nat → Nat → Nat → Int32 → Int32 → HS → Prop
  | 0 => fun _ _ _ _ _ => False
  | n + 1 => fun x0 x1 x2 x3 S => wb_X2_gather_7 (wp_X2_gather_7  P n)  P x0 x1 x2 x3 S
set_option maxRecDepth 100000 in
set_option maxHeartbeats 4000000 in
theorem t_X2_gather_7 {p : Program} {l : Launch} {e : Env} {s : State} {m : MethodId} {args : Array Value} {below : List Frame} {meth : Method} {c : Code} {D : va_G} {A : Nat → Prop} {T : Nat → ClassId} (C : GC p s m args meth c cX2_gather "FreightRater$Rating" (ws_X2_gather) 4 D A (zty T)) (E : GE T A s) (hr : meth.sig.returnType = none) (S0 : HS) (P : HS → Prop) : ∀ (n : Nat) (x0 : Nat) (x1 : Nat) (x2 : Int32) (x3 : Int32) (S : HS) (L : List Nat), wt S → hL S L → ext S0 S → (hK S x0 = 3) → (hK S x1 = 7) → wp_X2_gather_7  P n x0 x1 x2 x3 S → GW p l e { rm_X2_gather with cells := 0, slots := 0 } s m args below meth c D A 4 0 0 (MQ below (va_Qv (fun (u : HS × List Nat) => P u.1 ∧ CO S0 u) (CE D T A) A) args s 0 0 A) (CW T S L) 0 0 7 [(0, .ref x0), (1, .ref x1), (2, .int x2), (3, .int x3)] [] := by
  have hW : ∀ {w : Cond}, w ∈ W0 → w.before args s = true := fun h => C.2.2.2.2.1 _ (List.mem_cons_of_mem _ h)
  intro n
  induction n with
  | zero => intro x0 x1 x2 x3 S L hw hL he hx0 hx1 h; exact h.elim
  | succ n ih =>
    intro x0 x1 x2 x3 S L hw hL he hx0 hx1 h
    replace h : wb_X2_gather_7 (wp_X2_gather_7  P n)  P x0 x1 x2 x3 S := h
    unfold wb_X2_gather_7 at h
    refine g_iload_n C dX2_gather_7 rfl 3 rfl ?_
    refine g_aload_n C dX2_gather_8 rfl 1 rfl ?_
    refine gc_getI C iwx_X6 hL hx1 (by decide) (by decide) rfl 3 (by decide) (hW kw_66) rfl rfl rfl dX2_gather_9 ?_
    refine g_icmp_ge (tgt := 64) C dX2_gather_12 (by decide) (fun z8 => ?_) (fun z8 => ?_)
    · replace h := h.1 z8
      exact gc_vret C hw hL he hr dX2_gather_64 h
    · replace h := h.2 z8
      refine g_iload_n C dX2_gather_15 rfl 2 rfl ?_
      refine g_iload_n C dX2_gather_16 rfl 3 rfl ?_
      refine gc_calliSN (host := "FreightRater") C E hw hL [.int x2, .int x3] rfl (k_X10_isIn l D T x2 x3 S ) (w0_SN 2 E C.2.2.2.2.1 (by decide) kw_1204 kw_1 kw_1205 rfl rfl (by decide +kernel) ⟨Nat.le_of_ble_eq_true rfl, Nat.le_of_ble_eq_true rfl⟩) rfl (Nat.le_of_ble_eq_true rfl) (Nat.le_refl _) (Nat.le_refl _) (Nat.zero_le _) (Nat.zero_le _) dX2_gather_17 (fun v9 S9 L9 he9 hw9 hL9 hp => ?_)
      obtain ⟨hv9, hs9⟩ := hp
      replace hs9 := hs9.symm
      subst hs9
      replace hv9 := hv9.symm
      subst hv9
      have w12 := hL9
      refine g_if_eq (tgt := 58) C dX2_gather_20 (by decide) (fun z13 => ?_) (fun z13 => ?_)
      · replace h := h.1 z13
        obtain ⟨v14, ev14⟩ : ∃ y : Int32, y = x3 + 1 := ⟨_, rfl⟩
        replace h := h v14 ev14
        refine g_iinc (v := v14) (lv' := [(3, .int v14), (0, .ref x0), (1, .ref x1), (2, .int x2)]) C dX2_gather_58 (j := 3) rfl (by rw [ev14]; rfl) (by decide) rfl ?_
        refine g_goto (tgt := 7) C dX2_gather_61 (by decide) ?_
        refine g_locals [1, 2, 3, 0] rfl ?_
        exact ih x0 x1 x2 v14 S L9 hw w12 he hx0 hx1 h
      · replace h := h.2 z13
        refine g_aload_n C dX2_gather_23 rfl 0 rfl ?_
        refine gc_getR C hw iwx_X2 w12 hx0 (by decide) (by decide) rfl 1 (by decide) (hW kw_135) rfl rfl rfl dX2_gather_24 (fun o15 eo15 ko15 => ?_)
        obtain ⟨b16, hb9, h⟩ := h
        have g17 : hK S b16 = 27 := ko15 b16 (eo15.trans hb9)
        replace h := h g17
        refine g_opt (eo15.trans hb9) ?_
        refine g_aload_n C dX2_gather_27 rfl 0 rfl ?_
        refine gc_getI C iwx_X2 w12 hx0 (by decide) (by decide) rfl 0 (by decide) (hW kw_134) rfl rfl rfl dX2_gather_28 ?_
        refine g_aload_n C dX2_gather_31 rfl 1 rfl ?_
        refine gc_getR C hw iwx_X6 w12 hx1 (by decide) (by decide) rfl 2 (by decide) (hW kw_63) rfl rfl rfl dX2_gather_32 (fun o18 eo18 ko18 => ?_)
        obtain ⟨b19, hb9, h⟩ := h
        have g20 : hK S b19 = 27 := ko18 b19 (eo18.trans hb9)
        replace h := h g20
        refine g_opt (eo18.trans hb9) ?_
        refine g_iload_n C dX2_gather_35 rfl 3 rfl ?_
        obtain ⟨g21, h⟩ := h
        refine gc_aald C hw w12 g20 (by decide) rfl g21 dX2_gather_36 (fun o22 eo22 ko22 => ?_)
        replace h := h o22 eo22 ko22
        obtain ⟨g23, h⟩ := h
        refine gc_aastq C w12 g17 (by decide) rfl ko22 (by decide) (by decide) rfl g23 dX2_gather_37 ?_
        have w24 := wt_putB hw (Int32.toNatClampNeg (hI S 60 x0)) o22 (k_ne g17 (by decide)) (fun b hb => by rw [show hK S b16 = 27 from g17]; exact ko22 b hb)
        refine gc_nS (fun S25 eS25 => ?_)
        replace h := h S25 eS25
        have w26 : wt S25 := by rw [eS25]; exact w24
        have w27 : isL S25 L9 := by rw [eS25]; exact w12
        have w28 : ext S0 S25 := by rw [eS25]; exact he
        have g29 : hK S25 x0 = 3 := by rw [eS25]; exact hx0
        have g30 : hK S25 x1 = 7 := by rw [eS25]; exact hx1
        refine g_aload_n C dX2_gather_38 rfl 0 rfl ?_
        refine gc_getR C w26 iwx_X2 w27 g29 (by decide) (by decide) rfl 2 (by decide) (hW kw_136) rfl rfl rfl dX2_gather_39 (fun o31 eo31 ko31 => ?_)
        obtain ⟨b32, hb9, h⟩ := h
        have g33 : hK S25 b32 = 22 := ko31 b32 (eo31.trans hb9)
        replace h := h g33
        refine g_opt (eo31.trans hb9) ?_
        refine g_aload_n C dX2_gather_42 rfl 0 rfl ?_
        refine gc_getI C iwx_X2 w27 g29 (by decide) (by decide) rfl 0 (by decide) (hW kw_134) rfl rfl rfl dX2_gather_43 ?_
        refine g_iload_n C dX2_gather_46 rfl 3 rfl ?_
        obtain ⟨g34, h⟩ := h
        refine gc_iast C w27 g33 g34 dX2_gather_47 ?_
        have w35 := wt_putA w26 (Int32.toNatClampNeg (hI S25 60 x0)) x3 (k_ne g33 (by decide))
        refine gc_nS (fun S36 eS36 => ?_)
        replace h := h S36 eS36
        have w37 : wt S36 := by rw [eS36]; exact w35
        have w38 : isL S36 L9 := by rw [eS36]; exact w27
        have w39 : ext S0 S36 := by rw [eS36]; exact w28
        have g40 : hK S36 x0 = 3 := by rw [eS36]; exact g29
        have g41 : hK S36 x1 = 7 := by rw [eS36]; exact g30
        refine g_aload_n C dX2_gather_48 rfl 0 rfl ?_
        refine g_dup C dX2_gather_49 rfl ?_
        refine gc_getI C iwx_X2 w38 g40 (by decide) (by decide) rfl 0 (by decide) (hW kw_134) rfl rfl rfl dX2_gather_50 ?_
        refine g_iconst (v := 1) C dX2_gather_53 (by decide) ?_
        refine g_iadd C dX2_gather_54 ?_
        refine gc_putI C iwx_X2 w38 g40 (by decide) (by decide) rfl 0 (by decide) (hW kw_134) rfl tyX2 tyX2_ok nmX2 rfl rfl rfl rfl rfl dX2_gather_55 ?_
        have w42 := wt_putI w37 60 ((hI S36 60 x0) + 1) (k_ne g40 (by decide))
        refine gc_nS (fun S43 eS43 => ?_)
        replace h := h S43 eS43
        have w44 : wt S43 := by rw [eS43]; exact w42
        have w45 : isL S43 L9 := by rw [eS43]; exact w38
        have w46 : ext S0 S43 := by rw [eS43]; exact w39
        have g47 : hK S43 x0 = 3 := by rw [eS43]; exact g40
        have g48 : hK S43 x1 = 7 := by rw [eS43]; exact g41
        obtain ⟨v49, ev49⟩ : ∃ y : Int32, y = x3 + 1 := ⟨_, rfl⟩
        replace h := h v49 ev49
        refine g_iinc (v := v49) (lv' := [(3, .int v49), (0, .ref x0), (1, .ref x1), (2, .int x2)]) C dX2_gather_58 (j := 3) rfl (by rw [ev49]; rfl) (by decide) rfl ?_
        refine g_goto (tgt := 7) C dX2_gather_61 (by decide) ?_
        refine g_locals [1, 2, 3, 0] rfl ?_
        exact ih x0 x1 x2 v49 S43 L9 w44 w45 w46 g47 g48 h
def wp_X2_gather (P : HS → Prop) (x0 : Nat) (p0 : Nat) (p1 : Int32) (S : HS) : Prop := ∀ S2 : HS, S2 = putI S 60 x0 0 → (∃ k50 : Nat, wp_X2_gather_7  P k50 x0 p0 p1 0 S2)
set_option maxRecDepth 100000 in
set_option maxHeartbeats 4000000 in
theorem t_X2_gather {p : Program} {l : Launch} {e : Env} {s : State} {m : MethodId} {args : Array Value} {below : List Frame} {meth : Method} {c : Code} {D : va_G} {A : Nat → Prop} {T : Nat → ClassId} (C : GC p s m args meth c cX2_gather "FreightRater$Rating" (ws_X2_gather) 4 D A (zty T)) (E : GE T A s) (hr : meth.sig.returnType = none) (P : HS → Prop) : ∀ (x0 : Nat) (p0 : Nat) (p1 : Int32) (S0 S : HS) (L : List Nat), S0 = S → wt S → hL S L → (hK S x0 = 3) → (hK S p0 = 7) → wp_X2_gather P x0 p0 p1 S → GW p l e { rm_X2_gather with cells := 0, slots := 0 } s m args below meth c D A 4 0 0 (MQ below (va_Qv (fun (u : HS × List Nat) => P u.1 ∧ CO S0 u) (CE D T A) A) args s 0 0 A) (CW T S L) 0 0 0 [(0, .ref x0), (1, .ref p0), (2, .int p1)] [] := by
  have hW : ∀ {w : Cond}, w ∈ W0 → w.before args s = true := fun h => C.2.2.2.2.1 _ (List.mem_cons_of_mem _ h)
  intro x0 p0 p1 S0 S L hS0 hw hL hx0 hp0 h
  have he : ext S0 S := by rw [hS0]; exact ext_rf
  unfold wp_X2_gather at h
  refine g_aload_n C dX2_gather_0 rfl 0 rfl ?_
  refine g_iconst (v := 0) C dX2_gather_1 (by decide) ?_
  refine gc_putI C iwx_X2 hL hx0 (by decide) (by decide) rfl 0 (by decide) (hW kw_134) rfl tyX2 tyX2_ok nmX2 rfl rfl rfl rfl rfl dX2_gather_2 ?_
  have w1 := wt_putI hw 60 0 (k_ne hx0 (by decide))
  refine gc_nS (fun S2 eS2 => ?_)
  replace h := h S2 eS2
  have w3 : wt S2 := by rw [eS2]; exact w1
  have w4 : isL S2 L := by rw [eS2]; exact hL
  have w5 : ext S0 S2 := by rw [eS2]; exact he
  have g6 : hK S2 x0 = 3 := by rw [eS2]; exact hx0
  have g7 : hK S2 p0 = 7 := by rw [eS2]; exact hp0
  refine g_iconst (v := 0) C dX2_gather_5 (by decide) ?_
  refine g_istore_n (lv' := [(3, .int 0), (0, .ref x0), (1, .ref p0), (2, .int p1)]) C dX2_gather_6 rfl (by decide) rfl ?_
  refine g_locals [1, 2, 3, 0] rfl ?_
  obtain ⟨k50, h⟩ := h
  refine t_X2_gather_7 C E hr S0  P  k50 x0 p0 p1 0 S2 L w3 w4 w5 g6 g7 h
theorem c_X2_gather (l : Launch) (D : va_G) (T : Nat → ClassId) (x0 : Nat) (p0 : Nat) (p1 : Int32) (S : HS) (hx0 : hK S x0 = 3) (hp0 : hK S p0 = 7) (P : HS → Prop) (h : wp_X2_gather P x0 p0 p1 S) : CMv l yX2_gather (ws_X2_gather) rm_X2_gather D T [.ref x0, .ref p0, .int p1] S 0 0 P := gc_metv (by decide) rfl rfl (Nat.le_of_ble_eq_true rfl) (fun p e s m args below meth c A L C E hnm hr hw hL => t_X2_gather C E   hr P x0 p0 p1 S S L rfl hw hL hx0 hp0 h)
def WFR (μ : Nat → Int32) : Prop := ∀ v, v < 6 → ∀ a, a < 10 → rwO μ v a
/-- what a rating's object shows of a group -/
def wkP (S : HS) (x : Nat) (μ : Nat → Int32) (g : Nat) : Prop := hI S 63 x = nI (rsnD μ g).1 ∧ (¬ (rsnD μ g).1 = 0 → hI S 64 x = (rsnD μ g).2) ∧ ((rsnD μ g).1 = 0 → hI S 65 x = gvF μ g ∧ hI S 66 x = gzF μ g ∧ hI S 67 x = wtF μ (iv (gvF μ g)) g ∧ hI S 71 x = baseF μ (iv (gvF μ g)) (iv (gzF μ g)) (wtF μ (iv (gvF μ g)) g) ∧ hI S 73 x = μ (274 + 510 * iv (gvF μ g) + 47 + 10 * (iv (gzF μ g) - 1) + 2 * chpF μ (iv (gvF μ g)) (iv (gzF μ g)) (wtF μ (iv (gvF μ g)) g)) ∧ hI S 72 x = mxF (wtF μ (iv (gvF μ g)) g) (μ (274 + 510 * iv (gvF μ g) + 47 + 10 * (iv (gzF μ g) - 1) + 2 * chpF μ (iv (gvF μ g)) (iv (gzF μ g)) (wtF μ (iv (gvF μ g)) g))) ∧ hI S 74 x = (exAC μ (iv (gvF μ g)) (iv (gzF μ g)) (wtF μ (iv (gvF μ g)) g) (pcF μ (iv (gvF μ g)) g) (lgF μ (iv (gvF μ g)) g) (hdF μ (iv (gvF μ g)) g)).1 ∧ hI S 75 x = (exAC μ (iv (gvF μ g)) (iv (gzF μ g)) (wtF μ (iv (gvF μ g)) g) (pcF μ (iv (gvF μ g)) g) (lgF μ (iv (gvF μ g)) g) (hdF μ (iv (gvF μ g)) g)).2 ∧ hI S 76 x = stF μ (iv (gvF μ g)) g ∧ hI S 77 x = fuF μ (iv (gvF μ g)) (iv (gzF μ g)) g (wtF μ (iv (gvF μ g)) g) (pcF μ (iv (gvF μ g)) g) (lgF μ (iv (gvF μ g)) g) (hdF μ (iv (gvF μ g)) g))
theorem memL_le {g : Nat} : ∀ k s, (memL g k s).length ≤ k := by
  intro k
  induction k with
  | zero => intro s; exact Nat.le_refl _
  | succ k ih =>
    intro s
    rw [memL]
    split
    · rw [List.length_cons]; exact Nat.succ_le_succ (ih (s + 1))
    · exact Nat.le_succ_of_le (ih (s + 1))
theorem gl_c (x : Nat) (l : List Nat) (i : Nat) : gl (x :: l) (i + 1) = gl l i := rfl
theorem gl_0 (x : Nat) (l : List Nat) : gl (x :: l) 0 = x := rfl
theorem gl_al {L : List Nat} {x i : Nat} (h : i < L.length) : gl (L ++ [x]) i = gl L i := by
  unfold gl
  rw [List.getElem?_append_left h]
theorem gl_ar {L : List Nat} {x : Nat} : gl (L ++ [x]) L.length = x := by
  unfold gl
  rw [List.getElem?_append_right (Nat.le_refl _), Nat.sub_self]
  rfl
theorem rl_ga {P : HS → Prop} {M : Nat → Prop} {x y g ns mb nb cb : Nat} {μ : Nat → Int32} (hg : g < 1024) (hns : ns ≤ 10) (ens : μ 1 = nI ns) (hne1 : mb ≠ cb) : ∀ (k s fuel : Nat) (L : List Nat) (S : HS), s + k = ns → k < fuel → L.length ≤ s → RelSt S M y μ → RtO S M x y → hR S 61 x = some mb → hR S 62 x = some nb → hR S 142 y = some cb → hI S 60 x = nI L.length → (∀ i, i < L.length → gl L i < 10 ∧ hA S nb i = nI (gl L i) ∧ ∃ z, hB S mb i = some z ∧ RelS S M z μ (gl L i)) → (∀ S1, frR S S1 x → RtM S1 M x μ (L ++ memL g k s) → P S1) → wp_X2_gather_7 P fuel x y (nI g) (nI s) S := by
  intro k
  induction k with
  | zero =>
    intro s fuel L S hs hf hL hR hO r1 r2 r3 h60 hh hP
    obtain ⟨e143, _⟩ := st_s hR ens hns
    obtain ⟨f, rfl⟩ : ∃ f, fuel = f + 1 := ⟨fuel - 1, by omega⟩; rw [wp_X2_gather_7]; unfold wb_X2_gather_7; dsimp only
    rw [e143, nI_leI (by omega) (by omega)]
    refine ⟨fun _ => hP S ⟨rfl, rfl, rfl, fun _ _ _ => rfl, fun _ _ => rfl, fun _ _ => rfl⟩ ?_, fun z9 => absurd (by omega) z9⟩
    rw [memL, List.append_nil]
    obtain ⟨kx, _, mb', nb', q1, q2, q3, q4, q5, q6, _⟩ := hO
    exact ⟨kx, by omega, h60, mb', nb', q1, q2, q3, q4, q5, q6, by rw [Option.some.inj (q1.symm.trans r1), Option.some.inj (q2.symm.trans r2)]; exact hh⟩
  | succ k ih =>
    intro s fuel L S hs hf hL hR hO r1 r2 r3 h60 hh hP
    obtain ⟨e143, b, rb, kb, nb9, hb⟩ := st_s hR ens hns
    obtain ⟨z, hz, hzR⟩ := hb s (by omega)
    have hcb : b = cb := Option.some.inj (rb.symm.trans r3)
    subst hcb
    have hO0 := hO
    obtain ⟨kx, _, mb', nb', q1, q2, q3, q4, q5, q6, qm1, qm2, qd1, qd2, qd3⟩ := hO
    have em : mb' = mb := Option.some.inj (q1.symm.trans r1)
    have en : nb' = nb := Option.some.inj (q2.symm.trans r2)
    subst em en
    have hh0 := has_0 (n := g) (s := s) hg (by omega)
    rw [memL] at hP
    obtain ⟨f, rfl⟩ : ∃ f, fuel = f + 1 := ⟨fuel - 1, by omega⟩; rw [wp_X2_gather_7]; unfold wb_X2_gather_7; dsimp only
    rw [e143, nI_leI (by omega) (by omega), hh0, nI_1]
    refine ⟨fun z9 => absurd z9 (by omega), fun _ => ⟨fun c v14 e14 => ?_, fun c => ⟨mb', r1, fun _ => ⟨b, rb, fun _ => ?_⟩⟩⟩⟩
    · subst e14
      rw [if_neg c] at hP
      exact ih (s + 1) f L S (by omega) (by omega) (by omega) hR hO0 r1 r2 r3 h60 hh hP
    · rw [if_pos (by simpa using c)] at hP
      rw [nb9, nz_vp (by omega) (by decide), nI_clamp (n := s) (by omega), hz, h60, q4, nz_vp (by omega) (by decide), nI_clamp (n := L.length) (by omega)]
      refine ⟨by omega, fun o22 e22 _ => ⟨by omega, fun S25 e25 => ?_⟩⟩
      have f25 : frR S S25 x := by
        rw [e25]
        exact ⟨rfl, rfl, rfl, fun _ _ _ => rfl, fun _ _ => rfl, fun a ha => by
          funext j
          exact up2_i _ _ _ _ (fun e => ha (by rw [e]; exact r1))⟩
      have i25 : hI S25 = hI S := by rw [e25]; rfl
      refine ⟨nb', by rw [f25.2.2.1]; exact r2, fun _ => ?_⟩
      rw [i25, h60, f25.2.1, q6, nz_vp (by omega) (by decide), nI_clamp (n := L.length) (by omega)]
      refine ⟨by omega, fun S36 e36 => ?_⟩
      have f36 : frR S25 S36 x := by
        rw [e36]
        exact ⟨rfl, rfl, rfl, fun _ _ _ => rfl, fun a ha => by
          funext j
          exact up2_i _ _ _ _ (fun e => ha (by rw [e, f25.2.2.1]; exact r2)), fun _ _ => rfl⟩
      have i36 : hI S36 = hI S := by rw [e36]; exact i25
      rw [i36, h60, nI_1]
      refine fun S43 e43 v49 e49 => ?_
      subst e49
      have f43 : frR S36 S43 x := by
        rw [e43]
        exact ⟨rfl, rfl, rfl, fun i a ha => up2_a _ _ _ _ ha, fun _ _ => rfl, fun _ _ => rfl⟩
      have fA := (f25.tr f36).tr f43
      have hMn := hO0.m.2.2
      have eA : hA S43 = up2 (hA S) nb' L.length (nI s) := by rw [e43]; show hA S36 = _; rw [e36]; show up2 (hA S25) _ _ _ = _; rw [e25]; rfl
      have eB : hB S43 = up2 (hB S) mb' L.length o22 := by rw [e43]; show hB S36 = _; rw [e36]; show hB S25 = _; rw [e25]; rfl
      refine ih (s + 1) f (L ++ [s]) S43 (by omega) (by omega) (by rw [List.length_append, List.length_singleton]; omega) (hR.fr hO0 fA) (hO0.fr fA) (by rw [fA.2.2.1]; exact r1) (by rw [fA.2.2.1]; exact r2) (by rw [fA.2.2.1]; exact r3) ?_ (fun i hi => ?_) (fun S1 g1 g2 => hP S1 (fA.tr g1) (by rw [List.append_assoc, List.singleton_append] at g2; exact g2))
      · rw [e43, List.length_append, List.length_singleton]; exact up2_self _ _ _ _
      · rw [List.length_append, List.length_singleton] at hi
        rw [eA, eB]
        by_cases e : i = L.length
        · subst e
          rw [gl_ar, up2_self, up2_self]
          exact ⟨by omega, rfl, z, e22, hzR.fr fA kx hMn⟩
        · rw [gl_al (by omega), up2_a _ _ _ _ e, up2_a _ _ _ _ e]
          obtain ⟨g1, g2, u, g3, g4⟩ := hh i (by omega)
          exact ⟨g1, g2, u, g3, g4.fr fA kx hMn⟩
theorem k_X2_gather (l : Launch) (D : va_G) (T : Nat → ClassId) (x0 : Nat) (p0 : Nat) (p1 : Int32) (S : HS) (e0 : (Nat → Prop)) (e1 : Nat → Int32) (hx0 : hK S x0 = 3) (hp0 : hK S p0 = 7) (h : WF e1 ∧ RelSt S e0 p0 e1 ∧ RtO S e0 x0 p0 ∧ gix p1) : CMv l yX2_gather (ws_X2_gather) rm_X2_gather D T [.ref x0, .ref p0, .int p1] S 0 0 (fun S1 => (frR S S1 x0 ∧ RtM S1 e0 x0 e1 (memL (iv p1) (iv (e1 1)) 0))) := c_X2_gather l D T x0 p0 p1 S hx0 hp0 _ <|
  (by
    obtain ⟨hw, hR, hO, g, hg, eg⟩ := h
    subst eg
    obtain ⟨ns, hns, ens⟩ := hw.2.1
    have ins : iv (e1 1) = ns := by rw [ens]; exact nI_clamp (by omega)
    rw [show iv (nI g) = g from nI_clamp (by omega), ins]
    have hO0 := hO
    obtain ⟨kx, _, mb, nb, q1, q2, q3, q4, q5, q6, qm1, qm2, qd1, qd2, qd3⟩ := hO
    obtain ⟨_, cb, rcb, kcb, ncb, _⟩ := st_s hR ens hns
    unfold wp_X2_gather
    refine fun S2 e2 => ⟨20, ?_⟩
    have f2 : frR S S2 x0 := by
      rw [e2]
      exact ⟨rfl, rfl, rfl, fun i a ha => up2_a _ _ _ _ ha, fun _ _ => rfl, fun _ _ => rfl⟩
    refine rl_ga (mb := mb) (nb := nb) (cb := cb) hg hns ens (fun z9 => qd1 (by rw [z9]; exact rcb)) ns 0 20 [] S2 (by omega) (by omega) (Nat.le_refl _) (hR.fr hO0 f2) (hO0.fr f2) (by rw [f2.2.2.1]; exact q1) (by rw [f2.2.2.1]; exact q2) (by rw [f2.2.2.1]; exact rcb) (by rw [e2]; exact up2_self _ _ _ _) (fun i hi => absurd hi (Nat.not_lt_zero i)) (fun S1 g1 g2 => ⟨f2.tr g1, g2⟩))

end S_C1F
