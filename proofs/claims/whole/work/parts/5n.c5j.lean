section S_C5J
abbrev ws_X9_init : List Cond := Cond.code yX9_init cX9_init 2 none :: W0
abbrev rm_X9_init : Room := ({ frames := 2, cells := 0, slots := 0, locals := 40 } : Room)
def wb_X9_init_62 (rec : Nat → Int32 → HS → Nat → Nat → Prop) (P : HS → Prop) (x0 : Nat) (x1 : Int32) (S : HS) (kc ks : Nat) : Prop := (9 ≤ x1 → (P S)) ∧ (¬ 9 ≤ x1 → (∃ b110 : Nat, hR S 205 x0 = some b110 ∧ (hK S b110 = 26 → ((1 ≤ kc ∧ 4 ≤ ks) ∧ (∀ q112 : Nat, hK S q112 = 0 → zr S q112 → (∀ S120 : HS, S120 = newO S q112 5 → (∃ cc127 cc128 : Nat, (cc127 ≤ (kc - 1) ∧ cc128 ≤ (ks - 4)) ∧ ((2 ≤ cc127 ∧ 10 ≤ cc128) ∧ (∀ (S131 : HS), ext S120 S131 → (∃ w p, hK S120 w = 0 ∧ zr S120 w ∧ hK (putR (newA S120 w 22 5) 101 q112 (some w)) p = 0 ∧ zr (putR (newA S120 w 22 5) 101 q112 (some w)) p ∧ S131 = putR (newA (putR (newA S120 w 22 5) 101 q112 (some w)) p 22 5) 102 q112 (some p)) → (vp_in x1 (hN S131 b110) ∧ (∀ S142 : HS, S142 = putB S131 b110 (Int32.toNatClampNeg x1) (some q112) → (∀ v147 : Int32, v147 = x1 + 1 → (rec x0 v147 S142 ((kc - 1) - cc127) ((ks - 4) - cc128))))))))))))))
def wp_X9_init_62 (P : HS → Prop) : Nat → Nat → Int32 → HS → Nat → Nat → Prop
  | 0 => fun _ _ _ _ _ => False
  | n + 1 => fun x0 x1 S kc ks => wb_X9_init_62 (wp_X9_init_62  P n)  P x0 x1 S kc ks
set_option maxRecDepth 100000 in
set_option maxHeartbeats 4000000 in
theorem t_X9_init_62 {p : Program} {l : Launch} {e : Env} {s : State} {m : MethodId} {args : Array Value} {below : List Frame} {meth : Method} {c : Code} {D : va_G} {A : Nat → Prop} {T : Nat → ClassId} {mc ms : Nat} (C : GC p s m args meth c cX9_init "FreightRater$Version" (ws_X9_init) 2 D A (zty T)) (E : GE T A s) (hr : meth.sig.returnType = none) (hin : meth.name = "<init>") (S0 : HS) (P : HS → Prop) : ∀ (n : Nat) (x0 : Nat) (x1 : Int32) (S : HS) (kc ks : Nat) (L : List Nat), wt S → hL S L → ext S0 S → (hK S x0 = 10) → wp_X9_init_62  P n x0 x1 S kc ks → GW p l e { rm_X9_init with cells := mc, slots := ms } s m args below meth c D A 2 mc ms (MQ below (va_Qv (fun (u : HS × List Nat) => P u.1 ∧ CO S0 u) (CE D T A) A) args s mc ms A) (CW T S L) kc ks 62 [(0, .ref x0), (1, .int x1)] [] := by
  have hW : ∀ {w : Cond}, w ∈ W0 → w.before args s = true := fun h => C.2.2.2.2.1 _ (List.mem_cons_of_mem _ h)
  intro n
  induction n with
  | zero => intro x0 x1 S kc ks L hw hL he hx0 h; exact h.elim
  | succ n ih =>
    intro x0 x1 S kc ks L hw hL he hx0 h
    replace h : wb_X9_init_62 (wp_X9_init_62  P n)  P x0 x1 S kc ks := h
    unfold wb_X9_init_62 at h
    refine g_iload_n C dX9_init_62 rfl 1 rfl ?_
    refine g_bipush (v := 9) C dX9_init_63 (by decide) ?_
    refine g_icmp_ge (tgt := 87) C dX9_init_65 (by decide) (fun z108 => ?_) (fun z108 => ?_)
    · replace h := h.1 z108
      exact gc_vret C hw hL he hr dX9_init_87 h
    · replace h := h.2 z108
      refine g_aload_n C dX9_init_68 rfl 0 rfl ?_
      refine gc_getR C hw iwx_X9 hL hx0 (by decide) (by decide) rfl 5 (by decide) (hW kw_422) rfl rfl rfl dX9_init_69 (fun o109 eo109 ko109 => ?_)
      obtain ⟨b110, hb9, h⟩ := h
      have g111 : hK S b110 = 26 := ko109 b110 (eo109.trans hb9)
      replace h := h g111
      refine g_opt (eo109.trans hb9) ?_
      refine g_iload_n C dX9_init_72 rfl 1 rfl ?_
      obtain ⟨g113, h⟩ := h
      refine gc_new (kd := 5) (N := 4) C E hw hL (Nat.le_refl _) (Nat.le_refl _) iwx_X4 tyX4 tyX4_ok (by decide) (by decide) rfl (fun j hj => by rcases (show j = 0 ∨ j = 1 ∨ j = 2 ∨ j = 3 by omega) with rfl | rfl | rfl | rfl <;> rfl) (hW kw_384) (hW kw_388) (hW kw_15) g113.1 g113.2 dX9_init_73 (fun q112 h0q112 zq112 => ?_)
      replace h := h q112 h0q112 zq112
      have g114 := newO_old 5 g111 (by decide) h0q112
      have g115 := newO_old 5 hx0 (by decide) h0q112
      have w116 := wt_newO hw 5 h0q112 (by decide)
      have w117 := hL_new (S' := newO S q112 5) hL (show 5 ≠ 0 by decide) rfl
      have w118 := ext_newO he h0q112 5
      have g119 := newO_self S q112 5
      refine gc_nS (fun S120 eS120 => ?_)
      replace h := h S120 eS120
      have w121 : wt S120 := by rw [eS120]; exact w116
      have w122 : isL S120 (L ++ [q112]) := by rw [eS120]; exact w117
      have w123 : ext S0 S120 := by rw [eS120]; exact w118
      have g124 : hK S120 q112 = 5 := by rw [eS120]; exact g119
      have g125 : hK S120 b110 = 26 := by rw [eS120]; exact g114
      have g126 : hK S120 x0 = 10 := by rw [eS120]; exact g115
      refine g_dup C dX9_init_76 rfl ?_
      obtain ⟨cc127, cc128, g129, h⟩ := h
      obtain ⟨g130, h⟩ := h
      refine gc_callvI (host := "") (ret := none) C E w121 w122 [] rfl (k_X4_init l D T q112 S120 cc127 cc128 g124 g130) (w0_I 0 C.2.2.2.2.1 kw_389 kw_390 kw_15 kw_391 rfl rfl rfl (by decide +kernel) ⟨Nat.le_of_ble_eq_true rfl, Nat.le_of_ble_eq_true rfl⟩) rfl (Nat.le_of_ble_eq_true rfl) (Nat.le_refl _) (Nat.le_refl _) g129.1 g129.2 dX9_init_77 (fun S131 L132 e133 w134 w135 hp => ?_)
      replace h := h S131 e133 hp
      have g136 := ext_K e133 g124 (by decide)
      have g137 := ext_K e133 g125 (by decide)
      have g138 := ext_K e133 g126 (by decide)
      have w139 := ext_tr w123 e133
      obtain ⟨g140, h⟩ := h
      refine gc_aast C w135 g137 (by decide) rfl g136 (by decide) (by decide) rfl g140 dX9_init_80 ?_
      have w141 := wt_putB w134 (Int32.toNatClampNeg x1) (some q112) (k_ne g137 (by decide)) (fun b hb => by cases hb; rw [show hK S131 b110 = 26 from g137]; exact g136)
      refine gc_nS (fun S142 eS142 => ?_)
      replace h := h S142 eS142
      have w143 : wt S142 := by rw [eS142]; exact w141
      have w144 : isL S142 L132 := by rw [eS142]; exact w135
      have w145 : ext S0 S142 := by rw [eS142]; exact w139
      have g146 : hK S142 x0 = 10 := by rw [eS142]; exact g138
      obtain ⟨v147, ev147⟩ : ∃ y : Int32, y = x1 + 1 := ⟨_, rfl⟩
      replace h := h v147 ev147
      refine g_iinc (v := v147) (lv' := [(1, .int v147), (0, .ref x0)]) C dX9_init_81 (j := 1) rfl (by rw [ev147]; rfl) (by decide) rfl ?_
      refine g_goto (tgt := 62) C dX9_init_84 (by decide) ?_
      refine g_locals [1, 0] rfl ?_
      exact ih x0 v147 S142 ((kc - 1) - cc127) ((ks - 4) - cc128) L132 w143 w144 w145 g146 h
def wp_X9_init (P : HS → Prop) (x0 : Nat) (S : HS) (mc ms : Nat) : Prop := ((¬ 9 < (0 : Int32) ∧ (Int32.toNatClampNeg 9) ≤ 100000000) ∧ 1 ≤ mc ∧ (Int32.toNatClampNeg 9) ≤ ms) ∧ (∀ q1 : Nat, hK S q1 = 0 → zr S q1 → (∀ S8 : HS, S8 = newA S q1 26 (Int32.toNatClampNeg 9) → (∀ S15 : HS, S15 = putR S8 205 x0 (some q1) → (∀ S21 : HS, S21 = putI S15 206 x0 5000 → (∀ S27 : HS, S27 = putI S21 209 x0 999 → (((¬ 10 < (0 : Int32) ∧ (Int32.toNatClampNeg 10) ≤ 100000000) ∧ 1 ≤ (mc - 1) ∧ (Int32.toNatClampNeg 10) ≤ (ms - (Int32.toNatClampNeg 9))) ∧ (∀ q32 : Nat, hK S27 q32 = 0 → zr S27 q32 → (∀ S39 : HS, S39 = newA S27 q32 25 (Int32.toNatClampNeg 10) → (∀ S46 : HS, S46 = putR S39 210 x0 (some q32) → (((¬ 12 < (0 : Int32) ∧ (Int32.toNatClampNeg 12) ≤ 100000000) ∧ 1 ≤ ((mc - 1) - 1) ∧ (Int32.toNatClampNeg 12) ≤ ((ms - (Int32.toNatClampNeg 9)) - (Int32.toNatClampNeg 10))) ∧ (∀ q51 : Nat, hK S46 q51 = 0 → zr S46 q51 → (∀ S58 : HS, S58 = newA S46 q51 22 (Int32.toNatClampNeg 12) → (∀ S65 : HS, S65 = putR S58 202 x0 (some q51) → (((¬ 12 < (0 : Int32) ∧ (Int32.toNatClampNeg 12) ≤ 100000000) ∧ 1 ≤ (((mc - 1) - 1) - 1) ∧ (Int32.toNatClampNeg 12) ≤ (((ms - (Int32.toNatClampNeg 9)) - (Int32.toNatClampNeg 10)) - (Int32.toNatClampNeg 12))) ∧ (∀ q70 : Nat, hK S65 q70 = 0 → zr S65 q70 → (∀ S77 : HS, S77 = newA S65 q70 22 (Int32.toNatClampNeg 12) → (∀ S84 : HS, S84 = putR S77 203 x0 (some q70) → (((¬ 12 < (0 : Int32) ∧ (Int32.toNatClampNeg 12) ≤ 100000000) ∧ 1 ≤ ((((mc - 1) - 1) - 1) - 1) ∧ (Int32.toNatClampNeg 12) ≤ ((((ms - (Int32.toNatClampNeg 9)) - (Int32.toNatClampNeg 10)) - (Int32.toNatClampNeg 12)) - (Int32.toNatClampNeg 12))) ∧ (∀ q89 : Nat, hK S84 q89 = 0 → zr S84 q89 → (∀ S96 : HS, S96 = newA S84 q89 22 (Int32.toNatClampNeg 12) → (∀ S103 : HS, S103 = putR S96 204 x0 (some q89) → (∃ k148 : Nat, wp_X9_init_62  P k148 x0 0 S103 (((((mc - 1) - 1) - 1) - 1) - 1) (((((ms - (Int32.toNatClampNeg 9)) - (Int32.toNatClampNeg 10)) - (Int32.toNatClampNeg 12)) - (Int32.toNatClampNeg 12)) - (Int32.toNatClampNeg 12))))))))))))))))))))))))
set_option maxRecDepth 100000 in
set_option maxHeartbeats 4000000 in
theorem t_X9_init {p : Program} {l : Launch} {e : Env} {s : State} {m : MethodId} {args : Array Value} {below : List Frame} {meth : Method} {c : Code} {D : va_G} {A : Nat → Prop} {T : Nat → ClassId} (C : GC p s m args meth c cX9_init "FreightRater$Version" (ws_X9_init) 2 D A (zty T)) (E : GE T A s) (hr : meth.sig.returnType = none) (hin : meth.name = "<init>") (P : HS → Prop) : ∀ (x0 : Nat) (S0 S : HS) (mc ms : Nat) (L : List Nat), S0 = S → wt S → hL S L → (hK S x0 = 10) → wp_X9_init P x0 S mc ms → GW p l e { rm_X9_init with cells := mc, slots := ms } s m args below meth c D A 2 mc ms (MQ below (va_Qv (fun (u : HS × List Nat) => P u.1 ∧ CO S0 u) (CE D T A) A) args s mc ms A) (CW T S L) mc ms 0 [(0, .ref x0)] [] := by
  have hW : ∀ {w : Cond}, w ∈ W0 → w.before args s = true := fun h => C.2.2.2.2.1 _ (List.mem_cons_of_mem _ h)
  intro x0 S0 S mc ms L hS0 hw hL hx0 h
  have he : ext S0 S := by rw [hS0]; exact ext_rf
  unfold wp_X9_init at h
  refine g_aload_n C dX9_init_0 rfl 0 rfl ?_
  refine g_objInit C (hW kw_383) (hW kw_46) (hW kw_47) dX9_init_1 (Nat.le_of_ble_eq_true rfl) (Nat.le_of_ble_eq_true rfl) ?_
  refine g_aload_n C dX9_init_4 rfl 0 rfl ?_
  refine g_bipush (v := 9) C dX9_init_5 (by decide) ?_
  obtain ⟨g2, h⟩ := h
  refine gc_anew (kd := 26) C E hw hL (Nat.le_refl _) (Nat.le_refl _) (show "FreightRater$Scale" ∈ overL by decide) (by decide) rfl (hW kw_384) g2.1.1 g2.1.2 g2.2.1 g2.2.2 dX9_init_7 (fun q1 h0q1 zq1 => ?_)
  replace h := h q1 h0q1 zq1
  have g3 := newA_old 26 (Int32.toNatClampNeg 9) hx0 (by decide) h0q1
  have w4 := wt_newA hw 26 (Int32.toNatClampNeg 9) h0q1 (by decide)
  have w5 := hL_new (S' := newA S q1 26 (Int32.toNatClampNeg 9)) hL (show 26 ≠ 0 by decide) rfl
  have w6 := ext_newA he h0q1 26 (Int32.toNatClampNeg 9)
  have g7 := newA_self S q1 26 (Int32.toNatClampNeg 9)
  refine gc_nS (fun S8 eS8 => ?_)
  replace h := h S8 eS8
  have w9 : wt S8 := by rw [eS8]; exact w4
  have w10 : isL S8 (L ++ [q1]) := by rw [eS8]; exact w5
  have w11 : ext S0 S8 := by rw [eS8]; exact w6
  have g12 : hK S8 q1 = 26 := by rw [eS8]; exact g7
  have g13 : hK S8 x0 = 10 := by rw [eS8]; exact g3
  refine gc_putRF C iwx_X9 w10 g13 (by decide) (by decide) rfl 5 (by decide) (hW kw_422) rfl tyX9 tyX9_ok nmX9 rfl rfl rfl hin rfl (some q1) rfl rfl dX9_init_10 ?_
  have w14 := wt_putR w9 205 (some q1) (k_ne g13 (by decide)) (fun b hb => by cases hb; exact g12) (by decide)
  refine gc_nS (fun S15 eS15 => ?_)
  replace h := h S15 eS15
  have w16 : wt S15 := by rw [eS15]; exact w14
  have w17 : isL S15 (L ++ [q1]) := by rw [eS15]; exact w10
  have w18 : ext S0 S15 := by rw [eS15]; exact w11
  have g19 : hK S15 x0 = 10 := by rw [eS15]; exact g13
  refine g_aload_n C dX9_init_13 rfl 0 rfl ?_
  refine g_sipush (v := 5000) C dX9_init_14 (by decide) ?_
  refine gc_putI C iwx_X9 w17 g19 (by decide) (by decide) rfl 6 (by decide) (hW kw_423) rfl tyX9 tyX9_ok nmX9 rfl rfl rfl rfl rfl dX9_init_17 ?_
  have w20 := wt_putI w16 206 5000 (k_ne g19 (by decide))
  refine gc_nS (fun S21 eS21 => ?_)
  replace h := h S21 eS21
  have w22 : wt S21 := by rw [eS21]; exact w20
  have w23 : isL S21 (L ++ [q1]) := by rw [eS21]; exact w17
  have w24 : ext S0 S21 := by rw [eS21]; exact w18
  have g25 : hK S21 x0 = 10 := by rw [eS21]; exact g19
  refine g_aload_n C dX9_init_20 rfl 0 rfl ?_
  refine g_sipush (v := 999) C dX9_init_21 (by decide) ?_
  refine gc_putI C iwx_X9 w23 g25 (by decide) (by decide) rfl 9 (by decide) (hW kw_432) rfl tyX9 tyX9_ok nmX9 rfl rfl rfl rfl rfl dX9_init_24 ?_
  have w26 := wt_putI w22 209 999 (k_ne g25 (by decide))
  refine gc_nS (fun S27 eS27 => ?_)
  replace h := h S27 eS27
  have w28 : wt S27 := by rw [eS27]; exact w26
  have w29 : isL S27 (L ++ [q1]) := by rw [eS27]; exact w23
  have w30 : ext S0 S27 := by rw [eS27]; exact w24
  have g31 : hK S27 x0 = 10 := by rw [eS27]; exact g25
  refine g_aload_n C dX9_init_27 rfl 0 rfl ?_
  refine g_bipush (v := 10) C dX9_init_28 (by decide) ?_
  obtain ⟨g33, h⟩ := h
  refine gc_anew (kd := 25) C E w28 w29 (Nat.le_refl _) (Nat.le_refl _) (show "FreightRater$Accessorial" ∈ overL by decide) (by decide) rfl (hW kw_386) g33.1.1 g33.1.2 g33.2.1 g33.2.2 dX9_init_30 (fun q32 h0q32 zq32 => ?_)
  replace h := h q32 h0q32 zq32
  have g34 := newA_old 25 (Int32.toNatClampNeg 10) g31 (by decide) h0q32
  have w35 := wt_newA w28 25 (Int32.toNatClampNeg 10) h0q32 (by decide)
  have w36 := hL_new (S' := newA S27 q32 25 (Int32.toNatClampNeg 10)) w29 (show 25 ≠ 0 by decide) rfl
  have w37 := ext_newA w30 h0q32 25 (Int32.toNatClampNeg 10)
  have g38 := newA_self S27 q32 25 (Int32.toNatClampNeg 10)
  refine gc_nS (fun S39 eS39 => ?_)
  replace h := h S39 eS39
  have w40 : wt S39 := by rw [eS39]; exact w35
  have w41 : isL S39 ((L ++ [q1]) ++ [q32]) := by rw [eS39]; exact w36
  have w42 : ext S0 S39 := by rw [eS39]; exact w37
  have g43 : hK S39 q32 = 25 := by rw [eS39]; exact g38
  have g44 : hK S39 x0 = 10 := by rw [eS39]; exact g34
  refine gc_putRF C iwx_X9 w41 g44 (by decide) (by decide) rfl 10 (by decide) (hW kw_435) rfl tyX9 tyX9_ok nmX9 rfl rfl rfl hin rfl (some q32) rfl rfl dX9_init_33 ?_
  have w45 := wt_putR w40 210 (some q32) (k_ne g44 (by decide)) (fun b hb => by cases hb; exact g43) (by decide)
  refine gc_nS (fun S46 eS46 => ?_)
  replace h := h S46 eS46
  have w47 : wt S46 := by rw [eS46]; exact w45
  have w48 : isL S46 ((L ++ [q1]) ++ [q32]) := by rw [eS46]; exact w41
  have w49 : ext S0 S46 := by rw [eS46]; exact w42
  have g50 : hK S46 x0 = 10 := by rw [eS46]; exact g44
  refine g_aload_n C dX9_init_36 rfl 0 rfl ?_
  refine g_bipush (v := 12) C dX9_init_37 (by decide) ?_
  obtain ⟨g52, h⟩ := h
  refine gc_newi C E w47 w48 (Nat.le_refl _) (Nat.le_refl _) (hW kw_91) g52.1.1 g52.1.2 g52.2.1 g52.2.2 dX9_init_39 (fun q51 h0q51 zq51 => ?_)
  replace h := h q51 h0q51 zq51
  have g53 := newA_old 22 (Int32.toNatClampNeg 12) g50 (by decide) h0q51
  have w54 := wt_newA w47 22 (Int32.toNatClampNeg 12) h0q51 (by decide)
  have w55 := hL_new (S' := newA S46 q51 22 (Int32.toNatClampNeg 12)) w48 (show 22 ≠ 0 by decide) rfl
  have w56 := ext_newA w49 h0q51 22 (Int32.toNatClampNeg 12)
  have g57 := newA_self S46 q51 22 (Int32.toNatClampNeg 12)
  refine gc_nS (fun S58 eS58 => ?_)
  replace h := h S58 eS58
  have w59 : wt S58 := by rw [eS58]; exact w54
  have w60 : isL S58 (((L ++ [q1]) ++ [q32]) ++ [q51]) := by rw [eS58]; exact w55
  have w61 : ext S0 S58 := by rw [eS58]; exact w56
  have g62 : hK S58 q51 = 22 := by rw [eS58]; exact g57
  have g63 : hK S58 x0 = 10 := by rw [eS58]; exact g53
  refine gc_putRF C iwx_X9 w60 g63 (by decide) (by decide) rfl 2 (by decide) (hW kw_419) rfl tyX9 tyX9_ok nmX9 rfl rfl rfl hin rfl (some q51) rfl rfl dX9_init_41 ?_
  have w64 := wt_putR w59 202 (some q51) (k_ne g63 (by decide)) (fun b hb => by cases hb; exact g62) (by decide)
  refine gc_nS (fun S65 eS65 => ?_)
  replace h := h S65 eS65
  have w66 : wt S65 := by rw [eS65]; exact w64
  have w67 : isL S65 (((L ++ [q1]) ++ [q32]) ++ [q51]) := by rw [eS65]; exact w60
  have w68 : ext S0 S65 := by rw [eS65]; exact w61
  have g69 : hK S65 x0 = 10 := by rw [eS65]; exact g63
  refine g_aload_n C dX9_init_44 rfl 0 rfl ?_
  refine g_bipush (v := 12) C dX9_init_45 (by decide) ?_
  obtain ⟨g71, h⟩ := h
  refine gc_newi C E w66 w67 (Nat.le_refl _) (Nat.le_refl _) (hW kw_91) g71.1.1 g71.1.2 g71.2.1 g71.2.2 dX9_init_47 (fun q70 h0q70 zq70 => ?_)
  replace h := h q70 h0q70 zq70
  have g72 := newA_old 22 (Int32.toNatClampNeg 12) g69 (by decide) h0q70
  have w73 := wt_newA w66 22 (Int32.toNatClampNeg 12) h0q70 (by decide)
  have w74 := hL_new (S' := newA S65 q70 22 (Int32.toNatClampNeg 12)) w67 (show 22 ≠ 0 by decide) rfl
  have w75 := ext_newA w68 h0q70 22 (Int32.toNatClampNeg 12)
  have g76 := newA_self S65 q70 22 (Int32.toNatClampNeg 12)
  refine gc_nS (fun S77 eS77 => ?_)
  replace h := h S77 eS77
  have w78 : wt S77 := by rw [eS77]; exact w73
  have w79 : isL S77 ((((L ++ [q1]) ++ [q32]) ++ [q51]) ++ [q70]) := by rw [eS77]; exact w74
  have w80 : ext S0 S77 := by rw [eS77]; exact w75
  have g81 : hK S77 q70 = 22 := by rw [eS77]; exact g76
  have g82 : hK S77 x0 = 10 := by rw [eS77]; exact g72
  refine gc_putRF C iwx_X9 w79 g82 (by decide) (by decide) rfl 3 (by decide) (hW kw_420) rfl tyX9 tyX9_ok nmX9 rfl rfl rfl hin rfl (some q70) rfl rfl dX9_init_49 ?_
  have w83 := wt_putR w78 203 (some q70) (k_ne g82 (by decide)) (fun b hb => by cases hb; exact g81) (by decide)
  refine gc_nS (fun S84 eS84 => ?_)
  replace h := h S84 eS84
  have w85 : wt S84 := by rw [eS84]; exact w83
  have w86 : isL S84 ((((L ++ [q1]) ++ [q32]) ++ [q51]) ++ [q70]) := by rw [eS84]; exact w79
  have w87 : ext S0 S84 := by rw [eS84]; exact w80
  have g88 : hK S84 x0 = 10 := by rw [eS84]; exact g82
  refine g_aload_n C dX9_init_52 rfl 0 rfl ?_
  refine g_bipush (v := 12) C dX9_init_53 (by decide) ?_
  obtain ⟨g90, h⟩ := h
  refine gc_newi C E w85 w86 (Nat.le_refl _) (Nat.le_refl _) (hW kw_91) g90.1.1 g90.1.2 g90.2.1 g90.2.2 dX9_init_55 (fun q89 h0q89 zq89 => ?_)
  replace h := h q89 h0q89 zq89
  have g91 := newA_old 22 (Int32.toNatClampNeg 12) g88 (by decide) h0q89
  have w92 := wt_newA w85 22 (Int32.toNatClampNeg 12) h0q89 (by decide)
  have w93 := hL_new (S' := newA S84 q89 22 (Int32.toNatClampNeg 12)) w86 (show 22 ≠ 0 by decide) rfl
  have w94 := ext_newA w87 h0q89 22 (Int32.toNatClampNeg 12)
  have g95 := newA_self S84 q89 22 (Int32.toNatClampNeg 12)
  refine gc_nS (fun S96 eS96 => ?_)
  replace h := h S96 eS96
  have w97 : wt S96 := by rw [eS96]; exact w92
  have w98 : isL S96 (((((L ++ [q1]) ++ [q32]) ++ [q51]) ++ [q70]) ++ [q89]) := by rw [eS96]; exact w93
  have w99 : ext S0 S96 := by rw [eS96]; exact w94
  have g100 : hK S96 q89 = 22 := by rw [eS96]; exact g95
  have g101 : hK S96 x0 = 10 := by rw [eS96]; exact g91
  refine gc_putRF C iwx_X9 w98 g101 (by decide) (by decide) rfl 4 (by decide) (hW kw_421) rfl tyX9 tyX9_ok nmX9 rfl rfl rfl hin rfl (some q89) rfl rfl dX9_init_57 ?_
  have w102 := wt_putR w97 204 (some q89) (k_ne g101 (by decide)) (fun b hb => by cases hb; exact g100) (by decide)
  refine gc_nS (fun S103 eS103 => ?_)
  replace h := h S103 eS103
  have w104 : wt S103 := by rw [eS103]; exact w102
  have w105 : isL S103 (((((L ++ [q1]) ++ [q32]) ++ [q51]) ++ [q70]) ++ [q89]) := by rw [eS103]; exact w98
  have w106 : ext S0 S103 := by rw [eS103]; exact w99
  have g107 : hK S103 x0 = 10 := by rw [eS103]; exact g101
  refine g_iconst (v := 0) C dX9_init_60 (by decide) ?_
  refine g_istore_n (lv' := [(1, .int 0), (0, .ref x0)]) C dX9_init_61 rfl (by decide) rfl ?_
  refine g_locals [1, 0] rfl ?_
  obtain ⟨k148, h⟩ := h
  refine t_X9_init_62 C E hr hin S0  P  k148 x0 0 S103 (((((mc - 1) - 1) - 1) - 1) - 1) (((((ms - (Int32.toNatClampNeg 9)) - (Int32.toNatClampNeg 10)) - (Int32.toNatClampNeg 12)) - (Int32.toNatClampNeg 12)) - (Int32.toNatClampNeg 12)) (((((L ++ [q1]) ++ [q32]) ++ [q51]) ++ [q70]) ++ [q89]) w104 w105 w106 g107 h
theorem c_X9_init (l : Launch) (D : va_G) (T : Nat → ClassId) (x0 : Nat) (S : HS) (mc ms : Nat) (hx0 : hK S x0 = 10) (P : HS → Prop) (h : wp_X9_init P x0 S mc ms) : CMv l yX9_init (ws_X9_init) rm_X9_init D T [.ref x0] S mc ms P := gc_metv (by decide) rfl rfl (Nat.le_of_ble_eq_true rfl) (fun p e s m args below meth c A L C E hnm hr hw hL => t_X9_init C E   hr hnm P x0 S S mc ms L rfl hw hL hx0 h)
/-- the row of a new version -/
def dfV : Nat → Int32 := fun k => if k = 274 + 146 then 5000 else if k = 274 + 149 then 999 else 0
theorem dfV_0 {k : Nat} (h1 : k ≠ 274 + 146) (h2 : k ≠ 274 + 149) : dfV k = 0 := by unfold dfV; rw [if_neg h1, if_neg h2]
theorem rl_v0 {P : HS → Prop} {S0 : HS} {M : Nat → Prop} {x : Nat} {A : Nat → Nat} (kx : hK S0 x = 10) (r0 : hR S0 205 x = some (A 4)) (k4 : hK S0 (A 4) = 26) (n4 : hN S0 (A 4) = 9) (hM : ∀ b, M b → hK S0 b ≠ 0) (hP : ∀ S1 a, (∀ k, k < 6 → a k = A k) → VI S0 S1 M dfV 0 a 9 → P S1) : ∀ (m i fuel : Nat) (S : HS) (a : Nat → Nat) (kc ks : Nat), i + m = 9 → m < fuel → (∀ k, k < 6 → a k = A k) → VI S0 S M dfV 0 a i → 3 * m ≤ kc → 14 * m ≤ ks → wp_X9_init_62 P fuel x (nI i) S kc ks := by
  intro m
  induction m with
  | zero =>
    intro i fuel S a kc ks hi hf ha hV _ _
    obtain ⟨f, rfl⟩ : ∃ f, fuel = f + 1 := ⟨fuel - 1, by omega⟩; rw [wp_X9_init_62]; unfold wb_X9_init_62; dsimp only
    rw [show (9 : Int32) = nI 9 from rfl, nI_leI (by omega) (by omega)]
    rw [show i = 9 by omega] at hV
    exact ⟨fun _ => hP S a ha hV, fun z9 => absurd (by omega) z9⟩
  | succ m ih =>
    intro i fuel S a kc ks hi hf ha hV hkc hks
    have hV0 := hV
    obtain ⟨h1, h2, h3, h4, h5, h6⟩ := hV
    have a4 : a 4 = A 4 := ha 4 (by omega)
    rw [a4] at h1
    have sx := h1 x (fun e => by rw [e, k4] at kx; exact absurd kx (by decide)) (by rw [kx]; decide)
    have e4 := h2 (A 4) (by rw [k4]; decide)
    have k4S : hK S (A 4) = 26 := by rw [e4.1]; exact k4
    obtain ⟨f, rfl⟩ : ∃ f, fuel = f + 1 := ⟨fuel - 1, by omega⟩; rw [wp_X9_init_62]; unfold wb_X9_init_62; dsimp only
    rw [show (9 : Int32) = nI 9 from rfl, nI_leI (by omega) (by omega), nI_1]
    refine ⟨fun z9 => absurd z9 (by omega), fun _ => ⟨A 4, by rw [sx.2.2.2.1]; exact r0, fun _ => ⟨⟨by omega, by omega⟩, fun q q0 qz S120 e120 => ⟨2, 10, ⟨by omega, by omega⟩, ⟨by omega, by omega⟩, fun S131 _ h131 => ?_⟩⟩⟩⟩
    obtain ⟨w, p, w0, wz, p0, pz, e131⟩ := h131
    have kq : hK S120 q = 5 := by rw [e120, px_KO, if_pos rfl]
    have nwq : w ≠ q := fun e => by rw [e, kq] at w0; exact absurd w0 (by decide)
    have w0' : hK S w = 0 := by rw [e120, px_KO, if_neg nwq] at w0; exact w0
    have npw : p ≠ w := fun e => by rw [e, px_KR, px_KW, if_pos rfl] at p0; exact absurd p0 (by decide)
    have p1 : hK S120 p = 0 := by rw [px_KR, px_KW, if_neg npw] at p0; exact p0
    have npq : p ≠ q := fun e => by rw [e, kq] at p1; exact absurd p1 (by decide)
    have p0' : hK S p = 0 := by rw [e120, px_KO, if_neg npq] at p1; exact p1
    have x120 : ext S S120 := by rw [e120]; exact ext_newO ext_rf q0 5
    have xw : ext S (putR (newA S120 w 22 5) 101 q (some w)) := ext_putR (ext_newA x120 w0 22 5) _ _ _
    have x131 : ext S S131 := by rw [e131]; exact ext_putR (ext_newA xw p0 22 5) _ _ _
    have f120 : frM S S120 (fun b => b = q) := by rw [e120]; exact frM.nO frM.rf ext_rf q0 5
    have fw : frM S (putR (newA S120 w 22 5) 101 q (some w)) (fun b => b = q) := (f120.nW x120 w0 22 5).pR rfl _ _
    have f131 : frM S S131 (fun b => b = q) := by rw [e131]; exact (fw.nW xw p0 22 5).pR rfl _ _
    have f131' : frM S S131 (fun b => b = A 4) := f131.mn (fun b h0 e => absurd q0 (by rw [← e]; exact h0))
    have h4q : A 4 ≠ q := fun e => by rw [e, q0] at k4S; exact absurd k4S (by decide)
    have s4 : sam S S131 (A 4) := f131 _ h4q (by rw [k4S]; decide)
    have Kq : hK S131 q = 5 := by rw [e131, px_KR, px_KW, if_neg (Ne.symm npq), px_KR, px_KW, if_neg (Ne.symm nwq)]; exact kq
    have Kw : hK S131 w = 22 := by rw [e131, px_KR, px_KW, if_neg (Ne.symm npw), px_KR, px_KW, if_pos rfl]
    have Kp : hK S131 p = 22 := by rw [e131, px_KR, px_KW, if_pos rfl]
    have Nw : hN S131 w = 5 := by rw [e131, px_NR, px_NW, if_neg (Ne.symm npw), px_NR, px_NW, if_pos rfl]
    have Np : hN S131 p = 5 := by rw [e131, px_NR, px_NW, if_pos rfl]
    have Rw : hR S131 101 q = some w := by rw [e131, px_RR, if_neg (fun z => absurd z.1 (by decide)), px_RW, px_RR, if_pos ⟨rfl, rfl⟩]
    have Rp : hR S131 102 q = some p := by rw [e131, px_RR, if_pos ⟨rfl, rfl⟩]
    have Iq : ∀ j, hI S131 j q = 0 := fun j => by rw [e131, px_IR, px_IW, px_IR, px_IW, e120, px_IO]; exact qz.1 j
    clear e131 e120
    rw [s4.2.1, e4.2, n4, nz_vp (by omega) (by decide), nI_clamp (n := i) (by omega)]
    refine ⟨by omega, fun S196 e196 v9 e9 => ?_⟩
    subst e9
    have kk : hK S196 = hK S131 := by rw [e196]; simp only [px_KI, px_KR, px_KA, px_KB, px_KO, px_KW, px_KC, px_NI, px_NR, px_NA, px_NB, px_NO, px_NW, px_NC, px_II, px_IR, px_IA, px_IB, px_IO, px_IW, px_IC, px_RI, px_RR, px_RA, px_RB, px_RO, px_RW, px_RC, px_AI, px_AR, px_AA, px_AB, px_AO, px_AW, px_AC, px_BI, px_BR, px_BA, px_BB, px_BO, px_BW, px_BC]
    have nn : hN S196 = hN S131 := by rw [e196]; simp only [px_KI, px_KR, px_KA, px_KB, px_KO, px_KW, px_KC, px_NI, px_NR, px_NA, px_NB, px_NO, px_NW, px_NC, px_II, px_IR, px_IA, px_IB, px_IO, px_IW, px_IC, px_RI, px_RR, px_RA, px_RB, px_RO, px_RW, px_RC, px_AI, px_AR, px_AA, px_AB, px_AO, px_AW, px_AC, px_BI, px_BR, px_BA, px_BB, px_BO, px_BW, px_BC]
    have rr : hR S196 = hR S131 := by rw [e196]; simp only [px_KI, px_KR, px_KA, px_KB, px_KO, px_KW, px_KC, px_NI, px_NR, px_NA, px_NB, px_NO, px_NW, px_NC, px_II, px_IR, px_IA, px_IB, px_IO, px_IW, px_IC, px_RI, px_RR, px_RA, px_RB, px_RO, px_RW, px_RC, px_AI, px_AR, px_AA, px_AB, px_AO, px_AW, px_AC, px_BI, px_BR, px_BA, px_BB, px_BO, px_BW, px_BC]
    have ii : hI S196 = hI S131 := by rw [e196]; simp only [px_KI, px_KR, px_KA, px_KB, px_KO, px_KW, px_KC, px_NI, px_NR, px_NA, px_NB, px_NO, px_NW, px_NC, px_II, px_IR, px_IA, px_IB, px_IO, px_IW, px_IC, px_RI, px_RR, px_RA, px_RB, px_RO, px_RW, px_RC, px_AI, px_AR, px_AA, px_AB, px_AO, px_AW, px_AC, px_BI, px_BR, px_BA, px_BB, px_BO, px_BW, px_BC]
    have f2 : frM S S196 (fun b => b = a 4) := by rw [a4, e196]; exact f131'.pB rfl _ _
    have nM : ∀ b, hK S b = 0 → ¬ M b := fun b hb z => absurd ((h2 b (hM b z)).1.symm.trans hb) (hM b z)
    have d38 : dfV (274 + 510 * 0 + 38 + (i + 1) - 1) = 0 := dfV_0 (by omega) (by omega)
    obtain ⟨a', ea, hV'⟩ := hV0.st (q := q) (w := w) (p := p) (S3 := S196) (by omega) f2 (by rw [e196]; exact ext_putB x131 _ _ _) q0 w0' p0' (Ne.symm nwq) (Ne.symm npq) (Ne.symm npw) (by rw [kk]; exact Kq) (by rw [kk]; exact Kw) (by rw [kk]; exact Kp) (by
      funext j
      rw [a4, e196, px_BB]
      unfold upd9
      by_cases c : j = i
      · rw [if_pos ⟨rfl, c⟩, if_pos c]
      · rw [if_neg (fun z => c z.2), if_neg c, s4.2.2.2.2.2]) (by rw [rr]; exact Rw) (by rw [rr]; exact Rp) ⟨by rw [kk]; exact Kq, nM q q0, by rw [ii, Iq, d38], by rw [ii, Iq]; exact (dfV_0 (by omega) (by omega)).symm, w, p, by rw [rr]; exact Rw, by rw [rr]; exact Rp, ⟨by rw [kk]; exact Kw, by rw [nn]; exact Nw, nM w w0'⟩, ⟨by rw [kk]; exact Kp, by rw [nn]; exact Np, nM p p0'⟩, fun j hj => by
        rw [d38] at hj
        exact absurd hj (Nat.not_lt_zero j)⟩
    exact ih (i + 1) f S196 a' _ _ (by omega) (by omega) (fun k hk => by rw [ea k (by omega)]; exact ha k hk) hV' (by omega) (by omega)
theorem k_X9_init (l : Launch) (D : va_G) (T : Nat → ClassId) (x0 : Nat) (S : HS) (e0 : (Nat → Prop)) (mc ms : Nat) (hx0 : hK S x0 = 10) (h : zr S x0 ∧ ¬ e0 x0 ∧ (∀ b, e0 b → hK S b ≠ 0) ∧ 32 ≤ mc ∧ 181 ≤ ms) : CMv l yX9_init (ws_X9_init) rm_X9_init D T [.ref x0] S mc ms (fun S1 => (frM S S1 (fun b => b = x0) ∧ RelV S1 e0 x0 dfV 0)) := c_X9_init l D T x0 S mc ms hx0 _ <|
  (by
    obtain ⟨hz, hMx, hM0, hmc, hms⟩ := h
    have hx : hK S x0 ≠ 0 := by rw [hx0]; decide
    unfold wp_X9_init
    rw [show Int32.toNatClampNeg 9 = 9 by decide, show Int32.toNatClampNeg 10 = 10 by decide, show Int32.toNatClampNeg 12 = 12 by decide]
    refine ⟨⟨⟨by decide, by decide⟩, by omega, by omega⟩, fun q1 q10 qz1 S8 e8 S15 e15 S21 e21 S27 e27 => ?_⟩
    obtain ⟨F15, X15, w1, k1, n1, g1, o1, i1, _, b1, _⟩ := nw_st (row := fun _ => 0) hx frM.rf ext_rf q10 (Or.inl e8) e15
    have F27 : frM S S27 (fun b => b = x0) := by rw [e27, e21]; exact (F15.pI rfl _ _).pI rfl _ _
    have X27 : ext S S27 := by rw [e27, e21]; exact ext_putI (ext_putI X15 _ _ _) _ _ _
    have k27 : hK S27 q1 = 26 := by rw [e27, e21]; simp only [px_KI, px_KR, px_KA, px_KB, px_KO, px_KW, px_KC, px_NI, px_NR, px_NA, px_NB, px_NO, px_NW, px_NC, px_II, px_IR, px_IA, px_IB, px_IO, px_IW, px_IC, px_RI, px_RR, px_RA, px_RB, px_RO, px_RW, px_RC, px_AI, px_AR, px_AA, px_AB, px_AO, px_AW, px_AC, px_BI, px_BR, px_BA, px_BB, px_BO, px_BW, px_BC]; exact k1
    have n27 : hN S27 q1 = 9 := by rw [e27, e21]; simp only [px_KI, px_KR, px_KA, px_KB, px_KO, px_KW, px_KC, px_NI, px_NR, px_NA, px_NB, px_NO, px_NW, px_NC, px_II, px_IR, px_IA, px_IB, px_IO, px_IW, px_IC, px_RI, px_RR, px_RA, px_RB, px_RO, px_RW, px_RC, px_AI, px_AR, px_AA, px_AB, px_AO, px_AW, px_AC, px_BI, px_BR, px_BA, px_BB, px_BO, px_BW, px_BC]; exact n1
    have g27 : hR S27 205 x0 = some q1 := by rw [e27, e21]; simp only [px_KI, px_KR, px_KA, px_KB, px_KO, px_KW, px_KC, px_NI, px_NR, px_NA, px_NB, px_NO, px_NW, px_NC, px_II, px_IR, px_IA, px_IB, px_IO, px_IW, px_IC, px_RI, px_RR, px_RA, px_RB, px_RO, px_RW, px_RC, px_AI, px_AR, px_AA, px_AB, px_AO, px_AW, px_AC, px_BI, px_BR, px_BA, px_BB, px_BO, px_BW, px_BC]; exact g1
    have b27 : hB S27 = hB S := by rw [e27, e21]; simp only [px_KI, px_KR, px_KA, px_KB, px_KO, px_KW, px_KC, px_NI, px_NR, px_NA, px_NB, px_NO, px_NW, px_NC, px_II, px_IR, px_IA, px_IB, px_IO, px_IW, px_IC, px_RI, px_RR, px_RA, px_RB, px_RO, px_RW, px_RC, px_AI, px_AR, px_AA, px_AB, px_AO, px_AW, px_AC, px_BI, px_BR, px_BA, px_BB, px_BO, px_BW, px_BC]; exact b1
    have I206 : hI S27 206 x0 = 5000 := by rw [e27, px_II, if_neg (fun z => absurd z.1 (by decide)), e21, px_II, if_pos ⟨rfl, rfl⟩]
    have I209 : hI S27 209 x0 = 999 := by rw [e27, px_II, if_pos ⟨rfl, rfl⟩]
    have I0 : ∀ j, j ≠ 206 → j ≠ 209 → hI S27 j x0 = 0 := fun j h6 h9 => by rw [e27, px_II, if_neg (fun z => h9 z.1), e21, px_II, if_neg (fun z => h6 z.1), i1]; exact hz.1 j
    clear e27 e21 e15 e8
    refine ⟨⟨⟨by decide, by decide⟩, by omega, by omega⟩, fun q2 q20 qz2 S39 e39 S46 e46 => ?_⟩
    obtain ⟨F46, X46, w2, k2, n2, g2, o2, i2, _, b2, _⟩ := nw_st (row := fun _ => 0) hx F27 X27 q20 (Or.inl e39) e46
    have x46 := ext_tr X27 X46
    refine ⟨⟨⟨by decide, by decide⟩, by omega, by omega⟩, fun q3 q30 qz3 S58 e58 S65 e65 => ?_⟩
    obtain ⟨F65, X65, w3, k3, n3, g3, o3, i3, _, b3, _⟩ := nw_st (row := fun _ => 0) hx F46 x46 q30 (Or.inl e58) e65
    have x65 := ext_tr x46 X65
    refine ⟨⟨⟨by decide, by decide⟩, by omega, by omega⟩, fun q4 q40 qz4 S77 e77 S84 e84 => ?_⟩
    obtain ⟨F84, X84, w4, k4, n4, g4, o4, i4, _, b4, _⟩ := nw_st (row := fun _ => 0) hx F65 x65 q40 (Or.inl e77) e84
    have x84 := ext_tr x65 X84
    refine ⟨⟨⟨by decide, by decide⟩, by omega, by omega⟩, fun q5 q50 qz5 S96 e96 S103 e103 => ?_⟩
    obtain ⟨F103, X103, w5, k5, n5, g5, o5, i5, _, b5, _⟩ := nw_st (row := fun _ => 0) hx F84 x84 q50 (Or.inl e96) e103
    have x103 := ext_tr x84 X103
    clear e103 e96 e84 e77 e65 e58 e46 e39
    have up : ∀ {Sa Sb : HS}, ext Sa Sb → ∀ {q k n : Nat}, hK Sa q = k ∧ hN Sa q = n → k ≠ 0 → hK Sb q = k ∧ hN Sb q = n := fun {_ _} hx {q k n} h h0 => by
      have := hx q (by rw [h.1]; exact h0)
      exact ⟨this.1.trans h.1, this.2.trans h.2⟩
    have u1 := up X103 (up X84 (up X65 (up X46 ⟨k27, n27⟩ (by decide)) (by decide)) (by decide)) (by decide)
    have u2 := up X103 (up X84 (up X65 ⟨k2, n2⟩ (by decide)) (by decide)) (by decide)
    have u3 := up X103 (up X84 ⟨k3, n3⟩ (by decide)) (by decide)
    have u4 := up X103 ⟨k4, n4⟩ (by decide)
    have n34 : q3 ≠ q4 := fun e => by rw [e, q40] at k3; exact absurd k3 (by decide)
    have n35 : q3 ≠ q5 := fun e => by have := (up X84 ⟨k3, n3⟩ (by decide)).1; rw [e, q50] at this; exact absurd this (by decide)
    have n45 : q4 ≠ q5 := fun e => by rw [e, q50] at k4; exact absurd k4 (by decide)
    have kx : hK S103 x0 = 10 := (x103 x0 hx).1.trans hx0
    have R1 : hR S103 205 x0 = some q1 := (o5 205 (by decide)).trans ((o4 205 (by decide)).trans ((o3 205 (by decide)).trans ((o2 205 (by decide)).trans g27)))
    have R2 : hR S103 210 x0 = some q2 := (o5 210 (by decide)).trans ((o4 210 (by decide)).trans ((o3 210 (by decide)).trans g2))
    have R3 : hR S103 202 x0 = some q3 := (o5 202 (by decide)).trans ((o4 202 (by decide)).trans g3)
    have R4 : hR S103 203 x0 = some q4 := (o5 203 (by decide)).trans g4
    have I103 : hI S103 = hI S27 := by rw [i5, i4, i3, i2]
    have B103 : hB S103 q2 = hB S27 q2 := by rw [b5, b4, b3, b2]
    have fr0 : ∀ {b : Nat}, hK S b ≠ 0 → ∀ {q : Nat}, hK S q = 0 → b ≠ q := fun hb _ hq e => hb (by rw [e]; exact hq)
    refine ⟨20, rl_v0 (S0 := S103) (M := e0) (A := fun k => if k = 0 then x0 else if k = 1 then q3 else if k = 2 then q4 else if k = 3 then q5 else if k = 4 then q1 else q2) kx R1 u1.1 u1.2 (fun b hb => by rw [(x103 b (hM0 b hb)).1]; exact hM0 b hb) (fun S1 a ea hVI => ?_) 9 0 20 S103 _ _ _ (by omega) (by omega) (fun k hk => rfl) ⟨frM.rf, ext_rf, fun k hk => ?_, fun k h6 hk => absurd hk (by omega), fun j k hj hk e => ?_, fun z hz => absurd hz (Nat.not_lt_zero z)⟩ (by omega) (by omega)⟩
    · obtain ⟨V1, V2, V3, V4, V5, V6⟩ := hVI
      have z4 : a 4 = q1 := ea 4 (by omega)
      have sv : ∀ {b : Nat}, hK S103 b ≠ 0 → b ≠ q1 → sam S103 S1 b := fun hb hn => V1 _ (by rw [z4]; exact hn) hb
      have F1 : frM S S1 (fun b => b = x0) := F103.nw V1 (fun b hb e => absurd w1 (by rw [← z4, ← e]; exact hb))
      have sx := sv (b := x0) (by rw [kx]; decide) (fr0 hx w1)
      have n2k : ∀ {q k : Nat}, hK S103 q = k → k ≠ 26 → q ≠ q1 := fun hq hk e => hk (by rw [← hq, e]; exact u1.1)
      have s2 := sv (b := q2) (by rw [u2.1]; decide) (n2k u2.1 (by decide))
      have s3 := sv (b := q3) (by rw [u3.1]; decide) (n2k u3.1 (by decide))
      have s4 := sv (b := q4) (by rw [u4.1]; decide) (n2k u4.1 (by decide))
      have s5 := sv (b := q5) (by rw [k5]; decide) (n2k k5 (by decide))
      have e1q := V2 q1 (by rw [u1.1]; decide)
      have nM : ∀ {q : Nat}, hK S q = 0 → ¬ e0 q := fun hq z => hM0 _ z hq
      refine ⟨F1, ⟨by rw [sx.1]; exact kx, hMx, ?_, ?_, ?_, ?_, ?_, ?_⟩, ⟨q3, q4, q5, by rw [sx.2.2.2.1]; exact R3, by rw [sx.2.2.2.1]; exact R4, by rw [sx.2.2.2.1]; exact g5, ⟨by rw [s3.1]; exact u3.1, by rw [s3.2.1]; exact u3.2, nM w3⟩, ⟨by rw [s4.1]; exact u4.1, by rw [s4.2.1]; exact u4.2, nM w4⟩, ⟨by rw [s5.1]; exact k5, by rw [s5.2.1]; exact n5, nM w5⟩, fun i hi => ?_⟩, ⟨q1, by rw [sx.2.2.2.1]; exact R1, ⟨by rw [e1q.1]; exact u1.1, by rw [e1q.2]; exact u1.2, nM w1⟩, fun z hz => ⟨a (6 + 3 * z), by rw [← z4]; exact (V6 z hz).1, (V6 z hz).2.2.2⟩⟩, ⟨q2, by rw [sx.2.2.2.1]; exact R2, ⟨by rw [s2.1]; exact u2.1, by rw [s2.2.1]; exact u2.2, nM w2⟩, fun b hb => Or.inl ⟨dfV_0 (by omega) (by omega), ?_⟩⟩⟩
      · rw [sx.2.2.1, I103, I0 _ (by decide) (by decide)]; rfl
      · rw [sx.2.2.1, I103, I0 _ (by decide) (by decide)]; rfl
      · rw [sx.2.2.1, I103, I206]; rfl
      · rw [sx.2.2.1, I103, I0 _ (by decide) (by decide)]; rfl
      · rw [sx.2.2.1, I103, I0 _ (by decide) (by decide)]; rfl
      · rw [sx.2.2.1, I103, I209]; rfl
      · exact absurd hi (by rw [dfV_0 (by omega) (by omega)]; exact Nat.not_lt_zero i)
      · rw [s2.2.2.2.2.2, B103]; exact qz2.2.2.2 b
    · have hk6 : k = 0 ∨ k = 1 ∨ k = 2 ∨ k = 3 ∨ k = 4 ∨ k = 5 := by omega
      rcases hk6 with e | e | e | e | e | e
      · subst e; exact kx
      · subst e; exact u3.1
      · subst e; exact u4.1
      · subst e; exact k5
      · subst e; exact u1.1
      · subst e; exact u2.1
    · have n31 : ∀ {q : Nat}, hK S103 q = 22 → q ≠ x0 ∧ q ≠ q1 ∧ q ≠ q2 := fun {q} hq => ⟨fun z => by rw [z, kx] at hq; exact absurd hq (by decide), fun z => by rw [z, u1.1] at hq; exact absurd hq (by decide), fun z => by rw [z, u2.1] at hq; exact absurd hq (by decide)⟩
      have n12 : q1 ≠ q2 := fun z => by have := u1.1; rw [z, u2.1] at this; exact absurd this (by decide)
      have nx1 : x0 ≠ q1 := fun z => by rw [z, u1.1] at kx; exact absurd kx (by decide)
      have nx2 : x0 ≠ q2 := fun z => by rw [z, u2.1] at kx; exact absurd kx (by decide)
      have hj6 : j = 0 ∨ j = 1 ∨ j = 2 ∨ j = 3 ∨ j = 4 ∨ j = 5 := by omega
      have hk6 : k = 0 ∨ k = 1 ∨ k = 2 ∨ k = 3 ∨ k = 4 ∨ k = 5 := by omega
      obtain ⟨a31, a32, a33⟩ := n31 u3.1
      obtain ⟨a41, a42, a43⟩ := n31 u4.1
      obtain ⟨a51, a52, a53⟩ := n31 k5
      rcases hj6 with e9 | e9 | e9 | e9 | e9 | e9 <;> rcases hk6 with e8 | e8 | e8 | e8 | e8 | e8 <;> subst e9 <;> subst e8 <;> first | rfl | exact absurd e nx1 | exact absurd e nx2 | exact absurd e.symm nx1 | exact absurd e.symm nx2 | exact absurd e n12 | exact absurd e.symm n12 | exact absurd e a31 | exact absurd e a32 | exact absurd e a33 | exact absurd e.symm a31 | exact absurd e.symm a32 | exact absurd e.symm a33 | exact absurd e a41 | exact absurd e a42 | exact absurd e a43 | exact absurd e.symm a41 | exact absurd e.symm a42 | exact absurd e.symm a43 | exact absurd e a51 | exact absurd e a52 | exact absurd e a53 | exact absurd e.symm a51 | exact absurd e.symm a52 | exact absurd e.symm a53 | exact absurd e n34 | exact absurd e n35 | exact absurd e n45 | exact absurd e.symm n34 | exact absurd e.symm n35 | exact absurd e.symm n45)
abbrev ws_X6_putStep : List Cond := Cond.code yX6_putStep cX6_putStep 4 none :: W0
abbrev rm_X6_putStep : Room := ({ frames := 1, cells := 0, slots := 0, locals := 22 } : Room)
def wp_X6_putStep (P : HS → Prop) (x0 : Nat) (p0 : Int32) (p1 : Int32) (S : HS) : Prop := ∃ (m1 : (Nat → Prop)) (m2 : Nat → Int32), ((WF m2 ∧ RelSt S m1 x0 m2) ∧ (∀ v8 : Int32, v8 = ((if stx m2 p0 < iv (m2 2) then nI (stx m2 p0) else -1)) → ((0 ≤ v8 → (∃ b11 : Nat, hR S 144 x0 = some b11 ∧ (hK S b11 = 22 → (vp_in v8 (hN S b11) ∧ (∀ S15 : HS, S15 = putA S b11 (Int32.toNatClampNeg v8) p0 → (∃ b21 : Nat, hR S15 145 x0 = some b21 ∧ (hK S15 b21 = 22 → (vp_in v8 (hN S15 b21) ∧ (∀ S25 : HS, S25 = putA S15 b21 (Int32.toNatClampNeg v8) p1 → (P S25)))))))))) ∧ (¬ 0 ≤ v8 → (((hI S 146 x0) < 5 → (∀ v31 : Int32, v31 = (hI S 146 x0) → (∀ S33 : HS, S33 = putI S 146 x0 ((hI S 146 x0) + 1) → (∃ b39 : Nat, hR S33 144 x0 = some b39 ∧ (hK S33 b39 = 22 → (vp_in v31 (hN S33 b39) ∧ (∀ S43 : HS, S43 = putA S33 b39 (Int32.toNatClampNeg v31) p0 → (∃ b49 : Nat, hR S43 145 x0 = some b49 ∧ (hK S43 b49 = 22 → (vp_in v31 (hN S43 b49) ∧ (∀ S53 : HS, S53 = putA S43 b49 (Int32.toNatClampNeg v31) p1 → (P S53)))))))))))) ∧ (¬ (hI S 146 x0) < 5 → (P S)))))))
set_option maxRecDepth 100000 in
set_option maxHeartbeats 4000000 in
theorem t_X6_putStep {p : Program} {l : Launch} {e : Env} {s : State} {m : MethodId} {args : Array Value} {below : List Frame} {meth : Method} {c : Code} {D : va_G} {A : Nat → Prop} {T : Nat → ClassId} (C : GC p s m args meth c cX6_putStep "FreightRater$State" (ws_X6_putStep) 4 D A (zty T)) (E : GE T A s) (hr : meth.sig.returnType = none) (P : HS → Prop) : ∀ (x0 : Nat) (p0 : Int32) (p1 : Int32) (S0 S : HS) (L : List Nat), S0 = S → wt S → hL S L → (hK S x0 = 7) → wp_X6_putStep P x0 p0 p1 S → GW p l e { rm_X6_putStep with cells := 0, slots := 0 } s m args below meth c D A 4 0 0 (MQ below (va_Qv (fun (u : HS × List Nat) => P u.1 ∧ CO S0 u) (CE D T A) A) args s 0 0 A) (CW T S L) 0 0 0 [(0, .ref x0), (1, .int p0), (2, .int p1)] [] := by
  have hW : ∀ {w : Cond}, w ∈ W0 → w.before args s = true := fun h => C.2.2.2.2.1 _ (List.mem_cons_of_mem _ h)
  intro x0 p0 p1 S0 S L hS0 hw hL hx0 h
  have he : ext S0 S := by rw [hS0]; exact ext_rf
  unfold wp_X6_putStep at h
  refine g_aload_n C dX6_putStep_0 rfl 0 rfl ?_
  refine g_iload_n C dX6_putStep_1 rfl 1 rfl ?_
  obtain ⟨m1, m2, h⟩ := h
  obtain ⟨g3, h⟩ := h
  refine gc_calliV (host := "") C E hw hL hx0 (by decide) (by decide) rfl [.int p0] rfl (k_X6_findStep l D T x0 p0 S m1 m2 hx0 g3) (w0_V 1 C.2.2.2.2.1 kw_1477 kw_1466 kw_1467 kw_2 kw_1468 rfl rfl (by decide +kernel) ⟨Nat.le_of_ble_eq_true rfl, Nat.le_of_ble_eq_true rfl⟩) rfl (Nat.le_of_ble_eq_true rfl) (Nat.le_refl _) (Nat.le_refl _) (Nat.zero_le _) (Nat.zero_le _) dX6_putStep_2 (fun v9 S9 L4 he9 hw9 hL9 hp => ?_)
  obtain ⟨hv9, hs9⟩ := hp
  replace hs9 := hs9.symm
  subst hs9
  replace hv9 := hv9.symm
  subst hv9
  have w7 := hL9
  refine g_topi (fun v8 ev8 => ?_)
  replace h := h v8 ev8
  refine g_istore_n (lv' := [(3, .int v8), (0, .ref x0), (1, .int p0), (2, .int p1)]) C dX6_putStep_5 rfl (by decide) rfl ?_
  refine g_iload_n C dX6_putStep_6 rfl 0 rfl ?_
  refine g_if_ge (tgt := 34) C dX6_putStep_7 (by decide) (fun z9 => ?_) (fun z9 => ?_)
  · replace h := h.1 z9
    refine g_aload_n C dX6_putStep_34 rfl 1 rfl ?_
    refine gc_getR C hw iwx_X6 w7 hx0 (by decide) (by decide) rfl 4 (by decide) (hW kw_68) rfl rfl rfl dX6_putStep_35 (fun o10 eo10 ko10 => ?_)
    obtain ⟨b11, hb9, h⟩ := h
    have g12 : hK S b11 = 22 := ko10 b11 (eo10.trans hb9)
    replace h := h g12
    refine g_opt (eo10.trans hb9) ?_
    refine g_iload_n C dX6_putStep_38 rfl 0 rfl ?_
    refine g_iload_n C dX6_putStep_39 rfl 2 rfl ?_
    obtain ⟨g13, h⟩ := h
    refine gc_iast C w7 g12 g13 dX6_putStep_40 ?_
    have w14 := wt_putA hw (Int32.toNatClampNeg v8) p0 (k_ne g12 (by decide))
    refine gc_nS (fun S15 eS15 => ?_)
    replace h := h S15 eS15
    have w16 : wt S15 := by rw [eS15]; exact w14
    have w17 : isL S15 L4 := by rw [eS15]; exact w7
    have w18 : ext S0 S15 := by rw [eS15]; exact he
    have g19 : hK S15 x0 = 7 := by rw [eS15]; exact hx0
    refine g_aload_n C dX6_putStep_41 rfl 1 rfl ?_
    refine gc_getR C w16 iwx_X6 w17 g19 (by decide) (by decide) rfl 5 (by decide) (hW kw_69) rfl rfl rfl dX6_putStep_42 (fun o20 eo20 ko20 => ?_)
    obtain ⟨b21, hb9, h⟩ := h
    have g22 : hK S15 b21 = 22 := ko20 b21 (eo20.trans hb9)
    replace h := h g22
    refine g_opt (eo20.trans hb9) ?_
    refine g_iload_n C dX6_putStep_45 rfl 0 rfl ?_
    refine g_iload_n C dX6_putStep_46 rfl 3 rfl ?_
    obtain ⟨g23, h⟩ := h
    refine gc_iast C w17 g22 g23 dX6_putStep_47 ?_
    have w24 := wt_putA w16 (Int32.toNatClampNeg v8) p1 (k_ne g22 (by decide))
    refine gc_nS (fun S25 eS25 => ?_)
    replace h := h S25 eS25
    have w26 : wt S25 := by rw [eS25]; exact w24
    have w27 : isL S25 L4 := by rw [eS25]; exact w17
    have w28 : ext S0 S25 := by rw [eS25]; exact w18
    have g29 : hK S25 x0 = 7 := by rw [eS25]; exact g19
    exact gc_vret C w26 w27 w28 hr dX6_putStep_48 h
  · replace h := h.2 z9
    refine g_aload_n C dX6_putStep_10 rfl 1 rfl ?_
    refine gc_getI C iwx_X6 w7 hx0 (by decide) (by decide) rfl 6 (by decide) (hW kw_70) rfl rfl rfl dX6_putStep_11 ?_
    refine g_iconst (v := 5) C dX6_putStep_14 (by decide) ?_
    refine g_icmp_lt (tgt := 19) C dX6_putStep_15 (by decide) (fun z30 => ?_) (fun z30 => ?_)
    · replace h := h.1 z30
      refine g_aload_n C dX6_putStep_19 rfl 1 rfl ?_
      refine gc_getI C iwx_X6 w7 hx0 (by decide) (by decide) rfl 6 (by decide) (hW kw_70) rfl rfl rfl dX6_putStep_20 ?_
      refine g_topi (fun v31 ev31 => ?_)
      replace h := h v31 ev31
      refine g_istore_n (lv' := [(3, .int v31), (0, .ref x0), (1, .int p0), (2, .int p1)]) C dX6_putStep_23 rfl (by decide) rfl ?_
      refine g_aload_n C dX6_putStep_24 rfl 1 rfl ?_
      refine g_dup C dX6_putStep_25 rfl ?_
      refine gc_getI C iwx_X6 w7 hx0 (by decide) (by decide) rfl 6 (by decide) (hW kw_70) rfl rfl rfl dX6_putStep_26 ?_
      refine g_iconst (v := 1) C dX6_putStep_29 (by decide) ?_
      refine g_iadd C dX6_putStep_30 ?_
      refine gc_putI C iwx_X6 w7 hx0 (by decide) (by decide) rfl 6 (by decide) (hW kw_70) rfl tyX6 tyX6_ok nmX6 rfl rfl rfl rfl rfl dX6_putStep_31 ?_
      have w32 := wt_putI hw 146 ((hI S 146 x0) + 1) (k_ne hx0 (by decide))
      refine gc_nS (fun S33 eS33 => ?_)
      replace h := h S33 eS33
      have w34 : wt S33 := by rw [eS33]; exact w32
      have w35 : isL S33 L4 := by rw [eS33]; exact w7
      have w36 : ext S0 S33 := by rw [eS33]; exact he
      have g37 : hK S33 x0 = 7 := by rw [eS33]; exact hx0
      refine g_aload_n C dX6_putStep_34 rfl 1 rfl ?_
      refine gc_getR C w34 iwx_X6 w35 g37 (by decide) (by decide) rfl 4 (by decide) (hW kw_68) rfl rfl rfl dX6_putStep_35 (fun o38 eo38 ko38 => ?_)
      obtain ⟨b39, hb9, h⟩ := h
      have g40 : hK S33 b39 = 22 := ko38 b39 (eo38.trans hb9)
      replace h := h g40
      refine g_opt (eo38.trans hb9) ?_
      refine g_iload_n C dX6_putStep_38 rfl 0 rfl ?_
      refine g_iload_n C dX6_putStep_39 rfl 2 rfl ?_
      obtain ⟨g41, h⟩ := h
      refine gc_iast C w35 g40 g41 dX6_putStep_40 ?_
      have w42 := wt_putA w34 (Int32.toNatClampNeg v31) p0 (k_ne g40 (by decide))
      refine gc_nS (fun S43 eS43 => ?_)
      replace h := h S43 eS43
      have w44 : wt S43 := by rw [eS43]; exact w42
      have w45 : isL S43 L4 := by rw [eS43]; exact w35
      have w46 : ext S0 S43 := by rw [eS43]; exact w36
      have g47 : hK S43 x0 = 7 := by rw [eS43]; exact g37
      refine g_aload_n C dX6_putStep_41 rfl 1 rfl ?_
      refine gc_getR C w44 iwx_X6 w45 g47 (by decide) (by decide) rfl 5 (by decide) (hW kw_69) rfl rfl rfl dX6_putStep_42 (fun o48 eo48 ko48 => ?_)
      obtain ⟨b49, hb9, h⟩ := h
      have g50 : hK S43 b49 = 22 := ko48 b49 (eo48.trans hb9)
      replace h := h g50
      refine g_opt (eo48.trans hb9) ?_
      refine g_iload_n C dX6_putStep_45 rfl 0 rfl ?_
      refine g_iload_n C dX6_putStep_46 rfl 3 rfl ?_
      obtain ⟨g51, h⟩ := h
      refine gc_iast C w45 g50 g51 dX6_putStep_47 ?_
      have w52 := wt_putA w44 (Int32.toNatClampNeg v31) p1 (k_ne g50 (by decide))
      refine gc_nS (fun S53 eS53 => ?_)
      replace h := h S53 eS53
      have w54 : wt S53 := by rw [eS53]; exact w52
      have w55 : isL S53 L4 := by rw [eS53]; exact w45
      have w56 : ext S0 S53 := by rw [eS53]; exact w46
      have g57 : hK S53 x0 = 7 := by rw [eS53]; exact g47
      exact gc_vret C w54 w55 w56 hr dX6_putStep_48 h
    · replace h := h.2 z30
      exact gc_vret C hw w7 he hr dX6_putStep_18 h
theorem c_X6_putStep (l : Launch) (D : va_G) (T : Nat → ClassId) (x0 : Nat) (p0 : Int32) (p1 : Int32) (S : HS) (hx0 : hK S x0 = 7) (P : HS → Prop) (h : wp_X6_putStep P x0 p0 p1 S) : CMv l yX6_putStep (ws_X6_putStep) rm_X6_putStep D T [.ref x0, .int p0, .int p1] S 0 0 P := gc_metv (by decide) rfl rfl (Nat.le_of_ble_eq_true rfl) (fun p e s m args below meth c A L C E hnm hr hw hL => t_X6_putStep C E   hr P x0 p0 p1 S S L rfl hw hL hx0 h)
/-- the steps differ -/
theorem RelSt.sp {S S1 : HS} {M : Nat → Prop} {x c d : Nat} {μ μ' : Nat → Int32} (hw : WF μ) (h : RelSt S M x μ) (hc : hR S 144 x = some c) (hd : hR S 145 x = some d) (hk : hK S1 = hK S) (hn : hN S1 = hN S) (hr : hR S1 = hR S) (hb : hB S1 = hB S) (hf : frM S S1 M) (i1 : ∀ j, j ≠ 146 → hI S1 j x = hI S j x) (i2 : hI S1 146 x = μ' 2) (hm : ∀ k, k = 0 ∨ k = 1 ∨ k = 3 ∨ 14 ≤ k → μ' k = μ k) (hs : ∀ i, i < iv (μ' 2) → hA S1 c i = μ' (4 + 2 * i) ∧ hA S1 d i = μ' (4 + 2 * i + 1)) : RelSt S1 M x μ' := by
  obtain ⟨⟨h1, h2, h3, h4, h5⟩, ⟨b, r1, k1, n1, hb9⟩, ⟨b2, r2, k2, n2, hc9⟩, ⟨t, p, r3, r4, k3, k4, n3, n4, ht⟩⟩ := h
  have e1 : t = c := Option.some.inj (r3.symm.trans hc)
  have e2 : p = d := Option.some.inj (r4.symm.trans hd)
  subst e1 e2
  have m0 : μ' 0 = μ 0 := hm 0 (by omega)
  have m1 : μ' 1 = μ 1 := hm 1 (by omega)
  refine ⟨⟨by rw [hk]; exact h1, by rw [i1 _ (by decide), m0]; exact h2, by rw [i1 _ (by decide), m1]; exact h3, i2, by rw [i1 _ (by decide), hm 3 (by omega)]; exact h5⟩, ⟨b, by rw [hr]; exact r1, by rw [hk]; exact k1, by rw [hn]; exact n1, fun v hv => ?_⟩, ⟨b2, by rw [hr]; exact r2, by rw [hk]; exact k2, by rw [hn]; exact n2, fun s hs9 => ?_⟩, ⟨t, p, by rw [hr]; exact r3, by rw [hr]; exact r4, by rw [hk]; exact k3, by rw [hk]; exact k4, by rw [hn]; exact n3, by rw [hn]; exact n4, hs⟩⟩
  · rw [m0] at hv
    obtain ⟨n, hn6, en⟩ := hw.1
    have hv6 : v < 6 := by
      have := hv
      rw [en, show iv (nI n) = n from nI_clamp (by omega)] at this
      omega
    obtain ⟨y, y1, y2⟩ := hb9 v hv
    exact ⟨y, by rw [hb]; exact y1, (y2.fm hf).cg (fun k hk9 => hm _ (by omega)) (hw.rng hv6) (hw.b5 hv6) (hw.v30 hv6)⟩
  · rw [m1] at hs9
    obtain ⟨n, hn6, en⟩ := hw.2.1
    have hs10 : s < 10 := by
      have := hs9
      rw [en, show iv (nI n) = n from nI_clamp (by omega)] at this
      omega
    obtain ⟨y, y1, y2⟩ := hc9 s hs9
    exact ⟨y, by rw [hb]; exact y1, (y2.fm hf).cg (fun k hk9 => hm _ (by omega)) (hw.pcs hs10)⟩
theorem k_X6_putStep (l : Launch) (D : va_G) (T : Nat → ClassId) (x0 : Nat) (p0 : Int32) (p1 : Int32) (S : HS) (e0 : (Nat → Prop)) (e1 : Nat → Int32) (hx0 : hK S x0 = 7) (h : (WF e1 ∧ RelSt S e0 x0 e1) ∧ StO S x0 ∧ (∀ b, stA S x0 b → e0 b) ∧ ¬ p1 = 0 ∧ (stx e1 p0 < iv (e1 2) ∨ iv (e1 2) < 5)) : CMv l yX6_putStep (ws_X6_putStep) rm_X6_putStep D T [.ref x0, .int p0, .int p1] S 0 0 (fun S1 => (frM S S1 (stA S x0) ∧ hK S1 = hK S ∧ hN S1 = hN S ∧ hR S1 = hR S ∧ RelSt S1 e0 x0 (rebS e1 p0 p1))) := c_X6_putStep l D T x0 p0 p1 S hx0 _ <|
  (by
    obtain ⟨⟨hw, hR9⟩, hO, hM, hp0, hx⟩ := h
    have hR0 := hR9
    obtain ⟨h7, a, b, c, d, ra, rb, rc, rd, ka, na, kb, nb, kc9, nc, kd9, nd, hcd⟩ := hO
    obtain ⟨⟨h1, h2, h3, h4, h5⟩, _, _, ⟨t, p, r3, r4, _, _, _, _, ht⟩⟩ := hR9
    have q1 : t = c := Option.some.inj (r3.symm.trans rc)
    have q2 : p = d := Option.some.inj (r4.symm.trans rd)
    subst q1 q2
    obtain ⟨n, hn, en⟩ := hw.2.2.1
    have i2 : iv (e1 2) = n := by rw [en]; exact nI_clamp (by omega)
    have hle := (stx_le (μ := e1) (t := p0) n 0).2
    have hst : stx e1 p0 ≤ n := by unfold stx; rw [i2]; omega
    rw [i2] at hx
    have mt : e0 t := hM _ (Or.inr (Or.inr (Or.inr (Or.inl rc))))
    have mp9 : e0 p := hM _ (Or.inr (Or.inr (Or.inr (Or.inr rd))))
    have mx : e0 x0 := hM _ (Or.inl rfl)
    have at_ : stA S x0 t := Or.inr (Or.inr (Or.inr (Or.inl rc)))
    have ap : stA S x0 p := Or.inr (Or.inr (Or.inr (Or.inr rd)))
    have i146 : hI S 146 x0 = nI n := h4.trans en
    unfold wp_X6_putStep
    refine ⟨e0, e1, ⟨hw, hR0⟩, fun v ev => ?_⟩
    rw [i2] at ev
    have fin : ∀ S1 : HS, S1 = putA (putA (putI S 146 x0 (nI (if stx e1 p0 < n then n else n + 1))) t (stx e1 p0) p0) p (stx e1 p0) p1 → frM S S1 (stA S x0) ∧ hK S1 = hK S ∧ hN S1 = hN S ∧ hR S1 = hR S ∧ RelSt S1 e0 x0 (rebS e1 p0 p1) := fun S1 e => by
      have r2 : rebS e1 p0 p1 2 = nI (if stx e1 p0 < n then n else n + 1) := by
        unfold rebS
        rw [if_neg hp0]
        unfold upd
        rw [if_neg (by omega), if_neg (by omega), if_pos rfl, i2, en]
        by_cases g : stx e1 p0 < n
        · rw [if_pos g, if_pos g]
        · rw [if_neg g, if_neg g, nI_1]
      have fo : ∀ N : Nat → Prop, N x0 → N t → N p → frM S S1 N := fun N n1 n2 n3 => by rw [e]; exact ((frM.rf.pI n1 _ _).pA n2 _ _).pA n3 _ _
      refine ⟨fo _ (Or.inl rfl) at_ ap, by rw [e]; simp only [px_KI, px_KR, px_KA, px_KB, px_KO, px_KW, px_KC, px_NI, px_NR, px_NA, px_NB, px_NO, px_NW, px_NC, px_II, px_IR, px_IA, px_IB, px_IO, px_IW, px_IC, px_RI, px_RR, px_RA, px_RB, px_RO, px_RW, px_RC, px_AI, px_AR, px_AA, px_AB, px_AO, px_AW, px_AC, px_BI, px_BR, px_BA, px_BB, px_BO, px_BW, px_BC], by rw [e]; simp only [px_KI, px_KR, px_KA, px_KB, px_KO, px_KW, px_KC, px_NI, px_NR, px_NA, px_NB, px_NO, px_NW, px_NC, px_II, px_IR, px_IA, px_IB, px_IO, px_IW, px_IC, px_RI, px_RR, px_RA, px_RB, px_RO, px_RW, px_RC, px_AI, px_AR, px_AA, px_AB, px_AO, px_AW, px_AC, px_BI, px_BR, px_BA, px_BB, px_BO, px_BW, px_BC], by rw [e]; simp only [px_KI, px_KR, px_KA, px_KB, px_KO, px_KW, px_KC, px_NI, px_NR, px_NA, px_NB, px_NO, px_NW, px_NC, px_II, px_IR, px_IA, px_IB, px_IO, px_IW, px_IC, px_RI, px_RR, px_RA, px_RB, px_RO, px_RW, px_RC, px_AI, px_AR, px_AA, px_AB, px_AO, px_AW, px_AC, px_BI, px_BR, px_BA, px_BB, px_BO, px_BW, px_BC], hR0.sp hw rc rd (by rw [e]; simp only [px_KI, px_KR, px_KA, px_KB, px_KO, px_KW, px_KC, px_NI, px_NR, px_NA, px_NB, px_NO, px_NW, px_NC, px_II, px_IR, px_IA, px_IB, px_IO, px_IW, px_IC, px_RI, px_RR, px_RA, px_RB, px_RO, px_RW, px_RC, px_AI, px_AR, px_AA, px_AB, px_AO, px_AW, px_AC, px_BI, px_BR, px_BA, px_BB, px_BO, px_BW, px_BC]) (by rw [e]; simp only [px_KI, px_KR, px_KA, px_KB, px_KO, px_KW, px_KC, px_NI, px_NR, px_NA, px_NB, px_NO, px_NW, px_NC, px_II, px_IR, px_IA, px_IB, px_IO, px_IW, px_IC, px_RI, px_RR, px_RA, px_RB, px_RO, px_RW, px_RC, px_AI, px_AR, px_AA, px_AB, px_AO, px_AW, px_AC, px_BI, px_BR, px_BA, px_BB, px_BO, px_BW, px_BC]) (by rw [e]; simp only [px_KI, px_KR, px_KA, px_KB, px_KO, px_KW, px_KC, px_NI, px_NR, px_NA, px_NB, px_NO, px_NW, px_NC, px_II, px_IR, px_IA, px_IB, px_IO, px_IW, px_IC, px_RI, px_RR, px_RA, px_RB, px_RO, px_RW, px_RC, px_AI, px_AR, px_AA, px_AB, px_AO, px_AW, px_AC, px_BI, px_BR, px_BA, px_BB, px_BO, px_BW, px_BC]) (by rw [e]; simp only [px_KI, px_KR, px_KA, px_KB, px_KO, px_KW, px_KC, px_NI, px_NR, px_NA, px_NB, px_NO, px_NW, px_NC, px_II, px_IR, px_IA, px_IB, px_IO, px_IW, px_IC, px_RI, px_RR, px_RA, px_RB, px_RO, px_RW, px_RC, px_AI, px_AR, px_AA, px_AB, px_AO, px_AW, px_AC, px_BI, px_BR, px_BA, px_BB, px_BO, px_BW, px_BC]) (fo _ mx mt mp9) (fun j hj => ?_) ?_ (fun k hk => ?_) (fun i hi => ?_)⟩
      · rw [e, px_IA, px_IA, px_II, if_neg (fun z => hj z.1)]
      · rw [e, px_IA, px_IA, px_II, if_pos ⟨rfl, rfl⟩, r2]
      · unfold rebS
        rw [if_neg hp0]
        unfold upd
        rw [if_neg (by omega), if_neg (by omega), if_neg (by omega)]
      · have hi9 : i < n ∨ i = stx e1 p0 := by
          rw [r2] at hi
          by_cases g : stx e1 p0 < n
          · rw [if_pos g, show iv (nI n) = n from nI_clamp (by omega)] at hi; exact Or.inl hi
          · rw [if_neg g, show iv (nI (n + 1)) = n + 1 from nI_clamp (by omega)] at hi; omega
        have a1 : hA S1 t i = if i = stx e1 p0 then p0 else hA S t i := by
          rw [e, putA_o _ _ _ hcd, px_A1, px_AI]
        have a2 : hA S1 p i = if i = stx e1 p0 then p1 else hA S p i := by
          rw [e, px_A1, putA_o _ _ _ (Ne.symm hcd), px_AI]
        have c1 : rebS e1 p0 p1 (4 + 2 * i) = (if i = stx e1 p0 then p0 else e1 (4 + 2 * i)) ∧ rebS e1 p0 p1 (4 + 2 * i + 1) = (if i = stx e1 p0 then p1 else e1 (4 + 2 * i + 1)) := by
          unfold rebS
          rw [if_neg hp0]
          unfold upd
          refine ⟨?_, ?_⟩ <;> (repeat' split) <;> first | rfl | omega
        rw [a1, a2, c1.1, c1.2]
        by_cases g : i = stx e1 p0
        · simp only [if_pos g, and_self]
        · simp only [if_neg g]
          exact ht i (by rw [i2]; omega)
    by_cases g : stx e1 p0 < n
    · rw [if_pos g] at ev
      subst ev
      refine ⟨fun _ => ⟨t, rc, fun _ => ?_⟩, fun z => absurd (by rw [show (0 : Int32) = nI 0 from rfl, nI_leI (by decide) (by omega)]; omega) z⟩
      rw [nc, nz_vp (by omega) (by decide), nI_clamp (n := stx e1 p0) (by omega)]
      refine ⟨by omega, fun S15 e15 => ⟨p, by rw [e15, px_RA]; exact rd, fun _ => ?_⟩⟩
      rw [show hN S15 p = 5 by rw [e15, px_NA]; exact nd, nz_vp (by omega) (by decide)]
      refine ⟨by omega, fun S25 e25 => fin S25 ?_⟩
      rw [if_pos g, ← i146, e25, e15]
      have hid : putI S 146 x0 (hI S 146 x0) = S := by
        unfold putI
        have : up2 (hI S) 146 x0 (hI S 146 x0) = hI S := by
          funext j y
          unfold up2
          by_cases c9 : j = 146 ∧ y = x0
          · rw [if_pos c9, c9.1, c9.2]
          · rw [if_neg c9]
        rw [this]
        rfl
      rw [hid]
    · rw [if_neg g] at ev
      subst ev
      refine ⟨fun z => absurd z (by decide), fun _ => ⟨fun _ v31 e31 S33 e33 => ?_, fun z => ?_⟩⟩
      · rw [i146] at e31 e33
        subst e31
        rw [nI_1] at e33
        refine ⟨t, by rw [e33, px_RI]; exact rc, fun _ => ?_⟩
        rw [show hN S33 t = 5 by rw [e33, px_NI]; exact nc, nz_vp (by omega) (by decide), nI_clamp (n := n) (by omega)]
        refine ⟨by omega, fun S43 e43 => ⟨p, by rw [e43, e33, px_RA, px_RI]; exact rd, fun _ => ?_⟩⟩
        rw [show hN S43 p = 5 by rw [e43, e33, px_NA, px_NI]; exact nd, nz_vp (by omega) (by decide)]
        refine ⟨by omega, fun S53 e53 => fin S53 ?_⟩
        rw [if_neg g, show stx e1 p0 = n by omega, e53, e43, e33]
      · rw [i146] at z
        exact absurd ((nI_ltI (b := 5) (by omega) (by decide)).mpr (by omega)) z)
abbrev ws_X6_removeStep : List Cond := Cond.code yX6_removeStep cX6_removeStep 2 none :: W0
abbrev rm_X6_removeStep : Room := ({ frames := 1, cells := 0, slots := 0, locals := 22 } : Room)
def wp_X6_removeStep (P : HS → Prop) (x0 : Nat) (p0 : Int32) (S : HS) : Prop := (¬ (zin p0 0 ((hI S 146 x0) - 1)) = 0 → (∀ S7 : HS, S7 = putI S 146 x0 ((hI S 146 x0) - 1) → (∃ b13 : Nat, hR S7 144 x0 = some b13 ∧ (hK S7 b13 = 22 → (∃ b16 : Nat, hR S7 144 x0 = some b16 ∧ (hK S7 b16 = 22 → (vp_in (hI S7 146 x0) (hN S7 b16) ∧ (vp_in p0 (hN S7 b13) ∧ (∀ S21 : HS, S21 = putA S7 b13 (Int32.toNatClampNeg p0) (hA S7 b16 (Int32.toNatClampNeg (hI S7 146 x0))) → (∃ b27 : Nat, hR S21 145 x0 = some b27 ∧ (hK S21 b27 = 22 → (∃ b30 : Nat, hR S21 145 x0 = some b30 ∧ (hK S21 b30 = 22 → (vp_in (hI S21 146 x0) (hN S21 b30) ∧ (vp_in p0 (hN S21 b27) ∧ (∀ S35 : HS, S35 = putA S21 b27 (Int32.toNatClampNeg p0) (hA S21 b30 (Int32.toNatClampNeg (hI S21 146 x0))) → (P S35))))))))))))))))) ∧ ((zin p0 0 ((hI S 146 x0) - 1)) = 0 → (P S))
set_option maxRecDepth 100000 in
set_option maxHeartbeats 4000000 in
theorem t_X6_removeStep {p : Program} {l : Launch} {e : Env} {s : State} {m : MethodId} {args : Array Value} {below : List Frame} {meth : Method} {c : Code} {D : va_G} {A : Nat → Prop} {T : Nat → ClassId} (C : GC p s m args meth c cX6_removeStep "FreightRater$State" (ws_X6_removeStep) 2 D A (zty T)) (E : GE T A s) (hr : meth.sig.returnType = none) (P : HS → Prop) : ∀ (x0 : Nat) (p0 : Int32) (S0 S : HS) (L : List Nat), S0 = S → wt S → hL S L → (hK S x0 = 7) → wp_X6_removeStep P x0 p0 S → GW p l e { rm_X6_removeStep with cells := 0, slots := 0 } s m args below meth c D A 2 0 0 (MQ below (va_Qv (fun (u : HS × List Nat) => P u.1 ∧ CO S0 u) (CE D T A) A) args s 0 0 A) (CW T S L) 0 0 0 [(0, .ref x0), (1, .int p0)] [] := by
  have hW : ∀ {w : Cond}, w ∈ W0 → w.before args s = true := fun h => C.2.2.2.2.1 _ (List.mem_cons_of_mem _ h)
  intro x0 p0 S0 S L hS0 hw hL hx0 h
  have he : ext S0 S := by rw [hS0]; exact ext_rf
  unfold wp_X6_removeStep at h
  refine g_iload_n C dX6_removeStep_0 rfl 1 rfl ?_
  refine g_iconst (v := 0) C dX6_removeStep_1 (by decide) ?_
  refine g_aload_n C dX6_removeStep_2 rfl 0 rfl ?_
  refine gc_getI C iwx_X6 hL hx0 (by decide) (by decide) rfl 6 (by decide) (hW kw_70) rfl rfl rfl dX6_removeStep_3 ?_
  refine g_iconst (v := 1) C dX6_removeStep_6 (by decide) ?_
  refine g_isub C dX6_removeStep_7 ?_
  refine gc_calliSN (host := "FreightRater") C E hw hL [.int p0, .int 0, .int ((hI S 146 x0) - 1)] rfl (k_X10_isBetween l D T p0 0 ((hI S 146 x0) - 1) S ) (w0_SN 3 E C.2.2.2.2.1 (by decide) kw_304 kw_1 kw_305 rfl rfl (by decide +kernel) ⟨Nat.le_of_ble_eq_true rfl, Nat.le_of_ble_eq_true rfl⟩) rfl (Nat.le_of_ble_eq_true rfl) (Nat.le_refl _) (Nat.le_refl _) (Nat.zero_le _) (Nat.zero_le _) dX6_removeStep_8 (fun v9 S9 L1 he9 hw9 hL9 hp => ?_)
  obtain ⟨hv9, hs9⟩ := hp
  replace hs9 := hs9.symm
  subst hs9
  replace hv9 := hv9.symm
  subst hv9
  have w4 := hL9
  refine g_if_ne (tgt := 15) C dX6_removeStep_11 (by decide) (fun z5 => ?_) (fun z5 => ?_)
  · replace h := h.1 z5
    refine g_aload_n C dX6_removeStep_15 rfl 0 rfl ?_
    refine g_dup C dX6_removeStep_16 rfl ?_
    refine gc_getI C iwx_X6 w4 hx0 (by decide) (by decide) rfl 6 (by decide) (hW kw_70) rfl rfl rfl dX6_removeStep_17 ?_
    refine g_iconst (v := 1) C dX6_removeStep_20 (by decide) ?_
    refine g_isub C dX6_removeStep_21 ?_
    refine gc_putI C iwx_X6 w4 hx0 (by decide) (by decide) rfl 6 (by decide) (hW kw_70) rfl tyX6 tyX6_ok nmX6 rfl rfl rfl rfl rfl dX6_removeStep_22 ?_
    have w6 := wt_putI hw 146 ((hI S 146 x0) - 1) (k_ne hx0 (by decide))
    refine gc_nS (fun S7 eS7 => ?_)
    replace h := h S7 eS7
    have w8 : wt S7 := by rw [eS7]; exact w6
    have w9 : isL S7 L1 := by rw [eS7]; exact w4
    have w10 : ext S0 S7 := by rw [eS7]; exact he
    have g11 : hK S7 x0 = 7 := by rw [eS7]; exact hx0
    refine g_aload_n C dX6_removeStep_25 rfl 0 rfl ?_
    refine gc_getR C w8 iwx_X6 w9 g11 (by decide) (by decide) rfl 4 (by decide) (hW kw_68) rfl rfl rfl dX6_removeStep_26 (fun o12 eo12 ko12 => ?_)
    obtain ⟨b13, hb9, h⟩ := h
    have g14 : hK S7 b13 = 22 := ko12 b13 (eo12.trans hb9)
    replace h := h g14
    refine g_opt (eo12.trans hb9) ?_
    refine g_iload_n C dX6_removeStep_29 rfl 1 rfl ?_
    refine g_aload_n C dX6_removeStep_30 rfl 0 rfl ?_
    refine gc_getR C w8 iwx_X6 w9 g11 (by decide) (by decide) rfl 4 (by decide) (hW kw_68) rfl rfl rfl dX6_removeStep_31 (fun o15 eo15 ko15 => ?_)
    obtain ⟨b16, hb9, h⟩ := h
    have g17 : hK S7 b16 = 22 := ko15 b16 (eo15.trans hb9)
    replace h := h g17
    refine g_opt (eo15.trans hb9) ?_
    refine g_aload_n C dX6_removeStep_34 rfl 0 rfl ?_
    refine gc_getI C iwx_X6 w9 g11 (by decide) (by decide) rfl 6 (by decide) (hW kw_70) rfl rfl rfl dX6_removeStep_35 ?_
    obtain ⟨g18, h⟩ := h
    refine gc_iald C w9 g17 g18 dX6_removeStep_38 ?_
    obtain ⟨g19, h⟩ := h
    refine gc_iast C w9 g14 g19 dX6_removeStep_39 ?_
    have w20 := wt_putA w8 (Int32.toNatClampNeg p0) (hA S7 b16 (Int32.toNatClampNeg (hI S7 146 x0))) (k_ne g14 (by decide))
    refine gc_nS (fun S21 eS21 => ?_)
    replace h := h S21 eS21
    have w22 : wt S21 := by rw [eS21]; exact w20
    have w23 : isL S21 L1 := by rw [eS21]; exact w9
    have w24 : ext S0 S21 := by rw [eS21]; exact w10
    have g25 : hK S21 x0 = 7 := by rw [eS21]; exact g11
    refine g_aload_n C dX6_removeStep_40 rfl 0 rfl ?_
    refine gc_getR C w22 iwx_X6 w23 g25 (by decide) (by decide) rfl 5 (by decide) (hW kw_69) rfl rfl rfl dX6_removeStep_41 (fun o26 eo26 ko26 => ?_)
    obtain ⟨b27, hb9, h⟩ := h
    have g28 : hK S21 b27 = 22 := ko26 b27 (eo26.trans hb9)
    replace h := h g28
    refine g_opt (eo26.trans hb9) ?_
    refine g_iload_n C dX6_removeStep_44 rfl 1 rfl ?_
    refine g_aload_n C dX6_removeStep_45 rfl 0 rfl ?_
    refine gc_getR C w22 iwx_X6 w23 g25 (by decide) (by decide) rfl 5 (by decide) (hW kw_69) rfl rfl rfl dX6_removeStep_46 (fun o29 eo29 ko29 => ?_)
    obtain ⟨b30, hb9, h⟩ := h
    have g31 : hK S21 b30 = 22 := ko29 b30 (eo29.trans hb9)
    replace h := h g31
    refine g_opt (eo29.trans hb9) ?_
    refine g_aload_n C dX6_removeStep_49 rfl 0 rfl ?_
    refine gc_getI C iwx_X6 w23 g25 (by decide) (by decide) rfl 6 (by decide) (hW kw_70) rfl rfl rfl dX6_removeStep_50 ?_
    obtain ⟨g32, h⟩ := h
    refine gc_iald C w23 g31 g32 dX6_removeStep_53 ?_
    obtain ⟨g33, h⟩ := h
    refine gc_iast C w23 g28 g33 dX6_removeStep_54 ?_
    have w34 := wt_putA w22 (Int32.toNatClampNeg p0) (hA S21 b30 (Int32.toNatClampNeg (hI S21 146 x0))) (k_ne g28 (by decide))
    refine gc_nS (fun S35 eS35 => ?_)
    replace h := h S35 eS35
    have w36 : wt S35 := by rw [eS35]; exact w34
    have w37 : isL S35 L1 := by rw [eS35]; exact w23
    have w38 : ext S0 S35 := by rw [eS35]; exact w24
    have g39 : hK S35 x0 = 7 := by rw [eS35]; exact g25
    exact gc_vret C w36 w37 w38 hr dX6_removeStep_55 h
  · replace h := h.2 z5
    exact gc_vret C hw w4 he hr dX6_removeStep_14 h
theorem c_X6_removeStep (l : Launch) (D : va_G) (T : Nat → ClassId) (x0 : Nat) (p0 : Int32) (S : HS) (hx0 : hK S x0 = 7) (P : HS → Prop) (h : wp_X6_removeStep P x0 p0 S) : CMv l yX6_removeStep (ws_X6_removeStep) rm_X6_removeStep D T [.ref x0, .int p0] S 0 0 P := gc_metv (by decide) rfl rfl (Nat.le_of_ble_eq_true rfl) (fun p e s m args below meth c A L C E hnm hr hw hL => t_X6_removeStep C E   hr P x0 p0 S S L rfl hw hL hx0 h)
theorem k_X6_removeStep (l : Launch) (D : va_G) (T : Nat → ClassId) (x0 : Nat) (p0 : Int32) (S : HS) (e0 : (Nat → Prop)) (e1 : Nat → Int32) (e2 : Int32) (hx0 : hK S x0 = 7) (h : (WF e1 ∧ RelSt S e0 x0 e1) ∧ StO S x0 ∧ (∀ b, stA S x0 b → e0 b) ∧ stx e1 e2 < iv (e1 2) ∧ p0 = nI (stx e1 e2)) : CMv l yX6_removeStep (ws_X6_removeStep) rm_X6_removeStep D T [.ref x0, .int p0] S 0 0 (fun S1 => (frM S S1 (stA S x0) ∧ hK S1 = hK S ∧ hN S1 = hN S ∧ hR S1 = hR S ∧ RelSt S1 e0 x0 (rebS e1 e2 0))) := c_X6_removeStep l D T x0 p0 S hx0 _ <|
  (by
    obtain ⟨⟨hw, hR9⟩, hO, hM, hx, e9⟩ := h
    subst e9
    have hR0 := hR9
    obtain ⟨h7, a, b, c, d, ra, rb, rc, rd, ka, na, kb, nb, kc9, nc, kd9, nd, hcd⟩ := hO
    obtain ⟨⟨h1, h2, h3, h4, h5⟩, _, _, ⟨t, p, r3, r4, _, _, _, _, ht⟩⟩ := hR9
    have q1 : t = c := Option.some.inj (r3.symm.trans rc)
    have q2 : p = d := Option.some.inj (r4.symm.trans rd)
    subst q1 q2
    obtain ⟨n, hn, en⟩ := hw.2.2.1
    have i2 : iv (e1 2) = n := by rw [en]; exact nI_clamp (by omega)
    rw [i2] at hx
    have mt : e0 t := hM _ (Or.inr (Or.inr (Or.inr (Or.inl rc))))
    have mp9 : e0 p := hM _ (Or.inr (Or.inr (Or.inr (Or.inr rd))))
    have mx : e0 x0 := hM _ (Or.inl rfl)
    have at_ : stA S x0 t := Or.inr (Or.inr (Or.inr (Or.inl rc)))
    have ap : stA S x0 p := Or.inr (Or.inr (Or.inr (Or.inr rd)))
    have i146 : hI S 146 x0 = nI n := h4.trans en
    have em : nI n - 1 = nI (n - 1) := sub_k (b := 1) (by omega)
    unfold wp_X6_removeStep
    rw [i146, em]
    have hin : ¬ zin (nI (stx e1 e2)) 0 (nI (n - 1)) = 0 := by
      rw [show (0 : Int32) = nI 0 from rfl]
      exact fun q => by
        have := zin_bn (lo := 0) (hi := n - 1) (y := nI (stx e1 e2)) rfl (by omega) (by decide) (by omega)
        rw [show (0 : Int32) = nI 0 from rfl] at this
        exact absurd (this.mp q) (fun z => z ⟨by omega, by omega⟩)
    refine ⟨fun _ S7 e7 => ⟨t, by rw [e7, px_RI]; exact rc, fun _ => ⟨t, by rw [e7, px_RI]; exact rc, fun _ => ?_⟩⟩, fun z => absurd z hin⟩
    have i7 : hI S7 146 x0 = nI (n - 1) := by rw [e7, putI_s]
    rw [i7, show hN S7 t = 5 by rw [e7, px_NI]; exact nc, nz_vp (by omega) (by decide), nz_vp (by omega) (by decide), nI_clamp (n := stx e1 e2) (by omega), nI_clamp (n := n - 1) (by omega)]
    refine ⟨by omega, by omega, fun S21 e21 => ⟨p, by rw [e21, e7, px_RA, px_RI]; exact rd, fun _ => ⟨p, by rw [e21, e7, px_RA, px_RI]; exact rd, fun _ => ?_⟩⟩⟩
    have i21 : hI S21 146 x0 = nI (n - 1) := by rw [e21, px_IA]; exact i7
    rw [i21, show hN S21 p = 5 by rw [e21, e7, px_NA, px_NI]; exact nd, nz_vp (by omega) (by decide), nz_vp (by omega) (by decide), nI_clamp (n := n - 1) (by omega)]
    refine ⟨by omega, by omega, fun S35 e35 => ?_⟩
    have t7 : hA S7 t = hA S t := by rw [e7, px_AI]
    have p21 : hA S21 p = hA S p := by rw [e21, putA_o _ _ _ (Ne.symm hcd), e7, px_AI]
    rw [t7] at e21
    rw [p21] at e35
    have r2 : rebS e1 e2 0 2 = nI (n - 1) := by
      unfold rebS
      rw [if_pos rfl]
      unfold upd
      rw [if_neg (by omega), if_neg (by omega), if_pos rfl, en, em]
    have fo : ∀ N : Nat → Prop, N x0 → N t → N p → frM S S35 N := fun N n1 n2 n3 => by rw [e35, e21, e7]; exact ((frM.rf.pI n1 _ _).pA n2 _ _).pA n3 _ _
    refine ⟨fo _ (Or.inl rfl) at_ ap, by rw [e35, e21, e7]; simp only [px_KI, px_KR, px_KA, px_KB, px_KO, px_KW, px_KC, px_NI, px_NR, px_NA, px_NB, px_NO, px_NW, px_NC, px_II, px_IR, px_IA, px_IB, px_IO, px_IW, px_IC, px_RI, px_RR, px_RA, px_RB, px_RO, px_RW, px_RC, px_AI, px_AR, px_AA, px_AB, px_AO, px_AW, px_AC, px_BI, px_BR, px_BA, px_BB, px_BO, px_BW, px_BC], by rw [e35, e21, e7]; simp only [px_KI, px_KR, px_KA, px_KB, px_KO, px_KW, px_KC, px_NI, px_NR, px_NA, px_NB, px_NO, px_NW, px_NC, px_II, px_IR, px_IA, px_IB, px_IO, px_IW, px_IC, px_RI, px_RR, px_RA, px_RB, px_RO, px_RW, px_RC, px_AI, px_AR, px_AA, px_AB, px_AO, px_AW, px_AC, px_BI, px_BR, px_BA, px_BB, px_BO, px_BW, px_BC], by rw [e35, e21, e7]; simp only [px_KI, px_KR, px_KA, px_KB, px_KO, px_KW, px_KC, px_NI, px_NR, px_NA, px_NB, px_NO, px_NW, px_NC, px_II, px_IR, px_IA, px_IB, px_IO, px_IW, px_IC, px_RI, px_RR, px_RA, px_RB, px_RO, px_RW, px_RC, px_AI, px_AR, px_AA, px_AB, px_AO, px_AW, px_AC, px_BI, px_BR, px_BA, px_BB, px_BO, px_BW, px_BC], hR0.sp hw rc rd (by rw [e35, e21, e7]; simp only [px_KI, px_KR, px_KA, px_KB, px_KO, px_KW, px_KC, px_NI, px_NR, px_NA, px_NB, px_NO, px_NW, px_NC, px_II, px_IR, px_IA, px_IB, px_IO, px_IW, px_IC, px_RI, px_RR, px_RA, px_RB, px_RO, px_RW, px_RC, px_AI, px_AR, px_AA, px_AB, px_AO, px_AW, px_AC, px_BI, px_BR, px_BA, px_BB, px_BO, px_BW, px_BC]) (by rw [e35, e21, e7]; simp only [px_KI, px_KR, px_KA, px_KB, px_KO, px_KW, px_KC, px_NI, px_NR, px_NA, px_NB, px_NO, px_NW, px_NC, px_II, px_IR, px_IA, px_IB, px_IO, px_IW, px_IC, px_RI, px_RR, px_RA, px_RB, px_RO, px_RW, px_RC, px_AI, px_AR, px_AA, px_AB, px_AO, px_AW, px_AC, px_BI, px_BR, px_BA, px_BB, px_BO, px_BW, px_BC]) (by rw [e35, e21, e7]; simp only [px_KI, px_KR, px_KA, px_KB, px_KO, px_KW, px_KC, px_NI, px_NR, px_NA, px_NB, px_NO, px_NW, px_NC, px_II, px_IR, px_IA, px_IB, px_IO, px_IW, px_IC, px_RI, px_RR, px_RA, px_RB, px_RO, px_RW, px_RC, px_AI, px_AR, px_AA, px_AB, px_AO, px_AW, px_AC, px_BI, px_BR, px_BA, px_BB, px_BO, px_BW, px_BC]) (by rw [e35, e21, e7]; simp only [px_KI, px_KR, px_KA, px_KB, px_KO, px_KW, px_KC, px_NI, px_NR, px_NA, px_NB, px_NO, px_NW, px_NC, px_II, px_IR, px_IA, px_IB, px_IO, px_IW, px_IC, px_RI, px_RR, px_RA, px_RB, px_RO, px_RW, px_RC, px_AI, px_AR, px_AA, px_AB, px_AO, px_AW, px_AC, px_BI, px_BR, px_BA, px_BB, px_BO, px_BW, px_BC]) (fo _ mx mt mp9) (fun j hj => ?_) ?_ (fun k hk => ?_) (fun i hi => ?_)⟩
    · rw [e35, e21, e7, px_IA, px_IA, px_II, if_neg (fun z => hj z.1)]
    · rw [e35, px_IA, i21, r2]
    · unfold rebS
      rw [if_pos rfl]
      unfold upd
      rw [if_neg (by omega), if_neg (by omega), if_neg (by omega)]
    · rw [r2, show iv (nI (n - 1)) = n - 1 from nI_clamp (by omega)] at hi
      have a1 : hA S35 t i = if i = stx e1 e2 then hA S t (n - 1) else hA S t i := by
        rw [e35, putA_o _ _ _ hcd, e21, px_A1, t7]
      have a2 : hA S35 p i = if i = stx e1 e2 then hA S p (n - 1) else hA S p i := by
        rw [e35, px_A1, p21]
      have c1 : rebS e1 e2 0 (4 + 2 * i) = (if i = stx e1 e2 then e1 (4 + 2 * (n - 1)) else e1 (4 + 2 * i)) ∧ rebS e1 e2 0 (4 + 2 * i + 1) = (if i = stx e1 e2 then e1 (4 + 2 * (n - 1) + 1) else e1 (4 + 2 * i + 1)) := by
        unfold rebS
        rw [if_pos rfl, i2]
        unfold upd
        refine ⟨?_, ?_⟩ <;> (repeat' split) <;> first | rfl | omega
      rw [a1, a2, c1.1, c1.2]
      by_cases g : i = stx e1 e2
      · simp only [if_pos g]
        exact ht (n - 1) (by rw [i2]; omega)
      · simp only [if_neg g]
        exact ht i (by rw [i2]; omega))

end S_C5J
