section S_CAG
abbrev ws_X10_divide : List Cond := Cond.code yX10_divide cX10_divide 10 none :: W0
abbrev rm_X10_divide : Room := ({ frames := 16, cells := 0, slots := 0, locals := 493 } : Room)
def wb_X10_divide_11 (rec : Nat → Int32 → Int32 → Nat → Int64 → Int32 → HS → Nat → Nat → Prop) (K77 : Nat → Int32 → Int32 → Nat → Int64 → HS → Nat → Nat → Prop) (P : HS → Prop) (x0 : Nat) (x1 : Int32) (x2 : Int32) (x3 : Nat) (x4 : Int64) (x6 : Int32) (S : HS) (kc ks : Nat) : Prop := ∃ b15 : Nat, hR S 220 x0 = some b15 ∧ (hK S b15 = 7 → (((hI S 143 b15) ≤ x6 → (K77 x0 x1 x2 x3 x4 S kc ks)) ∧ (¬ (hI S 143 b15) ≤ x6 → (((hasF x1 x6) = 0 → (∀ v23 : Int32, v23 = x6 + 1 → (rec x0 x1 x2 x3 x4 v23 S kc ks))) ∧ (¬ (hasF x1 x6) = 0 → (∃ b25 : Nat, hR S 232 x0 = some b25 ∧ (hK S b25 = 3 → (∃ b28 : Nat, hR S 220 x0 = some b28 ∧ (hK S b28 = 7 → (∃ (m30 : (Nat → Prop)) (m31 : Nat → Int32), ((WF m31 ∧ WFR m31 ∧ RelSt S m30 b28 m31 ∧ RtO S m30 b25 b28 ∧ gok m31 ((1 : Int32) <<< (x6 &&& 31))) ∧ (∀ (S33 : HS), ext S S33 → (frR S S33 b25 ∧ wkP S33 b25 m31 (iv ((1 : Int32) <<< (x6 &&& 31)))) → (∃ b42 : Nat, hR S33 232 x0 = some b42 ∧ (hK S33 b42 = 3 → (vp_in x6 (hN S33 x3) ∧ (∀ S46 : HS, S46 = putA S33 x3 (Int32.toNatClampNeg x6) (hI S33 67 b42) → (∃ b53 : Nat, hR S46 232 x0 = some b53 ∧ (hK S46 b53 = 3 → (∀ v55 : Int64, v55 = (x4 + (Int32.toInt64 (hI S46 67 b53))) → (∀ v56 : Int32, v56 = x6 + 1 → (rec x0 x1 x2 x3 v55 v56 S46 kc ks)))))))))))))))))))))
def wp_X10_divide_11 (K77 : Nat → Int32 → Int32 → Nat → Int64 → HS → Nat → Nat → Prop) (P : HS → Prop) : Nat → Nat → Int32 → Int32 → Nat → Int64 → Int32 → HS → Nat → Nat → Prop
  | 0 => fun _ _ _ _ _ _ _ _ _ => False
  | n + 1 => fun x0 x1 x2 x3 x4 x6 S kc ks => wb_X10_divide_11 (wp_X10_divide_11 K77 P n) K77 P x0 x1 x2 x3 x4 x6 S kc ks
set_option maxRecDepth 100000 in
set_option maxHeartbeats 4000000 in
theorem t_X10_divide_11 {p : Program} {l : Launch} {e : Env} {s : State} {m : MethodId} {args : Array Value} {below : List Frame} {meth : Method} {c : Code} {D : va_G} {A : Nat → Prop} {T : Nat → ClassId} {mc ms : Nat} (C : GC p s m args meth c cX10_divide "FreightRater" (ws_X10_divide) 10 D A (zty T)) (E : GE T A s) (hr : meth.sig.returnType = none) (S0 : HS) (K77 : Nat → Int32 → Int32 → Nat → Int64 → HS → Nat → Nat → Prop) (P : HS → Prop) (hK77 : ∀ (x0 : Nat) (x1 : Int32) (x2 : Int32) (x3 : Nat) (x4 : Int64) (S : HS) (kc ks : Nat) (L : List Nat), wt S → hL S L → ext S0 S → (hK S x0 = 11) → (hK S x3 = 22) → K77 x0 x1 x2 x3 x4 S kc ks → GW p l e { rm_X10_divide with cells := mc, slots := ms } s m args below meth c D A 10 mc ms (MQ below (va_Qv (fun (u : HS × List Nat) => P u.1 ∧ CO S0 u) (CE D T A) A) args s mc ms A) (CW T S L) kc ks 77 [(0, .ref x0), (1, .int x1), (2, .int x2), (3, .ref x3), (4, .long x4)] []) : ∀ (n : Nat) (x0 : Nat) (x1 : Int32) (x2 : Int32) (x3 : Nat) (x4 : Int64) (x6 : Int32) (S : HS) (kc ks : Nat) (L : List Nat), wt S → hL S L → ext S0 S → (hK S x0 = 11) → (hK S x3 = 22) → wp_X10_divide_11 K77 P n x0 x1 x2 x3 x4 x6 S kc ks → GW p l e { rm_X10_divide with cells := mc, slots := ms } s m args below meth c D A 10 mc ms (MQ below (va_Qv (fun (u : HS × List Nat) => P u.1 ∧ CO S0 u) (CE D T A) A) args s mc ms A) (CW T S L) kc ks 11 [(0, .ref x0), (1, .int x1), (2, .int x2), (3, .ref x3), (4, .long x4), (6, .int x6)] [] := by
  have hW : ∀ {w : Cond}, w ∈ W0 → w.before args s = true := fun h => C.2.2.2.2.1 _ (List.mem_cons_of_mem _ h)
  intro n
  induction n with
  | zero => intro x0 x1 x2 x3 x4 x6 S kc ks L hw hL he hx0 hx3 h; exact h.elim
  | succ n ih =>
    intro x0 x1 x2 x3 x4 x6 S kc ks L hw hL he hx0 hx3 h
    replace h : wb_X10_divide_11 (wp_X10_divide_11 K77 P n) K77 P x0 x1 x2 x3 x4 x6 S kc ks := h
    unfold wb_X10_divide_11 at h
    refine g_iload C dX10_divide_11 5 rfl ?_
    refine g_aload_n C dX10_divide_13 rfl 0 rfl ?_
    refine gc_getR C hw iwx_X10 hL hx0 (by decide) (by decide) rfl 0 (by decide) (hW kw_242) rfl rfl rfl dX10_divide_14 (fun o14 eo14 ko14 => ?_)
    obtain ⟨b15, hb9, h⟩ := h
    have g16 : hK S b15 = 7 := ko14 b15 (eo14.trans hb9)
    replace h := h g16
    refine g_opt (eo14.trans hb9) ?_
    refine gc_getI C iwx_X6 hL g16 (by decide) (by decide) rfl 3 (by decide) (hW kw_67) rfl rfl rfl dX10_divide_17 ?_
    refine g_icmp_ge (tgt := 77) C dX10_divide_20 (by decide) (fun z17 => ?_) (fun z17 => ?_)
    · replace h := h.1 z17
      refine g_locals [0, 1, 2, 3, 4] rfl ?_
      exact hK77 x0 x1 x2 x3 x4 S kc ks L hw hL he hx0 hx3 h
    · replace h := h.2 z17
      refine g_iload_n C dX10_divide_23 rfl 1 rfl ?_
      refine g_iload C dX10_divide_24 5 rfl ?_
      refine gc_calliS (host := "") C E hw hL [.int x1, .int x6] rfl (k_X10_isIn l D T x1 x6 S ) (w0_S 2 C.2.2.2.2.1 kw_1344 kw_1204 kw_1 kw_1205 rfl rfl (by decide +kernel) ⟨Nat.le_of_ble_eq_true rfl, Nat.le_of_ble_eq_true rfl⟩) rfl (Nat.le_of_ble_eq_true rfl) (Nat.le_refl _) (Nat.le_refl _) (Nat.zero_le _) (Nat.zero_le _) dX10_divide_26 (fun v9 S9 L18 he9 hw9 hL9 hp => ?_)
      obtain ⟨hv9, hs9⟩ := hp
      replace hs9 := hs9.symm
      subst hs9
      replace hv9 := hv9.symm
      subst hv9
      have w21 := hL9
      refine g_if_eq (tgt := 71) C dX10_divide_29 (by decide) (fun z22 => ?_) (fun z22 => ?_)
      · replace h := h.1 z22
        obtain ⟨v23, ev23⟩ : ∃ y : Int32, y = x6 + 1 := ⟨_, rfl⟩
        replace h := h v23 ev23
        refine g_iinc (v := v23) (lv' := [(6, .int v23), (0, .ref x0), (1, .int x1), (2, .int x2), (3, .ref x3), (4, .long x4)]) C dX10_divide_71 (j := 5) rfl (by rw [ev23]; rfl) (by decide) rfl ?_
        refine g_goto (tgt := 11) C dX10_divide_74 (by decide) ?_
        refine g_locals [1, 2, 3, 4, 5, 0] rfl ?_
        exact ih x0 x1 x2 x3 x4 v23 S kc ks L18 hw w21 he hx0 hx3 h
      · replace h := h.2 z22
        refine g_aload_n C dX10_divide_32 rfl 0 rfl ?_
        refine gc_getR C hw iwx_X10 w21 hx0 (by decide) (by decide) rfl 12 (by decide) (hW kw_254) rfl rfl rfl dX10_divide_33 (fun o24 eo24 ko24 => ?_)
        obtain ⟨b25, hb9, h⟩ := h
        have g26 : hK S b25 = 3 := ko24 b25 (eo24.trans hb9)
        replace h := h g26
        refine g_opt (eo24.trans hb9) ?_
        refine g_aload_n C dX10_divide_36 rfl 0 rfl ?_
        refine gc_getR C hw iwx_X10 w21 hx0 (by decide) (by decide) rfl 0 (by decide) (hW kw_242) rfl rfl rfl dX10_divide_37 (fun o27 eo27 ko27 => ?_)
        obtain ⟨b28, hb9, h⟩ := h
        have g29 : hK S b28 = 7 := ko27 b28 (eo27.trans hb9)
        replace h := h g29
        refine g_opt (eo27.trans hb9) ?_
        refine g_iconst (v := 1) C dX10_divide_40 (by decide) ?_
        refine g_iload C dX10_divide_41 5 rfl ?_
        refine g_ishl C dX10_divide_43 ?_
        obtain ⟨m30, m31, h⟩ := h
        obtain ⟨g32, h⟩ := h
        refine gc_callvV (host := "") C E hw w21 g26 (by decide) (by decide) rfl [.ref b28, .int ((1 : Int32) <<< (x6 &&& 31))] rfl (k_X2_work l D T b25 b28 ((1 : Int32) <<< (x6 &&& 31)) S m30 m31 g26 g29 g32) (w0_V 2 C.2.2.2.2.1 kw_1195 kw_1196 kw_1197 kw_7 kw_1198 rfl rfl (by decide +kernel) ⟨Nat.le_of_ble_eq_true rfl, Nat.le_of_ble_eq_true rfl⟩) rfl (Nat.le_of_ble_eq_true rfl) (Nat.le_refl _) (Nat.le_refl _) (Nat.zero_le _) (Nat.zero_le _) dX10_divide_44 (fun S33 L34 e35 w36 w37 hp => ?_)
        replace h := h S33 e35 hp
        have g38 := ext_K e35 hx0 (by decide)
        have g39 := ext_K e35 hx3 (by decide)
        have w40 := ext_tr he e35
        refine g_aload_n C dX10_divide_47 rfl 3 rfl ?_
        refine g_iload C dX10_divide_48 5 rfl ?_
        refine g_aload_n C dX10_divide_50 rfl 0 rfl ?_
        refine gc_getR C w36 iwx_X10 w37 g38 (by decide) (by decide) rfl 12 (by decide) (hW kw_254) rfl rfl rfl dX10_divide_51 (fun o41 eo41 ko41 => ?_)
        obtain ⟨b42, hb9, h⟩ := h
        have g43 : hK S33 b42 = 3 := ko41 b42 (eo41.trans hb9)
        replace h := h g43
        refine g_opt (eo41.trans hb9) ?_
        refine gc_getI C iwx_X2 w37 g43 (by decide) (by decide) rfl 7 (by decide) (hW kw_149) rfl rfl rfl dX10_divide_54 ?_
        obtain ⟨g44, h⟩ := h
        refine gc_iast C w37 g39 g44 dX10_divide_57 ?_
        have w45 := wt_putA w36 (Int32.toNatClampNeg x6) (hI S33 67 b42) (k_ne g39 (by decide))
        refine gc_nS (fun S46 eS46 => ?_)
        replace h := h S46 eS46
        have w47 : wt S46 := by rw [eS46]; exact w45
        have w48 : isL S46 L34 := by rw [eS46]; exact w37
        have w49 : ext S0 S46 := by rw [eS46]; exact w40
        have g50 : hK S46 x0 = 11 := by rw [eS46]; exact g38
        have g51 : hK S46 x3 = 22 := by rw [eS46]; exact g39
        refine g_lload C dX10_divide_58 4 rfl ?_
        refine g_aload_n C dX10_divide_60 rfl 0 rfl ?_
        refine gc_getR C w47 iwx_X10 w48 g50 (by decide) (by decide) rfl 12 (by decide) (hW kw_254) rfl rfl rfl dX10_divide_61 (fun o52 eo52 ko52 => ?_)
        obtain ⟨b53, hb9, h⟩ := h
        have g54 : hK S46 b53 = 3 := ko52 b53 (eo52.trans hb9)
        replace h := h g54
        refine g_opt (eo52.trans hb9) ?_
        refine gc_getI C iwx_X2 w48 g54 (by decide) (by decide) rfl 7 (by decide) (hW kw_149) rfl rfl rfl dX10_divide_64 ?_
        refine g_i2l C dX10_divide_67 rfl ?_
        refine g_ladd C dX10_divide_68 ?_
        refine g_topl (fun v55 ev55 => ?_)
        replace h := h v55 ev55
        refine g_lstore (lv' := [(4, .long v55), (0, .ref x0), (1, .int x1), (2, .int x2), (3, .ref x3), (6, .int x6)]) C dX10_divide_69 (by decide) rfl ?_
        obtain ⟨v56, ev56⟩ : ∃ y : Int32, y = x6 + 1 := ⟨_, rfl⟩
        replace h := h v56 ev56
        refine g_iinc (v := v56) (lv' := [(6, .int v56), (4, .long v55), (0, .ref x0), (1, .int x1), (2, .int x2), (3, .ref x3)]) C dX10_divide_71 (j := 5) rfl (by rw [ev56]; rfl) (by decide) rfl ?_
        refine g_goto (tgt := 11) C dX10_divide_74 (by decide) ?_
        refine g_locals [2, 3, 4, 5, 1, 0] rfl ?_
        exact ih x0 x1 x2 x3 v55 v56 S46 kc ks L34 w47 w48 w49 g50 g51 h
def wb_X10_divide_91 (rec : Nat → Int32 → Int32 → Nat → Int64 → Int32 → Int32 → HS → Nat → Nat → Prop) (K126 : Nat → Int32 → Int32 → Nat → Int64 → Int32 → HS → Nat → Nat → Prop) (P : HS → Prop) (x0 : Nat) (x1 : Int32) (x2 : Int32) (x3 : Nat) (x4 : Int64) (x6 : Int32) (x7 : Int32) (S : HS) (kc ks : Nat) : Prop := ∃ b60 : Nat, hR S 220 x0 = some b60 ∧ (hK S b60 = 7 → (((hI S 143 b60) ≤ x7 → (K126 x0 x1 x2 x3 x4 x6 S kc ks)) ∧ (¬ (hI S 143 b60) ≤ x7 → (vp_in x7 (hN S x3) ∧ (¬ x4 = 0 ∧ (∀ v65 : Int32, v65 = (x6 - (Int64.toInt32 (((Int32.toInt64 x2) * (Int32.toInt64 (hA S x3 (Int32.toNatClampNeg x7)))) / x4))) → (∀ v66 : Int32, v66 = x7 + 1 → (rec x0 x1 x2 x3 x4 v65 v66 S kc ks))))))))
def wp_X10_divide_91 (K126 : Nat → Int32 → Int32 → Nat → Int64 → Int32 → HS → Nat → Nat → Prop) (P : HS → Prop) : Nat → Nat → Int32 → Int32 → Nat → Int64 → Int32 → Int32 → HS → Nat → Nat → Prop
  | 0 => fun _ _ _ _ _ _ _ _ _ _ => False
  | n + 1 => fun x0 x1 x2 x3 x4 x6 x7 S kc ks => wb_X10_divide_91 (wp_X10_divide_91 K126 P n) K126 P x0 x1 x2 x3 x4 x6 x7 S kc ks
set_option maxRecDepth 100000 in
set_option maxHeartbeats 4000000 in
theorem t_X10_divide_91 {p : Program} {l : Launch} {e : Env} {s : State} {m : MethodId} {args : Array Value} {below : List Frame} {meth : Method} {c : Code} {D : va_G} {A : Nat → Prop} {T : Nat → ClassId} {mc ms : Nat} (C : GC p s m args meth c cX10_divide "FreightRater" (ws_X10_divide) 10 D A (zty T)) (E : GE T A s) (hr : meth.sig.returnType = none) (S0 : HS) (K126 : Nat → Int32 → Int32 → Nat → Int64 → Int32 → HS → Nat → Nat → Prop) (P : HS → Prop) (hK126 : ∀ (x0 : Nat) (x1 : Int32) (x2 : Int32) (x3 : Nat) (x4 : Int64) (x6 : Int32) (S : HS) (kc ks : Nat) (L : List Nat), wt S → hL S L → ext S0 S → (hK S x0 = 11) → (hK S x3 = 22) → K126 x0 x1 x2 x3 x4 x6 S kc ks → GW p l e { rm_X10_divide with cells := mc, slots := ms } s m args below meth c D A 10 mc ms (MQ below (va_Qv (fun (u : HS × List Nat) => P u.1 ∧ CO S0 u) (CE D T A) A) args s mc ms A) (CW T S L) kc ks 126 [(0, .ref x0), (1, .int x1), (2, .int x2), (3, .ref x3), (4, .long x4), (6, .int x6)] []) : ∀ (n : Nat) (x0 : Nat) (x1 : Int32) (x2 : Int32) (x3 : Nat) (x4 : Int64) (x6 : Int32) (x7 : Int32) (S : HS) (kc ks : Nat) (L : List Nat), wt S → hL S L → ext S0 S → (hK S x0 = 11) → (hK S x3 = 22) → wp_X10_divide_91 K126 P n x0 x1 x2 x3 x4 x6 x7 S kc ks → GW p l e { rm_X10_divide with cells := mc, slots := ms } s m args below meth c D A 10 mc ms (MQ below (va_Qv (fun (u : HS × List Nat) => P u.1 ∧ CO S0 u) (CE D T A) A) args s mc ms A) (CW T S L) kc ks 91 [(0, .ref x0), (1, .int x1), (2, .int x2), (3, .ref x3), (4, .long x4), (6, .int x6), (7, .int x7)] [] := by
  have hW : ∀ {w : Cond}, w ∈ W0 → w.before args s = true := fun h => C.2.2.2.2.1 _ (List.mem_cons_of_mem _ h)
  intro n
  induction n with
  | zero => intro x0 x1 x2 x3 x4 x6 x7 S kc ks L hw hL he hx0 hx3 h; exact h.elim
  | succ n ih =>
    intro x0 x1 x2 x3 x4 x6 x7 S kc ks L hw hL he hx0 hx3 h
    replace h : wb_X10_divide_91 (wp_X10_divide_91 K126 P n) K126 P x0 x1 x2 x3 x4 x6 x7 S kc ks := h
    unfold wb_X10_divide_91 at h
    refine g_iload C dX10_divide_91 6 rfl ?_
    refine g_aload_n C dX10_divide_93 rfl 0 rfl ?_
    refine gc_getR C hw iwx_X10 hL hx0 (by decide) (by decide) rfl 0 (by decide) (hW kw_242) rfl rfl rfl dX10_divide_94 (fun o59 eo59 ko59 => ?_)
    obtain ⟨b60, hb9, h⟩ := h
    have g61 : hK S b60 = 7 := ko59 b60 (eo59.trans hb9)
    replace h := h g61
    refine g_opt (eo59.trans hb9) ?_
    refine gc_getI C iwx_X6 hL g61 (by decide) (by decide) rfl 3 (by decide) (hW kw_67) rfl rfl rfl dX10_divide_97 ?_
    refine g_icmp_ge (tgt := 126) C dX10_divide_100 (by decide) (fun z62 => ?_) (fun z62 => ?_)
    · replace h := h.1 z62
      refine g_locals [0, 1, 2, 3, 4, 5] rfl ?_
      exact hK126 x0 x1 x2 x3 x4 x6 S kc ks L hw hL he hx0 hx3 h
    · replace h := h.2 z62
      refine g_iload C dX10_divide_103 5 rfl ?_
      refine g_iload_n C dX10_divide_105 rfl 2 rfl ?_
      refine g_i2l C dX10_divide_106 rfl ?_
      refine g_aload_n C dX10_divide_107 rfl 3 rfl ?_
      refine g_iload C dX10_divide_108 6 rfl ?_
      obtain ⟨g63, h⟩ := h
      refine gc_iald C hL hx3 g63 dX10_divide_110 ?_
      refine g_i2l C dX10_divide_111 rfl ?_
      refine g_lmul C dX10_divide_112 ?_
      refine g_lload C dX10_divide_113 4 rfl ?_
      obtain ⟨g64, h⟩ := h
      refine g_ldiv C dX10_divide_115 g64 ?_
      refine g_l2i C dX10_divide_116 rfl ?_
      refine g_isub C dX10_divide_117 ?_
      refine g_topi (fun v65 ev65 => ?_)
      replace h := h v65 ev65
      refine g_istore (lv' := [(6, .int v65), (0, .ref x0), (1, .int x1), (2, .int x2), (3, .ref x3), (4, .long x4), (7, .int x7)]) C dX10_divide_118 (by decide) rfl ?_
      obtain ⟨v66, ev66⟩ : ∃ y : Int32, y = x7 + 1 := ⟨_, rfl⟩
      replace h := h v66 ev66
      refine g_iinc (v := v66) (lv' := [(7, .int v66), (6, .int v65), (0, .ref x0), (1, .int x1), (2, .int x2), (3, .ref x3), (4, .long x4)]) C dX10_divide_120 (j := 6) rfl (by rw [ev66]; rfl) (by decide) rfl ?_
      refine g_goto (tgt := 91) C dX10_divide_123 (by decide) ?_
      refine g_locals [2, 3, 4, 5, 6, 1, 0] rfl ?_
      exact ih x0 x1 x2 x3 x4 v65 v66 S kc ks L hw hL he hx0 hx3 h
def wb_X10_divide_129 (rec : Nat → Int32 → Int32 → Nat → Int64 → Int32 → Int32 → HS → Nat → Nat → Prop) (P : HS → Prop) (x0 : Nat) (x1 : Int32) (x2 : Int32) (x3 : Nat) (x4 : Int64) (x6 : Int32) (x7 : Int32) (S : HS) (kc ks : Nat) : Prop := ∃ b69 : Nat, hR S 220 x0 = some b69 ∧ (hK S b69 = 7 → (((hI S 143 b69) ≤ x7 → (P S)) ∧ (¬ (hI S 143 b69) ≤ x7 → (((hasF x1 x7) = 0 → (∀ v77 : Int32, v77 = x7 + 1 → (rec x0 x1 x2 x3 x4 x6 v77 S kc ks))) ∧ (¬ (hasF x1 x7) = 0 → (vp_in x7 (hN S x3) ∧ (¬ x4 = 0 ∧ (∀ v80 : Int32, v80 = (Int64.toInt32 (((Int32.toInt64 x2) * (Int32.toInt64 (hA S x3 (Int32.toNatClampNeg x7)))) / x4)) → ((1 ≤ kc ∧ 9 ≤ ks) ∧ (∀ q81 : Nat, hK S q81 = 0 → zr S q81 → (∀ S89 : HS, S89 = newO S q81 6 → (∃ b97 : Nat, hR S89 220 x0 = some b97 ∧ (hK S89 b97 = 7 → (∃ b100 : Nat, hR S89 142 b97 = some b100 ∧ (hK S89 b100 = 27 → (vp_in x7 (hN S89 b100) ∧ (∀ o103 : Option Nat, o103 = hB S89 b100 (Int32.toNatClampNeg x7) → (∀ b, o103 = some b → hK S89 b = 6) → (∃ b104 : Nat, o103 = some b104 ∧ (hK S89 b104 = 6 → (∃ cc106 cc107 : Nat, (cc106 ≤ (kc - 1) ∧ cc107 ≤ (ks - 9)) ∧ (∃ (m109 : (Nat → Prop)) (m110 : Nat → Int32) (m111 : Nat), ((RelS S89 m109 b104 m110 m111 ∧ b104 ≠ q81 ∧ ¬ m109 q81 ∧ (∀ b, m109 b → hK S89 b ≠ 0) ∧ 1 ≤ cc106 ∧ 5 ≤ cc107) ∧ (∀ (S113 : HS), ext S89 S113 → (frM S89 S113 (fun b => b = q81) ∧ RelS S113 m109 q81 m110 m111 ∧ ∃ b, hR S113 125 q81 = some b ∧ hK S89 b = 0) → ((x6 ≤ 0 → (∀ S124 : HS, S124 = putI S113 128 q81 v80 → (∃ b132 : Nat, hR S124 220 x0 = some b132 ∧ (hK S124 b132 = 7 → (∃ b135 : Nat, hR S124 142 b132 = some b135 ∧ (hK S124 b135 = 27 → (vp_in x7 (hN S124 b135) ∧ (∀ S139 : HS, S139 = putB S124 b135 (Int32.toNatClampNeg x7) (some q81) → (∀ v146 : Int32, v146 = x6 + (-1) → (∀ v147 : Int32, v147 = x7 + 1 → (rec x0 x1 x2 x3 x4 v146 v147 S139 ((kc - 1) - cc106) ((ks - 9) - cc107)))))))))))) ∧ (¬ x6 ≤ 0 → (∀ S149 : HS, S149 = putI S113 128 q81 (v80 + 1) → (∃ b157 : Nat, hR S149 220 x0 = some b157 ∧ (hK S149 b157 = 7 → (∃ b160 : Nat, hR S149 142 b157 = some b160 ∧ (hK S149 b160 = 27 → (vp_in x7 (hN S149 b160) ∧ (∀ S164 : HS, S164 = putB S149 b160 (Int32.toNatClampNeg x7) (some q81) → (∀ v171 : Int32, v171 = x6 + (-1) → (∀ v172 : Int32, v172 = x7 + 1 → (rec x0 x1 x2 x3 x4 v171 v172 S164 ((kc - 1) - cc106) ((ks - 9) - cc107))))))))))))))))))))))))))))))))))))
def wp_X10_divide_129 (P : HS → Prop) : Nat → Nat → Int32 → Int32 → Nat → Int64 → Int32 → Int32 → HS → Nat → Nat → Prop
  | 0 => fun _ _ _ _ _ _ _ _ _ _ => False
  | n + 1 => fun x0 x1 x2 x3 x4 x6 x7 S kc ks => wb_X10_divide_129 (wp_X10_divide_129  P n)  P x0 x1 x2 x3 x4 x6 x7 S kc ks
set_option maxRecDepth 100000 in
set_option maxHeartbeats 4000000 in
theorem t_X10_divide_129 {p : Program} {l : Launch} {e : Env} {s : State} {m : MethodId} {args : Array Value} {below : List Frame} {meth : Method} {c : Code} {D : va_G} {A : Nat → Prop} {T : Nat → ClassId} {mc ms : Nat} (C : GC p s m args meth c cX10_divide "FreightRater" (ws_X10_divide) 10 D A (zty T)) (E : GE T A s) (hr : meth.sig.returnType = none) (S0 : HS) (P : HS → Prop) : ∀ (n : Nat) (x0 : Nat) (x1 : Int32) (x2 : Int32) (x3 : Nat) (x4 : Int64) (x6 : Int32) (x7 : Int32) (S : HS) (kc ks : Nat) (L : List Nat), wt S → hL S L → ext S0 S → (hK S x0 = 11) → (hK S x3 = 22) → wp_X10_divide_129  P n x0 x1 x2 x3 x4 x6 x7 S kc ks → GW p l e { rm_X10_divide with cells := mc, slots := ms } s m args below meth c D A 10 mc ms (MQ below (va_Qv (fun (u : HS × List Nat) => P u.1 ∧ CO S0 u) (CE D T A) A) args s mc ms A) (CW T S L) kc ks 129 [(0, .ref x0), (1, .int x1), (2, .int x2), (3, .ref x3), (4, .long x4), (6, .int x6), (7, .int x7)] [] := by
  have hW : ∀ {w : Cond}, w ∈ W0 → w.before args s = true := fun h => C.2.2.2.2.1 _ (List.mem_cons_of_mem _ h)
  intro n
  induction n with
  | zero => intro x0 x1 x2 x3 x4 x6 x7 S kc ks L hw hL he hx0 hx3 h; exact h.elim
  | succ n ih =>
    intro x0 x1 x2 x3 x4 x6 x7 S kc ks L hw hL he hx0 hx3 h
    replace h : wb_X10_divide_129 (wp_X10_divide_129  P n)  P x0 x1 x2 x3 x4 x6 x7 S kc ks := h
    unfold wb_X10_divide_129 at h
    refine g_iload C dX10_divide_129 6 rfl ?_
    refine g_aload_n C dX10_divide_131 rfl 0 rfl ?_
    refine gc_getR C hw iwx_X10 hL hx0 (by decide) (by decide) rfl 0 (by decide) (hW kw_242) rfl rfl rfl dX10_divide_132 (fun o68 eo68 ko68 => ?_)
    obtain ⟨b69, hb9, h⟩ := h
    have g70 : hK S b69 = 7 := ko68 b69 (eo68.trans hb9)
    replace h := h g70
    refine g_opt (eo68.trans hb9) ?_
    refine gc_getI C iwx_X6 hL g70 (by decide) (by decide) rfl 3 (by decide) (hW kw_67) rfl rfl rfl dX10_divide_135 ?_
    refine g_icmp_ge (tgt := 223) C dX10_divide_138 (by decide) (fun z71 => ?_) (fun z71 => ?_)
    · replace h := h.1 z71
      exact gc_vret C hw hL he hr dX10_divide_223 h
    · replace h := h.2 z71
      refine g_iload_n C dX10_divide_141 rfl 1 rfl ?_
      refine g_iload C dX10_divide_142 6 rfl ?_
      refine gc_calliS (host := "") C E hw hL [.int x1, .int x7] rfl (k_X10_isIn l D T x1 x7 S ) (w0_S 2 C.2.2.2.2.1 kw_1344 kw_1204 kw_1 kw_1205 rfl rfl (by decide +kernel) ⟨Nat.le_of_ble_eq_true rfl, Nat.le_of_ble_eq_true rfl⟩) rfl (Nat.le_of_ble_eq_true rfl) (Nat.le_refl _) (Nat.le_refl _) (Nat.zero_le _) (Nat.zero_le _) dX10_divide_144 (fun v9 S9 L72 he9 hw9 hL9 hp => ?_)
      obtain ⟨hv9, hs9⟩ := hp
      replace hs9 := hs9.symm
      subst hs9
      replace hv9 := hv9.symm
      subst hv9
      have w75 := hL9
      refine g_if_eq (tgt := 217) C dX10_divide_147 (by decide) (fun z76 => ?_) (fun z76 => ?_)
      · replace h := h.1 z76
        obtain ⟨v77, ev77⟩ : ∃ y : Int32, y = x7 + 1 := ⟨_, rfl⟩
        replace h := h v77 ev77
        refine g_iinc (v := v77) (lv' := [(7, .int v77), (0, .ref x0), (1, .int x1), (2, .int x2), (3, .ref x3), (4, .long x4), (6, .int x6)]) C dX10_divide_217 (j := 6) rfl (by rw [ev77]; rfl) (by decide) rfl ?_
        refine g_goto (tgt := 129) C dX10_divide_220 (by decide) ?_
        refine g_locals [1, 2, 3, 4, 5, 6, 0] rfl ?_
        exact ih x0 x1 x2 x3 x4 x6 v77 S kc ks L72 hw w75 he hx0 hx3 h
      · replace h := h.2 z76
        refine g_iload_n C dX10_divide_150 rfl 2 rfl ?_
        refine g_i2l C dX10_divide_151 rfl ?_
        refine g_aload_n C dX10_divide_152 rfl 3 rfl ?_
        refine g_iload C dX10_divide_153 6 rfl ?_
        obtain ⟨g78, h⟩ := h
        refine gc_iald C w75 hx3 g78 dX10_divide_155 ?_
        refine g_i2l C dX10_divide_156 rfl ?_
        refine g_lmul C dX10_divide_157 ?_
        refine g_lload C dX10_divide_158 4 rfl ?_
        obtain ⟨g79, h⟩ := h
        refine g_ldiv C dX10_divide_160 g79 ?_
        refine g_l2i C dX10_divide_161 rfl ?_
        refine g_topi (fun v80 ev80 => ?_)
        replace h := h v80 ev80
        refine g_istore (lv' := [(8, .int v80), (0, .ref x0), (1, .int x1), (2, .int x2), (3, .ref x3), (4, .long x4), (6, .int x6), (7, .int x7)]) C dX10_divide_162 (by decide) rfl ?_
        obtain ⟨g82, h⟩ := h
        refine gc_new (kd := 6) (N := 9) C E hw w75 (Nat.le_refl _) (Nat.le_refl _) iwx_X5 tyX5 tyX5_ok (by decide) (by decide) rfl (fun j hj => by rcases (show j = 0 ∨ j = 1 ∨ j = 2 ∨ j = 3 ∨ j = 4 ∨ j = 5 ∨ j = 6 ∨ j = 7 ∨ j = 8 by omega) with rfl | rfl | rfl | rfl | rfl | rfl | rfl | rfl | rfl <;> rfl) (hW kw_1073) (hW kw_1074) (hW kw_35) g82.1 g82.2 dX10_divide_164 (fun q81 h0q81 zq81 => ?_)
        replace h := h q81 h0q81 zq81
        have g83 := newO_old 6 hx0 (by decide) h0q81
        have g84 := newO_old 6 hx3 (by decide) h0q81
        have w85 := wt_newO hw 6 h0q81 (by decide)
        have w86 := hL_new (S' := newO S q81 6) w75 (show 6 ≠ 0 by decide) rfl
        have w87 := ext_newO he h0q81 6
        have g88 := newO_self S q81 6
        refine gc_nS (fun S89 eS89 => ?_)
        replace h := h S89 eS89
        have w90 : wt S89 := by rw [eS89]; exact w85
        have w91 : isL S89 (L72 ++ [q81]) := by rw [eS89]; exact w86
        have w92 : ext S0 S89 := by rw [eS89]; exact w87
        have g93 : hK S89 q81 = 6 := by rw [eS89]; exact g88
        have g94 : hK S89 x0 = 11 := by rw [eS89]; exact g83
        have g95 : hK S89 x3 = 22 := by rw [eS89]; exact g84
        refine g_dup C dX10_divide_167 rfl ?_
        refine g_aload_n C dX10_divide_168 rfl 1 rfl ?_
        refine gc_getR C w90 iwx_X10 w91 g94 (by decide) (by decide) rfl 0 (by decide) (hW kw_242) rfl rfl rfl dX10_divide_169 (fun o96 eo96 ko96 => ?_)
        obtain ⟨b97, hb9, h⟩ := h
        have g98 : hK S89 b97 = 7 := ko96 b97 (eo96.trans hb9)
        replace h := h g98
        refine g_opt (eo96.trans hb9) ?_
        refine gc_getR C w90 iwx_X6 w91 g98 (by decide) (by decide) rfl 2 (by decide) (hW kw_64) rfl rfl rfl dX10_divide_172 (fun o99 eo99 ko99 => ?_)
        obtain ⟨b100, hb9, h⟩ := h
        have g101 : hK S89 b100 = 27 := ko99 b100 (eo99.trans hb9)
        replace h := h g101
        refine g_opt (eo99.trans hb9) ?_
        refine g_iload C dX10_divide_175 7 rfl ?_
        obtain ⟨g102, h⟩ := h
        refine gc_aald C w90 w91 g101 (by decide) rfl g102 dX10_divide_177 (fun o103 eo103 ko103 => ?_)
        replace h := h o103 eo103 ko103
        obtain ⟨b104, rfl, h⟩ := h
        have g105 : hK S89 b104 = 6 := ko103 b104 rfl
        replace h := h g105
        obtain ⟨cc106, cc107, g108, h⟩ := h
        obtain ⟨m109, m110, m111, h⟩ := h
        obtain ⟨g112, h⟩ := h
        refine gc_callvI (host := "") (ret := none) C E w90 w91 [.ref b104] rfl (k_X5_init_ l D T q81 b104 S89 m109 m110 m111 cc106 cc107 g93 g105 g112) (w0_I 1 C.2.2.2.2.1 kw_1149 kw_1150 kw_35 kw_1151 rfl rfl rfl (by decide +kernel) ⟨Nat.le_of_ble_eq_true rfl, Nat.le_of_ble_eq_true rfl⟩) rfl (Nat.le_of_ble_eq_true rfl) (Nat.le_refl _) (Nat.le_refl _) g108.1 g108.2 dX10_divide_178 (fun S113 L114 e115 w116 w117 hp => ?_)
        replace h := h S113 e115 hp
        have g118 := ext_K e115 g93 (by decide)
        have g119 := ext_K e115 g94 (by decide)
        have g120 := ext_K e115 g95 (by decide)
        have w121 := ext_tr w92 e115
        refine g_astore (lv' := [(9, .ref q81), (8, .int v80), (0, .ref x0), (1, .int x1), (2, .int x2), (3, .ref x3), (4, .long x4), (6, .int x6), (7, .int x7)]) C dX10_divide_181 (by decide) rfl ?_
        refine g_aload C dX10_divide_183 0 rfl ?_
        refine g_iload C dX10_divide_185 7 rfl ?_
        refine g_if_le (tgt := 197) C dX10_divide_187 (by decide) (fun z122 => ?_) (fun z122 => ?_)
        · replace h := h.1 z122
          refine g_iload C dX10_divide_197 1 rfl ?_
          refine gc_putI C iwx_X5 w117 g118 (by decide) (by decide) rfl 8 (by decide) (hW kw_1103) rfl tyX5 tyX5_ok nmX5 rfl rfl rfl rfl rfl dX10_divide_199 ?_
          have w123 := wt_putI w116 128 v80 (k_ne g118 (by decide))
          refine gc_nS (fun S124 eS124 => ?_)
          replace h := h S124 eS124
          have w125 : wt S124 := by rw [eS124]; exact w123
          have w126 : isL S124 L114 := by rw [eS124]; exact w117
          have w127 : ext S0 S124 := by rw [eS124]; exact w121
          have g128 : hK S124 q81 = 6 := by rw [eS124]; exact g118
          have g129 : hK S124 x0 = 11 := by rw [eS124]; exact g119
          have g130 : hK S124 x3 = 22 := by rw [eS124]; exact g120
          refine g_aload_n C dX10_divide_202 rfl 2 rfl ?_
          refine gc_getR C w125 iwx_X10 w126 g129 (by decide) (by decide) rfl 0 (by decide) (hW kw_242) rfl rfl rfl dX10_divide_203 (fun o131 eo131 ko131 => ?_)
          obtain ⟨b132, hb9, h⟩ := h
          have g133 : hK S124 b132 = 7 := ko131 b132 (eo131.trans hb9)
          replace h := h g133
          refine g_opt (eo131.trans hb9) ?_
          refine gc_getR C w125 iwx_X6 w126 g133 (by decide) (by decide) rfl 2 (by decide) (hW kw_64) rfl rfl rfl dX10_divide_206 (fun o134 eo134 ko134 => ?_)
          obtain ⟨b135, hb9, h⟩ := h
          have g136 : hK S124 b135 = 27 := ko134 b135 (eo134.trans hb9)
          replace h := h g136
          refine g_opt (eo134.trans hb9) ?_
          refine g_iload C dX10_divide_209 8 rfl ?_
          refine g_aload C dX10_divide_211 0 rfl ?_
          obtain ⟨g137, h⟩ := h
          refine gc_aast C w126 g136 (by decide) rfl g128 (by decide) (by decide) rfl g137 dX10_divide_213 ?_
          have w138 := wt_putB w125 (Int32.toNatClampNeg x7) (some q81) (k_ne g136 (by decide)) (fun b hb => by cases hb; rw [show hK S124 b135 = 27 from g136]; exact g128)
          refine gc_nS (fun S139 eS139 => ?_)
          replace h := h S139 eS139
          have w140 : wt S139 := by rw [eS139]; exact w138
          have w141 : isL S139 L114 := by rw [eS139]; exact w126
          have w142 : ext S0 S139 := by rw [eS139]; exact w127
          have g143 : hK S139 q81 = 6 := by rw [eS139]; exact g128
          have g144 : hK S139 x0 = 11 := by rw [eS139]; exact g129
          have g145 : hK S139 x3 = 22 := by rw [eS139]; exact g130
          obtain ⟨v146, ev146⟩ : ∃ y : Int32, y = x6 + (-1) := ⟨_, rfl⟩
          replace h := h v146 ev146
          refine g_iinc (v := v146) (lv' := [(6, .int v146), (9, .ref q81), (8, .int v80), (0, .ref x0), (1, .int x1), (2, .int x2), (3, .ref x3), (4, .long x4), (7, .int x7)]) C dX10_divide_214 (j := 7) rfl (by rw [ev146]; rfl) (by decide) rfl ?_
          obtain ⟨v147, ev147⟩ : ∃ y : Int32, y = x7 + 1 := ⟨_, rfl⟩
          replace h := h v147 ev147
          refine g_iinc (v := v147) (lv' := [(7, .int v147), (6, .int v146), (9, .ref q81), (8, .int v80), (0, .ref x0), (1, .int x1), (2, .int x2), (3, .ref x3), (4, .long x4)]) C dX10_divide_217 (j := 8) rfl (by rw [ev147]; rfl) (by decide) rfl ?_
          refine g_goto (tgt := 129) C dX10_divide_220 (by decide) ?_
          refine g_locals [4, 5, 6, 7, 8, 1, 0] rfl ?_
          exact ih x0 x1 x2 x3 x4 v146 v147 S139 ((kc - 1) - cc106) ((ks - 9) - cc107) L114 w140 w141 w142 g144 g145 h
        · replace h := h.2 z122
          refine g_iload C dX10_divide_190 1 rfl ?_
          refine g_iconst (v := 1) C dX10_divide_192 (by decide) ?_
          refine g_iadd C dX10_divide_193 ?_
          refine g_goto (tgt := 199) C dX10_divide_194 (by decide) ?_
          refine gc_putI C iwx_X5 w117 g118 (by decide) (by decide) rfl 8 (by decide) (hW kw_1103) rfl tyX5 tyX5_ok nmX5 rfl rfl rfl rfl rfl dX10_divide_199 ?_
          have w148 := wt_putI w116 128 (v80 + 1) (k_ne g118 (by decide))
          refine gc_nS (fun S149 eS149 => ?_)
          replace h := h S149 eS149
          have w150 : wt S149 := by rw [eS149]; exact w148
          have w151 : isL S149 L114 := by rw [eS149]; exact w117
          have w152 : ext S0 S149 := by rw [eS149]; exact w121
          have g153 : hK S149 q81 = 6 := by rw [eS149]; exact g118
          have g154 : hK S149 x0 = 11 := by rw [eS149]; exact g119
          have g155 : hK S149 x3 = 22 := by rw [eS149]; exact g120
          refine g_aload_n C dX10_divide_202 rfl 2 rfl ?_
          refine gc_getR C w150 iwx_X10 w151 g154 (by decide) (by decide) rfl 0 (by decide) (hW kw_242) rfl rfl rfl dX10_divide_203 (fun o156 eo156 ko156 => ?_)
          obtain ⟨b157, hb9, h⟩ := h
          have g158 : hK S149 b157 = 7 := ko156 b157 (eo156.trans hb9)
          replace h := h g158
          refine g_opt (eo156.trans hb9) ?_
          refine gc_getR C w150 iwx_X6 w151 g158 (by decide) (by decide) rfl 2 (by decide) (hW kw_64) rfl rfl rfl dX10_divide_206 (fun o159 eo159 ko159 => ?_)
          obtain ⟨b160, hb9, h⟩ := h
          have g161 : hK S149 b160 = 27 := ko159 b160 (eo159.trans hb9)
          replace h := h g161
          refine g_opt (eo159.trans hb9) ?_
          refine g_iload C dX10_divide_209 8 rfl ?_
          refine g_aload C dX10_divide_211 0 rfl ?_
          obtain ⟨g162, h⟩ := h
          refine gc_aast C w151 g161 (by decide) rfl g153 (by decide) (by decide) rfl g162 dX10_divide_213 ?_
          have w163 := wt_putB w150 (Int32.toNatClampNeg x7) (some q81) (k_ne g161 (by decide)) (fun b hb => by cases hb; rw [show hK S149 b160 = 27 from g161]; exact g153)
          refine gc_nS (fun S164 eS164 => ?_)
          replace h := h S164 eS164
          have w165 : wt S164 := by rw [eS164]; exact w163
          have w166 : isL S164 L114 := by rw [eS164]; exact w151
          have w167 : ext S0 S164 := by rw [eS164]; exact w152
          have g168 : hK S164 q81 = 6 := by rw [eS164]; exact g153
          have g169 : hK S164 x0 = 11 := by rw [eS164]; exact g154
          have g170 : hK S164 x3 = 22 := by rw [eS164]; exact g155
          obtain ⟨v171, ev171⟩ : ∃ y : Int32, y = x6 + (-1) := ⟨_, rfl⟩
          replace h := h v171 ev171
          refine g_iinc (v := v171) (lv' := [(6, .int v171), (9, .ref q81), (8, .int v80), (0, .ref x0), (1, .int x1), (2, .int x2), (3, .ref x3), (4, .long x4), (7, .int x7)]) C dX10_divide_214 (j := 7) rfl (by rw [ev171]; rfl) (by decide) rfl ?_
          obtain ⟨v172, ev172⟩ : ∃ y : Int32, y = x7 + 1 := ⟨_, rfl⟩
          replace h := h v172 ev172
          refine g_iinc (v := v172) (lv' := [(7, .int v172), (6, .int v171), (9, .ref q81), (8, .int v80), (0, .ref x0), (1, .int x1), (2, .int x2), (3, .ref x3), (4, .long x4)]) C dX10_divide_217 (j := 8) rfl (by rw [ev172]; rfl) (by decide) rfl ?_
          refine g_goto (tgt := 129) C dX10_divide_220 (by decide) ?_
          refine g_locals [4, 5, 6, 7, 8, 1, 0] rfl ?_
          exact ih x0 x1 x2 x3 x4 v171 v172 S164 ((kc - 1) - cc106) ((ks - 9) - cc107) L114 w165 w166 w167 g169 g170 h
def wp_X10_divide (P : HS → Prop) (x0 : Nat) (p0 : Int32) (p1 : Int32) (S : HS) (mc ms : Nat) : Prop := ((¬ 10 < (0 : Int32) ∧ (Int32.toNatClampNeg 10) ≤ 100000000) ∧ 1 ≤ mc ∧ (Int32.toNatClampNeg 10) ≤ ms) ∧ (∀ q1 : Nat, hK S q1 = 0 → zr S q1 → (∀ S8 : HS, S8 = newA S q1 22 (Int32.toNatClampNeg 10) → (∃ k175 : Nat, wp_X10_divide_11 (fun (y57_x0 : Nat) (y57_x1 : Int32) (y57_x2 : Int32) (y57_x3 : Nat) (y57_x4 : Int64) (Sy57_ : HS) (kcy57_ ksy57_ : Nat) => (hK Sy57_ y57_x0 = 11) → (hK Sy57_ y57_x3 = 22) → ((0 < (lg_cmp y57_x4 0) → (∃ k174 : Nat, wp_X10_divide_91 (fun (y67_x0 : Nat) (y67_x1 : Int32) (y67_x2 : Int32) (y67_x3 : Nat) (y67_x4 : Int64) (y67_x6 : Int32) (Sy67_ : HS) (kcy67_ ksy67_ : Nat) => (hK Sy67_ y67_x0 = 11) → (hK Sy67_ y67_x3 = 22) → (∃ k173 : Nat, wp_X10_divide_129  P k173 y67_x0 y67_x1 y67_x2 y67_x3 y67_x4 y67_x6 0 Sy67_ kcy67_ ksy67_)) P k174 y57_x0 y57_x1 y57_x2 y57_x3 y57_x4 y57_x2 0 Sy57_ kcy57_ ksy57_)) ∧ (¬ 0 < (lg_cmp y57_x4 0) → (P Sy57_)))) P k175 x0 p0 p1 q1 0 0 S8 (mc - 1) (ms - (Int32.toNatClampNeg 10)))))
set_option maxRecDepth 100000 in
set_option maxHeartbeats 4000000 in
theorem t_X10_divide {p : Program} {l : Launch} {e : Env} {s : State} {m : MethodId} {args : Array Value} {below : List Frame} {meth : Method} {c : Code} {D : va_G} {A : Nat → Prop} {T : Nat → ClassId} (C : GC p s m args meth c cX10_divide "FreightRater" (ws_X10_divide) 10 D A (zty T)) (E : GE T A s) (hr : meth.sig.returnType = none) (P : HS → Prop) : ∀ (x0 : Nat) (p0 : Int32) (p1 : Int32) (S0 S : HS) (mc ms : Nat) (L : List Nat), S0 = S → wt S → hL S L → (hK S x0 = 11) → wp_X10_divide P x0 p0 p1 S mc ms → GW p l e { rm_X10_divide with cells := mc, slots := ms } s m args below meth c D A 10 mc ms (MQ below (va_Qv (fun (u : HS × List Nat) => P u.1 ∧ CO S0 u) (CE D T A) A) args s mc ms A) (CW T S L) mc ms 0 [(0, .ref x0), (1, .int p0), (2, .int p1)] [] := by
  have hW : ∀ {w : Cond}, w ∈ W0 → w.before args s = true := fun h => C.2.2.2.2.1 _ (List.mem_cons_of_mem _ h)
  intro x0 p0 p1 S0 S mc ms L hS0 hw hL hx0 h
  have he : ext S0 S := by rw [hS0]; exact ext_rf
  unfold wp_X10_divide at h
  refine g_bipush (v := 10) C dX10_divide_0 (by decide) ?_
  obtain ⟨g2, h⟩ := h
  refine gc_newi C E hw hL (Nat.le_refl _) (Nat.le_refl _) (hW kw_91) g2.1.1 g2.1.2 g2.2.1 g2.2.2 dX10_divide_2 (fun q1 h0q1 zq1 => ?_)
  replace h := h q1 h0q1 zq1
  have g3 := newA_old 22 (Int32.toNatClampNeg 10) hx0 (by decide) h0q1
  have w4 := wt_newA hw 22 (Int32.toNatClampNeg 10) h0q1 (by decide)
  have w5 := hL_new (S' := newA S q1 22 (Int32.toNatClampNeg 10)) hL (show 22 ≠ 0 by decide) rfl
  have w6 := ext_newA he h0q1 22 (Int32.toNatClampNeg 10)
  have g7 := newA_self S q1 22 (Int32.toNatClampNeg 10)
  refine gc_nS (fun S8 eS8 => ?_)
  replace h := h S8 eS8
  have w9 : wt S8 := by rw [eS8]; exact w4
  have w10 : isL S8 (L ++ [q1]) := by rw [eS8]; exact w5
  have w11 : ext S0 S8 := by rw [eS8]; exact w6
  have g12 : hK S8 q1 = 22 := by rw [eS8]; exact g7
  have g13 : hK S8 x0 = 11 := by rw [eS8]; exact g3
  refine g_astore_n (lv' := [(3, .ref q1), (0, .ref x0), (1, .int p0), (2, .int p1)]) C dX10_divide_4 rfl (by decide) rfl ?_
  refine g_lconst (v := 0) C dX10_divide_5 rfl ?_
  refine g_lstore (lv' := [(4, .long 0), (3, .ref q1), (0, .ref x0), (1, .int p0), (2, .int p1)]) C dX10_divide_6 (by decide) rfl ?_
  refine g_iconst (v := 0) C dX10_divide_8 (by decide) ?_
  refine g_istore (lv' := [(6, .int 0), (4, .long 0), (3, .ref q1), (0, .ref x0), (1, .int p0), (2, .int p1)]) C dX10_divide_9 (by decide) rfl ?_
  refine g_locals [3, 4, 5, 2, 1, 0] rfl ?_
  obtain ⟨k175, h⟩ := h
  refine t_X10_divide_11 C E hr S0 _ P ?_ k175 x0 p0 p1 q1 0 0 S8 (mc - 1) (ms - (Int32.toNatClampNeg 10)) (L ++ [q1]) w9 w10 w11 g13 g12 h
  · intro y57_x0 y57_x1 y57_x2 y57_x3 y57_x4 Sy57_ kcy57_ ksy57_ Ly57_ hwy57_ hLy57_ hey57_ hy57_x0 hy57_x3 h
    replace h := h hy57_x0 hy57_x3
    refine g_lload C dX10_divide_77 4 rfl ?_
    refine g_lconst (v := 0) C dX10_divide_79 rfl ?_
    refine g_lcmp C dX10_divide_80 ?_
    refine g_if_gt (tgt := 85) C dX10_divide_81 (by decide) (fun z58 => ?_) (fun z58 => ?_)
    · replace h := h.1 z58
      refine g_iload_n C dX10_divide_85 rfl 2 rfl ?_
      refine g_istore (lv' := [(6, .int y57_x2), (0, .ref y57_x0), (1, .int y57_x1), (2, .int y57_x2), (3, .ref y57_x3), (4, .long y57_x4)]) C dX10_divide_86 (by decide) rfl ?_
      refine g_iconst (v := 0) C dX10_divide_88 (by decide) ?_
      refine g_istore (lv' := [(7, .int 0), (6, .int y57_x2), (0, .ref y57_x0), (1, .int y57_x1), (2, .int y57_x2), (3, .ref y57_x3), (4, .long y57_x4)]) C dX10_divide_89 (by decide) rfl ?_
      refine g_locals [2, 3, 4, 5, 6, 1, 0] rfl ?_
      obtain ⟨k174, h⟩ := h
      refine t_X10_divide_91 C E hr S0 _ P ?_ k174 y57_x0 y57_x1 y57_x2 y57_x3 y57_x4 y57_x2 0 Sy57_ kcy57_ ksy57_ Ly57_ hwy57_ hLy57_ hey57_ hy57_x0 hy57_x3 h
      · intro y67_x0 y67_x1 y67_x2 y67_x3 y67_x4 y67_x6 Sy67_ kcy67_ ksy67_ Ly67_ hwy67_ hLy67_ hey67_ hy67_x0 hy67_x3 h
        replace h := h hy67_x0 hy67_x3
        refine g_iconst (v := 0) C dX10_divide_126 (by decide) ?_
        refine g_istore (lv' := [(7, .int 0), (0, .ref y67_x0), (1, .int y67_x1), (2, .int y67_x2), (3, .ref y67_x3), (4, .long y67_x4), (6, .int y67_x6)]) C dX10_divide_127 (by decide) rfl ?_
        refine g_locals [1, 2, 3, 4, 5, 6, 0] rfl ?_
        obtain ⟨k173, h⟩ := h
        refine t_X10_divide_129 C E hr S0  P  k173 y67_x0 y67_x1 y67_x2 y67_x3 y67_x4 y67_x6 0 Sy67_ kcy67_ ksy67_ Ly67_ hwy67_ hLy67_ hey67_ hy67_x0 hy67_x3 h
    · replace h := h.2 z58
      exact gc_vret C hwy57_ hLy57_ hey57_ hr dX10_divide_84 h
theorem c_X10_divide (l : Launch) (D : va_G) (T : Nat → ClassId) (x0 : Nat) (p0 : Int32) (p1 : Int32) (S : HS) (mc ms : Nat) (hx0 : hK S x0 = 11) (P : HS → Prop) (h : wp_X10_divide P x0 p0 p1 S mc ms) : CMv l yX10_divide (ws_X10_divide) rm_X10_divide D T [.ref x0, .int p0, .int p1] S mc ms P := gc_metv (by decide) rfl rfl (Nat.le_of_ble_eq_true rfl) (fun p e s m args below meth c A L C E hnm hr hw hL => t_X10_divide C E   hr P x0 p0 p1 S S mc ms L rfl hw hL hx0 h)
/-- the groups are divided one after the other -/
def dvF (T : Nat → Int32) (u : Nat → Nat) : List Nat → (Nat → Int32) → (Nat → Int32)
  | [], μ => μ
  | g :: l, μ => dvF T u l (shrF μ (u g) (iv (T (u g))))
def wkI (S0 S : HS) (a : Nat → Nat) : Prop := ext S0 S ∧ frM S0 S (fun c => c = a 54 ∨ c = a 55 ∨ c = a 56) ∧ ∀ i, 54 ≤ i → i < 64 → ∀ j, hR S j (a i) = hR S0 j (a i)
theorem wkI.sm {S0 S : HS} {a : Nat → Nat} {mu : Nat → Nat → Int32} {g b : Nat → Int32} {sh : List Int32} (h : FrS S0 a mu g b sh) (w : wkI S0 S a) {i : Nat} (h1 : 57 ≤ i) (h2 : i < 64) : sam S0 S (a i) := w.2.1 (a i) (fun z => by
  rcases z with z | z | z
  · exact h.1.ne h2 (j := 54) (by omega) (by omega) z
  · exact h.1.ne h2 (j := 55) (by omega) (by omega) z
  · exact h.1.ne h2 (j := 56) (by omega) (by omega) z) (h.1.k h2)
theorem wkI.F {S0 S : HS} {a : Nat → Nat} {mu : Nat → Nat → Int32} {g b : Nat → Int32} {sh : List Int32} (h : FrS S0 a mu g b sh) (w : wkI S0 S a) : FrS S a mu g b sh := by
  refine h.sc w.1 w.2.1 (fun c _ hc => ?_) w.2.2 (h.1.z8 (fun i h1 h2 => by rw [(wkI.sm h w (show 57 ≤ i by omega) (by omega)).2.2.2.2.1]))
  rcases hc with e | e | e
  · exact ⟨54, by omega, by omega, e⟩
  · exact ⟨55, by omega, by omega, e⟩
  · exact ⟨56, by omega, by omega, e⟩
theorem wkI.w {S0 S S1 : HS} {a : Nat → Nat} {mu : Nat → Nat → Int32} {g b : Nat → Int32} {sh : List Int32} (h : FrS S0 a mu g b sh) (w : wkI S0 S a) (he : ext S S1) (hf : frR S S1 (a 54)) : wkI S0 S1 a := by
  have q := (wkI.F h w).1.2.2.2.2.2.2.1
  exact ⟨ext_tr w.1 he, w.2.1.tr (hf.M (Or.inl rfl) (fun b9 hb => Or.inr (Or.inl (Option.some.inj (hb.symm.trans q.1)))) (fun b9 hb => Or.inr (Or.inr (Option.some.inj (hb.symm.trans q.2))))), fun i h1 h2 j => by rw [hf.2.2.1]; exact w.2.2 i h1 h2 j⟩
theorem wkI.A {S0 S : HS} {a : Nat → Nat} (w : wkI S0 S a) {x : Nat} (h0 : hK S0 x = 0) (i : Nat) (v : Int32) : wkI S0 (putA S x i v) a := by
  refine ⟨w.1, w.2.1.nw (frM.pA (M := fun c => c = x) frM.rf rfl _ _) (fun c hc z => absurd (by rw [z]; exact h0) hc), fun j h1 h2 k => by rw [px_RA]; exact w.2.2 j h1 h2 k⟩
theorem lg_pos {W : Nat} (h : 0 < W) (h2 : W < 2 ^ 31) : 0 < lg_cmp (Int64.ofNat W) 0 := by
  unfold lg_cmp
  rw [if_pos]
  · decide
  · show (0 : Int64) < Int64.ofNat W
    rw [Int64.lt_iff_toInt_lt, Int64.toInt_ofNat_of_lt (by omega)]
    show (0 : Int) < W
    omega
theorem rl_d11 {K : Nat → Int32 → Int32 → Nat → Int64 → HS → Nat → Nat → Prop} {P : HS → Prop} {S0 : HS} {a : Nat → Nat} {mu : Nat → Nat → Int32} {g b : Nat → Int32} {sh : List Int32} {G ns q kc ks : Nat} {y : Int32} (h : FrS S0 a mu g b sh) (hns : mu 0 1 = nI ns) (hns10 : ns ≤ 10) (hG : G < 2 ^ ns) (h0 : sg0 (mu 0) G) (hq0 : hK S0 q = 0) (hK9 : ∀ S1, wkI S0 S1 a → hK S1 q = 22 → hN S1 q = 10 → (∀ s, s < ns → hA S1 q s = if G.testBit s = true then nI (wsI (mu 0) s) else 0) → K (a 50) (nI G) y q (Int64.ofNat (wSum (mu 0) G ns 0 0)) S1 kc ks) : ∀ (k s fuel x : Nat) (S : HS), s + k = ns → k < fuel → wkI S0 S a → hK S q = 22 → hN S q = 10 → (∀ t, t < s → hA S q t = if G.testBit t = true then nI (wsI (mu 0) t) else 0) → (∀ t, s ≤ t → hA S q t = 0) → wSum (mu 0) G k s x = wSum (mu 0) G ns 0 0 → wp_X10_divide_11 K P fuel (a 50) (nI G) y q (Int64.ofNat x) (nI s) S kc ks := by
  have hG1 : G < 1024 := Nat.lt_of_lt_of_le hG (p2_le hns10)
  intro k
  induction k with
  | zero =>
    intro s fuel x S hs hf w hk hn h1 h2 hW
    have H := wkI.F h w
    obtain ⟨f, rfl⟩ : ∃ f, fuel = f + 1 := ⟨fuel - 1, by omega⟩; rw [wp_X10_divide_11]; unfold wb_X10_divide_11; dsimp only
    refine ⟨a 0, H.r0, fun _ => ?_⟩
    rw [H.now.2.1.2.2.1, hns, nI_leI (by omega) (by omega)]
    rw [wSum] at hW
    exact ⟨fun _ => by rw [hW]; exact hK9 S w hk hn (fun t ht => h1 t (by omega)), fun c => absurd (by omega) c⟩
  | succ k ih =>
    intro s fuel x S hs hf w hk hn h1 h2 hW
    have H := wkI.F h w
    have hh := has_0 (n := G) (s := s) hG1 (by omega)
    have h2s : (2 : Nat) ^ s < 1024 := Nat.lt_of_lt_of_le (Nat.pow_lt_pow_right (by decide) (show s < ns by omega)) (p2_le hns10)
    obtain ⟨f, rfl⟩ : ∃ f, fuel = f + 1 := ⟨fuel - 1, by omega⟩; rw [wp_X10_divide_11]; unfold wb_X10_divide_11; dsimp only
    refine ⟨a 0, H.r0, fun _ => ?_⟩
    rw [H.now.2.1.2.2.1, hns, nI_leI (by omega) (by omega), nI_1]
    rw [wSum] at hW
    refine ⟨fun c => absurd c (by omega), fun _ => ⟨fun c v e => ?_, fun c => ⟨a 54, H.r12, fun _ => ⟨a 0, H.r0, fun _ => ?_⟩⟩⟩⟩
    · subst e
      have tb := hh.mp c
      rw [if_neg tb] at hW
      refine ih (s + 1) f x S (by omega) (by omega) w hk hn (fun t ht => ?_) (fun t ht => h2 t (by omega)) hW
      by_cases e : t = s
      · rw [e, if_neg tb]; exact h2 s (Nat.le_refl _)
      · exact h1 t (by omega)
    · have tb : G.testBit s = true := by
        by_cases t : G.testBit s = true
        · exact t
        · exact absurd (hh.mpr t) c
      rw [if_pos tb] at hW
      have r0 := h0 s tb
      obtain ⟨b1, b2, b3⟩ := ws_bn h.now.1 hns hns10 (s := s) (by omega) r0
      rw [sh1 (by omega)]
      refine ⟨fxM a, mu 0, ⟨H.now.1, H.wfr, H.now.2, H.1.rt, gok.tb (n := 0) hns hns10 (by omega)⟩, fun S33 he33 h33 => ?_⟩
      obtain ⟨f33, w33⟩ := h33
      rw [show iv (nI (2 ^ s)) = 2 ^ s from nI_clamp (by omega)] at w33
      have W33 := wkI.w h w he33 f33
      have H33 := wkI.F h W33
      have e67 := (w33.2.2 r0).2.2.1
      rw [b3] at e67
      have q62 : hR S 62 (a 54) = some (a 56) := H.1.2.2.2.2.2.2.1.2
      have nq : q ≠ a 56 := fun z => h.1.k (i := 56) (by omega) (by rw [← z]; exact hq0)
      have aq : hA S33 q = hA S q := f33.2.2.2.2.1 q (fun z => nq (Option.some.inj (q62.symm.trans z)).symm)
      refine ⟨a 54, H33.r12, fun _ => ?_⟩
      rw [show hN S33 q = 10 by rw [f33.2.1]; exact hn, nz_vp (by omega) (by decide), nI_clamp (n := s) (by omega), e67]
      refine ⟨by omega, fun S46 e46 => ?_⟩
      have W46 : wkI S0 S46 a := by rw [e46]; exact W33.A hq0 _ _
      have H46 := wkI.F h W46
      refine ⟨a 54, H46.r12, fun _ v55 ev v56 ew => ?_⟩
      subst ew
      have i46 : hI S46 67 (a 54) = nI (wsI (mu 0) s) := by rw [e46, px_IA]; exact e67
      have ev' : v55 = Int64.ofNat (x + wsI (mu 0) s) := by
        rw [ev, i46, i64n (by omega), Int64.ofNat_add]
      subst ev'
      refine ih (s + 1) f _ S46 (by omega) (by omega) W46 (by rw [e46, px_KA, f33.1]; exact hk) (by rw [e46, px_NA, f33.2.1]; exact hn) (fun t ht => ?_) (fun t ht => ?_) hW
      · rw [e46, px_AA]
        by_cases e : t = s
        · rw [if_pos ⟨rfl, e⟩, e, if_pos tb]
        · rw [if_neg (fun z => e z.2), aq]; exact h1 t (by omega)
      · rw [e46, px_AA, if_neg (fun z => by omega), aq]
        exact h2 t (by omega)
/-- what the members get of it together -/
def sNf (μ : Nat → Int32) (g a : Nat) : Nat → Nat → Nat → Nat
  | 0, _, y => y
  | k + 1, s, y => sNf μ g a k (s + 1) (if g.testBit s = true then y + shN μ g a s else y)
theorem sNf_ge {μ : Nat → Int32} {g a : Nat} : ∀ k s y, y ≤ sNf μ g a k s y := by
  intro k
  induction k with
  | zero => intro s y; exact Nat.le_refl _
  | succ k ih =>
    intro s y
    rw [sNf]
    by_cases c : g.testBit s = true
    · rw [if_pos c]
      have := ih (s + 1) (y + shN μ g a s)
      omega
    · rw [if_neg c]
      exact ih (s + 1) y
theorem sNf_W {μ : Nat → Int32} {g a W : Nat} (hW : W = wSum μ g (iv (μ 1)) 0 0) : ∀ k s y x, y * W ≤ a * x → sNf μ g a k s y * W ≤ a * wSum μ g k s x := by
  intro k
  induction k with
  | zero => intro s y x h; exact h
  | succ k ih =>
    intro s y x h
    rw [sNf, wSum]
    by_cases c : g.testBit s = true
    · rw [if_pos c, if_pos c]
      refine ih (s + 1) _ _ ?_
      rw [Nat.add_mul, Nat.mul_add]
      have : shN μ g a s * W ≤ a * wsI μ s := by
        unfold shN
        rw [← hW]
        exact Nat.div_mul_le_self _ _
      omega
    · rw [if_neg c, if_neg c]; exact ih (s + 1) _ _ h
theorem s2_2 {μ : Nat → Int32} {g a B : Nat} (hB : B < 2 ^ 31) : ∀ (k s : Nat) (r : Nat → Int32) (y : Nat), sNf μ g a k s y ≤ B → (s2F μ g a k s (r, nI (B - y))).2 = nI (B - sNf μ g a k s y) := by
  intro k
  induction k with
  | zero => intro s r y _; rfl
  | succ k ih =>
    intro s r y h
    rw [s2F, sNf]
    rw [sNf] at h
    by_cases c : g.testBit s = true
    · rw [if_pos c] at h ⊢
      rw [if_pos c]
      have := sNf_ge (μ := μ) (g := g) (a := a) k (s + 1) (y + shN μ g a s)
      rw [sub_k (by omega), show B - y - shN μ g a s = B - (y + shN μ g a s) by omega]
      exact ih (s + 1) _ _ h
    · rw [if_neg c] at h ⊢
      rw [if_neg c]
      exact ih (s + 1) _ _ h
theorem s2_1 {μ : Nat → Int32} {g a : Nat} : ∀ (k s : Nat) (r : Nat → Int32) (z : Int32), (∀ j, (∀ t, s ≤ t → t < s + k → g.testBit t = true → j ≠ 14 + 26 * t + 5) → (s2F μ g a k s (r, z)).1 j = r j) ∧ ∀ t, s ≤ t → t < s + k → g.testBit t = true → (s2F μ g a k s (r, z)).1 (14 + 26 * t + 5) = nI (shN μ g a t) := by
  intro k
  induction k with
  | zero => intro s r z; exact ⟨fun _ _ => rfl, fun t h1 h2 => by omega⟩
  | succ k ih =>
    intro s r z
    rw [s2F]
    by_cases c : g.testBit s = true
    · rw [if_pos c]
      obtain ⟨h1, h2⟩ := ih (s + 1) (upd r (14 + 26 * s + 5) (nI (shN μ g a s))) (z - nI (shN μ g a s))
      refine ⟨fun j hj => ?_, fun t q1 q2 q3 => ?_⟩
      · rw [h1 j (fun t q1 q2 q3 => hj t (by omega) (by omega) q3)]
        unfold upd
        rw [if_neg (hj s (Nat.le_refl _) (by omega) c)]
      · by_cases e : t = s
        · subst e
          rw [h1 _ (fun t' p1 p2 p3 => by omega)]
          unfold upd
          rw [if_pos rfl]
        · exact h2 t (by omega) (by omega) q3
    · rw [if_neg c]
      obtain ⟨h1, h2⟩ := ih (s + 1) r z
      refine ⟨fun j hj => h1 j (fun t q1 q2 q3 => hj t (by omega) (by omega) q3), fun t q1 q2 q3 => ?_⟩
      by_cases e : t = s
      · subst e; exact absurd q3 c
      · exact h2 t (by omega) (by omega) q3
theorem rl_d91 {K : Nat → Int32 → Int32 → Nat → Int64 → Int32 → HS → Nat → Nat → Prop} {P : HS → Prop} {S : HS} {a : Nat → Nat} {mu : Nat → Nat → Int32} {g b : Nat → Int32} {sh : List Int32} {G A W ns q kc ks : Nat} {Lf y : Int32} (h : FrS S a mu g b sh) (hns : mu 0 1 = nI ns) (hns10 : ns ≤ 10) (hn : hN S q = 10) (hA9 : A < 2 ^ 31) (hW : W = wSum (mu 0) G ns 0 0) (hW0 : 0 < W) (hW2 : W < 2 ^ 31) (hq : ∀ s, s < ns → hA S q s = if G.testBit s = true then nI (wsI (mu 0) s) else 0) (hK9 : K (a 50) y (nI A) q (Int64.ofNat W) Lf S kc ks) : ∀ (k s fuel : Nat) (z : Int32), s + k = ns → k < fuel → (∀ r, (s2F (mu 0) G A k s (r, z)).2 = Lf) → wp_X10_divide_91 K P fuel (a 50) y (nI A) q (Int64.ofNat W) z (nI s) S kc ks := by
  have ins : iv (mu 0 1) = ns := by rw [hns]; exact nI_clamp (by omega)
  intro k
  induction k with
  | zero =>
    intro s fuel z hs hf hL
    obtain ⟨f, rfl⟩ : ∃ f, fuel = f + 1 := ⟨fuel - 1, by omega⟩; rw [wp_X10_divide_91]; unfold wb_X10_divide_91; dsimp only
    refine ⟨a 0, h.r0, fun _ => ?_⟩
    rw [h.now.2.1.2.2.1, hns, nI_leI (by omega) (by omega)]
    have e : z = Lf := hL (mu 0)
    rw [e]
    exact ⟨fun _ => hK9, fun c => absurd (by omega) c⟩
  | succ k ih =>
    intro s fuel z hs hf hL
    obtain ⟨f, rfl⟩ : ∃ f, fuel = f + 1 := ⟨fuel - 1, by omega⟩; rw [wp_X10_divide_91]; unfold wb_X10_divide_91; dsimp only
    refine ⟨a 0, h.r0, fun _ => ?_⟩
    rw [h.now.2.1.2.2.1, hns, nI_leI (by omega) (by omega), hn, nz_vp (by omega) (by decide), nI_clamp (n := s) (by omega), nI_1, hq s (by omega)]
    refine ⟨fun c => absurd c (by omega), fun _ => ⟨by omega, ?_, fun v65 e65 v66 e66 => ?_⟩⟩
    · intro w
      have := congrArg Int64.toInt w
      rw [Int64.toInt_ofNat_of_lt (by omega)] at this
      have e0 : Int64.toInt 0 = 0 := by decide
      omega
    · subst e66
      refine ih (s + 1) f v65 (by omega) (by omega) (fun r => ?_)
      by_cases c : G.testBit s = true
      · rw [if_pos c, shr_n hA9 (by rw [hW]; have := (wSum_ge (μ := mu 0) (g := G) ns 0 0).2 s (Nat.zero_le _) (by omega) c; omega) hW0 hW2] at e65
        have e9 : A * wsI (mu 0) s / W = shN (mu 0) G A s := by unfold shN; rw [ins, hW]
        rw [e9] at e65
        have := hL r
        rw [s2F, if_pos c] at this
        rw [e65]
        have i2 : ∀ (k s : Nat) (r r' : Nat → Int32) (z : Int32), (s2F (mu 0) G A k s (r, z)).2 = (s2F (mu 0) G A k s (r', z)).2 := by
          intro k
          induction k with
          | zero => intro s r r' z; rfl
          | succ k ih =>
            intro s r r' z
            rw [s2F, s2F]
            by_cases c : G.testBit s = true
            · rw [if_pos c, if_pos c]; exact ih _ _ _ _
            · rw [if_neg c, if_neg c]; exact ih _ _ _ _
        exact (i2 _ _ _ _ _).trans this
      · rw [if_neg c, show (0 : Int32) = nI 0 from rfl, shr_n hA9 (Nat.zero_le _) hW0 hW2, Nat.mul_zero, Nat.zero_div] at e65
        have e66 : v65 = z := by rw [e65]; exact Int32.sub_zero z
        rw [e66]
        have := hL r
        rw [s2F, if_neg c] at this
        exact this
theorem FrS.e0 {S : HS} {a : Nat → Nat} {mu mu' : Nat → Nat → Int32} {g b : Nat → Int32} {sh : List Int32} (h : FrS S a mu g b sh) (e : mu = mu') : FrS S a mu' g b sh := by rw [← e]; exact h
theorem c20_le {L c : Nat} (h : L ≤ 1000000000) (hc : c ≤ 10) : (nI (L + 20 - c) - nI 20 ≤ 0) = (L ≤ c) := propext (by
  rw [Int32.le_iff_toInt_le, pk_sub_toInt (by omega) (by omega), Int32.toInt_zero]
  omega)
theorem c20_d {L c : Nat} (hc : c ≤ 10) : nI (L + 20 - c) - nI 20 + (-1) = nI (L + 20 - (c + 1)) - nI 20 := by
  have e : nI (L + 20 - (c + 1)) = nI (L + 20 - c) - 1 := by
    rw [nI_p1 (by omega), show L + 20 - c - 1 = L + 20 - (c + 1) by omega]
  rw [e, Int32.sub_eq_add_neg, Int32.sub_eq_add_neg, Int32.sub_eq_add_neg, Int32.add_assoc, Int32.add_comm (-nI 20) (-1), ← Int32.add_assoc]
theorem rl_d129 {P : HS → Prop} {S0 : HS} {a : Nat → Nat} {mu : Nat → Nat → Int32} {g b : Nat → Int32} {sh : List Int32} {G A W L ns q : Nat} {RF : Nat → Int32} (hns : mu 0 1 = nI ns) (hns10 : ns ≤ 10) (hG : G < 2 ^ ns) (hA9 : A ≤ 1000000000) (hL9 : L ≤ A) (hW : W = wSum (mu 0) G ns 0 0) (hW0 : 0 < W) (hW2 : W < 2 ^ 31) (hP : ∀ S1, FrS S1 a (fun t => if t = 0 then RF else mu t) g b sh → (∀ i, 57 ≤ i → i < 64 → sam S0 S1 (a i)) → P S1) : ∀ (k s fuel cnt : Nat) (ν r : Nat → Int32) (S : HS) (kc ks : Nat), s + k = ns → k < fuel → cnt ≤ s → 2 * k ≤ kc → 14 * k ≤ ks → FrS S a (fun t => if t = 0 then ν else mu t) g b sh → (∀ i, 57 ≤ i → i < 64 → sam S0 S (a i)) → hK S q = 22 → hN S q = 10 → (∀ s, s < ns → hA S q s = if G.testBit s = true then nI (wsI (mu 0) s) else 0) → (∀ j, (∀ t, t < ns → G.testBit t = true → j ≠ 14 + 26 * t + 5) → ν j = mu 0 j ∧ r j = mu 0 j) → (∀ t, t < s → G.testBit t = true → ν (14 + 26 * t + 5) = r (14 + 26 * t + 5)) → (∀ t, s ≤ t → t < ns → G.testBit t = true → r (14 + 26 * t + 5) = nI (shN (mu 0) G A t)) → (s3F G k s (r, nI (L - cnt))).1 = RF → wp_X10_divide_129 P fuel (a 50) (nI G) (nI A) q (Int64.ofNat W) (nI (L + 20 - cnt) - nI 20) (nI s) S kc ks := by
  have hG1 : G < 1024 := Nat.lt_of_lt_of_le hG (p2_le hns10)
  have ins : iv (mu 0 1) = ns := by rw [hns]; exact nI_clamp (by omega)
  intro k
  induction k with
  | zero =>
    intro s fuel cnt ν r S kc ks hs hf hc hkc hks H hsam hk hn hq i1 i2 i3 hR
    have e1 : ν 1 = nI ns := (i1 1 (fun t _ _ => by omega)).1.trans hns
    obtain ⟨f, rfl⟩ : ∃ f, fuel = f + 1 := ⟨fuel - 1, by omega⟩; rw [wp_X10_divide_129]; unfold wb_X10_divide_129; dsimp only
    refine ⟨a 0, H.r0, fun _ => ?_⟩
    rw [show hI S 143 (a 0) = nI ns from H.now.2.1.2.2.1.trans e1, nI_leI (by omega) (by omega)]
    refine ⟨fun _ => hP S (H.e0 ?_) hsam, fun c => absurd (by omega) c⟩
    have er : r = RF := hR
    funext t
    by_cases e : t = 0
    · rw [if_pos e, if_pos e, ← er]
      funext j
      by_cases ex : ∃ t, t < ns ∧ G.testBit t = true ∧ j = 14 + 26 * t + 5
      · obtain ⟨t, t1, t2, t3⟩ := ex
        rw [t3]; exact i2 t (by omega) t2
      · have := i1 j (fun t t1 t2 t3 => ex ⟨t, t1, t2, t3⟩)
        exact this.1.trans this.2.symm
    · rw [if_neg e, if_neg e]
  | succ k ih =>
    intro s fuel cnt ν r S kc ks hs hf hc hkc hks H hsam hk hn hq i1 i2 i3 hR
    have hh := has_0 (n := G) (s := s) hG1 (by omega)
    have e1 : ν 1 = nI ns := (i1 1 (fun t _ _ => by omega)).1.trans hns
    have hs10 : s < 10 := by omega
    obtain ⟨f, rfl⟩ : ∃ f, fuel = f + 1 := ⟨fuel - 1, by omega⟩; rw [wp_X10_divide_129]; unfold wb_X10_divide_129; dsimp only
    refine ⟨a 0, H.r0, fun _ => ?_⟩
    rw [show hI S 143 (a 0) = nI ns from H.now.2.1.2.2.1.trans e1, nI_leI (by omega) (by omega), hn, nz_vp (by omega) (by decide), nI_clamp (n := s) (by omega), nI_1, hq s (by omega)]
    rw [s3F] at hR
    refine ⟨fun c => absurd c (by omega), fun _ => ⟨fun c v e => ?_, fun c => ⟨by omega, ?_, fun v80 e80 => ⟨⟨by omega, by omega⟩, fun q9 q0 qz S89 e89 => ?_⟩⟩⟩⟩
    · subst e
      have tb := hh.mp c
      rw [if_neg (fun z => tb z.1)] at hR
      refine ih (s + 1) f cnt ν r S kc ks (by omega) (by omega) (by omega) (by omega) (by omega) H hsam hk hn hq i1 (fun t t1 t2 => ?_) (fun t t1 => i3 t (by omega)) hR
      by_cases e : t = s
      · rw [e] at t2; exact absurd t2 tb
      · exact i2 t (by omega) t2
    · intro w
      have := congrArg Int64.toInt w
      rw [Int64.toInt_ofNat_of_lt (by omega)] at this
      have e0 : Int64.toInt 0 = 0 := by decide
      omega
    have tb : G.testBit s = true := by
      by_cases t : G.testBit s = true
      · exact t
      · exact absurd (hh.mpr t) c
    have e9 : A * wsI (mu 0) s / W = shN (mu 0) G A s := by unfold shN; rw [ins, hW]
    rw [if_pos tb, shr_n (by omega) (by rw [hW]; have := (wSum_ge (μ := mu 0) (g := G) ns 0 0).2 s (Nat.zero_le _) (by omega) tb; omega) hW0 hW2, e9] at e80
    have sle : shN (mu 0) G A s ≤ A := shN_le ins (by omega) tb
    have f89 : frM S S89 (fun _ => False) := by rw [e89]; exact frM.rf.nO ext_rf q0 6
    have x89 : ext S S89 := by rw [e89]; exact ext_newO ext_rf q0 6
    have H89 := H.nw x89 f89
    refine ⟨a 0, H89.r0, fun _ => ⟨a 2, H89.s2, fun _ => ?_⟩⟩
    rw [H89.n2, nz_vp (by omega) (by decide)]
    obtain ⟨c', r', _, _, hh9⟩ := H89.now.2.2.2.1
    have ec : c' = a 2 := Option.some.inj (r'.symm.trans H89.s2)
    rw [ec] at hh9
    obtain ⟨y, y1, y2⟩ := hh9 s (by show s < iv (ν 1); rw [e1, show iv (nI ns) = ns from nI_clamp (by omega)]; omega)
    have y2' : RelS S89 (fxM a) y ν s := y2
    have yq : y ≠ q9 := fun z => by
      have := y2'.1
      rw [z, e89, px_KO, if_pos rfl] at this
      have k9 : hK S89 q9 = 6 := by rw [e89, px_KO, if_pos rfl]
      obtain ⟨c2, r2, _, _, hh2⟩ := H.now.2.2.2.1
      have ec2 : c2 = a 2 := Option.some.inj (r2.symm.trans H.s2)
      rw [ec2] at hh2
      obtain ⟨u, u1, u2⟩ := hh2 s (by show s < iv (ν 1); rw [e1, show iv (nI ns) = ns from nI_clamp (by omega)]; omega)
      have u3 : hB S89 (a 2) s = some u := by rw [(f89 (a 2) (fun z => z) (H.1.k (by omega))).2.2.2.2.2]; exact u1
      have uy : u = y := Option.some.inj (u3.symm.trans y1)
      have u4 := u2.1
      rw [uy, z, q0] at u4
      exact absurd u4 (by decide)
    refine ⟨by omega, fun o103 eo _ => ⟨y, by rw [eo]; exact y1, fun _ => ⟨1, 5, ⟨by omega, by omega⟩, fxM a, ν, s, ⟨y2', yq, H.1.nM q0, H.1.xM x89, Nat.le_refl _, Nat.le_refl _⟩, fun S113 he113 h113 => ?_⟩⟩⟩
    obtain ⟨f113, R113, w9, rw9, w0⟩ := h113
    have f113' : frM S S113 (fun _ => False) := f89.nw f113 (fun b9 hb z => hb (by rw [z]; exact q0))
    have x113 := ext_tr x89 he113
    have h5 := H.now.1.pcs hs10
    have qk : q ≠ q9 := fun z => by rw [z, q0] at hk; exact absurd hk (by decide)
    rw [c20_le (by omega) (by omega), c20_d (by omega)]
    -- the new shipment is put in place
    have go : ∀ (v : Int32) (S124 S139 : HS) (cnt' : Nat) (r' : Nat → Int32) (kc' ks' : Nat), 0 ≤ v → S124 = putI S113 128 q9 v → S139 = putB S124 (a 2) s (some q9) → cnt' ≤ s + 1 → 2 * k ≤ kc' → 14 * k ≤ ks' → r' = upd r (14 + 26 * s + 5) v → (s3F G k (s + 1) (r', nI (L - cnt'))).1 = RF → wp_X10_divide_129 P f (a 50) (nI G) (nI A) q (Int64.ofNat W) (nI (L + 20 - cnt') - nI 20) (nI (s + 1)) S139 kc' ks' := fun v S124 S139 cnt' r' kc' ks' hv e124 e139 hc' hkc' hks' er' hR' => by
      have f124 : frM S S124 (fun _ => False) := f113'.nw (frM.pI (M := fun c => c = q9) frM.rf rfl 128 v) (fun b9 hb z => hb (by rw [z]; exact q0)) |> fun z => by rw [e124]; exact z
      have x124 : ext S S124 := by rw [e124]; exact x113
      have H124 := H.nw x124 f124
      have R124 : RelS S124 (fxM a) q9 (upd ν (14 + 26 * s + 5) v) s := by
        refine R113.ch h5 (by rw [e124, px_KI]) (by rw [e124, px_NI]) (by rw [e124, px_RI]) (by rw [e124, px_AI]) (fun i _ _ _ h1 => by rw [e124, px_II, if_neg (fun z => h1 z.1)]) ?_ ?_ ?_ ?_ (fun j h1 h2 h3 => by unfold upd; rw [if_neg (by omega)])
        · rw [e124, px_II, if_neg (by omega), R113.2.2.1]
          unfold upd
          rw [if_neg (by omega)]
        · rw [e124, px_II, if_neg (by omega), R113.2.2.2.1]
          unfold upd
          rw [if_neg (by omega)]
        · rw [e124, px_II, if_neg (by omega), R113.2.2.2.2.1]
          unfold upd
          rw [if_neg (by omega)]
        · rw [e124, px_II, if_pos ⟨rfl, rfl⟩]
          unfold upd
          rw [if_pos rfl]
      have hGν : GWF ν := (H.2.1 0 (by omega)).1
      have gG : GWF (upd ν (14 + 26 * s + 5) v) := by
        have eu : ∀ j, j ≠ 14 + 26 * s + 5 → upd ν (14 + 26 * s + 5) v j = ν j := fun j hj => by unfold upd; rw [if_neg hj]
        refine GWF_s (fun j _ h2 => eu j (by omega)) hs10 (sm_cg (eu 1 (by omega)) hGν.1.2.1) hGν (WFS_c4 (fun o h1 h2 h3 => eu _ (by omega)) (sm_cg (eu _ (by omega)) (hGν.1.s hs10).1) (Or.inr ?_) (hGν.1.s hs10))
        unfold upd
        rw [if_pos rfl]
        exact hv
      have H139 := H124.ps (s := s) hs10 R124 (fun j hj => by show upd ν _ v j = ν j; unfold upd; rw [if_neg (by omega)]) gG
      rw [← e139] at H139
      have H139' : FrS S139 a (fun t => if t = 0 then upd ν (14 + 26 * s + 5) v else mu t) g b sh := H139.e0 (by
        funext t
        by_cases e : t = 0
        · rw [if_pos e, if_pos e]
        · simp only [if_neg e])
      have aq : hA S139 q = hA S q := by
        rw [e139, px_AB]
        exact (f124 q (fun z => z) (nz_of hk (by decide))).2.2.2.2.1
      refine ih (s + 1) f cnt' _ r' S139 kc' ks' (by omega) (by omega) hc' hkc' hks' H139' (fun i h1 h2 => (hsam i h1 h2).tr ((f124 (a i) (fun z => z) (H.1.k h2)).tr ?_)) (by rw [e139, px_KB]; exact ext_K x124 hk (by decide)) (by rw [e139, px_NB, (x124 q (nz_of hk (by decide))).2]; exact hn) (fun t ht => by rw [aq]; exact hq t ht) (fun j hj => ?_) (fun t t1 t2 => ?_) (fun t t1 t2 t3 => ?_) hR'
      · rw [e139]
        exact frM.pB (M := fun c => c = a 2) frM.rf rfl s (some q9) (a i) (H.1.ne h2 (by omega) (by omega)) (H124.1.k h2)
      · have n5 := hj s (by omega) tb
        rw [er']
        unfold upd
        rw [if_neg n5, if_neg n5]
        exact i1 j hj
      · rw [er']
        unfold upd
        by_cases e : t = s
        · rw [if_pos (by rw [e]), if_pos (by rw [e])]
        · rw [if_neg (by omega), if_neg (by omega)]; exact i2 t (by omega) t2
      · rw [er']
        unfold upd
        rw [if_neg (by omega)]
        exact i3 t (by omega) t2 t3
    have hd : ∀ S5 : HS, (∃ v, S5 = putI S113 128 q9 v) → FrS S5 a (fun t => if t = 0 then ν else mu t) g b sh := fun S5 ⟨v, e5⟩ => by
      have f5 : frM S S5 (fun _ => False) := f113'.nw (frM.pI (M := fun c => c = q9) frM.rf rfl 128 v) (fun b9 hb z => hb (by rw [z]; exact q0)) |> fun z => by rw [e5]; exact z
      exact H.nw (by rw [e5]; exact x113) f5
    have n3 : nI (L - cnt) ≤ 0 ↔ L ≤ cnt := by
      rw [show (0 : Int32) = nI 0 from rfl, nI_leI (by omega) (by omega)]
      omega
    refine ⟨fun cl S124 e124 => ?_, fun cl S149 e149 => ?_⟩
    · have H5 := hd S124 ⟨v80, e124⟩
      refine ⟨a 0, H5.r0, fun _ => ⟨a 2, H5.s2, fun _ => ?_⟩⟩
      rw [H5.n2, nz_vp (by omega) (by decide)]
      refine ⟨by omega, fun S139 e139 v146 e146 v147 e147 => ?_⟩
      subst e146 e147
      rw [if_neg (fun z => z.2 (n3.mpr cl))] at hR
      refine go v80 S124 S139 (cnt + 1) r _ _ (by rw [e80]; exact nI_pos' (by omega)) e124 e139 (by omega) (by omega) (by omega) ?_ (by rw [show L - (cnt + 1) = L - cnt by omega]; exact hR)
      funext j
      unfold upd
      by_cases e : j = 14 + 26 * s + 5
      · rw [if_pos e, e, i3 s (Nat.le_refl _) (by omega) tb, e80]
      · rw [if_neg e]
    · have H5 := hd S149 ⟨v80 + 1, e149⟩
      refine ⟨a 0, H5.r0, fun _ => ⟨a 2, H5.s2, fun _ => ?_⟩⟩
      rw [H5.n2, nz_vp (by omega) (by decide)]
      refine ⟨by omega, fun S139 e139 v146 e146 v147 e147 => ?_⟩
      subst e146 e147
      rw [if_pos ⟨tb, fun z => cl (n3.mp z)⟩] at hR
      have em : nI (L - cnt) + (-1) = nI (L - (cnt + 1)) := by
        rw [← Int32.sub_eq_add_neg, nI_p1 (by omega), show L - cnt - 1 = L - (cnt + 1) by omega]
      dsimp only at hR
      rw [em, i3 s (Nat.le_refl _) (by omega) tb] at hR
      exact go (v80 + 1) S149 S139 (cnt + 1) _ _ _ (by rw [e80, nI_1]; exact nI_pos' (by omega)) e149 e139 (by omega) (by omega) (by omega) (by rw [e80]) hR
theorem k_X10_divide (l : Launch) (D : va_G) (T : Nat → ClassId) (x0 : Nat) (p0 : Int32) (p1 : Int32) (S : HS) (e0 : (Nat → Nat)) (e1 : (Nat → Nat → Int32)) (e2 : (Nat → Int32)) (e3 : (Nat → Int32)) (e4 : (List Int32)) (e5 : Nat) (e6 : Nat) (mc ms : Nat) (hx0 : hK S x0 = 11) (h : FrS S e0 e1 e2 e3 e4 ∧ x0 = e0 50 ∧ p0 = nI e5 ∧ p1 = nI e6 ∧ e6 ≤ 1000000000 ∧ 0 < e5 ∧ e5 < 2 ^ iv (e1 0 1) ∧ sg0 (e1 0) e5 ∧ 21 ≤ mc ∧ 150 ≤ ms) : CMv l yX10_divide (ws_X10_divide) rm_X10_divide D T [.ref x0, .int p0, .int p1] S mc ms (fun S1 => (FrS S1 e0 (fun t => if t = 0 then shrF (e1 0) e5 e6 else e1 t) e2 e3 e4 ∧ ∀ i, 57 ≤ i → i < 64 → sam S S1 (e0 i))) := c_X10_divide l D T x0 p0 p1 S mc ms hx0 _ <|
  (by
    obtain ⟨h, e, eg, ea, ha9, hg0, hg, hs0, hmc, hms⟩ := h
    subst e eg ea
    obtain ⟨ns, hns, ens⟩ := h.now.1.2.1
    have ins : iv (e1 0 1) = ns := by rw [ens]; exact nI_clamp (by omega)
    rw [ins] at hg
    have g10 : e5 < 1024 := Nat.lt_of_lt_of_le hg (p2_le hns)
    obtain ⟨wt1, wt2⟩ : ∃ t, t < ns ∧ e5.testBit t = true := ⟨lowN e5, tb_lt hg (low_tb' g10 hg0), low_tb' g10 hg0⟩
    have wge := (wSum_ge (μ := e1 0) (g := e5) ns 0 0).2 wt1 (Nat.zero_le _) (by omega) wt2.2
    have wb := ws_bn h.now.1 ens hns wt2.1 (hs0 wt1 wt2.2)
    have wle := wSum_le (μ := e1 0) (g := e5) ns 0 0 (fun t _ t2 t3 => (ws_bn h.now.1 ens hns (by omega) (hs0 t t3)).2.1)
    have hW0 : 0 < wSum (e1 0) e5 ns 0 0 := by omega
    have hW2 : wSum (e1 0) e5 ns 0 0 < 2 ^ 31 := by omega
    unfold wp_X10_divide
    rw [show Int32.toNatClampNeg 10 = 10 by decide]
    refine ⟨⟨⟨by decide, by decide⟩, by omega, by omega⟩, fun q q0 qz S8 e8 => ?_⟩
    have f8 : frM S S8 (fun _ => False) := by rw [e8]; exact frM.rf.nW ext_rf q0 22 10
    have x8 : ext S S8 := by rw [e8]; exact ext_newA ext_rf q0 22 10
    have w8 : wkI S S8 e0 := ⟨x8, f8.sub (fun _ z => z.elim), fun i h1 h2 j => by rw [e8, px_RW]⟩
    have k8 : hK S8 q = 22 := by rw [e8, px_KW, if_pos rfl]
    have n8 : hN S8 q = 10 := by rw [e8, px_NW, if_pos rfl]
    have a8 : ∀ t, hA S8 q t = 0 := fun t => by rw [e8, px_AW]; exact qz.2.2.1 t
    have sN : sNf (e1 0) e5 e6 ns 0 0 ≤ e6 := by
      have := sNf_W (μ := e1 0) (g := e5) (a := e6) (W := wSum (e1 0) e5 ns 0 0) (by rw [ins]) ns 0 0 0 (by omega)
      exact Nat.le_of_mul_le_mul_right this hW0
    have s22 : ∀ r, (s2F (e1 0) e5 e6 ns 0 (r, nI e6)).2 = nI (e6 - sNf (e1 0) e5 e6 ns 0 0) := fun r => by
      have := s2_2 (μ := e1 0) (g := e5) (a := e6) (B := e6) (by omega) ns 0 r 0 sN
      rw [Nat.sub_zero] at this
      exact this
    refine ⟨20, rl_d11 (kc := mc - 1) (ks := ms - 10) h ens hns hg hs0 q0 (fun S1 w1 k1 n1 q1 => ?_) ns 0 20 0 S8 (by omega) (by omega) w8 k8 n8 (fun t ht => absurd ht (Nat.not_lt_zero t)) (fun t _ => a8 t) rfl⟩
    intro _ _
    refine ⟨fun _ => ?_, fun z => absurd (lg_pos hW0 hW2) z⟩
    have H1 := wkI.F h w1
    refine ⟨20, rl_d91 (W := wSum (e1 0) e5 ns 0 0) (Lf := nI (e6 - sNf (e1 0) e5 e6 ns 0 0)) H1 ens hns n1 (by omega) rfl hW0 hW2 q1 ?_ ns 0 20 (nI e6) (by omega) (by omega) s22⟩
    intro _ _
    have eL : nI (e6 - sNf (e1 0) e5 e6 ns 0 0) = nI ((e6 - sNf (e1 0) e5 e6 ns 0 0) + 20 - 0) - nI 20 := by
      rw [Nat.sub_zero, sub_k (by omega), Nat.add_sub_cancel]
    rw [eL]
    obtain ⟨p1, p2⟩ := s2_1 (μ := e1 0) (g := e5) (a := e6) ns 0 (e1 0) (nI e6)
    refine ⟨20, rl_d129 (S0 := S) (W := wSum (e1 0) e5 ns 0 0) (L := e6 - sNf (e1 0) e5 e6 ns 0 0) (RF := shrF (e1 0) e5 e6) ens hns hg ha9 (by omega) rfl hW0 hW2 (fun S9 h9 s9 => ⟨h9, s9⟩) ns 0 20 0 (e1 0) (s2F (e1 0) e5 e6 ns 0 (e1 0, nI e6)).1 S1 _ _ (by omega) (by omega) (Nat.le_refl _) (by omega) (by omega) (H1.e0 ?_) (fun i h1 h2 => wkI.sm h w1 h1 h2) k1 n1 q1 (fun j hj => ⟨rfl, p1 j (fun t _ t2 t3 => hj t (by omega) t3)⟩) (fun t ht => absurd ht (Nat.not_lt_zero t)) (fun t _ t2 t3 => p2 t (Nat.zero_le _) (by omega) t3) ?_⟩
    · funext t
      by_cases e : t = 0
      · rw [if_pos e, e]
      · rw [if_neg e]
    · unfold shrF
      rw [ins, Nat.sub_zero]
      have := s22 (e1 0)
      rw [← this])

end S_CAG
