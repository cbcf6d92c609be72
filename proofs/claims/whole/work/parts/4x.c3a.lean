section S_C3A
abbrev ws_X1_findFirst : List Cond := Cond.code yX1_findFirst cX1_findFirst 8 none :: W0
abbrev rm_X1_findFirst : Room := ({ frames := 3, cells := 0, slots := 0, locals := 120 } : Room)
def wb_X1_findFirst_22 (rec : Nat → Int32 → Int32 → Int32 → Int32 → Int32 → HS → Prop) (P : HS → Prop) (x0 : Nat) (x1 : Int32) (x2 : Int32) (x3 : Int32) (x4 : Int32) (x5 : Int32) (S : HS) : Prop := ∃ (m13 : Nat), ((m13 < 1024 ∧ x3 = nI m13) ∧ ((((1 : Int32) <<< ((nI (popN m13)) &&& 31)) ≤ x5 → (P S)) ∧ (¬ ((1 : Int32) <<< ((nI (popN m13)) &&& 31)) ≤ x5 → (∀ v20 : Int32, v20 = (x2 ||| x4) → (∀ v21 : Int32, v21 = (x1 - v20) → (∃ b23 : Nat, hR S 42 x0 = some b23 ∧ (hK S b23 = 22 → (vp_in v20 (hN S b23) ∧ (((hA S b23 (Int32.toNatClampNeg v20)) = (-1) → (∀ v27 : Int32, v27 = ((x4 - x3) &&& x3) → (∀ v28 : Int32, v28 = x5 + 1 → (rec x0 x1 x2 x3 v27 v28 S)))) ∧ (¬ (hA S b23 (Int32.toNatClampNeg v20)) = (-1) → (∃ b30 : Nat, hR S 42 x0 = some b30 ∧ (hK S b30 = 22 → (vp_in v20 (hN S b30) ∧ (∃ b34 : Nat, hR S 43 x0 = some b34 ∧ (hK S b34 = 22 → (vp_in v21 (hN S b34) ∧ (∃ b38 : Nat, hR S 44 x0 = some b38 ∧ (hK S b38 = 22 → (vp_in v21 (hN S b38) ∧ (∃ (m41 : Nat → Nat), ((PlO S x0 m41 ∧ ∃ w : Nat, w < 256 ∧ x1 = nI w) ∧ (((b2i (decide (hA S (m41 4) (iv x1) = 0) || (decide (((hA S b30 (Int32.toNatClampNeg v20)) + (hA S b34 (Int32.toNatClampNeg v21))) < hA S (m41 2) (iv x1)) || (decide (((hA S b30 (Int32.toNatClampNeg v20)) + (hA S b34 (Int32.toNatClampNeg v21))) = hA S (m41 2) (iv x1)) && decide (((hA S b38 (Int32.toNatClampNeg v21)) + 1) < hA S (m41 3) (iv x1)))))) = 0 → (∀ v48 : Int32, v48 = ((x4 - x3) &&& x3) → (∀ v49 : Int32, v49 = x5 + 1 → (rec x0 x1 x2 x3 v48 v49 S)))) ∧ (¬ (b2i (decide (hA S (m41 4) (iv x1) = 0) || (decide (((hA S b30 (Int32.toNatClampNeg v20)) + (hA S b34 (Int32.toNatClampNeg v21))) < hA S (m41 2) (iv x1)) || (decide (((hA S b30 (Int32.toNatClampNeg v20)) + (hA S b34 (Int32.toNatClampNeg v21))) = hA S (m41 2) (iv x1)) && decide (((hA S b38 (Int32.toNatClampNeg v21)) + 1) < hA S (m41 3) (iv x1)))))) = 0 → (∃ b51 : Nat, hR S 45 x0 = some b51 ∧ (hK S b51 = 22 → (vp_in x1 (hN S b51) ∧ (∀ S55 : HS, S55 = putA S b51 (Int32.toNatClampNeg x1) v20 → (∃ b61 : Nat, hR S55 43 x0 = some b61 ∧ (hK S55 b61 = 22 → (∃ b64 : Nat, hR S55 42 x0 = some b64 ∧ (hK S55 b64 = 22 → (vp_in v20 (hN S55 b64) ∧ (∃ b68 : Nat, hR S55 43 x0 = some b68 ∧ (hK S55 b68 = 22 → (vp_in v21 (hN S55 b68) ∧ (vp_in x1 (hN S55 b61) ∧ (∀ S73 : HS, S73 = putA S55 b61 (Int32.toNatClampNeg x1) ((hA S55 b64 (Int32.toNatClampNeg v20)) + (hA S55 b68 (Int32.toNatClampNeg v21))) → (∃ b79 : Nat, hR S73 44 x0 = some b79 ∧ (hK S73 b79 = 22 → (∃ b82 : Nat, hR S73 44 x0 = some b82 ∧ (hK S73 b82 = 22 → (vp_in v21 (hN S73 b82) ∧ (vp_in x1 (hN S73 b79) ∧ (∀ S87 : HS, S87 = putA S73 b79 (Int32.toNatClampNeg x1) ((hA S73 b82 (Int32.toNatClampNeg v21)) + 1) → (∀ v92 : Int32, v92 = ((x4 - x3) &&& x3) → (∀ v93 : Int32, v93 = x5 + 1 → (rec x0 x1 x2 x3 v92 v93 S87)))))))))))))))))))))))))))))))))))))))))))))))
def wp_X1_findFirst_22 (P : HS → Prop) : Nat → Nat → Int32 → Int32 → Int32 → Int32 → Int32 → HS → Prop
  | 0 => fun _ _ _ _ _ _ _ => False
  | n + 1 => fun x0 x1 x2 x3 x4 x5 S => wb_X1_findFirst_22 (wp_X1_findFirst_22  P n)  P x0 x1 x2 x3 x4 x5 S
set_option maxRecDepth 100000 in
set_option maxHeartbeats 4000000 in
theorem t_X1_findFirst_22 {p : Program} {l : Launch} {e : Env} {s : State} {m : MethodId} {args : Array Value} {below : List Frame} {meth : Method} {c : Code} {D : va_G} {A : Nat → Prop} {T : Nat → ClassId} (C : GC p s m args meth c cX1_findFirst "FreightRater$Plan" (ws_X1_findFirst) 8 D A (zty T)) (E : GE T A s) (hr : meth.sig.returnType = none) (S0 : HS) (P : HS → Prop) : ∀ (n : Nat) (x0 : Nat) (x1 : Int32) (x2 : Int32) (x3 : Int32) (x4 : Int32) (x5 : Int32) (S : HS) (L : List Nat), wt S → hL S L → ext S0 S → (hK S x0 = 2) → wp_X1_findFirst_22  P n x0 x1 x2 x3 x4 x5 S → GW p l e { rm_X1_findFirst with cells := 0, slots := 0 } s m args below meth c D A 8 0 0 (MQ below (va_Qv (fun (u : HS × List Nat) => P u.1 ∧ CO S0 u) (CE D T A) A) args s 0 0 A) (CW T S L) 0 0 22 [(0, .ref x0), (1, .int x1), (2, .int x2), (3, .int x3), (4, .int x4), (5, .int x5)] [] := by
  have hW : ∀ {w : Cond}, w ∈ W0 → w.before args s = true := fun h => C.2.2.2.2.1 _ (List.mem_cons_of_mem _ h)
  intro n
  induction n with
  | zero => intro x0 x1 x2 x3 x4 x5 S L hw hL he hx0 h; exact h.elim
  | succ n ih =>
    intro x0 x1 x2 x3 x4 x5 S L hw hL he hx0 h
    replace h : wb_X1_findFirst_22 (wp_X1_findFirst_22  P n)  P x0 x1 x2 x3 x4 x5 S := h
    unfold wb_X1_findFirst_22 at h
    refine g_iload C dX1_findFirst_22 5 rfl ?_
    refine g_iconst (v := 1) C dX1_findFirst_24 (by decide) ?_
    refine g_iload_n C dX1_findFirst_25 rfl 3 rfl ?_
    obtain ⟨m13, h⟩ := h
    obtain ⟨g14, h⟩ := h
    refine gc_calliS (host := "") C E hw hL [.int x3] rfl (k_J6_bitCount_0f7a4 l D T x3 S m13  g14) (w0_S 1 C.2.2.2.2.1 kw_1364 kw_1335 kw_37 kw_1336 rfl rfl (by decide +kernel) ⟨Nat.le_of_ble_eq_true rfl, Nat.le_of_ble_eq_true rfl⟩) rfl (Nat.le_of_ble_eq_true rfl) (Nat.le_refl _) (Nat.le_refl _) (Nat.zero_le _) (Nat.zero_le _) dX1_findFirst_26 (fun v9 S9 L15 he9 hw9 hL9 hp => ?_)
    obtain ⟨hv9, hs9⟩ := hp
    replace hs9 := hs9.symm
    subst hs9
    replace hv9 := hv9.symm
    subst hv9
    have w18 := hL9
    refine g_ishl C dX1_findFirst_29 ?_
    refine g_icmp_ge (tgt := 146) C dX1_findFirst_30 (by decide) (fun z19 => ?_) (fun z19 => ?_)
    · replace h := h.1 z19
      exact gc_vret C hw w18 he hr dX1_findFirst_146 h
    · replace h := h.2 z19
      refine g_iload_n C dX1_findFirst_33 rfl 2 rfl ?_
      refine g_iload C dX1_findFirst_34 4 rfl ?_
      refine g_ior C dX1_findFirst_36 ?_
      refine g_topi (fun v20 ev20 => ?_)
      replace h := h v20 ev20
      refine g_istore (lv' := [(6, .int v20), (0, .ref x0), (1, .int x1), (2, .int x2), (3, .int x3), (4, .int x4), (5, .int x5)]) C dX1_findFirst_37 (by decide) rfl ?_
      refine g_iload_n C dX1_findFirst_39 rfl 2 rfl ?_
      refine g_iload C dX1_findFirst_40 0 rfl ?_
      refine g_isub C dX1_findFirst_42 ?_
      refine g_topi (fun v21 ev21 => ?_)
      replace h := h v21 ev21
      refine g_istore (lv' := [(7, .int v21), (6, .int v20), (0, .ref x0), (1, .int x1), (2, .int x2), (3, .int x3), (4, .int x4), (5, .int x5)]) C dX1_findFirst_43 (by decide) rfl ?_
      refine g_aload_n C dX1_findFirst_45 rfl 2 rfl ?_
      refine gc_getR C hw iwx_X1 w18 hx0 (by decide) (by decide) rfl 2 (by decide) (hW kw_216) rfl rfl rfl dX1_findFirst_46 (fun o22 eo22 ko22 => ?_)
      obtain ⟨b23, hb9, h⟩ := h
      have g24 : hK S b23 = 22 := ko22 b23 (eo22.trans hb9)
      replace h := h g24
      refine g_opt (eo22.trans hb9) ?_
      refine g_iload C dX1_findFirst_49 1 rfl ?_
      obtain ⟨g25, h⟩ := h
      refine gc_iald C w18 g24 g25 dX1_findFirst_51 ?_
      refine g_iconst (v := -1) C dX1_findFirst_52 (by decide) ?_
      refine g_icmp_eq (tgt := 132) C dX1_findFirst_53 (by decide) (fun z26 => ?_) (fun z26 => ?_)
      · replace h := h.1 z26
        refine g_iload C dX1_findFirst_132 6 rfl ?_
        refine g_iload_n C dX1_findFirst_134 rfl 5 rfl ?_
        refine g_isub C dX1_findFirst_135 ?_
        refine g_iload_n C dX1_findFirst_136 rfl 5 rfl ?_
        refine g_iand C dX1_findFirst_137 ?_
        refine g_topi (fun v27 ev27 => ?_)
        replace h := h v27 ev27
        refine g_istore (lv' := [(4, .int v27), (7, .int v21), (6, .int v20), (0, .ref x0), (1, .int x1), (2, .int x2), (3, .int x3), (5, .int x5)]) C dX1_findFirst_138 (by decide) rfl ?_
        obtain ⟨v28, ev28⟩ : ∃ y : Int32, y = x5 + 1 := ⟨_, rfl⟩
        replace h := h v28 ev28
        refine g_iinc (v := v28) (lv' := [(5, .int v28), (4, .int v27), (7, .int v21), (6, .int v20), (0, .ref x0), (1, .int x1), (2, .int x2), (3, .int x3)]) C dX1_findFirst_140 (j := 7) rfl (by rw [ev28]; rfl) (by decide) rfl ?_
        refine g_goto (tgt := 22) C dX1_findFirst_143 (by decide) ?_
        refine g_locals [4, 5, 6, 7, 1, 0] rfl ?_
        exact ih x0 x1 x2 x3 v27 v28 S L15 hw w18 he hx0 h
      · replace h := h.2 z26
        refine g_aload_n C dX1_findFirst_56 rfl 2 rfl ?_
        refine g_iload_n C dX1_findFirst_57 rfl 3 rfl ?_
        refine g_aload_n C dX1_findFirst_58 rfl 2 rfl ?_
        refine gc_getR C hw iwx_X1 w18 hx0 (by decide) (by decide) rfl 2 (by decide) (hW kw_216) rfl rfl rfl dX1_findFirst_59 (fun o29 eo29 ko29 => ?_)
        obtain ⟨b30, hb9, h⟩ := h
        have g31 : hK S b30 = 22 := ko29 b30 (eo29.trans hb9)
        replace h := h g31
        refine g_opt (eo29.trans hb9) ?_
        refine g_iload C dX1_findFirst_62 1 rfl ?_
        obtain ⟨g32, h⟩ := h
        refine gc_iald C w18 g31 g32 dX1_findFirst_64 ?_
        refine g_aload_n C dX1_findFirst_65 rfl 2 rfl ?_
        refine gc_getR C hw iwx_X1 w18 hx0 (by decide) (by decide) rfl 3 (by decide) (hW kw_218) rfl rfl rfl dX1_findFirst_66 (fun o33 eo33 ko33 => ?_)
        obtain ⟨b34, hb9, h⟩ := h
        have g35 : hK S b34 = 22 := ko33 b34 (eo33.trans hb9)
        replace h := h g35
        refine g_opt (eo33.trans hb9) ?_
        refine g_iload C dX1_findFirst_69 0 rfl ?_
        obtain ⟨g36, h⟩ := h
        refine gc_iald C w18 g35 g36 dX1_findFirst_71 ?_
        refine g_iadd C dX1_findFirst_72 ?_
        refine g_aload_n C dX1_findFirst_73 rfl 2 rfl ?_
        refine gc_getR C hw iwx_X1 w18 hx0 (by decide) (by decide) rfl 4 (by decide) (hW kw_219) rfl rfl rfl dX1_findFirst_74 (fun o37 eo37 ko37 => ?_)
        obtain ⟨b38, hb9, h⟩ := h
        have g39 : hK S b38 = 22 := ko37 b38 (eo37.trans hb9)
        replace h := h g39
        refine g_opt (eo37.trans hb9) ?_
        refine g_iload C dX1_findFirst_77 0 rfl ?_
        obtain ⟨g40, h⟩ := h
        refine gc_iald C w18 g39 g40 dX1_findFirst_79 ?_
        refine g_iconst (v := 1) C dX1_findFirst_80 (by decide) ?_
        refine g_iadd C dX1_findFirst_81 ?_
        obtain ⟨m41, h⟩ := h
        obtain ⟨g42, h⟩ := h
        refine gc_calliV (host := "") C E hw w18 hx0 (by decide) (by decide) rfl [.int x1, .int ((hA S b30 (Int32.toNatClampNeg v20)) + (hA S b34 (Int32.toNatClampNeg v21))), .int ((hA S b38 (Int32.toNatClampNeg v21)) + 1)] rfl (k_X1_isBetter l D T x0 x1 ((hA S b30 (Int32.toNatClampNeg v20)) + (hA S b34 (Int32.toNatClampNeg v21))) ((hA S b38 (Int32.toNatClampNeg v21)) + 1) S m41 hx0 g42) (w0_V 3 C.2.2.2.2.1 kw_1365 kw_1367 ks_44 kw_8 kw_1368 rfl rfl (by decide +kernel) ⟨Nat.le_of_ble_eq_true rfl, Nat.le_of_ble_eq_true rfl⟩) rfl (Nat.le_of_ble_eq_true rfl) (Nat.le_refl _) (Nat.le_refl _) (Nat.zero_le _) (Nat.zero_le _) dX1_findFirst_82 (fun v9 S9 L43 he9 hw9 hL9 hp => ?_)
        obtain ⟨hv9, hs9⟩ := hp
        replace hs9 := hs9.symm
        subst hs9
        replace hv9 := hv9.symm
        subst hv9
        have w46 := hL9
        refine g_if_eq (tgt := 132) C dX1_findFirst_85 (by decide) (fun z47 => ?_) (fun z47 => ?_)
        · replace h := h.1 z47
          refine g_iload C dX1_findFirst_132 6 rfl ?_
          refine g_iload_n C dX1_findFirst_134 rfl 5 rfl ?_
          refine g_isub C dX1_findFirst_135 ?_
          refine g_iload_n C dX1_findFirst_136 rfl 5 rfl ?_
          refine g_iand C dX1_findFirst_137 ?_
          refine g_topi (fun v48 ev48 => ?_)
          replace h := h v48 ev48
          refine g_istore (lv' := [(4, .int v48), (7, .int v21), (6, .int v20), (0, .ref x0), (1, .int x1), (2, .int x2), (3, .int x3), (5, .int x5)]) C dX1_findFirst_138 (by decide) rfl ?_
          obtain ⟨v49, ev49⟩ : ∃ y : Int32, y = x5 + 1 := ⟨_, rfl⟩
          replace h := h v49 ev49
          refine g_iinc (v := v49) (lv' := [(5, .int v49), (4, .int v48), (7, .int v21), (6, .int v20), (0, .ref x0), (1, .int x1), (2, .int x2), (3, .int x3)]) C dX1_findFirst_140 (j := 7) rfl (by rw [ev49]; rfl) (by decide) rfl ?_
          refine g_goto (tgt := 22) C dX1_findFirst_143 (by decide) ?_
          refine g_locals [4, 5, 6, 7, 1, 0] rfl ?_
          exact ih x0 x1 x2 x3 v48 v49 S L43 hw w46 he hx0 h
        · replace h := h.2 z47
          refine g_aload_n C dX1_findFirst_88 rfl 2 rfl ?_
          refine gc_getR C hw iwx_X1 w46 hx0 (by decide) (by decide) rfl 5 (by decide) (hW kw_220) rfl rfl rfl dX1_findFirst_89 (fun o50 eo50 ko50 => ?_)
          obtain ⟨b51, hb9, h⟩ := h
          have g52 : hK S b51 = 22 := ko50 b51 (eo50.trans hb9)
          replace h := h g52
          refine g_opt (eo50.trans hb9) ?_
          refine g_iload_n C dX1_findFirst_92 rfl 3 rfl ?_
          refine g_iload C dX1_findFirst_93 1 rfl ?_
          obtain ⟨g53, h⟩ := h
          refine gc_iast C w46 g52 g53 dX1_findFirst_95 ?_
          have w54 := wt_putA hw (Int32.toNatClampNeg x1) v20 (k_ne g52 (by decide))
          refine gc_nS (fun S55 eS55 => ?_)
          replace h := h S55 eS55
          have w56 : wt S55 := by rw [eS55]; exact w54
          have w57 : isL S55 L43 := by rw [eS55]; exact w46
          have w58 : ext S0 S55 := by rw [eS55]; exact he
          have g59 : hK S55 x0 = 2 := by rw [eS55]; exact hx0
          refine g_aload_n C dX1_findFirst_96 rfl 2 rfl ?_
          refine gc_getR C w56 iwx_X1 w57 g59 (by decide) (by decide) rfl 3 (by decide) (hW kw_218) rfl rfl rfl dX1_findFirst_97 (fun o60 eo60 ko60 => ?_)
          obtain ⟨b61, hb9, h⟩ := h
          have g62 : hK S55 b61 = 22 := ko60 b61 (eo60.trans hb9)
          replace h := h g62
          refine g_opt (eo60.trans hb9) ?_
          refine g_iload_n C dX1_findFirst_100 rfl 3 rfl ?_
          refine g_aload_n C dX1_findFirst_101 rfl 2 rfl ?_
          refine gc_getR C w56 iwx_X1 w57 g59 (by decide) (by decide) rfl 2 (by decide) (hW kw_216) rfl rfl rfl dX1_findFirst_102 (fun o63 eo63 ko63 => ?_)
          obtain ⟨b64, hb9, h⟩ := h
          have g65 : hK S55 b64 = 22 := ko63 b64 (eo63.trans hb9)
          replace h := h g65
          refine g_opt (eo63.trans hb9) ?_
          refine g_iload C dX1_findFirst_105 1 rfl ?_
          obtain ⟨g66, h⟩ := h
          refine gc_iald C w57 g65 g66 dX1_findFirst_107 ?_
          refine g_aload_n C dX1_findFirst_108 rfl 2 rfl ?_
          refine gc_getR C w56 iwx_X1 w57 g59 (by decide) (by decide) rfl 3 (by decide) (hW kw_218) rfl rfl rfl dX1_findFirst_109 (fun o67 eo67 ko67 => ?_)
          obtain ⟨b68, hb9, h⟩ := h
          have g69 : hK S55 b68 = 22 := ko67 b68 (eo67.trans hb9)
          replace h := h g69
          refine g_opt (eo67.trans hb9) ?_
          refine g_iload C dX1_findFirst_112 0 rfl ?_
          obtain ⟨g70, h⟩ := h
          refine gc_iald C w57 g69 g70 dX1_findFirst_114 ?_
          refine g_iadd C dX1_findFirst_115 ?_
          obtain ⟨g71, h⟩ := h
          refine gc_iast C w57 g62 g71 dX1_findFirst_116 ?_
          have w72 := wt_putA w56 (Int32.toNatClampNeg x1) ((hA S55 b64 (Int32.toNatClampNeg v20)) + (hA S55 b68 (Int32.toNatClampNeg v21))) (k_ne g62 (by decide))
          refine gc_nS (fun S73 eS73 => ?_)
          replace h := h S73 eS73
          have w74 : wt S73 := by rw [eS73]; exact w72
          have w75 : isL S73 L43 := by rw [eS73]; exact w57
          have w76 : ext S0 S73 := by rw [eS73]; exact w58
          have g77 : hK S73 x0 = 2 := by rw [eS73]; exact g59
          refine g_aload_n C dX1_findFirst_117 rfl 2 rfl ?_
          refine gc_getR C w74 iwx_X1 w75 g77 (by decide) (by decide) rfl 4 (by decide) (hW kw_219) rfl rfl rfl dX1_findFirst_118 (fun o78 eo78 ko78 => ?_)
          obtain ⟨b79, hb9, h⟩ := h
          have g80 : hK S73 b79 = 22 := ko78 b79 (eo78.trans hb9)
          replace h := h g80
          refine g_opt (eo78.trans hb9) ?_
          refine g_iload_n C dX1_findFirst_121 rfl 3 rfl ?_
          refine g_aload_n C dX1_findFirst_122 rfl 2 rfl ?_
          refine gc_getR C w74 iwx_X1 w75 g77 (by decide) (by decide) rfl 4 (by decide) (hW kw_219) rfl rfl rfl dX1_findFirst_123 (fun o81 eo81 ko81 => ?_)
          obtain ⟨b82, hb9, h⟩ := h
          have g83 : hK S73 b82 = 22 := ko81 b82 (eo81.trans hb9)
          replace h := h g83
          refine g_opt (eo81.trans hb9) ?_
          refine g_iload C dX1_findFirst_126 0 rfl ?_
          obtain ⟨g84, h⟩ := h
          refine gc_iald C w75 g83 g84 dX1_findFirst_128 ?_
          refine g_iconst (v := 1) C dX1_findFirst_129 (by decide) ?_
          refine g_iadd C dX1_findFirst_130 ?_
          obtain ⟨g85, h⟩ := h
          refine gc_iast C w75 g80 g85 dX1_findFirst_131 ?_
          have w86 := wt_putA w74 (Int32.toNatClampNeg x1) ((hA S73 b82 (Int32.toNatClampNeg v21)) + 1) (k_ne g80 (by decide))
          refine gc_nS (fun S87 eS87 => ?_)
          replace h := h S87 eS87
          have w88 : wt S87 := by rw [eS87]; exact w86
          have w89 : isL S87 L43 := by rw [eS87]; exact w75
          have w90 : ext S0 S87 := by rw [eS87]; exact w76
          have g91 : hK S87 x0 = 2 := by rw [eS87]; exact g77
          refine g_iload C dX1_findFirst_132 6 rfl ?_
          refine g_iload_n C dX1_findFirst_134 rfl 5 rfl ?_
          refine g_isub C dX1_findFirst_135 ?_
          refine g_iload_n C dX1_findFirst_136 rfl 5 rfl ?_
          refine g_iand C dX1_findFirst_137 ?_
          refine g_topi (fun v92 ev92 => ?_)
          replace h := h v92 ev92
          refine g_istore (lv' := [(4, .int v92), (7, .int v21), (6, .int v20), (0, .ref x0), (1, .int x1), (2, .int x2), (3, .int x3), (5, .int x5)]) C dX1_findFirst_138 (by decide) rfl ?_
          obtain ⟨v93, ev93⟩ : ∃ y : Int32, y = x5 + 1 := ⟨_, rfl⟩
          replace h := h v93 ev93
          refine g_iinc (v := v93) (lv' := [(5, .int v93), (4, .int v92), (7, .int v21), (6, .int v20), (0, .ref x0), (1, .int x1), (2, .int x2), (3, .int x3)]) C dX1_findFirst_140 (j := 7) rfl (by rw [ev93]; rfl) (by decide) rfl ?_
          refine g_goto (tgt := 22) C dX1_findFirst_143 (by decide) ?_
          refine g_locals [4, 5, 6, 7, 1, 0] rfl ?_
          exact ih x0 x1 x2 x3 v92 v93 S87 L43 w88 w89 w90 g91 h
def wp_X1_findFirst (P : HS → Prop) (x0 : Nat) (p0 : Int32) (S : HS) : Prop := ∀ v1 : Int32, v1 = (p0 &&& (-p0)) → (∀ v2 : Int32, v2 = (p0 - v1) → (∃ b4 : Nat, hR S 45 x0 = some b4 ∧ (hK S b4 = 22 → (vp_in p0 (hN S b4) ∧ (∀ S8 : HS, S8 = putA S b4 (Int32.toNatClampNeg p0) 0 → (∃ k94 : Nat, wp_X1_findFirst_22  P k94 x0 p0 v1 v2 0 0 S8))))))
set_option maxRecDepth 100000 in
set_option maxHeartbeats 4000000 in
theorem t_X1_findFirst {p : Program} {l : Launch} {e : Env} {s : State} {m : MethodId} {args : Array Value} {below : List Frame} {meth : Method} {c : Code} {D : va_G} {A : Nat → Prop} {T : Nat → ClassId} (C : GC p s m args meth c cX1_findFirst "FreightRater$Plan" (ws_X1_findFirst) 8 D A (zty T)) (E : GE T A s) (hr : meth.sig.returnType = none) (P : HS → Prop) : ∀ (x0 : Nat) (p0 : Int32) (S0 S : HS) (L : List Nat), S0 = S → wt S → hL S L → (hK S x0 = 2) → wp_X1_findFirst P x0 p0 S → GW p l e { rm_X1_findFirst with cells := 0, slots := 0 } s m args below meth c D A 8 0 0 (MQ below (va_Qv (fun (u : HS × List Nat) => P u.1 ∧ CO S0 u) (CE D T A) A) args s 0 0 A) (CW T S L) 0 0 0 [(0, .ref x0), (1, .int p0)] [] := by
  have hW : ∀ {w : Cond}, w ∈ W0 → w.before args s = true := fun h => C.2.2.2.2.1 _ (List.mem_cons_of_mem _ h)
  intro x0 p0 S0 S L hS0 hw hL hx0 h
  have he : ext S0 S := by rw [hS0]; exact ext_rf
  unfold wp_X1_findFirst at h
  refine g_iload_n C dX1_findFirst_0 rfl 1 rfl ?_
  refine g_iload_n C dX1_findFirst_1 rfl 1 rfl ?_
  refine g_ineg C dX1_findFirst_2 ?_
  refine g_iand C dX1_findFirst_3 ?_
  refine g_topi (fun v1 ev1 => ?_)
  replace h := h v1 ev1
  refine g_istore_n (lv' := [(2, .int v1), (0, .ref x0), (1, .int p0)]) C dX1_findFirst_4 rfl (by decide) rfl ?_
  refine g_iload_n C dX1_findFirst_5 rfl 2 rfl ?_
  refine g_iload_n C dX1_findFirst_6 rfl 0 rfl ?_
  refine g_isub C dX1_findFirst_7 ?_
  refine g_topi (fun v2 ev2 => ?_)
  replace h := h v2 ev2
  refine g_istore_n (lv' := [(3, .int v2), (2, .int v1), (0, .ref x0), (1, .int p0)]) C dX1_findFirst_8 rfl (by decide) rfl ?_
  refine g_iconst (v := 0) C dX1_findFirst_9 (by decide) ?_
  refine g_istore (lv' := [(4, .int 0), (3, .int v2), (2, .int v1), (0, .ref x0), (1, .int p0)]) C dX1_findFirst_10 (by decide) rfl ?_
  refine g_aload_n C dX1_findFirst_12 rfl 3 rfl ?_
  refine gc_getR C hw iwx_X1 hL hx0 (by decide) (by decide) rfl 5 (by decide) (hW kw_220) rfl rfl rfl dX1_findFirst_13 (fun o3 eo3 ko3 => ?_)
  obtain ⟨b4, hb9, h⟩ := h
  have g5 : hK S b4 = 22 := ko3 b4 (eo3.trans hb9)
  replace h := h g5
  refine g_opt (eo3.trans hb9) ?_
  refine g_iload_n C dX1_findFirst_16 rfl 4 rfl ?_
  refine g_iconst (v := 0) C dX1_findFirst_17 (by decide) ?_
  obtain ⟨g6, h⟩ := h
  refine gc_iast C hL g5 g6 dX1_findFirst_18 ?_
  have w7 := wt_putA hw (Int32.toNatClampNeg p0) 0 (k_ne g5 (by decide))
  refine gc_nS (fun S8 eS8 => ?_)
  replace h := h S8 eS8
  have w9 : wt S8 := by rw [eS8]; exact w7
  have w10 : isL S8 L := by rw [eS8]; exact hL
  have w11 : ext S0 S8 := by rw [eS8]; exact he
  have g12 : hK S8 x0 = 2 := by rw [eS8]; exact hx0
  refine g_iconst (v := 0) C dX1_findFirst_19 (by decide) ?_
  refine g_istore (lv' := [(5, .int 0), (4, .int 0), (3, .int v2), (2, .int v1), (0, .ref x0), (1, .int p0)]) C dX1_findFirst_20 (by decide) rfl ?_
  refine g_locals [4, 5, 3, 2, 1, 0] rfl ?_
  obtain ⟨k94, h⟩ := h
  refine t_X1_findFirst_22 C E hr S0  P  k94 x0 p0 v1 v2 0 0 S8 L w9 w10 w11 g12 h
theorem c_X1_findFirst (l : Launch) (D : va_G) (T : Nat → ClassId) (x0 : Nat) (p0 : Int32) (S : HS) (hx0 : hK S x0 = 2) (P : HS → Prop) (h : wp_X1_findFirst P x0 p0 S) : CMv l yX1_findFirst (ws_X1_findFirst) rm_X1_findFirst D T [.ref x0, .int p0] S 0 0 P := gc_metv (by decide) rfl rfl (Nat.le_of_ble_eq_true rfl) (fun p e s m args below meth c A L C E hnm hr hw hL => t_X1_findFirst C E   hr P x0 p0 S S L rfl hw hL hx0 h)
theorem lowb {w : Nat} (h : w < 256) : nI w &&& -(nI w) = if w = 0 then 0 else nI (2 ^ lowN w) := by
  have : ∀ w : Nat, w < 256 → nI w &&& -(nI w) = if w = 0 then 0 else nI (2 ^ lowN w) := by decide +kernel
  exact this w h
theorem low_le {w : Nat} (h : w < 256) (h0 : 0 < w) : lowN w < 8 ∧ 2 ^ lowN w ≤ w := by
  have : ∀ w : Nat, w < 256 → 0 < w → lowN w < 8 ∧ 2 ^ lowN w ≤ w := by decide +kernel
  exact this w h h0
theorem pop_8 {w : Nat} (h : w < 256) : popN w ≤ 8 := by
  have : ∀ w : Nat, w < 256 → popN w ≤ 8 := by decide +kernel
  exact this w h
theorem or_ad {j s : Nat} (hj : j < 8) (hs : s < 256) : 2 ^ j ||| s ≤ 2 ^ j + s ∧ 0 < 2 ^ j ||| s := by
  have : ∀ j : Nat, j < 8 → ∀ s : Nat, s < 256 → 2 ^ j ||| s ≤ 2 ^ j + s ∧ 0 < 2 ^ j ||| s := by decide +kernel
  exact this j hj s hs
theorem sub_nx {s o : Nat} (h : o ≤ 256) : (nI s - nI o) &&& nI o = nI ((s + 4294967296 - o) &&& o) := by
  have e : nI s - nI o = nI (s + 4294967296 - o) := by
    have e0 : nI (s + 4294967296) = nI s := by rw [← nI_add, show nI 4294967296 = 0 from by decide +kernel, Int32.add_zero]
    rw [← sub_k (a := s + 4294967296) (b := o) (by omega), e0]
  rw [e, nI_and]
theorem b2i_or_n {p q r t : Prop} [Decidable p] [Decidable q] [Decidable r] [Decidable t] : (b2i (decide p || (decide q || (decide r && decide t))) = 0) = ¬ (p ∨ q ∨ (r ∧ t)) := by
  rw [b2i_0]
  simp
theorem rl_ff {P : HS → Prop} {S0 : HS} {x w : Nat} {a : Nat → Nat} (hO : PlO S0 x a) (hw : w < 256) (h0 : 0 < w) {R : X3} (hP : ∀ S1, frP S0 S1 x a [] [2, 3, 4] → (∀ j, j ≠ w → hA S1 (a 2) j = hA S0 (a 2) j ∧ hA S1 (a 3) j = hA S0 (a 3) j ∧ hA S1 (a 4) j = hA S0 (a 4) j) → (hA S1 (a 2) w, hA S1 (a 3) w, hA S1 (a 4) w) = R → P S1) : ∀ (m i s fuel : Nat) (X : X3) (S : HS), i + m = 2 ^ popN (w - 2 ^ lowN w) → m < fuel → s ≤ w - 2 ^ lowN w → frP S0 S x a [] [2, 3, 4] → (∀ j, j ≠ w → hA S (a 2) j = hA S0 (a 2) j ∧ hA S (a 3) j = hA S0 (a 3) j ∧ hA S (a 4) j = hA S0 (a 4) j) → (hA S (a 2) w, hA S (a 3) w, hA S (a 4) w) = X → ffF (hA S0 (a 1)) (hA S0 (a 2)) (hA S0 (a 3)) w (2 ^ lowN w) (w - 2 ^ lowN w) m s X = R → wp_X1_findFirst_22 P fuel x (nI w) (nI (2 ^ lowN w)) (nI (w - 2 ^ lowN w)) (nI s) (nI i) S := by
  obtain ⟨l8, llw⟩ := low_le hw h0
  have hot : w - 2 ^ lowN w < 256 := Nat.lt_of_le_of_lt (Nat.sub_le _ _) hw
  have p0 : 0 < 2 ^ lowN w := Nat.two_pow_pos _
  have hp8 := pop_8 hot
  have hpp : 2 ^ popN (w - 2 ^ lowN w) ≤ 256 := Nat.pow_le_pow_right (n := 2) (by decide) hp8
  intro m
  induction m with
  | zero =>
    intro i s fuel X S hi hf hs hF hc hX hR
    obtain ⟨f, rfl⟩ : ∃ f, fuel = f + 1 := ⟨fuel - 1, by omega⟩; rw [wp_X1_findFirst_22]; unfold wb_X1_findFirst_22; dsimp only
    refine ⟨w - 2 ^ lowN w, ⟨by omega, rfl⟩, ?_⟩
    rw [sh1' (by omega), nI_leI (by omega) (by omega)]
    exact ⟨fun _ => hP S hF hc (hX.trans hR), fun z9 => absurd (by omega) z9⟩
  | succ m ih =>
    intro i s fuel X S hi hf hs hF hc hX hR
    have hO1 := hO.fr hF
    obtain ⟨g1, g0⟩ := or_ad l8 (show s < 256 by omega)
    have hgw : 2 ^ lowN w ||| s ≤ w := by omega
    rw [ffF] at hR
    have tT : hA S (a 1) = hA S0 (a 1) := hF.2.2.2.2.2 _ (fun j hj => hO.ne (by omega) (by
      simp only [List.mem_cons, List.not_mem_nil, or_false] at hj; omega) (by
      simp only [List.mem_cons, List.not_mem_nil, or_false] at hj; omega))
    have skip : ffS (hA S0 (a 1)) (hA S0 (a 2)) (hA S0 (a 3)) w (2 ^ lowN w ||| s) X = X → ∀ f, m < f → ∀ v : Int32, v = (nI s - nI (w - 2 ^ lowN w)) &&& nI (w - 2 ^ lowN w) → ∀ v2 : Int32, v2 = nI i + 1 → wp_X1_findFirst_22 P f x (nI w) (nI (2 ^ lowN w)) (nI (w - 2 ^ lowN w)) v v2 S := fun e f hf v ev v2 ev2 => by
      rw [sub_nx (by omega)] at ev
      rw [nI_1] at ev2
      subst ev ev2
      rw [e] at hR
      exact ih (i + 1) _ f X S (by omega) hf Nat.and_le_right hF hc hX hR
    obtain ⟨f, rfl⟩ : ∃ f, fuel = f + 1 := ⟨fuel - 1, by omega⟩; rw [wp_X1_findFirst_22]; unfold wb_X1_findFirst_22; dsimp only
    refine ⟨w - 2 ^ lowN w, ⟨by omega, rfl⟩, ?_⟩
    rw [sh1' (by omega), nI_leI (by omega) (by omega), nI_or]
    refine ⟨fun z9 => absurd z9 (by omega), fun _ v20 e20 v21 e21 => ?_⟩
    rw [e20, sub_k hgw] at e21
    subst e20 e21
    have vg : vp_in (nI (2 ^ lowN w ||| s)) 256 := by rw [nz_vp (by omega) (by decide)]; omega
    have vr : vp_in (nI (w - (2 ^ lowN w ||| s))) 256 := by rw [nz_vp (by omega) (by decide)]; omega
    have vw : vp_in (nI w) 256 := by rw [nz_vp (by omega) (by decide)]; omega
    obtain ⟨r2, r3, _⟩ := hc (w - (2 ^ lowN w ||| s)) (by omega)
    refine ⟨a 1, hO1.tots, fun _ => ?_⟩
    rw [hO1.n (show 1 < 5 by omega), nI_clamp (n := 2 ^ lowN w ||| s) (by omega), nI_clamp (n := w - (2 ^ lowN w ||| s)) (by omega), nI_clamp (n := w) (by omega), tT]
    refine ⟨vg, fun c => skip (by unfold ffS; rw [if_pos c]) f (by omega), fun c => ⟨a 1, hO1.tots, fun _ => ?_⟩⟩
    rw [hO1.n (show 1 < 5 by omega), tT]
    refine ⟨vg, a 2, hO1.bt, fun _ => ?_⟩
    rw [hO1.n (show 2 < 5 by omega), r2]
    refine ⟨vr, a 3, hO1.bc, fun _ => ?_⟩
    rw [hO1.n (show 3 < 5 by omega), r3]
    refine ⟨vr, a, ⟨hO1, w, hw, rfl⟩, ?_⟩
    have X1 : hA S (a 2) w = X.1 := by rw [← hX]
    have X2 : hA S (a 3) w = X.2.1 := by rw [← hX]
    have X3' : hA S (a 4) w = X.2.2 := by rw [← hX]
    rw [b2i_or_n, show iv (nI w) = w from nI_clamp (by omega), X1, X2, X3']
    by_cases d : X.2.2 = 0 ∨ hA S0 (a 1) (2 ^ lowN w ||| s) + hA S0 (a 2) (w - (2 ^ lowN w ||| s)) < X.1 ∨ (hA S0 (a 1) (2 ^ lowN w ||| s) + hA S0 (a 2) (w - (2 ^ lowN w ||| s)) = X.1 ∧ hA S0 (a 3) (w - (2 ^ lowN w ||| s)) + 1 < X.2.1)
    · refine ⟨fun z9 => absurd d z9, fun _ => ⟨a 4, hO1.bf, fun _ => ?_⟩⟩
      rw [hO1.n (show 4 < 5 by omega)]
      refine ⟨vw, fun S55 e55 => ?_⟩
      have F55 : frP S0 S55 x a [] [2, 3, 4] := by rw [e55]; exact hF.A 4 _ _ (by decide)
      have O55 := hO.fr F55
      have n1 : hA S55 (a 1) = hA S0 (a 1) := by rw [e55, putA_o _ _ _ (hO.ne (by omega) (by omega) (by omega))]; exact tT
      have n2 : hA S55 (a 2) = hA S (a 2) := by rw [e55, putA_o _ _ _ (hO.ne (by omega) (by omega) (by omega))]
      have n3 : hA S55 (a 3) = hA S (a 3) := by rw [e55, putA_o _ _ _ (hO.ne (by omega) (by omega) (by omega))]
      refine ⟨a 2, O55.bt, fun _ => ⟨a 1, O55.tots, fun _ => ?_⟩⟩
      rw [O55.n (show 1 < 5 by omega), n1]
      refine ⟨vg, a 2, O55.bt, fun _ => ?_⟩
      rw [O55.n (show 2 < 5 by omega), n2, r2]
      refine ⟨vr, vw, fun S73 e73 => ?_⟩
      have F73 : frP S0 S73 x a [] [2, 3, 4] := by rw [e73]; exact F55.A 2 _ _ (by decide)
      have O73 := hO.fr F73
      have m3 : hA S73 (a 3) = hA S (a 3) := by rw [e73, putA_o _ _ _ (hO.ne (by omega) (by omega) (by omega))]; exact n3
      refine ⟨a 3, O73.bc, fun _ => ⟨a 3, O73.bc, fun _ => ?_⟩⟩
      rw [O73.n (show 3 < 5 by omega), m3, r3]
      refine ⟨vr, vw, fun S87 e87 v92 e92 v93 e93 => ?_⟩
      have F87 : frP S0 S87 x a [] [2, 3, 4] := by rw [e87]; exact F73.A 3 _ _ (by decide)
      have o4 : hA S87 (a 4) = hA S55 (a 4) := by rw [e87, putA_o _ _ _ (hO.ne (by omega) (by omega) (by omega)), e73, putA_o _ _ _ (hO.ne (by omega) (by omega) (by omega))]
      have o2 : hA S87 (a 2) = hA S73 (a 2) := by rw [e87, putA_o _ _ _ (hO.ne (by omega) (by omega) (by omega))]
      rw [sub_nx (by omega)] at e92
      rw [nI_1] at e93
      subst e92 e93
      refine ih (i + 1) _ f _ S87 (by omega) (by omega) Nat.and_le_right F87 (fun j hj => ⟨?_, ?_, ?_⟩) ?_ hR
      · rw [o2, e73, putA_n _ _ hj, n2]; exact (hc j hj).1
      · rw [e87, putA_n _ _ hj, m3]; exact (hc j hj).2.1
      · rw [o4, e55, putA_n _ _ hj]; exact (hc j hj).2.2
      · rw [o4, o2, e87, putA_s, e73, putA_s, e55, putA_s]
        unfold ffS
        rw [if_neg c, if_pos d]
    · exact ⟨fun _ => skip (by unfold ffS; rw [if_neg c, if_neg d]) f (by omega), fun z9 => absurd d z9⟩
theorem k_X1_findFirst (l : Launch) (D : va_G) (T : Nat → ClassId) (x0 : Nat) (p0 : Int32) (S : HS) (e0 : Nat → Nat) (hx0 : hK S x0 = 2) (h : PlO S x0 e0 ∧ ∃ w : Nat, 0 < w ∧ w < 256 ∧ p0 = nI w) : CMv l yX1_findFirst (ws_X1_findFirst) rm_X1_findFirst D T [.ref x0, .int p0] S 0 0 (fun S1 => (frP S S1 x0 e0 [] [2, 3, 4] ∧ (∀ j, j ≠ iv p0 → hA S1 (e0 2) j = hA S (e0 2) j ∧ hA S1 (e0 3) j = hA S (e0 3) j ∧ hA S1 (e0 4) j = hA S (e0 4) j) ∧ (hA S1 (e0 2) (iv p0), hA S1 (e0 3) (iv p0), hA S1 (e0 4) (iv p0)) = ffX (hA S (e0 1)) (hA S (e0 2)) (hA S (e0 3)) (iv p0))) := c_X1_findFirst l D T x0 p0 S hx0 _ <|
  (by
    obtain ⟨hO, w, h0, hw, ew⟩ := h
    subst ew
    obtain ⟨l8, llw⟩ := low_le hw h0
    have p0 : 0 < 2 ^ lowN w := Nat.two_pow_pos _
    have hpp : 2 ^ popN (w - 2 ^ lowN w) ≤ 256 := Nat.pow_le_pow_right (n := 2) (by decide) (pop_8 (by omega))
    rw [show iv (nI w) = w from nI_clamp (by omega)]
    unfold wp_X1_findFirst
    intro v1 e1 v2 e2
    rw [lowb hw, if_neg (by omega)] at e1
    rw [e1, sub_k llw] at e2
    subst e1 e2
    refine ⟨e0 4, hO.bf, fun _ => ?_⟩
    rw [hO.n (show 4 < 5 by omega), nz_vp (by omega) (by decide), nI_clamp (n := w) (by omega)]
    refine ⟨hw, fun S8 e8 => ⟨300, ?_⟩⟩
    have F8 : frP S S8 x0 e0 [] [2, 3, 4] := by rw [e8]; exact frP.rf.A 4 _ _ (by decide)
    have a2 : hA S8 (e0 2) = hA S (e0 2) := by rw [e8, putA_o _ _ _ (hO.ne (by omega) (by omega) (by omega))]
    have a3 : hA S8 (e0 3) = hA S (e0 3) := by rw [e8, putA_o _ _ _ (hO.ne (by omega) (by omega) (by omega))]
    exact rl_ff hO hw h0 (R := ffX (hA S (e0 1)) (hA S (e0 2)) (hA S (e0 3)) w) (fun S1 g1 g2 g3 => ⟨g1, g2, g3⟩) (2 ^ popN (w - 2 ^ lowN w)) 0 0 300 (hA S (e0 2) w, hA S (e0 3) w, 0) S8 (by omega) (by omega) (Nat.zero_le _) F8 (fun j hj => ⟨by rw [a2], by rw [a3], by rw [e8, putA_n _ _ hj]⟩) (by rw [a2, a3, e8, putA_s]) rfl)

end S_C3A
