section S_C2G
abbrev ws_X1_prepare : List Cond := Cond.code yX1_prepare cX1_prepare 5 none :: W0
abbrev rm_X1_prepare : Room := ({ frames := 16, cells := 0, slots := 0, locals := 493 } : Room)
def wb_X1_prepare_8 (rec : Nat → Nat → Int32 → Nat → Int32 → HS → Prop) (K45 : Nat → Nat → Nat → HS → Prop) (P : HS → Prop) (x0 : Nat) (x1 : Nat) (x2 : Int32) (x3 : Nat) (x4 : Int32) (S : HS) : Prop := (10 ≤ x4 → (K45 x0 x1 x3 S)) ∧ (¬ 10 ≤ x4 → ((8 ≤ (hI S 40 x0) → (K45 x0 x1 x3 S)) ∧ (¬ 8 ≤ (hI S 40 x0) → (((hasF x2 x4) = 0 → (∀ v16 : Int32, v16 = x4 + 1 → (rec x0 x1 x2 x3 v16 S))) ∧ (¬ (hasF x2 x4) = 0 → (∃ (m17 : Nat → Nat) (m18 : Nat), ((PlO S x0 m17 ∧ m18 < 8 ∧ hI S 40 x0 = nI m18 ∧ six x4) ∧ (∀ (S20 : HS), ext S S20 → (frP S S20 x0 m17 [40] [0] ∧ hI S20 40 x0 = nI (m18 + 1) ∧ ∀ p, p < 256 → hA S20 (m17 0) p = (if 2 ^ m18 ≤ p ∧ p < 2 ^ (m18 + 1) then hA S (m17 0) (p - 2 ^ m18) ||| nI (2 ^ iv x4) else hA S (m17 0) p)) → (∀ v29 : Int32, v29 = x4 + 1 → (rec x0 x1 x2 x3 v29 S20))))))))))
def wp_X1_prepare_8 (K45 : Nat → Nat → Nat → HS → Prop) (P : HS → Prop) : Nat → Nat → Nat → Int32 → Nat → Int32 → HS → Prop
  | 0 => fun _ _ _ _ _ _ => False
  | n + 1 => fun x0 x1 x2 x3 x4 S => wb_X1_prepare_8 (wp_X1_prepare_8 K45 P n) K45 P x0 x1 x2 x3 x4 S
set_option maxRecDepth 100000 in
set_option maxHeartbeats 4000000 in
theorem t_X1_prepare_8 {p : Program} {l : Launch} {e : Env} {s : State} {m : MethodId} {args : Array Value} {below : List Frame} {meth : Method} {c : Code} {D : va_G} {A : Nat → Prop} {T : Nat → ClassId} (C : GC p s m args meth c cX1_prepare "FreightRater$Plan" (ws_X1_prepare) 5 D A (zty T)) (E : GE T A s) (hr : meth.sig.returnType = none) (S0 : HS) (K45 : Nat → Nat → Nat → HS → Prop) (P : HS → Prop) (hK45 : ∀ (x0 : Nat) (x1 : Nat) (x3 : Nat) (S : HS) (L : List Nat), wt S → hL S L → ext S0 S → (hK S x0 = 2) → (hK S x1 = 7) → (hK S x3 = 3) → K45 x0 x1 x3 S → GW p l e { rm_X1_prepare with cells := 0, slots := 0 } s m args below meth c D A 5 0 0 (MQ below (va_Qv (fun (u : HS × List Nat) => P u.1 ∧ CO S0 u) (CE D T A) A) args s 0 0 A) (CW T S L) 0 0 45 [(0, .ref x0), (1, .ref x1), (3, .ref x3)] []) : ∀ (n : Nat) (x0 : Nat) (x1 : Nat) (x2 : Int32) (x3 : Nat) (x4 : Int32) (S : HS) (L : List Nat), wt S → hL S L → ext S0 S → (hK S x0 = 2) → (hK S x1 = 7) → (hK S x3 = 3) → wp_X1_prepare_8 K45 P n x0 x1 x2 x3 x4 S → GW p l e { rm_X1_prepare with cells := 0, slots := 0 } s m args below meth c D A 5 0 0 (MQ below (va_Qv (fun (u : HS × List Nat) => P u.1 ∧ CO S0 u) (CE D T A) A) args s 0 0 A) (CW T S L) 0 0 8 [(0, .ref x0), (1, .ref x1), (2, .int x2), (3, .ref x3), (4, .int x4)] [] := by
  have hW : ∀ {w : Cond}, w ∈ W0 → w.before args s = true := fun h => C.2.2.2.2.1 _ (List.mem_cons_of_mem _ h)
  intro n
  induction n with
  | zero => intro x0 x1 x2 x3 x4 S L hw hL he hx0 hx1 hx3 h; exact h.elim
  | succ n ih =>
    intro x0 x1 x2 x3 x4 S L hw hL he hx0 hx1 hx3 h
    replace h : wb_X1_prepare_8 (wp_X1_prepare_8 K45 P n) K45 P x0 x1 x2 x3 x4 S := h
    unfold wb_X1_prepare_8 at h
    refine g_iload C dX1_prepare_8 4 rfl ?_
    refine g_bipush (v := 10) C dX1_prepare_10 (by decide) ?_
    refine g_icmp_ge (tgt := 45) C dX1_prepare_12 (by decide) (fun z9 => ?_) (fun z9 => ?_)
    · replace h := h.1 z9
      refine g_locals [0, 1, 3] rfl ?_
      exact hK45 x0 x1 x3 S L hw hL he hx0 hx1 hx3 h
    · replace h := h.2 z9
      refine g_aload_n C dX1_prepare_15 rfl 0 rfl ?_
      refine gc_getI C iwx_X1 hL hx0 (by decide) (by decide) rfl 0 (by decide) (hW kw_213) rfl rfl rfl dX1_prepare_16 ?_
      refine g_bipush (v := 8) C dX1_prepare_19 (by decide) ?_
      refine g_icmp_ge (tgt := 45) C dX1_prepare_21 (by decide) (fun z10 => ?_) (fun z10 => ?_)
      · replace h := h.1 z10
        refine g_locals [0, 1, 3] rfl ?_
        exact hK45 x0 x1 x3 S L hw hL he hx0 hx1 hx3 h
      · replace h := h.2 z10
        refine g_iload_n C dX1_prepare_24 rfl 2 rfl ?_
        refine g_iload C dX1_prepare_25 4 rfl ?_
        refine gc_calliSN (host := "FreightRater") C E hw hL [.int x2, .int x4] rfl (k_X10_isIn l D T x2 x4 S ) (w0_SN 2 E C.2.2.2.2.1 (by decide) kw_1204 kw_1 kw_1205 rfl rfl (by decide +kernel) ⟨Nat.le_of_ble_eq_true rfl, Nat.le_of_ble_eq_true rfl⟩) rfl (Nat.le_of_ble_eq_true rfl) (Nat.le_refl _) (Nat.le_refl _) (Nat.zero_le _) (Nat.zero_le _) dX1_prepare_27 (fun v9 S9 L11 he9 hw9 hL9 hp => ?_)
        obtain ⟨hv9, hs9⟩ := hp
        replace hs9 := hs9.symm
        subst hs9
        replace hv9 := hv9.symm
        subst hv9
        have w14 := hL9
        refine g_if_eq (tgt := 39) C dX1_prepare_30 (by decide) (fun z15 => ?_) (fun z15 => ?_)
        · replace h := h.1 z15
          obtain ⟨v16, ev16⟩ : ∃ y : Int32, y = x4 + 1 := ⟨_, rfl⟩
          replace h := h v16 ev16
          refine g_iinc (v := v16) (lv' := [(4, .int v16), (0, .ref x0), (1, .ref x1), (2, .int x2), (3, .ref x3)]) C dX1_prepare_39 (j := 4) rfl (by rw [ev16]; rfl) (by decide) rfl ?_
          refine g_goto (tgt := 8) C dX1_prepare_42 (by decide) ?_
          refine g_locals [1, 2, 3, 4, 0] rfl ?_
          exact ih x0 x1 x2 x3 v16 S L11 hw w14 he hx0 hx1 hx3 h
        · replace h := h.2 z15
          refine g_aload_n C dX1_prepare_33 rfl 0 rfl ?_
          refine g_iload C dX1_prepare_34 4 rfl ?_
          obtain ⟨m17, m18, h⟩ := h
          obtain ⟨g19, h⟩ := h
          refine gc_callvV (host := "") C E hw w14 hx0 (by decide) (by decide) rfl [.int x4] rfl (k_X1_addMember l D T x0 x4 S m17 m18 hx0 g19) (w0_V 1 C.2.2.2.2.1 kw_1350 kw_1352 ks_42 kw_8 kw_1353 rfl rfl (by decide +kernel) ⟨Nat.le_of_ble_eq_true rfl, Nat.le_of_ble_eq_true rfl⟩) rfl (Nat.le_of_ble_eq_true rfl) (Nat.le_refl _) (Nat.le_refl _) (Nat.zero_le _) (Nat.zero_le _) dX1_prepare_36 (fun S20 L21 e22 w23 w24 hp => ?_)
          replace h := h S20 e22 hp
          have g25 := ext_K e22 hx0 (by decide)
          have g26 := ext_K e22 hx1 (by decide)
          have g27 := ext_K e22 hx3 (by decide)
          have w28 := ext_tr he e22
          obtain ⟨v29, ev29⟩ : ∃ y : Int32, y = x4 + 1 := ⟨_, rfl⟩
          replace h := h v29 ev29
          refine g_iinc (v := v29) (lv' := [(4, .int v29), (0, .ref x0), (1, .ref x1), (2, .int x2), (3, .ref x3)]) C dX1_prepare_39 (j := 4) rfl (by rw [ev29]; rfl) (by decide) rfl ?_
          refine g_goto (tgt := 8) C dX1_prepare_42 (by decide) ?_
          refine g_locals [1, 2, 3, 4, 0] rfl ?_
          exact ih x0 x1 x2 x3 v29 S20 L21 w23 w24 w28 g25 g26 g27 h
def wb_X1_prepare_48 (rec : Nat → Nat → Nat → Int32 → HS → Prop) (P : HS → Prop) (x0 : Nat) (x1 : Nat) (x3 : Nat) (x4 : Int32) (S : HS) : Prop := (((1 : Int32) <<< ((hI S 40 x0) &&& 31)) ≤ x4 → (P S)) ∧ (¬ ((1 : Int32) <<< ((hI S 40 x0) &&& 31)) ≤ x4 → (∃ b33 : Nat, hR S 41 x0 = some b33 ∧ (hK S b33 = 22 → (vp_in x4 (hN S b33) ∧ (∃ (m36 : (Nat → Prop)) (m37 : Nat → Int32), ((WF m37 ∧ WFR m37 ∧ RelSt S m36 x1 m37 ∧ RtO S m36 x3 x1 ∧ gok m37 (hA S b33 (Int32.toNatClampNeg x4))) ∧ (∀ (S39 : HS), ext S S39 → (frR S S39 x3 ∧ wkP S39 x3 m37 (iv (hA S b33 (Int32.toNatClampNeg x4)))) → (∃ b49 : Nat, hR S39 42 x0 = some b49 ∧ (hK S39 b49 = 22 → ((¬ (hI S39 63 x3) = 0 → (vp_in x4 (hN S39 b49) ∧ (∀ S54 : HS, S54 = putA S39 b49 (Int32.toNatClampNeg x4) (-1) → (∀ v61 : Int32, v61 = x4 + 1 → (rec x0 x1 x3 v61 S54))))) ∧ ((hI S39 63 x3) = 0 → (vp_in x4 (hN S39 b49) ∧ (∀ S68 : HS, S68 = putA S39 b49 (Int32.toNatClampNeg x4) (hI S39 71 x3 + hI S39 74 x3 + hI S39 76 x3 + hI S39 77 x3) → (∀ v75 : Int32, v75 = x4 + 1 → (rec x0 x1 x3 v75 S68)))))))))))))))
def wp_X1_prepare_48 (P : HS → Prop) : Nat → Nat → Nat → Nat → Int32 → HS → Prop
  | 0 => fun _ _ _ _ _ => False
  | n + 1 => fun x0 x1 x3 x4 S => wb_X1_prepare_48 (wp_X1_prepare_48  P n)  P x0 x1 x3 x4 S
set_option maxRecDepth 100000 in
set_option maxHeartbeats 4000000 in
theorem t_X1_prepare_48 {p : Program} {l : Launch} {e : Env} {s : State} {m : MethodId} {args : Array Value} {below : List Frame} {meth : Method} {c : Code} {D : va_G} {A : Nat → Prop} {T : Nat → ClassId} (C : GC p s m args meth c cX1_prepare "FreightRater$Plan" (ws_X1_prepare) 5 D A (zty T)) (E : GE T A s) (hr : meth.sig.returnType = none) (S0 : HS) (P : HS → Prop) : ∀ (n : Nat) (x0 : Nat) (x1 : Nat) (x3 : Nat) (x4 : Int32) (S : HS) (L : List Nat), wt S → hL S L → ext S0 S → (hK S x0 = 2) → (hK S x1 = 7) → (hK S x3 = 3) → wp_X1_prepare_48  P n x0 x1 x3 x4 S → GW p l e { rm_X1_prepare with cells := 0, slots := 0 } s m args below meth c D A 5 0 0 (MQ below (va_Qv (fun (u : HS × List Nat) => P u.1 ∧ CO S0 u) (CE D T A) A) args s 0 0 A) (CW T S L) 0 0 48 [(0, .ref x0), (1, .ref x1), (3, .ref x3), (4, .int x4)] [] := by
  have hW : ∀ {w : Cond}, w ∈ W0 → w.before args s = true := fun h => C.2.2.2.2.1 _ (List.mem_cons_of_mem _ h)
  intro n
  induction n with
  | zero => intro x0 x1 x3 x4 S L hw hL he hx0 hx1 hx3 h; exact h.elim
  | succ n ih =>
    intro x0 x1 x3 x4 S L hw hL he hx0 hx1 hx3 h
    replace h : wb_X1_prepare_48 (wp_X1_prepare_48  P n)  P x0 x1 x3 x4 S := h
    unfold wb_X1_prepare_48 at h
    refine g_iload C dX1_prepare_48 3 rfl ?_
    refine g_iconst (v := 1) C dX1_prepare_50 (by decide) ?_
    refine g_aload_n C dX1_prepare_51 rfl 0 rfl ?_
    refine gc_getI C iwx_X1 hL hx0 (by decide) (by decide) rfl 0 (by decide) (hW kw_213) rfl rfl rfl dX1_prepare_52 ?_
    refine g_ishl C dX1_prepare_55 ?_
    refine g_icmp_ge (tgt := 99) C dX1_prepare_56 (by decide) (fun z31 => ?_) (fun z31 => ?_)
    · replace h := h.1 z31
      exact gc_vret C hw hL he hr dX1_prepare_99 h
    · replace h := h.2 z31
      refine g_aload_n C dX1_prepare_59 rfl 2 rfl ?_
      refine g_aload_n C dX1_prepare_60 rfl 1 rfl ?_
      refine g_aload_n C dX1_prepare_61 rfl 0 rfl ?_
      refine gc_getR C hw iwx_X1 hL hx0 (by decide) (by decide) rfl 1 (by decide) (hW kw_214) rfl rfl rfl dX1_prepare_62 (fun o32 eo32 ko32 => ?_)
      obtain ⟨b33, hb9, h⟩ := h
      have g34 : hK S b33 = 22 := ko32 b33 (eo32.trans hb9)
      replace h := h g34
      refine g_opt (eo32.trans hb9) ?_
      refine g_iload C dX1_prepare_65 3 rfl ?_
      obtain ⟨g35, h⟩ := h
      refine gc_iald C hL g34 g35 dX1_prepare_67 ?_
      obtain ⟨m36, m37, h⟩ := h
      obtain ⟨g38, h⟩ := h
      refine gc_callvV (host := "") C E hw hL hx3 (by decide) (by decide) rfl [.ref x1, .int (hA S b33 (Int32.toNatClampNeg x4))] rfl (k_X2_work l D T x3 x1 (hA S b33 (Int32.toNatClampNeg x4)) S m36 m37 hx3 hx1 g38) (w0_V 2 C.2.2.2.2.1 kw_1354 kw_1196 kw_1197 kw_7 kw_1198 rfl rfl (by decide +kernel) ⟨Nat.le_of_ble_eq_true rfl, Nat.le_of_ble_eq_true rfl⟩) rfl (Nat.le_of_ble_eq_true rfl) (Nat.le_refl _) (Nat.le_refl _) (Nat.zero_le _) (Nat.zero_le _) dX1_prepare_68 (fun S39 L40 e41 w42 w43 hp => ?_)
      replace h := h S39 e41 hp
      have g44 := ext_K e41 hx0 (by decide)
      have g45 := ext_K e41 hx1 (by decide)
      have g46 := ext_K e41 hx3 (by decide)
      have w47 := ext_tr he e41
      refine g_aload_n C dX1_prepare_71 rfl 0 rfl ?_
      refine gc_getR C w42 iwx_X1 w43 g44 (by decide) (by decide) rfl 2 (by decide) (hW kw_216) rfl rfl rfl dX1_prepare_72 (fun o48 eo48 ko48 => ?_)
      obtain ⟨b49, hb9, h⟩ := h
      have g50 : hK S39 b49 = 22 := ko48 b49 (eo48.trans hb9)
      replace h := h g50
      refine g_opt (eo48.trans hb9) ?_
      refine g_iload C dX1_prepare_75 3 rfl ?_
      refine g_aload_n C dX1_prepare_77 rfl 2 rfl ?_
      refine gc_getI C iwx_X2 w43 g46 (by decide) (by decide) rfl 3 (by decide) (hW kw_137) rfl rfl rfl dX1_prepare_78 ?_
      refine g_if_ne (tgt := 91) C dX1_prepare_81 (by decide) (fun z51 => ?_) (fun z51 => ?_)
      · replace h := h.1 z51
        refine g_iconst (v := -1) C dX1_prepare_91 (by decide) ?_
        obtain ⟨g52, h⟩ := h
        refine gc_iast C w43 g50 g52 dX1_prepare_92 ?_
        have w53 := wt_putA w42 (Int32.toNatClampNeg x4) (-1) (k_ne g50 (by decide))
        refine gc_nS (fun S54 eS54 => ?_)
        replace h := h S54 eS54
        have w55 : wt S54 := by rw [eS54]; exact w53
        have w56 : isL S54 L40 := by rw [eS54]; exact w43
        have w57 : ext S0 S54 := by rw [eS54]; exact w47
        have g58 : hK S54 x0 = 2 := by rw [eS54]; exact g44
        have g59 : hK S54 x1 = 7 := by rw [eS54]; exact g45
        have g60 : hK S54 x3 = 3 := by rw [eS54]; exact g46
        obtain ⟨v61, ev61⟩ : ∃ y : Int32, y = x4 + 1 := ⟨_, rfl⟩
        replace h := h v61 ev61
        refine g_iinc (v := v61) (lv' := [(4, .int v61), (0, .ref x0), (1, .ref x1), (3, .ref x3)]) C dX1_prepare_93 (j := 3) rfl (by rw [ev61]; rfl) (by decide) rfl ?_
        refine g_goto (tgt := 48) C dX1_prepare_96 (by decide) ?_
        refine g_locals [1, 2, 3, 0] rfl ?_
        exact ih x0 x1 x3 v61 S54 L40 w55 w56 w57 g58 g59 g60 h
      · replace h := h.2 z51
        refine g_aload_n C dX1_prepare_84 rfl 2 rfl ?_
        refine gc_calliV (host := "") C E w42 w43 g46 (by decide) (by decide) rfl [] rfl (k_X2_total l D T x3 S39 g46) (w0_V 0 C.2.2.2.2.1 kw_1355 kw_1288 kw_1289 kw_7 kw_1290 rfl rfl (by decide +kernel) ⟨Nat.le_of_ble_eq_true rfl, Nat.le_of_ble_eq_true rfl⟩) rfl (Nat.le_of_ble_eq_true rfl) (Nat.le_refl _) (Nat.le_refl _) (Nat.zero_le _) (Nat.zero_le _) dX1_prepare_85 (fun v9 S9 L62 he9 hw9 hL9 hp => ?_)
        obtain ⟨hv9, hs9⟩ := hp
        replace hs9 := hs9.symm
        subst hs9
        replace hv9 := hv9.symm
        subst hv9
        have w65 := hL9
        refine g_goto (tgt := 92) C dX1_prepare_88 (by decide) ?_
        obtain ⟨g66, h⟩ := h
        refine gc_iast C w65 g50 g66 dX1_prepare_92 ?_
        have w67 := wt_putA w42 (Int32.toNatClampNeg x4) (hI S39 71 x3 + hI S39 74 x3 + hI S39 76 x3 + hI S39 77 x3) (k_ne g50 (by decide))
        refine gc_nS (fun S68 eS68 => ?_)
        replace h := h S68 eS68
        have w69 : wt S68 := by rw [eS68]; exact w67
        have w70 : isL S68 L62 := by rw [eS68]; exact w65
        have w71 : ext S0 S68 := by rw [eS68]; exact w47
        have g72 : hK S68 x0 = 2 := by rw [eS68]; exact g44
        have g73 : hK S68 x1 = 7 := by rw [eS68]; exact g45
        have g74 : hK S68 x3 = 3 := by rw [eS68]; exact g46
        obtain ⟨v75, ev75⟩ : ∃ y : Int32, y = x4 + 1 := ⟨_, rfl⟩
        replace h := h v75 ev75
        refine g_iinc (v := v75) (lv' := [(4, .int v75), (0, .ref x0), (1, .ref x1), (3, .ref x3)]) C dX1_prepare_93 (j := 3) rfl (by rw [ev75]; rfl) (by decide) rfl ?_
        refine g_goto (tgt := 48) C dX1_prepare_96 (by decide) ?_
        refine g_locals [1, 2, 3, 0] rfl ?_
        exact ih x0 x1 x3 v75 S68 L62 w69 w70 w71 g72 g73 g74 h
def wp_X1_prepare (P : HS → Prop) (x0 : Nat) (p0 : Nat) (p1 : Int32) (p2 : Nat) (S : HS) : Prop := ∀ S2 : HS, S2 = putI S 40 x0 0 → (∃ k77 : Nat, wp_X1_prepare_8 (fun (y30_x0 : Nat) (y30_x1 : Nat) (y30_x3 : Nat) (Sy30_ : HS) => (hK Sy30_ y30_x0 = 2) → (hK Sy30_ y30_x1 = 7) → (hK Sy30_ y30_x3 = 3) → (∃ k76 : Nat, wp_X1_prepare_48  P k76 y30_x0 y30_x1 y30_x3 1 Sy30_)) P k77 x0 p0 p1 p2 0 S2)
set_option maxRecDepth 100000 in
set_option maxHeartbeats 4000000 in
theorem t_X1_prepare {p : Program} {l : Launch} {e : Env} {s : State} {m : MethodId} {args : Array Value} {below : List Frame} {meth : Method} {c : Code} {D : va_G} {A : Nat → Prop} {T : Nat → ClassId} (C : GC p s m args meth c cX1_prepare "FreightRater$Plan" (ws_X1_prepare) 5 D A (zty T)) (E : GE T A s) (hr : meth.sig.returnType = none) (P : HS → Prop) : ∀ (x0 : Nat) (p0 : Nat) (p1 : Int32) (p2 : Nat) (S0 S : HS) (L : List Nat), S0 = S → wt S → hL S L → (hK S x0 = 2) → (hK S p0 = 7) → (hK S p2 = 3) → wp_X1_prepare P x0 p0 p1 p2 S → GW p l e { rm_X1_prepare with cells := 0, slots := 0 } s m args below meth c D A 5 0 0 (MQ below (va_Qv (fun (u : HS × List Nat) => P u.1 ∧ CO S0 u) (CE D T A) A) args s 0 0 A) (CW T S L) 0 0 0 [(0, .ref x0), (1, .ref p0), (2, .int p1), (3, .ref p2)] [] := by
  have hW : ∀ {w : Cond}, w ∈ W0 → w.before args s = true := fun h => C.2.2.2.2.1 _ (List.mem_cons_of_mem _ h)
  intro x0 p0 p1 p2 S0 S L hS0 hw hL hx0 hp0 hp2 h
  have he : ext S0 S := by rw [hS0]; exact ext_rf
  unfold wp_X1_prepare at h
  refine g_aload_n C dX1_prepare_0 rfl 0 rfl ?_
  refine g_iconst (v := 0) C dX1_prepare_1 (by decide) ?_
  refine gc_putI C iwx_X1 hL hx0 (by decide) (by decide) rfl 0 (by decide) (hW kw_213) rfl tyX1 tyX1_ok nmX1 rfl rfl rfl rfl rfl dX1_prepare_2 ?_
  have w1 := wt_putI hw 40 0 (k_ne hx0 (by decide))
  refine gc_nS (fun S2 eS2 => ?_)
  replace h := h S2 eS2
  have w3 : wt S2 := by rw [eS2]; exact w1
  have w4 : isL S2 L := by rw [eS2]; exact hL
  have w5 : ext S0 S2 := by rw [eS2]; exact he
  have g6 : hK S2 x0 = 2 := by rw [eS2]; exact hx0
  have g7 : hK S2 p0 = 7 := by rw [eS2]; exact hp0
  have g8 : hK S2 p2 = 3 := by rw [eS2]; exact hp2
  refine g_iconst (v := 0) C dX1_prepare_5 (by decide) ?_
  refine g_istore (lv' := [(4, .int 0), (0, .ref x0), (1, .ref p0), (2, .int p1), (3, .ref p2)]) C dX1_prepare_6 (by decide) rfl ?_
  refine g_locals [1, 2, 3, 4, 0] rfl ?_
  obtain ⟨k77, h⟩ := h
  refine t_X1_prepare_8 C E hr S0 _ P ?_ k77 x0 p0 p1 p2 0 S2 L w3 w4 w5 g6 g7 g8 h
  · intro y30_x0 y30_x1 y30_x3 Sy30_ Ly30_ hwy30_ hLy30_ hey30_ hy30_x0 hy30_x1 hy30_x3 h
    replace h := h hy30_x0 hy30_x1 hy30_x3
    refine g_iconst (v := 1) C dX1_prepare_45 (by decide) ?_
    refine g_istore (lv' := [(4, .int 1), (0, .ref y30_x0), (1, .ref y30_x1), (3, .ref y30_x3)]) C dX1_prepare_46 (by decide) rfl ?_
    refine g_locals [1, 2, 3, 0] rfl ?_
    obtain ⟨k76, h⟩ := h
    refine t_X1_prepare_48 C E hr S0  P  k76 y30_x0 y30_x1 y30_x3 1 Sy30_ Ly30_ hwy30_ hLy30_ hey30_ hy30_x0 hy30_x1 hy30_x3 h
theorem c_X1_prepare (l : Launch) (D : va_G) (T : Nat → ClassId) (x0 : Nat) (p0 : Nat) (p1 : Int32) (p2 : Nat) (S : HS) (hx0 : hK S x0 = 2) (hp0 : hK S p0 = 7) (hp2 : hK S p2 = 3) (P : HS → Prop) (h : wp_X1_prepare P x0 p0 p1 p2 S) : CMv l yX1_prepare (ws_X1_prepare) rm_X1_prepare D T [.ref x0, .ref p0, .int p1, .ref p2] S 0 0 P := gc_metv (by decide) rfl rfl (Nat.le_of_ble_eq_true rfl) (fun p e s m args below meth c A L C E hnm hr hw hL => t_X1_prepare C E   hr P x0 p0 p1 p2 S S L rfl hw hL hx0 hp0 hp2 h)
/-- what preparing a plan leaves -/
def frQ (S S1 : HS) (x y : Nat) (a : Nat → Nat) : Prop := hK S1 = hK S ∧ hN S1 = hN S ∧ hR S1 = hR S ∧ ∀ b, b ≠ x → b ≠ a 0 → b ≠ a 1 → b ≠ y → hR S 61 y ≠ some b → hR S 62 y ≠ some b → sam S S1 b
/-- a plan and a rating beside a state -/
def prC (S : HS) (M : Nat → Prop) (st : Nat) (μ : Nat → Int32) (y x : Nat) (a : Nat → Nat) : Prop := WF μ ∧ WFR μ ∧ RelSt S M st μ ∧ RtO S M y st ∧ PlO S x a ∧ M x ∧ M (a 0) ∧ M (a 1) ∧ ∀ i, i < 2 → ¬ hR S 144 st = some (a i) ∧ ¬ hR S 145 st = some (a i) ∧ ¬ hR S 62 y = some (a i)
/-- the group of a part: the places stand for the members -/
def spr (L : List Nat) : Nat → Nat → Nat
  | 0, _ => 0
  | k + 1, p => if 2 ^ k ≤ p then spr L k (p - 2 ^ k) ||| 2 ^ gl L k else spr L k p
theorem frQ.rf {S : HS} {x y : Nat} {a : Nat → Nat} : frQ S S x y a := ⟨rfl, rfl, rfl, fun _ _ _ _ _ _ _ => sam.rf⟩
theorem frQ.tr {S S1 S2 : HS} {x y : Nat} {a : Nat → Nat} (h : frQ S S1 x y a) (h2 : frQ S1 S2 x y a) : frQ S S2 x y a := ⟨h2.1.trans h.1, h2.2.1.trans h.2.1, h2.2.2.1.trans h.2.2.1, fun b b1 b2 b3 b4 b5 b6 => (h.2.2.2 b b1 b2 b3 b4 b5 b6).tr (h2.2.2.2 b b1 b2 b3 b4 (by rw [h.2.2.1]; exact b5) (by rw [h.2.2.1]; exact b6))⟩
theorem frP.Q {S S1 : HS} {x y : Nat} {a : Nat → Nat} {I J : List Nat} (h : frP S S1 x a I J) (hJ : ∀ j, j ∈ J → j = 0 ∨ j = 1) : frQ S S1 x y a := ⟨h.1, h.2.1, h.2.2.1, fun b b1 b2 b3 _ _ _ => h.sam b1 (fun j hj => by rcases hJ j hj with e | e <;> subst e <;> assumption)⟩
theorem frR.Q {S S1 : HS} {x y : Nat} {a : Nat → Nat} (h : frR S S1 y) : frQ S S1 x y a := ⟨h.1, h.2.1, h.2.2.1, fun b _ _ _ b4 b5 b6 => h.sam b4 b5 b6⟩
theorem prC.P {S S1 : HS} {M : Nat → Prop} {st y x : Nat} {μ : Nat → Int32} {a : Nat → Nat} {I J : List Nat} (h : prC S M st μ y x a) (hf : frP S S1 x a I J) (hJ : ∀ j, j ∈ J → j = 0 ∨ j = 1) : prC S1 M st μ y x a := by
  obtain ⟨h1, h2, hSt, hO, hP, m1, m2, m3, hd⟩ := h
  have hK2 := hP.1
  have ka : ∀ j, j ∈ J → hK S (a j) = 22 := fun j hj => hP.k (by rcases hJ j hj with e | e <;> subst e <;> decide)
  have far : ∀ b k, hK S b = k → k ≠ 2 → k ≠ 22 → sam S S1 b := fun b k hb n1 n2 => hf.sam (fun z => n1 (by rw [← hb, z]; exact hK2)) (fun j hj z => n2 (by rw [← hb, z]; exact ka j hj))
  refine ⟨h1, h2, hSt.fm (hf.M m1 (fun j hj => by rcases hJ j hj with e | e <;> subst e <;> assumption)) (fun b hb => ?_), ?_, hP.fr hf, m1, m2, m3, by rw [hf.2.2.1]; exact hd⟩
  · obtain ⟨⟨s1, _⟩, ⟨b1, r1, k1, _⟩, ⟨c, r2, k2, _⟩, ⟨t, p, r3, r4, k3, k4, _⟩⟩ := hSt
    rcases hb with e | e | e | e | e
    · rw [e]; exact far st 7 s1 (by decide) (by decide)
    · rw [r1] at e; rw [← Option.some.inj e]; exact far b1 29 k1 (by decide) (by decide)
    · rw [r2] at e; rw [← Option.some.inj e]; exact far c 27 k2 (by decide) (by decide)
    · rw [r3] at e; rw [← Option.some.inj e]
      exact hf.sam (fun z => by rw [z, hK2] at k3; exact absurd k3 (by decide)) (fun j hj z => (hd j (by rcases hJ j hj with e | e <;> subst e <;> decide)).1 (by rw [r3, z]))
    · rw [r4] at e; rw [← Option.some.inj e]
      exact hf.sam (fun z => by rw [z, hK2] at k4; exact absurd k4 (by decide)) (fun j hj z => (hd j (by rcases hJ j hj with e | e <;> subst e <;> decide)).2.1 (by rw [r4, z]))
  · unfold RtO
    rw [hf.1, hf.2.1, hf.2.2.1]
    exact hO
theorem prC.R {S S1 : HS} {M : Nat → Prop} {st y x : Nat} {μ : Nat → Int32} {a : Nat → Nat} (h : prC S M st μ y x a) (hf : frR S S1 y) : prC S1 M st μ y x a := by
  obtain ⟨h1, h2, hSt, hO, hP, m1, m2, m3, hd⟩ := h
  refine ⟨h1, h2, hSt.fr hO hf, hO.fr hf, ?_, m1, m2, m3, by rw [hf.2.2.1]; exact hd⟩
  unfold PlO
  rw [hf.1, hf.2.1, hf.2.2.1]
  exact hP
theorem mem_sp {g : Nat} : ∀ k m s, memL g (k + m) s = memL g k s ++ memL g m (s + k) := by
  intro k
  induction k with
  | zero => intro m s; rw [Nat.zero_add]; rfl
  | succ k ih =>
    intro m s
    rw [show k + 1 + m = (k + m) + 1 by omega, memL, memL, ih m (s + 1), show s + 1 + k = s + (k + 1) by omega]
    split
    · rfl
    · rfl
theorem spr_cg {L L' : List Nat} : ∀ k, (∀ i, i < k → gl L i = gl L' i) → ∀ p, spr L k p = spr L' k p := by
  intro k
  induction k with
  | zero => intro _ p; rfl
  | succ k ih => intro h p; rw [spr, spr, ih (fun i hi => h i (by omega)), ih (fun i hi => h i (by omega)), h k (by omega)]
theorem spr_ok {L : List Nat} {ns : Nat} : ∀ k, (∀ i, i < k → gl L i < ns) → ∀ p, p < 2 ^ k → spr L k p < 2 ^ ns ∧ (0 < p → 0 < spr L k p) := by
  intro k
  induction k with
  | zero => intro _ p hp; exact ⟨Nat.two_pow_pos _, fun h => by rw [Nat.pow_zero] at hp; omega⟩
  | succ k ih =>
    intro h p hp
    rw [Nat.pow_succ] at hp
    rw [spr]
    by_cases c : 2 ^ k ≤ p
    · rw [if_pos c]
      obtain ⟨g1, _⟩ := ih (fun i hi => h i (by omega)) (p - 2 ^ k) (by omega)
      refine ⟨Nat.or_lt_two_pow g1 ((Nat.pow_lt_pow_iff_right (a := 2) (by decide)).mpr (h k (by omega))), fun _ => ?_⟩
      have := Nat.right_le_or (n := spr L k (p - 2 ^ k)) (m := 2 ^ gl L k)
      have p0 := Nat.two_pow_pos (gl L k)
      omega
    · rw [if_neg c]
      exact ih (fun i hi => h i (by omega)) p (by omega)
theorem rl_pm {K : Nat → Nat → Nat → HS → Prop} {P : HS → Prop} {S0 : HS} {M : Nat → Prop} {st y x n : Nat} {μ : Nat → Int32} {a : Nat → Nat} (hn : n < 1024) (h8 : (memL n 10 0).length ≤ 8) (hK : ∀ S1, frQ S0 S1 x y a → prC S1 M st μ y x a → hI S1 40 x = nI (memL n 10 0).length → hI S1 47 x = hI S0 47 x → (∀ p, p < 2 ^ (memL n 10 0).length → hA S1 (a 0) p = nI (spr (memL n 10 0) (memL n 10 0).length p)) → K x st y S1) : ∀ (m s fuel : Nat) (S : HS), s + m = 10 → m < fuel → frQ S0 S x y a → prC S M st μ y x a → hI S 40 x = nI (memL n s 0).length → hI S 47 x = hI S0 47 x → (∀ p, p < 2 ^ (memL n s 0).length → hA S (a 0) p = nI (spr (memL n 10 0) (memL n s 0).length p)) → wp_X1_prepare_8 K P fuel x st (nI n) y (nI s) S := by
  intro m
  induction m with
  | zero =>
    intro s fuel S hs hf hF hC h40 h47 hh
    have e : s = 10 := by omega
    subst e
    obtain ⟨f, rfl⟩ : ∃ f, fuel = f + 1 := ⟨fuel - 1, by omega⟩; rw [wp_X1_prepare_8]; unfold wb_X1_prepare_8; dsimp only
    rw [show (10 : Int32) = nI 10 from rfl, nI_leI (by omega) (by omega)]
    exact ⟨fun _ => hK S hF hC h40 h47 hh, fun z9 => absurd (by omega) z9⟩
  | succ m ih =>
    intro s fuel S hs hf hF hC h40 h47 hh
    have sp : memL n 10 0 = memL n s 0 ++ memL n (m + 1) s := by
      have := mem_sp (g := n) s (m + 1) 0
      rwa [hs, Nat.zero_add] at this
    have sp1 : memL n (s + 1) 0 = memL n s 0 ++ memL n 1 s := by
      have := mem_sp (g := n) s 1 0
      rwa [Nat.zero_add] at this
    have hll : (memL n 10 0).length = (memL n s 0).length + (memL n (m + 1) s).length := by rw [sp, List.length_append]
    obtain ⟨f, rfl⟩ : ∃ f, fuel = f + 1 := ⟨fuel - 1, by omega⟩; rw [wp_X1_prepare_8]; unfold wb_X1_prepare_8; dsimp only
    rw [show (10 : Int32) = nI 10 from rfl, nI_leI (by omega) (by omega), h40, show (8 : Int32) = nI 8 from rfl, nI_leI (by omega) (by omega), has_0 hn (show s < 10 by omega), nI_1]
    refine ⟨fun z9 => absurd z9 (by omega), fun _ => ⟨fun c => ?_, fun c => ⟨fun c2 v16 e16 => ?_, fun c2 => ?_⟩⟩⟩
    · have el : (memL n s 0).length = (memL n 10 0).length := by omega
      rw [el] at h40 hh
      exact hK S hF hC h40 h47 hh
    · subst e16
      have e1 : memL n (s + 1) 0 = memL n s 0 := by rw [sp1, memL, if_neg c2, memL, List.append_nil]
      exact ih (s + 1) f S (by omega) (by omega) hF hC (by rw [e1]; exact h40) h47 (by rw [e1]; exact hh)
    · have c3 : n.testBit s = true := Decidable.byContradiction c2
      refine ⟨a, (memL n s 0).length, ⟨hC.2.2.2.2.1, by omega, rfl, s, by omega, rfl⟩, fun S20 _ h20 v29 e29 => ?_⟩
      subst e29
      rw [show iv (nI s) = s from nI_clamp (by omega)] at h20
      obtain ⟨F20, i40, r20⟩ := h20
      have e1 : memL n (s + 1) 0 = memL n s 0 ++ [s] := by rw [sp1, memL, if_pos c3, memL]
      have el : (memL n (s + 1) 0).length = (memL n s 0).length + 1 := by rw [e1, List.length_append, List.length_singleton]
      have eg : gl (memL n 10 0) (memL n s 0).length = s := by
        rw [sp, memL, if_pos c3]
        exact gl_at _
      have p8 : 2 ^ ((memL n s 0).length + 1) ≤ 256 := Nat.pow_le_pow_right (n := 2) (by decide) (show (memL n s 0).length + 1 ≤ 8 by omega)
      refine ih (s + 1) f S20 (by omega) (by omega) (hF.tr (F20.Q (by decide))) (hC.P F20 (by decide)) (by rw [el]; exact i40) ((F20.2.2.2.2.1 47 x (Or.inr (by decide))).trans h47) (fun p hp => ?_)
      rw [el] at hp ⊢
      rw [r20 p (by omega), spr]
      rw [Nat.pow_succ] at hp
      by_cases c4 : 2 ^ (memL n s 0).length ≤ p
      · rw [if_pos ⟨c4, by rw [Nat.pow_succ]; exact hp⟩, if_pos c4, hh _ (by omega), nI_or, eg]
      · rw [if_neg (fun w => c4 w.1), if_neg c4]
        exact hh p (by omega)
theorem rl_pq {P : HS → Prop} {S0 : HS} {M : Nat → Prop} {st y x k ns : Nat} {μ : Nat → Int32} {a : Nat → Nat} {L : List Nat} (hk : k ≤ 8) (ens : μ 1 = nI ns) (hns : ns ≤ 10) (hL : ∀ i, i < k → gl L i < ns) (hP : ∀ S1, frQ S0 S1 x y a → hI S1 40 x = nI k → hI S1 47 x = hI S0 47 x → (∀ p, p < 2 ^ k → hA S1 (a 0) p = nI (spr L k p)) → (∀ p, 0 < p → p < 2 ^ k → hA S1 (a 1) p = ttF μ (spr L k p)) → P S1) : ∀ (m q fuel : Nat) (S : HS), q + m = 2 ^ k → 0 < q → m < fuel → frQ S0 S x y a → prC S M st μ y x a → hI S 40 x = nI k → hI S 47 x = hI S0 47 x → (∀ p, p < 2 ^ k → hA S (a 0) p = nI (spr L k p)) → (∀ p, 0 < p → p < q → hA S (a 1) p = ttF μ (spr L k p)) → wp_X1_prepare_48 P fuel x st y (nI q) S := by
  have p8 : 2 ^ k ≤ 256 := Nat.pow_le_pow_right (n := 2) (by decide) hk
  have p10 := p2_le hns
  intro m
  induction m with
  | zero =>
    intro q fuel S hq h0 hf hF hC h40 h47 hs ht
    obtain ⟨f, rfl⟩ : ∃ f, fuel = f + 1 := ⟨fuel - 1, by omega⟩; rw [wp_X1_prepare_48]; unfold wb_X1_prepare_48; dsimp only
    rw [h40, sh1 (by omega), nI_leI (by omega) (by omega)]
    exact ⟨fun _ => hP S hF h40 h47 hs (fun p p0 hp => ht p p0 (by omega)), fun z9 => absurd (by omega) z9⟩
  | succ m ih =>
    intro q fuel S hq h0 hf hF hC h40 h47 hs ht
    have hC0 := hC
    obtain ⟨h1, h2, hSt, hO, hPl, m1, m2, m3, hd⟩ := hC
    obtain ⟨g1, g2⟩ := spr_ok k hL q (by omega)
    have vq : vp_in (nI q) 256 := by rw [nz_vp (by omega) (by decide)]; omega
    have yk := hO.1
    obtain ⟨f, rfl⟩ : ∃ f, fuel = f + 1 := ⟨fuel - 1, by omega⟩; rw [wp_X1_prepare_48]; unfold wb_X1_prepare_48; dsimp only
    rw [h40, sh1 (by omega), nI_leI (by omega) (by omega), nI_1]
    refine ⟨fun z9 => absurd z9 (by omega), fun _ => ⟨a 0, hPl.sets, fun _ => ?_⟩⟩
    rw [hPl.n (show 0 < 5 by omega), nI_clamp (n := q) (by omega), hs q (by omega)]
    refine ⟨vq, M, μ, ⟨h1, h2, hSt, hO, spr L k q, ns, ens, hns, g2 h0, g1, rfl⟩, fun S39 _ h39 => ?_⟩
    rw [show iv (nI (spr L k q)) = spr L k q from nI_clamp (by omega)] at h39
    obtain ⟨F39, w63, w64, wt⟩ := h39
    have C39 := hC0.R F39
    have P39 := C39.2.2.2.2.1
    have xy : x ≠ y := fun z => by have := hPl.1; rw [z, yk] at this; exact absurd this (by decide)
    have k40 : hI S39 40 x = nI k := (F39.2.2.2.1 40 x xy).trans h40
    have k47 : hI S39 47 x = hI S0 47 x := (F39.2.2.2.1 47 x xy).trans h47
    have r0 : hA S39 (a 0) = hA S (a 0) := F39.2.2.2.2.1 _ (hd 0 (by decide)).2.2
    have r1 : hA S39 (a 1) = hA S (a 1) := F39.2.2.2.2.1 _ (hd 1 (by decide)).2.2
    have fin : ∀ S5 : HS, S5 = putA S39 (a 1) q (ttF μ (spr L k q)) → wp_X1_prepare_48 P f x st y (nI (q + 1)) S5 := fun S5 e5 => by
      have F5 : frP S39 S5 x a [] [1] := by rw [e5]; exact frP.rf.A 1 _ _ (by decide)
      refine ih (q + 1) f S5 (by omega) (by omega) (by omega) ((hF.tr F39.Q).tr (F5.Q (by decide))) (C39.P F5 (by decide)) ((F5.2.2.2.2.1 40 x (Or.inr (by decide))).trans k40) ((F5.2.2.2.2.1 47 x (Or.inr (by decide))).trans k47) (fun p hp => ?_) (fun p p0 hp => ?_)
      · rw [e5, putA_o _ _ _ (hPl.ne (by omega) (by omega) (by omega)), r0]
        exact hs p hp
      · by_cases c : p = q
        · subst c; rw [e5, putA_s]
        · rw [e5, putA_n _ _ c, r1]
          exact ht p p0 (by omega)
    refine ⟨a 1, P39.tots, fun _ => ?_⟩
    rw [w63, nz_eq0 (by have := rsnD_8 (μ := μ) (g := spr L k q); omega), P39.n (show 1 < 5 by omega)]
    refine ⟨fun c => ⟨vq, fun S54 e54 v61 e61 => ?_⟩, fun c => ⟨vq, fun S68 e68 v75 e75 => ?_⟩⟩
    · subst e61
      refine fin S54 (by rw [e54]; unfold ttF; rw [if_neg c])
    · subst e75
      obtain ⟨_, _, _, b71, _, _, b74, _, b76, b77⟩ := wt c
      refine fin S68 (by rw [e68, b71, b74, b76, b77]; unfold ttF; rw [if_pos c]; rfl)
theorem k_X1_prepare (l : Launch) (D : va_G) (T : Nat → ClassId) (x0 : Nat) (p0 : Nat) (p1 : Int32) (p2 : Nat) (S : HS) (e0 : (Nat → Prop)) (e1 : Nat → Int32) (e2 : Nat → Nat) (e3 : Nat) (hx0 : hK S x0 = 2) (hp0 : hK S p0 = 7) (hp2 : hK S p2 = 3) (h : prC S e0 p0 e1 p2 x0 e2 ∧ e3 < 2 ^ iv (e1 1) ∧ p1 = nI e3 ∧ (memL e3 10 0).length ≤ 8 ∧ hA S (e2 0) 0 = 0) : CMv l yX1_prepare (ws_X1_prepare) rm_X1_prepare D T [.ref x0, .ref p0, .int p1, .ref p2] S 0 0 (fun S1 => (frQ S S1 x0 p2 e2 ∧ hI S1 40 x0 = nI (memL e3 10 0).length ∧ hI S1 47 x0 = hI S 47 x0 ∧ (∀ p, p < 2 ^ (memL e3 10 0).length → hA S1 (e2 0) p = nI (spr (memL e3 10 0) (memL e3 10 0).length p)) ∧ ∀ p, 0 < p → p < 2 ^ (memL e3 10 0).length → hA S1 (e2 1) p = ttF e1 (spr (memL e3 10 0) (memL e3 10 0).length p))) := c_X1_prepare l D T x0 p0 p1 p2 S hx0 hp0 hp2 _ <|
  (by
    obtain ⟨hC, hn, en, h8, hz⟩ := h
    subst en
    obtain ⟨ns, hns, ens⟩ := hC.1.2.1
    have ins : iv (e1 1) = ns := by rw [ens]; exact nI_clamp (by omega)
    rw [ins] at hn
    have hn10 : e3 < 1024 := Nat.lt_of_lt_of_le hn (p2_le hns)
    unfold wp_X1_prepare
    intro S2 e2'
    have F2 : frP S S2 x0 e2 [40] [0] := by rw [e2']; exact frP.rf.I 40 _ (by decide)
    refine ⟨20, rl_pm (S0 := S) (M := e0) (μ := e1) hn10 h8 (fun S1 q1 c1 i40 i47 r1 => ?_) 10 0 20 S2 (by omega) (by omega) (F2.Q (by decide)) (hC.P F2 (by decide)) (by rw [e2']; exact putI_s _ _ _ _) (F2.2.2.2.2.1 47 x0 (Or.inr (by decide))) (fun p hp => ?_)⟩
    · intro _ _ _
      have p8 : 2 ^ (memL e3 10 0).length ≤ 256 := Nat.pow_le_pow_right (n := 2) (by decide) h8
      have p0 := Nat.two_pow_pos (memL e3 10 0).length
      refine ⟨300, rl_pq (S0 := S) (M := e0) (μ := e1) (L := memL e3 10 0) h8 ens hns (fun i hi => ?_) (fun S9 g1 g2 g3 g4 g5 => ⟨g1, g2, g3, g4, g5⟩) (2 ^ (memL e3 10 0).length - 1) 1 300 S1 (by omega) (by omega) (by omega) q1 c1 i40 i47 r1 (fun p p0 hp => by omega)⟩
      rw [mem_10 hn hns] at hi ⊢
      have := (mem_gl ns 0 _).mpr ⟨i, hi, rfl⟩
      omega
    · have : p = 0 := by
        have hp : p < 2 ^ 0 := hp
        rw [Nat.pow_zero] at hp
        omega
      subst this
      rw [e2']
      exact hz)

end S_C2G
