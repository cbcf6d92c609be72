section S_C1I
abbrev ws_X2_addExtras : List Cond := Cond.code yX2_addExtras cX2_addExtras 5 none :: W0
abbrev rm_X2_addExtras : Room := ({ frames := 14, cells := 0, slots := 0, locals := 445 } : Room)
def wb_X2_addExtras_14 (rec : Nat → Nat → Int32 → Int32 → HS → Prop) (P : HS → Prop) (x0 : Nat) (x1 : Nat) (x2 : Int32) (x3 : Int32) (S : HS) : Prop := (10 ≤ x3 → (P S)) ∧ (¬ 10 ≤ x3 → (∃ b17 : Nat, hR S 210 x1 = some b17 ∧ (hK S b17 = 25 → (vp_in x3 (hN S b17) ∧ (∀ o20 : Option Nat, o20 = hB S b17 (Int32.toNatClampNeg x3) → (∀ b, o20 = some b → hK S b = 1) → ((o20 = none → (∀ v23 : Int32, v23 = x3 + 1 → (rec x0 x1 x2 v23 S))) ∧ (∀ b21 : Nat, o20 = some b21 → hK S b21 = 1 → ((¬ (hasF x2 x3) = 0 → (∀ v29 : Int32, v29 = x3 + 1 → (rec x0 x1 x2 v29 S))) ∧ ((hasF x2 x3) = 0 → (∃ (m30 : (Nat → Prop)) (m31 : Nat → Int32) (m32 : Nat) (m33 : Nat), ((WF m31 ∧ m32 < 6 ∧ m33 < 10 ∧ RelA S m30 b21 m31 m32 m33 ∧ rwO m31 m32 m33) ∧ ((¬ (b2i (hldB m31 (274 + 510 * m32 + 150 + 36 * m33) (hI S 67 x0) (hI S 69 x0) (hI S 70 x0) (hI S 68 x0) (hI S 66 x0))) = 0 → (∃ (m40 : (Nat → Prop)) (m41 : Nat → Int32) (m42 : Nat) (m43 : Nat), ((WF m41 ∧ m42 < 6 ∧ m43 < 10 ∧ RelA S m40 b21 m41 m42 m43) ∧ (∀ S50 : HS, S50 = putI S 74 x0 ((hI S 74 x0) + ((if m41 (274 + 510 * m42 + 150 + 36 * m43 + 2) = 0 then m41 (274 + 510 * m42 + 150 + 36 * m43 + 1) else if m41 (274 + 510 * m42 + 150 + 36 * m43 + 2) = 1 then m41 (274 + 510 * m42 + 150 + 36 * m43 + 1) * (hI S 67 x0) else pctF (hI S 71 x0) (m41 (274 + 510 * m42 + 150 + 36 * m43 + 1))))) → (∀ S58 : HS, S58 = putI S50 75 x0 ((hI S50 75 x0) ||| ((1 : Int32) <<< (x3 &&& 31))) → (((hI S58 22 b21) < 0 → (∀ v66 : Int32, v66 = x3 + 1 → (rec x0 x1 x2 v66 S58))) ∧ (¬ (hI S58 22 b21) < 0 → (∀ v67 : Int32, v67 = (x2 ||| ((1 : Int32) <<< ((hI S58 22 b21) &&& 31))) → (∀ v68 : Int32, v68 = x3 + 1 → (rec x0 x1 v67 v68 S58)))))))))) ∧ ((b2i (hldB m31 (274 + 510 * m32 + 150 + 36 * m33) (hI S 67 x0) (hI S 69 x0) (hI S 70 x0) (hI S 68 x0) (hI S 66 x0))) = 0 → (∀ v69 : Int32, v69 = x3 + 1 → (rec x0 x1 x2 v69 S)))))))))))))))
def wp_X2_addExtras_14 (P : HS → Prop) : Nat → Nat → Nat → Int32 → Int32 → HS → Prop
  | 0 => fun _ _ _ _ _ => False
  | n + 1 => fun x0 x1 x2 x3 S => wb_X2_addExtras_14 (wp_X2_addExtras_14  P n)  P x0 x1 x2 x3 S
set_option maxRecDepth 100000 in
set_option maxHeartbeats 4000000 in
theorem t_X2_addExtras_14 {p : Program} {l : Launch} {e : Env} {s : State} {m : MethodId} {args : Array Value} {below : List Frame} {meth : Method} {c : Code} {D : va_G} {A : Nat → Prop} {T : Nat → ClassId} (C : GC p s m args meth c cX2_addExtras "FreightRater$Rating" (ws_X2_addExtras) 5 D A (zty T)) (E : GE T A s) (hr : meth.sig.returnType = none) (S0 : HS) (P : HS → Prop) : ∀ (n : Nat) (x0 : Nat) (x1 : Nat) (x2 : Int32) (x3 : Int32) (S : HS) (L : List Nat), wt S → hL S L → ext S0 S → (hK S x0 = 3) → (hK S x1 = 10) → wp_X2_addExtras_14  P n x0 x1 x2 x3 S → GW p l e { rm_X2_addExtras with cells := 0, slots := 0 } s m args below meth c D A 5 0 0 (MQ below (va_Qv (fun (u : HS × List Nat) => P u.1 ∧ CO S0 u) (CE D T A) A) args s 0 0 A) (CW T S L) 0 0 14 [(0, .ref x0), (1, .ref x1), (2, .int x2), (3, .int x3)] [] := by
  have hW : ∀ {w : Cond}, w ∈ W0 → w.before args s = true := fun h => C.2.2.2.2.1 _ (List.mem_cons_of_mem _ h)
  intro n
  induction n with
  | zero => intro x0 x1 x2 x3 S L hw hL he hx0 hx1 h; exact h.elim
  | succ n ih =>
    intro x0 x1 x2 x3 S L hw hL he hx0 hx1 h
    replace h : wb_X2_addExtras_14 (wp_X2_addExtras_14  P n)  P x0 x1 x2 x3 S := h
    unfold wb_X2_addExtras_14 at h
    refine g_iload_n C dX2_addExtras_14 rfl 3 rfl ?_
    refine g_bipush (v := 10) C dX2_addExtras_15 (by decide) ?_
    refine g_icmp_ge (tgt := 111) C dX2_addExtras_17 (by decide) (fun z15 => ?_) (fun z15 => ?_)
    · replace h := h.1 z15
      exact gc_vret C hw hL he hr dX2_addExtras_111 h
    · replace h := h.2 z15
      refine g_aload_n C dX2_addExtras_20 rfl 1 rfl ?_
      refine gc_getR C hw iwx_X9 hL hx1 (by decide) (by decide) rfl 10 (by decide) (hW kw_436) rfl rfl rfl dX2_addExtras_21 (fun o16 eo16 ko16 => ?_)
      obtain ⟨b17, hb9, h⟩ := h
      have g18 : hK S b17 = 25 := ko16 b17 (eo16.trans hb9)
      replace h := h g18
      refine g_opt (eo16.trans hb9) ?_
      refine g_iload_n C dX2_addExtras_24 rfl 3 rfl ?_
      obtain ⟨g19, h⟩ := h
      refine gc_aald C hw hL g18 (by decide) rfl g19 dX2_addExtras_25 (fun o20 eo20 ko20 => ?_)
      replace h := h o20 eo20 ko20
      refine g_qstore (lv' := [(4, va_rf o20), (0, .ref x0), (1, .ref x1), (2, .int x2), (3, .int x3)]) C dX2_addExtras_26 (by decide) rfl ?_
      refine g_qload C dX2_addExtras_28 0 rfl ?_
      rcases o20 with _ | b21
      · replace h := h.1 rfl
        refine g_ifnullN (tgt := 105) C dX2_addExtras_30 (by decide) ?_
        obtain ⟨v23, ev23⟩ : ∃ y : Int32, y = x3 + 1 := ⟨_, rfl⟩
        replace h := h v23 ev23
        refine g_iinc (v := v23) (lv' := [(3, .int v23), (4, .null), (0, .ref x0), (1, .ref x1), (2, .int x2)]) C dX2_addExtras_105 (j := 4) rfl (by rw [ev23]; rfl) (by decide) rfl ?_
        refine g_goto (tgt := 14) C dX2_addExtras_108 (by decide) ?_
        refine g_locals [2, 3, 4, 0] rfl ?_
        exact ih x0 x1 x2 v23 S L hw hL he hx0 hx1 h
      · have g22 : hK S b21 = 1 := ko20 b21 rfl
        replace h := h.2 b21 rfl g22
        refine g_ifnull C dX2_addExtras_30 ?_
        refine g_iload_n C dX2_addExtras_33 rfl 3 rfl ?_
        refine g_iload_n C dX2_addExtras_34 rfl 4 rfl ?_
        refine gc_calliSN (host := "FreightRater") C E hw hL [.int x2, .int x3] rfl (k_X10_isIn l D T x2 x3 S ) (w0_SN 2 E C.2.2.2.2.1 (by decide) kw_1204 kw_1 kw_1205 rfl rfl (by decide +kernel) ⟨Nat.le_of_ble_eq_true rfl, Nat.le_of_ble_eq_true rfl⟩) rfl (Nat.le_of_ble_eq_true rfl) (Nat.le_refl _) (Nat.le_refl _) (Nat.zero_le _) (Nat.zero_le _) dX2_addExtras_35 (fun v9 S9 L24 he9 hw9 hL9 hp => ?_)
        obtain ⟨hv9, hs9⟩ := hp
        replace hs9 := hs9.symm
        subst hs9
        replace hv9 := hv9.symm
        subst hv9
        have w27 := hL9
        refine g_if_ne (tgt := 105) C dX2_addExtras_38 (by decide) (fun z28 => ?_) (fun z28 => ?_)
        · replace h := h.1 z28
          obtain ⟨v29, ev29⟩ : ∃ y : Int32, y = x3 + 1 := ⟨_, rfl⟩
          replace h := h v29 ev29
          refine g_iinc (v := v29) (lv' := [(3, .int v29), (4, .ref b21), (0, .ref x0), (1, .ref x1), (2, .int x2)]) C dX2_addExtras_105 (j := 4) rfl (by rw [ev29]; rfl) (by decide) rfl ?_
          refine g_goto (tgt := 14) C dX2_addExtras_108 (by decide) ?_
          refine g_locals [2, 3, 4, 0] rfl ?_
          exact ih x0 x1 x2 v29 S L24 hw w27 he hx0 hx1 h
        · replace h := h.2 z28
          refine g_aload C dX2_addExtras_41 0 rfl ?_
          refine g_aload_n C dX2_addExtras_43 rfl 1 rfl ?_
          obtain ⟨m30, m31, m32, m33, h⟩ := h
          obtain ⟨g34, h⟩ := h
          refine gc_calliV (host := "") C E hw w27 g22 (by decide) (by decide) rfl [.ref x0] rfl (k_X0_applies l D T b21 x0 S m30 m31 m32 m33 g22 hx0 g34) (w0_V 1 C.2.2.2.2.1 kw_1253 kw_1254 kw_1255 kw_27 kw_1256 rfl rfl (by decide +kernel) ⟨Nat.le_of_ble_eq_true rfl, Nat.le_of_ble_eq_true rfl⟩) rfl (Nat.le_of_ble_eq_true rfl) (Nat.le_refl _) (Nat.le_refl _) (Nat.zero_le _) (Nat.zero_le _) dX2_addExtras_44 (fun v9 S9 L35 he9 hw9 hL9 hp => ?_)
          obtain ⟨hv9, hs9⟩ := hp
          replace hs9 := hs9.symm
          subst hs9
          replace hv9 := hv9.symm
          subst hv9
          have w38 := hL9
          refine g_if_ne (tgt := 53) C dX2_addExtras_47 (by decide) (fun z39 => ?_) (fun z39 => ?_)
          · replace h := h.1 z39
            refine g_aload_n C dX2_addExtras_53 rfl 1 rfl ?_
            refine g_dup C dX2_addExtras_54 rfl ?_
            refine gc_getI C iwx_X2 w38 hx0 (by decide) (by decide) rfl 14 (by decide) (hW kw_162) rfl rfl rfl dX2_addExtras_55 ?_
            refine g_aload C dX2_addExtras_58 0 rfl ?_
            refine g_aload_n C dX2_addExtras_60 rfl 1 rfl ?_
            refine gc_getI C iwx_X2 w38 hx0 (by decide) (by decide) rfl 11 (by decide) (hW kw_156) rfl rfl rfl dX2_addExtras_61 ?_
            refine g_aload_n C dX2_addExtras_64 rfl 1 rfl ?_
            refine gc_getI C iwx_X2 w38 hx0 (by decide) (by decide) rfl 7 (by decide) (hW kw_148) rfl rfl rfl dX2_addExtras_65 ?_
            obtain ⟨m40, m41, m42, m43, h⟩ := h
            obtain ⟨g44, h⟩ := h
            refine gc_calliV (host := "") C E hw w38 g22 (by decide) (by decide) rfl [.int (hI S 71 x0), .int (hI S 67 x0)] rfl (k_X0_amountFor l D T b21 (hI S 71 x0) (hI S 67 x0) S m40 m41 m42 m43 g22 g44) (w0_V 2 C.2.2.2.2.1 kw_1273 kw_1274 kw_1275 kw_27 kw_1276 rfl rfl (by decide +kernel) ⟨Nat.le_of_ble_eq_true rfl, Nat.le_of_ble_eq_true rfl⟩) rfl (Nat.le_of_ble_eq_true rfl) (Nat.le_refl _) (Nat.le_refl _) (Nat.zero_le _) (Nat.zero_le _) dX2_addExtras_68 (fun v9 S9 L45 he9 hw9 hL9 hp => ?_)
            obtain ⟨hv9, hs9⟩ := hp
            replace hs9 := hs9.symm
            subst hs9
            replace hv9 := hv9.symm
            subst hv9
            have w48 := hL9
            refine g_iadd C dX2_addExtras_71 ?_
            refine gc_putI C iwx_X2 w48 hx0 (by decide) (by decide) rfl 14 (by decide) (hW kw_162) rfl tyX2 tyX2_ok nmX2 rfl rfl rfl rfl rfl dX2_addExtras_72 ?_
            have w49 := wt_putI hw 74 ((hI S 74 x0) + ((if m41 (274 + 510 * m42 + 150 + 36 * m43 + 2) = 0 then m41 (274 + 510 * m42 + 150 + 36 * m43 + 1) else if m41 (274 + 510 * m42 + 150 + 36 * m43 + 2) = 1 then m41 (274 + 510 * m42 + 150 + 36 * m43 + 1) * (hI S 67 x0) else pctF (hI S 71 x0) (m41 (274 + 510 * m42 + 150 + 36 * m43 + 1))))) (k_ne hx0 (by decide))
            refine gc_nS (fun S50 eS50 => ?_)
            replace h := h S50 eS50
            have w51 : wt S50 := by rw [eS50]; exact w49
            have w52 : isL S50 L45 := by rw [eS50]; exact w48
            have w53 : ext S0 S50 := by rw [eS50]; exact he
            have g54 : hK S50 b21 = 1 := by rw [eS50]; exact g22
            have g55 : hK S50 x0 = 3 := by rw [eS50]; exact hx0
            have g56 : hK S50 x1 = 10 := by rw [eS50]; exact hx1
            refine g_aload_n C dX2_addExtras_75 rfl 1 rfl ?_
            refine g_dup C dX2_addExtras_76 rfl ?_
            refine gc_getI C iwx_X2 w52 g55 (by decide) (by decide) rfl 15 (by decide) (hW kw_164) rfl rfl rfl dX2_addExtras_77 ?_
            refine g_iconst (v := 1) C dX2_addExtras_80 (by decide) ?_
            refine g_iload_n C dX2_addExtras_81 rfl 4 rfl ?_
            refine g_ishl C dX2_addExtras_82 ?_
            refine g_ior C dX2_addExtras_83 ?_
            refine gc_putI C iwx_X2 w52 g55 (by decide) (by decide) rfl 15 (by decide) (hW kw_164) rfl tyX2 tyX2_ok nmX2 rfl rfl rfl rfl rfl dX2_addExtras_84 ?_
            have w57 := wt_putI w51 75 ((hI S50 75 x0) ||| ((1 : Int32) <<< (x3 &&& 31))) (k_ne g55 (by decide))
            refine gc_nS (fun S58 eS58 => ?_)
            replace h := h S58 eS58
            have w59 : wt S58 := by rw [eS58]; exact w57
            have w60 : isL S58 L45 := by rw [eS58]; exact w52
            have w61 : ext S0 S58 := by rw [eS58]; exact w53
            have g62 : hK S58 b21 = 1 := by rw [eS58]; exact g54
            have g63 : hK S58 x0 = 3 := by rw [eS58]; exact g55
            have g64 : hK S58 x1 = 10 := by rw [eS58]; exact g56
            refine g_aload C dX2_addExtras_87 0 rfl ?_
            refine gc_getI C iwx_X0 w60 g62 (by decide) (by decide) rfl 2 (by decide) (hW kw_748) rfl rfl rfl dX2_addExtras_89 ?_
            refine g_if_lt (tgt := 105) C dX2_addExtras_92 (by decide) (fun z65 => ?_) (fun z65 => ?_)
            · replace h := h.1 z65
              obtain ⟨v66, ev66⟩ : ∃ y : Int32, y = x3 + 1 := ⟨_, rfl⟩
              replace h := h v66 ev66
              refine g_iinc (v := v66) (lv' := [(3, .int v66), (4, .ref b21), (0, .ref x0), (1, .ref x1), (2, .int x2)]) C dX2_addExtras_105 (j := 4) rfl (by rw [ev66]; rfl) (by decide) rfl ?_
              refine g_goto (tgt := 14) C dX2_addExtras_108 (by decide) ?_
              refine g_locals [2, 3, 4, 0] rfl ?_
              exact ih x0 x1 x2 v66 S58 L45 w59 w60 w61 g63 g64 h
            · replace h := h.2 z65
              refine g_iload_n C dX2_addExtras_95 rfl 3 rfl ?_
              refine g_iconst (v := 1) C dX2_addExtras_96 (by decide) ?_
              refine g_aload C dX2_addExtras_97 0 rfl ?_
              refine gc_getI C iwx_X0 w60 g62 (by decide) (by decide) rfl 2 (by decide) (hW kw_748) rfl rfl rfl dX2_addExtras_99 ?_
              refine g_ishl C dX2_addExtras_102 ?_
              refine g_ior C dX2_addExtras_103 ?_
              refine g_topi (fun v67 ev67 => ?_)
              replace h := h v67 ev67
              refine g_istore_n (lv' := [(2, .int v67), (4, .ref b21), (0, .ref x0), (1, .ref x1), (3, .int x3)]) C dX2_addExtras_104 rfl (by decide) rfl ?_
              obtain ⟨v68, ev68⟩ : ∃ y : Int32, y = x3 + 1 := ⟨_, rfl⟩
              replace h := h v68 ev68
              refine g_iinc (v := v68) (lv' := [(3, .int v68), (2, .int v67), (4, .ref b21), (0, .ref x0), (1, .ref x1)]) C dX2_addExtras_105 (j := 4) rfl (by rw [ev68]; rfl) (by decide) rfl ?_
              refine g_goto (tgt := 14) C dX2_addExtras_108 (by decide) ?_
              refine g_locals [3, 4, 1, 0] rfl ?_
              exact ih x0 x1 v67 v68 S58 L45 w59 w60 w61 g63 g64 h
          · replace h := h.2 z39
            refine g_goto (tgt := 105) C dX2_addExtras_50 (by decide) ?_
            obtain ⟨v69, ev69⟩ : ∃ y : Int32, y = x3 + 1 := ⟨_, rfl⟩
            replace h := h v69 ev69
            refine g_iinc (v := v69) (lv' := [(3, .int v69), (4, .ref b21), (0, .ref x0), (1, .ref x1), (2, .int x2)]) C dX2_addExtras_105 (j := 4) rfl (by rw [ev69]; rfl) (by decide) rfl ?_
            refine g_goto (tgt := 14) C dX2_addExtras_108 (by decide) ?_
            refine g_locals [2, 3, 4, 0] rfl ?_
            exact ih x0 x1 x2 v69 S L35 hw w38 he hx0 hx1 h
def wp_X2_addExtras (P : HS → Prop) (x0 : Nat) (p0 : Nat) (S : HS) : Prop := ∀ S2 : HS, S2 = putI S 74 x0 0 → (∀ S9 : HS, S9 = putI S2 75 x0 0 → (∃ k70 : Nat, wp_X2_addExtras_14  P k70 x0 p0 0 0 S9))
set_option maxRecDepth 100000 in
set_option maxHeartbeats 4000000 in
theorem t_X2_addExtras {p : Program} {l : Launch} {e : Env} {s : State} {m : MethodId} {args : Array Value} {below : List Frame} {meth : Method} {c : Code} {D : va_G} {A : Nat → Prop} {T : Nat → ClassId} (C : GC p s m args meth c cX2_addExtras "FreightRater$Rating" (ws_X2_addExtras) 5 D A (zty T)) (E : GE T A s) (hr : meth.sig.returnType = none) (P : HS → Prop) : ∀ (x0 : Nat) (p0 : Nat) (S0 S : HS) (L : List Nat), S0 = S → wt S → hL S L → (hK S x0 = 3) → (hK S p0 = 10) → wp_X2_addExtras P x0 p0 S → GW p l e { rm_X2_addExtras with cells := 0, slots := 0 } s m args below meth c D A 5 0 0 (MQ below (va_Qv (fun (u : HS × List Nat) => P u.1 ∧ CO S0 u) (CE D T A) A) args s 0 0 A) (CW T S L) 0 0 0 [(0, .ref x0), (1, .ref p0)] [] := by
  have hW : ∀ {w : Cond}, w ∈ W0 → w.before args s = true := fun h => C.2.2.2.2.1 _ (List.mem_cons_of_mem _ h)
  intro x0 p0 S0 S L hS0 hw hL hx0 hp0 h
  have he : ext S0 S := by rw [hS0]; exact ext_rf
  unfold wp_X2_addExtras at h
  refine g_aload_n C dX2_addExtras_0 rfl 0 rfl ?_
  refine g_iconst (v := 0) C dX2_addExtras_1 (by decide) ?_
  refine gc_putI C iwx_X2 hL hx0 (by decide) (by decide) rfl 14 (by decide) (hW kw_162) rfl tyX2 tyX2_ok nmX2 rfl rfl rfl rfl rfl dX2_addExtras_2 ?_
  have w1 := wt_putI hw 74 0 (k_ne hx0 (by decide))
  refine gc_nS (fun S2 eS2 => ?_)
  replace h := h S2 eS2
  have w3 : wt S2 := by rw [eS2]; exact w1
  have w4 : isL S2 L := by rw [eS2]; exact hL
  have w5 : ext S0 S2 := by rw [eS2]; exact he
  have g6 : hK S2 x0 = 3 := by rw [eS2]; exact hx0
  have g7 : hK S2 p0 = 10 := by rw [eS2]; exact hp0
  refine g_aload_n C dX2_addExtras_5 rfl 0 rfl ?_
  refine g_iconst (v := 0) C dX2_addExtras_6 (by decide) ?_
  refine gc_putI C iwx_X2 w4 g6 (by decide) (by decide) rfl 15 (by decide) (hW kw_164) rfl tyX2 tyX2_ok nmX2 rfl rfl rfl rfl rfl dX2_addExtras_7 ?_
  have w8 := wt_putI w3 75 0 (k_ne g6 (by decide))
  refine gc_nS (fun S9 eS9 => ?_)
  replace h := h S9 eS9
  have w10 : wt S9 := by rw [eS9]; exact w8
  have w11 : isL S9 L := by rw [eS9]; exact w4
  have w12 : ext S0 S9 := by rw [eS9]; exact w5
  have g13 : hK S9 x0 = 3 := by rw [eS9]; exact g6
  have g14 : hK S9 p0 = 10 := by rw [eS9]; exact g7
  refine g_iconst (v := 0) C dX2_addExtras_10 (by decide) ?_
  refine g_istore_n (lv' := [(2, .int 0), (0, .ref x0), (1, .ref p0)]) C dX2_addExtras_11 rfl (by decide) rfl ?_
  refine g_iconst (v := 0) C dX2_addExtras_12 (by decide) ?_
  refine g_istore_n (lv' := [(3, .int 0), (2, .int 0), (0, .ref x0), (1, .ref p0)]) C dX2_addExtras_13 rfl (by decide) rfl ?_
  refine g_locals [2, 3, 1, 0] rfl ?_
  obtain ⟨k70, h⟩ := h
  refine t_X2_addExtras_14 C E hr S0  P  k70 x0 p0 0 0 S9 L w10 w11 w12 g13 g14 h
theorem c_X2_addExtras (l : Launch) (D : va_G) (T : Nat → ClassId) (x0 : Nat) (p0 : Nat) (S : HS) (hx0 : hK S x0 = 3) (hp0 : hK S p0 = 10) (P : HS → Prop) (h : wp_X2_addExtras P x0 p0 S) : CMv l yX2_addExtras (ws_X2_addExtras) rm_X2_addExtras D T [.ref x0, .ref p0] S 0 0 P := gc_metv (by decide) rfl rfl (Nat.le_of_ble_eq_true rfl) (fun p e s m args below meth c A L C E hnm hr hw hL => t_X2_addExtras C E   hr P x0 p0 S S L rfl hw hL hx0 hp0 h)
theorem putI_a (S : HS) {a b : Nat} (i j : Nat) (v : Int32) (h : b ≠ a) : hI (putI S i a v) j b = hI S j b := up2_a _ _ _ _ h
theorem ex_m1 {a : Nat} (h : a < 10) : ¬ nI a < (-1 : Int32) := by
  have : ∀ a : Nat, a < 10 → ¬ nI a < (-1 : Int32) := by decide
  exact this a h
theorem ex_ms {a c X Y : Nat} (ha : a < 10) (hc : c ≤ 9) (hX : X < 1024) (hY : Y < 1024) (ht : ∀ b, a ≤ b → b < 10 → X.testBit b = Y.testBit b) : ∃ X1 Y1, X1 < 1024 ∧ Y1 < 1024 ∧ nI X ||| (1 : Int32) <<< (nI c &&& 31) = nI X1 ∧ (nI Y ||| (if nI a < nI c then (1 : Int32) <<< (nI c &&& 31) else 0)) = nI Y1 ∧ ∀ b, a + 1 ≤ b → b < 10 → X1.testBit b = Y1.testBit b := by
  have p2 : 2 ^ c < 1024 := (Nat.pow_lt_pow_iff_right (a := 2) (by decide)).mpr (show c < 10 by omega)
  rw [sh1 (by omega), nI_or]
  by_cases c9 : a < c
  · refine ⟨X ||| 2 ^ c, Y ||| 2 ^ c, or_lt hX p2, or_lt hY p2, rfl, ?_, fun b h1 h2 => ?_⟩
    · rw [if_pos (by rw [nI_ltI (by omega) (by omega)]; exact c9), nI_or]
    · rw [Nat.testBit_or, Nat.testBit_or, ht b (by omega) h2]
  · refine ⟨X ||| 2 ^ c, Y, or_lt hX p2, hY, rfl, ?_, fun b h1 h2 => ?_⟩
    · rw [if_neg (by rw [nI_ltI (by omega) (by omega)]; exact c9)]
      exact Int32.or_zero
    · rw [Nat.testBit_or, ht b (by omega) h2, Nat.testBit_two_pow, decide_eq_false (by omega), Bool.or_false]
theorem rl_ax {P : HS → Prop} {M : Nat → Prop} {x y v : Nat} {μ : Nat → Int32} {S0 : HS} (hw : WF μ) (hx : hK S0 x = 3) (hv : v < 6) (hO : ∀ a, a < 10 → rwO μ v a) (hMb : ∀ b, hR S0 61 x = some b → M b) (hMn : ∀ b, hR S0 62 x = some b → M b) (hV : RelV S0 M y μ v) : ∀ (k a fuel : Nat) (X Y : Nat) (m c : Int32) (S : HS), a + k = 10 → k < fuel → X < 1024 → Y < 1024 → (∀ b, a ≤ b → b < 10 → X.testBit b = Y.testBit b) → c3 S0 S x [74, 75] → hI S 74 x = m → hI S 75 x = c → (∀ S1, c3 S0 S1 x [74, 75] → hI S1 74 x = (exF μ v (hI S0 67 x) (hI S0 69 x) (hI S0 70 x) (hI S0 68 x) (hI S0 66 x) (hI S0 71 x) k a (nI Y) m c).1 → hI S1 75 x = (exF μ v (hI S0 67 x) (hI S0 69 x) (hI S0 70 x) (hI S0 68 x) (hI S0 66 x) (hI S0 71 x) k a (nI Y) m c).2 → P S1) → wp_X2_addExtras_14 P fuel x y (nI X) (nI a) S := by
  intro k
  induction k with
  | zero =>
    intro a fuel X Y m c S ha hf hX hY ht hc h74 h75 hP
    obtain ⟨f, rfl⟩ : ∃ f, fuel = f + 1 := ⟨fuel - 1, by omega⟩; rw [wp_X2_addExtras_14]; unfold wb_X2_addExtras_14; dsimp only
    rw [show (10 : Int32) = nI 10 from rfl, nI_leI (by omega) (by omega)]
    exact ⟨fun _ => hP S hc h74 h75, fun z9 => absurd (by omega) z9⟩
  | succ k ih =>
    intro a fuel X Y m c S ha hf hX hY ht hc h74 h75 hP
    obtain ⟨ac, rac, ⟨kac, nac, _⟩, hac⟩ := (hV.fr hc.fr hx hMb hMn).2.2.2
    have i67 : hI S 67 x = hI S0 67 x := hc.I (by decide)
    have i69 : hI S 69 x = hI S0 69 x := hc.I (by decide)
    have i70 : hI S 70 x = hI S0 70 x := hc.I (by decide)
    have i68 : hI S 68 x = hI S0 68 x := hc.I (by decide)
    have i66 : hI S 66 x = hI S0 66 x := hc.I (by decide)
    have i71 : hI S 71 x = hI S0 71 x := hc.I (by decide)
    have skip : ∀ f, k < f → exF μ v (hI S0 67 x) (hI S0 69 x) (hI S0 70 x) (hI S0 68 x) (hI S0 66 x) (hI S0 71 x) (k + 1) a (nI Y) m c = exF μ v (hI S0 67 x) (hI S0 69 x) (hI S0 70 x) (hI S0 68 x) (hI S0 66 x) (hI S0 71 x) k (a + 1) (nI Y) m c → ∀ w : Int32, w = nI a + 1 → wp_X2_addExtras_14 P f x y (nI X) w S := fun f hf e w ew => by
      rw [nI_1] at ew
      subst ew
      rw [e] at hP
      exact ih (a + 1) f X Y m c S (by omega) hf hX hY (fun b h1 h2 => ht b (by omega) h2) hc h74 h75 hP
    rcases hac a (by omega) with ⟨e0, hn⟩ | ⟨e1, z, hz, hA⟩
    · obtain ⟨f, rfl⟩ : ∃ f, fuel = f + 1 := ⟨fuel - 1, by omega⟩; rw [wp_X2_addExtras_14]; unfold wb_X2_addExtras_14; dsimp only
      rw [show (10 : Int32) = nI 10 from rfl, nI_leI (by omega) (by omega)]
      refine ⟨fun z9 => absurd z9 (by omega), fun _ => ⟨ac, rac, fun _ => ?_⟩⟩
      rw [nac, nz_vp (by omega) (by decide), nI_clamp (n := a) (by omega), hn]
      refine ⟨by omega, fun o20 e20 _ => ⟨fun _ => skip f (by omega) (by rw [exF, if_neg (by rw [e0]; exact fun w => absurd w.1 (by decide))]), fun b h9 => by rw [e20] at h9; cases h9⟩⟩
    · obtain ⟨f, rfl⟩ : ∃ f, fuel = f + 1 := ⟨fuel - 1, by omega⟩; rw [wp_X2_addExtras_14]; unfold wb_X2_addExtras_14; dsimp only
      rw [show (10 : Int32) = nI 10 from rfl, nI_leI (by omega) (by omega)]
      refine ⟨fun z9 => absurd z9 (by omega), fun _ => ⟨ac, rac, fun _ => ?_⟩⟩
      rw [nac, nz_vp (by omega) (by decide), nI_clamp (n := a) (by omega), hz]
      refine ⟨by omega, fun o20 e20 _ => ⟨fun h9 => (by rw [e20] at h9; cases h9), fun b h9 _ => ?_⟩⟩
      rw [e20] at h9
      have e9 : z = b := Option.some.inj h9
      subst e9
      rw [has_0 hX (show a < 10 by omega)]
      have tXY := ht a (Nat.le_refl _) (by omega)
      have hY0 := has_0 hY (show a < 10 by omega)
      by_cases tb : X.testBit a = true
      · exact ⟨fun _ => skip f (by omega) (by rw [exF, if_neg (fun w => absurd (tXY.symm.trans tb) (hY0.mp w.2.1))]), fun h9 => absurd tb h9⟩
      · refine ⟨fun h9 => absurd tb h9, fun _ => ⟨M, μ, v, a, ⟨hw, hv, by omega, hA, hO a (by omega)⟩, ?_⟩⟩
        have y0 : hasF (nI Y) (nI a) = 0 := hY0.mpr (fun w => tb (tXY.trans w))
        rw [i67, i69, i70, i68, i66, i71]
        by_cases hd : hldB μ (274 + 510 * v + 150 + 36 * a) (hI S0 67 x) (hI S0 69 x) (hI S0 70 x) (hI S0 68 x) (hI S0 66 x) = true
        · rw [hd]
          refine ⟨fun _ => ⟨M, μ, v, a, ⟨hw, hv, by omega, hA⟩, fun S50 e50 S58 e58 => ?_⟩, fun z9 => absurd z9 (by decide)⟩
          have zx : z ≠ x := fun z9 => by have := hA.1; rw [z9, hc.1, hx] at this; exact absurd this (by decide)
          have c58 : c3 S0 S58 x [74, 75] := by rw [e58, e50]; exact (hc.up (by decide) _).up (by decide) _
          have a50 : hI S50 22 z = hI S 22 z := by rw [e50]; exact putI_a _ _ _ _ zx
          have a58 : hI S58 22 z = hI S50 22 z := by rw [e58]; exact putI_a _ _ _ _ zx
          have s22 : hI S58 22 z = μ (274 + 510 * v + 150 + 36 * a + 5) := a58.trans (a50.trans hA.2.2.2.2.1)
          have n74 : hI S58 74 x = m + (if μ (274 + 510 * v + 150 + 36 * a + 2) = 0 then μ (274 + 510 * v + 150 + 36 * a + 1) else if μ (274 + 510 * v + 150 + 36 * a + 2) = 1 then μ (274 + 510 * v + 150 + 36 * a + 1) * hI S0 67 x else pctF (hI S0 71 x) (μ (274 + 510 * v + 150 + 36 * a + 1))) := by
            rw [e58, putI_i _ _ _ (by decide), e50, putI_s, h74]
          have n75 : hI S58 75 x = c ||| (1 : Int32) <<< (nI a &&& 31) := by
            rw [e58, putI_s, e50, putI_i _ _ _ (by decide), h75]
          rw [s22, nI_1]
          rw [exF, if_pos ⟨e1, y0, hd⟩] at hP
          rcases (hw.acc hv (show a < 10 by omega)).2.2.2.2.2.1 with ee | ⟨cc, hcc, ee⟩
          · rw [ee] at hP ⊢
            rw [if_neg (ex_m1 (by omega)), Int32.or_zero] at hP
            refine ⟨fun _ v66 e66 => ?_, fun z9 => absurd (by decide) z9⟩
            subst e66
            exact ih (a + 1) f X Y _ _ S58 (by omega) (by omega) hX hY (fun b h1 h2 => ht b (by omega) h2) c58 n74 n75 hP
          · rw [ee] at hP ⊢
            rw [nz_lt0 (by omega)]
            obtain ⟨X1, Y1, hX1, hY1, eX, eY, h1⟩ := ex_ms (a := a) (c := cc) (by omega) hcc hX hY ht
            rw [eX]
            rw [eY] at hP
            refine ⟨fun z9 => z9.elim, fun _ v67 e67 v68 e68 => ?_⟩
            subst e67 e68
            exact ih (a + 1) f X1 Y1 _ _ S58 (by omega) (by omega) hX1 hY1 h1 c58 n74 n75 hP
        · rw [Bool.not_eq_true] at hd
          rw [hd]
          refine ⟨fun z9 => absurd rfl z9, fun _ => skip f (by omega) ?_⟩
          rw [exF, if_neg (fun w => absurd (hd.symm.trans w.2.2) (by decide))]
theorem k_X2_addExtras (l : Launch) (D : va_G) (T : Nat → ClassId) (x0 : Nat) (p0 : Nat) (S : HS) (e0 : (Nat → Prop)) (e1 : Nat → Int32) (e2 : Nat) (hx0 : hK S x0 = 3) (hp0 : hK S p0 = 10) (h : WF e1 ∧ e2 < 6 ∧ RelV S e0 p0 e1 e2 ∧ (∀ a, a < 10 → rwO e1 e2 a) ∧ (∀ b, hR S 61 x0 = some b → e0 b) ∧ (∀ b, hR S 62 x0 = some b → e0 b)) : CMv l yX2_addExtras (ws_X2_addExtras) rm_X2_addExtras D T [.ref x0, .ref p0] S 0 0 (fun S1 => (c3 S S1 x0 [74, 75] ∧ hI S1 74 x0 = (exF e1 e2 (hI S 67 x0) (hI S 69 x0) (hI S 70 x0) (hI S 68 x0) (hI S 66 x0) (hI S 71 x0) 10 0 0 0 0).1 ∧ hI S1 75 x0 = (exF e1 e2 (hI S 67 x0) (hI S 69 x0) (hI S 70 x0) (hI S 68 x0) (hI S 66 x0) (hI S 71 x0) 10 0 0 0 0).2)) := c_X2_addExtras l D T x0 p0 S hx0 hp0 _ <|
  (by
    obtain ⟨hw, hv, hV, hO, hMb, hMn⟩ := h
    unfold wp_X2_addExtras
    refine fun S2 e2' S9 e9 => ⟨20, ?_⟩
    have c9 : c3 S S9 x0 [74, 75] := by rw [e9, e2']; exact (c3.rf.up (by decide) _).up (by decide) _
    exact rl_ax hw hx0 hv hO hMb hMn hV 10 0 20 0 0 0 0 S9 (by omega) (by omega) (by decide) (by decide) (fun _ _ _ => rfl) c9 (by rw [e9, putI_i _ _ _ (by decide), e2', putI_s]) (by rw [e9, putI_s]) (fun S1 g1 g2 g3 => ⟨g1, g2, g3⟩))

end S_C1I
