section S_C1H
abbrev ws_X2_isRefusedForHandlings : List Cond := Cond.code yX2_isRefusedForHandlings cX2_isRefusedForHandlings 4 (some .boolean) :: W0
abbrev rm_X2_isRefusedForHandlings : Room := ({ frames := 1, cells := 0, slots := 0, locals := 22 } : Room)
def wb_X2_isRefusedForHandlings_14 (rec : Nat → Int32 → Int32 → Int32 → HS → Prop) (K45 : Nat → Int32 → Int32 → HS → Prop) (P : Int32 → HS → Prop) (x0 : Nat) (x1 : Int32) (x2 : Int32) (x3 : Int32) (S : HS) : Prop := ((hI S 60 x0) ≤ x3 → (K45 x0 x1 x2 S)) ∧ (¬ (hI S 60 x0) ≤ x3 → ((x3 = x1 → (∀ v4 : Int32, v4 = x3 + 1 → (rec x0 x1 x2 v4 S))) ∧ (¬ x3 = x1 → (∃ b6 : Nat, hR S 61 x0 = some b6 ∧ (hK S b6 = 27 → (vp_in x3 (hN S b6) ∧ (∀ o9 : Option Nat, o9 = hB S b6 (Int32.toNatClampNeg x3) → (∀ b, o9 = some b → hK S b = 6) → (∃ b10 : Nat, o9 = some b10 ∧ (hK S b10 = 6 → (∀ v12 : Int32, v12 = (x2 ||| (hI S 122 b10)) → (∀ v13 : Int32, v13 = x3 + 1 → (rec x0 x1 v12 v13 S))))))))))))
def wp_X2_isRefusedForHandlings_14 (K45 : Nat → Int32 → Int32 → HS → Prop) (P : Int32 → HS → Prop) : Nat → Nat → Int32 → Int32 → Int32 → HS → Prop
  | 0 => fun _ _ _ _ _ => False
  | n + 1 => fun x0 x1 x2 x3 S => wb_X2_isRefusedForHandlings_14 (wp_X2_isRefusedForHandlings_14 K45 P n) K45 P x0 x1 x2 x3 S
set_option maxRecDepth 100000 in
set_option maxHeartbeats 4000000 in
theorem t_X2_isRefusedForHandlings_14 {p : Program} {l : Launch} {e : Env} {s : State} {m : MethodId} {args : Array Value} {below : List Frame} {meth : Method} {c : Code} {D : va_G} {A : Nat → Prop} {T : Nat → ClassId} (C : GC p s m args meth c cX2_isRefusedForHandlings "FreightRater$Rating" (ws_X2_isRefusedForHandlings) 4 D A (zty T)) (E : GE T A s) (hr : meth.sig.returnType = (some .boolean)) (S0 : HS) (K45 : Nat → Int32 → Int32 → HS → Prop) (P : Int32 → HS → Prop) (hK45 : ∀ (x0 : Nat) (x1 : Int32) (x2 : Int32) (S : HS) (L : List Nat), wt S → hL S L → ext S0 S → (hK S x0 = 3) → K45 x0 x1 x2 S → GW p l e { rm_X2_isRefusedForHandlings with cells := 0, slots := 0 } s m args below meth c D A 4 0 0 (MQ below (va_Qi (fun v (u : HS × List Nat) => P v u.1 ∧ CO S0 u) (CE D T A) A) args s 0 0 A) (CW T S L) 0 0 45 [(0, .ref x0), (1, .int x1), (2, .int x2)] []) : ∀ (n : Nat) (x0 : Nat) (x1 : Int32) (x2 : Int32) (x3 : Int32) (S : HS) (L : List Nat), wt S → hL S L → ext S0 S → (hK S x0 = 3) → wp_X2_isRefusedForHandlings_14 K45 P n x0 x1 x2 x3 S → GW p l e { rm_X2_isRefusedForHandlings with cells := 0, slots := 0 } s m args below meth c D A 4 0 0 (MQ below (va_Qi (fun v (u : HS × List Nat) => P v u.1 ∧ CO S0 u) (CE D T A) A) args s 0 0 A) (CW T S L) 0 0 14 [(0, .ref x0), (1, .int x1), (2, .int x2), (3, .int x3)] [] := by
  have hW : ∀ {w : Cond}, w ∈ W0 → w.before args s = true := fun h => C.2.2.2.2.1 _ (List.mem_cons_of_mem _ h)
  intro n
  induction n with
  | zero => intro x0 x1 x2 x3 S L hw hL he hx0 h; exact h.elim
  | succ n ih =>
    intro x0 x1 x2 x3 S L hw hL he hx0 h
    replace h : wb_X2_isRefusedForHandlings_14 (wp_X2_isRefusedForHandlings_14 K45 P n) K45 P x0 x1 x2 x3 S := h
    unfold wb_X2_isRefusedForHandlings_14 at h
    refine g_iload_n C dX2_isRefusedForHandlings_14 rfl 3 rfl ?_
    refine g_aload_n C dX2_isRefusedForHandlings_15 rfl 0 rfl ?_
    refine gc_getI C iwx_X2 hL hx0 (by decide) (by decide) rfl 0 (by decide) (hW kw_134) rfl rfl rfl dX2_isRefusedForHandlings_16 ?_
    refine g_icmp_ge (tgt := 45) C dX2_isRefusedForHandlings_19 (by decide) (fun z2 => ?_) (fun z2 => ?_)
    · replace h := h.1 z2
      refine g_locals [0, 1, 2] rfl ?_
      exact hK45 x0 x1 x2 S L hw hL he hx0 h
    · replace h := h.2 z2
      refine g_iload_n C dX2_isRefusedForHandlings_22 rfl 3 rfl ?_
      refine g_iload_n C dX2_isRefusedForHandlings_23 rfl 1 rfl ?_
      refine g_icmp_eq (tgt := 39) C dX2_isRefusedForHandlings_24 (by decide) (fun z3 => ?_) (fun z3 => ?_)
      · replace h := h.1 z3
        obtain ⟨v4, ev4⟩ : ∃ y : Int32, y = x3 + 1 := ⟨_, rfl⟩
        replace h := h v4 ev4
        refine g_iinc (v := v4) (lv' := [(3, .int v4), (0, .ref x0), (1, .int x1), (2, .int x2)]) C dX2_isRefusedForHandlings_39 (j := 3) rfl (by rw [ev4]; rfl) (by decide) rfl ?_
        refine g_goto (tgt := 14) C dX2_isRefusedForHandlings_42 (by decide) ?_
        refine g_locals [1, 2, 3, 0] rfl ?_
        exact ih x0 x1 x2 v4 S L hw hL he hx0 h
      · replace h := h.2 z3
        refine g_iload_n C dX2_isRefusedForHandlings_27 rfl 2 rfl ?_
        refine g_aload_n C dX2_isRefusedForHandlings_28 rfl 0 rfl ?_
        refine gc_getR C hw iwx_X2 hL hx0 (by decide) (by decide) rfl 1 (by decide) (hW kw_135) rfl rfl rfl dX2_isRefusedForHandlings_29 (fun o5 eo5 ko5 => ?_)
        obtain ⟨b6, hb9, h⟩ := h
        have g7 : hK S b6 = 27 := ko5 b6 (eo5.trans hb9)
        replace h := h g7
        refine g_opt (eo5.trans hb9) ?_
        refine g_iload_n C dX2_isRefusedForHandlings_32 rfl 3 rfl ?_
        obtain ⟨g8, h⟩ := h
        refine gc_aald C hw hL g7 (by decide) rfl g8 dX2_isRefusedForHandlings_33 (fun o9 eo9 ko9 => ?_)
        replace h := h o9 eo9 ko9
        obtain ⟨b10, rfl, h⟩ := h
        have g11 : hK S b10 = 6 := ko9 b10 rfl
        replace h := h g11
        refine gc_getI C iwx_X5 hL g11 (by decide) (by decide) rfl 2 (by decide) (hW kw_1086) rfl rfl rfl dX2_isRefusedForHandlings_34 ?_
        refine g_ior C dX2_isRefusedForHandlings_37 ?_
        refine g_topi (fun v12 ev12 => ?_)
        replace h := h v12 ev12
        refine g_istore_n (lv' := [(2, .int v12), (0, .ref x0), (1, .int x1), (3, .int x3)]) C dX2_isRefusedForHandlings_38 rfl (by decide) rfl ?_
        obtain ⟨v13, ev13⟩ : ∃ y : Int32, y = x3 + 1 := ⟨_, rfl⟩
        replace h := h v13 ev13
        refine g_iinc (v := v13) (lv' := [(3, .int v13), (2, .int v12), (0, .ref x0), (1, .int x1)]) C dX2_isRefusedForHandlings_39 (j := 3) rfl (by rw [ev13]; rfl) (by decide) rfl ?_
        refine g_goto (tgt := 14) C dX2_isRefusedForHandlings_42 (by decide) ?_
        refine g_locals [2, 3, 1, 0] rfl ?_
        exact ih x0 x1 v12 v13 S L hw hL he hx0 h
def wb_X2_isRefusedForHandlings_2 (rec : Nat → Int32 → HS → Prop) (P : Int32 → HS → Prop) (x0 : Nat) (x1 : Int32) (S : HS) : Prop := ((hI S 60 x0) ≤ x1 → (P 0 S)) ∧ (¬ (hI S 60 x0) ≤ x1 → (∃ k93 : Nat, wp_X2_isRefusedForHandlings_14 (fun (y14_x0 : Nat) (y14_x1 : Int32) (y14_x2 : Int32) (Sy14_ : HS) => (hK Sy14_ y14_x0 = 3) → (∃ b16 : Nat, hR Sy14_ 61 y14_x0 = some b16 ∧ (hK Sy14_ b16 = 27 → (vp_in y14_x1 (hN Sy14_ b16) ∧ (∀ o19 : Option Nat, o19 = hB Sy14_ b16 (Int32.toNatClampNeg y14_x1) → (∀ b, o19 = some b → hK Sy14_ b = 6) → (∃ b20 : Nat, o19 = some b20 ∧ (hK Sy14_ b20 = 6 → (∀ v22 : Int32, v22 = (hI Sy14_ 122 b20) → (((hasF v22 0) = 0 → (((hasF v22 1) = 0 → (∀ v33 : Int32, v33 = y14_x1 + 1 → (rec y14_x0 v33 Sy14_))) ∧ (¬ (hasF v22 1) = 0 → (((hasF y14_x2 0) = 0 → (∀ v39 : Int32, v39 = y14_x1 + 1 → (rec y14_x0 v39 Sy14_))) ∧ (¬ (hasF y14_x2 0) = 0 → (∃ b41 : Nat, hR Sy14_ 62 y14_x0 = some b41 ∧ (hK Sy14_ b41 = 22 → (vp_in y14_x1 (hN Sy14_ b41) ∧ (∀ (v49 : Int32) (S44 : HS), ext Sy14_ S44 → (v49 = 1 ∧ S44 = putI (putI Sy14_ 63 y14_x0 8) 64 y14_x0 (hA Sy14_ b41 (Int32.toNatClampNeg y14_x1))) → (vz v49 ∧ P v49 S44)))))))))) ∧ (¬ (hasF v22 0) = 0 → ((¬ (hasF y14_x2 1) = 0 → (∃ b58 : Nat, hR Sy14_ 62 y14_x0 = some b58 ∧ (hK Sy14_ b58 = 22 → (vp_in y14_x1 (hN Sy14_ b58) ∧ (∀ (v66 : Int32) (S61 : HS), ext Sy14_ S61 → (v66 = 1 ∧ S61 = putI (putI Sy14_ 63 y14_x0 8) 64 y14_x0 (hA Sy14_ b58 (Int32.toNatClampNeg y14_x1))) → (vz v66 ∧ P v66 S61)))))) ∧ ((hasF y14_x2 1) = 0 → (((hasF v22 1) = 0 → (∀ v74 : Int32, v74 = y14_x1 + 1 → (rec y14_x0 v74 Sy14_))) ∧ (¬ (hasF v22 1) = 0 → (((hasF y14_x2 0) = 0 → (∀ v80 : Int32, v80 = y14_x1 + 1 → (rec y14_x0 v80 Sy14_))) ∧ (¬ (hasF y14_x2 0) = 0 → (∃ b82 : Nat, hR Sy14_ 62 y14_x0 = some b82 ∧ (hK Sy14_ b82 = 22 → (vp_in y14_x1 (hN Sy14_ b82) ∧ (∀ (v90 : Int32) (S85 : HS), ext Sy14_ S85 → (v90 = 1 ∧ S85 = putI (putI Sy14_ 63 y14_x0 8) 64 y14_x0 (hA Sy14_ b82 (Int32.toNatClampNeg y14_x1))) → (vz v90 ∧ P v90 S85))))))))))))))))))))) P k93 x0 x1 0 0 S))
def wp_X2_isRefusedForHandlings_2 (P : Int32 → HS → Prop) : Nat → Nat → Int32 → HS → Prop
  | 0 => fun _ _ _ => False
  | n + 1 => fun x0 x1 S => wb_X2_isRefusedForHandlings_2 (wp_X2_isRefusedForHandlings_2  P n)  P x0 x1 S
set_option maxRecDepth 100000 in
set_option maxHeartbeats 4000000 in
theorem t_X2_isRefusedForHandlings_2 {p : Program} {l : Launch} {e : Env} {s : State} {m : MethodId} {args : Array Value} {below : List Frame} {meth : Method} {c : Code} {D : va_G} {A : Nat → Prop} {T : Nat → ClassId} (C : GC p s m args meth c cX2_isRefusedForHandlings "FreightRater$Rating" (ws_X2_isRefusedForHandlings) 4 D A (zty T)) (E : GE T A s) (hr : meth.sig.returnType = (some .boolean)) (S0 : HS) (P : Int32 → HS → Prop) : ∀ (n : Nat) (x0 : Nat) (x1 : Int32) (S : HS) (L : List Nat), wt S → hL S L → ext S0 S → (hK S x0 = 3) → wp_X2_isRefusedForHandlings_2  P n x0 x1 S → GW p l e { rm_X2_isRefusedForHandlings with cells := 0, slots := 0 } s m args below meth c D A 4 0 0 (MQ below (va_Qi (fun v (u : HS × List Nat) => P v u.1 ∧ CO S0 u) (CE D T A) A) args s 0 0 A) (CW T S L) 0 0 2 [(0, .ref x0), (1, .int x1)] [] := by
  have hW : ∀ {w : Cond}, w ∈ W0 → w.before args s = true := fun h => C.2.2.2.2.1 _ (List.mem_cons_of_mem _ h)
  intro n
  induction n with
  | zero => intro x0 x1 S L hw hL he hx0 h; exact h.elim
  | succ n ih =>
    intro x0 x1 S L hw hL he hx0 h
    replace h : wb_X2_isRefusedForHandlings_2 (wp_X2_isRefusedForHandlings_2  P n)  P x0 x1 S := h
    unfold wb_X2_isRefusedForHandlings_2 at h
    refine g_iload_n C dX2_isRefusedForHandlings_2 rfl 1 rfl ?_
    refine g_aload_n C dX2_isRefusedForHandlings_3 rfl 0 rfl ?_
    refine gc_getI C iwx_X2 hL hx0 (by decide) (by decide) rfl 0 (by decide) (hW kw_134) rfl rfl rfl dX2_isRefusedForHandlings_4 ?_
    refine g_icmp_ge (tgt := 106) C dX2_isRefusedForHandlings_7 (by decide) (fun z1 => ?_) (fun z1 => ?_)
    · replace h := h.1 z1
      refine g_iconst (v := 0) C dX2_isRefusedForHandlings_106 (by decide) ?_
      exact gc_zret C vz0 hw hL he hr dX2_isRefusedForHandlings_107 h
    · replace h := h.2 z1
      refine g_iconst (v := 0) C dX2_isRefusedForHandlings_10 (by decide) ?_
      refine g_istore_n (lv' := [(2, .int 0), (0, .ref x0), (1, .int x1)]) C dX2_isRefusedForHandlings_11 rfl (by decide) rfl ?_
      refine g_iconst (v := 0) C dX2_isRefusedForHandlings_12 (by decide) ?_
      refine g_istore_n (lv' := [(3, .int 0), (2, .int 0), (0, .ref x0), (1, .int x1)]) C dX2_isRefusedForHandlings_13 rfl (by decide) rfl ?_
      refine g_locals [2, 3, 1, 0] rfl ?_
      obtain ⟨k93, h⟩ := h
      refine t_X2_isRefusedForHandlings_14 C E hr S0 _ P ?_ k93 x0 x1 0 0 S L hw hL he hx0 h
      · intro y14_x0 y14_x1 y14_x2 Sy14_ Ly14_ hwy14_ hLy14_ hey14_ hy14_x0 h
        replace h := h hy14_x0
        refine g_aload_n C dX2_isRefusedForHandlings_45 rfl 0 rfl ?_
        refine gc_getR C hwy14_ iwx_X2 hLy14_ hy14_x0 (by decide) (by decide) rfl 1 (by decide) (hW kw_135) rfl rfl rfl dX2_isRefusedForHandlings_46 (fun o15 eo15 ko15 => ?_)
        obtain ⟨b16, hb9, h⟩ := h
        have g17 : hK Sy14_ b16 = 27 := ko15 b16 (eo15.trans hb9)
        replace h := h g17
        refine g_opt (eo15.trans hb9) ?_
        refine g_iload_n C dX2_isRefusedForHandlings_49 rfl 1 rfl ?_
        obtain ⟨g18, h⟩ := h
        refine gc_aald C hwy14_ hLy14_ g17 (by decide) rfl g18 dX2_isRefusedForHandlings_50 (fun o19 eo19 ko19 => ?_)
        replace h := h o19 eo19 ko19
        obtain ⟨b20, rfl, h⟩ := h
        have g21 : hK Sy14_ b20 = 6 := ko19 b20 rfl
        replace h := h g21
        refine gc_getI C iwx_X5 hLy14_ g21 (by decide) (by decide) rfl 2 (by decide) (hW kw_1086) rfl rfl rfl dX2_isRefusedForHandlings_51 ?_
        refine g_topi (fun v22 ev22 => ?_)
        replace h := h v22 ev22
        refine g_istore_n (lv' := [(3, .int v22), (0, .ref y14_x0), (1, .int y14_x1), (2, .int y14_x2)]) C dX2_isRefusedForHandlings_54 rfl (by decide) rfl ?_
        refine g_iload_n C dX2_isRefusedForHandlings_55 rfl 0 rfl ?_
        refine g_iconst (v := 0) C dX2_isRefusedForHandlings_56 (by decide) ?_
        refine gc_calliSN (host := "FreightRater") C E hwy14_ hLy14_ [.int v22, .int 0] rfl (k_X10_isIn l D T v22 0 Sy14_ ) (w0_SN 2 E C.2.2.2.2.1 (by decide) kw_1204 kw_1 kw_1205 rfl rfl (by decide +kernel) ⟨Nat.le_of_ble_eq_true rfl, Nat.le_of_ble_eq_true rfl⟩) rfl (Nat.le_of_ble_eq_true rfl) (Nat.le_refl _) (Nat.le_refl _) (Nat.zero_le _) (Nat.zero_le _) dX2_isRefusedForHandlings_57 (fun v9 S9 L23 he9 hw9 hL9 hp => ?_)
        obtain ⟨hv9, hs9⟩ := hp
        replace hs9 := hs9.symm
        subst hs9
        replace hv9 := hv9.symm
        subst hv9
        have w26 := hL9
        refine g_if_eq (tgt := 71) C dX2_isRefusedForHandlings_60 (by decide) (fun z27 => ?_) (fun z27 => ?_)
        · replace h := h.1 z27
          refine g_iload_n C dX2_isRefusedForHandlings_71 rfl 0 rfl ?_
          refine g_iconst (v := 1) C dX2_isRefusedForHandlings_72 (by decide) ?_
          refine gc_calliSN (host := "FreightRater") C E hwy14_ w26 [.int v22, .int 1] rfl (k_X10_isIn l D T v22 1 Sy14_ ) (w0_SN 2 E C.2.2.2.2.1 (by decide) kw_1204 kw_1 kw_1205 rfl rfl (by decide +kernel) ⟨Nat.le_of_ble_eq_true rfl, Nat.le_of_ble_eq_true rfl⟩) rfl (Nat.le_of_ble_eq_true rfl) (Nat.le_refl _) (Nat.le_refl _) (Nat.zero_le _) (Nat.zero_le _) dX2_isRefusedForHandlings_73 (fun v9 S9 L28 he9 hw9 hL9 hp => ?_)
          obtain ⟨hv9, hs9⟩ := hp
          replace hs9 := hs9.symm
          subst hs9
          replace hv9 := hv9.symm
          subst hv9
          have w31 := hL9
          refine g_if_eq (tgt := 100) C dX2_isRefusedForHandlings_76 (by decide) (fun z32 => ?_) (fun z32 => ?_)
          · replace h := h.1 z32
            obtain ⟨v33, ev33⟩ : ∃ y : Int32, y = y14_x1 + 1 := ⟨_, rfl⟩
            replace h := h v33 ev33
            refine g_iinc (v := v33) (lv' := [(1, .int v33), (3, .int v22), (0, .ref y14_x0), (2, .int y14_x2)]) C dX2_isRefusedForHandlings_100 (j := 2) rfl (by rw [ev33]; rfl) (by decide) rfl ?_
            refine g_goto (tgt := 2) C dX2_isRefusedForHandlings_103 (by decide) ?_
            refine g_locals [2, 0] rfl ?_
            exact ih y14_x0 v33 Sy14_ L28 hwy14_ w31 hey14_ hy14_x0 h
          · replace h := h.2 z32
            refine g_iload_n C dX2_isRefusedForHandlings_79 rfl 3 rfl ?_
            refine g_iconst (v := 0) C dX2_isRefusedForHandlings_80 (by decide) ?_
            refine gc_calliSN (host := "FreightRater") C E hwy14_ w31 [.int y14_x2, .int 0] rfl (k_X10_isIn l D T y14_x2 0 Sy14_ ) (w0_SN 2 E C.2.2.2.2.1 (by decide) kw_1204 kw_1 kw_1205 rfl rfl (by decide +kernel) ⟨Nat.le_of_ble_eq_true rfl, Nat.le_of_ble_eq_true rfl⟩) rfl (Nat.le_of_ble_eq_true rfl) (Nat.le_refl _) (Nat.le_refl _) (Nat.zero_le _) (Nat.zero_le _) dX2_isRefusedForHandlings_81 (fun v9 S9 L34 he9 hw9 hL9 hp => ?_)
            obtain ⟨hv9, hs9⟩ := hp
            replace hs9 := hs9.symm
            subst hs9
            replace hv9 := hv9.symm
            subst hv9
            have w37 := hL9
            refine g_if_eq (tgt := 100) C dX2_isRefusedForHandlings_84 (by decide) (fun z38 => ?_) (fun z38 => ?_)
            · replace h := h.1 z38
              obtain ⟨v39, ev39⟩ : ∃ y : Int32, y = y14_x1 + 1 := ⟨_, rfl⟩
              replace h := h v39 ev39
              refine g_iinc (v := v39) (lv' := [(1, .int v39), (3, .int v22), (0, .ref y14_x0), (2, .int y14_x2)]) C dX2_isRefusedForHandlings_100 (j := 2) rfl (by rw [ev39]; rfl) (by decide) rfl ?_
              refine g_goto (tgt := 2) C dX2_isRefusedForHandlings_103 (by decide) ?_
              refine g_locals [2, 0] rfl ?_
              exact ih y14_x0 v39 Sy14_ L34 hwy14_ w37 hey14_ hy14_x0 h
            · replace h := h.2 z38
              refine g_aload_n C dX2_isRefusedForHandlings_87 rfl 1 rfl ?_
              refine g_bipush (v := 8) C dX2_isRefusedForHandlings_88 (by decide) ?_
              refine g_aload_n C dX2_isRefusedForHandlings_90 rfl 1 rfl ?_
              refine gc_getR C hwy14_ iwx_X2 w37 hy14_x0 (by decide) (by decide) rfl 2 (by decide) (hW kw_136) rfl rfl rfl dX2_isRefusedForHandlings_91 (fun o40 eo40 ko40 => ?_)
              obtain ⟨b41, hb9, h⟩ := h
              have g42 : hK Sy14_ b41 = 22 := ko40 b41 (eo40.trans hb9)
              replace h := h g42
              refine g_opt (eo40.trans hb9) ?_
              refine g_iload_n C dX2_isRefusedForHandlings_94 rfl 2 rfl ?_
              obtain ⟨g43, h⟩ := h
              refine gc_iald C w37 g42 g43 dX2_isRefusedForHandlings_95 ?_
              refine gc_calliV (host := "") C E hwy14_ w37 hy14_x0 (by decide) (by decide) rfl [.int 8, .int (hA Sy14_ b41 (Int32.toNatClampNeg y14_x1))] rfl (k_X2_refuse l D T y14_x0 8 (hA Sy14_ b41 (Int32.toNatClampNeg y14_x1)) Sy14_ hy14_x0) (w0_V 2 C.2.2.2.2.1 kw_1210 kw_1212 ks_29 kw_7 kw_1213 rfl rfl (by decide +kernel) ⟨Nat.le_of_ble_eq_true rfl, Nat.le_of_ble_eq_true rfl⟩) rfl (Nat.le_of_ble_eq_true rfl) (Nat.le_refl _) (Nat.le_refl _) (Nat.zero_le _) (Nat.zero_le _) dX2_isRefusedForHandlings_96 (fun v49 S44 L45 e46 w47 w48 hp => ?_)
              replace h := h v49 S44 e46 hp
              have g50 := ext_K e46 hy14_x0 (by decide)
              have w51 := ext_tr hey14_ e46
              exact gc_zret C h.1 w47 w48 w51 hr dX2_isRefusedForHandlings_99 h.2
        · replace h := h.2 z27
          refine g_iload_n C dX2_isRefusedForHandlings_63 rfl 3 rfl ?_
          refine g_iconst (v := 1) C dX2_isRefusedForHandlings_64 (by decide) ?_
          refine gc_calliSN (host := "FreightRater") C E hwy14_ w26 [.int y14_x2, .int 1] rfl (k_X10_isIn l D T y14_x2 1 Sy14_ ) (w0_SN 2 E C.2.2.2.2.1 (by decide) kw_1204 kw_1 kw_1205 rfl rfl (by decide +kernel) ⟨Nat.le_of_ble_eq_true rfl, Nat.le_of_ble_eq_true rfl⟩) rfl (Nat.le_of_ble_eq_true rfl) (Nat.le_refl _) (Nat.le_refl _) (Nat.zero_le _) (Nat.zero_le _) dX2_isRefusedForHandlings_65 (fun v9 S9 L52 he9 hw9 hL9 hp => ?_)
          obtain ⟨hv9, hs9⟩ := hp
          replace hs9 := hs9.symm
          subst hs9
          replace hv9 := hv9.symm
          subst hv9
          have w55 := hL9
          refine g_if_ne (tgt := 87) C dX2_isRefusedForHandlings_68 (by decide) (fun z56 => ?_) (fun z56 => ?_)
          · replace h := h.1 z56
            refine g_aload_n C dX2_isRefusedForHandlings_87 rfl 1 rfl ?_
            refine g_bipush (v := 8) C dX2_isRefusedForHandlings_88 (by decide) ?_
            refine g_aload_n C dX2_isRefusedForHandlings_90 rfl 1 rfl ?_
            refine gc_getR C hwy14_ iwx_X2 w55 hy14_x0 (by decide) (by decide) rfl 2 (by decide) (hW kw_136) rfl rfl rfl dX2_isRefusedForHandlings_91 (fun o57 eo57 ko57 => ?_)
            obtain ⟨b58, hb9, h⟩ := h
            have g59 : hK Sy14_ b58 = 22 := ko57 b58 (eo57.trans hb9)
            replace h := h g59
            refine g_opt (eo57.trans hb9) ?_
            refine g_iload_n C dX2_isRefusedForHandlings_94 rfl 2 rfl ?_
            obtain ⟨g60, h⟩ := h
            refine gc_iald C w55 g59 g60 dX2_isRefusedForHandlings_95 ?_
            refine gc_calliV (host := "") C E hwy14_ w55 hy14_x0 (by decide) (by decide) rfl [.int 8, .int (hA Sy14_ b58 (Int32.toNatClampNeg y14_x1))] rfl (k_X2_refuse l D T y14_x0 8 (hA Sy14_ b58 (Int32.toNatClampNeg y14_x1)) Sy14_ hy14_x0) (w0_V 2 C.2.2.2.2.1 kw_1210 kw_1212 ks_29 kw_7 kw_1213 rfl rfl (by decide +kernel) ⟨Nat.le_of_ble_eq_true rfl, Nat.le_of_ble_eq_true rfl⟩) rfl (Nat.le_of_ble_eq_true rfl) (Nat.le_refl _) (Nat.le_refl _) (Nat.zero_le _) (Nat.zero_le _) dX2_isRefusedForHandlings_96 (fun v66 S61 L62 e63 w64 w65 hp => ?_)
            replace h := h v66 S61 e63 hp
            have g67 := ext_K e63 hy14_x0 (by decide)
            have w68 := ext_tr hey14_ e63
            exact gc_zret C h.1 w64 w65 w68 hr dX2_isRefusedForHandlings_99 h.2
          · replace h := h.2 z56
            refine g_iload_n C dX2_isRefusedForHandlings_71 rfl 0 rfl ?_
            refine g_iconst (v := 1) C dX2_isRefusedForHandlings_72 (by decide) ?_
            refine gc_calliSN (host := "FreightRater") C E hwy14_ w55 [.int v22, .int 1] rfl (k_X10_isIn l D T v22 1 Sy14_ ) (w0_SN 2 E C.2.2.2.2.1 (by decide) kw_1204 kw_1 kw_1205 rfl rfl (by decide +kernel) ⟨Nat.le_of_ble_eq_true rfl, Nat.le_of_ble_eq_true rfl⟩) rfl (Nat.le_of_ble_eq_true rfl) (Nat.le_refl _) (Nat.le_refl _) (Nat.zero_le _) (Nat.zero_le _) dX2_isRefusedForHandlings_73 (fun v9 S9 L69 he9 hw9 hL9 hp => ?_)
            obtain ⟨hv9, hs9⟩ := hp
            replace hs9 := hs9.symm
            subst hs9
            replace hv9 := hv9.symm
            subst hv9
            have w72 := hL9
            refine g_if_eq (tgt := 100) C dX2_isRefusedForHandlings_76 (by decide) (fun z73 => ?_) (fun z73 => ?_)
            · replace h := h.1 z73
              obtain ⟨v74, ev74⟩ : ∃ y : Int32, y = y14_x1 + 1 := ⟨_, rfl⟩
              replace h := h v74 ev74
              refine g_iinc (v := v74) (lv' := [(1, .int v74), (3, .int v22), (0, .ref y14_x0), (2, .int y14_x2)]) C dX2_isRefusedForHandlings_100 (j := 2) rfl (by rw [ev74]; rfl) (by decide) rfl ?_
              refine g_goto (tgt := 2) C dX2_isRefusedForHandlings_103 (by decide) ?_
              refine g_locals [2, 0] rfl ?_
              exact ih y14_x0 v74 Sy14_ L69 hwy14_ w72 hey14_ hy14_x0 h
            · replace h := h.2 z73
              refine g_iload_n C dX2_isRefusedForHandlings_79 rfl 3 rfl ?_
              refine g_iconst (v := 0) C dX2_isRefusedForHandlings_80 (by decide) ?_
              refine gc_calliSN (host := "FreightRater") C E hwy14_ w72 [.int y14_x2, .int 0] rfl (k_X10_isIn l D T y14_x2 0 Sy14_ ) (w0_SN 2 E C.2.2.2.2.1 (by decide) kw_1204 kw_1 kw_1205 rfl rfl (by decide +kernel) ⟨Nat.le_of_ble_eq_true rfl, Nat.le_of_ble_eq_true rfl⟩) rfl (Nat.le_of_ble_eq_true rfl) (Nat.le_refl _) (Nat.le_refl _) (Nat.zero_le _) (Nat.zero_le _) dX2_isRefusedForHandlings_81 (fun v9 S9 L75 he9 hw9 hL9 hp => ?_)
              obtain ⟨hv9, hs9⟩ := hp
              replace hs9 := hs9.symm
              subst hs9
              replace hv9 := hv9.symm
              subst hv9
              have w78 := hL9
              refine g_if_eq (tgt := 100) C dX2_isRefusedForHandlings_84 (by decide) (fun z79 => ?_) (fun z79 => ?_)
              · replace h := h.1 z79
                obtain ⟨v80, ev80⟩ : ∃ y : Int32, y = y14_x1 + 1 := ⟨_, rfl⟩
                replace h := h v80 ev80
                refine g_iinc (v := v80) (lv' := [(1, .int v80), (3, .int v22), (0, .ref y14_x0), (2, .int y14_x2)]) C dX2_isRefusedForHandlings_100 (j := 2) rfl (by rw [ev80]; rfl) (by decide) rfl ?_
                refine g_goto (tgt := 2) C dX2_isRefusedForHandlings_103 (by decide) ?_
                refine g_locals [2, 0] rfl ?_
                exact ih y14_x0 v80 Sy14_ L75 hwy14_ w78 hey14_ hy14_x0 h
              · replace h := h.2 z79
                refine g_aload_n C dX2_isRefusedForHandlings_87 rfl 1 rfl ?_
                refine g_bipush (v := 8) C dX2_isRefusedForHandlings_88 (by decide) ?_
                refine g_aload_n C dX2_isRefusedForHandlings_90 rfl 1 rfl ?_
                refine gc_getR C hwy14_ iwx_X2 w78 hy14_x0 (by decide) (by decide) rfl 2 (by decide) (hW kw_136) rfl rfl rfl dX2_isRefusedForHandlings_91 (fun o81 eo81 ko81 => ?_)
                obtain ⟨b82, hb9, h⟩ := h
                have g83 : hK Sy14_ b82 = 22 := ko81 b82 (eo81.trans hb9)
                replace h := h g83
                refine g_opt (eo81.trans hb9) ?_
                refine g_iload_n C dX2_isRefusedForHandlings_94 rfl 2 rfl ?_
                obtain ⟨g84, h⟩ := h
                refine gc_iald C w78 g83 g84 dX2_isRefusedForHandlings_95 ?_
                refine gc_calliV (host := "") C E hwy14_ w78 hy14_x0 (by decide) (by decide) rfl [.int 8, .int (hA Sy14_ b82 (Int32.toNatClampNeg y14_x1))] rfl (k_X2_refuse l D T y14_x0 8 (hA Sy14_ b82 (Int32.toNatClampNeg y14_x1)) Sy14_ hy14_x0) (w0_V 2 C.2.2.2.2.1 kw_1210 kw_1212 ks_29 kw_7 kw_1213 rfl rfl (by decide +kernel) ⟨Nat.le_of_ble_eq_true rfl, Nat.le_of_ble_eq_true rfl⟩) rfl (Nat.le_of_ble_eq_true rfl) (Nat.le_refl _) (Nat.le_refl _) (Nat.zero_le _) (Nat.zero_le _) dX2_isRefusedForHandlings_96 (fun v90 S85 L86 e87 w88 w89 hp => ?_)
                replace h := h v90 S85 e87 hp
                have g91 := ext_K e87 hy14_x0 (by decide)
                have w92 := ext_tr hey14_ e87
                exact gc_zret C h.1 w88 w89 w92 hr dX2_isRefusedForHandlings_99 h.2
def wp_X2_isRefusedForHandlings (P : Int32 → HS → Prop) (x0 : Nat) (S : HS) : Prop := ∃ k94 : Nat, wp_X2_isRefusedForHandlings_2  P k94 x0 0 S
set_option maxRecDepth 100000 in
set_option maxHeartbeats 4000000 in
theorem t_X2_isRefusedForHandlings {p : Program} {l : Launch} {e : Env} {s : State} {m : MethodId} {args : Array Value} {below : List Frame} {meth : Method} {c : Code} {D : va_G} {A : Nat → Prop} {T : Nat → ClassId} (C : GC p s m args meth c cX2_isRefusedForHandlings "FreightRater$Rating" (ws_X2_isRefusedForHandlings) 4 D A (zty T)) (E : GE T A s) (hr : meth.sig.returnType = (some .boolean)) (P : Int32 → HS → Prop) : ∀ (x0 : Nat) (S0 S : HS) (L : List Nat), S0 = S → wt S → hL S L → (hK S x0 = 3) → wp_X2_isRefusedForHandlings P x0 S → GW p l e { rm_X2_isRefusedForHandlings with cells := 0, slots := 0 } s m args below meth c D A 4 0 0 (MQ below (va_Qi (fun v (u : HS × List Nat) => P v u.1 ∧ CO S0 u) (CE D T A) A) args s 0 0 A) (CW T S L) 0 0 0 [(0, .ref x0)] [] := by
  have hW : ∀ {w : Cond}, w ∈ W0 → w.before args s = true := fun h => C.2.2.2.2.1 _ (List.mem_cons_of_mem _ h)
  intro x0 S0 S L hS0 hw hL hx0 h
  have he : ext S0 S := by rw [hS0]; exact ext_rf
  unfold wp_X2_isRefusedForHandlings at h
  refine g_iconst (v := 0) C dX2_isRefusedForHandlings_0 (by decide) ?_
  refine g_istore_n (lv' := [(1, .int 0), (0, .ref x0)]) C dX2_isRefusedForHandlings_1 rfl (by decide) rfl ?_
  refine g_locals [1, 0] rfl ?_
  obtain ⟨k94, h⟩ := h
  refine t_X2_isRefusedForHandlings_2 C E hr S0  P  k94 x0 0 S L hw hL he hx0 h
theorem c_X2_isRefusedForHandlings (l : Launch) (D : va_G) (T : Nat → ClassId) (x0 : Nat) (S : HS) (hx0 : hK S x0 = 3) (P : Int32 → HS → Prop) (h : wp_X2_isRefusedForHandlings P x0 S) : CMi l yX2_isRefusedForHandlings (ws_X2_isRefusedForHandlings) rm_X2_isRefusedForHandlings D T [.ref x0] S 0 0 P := gc_meti (by decide) rfl rfl (Nat.le_of_ble_eq_true rfl) (fun p e s m args below meth c A L C E hnm hr hw hL => t_X2_isRefusedForHandlings C E   hr P x0 S S L rfl hw hL hx0 h)
theorem or_has {a b : Nat} (ha : a < 1024) (hb : b < 1024) {s : Nat} (hs : s < 10) : hasF (nI a ||| nI b) (nI s) = if a.testBit s = true ∨ b.testBit s = true then 1 else 0 := by
  rw [nI_or, has_tb (or_lt ha hb) hs, Nat.testBit_or]
  cases a.testBit s <;> cases b.testBit s <;> rfl
/-- the handlings of all members but the i-th: a bit is there if one of them has it -/
theorem orX_ok {μ : Nat → Int32} (hw : WF μ) {L : List Nat} (h10 : ∀ j, j < L.length → gl L j < 10) {i : Nat} : ∀ (k j X : Nat), j + k = L.length → X < 1024 → ∃ Y, Y < 1024 ∧ orX μ L i k j (nI X) = nI Y ∧ ∀ b, b < 10 → (Y.testBit b = true ↔ (X.testBit b = true ∨ ∃ m, j ≤ m ∧ m < L.length ∧ m ≠ i ∧ ¬ hasF (μ (14 + 26 * gl L m + 2)) (nI b) = 0)) := by
  intro k
  induction k with
  | zero => intro j X hj hX; exact ⟨X, hX, rfl, fun b _ => ⟨fun h => Or.inl h, fun h => h.elim id (fun ⟨m, h1, h2, _⟩ => by omega)⟩⟩
  | succ k ih =>
    intro j X hj hX
    rw [orX]
    obtain ⟨hd, hhd, ehd⟩ := (hw.s (h10 j (by omega))).1
    by_cases c : j = i
    · rw [if_pos c]
      obtain ⟨Y, h1, h2, h3⟩ := ih (j + 1) X (by omega) hX
      refine ⟨Y, h1, h2, fun b hb => (h3 b hb).trans ⟨fun h => h.imp id (fun ⟨m, g1, g2, g3, g4⟩ => ⟨m, by omega, g2, g3, g4⟩), fun h => h.imp id (fun ⟨m, g1, g2, g3, g4⟩ => ⟨m, by omega, g2, g3, g4⟩)⟩⟩
    · rw [if_neg c, ehd, nI_or]
      obtain ⟨Y, h1, h2, h3⟩ := ih (j + 1) (X ||| hd) (by omega) (or_lt hX (by omega))
      refine ⟨Y, h1, h2, fun b hb => (h3 b hb).trans ?_⟩
      have hh := has_0 (n := hd) (s := b) (by omega) hb
      rw [Nat.testBit_or, Bool.or_eq_true]
      constructor
      · rintro ((h | h) | ⟨m, g1, g2, g3, g4⟩)
        · exact Or.inl h
        · exact Or.inr ⟨j, Nat.le_refl _, by omega, c, by rw [ehd, hh]; exact fun w9 => w9 h⟩
        · exact Or.inr ⟨m, by omega, g2, g3, g4⟩
      · rintro (h | ⟨m, g1, g2, g3, g4⟩)
        · exact Or.inl (Or.inl h)
        · rcases Nat.eq_or_lt_of_le g1 with e9 | e9
          · subst e9
            rw [ehd, hh] at g4
            exact Or.inl (Or.inr (Decidable.byContradiction g4))
          · exact Or.inr ⟨m, by omega, g2, g3, g4⟩
theorem mem_gl {g : Nat} : ∀ k s t, (s ≤ t ∧ t < s + k ∧ g.testBit t = true) ↔ ∃ i, i < (memL g k s).length ∧ gl (memL g k s) i = t := by
  intro k
  induction k with
  | zero => intro s t; exact ⟨fun h => by omega, fun ⟨i, hi, _⟩ => absurd hi (Nat.not_lt_zero i)⟩
  | succ k ih =>
    intro s t
    rw [memL]
    by_cases c : g.testBit s = true
    · rw [if_pos c]
      constructor
      · rintro ⟨h1, h2, h3⟩
        rcases Nat.eq_or_lt_of_le h1 with e9 | e9
        · exact ⟨0, by rw [List.length_cons]; omega, by rw [gl_0]; exact e9⟩
        · obtain ⟨i, g1, g2⟩ := (ih (s + 1) t).mp ⟨by omega, by omega, h3⟩
          exact ⟨i + 1, by rw [List.length_cons]; omega, by rw [gl_c]; exact g2⟩
      · rintro ⟨i, hi, e⟩
        cases i with
        | zero => rw [gl_0] at e; subst e; exact ⟨Nat.le_refl _, by omega, c⟩
        | succ i =>
          rw [gl_c] at e
          rw [List.length_cons] at hi
          have := (ih (s + 1) t).mpr ⟨i, by omega, e⟩
          exact ⟨by omega, by omega, this.2.2⟩
    · rw [if_neg c]
      constructor
      · rintro ⟨h1, h2, h3⟩
        rcases Nat.eq_or_lt_of_le h1 with e9 | e9
        · subst e9; exact absurd h3 c
        · exact (ih (s + 1) t).mp ⟨by omega, by omega, h3⟩
      · rintro ⟨i, hi, e⟩
        have := (ih (s + 1) t).mpr ⟨i, hi, e⟩
        exact ⟨by omega, by omega, this.2.2⟩
theorem mem_inj {g : Nat} : ∀ k s i j, i < (memL g k s).length → j < (memL g k s).length → gl (memL g k s) i = gl (memL g k s) j → i = j := by
  intro k
  induction k with
  | zero => intro s i j hi; exact absurd hi (Nat.not_lt_zero i)
  | succ k ih =>
    intro s i j hi hj he
    rw [memL] at hi hj he
    by_cases c : g.testBit s = true
    · rw [if_pos c] at hi hj he
      rw [List.length_cons] at hi hj
      have ge : ∀ i, i < (memL g k (s + 1)).length → s + 1 ≤ gl (memL g k (s + 1)) i := fun i hi => ((mem_gl k (s + 1) _).mpr ⟨i, hi, rfl⟩).1
      cases i with
      | zero =>
        cases j with
        | zero => rfl
        | succ j => rw [gl_0, gl_c] at he; have := ge j (by omega); omega
      | succ i =>
        cases j with
        | zero => rw [gl_0, gl_c] at he; have := ge i (by omega); omega
        | succ j => rw [gl_c, gl_c] at he; have := ih (s + 1) i j (by omega) (by omega) he; omega
    · rw [if_neg c] at hi hj he
      exact ih (s + 1) i j hi hj he
theorem ho_i {μ : Nat → Int32} {g s : Nat} {h : Int32} : ∀ k o a, (hoFold μ g s h k o a = 0 ↔ (a = 0 ∧ ∀ t, o ≤ t → t < o + k → ¬ (¬ t = s ∧ g.testBit t = true ∧ ¬ hasF (μ (14 + 26 * t + 2)) h = 0))) := by
  intro k
  induction k with
  | zero => intro o a; exact ⟨fun h => ⟨h, fun t h1 h2 => by omega⟩, fun h => h.1⟩
  | succ k ih =>
    intro o a
    rw [hoFold, ih]
    by_cases c : ¬ o = s ∧ g.testBit o = true ∧ ¬ hasF (μ (14 + 26 * o + 2)) h = 0
    · rw [if_pos c]
      exact ⟨fun h9 => absurd h9.1 (by decide), fun h9 => absurd c (h9.2 o (Nat.le_refl _) (by omega))⟩
    · rw [if_neg c]
      refine ⟨fun h9 => ⟨h9.1, fun t h1 h2 => ?_⟩, fun h9 => ⟨h9.1, fun t h1 h2 => h9.2 t (by omega) (by omega)⟩⟩
      rcases Nat.eq_or_lt_of_le h1 with e9 | e9
      · subst e9; exact c
      · exact h9.2 t (by omega) (by omega)
/-- what the others have, by the class's row and by the reference -/
theorem ot_eq {μ : Nat → Int32} (hw : WF μ) {g ns i : Nat} (hg : g < 1024) (ens : μ 1 = nI ns) (hns : ns ≤ 10) (hi : i < (memL g ns 0).length) {b : Nat} (hb : b < 10) : (hasF (orX μ (memL g ns 0) i (memL g ns 0).length 0 0) (nI b) = 0 ↔ hoF μ g (gl (memL g ns 0) i) (nI b) = 0) := by
  have h10 : ∀ j, j < (memL g ns 0).length → gl (memL g ns 0) j < 10 := fun j hj => by
    have := (mem_gl ns 0 _).mpr ⟨j, hj, rfl⟩
    omega
  obtain ⟨Y, h1, h2, h3⟩ := orX_ok hw h10 (i := i) (memL g ns 0).length 0 0 (Nat.zero_add _) (by decide)
  have e0 : orX μ (memL g ns 0) i (memL g ns 0).length 0 0 = nI Y := h2
  rw [e0, has_0 h1 hb, h3 b hb]
  unfold hoF
  rw [ens, show iv (nI ns) = ns from nI_clamp (by omega), ho_i]
  constructor
  · intro h9
    refine ⟨rfl, fun t t1 t2 ht => h9 (Or.inr ?_)⟩
    obtain ⟨m, m1, m2⟩ := (mem_gl ns 0 t).mp ⟨t1, t2, ht.2.1⟩
    exact ⟨m, Nat.zero_le _, m1, fun z9 => ht.1 (by rw [← m2, z9]), by rw [m2]; exact ht.2.2⟩
  · rintro ⟨_, h9⟩ (h8 | ⟨m, _, m1, m2, m3⟩)
    · rw [Nat.zero_testBit] at h8; cases h8
    · obtain ⟨q1, q2, q3⟩ := (mem_gl ns 0 _).mpr ⟨m, m1, rfl⟩
      exact h9 _ (Nat.zero_le _) q2 ⟨fun z9 => m2 (mem_inj ns 0 m i m1 hi z9), q3, m3⟩
theorem rl_h14 {P : Int32 → HS → Prop} {K : Nat → Int32 → Int32 → HS → Prop} {S : HS} {M : Nat → Prop} {x i : Nat} {μ : Nat → Int32} {L : List Nat} (hR : RtM S M x μ L) (hi : i < 2 ^ 31) : ∀ (k j fuel : Nat) (h : Int32), j + k = L.length → k < fuel → K x (nI i) (orX μ L i k j h) S → wp_X2_isRefusedForHandlings_14 K P fuel x (nI i) h (nI j) S := by
  obtain ⟨mb, nb, r1, r2, n1, n2, hl, h60, hh⟩ := hR.mb
  intro k
  induction k with
  | zero =>
    intro j fuel h hj hf hK
    obtain ⟨f, rfl⟩ : ∃ f, fuel = f + 1 := ⟨fuel - 1, by omega⟩; rw [wp_X2_isRefusedForHandlings_14]; unfold wb_X2_isRefusedForHandlings_14; dsimp only
    rw [h60, nI_leI (by omega) (by omega)]
    exact ⟨fun _ => hK, fun z9 => absurd (by omega) z9⟩
  | succ k ih =>
    intro j fuel h hj hf hK
    obtain ⟨gj, _, z, hz, hzR⟩ := hh j (by omega)
    have e122 : hI S 122 z = μ (14 + 26 * gl L j + 2) := hzR.2.2.2.2.1
    rw [orX] at hK
    obtain ⟨f, rfl⟩ : ∃ f, fuel = f + 1 := ⟨fuel - 1, by omega⟩; rw [wp_X2_isRefusedForHandlings_14]; unfold wb_X2_isRefusedForHandlings_14; dsimp only
    rw [h60, nI_leI (by omega) (by omega), nI_eq (by omega) hi, nI_1]
    refine ⟨fun z9 => absurd z9 (by omega), fun _ => ⟨fun c v4 e4 => ?_, fun c => ⟨mb, r1, fun _ => ?_⟩⟩⟩
    · subst e4
      rw [if_pos c] at hK
      exact ih (j + 1) f h (by omega) (by omega) hK
    · rw [if_neg c] at hK
      rw [n1, nz_vp (by omega) (by decide), nI_clamp (n := j) (by omega), hz]
      refine ⟨by omega, fun o9 e9 _ => ⟨z, e9, fun _ v12 e12 v13 e13 => ?_⟩⟩
      rw [e122] at e12
      subst e12 e13
      exact ih (j + 1) f _ (by omega) (by omega) hK
theorem rl_h2 {P : Int32 → HS → Prop} {S : HS} {M : Nat → Prop} {x g ns : Nat} {μ : Nat → Int32} (hw : WF μ) (hg : g < 1024) (ens : μ 1 = nI ns) (hns : ns ≤ 10) (hRM : RtM S M x μ (memL g ns 0)) : ∀ (k i fuel : Nat), i + k = (memL g ns 0).length → k < fuel → (∀ s, fiX μ 0 8 g (memL g ns 0) k i = some s → ∀ S1, S1 = putI (putI S 63 x 8) 64 x (nI s) → P 1 S1) → (fiX μ 0 8 g (memL g ns 0) k i = none → P 0 S) → wp_X2_isRefusedForHandlings_2 P fuel x (nI i) S := by
  obtain ⟨mb, nb, r1, r2, n1, n2, hl, h60, hh⟩ := hRM.mb
  intro k
  induction k with
  | zero =>
    intro i fuel hi hf hSS hNN
    obtain ⟨f, rfl⟩ : ∃ f, fuel = f + 1 := ⟨fuel - 1, by omega⟩; rw [wp_X2_isRefusedForHandlings_2]; unfold wb_X2_isRefusedForHandlings_2; dsimp only
    rw [h60, nI_leI (by omega) (by omega)]
    exact ⟨fun _ => hNN rfl, fun z9 => absurd (by omega) z9⟩
  | succ k ih =>
    intro i fuel hi hf hSS hNN
    obtain ⟨gi, ha, z, hz, hzR⟩ := hh i (by omega)
    have e122 : hI S 122 z = μ (14 + 26 * gl (memL g ns 0) i + 2) := hzR.2.2.2.2.1
    have o0 := ot_eq hw hg ens hns (i := i) (by omega) (b := 0) (by decide)
    have o1 := ot_eq hw hg ens hns (i := i) (by omega) (b := 1) (by decide)
    have er : rsF μ 0 8 g (gl (memL g ns 0) i) = clF μ g (gl (memL g ns 0) i) := by unfold rsF; rw [if_neg (by decide), if_neg (by decide), if_neg (by decide), if_neg (by decide)]
    rw [fiX, er] at hSS hNN
    have hit : ∀ (P1 : Prop), (¬ hasF (μ (14 + 26 * gl (memL g ns 0) i + 2)) 0 = 0 ∧ ¬ hoF μ g (gl (memL g ns 0) i) 1 = 0) ∨ (¬ hasF (μ (14 + 26 * gl (memL g ns 0) i + 2)) 1 = 0 ∧ ¬ hoF μ g (gl (memL g ns 0) i) 0 = 0) → ∃ b58 : Nat, hR S 62 x = some b58 ∧ (hK S b58 = 22 → (vp_in (nI i) (hN S b58) ∧ (∀ (v66 : Int32) (S61 : HS), ext S S61 → (v66 = 1 ∧ S61 = putI (putI S 63 x 8) 64 x (hA S b58 i)) → (vz v66 ∧ P v66 S61)))) := fun _ hc => by
      have hcl : clF μ g (gl (memL g ns 0) i) = 1 := by unfold clF; rw [if_pos hc]
      rw [hcl, if_pos (by decide)] at hSS
      refine ⟨nb, r2, fun _ => ?_⟩
      rw [n2, nz_vp (by omega) (by decide), ha]
      refine ⟨by omega, fun v66 S61 _ hp => ?_⟩
      rw [hp.1]
      exact ⟨vz1, hSS _ rfl S61 hp.2⟩
    have miss : ¬ ((¬ hasF (μ (14 + 26 * gl (memL g ns 0) i + 2)) 0 = 0 ∧ ¬ hoF μ g (gl (memL g ns 0) i) 1 = 0) ∨ (¬ hasF (μ (14 + 26 * gl (memL g ns 0) i + 2)) 1 = 0 ∧ ¬ hoF μ g (gl (memL g ns 0) i) 0 = 0)) → ∀ v : Int32, v = nI i + 1 → ∀ f, k < f → wp_X2_isRefusedForHandlings_2 P f x v S := fun hc v e f hf => by
      rw [nI_1] at e
      subst e
      have hcl : clF μ g (gl (memL g ns 0) i) = 0 := by unfold clF; rw [if_neg hc]
      rw [hcl, if_neg (fun w9 => w9 rfl)] at hSS hNN
      exact ih (i + 1) f (by omega) hf hSS hNN
    obtain ⟨f, rfl⟩ : ∃ f, fuel = f + 1 := ⟨fuel - 1, by omega⟩; rw [wp_X2_isRefusedForHandlings_2]; unfold wb_X2_isRefusedForHandlings_2; dsimp only
    rw [h60, nI_leI (by omega) (by omega)]
    refine ⟨fun z9 => absurd z9 (by omega), fun _ => ⟨20, rl_h14 hRM (by omega) (memL g ns 0).length 0 20 0 (by omega) (by omega) (fun _ => ⟨mb, r1, fun _ => ?_⟩)⟩⟩
    rw [n1, nz_vp (by omega) (by decide), nI_clamp (n := i) (by omega), hz]
    refine ⟨by omega, fun o19 e19 _ => ⟨z, e19, fun _ v22 e22 => ?_⟩⟩
    rw [e122] at e22
    subst e22
    have O0 : (hasF (orX μ (memL g ns 0) i (memL g ns 0).length 0 0) 0 = 0) = (hoF μ g (gl (memL g ns 0) i) 0 = 0) := propext o0
    have O1 : (hasF (orX μ (memL g ns 0) i (memL g ns 0).length 0 0) 1 = 0) = (hoF μ g (gl (memL g ns 0) i) 1 = 0) := propext o1
    rw [O0, O1]
    refine ⟨fun c0 => ⟨fun c1 v e => miss (fun w9 => w9.elim (fun w => w.1 c0) (fun w => w.1 c1)) v e f (by omega), fun c1 => ⟨fun c2 v e => miss (fun w9 => w9.elim (fun w => w.1 c0) (fun w => w.2 c2)) v e f (by omega), fun c2 => hit True (Or.inr ⟨c1, c2⟩)⟩⟩, fun c0 => ⟨fun c1 => hit True (Or.inl ⟨c0, c1⟩), fun c1 => ⟨fun c2 v e => miss (fun w9 => w9.elim (fun w => w.2 c1) (fun w => w.1 c2)) v e f (by omega), fun c2 => ⟨fun c3 v e => miss (fun w9 => w9.elim (fun w => w.2 c1) (fun w => w.2 c3)) v e f (by omega), fun c3 => hit True (Or.inr ⟨c2, c3⟩)⟩⟩⟩⟩
theorem k_X2_isRefusedForHandlings (l : Launch) (D : va_G) (T : Nat → ClassId) (x0 : Nat) (S : HS) (e0 : (Nat → Prop)) (e1 : Nat → Int32) (e2 : List Nat) (e3 : Nat) (hx0 : hK S x0 = 3) (h : WF e1 ∧ RtM S e0 x0 e1 e2 ∧ (∀ b, hR S 62 x0 = some b → e0 b) ∧ 0 < e2.length ∧ gl e2 0 = lowN e3 ∧ ∃ ns, e1 1 = nI ns ∧ ns ≤ 10 ∧ e3 < 1024 ∧ e2 = memL e3 ns 0) : CMi l yX2_isRefusedForHandlings (ws_X2_isRefusedForHandlings) rm_X2_isRefusedForHandlings D T [.ref x0] S 0 0 (fun v S1 => (c3 S S1 x0 [63, 64] ∧ (∀ s, fiX e1 0 8 e3 e2 e2.length 0 = some s → v = 1 ∧ hI S1 63 x0 = 8 ∧ hI S1 64 x0 = nI s) ∧ (fiX e1 0 8 e3 e2 e2.length 0 = none → v = 0 ∧ S1 = S))) := c_X2_isRefusedForHandlings l D T x0 S hx0 _ <|
  (by
    obtain ⟨⟨hw, hR, hM, h0, hlow⟩, ns, ens, hns, hg, hL⟩ : (WF e1 ∧ RtM S e0 x0 e1 e2 ∧ (∀ b, hR S 62 x0 = some b → e0 b) ∧ 0 < e2.length ∧ gl e2 0 = lowN e3) ∧ ∃ ns, e1 1 = nI ns ∧ ns ≤ 10 ∧ e3 < 1024 ∧ e2 = memL e3 ns 0 := ⟨⟨h.1, h.2.1, h.2.2.1, h.2.2.2.1, h.2.2.2.2.1⟩, h.2.2.2.2.2⟩
    subst hL
    have hl := memL_le (g := e3) ns 0
    unfold wp_X2_isRefusedForHandlings
    refine ⟨20, rl_h2 hw hg ens hns hR (memL e3 ns 0).length 0 20 (by omega) (by omega) (fun s hs S1 e1' => ?_) (fun hn => ⟨c3.rf, fun s hs => (by rw [hn] at hs; cases hs), fun _ => ⟨rfl, rfl⟩⟩)⟩
    obtain ⟨d1, d2, d4⟩ := rf_c3 (L := [63, 64]) (by decide) (by decide) e1'
    refine ⟨d1, fun s' hs' => ?_, fun z9 => (by rw [z9] at hs; cases hs)⟩
    rw [hs] at hs'
    have e9 : s = s' := Option.some.inj hs'
    subst e9
    exact ⟨rfl, d2, d4⟩)
abbrev ws_X2_addUp : List Cond := Cond.code yX2_addUp cX2_addUp 6 none :: W0
abbrev rm_X2_addUp : Room := ({ frames := 1, cells := 0, slots := 0, locals := 23 } : Room)
def wb_X2_addUp_22 (rec : Nat → Nat → Int32 → Int32 → Int32 → HS → Prop) (P : HS → Prop) (x0 : Nat) (x1 : Nat) (x2 : Int32) (x3 : Int32) (x4 : Int32) (S : HS) : Prop := ((hI S 60 x0) ≤ x4 → (∀ S24 : HS, S24 = putI S 67 x0 (if x2 < x3 then x3 else x2) → (P S24))) ∧ (¬ (hI S 60 x0) ≤ x4 → (∃ b31 : Nat, hR S 61 x0 = some b31 ∧ (hK S b31 = 27 → (vp_in x4 (hN S b31) ∧ (∀ o34 : Option Nat, o34 = hB S b31 (Int32.toNatClampNeg x4) → (∀ b, o34 = some b → hK S b = 6) → (∃ b35 : Nat, o34 = some b35 ∧ (hK S b35 = 6 → (∀ v37 : Int32, v37 = (x2 + (hI S 126 b35)) → (∃ (m38 : (Nat → Prop)) (m39 : Nat → Int32) (m40 : Nat), ((WF m39 ∧ m40 < 10 ∧ RelS S m38 b35 m39 m40 ∧ ∃ d : Nat, 1 ≤ d ∧ d ≤ 9999 ∧ (hI S 206 x1) = nI d) ∧ (∀ v46 : Int32, v46 = (x3 + (dimF m39 m40 (hI S 206 x1))) → (∀ S48 : HS, S48 = putI S 68 x0 ((hI S 68 x0) ||| (hI S 122 b35)) → (∀ S56 : HS, S56 = putI S48 69 x0 ((hI S48 69 x0) + (hI S48 124 b35)) → (∀ S64 : HS, S64 = putI S56 70 x0 (if (hI S56 70 x0) < (hI S56 127 b35) then (hI S56 127 b35) else (hI S56 70 x0)) → (∀ v71 : Int32, v71 = x4 + 1 → (rec x0 x1 v37 v46 v71 S64))))))))))))))))
def wp_X2_addUp_22 (P : HS → Prop) : Nat → Nat → Nat → Int32 → Int32 → Int32 → HS → Prop
  | 0 => fun _ _ _ _ _ _ => False
  | n + 1 => fun x0 x1 x2 x3 x4 S => wb_X2_addUp_22 (wp_X2_addUp_22  P n)  P x0 x1 x2 x3 x4 S
set_option maxRecDepth 100000 in
set_option maxHeartbeats 4000000 in
theorem t_X2_addUp_22 {p : Program} {l : Launch} {e : Env} {s : State} {m : MethodId} {args : Array Value} {below : List Frame} {meth : Method} {c : Code} {D : va_G} {A : Nat → Prop} {T : Nat → ClassId} (C : GC p s m args meth c cX2_addUp "FreightRater$Rating" (ws_X2_addUp) 6 D A (zty T)) (E : GE T A s) (hr : meth.sig.returnType = none) (S0 : HS) (P : HS → Prop) : ∀ (n : Nat) (x0 : Nat) (x1 : Nat) (x2 : Int32) (x3 : Int32) (x4 : Int32) (S : HS) (L : List Nat), wt S → hL S L → ext S0 S → (hK S x0 = 3) → (hK S x1 = 10) → wp_X2_addUp_22  P n x0 x1 x2 x3 x4 S → GW p l e { rm_X2_addUp with cells := 0, slots := 0 } s m args below meth c D A 6 0 0 (MQ below (va_Qv (fun (u : HS × List Nat) => P u.1 ∧ CO S0 u) (CE D T A) A) args s 0 0 A) (CW T S L) 0 0 22 [(0, .ref x0), (1, .ref x1), (2, .int x2), (3, .int x3), (4, .int x4)] [] := by
  have hW : ∀ {w : Cond}, w ∈ W0 → w.before args s = true := fun h => C.2.2.2.2.1 _ (List.mem_cons_of_mem _ h)
  intro n
  induction n with
  | zero => intro x0 x1 x2 x3 x4 S L hw hL he hx0 hx1 h; exact h.elim
  | succ n ih =>
    intro x0 x1 x2 x3 x4 S L hw hL he hx0 hx1 h
    replace h : wb_X2_addUp_22 (wp_X2_addUp_22  P n)  P x0 x1 x2 x3 x4 S := h
    unfold wb_X2_addUp_22 at h
    refine g_iload C dX2_addUp_22 4 rfl ?_
    refine g_aload_n C dX2_addUp_24 rfl 0 rfl ?_
    refine gc_getI C iwx_X2 hL hx0 (by decide) (by decide) rfl 0 (by decide) (hW kw_134) rfl rfl rfl dX2_addUp_25 ?_
    refine g_icmp_ge (tgt := 110) C dX2_addUp_28 (by decide) (fun z22 => ?_) (fun z22 => ?_)
    · replace h := h.1 z22
      refine g_aload_n C dX2_addUp_110 rfl 0 rfl ?_
      refine g_iload_n C dX2_addUp_111 rfl 2 rfl ?_
      refine g_iload_n C dX2_addUp_112 rfl 3 rfl ?_
      refine g_mmax C (hW kw_1233) (hW kw_626) (hW kw_18) (hW kw_627) (Nat.le_of_ble_eq_true rfl) (Nat.le_of_ble_eq_true rfl) (Nat.le_refl _) (Nat.le_refl _) dX2_addUp_113 ?_
      refine gc_putI C iwx_X2 hL hx0 (by decide) (by decide) rfl 7 (by decide) (hW kw_148) rfl tyX2 tyX2_ok nmX2 rfl rfl rfl rfl rfl dX2_addUp_116 ?_
      have w23 := wt_putI hw 67 (if x2 < x3 then x3 else x2) (k_ne hx0 (by decide))
      refine gc_nS (fun S24 eS24 => ?_)
      replace h := h S24 eS24
      have w25 : wt S24 := by rw [eS24]; exact w23
      have w26 : isL S24 L := by rw [eS24]; exact hL
      have w27 : ext S0 S24 := by rw [eS24]; exact he
      have g28 : hK S24 x0 = 3 := by rw [eS24]; exact hx0
      have g29 : hK S24 x1 = 10 := by rw [eS24]; exact hx1
      exact gc_vret C w25 w26 w27 hr dX2_addUp_119 h
    · replace h := h.2 z22
      refine g_aload_n C dX2_addUp_31 rfl 0 rfl ?_
      refine gc_getR C hw iwx_X2 hL hx0 (by decide) (by decide) rfl 1 (by decide) (hW kw_135) rfl rfl rfl dX2_addUp_32 (fun o30 eo30 ko30 => ?_)
      obtain ⟨b31, hb9, h⟩ := h
      have g32 : hK S b31 = 27 := ko30 b31 (eo30.trans hb9)
      replace h := h g32
      refine g_opt (eo30.trans hb9) ?_
      refine g_iload C dX2_addUp_35 4 rfl ?_
      obtain ⟨g33, h⟩ := h
      refine gc_aald C hw hL g32 (by decide) rfl g33 dX2_addUp_37 (fun o34 eo34 ko34 => ?_)
      replace h := h o34 eo34 ko34
      refine g_qstore (lv' := [(5, va_rf o34), (0, .ref x0), (1, .ref x1), (2, .int x2), (3, .int x3), (4, .int x4)]) C dX2_addUp_38 (by decide) rfl ?_
      refine g_iload_n C dX2_addUp_40 rfl 3 rfl ?_
      refine g_qload C dX2_addUp_41 0 rfl ?_
      obtain ⟨b35, rfl, h⟩ := h
      have g36 : hK S b35 = 6 := ko34 b35 rfl
      replace h := h g36
      refine gc_getI C iwx_X5 hL g36 (by decide) (by decide) rfl 6 (by decide) (hW kw_1096) rfl rfl rfl dX2_addUp_43 ?_
      refine g_iadd C dX2_addUp_46 ?_
      refine g_topi (fun v37 ev37 => ?_)
      replace h := h v37 ev37
      refine g_istore_n (lv' := [(2, .int v37), (5, .ref b35), (0, .ref x0), (1, .ref x1), (3, .int x3), (4, .int x4)]) C dX2_addUp_47 rfl (by decide) rfl ?_
      refine g_iload_n C dX2_addUp_48 rfl 4 rfl ?_
      refine g_aload C dX2_addUp_49 1 rfl ?_
      refine g_aload_n C dX2_addUp_51 rfl 3 rfl ?_
      refine gc_getI C iwx_X9 hL hx1 (by decide) (by decide) rfl 6 (by decide) (hW kw_425) rfl rfl rfl dX2_addUp_52 ?_
      obtain ⟨m38, m39, m40, h⟩ := h
      obtain ⟨g41, h⟩ := h
      refine gc_calliV (host := "") C E hw hL g36 (by decide) (by decide) rfl [.int (hI S 206 x1)] rfl (k_X5_dimensionalWeight l D T b35 (hI S 206 x1) S m38 m39 m40 g36 g41) (w0_V 1 C.2.2.2.2.1 kw_1229 kw_1230 kw_1231 kw_35 kw_1232 rfl rfl (by decide +kernel) ⟨Nat.le_of_ble_eq_true rfl, Nat.le_of_ble_eq_true rfl⟩) rfl (Nat.le_of_ble_eq_true rfl) (Nat.le_refl _) (Nat.le_refl _) (Nat.zero_le _) (Nat.zero_le _) dX2_addUp_55 (fun v9 S9 L42 he9 hw9 hL9 hp => ?_)
      obtain ⟨hv9, hs9⟩ := hp
      replace hs9 := hs9.symm
      subst hs9
      replace hv9 := hv9.symm
      subst hv9
      have w45 := hL9
      refine g_iadd C dX2_addUp_58 ?_
      refine g_topi (fun v46 ev46 => ?_)
      replace h := h v46 ev46
      refine g_istore_n (lv' := [(3, .int v46), (2, .int v37), (5, .ref b35), (0, .ref x0), (1, .ref x1), (4, .int x4)]) C dX2_addUp_59 rfl (by decide) rfl ?_
      refine g_aload_n C dX2_addUp_60 rfl 3 rfl ?_
      refine g_dup C dX2_addUp_61 rfl ?_
      refine gc_getI C iwx_X2 w45 hx0 (by decide) (by decide) rfl 8 (by decide) (hW kw_151) rfl rfl rfl dX2_addUp_62 ?_
      refine g_aload C dX2_addUp_65 2 rfl ?_
      refine gc_getI C iwx_X5 w45 g36 (by decide) (by decide) rfl 2 (by decide) (hW kw_1086) rfl rfl rfl dX2_addUp_67 ?_
      refine g_ior C dX2_addUp_70 ?_
      refine gc_putI C iwx_X2 w45 hx0 (by decide) (by decide) rfl 8 (by decide) (hW kw_151) rfl tyX2 tyX2_ok nmX2 rfl rfl rfl rfl rfl dX2_addUp_71 ?_
      have w47 := wt_putI hw 68 ((hI S 68 x0) ||| (hI S 122 b35)) (k_ne hx0 (by decide))
      refine gc_nS (fun S48 eS48 => ?_)
      replace h := h S48 eS48
      have w49 : wt S48 := by rw [eS48]; exact w47
      have w50 : isL S48 L42 := by rw [eS48]; exact w45
      have w51 : ext S0 S48 := by rw [eS48]; exact he
      have g52 : hK S48 b35 = 6 := by rw [eS48]; exact g36
      have g53 : hK S48 x0 = 3 := by rw [eS48]; exact hx0
      have g54 : hK S48 x1 = 10 := by rw [eS48]; exact hx1
      refine g_aload_n C dX2_addUp_74 rfl 3 rfl ?_
      refine g_dup C dX2_addUp_75 rfl ?_
      refine gc_getI C iwx_X2 w50 g53 (by decide) (by decide) rfl 9 (by decide) (hW kw_153) rfl rfl rfl dX2_addUp_76 ?_
      refine g_aload C dX2_addUp_79 2 rfl ?_
      refine gc_getI C iwx_X5 w50 g52 (by decide) (by decide) rfl 4 (by decide) (hW kw_1092) rfl rfl rfl dX2_addUp_81 ?_
      refine g_iadd C dX2_addUp_84 ?_
      refine gc_putI C iwx_X2 w50 g53 (by decide) (by decide) rfl 9 (by decide) (hW kw_153) rfl tyX2 tyX2_ok nmX2 rfl rfl rfl rfl rfl dX2_addUp_85 ?_
      have w55 := wt_putI w49 69 ((hI S48 69 x0) + (hI S48 124 b35)) (k_ne g53 (by decide))
      refine gc_nS (fun S56 eS56 => ?_)
      replace h := h S56 eS56
      have w57 : wt S56 := by rw [eS56]; exact w55
      have w58 : isL S56 L42 := by rw [eS56]; exact w50
      have w59 : ext S0 S56 := by rw [eS56]; exact w51
      have g60 : hK S56 b35 = 6 := by rw [eS56]; exact g52
      have g61 : hK S56 x0 = 3 := by rw [eS56]; exact g53
      have g62 : hK S56 x1 = 10 := by rw [eS56]; exact g54
      refine g_aload_n C dX2_addUp_88 rfl 3 rfl ?_
      refine g_aload_n C dX2_addUp_89 rfl 3 rfl ?_
      refine gc_getI C iwx_X2 w58 g61 (by decide) (by decide) rfl 10 (by decide) (hW kw_155) rfl rfl rfl dX2_addUp_90 ?_
      refine g_aload C dX2_addUp_93 2 rfl ?_
      refine gc_getI C iwx_X5 w58 g60 (by decide) (by decide) rfl 7 (by decide) (hW kw_1099) rfl rfl rfl dX2_addUp_95 ?_
      refine g_mmax C (hW kw_1233) (hW kw_626) (hW kw_18) (hW kw_627) (Nat.le_of_ble_eq_true rfl) (Nat.le_of_ble_eq_true rfl) (Nat.le_refl _) (Nat.le_refl _) dX2_addUp_98 ?_
      refine gc_putI C iwx_X2 w58 g61 (by decide) (by decide) rfl 10 (by decide) (hW kw_155) rfl tyX2 tyX2_ok nmX2 rfl rfl rfl rfl rfl dX2_addUp_101 ?_
      have w63 := wt_putI w57 70 (if (hI S56 70 x0) < (hI S56 127 b35) then (hI S56 127 b35) else (hI S56 70 x0)) (k_ne g61 (by decide))
      refine gc_nS (fun S64 eS64 => ?_)
      replace h := h S64 eS64
      have w65 : wt S64 := by rw [eS64]; exact w63
      have w66 : isL S64 L42 := by rw [eS64]; exact w58
      have w67 : ext S0 S64 := by rw [eS64]; exact w59
      have g68 : hK S64 b35 = 6 := by rw [eS64]; exact g60
      have g69 : hK S64 x0 = 3 := by rw [eS64]; exact g61
      have g70 : hK S64 x1 = 10 := by rw [eS64]; exact g62
      obtain ⟨v71, ev71⟩ : ∃ y : Int32, y = x4 + 1 := ⟨_, rfl⟩
      replace h := h v71 ev71
      refine g_iinc (v := v71) (lv' := [(4, .int v71), (3, .int v46), (2, .int v37), (5, .ref b35), (0, .ref x0), (1, .ref x1)]) C dX2_addUp_104 (j := 5) rfl (by rw [ev71]; rfl) (by decide) rfl ?_
      refine g_goto (tgt := 22) C dX2_addUp_107 (by decide) ?_
      refine g_locals [4, 5, 2, 1, 0] rfl ?_
      exact ih x0 x1 v37 v46 v71 S64 L42 w65 w66 w67 g69 g70 h
def wp_X2_addUp (P : HS → Prop) (x0 : Nat) (p0 : Nat) (S : HS) : Prop := ∀ S2 : HS, S2 = putI S 68 x0 0 → (∀ S9 : HS, S9 = putI S2 69 x0 0 → (∀ S16 : HS, S16 = putI S9 70 x0 0 → (∃ k72 : Nat, wp_X2_addUp_22  P k72 x0 p0 0 0 0 S16)))
set_option maxRecDepth 100000 in
set_option maxHeartbeats 4000000 in
theorem t_X2_addUp {p : Program} {l : Launch} {e : Env} {s : State} {m : MethodId} {args : Array Value} {below : List Frame} {meth : Method} {c : Code} {D : va_G} {A : Nat → Prop} {T : Nat → ClassId} (C : GC p s m args meth c cX2_addUp "FreightRater$Rating" (ws_X2_addUp) 6 D A (zty T)) (E : GE T A s) (hr : meth.sig.returnType = none) (P : HS → Prop) : ∀ (x0 : Nat) (p0 : Nat) (S0 S : HS) (L : List Nat), S0 = S → wt S → hL S L → (hK S x0 = 3) → (hK S p0 = 10) → wp_X2_addUp P x0 p0 S → GW p l e { rm_X2_addUp with cells := 0, slots := 0 } s m args below meth c D A 6 0 0 (MQ below (va_Qv (fun (u : HS × List Nat) => P u.1 ∧ CO S0 u) (CE D T A) A) args s 0 0 A) (CW T S L) 0 0 0 [(0, .ref x0), (1, .ref p0)] [] := by
  have hW : ∀ {w : Cond}, w ∈ W0 → w.before args s = true := fun h => C.2.2.2.2.1 _ (List.mem_cons_of_mem _ h)
  intro x0 p0 S0 S L hS0 hw hL hx0 hp0 h
  have he : ext S0 S := by rw [hS0]; exact ext_rf
  unfold wp_X2_addUp at h
  refine g_iconst (v := 0) C dX2_addUp_0 (by decide) ?_
  refine g_istore_n (lv' := [(2, .int 0), (0, .ref x0), (1, .ref p0)]) C dX2_addUp_1 rfl (by decide) rfl ?_
  refine g_iconst (v := 0) C dX2_addUp_2 (by decide) ?_
  refine g_istore_n (lv' := [(3, .int 0), (2, .int 0), (0, .ref x0), (1, .ref p0)]) C dX2_addUp_3 rfl (by decide) rfl ?_
  refine g_aload_n C dX2_addUp_4 rfl 2 rfl ?_
  refine g_iconst (v := 0) C dX2_addUp_5 (by decide) ?_
  refine gc_putI C iwx_X2 hL hx0 (by decide) (by decide) rfl 8 (by decide) (hW kw_151) rfl tyX2 tyX2_ok nmX2 rfl rfl rfl rfl rfl dX2_addUp_6 ?_
  have w1 := wt_putI hw 68 0 (k_ne hx0 (by decide))
  refine gc_nS (fun S2 eS2 => ?_)
  replace h := h S2 eS2
  have w3 : wt S2 := by rw [eS2]; exact w1
  have w4 : isL S2 L := by rw [eS2]; exact hL
  have w5 : ext S0 S2 := by rw [eS2]; exact he
  have g6 : hK S2 x0 = 3 := by rw [eS2]; exact hx0
  have g7 : hK S2 p0 = 10 := by rw [eS2]; exact hp0
  refine g_aload_n C dX2_addUp_9 rfl 2 rfl ?_
  refine g_iconst (v := 0) C dX2_addUp_10 (by decide) ?_
  refine gc_putI C iwx_X2 w4 g6 (by decide) (by decide) rfl 9 (by decide) (hW kw_153) rfl tyX2 tyX2_ok nmX2 rfl rfl rfl rfl rfl dX2_addUp_11 ?_
  have w8 := wt_putI w3 69 0 (k_ne g6 (by decide))
  refine gc_nS (fun S9 eS9 => ?_)
  replace h := h S9 eS9
  have w10 : wt S9 := by rw [eS9]; exact w8
  have w11 : isL S9 L := by rw [eS9]; exact w4
  have w12 : ext S0 S9 := by rw [eS9]; exact w5
  have g13 : hK S9 x0 = 3 := by rw [eS9]; exact g6
  have g14 : hK S9 p0 = 10 := by rw [eS9]; exact g7
  refine g_aload_n C dX2_addUp_14 rfl 2 rfl ?_
  refine g_iconst (v := 0) C dX2_addUp_15 (by decide) ?_
  refine gc_putI C iwx_X2 w11 g13 (by decide) (by decide) rfl 10 (by decide) (hW kw_155) rfl tyX2 tyX2_ok nmX2 rfl rfl rfl rfl rfl dX2_addUp_16 ?_
  have w15 := wt_putI w10 70 0 (k_ne g13 (by decide))
  refine gc_nS (fun S16 eS16 => ?_)
  replace h := h S16 eS16
  have w17 : wt S16 := by rw [eS16]; exact w15
  have w18 : isL S16 L := by rw [eS16]; exact w11
  have w19 : ext S0 S16 := by rw [eS16]; exact w12
  have g20 : hK S16 x0 = 3 := by rw [eS16]; exact g13
  have g21 : hK S16 p0 = 10 := by rw [eS16]; exact g14
  refine g_iconst (v := 0) C dX2_addUp_19 (by decide) ?_
  refine g_istore (lv' := [(4, .int 0), (3, .int 0), (2, .int 0), (0, .ref x0), (1, .ref p0)]) C dX2_addUp_20 (by decide) rfl ?_
  refine g_locals [3, 4, 2, 1, 0] rfl ?_
  obtain ⟨k72, h⟩ := h
  refine t_X2_addUp_22 C E hr S0  P  k72 x0 p0 0 0 0 S16 L w17 w18 w19 g20 g21 h
theorem c_X2_addUp (l : Launch) (D : va_G) (T : Nat → ClassId) (x0 : Nat) (p0 : Nat) (S : HS) (hx0 : hK S x0 = 3) (hp0 : hK S p0 = 10) (P : HS → Prop) (h : wp_X2_addUp P x0 p0 S) : CMv l yX2_addUp (ws_X2_addUp) rm_X2_addUp D T [.ref x0, .ref p0] S 0 0 P := gc_metv (by decide) rfl rfl (Nat.le_of_ble_eq_true rfl) (fun p e s m args below meth c A L C E hnm hr hw hL => t_X2_addUp C E   hr P x0 p0 S S L rfl hw hL hx0 hp0 h)
theorem rl_au {P : HS → Prop} {M : Nat → Prop} {x y v d : Nat} {μ : Nat → Int32} {L : List Nat} {S0 : HS} (hw : WF μ) (hx : hK S0 x = 3) (hM61 : ∀ b, hR S0 61 x = some b → M b) (hM : ∀ b, hR S0 62 x = some b → M b) (hd1 : 1000 ≤ d) (hd2 : d ≤ 9999) (ed : μ (274 + 510 * v + 146) = nI d) : ∀ (k i fuel : Nat) (a b c e h : Int32) (S : HS), i + k = L.length → k < fuel → RtM S M x μ L → RelV S M y μ v → c3 S0 S x [67, 68, 69, 70] → hI S 69 x = c → hI S 70 x = e → hI S 68 x = h → (∀ S1, c3 S0 S1 x [67, 68, 69, 70] → hI S1 67 x = mxF (gwX μ (nI d) L k i a b c e h).1 (gwX μ (nI d) L k i a b c e h).2.1 → hI S1 69 x = (gwX μ (nI d) L k i a b c e h).2.2.1 → hI S1 70 x = (gwX μ (nI d) L k i a b c e h).2.2.2.1 → hI S1 68 x = (gwX μ (nI d) L k i a b c e h).2.2.2.2 → P S1) → wp_X2_addUp_22 P fuel x y a b (nI i) S := by
  intro k
  induction k with
  | zero =>
    intro i fuel a b c e h S hi hf hRM hV hc h69 h70 h68 hP
    obtain ⟨mb, nb, r1, r2, n1, n2, hl, h60, hh⟩ := hRM.mb
    obtain ⟨f, rfl⟩ : ∃ f, fuel = f + 1 := ⟨fuel - 1, by omega⟩; rw [wp_X2_addUp_22]; unfold wb_X2_addUp_22; dsimp only
    rw [h60, nI_leI (by omega) (by omega)]
    refine ⟨fun _ S24 e24 => ?_, fun z9 => absurd (by omega) z9⟩
    rw [e24]
    refine hP _ (hc.up (by decide) _) (putI_s _ _ _ _) ?_ ?_ ?_
    · rw [putI_i _ _ _ (by decide)]; exact h69
    · rw [putI_i _ _ _ (by decide)]; exact h70
    · rw [putI_i _ _ _ (by decide)]; exact h68
  | succ k ih =>
    intro i fuel a b c e h S hi hf hRM hV hc h69 h70 h68 hP
    obtain ⟨mb, nb, r1, r2, n1, n2, hl, h60, hh⟩ := hRM.mb
    obtain ⟨gi, ha, z, hz, hzR⟩ := hh i (by omega)
    have e206 : hI S 206 y = nI d := hV.1.2.2.2.2.1.trans ed
    have hMn : ∀ b, (S.2.2.2.1) 62 x = some b → M b := fun b hb => hM b (by rw [← hc.2.2.1]; exact hb)
    have hMb : ∀ b, (S.2.2.2.1) 61 x = some b → M b := fun b hb => hM61 b (by rw [← hc.2.2.1]; exact hb)
    have zx : z ≠ x := fun z9 => by have := hzR.1; rw [z9, hRM.1] at this; exact absurd this (by decide)
    rw [gwX] at hP
    obtain ⟨f, rfl⟩ : ∃ f, fuel = f + 1 := ⟨fuel - 1, by omega⟩; rw [wp_X2_addUp_22]; unfold wb_X2_addUp_22; dsimp only
    rw [h60, nI_leI (by omega) (by omega), nI_1, e206]
    refine ⟨fun z9 => absurd z9 (by omega), fun _ => ⟨mb, r1, fun _ => ?_⟩⟩
    rw [n1, nz_vp (by omega) (by decide), nI_clamp (n := i) (by omega), hz]
    refine ⟨by omega, fun o34 e34 _ => ⟨z, e34, fun _ v37 e37 => ⟨M, μ, gl L i, ⟨hw, gi, hzR, d, by omega, hd2, rfl⟩, fun v46 e46 S48 e48 S56 e56 S64 e64 v71 e71 => ?_⟩⟩⟩
    have z48 : ∀ j, hI S48 j z = hI S j z := fun j => by rw [e48]; exact up2_a _ _ _ _ zx
    have z56 : ∀ j, hI S56 j z = hI S j z := fun j => by rw [e56]; exact (up2_a _ _ _ _ zx).trans (z48 j)
    have x48 : ∀ j, j ≠ 68 → hI S48 j x = hI S j x := fun j hj => by rw [e48]; exact putI_i _ _ _ hj
    have x56 : ∀ j, j ≠ 68 → j ≠ 69 → hI S56 j x = hI S j x := fun j h1 h2 => by rw [e56, putI_i _ _ _ h2]; exact x48 j h1
    have s126 : hI S 126 z = realF μ (gl L i) := hzR.2.2.2.2.2.2.2.1
    have s122 : hI S 122 z = μ (14 + 26 * gl L i + 2) := hzR.2.2.2.2.1
    have s124 : hI S 124 z = μ (14 + 26 * gl L i + 4) := hzR.2.2.2.2.2.2.1
    have s127 : hI S 127 z = longF μ (gl L i) := hzR.2.2.2.2.2.2.2.2.1
    rw [s126] at e37
    rw [h68, s122] at e48
    rw [x48 69 (by decide), h69, z48, s124] at e56
    rw [x56 70 (by decide) (by decide), h70, z56, s127] at e64
    have c64 : c3 S S64 x [67, 68, 69, 70] := by rw [e64, e56, e48]; exact ((c3.rf.up (by decide) _).up (by decide) _).up (by decide) _
    subst e37 e46 e71
    refine ih (i + 1) f _ _ _ _ _ S64 (by omega) (by omega) (hRM.c3 c64 (by decide) hMn) (hV.fr c64.fr hRM.1 hMb hMn) (hc.tr c64 (fun _ h => h) (fun _ h => h)) ?_ ?_ ?_ hP
    · rw [e64, putI_i _ _ _ (by decide), e56, putI_s]
    · rw [e64, putI_s]; rfl
    · rw [e64, putI_i _ _ _ (by decide), e56, putI_i _ _ _ (by decide), e48, putI_s]
theorem k_X2_addUp (l : Launch) (D : va_G) (T : Nat → ClassId) (x0 : Nat) (p0 : Nat) (S : HS) (e0 : (Nat → Prop)) (e1 : Nat → Int32) (e2 : List Nat) (e3 : Nat) (e4 : Nat) (hx0 : hK S x0 = 3) (hp0 : hK S p0 = 10) (h : WF e1 ∧ RtM S e0 x0 e1 e2 ∧ (∀ b, hR S 62 x0 = some b → e0 b) ∧ 0 < e2.length ∧ gl e2 0 = lowN e3 ∧ e4 < 6 ∧ RelV S e0 p0 e1 e4 ∧ (∃ d : Nat, 1000 ≤ d ∧ d ≤ 9999 ∧ e1 (274 + 510 * e4 + 146) = nI d) ∧ ∀ b, hR S 61 x0 = some b → e0 b) : CMv l yX2_addUp (ws_X2_addUp) rm_X2_addUp D T [.ref x0, .ref p0] S 0 0 (fun S1 => (c3 S S1 x0 [67, 68, 69, 70] ∧ hI S1 67 x0 = mxF (gwX e1 (e1 (274 + 510 * e4 + 146)) e2 e2.length 0 0 0 0 0 0).1 (gwX e1 (e1 (274 + 510 * e4 + 146)) e2 e2.length 0 0 0 0 0 0).2.1 ∧ hI S1 69 x0 = (gwX e1 (e1 (274 + 510 * e4 + 146)) e2 e2.length 0 0 0 0 0 0).2.2.1 ∧ hI S1 70 x0 = (gwX e1 (e1 (274 + 510 * e4 + 146)) e2 e2.length 0 0 0 0 0 0).2.2.2.1 ∧ hI S1 68 x0 = (gwX e1 (e1 (274 + 510 * e4 + 146)) e2 e2.length 0 0 0 0 0 0).2.2.2.2)) := c_X2_addUp l D T x0 p0 S hx0 hp0 _ <|
  (by
    obtain ⟨⟨hw, hR, hM, h0, hlow⟩, hv, hV, ⟨d, hd1, hd2, ed⟩, hMb⟩ : (WF e1 ∧ RtM S e0 x0 e1 e2 ∧ (∀ b, hR S 62 x0 = some b → e0 b) ∧ 0 < e2.length ∧ gl e2 0 = lowN e3) ∧ e4 < 6 ∧ RelV S e0 p0 e1 e4 ∧ (∃ d : Nat, 1000 ≤ d ∧ d ≤ 9999 ∧ e1 (274 + 510 * e4 + 146) = nI d) ∧ ∀ b, hR S 61 x0 = some b → e0 b := ⟨⟨h.1, h.2.1, h.2.2.1, h.2.2.2.1, h.2.2.2.2.1⟩, h.2.2.2.2.2⟩
    have hl := hR.2.1
    rw [ed]
    unfold wp_X2_addUp
    refine fun S2 e2' S9 e9 S16 e16 => ⟨20, ?_⟩
    have c16 : c3 S S16 x0 [67, 68, 69, 70] := by rw [e16, e9, e2']; exact ((c3.rf.up (by decide) _).up (by decide) _).up (by decide) _
    refine rl_au (S0 := S) hw hR.1 hMb hM hd1 hd2 ed e2.length 0 20 0 0 0 0 0 S16 (by omega) (by omega) (hR.c3 c16 (by decide) hM) (hV.fr c16.fr hR.1 hMb hM) c16 ?_ ?_ ?_ (fun S1 g1 g2 g3 g4 g5 => ⟨g1, g2, g3, g4, g5⟩)
    · rw [e16, putI_i _ _ _ (by decide), e9, putI_s]
    · rw [e16, putI_s]
    · rw [e16, putI_i _ _ _ (by decide), e9, putI_i _ _ _ (by decide), e2', putI_s])
abbrev ws_X2_chargeBase : List Cond := Cond.code yX2_chargeBase cX2_chargeBase 3 none :: W0
abbrev rm_X2_chargeBase : Room := ({ frames := 3, cells := 0, slots := 0, locals := 66 } : Room)
def wp_X2_chargeBase (P : HS → Prop) (x0 : Nat) (p0 : Nat) (S : HS) : Prop := ∃ (m1 : (Nat → Prop)) (m2 : Nat → Int32) (m3 : Nat) (m4 : Nat), ((WF m2 ∧ m3 < 6 ∧ 1 ≤ m4 ∧ m4 ≤ 9 ∧ RelSc S m1 p0 m2 m3 m4) ∧ (∀ v10 : Int32, v10 = ((if m2 (274 + 510 * m3 + 38 + m4 - 1) = 0 then -1 else nI (chpF m2 m3 m4 (hI S 67 x0)))) → ((0 ≤ v10 → (∃ b13 : Nat, hR S 101 p0 = some b13 ∧ (hK S b13 = 22 → (vp_in v10 (hN S b13) ∧ (∀ S17 : HS, S17 = putI S 73 x0 (hA S b13 (Int32.toNatClampNeg v10)) → (∀ S24 : HS, S24 = putI S17 72 x0 (if (hI S17 67 x0) < (hI S17 73 x0) then (hI S17 73 x0) else (hI S17 67 x0)) → (∃ (m30 : (Nat → Prop)) (m31 : Nat → Int32) (m32 : Nat) (m33 : Nat), ((WF m31 ∧ m32 < 6 ∧ 1 ≤ m33 ∧ m33 ≤ 9 ∧ RelSc S24 m30 p0 m31 m32 m33 ∧ v10 = nI (chpF m31 m32 m33 (hI S24 67 x0)) ∧ ¬ m31 (274 + 510 * m32 + 38 + m33 - 1) = 0) ∧ (∀ S40 : HS, S40 = putI S24 71 x0 (baseF m31 m32 m33 (hI S24 67 x0)) → (P S40)))))))))) ∧ (¬ 0 ≤ v10 → (P S)))))
set_option maxRecDepth 100000 in
set_option maxHeartbeats 4000000 in
theorem t_X2_chargeBase {p : Program} {l : Launch} {e : Env} {s : State} {m : MethodId} {args : Array Value} {below : List Frame} {meth : Method} {c : Code} {D : va_G} {A : Nat → Prop} {T : Nat → ClassId} (C : GC p s m args meth c cX2_chargeBase "FreightRater$Rating" (ws_X2_chargeBase) 3 D A (zty T)) (E : GE T A s) (hr : meth.sig.returnType = none) (P : HS → Prop) : ∀ (x0 : Nat) (p0 : Nat) (S0 S : HS) (L : List Nat), S0 = S → wt S → hL S L → (hK S x0 = 3) → (hK S p0 = 5) → wp_X2_chargeBase P x0 p0 S → GW p l e { rm_X2_chargeBase with cells := 0, slots := 0 } s m args below meth c D A 3 0 0 (MQ below (va_Qv (fun (u : HS × List Nat) => P u.1 ∧ CO S0 u) (CE D T A) A) args s 0 0 A) (CW T S L) 0 0 0 [(0, .ref x0), (1, .ref p0)] [] := by
  have hW : ∀ {w : Cond}, w ∈ W0 → w.before args s = true := fun h => C.2.2.2.2.1 _ (List.mem_cons_of_mem _ h)
  intro x0 p0 S0 S L hS0 hw hL hx0 hp0 h
  have he : ext S0 S := by rw [hS0]; exact ext_rf
  unfold wp_X2_chargeBase at h
  refine g_aload_n C dX2_chargeBase_0 rfl 1 rfl ?_
  refine g_aload_n C dX2_chargeBase_1 rfl 0 rfl ?_
  refine gc_getI C iwx_X2 hL hx0 (by decide) (by decide) rfl 7 (by decide) (hW kw_148) rfl rfl rfl dX2_chargeBase_2 ?_
  obtain ⟨m1, m2, m3, m4, h⟩ := h
  obtain ⟨g5, h⟩ := h
  refine gc_calliV (host := "") C E hw hL hp0 (by decide) (by decide) rfl [.int (hI S 67 x0)] rfl (k_X4_findCheapest l D T p0 (hI S 67 x0) S m1 m2 m3 m4 hp0 g5) (w0_V 1 C.2.2.2.2.1 kw_1247 kw_1051 kw_1052 kw_15 kw_1053 rfl rfl (by decide +kernel) ⟨Nat.le_of_ble_eq_true rfl, Nat.le_of_ble_eq_true rfl⟩) rfl (Nat.le_of_ble_eq_true rfl) (Nat.le_refl _) (Nat.le_refl _) (Nat.zero_le _) (Nat.zero_le _) dX2_chargeBase_5 (fun v9 S9 L6 he9 hw9 hL9 hp => ?_)
  obtain ⟨hv9, hs9⟩ := hp
  replace hs9 := hs9.symm
  subst hs9
  replace hv9 := hv9.symm
  subst hv9
  have w9 := hL9
  refine g_topi (fun v10 ev10 => ?_)
  replace h := h v10 ev10
  refine g_istore_n (lv' := [(2, .int v10), (0, .ref x0), (1, .ref p0)]) C dX2_chargeBase_8 rfl (by decide) rfl ?_
  refine g_iload_n C dX2_chargeBase_9 rfl 0 rfl ?_
  refine g_if_ge (tgt := 14) C dX2_chargeBase_10 (by decide) (fun z11 => ?_) (fun z11 => ?_)
  · replace h := h.1 z11
    refine g_aload_n C dX2_chargeBase_14 rfl 1 rfl ?_
    refine g_aload_n C dX2_chargeBase_15 rfl 2 rfl ?_
    refine gc_getR C hw iwx_X4 w9 hp0 (by decide) (by decide) rfl 1 (by decide) (hW kw_399) rfl rfl rfl dX2_chargeBase_16 (fun o12 eo12 ko12 => ?_)
    obtain ⟨b13, hb9, h⟩ := h
    have g14 : hK S b13 = 22 := ko12 b13 (eo12.trans hb9)
    replace h := h g14
    refine g_opt (eo12.trans hb9) ?_
    refine g_iload_n C dX2_chargeBase_19 rfl 0 rfl ?_
    obtain ⟨g15, h⟩ := h
    refine gc_iald C w9 g14 g15 dX2_chargeBase_20 ?_
    refine gc_putI C iwx_X2 w9 hx0 (by decide) (by decide) rfl 13 (by decide) (hW kw_160) rfl tyX2 tyX2_ok nmX2 rfl rfl rfl rfl rfl dX2_chargeBase_21 ?_
    have w16 := wt_putI hw 73 (hA S b13 (Int32.toNatClampNeg v10)) (k_ne hx0 (by decide))
    refine gc_nS (fun S17 eS17 => ?_)
    replace h := h S17 eS17
    have w18 : wt S17 := by rw [eS17]; exact w16
    have w19 : isL S17 L6 := by rw [eS17]; exact w9
    have w20 : ext S0 S17 := by rw [eS17]; exact he
    have g21 : hK S17 x0 = 3 := by rw [eS17]; exact hx0
    have g22 : hK S17 p0 = 5 := by rw [eS17]; exact hp0
    refine g_aload_n C dX2_chargeBase_24 rfl 1 rfl ?_
    refine g_aload_n C dX2_chargeBase_25 rfl 1 rfl ?_
    refine gc_getI C iwx_X2 w19 g21 (by decide) (by decide) rfl 7 (by decide) (hW kw_148) rfl rfl rfl dX2_chargeBase_26 ?_
    refine g_aload_n C dX2_chargeBase_29 rfl 1 rfl ?_
    refine gc_getI C iwx_X2 w19 g21 (by decide) (by decide) rfl 13 (by decide) (hW kw_160) rfl rfl rfl dX2_chargeBase_30 ?_
    refine g_mmax C (hW kw_1233) (hW kw_626) (hW kw_18) (hW kw_627) (Nat.le_of_ble_eq_true rfl) (Nat.le_of_ble_eq_true rfl) (Nat.le_refl _) (Nat.le_refl _) dX2_chargeBase_33 ?_
    refine gc_putI C iwx_X2 w19 g21 (by decide) (by decide) rfl 12 (by decide) (hW kw_158) rfl tyX2 tyX2_ok nmX2 rfl rfl rfl rfl rfl dX2_chargeBase_36 ?_
    have w23 := wt_putI w18 72 (if (hI S17 67 x0) < (hI S17 73 x0) then (hI S17 73 x0) else (hI S17 67 x0)) (k_ne g21 (by decide))
    refine gc_nS (fun S24 eS24 => ?_)
    replace h := h S24 eS24
    have w25 : wt S24 := by rw [eS24]; exact w23
    have w26 : isL S24 L6 := by rw [eS24]; exact w19
    have w27 : ext S0 S24 := by rw [eS24]; exact w20
    have g28 : hK S24 x0 = 3 := by rw [eS24]; exact g21
    have g29 : hK S24 p0 = 5 := by rw [eS24]; exact g22
    refine g_aload_n C dX2_chargeBase_39 rfl 1 rfl ?_
    refine g_aload_n C dX2_chargeBase_40 rfl 2 rfl ?_
    refine g_iload_n C dX2_chargeBase_41 rfl 0 rfl ?_
    refine g_aload_n C dX2_chargeBase_42 rfl 1 rfl ?_
    refine gc_getI C iwx_X2 w26 g28 (by decide) (by decide) rfl 7 (by decide) (hW kw_148) rfl rfl rfl dX2_chargeBase_43 ?_
    obtain ⟨m30, m31, m32, m33, h⟩ := h
    obtain ⟨g34, h⟩ := h
    refine gc_calliV (host := "") C E w25 w26 g29 (by decide) (by decide) rfl [.int v10, .int (hI S24 67 x0)] rfl (k_X4_chargeFor l D T p0 v10 (hI S24 67 x0) S24 m30 m31 m32 m33 g29 g34) (w0_V 2 C.2.2.2.2.1 kw_1248 kw_1060 kw_1061 kw_15 kw_1062 rfl rfl (by decide +kernel) ⟨Nat.le_of_ble_eq_true rfl, Nat.le_of_ble_eq_true rfl⟩) rfl (Nat.le_of_ble_eq_true rfl) (Nat.le_refl _) (Nat.le_refl _) (Nat.zero_le _) (Nat.zero_le _) dX2_chargeBase_46 (fun v9 S9 L35 he9 hw9 hL9 hp => ?_)
    obtain ⟨hv9, hs9⟩ := hp
    replace hs9 := hs9.symm
    subst hs9
    replace hv9 := hv9.symm
    subst hv9
    have w38 := hL9
    refine gc_putI C iwx_X2 w38 g28 (by decide) (by decide) rfl 11 (by decide) (hW kw_156) rfl tyX2 tyX2_ok nmX2 rfl rfl rfl rfl rfl dX2_chargeBase_49 ?_
    have w39 := wt_putI w25 71 (baseF m31 m32 m33 (hI S24 67 x0)) (k_ne g28 (by decide))
    refine gc_nS (fun S40 eS40 => ?_)
    replace h := h S40 eS40
    have w41 : wt S40 := by rw [eS40]; exact w39
    have w42 : isL S40 L35 := by rw [eS40]; exact w38
    have w43 : ext S0 S40 := by rw [eS40]; exact w27
    have g44 : hK S40 x0 = 3 := by rw [eS40]; exact g28
    have g45 : hK S40 p0 = 5 := by rw [eS40]; exact g29
    exact gc_vret C w41 w42 w43 hr dX2_chargeBase_52 h
  · replace h := h.2 z11
    exact gc_vret C hw w9 he hr dX2_chargeBase_13 h
theorem c_X2_chargeBase (l : Launch) (D : va_G) (T : Nat → ClassId) (x0 : Nat) (p0 : Nat) (S : HS) (hx0 : hK S x0 = 3) (hp0 : hK S p0 = 5) (P : HS → Prop) (h : wp_X2_chargeBase P x0 p0 S) : CMv l yX2_chargeBase (ws_X2_chargeBase) rm_X2_chargeBase D T [.ref x0, .ref p0] S 0 0 P := gc_metv (by decide) rfl rfl (Nat.le_of_ble_eq_true rfl) (fun p e s m args below meth c A L C E hnm hr hw hL => t_X2_chargeBase C E   hr P x0 p0 S S L rfl hw hL hx0 hp0 h)
theorem k_X2_chargeBase (l : Launch) (D : va_G) (T : Nat → ClassId) (x0 : Nat) (p0 : Nat) (S : HS) (e0 : (Nat → Prop)) (e1 : Nat → Int32) (e2 : Nat) (e3 : Nat) (hx0 : hK S x0 = 3) (hp0 : hK S p0 = 5) (h : WF e1 ∧ e2 < 6 ∧ 1 ≤ e3 ∧ e3 ≤ 9 ∧ RelSc S e0 p0 e1 e2 e3 ∧ ¬ e1 (274 + 510 * e2 + 38 + e3 - 1) = 0 ∧ (∀ b, hR S 62 x0 = some b → e0 b)) : CMv l yX2_chargeBase (ws_X2_chargeBase) rm_X2_chargeBase D T [.ref x0, .ref p0] S 0 0 (fun S1 => (c3 S S1 x0 [71, 72, 73] ∧ hI S1 71 x0 = baseF e1 e2 e3 (hI S 67 x0) ∧ hI S1 73 x0 = e1 (274 + 510 * e2 + 47 + 10 * (e3 - 1) + 2 * chpF e1 e2 e3 (hI S 67 x0)) ∧ hI S1 72 x0 = mxF (hI S 67 x0) (e1 (274 + 510 * e2 + 47 + 10 * (e3 - 1) + 2 * chpF e1 e2 e3 (hI S 67 x0))))) := c_X2_chargeBase l D T x0 p0 S hx0 hp0 _ <|
  (by
    obtain ⟨hw, hv, h1, h9, hR, hne, hM⟩ := h
    obtain ⟨c, hc, ec⟩ := hw.brk hv h1 h9
    have ic : iv (e1 (274 + 510 * e2 + 38 + e3 - 1)) = c := by rw [ec]; exact nI_clamp (by omega)
    have hc0 : 0 < c := by
      rcases Nat.eq_zero_or_pos c with z9 | z9
      · subst z9; exact absurd ec hne
      · exact z9
    have hlt : ∀ w, chpF e1 e2 e3 w < c := by
      intro w
      have gen : ∀ k i b, i + k = c → b < c → chpFold e1 e2 e3 w k i b < c := by
        intro k
        induction k with
        | zero => intro i b _ hb; exact hb
        | succ k ih =>
          intro i b hi hb
          rw [chpFold]
          refine ih (i + 1) _ (by omega) ?_
          split
          · omega
          · exact hb
      unfold chpF
      rw [ic]
      exact gen (c - 1) 1 0 (by omega) hc0
    have hR0 := hR
    obtain ⟨ks, _, r1, r2, w, p, rw_, rp, ⟨kw, nw, mw⟩, ⟨kp, np, _⟩, hcs⟩ := hR
    rw [ic] at hcs
    have hch := hlt (hI S 67 x0)
    obtain ⟨g1, g2⟩ := hcs _ hch
    unfold wp_X2_chargeBase
    refine ⟨e0, e1, e2, e3, ⟨hw, hv, h1, h9, hR0⟩, fun v10 e10 => ?_⟩
    rw [if_neg hne] at e10
    rw [e10, nz_le (by omega)]
    refine ⟨fun _ => ⟨w, rw_, fun _ => ?_⟩, fun z9 => absurd trivial z9⟩
    rw [nw, nz_vp (by omega) (by decide), nI_clamp (n := chpF e1 e2 e3 (hI S 67 x0)) (by omega), g1]
    refine ⟨by omega, fun S17 e17 S24 e24 => ?_⟩
    have c24 : c3 S S24 x0 [71, 72, 73] := by rw [e24, e17]; exact (c3.rf.up (by decide) _).up (by decide) _
    have i67 : hI S24 67 x0 = hI S 67 x0 := c24.I (by decide)
    have j67 : hI S17 67 x0 = hI S 67 x0 := by rw [e17]; exact putI_i _ _ _ (by decide)
    have j73 : hI S17 73 x0 = e1 (274 + 510 * e2 + 47 + 10 * (e3 - 1) + 2 * chpF e1 e2 e3 (hI S 67 x0)) := by rw [e17]; exact putI_s _ _ _ _
    rw [j67, j73] at e24
    refine ⟨e0, e1, e2, e3, ⟨hw, hv, h1, h9, hR0.fr c24.fr hx0 hM, by rw [i67], hne⟩, fun S40 e40 => ?_⟩
    rw [i67] at e40
    refine ⟨by rw [e40]; exact c24.up (by decide) _, by rw [e40]; exact putI_s _ _ _ _, ?_, ?_⟩
    · rw [e40, putI_i _ _ _ (by decide), e24, putI_i _ _ _ (by decide)]; exact j73
    · rw [e40, putI_i _ _ _ (by decide), e24, putI_s]; rfl)

end S_C1H
