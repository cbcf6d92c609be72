section S_C2D
abbrev ws_X1_mergePair : List Cond := Cond.code yX1_mergePair cX1_mergePair 7 (some .boolean) :: W0
abbrev rm_X1_mergePair : Room := ({ frames := 1, cells := 0, slots := 0, locals := 24 } : Room)
def wp_X1_mergePair_69 (K21 : Nat → Int32 → Int32 → Int32 → Int32 → Int32 → HS → Prop) (P : Int32 → HS → Prop) (x0 : Nat) (x1 : Int32) (x2 : Int32) (x3 : Int32) (x4 : Int32) (x5 : Int32) (s0 : Int32) (S : HS) : Prop := (x1 < s0 → (∀ v13 : Int32, v13 = x5 + 1 → (K21 x0 s0 x4 x5 x4 v13 S))) ∧ (¬ x1 < s0 → ((s0 ≤ 0 → (∀ v15 : Int32, v15 = x5 + 1 → (K21 x0 x1 x2 x3 x4 v15 S))) ∧ (¬ s0 ≤ 0 → ((¬ s0 = x1 → (∀ v17 : Int32, v17 = x5 + 1 → (K21 x0 x1 x2 x3 x4 v17 S))) ∧ (s0 = x1 → (∃ (m18 : Nat → Nat) (m19 : List Nat), ((PlO S x0 m18 ∧ PlP S x0 m18 m19 ∧ (∃ i : Nat, i < m19.length ∧ x4 = nI i) ∧ (∃ i : Nat, i < m19.length ∧ x5 = nI i) ∧ (∃ i : Nat, i < m19.length ∧ x2 = nI i) ∧ (∃ i : Nat, i < m19.length ∧ x3 = nI i)) ∧ (((b2i (decide (gl m19 (iv x4) < gl m19 (iv x2)) || (decide (gl m19 (iv x4) = gl m19 (iv x2)) && decide (gl m19 (iv x5) < gl m19 (iv x3))))) = 0 → (∀ v26 : Int32, v26 = x5 + 1 → (K21 x0 x1 x2 x3 x4 v26 S))) ∧ (¬ (b2i (decide (gl m19 (iv x4) < gl m19 (iv x2)) || (decide (gl m19 (iv x4) = gl m19 (iv x2)) && decide (gl m19 (iv x5) < gl m19 (iv x3))))) = 0 → (∀ v27 : Int32, v27 = x5 + 1 → (K21 x0 s0 x4 x5 x4 v27 S)))))))))))
set_option maxRecDepth 100000 in
set_option maxHeartbeats 4000000 in
theorem t_X1_mergePair_69 {p : Program} {l : Launch} {e : Env} {s : State} {m : MethodId} {args : Array Value} {below : List Frame} {meth : Method} {c : Code} {D : va_G} {A : Nat → Prop} {T : Nat → ClassId} (C : GC p s m args meth c cX1_mergePair "FreightRater$Plan" (ws_X1_mergePair) 7 D A (zty T)) (E : GE T A s) (hr : meth.sig.returnType = (some .boolean)) (S0 : HS) (K21 : Nat → Int32 → Int32 → Int32 → Int32 → Int32 → HS → Prop) (P : Int32 → HS → Prop) (hK21 : ∀ (x0 : Nat) (x1 : Int32) (x2 : Int32) (x3 : Int32) (x4 : Int32) (x5 : Int32) (S : HS) (L : List Nat), wt S → hL S L → ext S0 S → (hK S x0 = 2) → K21 x0 x1 x2 x3 x4 x5 S → GW p l e { rm_X1_mergePair with cells := 0, slots := 0 } s m args below meth c D A 7 0 0 (MQ below (va_Qi (fun v (u : HS × List Nat) => P v u.1 ∧ CO S0 u) (CE D T A) A) args s 0 0 A) (CW T S L) 0 0 21 [(0, .ref x0), (1, .int x1), (2, .int x2), (3, .int x3), (4, .int x4), (5, .int x5)] []) : ∀ (x0 : Nat) (x1 : Int32) (x2 : Int32) (x3 : Int32) (x4 : Int32) (x5 : Int32) (s0 : Int32) (S : HS) (L : List Nat), wt S → hL S L → ext S0 S → (hK S x0 = 2) → wp_X1_mergePair_69 K21 P x0 x1 x2 x3 x4 x5 s0 S → GW p l e { rm_X1_mergePair with cells := 0, slots := 0 } s m args below meth c D A 7 0 0 (MQ below (va_Qi (fun v (u : HS × List Nat) => P v u.1 ∧ CO S0 u) (CE D T A) A) args s 0 0 A) (CW T S L) 0 0 69 [(0, .ref x0), (1, .int x1), (2, .int x2), (3, .int x3), (4, .int x4), (5, .int x5)] [.int s0] := by
  have hW : ∀ {w : Cond}, w ∈ W0 → w.before args s = true := fun h => C.2.2.2.2.1 _ (List.mem_cons_of_mem _ h)
  intro x0 x1 x2 x3 x4 x5 s0 S L hw hL he hx0 h
  unfold wp_X1_mergePair_69 at h
  refine g_istore (lv' := [(6, .int s0), (0, .ref x0), (1, .int x1), (2, .int x2), (3, .int x3), (4, .int x4), (5, .int x5)]) C dX1_mergePair_69 (by decide) rfl ?_
  refine g_iload C dX1_mergePair_71 0 rfl ?_
  refine g_iload_n C dX1_mergePair_73 rfl 2 rfl ?_
  refine g_icmp_gt (tgt := 101) C dX1_mergePair_74 (by decide) (fun z12 => ?_) (fun z12 => ?_)
  · replace h := h.1 z12
    refine g_iload C dX1_mergePair_101 0 rfl ?_
    refine g_istore_n (lv' := [(1, .int s0), (6, .int s0), (0, .ref x0), (2, .int x2), (3, .int x3), (4, .int x4), (5, .int x5)]) C dX1_mergePair_103 rfl (by decide) rfl ?_
    refine g_iload C dX1_mergePair_104 5 rfl ?_
    refine g_istore_n (lv' := [(2, .int x4), (1, .int s0), (6, .int s0), (0, .ref x0), (3, .int x3), (4, .int x4), (5, .int x5)]) C dX1_mergePair_106 rfl (by decide) rfl ?_
    refine g_iload C dX1_mergePair_107 6 rfl ?_
    refine g_istore_n (lv' := [(3, .int x5), (2, .int x4), (1, .int s0), (6, .int s0), (0, .ref x0), (4, .int x4), (5, .int x5)]) C dX1_mergePair_109 rfl (by decide) rfl ?_
    obtain ⟨v13, ev13⟩ : ∃ y : Int32, y = x5 + 1 := ⟨_, rfl⟩
    replace h := h v13 ev13
    refine g_iinc (v := v13) (lv' := [(5, .int v13), (3, .int x5), (2, .int x4), (1, .int s0), (6, .int s0), (0, .ref x0), (4, .int x4)]) C dX1_mergePair_110 (j := 6) rfl (by rw [ev13]; rfl) (by decide) rfl ?_
    refine g_goto (tgt := 21) C dX1_mergePair_113 (by decide) ?_
    refine g_locals [5, 3, 2, 1, 6, 0] rfl ?_
    exact hK21 x0 s0 x4 x5 x4 v13 S L hw hL he hx0 h
  · replace h := h.2 z12
    refine g_iload C dX1_mergePair_77 0 rfl ?_
    refine g_if_le (tgt := 110) C dX1_mergePair_79 (by decide) (fun z14 => ?_) (fun z14 => ?_)
    · replace h := h.1 z14
      obtain ⟨v15, ev15⟩ : ∃ y : Int32, y = x5 + 1 := ⟨_, rfl⟩
      replace h := h v15 ev15
      refine g_iinc (v := v15) (lv' := [(5, .int v15), (6, .int s0), (0, .ref x0), (1, .int x1), (2, .int x2), (3, .int x3), (4, .int x4)]) C dX1_mergePair_110 (j := 6) rfl (by rw [ev15]; rfl) (by decide) rfl ?_
      refine g_goto (tgt := 21) C dX1_mergePair_113 (by decide) ?_
      refine g_locals [2, 3, 4, 5, 6, 0] rfl ?_
      exact hK21 x0 x1 x2 x3 x4 v15 S L hw hL he hx0 h
    · replace h := h.2 z14
      refine g_iload C dX1_mergePair_82 0 rfl ?_
      refine g_iload_n C dX1_mergePair_84 rfl 2 rfl ?_
      refine g_icmp_ne (tgt := 110) C dX1_mergePair_85 (by decide) (fun z16 => ?_) (fun z16 => ?_)
      · replace h := h.1 z16
        obtain ⟨v17, ev17⟩ : ∃ y : Int32, y = x5 + 1 := ⟨_, rfl⟩
        replace h := h v17 ev17
        refine g_iinc (v := v17) (lv' := [(5, .int v17), (6, .int s0), (0, .ref x0), (1, .int x1), (2, .int x2), (3, .int x3), (4, .int x4)]) C dX1_mergePair_110 (j := 6) rfl (by rw [ev17]; rfl) (by decide) rfl ?_
        refine g_goto (tgt := 21) C dX1_mergePair_113 (by decide) ?_
        refine g_locals [2, 3, 4, 5, 6, 0] rfl ?_
        exact hK21 x0 x1 x2 x3 x4 v17 S L hw hL he hx0 h
      · replace h := h.2 z16
        refine g_aload_n C dX1_mergePair_88 rfl 1 rfl ?_
        refine g_iload C dX1_mergePair_89 5 rfl ?_
        refine g_iload C dX1_mergePair_91 6 rfl ?_
        refine g_iload_n C dX1_mergePair_93 rfl 3 rfl ?_
        refine g_iload_n C dX1_mergePair_94 rfl 4 rfl ?_
        obtain ⟨m18, m19, h⟩ := h
        obtain ⟨g20, h⟩ := h
        refine gc_calliV (host := "") C E hw hL hx0 (by decide) (by decide) rfl [.int x4, .int x5, .int x2, .int x3] rfl (k_X1_comesBefore l D T x0 x4 x5 x2 x3 S m18 m19 hx0 g20) (w0_V 4 C.2.2.2.2.1 kw_1418 kw_1420 ks_48 kw_8 kw_1421 rfl rfl (by decide +kernel) ⟨Nat.le_of_ble_eq_true rfl, Nat.le_of_ble_eq_true rfl⟩) rfl (Nat.le_of_ble_eq_true rfl) (Nat.le_refl _) (Nat.le_refl _) (Nat.zero_le _) (Nat.zero_le _) dX1_mergePair_95 (fun v9 S9 L21 he9 hw9 hL9 hp => ?_)
        obtain ⟨hv9, hs9⟩ := hp
        replace hs9 := hs9.symm
        subst hs9
        replace hv9 := hv9.symm
        subst hv9
        have w24 := hL9
        refine g_if_eq (tgt := 110) C dX1_mergePair_98 (by decide) (fun z25 => ?_) (fun z25 => ?_)
        · replace h := h.1 z25
          obtain ⟨v26, ev26⟩ : ∃ y : Int32, y = x5 + 1 := ⟨_, rfl⟩
          replace h := h v26 ev26
          refine g_iinc (v := v26) (lv' := [(5, .int v26), (6, .int s0), (0, .ref x0), (1, .int x1), (2, .int x2), (3, .int x3), (4, .int x4)]) C dX1_mergePair_110 (j := 6) rfl (by rw [ev26]; rfl) (by decide) rfl ?_
          refine g_goto (tgt := 21) C dX1_mergePair_113 (by decide) ?_
          refine g_locals [2, 3, 4, 5, 6, 0] rfl ?_
          exact hK21 x0 x1 x2 x3 x4 v26 S L21 hw w24 he hx0 h
        · replace h := h.2 z25
          refine g_iload C dX1_mergePair_101 0 rfl ?_
          refine g_istore_n (lv' := [(1, .int s0), (6, .int s0), (0, .ref x0), (2, .int x2), (3, .int x3), (4, .int x4), (5, .int x5)]) C dX1_mergePair_103 rfl (by decide) rfl ?_
          refine g_iload C dX1_mergePair_104 5 rfl ?_
          refine g_istore_n (lv' := [(2, .int x4), (1, .int s0), (6, .int s0), (0, .ref x0), (3, .int x3), (4, .int x4), (5, .int x5)]) C dX1_mergePair_106 rfl (by decide) rfl ?_
          refine g_iload C dX1_mergePair_107 6 rfl ?_
          refine g_istore_n (lv' := [(3, .int x5), (2, .int x4), (1, .int s0), (6, .int s0), (0, .ref x0), (4, .int x4), (5, .int x5)]) C dX1_mergePair_109 rfl (by decide) rfl ?_
          obtain ⟨v27, ev27⟩ : ∃ y : Int32, y = x5 + 1 := ⟨_, rfl⟩
          replace h := h v27 ev27
          refine g_iinc (v := v27) (lv' := [(5, .int v27), (3, .int x5), (2, .int x4), (1, .int s0), (6, .int s0), (0, .ref x0), (4, .int x4)]) C dX1_mergePair_110 (j := 6) rfl (by rw [ev27]; rfl) (by decide) rfl ?_
          refine g_goto (tgt := 21) C dX1_mergePair_113 (by decide) ?_
          refine g_locals [5, 3, 2, 1, 6, 0] rfl ?_
          exact hK21 x0 s0 x4 x5 x4 v27 S L21 hw w24 he hx0 h
def wb_X1_mergePair_21 (rec : Nat → Int32 → Int32 → Int32 → Int32 → Int32 → HS → Prop) (K116 : Nat → Int32 → Int32 → Int32 → Int32 → HS → Prop) (P : Int32 → HS → Prop) (x0 : Nat) (x1 : Int32) (x2 : Int32) (x3 : Int32) (x4 : Int32) (x5 : Int32) (S : HS) : Prop := ((hI S 47 x0) ≤ x5 → (K116 x0 x1 x2 x3 x4 S)) ∧ (¬ (hI S 47 x0) ≤ x5 → (∃ b4 : Nat, hR S 46 x0 = some b4 ∧ (hK S b4 = 22 → (vp_in x4 (hN S b4) ∧ (∃ b8 : Nat, hR S 46 x0 = some b8 ∧ (hK S b8 = 22 → (vp_in x5 (hN S b8) ∧ (((hA S b8 (Int32.toNatClampNeg x5)) ≤ (hA S b4 (Int32.toNatClampNeg x4)) → (wp_X1_mergePair_69 (fun (y28_x0 : Nat) (y28_x1 : Int32) (y28_x2 : Int32) (y28_x3 : Int32) (y28_x4 : Int32) (y28_x5 : Int32) (Sy28_ : HS) => (hK Sy28_ y28_x0 = 2) → (rec y28_x0 y28_x1 y28_x2 y28_x3 y28_x4 y28_x5 Sy28_)) P x0 x1 x2 x3 x4 x5 0 S)) ∧ (¬ (hA S b8 (Int32.toNatClampNeg x5)) ≤ (hA S b4 (Int32.toNatClampNeg x4)) → (∃ b30 : Nat, hR S 46 x0 = some b30 ∧ (hK S b30 = 22 → (vp_in x4 (hN S b30) ∧ (∃ b34 : Nat, hR S 46 x0 = some b34 ∧ (hK S b34 = 22 → (vp_in x5 (hN S b34) ∧ (∃ (m37 : Nat → Nat), ((PlO S x0 m37 ∧ (∃ w : Nat, w < 256 ∧ (hA S b30 (Int32.toNatClampNeg x4)) = nI w) ∧ ∃ w : Nat, w < 256 ∧ (hA S b34 (Int32.toNatClampNeg x5)) = nI w) ∧ (wp_X1_mergePair_69 (fun (y43_x0 : Nat) (y43_x1 : Int32) (y43_x2 : Int32) (y43_x3 : Int32) (y43_x4 : Int32) (y43_x5 : Int32) (Sy43_ : HS) => (hK Sy43_ y43_x0 = 2) → (rec y43_x0 y43_x1 y43_x2 y43_x3 y43_x4 y43_x5 Sy43_)) P x0 x1 x2 x3 x4 x5 ((if hA S (m37 1) (iv (hA S b30 (Int32.toNatClampNeg x4)) ||| iv (hA S b34 (Int32.toNatClampNeg x5))) = -1 then 0 else hA S (m37 1) (iv (hA S b30 (Int32.toNatClampNeg x4))) + hA S (m37 1) (iv (hA S b34 (Int32.toNatClampNeg x5))) - hA S (m37 1) (iv (hA S b30 (Int32.toNatClampNeg x4)) ||| iv (hA S b34 (Int32.toNatClampNeg x5))))) S))))))))))))))))))
def wp_X1_mergePair_21 (K116 : Nat → Int32 → Int32 → Int32 → Int32 → HS → Prop) (P : Int32 → HS → Prop) : Nat → Nat → Int32 → Int32 → Int32 → Int32 → Int32 → HS → Prop
  | 0 => fun _ _ _ _ _ _ _ => False
  | n + 1 => fun x0 x1 x2 x3 x4 x5 S => wb_X1_mergePair_21 (wp_X1_mergePair_21 K116 P n) K116 P x0 x1 x2 x3 x4 x5 S
set_option maxRecDepth 100000 in
set_option maxHeartbeats 4000000 in
theorem t_X1_mergePair_21 {p : Program} {l : Launch} {e : Env} {s : State} {m : MethodId} {args : Array Value} {below : List Frame} {meth : Method} {c : Code} {D : va_G} {A : Nat → Prop} {T : Nat → ClassId} (C : GC p s m args meth c cX1_mergePair "FreightRater$Plan" (ws_X1_mergePair) 7 D A (zty T)) (E : GE T A s) (hr : meth.sig.returnType = (some .boolean)) (S0 : HS) (K116 : Nat → Int32 → Int32 → Int32 → Int32 → HS → Prop) (P : Int32 → HS → Prop) (hK116 : ∀ (x0 : Nat) (x1 : Int32) (x2 : Int32) (x3 : Int32) (x4 : Int32) (S : HS) (L : List Nat), wt S → hL S L → ext S0 S → (hK S x0 = 2) → K116 x0 x1 x2 x3 x4 S → GW p l e { rm_X1_mergePair with cells := 0, slots := 0 } s m args below meth c D A 7 0 0 (MQ below (va_Qi (fun v (u : HS × List Nat) => P v u.1 ∧ CO S0 u) (CE D T A) A) args s 0 0 A) (CW T S L) 0 0 116 [(0, .ref x0), (1, .int x1), (2, .int x2), (3, .int x3), (4, .int x4)] []) : ∀ (n : Nat) (x0 : Nat) (x1 : Int32) (x2 : Int32) (x3 : Int32) (x4 : Int32) (x5 : Int32) (S : HS) (L : List Nat), wt S → hL S L → ext S0 S → (hK S x0 = 2) → wp_X1_mergePair_21 K116 P n x0 x1 x2 x3 x4 x5 S → GW p l e { rm_X1_mergePair with cells := 0, slots := 0 } s m args below meth c D A 7 0 0 (MQ below (va_Qi (fun v (u : HS × List Nat) => P v u.1 ∧ CO S0 u) (CE D T A) A) args s 0 0 A) (CW T S L) 0 0 21 [(0, .ref x0), (1, .int x1), (2, .int x2), (3, .int x3), (4, .int x4), (5, .int x5)] [] := by
  have hW : ∀ {w : Cond}, w ∈ W0 → w.before args s = true := fun h => C.2.2.2.2.1 _ (List.mem_cons_of_mem _ h)
  intro n
  induction n with
  | zero => intro x0 x1 x2 x3 x4 x5 S L hw hL he hx0 h; exact h.elim
  | succ n ih =>
    intro x0 x1 x2 x3 x4 x5 S L hw hL he hx0 h
    replace h : wb_X1_mergePair_21 (wp_X1_mergePair_21 K116 P n) K116 P x0 x1 x2 x3 x4 x5 S := h
    unfold wb_X1_mergePair_21 at h
    refine g_iload C dX1_mergePair_21 5 rfl ?_
    refine g_aload_n C dX1_mergePair_23 rfl 0 rfl ?_
    refine gc_getI C iwx_X1 hL hx0 (by decide) (by decide) rfl 7 (by decide) (hW kw_223) rfl rfl rfl dX1_mergePair_24 ?_
    refine g_icmp_ge (tgt := 116) C dX1_mergePair_27 (by decide) (fun z2 => ?_) (fun z2 => ?_)
    · replace h := h.1 z2
      refine g_locals [0, 1, 2, 3, 4] rfl ?_
      exact hK116 x0 x1 x2 x3 x4 S L hw hL he hx0 h
    · replace h := h.2 z2
      refine g_aload_n C dX1_mergePair_30 rfl 0 rfl ?_
      refine gc_getR C hw iwx_X1 hL hx0 (by decide) (by decide) rfl 6 (by decide) (hW kw_221) rfl rfl rfl dX1_mergePair_31 (fun o3 eo3 ko3 => ?_)
      obtain ⟨b4, hb9, h⟩ := h
      have g5 : hK S b4 = 22 := ko3 b4 (eo3.trans hb9)
      replace h := h g5
      refine g_opt (eo3.trans hb9) ?_
      refine g_iload C dX1_mergePair_34 4 rfl ?_
      obtain ⟨g6, h⟩ := h
      refine gc_iald C hL g5 g6 dX1_mergePair_36 ?_
      refine g_aload_n C dX1_mergePair_37 rfl 0 rfl ?_
      refine gc_getR C hw iwx_X1 hL hx0 (by decide) (by decide) rfl 6 (by decide) (hW kw_221) rfl rfl rfl dX1_mergePair_38 (fun o7 eo7 ko7 => ?_)
      obtain ⟨b8, hb9, h⟩ := h
      have g9 : hK S b8 = 22 := ko7 b8 (eo7.trans hb9)
      replace h := h g9
      refine g_opt (eo7.trans hb9) ?_
      refine g_iload C dX1_mergePair_41 5 rfl ?_
      obtain ⟨g10, h⟩ := h
      refine gc_iald C hL g9 g10 dX1_mergePair_43 ?_
      refine g_icmp_ge (tgt := 68) C dX1_mergePair_44 (by decide) (fun z11 => ?_) (fun z11 => ?_)
      · replace h := h.1 z11
        refine g_iconst (v := 0) C dX1_mergePair_68 (by decide) ?_
        refine g_locals [0, 1, 2, 3, 4, 5] rfl ?_
        refine t_X1_mergePair_69 C E hr S0 _ P ?_ x0 x1 x2 x3 x4 x5 0 S L hw hL he hx0 h
        · intro y28_x0 y28_x1 y28_x2 y28_x3 y28_x4 y28_x5 Sy28_ Ly28_ hwy28_ hLy28_ hey28_ hy28_x0 h
          replace h := h hy28_x0
          refine g_locals [0, 1, 2, 3, 4, 5] rfl ?_
          exact ih y28_x0 y28_x1 y28_x2 y28_x3 y28_x4 y28_x5 Sy28_ Ly28_ hwy28_ hLy28_ hey28_ hy28_x0 h
      · replace h := h.2 z11
        refine g_aload_n C dX1_mergePair_47 rfl 0 rfl ?_
        refine g_aload_n C dX1_mergePair_48 rfl 0 rfl ?_
        refine gc_getR C hw iwx_X1 hL hx0 (by decide) (by decide) rfl 6 (by decide) (hW kw_221) rfl rfl rfl dX1_mergePair_49 (fun o29 eo29 ko29 => ?_)
        obtain ⟨b30, hb9, h⟩ := h
        have g31 : hK S b30 = 22 := ko29 b30 (eo29.trans hb9)
        replace h := h g31
        refine g_opt (eo29.trans hb9) ?_
        refine g_iload C dX1_mergePair_52 4 rfl ?_
        obtain ⟨g32, h⟩ := h
        refine gc_iald C hL g31 g32 dX1_mergePair_54 ?_
        refine g_aload_n C dX1_mergePair_55 rfl 0 rfl ?_
        refine gc_getR C hw iwx_X1 hL hx0 (by decide) (by decide) rfl 6 (by decide) (hW kw_221) rfl rfl rfl dX1_mergePair_56 (fun o33 eo33 ko33 => ?_)
        obtain ⟨b34, hb9, h⟩ := h
        have g35 : hK S b34 = 22 := ko33 b34 (eo33.trans hb9)
        replace h := h g35
        refine g_opt (eo33.trans hb9) ?_
        refine g_iload C dX1_mergePair_59 5 rfl ?_
        obtain ⟨g36, h⟩ := h
        refine gc_iald C hL g35 g36 dX1_mergePair_61 ?_
        obtain ⟨m37, h⟩ := h
        obtain ⟨g38, h⟩ := h
        refine gc_calliV (host := "") C E hw hL hx0 (by decide) (by decide) rfl [.int (hA S b30 (Int32.toNatClampNeg x4)), .int (hA S b34 (Int32.toNatClampNeg x5))] rfl (k_X1_savingOf l D T x0 (hA S b30 (Int32.toNatClampNeg x4)) (hA S b34 (Int32.toNatClampNeg x5)) S m37 hx0 g38) (w0_V 2 C.2.2.2.2.1 kw_1414 kw_1416 ks_47 kw_8 kw_1417 rfl rfl (by decide +kernel) ⟨Nat.le_of_ble_eq_true rfl, Nat.le_of_ble_eq_true rfl⟩) rfl (Nat.le_of_ble_eq_true rfl) (Nat.le_refl _) (Nat.le_refl _) (Nat.zero_le _) (Nat.zero_le _) dX1_mergePair_62 (fun v9 S9 L39 he9 hw9 hL9 hp => ?_)
        obtain ⟨hv9, hs9⟩ := hp
        replace hs9 := hs9.symm
        subst hs9
        replace hv9 := hv9.symm
        subst hv9
        have w42 := hL9
        refine g_goto (tgt := 69) C dX1_mergePair_65 (by decide) ?_
        refine g_locals [0, 1, 2, 3, 4, 5] rfl ?_
        refine t_X1_mergePair_69 C E hr S0 _ P ?_ x0 x1 x2 x3 x4 x5 ((if hA S (m37 1) (iv (hA S b30 (Int32.toNatClampNeg x4)) ||| iv (hA S b34 (Int32.toNatClampNeg x5))) = -1 then 0 else hA S (m37 1) (iv (hA S b30 (Int32.toNatClampNeg x4))) + hA S (m37 1) (iv (hA S b34 (Int32.toNatClampNeg x5))) - hA S (m37 1) (iv (hA S b30 (Int32.toNatClampNeg x4)) ||| iv (hA S b34 (Int32.toNatClampNeg x5))))) S L39 hw w42 he hx0 h
        · intro y43_x0 y43_x1 y43_x2 y43_x3 y43_x4 y43_x5 Sy43_ Ly43_ hwy43_ hLy43_ hey43_ hy43_x0 h
          replace h := h hy43_x0
          refine g_locals [0, 1, 2, 3, 4, 5] rfl ?_
          exact ih y43_x0 y43_x1 y43_x2 y43_x3 y43_x4 y43_x5 Sy43_ Ly43_ hwy43_ hLy43_ hey43_ hy43_x0 h
def wb_X1_mergePair_9 (rec : Nat → Int32 → Int32 → Int32 → Int32 → HS → Prop) (K122 : Nat → Int32 → Int32 → Int32 → HS → Prop) (P : Int32 → HS → Prop) (x0 : Nat) (x1 : Int32) (x2 : Int32) (x3 : Int32) (x4 : Int32) (S : HS) : Prop := ((hI S 47 x0) ≤ x4 → (K122 x0 x1 x2 x3 S)) ∧ (¬ (hI S 47 x0) ≤ x4 → (∃ k46 : Nat, wp_X1_mergePair_21 (fun (y44_x0 : Nat) (y44_x1 : Int32) (y44_x2 : Int32) (y44_x3 : Int32) (y44_x4 : Int32) (Sy44_ : HS) => (hK Sy44_ y44_x0 = 2) → (∀ v45 : Int32, v45 = y44_x4 + 1 → (rec y44_x0 y44_x1 y44_x2 y44_x3 v45 Sy44_))) P k46 x0 x1 x2 x3 x4 0 S))
def wp_X1_mergePair_9 (K122 : Nat → Int32 → Int32 → Int32 → HS → Prop) (P : Int32 → HS → Prop) : Nat → Nat → Int32 → Int32 → Int32 → Int32 → HS → Prop
  | 0 => fun _ _ _ _ _ _ => False
  | n + 1 => fun x0 x1 x2 x3 x4 S => wb_X1_mergePair_9 (wp_X1_mergePair_9 K122 P n) K122 P x0 x1 x2 x3 x4 S
set_option maxRecDepth 100000 in
set_option maxHeartbeats 4000000 in
theorem t_X1_mergePair_9 {p : Program} {l : Launch} {e : Env} {s : State} {m : MethodId} {args : Array Value} {below : List Frame} {meth : Method} {c : Code} {D : va_G} {A : Nat → Prop} {T : Nat → ClassId} (C : GC p s m args meth c cX1_mergePair "FreightRater$Plan" (ws_X1_mergePair) 7 D A (zty T)) (E : GE T A s) (hr : meth.sig.returnType = (some .boolean)) (S0 : HS) (K122 : Nat → Int32 → Int32 → Int32 → HS → Prop) (P : Int32 → HS → Prop) (hK122 : ∀ (x0 : Nat) (x1 : Int32) (x2 : Int32) (x3 : Int32) (S : HS) (L : List Nat), wt S → hL S L → ext S0 S → (hK S x0 = 2) → K122 x0 x1 x2 x3 S → GW p l e { rm_X1_mergePair with cells := 0, slots := 0 } s m args below meth c D A 7 0 0 (MQ below (va_Qi (fun v (u : HS × List Nat) => P v u.1 ∧ CO S0 u) (CE D T A) A) args s 0 0 A) (CW T S L) 0 0 122 [(0, .ref x0), (1, .int x1), (2, .int x2), (3, .int x3)] []) : ∀ (n : Nat) (x0 : Nat) (x1 : Int32) (x2 : Int32) (x3 : Int32) (x4 : Int32) (S : HS) (L : List Nat), wt S → hL S L → ext S0 S → (hK S x0 = 2) → wp_X1_mergePair_9 K122 P n x0 x1 x2 x3 x4 S → GW p l e { rm_X1_mergePair with cells := 0, slots := 0 } s m args below meth c D A 7 0 0 (MQ below (va_Qi (fun v (u : HS × List Nat) => P v u.1 ∧ CO S0 u) (CE D T A) A) args s 0 0 A) (CW T S L) 0 0 9 [(0, .ref x0), (1, .int x1), (2, .int x2), (3, .int x3), (4, .int x4)] [] := by
  have hW : ∀ {w : Cond}, w ∈ W0 → w.before args s = true := fun h => C.2.2.2.2.1 _ (List.mem_cons_of_mem _ h)
  intro n
  induction n with
  | zero => intro x0 x1 x2 x3 x4 S L hw hL he hx0 h; exact h.elim
  | succ n ih =>
    intro x0 x1 x2 x3 x4 S L hw hL he hx0 h
    replace h : wb_X1_mergePair_9 (wp_X1_mergePair_9 K122 P n) K122 P x0 x1 x2 x3 x4 S := h
    unfold wb_X1_mergePair_9 at h
    refine g_iload C dX1_mergePair_9 4 rfl ?_
    refine g_aload_n C dX1_mergePair_11 rfl 0 rfl ?_
    refine gc_getI C iwx_X1 hL hx0 (by decide) (by decide) rfl 7 (by decide) (hW kw_223) rfl rfl rfl dX1_mergePair_12 ?_
    refine g_icmp_ge (tgt := 122) C dX1_mergePair_15 (by decide) (fun z1 => ?_) (fun z1 => ?_)
    · replace h := h.1 z1
      refine g_locals [0, 1, 2, 3] rfl ?_
      exact hK122 x0 x1 x2 x3 S L hw hL he hx0 h
    · replace h := h.2 z1
      refine g_iconst (v := 0) C dX1_mergePair_18 (by decide) ?_
      refine g_istore (lv' := [(5, .int 0), (0, .ref x0), (1, .int x1), (2, .int x2), (3, .int x3), (4, .int x4)]) C dX1_mergePair_19 (by decide) rfl ?_
      refine g_locals [1, 2, 3, 4, 5, 0] rfl ?_
      obtain ⟨k46, h⟩ := h
      refine t_X1_mergePair_21 C E hr S0 _ P ?_ k46 x0 x1 x2 x3 x4 0 S L hw hL he hx0 h
      · intro y44_x0 y44_x1 y44_x2 y44_x3 y44_x4 Sy44_ Ly44_ hwy44_ hLy44_ hey44_ hy44_x0 h
        replace h := h hy44_x0
        obtain ⟨v45, ev45⟩ : ∃ y : Int32, y = y44_x4 + 1 := ⟨_, rfl⟩
        replace h := h v45 ev45
        refine g_iinc (v := v45) (lv' := [(4, .int v45), (0, .ref y44_x0), (1, .int y44_x1), (2, .int y44_x2), (3, .int y44_x3)]) C dX1_mergePair_116 (j := 4) rfl (by rw [ev45]; rfl) (by decide) rfl ?_
        refine g_goto (tgt := 9) C dX1_mergePair_119 (by decide) ?_
        refine g_locals [1, 2, 3, 4, 0] rfl ?_
        exact ih y44_x0 y44_x1 y44_x2 y44_x3 v45 Sy44_ Ly44_ hwy44_ hLy44_ hey44_ hy44_x0 h
def wp_X1_mergePair (P : Int32 → HS → Prop) (x0 : Nat) (S : HS) : Prop := ∃ k84 : Nat, wp_X1_mergePair_9 (fun (y47_x0 : Nat) (y47_x1 : Int32) (y47_x2 : Int32) (y47_x3 : Int32) (Sy47_ : HS) => (hK Sy47_ y47_x0 = 2) → ((¬ y47_x1 = 0 → (∃ b50 : Nat, hR Sy47_ 46 y47_x0 = some b50 ∧ (hK Sy47_ b50 = 22 → (vp_in y47_x2 (hN Sy47_ b50) ∧ (∃ b54 : Nat, hR Sy47_ 46 y47_x0 = some b54 ∧ (hK Sy47_ b54 = 22 → (vp_in y47_x3 (hN Sy47_ b54) ∧ (vp_in y47_x2 (hN Sy47_ b50) ∧ (∀ S59 : HS, S59 = putA Sy47_ b50 (Int32.toNatClampNeg y47_x2) ((hA Sy47_ b50 (Int32.toNatClampNeg y47_x2)) ||| (hA Sy47_ b54 (Int32.toNatClampNeg y47_x3))) → (∀ S65 : HS, S65 = putI S59 47 y47_x0 ((hI S59 47 y47_x0) - 1) → (∃ b71 : Nat, hR S65 46 y47_x0 = some b71 ∧ (hK S65 b71 = 22 → (∃ b74 : Nat, hR S65 46 y47_x0 = some b74 ∧ (hK S65 b74 = 22 → (vp_in (hI S65 47 y47_x0) (hN S65 b74) ∧ (vp_in y47_x3 (hN S65 b71) ∧ (∀ S79 : HS, S79 = putA S65 b71 (Int32.toNatClampNeg y47_x3) (hA S65 b74 (Int32.toNatClampNeg (hI S65 47 y47_x0))) → (P 1 S79)))))))))))))))))) ∧ (y47_x1 = 0 → (P 0 Sy47_)))) P k84 x0 0 0 0 0 S
set_option maxRecDepth 100000 in
set_option maxHeartbeats 4000000 in
theorem t_X1_mergePair {p : Program} {l : Launch} {e : Env} {s : State} {m : MethodId} {args : Array Value} {below : List Frame} {meth : Method} {c : Code} {D : va_G} {A : Nat → Prop} {T : Nat → ClassId} (C : GC p s m args meth c cX1_mergePair "FreightRater$Plan" (ws_X1_mergePair) 7 D A (zty T)) (E : GE T A s) (hr : meth.sig.returnType = (some .boolean)) (P : Int32 → HS → Prop) : ∀ (x0 : Nat) (S0 S : HS) (L : List Nat), S0 = S → wt S → hL S L → (hK S x0 = 2) → wp_X1_mergePair P x0 S → GW p l e { rm_X1_mergePair with cells := 0, slots := 0 } s m args below meth c D A 7 0 0 (MQ below (va_Qi (fun v (u : HS × List Nat) => P v u.1 ∧ CO S0 u) (CE D T A) A) args s 0 0 A) (CW T S L) 0 0 0 [(0, .ref x0)] [] := by
  have hW : ∀ {w : Cond}, w ∈ W0 → w.before args s = true := fun h => C.2.2.2.2.1 _ (List.mem_cons_of_mem _ h)
  intro x0 S0 S L hS0 hw hL hx0 h
  have he : ext S0 S := by rw [hS0]; exact ext_rf
  unfold wp_X1_mergePair at h
  refine g_iconst (v := 0) C dX1_mergePair_0 (by decide) ?_
  refine g_istore_n (lv' := [(1, .int 0), (0, .ref x0)]) C dX1_mergePair_1 rfl (by decide) rfl ?_
  refine g_iconst (v := 0) C dX1_mergePair_2 (by decide) ?_
  refine g_istore_n (lv' := [(2, .int 0), (1, .int 0), (0, .ref x0)]) C dX1_mergePair_3 rfl (by decide) rfl ?_
  refine g_iconst (v := 0) C dX1_mergePair_4 (by decide) ?_
  refine g_istore_n (lv' := [(3, .int 0), (2, .int 0), (1, .int 0), (0, .ref x0)]) C dX1_mergePair_5 rfl (by decide) rfl ?_
  refine g_iconst (v := 0) C dX1_mergePair_6 (by decide) ?_
  refine g_istore (lv' := [(4, .int 0), (3, .int 0), (2, .int 0), (1, .int 0), (0, .ref x0)]) C dX1_mergePair_7 (by decide) rfl ?_
  refine g_locals [4, 3, 2, 1, 0] rfl ?_
  obtain ⟨k84, h⟩ := h
  refine t_X1_mergePair_9 C E hr S0 _ P ?_ k84 x0 0 0 0 0 S L hw hL he hx0 h
  · intro y47_x0 y47_x1 y47_x2 y47_x3 Sy47_ Ly47_ hwy47_ hLy47_ hey47_ hy47_x0 h
    replace h := h hy47_x0
    refine g_iload_n C dX1_mergePair_122 rfl 1 rfl ?_
    refine g_if_ne (tgt := 128) C dX1_mergePair_123 (by decide) (fun z48 => ?_) (fun z48 => ?_)
    · replace h := h.1 z48
      refine g_aload_n C dX1_mergePair_128 rfl 0 rfl ?_
      refine gc_getR C hwy47_ iwx_X1 hLy47_ hy47_x0 (by decide) (by decide) rfl 6 (by decide) (hW kw_221) rfl rfl rfl dX1_mergePair_129 (fun o49 eo49 ko49 => ?_)
      obtain ⟨b50, hb9, h⟩ := h
      have g51 : hK Sy47_ b50 = 22 := ko49 b50 (eo49.trans hb9)
      replace h := h g51
      refine g_opt (eo49.trans hb9) ?_
      refine g_iload_n C dX1_mergePair_132 rfl 2 rfl ?_
      refine g_dup2 C dX1_mergePair_133 rfl rfl ?_
      obtain ⟨g52, h⟩ := h
      refine gc_iald C hLy47_ g51 g52 dX1_mergePair_134 ?_
      refine g_aload_n C dX1_mergePair_135 rfl 0 rfl ?_
      refine gc_getR C hwy47_ iwx_X1 hLy47_ hy47_x0 (by decide) (by decide) rfl 6 (by decide) (hW kw_221) rfl rfl rfl dX1_mergePair_136 (fun o53 eo53 ko53 => ?_)
      obtain ⟨b54, hb9, h⟩ := h
      have g55 : hK Sy47_ b54 = 22 := ko53 b54 (eo53.trans hb9)
      replace h := h g55
      refine g_opt (eo53.trans hb9) ?_
      refine g_iload_n C dX1_mergePair_139 rfl 3 rfl ?_
      obtain ⟨g56, h⟩ := h
      refine gc_iald C hLy47_ g55 g56 dX1_mergePair_140 ?_
      refine g_ior C dX1_mergePair_141 ?_
      obtain ⟨g57, h⟩ := h
      refine gc_iast C hLy47_ g51 g57 dX1_mergePair_142 ?_
      have w58 := wt_putA hwy47_ (Int32.toNatClampNeg y47_x2) ((hA Sy47_ b50 (Int32.toNatClampNeg y47_x2)) ||| (hA Sy47_ b54 (Int32.toNatClampNeg y47_x3))) (k_ne g51 (by decide))
      refine gc_nS (fun S59 eS59 => ?_)
      replace h := h S59 eS59
      have w60 : wt S59 := by rw [eS59]; exact w58
      have w61 : isL S59 Ly47_ := by rw [eS59]; exact hLy47_
      have w62 : ext S0 S59 := by rw [eS59]; exact hey47_
      have g63 : hK S59 y47_x0 = 2 := by rw [eS59]; exact hy47_x0
      refine g_aload_n C dX1_mergePair_143 rfl 0 rfl ?_
      refine g_dup C dX1_mergePair_144 rfl ?_
      refine gc_getI C iwx_X1 w61 g63 (by decide) (by decide) rfl 7 (by decide) (hW kw_223) rfl rfl rfl dX1_mergePair_145 ?_
      refine g_iconst (v := 1) C dX1_mergePair_148 (by decide) ?_
      refine g_isub C dX1_mergePair_149 ?_
      refine gc_putI C iwx_X1 w61 g63 (by decide) (by decide) rfl 7 (by decide) (hW kw_223) rfl tyX1 tyX1_ok nmX1 rfl rfl rfl rfl rfl dX1_mergePair_150 ?_
      have w64 := wt_putI w60 47 ((hI S59 47 y47_x0) - 1) (k_ne g63 (by decide))
      refine gc_nS (fun S65 eS65 => ?_)
      replace h := h S65 eS65
      have w66 : wt S65 := by rw [eS65]; exact w64
      have w67 : isL S65 Ly47_ := by rw [eS65]; exact w61
      have w68 : ext S0 S65 := by rw [eS65]; exact w62
      have g69 : hK S65 y47_x0 = 2 := by rw [eS65]; exact g63
      refine g_aload_n C dX1_mergePair_153 rfl 0 rfl ?_
      refine gc_getR C w66 iwx_X1 w67 g69 (by decide) (by decide) rfl 6 (by decide) (hW kw_221) rfl rfl rfl dX1_mergePair_154 (fun o70 eo70 ko70 => ?_)
      obtain ⟨b71, hb9, h⟩ := h
      have g72 : hK S65 b71 = 22 := ko70 b71 (eo70.trans hb9)
      replace h := h g72
      refine g_opt (eo70.trans hb9) ?_
      refine g_iload_n C dX1_mergePair_157 rfl 3 rfl ?_
      refine g_aload_n C dX1_mergePair_158 rfl 0 rfl ?_
      refine gc_getR C w66 iwx_X1 w67 g69 (by decide) (by decide) rfl 6 (by decide) (hW kw_221) rfl rfl rfl dX1_mergePair_159 (fun o73 eo73 ko73 => ?_)
      obtain ⟨b74, hb9, h⟩ := h
      have g75 : hK S65 b74 = 22 := ko73 b74 (eo73.trans hb9)
      replace h := h g75
      refine g_opt (eo73.trans hb9) ?_
      refine g_aload_n C dX1_mergePair_162 rfl 0 rfl ?_
      refine gc_getI C iwx_X1 w67 g69 (by decide) (by decide) rfl 7 (by decide) (hW kw_223) rfl rfl rfl dX1_mergePair_163 ?_
      obtain ⟨g76, h⟩ := h
      refine gc_iald C w67 g75 g76 dX1_mergePair_166 ?_
      obtain ⟨g77, h⟩ := h
      refine gc_iast C w67 g72 g77 dX1_mergePair_167 ?_
      have w78 := wt_putA w66 (Int32.toNatClampNeg y47_x3) (hA S65 b74 (Int32.toNatClampNeg (hI S65 47 y47_x0))) (k_ne g72 (by decide))
      refine gc_nS (fun S79 eS79 => ?_)
      replace h := h S79 eS79
      have w80 : wt S79 := by rw [eS79]; exact w78
      have w81 : isL S79 Ly47_ := by rw [eS79]; exact w67
      have w82 : ext S0 S79 := by rw [eS79]; exact w68
      have g83 : hK S79 y47_x0 = 2 := by rw [eS79]; exact g69
      refine g_iconst (v := 1) C dX1_mergePair_168 (by decide) ?_
      exact gc_zret C vz1 w80 w81 w82 hr dX1_mergePair_169 h
    · replace h := h.2 z48
      refine g_iconst (v := 0) C dX1_mergePair_126 (by decide) ?_
      exact gc_zret C vz0 hwy47_ hLy47_ hey47_ hr dX1_mergePair_127 h
theorem c_X1_mergePair (l : Launch) (D : va_G) (T : Nat → ClassId) (x0 : Nat) (S : HS) (hx0 : hK S x0 = 2) (P : Int32 → HS → Prop) (h : wp_X1_mergePair P x0 S) : CMi l yX1_mergePair (ws_X1_mergePair) rm_X1_mergePair D T [.ref x0] S 0 0 P := gc_meti (by decide) rfl rfl (Nat.le_of_ble_eq_true rfl) (fun p e s m args below meth c A L C E hnm hr hw hL => t_X1_mergePair C E   hr P x0 S S L rfl hw hL hx0 h)
/-- the best pair so far -/
def msR (n : Nat) (s : MS) (x1 x2 x3 : Int32) : Prop := x1 = s.1 ∧ (s.2 = none → s.1 = 0 ∧ x2 = 0 ∧ x3 = 0) ∧ ∀ o p, s.2 = some (o, p) → 0 < s.1 ∧ o < n ∧ p < n ∧ x2 = nI o ∧ x3 = nI p
theorem msR.ge {n : Nat} {s : MS} {x1 x2 x3 : Int32} (h : msR n s x1 x2 x3) : 0 ≤ s.1 := by
  cases e : s.2 with
  | none => rw [(h.2.1 e).1]; decide
  | some z => exact Int32.le_of_lt (h.2.2 z.1 z.2 e).1
theorem msR.nw {n a b : Nat} {x1 : Int32} (h : 0 < x1) (ha : a < n) (hb : b < n) : msR n (x1, some (a, b)) x1 (nI a) (nI b) := by
  refine ⟨rfl, fun z => (by cases z), fun o p z => ?_⟩
  have e := Option.some.inj z
  have e1 : a = o := congrArg (fun y : Nat × Nat => y.1) e
  have e2 : b = p := congrArg (fun y : Nat × Nat => y.2) e
  subst e1 e2
  exact ⟨h, ha, hb, rfl, rfl⟩
theorem w_mp {K : Nat → Int32 → Int32 → Int32 → Int32 → Int32 → HS → Prop} {P : Int32 → HS → Prop} {S : HS} {x : Nat} {e : Nat → Nat} {G : List Nat} {T : Nat → Int32} {a b : Nat} {s : MS} {x1 x2 x3 s0 : Int32} (hO : PlO S x e) (hG : PlP S x e G) (ha : a < G.length) (hb : b < G.length) (hs : msR G.length s x1 x2 x3) (h0 : s0 = if gl G a < gl G b ∧ 0 ≤ T (gl G a ||| gl G b) then gaF T G a b else 0) (hK : ∀ y1 y2 y3, msR G.length (fpS T G a b s) y1 y2 y3 → K x y1 y2 y3 (nI a) (nI (b + 1)) S) : wp_X1_mergePair_69 K P x x1 x2 x3 (nI a) (nI b) s0 S := by
  have h8 := hG.2.1
  have hge := hs.ge
  have e1 := hs.1
  subst e1
  have hit : ∀ y : Int32, y = nI b + 1 → 0 < s0 → s.1 < s0 ∨ (s0 = s.1 ∧ sonB T G a b s = true) → K x s0 (nI a) (nI b) (nI a) y S := fun y ey hp hh => by
    rw [nI_1] at ey
    subst ey
    refine hK _ _ _ ?_
    by_cases c : gl G a < gl G b ∧ 0 ≤ T (gl G a ||| gl G b)
    · rw [if_pos c] at h0
      unfold fpS
      rw [if_pos c, if_pos (by rw [← h0]; exact hh.imp id And.right), ← h0]
      exact msR.nw hp ha hb
    · rw [if_neg c] at h0
      rw [h0] at hp
      exact absurd hp (by decide)
  have miss : ∀ y : Int32, y = nI b + 1 → (0 < s0 → ¬ (s.1 < s0 ∨ (s0 = s.1 ∧ sonB T G a b s = true))) → K x s.1 x2 x3 (nI a) y S := fun y ey hh => by
    rw [nI_1] at ey
    subst ey
    refine hK _ _ _ ?_
    unfold fpS
    by_cases c : gl G a < gl G b ∧ 0 ≤ T (gl G a ||| gl G b)
    · rw [if_pos c] at h0 ⊢
      rw [if_neg ?_]
      · exact hs
      · rw [← h0]
        intro w
        by_cases hp : 0 < s0
        · refine hh hp (w.imp id (fun z => ⟨?_, z⟩))
          unfold sonB at z
          cases e9 : s.2 with
          | none => rw [e9] at z; cases z
          | some op =>
            rw [e9] at z
            obtain ⟨o, p⟩ := op
            rw [Bool.and_eq_true, decide_eq_true_eq] at z
            rw [h0]
            exact z.1
        · rcases w with w | w
          · exact hp (Int32.lt_of_le_of_lt hge w)
          · unfold sonB at w
            cases e9 : s.2 with
            | none => rw [e9] at w; cases w
            | some op =>
              rw [e9] at w
              obtain ⟨o, p⟩ := op
              rw [Bool.and_eq_true, decide_eq_true_eq] at w
              have := (hs.2.2 o p e9).1
              rw [← w.1, ← h0] at this
              exact hp this
    · rw [if_neg c]
      exact hs
  unfold wp_X1_mergePair_69
  refine ⟨fun c v ev => hit v ev (Int32.lt_of_le_of_lt hge c) (Or.inl c), fun c => ⟨fun c2 v ev => miss v ev (fun z => absurd c2 (Int32.not_le.mpr z)), fun c2 => ⟨fun c3 v ev => miss v ev (fun _ z => z.elim c (fun z9 => c3 z9.1)), fun c3 => ?_⟩⟩⟩
  have hp : 0 < s0 := Int32.not_le.mp c2
  cases e9 : s.2 with
  | none =>
    rw [(hs.2.1 e9).1] at c3
    rw [c3] at hp
    exact absurd hp (by decide)
  | some op =>
    obtain ⟨o, p⟩ := op
    obtain ⟨_, ho, hp', eo, ep⟩ := hs.2.2 o p e9
    subst eo ep
    refine ⟨e, G, ⟨hO, hG, ⟨a, ha, rfl⟩, ⟨b, hb, rfl⟩, ⟨o, ho, rfl⟩, ⟨p, hp', rfl⟩⟩, ?_⟩
    rw [show iv (nI a) = a from nI_clamp (by omega), show iv (nI b) = b from nI_clamp (by omega), show iv (nI o) = o from nI_clamp (by omega), show iv (nI p) = p from nI_clamp (by omega), b2i_0]
    have hson : 0 < s0 → sonB T G a b s = (decide (gl G a < gl G o) || (decide (gl G a = gl G o) && decide (gl G b < gl G p))) := fun _ => by
      unfold sonB
      rw [e9]
      by_cases c4 : gl G a < gl G b ∧ 0 ≤ T (gl G a ||| gl G b)
      · rw [if_pos c4] at h0
        show (decide (gaF T G a b = s.1) && _) = _
        rw [← h0, c3, decide_eq_true rfl, Bool.true_and]
      · rw [if_neg c4] at h0
        rw [h0] at hp
        exact absurd hp (by decide)
    rw [← hson hp]
    exact ⟨fun z v ev => miss v ev (fun _ w => w.elim c (fun w9 => by rw [z] at w9; exact absurd w9.2 (by decide))), fun z v ev => hit v ev hp (Or.inr ⟨c3, by
      cases q : sonB T G a b s with
      | true => rfl
      | false => exact absurd q z⟩)⟩
theorem rl_mpB {K : Nat → Int32 → Int32 → Int32 → Int32 → HS → Prop} {P : Int32 → HS → Prop} {S : HS} {x : Nat} {e : Nat → Nat} {G : List Nat} {a : Nat} (hO : PlO S x e) (hG : PlP S x e G) (hT : ∀ i j, i < G.length → j < G.length → hA S (e 1) (gl G i ||| gl G j) = -1 ∨ 0 ≤ hA S (e 1) (gl G i ||| gl G j)) (ha : a < G.length) : ∀ (k b fuel : Nat) (s : MS) (x1 x2 x3 : Int32), b + k = G.length → k < fuel → msR G.length s x1 x2 x3 → (∀ y1 y2 y3, msR G.length (fpB (hA S (e 1)) G a k b s) y1 y2 y3 → K x y1 y2 y3 (nI a) S) → wp_X1_mergePair_21 K P fuel x x1 x2 x3 (nI a) (nI b) S := by
  have hG0 := hG
  obtain ⟨h47, h8, hh⟩ := hG
  obtain ⟨ga, ga2⟩ := hh a ha
  have va : vp_in (nI a) 8 := by rw [nz_vp (by omega) (by decide)]; omega
  intro k
  induction k with
  | zero =>
    intro b fuel s x1 x2 x3 hb hf hs hK
    obtain ⟨f, rfl⟩ : ∃ f, fuel = f + 1 := ⟨fuel - 1, by omega⟩; rw [wp_X1_mergePair_21]; unfold wb_X1_mergePair_21; dsimp only
    rw [h47, nI_leI (by omega) (by omega)]
    exact ⟨fun _ => hK _ _ _ hs, fun z9 => absurd (by omega) z9⟩
  | succ k ih =>
    intro b fuel s x1 x2 x3 hb hf hs hK
    obtain ⟨gb, gb2⟩ := hh b (by omega)
    have vb : vp_in (nI b) 8 := by rw [nz_vp (by omega) (by decide)]; omega
    rw [fpB] at hK
    obtain ⟨f, rfl⟩ : ∃ f, fuel = f + 1 := ⟨fuel - 1, by omega⟩; rw [wp_X1_mergePair_21]; unfold wb_X1_mergePair_21; dsimp only
    rw [h47, nI_leI (by omega) (by omega)]
    refine ⟨fun z9 => absurd z9 (by omega), fun _ => ⟨e 5, hO.pts, fun _ => ?_⟩⟩
    rw [hO.n5, nI_clamp (n := a) (by omega), nI_clamp (n := b) (by omega), ga]
    refine ⟨va, e 5, hO.pts, fun _ => ?_⟩
    rw [hO.n5, gb, nI_leI (by omega) (by omega)]
    refine ⟨vb, fun c => ?_, fun c => ⟨e 5, hO.pts, fun _ => ?_⟩⟩
    · exact w_mp hO hG0 ha (by omega) hs (T := hA S (e 1)) (by rw [if_neg (fun w => absurd w.1 (by omega))]) (fun y1 y2 y3 hy _ => ih (b + 1) f _ _ _ _ (by omega) (by omega) hy hK)
    · rw [hO.n5, ga]
      refine ⟨va, e 5, hO.pts, fun _ => ?_⟩
      rw [hO.n5, gb]
      refine ⟨vb, e, ⟨hO, ⟨gl G a, ga2, rfl⟩, gl G b, gb2, rfl⟩, ?_⟩
      rw [show iv (nI (gl G a)) = gl G a from nI_clamp (by omega), show iv (nI (gl G b)) = gl G b from nI_clamp (by omega)]
      refine w_mp hO hG0 ha (by omega) hs (T := hA S (e 1)) ?_ (fun y1 y2 y3 hy _ => ih (b + 1) f _ _ _ _ (by omega) (by omega) hy hK)
      by_cases c2 : hA S (e 1) (gl G a ||| gl G b) = -1
      · rw [if_pos c2, if_neg (fun w => by rw [c2] at w; exact absurd w.2 (by decide))]
      · rw [if_neg c2, if_pos ⟨by omega, (hT a b ha (by omega)).resolve_left c2⟩]
        rfl
theorem rl_mpA {K : Nat → Int32 → Int32 → Int32 → HS → Prop} {P : Int32 → HS → Prop} {S : HS} {x : Nat} {e : Nat → Nat} {G : List Nat} (hx : hK S x = 2) (hO : PlO S x e) (hG : PlP S x e G) (hT : ∀ i j, i < G.length → j < G.length → hA S (e 1) (gl G i ||| gl G j) = -1 ∨ 0 ≤ hA S (e 1) (gl G i ||| gl G j)) : ∀ (k a fuel : Nat) (s : MS) (x1 x2 x3 : Int32), a + k = G.length → k < fuel → msR G.length s x1 x2 x3 → (∀ y1 y2 y3, msR G.length (fpA (hA S (e 1)) G k a s) y1 y2 y3 → K x y1 y2 y3 S) → wp_X1_mergePair_9 K P fuel x x1 x2 x3 (nI a) S := by
  have hG0 := hG
  obtain ⟨h47, h8, hh⟩ := hG
  intro k
  induction k with
  | zero =>
    intro a fuel s x1 x2 x3 ha hf hs hK
    obtain ⟨f, rfl⟩ : ∃ f, fuel = f + 1 := ⟨fuel - 1, by omega⟩; rw [wp_X1_mergePair_9]; unfold wb_X1_mergePair_9; dsimp only
    rw [h47, nI_leI (by omega) (by omega)]
    exact ⟨fun _ => hK _ _ _ hs, fun z9 => absurd (by omega) z9⟩
  | succ k ih =>
    intro a fuel s x1 x2 x3 ha hf hs hK
    rw [fpA] at hK
    obtain ⟨f, rfl⟩ : ∃ f, fuel = f + 1 := ⟨fuel - 1, by omega⟩; rw [wp_X1_mergePair_9]; unfold wb_X1_mergePair_9; dsimp only
    rw [h47, nI_leI (by omega) (by omega)]
    refine ⟨fun z9 => absurd z9 (by omega), fun _ => ⟨20, rl_mpB hO hG0 hT (show a < G.length by omega) G.length 0 20 s x1 x2 x3 (by omega) (by omega) hs (fun y1 y2 y3 hy _ v ev => ?_)⟩⟩
    rw [nI_1] at ev
    subst ev
    exact ih (a + 1) f _ _ _ _ (by omega) (by omega) hy hK
theorem k_X1_mergePair (l : Launch) (D : va_G) (T : Nat → ClassId) (x0 : Nat) (S : HS) (e0 : Nat → Nat) (e1 : List Nat) (hx0 : hK S x0 = 2) (h : PlO S x0 e0 ∧ PlP S x0 e0 e1 ∧ ∀ i j, i < e1.length → j < e1.length → (hA S (e0 1) (gl e1 i ||| gl e1 j) = -1 ∨ 0 ≤ hA S (e0 1) (gl e1 i ||| gl e1 j))) : CMi l yX1_mergePair (ws_X1_mergePair) rm_X1_mergePair D T [.ref x0] S 0 0 (fun v S1 => (((fpF (hA S (e0 1)) e1).2 = none → v = 0 ∧ S1 = S) ∧ ∀ i j, (fpF (hA S (e0 1)) e1).2 = some (i, j) → v = 1 ∧ frP S S1 x0 e0 [47] [5] ∧ PlP S1 x0 e0 (mgS e1 i j))) := c_X1_mergePair l D T x0 S hx0 _ <|
  (by
    obtain ⟨hO, hG, hT⟩ := h
    have hG0 := hG
    obtain ⟨h47, h8, hh⟩ := hG
    unfold wp_X1_mergePair
    refine ⟨20, rl_mpA hx0 hO hG0 hT e1.length 0 20 (0, none) 0 0 0 (by omega) (by omega) ⟨rfl, fun _ => ⟨rfl, rfl, rfl⟩, fun o p z => (by cases z)⟩ (fun y1 y2 y3 hy _ => ?_)⟩
    have hy : msR e1.length (fpF (hA S (e0 1)) e1) y1 y2 y3 := hy
    cases e9 : (fpF (hA S (e0 1)) e1).2 with
    | none =>
      have : y1 = 0 := hy.1.trans (hy.2.1 e9).1
      refine ⟨fun z => absurd this z, fun _ => ⟨fun _ => ⟨rfl, rfl⟩, fun i j z => (by cases z)⟩⟩
    | some op =>
      obtain ⟨o, p⟩ := op
      obtain ⟨hp, ho, hpl, eo, ep⟩ := hy.2.2 o p e9
      obtain ⟨_, _, hlt⟩ := fpF_ok e9
      obtain ⟨go, go2⟩ := hh o ho
      obtain ⟨gp, gp2⟩ := hh p hpl
      have hy1 : ¬ y1 = 0 := fun z => by rw [hy.1] at z; rw [z] at hp; exact absurd hp (by decide)
      subst eo ep
      have vi : ∀ n : Nat, n < e1.length → vp_in (nI n) 8 := fun n hn => by rw [nz_vp (by omega) (by decide)]; omega
      refine ⟨fun _ => ⟨e0 5, hO.pts, fun _ => ?_⟩, fun z => absurd z hy1⟩
      rw [hO.n5, nI_clamp (n := o) (by omega), nI_clamp (n := p) (by omega), go]
      refine ⟨vi o ho, e0 5, hO.pts, fun _ => ?_⟩
      rw [hO.n5, gp, nI_or]
      refine ⟨vi p hpl, vi o ho, fun S59 e59 S65 e65 => ?_⟩
      have F59 : frP S S59 x0 e0 [47] [5] := by rw [e59]; exact frP.rf.A 5 _ _ (by decide)
      have F65 : frP S S65 x0 e0 [47] [5] := by rw [e65]; exact F59.I 47 _ (by decide)
      have O65 := hO.fr F65
      have i59 : hI S59 47 x0 = nI e1.length := by rw [e59]; exact h47
      rw [i59, nI_p1 (by omega)] at e65
      have i65 : hI S65 47 x0 = nI (e1.length - 1) := by rw [e65]; exact putI_s _ _ _ _
      have a65 : hA S65 (e0 5) = hA S59 (e0 5) := by rw [e65]; rfl
      refine ⟨e0 5, O65.pts, fun _ => ⟨e0 5, O65.pts, fun _ => ?_⟩⟩
      rw [O65.n5, i65, nI_clamp (n := e1.length - 1) (by omega), a65]
      refine ⟨vi _ (by omega), vi p hpl, fun S79 e79 => ⟨fun z => (by cases z), fun i j z => ?_⟩⟩
      have ez := Option.some.inj z
      have ei : o = i := congrArg (fun y : Nat × Nat => y.1) ez
      have ej : p = j := congrArg (fun y : Nat × Nat => y.2) ez
      subst ei ej
      have F79 : frP S S79 x0 e0 [47] [5] := by rw [e79]; exact F65.A 5 _ _ (by decide)
      have b59 : ∀ n, n < e1.length → hA S59 (e0 5) n = nI (if n = o then gl e1 o ||| gl e1 p else gl e1 n) := fun n hn => by
        by_cases c : n = o
        · subst c; rw [e59, putA_s, if_pos rfl]
        · rw [e59, putA_n _ _ c, if_neg c]; exact (hh n hn).1
      refine ⟨rfl, F79, ?_, by rw [mgS_len]; omega, fun n hn => ?_⟩
      · rw [mgS_len, e79]; exact i65
      · rw [mgS_len] at hn
        rw [mgS_gl ho hpl hn]
        have hor := or_256 go2 gp2
        by_cases c : n = p
        · subst c
          rw [if_pos rfl, e79, putA_s, b59 _ (by omega)]
          by_cases c2 : e1.length - 1 = o
          · rw [if_pos c2]; exact ⟨rfl, hor⟩
          · rw [if_neg c2]; exact ⟨rfl, (hh _ (by omega)).2⟩
        · rw [if_neg c, e79, putA_n _ _ c, a65, b59 n (by omega)]
          by_cases c2 : n = o
          · rw [if_pos c2]; exact ⟨rfl, hor⟩
          · rw [if_neg c2]; exact ⟨rfl, (hh n (by omega)).2⟩)

end S_C2D
