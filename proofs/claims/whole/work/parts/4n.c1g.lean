section S_C1G
abbrev ws_X2_isRefusedForDays : List Cond := Cond.code yX2_isRefusedForDays cX2_isRefusedForDays 2 (some .boolean) :: W0
abbrev rm_X2_isRefusedForDays : Room := ({ frames := 1, cells := 0, slots := 0, locals := 22 } : Room)
def wb_X2_isRefusedForDays_2 (rec : Nat → Int32 → HS → Prop) (K40 : Nat → HS → Prop) (P : Int32 → HS → Prop) (x0 : Nat) (x1 : Int32) (S : HS) : Prop := ((hI S 60 x0) ≤ x1 → (K40 x0 S)) ∧ (¬ (hI S 60 x0) ≤ x1 → (∃ b3 : Nat, hR S 61 x0 = some b3 ∧ (hK S b3 = 27 → (vp_in x1 (hN S b3) ∧ (∀ o6 : Option Nat, o6 = hB S b3 (Int32.toNatClampNeg x1) → (∀ b, o6 = some b → hK S b = 6) → (∃ b7 : Nat, o6 = some b7 ∧ (hK S b7 = 6 → ((¬ (hI S 124 b7) = 0 → (∀ v10 : Int32, v10 = x1 + 1 → (rec x0 v10 S))) ∧ ((hI S 124 b7) = 0 → (∃ b12 : Nat, hR S 62 x0 = some b12 ∧ (hK S b12 = 22 → (vp_in x1 (hN S b12) ∧ (∀ (v20 : Int32) (S15 : HS), ext S S15 → (v20 = 1 ∧ S15 = putI (putI S 63 x0 1) 64 x0 (hA S b12 (Int32.toNatClampNeg x1))) → (vz v20 ∧ P v20 S15))))))))))))))
def wp_X2_isRefusedForDays_2 (K40 : Nat → HS → Prop) (P : Int32 → HS → Prop) : Nat → Nat → Int32 → HS → Prop
  | 0 => fun _ _ _ => False
  | n + 1 => fun x0 x1 S => wb_X2_isRefusedForDays_2 (wp_X2_isRefusedForDays_2 K40 P n) K40 P x0 x1 S
set_option maxRecDepth 100000 in
set_option maxHeartbeats 4000000 in
theorem t_X2_isRefusedForDays_2 {p : Program} {l : Launch} {e : Env} {s : State} {m : MethodId} {args : Array Value} {below : List Frame} {meth : Method} {c : Code} {D : va_G} {A : Nat → Prop} {T : Nat → ClassId} (C : GC p s m args meth c cX2_isRefusedForDays "FreightRater$Rating" (ws_X2_isRefusedForDays) 2 D A (zty T)) (E : GE T A s) (hr : meth.sig.returnType = (some .boolean)) (S0 : HS) (K40 : Nat → HS → Prop) (P : Int32 → HS → Prop) (hK40 : ∀ (x0 : Nat) (S : HS) (L : List Nat), wt S → hL S L → ext S0 S → (hK S x0 = 3) → K40 x0 S → GW p l e { rm_X2_isRefusedForDays with cells := 0, slots := 0 } s m args below meth c D A 2 0 0 (MQ below (va_Qi (fun v (u : HS × List Nat) => P v u.1 ∧ CO S0 u) (CE D T A) A) args s 0 0 A) (CW T S L) 0 0 40 [(0, .ref x0)] []) : ∀ (n : Nat) (x0 : Nat) (x1 : Int32) (S : HS) (L : List Nat), wt S → hL S L → ext S0 S → (hK S x0 = 3) → wp_X2_isRefusedForDays_2 K40 P n x0 x1 S → GW p l e { rm_X2_isRefusedForDays with cells := 0, slots := 0 } s m args below meth c D A 2 0 0 (MQ below (va_Qi (fun v (u : HS × List Nat) => P v u.1 ∧ CO S0 u) (CE D T A) A) args s 0 0 A) (CW T S L) 0 0 2 [(0, .ref x0), (1, .int x1)] [] := by
  have hW : ∀ {w : Cond}, w ∈ W0 → w.before args s = true := fun h => C.2.2.2.2.1 _ (List.mem_cons_of_mem _ h)
  intro n
  induction n with
  | zero => intro x0 x1 S L hw hL he hx0 h; exact h.elim
  | succ n ih =>
    intro x0 x1 S L hw hL he hx0 h
    replace h : wb_X2_isRefusedForDays_2 (wp_X2_isRefusedForDays_2 K40 P n) K40 P x0 x1 S := h
    unfold wb_X2_isRefusedForDays_2 at h
    refine g_iload_n C dX2_isRefusedForDays_2 rfl 1 rfl ?_
    refine g_aload_n C dX2_isRefusedForDays_3 rfl 0 rfl ?_
    refine gc_getI C iwx_X2 hL hx0 (by decide) (by decide) rfl 0 (by decide) (hW kw_134) rfl rfl rfl dX2_isRefusedForDays_4 ?_
    refine g_icmp_ge (tgt := 40) C dX2_isRefusedForDays_7 (by decide) (fun z1 => ?_) (fun z1 => ?_)
    · replace h := h.1 z1
      refine g_locals [0] rfl ?_
      exact hK40 x0 S L hw hL he hx0 h
    · replace h := h.2 z1
      refine g_aload_n C dX2_isRefusedForDays_10 rfl 0 rfl ?_
      refine gc_getR C hw iwx_X2 hL hx0 (by decide) (by decide) rfl 1 (by decide) (hW kw_135) rfl rfl rfl dX2_isRefusedForDays_11 (fun o2 eo2 ko2 => ?_)
      obtain ⟨b3, hb9, h⟩ := h
      have g4 : hK S b3 = 27 := ko2 b3 (eo2.trans hb9)
      replace h := h g4
      refine g_opt (eo2.trans hb9) ?_
      refine g_iload_n C dX2_isRefusedForDays_14 rfl 1 rfl ?_
      obtain ⟨g5, h⟩ := h
      refine gc_aald C hw hL g4 (by decide) rfl g5 dX2_isRefusedForDays_15 (fun o6 eo6 ko6 => ?_)
      replace h := h o6 eo6 ko6
      obtain ⟨b7, rfl, h⟩ := h
      have g8 : hK S b7 = 6 := ko6 b7 rfl
      replace h := h g8
      refine gc_getI C iwx_X5 hL g8 (by decide) (by decide) rfl 4 (by decide) (hW kw_1092) rfl rfl rfl dX2_isRefusedForDays_16 ?_
      refine g_if_ne (tgt := 34) C dX2_isRefusedForDays_19 (by decide) (fun z9 => ?_) (fun z9 => ?_)
      · replace h := h.1 z9
        obtain ⟨v10, ev10⟩ : ∃ y : Int32, y = x1 + 1 := ⟨_, rfl⟩
        replace h := h v10 ev10
        refine g_iinc (v := v10) (lv' := [(1, .int v10), (0, .ref x0)]) C dX2_isRefusedForDays_34 (j := 1) rfl (by rw [ev10]; rfl) (by decide) rfl ?_
        refine g_goto (tgt := 2) C dX2_isRefusedForDays_37 (by decide) ?_
        refine g_locals [1, 0] rfl ?_
        exact ih x0 v10 S L hw hL he hx0 h
      · replace h := h.2 z9
        refine g_aload_n C dX2_isRefusedForDays_22 rfl 0 rfl ?_
        refine g_iconst (v := 1) C dX2_isRefusedForDays_23 (by decide) ?_
        refine g_aload_n C dX2_isRefusedForDays_24 rfl 0 rfl ?_
        refine gc_getR C hw iwx_X2 hL hx0 (by decide) (by decide) rfl 2 (by decide) (hW kw_136) rfl rfl rfl dX2_isRefusedForDays_25 (fun o11 eo11 ko11 => ?_)
        obtain ⟨b12, hb9, h⟩ := h
        have g13 : hK S b12 = 22 := ko11 b12 (eo11.trans hb9)
        replace h := h g13
        refine g_opt (eo11.trans hb9) ?_
        refine g_iload_n C dX2_isRefusedForDays_28 rfl 1 rfl ?_
        obtain ⟨g14, h⟩ := h
        refine gc_iald C hL g13 g14 dX2_isRefusedForDays_29 ?_
        refine gc_calliV (host := "") C E hw hL hx0 (by decide) (by decide) rfl [.int 1, .int (hA S b12 (Int32.toNatClampNeg x1))] rfl (k_X2_refuse l D T x0 1 (hA S b12 (Int32.toNatClampNeg x1)) S hx0) (w0_V 2 C.2.2.2.2.1 kw_1210 kw_1212 ks_29 kw_7 kw_1213 rfl rfl (by decide +kernel) ⟨Nat.le_of_ble_eq_true rfl, Nat.le_of_ble_eq_true rfl⟩) rfl (Nat.le_of_ble_eq_true rfl) (Nat.le_refl _) (Nat.le_refl _) (Nat.zero_le _) (Nat.zero_le _) dX2_isRefusedForDays_30 (fun v20 S15 L16 e17 w18 w19 hp => ?_)
        replace h := h v20 S15 e17 hp
        have g21 := ext_K e17 hx0 (by decide)
        have w22 := ext_tr he e17
        exact gc_zret C h.1 w18 w19 w22 hr dX2_isRefusedForDays_33 h.2
def wb_X2_isRefusedForDays_42 (rec : Nat → Int32 → HS → Prop) (P : Int32 → HS → Prop) (x0 : Nat) (x1 : Int32) (S : HS) : Prop := ((hI S 60 x0) ≤ x1 → (P 0 S)) ∧ (¬ (hI S 60 x0) ≤ x1 → (∃ b26 : Nat, hR S 61 x0 = some b26 ∧ (hK S b26 = 27 → (vp_in x1 (hN S b26) ∧ (∀ o29 : Option Nat, o29 = hB S b26 (Int32.toNatClampNeg x1) → (∀ b, o29 = some b → hK S b = 6) → (∃ b30 : Nat, o29 = some b30 ∧ (hK S b30 = 6 → (∃ b33 : Nat, hR S 61 x0 = some b33 ∧ (hK S b33 = 27 → (vp_in 0 (hN S b33) ∧ (∀ o36 : Option Nat, o36 = hB S b33 (Int32.toNatClampNeg 0) → (∀ b, o36 = some b → hK S b = 6) → (∃ b37 : Nat, o36 = some b37 ∧ (hK S b37 = 6 → (((hI S 121 b30) = (hI S 121 b37) → (∀ v40 : Int32, v40 = x1 + 1 → (rec x0 v40 S))) ∧ (¬ (hI S 121 b30) = (hI S 121 b37) → (∃ b42 : Nat, hR S 62 x0 = some b42 ∧ (hK S b42 = 22 → (vp_in x1 (hN S b42) ∧ (∀ (v50 : Int32) (S45 : HS), ext S S45 → (v50 = 1 ∧ S45 = putI (putI S 63 x0 2) 64 x0 (hA S b42 (Int32.toNatClampNeg x1))) → (vz v50 ∧ P v50 S45))))))))))))))))))))
def wp_X2_isRefusedForDays_42 (P : Int32 → HS → Prop) : Nat → Nat → Int32 → HS → Prop
  | 0 => fun _ _ _ => False
  | n + 1 => fun x0 x1 S => wb_X2_isRefusedForDays_42 (wp_X2_isRefusedForDays_42  P n)  P x0 x1 S
set_option maxRecDepth 100000 in
set_option maxHeartbeats 4000000 in
theorem t_X2_isRefusedForDays_42 {p : Program} {l : Launch} {e : Env} {s : State} {m : MethodId} {args : Array Value} {below : List Frame} {meth : Method} {c : Code} {D : va_G} {A : Nat → Prop} {T : Nat → ClassId} (C : GC p s m args meth c cX2_isRefusedForDays "FreightRater$Rating" (ws_X2_isRefusedForDays) 2 D A (zty T)) (E : GE T A s) (hr : meth.sig.returnType = (some .boolean)) (S0 : HS) (P : Int32 → HS → Prop) : ∀ (n : Nat) (x0 : Nat) (x1 : Int32) (S : HS) (L : List Nat), wt S → hL S L → ext S0 S → (hK S x0 = 3) → wp_X2_isRefusedForDays_42  P n x0 x1 S → GW p l e { rm_X2_isRefusedForDays with cells := 0, slots := 0 } s m args below meth c D A 2 0 0 (MQ below (va_Qi (fun v (u : HS × List Nat) => P v u.1 ∧ CO S0 u) (CE D T A) A) args s 0 0 A) (CW T S L) 0 0 42 [(0, .ref x0), (1, .int x1)] [] := by
  have hW : ∀ {w : Cond}, w ∈ W0 → w.before args s = true := fun h => C.2.2.2.2.1 _ (List.mem_cons_of_mem _ h)
  intro n
  induction n with
  | zero => intro x0 x1 S L hw hL he hx0 h; exact h.elim
  | succ n ih =>
    intro x0 x1 S L hw hL he hx0 h
    replace h : wb_X2_isRefusedForDays_42 (wp_X2_isRefusedForDays_42  P n)  P x0 x1 S := h
    unfold wb_X2_isRefusedForDays_42 at h
    refine g_iload_n C dX2_isRefusedForDays_42 rfl 1 rfl ?_
    refine g_aload_n C dX2_isRefusedForDays_43 rfl 0 rfl ?_
    refine gc_getI C iwx_X2 hL hx0 (by decide) (by decide) rfl 0 (by decide) (hW kw_134) rfl rfl rfl dX2_isRefusedForDays_44 ?_
    refine g_icmp_ge (tgt := 89) C dX2_isRefusedForDays_47 (by decide) (fun z24 => ?_) (fun z24 => ?_)
    · replace h := h.1 z24
      refine g_iconst (v := 0) C dX2_isRefusedForDays_89 (by decide) ?_
      exact gc_zret C vz0 hw hL he hr dX2_isRefusedForDays_90 h
    · replace h := h.2 z24
      refine g_aload_n C dX2_isRefusedForDays_50 rfl 0 rfl ?_
      refine gc_getR C hw iwx_X2 hL hx0 (by decide) (by decide) rfl 1 (by decide) (hW kw_135) rfl rfl rfl dX2_isRefusedForDays_51 (fun o25 eo25 ko25 => ?_)
      obtain ⟨b26, hb9, h⟩ := h
      have g27 : hK S b26 = 27 := ko25 b26 (eo25.trans hb9)
      replace h := h g27
      refine g_opt (eo25.trans hb9) ?_
      refine g_iload_n C dX2_isRefusedForDays_54 rfl 1 rfl ?_
      obtain ⟨g28, h⟩ := h
      refine gc_aald C hw hL g27 (by decide) rfl g28 dX2_isRefusedForDays_55 (fun o29 eo29 ko29 => ?_)
      replace h := h o29 eo29 ko29
      obtain ⟨b30, rfl, h⟩ := h
      have g31 : hK S b30 = 6 := ko29 b30 rfl
      replace h := h g31
      refine gc_getI C iwx_X5 hL g31 (by decide) (by decide) rfl 1 (by decide) (hW kw_1083) rfl rfl rfl dX2_isRefusedForDays_56 ?_
      refine g_aload_n C dX2_isRefusedForDays_59 rfl 0 rfl ?_
      refine gc_getR C hw iwx_X2 hL hx0 (by decide) (by decide) rfl 1 (by decide) (hW kw_135) rfl rfl rfl dX2_isRefusedForDays_60 (fun o32 eo32 ko32 => ?_)
      obtain ⟨b33, hb9, h⟩ := h
      have g34 : hK S b33 = 27 := ko32 b33 (eo32.trans hb9)
      replace h := h g34
      refine g_opt (eo32.trans hb9) ?_
      refine g_iconst (v := 0) C dX2_isRefusedForDays_63 (by decide) ?_
      obtain ⟨g35, h⟩ := h
      refine gc_aald C hw hL g34 (by decide) rfl g35 dX2_isRefusedForDays_64 (fun o36 eo36 ko36 => ?_)
      replace h := h o36 eo36 ko36
      obtain ⟨b37, rfl, h⟩ := h
      have g38 : hK S b37 = 6 := ko36 b37 rfl
      replace h := h g38
      refine gc_getI C iwx_X5 hL g38 (by decide) (by decide) rfl 1 (by decide) (hW kw_1083) rfl rfl rfl dX2_isRefusedForDays_65 ?_
      refine g_icmp_eq (tgt := 83) C dX2_isRefusedForDays_68 (by decide) (fun z39 => ?_) (fun z39 => ?_)
      · replace h := h.1 z39
        obtain ⟨v40, ev40⟩ : ∃ y : Int32, y = x1 + 1 := ⟨_, rfl⟩
        replace h := h v40 ev40
        refine g_iinc (v := v40) (lv' := [(1, .int v40), (0, .ref x0)]) C dX2_isRefusedForDays_83 (j := 1) rfl (by rw [ev40]; rfl) (by decide) rfl ?_
        refine g_goto (tgt := 42) C dX2_isRefusedForDays_86 (by decide) ?_
        refine g_locals [1, 0] rfl ?_
        exact ih x0 v40 S L hw hL he hx0 h
      · replace h := h.2 z39
        refine g_aload_n C dX2_isRefusedForDays_71 rfl 0 rfl ?_
        refine g_iconst (v := 2) C dX2_isRefusedForDays_72 (by decide) ?_
        refine g_aload_n C dX2_isRefusedForDays_73 rfl 0 rfl ?_
        refine gc_getR C hw iwx_X2 hL hx0 (by decide) (by decide) rfl 2 (by decide) (hW kw_136) rfl rfl rfl dX2_isRefusedForDays_74 (fun o41 eo41 ko41 => ?_)
        obtain ⟨b42, hb9, h⟩ := h
        have g43 : hK S b42 = 22 := ko41 b42 (eo41.trans hb9)
        replace h := h g43
        refine g_opt (eo41.trans hb9) ?_
        refine g_iload_n C dX2_isRefusedForDays_77 rfl 1 rfl ?_
        obtain ⟨g44, h⟩ := h
        refine gc_iald C hL g43 g44 dX2_isRefusedForDays_78 ?_
        refine gc_calliV (host := "") C E hw hL hx0 (by decide) (by decide) rfl [.int 2, .int (hA S b42 (Int32.toNatClampNeg x1))] rfl (k_X2_refuse l D T x0 2 (hA S b42 (Int32.toNatClampNeg x1)) S hx0) (w0_V 2 C.2.2.2.2.1 kw_1210 kw_1212 ks_29 kw_7 kw_1213 rfl rfl (by decide +kernel) ⟨Nat.le_of_ble_eq_true rfl, Nat.le_of_ble_eq_true rfl⟩) rfl (Nat.le_of_ble_eq_true rfl) (Nat.le_refl _) (Nat.le_refl _) (Nat.zero_le _) (Nat.zero_le _) dX2_isRefusedForDays_79 (fun v50 S45 L46 e47 w48 w49 hp => ?_)
        replace h := h v50 S45 e47 hp
        have g51 := ext_K e47 hx0 (by decide)
        have w52 := ext_tr he e47
        exact gc_zret C h.1 w48 w49 w52 hr dX2_isRefusedForDays_82 h.2
def wp_X2_isRefusedForDays (P : Int32 → HS → Prop) (x0 : Nat) (S : HS) : Prop := ∃ k54 : Nat, wp_X2_isRefusedForDays_2 (fun (y23_x0 : Nat) (Sy23_ : HS) => (hK Sy23_ y23_x0 = 3) → (∃ k53 : Nat, wp_X2_isRefusedForDays_42  P k53 y23_x0 1 Sy23_)) P k54 x0 0 S
set_option maxRecDepth 100000 in
set_option maxHeartbeats 4000000 in
theorem t_X2_isRefusedForDays {p : Program} {l : Launch} {e : Env} {s : State} {m : MethodId} {args : Array Value} {below : List Frame} {meth : Method} {c : Code} {D : va_G} {A : Nat → Prop} {T : Nat → ClassId} (C : GC p s m args meth c cX2_isRefusedForDays "FreightRater$Rating" (ws_X2_isRefusedForDays) 2 D A (zty T)) (E : GE T A s) (hr : meth.sig.returnType = (some .boolean)) (P : Int32 → HS → Prop) : ∀ (x0 : Nat) (S0 S : HS) (L : List Nat), S0 = S → wt S → hL S L → (hK S x0 = 3) → wp_X2_isRefusedForDays P x0 S → GW p l e { rm_X2_isRefusedForDays with cells := 0, slots := 0 } s m args below meth c D A 2 0 0 (MQ below (va_Qi (fun v (u : HS × List Nat) => P v u.1 ∧ CO S0 u) (CE D T A) A) args s 0 0 A) (CW T S L) 0 0 0 [(0, .ref x0)] [] := by
  have hW : ∀ {w : Cond}, w ∈ W0 → w.before args s = true := fun h => C.2.2.2.2.1 _ (List.mem_cons_of_mem _ h)
  intro x0 S0 S L hS0 hw hL hx0 h
  have he : ext S0 S := by rw [hS0]; exact ext_rf
  unfold wp_X2_isRefusedForDays at h
  refine g_iconst (v := 0) C dX2_isRefusedForDays_0 (by decide) ?_
  refine g_istore_n (lv' := [(1, .int 0), (0, .ref x0)]) C dX2_isRefusedForDays_1 rfl (by decide) rfl ?_
  refine g_locals [1, 0] rfl ?_
  obtain ⟨k54, h⟩ := h
  refine t_X2_isRefusedForDays_2 C E hr S0 _ P ?_ k54 x0 0 S L hw hL he hx0 h
  · intro y23_x0 Sy23_ Ly23_ hwy23_ hLy23_ hey23_ hy23_x0 h
    replace h := h hy23_x0
    refine g_iconst (v := 1) C dX2_isRefusedForDays_40 (by decide) ?_
    refine g_istore_n (lv' := [(1, .int 1), (0, .ref y23_x0)]) C dX2_isRefusedForDays_41 rfl (by decide) rfl ?_
    refine g_locals [1, 0] rfl ?_
    obtain ⟨k53, h⟩ := h
    refine t_X2_isRefusedForDays_42 C E hr S0  P  k53 y23_x0 1 Sy23_ Ly23_ hwy23_ hLy23_ hey23_ hy23_x0 h
theorem c_X2_isRefusedForDays (l : Launch) (D : va_G) (T : Nat → ClassId) (x0 : Nat) (S : HS) (hx0 : hK S x0 = 3) (P : Int32 → HS → Prop) (h : wp_X2_isRefusedForDays P x0 S) : CMi l yX2_isRefusedForDays (ws_X2_isRefusedForDays) rm_X2_isRefusedForDays D T [.ref x0] S 0 0 P := gc_meti (by decide) rfl rfl (Nat.le_of_ble_eq_true rfl) (fun p e s m args below meth c A L C E hnm hr hw hL => t_X2_isRefusedForDays C E   hr P x0 S S L rfl hw hL hx0 h)
theorem RtM.mb {S : HS} {M : Nat → Prop} {x : Nat} {μ : Nat → Int32} {L : List Nat} (h : RtM S M x μ L) : ∃ mb nb, hR S 61 x = some mb ∧ hR S 62 x = some nb ∧ hN S mb = 10 ∧ hN S nb = 10 ∧ L.length ≤ 10 ∧ hI S 60 x = nI L.length ∧ ∀ i, i < L.length → gl L i < 10 ∧ hA S nb i = nI (gl L i) ∧ ∃ z, hB S mb i = some z ∧ RelS S M z μ (gl L i) := by
  obtain ⟨_, h2, h3, mb, nb, r1, r2, _, n1, _, n2, hh⟩ := h
  exact ⟨mb, nb, r1, r2, n1, n2, h2, h3, hh⟩
theorem rf_c3 {S S1 : HS} {x : Nat} {a b : Int32} {L : List Nat} (h63 : 63 ∈ L) (h64 : 64 ∈ L) (e : S1 = putI (putI S 63 x a) 64 x b) : c3 S S1 x L ∧ hI S1 63 x = a ∧ hI S1 64 x = b := by
  subst e
  exact ⟨(c3.rf.up h63 _).up h64 _, by rw [putI_i _ _ _ (by decide), putI_s], putI_s _ _ _ _⟩
theorem rl_d42 {P : Int32 → HS → Prop} {S : HS} {M : Nat → Prop} {x g : Nat} {μ : Nat → Int32} {L : List Nat} (hR : RtM S M x μ L) (h0 : 0 < L.length) (hlow : gl L 0 = lowN g) : ∀ (k i fuel : Nat), i + k = L.length → k < fuel → (∀ s, fiX μ 0 2 g L k i = some s → ∀ S1, S1 = putI (putI S 63 x 2) 64 x (nI s) → P 1 S1) → (fiX μ 0 2 g L k i = none → P 0 S) → wp_X2_isRefusedForDays_42 P fuel x (nI i) S := by
  obtain ⟨mb, nb, r1, r2, n1, n2, hl, h60, hh⟩ := hR.mb
  obtain ⟨_, _, z0, hz0, hzR0⟩ := hh 0 h0
  have e0 : hI S 121 z0 = μ (14 + 26 * lowN g + 1) := by rw [← hlow]; exact hzR0.2.2.2.1
  intro k
  induction k with
  | zero =>
    intro i fuel hi hf hS hN
    obtain ⟨f, rfl⟩ : ∃ f, fuel = f + 1 := ⟨fuel - 1, by omega⟩; rw [wp_X2_isRefusedForDays_42]; unfold wb_X2_isRefusedForDays_42; dsimp only
    rw [h60, nI_leI (by omega) (by omega)]
    exact ⟨fun _ => hN rfl, fun z9 => absurd (by omega) z9⟩
  | succ k ih =>
    intro i fuel hi hf hS hN
    obtain ⟨gi, ha, z, hz, hzR⟩ := hh i (by omega)
    have e1 : hI S 121 z = μ (14 + 26 * gl L i + 1) := hzR.2.2.2.1
    have er : rsF μ 0 2 g (gl L i) = if μ (14 + 26 * gl L i + 1) = μ (14 + 26 * lowN g + 1) then 0 else 1 := by unfold rsF; rw [if_neg (by decide), if_pos rfl]
    rw [fiX, er] at hS hN
    obtain ⟨f, rfl⟩ : ∃ f, fuel = f + 1 := ⟨fuel - 1, by omega⟩; rw [wp_X2_isRefusedForDays_42]; unfold wb_X2_isRefusedForDays_42; dsimp only
    rw [h60, nI_leI (by omega) (by omega), nI_1]
    refine ⟨fun z9 => absurd z9 (by omega), fun _ => ⟨mb, r1, fun _ => ?_⟩⟩
    rw [n1, nz_vp (by omega) (by decide), nI_clamp (n := i) (by omega), hz]
    refine ⟨by omega, fun o29 e29 _ => ⟨z, e29, fun _ => ⟨mb, r1, fun _ => ?_⟩⟩⟩
    rw [n1, cl_0, hz0, nz_vp0 (by decide)]
    refine ⟨by decide, fun o36 e36 _ => ⟨z0, e36, fun _ => ?_⟩⟩
    rw [e1, e0]
    refine ⟨fun c v40 e40 => ?_, fun c => ⟨nb, r2, fun _ => ?_⟩⟩
    · subst e40
      rw [if_pos c, if_neg (fun w9 => w9 rfl)] at hS hN
      exact ih (i + 1) f (by omega) (by omega) hS hN
    · rw [if_neg c, if_pos (by decide)] at hS
      rw [n2, nz_vp (by omega) (by decide), ha]
      refine ⟨by omega, fun v50 S45 _ hp => ?_⟩
      rw [hp.1]
      exact ⟨vz1, hS _ rfl S45 hp.2⟩
theorem rl_d2 {P : Int32 → HS → Prop} {K : Nat → HS → Prop} {S : HS} {M : Nat → Prop} {x g : Nat} {μ : Nat → Int32} {L : List Nat} (hR : RtM S M x μ L) : ∀ (k i fuel : Nat), i + k = L.length → k < fuel → (∀ s, fiX μ 0 1 g L k i = some s → ∀ S1, S1 = putI (putI S 63 x 1) 64 x (nI s) → P 1 S1) → (fiX μ 0 1 g L k i = none → K x S) → wp_X2_isRefusedForDays_2 K P fuel x (nI i) S := by
  obtain ⟨mb, nb, r1, r2, n1, n2, hl, h60, hh⟩ := hR.mb
  intro k
  induction k with
  | zero =>
    intro i fuel hi hf hS hN
    obtain ⟨f, rfl⟩ : ∃ f, fuel = f + 1 := ⟨fuel - 1, by omega⟩; rw [wp_X2_isRefusedForDays_2]; unfold wb_X2_isRefusedForDays_2; dsimp only
    rw [h60, nI_leI (by omega) (by omega)]
    exact ⟨fun _ => hN rfl, fun z9 => absurd (by omega) z9⟩
  | succ k ih =>
    intro i fuel hi hf hS hN
    obtain ⟨gi, ha, z, hz, hzR⟩ := hh i (by omega)
    have e1 : hI S 124 z = μ (14 + 26 * gl L i + 4) := hzR.2.2.2.2.2.2.1
    have er : rsF μ 0 1 g (gl L i) = if μ (14 + 26 * gl L i + 4) = 0 then 1 else 0 := by unfold rsF; rw [if_pos rfl]
    rw [fiX, er] at hS hN
    obtain ⟨f, rfl⟩ : ∃ f, fuel = f + 1 := ⟨fuel - 1, by omega⟩; rw [wp_X2_isRefusedForDays_2]; unfold wb_X2_isRefusedForDays_2; dsimp only
    rw [h60, nI_leI (by omega) (by omega), nI_1]
    refine ⟨fun z9 => absurd z9 (by omega), fun _ => ⟨mb, r1, fun _ => ?_⟩⟩
    rw [n1, nz_vp (by omega) (by decide), nI_clamp (n := i) (by omega), hz]
    refine ⟨by omega, fun o6 e6 _ => ⟨z, e6, fun _ => ?_⟩⟩
    rw [e1]
    refine ⟨fun c v10 e10 => ?_, fun c => ⟨nb, r2, fun _ => ?_⟩⟩
    · subst e10
      rw [if_neg c, if_neg (fun w9 => w9 rfl)] at hS hN
      exact ih (i + 1) f (by omega) (by omega) hS hN
    · rw [if_pos c, if_pos (by decide)] at hS
      rw [n2, nz_vp (by omega) (by decide), ha]
      refine ⟨by omega, fun v20 S15 _ hp => ?_⟩
      rw [hp.1]
      exact ⟨vz1, hS _ rfl S15 hp.2⟩
theorem k_X2_isRefusedForDays (l : Launch) (D : va_G) (T : Nat → ClassId) (x0 : Nat) (S : HS) (e0 : (Nat → Prop)) (e1 : Nat → Int32) (e2 : List Nat) (e3 : Nat) (hx0 : hK S x0 = 3) (h : WF e1 ∧ RtM S e0 x0 e1 e2 ∧ (∀ b, hR S 62 x0 = some b → e0 b) ∧ 0 < e2.length ∧ gl e2 0 = lowN e3) : CMi l yX2_isRefusedForDays (ws_X2_isRefusedForDays) rm_X2_isRefusedForDays D T [.ref x0] S 0 0 (fun v S1 => (c3 S S1 x0 [63, 64] ∧ (∀ s, fiX e1 0 1 e3 e2 e2.length 0 = some s → v = 1 ∧ hI S1 63 x0 = 1 ∧ hI S1 64 x0 = nI s) ∧ (fiX e1 0 1 e3 e2 e2.length 0 = none → (∀ s, fiX e1 0 2 e3 e2 e2.length 0 = some s → v = 1 ∧ hI S1 63 x0 = 2 ∧ hI S1 64 x0 = nI s) ∧ (fiX e1 0 2 e3 e2 e2.length 0 = none → v = 0 ∧ S1 = S)))) := c_X2_isRefusedForDays l D T x0 S hx0 _ <|
  (by
    obtain ⟨hw, hR, hM, h0, hlow⟩ := h
    have hl := hR.2.1
    unfold wp_X2_isRefusedForDays
    refine ⟨20, rl_d2 (g := e3) hR e2.length 0 20 (by omega) (by omega) (fun s hs S1 e1' => ?_) (fun hn _ => ⟨20, ?_⟩)⟩
    · obtain ⟨c1, c2, c4⟩ := rf_c3 (L := [63, 64]) (by decide) (by decide) e1'
      refine ⟨c1, fun s' hs' => ?_, fun z9 => (by rw [z9] at hs; cases hs)⟩
      rw [hs] at hs'
      have e9 : s = s' := Option.some.inj hs'
      subst e9
      exact ⟨rfl, c2, c4⟩
    · -- from the second on: the first one's day is its own
      have e0 : fiX e1 0 2 e3 e2 e2.length 0 = fiX e1 0 2 e3 e2 (e2.length - 1) 1 := by
        obtain ⟨m, hm⟩ : ∃ m, e2.length = m + 1 := ⟨e2.length - 1, by omega⟩
        rw [hm, fiX, if_neg]
        · rfl
        · intro w9
          refine w9 ?_
          unfold rsF
          rw [if_neg (by decide), if_pos rfl, if_pos (by rw [hlow])]
      refine rl_d42 hR h0 hlow (e2.length - 1) 1 20 (by omega) (by omega) (fun s hs S1 e1' => ?_) (fun hs => ⟨c3.rf, fun s' hs' => (by rw [hn] at hs'; cases hs'), fun _ => ⟨fun s' hs' => (by rw [e0, hs] at hs'; cases hs'), fun _ => ⟨rfl, rfl⟩⟩⟩)
      obtain ⟨c1, c2, c4⟩ := rf_c3 (L := [63, 64]) (by decide) (by decide) e1'
      refine ⟨c1, fun s' hs' => (by rw [hn] at hs'; cases hs'), fun _ => ⟨fun s' hs' => ?_, fun z9 => (by rw [e0, hs] at z9; cases z9)⟩⟩
      rw [e0, hs] at hs'
      have e9 : s = s' := Option.some.inj hs'
      subst e9
      exact ⟨rfl, c2, c4⟩)
abbrev ws_X2_isRefusedForVersion : List Cond := Cond.code yX2_isRefusedForVersion cX2_isRefusedForVersion 3 (some .boolean) :: W0
abbrev rm_X2_isRefusedForVersion : Room := ({ frames := 1, cells := 0, slots := 0, locals := 24 } : Room)
def wp_X2_isRefusedForVersion (P : Int32 → HS → Prop) (x0 : Nat) (p0 : Nat) (S : HS) : Prop := ∃ b2 : Nat, hR S 61 x0 = some b2 ∧ (hK S b2 = 27 → (vp_in 0 (hN S b2) ∧ (∀ o5 : Option Nat, o5 = hB S b2 (Int32.toNatClampNeg 0) → (∀ b, o5 = some b → hK S b = 6) → (∃ b6 : Nat, o5 = some b6 ∧ (hK S b6 = 6 → (∀ v8 : Int32, v8 = (hI S 121 b6) → (∃ (m9 : (Nat → Prop)) (m10 : Nat → Int32), ((WF m10 ∧ RelSt S m9 p0 m10) ∧ (∀ S17 : HS, S17 = putI S 65 x0 (vOf m10 v8) → ((0 ≤ (hI S17 65 x0) → (P 0 S17)) ∧ (¬ 0 ≤ (hI S17 65 x0) → (∀ (v29 : Int32) (S24 : HS), ext S17 S24 → (v29 = 1 ∧ S24 = putI (putI S17 63 x0 3) 64 x0 v8) → ((v29 = 0 → (P 0 S24)) ∧ (¬ v29 = 0 → (P 1 S24)))))))))))))))
set_option maxRecDepth 100000 in
set_option maxHeartbeats 4000000 in
theorem t_X2_isRefusedForVersion {p : Program} {l : Launch} {e : Env} {s : State} {m : MethodId} {args : Array Value} {below : List Frame} {meth : Method} {c : Code} {D : va_G} {A : Nat → Prop} {T : Nat → ClassId} (C : GC p s m args meth c cX2_isRefusedForVersion "FreightRater$Rating" (ws_X2_isRefusedForVersion) 3 D A (zty T)) (E : GE T A s) (hr : meth.sig.returnType = (some .boolean)) (P : Int32 → HS → Prop) : ∀ (x0 : Nat) (p0 : Nat) (S0 S : HS) (L : List Nat), S0 = S → wt S → hL S L → (hK S x0 = 3) → (hK S p0 = 7) → wp_X2_isRefusedForVersion P x0 p0 S → GW p l e { rm_X2_isRefusedForVersion with cells := 0, slots := 0 } s m args below meth c D A 3 0 0 (MQ below (va_Qi (fun v (u : HS × List Nat) => P v u.1 ∧ CO S0 u) (CE D T A) A) args s 0 0 A) (CW T S L) 0 0 0 [(0, .ref x0), (1, .ref p0)] [] := by
  have hW : ∀ {w : Cond}, w ∈ W0 → w.before args s = true := fun h => C.2.2.2.2.1 _ (List.mem_cons_of_mem _ h)
  intro x0 p0 S0 S L hS0 hw hL hx0 hp0 h
  have he : ext S0 S := by rw [hS0]; exact ext_rf
  unfold wp_X2_isRefusedForVersion at h
  refine g_aload_n C dX2_isRefusedForVersion_0 rfl 0 rfl ?_
  refine gc_getR C hw iwx_X2 hL hx0 (by decide) (by decide) rfl 1 (by decide) (hW kw_135) rfl rfl rfl dX2_isRefusedForVersion_1 (fun o1 eo1 ko1 => ?_)
  obtain ⟨b2, hb9, h⟩ := h
  have g3 : hK S b2 = 27 := ko1 b2 (eo1.trans hb9)
  replace h := h g3
  refine g_opt (eo1.trans hb9) ?_
  refine g_iconst (v := 0) C dX2_isRefusedForVersion_4 (by decide) ?_
  obtain ⟨g4, h⟩ := h
  refine gc_aald C hw hL g3 (by decide) rfl g4 dX2_isRefusedForVersion_5 (fun o5 eo5 ko5 => ?_)
  replace h := h o5 eo5 ko5
  obtain ⟨b6, rfl, h⟩ := h
  have g7 : hK S b6 = 6 := ko5 b6 rfl
  replace h := h g7
  refine gc_getI C iwx_X5 hL g7 (by decide) (by decide) rfl 1 (by decide) (hW kw_1083) rfl rfl rfl dX2_isRefusedForVersion_6 ?_
  refine g_topi (fun v8 ev8 => ?_)
  replace h := h v8 ev8
  refine g_istore_n (lv' := [(2, .int v8), (0, .ref x0), (1, .ref p0)]) C dX2_isRefusedForVersion_9 rfl (by decide) rfl ?_
  refine g_aload_n C dX2_isRefusedForVersion_10 rfl 1 rfl ?_
  refine g_aload_n C dX2_isRefusedForVersion_11 rfl 2 rfl ?_
  refine g_iload_n C dX2_isRefusedForVersion_12 rfl 0 rfl ?_
  obtain ⟨m9, m10, h⟩ := h
  obtain ⟨g11, h⟩ := h
  refine gc_calliV (host := "") C E hw hL hp0 (by decide) (by decide) rfl [.int v8] rfl (k_X6_versionFor l D T p0 v8 S m9 m10 hp0 g11) (w0_V 1 C.2.2.2.2.1 kw_1218 kw_989 kw_990 kw_2 kw_991 rfl rfl (by decide +kernel) ⟨Nat.le_of_ble_eq_true rfl, Nat.le_of_ble_eq_true rfl⟩) rfl (Nat.le_of_ble_eq_true rfl) (Nat.le_refl _) (Nat.le_refl _) (Nat.zero_le _) (Nat.zero_le _) dX2_isRefusedForVersion_13 (fun v9 S9 L12 he9 hw9 hL9 hp => ?_)
  obtain ⟨hv9, hs9⟩ := hp
  replace hs9 := hs9.symm
  subst hs9
  replace hv9 := hv9.symm
  subst hv9
  have w15 := hL9
  refine gc_putI C iwx_X2 w15 hx0 (by decide) (by decide) rfl 5 (by decide) (hW kw_142) rfl tyX2 tyX2_ok nmX2 rfl rfl rfl rfl rfl dX2_isRefusedForVersion_16 ?_
  have w16 := wt_putI hw 65 (vOf m10 v8) (k_ne hx0 (by decide))
  refine gc_nS (fun S17 eS17 => ?_)
  replace h := h S17 eS17
  have w18 : wt S17 := by rw [eS17]; exact w16
  have w19 : isL S17 L12 := by rw [eS17]; exact w15
  have w20 : ext S0 S17 := by rw [eS17]; exact he
  have g21 : hK S17 x0 = 3 := by rw [eS17]; exact hx0
  have g22 : hK S17 p0 = 7 := by rw [eS17]; exact hp0
  refine g_aload_n C dX2_isRefusedForVersion_19 rfl 1 rfl ?_
  refine gc_getI C iwx_X2 w19 g21 (by decide) (by decide) rfl 5 (by decide) (hW kw_142) rfl rfl rfl dX2_isRefusedForVersion_20 ?_
  refine g_if_ge (tgt := 39) C dX2_isRefusedForVersion_23 (by decide) (fun z23 => ?_) (fun z23 => ?_)
  · replace h := h.1 z23
    refine g_iconst (v := 0) C dX2_isRefusedForVersion_39 (by decide) ?_
    exact gc_zret C vz0 w18 w19 w20 hr dX2_isRefusedForVersion_40 h
  · replace h := h.2 z23
    refine g_aload_n C dX2_isRefusedForVersion_26 rfl 1 rfl ?_
    refine g_iconst (v := 3) C dX2_isRefusedForVersion_27 (by decide) ?_
    refine g_iload_n C dX2_isRefusedForVersion_28 rfl 0 rfl ?_
    refine gc_calliV (host := "") C E w18 w19 g21 (by decide) (by decide) rfl [.int 3, .int v8] rfl (k_X2_refuse l D T x0 3 v8 S17 g21) (w0_V 2 C.2.2.2.2.1 kw_1210 kw_1212 ks_29 kw_7 kw_1213 rfl rfl (by decide +kernel) ⟨Nat.le_of_ble_eq_true rfl, Nat.le_of_ble_eq_true rfl⟩) rfl (Nat.le_of_ble_eq_true rfl) (Nat.le_refl _) (Nat.le_refl _) (Nat.zero_le _) (Nat.zero_le _) dX2_isRefusedForVersion_29 (fun v29 S24 L25 e26 w27 w28 hp => ?_)
    replace h := h v29 S24 e26 hp
    have g30 := ext_K e26 g21 (by decide)
    have g31 := ext_K e26 g22 (by decide)
    have w32 := ext_tr w20 e26
    refine g_if_eq (tgt := 39) C dX2_isRefusedForVersion_32 (by decide) (fun z33 => ?_) (fun z33 => ?_)
    · replace h := h.1 z33
      refine g_iconst (v := 0) C dX2_isRefusedForVersion_39 (by decide) ?_
      exact gc_zret C vz0 w27 w28 w32 hr dX2_isRefusedForVersion_40 h
    · replace h := h.2 z33
      refine g_iconst (v := 1) C dX2_isRefusedForVersion_35 (by decide) ?_
      refine g_goto (tgt := 40) C dX2_isRefusedForVersion_36 (by decide) ?_
      exact gc_zret C vz1 w27 w28 w32 hr dX2_isRefusedForVersion_40 h
theorem c_X2_isRefusedForVersion (l : Launch) (D : va_G) (T : Nat → ClassId) (x0 : Nat) (p0 : Nat) (S : HS) (hx0 : hK S x0 = 3) (hp0 : hK S p0 = 7) (P : Int32 → HS → Prop) (h : wp_X2_isRefusedForVersion P x0 p0 S) : CMi l yX2_isRefusedForVersion (ws_X2_isRefusedForVersion) rm_X2_isRefusedForVersion D T [.ref x0, .ref p0] S 0 0 P := gc_meti (by decide) rfl rfl (Nat.le_of_ble_eq_true rfl) (fun p e s m args below meth c A L C E hnm hr hw hL => t_X2_isRefusedForVersion C E   hr P x0 p0 S S L rfl hw hL hx0 hp0 h)
theorem k_X2_isRefusedForVersion (l : Launch) (D : va_G) (T : Nat → ClassId) (x0 : Nat) (p0 : Nat) (S : HS) (e0 : (Nat → Prop)) (e1 : Nat → Int32) (e2 : List Nat) (e3 : Nat) (hx0 : hK S x0 = 3) (hp0 : hK S p0 = 7) (h : WF e1 ∧ RtM S e0 x0 e1 e2 ∧ (∀ b, hR S 62 x0 = some b → e0 b) ∧ 0 < e2.length ∧ gl e2 0 = lowN e3 ∧ RelSt S e0 p0 e1) : CMi l yX2_isRefusedForVersion (ws_X2_isRefusedForVersion) rm_X2_isRefusedForVersion D T [.ref x0, .ref p0] S 0 0 (fun v S1 => (c3 S S1 x0 [63, 64, 65] ∧ hI S1 65 x0 = gvF e1 e3 ∧ (gvF e1 e3 < 0 → v = 1 ∧ hI S1 63 x0 = 3 ∧ hI S1 64 x0 = dayF e1 e3) ∧ (¬ gvF e1 e3 < 0 → v = 0 ∧ hI S1 63 x0 = hI S 63 x0 ∧ hI S1 64 x0 = hI S 64 x0))) := c_X2_isRefusedForVersion l D T x0 p0 S hx0 hp0 _ <|
  (by
    obtain ⟨⟨hw, hR, hM, h0, hlow⟩, hSt⟩ : (WF e1 ∧ RtM S e0 x0 e1 e2 ∧ (∀ b, hR S 62 x0 = some b → e0 b) ∧ 0 < e2.length ∧ gl e2 0 = lowN e3) ∧ RelSt S e0 p0 e1 := ⟨⟨h.1, h.2.1, h.2.2.1, h.2.2.2.1, h.2.2.2.2.1⟩, h.2.2.2.2.2⟩
    obtain ⟨mb, nb, r1, r2, n1, n2, hl, h60, hh⟩ := hR.mb
    obtain ⟨_, _, z0, hz0, hzR0⟩ := hh 0 h0
    have e121 : hI S 121 z0 = dayF e1 e3 := by unfold dayF; rw [← hlow]; exact hzR0.2.2.2.1
    unfold wp_X2_isRefusedForVersion
    refine ⟨mb, r1, fun _ => ?_⟩
    rw [n1, cl_0, hz0, nz_vp0 (by decide)]
    refine ⟨by decide, fun o5 e5 _ => ⟨z0, e5, fun _ v8 e8 => ⟨e0, e1, ⟨hw, hSt⟩, fun S17 e17 => ?_⟩⟩⟩
    rw [e121] at e8
    subst e8
    have hv : vOf e1 (dayF e1 e3) = gvF e1 e3 := rfl
    rw [hv] at e17
    have i65 : hI S17 65 x0 = gvF e1 e3 := by rw [e17]; exact putI_s _ _ _ _
    have c17 : c3 S S17 x0 [63, 64, 65] := by rw [e17]; exact c3.rf.up (by decide) _
    rw [i65]
    refine ⟨fun c => ⟨c17, i65, fun z9 => absurd c (Int32.not_le.mpr z9), fun _ => ⟨rfl, by rw [e17]; exact putI_i _ _ _ (by decide), by rw [e17]; exact putI_i _ _ _ (by decide)⟩⟩, fun c v29 S24 _ hp => ⟨fun z9 => absurd (show (1 : Int32) = 0 from hp.1.symm.trans z9) (by decide), fun _ => ?_⟩⟩
    obtain ⟨d1, d2, d4⟩ := rf_c3 (L := [63, 64, 65]) (by decide) (by decide) hp.2
    refine ⟨c17.tr d1 (fun _ h => h) (fun _ h => h), ?_, fun _ => ⟨rfl, d2, d4⟩, fun z9 => absurd (Int32.not_lt.mp z9) c⟩
    rw [hp.2, putI_i _ _ _ (by decide), putI_i _ _ _ (by decide)]
    exact i65)
abbrev ws_X2_isRefusedForCharges : List Cond := Cond.code yX2_isRefusedForCharges cX2_isRefusedForCharges 3 (some .boolean) :: W0
abbrev rm_X2_isRefusedForCharges : Room := ({ frames := 1, cells := 0, slots := 0, locals := 22 } : Room)
def wp_X2_isRefusedForCharges (P : Int32 → HS → Prop) (x0 : Nat) (p0 : Nat) (p1 : Nat) (S : HS) : Prop := (¬ (hI S 100 p1) = 0 → (((hI S 60 x0) ≤ 1 → (P 0 S)) ∧ (¬ (hI S 60 x0) ≤ 1 → (((hI S 67 x0) ≤ (hI S 209 p0) → (P 0 S)) ∧ (¬ (hI S 67 x0) ≤ (hI S 209 p0) → (∀ (v9 : Int32) (S4 : HS), ext S S4 → (v9 = 1 ∧ S4 = putI (putI S 63 x0 7) 64 x0 (hI S 67 x0)) → ((v9 = 0 → (P 0 S4)) ∧ (¬ v9 = 0 → (P 1 S4))))))))) ∧ ((hI S 100 p1) = 0 → (∀ (v20 : Int32) (S15 : HS), ext S S15 → (v20 = 1 ∧ S15 = putI (putI S 63 x0 6) 64 x0 (hI S 66 x0)) → (vz v20 ∧ P v20 S15)))
set_option maxRecDepth 100000 in
set_option maxHeartbeats 4000000 in
theorem t_X2_isRefusedForCharges {p : Program} {l : Launch} {e : Env} {s : State} {m : MethodId} {args : Array Value} {below : List Frame} {meth : Method} {c : Code} {D : va_G} {A : Nat → Prop} {T : Nat → ClassId} (C : GC p s m args meth c cX2_isRefusedForCharges "FreightRater$Rating" (ws_X2_isRefusedForCharges) 3 D A (zty T)) (E : GE T A s) (hr : meth.sig.returnType = (some .boolean)) (P : Int32 → HS → Prop) : ∀ (x0 : Nat) (p0 : Nat) (p1 : Nat) (S0 S : HS) (L : List Nat), S0 = S → wt S → hL S L → (hK S x0 = 3) → (hK S p0 = 10) → (hK S p1 = 5) → wp_X2_isRefusedForCharges P x0 p0 p1 S → GW p l e { rm_X2_isRefusedForCharges with cells := 0, slots := 0 } s m args below meth c D A 3 0 0 (MQ below (va_Qi (fun v (u : HS × List Nat) => P v u.1 ∧ CO S0 u) (CE D T A) A) args s 0 0 A) (CW T S L) 0 0 0 [(0, .ref x0), (1, .ref p0), (2, .ref p1)] [] := by
  have hW : ∀ {w : Cond}, w ∈ W0 → w.before args s = true := fun h => C.2.2.2.2.1 _ (List.mem_cons_of_mem _ h)
  intro x0 p0 p1 S0 S L hS0 hw hL hx0 hp0 hp1 h
  have he : ext S0 S := by rw [hS0]; exact ext_rf
  unfold wp_X2_isRefusedForCharges at h
  refine g_aload_n C dX2_isRefusedForCharges_0 rfl 2 rfl ?_
  refine gc_getI C iwx_X4 hL hp1 (by decide) (by decide) rfl 0 (by decide) (hW kw_395) rfl rfl rfl dX2_isRefusedForCharges_1 ?_
  refine g_if_ne (tgt := 18) C dX2_isRefusedForCharges_4 (by decide) (fun z1 => ?_) (fun z1 => ?_)
  · replace h := h.1 z1
    refine g_aload_n C dX2_isRefusedForCharges_18 rfl 0 rfl ?_
    refine gc_getI C iwx_X2 hL hx0 (by decide) (by decide) rfl 0 (by decide) (hW kw_134) rfl rfl rfl dX2_isRefusedForCharges_19 ?_
    refine g_iconst (v := 1) C dX2_isRefusedForCharges_22 (by decide) ?_
    refine g_icmp_le (tgt := 54) C dX2_isRefusedForCharges_23 (by decide) (fun z2 => ?_) (fun z2 => ?_)
    · replace h := h.1 z2
      refine g_iconst (v := 0) C dX2_isRefusedForCharges_54 (by decide) ?_
      exact gc_zret C vz0 hw hL he hr dX2_isRefusedForCharges_55 h
    · replace h := h.2 z2
      refine g_aload_n C dX2_isRefusedForCharges_26 rfl 0 rfl ?_
      refine gc_getI C iwx_X2 hL hx0 (by decide) (by decide) rfl 7 (by decide) (hW kw_148) rfl rfl rfl dX2_isRefusedForCharges_27 ?_
      refine g_aload_n C dX2_isRefusedForCharges_30 rfl 1 rfl ?_
      refine gc_getI C iwx_X9 hL hp0 (by decide) (by decide) rfl 9 (by decide) (hW kw_434) rfl rfl rfl dX2_isRefusedForCharges_31 ?_
      refine g_icmp_le (tgt := 54) C dX2_isRefusedForCharges_34 (by decide) (fun z3 => ?_) (fun z3 => ?_)
      · replace h := h.1 z3
        refine g_iconst (v := 0) C dX2_isRefusedForCharges_54 (by decide) ?_
        exact gc_zret C vz0 hw hL he hr dX2_isRefusedForCharges_55 h
      · replace h := h.2 z3
        refine g_aload_n C dX2_isRefusedForCharges_37 rfl 0 rfl ?_
        refine g_bipush (v := 7) C dX2_isRefusedForCharges_38 (by decide) ?_
        refine g_aload_n C dX2_isRefusedForCharges_40 rfl 0 rfl ?_
        refine gc_getI C iwx_X2 hL hx0 (by decide) (by decide) rfl 7 (by decide) (hW kw_148) rfl rfl rfl dX2_isRefusedForCharges_41 ?_
        refine gc_calliV (host := "") C E hw hL hx0 (by decide) (by decide) rfl [.int 7, .int (hI S 67 x0)] rfl (k_X2_refuse l D T x0 7 (hI S 67 x0) S hx0) (w0_V 2 C.2.2.2.2.1 kw_1210 kw_1212 ks_29 kw_7 kw_1213 rfl rfl (by decide +kernel) ⟨Nat.le_of_ble_eq_true rfl, Nat.le_of_ble_eq_true rfl⟩) rfl (Nat.le_of_ble_eq_true rfl) (Nat.le_refl _) (Nat.le_refl _) (Nat.zero_le _) (Nat.zero_le _) dX2_isRefusedForCharges_44 (fun v9 S4 L5 e6 w7 w8 hp => ?_)
        replace h := h v9 S4 e6 hp
        have g10 := ext_K e6 hx0 (by decide)
        have g11 := ext_K e6 hp0 (by decide)
        have g12 := ext_K e6 hp1 (by decide)
        have w13 := ext_tr he e6
        refine g_if_eq (tgt := 54) C dX2_isRefusedForCharges_47 (by decide) (fun z14 => ?_) (fun z14 => ?_)
        · replace h := h.1 z14
          refine g_iconst (v := 0) C dX2_isRefusedForCharges_54 (by decide) ?_
          exact gc_zret C vz0 w7 w8 w13 hr dX2_isRefusedForCharges_55 h
        · replace h := h.2 z14
          refine g_iconst (v := 1) C dX2_isRefusedForCharges_50 (by decide) ?_
          refine g_goto (tgt := 55) C dX2_isRefusedForCharges_51 (by decide) ?_
          exact gc_zret C vz1 w7 w8 w13 hr dX2_isRefusedForCharges_55 h
  · replace h := h.2 z1
    refine g_aload_n C dX2_isRefusedForCharges_7 rfl 0 rfl ?_
    refine g_bipush (v := 6) C dX2_isRefusedForCharges_8 (by decide) ?_
    refine g_aload_n C dX2_isRefusedForCharges_10 rfl 0 rfl ?_
    refine gc_getI C iwx_X2 hL hx0 (by decide) (by decide) rfl 6 (by decide) (hW kw_145) rfl rfl rfl dX2_isRefusedForCharges_11 ?_
    refine gc_calliV (host := "") C E hw hL hx0 (by decide) (by decide) rfl [.int 6, .int (hI S 66 x0)] rfl (k_X2_refuse l D T x0 6 (hI S 66 x0) S hx0) (w0_V 2 C.2.2.2.2.1 kw_1210 kw_1212 ks_29 kw_7 kw_1213 rfl rfl (by decide +kernel) ⟨Nat.le_of_ble_eq_true rfl, Nat.le_of_ble_eq_true rfl⟩) rfl (Nat.le_of_ble_eq_true rfl) (Nat.le_refl _) (Nat.le_refl _) (Nat.zero_le _) (Nat.zero_le _) dX2_isRefusedForCharges_14 (fun v20 S15 L16 e17 w18 w19 hp => ?_)
    replace h := h v20 S15 e17 hp
    have g21 := ext_K e17 hx0 (by decide)
    have g22 := ext_K e17 hp0 (by decide)
    have g23 := ext_K e17 hp1 (by decide)
    have w24 := ext_tr he e17
    exact gc_zret C h.1 w18 w19 w24 hr dX2_isRefusedForCharges_17 h.2
theorem c_X2_isRefusedForCharges (l : Launch) (D : va_G) (T : Nat → ClassId) (x0 : Nat) (p0 : Nat) (p1 : Nat) (S : HS) (hx0 : hK S x0 = 3) (hp0 : hK S p0 = 10) (hp1 : hK S p1 = 5) (P : Int32 → HS → Prop) (h : wp_X2_isRefusedForCharges P x0 p0 p1 S) : CMi l yX2_isRefusedForCharges (ws_X2_isRefusedForCharges) rm_X2_isRefusedForCharges D T [.ref x0, .ref p0, .ref p1] S 0 0 P := gc_meti (by decide) rfl rfl (Nat.le_of_ble_eq_true rfl) (fun p e s m args below meth c A L C E hnm hr hw hL => t_X2_isRefusedForCharges C E   hr P x0 p0 p1 S S L rfl hw hL hx0 hp0 hp1 h)
theorem k_X2_isRefusedForCharges (l : Launch) (D : va_G) (T : Nat → ClassId) (x0 : Nat) (p0 : Nat) (p1 : Nat) (S : HS) (e0 : Nat) (hx0 : hK S x0 = 3) (hp0 : hK S p0 = 10) (hp1 : hK S p1 = 5) (h : e0 ≤ 10 ∧ hI S 60 x0 = nI e0) : CMi l yX2_isRefusedForCharges (ws_X2_isRefusedForCharges) rm_X2_isRefusedForCharges D T [.ref x0, .ref p0, .ref p1] S 0 0 (fun v S1 => (c3 S S1 x0 [63, 64] ∧ (hI S 100 p1 = 0 → v = 1 ∧ hI S1 63 x0 = 6 ∧ hI S1 64 x0 = hI S 66 x0) ∧ (¬ hI S 100 p1 = 0 → (1 < e0 ∧ hI S 209 p0 < hI S 67 x0 → v = 1 ∧ hI S1 63 x0 = 7 ∧ hI S1 64 x0 = hI S 67 x0) ∧ (¬ (1 < e0 ∧ hI S 209 p0 < hI S 67 x0) → v = 0 ∧ S1 = S)))) := c_X2_isRefusedForCharges l D T x0 p0 p1 S hx0 hp0 hp1 _ <|
  (by
    obtain ⟨hn, h60⟩ := h
    unfold wp_X2_isRefusedForCharges
    refine ⟨fun c => ⟨fun c1 => ⟨c3.rf, fun z9 => absurd z9 c, fun _ => ⟨fun z9 => ?_, fun _ => ⟨rfl, rfl⟩⟩⟩, fun c1 => ⟨fun c2 => ⟨c3.rf, fun z9 => absurd z9 c, fun _ => ⟨fun z9 => absurd c2 (Int32.not_le.mpr z9.2), fun _ => ⟨rfl, rfl⟩⟩⟩, fun c2 v9 S4 _ hp => ⟨fun z9 => absurd (show (1 : Int32) = 0 from hp.1.symm.trans z9) (by decide), fun _ => ?_⟩⟩⟩, fun c v20 S15 _ hp => ?_⟩
    · rw [h60, nz_le1 (by omega)] at c1
      omega
    · obtain ⟨d1, d2, d4⟩ := rf_c3 (L := [63, 64]) (by decide) (by decide) hp.2
      rw [h60, nz_le1 (by omega)] at c1
      exact ⟨d1, fun z9 => absurd z9 c, fun _ => ⟨fun _ => ⟨rfl, d2, d4⟩, fun z9 => absurd ⟨by omega, Int32.not_le.mp c2⟩ z9⟩⟩
    · obtain ⟨d1, d2, d4⟩ := rf_c3 (L := [63, 64]) (by decide) (by decide) hp.2
      rw [hp.1]
      exact ⟨vz1, d1, fun _ => ⟨rfl, d2, d4⟩, fun z9 => absurd c z9⟩)
abbrev ws_X2_isRefusedForZones : List Cond := Cond.code yX2_isRefusedForZones cX2_isRefusedForZones 5 (some .boolean) :: W0
abbrev rm_X2_isRefusedForZones : Room := ({ frames := 2, cells := 0, slots := 0, locals := 44 } : Room)
def wb_X2_isRefusedForZones_4 (rec : Nat → Nat → Int32 → Int32 → HS → Prop) (P : Int32 → HS → Prop) (x0 : Nat) (x1 : Nat) (x2 : Int32) (x3 : Int32) (S : HS) : Prop := ((hI S 60 x0) ≤ x3 → ((x2 < 0 → (P 0 S)) ∧ (¬ x2 < 0 → (∀ (v8 : Int32) (S3 : HS), ext S S3 → (v8 = 1 ∧ S3 = putI (putI S 63 x0 5) 64 x0 x2) → ((v8 = 0 → (P 0 S3)) ∧ (¬ v8 = 0 → (P 1 S3))))))) ∧ (¬ (hI S 60 x0) ≤ x3 → (∃ b14 : Nat, hR S 61 x0 = some b14 ∧ (hK S b14 = 27 → (vp_in x3 (hN S b14) ∧ (∀ o17 : Option Nat, o17 = hB S b14 (Int32.toNatClampNeg x3) → (∀ b, o17 = some b → hK S b = 6) → (∃ b18 : Nat, o17 = some b18 ∧ (hK S b18 = 6 → (∃ (m20 : (Nat → Prop)) (m21 : Nat → Int32) (m22 : Nat), ((WF m21 ∧ m22 < 6 ∧ RelV S m20 x1 m21 m22) ∧ (∀ v28 : Int32, v28 = (zIn m21 m22 (hI S 120 b18)) → ((¬ v28 = 0 → ((¬ x3 = 0 → ((v28 = (hI S 66 x0) → (∀ v32 : Int32, v32 = x3 + 1 → (rec x0 x1 x2 v32 S))) ∧ (¬ v28 = (hI S 66 x0) → ((0 ≤ x2 → (∀ v34 : Int32, v34 = x3 + 1 → (rec x0 x1 x2 v34 S))) ∧ (¬ 0 ≤ x2 → (∃ b36 : Nat, hR S 62 x0 = some b36 ∧ (hK S b36 = 22 → (vp_in x3 (hN S b36) ∧ (∀ v39 : Int32, v39 = (hA S b36 (Int32.toNatClampNeg x3)) → (∀ v40 : Int32, v40 = x3 + 1 → (rec x0 x1 v39 v40 S))))))))))) ∧ (x3 = 0 → (∀ S42 : HS, S42 = putI S 66 x0 v28 → (∀ v48 : Int32, v48 = x3 + 1 → (rec x0 x1 x2 v48 S42)))))) ∧ (v28 = 0 → (∃ b50 : Nat, hR S 62 x0 = some b50 ∧ (hK S b50 = 22 → (vp_in x3 (hN S b50) ∧ (∀ (v58 : Int32) (S53 : HS), ext S S53 → (v58 = 1 ∧ S53 = putI (putI S 63 x0 4) 64 x0 (hA S b50 (Int32.toNatClampNeg x3))) → (vz v58 ∧ P v58 S53)))))))))))))))))
def wp_X2_isRefusedForZones_4 (P : Int32 → HS → Prop) : Nat → Nat → Nat → Int32 → Int32 → HS → Prop
  | 0 => fun _ _ _ _ _ => False
  | n + 1 => fun x0 x1 x2 x3 S => wb_X2_isRefusedForZones_4 (wp_X2_isRefusedForZones_4  P n)  P x0 x1 x2 x3 S
set_option maxRecDepth 100000 in
set_option maxHeartbeats 4000000 in
theorem t_X2_isRefusedForZones_4 {p : Program} {l : Launch} {e : Env} {s : State} {m : MethodId} {args : Array Value} {below : List Frame} {meth : Method} {c : Code} {D : va_G} {A : Nat → Prop} {T : Nat → ClassId} (C : GC p s m args meth c cX2_isRefusedForZones "FreightRater$Rating" (ws_X2_isRefusedForZones) 5 D A (zty T)) (E : GE T A s) (hr : meth.sig.returnType = (some .boolean)) (S0 : HS) (P : Int32 → HS → Prop) : ∀ (n : Nat) (x0 : Nat) (x1 : Nat) (x2 : Int32) (x3 : Int32) (S : HS) (L : List Nat), wt S → hL S L → ext S0 S → (hK S x0 = 3) → (hK S x1 = 10) → wp_X2_isRefusedForZones_4  P n x0 x1 x2 x3 S → GW p l e { rm_X2_isRefusedForZones with cells := 0, slots := 0 } s m args below meth c D A 5 0 0 (MQ below (va_Qi (fun v (u : HS × List Nat) => P v u.1 ∧ CO S0 u) (CE D T A) A) args s 0 0 A) (CW T S L) 0 0 4 [(0, .ref x0), (1, .ref x1), (2, .int x2), (3, .int x3)] [] := by
  have hW : ∀ {w : Cond}, w ∈ W0 → w.before args s = true := fun h => C.2.2.2.2.1 _ (List.mem_cons_of_mem _ h)
  intro n
  induction n with
  | zero => intro x0 x1 x2 x3 S L hw hL he hx0 hx1 h; exact h.elim
  | succ n ih =>
    intro x0 x1 x2 x3 S L hw hL he hx0 hx1 h
    replace h : wb_X2_isRefusedForZones_4 (wp_X2_isRefusedForZones_4  P n)  P x0 x1 x2 x3 S := h
    unfold wb_X2_isRefusedForZones_4 at h
    refine g_iload_n C dX2_isRefusedForZones_4 rfl 3 rfl ?_
    refine g_aload_n C dX2_isRefusedForZones_5 rfl 0 rfl ?_
    refine gc_getI C iwx_X2 hL hx0 (by decide) (by decide) rfl 0 (by decide) (hW kw_134) rfl rfl rfl dX2_isRefusedForZones_6 ?_
    refine g_icmp_ge (tgt := 83) C dX2_isRefusedForZones_9 (by decide) (fun z1 => ?_) (fun z1 => ?_)
    · replace h := h.1 z1
      refine g_iload_n C dX2_isRefusedForZones_83 rfl 2 rfl ?_
      refine g_if_lt (tgt := 100) C dX2_isRefusedForZones_84 (by decide) (fun z2 => ?_) (fun z2 => ?_)
      · replace h := h.1 z2
        refine g_iconst (v := 0) C dX2_isRefusedForZones_100 (by decide) ?_
        exact gc_zret C vz0 hw hL he hr dX2_isRefusedForZones_101 h
      · replace h := h.2 z2
        refine g_aload_n C dX2_isRefusedForZones_87 rfl 0 rfl ?_
        refine g_iconst (v := 5) C dX2_isRefusedForZones_88 (by decide) ?_
        refine g_iload_n C dX2_isRefusedForZones_89 rfl 2 rfl ?_
        refine gc_calliV (host := "") C E hw hL hx0 (by decide) (by decide) rfl [.int 5, .int x2] rfl (k_X2_refuse l D T x0 5 x2 S hx0) (w0_V 2 C.2.2.2.2.1 kw_1210 kw_1212 ks_29 kw_7 kw_1213 rfl rfl (by decide +kernel) ⟨Nat.le_of_ble_eq_true rfl, Nat.le_of_ble_eq_true rfl⟩) rfl (Nat.le_of_ble_eq_true rfl) (Nat.le_refl _) (Nat.le_refl _) (Nat.zero_le _) (Nat.zero_le _) dX2_isRefusedForZones_90 (fun v8 S3 L4 e5 w6 w7 hp => ?_)
        replace h := h v8 S3 e5 hp
        have g9 := ext_K e5 hx0 (by decide)
        have g10 := ext_K e5 hx1 (by decide)
        have w11 := ext_tr he e5
        refine g_if_eq (tgt := 100) C dX2_isRefusedForZones_93 (by decide) (fun z12 => ?_) (fun z12 => ?_)
        · replace h := h.1 z12
          refine g_iconst (v := 0) C dX2_isRefusedForZones_100 (by decide) ?_
          exact gc_zret C vz0 w6 w7 w11 hr dX2_isRefusedForZones_101 h
        · replace h := h.2 z12
          refine g_iconst (v := 1) C dX2_isRefusedForZones_96 (by decide) ?_
          refine g_goto (tgt := 101) C dX2_isRefusedForZones_97 (by decide) ?_
          exact gc_zret C vz1 w6 w7 w11 hr dX2_isRefusedForZones_101 h
    · replace h := h.2 z1
      refine g_aload_n C dX2_isRefusedForZones_12 rfl 1 rfl ?_
      refine g_aload_n C dX2_isRefusedForZones_13 rfl 0 rfl ?_
      refine gc_getR C hw iwx_X2 hL hx0 (by decide) (by decide) rfl 1 (by decide) (hW kw_135) rfl rfl rfl dX2_isRefusedForZones_14 (fun o13 eo13 ko13 => ?_)
      obtain ⟨b14, hb9, h⟩ := h
      have g15 : hK S b14 = 27 := ko13 b14 (eo13.trans hb9)
      replace h := h g15
      refine g_opt (eo13.trans hb9) ?_
      refine g_iload_n C dX2_isRefusedForZones_17 rfl 3 rfl ?_
      obtain ⟨g16, h⟩ := h
      refine gc_aald C hw hL g15 (by decide) rfl g16 dX2_isRefusedForZones_18 (fun o17 eo17 ko17 => ?_)
      replace h := h o17 eo17 ko17
      obtain ⟨b18, rfl, h⟩ := h
      have g19 : hK S b18 = 6 := ko17 b18 rfl
      replace h := h g19
      refine gc_getI C iwx_X5 hL g19 (by decide) (by decide) rfl 0 (by decide) (hW kw_1080) rfl rfl rfl dX2_isRefusedForZones_19 ?_
      obtain ⟨m20, m21, m22, h⟩ := h
      obtain ⟨g23, h⟩ := h
      refine gc_calliV (host := "") C E hw hL hx1 (by decide) (by decide) rfl [.int (hI S 120 b18)] rfl (k_X9_findZone l D T x1 (hI S 120 b18) S m20 m21 m22 hx1 g23) (w0_V 1 C.2.2.2.2.1 kw_1224 kw_1015 kw_1016 kw_14 kw_1017 rfl rfl (by decide +kernel) ⟨Nat.le_of_ble_eq_true rfl, Nat.le_of_ble_eq_true rfl⟩) rfl (Nat.le_of_ble_eq_true rfl) (Nat.le_refl _) (Nat.le_refl _) (Nat.zero_le _) (Nat.zero_le _) dX2_isRefusedForZones_22 (fun v9 S9 L24 he9 hw9 hL9 hp => ?_)
      obtain ⟨hv9, hs9⟩ := hp
      replace hs9 := hs9.symm
      subst hs9
      replace hv9 := hv9.symm
      subst hv9
      have w27 := hL9
      refine g_topi (fun v28 ev28 => ?_)
      replace h := h v28 ev28
      refine g_istore (lv' := [(4, .int v28), (0, .ref x0), (1, .ref x1), (2, .int x2), (3, .int x3)]) C dX2_isRefusedForZones_25 (by decide) rfl ?_
      refine g_iload C dX2_isRefusedForZones_27 0 rfl ?_
      refine g_if_ne (tgt := 44) C dX2_isRefusedForZones_29 (by decide) (fun z29 => ?_) (fun z29 => ?_)
      · replace h := h.1 z29
        refine g_iload_n C dX2_isRefusedForZones_44 rfl 4 rfl ?_
        refine g_if_ne (tgt := 57) C dX2_isRefusedForZones_45 (by decide) (fun z30 => ?_) (fun z30 => ?_)
        · replace h := h.1 z30
          refine g_iload C dX2_isRefusedForZones_57 0 rfl ?_
          refine g_aload_n C dX2_isRefusedForZones_59 rfl 1 rfl ?_
          refine gc_getI C iwx_X2 w27 hx0 (by decide) (by decide) rfl 6 (by decide) (hW kw_145) rfl rfl rfl dX2_isRefusedForZones_60 ?_
          refine g_icmp_eq (tgt := 77) C dX2_isRefusedForZones_63 (by decide) (fun z31 => ?_) (fun z31 => ?_)
          · replace h := h.1 z31
            obtain ⟨v32, ev32⟩ : ∃ y : Int32, y = x3 + 1 := ⟨_, rfl⟩
            replace h := h v32 ev32
            refine g_iinc (v := v32) (lv' := [(3, .int v32), (4, .int v28), (0, .ref x0), (1, .ref x1), (2, .int x2)]) C dX2_isRefusedForZones_77 (j := 4) rfl (by rw [ev32]; rfl) (by decide) rfl ?_
            refine g_goto (tgt := 4) C dX2_isRefusedForZones_80 (by decide) ?_
            refine g_locals [2, 3, 4, 0] rfl ?_
            exact ih x0 x1 x2 v32 S L24 hw w27 he hx0 hx1 h
          · replace h := h.2 z31
            refine g_iload_n C dX2_isRefusedForZones_66 rfl 3 rfl ?_
            refine g_if_ge (tgt := 77) C dX2_isRefusedForZones_67 (by decide) (fun z33 => ?_) (fun z33 => ?_)
            · replace h := h.1 z33
              obtain ⟨v34, ev34⟩ : ∃ y : Int32, y = x3 + 1 := ⟨_, rfl⟩
              replace h := h v34 ev34
              refine g_iinc (v := v34) (lv' := [(3, .int v34), (4, .int v28), (0, .ref x0), (1, .ref x1), (2, .int x2)]) C dX2_isRefusedForZones_77 (j := 4) rfl (by rw [ev34]; rfl) (by decide) rfl ?_
              refine g_goto (tgt := 4) C dX2_isRefusedForZones_80 (by decide) ?_
              refine g_locals [2, 3, 4, 0] rfl ?_
              exact ih x0 x1 x2 v34 S L24 hw w27 he hx0 hx1 h
            · replace h := h.2 z33
              refine g_aload_n C dX2_isRefusedForZones_70 rfl 1 rfl ?_
              refine gc_getR C hw iwx_X2 w27 hx0 (by decide) (by decide) rfl 2 (by decide) (hW kw_136) rfl rfl rfl dX2_isRefusedForZones_71 (fun o35 eo35 ko35 => ?_)
              obtain ⟨b36, hb9, h⟩ := h
              have g37 : hK S b36 = 22 := ko35 b36 (eo35.trans hb9)
              replace h := h g37
              refine g_opt (eo35.trans hb9) ?_
              refine g_iload_n C dX2_isRefusedForZones_74 rfl 4 rfl ?_
              obtain ⟨g38, h⟩ := h
              refine gc_iald C w27 g37 g38 dX2_isRefusedForZones_75 ?_
              refine g_topi (fun v39 ev39 => ?_)
              replace h := h v39 ev39
              refine g_istore_n (lv' := [(2, .int v39), (4, .int v28), (0, .ref x0), (1, .ref x1), (3, .int x3)]) C dX2_isRefusedForZones_76 rfl (by decide) rfl ?_
              obtain ⟨v40, ev40⟩ : ∃ y : Int32, y = x3 + 1 := ⟨_, rfl⟩
              replace h := h v40 ev40
              refine g_iinc (v := v40) (lv' := [(3, .int v40), (2, .int v39), (4, .int v28), (0, .ref x0), (1, .ref x1)]) C dX2_isRefusedForZones_77 (j := 4) rfl (by rw [ev40]; rfl) (by decide) rfl ?_
              refine g_goto (tgt := 4) C dX2_isRefusedForZones_80 (by decide) ?_
              refine g_locals [3, 4, 1, 0] rfl ?_
              exact ih x0 x1 v39 v40 S L24 hw w27 he hx0 hx1 h
        · replace h := h.2 z30
          refine g_aload_n C dX2_isRefusedForZones_48 rfl 1 rfl ?_
          refine g_iload C dX2_isRefusedForZones_49 0 rfl ?_
          refine gc_putI C iwx_X2 w27 hx0 (by decide) (by decide) rfl 6 (by decide) (hW kw_145) rfl tyX2 tyX2_ok nmX2 rfl rfl rfl rfl rfl dX2_isRefusedForZones_51 ?_
          have w41 := wt_putI hw 66 v28 (k_ne hx0 (by decide))
          refine gc_nS (fun S42 eS42 => ?_)
          replace h := h S42 eS42
          have w43 : wt S42 := by rw [eS42]; exact w41
          have w44 : isL S42 L24 := by rw [eS42]; exact w27
          have w45 : ext S0 S42 := by rw [eS42]; exact he
          have g46 : hK S42 x0 = 3 := by rw [eS42]; exact hx0
          have g47 : hK S42 x1 = 10 := by rw [eS42]; exact hx1
          refine g_goto (tgt := 77) C dX2_isRefusedForZones_54 (by decide) ?_
          obtain ⟨v48, ev48⟩ : ∃ y : Int32, y = x3 + 1 := ⟨_, rfl⟩
          replace h := h v48 ev48
          refine g_iinc (v := v48) (lv' := [(3, .int v48), (4, .int v28), (0, .ref x0), (1, .ref x1), (2, .int x2)]) C dX2_isRefusedForZones_77 (j := 4) rfl (by rw [ev48]; rfl) (by decide) rfl ?_
          refine g_goto (tgt := 4) C dX2_isRefusedForZones_80 (by decide) ?_
          refine g_locals [2, 3, 4, 0] rfl ?_
          exact ih x0 x1 x2 v48 S42 L24 w43 w44 w45 g46 g47 h
      · replace h := h.2 z29
        refine g_aload_n C dX2_isRefusedForZones_32 rfl 1 rfl ?_
        refine g_iconst (v := 4) C dX2_isRefusedForZones_33 (by decide) ?_
        refine g_aload_n C dX2_isRefusedForZones_34 rfl 1 rfl ?_
        refine gc_getR C hw iwx_X2 w27 hx0 (by decide) (by decide) rfl 2 (by decide) (hW kw_136) rfl rfl rfl dX2_isRefusedForZones_35 (fun o49 eo49 ko49 => ?_)
        obtain ⟨b50, hb9, h⟩ := h
        have g51 : hK S b50 = 22 := ko49 b50 (eo49.trans hb9)
        replace h := h g51
        refine g_opt (eo49.trans hb9) ?_
        refine g_iload_n C dX2_isRefusedForZones_38 rfl 4 rfl ?_
        obtain ⟨g52, h⟩ := h
        refine gc_iald C w27 g51 g52 dX2_isRefusedForZones_39 ?_
        refine gc_calliV (host := "") C E hw w27 hx0 (by decide) (by decide) rfl [.int 4, .int (hA S b50 (Int32.toNatClampNeg x3))] rfl (k_X2_refuse l D T x0 4 (hA S b50 (Int32.toNatClampNeg x3)) S hx0) (w0_V 2 C.2.2.2.2.1 kw_1210 kw_1212 ks_29 kw_7 kw_1213 rfl rfl (by decide +kernel) ⟨Nat.le_of_ble_eq_true rfl, Nat.le_of_ble_eq_true rfl⟩) rfl (Nat.le_of_ble_eq_true rfl) (Nat.le_refl _) (Nat.le_refl _) (Nat.zero_le _) (Nat.zero_le _) dX2_isRefusedForZones_40 (fun v58 S53 L54 e55 w56 w57 hp => ?_)
        replace h := h v58 S53 e55 hp
        have g59 := ext_K e55 hx0 (by decide)
        have g60 := ext_K e55 hx1 (by decide)
        have w61 := ext_tr he e55
        exact gc_zret C h.1 w56 w57 w61 hr dX2_isRefusedForZones_43 h.2
def wp_X2_isRefusedForZones (P : Int32 → HS → Prop) (x0 : Nat) (p0 : Nat) (S : HS) : Prop := ∃ k62 : Nat, wp_X2_isRefusedForZones_4  P k62 x0 p0 (-1) 0 S
set_option maxRecDepth 100000 in
set_option maxHeartbeats 4000000 in
theorem t_X2_isRefusedForZones {p : Program} {l : Launch} {e : Env} {s : State} {m : MethodId} {args : Array Value} {below : List Frame} {meth : Method} {c : Code} {D : va_G} {A : Nat → Prop} {T : Nat → ClassId} (C : GC p s m args meth c cX2_isRefusedForZones "FreightRater$Rating" (ws_X2_isRefusedForZones) 5 D A (zty T)) (E : GE T A s) (hr : meth.sig.returnType = (some .boolean)) (P : Int32 → HS → Prop) : ∀ (x0 : Nat) (p0 : Nat) (S0 S : HS) (L : List Nat), S0 = S → wt S → hL S L → (hK S x0 = 3) → (hK S p0 = 10) → wp_X2_isRefusedForZones P x0 p0 S → GW p l e { rm_X2_isRefusedForZones with cells := 0, slots := 0 } s m args below meth c D A 5 0 0 (MQ below (va_Qi (fun v (u : HS × List Nat) => P v u.1 ∧ CO S0 u) (CE D T A) A) args s 0 0 A) (CW T S L) 0 0 0 [(0, .ref x0), (1, .ref p0)] [] := by
  have hW : ∀ {w : Cond}, w ∈ W0 → w.before args s = true := fun h => C.2.2.2.2.1 _ (List.mem_cons_of_mem _ h)
  intro x0 p0 S0 S L hS0 hw hL hx0 hp0 h
  have he : ext S0 S := by rw [hS0]; exact ext_rf
  unfold wp_X2_isRefusedForZones at h
  refine g_iconst (v := -1) C dX2_isRefusedForZones_0 (by decide) ?_
  refine g_istore_n (lv' := [(2, .int (-1)), (0, .ref x0), (1, .ref p0)]) C dX2_isRefusedForZones_1 rfl (by decide) rfl ?_
  refine g_iconst (v := 0) C dX2_isRefusedForZones_2 (by decide) ?_
  refine g_istore_n (lv' := [(3, .int 0), (2, .int (-1)), (0, .ref x0), (1, .ref p0)]) C dX2_isRefusedForZones_3 rfl (by decide) rfl ?_
  refine g_locals [2, 3, 1, 0] rfl ?_
  obtain ⟨k62, h⟩ := h
  refine t_X2_isRefusedForZones_4 C E hr S0  P  k62 x0 p0 (-1) 0 S L hw hL he hx0 hp0 h
theorem c_X2_isRefusedForZones (l : Launch) (D : va_G) (T : Nat → ClassId) (x0 : Nat) (p0 : Nat) (S : HS) (hx0 : hK S x0 = 3) (hp0 : hK S p0 = 10) (P : Int32 → HS → Prop) (h : wp_X2_isRefusedForZones P x0 p0 S) : CMi l yX2_isRefusedForZones (ws_X2_isRefusedForZones) rm_X2_isRefusedForZones D T [.ref x0, .ref p0] S 0 0 P := gc_meti (by decide) rfl rfl (Nat.le_of_ble_eq_true rfl) (fun p e s m args below meth c A L C E hnm hr hw hL => t_X2_isRefusedForZones C E   hr P x0 p0 S S L rfl hw hL hx0 hp0 h)
theorem rl_z4 {P : Int32 → HS → Prop} {M : Nat → Prop} {x y g v : Nat} {μ : Nat → Int32} {L : List Nat} {S0 : HS} (hw : WF μ) (hv : v < 6) (h0 : 0 < L.length) (hlow : gl L 0 = lowN g) (hx : hK S0 x = 3) (hM61 : ∀ b, hR S0 61 x = some b → M b) (hM : ∀ b, hR S0 62 x = some b → M b) : ∀ (k i fuel : Nat) (o : Int32) (S : HS), i + k = L.length → k < fuel → RtM S M x μ L → RelV S M y μ v → c3 S0 S x [63, 64, 66] → hI S 63 x = hI S0 63 x → hI S 64 x = hI S0 64 x → (0 < i → hI S 66 x = zIn μ v (μ (14 + 26 * lowN g + 0))) → ((o = -1 ∧ ∀ j, j < i → rsF μ v 5 g (gl L j) = 0) ∨ ∃ j, j < i ∧ o = nI (gl L j) ∧ ¬ rsF μ v 5 g (gl L j) = 0 ∧ ∀ j', j' < j → rsF μ v 5 g (gl L j') = 0) → (∀ j, j < i → rsF μ v 4 g (gl L j) = 0) → (∀ v1 S1, c3 S0 S1 x [63, 64, 66] → (∀ j, j < L.length → ¬ rsF μ v 4 g (gl L j) = 0 → (∀ j', j' < j → rsF μ v 4 g (gl L j') = 0) → v1 = 1 ∧ hI S1 63 x = 4 ∧ hI S1 64 x = nI (gl L j)) → ((∀ j, j < L.length → rsF μ v 4 g (gl L j) = 0) → hI S1 66 x = zIn μ v (μ (14 + 26 * lowN g + 0)) ∧ (∀ j, j < L.length → ¬ rsF μ v 5 g (gl L j) = 0 → (∀ j', j' < j → rsF μ v 5 g (gl L j') = 0) → v1 = 1 ∧ hI S1 63 x = 5 ∧ hI S1 64 x = nI (gl L j)) ∧ ((∀ j, j < L.length → rsF μ v 5 g (gl L j) = 0) → v1 = 0 ∧ hI S1 63 x = hI S0 63 x ∧ hI S1 64 x = hI S0 64 x)) → P v1 S1) → wp_X2_isRefusedForZones_4 P fuel x y o (nI i) S := by
  intro k
  induction k with
  | zero =>
    intro i fuel o S hi hf hRM hV hc h63 h64 h66 ho h4 hP
    obtain ⟨mb, nb, r1, r2, n1, n2, hl, h60, hh⟩ := hRM.mb
    have ei : i = L.length := by omega
    subst ei
    obtain ⟨f, rfl⟩ : ∃ f, fuel = f + 1 := ⟨fuel - 1, by omega⟩; rw [wp_X2_isRefusedForZones_4]; unfold wb_X2_isRefusedForZones_4; dsimp only
    rw [h60, nI_leI (by omega) (by omega)]
    refine ⟨fun _ => ⟨fun c => hP 0 S hc (fun j hj hn _ => absurd (h4 j hj) hn) (fun _ => ⟨h66 h0, fun j hj hn hlt => ?_, fun _ => ⟨rfl, h63, h64⟩⟩), fun c v8 S3 _ hp => ⟨fun z9 => absurd (show (1 : Int32) = 0 from hp.1.symm.trans z9) (by decide), fun _ => ?_⟩⟩, fun z9 => absurd (Nat.le_refl _) z9⟩
    · exfalso
      rcases ho with ⟨_, hall⟩ | ⟨j', hj', eo, _⟩
      · exact hn (hall j hj)
      · obtain ⟨gj, _⟩ := hh j' hj'
        rw [eo, nz_lt0 (by omega)] at c
        exact c
    · obtain ⟨d1, d2, d4⟩ := rf_c3 (L := [63, 64, 66]) (by decide) (by decide) hp.2
      refine hP 1 S3 (hc.tr d1 (fun _ h => h) (fun _ h => h)) (fun j hj hn _ => absurd (h4 j hj) hn) (fun _ => ⟨?_, fun j hj hn hlt => ⟨rfl, d2, ?_⟩, fun hall => ?_⟩)
      · rw [hp.2, putI_i _ _ _ (by decide), putI_i _ _ _ (by decide)]; exact h66 h0
      · rcases ho with ⟨eo, _⟩ | ⟨j', hj', eo, hn', hlt'⟩
        · rw [eo] at c; exact absurd (by decide) c
        · rw [d4, eo]
          rcases Nat.lt_trichotomy j j' with q9 | q9 | q9
          · exact absurd (hlt' j q9) hn
          · rw [q9]
          · exact absurd (hlt j' q9) hn'
      · exfalso
        rcases ho with ⟨eo, _⟩ | ⟨j', hj', eo, hn', _⟩
        · rw [eo] at c; exact absurd (by decide) c
        · exact hn' (hall j' hj')
  | succ k ih =>
    intro i fuel o S hi hf hRM hV hc h63 h64 h66 ho h4 hP
    have hfr := hc.fr
    obtain ⟨mb, nb, r1, r2, n1, n2, hl, h60, hh⟩ := hRM.mb
    obtain ⟨gi, ha, z, hz, hzR⟩ := hh i (by omega)
    have e120 : hI S 120 z = μ (14 + 26 * gl L i) := hzR.2.2.1
    have er4 : rsF μ v 4 g (gl L i) = if zIn μ v (μ (14 + 26 * gl L i + 0)) = 0 then 1 else 0 := by unfold rsF; rw [if_neg (by decide), if_neg (by decide), if_pos rfl]
    have er5 : rsF μ v 5 g (gl L i) = if zIn μ v (μ (14 + 26 * gl L i + 0)) = zIn μ v (μ (14 + 26 * lowN g + 0)) then 0 else 1 := by unfold rsF; rw [if_neg (by decide), if_neg (by decide), if_neg (by decide), if_pos rfl]
    have hMn : ∀ b, hR S 62 x = some b → M b := fun b hb => hM b (by rw [← hc.2.2.1]; exact hb)
    have hMb : ∀ b, hR S 61 x = some b → M b := fun b hb => hM61 b (by rw [← hc.2.2.1]; exact hb)
    obtain ⟨f, rfl⟩ : ∃ f, fuel = f + 1 := ⟨fuel - 1, by omega⟩; rw [wp_X2_isRefusedForZones_4]; unfold wb_X2_isRefusedForZones_4; dsimp only
    rw [h60, nI_leI (by omega) (by omega), nI_1]
    refine ⟨fun z9 => absurd z9 (by omega), fun _ => ⟨mb, r1, fun _ => ?_⟩⟩
    rw [n1, nz_vp (by omega) (by decide), nI_clamp (n := i) (by omega), hz]
    refine ⟨by omega, fun o17 e17 _ => ⟨z, e17, fun _ => ⟨M, μ, v, ⟨hw, hv, hV⟩, fun v28 e28 => ⟨fun c => ?_, fun c => ?_⟩⟩⟩⟩
    · rw [e120] at e28
      have e28' : v28 = zIn μ v (μ (14 + 26 * gl L i + 0)) := e28
      have h4' : ∀ j, j < i + 1 → rsF μ v 4 g (gl L j) = 0 := fun j hj => by
        rcases Nat.eq_or_lt_of_le (Nat.le_of_lt_succ hj) with e9 | e9
        · subst e9; rw [er4, if_neg (by rw [← e28']; exact c)]
        · exact h4 j e9
      rw [nz_eq0 (by omega)]
      refine ⟨fun ci => ?_, fun ci S42 e42 v48 e48 => ?_⟩
      · rw [h66 (by omega)]
        refine ⟨fun c5 v32 e32 => ?_, fun c5 => ⟨fun c6 v34 e34 => ?_, fun c6 => ⟨nb, r2, fun _ => ?_⟩⟩⟩
        · subst e32
          refine ih (i + 1) f o S (by omega) (by omega) hRM hV hc h63 h64 (fun _ => h66 (by omega)) ?_ h4' hP
          rcases ho with ⟨eo, hall⟩ | ⟨j', hj', eo, hn', hlt'⟩
          · refine Or.inl ⟨eo, fun j hj => ?_⟩
            rcases Nat.eq_or_lt_of_le (Nat.le_of_lt_succ hj) with e9 | e9
            · subst e9; rw [er5, if_pos (by rw [← e28']; exact c5)]
            · exact hall j e9
          · exact Or.inr ⟨j', by omega, eo, hn', hlt'⟩
        · subst e34
          refine ih (i + 1) f o S (by omega) (by omega) hRM hV hc h63 h64 (fun _ => h66 (by omega)) ?_ h4' hP
          rcases ho with ⟨eo, hall⟩ | ⟨j', hj', eo, hn', hlt'⟩
          · rw [eo] at c6; exact absurd c6 (by decide)
          · exact Or.inr ⟨j', by omega, eo, hn', hlt'⟩
        · rw [n2, nz_vp (by omega) (by decide), ha]
          refine ⟨by omega, fun v39 e39 v40 e40 => ?_⟩
          subst e39 e40
          refine ih (i + 1) f _ S (by omega) (by omega) hRM hV hc h63 h64 (fun _ => h66 (by omega)) ?_ h4' hP
          rcases ho with ⟨eo, hall⟩ | ⟨j', hj', eo, hn', hlt'⟩
          · exact Or.inr ⟨i, Nat.lt_succ_self _, rfl, by rw [er5, if_neg (by rw [← e28']; exact c5)]; decide, hall⟩
          · obtain ⟨gj, _⟩ := hh j' (by omega)
            rw [eo, nz_le (by omega)] at c6; exact absurd trivial c6
      · subst ci e48
        have c42 : c3 S S42 x [63, 64, 66] := by rw [e42]; exact c3.rf.up (by decide) _
        have c42' : c3 S S42 x [66] := by rw [e42]; exact c3.rf.up (by decide) _
        refine ih 1 f o S42 (by omega) (by omega) (hRM.c3 c42 (by decide) hMn) (hV.fr c42.fr hRM.1 hMb hMn) (hc.tr c42 (fun _ h => h) (fun _ h => h)) (by rw [c42'.I (by decide)]; exact h63) (by rw [c42'.I (by decide)]; exact h64) (fun _ => ?_) (Or.inl ⟨?_, fun j hj => ?_⟩) h4' hP
        · rw [e42, putI_s, e28', hlow]
        · rcases ho with ⟨eo, _⟩ | ⟨j', hj', _⟩
          · exact eo
          · omega
        · have e9 : j = 0 := by omega
          subst e9
          rw [er5, if_pos (by rw [hlow])]
    · refine ⟨nb, r2, fun _ => ?_⟩
      rw [n2, nz_vp (by omega) (by decide), ha]
      refine ⟨by omega, fun v58 S53 _ hp => ?_⟩
      rw [e120] at e28
      have e28' : v28 = zIn μ v (μ (14 + 26 * gl L i + 0)) := e28
      have h4n : ¬ rsF μ v 4 g (gl L i) = 0 := by rw [er4, if_pos (by rw [← e28']; exact c)]; decide
      obtain ⟨d1, d2, d4⟩ := rf_c3 (L := [63, 64, 66]) (by decide) (by decide) hp.2
      rw [hp.1]
      refine ⟨vz1, hP 1 S53 (hc.tr d1 (fun _ h => h) (fun _ h => h)) (fun j hj hn hlt => ⟨rfl, d2, ?_⟩) (fun hall => absurd (hall i (by omega)) h4n)⟩
      rcases Nat.lt_trichotomy j i with q9 | q9 | q9
      · exact absurd (h4 j q9) hn
      · rw [q9]; exact d4
      · exact absurd (hlt i q9) h4n
theorem fiX_s {μ : Nat → Int32} {gv rs g : Nat} {L : List Nat} {s : Nat} : ∀ k i, fiX μ gv rs g L k i = some s → ∃ j, i ≤ j ∧ j < i + k ∧ s = gl L j ∧ ¬ rsF μ gv rs g (gl L j) = 0 ∧ ∀ j', i ≤ j' → j' < j → rsF μ gv rs g (gl L j') = 0 := by
  intro k
  induction k with
  | zero => intro i h; cases h
  | succ k ih =>
    intro i h
    rw [fiX] at h
    by_cases c : ¬ rsF μ gv rs g (gl L i) = 0
    · rw [if_pos c] at h
      exact ⟨i, Nat.le_refl _, by omega, (Option.some.inj h).symm, c, fun j' h1 h2 => by omega⟩
    · rw [if_neg c] at h
      obtain ⟨j, h1, h2, h3, h4, h5⟩ := ih (i + 1) h
      refine ⟨j, by omega, by omega, h3, h4, fun j' g1 g2 => ?_⟩
      rcases Nat.eq_or_lt_of_le g1 with e9 | e9
      · subst e9; exact Decidable.byContradiction c
      · exact h5 j' e9 g2
theorem fiX_n {μ : Nat → Int32} {gv rs g : Nat} {L : List Nat} : ∀ k i, fiX μ gv rs g L k i = none → ∀ j, i ≤ j → j < i + k → rsF μ gv rs g (gl L j) = 0 := by
  intro k
  induction k with
  | zero => intro i _ j h1 h2; omega
  | succ k ih =>
    intro i h j h1 h2
    rw [fiX] at h
    by_cases c : ¬ rsF μ gv rs g (gl L i) = 0
    · rw [if_pos c] at h; cases h
    · rw [if_neg c] at h
      rcases Nat.eq_or_lt_of_le h1 with e9 | e9
      · subst e9; exact Decidable.byContradiction c
      · exact ih (i + 1) h j e9 (by omega)
theorem k_X2_isRefusedForZones (l : Launch) (D : va_G) (T : Nat → ClassId) (x0 : Nat) (p0 : Nat) (S : HS) (e0 : (Nat → Prop)) (e1 : Nat → Int32) (e2 : List Nat) (e3 : Nat) (e4 : Nat) (hx0 : hK S x0 = 3) (hp0 : hK S p0 = 10) (h : WF e1 ∧ RtM S e0 x0 e1 e2 ∧ (∀ b, hR S 62 x0 = some b → e0 b) ∧ 0 < e2.length ∧ gl e2 0 = lowN e3 ∧ e4 < 6 ∧ RelV S e0 p0 e1 e4 ∧ ∀ b, hR S 61 x0 = some b → e0 b) : CMi l yX2_isRefusedForZones (ws_X2_isRefusedForZones) rm_X2_isRefusedForZones D T [.ref x0, .ref p0] S 0 0 (fun v S1 => (c3 S S1 x0 [63, 64, 66] ∧ (∀ s, fiX e1 e4 4 e3 e2 e2.length 0 = some s → v = 1 ∧ hI S1 63 x0 = 4 ∧ hI S1 64 x0 = nI s) ∧ (fiX e1 e4 4 e3 e2 e2.length 0 = none → hI S1 66 x0 = zIn e1 e4 (e1 (14 + 26 * lowN e3 + 0)) ∧ (∀ s, fiX e1 e4 5 e3 e2 e2.length 0 = some s → v = 1 ∧ hI S1 63 x0 = 5 ∧ hI S1 64 x0 = nI s) ∧ (fiX e1 e4 5 e3 e2 e2.length 0 = none → v = 0 ∧ hI S1 63 x0 = hI S 63 x0 ∧ hI S1 64 x0 = hI S 64 x0)))) := c_X2_isRefusedForZones l D T x0 p0 S hx0 hp0 _ <|
  (by
    obtain ⟨⟨hw, hR, hM, h0, hlow⟩, hv, hV, hMb⟩ : (WF e1 ∧ RtM S e0 x0 e1 e2 ∧ (∀ b, hR S 62 x0 = some b → e0 b) ∧ 0 < e2.length ∧ gl e2 0 = lowN e3) ∧ e4 < 6 ∧ RelV S e0 p0 e1 e4 ∧ ∀ b, hR S 61 x0 = some b → e0 b := ⟨⟨h.1, h.2.1, h.2.2.1, h.2.2.2.1, h.2.2.2.2.1⟩, h.2.2.2.2.2⟩
    have hl := hR.2.1
    unfold wp_X2_isRefusedForZones
    refine ⟨20, rl_z4 (S0 := S) (g := e3) hw hv h0 hlow hR.1 hMb hM e2.length 0 20 (-1) S (by omega) (by omega) hR hV c3.rf rfl rfl (fun z9 => absurd z9 (Nat.lt_irrefl 0)) (Or.inl ⟨rfl, fun j hj => absurd hj (Nat.not_lt_zero j)⟩) (fun j hj => absurd hj (Nat.not_lt_zero j)) (fun v1 S1 hc hA hB => ⟨hc, fun s hs => ?_, fun hn => ?_⟩)⟩
    · obtain ⟨j, _, h2, h3, h4, h5⟩ := fiX_s _ _ hs
      rw [h3]
      exact hA j (by omega) h4 (fun j' hj' => h5 j' (Nat.zero_le _) hj')
    · obtain ⟨b1, b2, b3⟩ := hB (fun j hj => fiX_n _ _ hn j (Nat.zero_le _) (by omega))
      refine ⟨b1, fun s hs => ?_, fun hn5 => b3 (fun j hj => fiX_n _ _ hn5 j (Nat.zero_le _) (by omega))⟩
      obtain ⟨j, _, h2, h3, h4, h5⟩ := fiX_s _ _ hs
      rw [h3]
      exact b2 j (by omega) h4 (fun j' hj' => h5 j' (Nat.zero_le _) hj'))

end S_C1G
