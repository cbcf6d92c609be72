section S_C1D
abbrev ws_X8_valueOf : List Cond := Cond.code yX8_valueOf cX8_valueOf 2 (some .int) :: W0
abbrev rm_X8_valueOf : Room := ({ frames := 0, cells := 0, slots := 0, locals := 0 } : Room)
def wp_X8_valueOf (P : Int32 → HS → Prop) (x0 : Nat) (p0 : Nat) (S : HS) : Prop := (¬ (hI S 182 x0) = 119 → ((¬ (hI S 182 x0) = 110 → ((¬ (hI S 182 x0) = 108 → (P (hI S 66 p0) S)) ∧ ((hI S 182 x0) = 108 → (P (hI S 70 p0) S)))) ∧ ((hI S 182 x0) = 110 → (P (hI S 69 p0) S)))) ∧ ((hI S 182 x0) = 119 → (P (hI S 67 p0) S))
set_option maxRecDepth 100000 in
set_option maxHeartbeats 4000000 in
theorem t_X8_valueOf {p : Program} {l : Launch} {e : Env} {s : State} {m : MethodId} {args : Array Value} {below : List Frame} {meth : Method} {c : Code} {D : va_G} {A : Nat → Prop} {T : Nat → ClassId} (C : GC p s m args meth c cX8_valueOf "FreightRater$Test" (ws_X8_valueOf) 2 D A (zty T)) (E : GE T A s) (hr : meth.sig.returnType = (some .int)) (P : Int32 → HS → Prop) : ∀ (x0 : Nat) (p0 : Nat) (S0 S : HS) (L : List Nat), S0 = S → wt S → hL S L → (hK S x0 = 9) → (hK S p0 = 3) → wp_X8_valueOf P x0 p0 S → GW p l e { rm_X8_valueOf with cells := 0, slots := 0 } s m args below meth c D A 2 0 0 (MQ below (va_Qi (fun v (u : HS × List Nat) => P v u.1 ∧ CO S0 u) (CE D T A) A) args s 0 0 A) (CW T S L) 0 0 0 [(0, .ref x0), (1, .ref p0)] [] := by
  have hW : ∀ {w : Cond}, w ∈ W0 → w.before args s = true := fun h => C.2.2.2.2.1 _ (List.mem_cons_of_mem _ h)
  intro x0 p0 S0 S L hS0 hw hL hx0 hp0 h
  have he : ext S0 S := by rw [hS0]; exact ext_rf
  unfold wp_X8_valueOf at h
  refine g_aload_n C dX8_valueOf_0 rfl 0 rfl ?_
  refine gc_getI C iwx_X8 hL hx0 (by decide) (by decide) rfl 2 (by decide) (hW kw_782) rfl rfl rfl dX8_valueOf_1 ?_
  refine g_bipush (v := 119) C dX8_valueOf_4 (by decide) ?_
  refine g_icmp_ne (tgt := 14) C dX8_valueOf_6 (by decide) (fun z1 => ?_) (fun z1 => ?_)
  · replace h := h.1 z1
    refine g_aload_n C dX8_valueOf_14 rfl 0 rfl ?_
    refine gc_getI C iwx_X8 hL hx0 (by decide) (by decide) rfl 2 (by decide) (hW kw_782) rfl rfl rfl dX8_valueOf_15 ?_
    refine g_bipush (v := 110) C dX8_valueOf_18 (by decide) ?_
    refine g_icmp_ne (tgt := 28) C dX8_valueOf_20 (by decide) (fun z2 => ?_) (fun z2 => ?_)
    · replace h := h.1 z2
      refine g_aload_n C dX8_valueOf_28 rfl 0 rfl ?_
      refine gc_getI C iwx_X8 hL hx0 (by decide) (by decide) rfl 2 (by decide) (hW kw_782) rfl rfl rfl dX8_valueOf_29 ?_
      refine g_bipush (v := 108) C dX8_valueOf_32 (by decide) ?_
      refine g_icmp_ne (tgt := 44) C dX8_valueOf_34 (by decide) (fun z3 => ?_) (fun z3 => ?_)
      · replace h := h.1 z3
        refine g_aload_n C dX8_valueOf_44 rfl 1 rfl ?_
        refine gc_getI C iwx_X2 hL hp0 (by decide) (by decide) rfl 6 (by decide) (hW kw_144) rfl rfl rfl dX8_valueOf_45 ?_
        exact gc_iret C hw hL he hr dX8_valueOf_48 h
      · replace h := h.2 z3
        refine g_aload_n C dX8_valueOf_37 rfl 1 rfl ?_
        refine gc_getI C iwx_X2 hL hp0 (by decide) (by decide) rfl 10 (by decide) (hW kw_154) rfl rfl rfl dX8_valueOf_38 ?_
        refine g_goto (tgt := 48) C dX8_valueOf_41 (by decide) ?_
        exact gc_iret C hw hL he hr dX8_valueOf_48 h
    · replace h := h.2 z2
      refine g_aload_n C dX8_valueOf_23 rfl 1 rfl ?_
      refine gc_getI C iwx_X2 hL hp0 (by decide) (by decide) rfl 9 (by decide) (hW kw_152) rfl rfl rfl dX8_valueOf_24 ?_
      exact gc_iret C hw hL he hr dX8_valueOf_27 h
  · replace h := h.2 z1
    refine g_aload_n C dX8_valueOf_9 rfl 1 rfl ?_
    refine gc_getI C iwx_X2 hL hp0 (by decide) (by decide) rfl 7 (by decide) (hW kw_147) rfl rfl rfl dX8_valueOf_10 ?_
    exact gc_iret C hw hL he hr dX8_valueOf_13 h
theorem c_X8_valueOf (l : Launch) (D : va_G) (T : Nat → ClassId) (x0 : Nat) (p0 : Nat) (S : HS) (hx0 : hK S x0 = 9) (hp0 : hK S p0 = 3) (P : Int32 → HS → Prop) (h : wp_X8_valueOf P x0 p0 S) : CMi l yX8_valueOf (ws_X8_valueOf) rm_X8_valueOf D T [.ref x0, .ref p0] S 0 0 P := gc_meti (by decide) rfl rfl (Nat.le_of_ble_eq_true rfl) (fun p e s m args below meth c A L C E hnm hr hw hL => t_X8_valueOf C E   hr P x0 p0 S S L rfl hw hL hx0 hp0 h)
/-- the rows of a condition follow each other -/
def rwO (μ : Nat → Int32) (v a : Nat) : Prop := (iv (μ (274 + 510 * v + 150 + 36 * a + 4)) = 0 → iv (μ (274 + 510 * v + 150 + 36 * a + 3)) = 0) ∧ (0 < iv (μ (274 + 510 * v + 150 + 36 * a + 4)) → iv (μ (274 + 510 * v + 150 + 36 * a + 6)) / 300000 = 0 ∧ (∀ j, j + 1 < iv (μ (274 + 510 * v + 150 + 36 * a + 4)) → iv (μ (274 + 510 * v + 150 + 36 * a + 6 + (j + 1))) / 300000 = iv (μ (274 + 510 * v + 150 + 36 * a + 6 + j)) / 300000 ∨ iv (μ (274 + 510 * v + 150 + 36 * a + 6 + (j + 1))) / 300000 = iv (μ (274 + 510 * v + 150 + 36 * a + 6 + j)) / 300000 + 1) ∧ iv (μ (274 + 510 * v + 150 + 36 * a + 3)) = iv (μ (274 + 510 * v + 150 + 36 * a + 6 + (iv (μ (274 + 510 * v + 150 + 36 * a + 4)) - 1))) / 300000 + 1)
theorem let_k {k : Nat} (h : k < 5) : letF (nI k) = if k = 0 then 104 else if k = 1 then 119 else if k = 2 then 110 else if k = 3 then 108 else 122 := by
  have : ∀ k : Nat, k < 5 → letF (nI k) = if k = 0 then 104 else if k = 1 then 119 else if k = 2 then 110 else if k = 3 then 108 else 122 := by decide
  exact this k h
theorem k_X8_valueOf (l : Launch) (D : va_G) (T : Nat → ClassId) (x0 : Nat) (p0 : Nat) (S : HS) (e0 : (Nat → Prop)) (e1 : Nat) (e2 : Prop) (hx0 : hK S x0 = 9) (hp0 : hK S p0 = 3) (h : e1 ≤ 9999999 ∧ RelT S e0 x0 e1 e2 ∧ ¬ e1 / 30000 % 5 = 0) : CMi l yX8_valueOf (ws_X8_valueOf) rm_X8_valueOf D T [.ref x0, .ref p0] S 0 0 (fun v S1 => v = ((if e1 / 30000 % 5 = 1 then hI S 67 p0 else if e1 / 30000 % 5 = 2 then hI S 69 p0 else if e1 / 30000 % 5 = 3 then hI S 70 p0 else hI S 66 p0)) ∧ S1 = S) := c_X8_valueOf l D T x0 p0 S hx0 hp0 _ <|
  (by
    obtain ⟨hn, ⟨_, _, _, _, _, e182, _, _⟩, h0⟩ := h
    have hk : e1 / 30000 % 5 < 5 := Nat.mod_lt _ (by decide)
    rw [let_k hk] at e182
    unfold wp_X8_valueOf
    rw [e182]
    generalize e1 / 30000 % 5 = k at *
    rcases (by omega : k = 1 ∨ k = 2 ∨ k = 3 ∨ k = 4) with e | e | e | e <;> subst e
    · exact ⟨fun z9 => absurd rfl z9, fun _ => ⟨rfl, rfl⟩⟩
    · exact ⟨fun _ => ⟨fun z9 => absurd rfl z9, fun _ => ⟨rfl, rfl⟩⟩, fun z9 => absurd z9 (by decide)⟩
    · exact ⟨fun _ => ⟨fun _ => ⟨fun z9 => absurd rfl z9, fun _ => ⟨rfl, rfl⟩⟩, fun z9 => absurd z9 (by decide)⟩, fun z9 => absurd z9 (by decide)⟩
    · exact ⟨fun _ => ⟨fun _ => ⟨fun _ => ⟨rfl, rfl⟩, fun z9 => absurd z9 (by decide)⟩, fun z9 => absurd z9 (by decide)⟩, fun z9 => absurd z9 (by decide)⟩)
abbrev ws_X8_holds : List Cond := Cond.code yX8_holds cX8_holds 4 (some .boolean) :: W0
abbrev rm_X8_holds : Room := ({ frames := 1, cells := 0, slots := 0, locals := 21 } : Room)
def wp_X8_holds (P : Int32 → HS → Prop) (x0 : Nat) (p0 : Nat) (S : HS) : Prop := (¬ (hI S 182 x0) = 104 → (∃ (m2 : (Nat → Prop)) (m3 : Nat) (m4 : Prop), ((m3 ≤ 9999999 ∧ RelT S m2 x0 m3 m4 ∧ ¬ m3 / 30000 % 5 = 0) ∧ (∀ v10 : Int32, v10 = ((if m3 / 30000 % 5 = 1 then hI S 67 p0 else if m3 / 30000 % 5 = 2 then hI S 69 p0 else if m3 / 30000 % 5 = 3 then hI S 70 p0 else hI S 66 p0)) → ((¬ (hI S 183 x0) = 60 → ((¬ (hI S 183 x0) = 62 → ((¬ v10 = (hI S 184 x0) → ((0 = (hI S 181 x0) → (P 0 S)) ∧ (¬ 0 = (hI S 181 x0) → (P 1 S)))) ∧ (v10 = (hI S 184 x0) → ((1 = (hI S 181 x0) → (P 0 S)) ∧ (¬ 1 = (hI S 181 x0) → (P 1 S)))))) ∧ ((hI S 183 x0) = 62 → ((v10 ≤ (hI S 184 x0) → ((0 = (hI S 181 x0) → (P 0 S)) ∧ (¬ 0 = (hI S 181 x0) → (P 1 S)))) ∧ (¬ v10 ≤ (hI S 184 x0) → ((1 = (hI S 181 x0) → (P 0 S)) ∧ (¬ 1 = (hI S 181 x0) → (P 1 S)))))))) ∧ ((hI S 183 x0) = 60 → (((hI S 184 x0) ≤ v10 → ((0 = (hI S 181 x0) → (P 0 S)) ∧ (¬ 0 = (hI S 181 x0) → (P 1 S)))) ∧ (¬ (hI S 184 x0) ≤ v10 → ((1 = (hI S 181 x0) → (P 0 S)) ∧ (¬ 1 = (hI S 181 x0) → (P 1 S))))))))))) ∧ ((hI S 182 x0) = 104 → (((hasF (hI S 68 p0) (hI S 184 x0)) = (hI S 181 x0) → (P 0 S)) ∧ (¬ (hasF (hI S 68 p0) (hI S 184 x0)) = (hI S 181 x0) → (P 1 S))))
set_option maxRecDepth 100000 in
set_option maxHeartbeats 4000000 in
theorem t_X8_holds {p : Program} {l : Launch} {e : Env} {s : State} {m : MethodId} {args : Array Value} {below : List Frame} {meth : Method} {c : Code} {D : va_G} {A : Nat → Prop} {T : Nat → ClassId} (C : GC p s m args meth c cX8_holds "FreightRater$Test" (ws_X8_holds) 4 D A (zty T)) (E : GE T A s) (hr : meth.sig.returnType = (some .boolean)) (P : Int32 → HS → Prop) : ∀ (x0 : Nat) (p0 : Nat) (S0 S : HS) (L : List Nat), S0 = S → wt S → hL S L → (hK S x0 = 9) → (hK S p0 = 3) → wp_X8_holds P x0 p0 S → GW p l e { rm_X8_holds with cells := 0, slots := 0 } s m args below meth c D A 4 0 0 (MQ below (va_Qi (fun v (u : HS × List Nat) => P v u.1 ∧ CO S0 u) (CE D T A) A) args s 0 0 A) (CW T S L) 0 0 0 [(0, .ref x0), (1, .ref p0)] [] := by
  have hW : ∀ {w : Cond}, w ∈ W0 → w.before args s = true := fun h => C.2.2.2.2.1 _ (List.mem_cons_of_mem _ h)
  intro x0 p0 S0 S L hS0 hw hL hx0 hp0 h
  have he : ext S0 S := by rw [hS0]; exact ext_rf
  unfold wp_X8_holds at h
  refine g_aload_n C dX8_holds_0 rfl 0 rfl ?_
  refine gc_getI C iwx_X8 hL hx0 (by decide) (by decide) rfl 2 (by decide) (hW kw_782) rfl rfl rfl dX8_holds_1 ?_
  refine g_bipush (v := 104) C dX8_holds_4 (by decide) ?_
  refine g_icmp_ne (tgt := 33) C dX8_holds_6 (by decide) (fun z1 => ?_) (fun z1 => ?_)
  · replace h := h.1 z1
    refine g_aload_n C dX8_holds_33 rfl 0 rfl ?_
    refine g_aload_n C dX8_holds_34 rfl 1 rfl ?_
    obtain ⟨m2, m3, m4, h⟩ := h
    obtain ⟨g5, h⟩ := h
    refine gc_calliV (host := "") C E hw hL hx0 (by decide) (by decide) rfl [.ref p0] rfl (k_X8_valueOf l D T x0 p0 S m2 m3 m4 hx0 hp0 g5) (w0_V 1 C.2.2.2.2.1 kw_1269 kw_1271 ks_37 kw_28 kw_1272 rfl rfl (by decide +kernel) ⟨Nat.le_of_ble_eq_true rfl, Nat.le_of_ble_eq_true rfl⟩) rfl (Nat.le_of_ble_eq_true rfl) (Nat.le_refl _) (Nat.le_refl _) (Nat.zero_le _) (Nat.zero_le _) dX8_holds_35 (fun v9 S9 L6 he9 hw9 hL9 hp => ?_)
    obtain ⟨hv9, hs9⟩ := hp
    replace hs9 := hs9.symm
    subst hs9
    replace hv9 := hv9.symm
    subst hv9
    have w9 := hL9
    refine g_topi (fun v10 ev10 => ?_)
    replace h := h v10 ev10
    refine g_istore_n (lv' := [(2, .int v10), (0, .ref x0), (1, .ref p0)]) C dX8_holds_38 rfl (by decide) rfl ?_
    refine g_aload_n C dX8_holds_39 rfl 1 rfl ?_
    refine gc_getI C iwx_X8 w9 hx0 (by decide) (by decide) rfl 3 (by decide) (hW kw_784) rfl rfl rfl dX8_holds_40 ?_
    refine g_bipush (v := 60) C dX8_holds_43 (by decide) ?_
    refine g_icmp_ne (tgt := 64) C dX8_holds_45 (by decide) (fun z11 => ?_) (fun z11 => ?_)
    · replace h := h.1 z11
      refine g_aload_n C dX8_holds_64 rfl 1 rfl ?_
      refine gc_getI C iwx_X8 w9 hx0 (by decide) (by decide) rfl 3 (by decide) (hW kw_784) rfl rfl rfl dX8_holds_65 ?_
      refine g_bipush (v := 62) C dX8_holds_68 (by decide) ?_
      refine g_icmp_ne (tgt := 89) C dX8_holds_70 (by decide) (fun z12 => ?_) (fun z12 => ?_)
      · replace h := h.1 z12
        refine g_iload_n C dX8_holds_89 rfl 0 rfl ?_
        refine g_aload_n C dX8_holds_90 rfl 1 rfl ?_
        refine gc_getI C iwx_X8 w9 hx0 (by decide) (by decide) rfl 4 (by decide) (hW kw_786) rfl rfl rfl dX8_holds_91 ?_
        refine g_icmp_ne (tgt := 101) C dX8_holds_94 (by decide) (fun z13 => ?_) (fun z13 => ?_)
        · replace h := h.1 z13
          refine g_iconst (v := 0) C dX8_holds_101 (by decide) ?_
          refine g_istore_n (lv' := [(3, .int 0), (2, .int v10), (0, .ref x0), (1, .ref p0)]) C dX8_holds_102 rfl (by decide) rfl ?_
          refine g_iload_n C dX8_holds_103 rfl 0 rfl ?_
          refine g_aload_n C dX8_holds_104 rfl 2 rfl ?_
          refine gc_getI C iwx_X8 w9 hx0 (by decide) (by decide) rfl 1 (by decide) (hW kw_780) rfl rfl rfl dX8_holds_105 ?_
          refine g_icmp_eq (tgt := 115) C dX8_holds_108 (by decide) (fun z14 => ?_) (fun z14 => ?_)
          · replace h := h.1 z14
            refine g_iconst (v := 0) C dX8_holds_115 (by decide) ?_
            exact gc_zret C vz0 hw w9 he hr dX8_holds_116 h
          · replace h := h.2 z14
            refine g_iconst (v := 1) C dX8_holds_111 (by decide) ?_
            refine g_goto (tgt := 116) C dX8_holds_112 (by decide) ?_
            exact gc_zret C vz1 hw w9 he hr dX8_holds_116 h
        · replace h := h.2 z13
          refine g_iconst (v := 1) C dX8_holds_97 (by decide) ?_
          refine g_goto (tgt := 102) C dX8_holds_98 (by decide) ?_
          refine g_istore_n (lv' := [(3, .int 1), (2, .int v10), (0, .ref x0), (1, .ref p0)]) C dX8_holds_102 rfl (by decide) rfl ?_
          refine g_iload_n C dX8_holds_103 rfl 0 rfl ?_
          refine g_aload_n C dX8_holds_104 rfl 2 rfl ?_
          refine gc_getI C iwx_X8 w9 hx0 (by decide) (by decide) rfl 1 (by decide) (hW kw_780) rfl rfl rfl dX8_holds_105 ?_
          refine g_icmp_eq (tgt := 115) C dX8_holds_108 (by decide) (fun z15 => ?_) (fun z15 => ?_)
          · replace h := h.1 z15
            refine g_iconst (v := 0) C dX8_holds_115 (by decide) ?_
            exact gc_zret C vz0 hw w9 he hr dX8_holds_116 h
          · replace h := h.2 z15
            refine g_iconst (v := 1) C dX8_holds_111 (by decide) ?_
            refine g_goto (tgt := 116) C dX8_holds_112 (by decide) ?_
            exact gc_zret C vz1 hw w9 he hr dX8_holds_116 h
      · replace h := h.2 z12
        refine g_iload_n C dX8_holds_73 rfl 0 rfl ?_
        refine g_aload_n C dX8_holds_74 rfl 1 rfl ?_
        refine gc_getI C iwx_X8 w9 hx0 (by decide) (by decide) rfl 4 (by decide) (hW kw_786) rfl rfl rfl dX8_holds_75 ?_
        refine g_icmp_le (tgt := 85) C dX8_holds_78 (by decide) (fun z16 => ?_) (fun z16 => ?_)
        · replace h := h.1 z16
          refine g_iconst (v := 0) C dX8_holds_85 (by decide) ?_
          refine g_goto (tgt := 102) C dX8_holds_86 (by decide) ?_
          refine g_istore_n (lv' := [(3, .int 0), (2, .int v10), (0, .ref x0), (1, .ref p0)]) C dX8_holds_102 rfl (by decide) rfl ?_
          refine g_iload_n C dX8_holds_103 rfl 0 rfl ?_
          refine g_aload_n C dX8_holds_104 rfl 2 rfl ?_
          refine gc_getI C iwx_X8 w9 hx0 (by decide) (by decide) rfl 1 (by decide) (hW kw_780) rfl rfl rfl dX8_holds_105 ?_
          refine g_icmp_eq (tgt := 115) C dX8_holds_108 (by decide) (fun z17 => ?_) (fun z17 => ?_)
          · replace h := h.1 z17
            refine g_iconst (v := 0) C dX8_holds_115 (by decide) ?_
            exact gc_zret C vz0 hw w9 he hr dX8_holds_116 h
          · replace h := h.2 z17
            refine g_iconst (v := 1) C dX8_holds_111 (by decide) ?_
            refine g_goto (tgt := 116) C dX8_holds_112 (by decide) ?_
            exact gc_zret C vz1 hw w9 he hr dX8_holds_116 h
        · replace h := h.2 z16
          refine g_iconst (v := 1) C dX8_holds_81 (by decide) ?_
          refine g_goto (tgt := 102) C dX8_holds_82 (by decide) ?_
          refine g_istore_n (lv' := [(3, .int 1), (2, .int v10), (0, .ref x0), (1, .ref p0)]) C dX8_holds_102 rfl (by decide) rfl ?_
          refine g_iload_n C dX8_holds_103 rfl 0 rfl ?_
          refine g_aload_n C dX8_holds_104 rfl 2 rfl ?_
          refine gc_getI C iwx_X8 w9 hx0 (by decide) (by decide) rfl 1 (by decide) (hW kw_780) rfl rfl rfl dX8_holds_105 ?_
          refine g_icmp_eq (tgt := 115) C dX8_holds_108 (by decide) (fun z18 => ?_) (fun z18 => ?_)
          · replace h := h.1 z18
            refine g_iconst (v := 0) C dX8_holds_115 (by decide) ?_
            exact gc_zret C vz0 hw w9 he hr dX8_holds_116 h
          · replace h := h.2 z18
            refine g_iconst (v := 1) C dX8_holds_111 (by decide) ?_
            refine g_goto (tgt := 116) C dX8_holds_112 (by decide) ?_
            exact gc_zret C vz1 hw w9 he hr dX8_holds_116 h
    · replace h := h.2 z11
      refine g_iload_n C dX8_holds_48 rfl 0 rfl ?_
      refine g_aload_n C dX8_holds_49 rfl 1 rfl ?_
      refine gc_getI C iwx_X8 w9 hx0 (by decide) (by decide) rfl 4 (by decide) (hW kw_786) rfl rfl rfl dX8_holds_50 ?_
      refine g_icmp_ge (tgt := 60) C dX8_holds_53 (by decide) (fun z19 => ?_) (fun z19 => ?_)
      · replace h := h.1 z19
        refine g_iconst (v := 0) C dX8_holds_60 (by decide) ?_
        refine g_goto (tgt := 102) C dX8_holds_61 (by decide) ?_
        refine g_istore_n (lv' := [(3, .int 0), (2, .int v10), (0, .ref x0), (1, .ref p0)]) C dX8_holds_102 rfl (by decide) rfl ?_
        refine g_iload_n C dX8_holds_103 rfl 0 rfl ?_
        refine g_aload_n C dX8_holds_104 rfl 2 rfl ?_
        refine gc_getI C iwx_X8 w9 hx0 (by decide) (by decide) rfl 1 (by decide) (hW kw_780) rfl rfl rfl dX8_holds_105 ?_
        refine g_icmp_eq (tgt := 115) C dX8_holds_108 (by decide) (fun z20 => ?_) (fun z20 => ?_)
        · replace h := h.1 z20
          refine g_iconst (v := 0) C dX8_holds_115 (by decide) ?_
          exact gc_zret C vz0 hw w9 he hr dX8_holds_116 h
        · replace h := h.2 z20
          refine g_iconst (v := 1) C dX8_holds_111 (by decide) ?_
          refine g_goto (tgt := 116) C dX8_holds_112 (by decide) ?_
          exact gc_zret C vz1 hw w9 he hr dX8_holds_116 h
      · replace h := h.2 z19
        refine g_iconst (v := 1) C dX8_holds_56 (by decide) ?_
        refine g_goto (tgt := 102) C dX8_holds_57 (by decide) ?_
        refine g_istore_n (lv' := [(3, .int 1), (2, .int v10), (0, .ref x0), (1, .ref p0)]) C dX8_holds_102 rfl (by decide) rfl ?_
        refine g_iload_n C dX8_holds_103 rfl 0 rfl ?_
        refine g_aload_n C dX8_holds_104 rfl 2 rfl ?_
        refine gc_getI C iwx_X8 w9 hx0 (by decide) (by decide) rfl 1 (by decide) (hW kw_780) rfl rfl rfl dX8_holds_105 ?_
        refine g_icmp_eq (tgt := 115) C dX8_holds_108 (by decide) (fun z21 => ?_) (fun z21 => ?_)
        · replace h := h.1 z21
          refine g_iconst (v := 0) C dX8_holds_115 (by decide) ?_
          exact gc_zret C vz0 hw w9 he hr dX8_holds_116 h
        · replace h := h.2 z21
          refine g_iconst (v := 1) C dX8_holds_111 (by decide) ?_
          refine g_goto (tgt := 116) C dX8_holds_112 (by decide) ?_
          exact gc_zret C vz1 hw w9 he hr dX8_holds_116 h
  · replace h := h.2 z1
    refine g_aload_n C dX8_holds_9 rfl 1 rfl ?_
    refine gc_getI C iwx_X2 hL hp0 (by decide) (by decide) rfl 8 (by decide) (hW kw_150) rfl rfl rfl dX8_holds_10 ?_
    refine g_aload_n C dX8_holds_13 rfl 0 rfl ?_
    refine gc_getI C iwx_X8 hL hx0 (by decide) (by decide) rfl 4 (by decide) (hW kw_786) rfl rfl rfl dX8_holds_14 ?_
    refine gc_calliSN (host := "FreightRater") C E hw hL [.int (hI S 68 p0), .int (hI S 184 x0)] rfl (k_X10_isIn l D T (hI S 68 p0) (hI S 184 x0) S ) (w0_SN 2 E C.2.2.2.2.1 (by decide) kw_1204 kw_1 kw_1205 rfl rfl (by decide +kernel) ⟨Nat.le_of_ble_eq_true rfl, Nat.le_of_ble_eq_true rfl⟩) rfl (Nat.le_of_ble_eq_true rfl) (Nat.le_refl _) (Nat.le_refl _) (Nat.zero_le _) (Nat.zero_le _) dX8_holds_17 (fun v9 S9 L22 he9 hw9 hL9 hp => ?_)
    obtain ⟨hv9, hs9⟩ := hp
    replace hs9 := hs9.symm
    subst hs9
    replace hv9 := hv9.symm
    subst hv9
    have w25 := hL9
    refine g_aload_n C dX8_holds_20 rfl 0 rfl ?_
    refine gc_getI C iwx_X8 w25 hx0 (by decide) (by decide) rfl 1 (by decide) (hW kw_780) rfl rfl rfl dX8_holds_21 ?_
    refine g_icmp_eq (tgt := 31) C dX8_holds_24 (by decide) (fun z26 => ?_) (fun z26 => ?_)
    · replace h := h.1 z26
      refine g_iconst (v := 0) C dX8_holds_31 (by decide) ?_
      exact gc_zret C vz0 hw w25 he hr dX8_holds_32 h
    · replace h := h.2 z26
      refine g_iconst (v := 1) C dX8_holds_27 (by decide) ?_
      refine g_goto (tgt := 32) C dX8_holds_28 (by decide) ?_
      exact gc_zret C vz1 hw w25 he hr dX8_holds_32 h
theorem c_X8_holds (l : Launch) (D : va_G) (T : Nat → ClassId) (x0 : Nat) (p0 : Nat) (S : HS) (hx0 : hK S x0 = 9) (hp0 : hK S p0 = 3) (P : Int32 → HS → Prop) (h : wp_X8_holds P x0 p0 S) : CMi l yX8_holds (ws_X8_holds) rm_X8_holds D T [.ref x0, .ref p0] S 0 0 P := gc_meti (by decide) rfl rfl (Nat.le_of_ble_eq_true rfl) (fun p e s m args below meth c A L C E hnm hr hw hL => t_X8_holds C E   hr P x0 p0 S S L rfl hw hL hx0 hp0 h)
theorem neg_b {m : Bool} {x : Int32} (hx : x = if m = true then 1 else 0) (b : Bool) : (b2i b = x → (0 : Int32) = b2i (b != m)) ∧ (¬ b2i b = x → (1 : Int32) = b2i (b != m)) := by
  subst hx
  cases m <;> cases b <;> decide
theorem has_b (h s : Int32) : hasF h s = b2i (decide (¬ hasF h s = 0)) := by
  unfold hasF
  split
  · rfl
  · rfl
theorem k_X8_holds (l : Launch) (D : va_G) (T : Nat → ClassId) (x0 : Nat) (p0 : Nat) (S : HS) (e0 : (Nat → Prop)) (e1 : Nat) (e2 : Prop) (hx0 : hK S x0 = 9) (hp0 : hK S p0 = 3) (h : e1 ≤ 9999999 ∧ RelT S e0 x0 e1 e2) : CMi l yX8_holds (ws_X8_holds) rm_X8_holds D T [.ref x0, .ref p0] S 0 0 (fun v S1 => v = (b2i (tb (hI S 67 p0) (hI S 69 p0) (hI S 70 p0) (hI S 68 p0) (hI S 66 p0) e1)) ∧ S1 = S) := c_X8_holds l D T x0 p0 S hx0 hp0 _ <|
  (by
    obtain ⟨hn, hR⟩ := h
    have hR0 := hR
    obtain ⟨_, _, _, _, e181, e182, e183, e184⟩ := hR
    have hk : e1 / 30000 % 5 < 5 := Nat.mod_lt _ (by decide)
    have hb3 : e1 / 10000 % 3 < 3 := Nat.mod_lt _ (by decide)
    rw [let_k hk] at e182
    have hm : hI S 181 x0 = if decide (e1 / 150000 % 2 = 1) = true then 1 else 0 := by rw [e181]; by_cases c : e1 / 150000 % 2 = 1 <;> simp [c]
    unfold wp_X8_holds tb
    refine ⟨fun c => ?_, fun c => ?_⟩
    · have k0 : ¬ e1 / 30000 % 5 = 0 := fun z9 => c (by rw [e182, if_pos z9])
      refine ⟨e0, e1, e2, ⟨hn, hR0, k0⟩, fun v10 e10 => ?_⟩
      have e183' := e183 (by omega)
      rw [if_neg k0, ← e10, e184, e183']
      have fin : ∀ b : Bool, (b2i b = hI S 181 x0 → (0 : Int32) = b2i (b != decide (e1 / 150000 % 2 = 1)) ∧ S = S) ∧ (¬ b2i b = hI S 181 x0 → (1 : Int32) = b2i (b != decide (e1 / 150000 % 2 = 1)) ∧ S = S) := fun b => ⟨fun z9 => ⟨(neg_b hm b).1 z9, rfl⟩, fun z9 => ⟨(neg_b hm b).2 z9, rfl⟩⟩
      generalize e1 / 10000 % 3 = y at *
      rcases (by omega : y = 0 ∨ y = 1 ∨ y = 2) with e | e | e <;> subst e
      · refine ⟨fun z9 => absurd rfl z9, fun _ => ⟨fun c1 => ?_, fun c1 => ?_⟩⟩
        · rw [if_pos rfl, decide_eq_false (Int32.not_lt.mpr c1)]; exact fin false
        · rw [if_pos rfl, decide_eq_true (Int32.not_le.mp c1)]; exact fin true
      · refine ⟨fun _ => ⟨fun z9 => absurd rfl z9, fun _ => ⟨fun c1 => ?_, fun c1 => ?_⟩⟩, fun z9 => absurd z9 (by decide)⟩
        · rw [if_neg (by decide), if_pos rfl, decide_eq_false (Int32.not_lt.mpr c1)]; exact fin false
        · rw [if_neg (by decide), if_pos rfl, decide_eq_true (Int32.not_le.mp c1)]; exact fin true
      · refine ⟨fun _ => ⟨fun _ => ⟨fun c1 => ?_, fun c1 => ?_⟩, fun z9 => absurd z9 (by decide)⟩, fun z9 => absurd z9 (by decide)⟩
        · rw [if_neg (by decide), if_neg (by decide), decide_eq_false c1]; exact fin false
        · rw [if_neg (by decide), if_neg (by decide), decide_eq_true c1]; exact fin true
    · have k0 : e1 / 30000 % 5 = 0 := by
        rw [e182] at c
        rcases Nat.eq_zero_or_pos (e1 / 30000 % 5) with z9 | z9
        · exact z9
        · exfalso
          generalize e1 / 30000 % 5 = k at *
          rcases (by omega : k = 1 ∨ k = 2 ∨ k = 3 ∨ k = 4) with e | e | e | e <;> subst e <;> exact absurd c (by decide)
      rw [if_pos k0, e184]
      have hb := has_b (hI S 68 p0) (nI (e1 % 10000))
      exact ⟨fun z9 => ⟨(neg_b hm _).1 (hb.symm.trans z9), rfl⟩, fun z9 => ⟨(neg_b hm _).2 (fun w9 => z9 (hb.trans w9)), rfl⟩⟩)
abbrev ws_X0_isPossible : List Cond := Cond.code yX0_isPossible cX0_isPossible 1 (some .boolean) :: W0
abbrev rm_X0_isPossible : Room := ({ frames := 0, cells := 0, slots := 0, locals := 0 } : Room)
def wp_X0_isPossible (P : Int32 → HS → Prop) (x0 : Nat) (S : HS) : Prop := ∀ v1 : Int32, v1 = (hI S 21 x0) → ((v1 = 1 → ((99 < (hI S 20 x0) → (P 0 S)) ∧ (¬ 99 < (hI S 20 x0) → (P 1 S)))) ∧ (¬ v1 = 1 → ((v1 = 2 → ((50 < (hI S 20 x0) → (P 0 S)) ∧ (¬ 50 < (hI S 20 x0) → (P 1 S)))) ∧ (¬ v1 = 2 → (P 1 S)))))
set_option maxRecDepth 100000 in
set_option maxHeartbeats 4000000 in
theorem t_X0_isPossible {p : Program} {l : Launch} {e : Env} {s : State} {m : MethodId} {args : Array Value} {below : List Frame} {meth : Method} {c : Code} {D : va_G} {A : Nat → Prop} {T : Nat → ClassId} (C : GC p s m args meth c cX0_isPossible "FreightRater$Accessorial" (ws_X0_isPossible) 1 D A (zty T)) (E : GE T A s) (hr : meth.sig.returnType = (some .boolean)) (P : Int32 → HS → Prop) : ∀ (x0 : Nat) (S0 S : HS) (L : List Nat), S0 = S → wt S → hL S L → (hK S x0 = 1) → wp_X0_isPossible P x0 S → GW p l e { rm_X0_isPossible with cells := 0, slots := 0 } s m args below meth c D A 1 0 0 (MQ below (va_Qi (fun v (u : HS × List Nat) => P v u.1 ∧ CO S0 u) (CE D T A) A) args s 0 0 A) (CW T S L) 0 0 0 [(0, .ref x0)] [] := by
  have hW : ∀ {w : Cond}, w ∈ W0 → w.before args s = true := fun h => C.2.2.2.2.1 _ (List.mem_cons_of_mem _ h)
  intro x0 S0 S L hS0 hw hL hx0 h
  have he : ext S0 S := by rw [hS0]; exact ext_rf
  unfold wp_X0_isPossible at h
  refine g_aload_n C dX0_isPossible_0 rfl 0 rfl ?_
  refine gc_getI C iwx_X0 hL hx0 (by decide) (by decide) rfl 1 (by decide) (hW kw_742) rfl rfl rfl dX0_isPossible_1 ?_
  refine g_topi (fun v1 ev1 => ?_)
  replace h := h v1 ev1
  rcases Decidable.em (v1 = 1) with z2 | z2
  · refine g_lookup (off := 28) (tgt := 32) C dX0_isPossible_4 (by decide) (by rw [z2]; decide) (by decide) ?_
    replace h := h.1 z2
    refine g_aload_n C dX0_isPossible_32 rfl 0 rfl ?_
    refine gc_getI C iwx_X0 hL hx0 (by decide) (by decide) rfl 0 (by decide) (hW kw_739) rfl rfl rfl dX0_isPossible_33 ?_
    refine g_bipush (v := 99) C dX0_isPossible_36 (by decide) ?_
    refine g_icmp_gt (tgt := 45) C dX0_isPossible_38 (by decide) (fun z3 => ?_) (fun z3 => ?_)
    · replace h := h.1 z3
      refine g_iconst (v := 0) C dX0_isPossible_45 (by decide) ?_
      exact gc_zret C vz0 hw hL he hr dX0_isPossible_46 h
    · replace h := h.2 z3
      refine g_iconst (v := 1) C dX0_isPossible_41 (by decide) ?_
      refine g_goto (tgt := 46) C dX0_isPossible_42 (by decide) ?_
      exact gc_zret C vz1 hw hL he hr dX0_isPossible_46 h
  replace h := h.2 z2
  rcases Decidable.em (v1 = 2) with z4 | z4
  · refine g_lookup (off := 43) (tgt := 47) C dX0_isPossible_4 (by decide) (by rw [z4]; decide) (by decide) ?_
    replace h := h.1 z4
    refine g_aload_n C dX0_isPossible_47 rfl 0 rfl ?_
    refine gc_getI C iwx_X0 hL hx0 (by decide) (by decide) rfl 0 (by decide) (hW kw_739) rfl rfl rfl dX0_isPossible_48 ?_
    refine g_bipush (v := 50) C dX0_isPossible_51 (by decide) ?_
    refine g_icmp_gt (tgt := 60) C dX0_isPossible_53 (by decide) (fun z5 => ?_) (fun z5 => ?_)
    · replace h := h.1 z5
      refine g_iconst (v := 0) C dX0_isPossible_60 (by decide) ?_
      exact gc_zret C vz0 hw hL he hr dX0_isPossible_61 h
    · replace h := h.2 z5
      refine g_iconst (v := 1) C dX0_isPossible_56 (by decide) ?_
      refine g_goto (tgt := 61) C dX0_isPossible_57 (by decide) ?_
      exact gc_zret C vz1 hw hL he hr dX0_isPossible_61 h
  replace h := h.2 z4
  refine g_lookup (off := 58) (tgt := 62) C dX0_isPossible_4 (by decide) ((lv_osw z2 rfl).trans ((lv_osw z4 rfl).trans rfl)) (by decide) ?_
  refine g_iconst (v := 1) C dX0_isPossible_62 (by decide) ?_
  exact gc_zret C vz1 hw hL he hr dX0_isPossible_63 h
theorem c_X0_isPossible (l : Launch) (D : va_G) (T : Nat → ClassId) (x0 : Nat) (S : HS) (hx0 : hK S x0 = 1) (P : Int32 → HS → Prop) (h : wp_X0_isPossible P x0 S) : CMi l yX0_isPossible (ws_X0_isPossible) rm_X0_isPossible D T [.ref x0] S 0 0 P := gc_meti (by decide) rfl rfl (Nat.le_of_ble_eq_true rfl) (fun p e s m args below meth c A L C E hnm hr hw hL => t_X0_isPossible C E   hr P x0 S S L rfl hw hL hx0 h)
theorem k_X0_isPossible (l : Launch) (D : va_G) (T : Nat → ClassId) (x0 : Nat) (S : HS) (hx0 : hK S x0 = 1) (h : bn (hI S 20 x0) 9999) : CMi l yX0_isPossible (ws_X0_isPossible) rm_X0_isPossible D T [.ref x0] S 0 0 (fun v S1 => v = (b2i (seB (hI S 20 x0) (hI S 21 x0))) ∧ S1 = S) := c_X0_isPossible l D T x0 S hx0 _ <|
  (by
    obtain ⟨m, hm, em⟩ := h
    unfold wp_X0_isPossible seB
    refine fun v1 e1' => ?_
    rw [← e1']
    refine ⟨fun c => ⟨fun c2 => ⟨?_, rfl⟩, fun c2 => ⟨?_, rfl⟩⟩, fun c => ⟨fun c1 => ⟨fun c2 => ⟨?_, rfl⟩, fun c2 => ⟨?_, rfl⟩⟩, fun c1 => ⟨?_, rfl⟩⟩⟩
    · rw [if_pos c, decide_eq_true c2]; rfl
    · rw [if_pos c, decide_eq_false c2]; rfl
    · rw [if_neg c, if_pos c1, decide_eq_true c2]; rfl
    · rw [if_neg c, if_pos c1, decide_eq_false c2]; rfl
    · rw [if_neg c, if_neg c1, decide_eq_false (show ¬ (9999 : Int32) < hI S 20 x0 by rw [em]; intro z9; have := (nI_ltI (a := 9999) (by decide) (by omega)).mp z9; omega)]; rfl)
abbrev ws_X0_amountFor : List Cond := Cond.code yX0_amountFor cX0_amountFor 3 (some .int) :: W0
abbrev rm_X0_amountFor : Room := ({ frames := 1, cells := 0, slots := 0, locals := 21 } : Room)
def wp_X0_amountFor (P : Int32 → HS → Prop) (x0 : Nat) (p0 : Int32) (p1 : Int32) (S : HS) : Prop := ∀ v1 : Int32, v1 = (hI S 21 x0) → ((v1 = 1 → (P ((hI S 20 x0) * p1) S)) ∧ (¬ v1 = 1 → ((v1 = 2 → (P (pctF p0 (hI S 20 x0)) S)) ∧ (¬ v1 = 2 → (P (hI S 20 x0) S)))))
set_option maxRecDepth 100000 in
set_option maxHeartbeats 4000000 in
theorem t_X0_amountFor {p : Program} {l : Launch} {e : Env} {s : State} {m : MethodId} {args : Array Value} {below : List Frame} {meth : Method} {c : Code} {D : va_G} {A : Nat → Prop} {T : Nat → ClassId} (C : GC p s m args meth c cX0_amountFor "FreightRater$Accessorial" (ws_X0_amountFor) 3 D A (zty T)) (E : GE T A s) (hr : meth.sig.returnType = (some .int)) (P : Int32 → HS → Prop) : ∀ (x0 : Nat) (p0 : Int32) (p1 : Int32) (S0 S : HS) (L : List Nat), S0 = S → wt S → hL S L → (hK S x0 = 1) → wp_X0_amountFor P x0 p0 p1 S → GW p l e { rm_X0_amountFor with cells := 0, slots := 0 } s m args below meth c D A 3 0 0 (MQ below (va_Qi (fun v (u : HS × List Nat) => P v u.1 ∧ CO S0 u) (CE D T A) A) args s 0 0 A) (CW T S L) 0 0 0 [(0, .ref x0), (1, .int p0), (2, .int p1)] [] := by
  have hW : ∀ {w : Cond}, w ∈ W0 → w.before args s = true := fun h => C.2.2.2.2.1 _ (List.mem_cons_of_mem _ h)
  intro x0 p0 p1 S0 S L hS0 hw hL hx0 h
  have he : ext S0 S := by rw [hS0]; exact ext_rf
  unfold wp_X0_amountFor at h
  refine g_aload_n C dX0_amountFor_0 rfl 0 rfl ?_
  refine gc_getI C iwx_X0 hL hx0 (by decide) (by decide) rfl 1 (by decide) (hW kw_742) rfl rfl rfl dX0_amountFor_1 ?_
  refine g_topi (fun v1 ev1 => ?_)
  replace h := h v1 ev1
  rcases Decidable.em (v1 = 1) with z2 | z2
  · refine g_lookup (off := 28) (tgt := 32) C dX0_amountFor_4 (by decide) (by rw [z2]; decide) (by decide) ?_
    replace h := h.1 z2
    refine g_aload_n C dX0_amountFor_32 rfl 0 rfl ?_
    refine gc_getI C iwx_X0 hL hx0 (by decide) (by decide) rfl 0 (by decide) (hW kw_739) rfl rfl rfl dX0_amountFor_33 ?_
    refine g_iload_n C dX0_amountFor_36 rfl 2 rfl ?_
    refine g_imul C dX0_amountFor_37 ?_
    exact gc_iret C hw hL he hr dX0_amountFor_38 h
  replace h := h.2 z2
  rcases Decidable.em (v1 = 2) with z3 | z3
  · refine g_lookup (off := 35) (tgt := 39) C dX0_amountFor_4 (by decide) (by rw [z3]; decide) (by decide) ?_
    replace h := h.1 z3
    refine g_iload_n C dX0_amountFor_39 rfl 1 rfl ?_
    refine g_aload_n C dX0_amountFor_40 rfl 0 rfl ?_
    refine gc_getI C iwx_X0 hL hx0 (by decide) (by decide) rfl 0 (by decide) (hW kw_739) rfl rfl rfl dX0_amountFor_41 ?_
    refine gc_calliSN (host := "FreightRater") C E hw hL [.int p0, .int (hI S 20 x0)] rfl (k_X10_percentOf l D T p0 (hI S 20 x0) S ) (w0_SN 2 E C.2.2.2.2.1 (by decide) kw_1278 kw_1 kw_1279 rfl rfl (by decide +kernel) ⟨Nat.le_of_ble_eq_true rfl, Nat.le_of_ble_eq_true rfl⟩) rfl (Nat.le_of_ble_eq_true rfl) (Nat.le_refl _) (Nat.le_refl _) (Nat.zero_le _) (Nat.zero_le _) dX0_amountFor_44 (fun v9 S9 L4 he9 hw9 hL9 hp => ?_)
    obtain ⟨hv9, hs9⟩ := hp
    replace hs9 := hs9.symm
    subst hs9
    replace hv9 := hv9.symm
    subst hv9
    have w7 := hL9
    exact gc_iret C hw w7 he hr dX0_amountFor_47 h
  replace h := h.2 z3
  refine g_lookup (off := 44) (tgt := 48) C dX0_amountFor_4 (by decide) ((lv_osw z2 rfl).trans ((lv_osw z3 rfl).trans rfl)) (by decide) ?_
  refine g_aload_n C dX0_amountFor_48 rfl 0 rfl ?_
  refine gc_getI C iwx_X0 hL hx0 (by decide) (by decide) rfl 0 (by decide) (hW kw_739) rfl rfl rfl dX0_amountFor_49 ?_
  exact gc_iret C hw hL he hr dX0_amountFor_52 h
theorem c_X0_amountFor (l : Launch) (D : va_G) (T : Nat → ClassId) (x0 : Nat) (p0 : Int32) (p1 : Int32) (S : HS) (hx0 : hK S x0 = 1) (P : Int32 → HS → Prop) (h : wp_X0_amountFor P x0 p0 p1 S) : CMi l yX0_amountFor (ws_X0_amountFor) rm_X0_amountFor D T [.ref x0, .int p0, .int p1] S 0 0 P := gc_meti (by decide) rfl rfl (Nat.le_of_ble_eq_true rfl) (fun p e s m args below meth c A L C E hnm hr hw hL => t_X0_amountFor C E   hr P x0 p0 p1 S S L rfl hw hL hx0 h)
theorem k_X0_amountFor (l : Launch) (D : va_G) (T : Nat → ClassId) (x0 : Nat) (p0 : Int32) (p1 : Int32) (S : HS) (e0 : (Nat → Prop)) (e1 : Nat → Int32) (e2 : Nat) (e3 : Nat) (hx0 : hK S x0 = 1) (h : WF e1 ∧ e2 < 6 ∧ e3 < 10 ∧ RelA S e0 x0 e1 e2 e3) : CMi l yX0_amountFor (ws_X0_amountFor) rm_X0_amountFor D T [.ref x0, .int p0, .int p1] S 0 0 (fun v S1 => v = ((if e1 (274 + 510 * e2 + 150 + 36 * e3 + 2) = 0 then e1 (274 + 510 * e2 + 150 + 36 * e3 + 1) else if e1 (274 + 510 * e2 + 150 + 36 * e3 + 2) = 1 then e1 (274 + 510 * e2 + 150 + 36 * e3 + 1) * p1 else pctF p0 (e1 (274 + 510 * e2 + 150 + 36 * e3 + 1)))) ∧ S1 = S) := c_X0_amountFor l D T x0 p0 p1 S hx0 _ <|
  (by
    obtain ⟨hw, hv, ha, hR⟩ := h
    obtain ⟨hA1, hA2, ⟨kd, hkd, ekd⟩, _⟩ := hw.acc hv ha
    have e20 : hI S 20 x0 = _ := hR.2.2.1
    have e21 : hI S 21 x0 = _ := hR.2.2.2.1
    unfold wp_X0_amountFor
    refine fun v1 e1' => ?_
    rw [e1', e21, e20]
    refine ⟨fun c => ⟨?_, rfl⟩, fun c => ⟨fun c1 => ⟨?_, rfl⟩, fun c1 => ⟨?_, rfl⟩⟩⟩
    · rw [if_neg (by rw [c]; decide), if_pos c]
    · rw [if_neg (by rw [c1]; decide), if_neg c]
    · rw [if_pos]
      rw [ekd] at c c1 ⊢
      rcases (by omega : kd = 0 ∨ kd = 1 ∨ kd = 2) with e | e | e <;> subst e
      · rfl
      · exact absurd rfl c
      · exact absurd rfl c1)
abbrev ws_X0_applies : List Cond := Cond.code yX0_applies cX0_applies 5 (some .boolean) :: W0
abbrev rm_X0_applies : Room := ({ frames := 13, cells := 0, slots := 0, locals := 421 } : Room)
def wb_X0_applies_10 (rec : Nat → Nat → Int32 → Int32 → HS → Prop) (P : Int32 → HS → Prop) (x0 : Nat) (x1 : Nat) (x2 : Int32) (x3 : Int32) (S : HS) : Prop := ∃ b10 : Nat, hR S 24 x0 = some b10 ∧ (hK S b10 = 13 → (((hI S 262 b10) ≤ x3 → (vz x2 ∧ P x2 S)) ∧ (¬ (hI S 262 b10) ≤ x3 → (∃ b18 : Nat, hR S 24 x0 = some b18 ∧ (hK S b18 = 13 → ((∃ ar n j : Nat, hR S 261 b18 = some ar ∧ hK S ar = 30 ∧ hI S 262 b18 = nI n ∧ n < 2 ^ 31 ∧ j < n ∧ n ≤ hN S ar ∧ x3 = nI j ∧ ∃ b, hB S ar j = some b ∧ hK S b = 9) ∧ (∀ (o26 : Option Nat) (S21 : HS), ext S S21 → (∀ b, o26 = some b → hK S21 b = 9) → (S21 = S ∧ ∃ ar, hR S 261 b18 = some ar ∧ o26 = hB S ar (iv x3)) → (∃ b30 : Nat, o26 = some b30 ∧ (hK S21 b30 = 9 → (((hI S21 180 b30) = 0 → ((x2 = 0 → (∀ v34 : Int32, v34 = x3 + 1 → (rec x0 x1 0 v34 S21))) ∧ (¬ x2 = 0 → (∃ (m35 : (Nat → Prop)) (m36 : Nat) (m37 : Prop), ((m36 ≤ 9999999 ∧ RelT S21 m35 b30 m36 m37) ∧ (((b2i (tb (hI S21 67 x1) (hI S21 69 x1) (hI S21 70 x1) (hI S21 68 x1) (hI S21 66 x1) m36)) = 0 → (∀ v44 : Int32, v44 = x3 + 1 → (rec x0 x1 0 v44 S21))) ∧ (¬ (b2i (tb (hI S21 67 x1) (hI S21 69 x1) (hI S21 70 x1) (hI S21 68 x1) (hI S21 66 x1) m36)) = 0 → (∀ v45 : Int32, v45 = x3 + 1 → (rec x0 x1 1 v45 S21))))))))) ∧ (¬ (hI S21 180 b30) = 0 → ((x2 = 0 → (∃ (m47 : (Nat → Prop)) (m48 : Nat) (m49 : Prop), ((m48 ≤ 9999999 ∧ RelT S21 m47 b30 m48 m49) ∧ (((b2i (tb (hI S21 67 x1) (hI S21 69 x1) (hI S21 70 x1) (hI S21 68 x1) (hI S21 66 x1) m48)) = 0 → (∀ v56 : Int32, v56 = x3 + 1 → (rec x0 x1 0 v56 S21))) ∧ (¬ (b2i (tb (hI S21 67 x1) (hI S21 69 x1) (hI S21 70 x1) (hI S21 68 x1) (hI S21 66 x1) m48)) = 0 → (∀ v57 : Int32, v57 = x3 + 1 → (rec x0 x1 1 v57 S21))))))) ∧ (¬ x2 = 0 → (P 1 S21))))))))))))))
def wp_X0_applies_10 (P : Int32 → HS → Prop) : Nat → Nat → Nat → Int32 → Int32 → HS → Prop
  | 0 => fun _ _ _ _ _ => False
  | n + 1 => fun x0 x1 x2 x3 S => wb_X0_applies_10 (wp_X0_applies_10  P n)  P x0 x1 x2 x3 S
set_option maxRecDepth 100000 in
set_option maxHeartbeats 4000000 in
theorem t_X0_applies_10 {p : Program} {l : Launch} {e : Env} {s : State} {m : MethodId} {args : Array Value} {below : List Frame} {meth : Method} {c : Code} {D : va_G} {A : Nat → Prop} {T : Nat → ClassId} (C : GC p s m args meth c cX0_applies "FreightRater$Accessorial" (ws_X0_applies) 5 D A (zty T)) (E : GE T A s) (hr : meth.sig.returnType = (some .boolean)) (S0 : HS) (P : Int32 → HS → Prop) : ∀ (n : Nat) (x0 : Nat) (x1 : Nat) (x2 : Int32) (x3 : Int32) (S : HS) (L : List Nat), wt S → hL S L → ext S0 S → (hK S x0 = 1) → (hK S x1 = 3) → wp_X0_applies_10  P n x0 x1 x2 x3 S → GW p l e { rm_X0_applies with cells := 0, slots := 0 } s m args below meth c D A 5 0 0 (MQ below (va_Qi (fun v (u : HS × List Nat) => P v u.1 ∧ CO S0 u) (CE D T A) A) args s 0 0 A) (CW T S L) 0 0 10 [(0, .ref x0), (1, .ref x1), (2, .int x2), (3, .int x3)] [] := by
  have hW : ∀ {w : Cond}, w ∈ W0 → w.before args s = true := fun h => C.2.2.2.2.1 _ (List.mem_cons_of_mem _ h)
  intro n
  induction n with
  | zero => intro x0 x1 x2 x3 S L hw hL he hx0 hx1 h; exact h.elim
  | succ n ih =>
    intro x0 x1 x2 x3 S L hw hL he hx0 hx1 h
    replace h : wb_X0_applies_10 (wp_X0_applies_10  P n)  P x0 x1 x2 x3 S := h
    unfold wb_X0_applies_10 at h
    refine g_iload_n C dX0_applies_10 rfl 3 rfl ?_
    refine g_aload_n C dX0_applies_11 rfl 0 rfl ?_
    refine gc_getR C hw iwx_X0 hL hx0 (by decide) (by decide) rfl 4 (by decide) (hW kw_751) rfl rfl rfl dX0_applies_12 (fun o9 eo9 ko9 => ?_)
    obtain ⟨b10, hb9, h⟩ := h
    have g11 : hK S b10 = 13 := ko9 b10 (eo9.trans hb9)
    replace h := h g11
    refine g_opt (eo9.trans hb9) ?_
    refine gc_calliV (host := "") C E hw hL g11 (by decide) (by decide) rfl [] rfl (k_Jx4a65c_size_8abf5 l D T b10 S g11) (w0_V 0 C.2.2.2.2.1 kw_1261 kw_876 kw_877 kw_22 kw_878 rfl rfl (by decide +kernel) ⟨Nat.le_of_ble_eq_true rfl, Nat.le_of_ble_eq_true rfl⟩) rfl (Nat.le_of_ble_eq_true rfl) (Nat.le_refl _) (Nat.le_refl _) (Nat.zero_le _) (Nat.zero_le _) dX0_applies_15 (fun v9 S9 L12 he9 hw9 hL9 hp => ?_)
    obtain ⟨hv9, hs9⟩ := hp
    replace hs9 := hs9.symm
    subst hs9
    replace hv9 := hv9.symm
    subst hv9
    have w15 := hL9
    refine g_icmp_ge (tgt := 75) C dX0_applies_18 (by decide) (fun z16 => ?_) (fun z16 => ?_)
    · replace h := h.1 z16
      refine g_iload_n C dX0_applies_75 rfl 2 rfl ?_
      exact gc_zret C h.1 hw w15 he hr dX0_applies_76 h.2
    · replace h := h.2 z16
      refine g_aload_n C dX0_applies_21 rfl 0 rfl ?_
      refine gc_getR C hw iwx_X0 w15 hx0 (by decide) (by decide) rfl 4 (by decide) (hW kw_751) rfl rfl rfl dX0_applies_22 (fun o17 eo17 ko17 => ?_)
      obtain ⟨b18, hb9, h⟩ := h
      have g19 : hK S b18 = 13 := ko17 b18 (eo17.trans hb9)
      replace h := h g19
      refine g_opt (eo17.trans hb9) ?_
      refine g_iload_n C dX0_applies_25 rfl 3 rfl ?_
      obtain ⟨g20, h⟩ := h
      refine gc_callqV (host := "") C E hw w15 g19 (by decide) (by decide) rfl [.int x3] rfl (k_Jx4a65c_get_915e3 l D T b18 x3 S 9 g19 g20) (w0_V 1 C.2.2.2.2.1 kw_1262 kw_880 kw_881 kw_22 kw_882 rfl rfl (by decide +kernel) ⟨Nat.le_of_ble_eq_true rfl, Nat.le_of_ble_eq_true rfl⟩) rfl (Nat.le_of_ble_eq_true rfl) (Nat.le_refl _) (Nat.le_refl _) (Nat.zero_le _) (Nat.zero_le _) dX0_applies_26 (fun o26 S21 L22 e23 w24 w25 ko26 hp => ?_)
      replace h := h o26 S21 e23 ko26 hp
      have g27 := ext_K e23 hx0 (by decide)
      have g28 := ext_K e23 hx1 (by decide)
      have w29 := ext_tr he e23
      obtain ⟨b30, rfl, h⟩ := h
      have g31 : hK S21 b30 = 9 := ko26 b30 rfl
      replace h := h g31
      refine gc_castP C w25 g31 (by decide) (by decide) rfl (hW kw_1263) dX0_applies_29 ?_
      refine g_astore (lv' := [(4, .ref b30), (0, .ref x0), (1, .ref x1), (2, .int x2), (3, .int x3)]) C dX0_applies_32 (by decide) rfl ?_
      refine g_aload C dX0_applies_34 0 rfl ?_
      refine gc_getI C iwx_X8 w25 g31 (by decide) (by decide) rfl 0 (by decide) (hW kw_779) rfl rfl rfl dX0_applies_36 ?_
      refine g_if_eq (tgt := 50) C dX0_applies_39 (by decide) (fun z32 => ?_) (fun z32 => ?_)
      · replace h := h.1 z32
        refine g_iload_n C dX0_applies_50 rfl 3 rfl ?_
        refine g_if_eq (tgt := 67) C dX0_applies_51 (by decide) (fun z33 => ?_) (fun z33 => ?_)
        · replace h := h.1 z33
          refine g_iconst (v := 0) C dX0_applies_67 (by decide) ?_
          refine g_istore_n (lv' := [(2, .int 0), (4, .ref b30), (0, .ref x0), (1, .ref x1), (3, .int x3)]) C dX0_applies_68 rfl (by decide) rfl ?_
          obtain ⟨v34, ev34⟩ : ∃ y : Int32, y = x3 + 1 := ⟨_, rfl⟩
          replace h := h v34 ev34
          refine g_iinc (v := v34) (lv' := [(3, .int v34), (2, .int 0), (4, .ref b30), (0, .ref x0), (1, .ref x1)]) C dX0_applies_69 (j := 4) rfl (by rw [ev34]; rfl) (by decide) rfl ?_
          refine g_goto (tgt := 10) C dX0_applies_72 (by decide) ?_
          refine g_locals [3, 4, 1, 0] rfl ?_
          exact ih x0 x1 0 v34 S21 L22 w24 w25 w29 g27 g28 h
        · replace h := h.2 z33
          refine g_aload C dX0_applies_54 0 rfl ?_
          refine g_aload_n C dX0_applies_56 rfl 2 rfl ?_
          obtain ⟨m35, m36, m37, h⟩ := h
          obtain ⟨g38, h⟩ := h
          refine gc_calliV (host := "") C E w24 w25 g31 (by decide) (by decide) rfl [.ref x1] rfl (k_X8_holds l D T b30 x1 S21 m35 m36 m37 g31 g28 g38) (w0_V 1 C.2.2.2.2.1 kw_1264 kw_1265 kw_1266 kw_28 kw_1267 rfl rfl (by decide +kernel) ⟨Nat.le_of_ble_eq_true rfl, Nat.le_of_ble_eq_true rfl⟩) rfl (Nat.le_of_ble_eq_true rfl) (Nat.le_refl _) (Nat.le_refl _) (Nat.zero_le _) (Nat.zero_le _) dX0_applies_57 (fun v9 S9 L39 he9 hw9 hL9 hp => ?_)
          obtain ⟨hv9, hs9⟩ := hp
          replace hs9 := hs9.symm
          subst hs9
          replace hv9 := hv9.symm
          subst hv9
          have w42 := hL9
          refine g_if_eq (tgt := 67) C dX0_applies_60 (by decide) (fun z43 => ?_) (fun z43 => ?_)
          · replace h := h.1 z43
            refine g_iconst (v := 0) C dX0_applies_67 (by decide) ?_
            refine g_istore_n (lv' := [(2, .int 0), (4, .ref b30), (0, .ref x0), (1, .ref x1), (3, .int x3)]) C dX0_applies_68 rfl (by decide) rfl ?_
            obtain ⟨v44, ev44⟩ : ∃ y : Int32, y = x3 + 1 := ⟨_, rfl⟩
            replace h := h v44 ev44
            refine g_iinc (v := v44) (lv' := [(3, .int v44), (2, .int 0), (4, .ref b30), (0, .ref x0), (1, .ref x1)]) C dX0_applies_69 (j := 4) rfl (by rw [ev44]; rfl) (by decide) rfl ?_
            refine g_goto (tgt := 10) C dX0_applies_72 (by decide) ?_
            refine g_locals [3, 4, 1, 0] rfl ?_
            exact ih x0 x1 0 v44 S21 L39 w24 w42 w29 g27 g28 h
          · replace h := h.2 z43
            refine g_iconst (v := 1) C dX0_applies_63 (by decide) ?_
            refine g_goto (tgt := 68) C dX0_applies_64 (by decide) ?_
            refine g_istore_n (lv' := [(2, .int 1), (4, .ref b30), (0, .ref x0), (1, .ref x1), (3, .int x3)]) C dX0_applies_68 rfl (by decide) rfl ?_
            obtain ⟨v45, ev45⟩ : ∃ y : Int32, y = x3 + 1 := ⟨_, rfl⟩
            replace h := h v45 ev45
            refine g_iinc (v := v45) (lv' := [(3, .int v45), (2, .int 1), (4, .ref b30), (0, .ref x0), (1, .ref x1)]) C dX0_applies_69 (j := 4) rfl (by rw [ev45]; rfl) (by decide) rfl ?_
            refine g_goto (tgt := 10) C dX0_applies_72 (by decide) ?_
            refine g_locals [3, 4, 1, 0] rfl ?_
            exact ih x0 x1 1 v45 S21 L39 w24 w42 w29 g27 g28 h
      · replace h := h.2 z32
        refine g_iload_n C dX0_applies_42 rfl 3 rfl ?_
        refine g_if_eq (tgt := 48) C dX0_applies_43 (by decide) (fun z46 => ?_) (fun z46 => ?_)
        · replace h := h.1 z46
          refine g_iconst (v := 1) C dX0_applies_48 (by decide) ?_
          refine g_istore_n (lv' := [(2, .int 1), (4, .ref b30), (0, .ref x0), (1, .ref x1), (3, .int x3)]) C dX0_applies_49 rfl (by decide) rfl ?_
          refine g_iload_n C dX0_applies_50 rfl 0 rfl ?_
          refine g_if_eq (tgt := 67) C dX0_applies_51 (by decide) (fun z => absurd z (by decide)) (fun _ => ?_)
          refine g_aload C dX0_applies_54 1 rfl ?_
          refine g_aload_n C dX0_applies_56 rfl 3 rfl ?_
          obtain ⟨m47, m48, m49, h⟩ := h
          obtain ⟨g50, h⟩ := h
          refine gc_calliV (host := "") C E w24 w25 g31 (by decide) (by decide) rfl [.ref x1] rfl (k_X8_holds l D T b30 x1 S21 m47 m48 m49 g31 g28 g50) (w0_V 1 C.2.2.2.2.1 kw_1264 kw_1265 kw_1266 kw_28 kw_1267 rfl rfl (by decide +kernel) ⟨Nat.le_of_ble_eq_true rfl, Nat.le_of_ble_eq_true rfl⟩) rfl (Nat.le_of_ble_eq_true rfl) (Nat.le_refl _) (Nat.le_refl _) (Nat.zero_le _) (Nat.zero_le _) dX0_applies_57 (fun v9 S9 L51 he9 hw9 hL9 hp => ?_)
          obtain ⟨hv9, hs9⟩ := hp
          replace hs9 := hs9.symm
          subst hs9
          replace hv9 := hv9.symm
          subst hv9
          have w54 := hL9
          refine g_if_eq (tgt := 67) C dX0_applies_60 (by decide) (fun z55 => ?_) (fun z55 => ?_)
          · replace h := h.1 z55
            refine g_iconst (v := 0) C dX0_applies_67 (by decide) ?_
            refine g_istore_n (lv' := [(2, .int 0), (4, .ref b30), (0, .ref x0), (1, .ref x1), (3, .int x3)]) C dX0_applies_68 rfl (by decide) rfl ?_
            obtain ⟨v56, ev56⟩ : ∃ y : Int32, y = x3 + 1 := ⟨_, rfl⟩
            replace h := h v56 ev56
            refine g_iinc (v := v56) (lv' := [(3, .int v56), (2, .int 0), (4, .ref b30), (0, .ref x0), (1, .ref x1)]) C dX0_applies_69 (j := 4) rfl (by rw [ev56]; rfl) (by decide) rfl ?_
            refine g_goto (tgt := 10) C dX0_applies_72 (by decide) ?_
            refine g_locals [3, 4, 1, 0] rfl ?_
            exact ih x0 x1 0 v56 S21 L51 w24 w54 w29 g27 g28 h
          · replace h := h.2 z55
            refine g_iconst (v := 1) C dX0_applies_63 (by decide) ?_
            refine g_goto (tgt := 68) C dX0_applies_64 (by decide) ?_
            refine g_istore_n (lv' := [(2, .int 1), (4, .ref b30), (0, .ref x0), (1, .ref x1), (3, .int x3)]) C dX0_applies_68 rfl (by decide) rfl ?_
            obtain ⟨v57, ev57⟩ : ∃ y : Int32, y = x3 + 1 := ⟨_, rfl⟩
            replace h := h v57 ev57
            refine g_iinc (v := v57) (lv' := [(3, .int v57), (2, .int 1), (4, .ref b30), (0, .ref x0), (1, .ref x1)]) C dX0_applies_69 (j := 4) rfl (by rw [ev57]; rfl) (by decide) rfl ?_
            refine g_goto (tgt := 10) C dX0_applies_72 (by decide) ?_
            refine g_locals [3, 4, 1, 0] rfl ?_
            exact ih x0 x1 1 v57 S21 L51 w24 w54 w29 g27 g28 h
        · replace h := h.2 z46
          refine g_iconst (v := 1) C dX0_applies_46 (by decide) ?_
          exact gc_zret C vz1 w24 w25 w29 hr dX0_applies_47 h
def wp_X0_applies (P : Int32 → HS → Prop) (x0 : Nat) (p0 : Nat) (S : HS) : Prop := ∃ b2 : Nat, hR S 24 x0 = some b2 ∧ (hK S b2 = 13 → (∀ v8 : Int32, v8 = ((if hI S 262 b2 = 0 then 1 else 0)) → (∃ k58 : Nat, wp_X0_applies_10  P k58 x0 p0 v8 0 S)))
set_option maxRecDepth 100000 in
set_option maxHeartbeats 4000000 in
theorem t_X0_applies {p : Program} {l : Launch} {e : Env} {s : State} {m : MethodId} {args : Array Value} {below : List Frame} {meth : Method} {c : Code} {D : va_G} {A : Nat → Prop} {T : Nat → ClassId} (C : GC p s m args meth c cX0_applies "FreightRater$Accessorial" (ws_X0_applies) 5 D A (zty T)) (E : GE T A s) (hr : meth.sig.returnType = (some .boolean)) (P : Int32 → HS → Prop) : ∀ (x0 : Nat) (p0 : Nat) (S0 S : HS) (L : List Nat), S0 = S → wt S → hL S L → (hK S x0 = 1) → (hK S p0 = 3) → wp_X0_applies P x0 p0 S → GW p l e { rm_X0_applies with cells := 0, slots := 0 } s m args below meth c D A 5 0 0 (MQ below (va_Qi (fun v (u : HS × List Nat) => P v u.1 ∧ CO S0 u) (CE D T A) A) args s 0 0 A) (CW T S L) 0 0 0 [(0, .ref x0), (1, .ref p0)] [] := by
  have hW : ∀ {w : Cond}, w ∈ W0 → w.before args s = true := fun h => C.2.2.2.2.1 _ (List.mem_cons_of_mem _ h)
  intro x0 p0 S0 S L hS0 hw hL hx0 hp0 h
  have he : ext S0 S := by rw [hS0]; exact ext_rf
  unfold wp_X0_applies at h
  refine g_aload_n C dX0_applies_0 rfl 0 rfl ?_
  refine gc_getR C hw iwx_X0 hL hx0 (by decide) (by decide) rfl 4 (by decide) (hW kw_751) rfl rfl rfl dX0_applies_1 (fun o1 eo1 ko1 => ?_)
  obtain ⟨b2, hb9, h⟩ := h
  have g3 : hK S b2 = 13 := ko1 b2 (eo1.trans hb9)
  replace h := h g3
  refine g_opt (eo1.trans hb9) ?_
  refine gc_calliV (host := "") C E hw hL g3 (by decide) (by decide) rfl [] rfl (k_Jx4a65c_isEmpty_aae02 l D T b2 S g3) (w0_V 0 C.2.2.2.2.1 kw_1257 kw_1258 kw_1259 kw_22 kw_1260 rfl rfl (by decide +kernel) ⟨Nat.le_of_ble_eq_true rfl, Nat.le_of_ble_eq_true rfl⟩) rfl (Nat.le_of_ble_eq_true rfl) (Nat.le_refl _) (Nat.le_refl _) (Nat.zero_le _) (Nat.zero_le _) dX0_applies_4 (fun v9 S9 L4 he9 hw9 hL9 hp => ?_)
  obtain ⟨hv9, hs9⟩ := hp
  replace hs9 := hs9.symm
  subst hs9
  replace hv9 := hv9.symm
  subst hv9
  have w7 := hL9
  refine g_topi (fun v8 ev8 => ?_)
  replace h := h v8 ev8
  refine g_istore_n (lv' := [(2, .int v8), (0, .ref x0), (1, .ref p0)]) C dX0_applies_7 rfl (by decide) rfl ?_
  refine g_iconst (v := 0) C dX0_applies_8 (by decide) ?_
  refine g_istore_n (lv' := [(3, .int 0), (2, .int v8), (0, .ref x0), (1, .ref p0)]) C dX0_applies_9 rfl (by decide) rfl ?_
  refine g_locals [2, 3, 1, 0] rfl ?_
  obtain ⟨k58, h⟩ := h
  refine t_X0_applies_10 C E hr S0  P  k58 x0 p0 v8 0 S L4 hw w7 he hx0 hp0 h
theorem c_X0_applies (l : Launch) (D : va_G) (T : Nat → ClassId) (x0 : Nat) (p0 : Nat) (S : HS) (hx0 : hK S x0 = 1) (hp0 : hK S p0 = 3) (P : Int32 → HS → Prop) (h : wp_X0_applies P x0 p0 S) : CMi l yX0_applies (ws_X0_applies) rm_X0_applies D T [.ref x0, .ref p0] S 0 0 P := gc_meti (by decide) rfl rfl (Nat.le_of_ble_eq_true rfl) (fun p e s m args below meth c A L C E hnm hr hw hL => t_X0_applies C E   hr P x0 p0 S S L rfl hw hL hx0 hp0 h)
theorem allB_i {μ : Nat → Int32} {e : Nat} {w p l h z : Int32} {row : Nat} : ∀ k j, allB μ e w p l h z row k j = true ↔ ∀ i, j ≤ i → i < j + k → iv (μ (e + 6 + i)) / 300000 = row → tb w p l h z (iv (μ (e + 6 + i))) = true := by
  intro k
  induction k with
  | zero => intro j; exact ⟨fun _ i h1 h2 => by omega, fun _ => rfl⟩
  | succ k ih =>
    intro j
    rw [allB, Bool.and_eq_true, Bool.or_eq_true, ih (j + 1)]
    constructor
    · rintro ⟨h1, h2⟩ i hi hi2 hr
      rcases Nat.eq_or_lt_of_le hi with e9 | e9
      · subst e9
        rcases h1 with h1 | h1
        · rw [decide_eq_true hr] at h1; cases h1
        · exact h1
      · exact h2 i (by omega) (by omega) hr
    · intro h9
      refine ⟨?_, fun i hi hi2 hr => h9 i (by omega) (by omega) hr⟩
      by_cases c : iv (μ (e + 6 + j)) / 300000 = row
      · right; exact h9 j (Nat.le_refl _) (by omega) c
      · left; rw [decide_eq_false c]; rfl
theorem anyB_i {μ : Nat → Int32} {e : Nat} {w p l h z : Int32} : ∀ k r0, anyB μ e w p l h z k r0 = true ↔ ∃ r, r0 ≤ r ∧ r < r0 + k ∧ allB μ e w p l h z r (iv (μ (e + 4))) 0 = true := by
  intro k
  induction k with
  | zero => intro r0; exact ⟨fun h9 => (by cases h9), fun ⟨r, h1, h2, _⟩ => by omega⟩
  | succ k ih =>
    intro r0
    rw [anyB, Bool.or_eq_true, ih (r0 + 1)]
    constructor
    · rintro (h1 | ⟨r, h1, h2, h3⟩)
      · exact ⟨r0, Nat.le_refl _, by omega, h1⟩
      · exact ⟨r, by omega, by omega, h3⟩
    · rintro ⟨r, h1, h2, h3⟩
      rcases Nat.eq_or_lt_of_le h1 with e9 | e9
      · subst e9; exact Or.inl h3
      · exact Or.inr ⟨r, by omega, by omega, h3⟩
theorem rl_ap {P : Int32 → HS → Prop} {S : HS} {M : Nat → Prop} {x rt v a T R : Nat} {μ : Nat → Int32} (hw : WF μ) (hv : v < 6) (ha : a < 10) (hR : RelA S M x μ v a) (eT : μ (274 + 510 * v + 150 + 36 * a + 4) = nI T) (hT : T ≤ 30) (hT0 : 0 < T) (eR : iv (μ (274 + 510 * v + 150 + 36 * a + 3)) = R) (hO : rwO μ v a) (hP : P (b2i (hldB μ (274 + 510 * v + 150 + 36 * a) (hI S 67 rt) (hI S 69 rt) (hI S 70 rt) (hI S 68 rt) (hI S 66 rt))) S) : ∀ (k j fuel : Nat) (b : Bool), j + k = T → k < fuel → ((j = 0 ∧ b = false) ∨ (0 < j ∧ (b = true ↔ ∀ i, i < j → iv (μ (274 + 510 * v + 150 + 36 * a + 6 + i)) / 300000 = iv (μ (274 + 510 * v + 150 + 36 * a + 6 + (j - 1))) / 300000 → tb (hI S 67 rt) (hI S 69 rt) (hI S 70 rt) (hI S 68 rt) (hI S 66 rt) (iv (μ (274 + 510 * v + 150 + 36 * a + 6 + i))) = true) ∧ ∀ r, r < iv (μ (274 + 510 * v + 150 + 36 * a + 6 + (j - 1))) / 300000 → ¬ allB μ (274 + 510 * v + 150 + 36 * a) (hI S 67 rt) (hI S 69 rt) (hI S 70 rt) (hI S 68 rt) (hI S 66 rt) r T 0 = true)) → wp_X0_applies_10 P fuel x rt (b2i b) (nI j) S := by
  have iT : iv (μ (274 + 510 * v + 150 + 36 * a + 4)) = T := by rw [eT]; exact nI_clamp (by omega)
  obtain ⟨_, _, _, _, _, _, al, ar, ral, kal, _, rar, kar, _, e262, hnar, hh⟩ := hR
  rw [iT] at hnar hh
  rw [eT] at e262
  obtain ⟨_, hO2⟩ := hO
  rw [iT] at hO2
  obtain ⟨o1, o2, o3⟩ := hO2 hT0
  rw [eR] at o3
  have tix : ∀ j, j < T → iv (μ (274 + 510 * v + 150 + 36 * a + 6 + j)) ≤ 9999999 := fun j hj => by
    obtain ⟨m, hm, em⟩ := (hw.acc hv ha).2.2.2.2.2.2.1 j (by omega)
    rw [em, show iv (nI m) = m from nI_clamp (by omega)]
    exact hm
  have hmono : ∀ d i, i + d < T → iv (μ (274 + 510 * v + 150 + 36 * a + 6 + i)) / 300000 ≤ iv (μ (274 + 510 * v + 150 + 36 * a + 6 + (i + d))) / 300000 := by
    intro d
    induction d with
    | zero => intro i _; exact Nat.le_refl _
    | succ d ihd =>
      intro i hi
      have h1 := ihd i (by omega)
      have h2 := o2 (i + d) (by omega)
      rw [show i + (d + 1) = i + d + 1 by omega]
      omega
  generalize hw67 : hI S 67 rt = w at *
  generalize hw69 : hI S 69 rt = p at *
  generalize hw70 : hI S 70 rt = l at *
  generalize hw68 : hI S 68 rt = hd at *
  generalize hw66 : hI S 66 rt = z at *
  intro k
  induction k with
  | zero =>
    intro j fuel b hj hf hb
    have ej : j = T := by omega
    subst ej
    obtain ⟨f, rfl⟩ : ∃ f, fuel = f + 1 := ⟨fuel - 1, by omega⟩; rw [wp_X0_applies_10]; unfold wb_X0_applies_10; dsimp only
    refine ⟨al, ral, fun _ => ?_⟩
    rw [e262, nI_leI (by omega) (by omega)]
    refine ⟨fun _ => ⟨b2i_vz b, ?_⟩, fun z9 => absurd (Nat.le_refl _) z9⟩
    rcases hb with ⟨h1, _⟩ | ⟨_, h2, h3⟩
    · omega
    · have hH : hldB μ (274 + 510 * v + 150 + 36 * a) w p l hd z = b := by
        unfold hldB
        rw [eR]
        have hR0 : ¬ R = 0 := by omega
        rw [decide_eq_false hR0, Bool.false_or]
        have e1 : (allB μ (274 + 510 * v + 150 + 36 * a) w p l hd z (iv (μ (274 + 510 * v + 150 + 36 * a + 6 + (j - 1))) / 300000) j 0 = true) ↔ b = true := by
          rw [allB_i, h2]
          exact ⟨fun h9 i hi hr => h9 i (Nat.zero_le _) (by omega) hr, fun h9 i _ hi hr => h9 i (by omega) hr⟩
        have e2 : (anyB μ (274 + 510 * v + 150 + 36 * a) w p l hd z R 0 = true) ↔ b = true := by
          rw [anyB_i, iT]
          constructor
          · rintro ⟨r, _, hr, hA⟩
            rcases Nat.lt_or_ge r (iv (μ (274 + 510 * v + 150 + 36 * a + 6 + (j - 1))) / 300000) with q9 | q9
            · exact absurd hA (h3 r q9)
            · have : r = iv (μ (274 + 510 * v + 150 + 36 * a + 6 + (j - 1))) / 300000 := by omega
              rw [this] at hA
              exact e1.mp hA
          · intro hbt
            exact ⟨_, Nat.zero_le _, by omega, e1.mpr hbt⟩
        cases b with
        | true => exact e2.mpr rfl
        | false =>
          cases hA : anyB μ (274 + 510 * v + 150 + 36 * a) w p l hd z R 0 with
          | true => have := e2.mp hA; cases this
          | false => rfl
      rw [hH] at hP
      exact hP
  | succ k ih =>
    intro j fuel b hj hf hb
    obtain ⟨t, ht, hRT⟩ := hh j (by omega)
    have hRT0 := hRT
    obtain ⟨kt, _, op1, op0, _⟩ := hRT
    obtain ⟨f, rfl⟩ : ∃ f, fuel = f + 1 := ⟨fuel - 1, by omega⟩; rw [wp_X0_applies_10]; unfold wb_X0_applies_10; dsimp only
    refine ⟨al, ral, fun _ => ?_⟩
    rw [e262, nI_leI (by omega) (by omega), nI_1]
    refine ⟨fun z9 => absurd z9 (by omega), fun _ => ⟨al, ral, fun _ => ⟨⟨ar, T, j, rar, kar, e262, by omega, by omega, hnar, rfl, t, ht, kt⟩, fun o26 S21 _ _ hp => ?_⟩⟩⟩
    obtain ⟨e21, ar', rar', eo⟩ := hp
    subst e21
    have ear : ar = ar' := Option.some.inj (rar.symm.trans rar')
    subst ear
    rw [show iv (nI j) = j from nI_clamp (by omega), ht] at eo
    -- the next test, its own result known
    have nxt : ∀ b' : Bool, ((b' = true ↔ ∀ i, i < j + 1 → iv (μ (274 + 510 * v + 150 + 36 * a + 6 + i)) / 300000 = iv (μ (274 + 510 * v + 150 + 36 * a + 6 + j)) / 300000 → tb w p l hd z (iv (μ (274 + 510 * v + 150 + 36 * a + 6 + i))) = true) ∧ ∀ r, r < iv (μ (274 + 510 * v + 150 + 36 * a + 6 + j)) / 300000 → ¬ allB μ (274 + 510 * v + 150 + 36 * a) w p l hd z r T 0 = true) → ∀ v34 : Int32, v34 = nI (j + 1) → wp_X0_applies_10 P f x rt (b2i b') v34 S21 := fun b' hb' v34 e34 => by
      subst e34
      exact ih (j + 1) f b' (by omega) (by omega) (Or.inr ⟨Nat.succ_pos _, by rw [Nat.add_sub_cancel]; exact hb'⟩)
    rw [hw67, hw69, hw70, hw68, hw66]
    refine ⟨t, eo, fun _ => ⟨fun c9 => ?_, fun c9 => ?_⟩⟩
    · -- the row goes on
      have hno : ¬ (j = 0 ∨ ¬ iv (μ (274 + 510 * v + 150 + 36 * a + 6 + j)) / 300000 = iv (μ (274 + 510 * v + 150 + 36 * a + 6 + j - 1)) / 300000) := fun w9 => by rw [op1 w9] at c9; exact absurd c9 (by decide)
      have hj0 : 0 < j := by rcases Nat.eq_zero_or_pos j with z9 | z9; exact absurd (Or.inl z9) hno; exact z9
      have hsame : iv (μ (274 + 510 * v + 150 + 36 * a + 6 + j)) / 300000 = iv (μ (274 + 510 * v + 150 + 36 * a + 6 + (j - 1))) / 300000 := by
        have : iv (μ (274 + 510 * v + 150 + 36 * a + 6 + j)) / 300000 = iv (μ (274 + 510 * v + 150 + 36 * a + 6 + j - 1)) / 300000 := Decidable.byContradiction fun w9 => hno (Or.inr w9)
        rw [this, show 274 + 510 * v + 150 + 36 * a + 6 + j - 1 = 274 + 510 * v + 150 + 36 * a + 6 + (j - 1) by omega]
      rcases hb with ⟨h1, _⟩ | ⟨_, h2, h3⟩
      · omega
      · rw [← hsame] at h2 h3
        refine ⟨fun cb => nxt false ⟨⟨fun z9 => (by cases z9), fun h9 => ?_⟩, h3⟩, fun cb => ⟨M, iv (μ (274 + 510 * v + 150 + 36 * a + 6 + j)), _, ⟨tix j (by omega), hRT0⟩, fun c8 => nxt false ⟨⟨fun z9 => (by cases z9), fun h9 => ?_⟩, h3⟩, fun c8 => nxt true ⟨⟨fun _ i hi hr => ?_, fun _ => rfl⟩, h3⟩⟩⟩
        · have hbf : b = false := (b2i_0 _).mp cb
          rw [hbf] at h2
          exact absurd (h2.mpr (fun i hi hr => h9 i (by omega) hr)) (by decide)
        · have := (b2i_0 _).mp c8
          rw [h9 j (Nat.lt_succ_self _) rfl] at this
          cases this
        · rcases Nat.eq_or_lt_of_le (Nat.le_of_lt_succ hi) with e9 | e9
          · subst e9; exact bx_of rfl c8
          · exact h2.mp (bx_of rfl cb) i e9 hr
    · -- a row opens
      have hop : j = 0 ∨ ¬ iv (μ (274 + 510 * v + 150 + 36 * a + 6 + j)) / 300000 = iv (μ (274 + 510 * v + 150 + 36 * a + 6 + j - 1)) / 300000 := Decidable.byContradiction fun w9 => c9 (op0 w9)
      have first : ∀ i, i < j → iv (μ (274 + 510 * v + 150 + 36 * a + 6 + i)) / 300000 < iv (μ (274 + 510 * v + 150 + 36 * a + 6 + j)) / 300000 := fun i hi => by
        rcases hop with h1 | h1
        · omega
        · rw [show 274 + 510 * v + 150 + 36 * a + 6 + j - 1 = 274 + 510 * v + 150 + 36 * a + 6 + (j - 1) by omega] at h1
          have h2 := o2 (j - 1) (by omega)
          rw [show j - 1 + 1 = j by omega] at h2
          have h3 := hmono (j - 1 - i) i (by omega)
          rw [show i + (j - 1 - i) = j - 1 by omega] at h3
          omega
      refine ⟨fun cb => ?_, fun cb => ?_⟩
      · have hbf : b = false := (b2i_0 _).mp cb
        have low : ∀ r, r < iv (μ (274 + 510 * v + 150 + 36 * a + 6 + j)) / 300000 → ¬ allB μ (274 + 510 * v + 150 + 36 * a) w p l hd z r T 0 = true := by
          intro r hr hA
          rcases hb with ⟨h1, _⟩ | ⟨hj0, h2, h3⟩
          · subst h1; rw [show 274 + 510 * v + 150 + 36 * a + 6 + 0 = 274 + 510 * v + 150 + 36 * a + 6 by omega, o1] at hr; omega
          · have h4 := o2 (j - 1) (by omega)
            rw [show j - 1 + 1 = j by omega] at h4
            rcases Nat.lt_or_ge r (iv (μ (274 + 510 * v + 150 + 36 * a + 6 + (j - 1))) / 300000) with q9 | q9
            · exact h3 r q9 hA
            · have er : r = iv (μ (274 + 510 * v + 150 + 36 * a + 6 + (j - 1))) / 300000 := by omega
              rw [hbf] at h2
              refine absurd (h2.mpr (fun i hi hr9 => ?_)) (by decide)
              exact (allB_i T 0).mp hA i (Nat.zero_le _) (by omega) (by rw [er]; exact hr9)
        refine ⟨M, iv (μ (274 + 510 * v + 150 + 36 * a + 6 + j)), _, ⟨tix j (by omega), hRT0⟩, fun c8 => nxt false ⟨⟨fun z9 => (by cases z9), fun h9 => ?_⟩, low⟩, fun c8 => nxt true ⟨⟨fun _ i hi hr => ?_, fun _ => rfl⟩, low⟩⟩
        · have := (b2i_0 _).mp c8
          rw [h9 j (Nat.lt_succ_self _) rfl] at this
          cases this
        · rcases Nat.eq_or_lt_of_le (Nat.le_of_lt_succ hi) with e9 | e9
          · subst e9; exact bx_of rfl c8
          · have := first i e9; omega
      · have hbt : b = true := bx_of rfl cb
        rcases hb with ⟨_, h1⟩ | ⟨hj0, h2, h3⟩
        · rw [h1] at hbt; cases hbt
        · have hH : hldB μ (274 + 510 * v + 150 + 36 * a) w p l hd z = true := by
            unfold hldB
            rw [eR, Bool.or_eq_true]
            right
            rw [anyB_i, iT]
            refine ⟨iv (μ (274 + 510 * v + 150 + 36 * a + 6 + (j - 1))) / 300000, Nat.zero_le _, ?_, ?_⟩
            · have := hmono (T - 1 - (j - 1)) (j - 1) (by omega)
              rw [show j - 1 + (T - 1 - (j - 1)) = T - 1 by omega] at this
              omega
            · rw [allB_i]
              intro i _ hi hr
              rcases Nat.lt_or_ge i j with q9 | q9
              · exact h2.mp hbt i q9 hr
              · have h5 := hmono (i - j) j (by omega)
                rw [show j + (i - j) = i by omega] at h5
                have h6 := first (j - 1) (by omega)
                omega
          rw [hH] at hP
          exact hP
theorem k_X0_applies (l : Launch) (D : va_G) (T : Nat → ClassId) (x0 : Nat) (p0 : Nat) (S : HS) (e0 : (Nat → Prop)) (e1 : Nat → Int32) (e2 : Nat) (e3 : Nat) (hx0 : hK S x0 = 1) (hp0 : hK S p0 = 3) (h : WF e1 ∧ e2 < 6 ∧ e3 < 10 ∧ RelA S e0 x0 e1 e2 e3 ∧ rwO e1 e2 e3) : CMi l yX0_applies (ws_X0_applies) rm_X0_applies D T [.ref x0, .ref p0] S 0 0 (fun v S1 => v = (b2i (hldB e1 (274 + 510 * e2 + 150 + 36 * e3) (hI S 67 p0) (hI S 69 p0) (hI S 70 p0) (hI S 68 p0) (hI S 66 p0))) ∧ S1 = S) := c_X0_applies l D T x0 p0 S hx0 hp0 _ <|
  (by
    obtain ⟨hw, hv, ha, hR, hO⟩ := h
    obtain ⟨_, _, _, hA4, ⟨T, hT, eT⟩, _⟩ := hw.acc hv ha
    have iT : iv (e1 (274 + 510 * e2 + 150 + 36 * e3 + 4)) = T := by rw [eT]; exact nI_clamp (by omega)
    have hR0 := hR
    obtain ⟨_, _, _, _, _, _, al, ar, ral, kal, _, rar, kar, _, e262, hnar, hh⟩ := hR
    rw [eT] at e262
    unfold wp_X0_applies
    refine ⟨al, ral, fun _ v8 e8 => ?_⟩
    rw [e262] at e8
    rcases Nat.eq_zero_or_pos T with z9 | z9
    · subst z9
      rw [if_pos (show nI 0 = 0 from rfl)] at e8
      subst e8
      refine ⟨1, ?_⟩
      rw [wp_X0_applies_10]; unfold wb_X0_applies_10; dsimp only
      refine ⟨al, ral, fun _ => ?_⟩
      rw [e262]
      refine ⟨fun _ => ⟨vz1, ?_, rfl⟩, fun w9 => absurd (by decide) w9⟩
      have := hO.1 iT
      unfold hldB
      rw [this]
      rfl
    · rw [if_neg (fun w9 => by rw [nz_eq0 (by omega)] at w9; omega)] at e8
      subst e8
      exact ⟨100, rl_ap hw hv ha hR0 eT hT z9 rfl hO ⟨rfl, rfl⟩ T 0 100 false (by omega) (by omega) (Or.inl ⟨rfl, rfl⟩)⟩)

end S_C1D
