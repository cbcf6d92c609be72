section S_C1C
abbrev ws_X6_hasFirstDay : List Cond := Cond.code yX6_hasFirstDay cX6_hasFirstDay 3 (some .boolean) :: W0
abbrev rm_X6_hasFirstDay : Room := ({ frames := 0, cells := 0, slots := 0, locals := 0 } : Room)
def wb_X6_hasFirstDay_2 (rec : Nat → Int32 → Int32 → HS → Prop) (P : Int32 → HS → Prop) (x0 : Nat) (x1 : Int32) (x2 : Int32) (S : HS) : Prop := ((hI S 141 x0) ≤ x2 → (P 0 S)) ∧ (¬ (hI S 141 x0) ≤ x2 → (∃ b3 : Nat, hR S 140 x0 = some b3 ∧ (hK S b3 = 29 → (vp_in x2 (hN S b3) ∧ (∀ o6 : Option Nat, o6 = hB S b3 (Int32.toNatClampNeg x2) → (∀ b, o6 = some b → hK S b = 10) → (∃ b7 : Nat, o6 = some b7 ∧ (hK S b7 = 10 → ((¬ (hI S 200 b7) = x1 → (∀ v10 : Int32, v10 = x2 + 1 → (rec x0 x1 v10 S))) ∧ ((hI S 200 b7) = x1 → (P 1 S))))))))))
def wp_X6_hasFirstDay_2 (P : Int32 → HS → Prop) : Nat → Nat → Int32 → Int32 → HS → Prop
  | 0 => fun _ _ _ _ => False
  | n + 1 => fun x0 x1 x2 S => wb_X6_hasFirstDay_2 (wp_X6_hasFirstDay_2  P n)  P x0 x1 x2 S
set_option maxRecDepth 100000 in
set_option maxHeartbeats 4000000 in
theorem t_X6_hasFirstDay_2 {p : Program} {l : Launch} {e : Env} {s : State} {m : MethodId} {args : Array Value} {below : List Frame} {meth : Method} {c : Code} {D : va_G} {A : Nat → Prop} {T : Nat → ClassId} (C : GC p s m args meth c cX6_hasFirstDay "FreightRater$State" (ws_X6_hasFirstDay) 3 D A (zty T)) (E : GE T A s) (hr : meth.sig.returnType = (some .boolean)) (S0 : HS) (P : Int32 → HS → Prop) : ∀ (n : Nat) (x0 : Nat) (x1 : Int32) (x2 : Int32) (S : HS) (L : List Nat), wt S → hL S L → ext S0 S → (hK S x0 = 7) → wp_X6_hasFirstDay_2  P n x0 x1 x2 S → GW p l e { rm_X6_hasFirstDay with cells := 0, slots := 0 } s m args below meth c D A 3 0 0 (MQ below (va_Qi (fun v (u : HS × List Nat) => P v u.1 ∧ CO S0 u) (CE D T A) A) args s 0 0 A) (CW T S L) 0 0 2 [(0, .ref x0), (1, .int x1), (2, .int x2)] [] := by
  have hW : ∀ {w : Cond}, w ∈ W0 → w.before args s = true := fun h => C.2.2.2.2.1 _ (List.mem_cons_of_mem _ h)
  intro n
  induction n with
  | zero => intro x0 x1 x2 S L hw hL he hx0 h; exact h.elim
  | succ n ih =>
    intro x0 x1 x2 S L hw hL he hx0 h
    replace h : wb_X6_hasFirstDay_2 (wp_X6_hasFirstDay_2  P n)  P x0 x1 x2 S := h
    unfold wb_X6_hasFirstDay_2 at h
    refine g_iload_n C dX6_hasFirstDay_2 rfl 2 rfl ?_
    refine g_aload_n C dX6_hasFirstDay_3 rfl 0 rfl ?_
    refine gc_getI C iwx_X6 hL hx0 (by decide) (by decide) rfl 1 (by decide) (hW kw_61) rfl rfl rfl dX6_hasFirstDay_4 ?_
    refine g_icmp_ge (tgt := 31) C dX6_hasFirstDay_7 (by decide) (fun z1 => ?_) (fun z1 => ?_)
    · replace h := h.1 z1
      refine g_iconst (v := 0) C dX6_hasFirstDay_31 (by decide) ?_
      exact gc_zret C vz0 hw hL he hr dX6_hasFirstDay_32 h
    · replace h := h.2 z1
      refine g_aload_n C dX6_hasFirstDay_10 rfl 0 rfl ?_
      refine gc_getR C hw iwx_X6 hL hx0 (by decide) (by decide) rfl 0 (by decide) (hW kw_58) rfl rfl rfl dX6_hasFirstDay_11 (fun o2 eo2 ko2 => ?_)
      obtain ⟨b3, hb9, h⟩ := h
      have g4 : hK S b3 = 29 := ko2 b3 (eo2.trans hb9)
      replace h := h g4
      refine g_opt (eo2.trans hb9) ?_
      refine g_iload_n C dX6_hasFirstDay_14 rfl 2 rfl ?_
      obtain ⟨g5, h⟩ := h
      refine gc_aald C hw hL g4 (by decide) rfl g5 dX6_hasFirstDay_15 (fun o6 eo6 ko6 => ?_)
      replace h := h o6 eo6 ko6
      obtain ⟨b7, rfl, h⟩ := h
      have g8 : hK S b7 = 10 := ko6 b7 rfl
      replace h := h g8
      refine gc_getI C iwx_X9 hL g8 (by decide) (by decide) rfl 0 (by decide) (hW kw_416) rfl rfl rfl dX6_hasFirstDay_16 ?_
      refine g_iload_n C dX6_hasFirstDay_19 rfl 1 rfl ?_
      refine g_icmp_ne (tgt := 25) C dX6_hasFirstDay_20 (by decide) (fun z9 => ?_) (fun z9 => ?_)
      · replace h := h.1 z9
        obtain ⟨v10, ev10⟩ : ∃ y : Int32, y = x2 + 1 := ⟨_, rfl⟩
        replace h := h v10 ev10
        refine g_iinc (v := v10) (lv' := [(2, .int v10), (0, .ref x0), (1, .int x1)]) C dX6_hasFirstDay_25 (j := 2) rfl (by rw [ev10]; rfl) (by decide) rfl ?_
        refine g_goto (tgt := 2) C dX6_hasFirstDay_28 (by decide) ?_
        refine g_locals [1, 2, 0] rfl ?_
        exact ih x0 x1 v10 S L hw hL he hx0 h
      · replace h := h.2 z9
        refine g_iconst (v := 1) C dX6_hasFirstDay_23 (by decide) ?_
        exact gc_zret C vz1 hw hL he hr dX6_hasFirstDay_24 h
def wp_X6_hasFirstDay (P : Int32 → HS → Prop) (x0 : Nat) (p0 : Int32) (S : HS) : Prop := ∃ k11 : Nat, wp_X6_hasFirstDay_2  P k11 x0 p0 0 S
set_option maxRecDepth 100000 in
set_option maxHeartbeats 4000000 in
theorem t_X6_hasFirstDay {p : Program} {l : Launch} {e : Env} {s : State} {m : MethodId} {args : Array Value} {below : List Frame} {meth : Method} {c : Code} {D : va_G} {A : Nat → Prop} {T : Nat → ClassId} (C : GC p s m args meth c cX6_hasFirstDay "FreightRater$State" (ws_X6_hasFirstDay) 3 D A (zty T)) (E : GE T A s) (hr : meth.sig.returnType = (some .boolean)) (P : Int32 → HS → Prop) : ∀ (x0 : Nat) (p0 : Int32) (S0 S : HS) (L : List Nat), S0 = S → wt S → hL S L → (hK S x0 = 7) → wp_X6_hasFirstDay P x0 p0 S → GW p l e { rm_X6_hasFirstDay with cells := 0, slots := 0 } s m args below meth c D A 3 0 0 (MQ below (va_Qi (fun v (u : HS × List Nat) => P v u.1 ∧ CO S0 u) (CE D T A) A) args s 0 0 A) (CW T S L) 0 0 0 [(0, .ref x0), (1, .int p0)] [] := by
  have hW : ∀ {w : Cond}, w ∈ W0 → w.before args s = true := fun h => C.2.2.2.2.1 _ (List.mem_cons_of_mem _ h)
  intro x0 p0 S0 S L hS0 hw hL hx0 h
  have he : ext S0 S := by rw [hS0]; exact ext_rf
  unfold wp_X6_hasFirstDay at h
  refine g_iconst (v := 0) C dX6_hasFirstDay_0 (by decide) ?_
  refine g_istore_n (lv' := [(2, .int 0), (0, .ref x0), (1, .int p0)]) C dX6_hasFirstDay_1 rfl (by decide) rfl ?_
  refine g_locals [1, 2, 0] rfl ?_
  obtain ⟨k11, h⟩ := h
  refine t_X6_hasFirstDay_2 C E hr S0  P  k11 x0 p0 0 S L hw hL he hx0 h
theorem c_X6_hasFirstDay (l : Launch) (D : va_G) (T : Nat → ClassId) (x0 : Nat) (p0 : Int32) (S : HS) (hx0 : hK S x0 = 7) (P : Int32 → HS → Prop) (h : wp_X6_hasFirstDay P x0 p0 S) : CMi l yX6_hasFirstDay (ws_X6_hasFirstDay) rm_X6_hasFirstDay D T [.ref x0, .int p0] S 0 0 P := gc_meti (by decide) rfl rfl (Nat.le_of_ble_eq_true rfl) (fun p e s m args below meth c A L C E hnm hr hw hL => t_X6_hasFirstDay C E   hr P x0 p0 S S L rfl hw hL hx0 h)
/-- a version of a state -/
theorem st_v {S : HS} {M : Nat → Prop} {x n : Nat} {μ : Nat → Int32} (h : RelSt S M x μ) (en : μ 0 = nI n) (hn : n ≤ 6) : hI S 141 x = nI n ∧ ∃ b, hR S 140 x = some b ∧ hK S b = 29 ∧ hN S b = 6 ∧ ∀ v, v < n → ∃ y, hB S b v = some y ∧ RelV S M y μ v := by
  obtain ⟨⟨_, e141, _⟩, ⟨b, rb, kb, nb, hb⟩, _⟩ := h
  rw [en, show iv (nI n) = n from nI_clamp (by omega)] at hb
  exact ⟨e141.trans en, b, rb, kb, nb, hb⟩
theorem st_s {S : HS} {M : Nat → Prop} {x n : Nat} {μ : Nat → Int32} (h : RelSt S M x μ) (en : μ 1 = nI n) (hn : n ≤ 10) : hI S 143 x = nI n ∧ ∃ b, hR S 142 x = some b ∧ hK S b = 27 ∧ hN S b = 10 ∧ ∀ s, s < n → ∃ y, hB S b s = some y ∧ RelS S M y μ s := by
  obtain ⟨⟨_, _, e143, _⟩, _, ⟨b, rb, kb, nb, hb⟩, _⟩ := h
  rw [en, show iv (nI n) = n from nI_clamp (by omega)] at hb
  exact ⟨e143.trans en, b, rb, kb, nb, hb⟩
theorem st_t {S : HS} {M : Nat → Prop} {x n : Nat} {μ : Nat → Int32} (h : RelSt S M x μ) (en : μ 2 = nI n) (hn : n ≤ 5) : hI S 146 x = nI n ∧ ∃ t p, hR S 144 x = some t ∧ hR S 145 x = some p ∧ hK S t = 22 ∧ hK S p = 22 ∧ hN S t = 5 ∧ hN S p = 5 ∧ ∀ i, i < n → hA S t i = μ (4 + 2 * i) ∧ hA S p i = μ (4 + 2 * i + 1) := by
  obtain ⟨⟨_, _, _, e146, _⟩, _, _, ⟨t, p, h1, h2, h3, h4, h5, h6, h7⟩⟩ := h
  rw [en, show iv (nI n) = n from nI_clamp (by omega)] at h7
  exact ⟨e146.trans en, t, p, h1, h2, h3, h4, h5, h6, h7⟩
theorem rl_hf {P : Int32 → HS → Prop} {S : HS} {M : Nat → Prop} {x n : Nat} {μ : Nat → Int32} {d : Int32} (hR : RelSt S M x μ) (en : μ 0 = nI n) (hn : n ≤ 6) : ∀ (k v fuel : Nat), v + k = n → k < fuel → P (b2i (hdF' μ d k v)) S → wp_X6_hasFirstDay_2 P fuel x d (nI v) S := by
  obtain ⟨e141, b, rb, kb, nb, hb⟩ := st_v hR en hn
  intro k
  induction k with
  | zero =>
    intro v fuel hv hf hP
    obtain ⟨f, rfl⟩ : ∃ f, fuel = f + 1 := ⟨fuel - 1, by omega⟩; rw [wp_X6_hasFirstDay_2]; unfold wb_X6_hasFirstDay_2; dsimp only
    rw [e141, nI_leI (by omega) (by omega)]
    exact ⟨fun _ => hP, fun z9 => absurd (by omega) z9⟩
  | succ k ih =>
    intro v fuel hv hf hP
    obtain ⟨y, hy, hV⟩ := hb v (by omega)
    have e200 : hI S 200 y = μ (274 + 510 * v) := hV.1.2.2.1
    rw [hdF'] at hP
    obtain ⟨f, rfl⟩ : ∃ f, fuel = f + 1 := ⟨fuel - 1, by omega⟩; rw [wp_X6_hasFirstDay_2]; unfold wb_X6_hasFirstDay_2; dsimp only
    rw [e141, nI_leI (by omega) (by omega), nI_1]
    refine ⟨fun z9 => absurd z9 (by omega), fun _ => ⟨b, rb, fun _ => ?_⟩⟩
    rw [nb, nz_vp (by omega) (by decide), nI_clamp (n := v) (by omega), hy]
    refine ⟨by omega, fun o6 e6 _ => ⟨y, e6, fun _ => ?_⟩⟩
    rw [e200]
    refine ⟨fun c9 v10 e10 => ?_, fun c9 => ?_⟩
    · subst e10
      rw [decide_eq_false c9, Bool.false_or] at hP
      exact ih (v + 1) f (by omega) (by omega) hP
    · rw [decide_eq_true c9, Bool.true_or] at hP
      exact hP
theorem k_X6_hasFirstDay (l : Launch) (D : va_G) (T : Nat → ClassId) (x0 : Nat) (p0 : Int32) (S : HS) (e0 : (Nat → Prop)) (e1 : Nat → Int32) (hx0 : hK S x0 = 7) (h : WF e1 ∧ RelSt S e0 x0 e1) : CMi l yX6_hasFirstDay (ws_X6_hasFirstDay) rm_X6_hasFirstDay D T [.ref x0, .int p0] S 0 0 (fun v S1 => v = (b2i (hdF' e1 p0 (iv (e1 0)) 0)) ∧ S1 = S) := c_X6_hasFirstDay l D T x0 p0 S hx0 _ <|
  (by
    obtain ⟨hw, hR⟩ := h
    obtain ⟨n, hn, en⟩ := hw.1
    have i0 : iv (e1 0) = n := by rw [en]; exact nI_clamp (by omega)
    unfold wp_X6_hasFirstDay
    exact ⟨20, rl_hf hR en hn n 0 20 (by omega) (by omega) ⟨by rw [i0], rfl⟩⟩)
abbrev ws_X6_versionFor : List Cond := Cond.code yX6_versionFor cX6_versionFor 5 (some .int) :: W0
abbrev rm_X6_versionFor : Room := ({ frames := 0, cells := 0, slots := 0, locals := 0 } : Room)
def wb_X6_versionFor_4 (rec : Nat → Int32 → Int32 → Int32 → HS → Prop) (P : Int32 → HS → Prop) (x0 : Nat) (x1 : Int32) (x2 : Int32) (x3 : Int32) (S : HS) : Prop := ((hI S 141 x0) ≤ x3 → (P x2 S)) ∧ (¬ (hI S 141 x0) ≤ x3 → (∃ b3 : Nat, hR S 140 x0 = some b3 ∧ (hK S b3 = 29 → (vp_in x3 (hN S b3) ∧ (∀ o6 : Option Nat, o6 = hB S b3 (Int32.toNatClampNeg x3) → (∀ b, o6 = some b → hK S b = 10) → (∃ b7 : Nat, o6 = some b7 ∧ (hK S b7 = 10 → (∀ v9 : Int32, v9 = (hI S 200 b7) → ((x1 < v9 → (∀ v11 : Int32, v11 = x3 + 1 → (rec x0 x1 x2 v11 S))) ∧ (¬ x1 < v9 → ((x2 < 0 → (∀ v13 : Int32, v13 = x3 + 1 → (rec x0 x1 x3 v13 S))) ∧ (¬ x2 < 0 → (∃ b15 : Nat, hR S 140 x0 = some b15 ∧ (hK S b15 = 29 → (vp_in x2 (hN S b15) ∧ (∀ o18 : Option Nat, o18 = hB S b15 (Int32.toNatClampNeg x2) → (∀ b, o18 = some b → hK S b = 10) → (∃ b19 : Nat, o18 = some b19 ∧ (hK S b19 = 10 → ((v9 ≤ (hI S 200 b19) → (∀ v22 : Int32, v22 = x3 + 1 → (rec x0 x1 x2 v22 S))) ∧ (¬ v9 ≤ (hI S 200 b19) → (∀ v23 : Int32, v23 = x3 + 1 → (rec x0 x1 x3 v23 S))))))))))))))))))))))
def wp_X6_versionFor_4 (P : Int32 → HS → Prop) : Nat → Nat → Int32 → Int32 → Int32 → HS → Prop
  | 0 => fun _ _ _ _ _ => False
  | n + 1 => fun x0 x1 x2 x3 S => wb_X6_versionFor_4 (wp_X6_versionFor_4  P n)  P x0 x1 x2 x3 S
set_option maxRecDepth 100000 in
set_option maxHeartbeats 4000000 in
theorem t_X6_versionFor_4 {p : Program} {l : Launch} {e : Env} {s : State} {m : MethodId} {args : Array Value} {below : List Frame} {meth : Method} {c : Code} {D : va_G} {A : Nat → Prop} {T : Nat → ClassId} (C : GC p s m args meth c cX6_versionFor "FreightRater$State" (ws_X6_versionFor) 5 D A (zty T)) (E : GE T A s) (hr : meth.sig.returnType = (some .int)) (S0 : HS) (P : Int32 → HS → Prop) : ∀ (n : Nat) (x0 : Nat) (x1 : Int32) (x2 : Int32) (x3 : Int32) (S : HS) (L : List Nat), wt S → hL S L → ext S0 S → (hK S x0 = 7) → wp_X6_versionFor_4  P n x0 x1 x2 x3 S → GW p l e { rm_X6_versionFor with cells := 0, slots := 0 } s m args below meth c D A 5 0 0 (MQ below (va_Qi (fun v (u : HS × List Nat) => P v u.1 ∧ CO S0 u) (CE D T A) A) args s 0 0 A) (CW T S L) 0 0 4 [(0, .ref x0), (1, .int x1), (2, .int x2), (3, .int x3)] [] := by
  have hW : ∀ {w : Cond}, w ∈ W0 → w.before args s = true := fun h => C.2.2.2.2.1 _ (List.mem_cons_of_mem _ h)
  intro n
  induction n with
  | zero => intro x0 x1 x2 x3 S L hw hL he hx0 h; exact h.elim
  | succ n ih =>
    intro x0 x1 x2 x3 S L hw hL he hx0 h
    replace h : wb_X6_versionFor_4 (wp_X6_versionFor_4  P n)  P x0 x1 x2 x3 S := h
    unfold wb_X6_versionFor_4 at h
    refine g_iload_n C dX6_versionFor_4 rfl 3 rfl ?_
    refine g_aload_n C dX6_versionFor_5 rfl 0 rfl ?_
    refine gc_getI C iwx_X6 hL hx0 (by decide) (by decide) rfl 1 (by decide) (hW kw_61) rfl rfl rfl dX6_versionFor_6 ?_
    refine g_icmp_ge (tgt := 55) C dX6_versionFor_9 (by decide) (fun z1 => ?_) (fun z1 => ?_)
    · replace h := h.1 z1
      refine g_iload_n C dX6_versionFor_55 rfl 2 rfl ?_
      exact gc_iret C hw hL he hr dX6_versionFor_56 h
    · replace h := h.2 z1
      refine g_aload_n C dX6_versionFor_12 rfl 0 rfl ?_
      refine gc_getR C hw iwx_X6 hL hx0 (by decide) (by decide) rfl 0 (by decide) (hW kw_58) rfl rfl rfl dX6_versionFor_13 (fun o2 eo2 ko2 => ?_)
      obtain ⟨b3, hb9, h⟩ := h
      have g4 : hK S b3 = 29 := ko2 b3 (eo2.trans hb9)
      replace h := h g4
      refine g_opt (eo2.trans hb9) ?_
      refine g_iload_n C dX6_versionFor_16 rfl 3 rfl ?_
      obtain ⟨g5, h⟩ := h
      refine gc_aald C hw hL g4 (by decide) rfl g5 dX6_versionFor_17 (fun o6 eo6 ko6 => ?_)
      replace h := h o6 eo6 ko6
      obtain ⟨b7, rfl, h⟩ := h
      have g8 : hK S b7 = 10 := ko6 b7 rfl
      replace h := h g8
      refine gc_getI C iwx_X9 hL g8 (by decide) (by decide) rfl 0 (by decide) (hW kw_416) rfl rfl rfl dX6_versionFor_18 ?_
      refine g_topi (fun v9 ev9 => ?_)
      replace h := h v9 ev9
      refine g_istore (lv' := [(4, .int v9), (0, .ref x0), (1, .int x1), (2, .int x2), (3, .int x3)]) C dX6_versionFor_21 (by decide) rfl ?_
      refine g_iload C dX6_versionFor_23 0 rfl ?_
      refine g_iload_n C dX6_versionFor_25 rfl 2 rfl ?_
      refine g_icmp_gt (tgt := 49) C dX6_versionFor_26 (by decide) (fun z10 => ?_) (fun z10 => ?_)
      · replace h := h.1 z10
        obtain ⟨v11, ev11⟩ : ∃ y : Int32, y = x3 + 1 := ⟨_, rfl⟩
        replace h := h v11 ev11
        refine g_iinc (v := v11) (lv' := [(3, .int v11), (4, .int v9), (0, .ref x0), (1, .int x1), (2, .int x2)]) C dX6_versionFor_49 (j := 4) rfl (by rw [ev11]; rfl) (by decide) rfl ?_
        refine g_goto (tgt := 4) C dX6_versionFor_52 (by decide) ?_
        refine g_locals [2, 3, 4, 0] rfl ?_
        exact ih x0 x1 x2 v11 S L hw hL he hx0 h
      · replace h := h.2 z10
        refine g_iload_n C dX6_versionFor_29 rfl 3 rfl ?_
        refine g_if_lt (tgt := 47) C dX6_versionFor_30 (by decide) (fun z12 => ?_) (fun z12 => ?_)
        · replace h := h.1 z12
          refine g_iload_n C dX6_versionFor_47 rfl 4 rfl ?_
          refine g_istore_n (lv' := [(2, .int x3), (4, .int v9), (0, .ref x0), (1, .int x1), (3, .int x3)]) C dX6_versionFor_48 rfl (by decide) rfl ?_
          obtain ⟨v13, ev13⟩ : ∃ y : Int32, y = x3 + 1 := ⟨_, rfl⟩
          replace h := h v13 ev13
          refine g_iinc (v := v13) (lv' := [(3, .int v13), (2, .int x3), (4, .int v9), (0, .ref x0), (1, .int x1)]) C dX6_versionFor_49 (j := 4) rfl (by rw [ev13]; rfl) (by decide) rfl ?_
          refine g_goto (tgt := 4) C dX6_versionFor_52 (by decide) ?_
          refine g_locals [3, 4, 1, 0] rfl ?_
          exact ih x0 x1 x3 v13 S L hw hL he hx0 h
        · replace h := h.2 z12
          refine g_iload C dX6_versionFor_33 0 rfl ?_
          refine g_aload_n C dX6_versionFor_35 rfl 1 rfl ?_
          refine gc_getR C hw iwx_X6 hL hx0 (by decide) (by decide) rfl 0 (by decide) (hW kw_58) rfl rfl rfl dX6_versionFor_36 (fun o14 eo14 ko14 => ?_)
          obtain ⟨b15, hb9, h⟩ := h
          have g16 : hK S b15 = 29 := ko14 b15 (eo14.trans hb9)
          replace h := h g16
          refine g_opt (eo14.trans hb9) ?_
          refine g_iload_n C dX6_versionFor_39 rfl 3 rfl ?_
          obtain ⟨g17, h⟩ := h
          refine gc_aald C hw hL g16 (by decide) rfl g17 dX6_versionFor_40 (fun o18 eo18 ko18 => ?_)
          replace h := h o18 eo18 ko18
          obtain ⟨b19, rfl, h⟩ := h
          have g20 : hK S b19 = 10 := ko18 b19 rfl
          replace h := h g20
          refine gc_getI C iwx_X9 hL g20 (by decide) (by decide) rfl 0 (by decide) (hW kw_416) rfl rfl rfl dX6_versionFor_41 ?_
          refine g_icmp_le (tgt := 49) C dX6_versionFor_44 (by decide) (fun z21 => ?_) (fun z21 => ?_)
          · replace h := h.1 z21
            obtain ⟨v22, ev22⟩ : ∃ y : Int32, y = x3 + 1 := ⟨_, rfl⟩
            replace h := h v22 ev22
            refine g_iinc (v := v22) (lv' := [(3, .int v22), (4, .int v9), (0, .ref x0), (1, .int x1), (2, .int x2)]) C dX6_versionFor_49 (j := 4) rfl (by rw [ev22]; rfl) (by decide) rfl ?_
            refine g_goto (tgt := 4) C dX6_versionFor_52 (by decide) ?_
            refine g_locals [2, 3, 4, 0] rfl ?_
            exact ih x0 x1 x2 v22 S L hw hL he hx0 h
          · replace h := h.2 z21
            refine g_iload_n C dX6_versionFor_47 rfl 4 rfl ?_
            refine g_istore_n (lv' := [(2, .int x3), (4, .int v9), (0, .ref x0), (1, .int x1), (3, .int x3)]) C dX6_versionFor_48 rfl (by decide) rfl ?_
            obtain ⟨v23, ev23⟩ : ∃ y : Int32, y = x3 + 1 := ⟨_, rfl⟩
            replace h := h v23 ev23
            refine g_iinc (v := v23) (lv' := [(3, .int v23), (2, .int x3), (4, .int v9), (0, .ref x0), (1, .int x1)]) C dX6_versionFor_49 (j := 4) rfl (by rw [ev23]; rfl) (by decide) rfl ?_
            refine g_goto (tgt := 4) C dX6_versionFor_52 (by decide) ?_
            refine g_locals [3, 4, 1, 0] rfl ?_
            exact ih x0 x1 x3 v23 S L hw hL he hx0 h
def wp_X6_versionFor (P : Int32 → HS → Prop) (x0 : Nat) (p0 : Int32) (S : HS) : Prop := ∃ k24 : Nat, wp_X6_versionFor_4  P k24 x0 p0 (-1) 0 S
set_option maxRecDepth 100000 in
set_option maxHeartbeats 4000000 in
theorem t_X6_versionFor {p : Program} {l : Launch} {e : Env} {s : State} {m : MethodId} {args : Array Value} {below : List Frame} {meth : Method} {c : Code} {D : va_G} {A : Nat → Prop} {T : Nat → ClassId} (C : GC p s m args meth c cX6_versionFor "FreightRater$State" (ws_X6_versionFor) 5 D A (zty T)) (E : GE T A s) (hr : meth.sig.returnType = (some .int)) (P : Int32 → HS → Prop) : ∀ (x0 : Nat) (p0 : Int32) (S0 S : HS) (L : List Nat), S0 = S → wt S → hL S L → (hK S x0 = 7) → wp_X6_versionFor P x0 p0 S → GW p l e { rm_X6_versionFor with cells := 0, slots := 0 } s m args below meth c D A 5 0 0 (MQ below (va_Qi (fun v (u : HS × List Nat) => P v u.1 ∧ CO S0 u) (CE D T A) A) args s 0 0 A) (CW T S L) 0 0 0 [(0, .ref x0), (1, .int p0)] [] := by
  have hW : ∀ {w : Cond}, w ∈ W0 → w.before args s = true := fun h => C.2.2.2.2.1 _ (List.mem_cons_of_mem _ h)
  intro x0 p0 S0 S L hS0 hw hL hx0 h
  have he : ext S0 S := by rw [hS0]; exact ext_rf
  unfold wp_X6_versionFor at h
  refine g_iconst (v := -1) C dX6_versionFor_0 (by decide) ?_
  refine g_istore_n (lv' := [(2, .int (-1)), (0, .ref x0), (1, .int p0)]) C dX6_versionFor_1 rfl (by decide) rfl ?_
  refine g_iconst (v := 0) C dX6_versionFor_2 (by decide) ?_
  refine g_istore_n (lv' := [(3, .int 0), (2, .int (-1)), (0, .ref x0), (1, .int p0)]) C dX6_versionFor_3 rfl (by decide) rfl ?_
  refine g_locals [2, 3, 1, 0] rfl ?_
  obtain ⟨k24, h⟩ := h
  refine t_X6_versionFor_4 C E hr S0  P  k24 x0 p0 (-1) 0 S L hw hL he hx0 h
theorem c_X6_versionFor (l : Launch) (D : va_G) (T : Nat → ClassId) (x0 : Nat) (p0 : Int32) (S : HS) (hx0 : hK S x0 = 7) (P : Int32 → HS → Prop) (h : wp_X6_versionFor P x0 p0 S) : CMi l yX6_versionFor (ws_X6_versionFor) rm_X6_versionFor D T [.ref x0, .int p0] S 0 0 P := gc_meti (by decide) rfl rfl (Nat.le_of_ble_eq_true rfl) (fun p e s m args below meth c A L C E hnm hr hw hL => t_X6_versionFor C E   hr P x0 p0 S S L rfl hw hL hx0 h)
theorem rl_vf {P : Int32 → HS → Prop} {S : HS} {M : Nat → Prop} {x n : Nat} {μ : Nat → Int32} {d : Int32} (hR : RelSt S M x μ) (en : μ 0 = nI n) (hn : n ≤ 6) : ∀ (k v fuel : Nat) (o : Int32), v + k = n → k < fuel → (o = -1 ∨ ∃ j, j < n ∧ o = nI j) → P (vFold μ d k v o) S → wp_X6_versionFor_4 P fuel x d o (nI v) S := by
  obtain ⟨e141, b, rb, kb, nb, hb⟩ := st_v hR en hn
  intro k
  induction k with
  | zero =>
    intro v fuel o hv hf ho hP
    obtain ⟨f, rfl⟩ : ∃ f, fuel = f + 1 := ⟨fuel - 1, by omega⟩; rw [wp_X6_versionFor_4]; unfold wb_X6_versionFor_4; dsimp only
    rw [e141, nI_leI (by omega) (by omega)]
    exact ⟨fun _ => hP, fun z9 => absurd (by omega) z9⟩
  | succ k ih =>
    intro v fuel o hv hf ho hP
    obtain ⟨y, hy, hV⟩ := hb v (by omega)
    have e200 : hI S 200 y = μ (274 + 510 * v) := hV.1.2.2.1
    rw [vFold] at hP
    obtain ⟨f, rfl⟩ : ∃ f, fuel = f + 1 := ⟨fuel - 1, by omega⟩; rw [wp_X6_versionFor_4]; unfold wb_X6_versionFor_4; dsimp only
    rw [e141, nI_leI (by omega) (by omega), nI_1]
    refine ⟨fun z9 => absurd z9 (by omega), fun _ => ⟨b, rb, fun _ => ?_⟩⟩
    rw [nb, nz_vp (by omega) (by decide), nI_clamp (n := v) (by omega), hy]
    refine ⟨by omega, fun o6 e6 _ => ⟨y, e6, fun _ v9 e9 => ?_⟩⟩
    rw [e200] at e9
    subst e9
    have keep : ¬ (μ (274 + 510 * v) ≤ d ∧ (o < 0 ∨ μ (274 + 510 * iv o) < μ (274 + 510 * v))) → ∀ w : Int32, w = nI (v + 1) → wp_X6_versionFor_4 P f x d o w S := fun hn9 w e => by
      subst e
      rw [if_neg hn9] at hP
      exact ih (v + 1) f o (by omega) (by omega) ho hP
    have take : (μ (274 + 510 * v) ≤ d ∧ (o < 0 ∨ μ (274 + 510 * iv o) < μ (274 + 510 * v))) → ∀ w : Int32, w = nI (v + 1) → wp_X6_versionFor_4 P f x d (nI v) w S := fun hn9 w e => by
      subst e
      rw [if_pos hn9] at hP
      exact ih (v + 1) f (nI v) (by omega) (by omega) (Or.inr ⟨v, by omega, rfl⟩) hP
    refine ⟨fun c9 => keep (fun w9 => absurd c9 (Int32.not_lt.mpr w9.1)), fun c9 => ⟨fun c8 => take ⟨Int32.not_lt.mp c9, Or.inl c8⟩, fun c8 => ⟨b, rb, fun _ => ?_⟩⟩⟩
    rcases ho with ho | ⟨j, hj, ho⟩
    · rw [ho] at c8; exact absurd (by decide) c8
    · subst ho
      obtain ⟨y2, hy2, hV2⟩ := hb j hj
      have e2002 : hI S 200 y2 = μ (274 + 510 * j) := hV2.1.2.2.1
      have ij : iv (nI j) = j := nI_clamp (by omega)
      rw [ij] at keep take
      rw [nb, nz_vp (by omega) (by decide), nI_clamp (n := j) (by omega), hy2]
      refine ⟨by omega, fun o18 e18 _ => ⟨y2, e18, fun _ => ?_⟩⟩
      rw [e2002]
      refine ⟨fun c7 => keep (fun w9 => ?_), fun c7 => take ⟨Int32.not_lt.mp c9, Or.inr (Int32.not_le.mp c7)⟩⟩
      rcases w9.2 with w8 | w8
      · exact c8 w8
      · exact absurd w8 (Int32.not_lt.mpr c7)
theorem k_X6_versionFor (l : Launch) (D : va_G) (T : Nat → ClassId) (x0 : Nat) (p0 : Int32) (S : HS) (e0 : (Nat → Prop)) (e1 : Nat → Int32) (hx0 : hK S x0 = 7) (h : WF e1 ∧ RelSt S e0 x0 e1) : CMi l yX6_versionFor (ws_X6_versionFor) rm_X6_versionFor D T [.ref x0, .int p0] S 0 0 (fun v S1 => v = (vOf e1 p0) ∧ S1 = S) := c_X6_versionFor l D T x0 p0 S hx0 _ <|
  (by
    obtain ⟨hw, hR⟩ := h
    obtain ⟨n, hn, en⟩ := hw.1
    have i0 : iv (e1 0) = n := by rw [en]; exact nI_clamp (by omega)
    unfold wp_X6_versionFor
    exact ⟨20, rl_vf hR en hn n 0 20 (-1) (by omega) (by omega) (Or.inl rfl) ⟨by unfold vOf; rw [i0], rfl⟩⟩)
abbrev ws_X6_postedSet : List Cond := Cond.code yX6_postedSet cX6_postedSet 3 (some .int) :: W0
abbrev rm_X6_postedSet : Room := ({ frames := 1, cells := 0, slots := 0, locals := 20 } : Room)
def wb_X6_postedSet_4 (rec : Nat → Int32 → Int32 → HS → Prop) (P : Int32 → HS → Prop) (x0 : Nat) (x1 : Int32) (x2 : Int32) (S : HS) : Prop := ((hI S 143 x0) ≤ x2 → (P x1 S)) ∧ (¬ (hI S 143 x0) ≤ x2 → (∃ b3 : Nat, hR S 142 x0 = some b3 ∧ (hK S b3 = 27 → (vp_in x2 (hN S b3) ∧ (∀ o6 : Option Nat, o6 = hB S b3 (Int32.toNatClampNeg x2) → (∀ b, o6 = some b → hK S b = 6) → (∃ b7 : Nat, o6 = some b7 ∧ (hK S b7 = 6 → (∃ (m9 : (Nat → Prop)) (m10 : Nat → Int32) (m11 : Nat), ((WF m10 ∧ m11 < 10 ∧ RelS S m9 b7 m10 m11) ∧ (((psF m10 m11) = 0 → (∀ v18 : Int32, v18 = x2 + 1 → (rec x0 x1 v18 S))) ∧ (¬ (psF m10 m11) = 0 → (∀ v19 : Int32, v19 = (x1 ||| ((1 : Int32) <<< (x2 &&& 31))) → (∀ v20 : Int32, v20 = x2 + 1 → (rec x0 v19 v20 S))))))))))))))
def wp_X6_postedSet_4 (P : Int32 → HS → Prop) : Nat → Nat → Int32 → Int32 → HS → Prop
  | 0 => fun _ _ _ _ => False
  | n + 1 => fun x0 x1 x2 S => wb_X6_postedSet_4 (wp_X6_postedSet_4  P n)  P x0 x1 x2 S
set_option maxRecDepth 100000 in
set_option maxHeartbeats 4000000 in
theorem t_X6_postedSet_4 {p : Program} {l : Launch} {e : Env} {s : State} {m : MethodId} {args : Array Value} {below : List Frame} {meth : Method} {c : Code} {D : va_G} {A : Nat → Prop} {T : Nat → ClassId} (C : GC p s m args meth c cX6_postedSet "FreightRater$State" (ws_X6_postedSet) 3 D A (zty T)) (E : GE T A s) (hr : meth.sig.returnType = (some .int)) (S0 : HS) (P : Int32 → HS → Prop) : ∀ (n : Nat) (x0 : Nat) (x1 : Int32) (x2 : Int32) (S : HS) (L : List Nat), wt S → hL S L → ext S0 S → (hK S x0 = 7) → wp_X6_postedSet_4  P n x0 x1 x2 S → GW p l e { rm_X6_postedSet with cells := 0, slots := 0 } s m args below meth c D A 3 0 0 (MQ below (va_Qi (fun v (u : HS × List Nat) => P v u.1 ∧ CO S0 u) (CE D T A) A) args s 0 0 A) (CW T S L) 0 0 4 [(0, .ref x0), (1, .int x1), (2, .int x2)] [] := by
  have hW : ∀ {w : Cond}, w ∈ W0 → w.before args s = true := fun h => C.2.2.2.2.1 _ (List.mem_cons_of_mem _ h)
  intro n
  induction n with
  | zero => intro x0 x1 x2 S L hw hL he hx0 h; exact h.elim
  | succ n ih =>
    intro x0 x1 x2 S L hw hL he hx0 h
    replace h : wb_X6_postedSet_4 (wp_X6_postedSet_4  P n)  P x0 x1 x2 S := h
    unfold wb_X6_postedSet_4 at h
    refine g_iload_n C dX6_postedSet_4 rfl 2 rfl ?_
    refine g_aload_n C dX6_postedSet_5 rfl 0 rfl ?_
    refine gc_getI C iwx_X6 hL hx0 (by decide) (by decide) rfl 3 (by decide) (hW kw_65) rfl rfl rfl dX6_postedSet_6 ?_
    refine g_icmp_ge (tgt := 36) C dX6_postedSet_9 (by decide) (fun z1 => ?_) (fun z1 => ?_)
    · replace h := h.1 z1
      refine g_iload_n C dX6_postedSet_36 rfl 1 rfl ?_
      exact gc_iret C hw hL he hr dX6_postedSet_37 h
    · replace h := h.2 z1
      refine g_aload_n C dX6_postedSet_12 rfl 0 rfl ?_
      refine gc_getR C hw iwx_X6 hL hx0 (by decide) (by decide) rfl 2 (by decide) (hW kw_62) rfl rfl rfl dX6_postedSet_13 (fun o2 eo2 ko2 => ?_)
      obtain ⟨b3, hb9, h⟩ := h
      have g4 : hK S b3 = 27 := ko2 b3 (eo2.trans hb9)
      replace h := h g4
      refine g_opt (eo2.trans hb9) ?_
      refine g_iload_n C dX6_postedSet_16 rfl 2 rfl ?_
      obtain ⟨g5, h⟩ := h
      refine gc_aald C hw hL g4 (by decide) rfl g5 dX6_postedSet_17 (fun o6 eo6 ko6 => ?_)
      replace h := h o6 eo6 ko6
      obtain ⟨b7, rfl, h⟩ := h
      have g8 : hK S b7 = 6 := ko6 b7 rfl
      replace h := h g8
      obtain ⟨m9, m10, m11, h⟩ := h
      obtain ⟨g12, h⟩ := h
      refine gc_calliV (host := "") C E hw hL g8 (by decide) (by decide) rfl [] rfl (k_X5_isPosted l D T b7 S m9 m10 m11 g8 g12) (w0_V 0 C.2.2.2.2.1 kw_1437 kw_1146 kw_1147 kw_35 kw_1148 rfl rfl (by decide +kernel) ⟨Nat.le_of_ble_eq_true rfl, Nat.le_of_ble_eq_true rfl⟩) rfl (Nat.le_of_ble_eq_true rfl) (Nat.le_refl _) (Nat.le_refl _) (Nat.zero_le _) (Nat.zero_le _) dX6_postedSet_18 (fun v9 S9 L13 he9 hw9 hL9 hp => ?_)
      obtain ⟨hv9, hs9⟩ := hp
      replace hs9 := hs9.symm
      subst hs9
      replace hv9 := hv9.symm
      subst hv9
      have w16 := hL9
      refine g_if_eq (tgt := 30) C dX6_postedSet_21 (by decide) (fun z17 => ?_) (fun z17 => ?_)
      · replace h := h.1 z17
        obtain ⟨v18, ev18⟩ : ∃ y : Int32, y = x2 + 1 := ⟨_, rfl⟩
        replace h := h v18 ev18
        refine g_iinc (v := v18) (lv' := [(2, .int v18), (0, .ref x0), (1, .int x1)]) C dX6_postedSet_30 (j := 2) rfl (by rw [ev18]; rfl) (by decide) rfl ?_
        refine g_goto (tgt := 4) C dX6_postedSet_33 (by decide) ?_
        refine g_locals [1, 2, 0] rfl ?_
        exact ih x0 x1 v18 S L13 hw w16 he hx0 h
      · replace h := h.2 z17
        refine g_iload_n C dX6_postedSet_24 rfl 1 rfl ?_
        refine g_iconst (v := 1) C dX6_postedSet_25 (by decide) ?_
        refine g_iload_n C dX6_postedSet_26 rfl 2 rfl ?_
        refine g_ishl C dX6_postedSet_27 ?_
        refine g_ior C dX6_postedSet_28 ?_
        refine g_topi (fun v19 ev19 => ?_)
        replace h := h v19 ev19
        refine g_istore_n (lv' := [(1, .int v19), (0, .ref x0), (2, .int x2)]) C dX6_postedSet_29 rfl (by decide) rfl ?_
        obtain ⟨v20, ev20⟩ : ∃ y : Int32, y = x2 + 1 := ⟨_, rfl⟩
        replace h := h v20 ev20
        refine g_iinc (v := v20) (lv' := [(2, .int v20), (1, .int v19), (0, .ref x0)]) C dX6_postedSet_30 (j := 2) rfl (by rw [ev20]; rfl) (by decide) rfl ?_
        refine g_goto (tgt := 4) C dX6_postedSet_33 (by decide) ?_
        refine g_locals [2, 1, 0] rfl ?_
        exact ih x0 v19 v20 S L13 hw w16 he hx0 h
def wp_X6_postedSet (P : Int32 → HS → Prop) (x0 : Nat) (S : HS) : Prop := ∃ k21 : Nat, wp_X6_postedSet_4  P k21 x0 0 0 S
set_option maxRecDepth 100000 in
set_option maxHeartbeats 4000000 in
theorem t_X6_postedSet {p : Program} {l : Launch} {e : Env} {s : State} {m : MethodId} {args : Array Value} {below : List Frame} {meth : Method} {c : Code} {D : va_G} {A : Nat → Prop} {T : Nat → ClassId} (C : GC p s m args meth c cX6_postedSet "FreightRater$State" (ws_X6_postedSet) 3 D A (zty T)) (E : GE T A s) (hr : meth.sig.returnType = (some .int)) (P : Int32 → HS → Prop) : ∀ (x0 : Nat) (S0 S : HS) (L : List Nat), S0 = S → wt S → hL S L → (hK S x0 = 7) → wp_X6_postedSet P x0 S → GW p l e { rm_X6_postedSet with cells := 0, slots := 0 } s m args below meth c D A 3 0 0 (MQ below (va_Qi (fun v (u : HS × List Nat) => P v u.1 ∧ CO S0 u) (CE D T A) A) args s 0 0 A) (CW T S L) 0 0 0 [(0, .ref x0)] [] := by
  have hW : ∀ {w : Cond}, w ∈ W0 → w.before args s = true := fun h => C.2.2.2.2.1 _ (List.mem_cons_of_mem _ h)
  intro x0 S0 S L hS0 hw hL hx0 h
  have he : ext S0 S := by rw [hS0]; exact ext_rf
  unfold wp_X6_postedSet at h
  refine g_iconst (v := 0) C dX6_postedSet_0 (by decide) ?_
  refine g_istore_n (lv' := [(1, .int 0), (0, .ref x0)]) C dX6_postedSet_1 rfl (by decide) rfl ?_
  refine g_iconst (v := 0) C dX6_postedSet_2 (by decide) ?_
  refine g_istore_n (lv' := [(2, .int 0), (1, .int 0), (0, .ref x0)]) C dX6_postedSet_3 rfl (by decide) rfl ?_
  refine g_locals [2, 1, 0] rfl ?_
  obtain ⟨k21, h⟩ := h
  refine t_X6_postedSet_4 C E hr S0  P  k21 x0 0 0 S L hw hL he hx0 h
theorem c_X6_postedSet (l : Launch) (D : va_G) (T : Nat → ClassId) (x0 : Nat) (S : HS) (hx0 : hK S x0 = 7) (P : Int32 → HS → Prop) (h : wp_X6_postedSet P x0 S) : CMi l yX6_postedSet (ws_X6_postedSet) rm_X6_postedSet D T [.ref x0] S 0 0 P := gc_meti (by decide) rfl rfl (Nat.le_of_ble_eq_true rfl) (fun p e s m args below meth c A L C E hnm hr hw hL => t_X6_postedSet C E   hr P x0 S S L rfl hw hL hx0 h)
theorem ps_i {μ : Nat → Int32} {s : Nat} : (psF μ s = 0 ↔ ¬ 0 ≤ μ (14 + 26 * s + 5)) := by
  unfold psF
  split
  · rename_i c; exact ⟨fun z9 => absurd z9 (by decide), fun z9 => absurd c z9⟩
  · rename_i c; exact ⟨fun _ => c, fun _ => rfl⟩
theorem rl_ps {P : Int32 → HS → Prop} {S : HS} {M : Nat → Prop} {x n : Nat} {μ : Nat → Int32} (hw : WF μ) (hR : RelSt S M x μ) (en : μ 1 = nI n) (hn : n ≤ 10) : ∀ (k s fuel : Nat) (o : Int32), s + k = n → k < fuel → P (posFold μ k s o) S → wp_X6_postedSet_4 P fuel x o (nI s) S := by
  obtain ⟨e143, b, rb, kb, nb, hb⟩ := st_s hR en hn
  intro k
  induction k with
  | zero =>
    intro s fuel o hs hf hP
    obtain ⟨f, rfl⟩ : ∃ f, fuel = f + 1 := ⟨fuel - 1, by omega⟩; rw [wp_X6_postedSet_4]; unfold wb_X6_postedSet_4; dsimp only
    rw [e143, nI_leI (by omega) (by omega)]
    exact ⟨fun _ => hP, fun z9 => absurd (by omega) z9⟩
  | succ k ih =>
    intro s fuel o hs hf hP
    obtain ⟨y, hy, hV⟩ := hb s (by omega)
    rw [posFold] at hP
    obtain ⟨f, rfl⟩ : ∃ f, fuel = f + 1 := ⟨fuel - 1, by omega⟩; rw [wp_X6_postedSet_4]; unfold wb_X6_postedSet_4; dsimp only
    rw [e143, nI_leI (by omega) (by omega), nI_1]
    refine ⟨fun z9 => absurd z9 (by omega), fun _ => ⟨b, rb, fun _ => ?_⟩⟩
    rw [nb, nz_vp (by omega) (by decide), nI_clamp (n := s) (by omega), hy]
    refine ⟨by omega, fun o6 e6 _ => ⟨y, e6, fun _ => ⟨M, μ, s, ⟨hw, by omega, hV⟩, ?_⟩⟩⟩
    rw [ps_i]
    refine ⟨fun c9 v18 e18 => ?_, fun c9 v19 e19 v20 e20 => ?_⟩
    · subst e18
      rw [if_neg c9, Int32.or_zero] at hP
      exact ih (s + 1) f o (by omega) (by omega) hP
    · subst e19 e20
      rw [if_pos (Decidable.byContradiction c9)] at hP
      exact ih (s + 1) f _ (by omega) (by omega) hP
theorem k_X6_postedSet (l : Launch) (D : va_G) (T : Nat → ClassId) (x0 : Nat) (S : HS) (e0 : (Nat → Prop)) (e1 : Nat → Int32) (hx0 : hK S x0 = 7) (h : WF e1 ∧ RelSt S e0 x0 e1) : CMi l yX6_postedSet (ws_X6_postedSet) rm_X6_postedSet D T [.ref x0] S 0 0 (fun v S1 => v = (posF e1) ∧ S1 = S) := c_X6_postedSet l D T x0 S hx0 _ <|
  (by
    obtain ⟨hw, hR⟩ := h
    obtain ⟨n, hn, en⟩ := hw.2.1
    have i0 : iv (e1 1) = n := by rw [en]; exact nI_clamp (by omega)
    unfold wp_X6_postedSet
    exact ⟨20, rl_ps hw hR en hn n 0 20 0 (by omega) (by omega) ⟨by unfold posF; rw [i0], rfl⟩⟩)
abbrev ws_X6_accountOf : List Cond := Cond.code yX6_accountOf cX6_accountOf 4 (some .int) :: W0
abbrev rm_X6_accountOf : Room := ({ frames := 1, cells := 0, slots := 0, locals := 20 } : Room)
def wb_X6_accountOf_4 (rec : Nat → Int32 → Int32 → Int32 → HS → Prop) (P : Int32 → HS → Prop) (x0 : Nat) (x1 : Int32) (x2 : Int32) (x3 : Int32) (S : HS) : Prop := ((hI S 143 x0) ≤ x3 → (P x2 S)) ∧ (¬ (hI S 143 x0) ≤ x3 → (∃ b3 : Nat, hR S 142 x0 = some b3 ∧ (hK S b3 = 27 → (vp_in x3 (hN S b3) ∧ (∀ o6 : Option Nat, o6 = hB S b3 (Int32.toNatClampNeg x3) → (∀ b, o6 = some b → hK S b = 6) → (∃ b7 : Nat, o6 = some b7 ∧ (hK S b7 = 6 → ((¬ (hI S 123 b7) = x1 → (∀ v10 : Int32, v10 = x3 + 1 → (rec x0 x1 x2 v10 S))) ∧ ((hI S 123 b7) = x1 → (∃ b12 : Nat, hR S 142 x0 = some b12 ∧ (hK S b12 = 27 → (vp_in x3 (hN S b12) ∧ (∀ o15 : Option Nat, o15 = hB S b12 (Int32.toNatClampNeg x3) → (∀ b, o15 = some b → hK S b = 6) → (∃ b16 : Nat, o15 = some b16 ∧ (hK S b16 = 6 → (∃ (m18 : (Nat → Prop)) (m19 : Nat → Int32) (m20 : Nat), ((WF m19 ∧ m20 < 10 ∧ RelS S m18 b16 m19 m20) ∧ (((psF m19 m20) = 0 → (∀ v27 : Int32, v27 = x3 + 1 → (rec x0 x1 x2 v27 S))) ∧ (¬ (psF m19 m20) = 0 → (∃ b29 : Nat, hR S 142 x0 = some b29 ∧ (hK S b29 = 27 → (vp_in x3 (hN S b29) ∧ (∀ o32 : Option Nat, o32 = hB S b29 (Int32.toNatClampNeg x3) → (∀ b, o32 = some b → hK S b = 6) → (∃ b33 : Nat, o32 = some b33 ∧ (hK S b33 = 6 → (∀ v35 : Int32, v35 = (x2 + (hI S 128 b33)) → (∀ v36 : Int32, v36 = x3 + 1 → (rec x0 x1 v35 v36 S))))))))))))))))))))))))))))
def wp_X6_accountOf_4 (P : Int32 → HS → Prop) : Nat → Nat → Int32 → Int32 → Int32 → HS → Prop
  | 0 => fun _ _ _ _ _ => False
  | n + 1 => fun x0 x1 x2 x3 S => wb_X6_accountOf_4 (wp_X6_accountOf_4  P n)  P x0 x1 x2 x3 S
set_option maxRecDepth 100000 in
set_option maxHeartbeats 4000000 in
theorem t_X6_accountOf_4 {p : Program} {l : Launch} {e : Env} {s : State} {m : MethodId} {args : Array Value} {below : List Frame} {meth : Method} {c : Code} {D : va_G} {A : Nat → Prop} {T : Nat → ClassId} (C : GC p s m args meth c cX6_accountOf "FreightRater$State" (ws_X6_accountOf) 4 D A (zty T)) (E : GE T A s) (hr : meth.sig.returnType = (some .int)) (S0 : HS) (P : Int32 → HS → Prop) : ∀ (n : Nat) (x0 : Nat) (x1 : Int32) (x2 : Int32) (x3 : Int32) (S : HS) (L : List Nat), wt S → hL S L → ext S0 S → (hK S x0 = 7) → wp_X6_accountOf_4  P n x0 x1 x2 x3 S → GW p l e { rm_X6_accountOf with cells := 0, slots := 0 } s m args below meth c D A 4 0 0 (MQ below (va_Qi (fun v (u : HS × List Nat) => P v u.1 ∧ CO S0 u) (CE D T A) A) args s 0 0 A) (CW T S L) 0 0 4 [(0, .ref x0), (1, .int x1), (2, .int x2), (3, .int x3)] [] := by
  have hW : ∀ {w : Cond}, w ∈ W0 → w.before args s = true := fun h => C.2.2.2.2.1 _ (List.mem_cons_of_mem _ h)
  intro n
  induction n with
  | zero => intro x0 x1 x2 x3 S L hw hL he hx0 h; exact h.elim
  | succ n ih =>
    intro x0 x1 x2 x3 S L hw hL he hx0 h
    replace h : wb_X6_accountOf_4 (wp_X6_accountOf_4  P n)  P x0 x1 x2 x3 S := h
    unfold wb_X6_accountOf_4 at h
    refine g_iload_n C dX6_accountOf_4 rfl 3 rfl ?_
    refine g_aload_n C dX6_accountOf_5 rfl 0 rfl ?_
    refine gc_getI C iwx_X6 hL hx0 (by decide) (by decide) rfl 3 (by decide) (hW kw_65) rfl rfl rfl dX6_accountOf_6 ?_
    refine g_icmp_ge (tgt := 55) C dX6_accountOf_9 (by decide) (fun z1 => ?_) (fun z1 => ?_)
    · replace h := h.1 z1
      refine g_iload_n C dX6_accountOf_55 rfl 2 rfl ?_
      exact gc_iret C hw hL he hr dX6_accountOf_56 h
    · replace h := h.2 z1
      refine g_aload_n C dX6_accountOf_12 rfl 0 rfl ?_
      refine gc_getR C hw iwx_X6 hL hx0 (by decide) (by decide) rfl 2 (by decide) (hW kw_62) rfl rfl rfl dX6_accountOf_13 (fun o2 eo2 ko2 => ?_)
      obtain ⟨b3, hb9, h⟩ := h
      have g4 : hK S b3 = 27 := ko2 b3 (eo2.trans hb9)
      replace h := h g4
      refine g_opt (eo2.trans hb9) ?_
      refine g_iload_n C dX6_accountOf_16 rfl 3 rfl ?_
      obtain ⟨g5, h⟩ := h
      refine gc_aald C hw hL g4 (by decide) rfl g5 dX6_accountOf_17 (fun o6 eo6 ko6 => ?_)
      replace h := h o6 eo6 ko6
      obtain ⟨b7, rfl, h⟩ := h
      have g8 : hK S b7 = 6 := ko6 b7 rfl
      replace h := h g8
      refine gc_getI C iwx_X5 hL g8 (by decide) (by decide) rfl 3 (by decide) (hW kw_1089) rfl rfl rfl dX6_accountOf_18 ?_
      refine g_iload_n C dX6_accountOf_21 rfl 1 rfl ?_
      refine g_icmp_ne (tgt := 49) C dX6_accountOf_22 (by decide) (fun z9 => ?_) (fun z9 => ?_)
      · replace h := h.1 z9
        obtain ⟨v10, ev10⟩ : ∃ y : Int32, y = x3 + 1 := ⟨_, rfl⟩
        replace h := h v10 ev10
        refine g_iinc (v := v10) (lv' := [(3, .int v10), (0, .ref x0), (1, .int x1), (2, .int x2)]) C dX6_accountOf_49 (j := 3) rfl (by rw [ev10]; rfl) (by decide) rfl ?_
        refine g_goto (tgt := 4) C dX6_accountOf_52 (by decide) ?_
        refine g_locals [1, 2, 3, 0] rfl ?_
        exact ih x0 x1 x2 v10 S L hw hL he hx0 h
      · replace h := h.2 z9
        refine g_aload_n C dX6_accountOf_25 rfl 0 rfl ?_
        refine gc_getR C hw iwx_X6 hL hx0 (by decide) (by decide) rfl 2 (by decide) (hW kw_62) rfl rfl rfl dX6_accountOf_26 (fun o11 eo11 ko11 => ?_)
        obtain ⟨b12, hb9, h⟩ := h
        have g13 : hK S b12 = 27 := ko11 b12 (eo11.trans hb9)
        replace h := h g13
        refine g_opt (eo11.trans hb9) ?_
        refine g_iload_n C dX6_accountOf_29 rfl 3 rfl ?_
        obtain ⟨g14, h⟩ := h
        refine gc_aald C hw hL g13 (by decide) rfl g14 dX6_accountOf_30 (fun o15 eo15 ko15 => ?_)
        replace h := h o15 eo15 ko15
        obtain ⟨b16, rfl, h⟩ := h
        have g17 : hK S b16 = 6 := ko15 b16 rfl
        replace h := h g17
        obtain ⟨m18, m19, m20, h⟩ := h
        obtain ⟨g21, h⟩ := h
        refine gc_calliV (host := "") C E hw hL g17 (by decide) (by decide) rfl [] rfl (k_X5_isPosted l D T b16 S m18 m19 m20 g17 g21) (w0_V 0 C.2.2.2.2.1 kw_1437 kw_1146 kw_1147 kw_35 kw_1148 rfl rfl (by decide +kernel) ⟨Nat.le_of_ble_eq_true rfl, Nat.le_of_ble_eq_true rfl⟩) rfl (Nat.le_of_ble_eq_true rfl) (Nat.le_refl _) (Nat.le_refl _) (Nat.zero_le _) (Nat.zero_le _) dX6_accountOf_31 (fun v9 S9 L22 he9 hw9 hL9 hp => ?_)
        obtain ⟨hv9, hs9⟩ := hp
        replace hs9 := hs9.symm
        subst hs9
        replace hv9 := hv9.symm
        subst hv9
        have w25 := hL9
        refine g_if_eq (tgt := 49) C dX6_accountOf_34 (by decide) (fun z26 => ?_) (fun z26 => ?_)
        · replace h := h.1 z26
          obtain ⟨v27, ev27⟩ : ∃ y : Int32, y = x3 + 1 := ⟨_, rfl⟩
          replace h := h v27 ev27
          refine g_iinc (v := v27) (lv' := [(3, .int v27), (0, .ref x0), (1, .int x1), (2, .int x2)]) C dX6_accountOf_49 (j := 3) rfl (by rw [ev27]; rfl) (by decide) rfl ?_
          refine g_goto (tgt := 4) C dX6_accountOf_52 (by decide) ?_
          refine g_locals [1, 2, 3, 0] rfl ?_
          exact ih x0 x1 x2 v27 S L22 hw w25 he hx0 h
        · replace h := h.2 z26
          refine g_iload_n C dX6_accountOf_37 rfl 2 rfl ?_
          refine g_aload_n C dX6_accountOf_38 rfl 0 rfl ?_
          refine gc_getR C hw iwx_X6 w25 hx0 (by decide) (by decide) rfl 2 (by decide) (hW kw_62) rfl rfl rfl dX6_accountOf_39 (fun o28 eo28 ko28 => ?_)
          obtain ⟨b29, hb9, h⟩ := h
          have g30 : hK S b29 = 27 := ko28 b29 (eo28.trans hb9)
          replace h := h g30
          refine g_opt (eo28.trans hb9) ?_
          refine g_iload_n C dX6_accountOf_42 rfl 3 rfl ?_
          obtain ⟨g31, h⟩ := h
          refine gc_aald C hw w25 g30 (by decide) rfl g31 dX6_accountOf_43 (fun o32 eo32 ko32 => ?_)
          replace h := h o32 eo32 ko32
          obtain ⟨b33, rfl, h⟩ := h
          have g34 : hK S b33 = 6 := ko32 b33 rfl
          replace h := h g34
          refine gc_getI C iwx_X5 w25 g34 (by decide) (by decide) rfl 8 (by decide) (hW kw_1102) rfl rfl rfl dX6_accountOf_44 ?_
          refine g_iadd C dX6_accountOf_47 ?_
          refine g_topi (fun v35 ev35 => ?_)
          replace h := h v35 ev35
          refine g_istore_n (lv' := [(2, .int v35), (0, .ref x0), (1, .int x1), (3, .int x3)]) C dX6_accountOf_48 rfl (by decide) rfl ?_
          obtain ⟨v36, ev36⟩ : ∃ y : Int32, y = x3 + 1 := ⟨_, rfl⟩
          replace h := h v36 ev36
          refine g_iinc (v := v36) (lv' := [(3, .int v36), (2, .int v35), (0, .ref x0), (1, .int x1)]) C dX6_accountOf_49 (j := 3) rfl (by rw [ev36]; rfl) (by decide) rfl ?_
          refine g_goto (tgt := 4) C dX6_accountOf_52 (by decide) ?_
          refine g_locals [2, 3, 1, 0] rfl ?_
          exact ih x0 x1 v35 v36 S L22 hw w25 he hx0 h
def wp_X6_accountOf (P : Int32 → HS → Prop) (x0 : Nat) (p0 : Int32) (S : HS) : Prop := ∃ k37 : Nat, wp_X6_accountOf_4  P k37 x0 p0 0 0 S
set_option maxRecDepth 100000 in
set_option maxHeartbeats 4000000 in
theorem t_X6_accountOf {p : Program} {l : Launch} {e : Env} {s : State} {m : MethodId} {args : Array Value} {below : List Frame} {meth : Method} {c : Code} {D : va_G} {A : Nat → Prop} {T : Nat → ClassId} (C : GC p s m args meth c cX6_accountOf "FreightRater$State" (ws_X6_accountOf) 4 D A (zty T)) (E : GE T A s) (hr : meth.sig.returnType = (some .int)) (P : Int32 → HS → Prop) : ∀ (x0 : Nat) (p0 : Int32) (S0 S : HS) (L : List Nat), S0 = S → wt S → hL S L → (hK S x0 = 7) → wp_X6_accountOf P x0 p0 S → GW p l e { rm_X6_accountOf with cells := 0, slots := 0 } s m args below meth c D A 4 0 0 (MQ below (va_Qi (fun v (u : HS × List Nat) => P v u.1 ∧ CO S0 u) (CE D T A) A) args s 0 0 A) (CW T S L) 0 0 0 [(0, .ref x0), (1, .int p0)] [] := by
  have hW : ∀ {w : Cond}, w ∈ W0 → w.before args s = true := fun h => C.2.2.2.2.1 _ (List.mem_cons_of_mem _ h)
  intro x0 p0 S0 S L hS0 hw hL hx0 h
  have he : ext S0 S := by rw [hS0]; exact ext_rf
  unfold wp_X6_accountOf at h
  refine g_iconst (v := 0) C dX6_accountOf_0 (by decide) ?_
  refine g_istore_n (lv' := [(2, .int 0), (0, .ref x0), (1, .int p0)]) C dX6_accountOf_1 rfl (by decide) rfl ?_
  refine g_iconst (v := 0) C dX6_accountOf_2 (by decide) ?_
  refine g_istore_n (lv' := [(3, .int 0), (2, .int 0), (0, .ref x0), (1, .int p0)]) C dX6_accountOf_3 rfl (by decide) rfl ?_
  refine g_locals [2, 3, 1, 0] rfl ?_
  obtain ⟨k37, h⟩ := h
  refine t_X6_accountOf_4 C E hr S0  P  k37 x0 p0 0 0 S L hw hL he hx0 h
theorem c_X6_accountOf (l : Launch) (D : va_G) (T : Nat → ClassId) (x0 : Nat) (p0 : Int32) (S : HS) (hx0 : hK S x0 = 7) (P : Int32 → HS → Prop) (h : wp_X6_accountOf P x0 p0 S) : CMi l yX6_accountOf (ws_X6_accountOf) rm_X6_accountOf D T [.ref x0, .int p0] S 0 0 P := gc_meti (by decide) rfl rfl (Nat.le_of_ble_eq_true rfl) (fun p e s m args below meth c A L C E hnm hr hw hL => t_X6_accountOf C E   hr P x0 p0 S S L rfl hw hL hx0 h)
theorem rl_ac {P : Int32 → HS → Prop} {S : HS} {M : Nat → Prop} {x n : Nat} {μ : Nat → Int32} {cu : Int32} (h4 : ¬ cu = 4) (hw : WF μ) (hR : RelSt S M x μ) (en : μ 1 = nI n) (hn : n ≤ 10) : ∀ (k s fuel : Nat) (o : Int32), s + k = n → k < fuel → P (accFold μ cu k s o) S → wp_X6_accountOf_4 P fuel x cu o (nI s) S := by
  obtain ⟨e143, b, rb, kb, nb, hb⟩ := st_s hR en hn
  intro k
  induction k with
  | zero =>
    intro s fuel o hs hf hP
    obtain ⟨f, rfl⟩ : ∃ f, fuel = f + 1 := ⟨fuel - 1, by omega⟩; rw [wp_X6_accountOf_4]; unfold wb_X6_accountOf_4; dsimp only
    rw [e143, nI_leI (by omega) (by omega)]
    exact ⟨fun _ => hP, fun z9 => absurd (by omega) z9⟩
  | succ k ih =>
    intro s fuel o hs hf hP
    obtain ⟨y, hy, hV⟩ := hb s (by omega)
    have e123 : hI S 123 y = μ (14 + 26 * s + 3) := hV.2.2.2.2.2.1
    have e128 : hI S 128 y = μ (14 + 26 * s + 5) := hV.2.2.2.2.2.2.2.2.2.1
    rw [accFold] at hP
    obtain ⟨f, rfl⟩ : ∃ f, fuel = f + 1 := ⟨fuel - 1, by omega⟩; rw [wp_X6_accountOf_4]; unfold wb_X6_accountOf_4; dsimp only
    have no : ¬ (0 ≤ μ (14 + 26 * s + 5) ∧ (cu = 4 ∨ μ (14 + 26 * s + 3) = cu)) → ∀ w : Int32, w = nI (s + 1) → wp_X6_accountOf_4 P f x cu o w S := fun hn9 w e => by
      subst e
      rw [if_neg hn9, Int32.add_zero] at hP
      exact ih (s + 1) f o (by omega) (by omega) hP
    rw [e143, nI_leI (by omega) (by omega), nI_1]
    refine ⟨fun z9 => absurd z9 (by omega), fun _ => ⟨b, rb, fun _ => ?_⟩⟩
    rw [nb, nz_vp (by omega) (by decide), nI_clamp (n := s) (by omega), hy]
    refine ⟨by omega, fun o6 e6 _ => ⟨y, e6, fun _ => ?_⟩⟩
    rw [e123]
    refine ⟨fun c9 => no (fun w9 => by rcases w9.2 with w8 | w8; exact h4 w8; exact c9 w8), fun c9 => ⟨b, rb, fun _ => ?_⟩⟩
    rw [nb, nz_vp (by omega) (by decide)]
    refine ⟨by omega, fun o15 e15 _ => ⟨y, e15.trans hy, fun _ => ⟨M, μ, s, ⟨hw, by omega, hV⟩, ?_⟩⟩⟩
    rw [ps_i]
    refine ⟨fun c8 => no (fun w9 => c8 w9.1), fun c8 => ⟨b, rb, fun _ => ?_⟩⟩
    rw [nb, nz_vp (by omega) (by decide)]
    refine ⟨by omega, fun o32 e32 _ => ⟨y, e32.trans hy, fun _ v35 e35 v36 e36 => ?_⟩⟩
    rw [e128] at e35
    subst e35 e36
    rw [if_pos ⟨Decidable.byContradiction c8, Or.inr c9⟩] at hP
    exact ih (s + 1) f _ (by omega) (by omega) hP
theorem k_X6_accountOf (l : Launch) (D : va_G) (T : Nat → ClassId) (x0 : Nat) (p0 : Int32) (S : HS) (e0 : (Nat → Prop)) (e1 : Nat → Int32) (hx0 : hK S x0 = 7) (h : WF e1 ∧ RelSt S e0 x0 e1 ∧ ¬ p0 = (4 : Int32)) : CMi l yX6_accountOf (ws_X6_accountOf) rm_X6_accountOf D T [.ref x0, .int p0] S 0 0 (fun v S1 => v = (accF e1 p0) ∧ S1 = S) := c_X6_accountOf l D T x0 p0 S hx0 _ <|
  (by
    obtain ⟨hw, hR, h4⟩ := h
    obtain ⟨n, hn, en⟩ := hw.2.1
    have i0 : iv (e1 1) = n := by rw [en]; exact nI_clamp (by omega)
    unfold wp_X6_accountOf
    exact ⟨20, rl_ac h4 hw hR en hn n 0 20 0 (by omega) (by omega) ⟨by unfold accF; rw [i0], rfl⟩⟩)
abbrev ws_X6_sumOfAccounts : List Cond := Cond.code yX6_sumOfAccounts cX6_sumOfAccounts 3 (some .int) :: W0
abbrev rm_X6_sumOfAccounts : Room := ({ frames := 2, cells := 0, slots := 0, locals := 43 } : Room)
def wb_X6_sumOfAccounts_4 (rec : Nat → Int32 → Int32 → HS → Prop) (P : Int32 → HS → Prop) (x0 : Nat) (x1 : Int32) (x2 : Int32) (S : HS) : Prop := (3 < x2 → (P x1 S)) ∧ (¬ 3 < x2 → (∃ (m2 : (Nat → Prop)) (m3 : Nat → Int32), ((WF m3 ∧ RelSt S m2 x0 m3 ∧ ¬ x2 = (4 : Int32)) ∧ (∀ v9 : Int32, v9 = (x1 + (accF m3 x2)) → (∀ v10 : Int32, v10 = x2 + 1 → (rec x0 v9 v10 S))))))
def wp_X6_sumOfAccounts_4 (P : Int32 → HS → Prop) : Nat → Nat → Int32 → Int32 → HS → Prop
  | 0 => fun _ _ _ _ => False
  | n + 1 => fun x0 x1 x2 S => wb_X6_sumOfAccounts_4 (wp_X6_sumOfAccounts_4  P n)  P x0 x1 x2 S
set_option maxRecDepth 100000 in
set_option maxHeartbeats 4000000 in
theorem t_X6_sumOfAccounts_4 {p : Program} {l : Launch} {e : Env} {s : State} {m : MethodId} {args : Array Value} {below : List Frame} {meth : Method} {c : Code} {D : va_G} {A : Nat → Prop} {T : Nat → ClassId} (C : GC p s m args meth c cX6_sumOfAccounts "FreightRater$State" (ws_X6_sumOfAccounts) 3 D A (zty T)) (E : GE T A s) (hr : meth.sig.returnType = (some .int)) (S0 : HS) (P : Int32 → HS → Prop) : ∀ (n : Nat) (x0 : Nat) (x1 : Int32) (x2 : Int32) (S : HS) (L : List Nat), wt S → hL S L → ext S0 S → (hK S x0 = 7) → wp_X6_sumOfAccounts_4  P n x0 x1 x2 S → GW p l e { rm_X6_sumOfAccounts with cells := 0, slots := 0 } s m args below meth c D A 3 0 0 (MQ below (va_Qi (fun v (u : HS × List Nat) => P v u.1 ∧ CO S0 u) (CE D T A) A) args s 0 0 A) (CW T S L) 0 0 4 [(0, .ref x0), (1, .int x1), (2, .int x2)] [] := by
  have hW : ∀ {w : Cond}, w ∈ W0 → w.before args s = true := fun h => C.2.2.2.2.1 _ (List.mem_cons_of_mem _ h)
  intro n
  induction n with
  | zero => intro x0 x1 x2 S L hw hL he hx0 h; exact h.elim
  | succ n ih =>
    intro x0 x1 x2 S L hw hL he hx0 h
    replace h : wb_X6_sumOfAccounts_4 (wp_X6_sumOfAccounts_4  P n)  P x0 x1 x2 S := h
    unfold wb_X6_sumOfAccounts_4 at h
    refine g_iload_n C dX6_sumOfAccounts_4 rfl 2 rfl ?_
    refine g_iconst (v := 3) C dX6_sumOfAccounts_5 (by decide) ?_
    refine g_icmp_gt (tgt := 23) C dX6_sumOfAccounts_6 (by decide) (fun z1 => ?_) (fun z1 => ?_)
    · replace h := h.1 z1
      refine g_iload_n C dX6_sumOfAccounts_23 rfl 1 rfl ?_
      exact gc_iret C hw hL he hr dX6_sumOfAccounts_24 h
    · replace h := h.2 z1
      refine g_iload_n C dX6_sumOfAccounts_9 rfl 1 rfl ?_
      refine g_aload_n C dX6_sumOfAccounts_10 rfl 0 rfl ?_
      refine g_iload_n C dX6_sumOfAccounts_11 rfl 2 rfl ?_
      obtain ⟨m2, m3, h⟩ := h
      obtain ⟨g4, h⟩ := h
      refine gc_calliV (host := "") C E hw hL hx0 (by decide) (by decide) rfl [.int x2] rfl (k_X6_accountOf l D T x0 x2 S m2 m3 hx0 g4) (w0_V 1 C.2.2.2.2.1 kw_1453 kw_1454 kw_1455 kw_2 kw_1456 rfl rfl (by decide +kernel) ⟨Nat.le_of_ble_eq_true rfl, Nat.le_of_ble_eq_true rfl⟩) rfl (Nat.le_of_ble_eq_true rfl) (Nat.le_refl _) (Nat.le_refl _) (Nat.zero_le _) (Nat.zero_le _) dX6_sumOfAccounts_12 (fun v9 S9 L5 he9 hw9 hL9 hp => ?_)
      obtain ⟨hv9, hs9⟩ := hp
      replace hs9 := hs9.symm
      subst hs9
      replace hv9 := hv9.symm
      subst hv9
      have w8 := hL9
      refine g_iadd C dX6_sumOfAccounts_15 ?_
      refine g_topi (fun v9 ev9 => ?_)
      replace h := h v9 ev9
      refine g_istore_n (lv' := [(1, .int v9), (0, .ref x0), (2, .int x2)]) C dX6_sumOfAccounts_16 rfl (by decide) rfl ?_
      obtain ⟨v10, ev10⟩ : ∃ y : Int32, y = x2 + 1 := ⟨_, rfl⟩
      replace h := h v10 ev10
      refine g_iinc (v := v10) (lv' := [(2, .int v10), (1, .int v9), (0, .ref x0)]) C dX6_sumOfAccounts_17 (j := 2) rfl (by rw [ev10]; rfl) (by decide) rfl ?_
      refine g_goto (tgt := 4) C dX6_sumOfAccounts_20 (by decide) ?_
      refine g_locals [2, 1, 0] rfl ?_
      exact ih x0 v9 v10 S L5 hw w8 he hx0 h
def wp_X6_sumOfAccounts (P : Int32 → HS → Prop) (x0 : Nat) (S : HS) : Prop := ∃ k11 : Nat, wp_X6_sumOfAccounts_4  P k11 x0 0 0 S
set_option maxRecDepth 100000 in
set_option maxHeartbeats 4000000 in
theorem t_X6_sumOfAccounts {p : Program} {l : Launch} {e : Env} {s : State} {m : MethodId} {args : Array Value} {below : List Frame} {meth : Method} {c : Code} {D : va_G} {A : Nat → Prop} {T : Nat → ClassId} (C : GC p s m args meth c cX6_sumOfAccounts "FreightRater$State" (ws_X6_sumOfAccounts) 3 D A (zty T)) (E : GE T A s) (hr : meth.sig.returnType = (some .int)) (P : Int32 → HS → Prop) : ∀ (x0 : Nat) (S0 S : HS) (L : List Nat), S0 = S → wt S → hL S L → (hK S x0 = 7) → wp_X6_sumOfAccounts P x0 S → GW p l e { rm_X6_sumOfAccounts with cells := 0, slots := 0 } s m args below meth c D A 3 0 0 (MQ below (va_Qi (fun v (u : HS × List Nat) => P v u.1 ∧ CO S0 u) (CE D T A) A) args s 0 0 A) (CW T S L) 0 0 0 [(0, .ref x0)] [] := by
  have hW : ∀ {w : Cond}, w ∈ W0 → w.before args s = true := fun h => C.2.2.2.2.1 _ (List.mem_cons_of_mem _ h)
  intro x0 S0 S L hS0 hw hL hx0 h
  have he : ext S0 S := by rw [hS0]; exact ext_rf
  unfold wp_X6_sumOfAccounts at h
  refine g_iconst (v := 0) C dX6_sumOfAccounts_0 (by decide) ?_
  refine g_istore_n (lv' := [(1, .int 0), (0, .ref x0)]) C dX6_sumOfAccounts_1 rfl (by decide) rfl ?_
  refine g_iconst (v := 0) C dX6_sumOfAccounts_2 (by decide) ?_
  refine g_istore_n (lv' := [(2, .int 0), (1, .int 0), (0, .ref x0)]) C dX6_sumOfAccounts_3 rfl (by decide) rfl ?_
  refine g_locals [2, 1, 0] rfl ?_
  obtain ⟨k11, h⟩ := h
  refine t_X6_sumOfAccounts_4 C E hr S0  P  k11 x0 0 0 S L hw hL he hx0 h
theorem c_X6_sumOfAccounts (l : Launch) (D : va_G) (T : Nat → ClassId) (x0 : Nat) (S : HS) (hx0 : hK S x0 = 7) (P : Int32 → HS → Prop) (h : wp_X6_sumOfAccounts P x0 S) : CMi l yX6_sumOfAccounts (ws_X6_sumOfAccounts) rm_X6_sumOfAccounts D T [.ref x0] S 0 0 P := gc_meti (by decide) rfl rfl (Nat.le_of_ble_eq_true rfl) (fun p e s m args below meth c A L C E hnm hr hw hL => t_X6_sumOfAccounts C E   hr P x0 S S L rfl hw hL hx0 h)
theorem acc_add {μ : Nat → Int32} {c : Int32} : ∀ k s n, accFold μ c k s n = n + accFold μ c k s 0 := by
  intro k
  induction k with
  | zero => intro s n; rw [accFold, accFold, Int32.add_zero]
  | succ k ih => intro s n; rw [accFold, accFold, ih, ih _ (0 + _), Int32.zero_add, Int32.add_assoc]
theorem acc_sum {μ : Nat → Int32} (hw : WF μ) : ∀ k s, s + k ≤ 10 → accFold μ 0 k s 0 + accFold μ 1 k s 0 + accFold μ 2 k s 0 + accFold μ 3 k s 0 = accFold μ 4 k s 0 := by
  intro k
  induction k with
  | zero => intro s _; rfl
  | succ k ih =>
    intro s hs
    have e := ih (s + 1) (by omega)
    rw [accFold, accFold, accFold, accFold, accFold, acc_add k (s + 1) (0 + _), acc_add k (s + 1) (0 + _), acc_add k (s + 1) (0 + _), acc_add k (s + 1) (0 + _), acc_add k (s + 1) (0 + _), ← e, Int32.zero_add, Int32.zero_add, Int32.zero_add, Int32.zero_add, Int32.zero_add]
    generalize accFold μ 0 k (s + 1) 0 = A0
    generalize accFold μ 1 k (s + 1) 0 = A1
    generalize accFold μ 2 k (s + 1) 0 = A2
    generalize accFold μ 3 k (s + 1) 0 = A3
    obtain ⟨m, hm, em⟩ := (hw.s (show s < 10 by omega)).2.1
    by_cases c : 0 ≤ μ (14 + 26 * s + 5)
    · rw [em]
      rcases (by omega : m = 0 ∨ m = 1 ∨ m = 2 ∨ m = 3) with z | z | z | z
      · subst z
        rw [if_pos ⟨c, Or.inr rfl⟩, if_neg (fun w9 => absurd w9.2 (by decide)), if_neg (fun w9 => absurd w9.2 (by decide)), if_neg (fun w9 => absurd w9.2 (by decide)), if_pos ⟨c, Or.inl rfl⟩, Int32.zero_add, Int32.zero_add, Int32.zero_add]
        ac_rfl
      · subst z
        rw [if_neg (fun w9 => absurd w9.2 (by decide)), if_pos ⟨c, Or.inr rfl⟩, if_neg (fun w9 => absurd w9.2 (by decide)), if_neg (fun w9 => absurd w9.2 (by decide)), if_pos ⟨c, Or.inl rfl⟩, Int32.zero_add, Int32.zero_add, Int32.zero_add]
        ac_rfl
      · subst z
        rw [if_neg (fun w9 => absurd w9.2 (by decide)), if_neg (fun w9 => absurd w9.2 (by decide)), if_pos ⟨c, Or.inr rfl⟩, if_neg (fun w9 => absurd w9.2 (by decide)), if_pos ⟨c, Or.inl rfl⟩, Int32.zero_add, Int32.zero_add, Int32.zero_add]
        ac_rfl
      · subst z
        rw [if_neg (fun w9 => absurd w9.2 (by decide)), if_neg (fun w9 => absurd w9.2 (by decide)), if_neg (fun w9 => absurd w9.2 (by decide)), if_pos ⟨c, Or.inr rfl⟩, if_pos ⟨c, Or.inl rfl⟩, Int32.zero_add, Int32.zero_add, Int32.zero_add]
        ac_rfl
    · rw [if_neg (fun w9 => c w9.1), if_neg (fun w9 => c w9.1), if_neg (fun w9 => c w9.1), if_neg (fun w9 => c w9.1), if_neg (fun w9 => c w9.1)]
      simp only [Int32.zero_add]
theorem k_X6_sumOfAccounts (l : Launch) (D : va_G) (T : Nat → ClassId) (x0 : Nat) (S : HS) (e0 : (Nat → Prop)) (e1 : Nat → Int32) (hx0 : hK S x0 = 7) (h : WF e1 ∧ RelSt S e0 x0 e1) : CMi l yX6_sumOfAccounts (ws_X6_sumOfAccounts) rm_X6_sumOfAccounts D T [.ref x0] S 0 0 (fun v S1 => v = (accF e1 4) ∧ S1 = S) := c_X6_sumOfAccounts l D T x0 S hx0 _ <|
  (by
    obtain ⟨hw, hR⟩ := h
    obtain ⟨n, hn, en⟩ := hw.2.1
    have i0 : iv (e1 1) = n := by rw [en]; exact nI_clamp (by omega)
    unfold wp_X6_sumOfAccounts
    refine ⟨5, ?_⟩
    rw [wp_X6_sumOfAccounts_4]; unfold wb_X6_sumOfAccounts_4; dsimp only
    refine ⟨fun z9 => absurd z9 (by decide), fun _ => ⟨e0, e1, ⟨hw, hR, by decide⟩, fun v9 e9 v10 e10 => ?_⟩⟩
    rw [show v10 = 1 by rw [e10]; rfl, wp_X6_sumOfAccounts_4]; unfold wb_X6_sumOfAccounts_4; dsimp only
    refine ⟨fun z9 => absurd z9 (by decide), fun _ => ⟨e0, e1, ⟨hw, hR, by decide⟩, fun v11 e11 v12 e12 => ?_⟩⟩
    rw [show v12 = 2 by rw [e12]; rfl, wp_X6_sumOfAccounts_4]; unfold wb_X6_sumOfAccounts_4; dsimp only
    refine ⟨fun z9 => absurd z9 (by decide), fun _ => ⟨e0, e1, ⟨hw, hR, by decide⟩, fun v13 e13 v14 e14 => ?_⟩⟩
    rw [show v14 = 3 by rw [e14]; rfl, wp_X6_sumOfAccounts_4]; unfold wb_X6_sumOfAccounts_4; dsimp only
    refine ⟨fun z9 => absurd z9 (by decide), fun _ => ⟨e0, e1, ⟨hw, hR, by decide⟩, fun v15 e15 v16 e16 => ?_⟩⟩
    rw [show v16 = 4 by rw [e16]; rfl, wp_X6_sumOfAccounts_4]; unfold wb_X6_sumOfAccounts_4; dsimp only
    refine ⟨fun _ => ⟨?_, rfl⟩, fun z9 => absurd (by decide) z9⟩
    rw [e15, e13, e11, e9, Int32.zero_add]
    unfold accF
    rw [i0]
    exact acc_sum hw n 0 (by omega))
abbrev ws_X6_findStep : List Cond := Cond.code yX6_findStep cX6_findStep 3 (some .int) :: W0
abbrev rm_X6_findStep : Room := ({ frames := 0, cells := 0, slots := 0, locals := 0 } : Room)
def wb_X6_findStep_2 (rec : Nat → Int32 → Int32 → HS → Prop) (P : Int32 → HS → Prop) (x0 : Nat) (x1 : Int32) (x2 : Int32) (S : HS) : Prop := ((hI S 146 x0) ≤ x2 → (P (-1) S)) ∧ (¬ (hI S 146 x0) ≤ x2 → (∃ b3 : Nat, hR S 144 x0 = some b3 ∧ (hK S b3 = 22 → (vp_in x2 (hN S b3) ∧ ((¬ (hA S b3 (Int32.toNatClampNeg x2)) = x1 → (∀ v7 : Int32, v7 = x2 + 1 → (rec x0 x1 v7 S))) ∧ ((hA S b3 (Int32.toNatClampNeg x2)) = x1 → (P x2 S)))))))
def wp_X6_findStep_2 (P : Int32 → HS → Prop) : Nat → Nat → Int32 → Int32 → HS → Prop
  | 0 => fun _ _ _ _ => False
  | n + 1 => fun x0 x1 x2 S => wb_X6_findStep_2 (wp_X6_findStep_2  P n)  P x0 x1 x2 S
set_option maxRecDepth 100000 in
set_option maxHeartbeats 4000000 in
theorem t_X6_findStep_2 {p : Program} {l : Launch} {e : Env} {s : State} {m : MethodId} {args : Array Value} {below : List Frame} {meth : Method} {c : Code} {D : va_G} {A : Nat → Prop} {T : Nat → ClassId} (C : GC p s m args meth c cX6_findStep "FreightRater$State" (ws_X6_findStep) 3 D A (zty T)) (E : GE T A s) (hr : meth.sig.returnType = (some .int)) (S0 : HS) (P : Int32 → HS → Prop) : ∀ (n : Nat) (x0 : Nat) (x1 : Int32) (x2 : Int32) (S : HS) (L : List Nat), wt S → hL S L → ext S0 S → (hK S x0 = 7) → wp_X6_findStep_2  P n x0 x1 x2 S → GW p l e { rm_X6_findStep with cells := 0, slots := 0 } s m args below meth c D A 3 0 0 (MQ below (va_Qi (fun v (u : HS × List Nat) => P v u.1 ∧ CO S0 u) (CE D T A) A) args s 0 0 A) (CW T S L) 0 0 2 [(0, .ref x0), (1, .int x1), (2, .int x2)] [] := by
  have hW : ∀ {w : Cond}, w ∈ W0 → w.before args s = true := fun h => C.2.2.2.2.1 _ (List.mem_cons_of_mem _ h)
  intro n
  induction n with
  | zero => intro x0 x1 x2 S L hw hL he hx0 h; exact h.elim
  | succ n ih =>
    intro x0 x1 x2 S L hw hL he hx0 h
    replace h : wb_X6_findStep_2 (wp_X6_findStep_2  P n)  P x0 x1 x2 S := h
    unfold wb_X6_findStep_2 at h
    refine g_iload_n C dX6_findStep_2 rfl 2 rfl ?_
    refine g_aload_n C dX6_findStep_3 rfl 0 rfl ?_
    refine gc_getI C iwx_X6 hL hx0 (by decide) (by decide) rfl 6 (by decide) (hW kw_70) rfl rfl rfl dX6_findStep_4 ?_
    refine g_icmp_ge (tgt := 28) C dX6_findStep_7 (by decide) (fun z1 => ?_) (fun z1 => ?_)
    · replace h := h.1 z1
      refine g_iconst (v := -1) C dX6_findStep_28 (by decide) ?_
      exact gc_iret C hw hL he hr dX6_findStep_29 h
    · replace h := h.2 z1
      refine g_aload_n C dX6_findStep_10 rfl 0 rfl ?_
      refine gc_getR C hw iwx_X6 hL hx0 (by decide) (by decide) rfl 4 (by decide) (hW kw_68) rfl rfl rfl dX6_findStep_11 (fun o2 eo2 ko2 => ?_)
      obtain ⟨b3, hb9, h⟩ := h
      have g4 : hK S b3 = 22 := ko2 b3 (eo2.trans hb9)
      replace h := h g4
      refine g_opt (eo2.trans hb9) ?_
      refine g_iload_n C dX6_findStep_14 rfl 2 rfl ?_
      obtain ⟨g5, h⟩ := h
      refine gc_iald C hL g4 g5 dX6_findStep_15 ?_
      refine g_iload_n C dX6_findStep_16 rfl 1 rfl ?_
      refine g_icmp_ne (tgt := 22) C dX6_findStep_17 (by decide) (fun z6 => ?_) (fun z6 => ?_)
      · replace h := h.1 z6
        obtain ⟨v7, ev7⟩ : ∃ y : Int32, y = x2 + 1 := ⟨_, rfl⟩
        replace h := h v7 ev7
        refine g_iinc (v := v7) (lv' := [(2, .int v7), (0, .ref x0), (1, .int x1)]) C dX6_findStep_22 (j := 2) rfl (by rw [ev7]; rfl) (by decide) rfl ?_
        refine g_goto (tgt := 2) C dX6_findStep_25 (by decide) ?_
        refine g_locals [1, 2, 0] rfl ?_
        exact ih x0 x1 v7 S L hw hL he hx0 h
      · replace h := h.2 z6
        refine g_iload_n C dX6_findStep_20 rfl 2 rfl ?_
        exact gc_iret C hw hL he hr dX6_findStep_21 h
def wp_X6_findStep (P : Int32 → HS → Prop) (x0 : Nat) (p0 : Int32) (S : HS) : Prop := ∃ k8 : Nat, wp_X6_findStep_2  P k8 x0 p0 0 S
set_option maxRecDepth 100000 in
set_option maxHeartbeats 4000000 in
theorem t_X6_findStep {p : Program} {l : Launch} {e : Env} {s : State} {m : MethodId} {args : Array Value} {below : List Frame} {meth : Method} {c : Code} {D : va_G} {A : Nat → Prop} {T : Nat → ClassId} (C : GC p s m args meth c cX6_findStep "FreightRater$State" (ws_X6_findStep) 3 D A (zty T)) (E : GE T A s) (hr : meth.sig.returnType = (some .int)) (P : Int32 → HS → Prop) : ∀ (x0 : Nat) (p0 : Int32) (S0 S : HS) (L : List Nat), S0 = S → wt S → hL S L → (hK S x0 = 7) → wp_X6_findStep P x0 p0 S → GW p l e { rm_X6_findStep with cells := 0, slots := 0 } s m args below meth c D A 3 0 0 (MQ below (va_Qi (fun v (u : HS × List Nat) => P v u.1 ∧ CO S0 u) (CE D T A) A) args s 0 0 A) (CW T S L) 0 0 0 [(0, .ref x0), (1, .int p0)] [] := by
  have hW : ∀ {w : Cond}, w ∈ W0 → w.before args s = true := fun h => C.2.2.2.2.1 _ (List.mem_cons_of_mem _ h)
  intro x0 p0 S0 S L hS0 hw hL hx0 h
  have he : ext S0 S := by rw [hS0]; exact ext_rf
  unfold wp_X6_findStep at h
  refine g_iconst (v := 0) C dX6_findStep_0 (by decide) ?_
  refine g_istore_n (lv' := [(2, .int 0), (0, .ref x0), (1, .int p0)]) C dX6_findStep_1 rfl (by decide) rfl ?_
  refine g_locals [1, 2, 0] rfl ?_
  obtain ⟨k8, h⟩ := h
  refine t_X6_findStep_2 C E hr S0  P  k8 x0 p0 0 S L hw hL he hx0 h
theorem c_X6_findStep (l : Launch) (D : va_G) (T : Nat → ClassId) (x0 : Nat) (p0 : Int32) (S : HS) (hx0 : hK S x0 = 7) (P : Int32 → HS → Prop) (h : wp_X6_findStep P x0 p0 S) : CMi l yX6_findStep (ws_X6_findStep) rm_X6_findStep D T [.ref x0, .int p0] S 0 0 P := gc_meti (by decide) rfl rfl (Nat.le_of_ble_eq_true rfl) (fun p e s m args below meth c A L C E hnm hr hw hL => t_X6_findStep C E   hr P x0 p0 S S L rfl hw hL hx0 h)
theorem rl_fs {P : Int32 → HS → Prop} {S : HS} {M : Nat → Prop} {x n : Nat} {μ : Nat → Int32} {d : Int32} (hR : RelSt S M x μ) (en : μ 2 = nI n) (hn : n ≤ 5) : ∀ (k i fuel : Nat), i + k = n → k < fuel → P (if stxF μ d k i < n then nI (stxF μ d k i) else -1) S → wp_X6_findStep_2 P fuel x d (nI i) S := by
  obtain ⟨e146, t, p, rt, rp, kt, kp, nt, np, hh⟩ := st_t hR en hn
  intro k
  induction k with
  | zero =>
    intro i fuel hi hf hP
    rw [stxF, if_neg (by omega)] at hP
    obtain ⟨f, rfl⟩ : ∃ f, fuel = f + 1 := ⟨fuel - 1, by omega⟩; rw [wp_X6_findStep_2]; unfold wb_X6_findStep_2; dsimp only
    rw [e146, nI_leI (by omega) (by omega)]
    exact ⟨fun _ => hP, fun z9 => absurd (by omega) z9⟩
  | succ k ih =>
    intro i fuel hi hf hP
    obtain ⟨g1, g2⟩ := hh i (by omega)
    rw [stxF] at hP
    obtain ⟨f, rfl⟩ : ∃ f, fuel = f + 1 := ⟨fuel - 1, by omega⟩; rw [wp_X6_findStep_2]; unfold wb_X6_findStep_2; dsimp only
    rw [e146, nI_leI (by omega) (by omega), nI_1]
    refine ⟨fun z9 => absurd z9 (by omega), fun _ => ⟨t, rt, fun _ => ?_⟩⟩
    rw [nt, nz_vp (by omega) (by decide), nI_clamp (n := i) (by omega), g1]
    refine ⟨by omega, fun c9 v7 e7 => ?_, fun c9 => ?_⟩
    · subst e7
      rw [if_neg c9] at hP
      exact ih (i + 1) f (by omega) (by omega) hP
    · rw [if_pos c9, if_pos (by omega)] at hP
      exact hP
theorem k_X6_findStep (l : Launch) (D : va_G) (T : Nat → ClassId) (x0 : Nat) (p0 : Int32) (S : HS) (e0 : (Nat → Prop)) (e1 : Nat → Int32) (hx0 : hK S x0 = 7) (h : WF e1 ∧ RelSt S e0 x0 e1) : CMi l yX6_findStep (ws_X6_findStep) rm_X6_findStep D T [.ref x0, .int p0] S 0 0 (fun v S1 => v = ((if stx e1 p0 < iv (e1 2) then nI (stx e1 p0) else -1)) ∧ S1 = S) := c_X6_findStep l D T x0 p0 S hx0 _ <|
  (by
    obtain ⟨hw, hR⟩ := h
    obtain ⟨n, hn, en⟩ := hw.2.2.1
    have i0 : iv (e1 2) = n := by rw [en]; exact nI_clamp (by omega)
    unfold wp_X6_findStep
    exact ⟨20, rl_fs hR en hn n 0 20 (by omega) (by omega) ⟨by unfold stx; rw [i0], rfl⟩⟩)
abbrev ws_X6_rebatePercentage : List Cond := Cond.code yX6_rebatePercentage cX6_rebatePercentage 4 (some .int) :: W0
abbrev rm_X6_rebatePercentage : Room := ({ frames := 0, cells := 0, slots := 0, locals := 0 } : Room)
def wb_X6_rebatePercentage_4 (rec : Nat → Int32 → Int32 → Int32 → HS → Prop) (P : Int32 → HS → Prop) (x0 : Nat) (x1 : Int32) (x2 : Int32) (x3 : Int32) (S : HS) : Prop := ((hI S 146 x0) ≤ x3 → ((0 ≤ x2 → (∃ b4 : Nat, hR S 145 x0 = some b4 ∧ (hK S b4 = 22 → (vp_in x2 (hN S b4) ∧ (P (hA S b4 (Int32.toNatClampNeg x2)) S))))) ∧ (¬ 0 ≤ x2 → (P 0 S)))) ∧ (¬ (hI S 146 x0) ≤ x3 → (∃ b8 : Nat, hR S 144 x0 = some b8 ∧ (hK S b8 = 22 → (vp_in x3 (hN S b8) ∧ ((x1 < (hA S b8 (Int32.toNatClampNeg x3)) → (∀ v12 : Int32, v12 = x3 + 1 → (rec x0 x1 x2 v12 S))) ∧ (¬ x1 < (hA S b8 (Int32.toNatClampNeg x3)) → ((x2 < 0 → (∀ v14 : Int32, v14 = x3 + 1 → (rec x0 x1 x3 v14 S))) ∧ (¬ x2 < 0 → (∃ b16 : Nat, hR S 144 x0 = some b16 ∧ (hK S b16 = 22 → (vp_in x3 (hN S b16) ∧ (∃ b20 : Nat, hR S 144 x0 = some b20 ∧ (hK S b20 = 22 → (vp_in x2 (hN S b20) ∧ (((hA S b16 (Int32.toNatClampNeg x3)) ≤ (hA S b20 (Int32.toNatClampNeg x2)) → (∀ v24 : Int32, v24 = x3 + 1 → (rec x0 x1 x2 v24 S))) ∧ (¬ (hA S b16 (Int32.toNatClampNeg x3)) ≤ (hA S b20 (Int32.toNatClampNeg x2)) → (∀ v25 : Int32, v25 = x3 + 1 → (rec x0 x1 x3 v25 S))))))))))))))))))
def wp_X6_rebatePercentage_4 (P : Int32 → HS → Prop) : Nat → Nat → Int32 → Int32 → Int32 → HS → Prop
  | 0 => fun _ _ _ _ _ => False
  | n + 1 => fun x0 x1 x2 x3 S => wb_X6_rebatePercentage_4 (wp_X6_rebatePercentage_4  P n)  P x0 x1 x2 x3 S
set_option maxRecDepth 100000 in
set_option maxHeartbeats 4000000 in
theorem t_X6_rebatePercentage_4 {p : Program} {l : Launch} {e : Env} {s : State} {m : MethodId} {args : Array Value} {below : List Frame} {meth : Method} {c : Code} {D : va_G} {A : Nat → Prop} {T : Nat → ClassId} (C : GC p s m args meth c cX6_rebatePercentage "FreightRater$State" (ws_X6_rebatePercentage) 4 D A (zty T)) (E : GE T A s) (hr : meth.sig.returnType = (some .int)) (S0 : HS) (P : Int32 → HS → Prop) : ∀ (n : Nat) (x0 : Nat) (x1 : Int32) (x2 : Int32) (x3 : Int32) (S : HS) (L : List Nat), wt S → hL S L → ext S0 S → (hK S x0 = 7) → wp_X6_rebatePercentage_4  P n x0 x1 x2 x3 S → GW p l e { rm_X6_rebatePercentage with cells := 0, slots := 0 } s m args below meth c D A 4 0 0 (MQ below (va_Qi (fun v (u : HS × List Nat) => P v u.1 ∧ CO S0 u) (CE D T A) A) args s 0 0 A) (CW T S L) 0 0 4 [(0, .ref x0), (1, .int x1), (2, .int x2), (3, .int x3)] [] := by
  have hW : ∀ {w : Cond}, w ∈ W0 → w.before args s = true := fun h => C.2.2.2.2.1 _ (List.mem_cons_of_mem _ h)
  intro n
  induction n with
  | zero => intro x0 x1 x2 x3 S L hw hL he hx0 h; exact h.elim
  | succ n ih =>
    intro x0 x1 x2 x3 S L hw hL he hx0 h
    replace h : wb_X6_rebatePercentage_4 (wp_X6_rebatePercentage_4  P n)  P x0 x1 x2 x3 S := h
    unfold wb_X6_rebatePercentage_4 at h
    refine g_iload_n C dX6_rebatePercentage_4 rfl 3 rfl ?_
    refine g_aload_n C dX6_rebatePercentage_5 rfl 0 rfl ?_
    refine gc_getI C iwx_X6 hL hx0 (by decide) (by decide) rfl 6 (by decide) (hW kw_70) rfl rfl rfl dX6_rebatePercentage_6 ?_
    refine g_icmp_ge (tgt := 49) C dX6_rebatePercentage_9 (by decide) (fun z1 => ?_) (fun z1 => ?_)
    · replace h := h.1 z1
      refine g_iload_n C dX6_rebatePercentage_49 rfl 2 rfl ?_
      refine g_if_ge (tgt := 57) C dX6_rebatePercentage_50 (by decide) (fun z2 => ?_) (fun z2 => ?_)
      · replace h := h.1 z2
        refine g_aload_n C dX6_rebatePercentage_57 rfl 0 rfl ?_
        refine gc_getR C hw iwx_X6 hL hx0 (by decide) (by decide) rfl 5 (by decide) (hW kw_69) rfl rfl rfl dX6_rebatePercentage_58 (fun o3 eo3 ko3 => ?_)
        obtain ⟨b4, hb9, h⟩ := h
        have g5 : hK S b4 = 22 := ko3 b4 (eo3.trans hb9)
        replace h := h g5
        refine g_opt (eo3.trans hb9) ?_
        refine g_iload_n C dX6_rebatePercentage_61 rfl 2 rfl ?_
        obtain ⟨g6, h⟩ := h
        refine gc_iald C hL g5 g6 dX6_rebatePercentage_62 ?_
        exact gc_iret C hw hL he hr dX6_rebatePercentage_63 h
      · replace h := h.2 z2
        refine g_iconst (v := 0) C dX6_rebatePercentage_53 (by decide) ?_
        refine g_goto (tgt := 63) C dX6_rebatePercentage_54 (by decide) ?_
        exact gc_iret C hw hL he hr dX6_rebatePercentage_63 h
    · replace h := h.2 z1
      refine g_aload_n C dX6_rebatePercentage_12 rfl 0 rfl ?_
      refine gc_getR C hw iwx_X6 hL hx0 (by decide) (by decide) rfl 4 (by decide) (hW kw_68) rfl rfl rfl dX6_rebatePercentage_13 (fun o7 eo7 ko7 => ?_)
      obtain ⟨b8, hb9, h⟩ := h
      have g9 : hK S b8 = 22 := ko7 b8 (eo7.trans hb9)
      replace h := h g9
      refine g_opt (eo7.trans hb9) ?_
      refine g_iload_n C dX6_rebatePercentage_16 rfl 3 rfl ?_
      obtain ⟨g10, h⟩ := h
      refine gc_iald C hL g9 g10 dX6_rebatePercentage_17 ?_
      refine g_iload_n C dX6_rebatePercentage_18 rfl 1 rfl ?_
      refine g_icmp_gt (tgt := 43) C dX6_rebatePercentage_19 (by decide) (fun z11 => ?_) (fun z11 => ?_)
      · replace h := h.1 z11
        obtain ⟨v12, ev12⟩ : ∃ y : Int32, y = x3 + 1 := ⟨_, rfl⟩
        replace h := h v12 ev12
        refine g_iinc (v := v12) (lv' := [(3, .int v12), (0, .ref x0), (1, .int x1), (2, .int x2)]) C dX6_rebatePercentage_43 (j := 3) rfl (by rw [ev12]; rfl) (by decide) rfl ?_
        refine g_goto (tgt := 4) C dX6_rebatePercentage_46 (by decide) ?_
        refine g_locals [1, 2, 3, 0] rfl ?_
        exact ih x0 x1 x2 v12 S L hw hL he hx0 h
      · replace h := h.2 z11
        refine g_iload_n C dX6_rebatePercentage_22 rfl 2 rfl ?_
        refine g_if_lt (tgt := 41) C dX6_rebatePercentage_23 (by decide) (fun z13 => ?_) (fun z13 => ?_)
        · replace h := h.1 z13
          refine g_iload_n C dX6_rebatePercentage_41 rfl 3 rfl ?_
          refine g_istore_n (lv' := [(2, .int x3), (0, .ref x0), (1, .int x1), (3, .int x3)]) C dX6_rebatePercentage_42 rfl (by decide) rfl ?_
          obtain ⟨v14, ev14⟩ : ∃ y : Int32, y = x3 + 1 := ⟨_, rfl⟩
          replace h := h v14 ev14
          refine g_iinc (v := v14) (lv' := [(3, .int v14), (2, .int x3), (0, .ref x0), (1, .int x1)]) C dX6_rebatePercentage_43 (j := 3) rfl (by rw [ev14]; rfl) (by decide) rfl ?_
          refine g_goto (tgt := 4) C dX6_rebatePercentage_46 (by decide) ?_
          refine g_locals [2, 3, 1, 0] rfl ?_
          exact ih x0 x1 x3 v14 S L hw hL he hx0 h
        · replace h := h.2 z13
          refine g_aload_n C dX6_rebatePercentage_26 rfl 0 rfl ?_
          refine gc_getR C hw iwx_X6 hL hx0 (by decide) (by decide) rfl 4 (by decide) (hW kw_68) rfl rfl rfl dX6_rebatePercentage_27 (fun o15 eo15 ko15 => ?_)
          obtain ⟨b16, hb9, h⟩ := h
          have g17 : hK S b16 = 22 := ko15 b16 (eo15.trans hb9)
          replace h := h g17
          refine g_opt (eo15.trans hb9) ?_
          refine g_iload_n C dX6_rebatePercentage_30 rfl 3 rfl ?_
          obtain ⟨g18, h⟩ := h
          refine gc_iald C hL g17 g18 dX6_rebatePercentage_31 ?_
          refine g_aload_n C dX6_rebatePercentage_32 rfl 0 rfl ?_
          refine gc_getR C hw iwx_X6 hL hx0 (by decide) (by decide) rfl 4 (by decide) (hW kw_68) rfl rfl rfl dX6_rebatePercentage_33 (fun o19 eo19 ko19 => ?_)
          obtain ⟨b20, hb9, h⟩ := h
          have g21 : hK S b20 = 22 := ko19 b20 (eo19.trans hb9)
          replace h := h g21
          refine g_opt (eo19.trans hb9) ?_
          refine g_iload_n C dX6_rebatePercentage_36 rfl 2 rfl ?_
          obtain ⟨g22, h⟩ := h
          refine gc_iald C hL g21 g22 dX6_rebatePercentage_37 ?_
          refine g_icmp_le (tgt := 43) C dX6_rebatePercentage_38 (by decide) (fun z23 => ?_) (fun z23 => ?_)
          · replace h := h.1 z23
            obtain ⟨v24, ev24⟩ : ∃ y : Int32, y = x3 + 1 := ⟨_, rfl⟩
            replace h := h v24 ev24
            refine g_iinc (v := v24) (lv' := [(3, .int v24), (0, .ref x0), (1, .int x1), (2, .int x2)]) C dX6_rebatePercentage_43 (j := 3) rfl (by rw [ev24]; rfl) (by decide) rfl ?_
            refine g_goto (tgt := 4) C dX6_rebatePercentage_46 (by decide) ?_
            refine g_locals [1, 2, 3, 0] rfl ?_
            exact ih x0 x1 x2 v24 S L hw hL he hx0 h
          · replace h := h.2 z23
            refine g_iload_n C dX6_rebatePercentage_41 rfl 3 rfl ?_
            refine g_istore_n (lv' := [(2, .int x3), (0, .ref x0), (1, .int x1), (3, .int x3)]) C dX6_rebatePercentage_42 rfl (by decide) rfl ?_
            obtain ⟨v25, ev25⟩ : ∃ y : Int32, y = x3 + 1 := ⟨_, rfl⟩
            replace h := h v25 ev25
            refine g_iinc (v := v25) (lv' := [(3, .int v25), (2, .int x3), (0, .ref x0), (1, .int x1)]) C dX6_rebatePercentage_43 (j := 3) rfl (by rw [ev25]; rfl) (by decide) rfl ?_
            refine g_goto (tgt := 4) C dX6_rebatePercentage_46 (by decide) ?_
            refine g_locals [2, 3, 1, 0] rfl ?_
            exact ih x0 x1 x3 v25 S L hw hL he hx0 h
def wp_X6_rebatePercentage (P : Int32 → HS → Prop) (x0 : Nat) (p0 : Int32) (S : HS) : Prop := ∃ k26 : Nat, wp_X6_rebatePercentage_4  P k26 x0 p0 (-1) 0 S
set_option maxRecDepth 100000 in
set_option maxHeartbeats 4000000 in
theorem t_X6_rebatePercentage {p : Program} {l : Launch} {e : Env} {s : State} {m : MethodId} {args : Array Value} {below : List Frame} {meth : Method} {c : Code} {D : va_G} {A : Nat → Prop} {T : Nat → ClassId} (C : GC p s m args meth c cX6_rebatePercentage "FreightRater$State" (ws_X6_rebatePercentage) 4 D A (zty T)) (E : GE T A s) (hr : meth.sig.returnType = (some .int)) (P : Int32 → HS → Prop) : ∀ (x0 : Nat) (p0 : Int32) (S0 S : HS) (L : List Nat), S0 = S → wt S → hL S L → (hK S x0 = 7) → wp_X6_rebatePercentage P x0 p0 S → GW p l e { rm_X6_rebatePercentage with cells := 0, slots := 0 } s m args below meth c D A 4 0 0 (MQ below (va_Qi (fun v (u : HS × List Nat) => P v u.1 ∧ CO S0 u) (CE D T A) A) args s 0 0 A) (CW T S L) 0 0 0 [(0, .ref x0), (1, .int p0)] [] := by
  have hW : ∀ {w : Cond}, w ∈ W0 → w.before args s = true := fun h => C.2.2.2.2.1 _ (List.mem_cons_of_mem _ h)
  intro x0 p0 S0 S L hS0 hw hL hx0 h
  have he : ext S0 S := by rw [hS0]; exact ext_rf
  unfold wp_X6_rebatePercentage at h
  refine g_iconst (v := -1) C dX6_rebatePercentage_0 (by decide) ?_
  refine g_istore_n (lv' := [(2, .int (-1)), (0, .ref x0), (1, .int p0)]) C dX6_rebatePercentage_1 rfl (by decide) rfl ?_
  refine g_iconst (v := 0) C dX6_rebatePercentage_2 (by decide) ?_
  refine g_istore_n (lv' := [(3, .int 0), (2, .int (-1)), (0, .ref x0), (1, .int p0)]) C dX6_rebatePercentage_3 rfl (by decide) rfl ?_
  refine g_locals [2, 3, 1, 0] rfl ?_
  obtain ⟨k26, h⟩ := h
  refine t_X6_rebatePercentage_4 C E hr S0  P  k26 x0 p0 (-1) 0 S L hw hL he hx0 h
theorem c_X6_rebatePercentage (l : Launch) (D : va_G) (T : Nat → ClassId) (x0 : Nat) (p0 : Int32) (S : HS) (hx0 : hK S x0 = 7) (P : Int32 → HS → Prop) (h : wp_X6_rebatePercentage P x0 p0 S) : CMi l yX6_rebatePercentage (ws_X6_rebatePercentage) rm_X6_rebatePercentage D T [.ref x0, .int p0] S 0 0 P := gc_meti (by decide) rfl rfl (Nat.le_of_ble_eq_true rfl) (fun p e s m args below meth c A L C E hnm hr hw hL => t_X6_rebatePercentage C E   hr P x0 p0 S S L rfl hw hL hx0 h)
theorem rl_rp {P : Int32 → HS → Prop} {S : HS} {M : Nat → Prop} {x n : Nat} {μ : Nat → Int32} {d : Int32} (hR : RelSt S M x μ) (en : μ 2 = nI n) (hn : n ≤ 5) (hO : ∀ i, i < n → 0 ≤ μ (4 + 2 * i)) : ∀ (k i fuel : Nat) (o most pc : Int32), i + k = n → k < fuel → ((o = -1 ∧ most = -1 ∧ pc = 0) ∨ ∃ j, j < n ∧ o = nI j ∧ most = μ (4 + 2 * j) ∧ pc = μ (4 + 2 * j + 1)) → P (rbFold μ d k i most pc) S → wp_X6_rebatePercentage_4 P fuel x d o (nI i) S := by
  obtain ⟨e146, t, p, rt, rp, kt, kp, nt, np, hh⟩ := st_t hR en hn
  intro k
  induction k with
  | zero =>
    intro i fuel o most pc hi hf ho hP
    rw [rbFold] at hP
    obtain ⟨f, rfl⟩ : ∃ f, fuel = f + 1 := ⟨fuel - 1, by omega⟩; rw [wp_X6_rebatePercentage_4]; unfold wb_X6_rebatePercentage_4; dsimp only
    rw [e146, nI_leI (by omega) (by omega)]
    refine ⟨fun _ => ?_, fun z9 => absurd (by omega) z9⟩
    rcases ho with ⟨h1, h2, h3⟩ | ⟨j, hj, h1, h2, h3⟩
    · subst h1 h3
      exact ⟨fun z9 => absurd z9 (by decide), fun _ => hP⟩
    · subst h1
      rw [nz_le (by omega)]
      refine ⟨fun _ => ⟨p, rp, fun _ => ?_⟩, fun z9 => absurd trivial z9⟩
      rw [np, nz_vp (by omega) (by decide), nI_clamp (n := j) (by omega), (hh j hj).2, ← h3]
      exact ⟨by omega, hP⟩
  | succ k ih =>
    intro i fuel o most pc hi hf ho hP
    obtain ⟨g1, g2⟩ := hh i (by omega)
    rw [rbFold] at hP
    obtain ⟨f, rfl⟩ : ∃ f, fuel = f + 1 := ⟨fuel - 1, by omega⟩; rw [wp_X6_rebatePercentage_4]; unfold wb_X6_rebatePercentage_4; dsimp only
    rw [e146, nI_leI (by omega) (by omega), nI_1]
    have keep : ¬ (μ (4 + 2 * i) ≤ d ∧ most < μ (4 + 2 * i)) → ∀ w : Int32, w = nI (i + 1) → wp_X6_rebatePercentage_4 P f x d o w S := fun hn9 w e => by
      subst e
      rw [if_neg hn9] at hP
      exact ih (i + 1) f o most pc (by omega) (by omega) ho hP
    have take : (μ (4 + 2 * i) ≤ d ∧ most < μ (4 + 2 * i)) → ∀ w : Int32, w = nI (i + 1) → wp_X6_rebatePercentage_4 P f x d (nI i) w S := fun hn9 w e => by
      subst e
      rw [if_pos hn9] at hP
      exact ih (i + 1) f (nI i) _ _ (by omega) (by omega) (Or.inr ⟨i, by omega, rfl, rfl, rfl⟩) hP
    refine ⟨fun z9 => absurd z9 (by omega), fun _ => ⟨t, rt, fun _ => ?_⟩⟩
    rw [nt, nz_vp (by omega) (by decide), nI_clamp (n := i) (by omega), g1]
    refine ⟨by omega, fun c9 => keep (fun w9 => absurd c9 (Int32.not_lt.mpr w9.1)), fun c9 => ⟨fun c8 => take ⟨Int32.not_lt.mp c9, ?_⟩, fun c8 => ⟨t, rt, fun _ => ?_⟩⟩⟩
    · rcases ho with ⟨h1, h2, h3⟩ | ⟨j, hj, h1, h2, h3⟩
      · rw [h2]; exact Int32.lt_of_lt_of_le (by decide) (hO i (by omega))
      · rw [h1, nz_lt0 (by omega)] at c8; exact c8.elim
    · rw [nt, nz_vp (by omega) (by decide), g1]
      refine ⟨by omega, t, rt, fun _ => ?_⟩
      rcases ho with ⟨h1, h2, h3⟩ | ⟨j, hj, h1, h2, h3⟩
      · rw [h1] at c8; exact absurd (by decide) c8
      · subst h1
        rw [nt, nz_vp (by omega) (by decide), nI_clamp (n := j) (by omega), (hh j hj).1, ← h2]
        exact ⟨by omega, fun c7 => keep (fun w9 => absurd w9.2 (Int32.not_lt.mpr c7)), fun c7 => take ⟨Int32.not_lt.mp c9, Int32.not_le.mp c7⟩⟩
theorem k_X6_rebatePercentage (l : Launch) (D : va_G) (T : Nat → ClassId) (x0 : Nat) (p0 : Int32) (S : HS) (e0 : (Nat → Prop)) (e1 : Nat → Int32) (hx0 : hK S x0 = 7) (h : WF e1 ∧ RelSt S e0 x0 e1 ∧ stO e1) : CMi l yX6_rebatePercentage (ws_X6_rebatePercentage) rm_X6_rebatePercentage D T [.ref x0, .int p0] S 0 0 (fun v S1 => v = (rbFold e1 p0 (iv (e1 2)) 0 (-1) 0) ∧ S1 = S) := c_X6_rebatePercentage l D T x0 p0 S hx0 _ <|
  (by
    obtain ⟨hw, hR, hO⟩ := h
    obtain ⟨n, hn, en⟩ := hw.2.2.1
    have i0 : iv (e1 2) = n := by rw [en]; exact nI_clamp (by omega)
    unfold stO at hO
    rw [i0] at hO
    unfold wp_X6_rebatePercentage
    exact ⟨20, rl_rp hR en hn hO n 0 20 (-1) (-1) 0 (by omega) (by omega) (Or.inl ⟨rfl, rfl, rfl⟩) ⟨by rw [i0], rfl⟩⟩)

end S_C1C
