section S_C2A
abbrev ws_X1_isBetter : List Cond := Cond.code yX1_isBetter cX1_isBetter 4 (some .boolean) :: W0
abbrev rm_X1_isBetter : Room := ({ frames := 0, cells := 0, slots := 0, locals := 0 } : Room)
def wp_X1_isBetter (P : Int32 → HS → Prop) (x0 : Nat) (p0 : Int32) (p1 : Int32) (p2 : Int32) (S : HS) : Prop := ∃ b2 : Nat, hR S 45 x0 = some b2 ∧ (hK S b2 = 22 → (vp_in p0 (hN S b2) ∧ ((¬ (hA S b2 (Int32.toNatClampNeg p0)) = 0 → (∃ b7 : Nat, hR S 43 x0 = some b7 ∧ (hK S b7 = 22 → (vp_in p0 (hN S b7) ∧ ((p1 < (hA S b7 (Int32.toNatClampNeg p0)) → (P 1 S)) ∧ (¬ p1 < (hA S b7 (Int32.toNatClampNeg p0)) → (∃ b12 : Nat, hR S 43 x0 = some b12 ∧ (hK S b12 = 22 → (vp_in p0 (hN S b12) ∧ ((¬ p1 = (hA S b12 (Int32.toNatClampNeg p0)) → (P 0 S)) ∧ (p1 = (hA S b12 (Int32.toNatClampNeg p0)) → (∃ b17 : Nat, hR S 44 x0 = some b17 ∧ (hK S b17 = 22 → (vp_in p0 (hN S b17) ∧ (((hA S b17 (Int32.toNatClampNeg p0)) ≤ p2 → (P 0 S)) ∧ (¬ (hA S b17 (Int32.toNatClampNeg p0)) ≤ p2 → (P 1 S))))))))))))))))) ∧ ((hA S b2 (Int32.toNatClampNeg p0)) = 0 → (P 1 S)))))
set_option maxRecDepth 100000 in
set_option maxHeartbeats 4000000 in
theorem t_X1_isBetter {p : Program} {l : Launch} {e : Env} {s : State} {m : MethodId} {args : Array Value} {below : List Frame} {meth : Method} {c : Code} {D : va_G} {A : Nat → Prop} {T : Nat → ClassId} (C : GC p s m args meth c cX1_isBetter "FreightRater$Plan" (ws_X1_isBetter) 4 D A (zty T)) (E : GE T A s) (hr : meth.sig.returnType = (some .boolean)) (P : Int32 → HS → Prop) : ∀ (x0 : Nat) (p0 : Int32) (p1 : Int32) (p2 : Int32) (S0 S : HS) (L : List Nat), S0 = S → wt S → hL S L → (hK S x0 = 2) → wp_X1_isBetter P x0 p0 p1 p2 S → GW p l e { rm_X1_isBetter with cells := 0, slots := 0 } s m args below meth c D A 4 0 0 (MQ below (va_Qi (fun v (u : HS × List Nat) => P v u.1 ∧ CO S0 u) (CE D T A) A) args s 0 0 A) (CW T S L) 0 0 0 [(0, .ref x0), (1, .int p0), (2, .int p1), (3, .int p2)] [] := by
  have hW : ∀ {w : Cond}, w ∈ W0 → w.before args s = true := fun h => C.2.2.2.2.1 _ (List.mem_cons_of_mem _ h)
  intro x0 p0 p1 p2 S0 S L hS0 hw hL hx0 h
  have he : ext S0 S := by rw [hS0]; exact ext_rf
  unfold wp_X1_isBetter at h
  refine g_aload_n C dX1_isBetter_0 rfl 0 rfl ?_
  refine gc_getR C hw iwx_X1 hL hx0 (by decide) (by decide) rfl 5 (by decide) (hW kw_220) rfl rfl rfl dX1_isBetter_1 (fun o1 eo1 ko1 => ?_)
  obtain ⟨b2, hb9, h⟩ := h
  have g3 : hK S b2 = 22 := ko1 b2 (eo1.trans hb9)
  replace h := h g3
  refine g_opt (eo1.trans hb9) ?_
  refine g_iload_n C dX1_isBetter_4 rfl 1 rfl ?_
  obtain ⟨g4, h⟩ := h
  refine gc_iald C hL g3 g4 dX1_isBetter_5 ?_
  refine g_if_ne (tgt := 11) C dX1_isBetter_6 (by decide) (fun z5 => ?_) (fun z5 => ?_)
  · replace h := h.1 z5
    refine g_iload_n C dX1_isBetter_11 rfl 2 rfl ?_
    refine g_aload_n C dX1_isBetter_12 rfl 0 rfl ?_
    refine gc_getR C hw iwx_X1 hL hx0 (by decide) (by decide) rfl 3 (by decide) (hW kw_218) rfl rfl rfl dX1_isBetter_13 (fun o6 eo6 ko6 => ?_)
    obtain ⟨b7, hb9, h⟩ := h
    have g8 : hK S b7 = 22 := ko6 b7 (eo6.trans hb9)
    replace h := h g8
    refine g_opt (eo6.trans hb9) ?_
    refine g_iload_n C dX1_isBetter_16 rfl 1 rfl ?_
    obtain ⟨g9, h⟩ := h
    refine gc_iald C hL g8 g9 dX1_isBetter_17 ?_
    refine g_icmp_lt (tgt := 41) C dX1_isBetter_18 (by decide) (fun z10 => ?_) (fun z10 => ?_)
    · replace h := h.1 z10
      refine g_iconst (v := 1) C dX1_isBetter_41 (by decide) ?_
      refine g_goto (tgt := 46) C dX1_isBetter_42 (by decide) ?_
      exact gc_zret C vz1 hw hL he hr dX1_isBetter_46 h
    · replace h := h.2 z10
      refine g_iload_n C dX1_isBetter_21 rfl 2 rfl ?_
      refine g_aload_n C dX1_isBetter_22 rfl 0 rfl ?_
      refine gc_getR C hw iwx_X1 hL hx0 (by decide) (by decide) rfl 3 (by decide) (hW kw_218) rfl rfl rfl dX1_isBetter_23 (fun o11 eo11 ko11 => ?_)
      obtain ⟨b12, hb9, h⟩ := h
      have g13 : hK S b12 = 22 := ko11 b12 (eo11.trans hb9)
      replace h := h g13
      refine g_opt (eo11.trans hb9) ?_
      refine g_iload_n C dX1_isBetter_26 rfl 1 rfl ?_
      obtain ⟨g14, h⟩ := h
      refine gc_iald C hL g13 g14 dX1_isBetter_27 ?_
      refine g_icmp_ne (tgt := 45) C dX1_isBetter_28 (by decide) (fun z15 => ?_) (fun z15 => ?_)
      · replace h := h.1 z15
        refine g_iconst (v := 0) C dX1_isBetter_45 (by decide) ?_
        exact gc_zret C vz0 hw hL he hr dX1_isBetter_46 h
      · replace h := h.2 z15
        refine g_iload_n C dX1_isBetter_31 rfl 3 rfl ?_
        refine g_aload_n C dX1_isBetter_32 rfl 0 rfl ?_
        refine gc_getR C hw iwx_X1 hL hx0 (by decide) (by decide) rfl 4 (by decide) (hW kw_219) rfl rfl rfl dX1_isBetter_33 (fun o16 eo16 ko16 => ?_)
        obtain ⟨b17, hb9, h⟩ := h
        have g18 : hK S b17 = 22 := ko16 b17 (eo16.trans hb9)
        replace h := h g18
        refine g_opt (eo16.trans hb9) ?_
        refine g_iload_n C dX1_isBetter_36 rfl 1 rfl ?_
        obtain ⟨g19, h⟩ := h
        refine gc_iald C hL g18 g19 dX1_isBetter_37 ?_
        refine g_icmp_ge (tgt := 45) C dX1_isBetter_38 (by decide) (fun z20 => ?_) (fun z20 => ?_)
        · replace h := h.1 z20
          refine g_iconst (v := 0) C dX1_isBetter_45 (by decide) ?_
          exact gc_zret C vz0 hw hL he hr dX1_isBetter_46 h
        · replace h := h.2 z20
          refine g_iconst (v := 1) C dX1_isBetter_41 (by decide) ?_
          refine g_goto (tgt := 46) C dX1_isBetter_42 (by decide) ?_
          exact gc_zret C vz1 hw hL he hr dX1_isBetter_46 h
  · replace h := h.2 z5
    refine g_iconst (v := 1) C dX1_isBetter_9 (by decide) ?_
    exact gc_zret C vz1 hw hL he hr dX1_isBetter_10 h
theorem c_X1_isBetter (l : Launch) (D : va_G) (T : Nat → ClassId) (x0 : Nat) (p0 : Int32) (p1 : Int32) (p2 : Int32) (S : HS) (hx0 : hK S x0 = 2) (P : Int32 → HS → Prop) (h : wp_X1_isBetter P x0 p0 p1 p2 S) : CMi l yX1_isBetter (ws_X1_isBetter) rm_X1_isBetter D T [.ref x0, .int p0, .int p1, .int p2] S 0 0 P := gc_meti (by decide) rfl rfl (Nat.le_of_ble_eq_true rfl) (fun p e s m args below meth c A L C E hnm hr hw hL => t_X1_isBetter C E   hr P x0 p0 p1 p2 S S L rfl hw hL hx0 h)
/-- a plan's object with its rows -/
def PlO (S : HS) (x : Nat) (a : Nat → Nat) : Prop := hK S x = 2 ∧ (∀ i, i < 6 → hR S (41 + i) x = some (a i) ∧ hK S (a i) = 22 ∧ hN S (a i) = if i = 5 then 8 else 256) ∧ ∀ i j, i < 6 → j < 6 → a i = a j → i = j
/-- the parts of a plan -/
def PlP (S : HS) (x : Nat) (a : Nat → Nat) (G : List Nat) : Prop := hI S 47 x = nI G.length ∧ G.length ≤ 8 ∧ ∀ i, i < G.length → hA S (a 5) i = nI (gl G i) ∧ gl G i < 256
/-- what a plan's change leaves: fields but I, rows but J -/
def frP (S S1 : HS) (x : Nat) (a : Nat → Nat) (I J : List Nat) : Prop := hK S1 = hK S ∧ hN S1 = hN S ∧ hR S1 = hR S ∧ hB S1 = hB S ∧ (∀ i b, (b ≠ x ∨ i ∉ I) → hI S1 i b = hI S i b) ∧ ∀ b, (∀ j, j ∈ J → b ≠ a j) → hA S1 b = hA S b
def raL (T : Nat → Int32) : List Nat → Bool
  | [] => true
  | g :: l => if T g = -1 then false else raL T l
def loP (A : Nat → Int32) : List Nat → Int32
  | [] => 0
  | g :: l => if g.testBit 0 = true then A g else loP A l
def ffS (T B C : Nat → Int32) (w g : Nat) (x : X3) : X3 := if T g = -1 then x else if x.2.2 = 0 ∨ T g + B (w - g) < x.1 ∨ (T g + B (w - g) = x.1 ∧ C (w - g) + 1 < x.2.1) then (T g + B (w - g), C (w - g) + 1, nI g) else x
def ffF (T B C : Nat → Int32) (w lo ot : Nat) : Nat → Nat → X3 → X3
  | 0, _, x => x
  | k + 1, s, x => ffF T B C w lo ot k ((s + 4294967296 - ot) &&& ot) (ffS T B C w (lo ||| s) x)
/-- a part's best division by its first group -/
def ffX (T B C : Nat → Int32) (w : Nat) : X3 := ffF T B C w (2 ^ lowN w) (w - 2 ^ lowN w) (2 ^ popN (w - 2 ^ lowN w)) 0 (B w, C w, 0)
theorem PlO.k {S : HS} {x : Nat} {a : Nat → Nat} (h : PlO S x a) {i : Nat} (hi : i < 6) : hK S (a i) = 22 := (h.2.1 i hi).2.1
theorem PlO.n {S : HS} {x : Nat} {a : Nat → Nat} (h : PlO S x a) {i : Nat} (hi : i < 5) : hN S (a i) = 256 := by rw [(h.2.1 i (by omega)).2.2, if_neg (by omega)]
theorem PlO.n5 {S : HS} {x : Nat} {a : Nat → Nat} (h : PlO S x a) : hN S (a 5) = 8 := (h.2.1 5 (by omega)).2.2
theorem PlO.sets {S : HS} {x : Nat} {a : Nat → Nat} (h : PlO S x a) : hR S 41 x = some (a 0) := (h.2.1 0 (by omega)).1
theorem PlO.tots {S : HS} {x : Nat} {a : Nat → Nat} (h : PlO S x a) : hR S 42 x = some (a 1) := (h.2.1 1 (by omega)).1
theorem PlO.bt {S : HS} {x : Nat} {a : Nat → Nat} (h : PlO S x a) : hR S 43 x = some (a 2) := (h.2.1 2 (by omega)).1
theorem PlO.bc {S : HS} {x : Nat} {a : Nat → Nat} (h : PlO S x a) : hR S 44 x = some (a 3) := (h.2.1 3 (by omega)).1
theorem PlO.bf {S : HS} {x : Nat} {a : Nat → Nat} (h : PlO S x a) : hR S 45 x = some (a 4) := (h.2.1 4 (by omega)).1
theorem PlO.pts {S : HS} {x : Nat} {a : Nat → Nat} (h : PlO S x a) : hR S 46 x = some (a 5) := (h.2.1 5 (by omega)).1
theorem b2i_1 {b : Bool} (h : b = true) : (1 : Int32) = b2i b := by rw [h]; rfl
theorem b2i_n {b : Bool} (h : b = false) : (0 : Int32) = b2i b := by rw [h]; rfl
theorem k_X1_isBetter (l : Launch) (D : va_G) (T : Nat → ClassId) (x0 : Nat) (p0 : Int32) (p1 : Int32) (p2 : Int32) (S : HS) (e0 : Nat → Nat) (hx0 : hK S x0 = 2) (h : PlO S x0 e0 ∧ ∃ w : Nat, w < 256 ∧ p0 = nI w) : CMi l yX1_isBetter (ws_X1_isBetter) rm_X1_isBetter D T [.ref x0, .int p0, .int p1, .int p2] S 0 0 (fun v S1 => v = (b2i (decide (hA S (e0 4) (iv p0) = 0) || (decide (p1 < hA S (e0 2) (iv p0)) || (decide (p1 = hA S (e0 2) (iv p0)) && decide (p2 < hA S (e0 3) (iv p0)))))) ∧ S1 = S) := c_X1_isBetter l D T x0 p0 p1 p2 S hx0 _ <|
  (by
    obtain ⟨hO, w, hw, ew⟩ := h
    subst ew
    unfold wp_X1_isBetter
    have vp : vp_in (nI w) 256 := by rw [nz_vp (by omega) (by decide)]; exact hw
    refine ⟨e0 4, hO.bf, fun _ => ?_⟩
    rw [hO.n (show 4 < 5 by omega)]
    refine ⟨vp, fun c0 => ⟨e0 2, hO.bt, fun _ => ?_⟩, fun c0 => ⟨b2i_1 (by rw [decide_eq_true c0]; rfl), rfl⟩⟩
    rw [decide_eq_false c0, Bool.false_or, hO.n (show 2 < 5 by omega)]
    refine ⟨vp, fun c1 => ⟨b2i_1 (by rw [decide_eq_true c1]; rfl), rfl⟩, fun c1 => ⟨e0 2, hO.bt, fun _ => ?_⟩⟩
    rw [decide_eq_false c1, Bool.false_or, hO.n (show 2 < 5 by omega)]
    refine ⟨vp, fun c2 => ⟨b2i_n (by rw [decide_eq_false c2]; rfl), rfl⟩, fun c2 => ⟨e0 3, hO.bc, fun _ => ?_⟩⟩
    rw [decide_eq_true c2, Bool.true_and, hO.n (show 3 < 5 by omega)]
    exact ⟨vp, fun c3 => ⟨b2i_n (decide_eq_false (Int32.not_lt.mpr c3)), rfl⟩, fun c3 => ⟨b2i_1 (decide_eq_true (Int32.not_le.mp c3)), rfl⟩⟩)
abbrev ws_X1_total : List Cond := Cond.code yX1_total cX1_total 3 (some .int) :: W0
abbrev rm_X1_total : Room := ({ frames := 0, cells := 0, slots := 0, locals := 0 } : Room)
def wb_X1_total_4 (rec : Nat → Int32 → Int32 → HS → Prop) (P : Int32 → HS → Prop) (x0 : Nat) (x1 : Int32) (x2 : Int32) (S : HS) : Prop := ((hI S 47 x0) ≤ x2 → (P x1 S)) ∧ (¬ (hI S 47 x0) ≤ x2 → (∃ b3 : Nat, hR S 42 x0 = some b3 ∧ (hK S b3 = 22 → (∃ b6 : Nat, hR S 46 x0 = some b6 ∧ (hK S b6 = 22 → (vp_in x2 (hN S b6) ∧ (vp_in (hA S b6 (Int32.toNatClampNeg x2)) (hN S b3) ∧ (∀ v10 : Int32, v10 = (x1 + (hA S b3 (Int32.toNatClampNeg (hA S b6 (Int32.toNatClampNeg x2))))) → (∀ v11 : Int32, v11 = x2 + 1 → (rec x0 v10 v11 S))))))))))
def wp_X1_total_4 (P : Int32 → HS → Prop) : Nat → Nat → Int32 → Int32 → HS → Prop
  | 0 => fun _ _ _ _ => False
  | n + 1 => fun x0 x1 x2 S => wb_X1_total_4 (wp_X1_total_4  P n)  P x0 x1 x2 S
set_option maxRecDepth 100000 in
set_option maxHeartbeats 4000000 in
theorem t_X1_total_4 {p : Program} {l : Launch} {e : Env} {s : State} {m : MethodId} {args : Array Value} {below : List Frame} {meth : Method} {c : Code} {D : va_G} {A : Nat → Prop} {T : Nat → ClassId} (C : GC p s m args meth c cX1_total "FreightRater$Plan" (ws_X1_total) 3 D A (zty T)) (E : GE T A s) (hr : meth.sig.returnType = (some .int)) (S0 : HS) (P : Int32 → HS → Prop) : ∀ (n : Nat) (x0 : Nat) (x1 : Int32) (x2 : Int32) (S : HS) (L : List Nat), wt S → hL S L → ext S0 S → (hK S x0 = 2) → wp_X1_total_4  P n x0 x1 x2 S → GW p l e { rm_X1_total with cells := 0, slots := 0 } s m args below meth c D A 3 0 0 (MQ below (va_Qi (fun v (u : HS × List Nat) => P v u.1 ∧ CO S0 u) (CE D T A) A) args s 0 0 A) (CW T S L) 0 0 4 [(0, .ref x0), (1, .int x1), (2, .int x2)] [] := by
  have hW : ∀ {w : Cond}, w ∈ W0 → w.before args s = true := fun h => C.2.2.2.2.1 _ (List.mem_cons_of_mem _ h)
  intro n
  induction n with
  | zero => intro x0 x1 x2 S L hw hL he hx0 h; exact h.elim
  | succ n ih =>
    intro x0 x1 x2 S L hw hL he hx0 h
    replace h : wb_X1_total_4 (wp_X1_total_4  P n)  P x0 x1 x2 S := h
    unfold wb_X1_total_4 at h
    refine g_iload_n C dX1_total_4 rfl 2 rfl ?_
    refine g_aload_n C dX1_total_5 rfl 0 rfl ?_
    refine gc_getI C iwx_X1 hL hx0 (by decide) (by decide) rfl 7 (by decide) (hW kw_223) rfl rfl rfl dX1_total_6 ?_
    refine g_icmp_ge (tgt := 32) C dX1_total_9 (by decide) (fun z1 => ?_) (fun z1 => ?_)
    · replace h := h.1 z1
      refine g_iload_n C dX1_total_32 rfl 1 rfl ?_
      exact gc_iret C hw hL he hr dX1_total_33 h
    · replace h := h.2 z1
      refine g_iload_n C dX1_total_12 rfl 1 rfl ?_
      refine g_aload_n C dX1_total_13 rfl 0 rfl ?_
      refine gc_getR C hw iwx_X1 hL hx0 (by decide) (by decide) rfl 2 (by decide) (hW kw_216) rfl rfl rfl dX1_total_14 (fun o2 eo2 ko2 => ?_)
      obtain ⟨b3, hb9, h⟩ := h
      have g4 : hK S b3 = 22 := ko2 b3 (eo2.trans hb9)
      replace h := h g4
      refine g_opt (eo2.trans hb9) ?_
      refine g_aload_n C dX1_total_17 rfl 0 rfl ?_
      refine gc_getR C hw iwx_X1 hL hx0 (by decide) (by decide) rfl 6 (by decide) (hW kw_221) rfl rfl rfl dX1_total_18 (fun o5 eo5 ko5 => ?_)
      obtain ⟨b6, hb9, h⟩ := h
      have g7 : hK S b6 = 22 := ko5 b6 (eo5.trans hb9)
      replace h := h g7
      refine g_opt (eo5.trans hb9) ?_
      refine g_iload_n C dX1_total_21 rfl 2 rfl ?_
      obtain ⟨g8, h⟩ := h
      refine gc_iald C hL g7 g8 dX1_total_22 ?_
      obtain ⟨g9, h⟩ := h
      refine gc_iald C hL g4 g9 dX1_total_23 ?_
      refine g_iadd C dX1_total_24 ?_
      refine g_topi (fun v10 ev10 => ?_)
      replace h := h v10 ev10
      refine g_istore_n (lv' := [(1, .int v10), (0, .ref x0), (2, .int x2)]) C dX1_total_25 rfl (by decide) rfl ?_
      obtain ⟨v11, ev11⟩ : ∃ y : Int32, y = x2 + 1 := ⟨_, rfl⟩
      replace h := h v11 ev11
      refine g_iinc (v := v11) (lv' := [(2, .int v11), (1, .int v10), (0, .ref x0)]) C dX1_total_26 (j := 2) rfl (by rw [ev11]; rfl) (by decide) rfl ?_
      refine g_goto (tgt := 4) C dX1_total_29 (by decide) ?_
      refine g_locals [2, 1, 0] rfl ?_
      exact ih x0 v10 v11 S L hw hL he hx0 h
def wp_X1_total (P : Int32 → HS → Prop) (x0 : Nat) (S : HS) : Prop := ∃ k12 : Nat, wp_X1_total_4  P k12 x0 0 0 S
set_option maxRecDepth 100000 in
set_option maxHeartbeats 4000000 in
theorem t_X1_total {p : Program} {l : Launch} {e : Env} {s : State} {m : MethodId} {args : Array Value} {below : List Frame} {meth : Method} {c : Code} {D : va_G} {A : Nat → Prop} {T : Nat → ClassId} (C : GC p s m args meth c cX1_total "FreightRater$Plan" (ws_X1_total) 3 D A (zty T)) (E : GE T A s) (hr : meth.sig.returnType = (some .int)) (P : Int32 → HS → Prop) : ∀ (x0 : Nat) (S0 S : HS) (L : List Nat), S0 = S → wt S → hL S L → (hK S x0 = 2) → wp_X1_total P x0 S → GW p l e { rm_X1_total with cells := 0, slots := 0 } s m args below meth c D A 3 0 0 (MQ below (va_Qi (fun v (u : HS × List Nat) => P v u.1 ∧ CO S0 u) (CE D T A) A) args s 0 0 A) (CW T S L) 0 0 0 [(0, .ref x0)] [] := by
  have hW : ∀ {w : Cond}, w ∈ W0 → w.before args s = true := fun h => C.2.2.2.2.1 _ (List.mem_cons_of_mem _ h)
  intro x0 S0 S L hS0 hw hL hx0 h
  have he : ext S0 S := by rw [hS0]; exact ext_rf
  unfold wp_X1_total at h
  refine g_iconst (v := 0) C dX1_total_0 (by decide) ?_
  refine g_istore_n (lv' := [(1, .int 0), (0, .ref x0)]) C dX1_total_1 rfl (by decide) rfl ?_
  refine g_iconst (v := 0) C dX1_total_2 (by decide) ?_
  refine g_istore_n (lv' := [(2, .int 0), (1, .int 0), (0, .ref x0)]) C dX1_total_3 rfl (by decide) rfl ?_
  refine g_locals [2, 1, 0] rfl ?_
  obtain ⟨k12, h⟩ := h
  refine t_X1_total_4 C E hr S0  P  k12 x0 0 0 S L hw hL he hx0 h
theorem c_X1_total (l : Launch) (D : va_G) (T : Nat → ClassId) (x0 : Nat) (S : HS) (hx0 : hK S x0 = 2) (P : Int32 → HS → Prop) (h : wp_X1_total P x0 S) : CMi l yX1_total (ws_X1_total) rm_X1_total D T [.ref x0] S 0 0 P := gc_meti (by decide) rfl rfl (Nat.le_of_ble_eq_true rfl) (fun p e s m args below meth c A L C E hnm hr hw hL => t_X1_total C E   hr P x0 S S L rfl hw hL hx0 h)
theorem gl_d {L : List Nat} {i k : Nat} (h : i + (k + 1) = L.length) : L.drop i = gl L i :: L.drop (i + 1) := by
  have hi : i < L.length := by omega
  rw [List.drop_eq_getElem_cons hi]
  unfold gl
  rw [List.getElem?_eq_getElem hi]
  rfl
theorem rl_pt {P : Int32 → HS → Prop} {S : HS} {x : Nat} {a : Nat → Nat} {G : List Nat} (hO : PlO S x a) (hG : PlP S x a G) : ∀ (k i fuel : Nat) (v : Int32), i + k = G.length → k < fuel → P (suL (hA S (a 1)) (G.drop i) v) S → wp_X1_total_4 P fuel x v (nI i) S := by
  obtain ⟨h47, h8, hh⟩ := hG
  intro k
  induction k with
  | zero =>
    intro i fuel v hi hf hP
    obtain ⟨f, rfl⟩ : ∃ f, fuel = f + 1 := ⟨fuel - 1, by omega⟩; rw [wp_X1_total_4]; unfold wb_X1_total_4; dsimp only
    rw [h47, nI_leI (by omega) (by omega)]
    rw [List.drop_eq_nil_of_le (by omega)] at hP
    exact ⟨fun _ => hP, fun z9 => absurd (by omega) z9⟩
  | succ k ih =>
    intro i fuel v hi hf hP
    obtain ⟨g1, g2⟩ := hh i (by omega)
    rw [gl_d hi] at hP
    obtain ⟨f, rfl⟩ : ∃ f, fuel = f + 1 := ⟨fuel - 1, by omega⟩; rw [wp_X1_total_4]; unfold wb_X1_total_4; dsimp only
    rw [h47, nI_leI (by omega) (by omega), nI_1]
    refine ⟨fun z9 => absurd z9 (by omega), fun _ => ⟨a 1, hO.tots, fun _ => ⟨a 5, hO.pts, fun _ => ?_⟩⟩⟩
    rw [hO.n5, nz_vp (by omega) (by decide), nI_clamp (n := i) (by omega), g1, hO.n (show 1 < 5 by omega), nz_vp (by omega) (by decide), nI_clamp (n := gl G i) (by omega)]
    refine ⟨by omega, g2, fun v10 e10 v11 e11 => ?_⟩
    subst e10 e11
    exact ih (i + 1) f _ (by omega) (by omega) hP
theorem k_X1_total (l : Launch) (D : va_G) (T : Nat → ClassId) (x0 : Nat) (S : HS) (e0 : Nat → Nat) (e1 : List Nat) (hx0 : hK S x0 = 2) (h : PlO S x0 e0 ∧ PlP S x0 e0 e1) : CMi l yX1_total (ws_X1_total) rm_X1_total D T [.ref x0] S 0 0 (fun v S1 => v = (suL (hA S (e0 1)) e1 0) ∧ S1 = S) := c_X1_total l D T x0 S hx0 _ <|
  (by
    obtain ⟨hO, hG⟩ := h
    have h8 := hG.2.1
    unfold wp_X1_total
    exact ⟨20, rl_pt hO hG e1.length 0 20 0 (by omega) (by omega) ⟨rfl, rfl⟩⟩)
abbrev ws_X1_totalIfRated : List Cond := Cond.code yX1_totalIfRated cX1_totalIfRated 2 (some .int) :: W0
abbrev rm_X1_totalIfRated : Room := ({ frames := 1, cells := 0, slots := 0, locals := 22 } : Room)
def wb_X1_totalIfRated_2 (rec : Nat → Int32 → HS → Prop) (P : Int32 → HS → Prop) (x0 : Nat) (x1 : Int32) (S : HS) : Prop := ((hI S 47 x0) ≤ x1 → (∃ (m2 : Nat → Nat) (m3 : List Nat), ((PlO S x0 m2 ∧ PlP S x0 m2 m3) ∧ (P (suL (hA S (m2 1)) m3 0) S)))) ∧ (¬ (hI S 47 x0) ≤ x1 → (∃ b10 : Nat, hR S 42 x0 = some b10 ∧ (hK S b10 = 22 → (∃ b13 : Nat, hR S 46 x0 = some b13 ∧ (hK S b13 = 22 → (vp_in x1 (hN S b13) ∧ (vp_in (hA S b13 (Int32.toNatClampNeg x1)) (hN S b10) ∧ ((¬ (hA S b10 (Int32.toNatClampNeg (hA S b13 (Int32.toNatClampNeg x1)))) = (-1) → (∀ v18 : Int32, v18 = x1 + 1 → (rec x0 v18 S))) ∧ ((hA S b10 (Int32.toNatClampNeg (hA S b13 (Int32.toNatClampNeg x1)))) = (-1) → (P (-1) S))))))))))
def wp_X1_totalIfRated_2 (P : Int32 → HS → Prop) : Nat → Nat → Int32 → HS → Prop
  | 0 => fun _ _ _ => False
  | n + 1 => fun x0 x1 S => wb_X1_totalIfRated_2 (wp_X1_totalIfRated_2  P n)  P x0 x1 S
set_option maxRecDepth 100000 in
set_option maxHeartbeats 4000000 in
theorem t_X1_totalIfRated_2 {p : Program} {l : Launch} {e : Env} {s : State} {m : MethodId} {args : Array Value} {below : List Frame} {meth : Method} {c : Code} {D : va_G} {A : Nat → Prop} {T : Nat → ClassId} (C : GC p s m args meth c cX1_totalIfRated "FreightRater$Plan" (ws_X1_totalIfRated) 2 D A (zty T)) (E : GE T A s) (hr : meth.sig.returnType = (some .int)) (S0 : HS) (P : Int32 → HS → Prop) : ∀ (n : Nat) (x0 : Nat) (x1 : Int32) (S : HS) (L : List Nat), wt S → hL S L → ext S0 S → (hK S x0 = 2) → wp_X1_totalIfRated_2  P n x0 x1 S → GW p l e { rm_X1_totalIfRated with cells := 0, slots := 0 } s m args below meth c D A 2 0 0 (MQ below (va_Qi (fun v (u : HS × List Nat) => P v u.1 ∧ CO S0 u) (CE D T A) A) args s 0 0 A) (CW T S L) 0 0 2 [(0, .ref x0), (1, .int x1)] [] := by
  have hW : ∀ {w : Cond}, w ∈ W0 → w.before args s = true := fun h => C.2.2.2.2.1 _ (List.mem_cons_of_mem _ h)
  intro n
  induction n with
  | zero => intro x0 x1 S L hw hL he hx0 h; exact h.elim
  | succ n ih =>
    intro x0 x1 S L hw hL he hx0 h
    replace h : wb_X1_totalIfRated_2 (wp_X1_totalIfRated_2  P n)  P x0 x1 S := h
    unfold wb_X1_totalIfRated_2 at h
    refine g_iload_n C dX1_totalIfRated_2 rfl 1 rfl ?_
    refine g_aload_n C dX1_totalIfRated_3 rfl 0 rfl ?_
    refine gc_getI C iwx_X1 hL hx0 (by decide) (by decide) rfl 7 (by decide) (hW kw_223) rfl rfl rfl dX1_totalIfRated_4 ?_
    refine g_icmp_ge (tgt := 33) C dX1_totalIfRated_7 (by decide) (fun z1 => ?_) (fun z1 => ?_)
    · replace h := h.1 z1
      refine g_aload_n C dX1_totalIfRated_33 rfl 0 rfl ?_
      obtain ⟨m2, m3, h⟩ := h
      obtain ⟨g4, h⟩ := h
      refine gc_calliV (host := "") C E hw hL hx0 (by decide) (by decide) rfl [] rfl (k_X1_total l D T x0 S m2 m3 hx0 g4) (w0_V 0 C.2.2.2.2.1 kw_1398 kw_1370 kw_1371 kw_8 kw_1372 rfl rfl (by decide +kernel) ⟨Nat.le_of_ble_eq_true rfl, Nat.le_of_ble_eq_true rfl⟩) rfl (Nat.le_of_ble_eq_true rfl) (Nat.le_refl _) (Nat.le_refl _) (Nat.zero_le _) (Nat.zero_le _) dX1_totalIfRated_34 (fun v9 S9 L5 he9 hw9 hL9 hp => ?_)
      obtain ⟨hv9, hs9⟩ := hp
      replace hs9 := hs9.symm
      subst hs9
      replace hv9 := hv9.symm
      subst hv9
      have w8 := hL9
      exact gc_iret C hw w8 he hr dX1_totalIfRated_37 h
    · replace h := h.2 z1
      refine g_aload_n C dX1_totalIfRated_10 rfl 0 rfl ?_
      refine gc_getR C hw iwx_X1 hL hx0 (by decide) (by decide) rfl 2 (by decide) (hW kw_216) rfl rfl rfl dX1_totalIfRated_11 (fun o9 eo9 ko9 => ?_)
      obtain ⟨b10, hb9, h⟩ := h
      have g11 : hK S b10 = 22 := ko9 b10 (eo9.trans hb9)
      replace h := h g11
      refine g_opt (eo9.trans hb9) ?_
      refine g_aload_n C dX1_totalIfRated_14 rfl 0 rfl ?_
      refine gc_getR C hw iwx_X1 hL hx0 (by decide) (by decide) rfl 6 (by decide) (hW kw_221) rfl rfl rfl dX1_totalIfRated_15 (fun o12 eo12 ko12 => ?_)
      obtain ⟨b13, hb9, h⟩ := h
      have g14 : hK S b13 = 22 := ko12 b13 (eo12.trans hb9)
      replace h := h g14
      refine g_opt (eo12.trans hb9) ?_
      refine g_iload_n C dX1_totalIfRated_18 rfl 1 rfl ?_
      obtain ⟨g15, h⟩ := h
      refine gc_iald C hL g14 g15 dX1_totalIfRated_19 ?_
      obtain ⟨g16, h⟩ := h
      refine gc_iald C hL g11 g16 dX1_totalIfRated_20 ?_
      refine g_iconst (v := -1) C dX1_totalIfRated_21 (by decide) ?_
      refine g_icmp_ne (tgt := 27) C dX1_totalIfRated_22 (by decide) (fun z17 => ?_) (fun z17 => ?_)
      · replace h := h.1 z17
        obtain ⟨v18, ev18⟩ : ∃ y : Int32, y = x1 + 1 := ⟨_, rfl⟩
        replace h := h v18 ev18
        refine g_iinc (v := v18) (lv' := [(1, .int v18), (0, .ref x0)]) C dX1_totalIfRated_27 (j := 1) rfl (by rw [ev18]; rfl) (by decide) rfl ?_
        refine g_goto (tgt := 2) C dX1_totalIfRated_30 (by decide) ?_
        refine g_locals [1, 0] rfl ?_
        exact ih x0 v18 S L hw hL he hx0 h
      · replace h := h.2 z17
        refine g_iconst (v := -1) C dX1_totalIfRated_25 (by decide) ?_
        exact gc_iret C hw hL he hr dX1_totalIfRated_26 h
def wp_X1_totalIfRated (P : Int32 → HS → Prop) (x0 : Nat) (S : HS) : Prop := ∃ k19 : Nat, wp_X1_totalIfRated_2  P k19 x0 0 S
set_option maxRecDepth 100000 in
set_option maxHeartbeats 4000000 in
theorem t_X1_totalIfRated {p : Program} {l : Launch} {e : Env} {s : State} {m : MethodId} {args : Array Value} {below : List Frame} {meth : Method} {c : Code} {D : va_G} {A : Nat → Prop} {T : Nat → ClassId} (C : GC p s m args meth c cX1_totalIfRated "FreightRater$Plan" (ws_X1_totalIfRated) 2 D A (zty T)) (E : GE T A s) (hr : meth.sig.returnType = (some .int)) (P : Int32 → HS → Prop) : ∀ (x0 : Nat) (S0 S : HS) (L : List Nat), S0 = S → wt S → hL S L → (hK S x0 = 2) → wp_X1_totalIfRated P x0 S → GW p l e { rm_X1_totalIfRated with cells := 0, slots := 0 } s m args below meth c D A 2 0 0 (MQ below (va_Qi (fun v (u : HS × List Nat) => P v u.1 ∧ CO S0 u) (CE D T A) A) args s 0 0 A) (CW T S L) 0 0 0 [(0, .ref x0)] [] := by
  have hW : ∀ {w : Cond}, w ∈ W0 → w.before args s = true := fun h => C.2.2.2.2.1 _ (List.mem_cons_of_mem _ h)
  intro x0 S0 S L hS0 hw hL hx0 h
  have he : ext S0 S := by rw [hS0]; exact ext_rf
  unfold wp_X1_totalIfRated at h
  refine g_iconst (v := 0) C dX1_totalIfRated_0 (by decide) ?_
  refine g_istore_n (lv' := [(1, .int 0), (0, .ref x0)]) C dX1_totalIfRated_1 rfl (by decide) rfl ?_
  refine g_locals [1, 0] rfl ?_
  obtain ⟨k19, h⟩ := h
  refine t_X1_totalIfRated_2 C E hr S0  P  k19 x0 0 S L hw hL he hx0 h
theorem c_X1_totalIfRated (l : Launch) (D : va_G) (T : Nat → ClassId) (x0 : Nat) (S : HS) (hx0 : hK S x0 = 2) (P : Int32 → HS → Prop) (h : wp_X1_totalIfRated P x0 S) : CMi l yX1_totalIfRated (ws_X1_totalIfRated) rm_X1_totalIfRated D T [.ref x0] S 0 0 P := gc_meti (by decide) rfl rfl (Nat.le_of_ble_eq_true rfl) (fun p e s m args below meth c A L C E hnm hr hw hL => t_X1_totalIfRated C E   hr P x0 S S L rfl hw hL hx0 h)
theorem rl_pr {P : Int32 → HS → Prop} {S : HS} {x : Nat} {a : Nat → Nat} {G : List Nat} (hO : PlO S x a) (hG : PlP S x a G) (hP : ∀ v S1, v = (if raL (hA S (a 1)) G = true then suL (hA S (a 1)) G 0 else -1) ∧ S1 = S → P v S1) : ∀ (k i fuel : Nat), i + k = G.length → k < fuel → raL (hA S (a 1)) G = raL (hA S (a 1)) (G.drop i) → wp_X1_totalIfRated_2 P fuel x (nI i) S := by
  have hG0 := hG
  obtain ⟨h47, h8, hh⟩ := hG
  intro k
  induction k with
  | zero =>
    intro i fuel hi hf hr
    rw [List.drop_eq_nil_of_le (by omega)] at hr
    have hr : raL (hA S (a 1)) G = true := hr
    obtain ⟨f, rfl⟩ : ∃ f, fuel = f + 1 := ⟨fuel - 1, by omega⟩; rw [wp_X1_totalIfRated_2]; unfold wb_X1_totalIfRated_2; dsimp only
    rw [h47, nI_leI (by omega) (by omega)]
    refine ⟨fun _ => ⟨a, G, ⟨hO, hG0⟩, ?_⟩, fun z9 => absurd (by omega) z9⟩
    rw [hr, if_pos rfl] at hP
    exact hP _ S ⟨rfl, rfl⟩
  | succ k ih =>
    intro i fuel hi hf hr
    obtain ⟨g1, g2⟩ := hh i (by omega)
    rw [gl_d hi, raL] at hr
    obtain ⟨f, rfl⟩ : ∃ f, fuel = f + 1 := ⟨fuel - 1, by omega⟩; rw [wp_X1_totalIfRated_2]; unfold wb_X1_totalIfRated_2; dsimp only
    rw [h47, nI_leI (by omega) (by omega), nI_1]
    refine ⟨fun z9 => absurd z9 (by omega), fun _ => ⟨a 1, hO.tots, fun _ => ⟨a 5, hO.pts, fun _ => ?_⟩⟩⟩
    rw [hO.n5, nz_vp (by omega) (by decide), nI_clamp (n := i) (by omega), g1, hO.n (show 1 < 5 by omega), nz_vp (by omega) (by decide), nI_clamp (n := gl G i) (by omega)]
    refine ⟨by omega, g2, fun c v19 e19 => ?_, fun c => ?_⟩
    · subst e19
      rw [if_neg c] at hr
      exact ih (i + 1) f (by omega) (by omega) hr
    · rw [if_pos c] at hr
      exact hP _ S ⟨by rw [hr]; rfl, rfl⟩
theorem k_X1_totalIfRated (l : Launch) (D : va_G) (T : Nat → ClassId) (x0 : Nat) (S : HS) (e0 : Nat → Nat) (e1 : List Nat) (hx0 : hK S x0 = 2) (h : PlO S x0 e0 ∧ PlP S x0 e0 e1) : CMi l yX1_totalIfRated (ws_X1_totalIfRated) rm_X1_totalIfRated D T [.ref x0] S 0 0 (fun v S1 => v = ((if raL (hA S (e0 1)) e1 = true then suL (hA S (e0 1)) e1 0 else -1)) ∧ S1 = S) := c_X1_totalIfRated l D T x0 S hx0 _ <|
  (by
    obtain ⟨hO, hG⟩ := h
    have h8 := hG.2.1
    unfold wp_X1_totalIfRated
    exact ⟨20, rl_pr hO hG (fun v S1 h9 => h9) e1.length 0 20 (by omega) (by omega) rfl⟩)
abbrev ws_X1_lowestGroup : List Cond := Cond.code yX1_lowestGroup cX1_lowestGroup 2 (some .int) :: W0
abbrev rm_X1_lowestGroup : Room := ({ frames := 1, cells := 0, slots := 0, locals := 21 } : Room)
def wb_X1_lowestGroup_2 (rec : Nat → Int32 → HS → Prop) (P : Int32 → HS → Prop) (x0 : Nat) (x1 : Int32) (S : HS) : Prop := ((hI S 47 x0) ≤ x1 → (P 0 S)) ∧ (¬ (hI S 47 x0) ≤ x1 → (∃ b3 : Nat, hR S 46 x0 = some b3 ∧ (hK S b3 = 22 → (vp_in x1 (hN S b3) ∧ (((hasF (hA S b3 (Int32.toNatClampNeg x1)) 0) = 0 → (∀ v11 : Int32, v11 = x1 + 1 → (rec x0 v11 S))) ∧ (¬ (hasF (hA S b3 (Int32.toNatClampNeg x1)) 0) = 0 → (∃ b13 : Nat, hR S 41 x0 = some b13 ∧ (hK S b13 = 22 → (∃ b16 : Nat, hR S 46 x0 = some b16 ∧ (hK S b16 = 22 → (vp_in x1 (hN S b16) ∧ (vp_in (hA S b16 (Int32.toNatClampNeg x1)) (hN S b13) ∧ (P (hA S b13 (Int32.toNatClampNeg (hA S b16 (Int32.toNatClampNeg x1)))) S)))))))))))))
def wp_X1_lowestGroup_2 (P : Int32 → HS → Prop) : Nat → Nat → Int32 → HS → Prop
  | 0 => fun _ _ _ => False
  | n + 1 => fun x0 x1 S => wb_X1_lowestGroup_2 (wp_X1_lowestGroup_2  P n)  P x0 x1 S
set_option maxRecDepth 100000 in
set_option maxHeartbeats 4000000 in
theorem t_X1_lowestGroup_2 {p : Program} {l : Launch} {e : Env} {s : State} {m : MethodId} {args : Array Value} {below : List Frame} {meth : Method} {c : Code} {D : va_G} {A : Nat → Prop} {T : Nat → ClassId} (C : GC p s m args meth c cX1_lowestGroup "FreightRater$Plan" (ws_X1_lowestGroup) 2 D A (zty T)) (E : GE T A s) (hr : meth.sig.returnType = (some .int)) (S0 : HS) (P : Int32 → HS → Prop) : ∀ (n : Nat) (x0 : Nat) (x1 : Int32) (S : HS) (L : List Nat), wt S → hL S L → ext S0 S → (hK S x0 = 2) → wp_X1_lowestGroup_2  P n x0 x1 S → GW p l e { rm_X1_lowestGroup with cells := 0, slots := 0 } s m args below meth c D A 2 0 0 (MQ below (va_Qi (fun v (u : HS × List Nat) => P v u.1 ∧ CO S0 u) (CE D T A) A) args s 0 0 A) (CW T S L) 0 0 2 [(0, .ref x0), (1, .int x1)] [] := by
  have hW : ∀ {w : Cond}, w ∈ W0 → w.before args s = true := fun h => C.2.2.2.2.1 _ (List.mem_cons_of_mem _ h)
  intro n
  induction n with
  | zero => intro x0 x1 S L hw hL he hx0 h; exact h.elim
  | succ n ih =>
    intro x0 x1 S L hw hL he hx0 h
    replace h : wb_X1_lowestGroup_2 (wp_X1_lowestGroup_2  P n)  P x0 x1 S := h
    unfold wb_X1_lowestGroup_2 at h
    refine g_iload_n C dX1_lowestGroup_2 rfl 1 rfl ?_
    refine g_aload_n C dX1_lowestGroup_3 rfl 0 rfl ?_
    refine gc_getI C iwx_X1 hL hx0 (by decide) (by decide) rfl 7 (by decide) (hW kw_223) rfl rfl rfl dX1_lowestGroup_4 ?_
    refine g_icmp_ge (tgt := 41) C dX1_lowestGroup_7 (by decide) (fun z1 => ?_) (fun z1 => ?_)
    · replace h := h.1 z1
      refine g_iconst (v := 0) C dX1_lowestGroup_41 (by decide) ?_
      exact gc_iret C hw hL he hr dX1_lowestGroup_42 h
    · replace h := h.2 z1
      refine g_aload_n C dX1_lowestGroup_10 rfl 0 rfl ?_
      refine gc_getR C hw iwx_X1 hL hx0 (by decide) (by decide) rfl 6 (by decide) (hW kw_221) rfl rfl rfl dX1_lowestGroup_11 (fun o2 eo2 ko2 => ?_)
      obtain ⟨b3, hb9, h⟩ := h
      have g4 : hK S b3 = 22 := ko2 b3 (eo2.trans hb9)
      replace h := h g4
      refine g_opt (eo2.trans hb9) ?_
      refine g_iload_n C dX1_lowestGroup_14 rfl 1 rfl ?_
      obtain ⟨g5, h⟩ := h
      refine gc_iald C hL g4 g5 dX1_lowestGroup_15 ?_
      refine g_iconst (v := 0) C dX1_lowestGroup_16 (by decide) ?_
      refine gc_calliSN (host := "FreightRater") C E hw hL [.int (hA S b3 (Int32.toNatClampNeg x1)), .int 0] rfl (k_X10_isIn l D T (hA S b3 (Int32.toNatClampNeg x1)) 0 S ) (w0_SN 2 E C.2.2.2.2.1 (by decide) kw_1204 kw_1 kw_1205 rfl rfl (by decide +kernel) ⟨Nat.le_of_ble_eq_true rfl, Nat.le_of_ble_eq_true rfl⟩) rfl (Nat.le_of_ble_eq_true rfl) (Nat.le_refl _) (Nat.le_refl _) (Nat.zero_le _) (Nat.zero_le _) dX1_lowestGroup_17 (fun v9 S9 L6 he9 hw9 hL9 hp => ?_)
      obtain ⟨hv9, hs9⟩ := hp
      replace hs9 := hs9.symm
      subst hs9
      replace hv9 := hv9.symm
      subst hv9
      have w9 := hL9
      refine g_if_eq (tgt := 35) C dX1_lowestGroup_20 (by decide) (fun z10 => ?_) (fun z10 => ?_)
      · replace h := h.1 z10
        obtain ⟨v11, ev11⟩ : ∃ y : Int32, y = x1 + 1 := ⟨_, rfl⟩
        replace h := h v11 ev11
        refine g_iinc (v := v11) (lv' := [(1, .int v11), (0, .ref x0)]) C dX1_lowestGroup_35 (j := 1) rfl (by rw [ev11]; rfl) (by decide) rfl ?_
        refine g_goto (tgt := 2) C dX1_lowestGroup_38 (by decide) ?_
        refine g_locals [1, 0] rfl ?_
        exact ih x0 v11 S L6 hw w9 he hx0 h
      · replace h := h.2 z10
        refine g_aload_n C dX1_lowestGroup_23 rfl 0 rfl ?_
        refine gc_getR C hw iwx_X1 w9 hx0 (by decide) (by decide) rfl 1 (by decide) (hW kw_214) rfl rfl rfl dX1_lowestGroup_24 (fun o12 eo12 ko12 => ?_)
        obtain ⟨b13, hb9, h⟩ := h
        have g14 : hK S b13 = 22 := ko12 b13 (eo12.trans hb9)
        replace h := h g14
        refine g_opt (eo12.trans hb9) ?_
        refine g_aload_n C dX1_lowestGroup_27 rfl 0 rfl ?_
        refine gc_getR C hw iwx_X1 w9 hx0 (by decide) (by decide) rfl 6 (by decide) (hW kw_221) rfl rfl rfl dX1_lowestGroup_28 (fun o15 eo15 ko15 => ?_)
        obtain ⟨b16, hb9, h⟩ := h
        have g17 : hK S b16 = 22 := ko15 b16 (eo15.trans hb9)
        replace h := h g17
        refine g_opt (eo15.trans hb9) ?_
        refine g_iload_n C dX1_lowestGroup_31 rfl 1 rfl ?_
        obtain ⟨g18, h⟩ := h
        refine gc_iald C w9 g17 g18 dX1_lowestGroup_32 ?_
        obtain ⟨g19, h⟩ := h
        refine gc_iald C w9 g14 g19 dX1_lowestGroup_33 ?_
        exact gc_iret C hw w9 he hr dX1_lowestGroup_34 h
def wp_X1_lowestGroup (P : Int32 → HS → Prop) (x0 : Nat) (S : HS) : Prop := ∃ k20 : Nat, wp_X1_lowestGroup_2  P k20 x0 0 S
set_option maxRecDepth 100000 in
set_option maxHeartbeats 4000000 in
theorem t_X1_lowestGroup {p : Program} {l : Launch} {e : Env} {s : State} {m : MethodId} {args : Array Value} {below : List Frame} {meth : Method} {c : Code} {D : va_G} {A : Nat → Prop} {T : Nat → ClassId} (C : GC p s m args meth c cX1_lowestGroup "FreightRater$Plan" (ws_X1_lowestGroup) 2 D A (zty T)) (E : GE T A s) (hr : meth.sig.returnType = (some .int)) (P : Int32 → HS → Prop) : ∀ (x0 : Nat) (S0 S : HS) (L : List Nat), S0 = S → wt S → hL S L → (hK S x0 = 2) → wp_X1_lowestGroup P x0 S → GW p l e { rm_X1_lowestGroup with cells := 0, slots := 0 } s m args below meth c D A 2 0 0 (MQ below (va_Qi (fun v (u : HS × List Nat) => P v u.1 ∧ CO S0 u) (CE D T A) A) args s 0 0 A) (CW T S L) 0 0 0 [(0, .ref x0)] [] := by
  have hW : ∀ {w : Cond}, w ∈ W0 → w.before args s = true := fun h => C.2.2.2.2.1 _ (List.mem_cons_of_mem _ h)
  intro x0 S0 S L hS0 hw hL hx0 h
  have he : ext S0 S := by rw [hS0]; exact ext_rf
  unfold wp_X1_lowestGroup at h
  refine g_iconst (v := 0) C dX1_lowestGroup_0 (by decide) ?_
  refine g_istore_n (lv' := [(1, .int 0), (0, .ref x0)]) C dX1_lowestGroup_1 rfl (by decide) rfl ?_
  refine g_locals [1, 0] rfl ?_
  obtain ⟨k20, h⟩ := h
  refine t_X1_lowestGroup_2 C E hr S0  P  k20 x0 0 S L hw hL he hx0 h
theorem c_X1_lowestGroup (l : Launch) (D : va_G) (T : Nat → ClassId) (x0 : Nat) (S : HS) (hx0 : hK S x0 = 2) (P : Int32 → HS → Prop) (h : wp_X1_lowestGroup P x0 S) : CMi l yX1_lowestGroup (ws_X1_lowestGroup) rm_X1_lowestGroup D T [.ref x0] S 0 0 P := gc_meti (by decide) rfl rfl (Nat.le_of_ble_eq_true rfl) (fun p e s m args below meth c A L C E hnm hr hw hL => t_X1_lowestGroup C E   hr P x0 S S L rfl hw hL hx0 h)
theorem has_b0 {g : Nat} (h : g < 1024) : hasF (nI g) 0 = 0 ↔ ¬ g.testBit 0 = true := has_0 (s := 0) h (by decide)
theorem rl_pl {P : Int32 → HS → Prop} {S : HS} {x : Nat} {a : Nat → Nat} {G : List Nat} (hO : PlO S x a) (hG : PlP S x a G) (hP : ∀ v S1, v = loP (hA S (a 0)) G ∧ S1 = S → P v S1) : ∀ (k i fuel : Nat), i + k = G.length → k < fuel → loP (hA S (a 0)) G = loP (hA S (a 0)) (G.drop i) → wp_X1_lowestGroup_2 P fuel x (nI i) S := by
  obtain ⟨h47, h8, hh⟩ := hG
  intro k
  induction k with
  | zero =>
    intro i fuel hi hf hr
    rw [List.drop_eq_nil_of_le (by omega)] at hr
    obtain ⟨f, rfl⟩ : ∃ f, fuel = f + 1 := ⟨fuel - 1, by omega⟩; rw [wp_X1_lowestGroup_2]; unfold wb_X1_lowestGroup_2; dsimp only
    rw [h47, nI_leI (by omega) (by omega)]
    exact ⟨fun _ => hP _ S ⟨hr.symm, rfl⟩, fun z9 => absurd (by omega) z9⟩
  | succ k ih =>
    intro i fuel hi hf hr
    obtain ⟨g1, g2⟩ := hh i (by omega)
    rw [gl_d hi, loP] at hr
    obtain ⟨f, rfl⟩ : ∃ f, fuel = f + 1 := ⟨fuel - 1, by omega⟩; rw [wp_X1_lowestGroup_2]; unfold wb_X1_lowestGroup_2; dsimp only
    rw [h47, nI_leI (by omega) (by omega), nI_1]
    refine ⟨fun z9 => absurd z9 (by omega), fun _ => ⟨a 5, hO.pts, fun _ => ?_⟩⟩
    rw [hO.n5, nz_vp (by omega) (by decide), nI_clamp (n := i) (by omega), g1, has_b0 (by omega)]
    refine ⟨by omega, fun c v11 e11 => ?_, fun c => ⟨a 0, hO.sets, fun _ => ⟨a 5, hO.pts, fun _ => ?_⟩⟩⟩
    · subst e11
      rw [if_neg c] at hr
      exact ih (i + 1) f (by omega) (by omega) hr
    · rw [if_pos (Decidable.byContradiction c)] at hr
      rw [hO.n5, nz_vp (by omega) (by decide), g1, hO.n (show 0 < 5 by omega), nz_vp (by omega) (by decide), nI_clamp (n := gl G i) (by omega)]
      exact ⟨by omega, g2, hP _ S ⟨hr.symm, rfl⟩⟩
theorem k_X1_lowestGroup (l : Launch) (D : va_G) (T : Nat → ClassId) (x0 : Nat) (S : HS) (e0 : Nat → Nat) (e1 : List Nat) (hx0 : hK S x0 = 2) (h : PlO S x0 e0 ∧ PlP S x0 e0 e1) : CMi l yX1_lowestGroup (ws_X1_lowestGroup) rm_X1_lowestGroup D T [.ref x0] S 0 0 (fun v S1 => v = (loP (hA S (e0 0)) e1) ∧ S1 = S) := c_X1_lowestGroup l D T x0 S hx0 _ <|
  (by
    obtain ⟨hO, hG⟩ := h
    have h8 := hG.2.1
    unfold wp_X1_lowestGroup
    exact ⟨20, rl_pl hO hG (fun v S1 h9 => h9) e1.length 0 20 (by omega) (by omega) rfl⟩)
abbrev ws_X1_savingOf : List Cond := Cond.code yX1_savingOf cX1_savingOf 4 (some .int) :: W0
abbrev rm_X1_savingOf : Room := ({ frames := 0, cells := 0, slots := 0, locals := 0 } : Room)
def wp_X1_savingOf (P : Int32 → HS → Prop) (x0 : Nat) (p0 : Int32) (p1 : Int32) (S : HS) : Prop := ∃ b2 : Nat, hR S 42 x0 = some b2 ∧ (hK S b2 = 22 → (vp_in (p0 ||| p1) (hN S b2) ∧ (∀ v5 : Int32, v5 = (hA S b2 (Int32.toNatClampNeg (p0 ||| p1))) → ((¬ v5 = (-1) → (∃ b8 : Nat, hR S 42 x0 = some b8 ∧ (hK S b8 = 22 → (vp_in p0 (hN S b8) ∧ (∃ b12 : Nat, hR S 42 x0 = some b12 ∧ (hK S b12 = 22 → (vp_in p1 (hN S b12) ∧ (P (((hA S b8 (Int32.toNatClampNeg p0)) + (hA S b12 (Int32.toNatClampNeg p1))) - v5) S)))))))) ∧ (v5 = (-1) → (P 0 S))))))
set_option maxRecDepth 100000 in
set_option maxHeartbeats 4000000 in
theorem t_X1_savingOf {p : Program} {l : Launch} {e : Env} {s : State} {m : MethodId} {args : Array Value} {below : List Frame} {meth : Method} {c : Code} {D : va_G} {A : Nat → Prop} {T : Nat → ClassId} (C : GC p s m args meth c cX1_savingOf "FreightRater$Plan" (ws_X1_savingOf) 4 D A (zty T)) (E : GE T A s) (hr : meth.sig.returnType = (some .int)) (P : Int32 → HS → Prop) : ∀ (x0 : Nat) (p0 : Int32) (p1 : Int32) (S0 S : HS) (L : List Nat), S0 = S → wt S → hL S L → (hK S x0 = 2) → wp_X1_savingOf P x0 p0 p1 S → GW p l e { rm_X1_savingOf with cells := 0, slots := 0 } s m args below meth c D A 4 0 0 (MQ below (va_Qi (fun v (u : HS × List Nat) => P v u.1 ∧ CO S0 u) (CE D T A) A) args s 0 0 A) (CW T S L) 0 0 0 [(0, .ref x0), (1, .int p0), (2, .int p1)] [] := by
  have hW : ∀ {w : Cond}, w ∈ W0 → w.before args s = true := fun h => C.2.2.2.2.1 _ (List.mem_cons_of_mem _ h)
  intro x0 p0 p1 S0 S L hS0 hw hL hx0 h
  have he : ext S0 S := by rw [hS0]; exact ext_rf
  unfold wp_X1_savingOf at h
  refine g_aload_n C dX1_savingOf_0 rfl 0 rfl ?_
  refine gc_getR C hw iwx_X1 hL hx0 (by decide) (by decide) rfl 2 (by decide) (hW kw_216) rfl rfl rfl dX1_savingOf_1 (fun o1 eo1 ko1 => ?_)
  obtain ⟨b2, hb9, h⟩ := h
  have g3 : hK S b2 = 22 := ko1 b2 (eo1.trans hb9)
  replace h := h g3
  refine g_opt (eo1.trans hb9) ?_
  refine g_iload_n C dX1_savingOf_4 rfl 1 rfl ?_
  refine g_iload_n C dX1_savingOf_5 rfl 2 rfl ?_
  refine g_ior C dX1_savingOf_6 ?_
  obtain ⟨g4, h⟩ := h
  refine gc_iald C hL g3 g4 dX1_savingOf_7 ?_
  refine g_topi (fun v5 ev5 => ?_)
  replace h := h v5 ev5
  refine g_istore_n (lv' := [(3, .int v5), (0, .ref x0), (1, .int p0), (2, .int p1)]) C dX1_savingOf_8 rfl (by decide) rfl ?_
  refine g_iload_n C dX1_savingOf_9 rfl 0 rfl ?_
  refine g_iconst (v := -1) C dX1_savingOf_10 (by decide) ?_
  refine g_icmp_ne (tgt := 18) C dX1_savingOf_11 (by decide) (fun z6 => ?_) (fun z6 => ?_)
  · replace h := h.1 z6
    refine g_aload_n C dX1_savingOf_18 rfl 1 rfl ?_
    refine gc_getR C hw iwx_X1 hL hx0 (by decide) (by decide) rfl 2 (by decide) (hW kw_216) rfl rfl rfl dX1_savingOf_19 (fun o7 eo7 ko7 => ?_)
    obtain ⟨b8, hb9, h⟩ := h
    have g9 : hK S b8 = 22 := ko7 b8 (eo7.trans hb9)
    replace h := h g9
    refine g_opt (eo7.trans hb9) ?_
    refine g_iload_n C dX1_savingOf_22 rfl 2 rfl ?_
    obtain ⟨g10, h⟩ := h
    refine gc_iald C hL g9 g10 dX1_savingOf_23 ?_
    refine g_aload_n C dX1_savingOf_24 rfl 1 rfl ?_
    refine gc_getR C hw iwx_X1 hL hx0 (by decide) (by decide) rfl 2 (by decide) (hW kw_216) rfl rfl rfl dX1_savingOf_25 (fun o11 eo11 ko11 => ?_)
    obtain ⟨b12, hb9, h⟩ := h
    have g13 : hK S b12 = 22 := ko11 b12 (eo11.trans hb9)
    replace h := h g13
    refine g_opt (eo11.trans hb9) ?_
    refine g_iload_n C dX1_savingOf_28 rfl 3 rfl ?_
    obtain ⟨g14, h⟩ := h
    refine gc_iald C hL g13 g14 dX1_savingOf_29 ?_
    refine g_iadd C dX1_savingOf_30 ?_
    refine g_iload_n C dX1_savingOf_31 rfl 0 rfl ?_
    refine g_isub C dX1_savingOf_32 ?_
    exact gc_iret C hw hL he hr dX1_savingOf_33 h
  · replace h := h.2 z6
    refine g_iconst (v := 0) C dX1_savingOf_14 (by decide) ?_
    refine g_goto (tgt := 33) C dX1_savingOf_15 (by decide) ?_
    exact gc_iret C hw hL he hr dX1_savingOf_33 h
theorem c_X1_savingOf (l : Launch) (D : va_G) (T : Nat → ClassId) (x0 : Nat) (p0 : Int32) (p1 : Int32) (S : HS) (hx0 : hK S x0 = 2) (P : Int32 → HS → Prop) (h : wp_X1_savingOf P x0 p0 p1 S) : CMi l yX1_savingOf (ws_X1_savingOf) rm_X1_savingOf D T [.ref x0, .int p0, .int p1] S 0 0 P := gc_meti (by decide) rfl rfl (Nat.le_of_ble_eq_true rfl) (fun p e s m args below meth c A L C E hnm hr hw hL => t_X1_savingOf C E   hr P x0 p0 p1 S S L rfl hw hL hx0 h)
theorem or_256 {a b : Nat} (h : a < 256) (h2 : b < 256) : a ||| b < 256 := Nat.or_lt_two_pow (n := 8) h h2
theorem k_X1_savingOf (l : Launch) (D : va_G) (T : Nat → ClassId) (x0 : Nat) (p0 : Int32) (p1 : Int32) (S : HS) (e0 : Nat → Nat) (hx0 : hK S x0 = 2) (h : PlO S x0 e0 ∧ (∃ w : Nat, w < 256 ∧ p0 = nI w) ∧ ∃ w : Nat, w < 256 ∧ p1 = nI w) : CMi l yX1_savingOf (ws_X1_savingOf) rm_X1_savingOf D T [.ref x0, .int p0, .int p1] S 0 0 (fun v S1 => v = ((if hA S (e0 1) (iv p0 ||| iv p1) = -1 then 0 else hA S (e0 1) (iv p0) + hA S (e0 1) (iv p1) - hA S (e0 1) (iv p0 ||| iv p1))) ∧ S1 = S) := c_X1_savingOf l D T x0 p0 p1 S hx0 _ <|
  (by
    obtain ⟨hO, ⟨u, hu, eu⟩, w, hw, ew⟩ := h
    subst eu ew
    have huw := or_256 hu hw
    rw [show iv (nI u) = u from nI_clamp (by omega), show iv (nI w) = w from nI_clamp (by omega)]
    unfold wp_X1_savingOf
    rw [nI_or, nI_clamp (n := u) (by omega), nI_clamp (n := w) (by omega), nI_clamp (n := u ||| w) (by omega)]
    refine ⟨e0 1, hO.tots, fun _ => ?_⟩
    rw [hO.n (show 1 < 5 by omega), nz_vp (by omega) (by decide)]
    refine ⟨huw, fun v5 e5 => ?_⟩
    subst e5
    refine ⟨fun c => ⟨e0 1, hO.tots, fun _ => ?_⟩, fun c => ⟨by rw [if_pos c], rfl⟩⟩
    rw [hO.n (show 1 < 5 by omega), nz_vp (by omega) (by decide)]
    refine ⟨hu, e0 1, hO.tots, fun _ => ?_⟩
    rw [hO.n (show 1 < 5 by omega), nz_vp (by omega) (by decide)]
    exact ⟨hw, by rw [if_neg c], rfl⟩)
abbrev ws_X1_comesBefore : List Cond := Cond.code yX1_comesBefore cX1_comesBefore 5 (some .boolean) :: W0
abbrev rm_X1_comesBefore : Room := ({ frames := 0, cells := 0, slots := 0, locals := 0 } : Room)
def wp_X1_comesBefore (P : Int32 → HS → Prop) (x0 : Nat) (p0 : Int32) (p1 : Int32) (p2 : Int32) (p3 : Int32) (S : HS) : Prop := ∃ b2 : Nat, hR S 46 x0 = some b2 ∧ (hK S b2 = 22 → (vp_in p0 (hN S b2) ∧ (∃ b6 : Nat, hR S 46 x0 = some b6 ∧ (hK S b6 = 22 → (vp_in p2 (hN S b6) ∧ (((hA S b2 (Int32.toNatClampNeg p0)) = (hA S b6 (Int32.toNatClampNeg p2)) → (∃ b11 : Nat, hR S 46 x0 = some b11 ∧ (hK S b11 = 22 → (vp_in p1 (hN S b11) ∧ (∃ b15 : Nat, hR S 46 x0 = some b15 ∧ (hK S b15 = 22 → (vp_in p3 (hN S b15) ∧ (((hA S b15 (Int32.toNatClampNeg p3)) ≤ (hA S b11 (Int32.toNatClampNeg p1)) → (P 0 S)) ∧ (¬ (hA S b15 (Int32.toNatClampNeg p3)) ≤ (hA S b11 (Int32.toNatClampNeg p1)) → (P 1 S)))))))))) ∧ (¬ (hA S b2 (Int32.toNatClampNeg p0)) = (hA S b6 (Int32.toNatClampNeg p2)) → (∃ b20 : Nat, hR S 46 x0 = some b20 ∧ (hK S b20 = 22 → (vp_in p0 (hN S b20) ∧ (∃ b24 : Nat, hR S 46 x0 = some b24 ∧ (hK S b24 = 22 → (vp_in p2 (hN S b24) ∧ (((hA S b24 (Int32.toNatClampNeg p2)) ≤ (hA S b20 (Int32.toNatClampNeg p0)) → (P 0 S)) ∧ (¬ (hA S b24 (Int32.toNatClampNeg p2)) ≤ (hA S b20 (Int32.toNatClampNeg p0)) → (P 1 S))))))))))))))))
set_option maxRecDepth 100000 in
set_option maxHeartbeats 4000000 in
theorem t_X1_comesBefore {p : Program} {l : Launch} {e : Env} {s : State} {m : MethodId} {args : Array Value} {below : List Frame} {meth : Method} {c : Code} {D : va_G} {A : Nat → Prop} {T : Nat → ClassId} (C : GC p s m args meth c cX1_comesBefore "FreightRater$Plan" (ws_X1_comesBefore) 5 D A (zty T)) (E : GE T A s) (hr : meth.sig.returnType = (some .boolean)) (P : Int32 → HS → Prop) : ∀ (x0 : Nat) (p0 : Int32) (p1 : Int32) (p2 : Int32) (p3 : Int32) (S0 S : HS) (L : List Nat), S0 = S → wt S → hL S L → (hK S x0 = 2) → wp_X1_comesBefore P x0 p0 p1 p2 p3 S → GW p l e { rm_X1_comesBefore with cells := 0, slots := 0 } s m args below meth c D A 5 0 0 (MQ below (va_Qi (fun v (u : HS × List Nat) => P v u.1 ∧ CO S0 u) (CE D T A) A) args s 0 0 A) (CW T S L) 0 0 0 [(0, .ref x0), (1, .int p0), (2, .int p1), (3, .int p2), (4, .int p3)] [] := by
  have hW : ∀ {w : Cond}, w ∈ W0 → w.before args s = true := fun h => C.2.2.2.2.1 _ (List.mem_cons_of_mem _ h)
  intro x0 p0 p1 p2 p3 S0 S L hS0 hw hL hx0 h
  have he : ext S0 S := by rw [hS0]; exact ext_rf
  unfold wp_X1_comesBefore at h
  refine g_aload_n C dX1_comesBefore_0 rfl 0 rfl ?_
  refine gc_getR C hw iwx_X1 hL hx0 (by decide) (by decide) rfl 6 (by decide) (hW kw_221) rfl rfl rfl dX1_comesBefore_1 (fun o1 eo1 ko1 => ?_)
  obtain ⟨b2, hb9, h⟩ := h
  have g3 : hK S b2 = 22 := ko1 b2 (eo1.trans hb9)
  replace h := h g3
  refine g_opt (eo1.trans hb9) ?_
  refine g_iload_n C dX1_comesBefore_4 rfl 1 rfl ?_
  obtain ⟨g4, h⟩ := h
  refine gc_iald C hL g3 g4 dX1_comesBefore_5 ?_
  refine g_aload_n C dX1_comesBefore_6 rfl 0 rfl ?_
  refine gc_getR C hw iwx_X1 hL hx0 (by decide) (by decide) rfl 6 (by decide) (hW kw_221) rfl rfl rfl dX1_comesBefore_7 (fun o5 eo5 ko5 => ?_)
  obtain ⟨b6, hb9, h⟩ := h
  have g7 : hK S b6 = 22 := ko5 b6 (eo5.trans hb9)
  replace h := h g7
  refine g_opt (eo5.trans hb9) ?_
  refine g_iload_n C dX1_comesBefore_10 rfl 3 rfl ?_
  obtain ⟨g8, h⟩ := h
  refine gc_iald C hL g7 g8 dX1_comesBefore_11 ?_
  refine g_icmp_eq (tgt := 36) C dX1_comesBefore_12 (by decide) (fun z9 => ?_) (fun z9 => ?_)
  · replace h := h.1 z9
    refine g_aload_n C dX1_comesBefore_36 rfl 0 rfl ?_
    refine gc_getR C hw iwx_X1 hL hx0 (by decide) (by decide) rfl 6 (by decide) (hW kw_221) rfl rfl rfl dX1_comesBefore_37 (fun o10 eo10 ko10 => ?_)
    obtain ⟨b11, hb9, h⟩ := h
    have g12 : hK S b11 = 22 := ko10 b11 (eo10.trans hb9)
    replace h := h g12
    refine g_opt (eo10.trans hb9) ?_
    refine g_iload_n C dX1_comesBefore_40 rfl 2 rfl ?_
    obtain ⟨g13, h⟩ := h
    refine gc_iald C hL g12 g13 dX1_comesBefore_41 ?_
    refine g_aload_n C dX1_comesBefore_42 rfl 0 rfl ?_
    refine gc_getR C hw iwx_X1 hL hx0 (by decide) (by decide) rfl 6 (by decide) (hW kw_221) rfl rfl rfl dX1_comesBefore_43 (fun o14 eo14 ko14 => ?_)
    obtain ⟨b15, hb9, h⟩ := h
    have g16 : hK S b15 = 22 := ko14 b15 (eo14.trans hb9)
    replace h := h g16
    refine g_opt (eo14.trans hb9) ?_
    refine g_iload C dX1_comesBefore_46 4 rfl ?_
    obtain ⟨g17, h⟩ := h
    refine gc_iald C hL g16 g17 dX1_comesBefore_48 ?_
    refine g_icmp_ge (tgt := 56) C dX1_comesBefore_49 (by decide) (fun z18 => ?_) (fun z18 => ?_)
    · replace h := h.1 z18
      refine g_iconst (v := 0) C dX1_comesBefore_56 (by decide) ?_
      exact gc_zret C vz0 hw hL he hr dX1_comesBefore_57 h
    · replace h := h.2 z18
      refine g_iconst (v := 1) C dX1_comesBefore_52 (by decide) ?_
      refine g_goto (tgt := 57) C dX1_comesBefore_53 (by decide) ?_
      exact gc_zret C vz1 hw hL he hr dX1_comesBefore_57 h
  · replace h := h.2 z9
    refine g_aload_n C dX1_comesBefore_15 rfl 0 rfl ?_
    refine gc_getR C hw iwx_X1 hL hx0 (by decide) (by decide) rfl 6 (by decide) (hW kw_221) rfl rfl rfl dX1_comesBefore_16 (fun o19 eo19 ko19 => ?_)
    obtain ⟨b20, hb9, h⟩ := h
    have g21 : hK S b20 = 22 := ko19 b20 (eo19.trans hb9)
    replace h := h g21
    refine g_opt (eo19.trans hb9) ?_
    refine g_iload_n C dX1_comesBefore_19 rfl 1 rfl ?_
    obtain ⟨g22, h⟩ := h
    refine gc_iald C hL g21 g22 dX1_comesBefore_20 ?_
    refine g_aload_n C dX1_comesBefore_21 rfl 0 rfl ?_
    refine gc_getR C hw iwx_X1 hL hx0 (by decide) (by decide) rfl 6 (by decide) (hW kw_221) rfl rfl rfl dX1_comesBefore_22 (fun o23 eo23 ko23 => ?_)
    obtain ⟨b24, hb9, h⟩ := h
    have g25 : hK S b24 = 22 := ko23 b24 (eo23.trans hb9)
    replace h := h g25
    refine g_opt (eo23.trans hb9) ?_
    refine g_iload_n C dX1_comesBefore_25 rfl 3 rfl ?_
    obtain ⟨g26, h⟩ := h
    refine gc_iald C hL g25 g26 dX1_comesBefore_26 ?_
    refine g_icmp_ge (tgt := 34) C dX1_comesBefore_27 (by decide) (fun z27 => ?_) (fun z27 => ?_)
    · replace h := h.1 z27
      refine g_iconst (v := 0) C dX1_comesBefore_34 (by decide) ?_
      exact gc_zret C vz0 hw hL he hr dX1_comesBefore_35 h
    · replace h := h.2 z27
      refine g_iconst (v := 1) C dX1_comesBefore_30 (by decide) ?_
      refine g_goto (tgt := 35) C dX1_comesBefore_31 (by decide) ?_
      exact gc_zret C vz1 hw hL he hr dX1_comesBefore_35 h
theorem c_X1_comesBefore (l : Launch) (D : va_G) (T : Nat → ClassId) (x0 : Nat) (p0 : Int32) (p1 : Int32) (p2 : Int32) (p3 : Int32) (S : HS) (hx0 : hK S x0 = 2) (P : Int32 → HS → Prop) (h : wp_X1_comesBefore P x0 p0 p1 p2 p3 S) : CMi l yX1_comesBefore (ws_X1_comesBefore) rm_X1_comesBefore D T [.ref x0, .int p0, .int p1, .int p2, .int p3] S 0 0 P := gc_meti (by decide) rfl rfl (Nat.le_of_ble_eq_true rfl) (fun p e s m args below meth c A L C E hnm hr hw hL => t_X1_comesBefore C E   hr P x0 p0 p1 p2 p3 S S L rfl hw hL hx0 h)
theorem k_X1_comesBefore (l : Launch) (D : va_G) (T : Nat → ClassId) (x0 : Nat) (p0 : Int32) (p1 : Int32) (p2 : Int32) (p3 : Int32) (S : HS) (e0 : Nat → Nat) (e1 : List Nat) (hx0 : hK S x0 = 2) (h : PlO S x0 e0 ∧ PlP S x0 e0 e1 ∧ (∃ i : Nat, i < e1.length ∧ p0 = nI i) ∧ (∃ i : Nat, i < e1.length ∧ p1 = nI i) ∧ (∃ i : Nat, i < e1.length ∧ p2 = nI i) ∧ (∃ i : Nat, i < e1.length ∧ p3 = nI i)) : CMi l yX1_comesBefore (ws_X1_comesBefore) rm_X1_comesBefore D T [.ref x0, .int p0, .int p1, .int p2, .int p3] S 0 0 (fun v S1 => v = (b2i (decide (gl e1 (iv p0) < gl e1 (iv p2)) || (decide (gl e1 (iv p0) = gl e1 (iv p2)) && decide (gl e1 (iv p1) < gl e1 (iv p3))))) ∧ S1 = S) := c_X1_comesBefore l D T x0 p0 p1 p2 p3 S hx0 _ <|
  (by
    obtain ⟨hO, ⟨h47, h8, hh⟩, ⟨i, hi, ei⟩, ⟨j, hj, ej⟩, ⟨k, hk, ek⟩, m, hm, em⟩ := h
    subst ei ej ek em
    obtain ⟨gi, gi2⟩ := hh i hi
    obtain ⟨gj, gj2⟩ := hh j hj
    obtain ⟨gk, gk2⟩ := hh k hk
    obtain ⟨gm, gm2⟩ := hh m hm
    have vi : ∀ n : Nat, n < e1.length → vp_in (nI n) (hN S (e0 5)) := fun n hn => by rw [hO.n5, nz_vp (by omega) (by decide)]; omega
    rw [show iv (nI i) = i from nI_clamp (by omega), show iv (nI j) = j from nI_clamp (by omega), show iv (nI k) = k from nI_clamp (by omega), show iv (nI m) = m from nI_clamp (by omega)]
    unfold wp_X1_comesBefore
    rw [nI_clamp (n := i) (by omega), nI_clamp (n := j) (by omega), nI_clamp (n := k) (by omega), nI_clamp (n := m) (by omega)]
    refine ⟨e0 5, hO.pts, fun _ => ⟨vi i hi, e0 5, hO.pts, fun _ => ⟨vi k hk, ?_⟩⟩⟩
    rw [gi, gk, nI_eq (by omega) (by omega)]
    refine ⟨fun c => ⟨e0 5, hO.pts, fun _ => ⟨vi j hj, e0 5, hO.pts, fun _ => ⟨vi m hm, ?_⟩⟩⟩, fun c => ⟨e0 5, hO.pts, fun _ => ⟨vi i hi, e0 5, hO.pts, fun _ => ⟨vi k hk, ?_⟩⟩⟩⟩
    · rw [gj, gm, nI_leI (by omega) (by omega), decide_eq_false (show ¬ gl e1 i < gl e1 k by omega), decide_eq_true c, Bool.false_or, Bool.true_and]
      exact ⟨fun c2 => ⟨b2i_n (decide_eq_false (by omega)), rfl⟩, fun c2 => ⟨b2i_1 (decide_eq_true (by omega)), rfl⟩⟩
    · rw [gi, gk, nI_leI (by omega) (by omega), decide_eq_false c, Bool.false_and, Bool.or_false]
      exact ⟨fun c2 => ⟨b2i_n (decide_eq_false (by omega)), rfl⟩, fun c2 => ⟨b2i_1 (decide_eq_true (by omega)), rfl⟩⟩)

end S_C2A
