section S_C8D
abbrev ws_X3_readText : List Cond := Cond.code yX3_readText cX3_readText 3 (some (.object "java/util/ArrayList")) :: W0
abbrev rm_X3_readText : Room := ({ frames := 22, cells := 0, slots := 0, locals := 807 } : Room)
def wb_X3_readText_10 (T : Nat → ClassId) (rec : Nat → Nat → Int32 → HS → Nat → Nat → Prop) (P : Option Nat → HS → Prop) (x0 : Nat) (x1 : Nat) (x2 : Int32) (S : HS) (kc ks : Nat) : Prop := ((hI S 81 x0) < x2 → (P (some x1) S)) ∧ (¬ (hI S 81 x0) < x2 → (∃ cc24 cc25 : Nat, (cc24 ≤ kc ∧ cc25 ≤ ks) ∧ (∃ (m27 : Nat → Int32) (m28 : Nat) (m29 : PS) (m30 : (Nat → Prop)), ((RdO S x0 m27 m28 m29 ∧ chO m27 m28 ∧ m29.2 = false ∧ hK S (T 120) = 30 ∧ hN S (T 120) = 0 ∧ (∀ b, m30 b → hK S b ≠ 0) ∧ ¬ m30 (T 120) ∧ 3 + 2 * (stR m27 m28 m29).1.2.1.1.length ≤ cc24 ∧ 13 + 405 * (stR m27 m28 m29).1.2.1.1.length ≤ cc25) ∧ (∀ (o37 : Option Nat) (S32 : HS), ext S S32 → (∀ b, o37 = some b → hK S32 b = 8) → (frM S S32 (fun b => b = x0) ∧ RdO S32 x0 m27 m28 (stR m27 m28 m29).2 ∧ ∃ y, o37 = some y ∧ hK S y = 0 ∧ ((stR m27 m28 m29).2.2 = false → StmR S32 m30 y (stR m27 m28 m29).1)) → (∃ b41 : Nat, o37 = some b41 ∧ (hK S32 b41 = 8 → (∃ cc43 cc44 : Nat, (cc43 ≤ (kc - cc24) ∧ cc44 ≤ (ks - cc25)) ∧ (∃ (m46 : Nat → Nat) (m47 : Nat), ((LiO S32 (T 120) x1 m47 8 m46 ∧ m47 ≤ 100 ∧ hK S32 (T 120) = 30 ∧ hN S32 (T 120) = 0 ∧ 1 ≤ cc43 ∧ 400 ≤ cc44) ∧ (∀ (v54 : Int32) (S49 : HS), ext S32 S49 → (v54 = 1 ∧ LiO S49 (T 120) x1 (m47 + 1) 8 (fun j => if j = m47 then b41 else m46 j) ∧ frM S32 S49 (liA S32 x1) ∧ (∃ b, hR S49 261 x1 = some b ∧ (hK S32 b = 0 ∨ liA S32 x1 b))) → (∃ (m58 : Nat → Int32) (m59 : Nat) (m60 : PS), ((RdO S49 x0 m58 m59 m60 ∧ ¬ 59 = (-1 : Int32)) ∧ (∀ (v67 : Int32) (S62 : HS), ext S49 S62 → (v67 = b2i (tkB m58 m59 m60 59) ∧ c3 S49 S62 x0 [82, 83] ∧ RdO S62 x0 m58 m59 (tkS m58 m59 m60 59)) → ((¬ v67 = 0 → (∀ v72 : Int32, v72 = x2 + 1 → (rec x0 x1 v72 S62 ((kc - cc24) - cc43) ((ks - cc25) - cc44)))) ∧ (v67 = 0 → (P (some x1) S62)))))))))))))))))
def wp_X3_readText_10 (T : Nat → ClassId) (P : Option Nat → HS → Prop) : Nat → Nat → Nat → Int32 → HS → Nat → Nat → Prop
  | 0 => fun _ _ _ _ _ _ => False
  | n + 1 => fun x0 x1 x2 S kc ks => wb_X3_readText_10 T (wp_X3_readText_10 T  P n)  P x0 x1 x2 S kc ks
set_option maxRecDepth 100000 in
set_option maxHeartbeats 4000000 in
theorem t_X3_readText_10 {p : Program} {l : Launch} {e : Env} {s : State} {m : MethodId} {args : Array Value} {below : List Frame} {meth : Method} {c : Code} {D : va_G} {A : Nat → Prop} {T : Nat → ClassId} {mc ms : Nat} (C : GC p s m args meth c cX3_readText "FreightRater$Reader" (ws_X3_readText) 3 D A (zty T)) (E : GE T A s) (hr : meth.sig.returnType = (some (.object "java/util/ArrayList"))) (S0 : HS) (P : Option Nat → HS → Prop) : ∀ (n : Nat) (x0 : Nat) (x1 : Nat) (x2 : Int32) (S : HS) (kc ks : Nat) (L : List Nat), wt S → hL S L → ext S0 S → (hK S x0 = 4) → (hK S x1 = 13) → wp_X3_readText_10 T  P n x0 x1 x2 S kc ks → GW p l e { rm_X3_readText with cells := mc, slots := ms } s m args below meth c D A 3 mc ms (MQ below (va_Qq (fun v (u : HS × List Nat) => (P v u.1 ∧ ∀ b, v = some b → hK u.1 b = 13) ∧ CO S0 u) (CE D T A) A) args s mc ms A) (CW T S L) kc ks 10 [(0, .ref x0), (1, .ref x1), (2, .int x2)] [] := by
  have hW : ∀ {w : Cond}, w ∈ W0 → w.before args s = true := fun h => C.2.2.2.2.1 _ (List.mem_cons_of_mem _ h)
  intro n
  induction n with
  | zero => intro x0 x1 x2 S kc ks L hw hL he hx0 hx1 h; exact h.elim
  | succ n ih =>
    intro x0 x1 x2 S kc ks L hw hL he hx0 hx1 h
    replace h : wb_X3_readText_10 T (wp_X3_readText_10 T  P n)  P x0 x1 x2 S kc ks := h
    unfold wb_X3_readText_10 at h
    refine g_iload_n C dX3_readText_10 rfl 2 rfl ?_
    refine g_aload_n C dX3_readText_11 rfl 0 rfl ?_
    refine gc_getI C iwx_X3 hL hx0 (by decide) (by decide) rfl 1 (by decide) (hW kw_544) rfl rfl rfl dX3_readText_12 ?_
    refine g_icmp_gt (tgt := 45) C dX3_readText_15 (by decide) (fun z23 => ?_) (fun z23 => ?_)
    · replace h := h.1 z23
      refine g_aload_n C dX3_readText_45 rfl 1 rfl ?_
      exact gc_aret (v := (some x1)) (kd := 13) C (Or.inl ⟨_, rfl⟩) (fun b hb => by cases hb; exact hx1) hw hL he hr dX3_readText_46 h
    · replace h := h.2 z23
      refine g_aload_n C dX3_readText_18 rfl 1 rfl ?_
      refine g_aload_n C dX3_readText_19 rfl 0 rfl ?_
      obtain ⟨cc24, cc25, g26, h⟩ := h
      obtain ⟨m27, m28, m29, m30, h⟩ := h
      obtain ⟨g31, h⟩ := h
      refine gc_callqV (host := "") C E hw hL hx0 (by decide) (by decide) rfl [] rfl (k_X3_readStatement l D T x0 S m27 m28 m29 m30 cc24 cc25 hx0 g31) (w0_V 0 C.2.2.2.2.1 kw_587 kw_589 ks_2 kw_19 kw_590 rfl rfl (by decide +kernel) ⟨Nat.le_of_ble_eq_true rfl, Nat.le_of_ble_eq_true rfl⟩) rfl (Nat.le_of_ble_eq_true rfl) (Nat.le_refl _) (Nat.le_refl _) g26.1 g26.2 dX3_readText_20 (fun o37 S32 L33 e34 w35 w36 ko37 hp => ?_)
      replace h := h o37 S32 e34 ko37 hp
      have g38 := ext_K e34 hx1 (by decide)
      have g39 := ext_K e34 hx0 (by decide)
      have w40 := ext_tr he e34
      obtain ⟨b41, rfl, h⟩ := h
      have g42 : hK S32 b41 = 8 := ko37 b41 rfl
      replace h := h g42
      obtain ⟨cc43, cc44, g45, h⟩ := h
      obtain ⟨m46, m47, h⟩ := h
      obtain ⟨g48, h⟩ := h
      refine gc_calliV (host := "") C E w35 w36 g38 (by decide) (by decide) rfl [.ref b41] rfl (k_Jx4a65c_add_9ea2d l D T x1 b41 8 S32 m46 m47 cc43 cc44 g38 g42 (Or.inl rfl) g48) (w0_V 1 C.2.2.2.2.1 kw_870 kw_806 kw_807 kw_22 kw_808 rfl rfl (by decide +kernel) ⟨Nat.le_of_ble_eq_true rfl, Nat.le_of_ble_eq_true rfl⟩) rfl (Nat.le_of_ble_eq_true rfl) (Nat.le_refl _) (Nat.le_refl _) g45.1 g45.2 dX3_readText_23 (fun v54 S49 L50 e51 w52 w53 hp => ?_)
      replace h := h v54 S49 e51 hp
      have g55 := ext_K e51 g39 (by decide)
      have g56 := ext_K e51 g38 (by decide)
      have w57 := ext_tr w40 e51
      refine g_pop C dX3_readText_26 rfl ?_
      refine g_aload_n C dX3_readText_27 rfl 0 rfl ?_
      refine g_bipush (v := 59) C dX3_readText_28 (by decide) ?_
      obtain ⟨m58, m59, m60, h⟩ := h
      obtain ⟨g61, h⟩ := h
      refine gc_calliV (host := "") C E w52 w53 g55 (by decide) (by decide) rfl [.int 59] rfl (k_X3_take l D T x0 59 S49 m58 m59 m60 g55 g61) (w0_V 1 C.2.2.2.2.1 kw_719 kw_721 ks_7 kw_19 kw_722 rfl rfl (by decide +kernel) ⟨Nat.le_of_ble_eq_true rfl, Nat.le_of_ble_eq_true rfl⟩) rfl (Nat.le_of_ble_eq_true rfl) (Nat.le_refl _) (Nat.le_refl _) (Nat.zero_le _) (Nat.zero_le _) dX3_readText_30 (fun v67 S62 L63 e64 w65 w66 hp => ?_)
      replace h := h v67 S62 e64 hp
      have g68 := ext_K e64 g55 (by decide)
      have g69 := ext_K e64 g56 (by decide)
      have w70 := ext_tr w57 e64
      refine g_if_ne (tgt := 39) C dX3_readText_33 (by decide) (fun z71 => ?_) (fun z71 => ?_)
      · replace h := h.1 z71
        obtain ⟨v72, ev72⟩ : ∃ y : Int32, y = x2 + 1 := ⟨_, rfl⟩
        replace h := h v72 ev72
        refine g_iinc (v := v72) (lv' := [(2, .int v72), (0, .ref x0), (1, .ref x1)]) C dX3_readText_39 (j := 2) rfl (by rw [ev72]; rfl) (by decide) rfl ?_
        refine g_goto (tgt := 10) C dX3_readText_42 (by decide) ?_
        refine g_locals [1, 2, 0] rfl ?_
        exact ih x0 x1 v72 S62 ((kc - cc24) - cc43) ((ks - cc25) - cc44) L63 w65 w66 w70 g68 g69 h
      · replace h := h.2 z71
        refine g_goto (tgt := 45) C dX3_readText_36 (by decide) ?_
        refine g_aload_n C dX3_readText_45 rfl 1 rfl ?_
        exact gc_aret (v := (some x1)) (kd := 13) C (Or.inl ⟨_, rfl⟩) (fun b hb => by cases hb; exact g69) w65 w66 w70 hr dX3_readText_46 h
def wp_X3_readText (T : Nat → ClassId) (P : Option Nat → HS → Prop) (x0 : Nat) (S : HS) (mc ms : Nat) : Prop := (1 ≤ mc ∧ 3 ≤ ms) ∧ (∀ q1 : Nat, hK S q1 = 0 → zr S q1 → (∀ S8 : HS, S8 = newO S q1 13 → ((hK S8 (T 120) = 30) ∧ (∀ (S15 : HS), ext S8 S15 → (S15 = putR (putI S8 260 q1 0) 261 q1 (some (T 120))) → (∃ k73 : Nat, wp_X3_readText_10 T  P k73 x0 q1 0 S15 (mc - 1) (ms - 3))))))
set_option maxRecDepth 100000 in
set_option maxHeartbeats 4000000 in
theorem t_X3_readText {p : Program} {l : Launch} {e : Env} {s : State} {m : MethodId} {args : Array Value} {below : List Frame} {meth : Method} {c : Code} {D : va_G} {A : Nat → Prop} {T : Nat → ClassId} (C : GC p s m args meth c cX3_readText "FreightRater$Reader" (ws_X3_readText) 3 D A (zty T)) (E : GE T A s) (hr : meth.sig.returnType = (some (.object "java/util/ArrayList"))) (P : Option Nat → HS → Prop) : ∀ (x0 : Nat) (S0 S : HS) (mc ms : Nat) (L : List Nat), S0 = S → wt S → hL S L → (hK S x0 = 4) → wp_X3_readText T P x0 S mc ms → GW p l e { rm_X3_readText with cells := mc, slots := ms } s m args below meth c D A 3 mc ms (MQ below (va_Qq (fun v (u : HS × List Nat) => (P v u.1 ∧ ∀ b, v = some b → hK u.1 b = 13) ∧ CO S0 u) (CE D T A) A) args s mc ms A) (CW T S L) mc ms 0 [(0, .ref x0)] [] := by
  have hW : ∀ {w : Cond}, w ∈ W0 → w.before args s = true := fun h => C.2.2.2.2.1 _ (List.mem_cons_of_mem _ h)
  intro x0 S0 S mc ms L hS0 hw hL hx0 h
  have he : ext S0 S := by rw [hS0]; exact ext_rf
  unfold wp_X3_readText at h
  obtain ⟨g2, h⟩ := h
  refine gc_new (kd := 13) (N := 3) C E hw hL (Nat.le_refl _) (Nat.le_refl _) iwx_Jx4a65c tyJx4a65c tyJx4a65c_ok (by decide) (by decide) rfl (fun j hj => by rcases (show j = 0 ∨ j = 1 ∨ j = 2 by omega) with rfl | rfl | rfl <;> rfl) (hW kw_561) (hW kw_562) (hW kw_22) g2.1 g2.2 dX3_readText_0 (fun q1 h0q1 zq1 => ?_)
  replace h := h q1 h0q1 zq1
  have g3 := newO_old 13 hx0 (by decide) h0q1
  have w4 := wt_newO hw 13 h0q1 (by decide)
  have w5 := hL_new (S' := newO S q1 13) hL (show 13 ≠ 0 by decide) rfl
  have w6 := ext_newO he h0q1 13
  have g7 := newO_self S q1 13
  refine gc_nS (fun S8 eS8 => ?_)
  replace h := h S8 eS8
  have w9 : wt S8 := by rw [eS8]; exact w4
  have w10 : isL S8 (L ++ [q1]) := by rw [eS8]; exact w5
  have w11 : ext S0 S8 := by rw [eS8]; exact w6
  have g12 : hK S8 q1 = 13 := by rw [eS8]; exact g7
  have g13 : hK S8 x0 = 4 := by rw [eS8]; exact g3
  refine g_dup C dX3_readText_3 rfl ?_
  obtain ⟨g14, h⟩ := h
  refine gc_callvI (host := "") (ret := none) C E w9 w10 [] rfl (k_Jx4a65c_init_da8c8 l D T q1 S8 g12 g14) (w0_I 0 C.2.2.2.2.1 kw_563 kw_564 kw_22 kw_565 rfl rfl rfl (by decide +kernel) ⟨Nat.le_of_ble_eq_true rfl, Nat.le_of_ble_eq_true rfl⟩) rfl (Nat.le_of_ble_eq_true rfl) (Nat.le_refl _) (Nat.le_refl _) (Nat.zero_le _) (Nat.zero_le _) dX3_readText_4 (fun S15 L16 e17 w18 w19 hp => ?_)
  replace h := h S15 e17 hp
  have g20 := ext_K e17 g12 (by decide)
  have g21 := ext_K e17 g13 (by decide)
  have w22 := ext_tr w11 e17
  refine g_astore_n (lv' := [(1, .ref q1), (0, .ref x0)]) C dX3_readText_7 rfl (by decide) rfl ?_
  refine g_iconst (v := 0) C dX3_readText_8 (by decide) ?_
  refine g_istore_n (lv' := [(2, .int 0), (1, .ref q1), (0, .ref x0)]) C dX3_readText_9 rfl (by decide) rfl ?_
  refine g_locals [2, 1, 0] rfl ?_
  obtain ⟨k73, h⟩ := h
  refine t_X3_readText_10 C E hr S0  P  k73 x0 q1 0 S15 (mc - 1) (ms - 3) L16 w18 w19 w22 g21 g20 h
theorem c_X3_readText (l : Launch) (D : va_G) (T : Nat → ClassId) (x0 : Nat) (S : HS) (mc ms : Nat) (hx0 : hK S x0 = 4) (P : Option Nat → HS → Prop) (h : wp_X3_readText T P x0 S mc ms) : CMq l yX3_readText (ws_X3_readText) rm_X3_readText D T [.ref x0] S mc ms 13 P := gc_metq (by decide) rfl rfl (Nat.le_of_ble_eq_true rfl) (fun p e s m args below meth c A L C E hnm hr hw hL => t_X3_readText C E   hr P x0 S S mc ms L rfl hw hL hx0 h)
/-- what a text's statements need -/
def budC : List STM → Nat
  | [] => 0
  | x :: l => 4 + 2 * x.2.1.1.length + budC l
def budS : List STM → Nat
  | [] => 0
  | x :: l => 413 + 405 * x.2.1.1.length + budS l
/-- a text's statements as objects in a list -/
def TxL (S : HS) (M : Nat → Prop) (d al : Nat) (L : List STM) : Prop := ∃ ys, LiO S d al L.length 8 ys ∧ ∀ j x, L[j]? = some x → StmR S M (ys j) x ∧ ¬ M (ys j)
/-- what may change while a text is read -/
def txM (S : HS) (x0 al : Nat) (M : Nat → Prop) (c : Nat) : Prop := M c ∨ c = x0 ∨ liA S al c
/-- a text's reading under way -/
def TxJ (S0 S : HS) (x0 al d : Nat) (b : Nat → Int32) (n : Nat) (M : Nat → Prop) (L : List STM) (σ : PS) : Prop := ext S0 S ∧ frM S0 S (fun c => c = x0) ∧ RdO S x0 b n σ ∧ ∃ ys, LiO S d al L.length 8 ys ∧ (∀ j, j < L.length → hK S0 (ys j) = 0) ∧ (∃ ar, hR S 261 al = some ar ∧ (hK S0 ar = 0 ∨ (ar = d ∧ L = []))) ∧ (σ.2 = false → ∀ j x, L[j]? = some x → StmR S (txM S x0 al M) (ys j) x)
theorem LiO.A {S : HS} {d al c ke : Nat} {xs : Nat → Nat} (h : LiO S d al c ke xs) {b : Nat} (hb : liA S al b) : hK S b = 13 ∨ hK S b = 30 := by
  obtain ⟨h13, _, ar, r1, hk, _⟩ := h
  rcases hb with g | ⟨g, _⟩
  · rw [g]; exact Or.inl h13
  · rw [← Option.some.inj (r1.symm.trans g)]; exact Or.inr hk
theorem TxJ.fx {S0 S S1 : HS} {x0 al d n : Nat} {b : Nat → Int32} {M : Nat → Prop} {L : List STM} {σ σ1 : PS} (h : TxJ S0 S x0 al d b n M L σ) (kx0 : hK S0 x0 = 4) (hM : ∀ c, M c → hK S0 c ≠ 0) (he : ext S S1) (hf : frM S S1 (fun c => c = x0)) (hr : RdO S1 x0 b n σ1) (hs : σ1.2 = false → σ.2 = false) : TxJ S0 S1 x0 al d b n M L σ1 := by
  obtain ⟨h1, h2, h3, ys, h4, h5, ⟨ar, h6, h7⟩, h8⟩ := h
  have kx0' : hK S x0 = 4 := ext_K h1 kx0 (by decide)
  have nk : ∀ {c k : Nat}, hK S c = k → k ≠ 4 → ¬ c = x0 := fun {c k} hy hk z => hk (by rw [← hy, z]; exact kx0')
  have h4' := h4
  obtain ⟨k13, _, a9, q1, q2, _, _, _, q6, _⟩ := h4'
  have e9 := Option.some.inj (q1.symm.trans h6)
  subst e9
  have sl := hf al (nk k13 (by decide)) (nz_of k13 (by decide))
  have sr := hf a9 (nk q2 (by decide)) (nz_of q2 (by decide))
  have hm : ∀ c, hK S c ≠ 0 → txM S1 x0 al M c → txM S x0 al M c := fun c _ hc => by
    rcases hc with g | g | g | ⟨g, g1⟩
    · exact Or.inl g
    · exact Or.inr (Or.inl g)
    · exact Or.inr (Or.inr (Or.inl g))
    · rw [sl.2.2.2.1] at g
      have e := Option.some.inj (h6.symm.trans g)
      rw [← e, sr.2.1] at g1
      exact Or.inr (Or.inr (Or.inr ⟨by rw [h6, e], by rw [← e]; exact g1⟩))
  refine ⟨ext_tr h1 he, h2.nw hf (fun _ _ z => z), hr, ys, h4.fx hf he (nk k13 (by decide)) (fun a ha => ?_) (by decide), h5, ⟨a9, by rw [sl.2.2.2.1]; exact h6, h7⟩, fun q j x hx => ?_⟩
  · rw [← Option.some.inj (h6.symm.trans ha)]
    exact nk q2 (by decide)
  · have hj : j < L.length := (List.getElem?_eq_some_iff.mp hx).1
    have ky := (q6 j hj).2
    have q9 := h8 (hs q) j x hx
    have q8 := q9.fm (hf.sub (N := txM S x0 al M) (fun c hc => Or.inr (Or.inl hc))) (fun z => ?_) (nz_of ky (by decide))
    · exact q8.mM (fun c hc z => by
        by_cases g : hK S c = 0
        · rcases z with z | z | z | ⟨z, _⟩
          · exact Or.inl z
          · exact Or.inr (Or.inl z)
          · exact Or.inr (Or.inr (Or.inl z))
          · rw [sl.2.2.2.1] at z
            rw [← Option.some.inj (h6.symm.trans z), q2] at g
            exact absurd g (by decide)
        · exact hm c g z)
    · rcases z with z | z | z
      · exact hM _ z (h5 j hj)
      · exact nk ky (by decide) z
      · rcases h4.A z with g | g <;> rw [ky] at g <;> exact absurd g (by decide)
theorem TxJ.ad {T : Nat → ClassId} {S0 S S49 : HS} {x0 al n y : Nat} {b : Nat → Int32} {M : Nat → Prop} {L : List STM} {x : STM} {σ : PS} {ys : Nat → Nat} (h1 : ext S0 S) (h2 : frM S0 S (fun c => c = x0)) (h3 : RdO S x0 b n σ) (h4 : LiO S (T 120) al L.length 8 ys) (h5 : ∀ j, j < L.length → hK S0 (ys j) = 0) (h6 : ∃ ar, hR S 261 al = some ar ∧ (hK S0 ar = 0 ∨ (ar = T 120 ∧ L = []))) (h8 : σ.2 = false → ∀ j z, L[j]? = some z → StmR S (txM S x0 al M) (ys j) z) (al0 : hK S0 al = 0) (n120 : hN S (T 120) = 0) (kx0 : hK S0 x0 = 4) (hM : ∀ c, M c → hK S0 c ≠ 0) (y0 : hK S0 y = 0) (ky : hK S y = 8) (hy : σ.2 = false → StmR S (txM S x0 al M) y x) (he : ext S S49) (L49 : LiO S49 (T 120) al (L.length + 1) 8 (fun j => if j = L.length then y else ys j)) (f49 : frM S S49 (liA S al)) (hb : ∃ c, hR S49 261 al = some c ∧ (hK S c = 0 ∨ liA S al c)) : TxJ S0 S49 x0 al (T 120) b n M (L ++ [x]) σ := by
  have kx0' : hK S x0 = 4 := ext_K h1 kx0 (by decide)
  obtain ⟨ar, h6, h7⟩ := h6
  have h4' := h4
  obtain ⟨k13, _, a9, q1, q2, _, _, _, q6, _⟩ := h4'
  have e9 := Option.some.inj (q1.symm.trans h6)
  subst e9
  obtain ⟨c9, c1, c2⟩ := hb
  have k49 : hK S49 c9 = 30 := by
    obtain ⟨_, _, a8, u1, u2, _⟩ := L49
    rw [← Option.some.inj (u1.symm.trans c1)]
    exact u2
  have k49al : hK S49 al = 13 := L49.1
  have lA0 : ∀ c, liA S al c → hK S0 c = 0 := fun c hc => by
    rcases hc with g | ⟨g, g1⟩
    · rw [g]; exact al0
    · have e := Option.some.inj (h6.symm.trans g)
      rw [← e] at g1 ⊢
      rcases h7 with g2 | ⟨g2, _⟩
      · exact g2
      · rw [g2] at g1; exact absurd n120 g1
  have nlA : ∀ {c k : Nat}, hK S c = k → k ≠ 13 → k ≠ 30 → ¬ liA S al c := fun {c k} hc k1 k2 z => by
    rcases h4.A z with g | g <;> rw [hc] at g
    · exact k1 g
    · exact k2 g
  have hm : ∀ c, hK S c ≠ 0 → txM S49 x0 al M c → txM S x0 al M c := fun c hc z => by
    rcases z with g | g | g | ⟨g, g1⟩
    · exact Or.inl g
    · exact Or.inr (Or.inl g)
    · exact Or.inr (Or.inr (Or.inl g))
    · have e := Option.some.inj (c1.symm.trans g)
      subst e
      rcases c2 with g2 | g2
      · exact absurd g2 hc
      · exact Or.inr (Or.inr g2)
  have step : ∀ {s : Nat} {z : STM}, hK S0 s = 0 → hK S s = 8 → StmR S (txM S x0 al M) s z → StmR S49 (txM S49 x0 al M) s z := fun {s z} s0 ks hz => by
    have q1 := hz.mM (M2 := fun c => txM S x0 al M c ∨ txM S49 x0 al M c) (fun c hc w => by
      rcases w with w | w
      · exact w
      · exact hm c hc w)
    have q2 := q1.fm (S1 := S49) (f49.sub (fun c hc => Or.inl (Or.inr (Or.inr hc)))) (fun w => ?_) (nz_of ks (by decide))
    · exact q2.mM (fun c _ w => Or.inr w)
    · have nx : ¬ s = x0 := fun g => by rw [g, kx0'] at ks; exact absurd ks (by decide)
      have ks49 : hK S49 s = 8 := ext_K he ks (by decide)
      rcases w with (w | w | w) | (w | w | w)
      · exact hM s w s0
      · exact nx w
      · exact nlA ks (by decide) (by decide) w
      · exact hM s w s0
      · exact nx w
      · rcases L49.A w with g | g <;> rw [ks49] at g <;> exact absurd g (by decide)
  refine ⟨ext_tr h1 he, h2.nw f49 (fun c hc z => absurd (lA0 c z) hc), h3.fm f49 kx0' (nlA kx0' (by decide) (by decide)) (fun t ht => nlA ht (by decide) (by decide)), _, by rw [List.length_append]; exact L49, fun j hj => ?_, ⟨c9, c1, Or.inl ?_⟩, fun hs j z hz => ?_⟩
  · rw [List.length_append] at hj
    have hj : j < L.length + 1 := hj
    try dsimp only
    by_cases g : j = L.length
    · rw [if_pos g]; exact y0
    · rw [if_neg g]; exact h5 j (by omega)
  · rcases c2 with g | g
    · by_cases g1 : hK S0 c9 = 0
      · exact g1
      · exact absurd (by rw [(h1 c9 g1).1] at g; exact g) g1
    · exact lA0 c9 g
  · try dsimp only
    by_cases g : j < L.length
    · rw [List.getElem?_append_left g] at hz
      rw [if_neg (by omega)]
      exact step (h5 j g) (q6 j g).2 (h8 hs j z hz)
    · have hj : j < (L ++ [x]).length := (List.getElem?_eq_some_iff.mp hz).1
      rw [List.length_append] at hj
      have hj : j < L.length + 1 := hj
      have e : j = L.length := by omega
      subst e
      rw [List.getElem?_append_right (Nat.le_refl _), Nat.sub_self] at hz
      have ex : x = z := Option.some.inj hz
      subst ex
      rw [if_pos rfl]
      exact step y0 ky (hy hs)
theorem rl_tx {T : Nat → ClassId} {P : Option Nat → HS → Prop} {S0 : HS} {x0 al n : Nat} {b : Nat → Int32} {M : Nat → Prop} {R : List STM × PS} (k120 : hK S0 (T 120) = 30) (n120 : hN S0 (T 120) = 0) (kx0 : hK S0 x0 = 4) (al0 : hK S0 al = 0) (hM : ∀ c, M c → hK S0 c ≠ 0) (hd : ¬ M (T 120)) (hch : chO b n) (hP : ∀ S1, TxJ S0 S1 x0 al (T 120) b n M R.1 R.2 → P (some al) S1) : ∀ (fuel k i : Nat) (L : List STM) (S : HS) (σ : PS) (kc ks : Nat), i + k = 81 → k < fuel → L.length ≤ i → i ≤ σ.1 → σ.2 = false → TxJ S0 S x0 al (T 120) b n M L σ → (L ++ (amL b n k σ).1, (amL b n k σ).2) = R → budC (amL b n k σ).1 ≤ kc → budS (amL b n k σ).1 ≤ ks → wp_X3_readText_10 T P fuel x0 al (nI i) S kc ks := by
  intro fuel
  induction fuel with
  | zero => intro k i L S σ kc ks hi hf; omega
  | succ f ih =>
    intro k i L S σ kc ks hi hf hL hiσ hg hJ hR9 hkc hks
    have hJ0 := hJ
    obtain ⟨h1, h2, h3, ys, h4, h5, h6, h8⟩ := hJ
    have hn80 : σ.1 ≤ n ∧ n ≤ 80 := ⟨h3.2.2.1, h3.2.2.2.2.1⟩
    obtain ⟨k', rfl⟩ : ∃ k', k = k' + 1 := ⟨k - 1, by omega⟩
    have kx0' : hK S x0 = 4 := ext_K h1 kx0 (by decide)
    have k120' : hK S (T 120) = 30 := ext_K h1 k120 (by decide)
    have n120' : hN S (T 120) = 0 := by rw [(h1 _ (nz_of k120 (by decide))).2]; exact n120
    have eL : ∃ l, (amL b n (k' + 1) σ).1 = (stR b n σ).1 :: l ∧ (tkB b n (stR b n σ).2 59 = true → l = (amL b n k' (tkS b n (stR b n σ).2 59)).1 ∧ (amL b n (k' + 1) σ).2 = (amL b n k' (tkS b n (stR b n σ).2 59)).2) ∧ (tkB b n (stR b n σ).2 59 = false → l = [] ∧ (amL b n (k' + 1) σ).2 = (stR b n σ).2) := by
      rw [amL]
      by_cases c : tkB b n (stR b n σ).2 59 = true
      · rw [if_pos c]
        exact ⟨_, rfl, fun _ => ⟨rfl, rfl⟩, fun z => by rw [c] at z; cases z⟩
      · rw [if_neg c]
        exact ⟨[], rfl, fun z => absurd z c, fun _ => ⟨rfl, rfl⟩⟩
    obtain ⟨l, eL1, eL2, eL3⟩ := eL
    rw [eL1] at hR9 hkc hks
    have hkc' : 4 + 2 * (stR b n σ).1.2.1.1.length + budC l ≤ kc := hkc
    have hks' : 413 + 405 * (stR b n σ).1.2.1.1.length + budS l ≤ ks := hks
    rw [wp_X3_readText_10]; unfold wb_X3_readText_10; dsimp only
    rw [h3.2.2.2.1, nI_ltI (by omega) (by omega)]
    have hMx : ∀ c, txM S x0 al M c → hK S c ≠ 0 := fun c hc => by
      rcases hc with g | g | g
      · rw [(h1 c (hM c g)).1]; exact hM c g
      · rw [g, kx0']; decide
      · rcases h4.A g with g1 | g1 <;> rw [g1] <;> decide
    have hdx : ¬ txM S x0 al M (T 120) := fun hc => by
      rcases hc with g | g | g | ⟨_, g⟩
      · exact hd g
      · rw [g, kx0'] at k120'; exact absurd k120' (by decide)
      · have q := h4.1; rw [← g, k120'] at q; exact absurd q (by decide)
      · exact g n120'
    refine ⟨fun z => absurd z (by omega), fun _ => ⟨3 + 2 * (stR b n σ).1.2.1.1.length, 13 + 405 * (stR b n σ).1.2.1.1.length, ⟨by omega, by omega⟩, b, n, σ, txM S x0 al M, ⟨h3, hch, hg, k120', n120', hMx, hdx, Nat.le_refl _, Nat.le_refl _⟩, fun o S32 he32 _ h32 => ?_⟩⟩
    obtain ⟨f32, R32, y, eo, y0, hy⟩ := h32
    refine ⟨y, eo, fun ky => ?_⟩
    have J32 := hJ0.fx kx0 hM he32 f32 R32 (fun _ => hg)
    obtain ⟨g1, g2, g3, zs, g4, g5, g6, g8⟩ := J32
    have y00 : hK S0 y = 0 := by
      by_cases g : hK S0 y = 0
      · exact g
      · exact absurd (by rw [(h1 y g).1] at y0; exact y0) g
    have sl32 : hR S32 261 al = hR S 261 al := (f32 al (fun z => by have q := h4.1; rw [z, kx0'] at q; exact absurd q (by decide)) (nz_of h4.1 (by decide))).2.2.2.1 261
    have hy32 : (stR b n σ).2.2 = false → StmR S32 (txM S32 x0 al M) y (stR b n σ).1 := fun z => (hy z).mM (fun c hc w => by
      rcases w with w | w | w | ⟨w, w1⟩
      · exact Or.inl w
      · exact Or.inr (Or.inl w)
      · exact Or.inr (Or.inr (Or.inl w))
      · rw [sl32] at w
        have h4' := h4
        obtain ⟨_, _, a9, q1, q2, _⟩ := h4'
        have e := Option.some.inj (q1.symm.trans w)
        refine Or.inr (Or.inr (Or.inr ⟨w, ?_⟩))
        rw [← (he32 c (by rw [← e, q2]; decide)).2]
        exact w1)
    refine ⟨1, 400, ⟨by omega, by omega⟩, zs, L.length, ⟨g4, by omega, ext_K g1 k120 (by decide), by rw [(g1 _ (nz_of k120 (by decide))).2]; exact n120, Nat.le_refl _, Nat.le_refl _⟩, fun v54 S49 he49 h49 => ?_⟩
    obtain ⟨_, L49, f49, b49⟩ := h49
    have J49 : TxJ S0 S49 x0 al (T 120) b n M (L ++ [(stR b n σ).1]) (stR b n σ).2 := TxJ.ad g1 g2 g3 g4 g5 g6 g8 al0 (by rw [(g1 _ (nz_of k120 (by decide))).2]; exact n120) kx0 hM y00 ky hy32 he49 L49 f49 b49
    refine ⟨b, n, _, ⟨J49.2.2.1, by decide⟩, fun v67 S62 he62 h62 => ?_⟩
    obtain ⟨ev, c62, R62⟩ := h62
    subst ev
    have hle : (stR b n σ).2.1 ≤ n := R32.2.2.1
    have J62 := J49.fx kx0 hM he62 c62.fm R62 (fun z => by rw [← (tkS_le (b := b) (n := n) (c := 59) (by decide) hle).2.2]; exact z)
    refine ⟨fun c v72 e72 => ?_, fun c => ?_⟩
    · have hB := b2i_nz c
      obtain ⟨u1, u2, u3⟩ := tkB_gd (by decide) hB
      obtain ⟨w1, w2⟩ := eL2 hB
      have st := st_le hn80.1 u1
      rw [e72, show nI i + 1 = nI (i + 1) from nI_add i 1]
      refine ih k' (i + 1) (L ++ [(stR b n σ).1]) S62 _ _ _ (by omega) (by omega) (by rw [List.length_append]; exact Nat.succ_le_succ hL) (by rw [u3]; dsimp only; omega) (by rw [u3]; exact u1) J62 ?_ (by rw [← w1]; omega) (by rw [← w1]; omega)
      rw [← hR9, w2, ← w1, List.append_assoc]
      rfl
    · have hB := b2i_z c
      obtain ⟨w1, w2⟩ := eL3 hB
      rw [tkS_no hB] at J62
      rw [w1, w2] at hR9
      subst hR9
      exact hP S62 J62
theorem k_X3_readText (l : Launch) (D : va_G) (T : Nat → ClassId) (x0 : Nat) (S : HS) (e0 : Nat → Int32) (e1 : Nat) (e2 : (Nat → Prop)) (mc ms : Nat) (hx0 : hK S x0 = 4) (h : RdO S x0 e0 e1 (0, false) ∧ chO e0 e1 ∧ hK S (T 120) = 30 ∧ hN S (T 120) = 0 ∧ (∀ b, e2 b → hK S b ≠ 0) ∧ ¬ e2 (T 120) ∧ 1 + budC (amF e0 e1).1 ≤ mc ∧ 3 + budS (amF e0 e1).1 ≤ ms) : CMq l yX3_readText (ws_X3_readText) rm_X3_readText D T [.ref x0] S mc ms 13 (fun v S1 => (frM S S1 (fun b => b = x0) ∧ RdO S1 x0 e0 e1 (amF e0 e1).2 ∧ ∃ y, v = some y ∧ hK S y = 0 ∧ ((amF e0 e1).2.2 = false → TxL S1 e2 (T 120) y (amF e0 e1).1))) := c_X3_readText l D T x0 S mc ms hx0 _ <|
  (by
    obtain ⟨h, hch, k120, n120, hM, hd, hmc, hms⟩ := h
    unfold wp_X3_readText
    refine ⟨⟨by omega, by omega⟩, fun q q0 qz S8 e8 => ⟨?_, fun S15 he15 e15 => ⟨100, ?_⟩⟩⟩
    · rw [e8, px_KO, if_neg (fun z => by rw [z, q0] at k120; exact absurd k120 (by decide))]; exact k120
    have hqx : q ≠ x0 := fun z => by rw [z, hx0] at q0; exact absurd q0 (by decide)
    have qd : T 120 ≠ q := fun z => by rw [z, q0] at k120; exact absurd k120 (by decide)
    have x8 : ext S S8 := by rw [e8]; exact ext_newO ext_rf q0 13
    have kq8 : hK S8 q = 13 := by rw [e8, px_KO, if_pos rfl]
    have f8 : frM S S8 (fun c => c = x0) := by rw [e8]; exact frM.nO frM.rf ext_rf q0 13
    have f15 : frM S8 S15 (fun c => c = q) := by
      rw [e15]
      exact frM.pR (M := fun c => c = q) (frM.pI (M := fun c => c = q) frM.rf rfl _ _) rfl _ _
    have R8 : RdO S8 x0 e0 e1 (0, false) := h.fm (N := fun _ => False) (by rw [e8]; exact frM.nO frM.rf ext_rf q0 13) hx0 (fun z => z) (fun _ _ z => z)
    have R15 := R8.fm f15 (ext_K x8 hx0 (by decide)) (fun z => hqx z.symm) (fun t ht z => by rw [z, kq8] at ht; exact absurd ht (by decide))
    have r15 : hR S15 261 q = some (T 120) := by rw [e15, px_RR, if_pos ⟨rfl, rfl⟩]
    have k15 : hK S15 (T 120) = 30 := by rw [e15, px_KR, px_KI, e8, px_KO, if_neg qd]; exact k120
    have n15 : hN S15 (T 120) = 0 := by rw [e15, px_NR, px_NI, e8, px_NO]; exact n120
    refine rl_tx (S0 := S) (b := e0) (n := e1) (M := e2) (R := amF e0 e1) k120 n120 hx0 q0 hM hd hch (fun S1 hJ => ?_) 100 81 0 [] S15 (0, false) _ _ (by omega) (by omega) (Nat.le_refl _) (Nat.zero_le _) rfl ⟨ext_tr x8 he15, f8.nw f15 (fun c hc z => absurd q0 (by rw [← z]; exact hc)), R15, fun _ => 0, ⟨?_, ?_, T 120, r15, k15, Nat.zero_le _, by rw [n15]; exact Nat.zero_le _, fun _ => rfl, fun j hj => absurd hj (Nat.not_lt_zero j), fun j _ hn => by rw [n15] at hn; exact absurd hn (Nat.not_lt_zero j)⟩, fun j hj => absurd hj (Nat.not_lt_zero j), ⟨T 120, r15, Or.inr ⟨rfl, rfl⟩⟩, fun _ j x hx => by simp at hx⟩ rfl (by unfold amF at hmc; omega) (by unfold amF at hms; omega)
    · obtain ⟨j1, j2, j3, ys, j4, j5, _, j8⟩ := hJ
      refine ⟨j2, j3, q, rfl, q0, fun z => ⟨ys, j4, fun j x hx => ⟨(j8 z j x hx).mM (fun c _ hc => Or.inl hc), fun hc => ?_⟩⟩⟩
      exact hM _ hc (j5 j (List.getElem?_eq_some_iff.mp hx).1)
    · rw [e15, px_KR, px_KI]; exact kq8
    · rw [e15, px_IR, px_II, if_neg (fun z => absurd z.1 (by decide)), e8, px_IO]; exact qz.1 262)

end S_C8D
