section S_C2B
abbrev ws_X1_addMember : List Cond := Cond.code yX1_addMember cX1_addMember 4 none :: W0
abbrev rm_X1_addMember : Room := ({ frames := 0, cells := 0, slots := 0, locals := 0 } : Room)
def wb_X1_addMember_9 (rec : Nat → Int32 → Int32 → Int32 → HS → Prop) (P : HS → Prop) (x0 : Nat) (x1 : Int32) (x2 : Int32) (x3 : Int32) (S : HS) : Prop := (x2 ≤ x3 → (∀ S4 : HS, S4 = putI S 40 x0 ((hI S 40 x0) + 1) → (P S4))) ∧ (¬ x2 ≤ x3 → (∃ b10 : Nat, hR S 41 x0 = some b10 ∧ (hK S b10 = 22 → (∃ b13 : Nat, hR S 41 x0 = some b13 ∧ (hK S b13 = 22 → (vp_in x3 (hN S b13) ∧ (vp_in (x2 + x3) (hN S b10) ∧ (∀ S18 : HS, S18 = putA S b10 (Int32.toNatClampNeg (x2 + x3)) ((hA S b13 (Int32.toNatClampNeg x3)) ||| ((1 : Int32) <<< (x1 &&& 31))) → (∀ v23 : Int32, v23 = x3 + 1 → (rec x0 x1 x2 v23 S18))))))))))
def wp_X1_addMember_9 (P : HS → Prop) : Nat → Nat → Int32 → Int32 → Int32 → HS → Prop
  | 0 => fun _ _ _ _ _ => False
  | n + 1 => fun x0 x1 x2 x3 S => wb_X1_addMember_9 (wp_X1_addMember_9  P n)  P x0 x1 x2 x3 S
set_option maxRecDepth 100000 in
set_option maxHeartbeats 4000000 in
theorem t_X1_addMember_9 {p : Program} {l : Launch} {e : Env} {s : State} {m : MethodId} {args : Array Value} {below : List Frame} {meth : Method} {c : Code} {D : va_G} {A : Nat → Prop} {T : Nat → ClassId} (C : GC p s m args meth c cX1_addMember "FreightRater$Plan" (ws_X1_addMember) 4 D A (zty T)) (E : GE T A s) (hr : meth.sig.returnType = none) (S0 : HS) (P : HS → Prop) : ∀ (n : Nat) (x0 : Nat) (x1 : Int32) (x2 : Int32) (x3 : Int32) (S : HS) (L : List Nat), wt S → hL S L → ext S0 S → (hK S x0 = 2) → wp_X1_addMember_9  P n x0 x1 x2 x3 S → GW p l e { rm_X1_addMember with cells := 0, slots := 0 } s m args below meth c D A 4 0 0 (MQ below (va_Qv (fun (u : HS × List Nat) => P u.1 ∧ CO S0 u) (CE D T A) A) args s 0 0 A) (CW T S L) 0 0 9 [(0, .ref x0), (1, .int x1), (2, .int x2), (3, .int x3)] [] := by
  have hW : ∀ {w : Cond}, w ∈ W0 → w.before args s = true := fun h => C.2.2.2.2.1 _ (List.mem_cons_of_mem _ h)
  intro n
  induction n with
  | zero => intro x0 x1 x2 x3 S L hw hL he hx0 h; exact h.elim
  | succ n ih =>
    intro x0 x1 x2 x3 S L hw hL he hx0 h
    replace h : wb_X1_addMember_9 (wp_X1_addMember_9  P n)  P x0 x1 x2 x3 S := h
    unfold wb_X1_addMember_9 at h
    refine g_iload_n C dX1_addMember_9 rfl 3 rfl ?_
    refine g_iload_n C dX1_addMember_10 rfl 2 rfl ?_
    refine g_icmp_ge (tgt := 38) C dX1_addMember_11 (by decide) (fun z2 => ?_) (fun z2 => ?_)
    · replace h := h.1 z2
      refine g_aload_n C dX1_addMember_38 rfl 0 rfl ?_
      refine g_dup C dX1_addMember_39 rfl ?_
      refine gc_getI C iwx_X1 hL hx0 (by decide) (by decide) rfl 0 (by decide) (hW kw_213) rfl rfl rfl dX1_addMember_40 ?_
      refine g_iconst (v := 1) C dX1_addMember_43 (by decide) ?_
      refine g_iadd C dX1_addMember_44 ?_
      refine gc_putI C iwx_X1 hL hx0 (by decide) (by decide) rfl 0 (by decide) (hW kw_213) rfl tyX1 tyX1_ok nmX1 rfl rfl rfl rfl rfl dX1_addMember_45 ?_
      have w3 := wt_putI hw 40 ((hI S 40 x0) + 1) (k_ne hx0 (by decide))
      refine gc_nS (fun S4 eS4 => ?_)
      replace h := h S4 eS4
      have w5 : wt S4 := by rw [eS4]; exact w3
      have w6 : isL S4 L := by rw [eS4]; exact hL
      have w7 : ext S0 S4 := by rw [eS4]; exact he
      have g8 : hK S4 x0 = 2 := by rw [eS4]; exact hx0
      exact gc_vret C w5 w6 w7 hr dX1_addMember_48 h
    · replace h := h.2 z2
      refine g_aload_n C dX1_addMember_14 rfl 0 rfl ?_
      refine gc_getR C hw iwx_X1 hL hx0 (by decide) (by decide) rfl 1 (by decide) (hW kw_214) rfl rfl rfl dX1_addMember_15 (fun o9 eo9 ko9 => ?_)
      obtain ⟨b10, hb9, h⟩ := h
      have g11 : hK S b10 = 22 := ko9 b10 (eo9.trans hb9)
      replace h := h g11
      refine g_opt (eo9.trans hb9) ?_
      refine g_iload_n C dX1_addMember_18 rfl 2 rfl ?_
      refine g_iload_n C dX1_addMember_19 rfl 3 rfl ?_
      refine g_iadd C dX1_addMember_20 ?_
      refine g_aload_n C dX1_addMember_21 rfl 0 rfl ?_
      refine gc_getR C hw iwx_X1 hL hx0 (by decide) (by decide) rfl 1 (by decide) (hW kw_214) rfl rfl rfl dX1_addMember_22 (fun o12 eo12 ko12 => ?_)
      obtain ⟨b13, hb9, h⟩ := h
      have g14 : hK S b13 = 22 := ko12 b13 (eo12.trans hb9)
      replace h := h g14
      refine g_opt (eo12.trans hb9) ?_
      refine g_iload_n C dX1_addMember_25 rfl 3 rfl ?_
      obtain ⟨g15, h⟩ := h
      refine gc_iald C hL g14 g15 dX1_addMember_26 ?_
      refine g_iconst (v := 1) C dX1_addMember_27 (by decide) ?_
      refine g_iload_n C dX1_addMember_28 rfl 1 rfl ?_
      refine g_ishl C dX1_addMember_29 ?_
      refine g_ior C dX1_addMember_30 ?_
      obtain ⟨g16, h⟩ := h
      refine gc_iast C hL g11 g16 dX1_addMember_31 ?_
      have w17 := wt_putA hw (Int32.toNatClampNeg (x2 + x3)) ((hA S b13 (Int32.toNatClampNeg x3)) ||| ((1 : Int32) <<< (x1 &&& 31))) (k_ne g11 (by decide))
      refine gc_nS (fun S18 eS18 => ?_)
      replace h := h S18 eS18
      have w19 : wt S18 := by rw [eS18]; exact w17
      have w20 : isL S18 L := by rw [eS18]; exact hL
      have w21 : ext S0 S18 := by rw [eS18]; exact he
      have g22 : hK S18 x0 = 2 := by rw [eS18]; exact hx0
      obtain ⟨v23, ev23⟩ : ∃ y : Int32, y = x3 + 1 := ⟨_, rfl⟩
      replace h := h v23 ev23
      refine g_iinc (v := v23) (lv' := [(3, .int v23), (0, .ref x0), (1, .int x1), (2, .int x2)]) C dX1_addMember_32 (j := 3) rfl (by rw [ev23]; rfl) (by decide) rfl ?_
      refine g_goto (tgt := 9) C dX1_addMember_35 (by decide) ?_
      refine g_locals [1, 2, 3, 0] rfl ?_
      exact ih x0 x1 x2 v23 S18 L w19 w20 w21 g22 h
def wp_X1_addMember (P : HS → Prop) (x0 : Nat) (p0 : Int32) (S : HS) : Prop := ∀ v1 : Int32, v1 = ((1 : Int32) <<< ((hI S 40 x0) &&& 31)) → (∃ k24 : Nat, wp_X1_addMember_9  P k24 x0 p0 v1 0 S)
set_option maxRecDepth 100000 in
set_option maxHeartbeats 4000000 in
theorem t_X1_addMember {p : Program} {l : Launch} {e : Env} {s : State} {m : MethodId} {args : Array Value} {below : List Frame} {meth : Method} {c : Code} {D : va_G} {A : Nat → Prop} {T : Nat → ClassId} (C : GC p s m args meth c cX1_addMember "FreightRater$Plan" (ws_X1_addMember) 4 D A (zty T)) (E : GE T A s) (hr : meth.sig.returnType = none) (P : HS → Prop) : ∀ (x0 : Nat) (p0 : Int32) (S0 S : HS) (L : List Nat), S0 = S → wt S → hL S L → (hK S x0 = 2) → wp_X1_addMember P x0 p0 S → GW p l e { rm_X1_addMember with cells := 0, slots := 0 } s m args below meth c D A 4 0 0 (MQ below (va_Qv (fun (u : HS × List Nat) => P u.1 ∧ CO S0 u) (CE D T A) A) args s 0 0 A) (CW T S L) 0 0 0 [(0, .ref x0), (1, .int p0)] [] := by
  have hW : ∀ {w : Cond}, w ∈ W0 → w.before args s = true := fun h => C.2.2.2.2.1 _ (List.mem_cons_of_mem _ h)
  intro x0 p0 S0 S L hS0 hw hL hx0 h
  have he : ext S0 S := by rw [hS0]; exact ext_rf
  unfold wp_X1_addMember at h
  refine g_iconst (v := 1) C dX1_addMember_0 (by decide) ?_
  refine g_aload_n C dX1_addMember_1 rfl 0 rfl ?_
  refine gc_getI C iwx_X1 hL hx0 (by decide) (by decide) rfl 0 (by decide) (hW kw_213) rfl rfl rfl dX1_addMember_2 ?_
  refine g_ishl C dX1_addMember_5 ?_
  refine g_topi (fun v1 ev1 => ?_)
  replace h := h v1 ev1
  refine g_istore_n (lv' := [(2, .int v1), (0, .ref x0), (1, .int p0)]) C dX1_addMember_6 rfl (by decide) rfl ?_
  refine g_iconst (v := 0) C dX1_addMember_7 (by decide) ?_
  refine g_istore_n (lv' := [(3, .int 0), (2, .int v1), (0, .ref x0), (1, .int p0)]) C dX1_addMember_8 rfl (by decide) rfl ?_
  refine g_locals [2, 3, 1, 0] rfl ?_
  obtain ⟨k24, h⟩ := h
  refine t_X1_addMember_9 C E hr S0  P  k24 x0 p0 v1 0 S L hw hL he hx0 h
theorem c_X1_addMember (l : Launch) (D : va_G) (T : Nat → ClassId) (x0 : Nat) (p0 : Int32) (S : HS) (hx0 : hK S x0 = 2) (P : HS → Prop) (h : wp_X1_addMember P x0 p0 S) : CMv l yX1_addMember (ws_X1_addMember) rm_X1_addMember D T [.ref x0, .int p0] S 0 0 P := gc_metv (by decide) rfl rfl (Nat.le_of_ble_eq_true rfl) (fun p e s m args below meth c A L C E hnm hr hw hL => t_X1_addMember C E   hr P x0 p0 S S L rfl hw hL hx0 h)
theorem sub_k {a b : Nat} (h : b ≤ a) : nI a - nI b = nI (a - b) := pk_sub h
theorem frP.rf {S : HS} {x : Nat} {a : Nat → Nat} {I J : List Nat} : frP S S x a I J := ⟨rfl, rfl, rfl, rfl, fun _ _ _ => rfl, fun _ _ => rfl⟩
theorem frP.tr {S S1 S2 : HS} {x : Nat} {a : Nat → Nat} {I J I1 J1 I2 J2 : List Nat} (h : frP S S1 x a I1 J1) (h2 : frP S1 S2 x a I2 J2) (i1 : ∀ i ∈ I1, i ∈ I) (i2 : ∀ i ∈ I2, i ∈ I) (j1 : ∀ i ∈ J1, i ∈ J) (j2 : ∀ i ∈ J2, i ∈ J) : frP S S2 x a I J := ⟨h2.1.trans h.1, h2.2.1.trans h.2.1, h2.2.2.1.trans h.2.2.1, h2.2.2.2.1.trans h.2.2.2.1, fun i b hb => (h2.2.2.2.2.1 i b (hb.imp id (fun z e => z (i2 i e)))).trans (h.2.2.2.2.1 i b (hb.imp id (fun z e => z (i1 i e)))), fun b hb => (h2.2.2.2.2.2 b (fun j hj => hb j (j2 j hj))).trans (h.2.2.2.2.2 b (fun j hj => hb j (j1 j hj)))⟩
theorem frP.I {S S1 : HS} {x : Nat} {a : Nat → Nat} {I J : List Nat} (h : frP S S1 x a I J) (i : Nat) (v : Int32) (hi : i ∈ I) : frP S (putI S1 i x v) x a I J := ⟨h.1, h.2.1, h.2.2.1, h.2.2.2.1, fun j b hj => by
  show up2 (hI S1) i x v j b = hI S j b
  rcases hj with e | e
  · rw [up2_a _ _ _ _ e]; exact h.2.2.2.2.1 j b (Or.inl e)
  · rw [up2_i _ _ _ _ (fun z => e (by rw [z]; exact hi))]; exact h.2.2.2.2.1 j b (Or.inr e), h.2.2.2.2.2⟩
theorem frP.A {S S1 : HS} {x : Nat} {a : Nat → Nat} {I J : List Nat} (h : frP S S1 x a I J) (j n : Nat) (v : Int32) (hj : j ∈ J) : frP S (putA S1 (a j) n v) x a I J := ⟨h.1, h.2.1, h.2.2.1, h.2.2.2.1, h.2.2.2.2.1, fun b hb => by
  show up2 (hA S1) (a j) n v b = hA S b
  funext m
  rw [up2_i _ _ _ _ (hb j hj)]
  exact congrFun (h.2.2.2.2.2 b hb) m⟩
theorem PlO.fr {S S1 : HS} {x : Nat} {a : Nat → Nat} {I J : List Nat} (h : PlO S x a) (hf : frP S S1 x a I J) : PlO S1 x a := by
  obtain ⟨f1, f2, f3, _⟩ := hf
  unfold PlO
  rw [f1, f2, f3]
  exact h
theorem PlO.ne {S : HS} {x : Nat} {a : Nat → Nat} (h : PlO S x a) {i j : Nat} (hi : i < 6) (hj : j < 6) (e : i ≠ j) : a i ≠ a j := fun z => e (h.2.2 i j hi hj z)
theorem putA_s (S : HS) (a n : Nat) (v : Int32) : hA (putA S a n v) a n = v := up2_self _ _ _ _
theorem putA_n (S : HS) {a n m : Nat} (v : Int32) (h : m ≠ n) : hA (putA S a n v) a m = hA S a m := up2_a _ _ _ _ h
theorem putA_o (S : HS) {a b : Nat} (n : Nat) (v : Int32) (h : b ≠ a) : hA (putA S a n v) b = hA S b := by
  funext m
  exact up2_i _ _ _ _ h
theorem rl_amb {P : HS → Prop} {S0 : HS} {x k s : Nat} {a : Nat → Nat} (hO : PlO S0 x a) (hk : k < 8) (hs : s < 10) (h40 : hI S0 40 x = nI k) (hP : ∀ S1, frP S0 S1 x a [40] [0] → hI S1 40 x = nI (k + 1) → (∀ p, hA S1 (a 0) p = (if 2 ^ k ≤ p ∧ p < 2 ^ k + 2 ^ k then hA S0 (a 0) (p - 2 ^ k) ||| nI (2 ^ s) else hA S0 (a 0) p)) → P S1) : ∀ (m i fuel : Nat) (S : HS), i + m = 2 ^ k → m < fuel → frP S0 S x a [] [0] → (∀ p, hA S (a 0) p = (if 2 ^ k ≤ p ∧ p < 2 ^ k + i then hA S0 (a 0) (p - 2 ^ k) ||| nI (2 ^ s) else hA S0 (a 0) p)) → wp_X1_addMember_9 P fuel x (nI s) (nI (2 ^ k)) (nI i) S := by
  have p7 : 2 ^ k ≤ 128 := Nat.pow_le_pow_right (n := 2) (by decide) (show k ≤ 7 by omega)
  intro m
  induction m with
  | zero =>
    intro i fuel S hi hf hF hh
    obtain ⟨f, rfl⟩ : ∃ f, fuel = f + 1 := ⟨fuel - 1, by omega⟩; rw [wp_X1_addMember_9]; unfold wb_X1_addMember_9; dsimp only
    rw [nI_leI (by omega) (by omega)]
    refine ⟨fun _ S4 e4 => ?_, fun z9 => absurd (by omega) z9⟩
    have i40 : hI S 40 x = nI k := (hF.2.2.2.2.1 40 x (Or.inr (by decide))).trans h40
    rw [i40, nI_1] at e4
    have F4 : frP S S4 x a [40] [0] := by rw [e4]; exact frP.rf.I 40 _ (by decide)
    refine hP S4 (hF.tr F4 (by decide) (fun _ h => h) (fun _ h => h) (fun _ h => h)) (by rw [e4]; exact putI_s _ _ _ _) ?_
    rw [show i = 2 ^ k by omega] at hh
    rw [e4]
    exact hh
  | succ m ih =>
    intro i fuel S hi hf hF hh
    have hO1 := hO.fr hF
    obtain ⟨f, rfl⟩ : ∃ f, fuel = f + 1 := ⟨fuel - 1, by omega⟩; rw [wp_X1_addMember_9]; unfold wb_X1_addMember_9; dsimp only
    rw [nI_leI (by omega) (by omega), nI_1, nI_add, sh1 hs]
    refine ⟨fun z9 => absurd z9 (by omega), fun _ => ⟨a 0, hO1.sets, fun _ => ⟨a 0, hO1.sets, fun _ => ?_⟩⟩⟩
    rw [hO1.n (show 0 < 5 by omega), nz_vp (by omega) (by decide), nz_vp (by omega) (by decide), nI_clamp (n := i) (by omega), nI_clamp (n := 2 ^ k + i) (by omega)]
    refine ⟨by omega, by omega, fun S18 e18 v23 e23 => ?_⟩
    subst e23
    have F18 : frP S0 S18 x a [] [0] := by rw [e18]; exact hF.A 0 _ _ (by decide)
    refine ih (i + 1) f S18 (by omega) (by omega) F18 (fun p => ?_)
    rw [hh i, if_neg (by omega)] at e18
    by_cases c : p = 2 ^ k + i
    · subst c
      rw [e18, putA_s, if_pos (by omega), Nat.add_sub_cancel_left]
    · rw [e18, putA_n _ _ c, hh p]
      by_cases c2 : 2 ^ k ≤ p ∧ p < 2 ^ k + i
      · rw [if_pos c2, if_pos (by omega)]
      · rw [if_neg c2, if_neg (by omega)]
theorem k_X1_addMember (l : Launch) (D : va_G) (T : Nat → ClassId) (x0 : Nat) (p0 : Int32) (S : HS) (e0 : Nat → Nat) (e1 : Nat) (hx0 : hK S x0 = 2) (h : PlO S x0 e0 ∧ e1 < 8 ∧ hI S 40 x0 = nI e1 ∧ six p0) : CMv l yX1_addMember (ws_X1_addMember) rm_X1_addMember D T [.ref x0, .int p0] S 0 0 (fun S1 => (frP S S1 x0 e0 [40] [0] ∧ hI S1 40 x0 = nI (e1 + 1) ∧ ∀ p, p < 256 → hA S1 (e0 0) p = (if 2 ^ e1 ≤ p ∧ p < 2 ^ (e1 + 1) then hA S (e0 0) (p - 2 ^ e1) ||| nI (2 ^ iv p0) else hA S (e0 0) p))) := c_X1_addMember l D T x0 p0 S hx0 _ <|
  (by
    obtain ⟨hO, hk, h40, s, hs, es⟩ := h
    subst es
    have p7 : 2 ^ e1 ≤ 128 := Nat.pow_le_pow_right (n := 2) (by decide) (show e1 ≤ 7 by omega)
    rw [show iv (nI s) = s from nI_clamp (by omega)]
    unfold wp_X1_addMember
    intro v1 e1'
    rw [h40, sh1 (by omega)] at e1'
    subst e1'
    refine ⟨200, rl_amb hO hk hs h40 (fun S1 g1 g2 g3 => ⟨g1, g2, fun p _ => ?_⟩) (2 ^ e1) 0 200 S (by omega) (by omega) frP.rf (fun p => by rw [if_neg (by omega)])⟩
    rw [g3 p, show 2 ^ (e1 + 1) = 2 ^ e1 + 2 ^ e1 by rw [Nat.pow_succ]; omega])

end S_C2B
