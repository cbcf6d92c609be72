section S_C5A
abbrev ws_X1_tryFrom : List Cond := Cond.code yX1_tryFrom cX1_tryFrom 6 (some .int) :: W0
abbrev rm_X1_tryFrom (N : Nat) : Room := ({ frames := 1 * N + 2, cells := 0, slots := 0, locals := 30 * N + 90 } : Room)
abbrev KR_X1_tryFrom (l : Launch) (D : va_G) (T : Nat → ClassId) (N : Nat) : Prop := ∀ (p0 : Nat) (p1 : Int32) (S : HS) (e0 : Nat → Nat) (e1 : List Nat) (e2 : Nat) (e3 : Nat) (hp0 : hK S p0 = 2) (h : PlO S p0 e0 ∧ PlP S p0 e0 e1 ∧ hI S 40 p0 = nI e3 ∧ e3 ≤ 6 ∧ p1 = nI e2 ∧ e2 ≤ e3 ∧ e3 < e2 + N ∧ e1.length ≤ e2 ∧ ∀ i, i < e1.length → gl e1 i < 2 ^ e2), CMi l yX1_tryFrom (ws_X1_tryFrom) (rm_X1_tryFrom N) D T [.ref p0, .int p1] S 0 0 (fun v S1 => (frP S S1 p0 e0 [47] [5] ∧ PlP S1 p0 e0 e1 ∧ v = trF (hA S (e0 1)) (e3 - e2) e2 e1))
def wp_X1_tryFrom_56 (N : Nat) (K29 : Nat → Int32 → Int32 → Int32 → Int32 → HS → Prop) (P : Int32 → HS → Prop) (x0 : Nat) (x1 : Int32) (x2 : Int32) (x3 : Int32) (x4 : Int32) (S : HS) : Prop := ∃ b20 : Nat, hR S 46 x0 = some b20 ∧ (hK S b20 = 22 → (vp_in x4 (hN S b20) ∧ (vp_in x4 (hN S b20) ∧ (∀ S25 : HS, S25 = putA S b20 (Int32.toNatClampNeg x4) ((hA S b20 (Int32.toNatClampNeg x4)) ||| ((1 : Int32) <<< (x1 &&& 31))) → (∃ (m30 : Nat → Nat) (m31 : List Nat) (m32 : Nat) (m33 : Nat), ((PlO S25 x0 m30 ∧ PlP S25 x0 m30 m31 ∧ hI S25 40 x0 = nI m33 ∧ m33 ≤ 6 ∧ (x1 + 1) = nI m32 ∧ m32 ≤ m33 ∧ m33 < m32 + N ∧ m31.length ≤ m32 ∧ ∀ i, i < m31.length → gl m31 i < 2 ^ m32) ∧ (∀ (v40 : Int32) (S35 : HS), ext S25 S35 → (frP S25 S35 x0 m30 [47] [5] ∧ PlP S35 x0 m30 m31 ∧ v40 = trF (hA S25 (m30 1)) (m33 - m32) m32 m31) → (∃ b44 : Nat, hR S35 46 x0 = some b44 ∧ (hK S35 b44 = 22 → (vp_in x4 (hN S35 b44) ∧ (vp_in x4 (hN S35 b44) ∧ (∀ S49 : HS, S49 = putA S35 b44 (Int32.toNatClampNeg x4) ((hA S35 b44 (Int32.toNatClampNeg x4)) - ((1 : Int32) <<< (x1 &&& 31))) → ((v40 = (-1) → (∀ v55 : Int32, v55 = x4 + 1 → (K29 x0 x1 x2 x3 v55 S49))) ∧ (¬ v40 = (-1) → ((x2 = (-1) → (∀ v57 : Int32, v57 = x4 + 1 → (K29 x0 x1 v40 x3 v57 S49))) ∧ (¬ x2 = (-1) → ((x2 ≤ v40 → (∀ v59 : Int32, v59 = x4 + 1 → (K29 x0 x1 x2 x3 v59 S49))) ∧ (¬ x2 ≤ v40 → (∀ v60 : Int32, v60 = x4 + 1 → (K29 x0 x1 v40 x3 v60 S49))))))))))))))))))))
set_option maxRecDepth 100000 in
set_option maxHeartbeats 4000000 in
theorem t_X1_tryFrom_56 {p : Program} {l : Launch} {e : Env} {s : State} {m : MethodId} {args : Array Value} {below : List Frame} {meth : Method} {c : Code} {N : Nat} {D : va_G} {A : Nat → Prop} {T : Nat → ClassId} (C : GC p s m args meth c cX1_tryFrom "FreightRater$Plan" (ws_X1_tryFrom) 6 D A (zty T)) (E : GE T A s) (kr : KR_X1_tryFrom l D T N) (hr : meth.sig.returnType = (some .int)) (S0 : HS) (K29 : Nat → Int32 → Int32 → Int32 → Int32 → HS → Prop) (P : Int32 → HS → Prop) (hK29 : ∀ (x0 : Nat) (x1 : Int32) (x2 : Int32) (x3 : Int32) (x4 : Int32) (S : HS) (L : List Nat), wt S → hL S L → ext S0 S → (hK S x0 = 2) → K29 x0 x1 x2 x3 x4 S → GW p l e { (rm_X1_tryFrom (N + 1)) with cells := 0, slots := 0 } s m args below meth c D A 6 0 0 (MQ below (va_Qi (fun v (u : HS × List Nat) => P v u.1 ∧ CO S0 u) (CE D T A) A) args s 0 0 A) (CW T S L) 0 0 29 [(0, .ref x0), (1, .int x1), (2, .int x2), (3, .int x3), (4, .int x4)] []) : ∀ (x0 : Nat) (x1 : Int32) (x2 : Int32) (x3 : Int32) (x4 : Int32) (S : HS) (L : List Nat), wt S → hL S L → ext S0 S → (hK S x0 = 2) → wp_X1_tryFrom_56 N K29 P x0 x1 x2 x3 x4 S → GW p l e { (rm_X1_tryFrom (N + 1)) with cells := 0, slots := 0 } s m args below meth c D A 6 0 0 (MQ below (va_Qi (fun v (u : HS × List Nat) => P v u.1 ∧ CO S0 u) (CE D T A) A) args s 0 0 A) (CW T S L) 0 0 56 [(0, .ref x0), (1, .int x1), (2, .int x2), (3, .int x3), (4, .int x4)] [] := by
  have hW : ∀ {w : Cond}, w ∈ W0 → w.before args s = true := fun h => C.2.2.2.2.1 _ (List.mem_cons_of_mem _ h)
  intro x0 x1 x2 x3 x4 S L hw hL he hx0 h
  unfold wp_X1_tryFrom_56 at h
  refine g_aload_n C dX1_tryFrom_56 rfl 0 rfl ?_
  refine gc_getR C hw iwx_X1 hL hx0 (by decide) (by decide) rfl 6 (by decide) (hW kw_221) rfl rfl rfl dX1_tryFrom_57 (fun o19 eo19 ko19 => ?_)
  obtain ⟨b20, hb9, h⟩ := h
  have g21 : hK S b20 = 22 := ko19 b20 (eo19.trans hb9)
  replace h := h g21
  refine g_opt (eo19.trans hb9) ?_
  refine g_iload C dX1_tryFrom_60 4 rfl ?_
  refine g_dup2 C dX1_tryFrom_62 rfl rfl ?_
  obtain ⟨g22, h⟩ := h
  refine gc_iald C hL g21 g22 dX1_tryFrom_63 ?_
  refine g_iconst (v := 1) C dX1_tryFrom_64 (by decide) ?_
  refine g_iload_n C dX1_tryFrom_65 rfl 1 rfl ?_
  refine g_ishl C dX1_tryFrom_66 ?_
  refine g_ior C dX1_tryFrom_67 ?_
  obtain ⟨g23, h⟩ := h
  refine gc_iast C hL g21 g23 dX1_tryFrom_68 ?_
  have w24 := wt_putA hw (Int32.toNatClampNeg x4) ((hA S b20 (Int32.toNatClampNeg x4)) ||| ((1 : Int32) <<< (x1 &&& 31))) (k_ne g21 (by decide))
  refine gc_nS (fun S25 eS25 => ?_)
  replace h := h S25 eS25
  have w26 : wt S25 := by rw [eS25]; exact w24
  have w27 : isL S25 L := by rw [eS25]; exact hL
  have w28 : ext S0 S25 := by rw [eS25]; exact he
  have g29 : hK S25 x0 = 2 := by rw [eS25]; exact hx0
  refine g_aload_n C dX1_tryFrom_69 rfl 0 rfl ?_
  refine g_iload_n C dX1_tryFrom_70 rfl 1 rfl ?_
  refine g_iconst (v := 1) C dX1_tryFrom_71 (by decide) ?_
  refine g_iadd C dX1_tryFrom_72 ?_
  obtain ⟨m30, m31, m32, m33, h⟩ := h
  obtain ⟨g34, h⟩ := h
  refine gc_calliS (host := "") C E w26 w27 [.ref x0, .int (x1 + 1)] rfl (kr x0 (x1 + 1) S25 m30 m31 m32 m33 g29 g34) (w0_S 2 C.2.2.2.2.1 kw_1391 kw_1392 kw_8 kw_1393 rfl rfl (by decide +kernel) ⟨by dsimp only; omega, by dsimp only; omega⟩) rfl (Nat.le_of_ble_eq_true rfl) (Nat.le_refl _) (Nat.le_refl _) (Nat.zero_le _) (Nat.zero_le _) dX1_tryFrom_73 (fun v40 S35 L36 e37 w38 w39 hp => ?_)
  replace h := h v40 S35 e37 hp
  have g41 := ext_K e37 g29 (by decide)
  have w42 := ext_tr w28 e37
  refine g_istore (lv' := [(5, .int v40), (0, .ref x0), (1, .int x1), (2, .int x2), (3, .int x3), (4, .int x4)]) C dX1_tryFrom_76 (by decide) rfl ?_
  refine g_aload_n C dX1_tryFrom_78 rfl 1 rfl ?_
  refine gc_getR C w38 iwx_X1 w39 g41 (by decide) (by decide) rfl 6 (by decide) (hW kw_221) rfl rfl rfl dX1_tryFrom_79 (fun o43 eo43 ko43 => ?_)
  obtain ⟨b44, hb9, h⟩ := h
  have g45 : hK S35 b44 = 22 := ko43 b44 (eo43.trans hb9)
  replace h := h g45
  refine g_opt (eo43.trans hb9) ?_
  refine g_iload C dX1_tryFrom_82 5 rfl ?_
  refine g_dup2 C dX1_tryFrom_84 rfl rfl ?_
  obtain ⟨g46, h⟩ := h
  refine gc_iald C w39 g45 g46 dX1_tryFrom_85 ?_
  refine g_iconst (v := 1) C dX1_tryFrom_86 (by decide) ?_
  refine g_iload_n C dX1_tryFrom_87 rfl 2 rfl ?_
  refine g_ishl C dX1_tryFrom_88 ?_
  refine g_isub C dX1_tryFrom_89 ?_
  obtain ⟨g47, h⟩ := h
  refine gc_iast C w39 g45 g47 dX1_tryFrom_90 ?_
  have w48 := wt_putA w38 (Int32.toNatClampNeg x4) ((hA S35 b44 (Int32.toNatClampNeg x4)) - ((1 : Int32) <<< (x1 &&& 31))) (k_ne g45 (by decide))
  refine gc_nS (fun S49 eS49 => ?_)
  replace h := h S49 eS49
  have w50 : wt S49 := by rw [eS49]; exact w48
  have w51 : isL S49 L36 := by rw [eS49]; exact w39
  have w52 : ext S0 S49 := by rw [eS49]; exact w42
  have g53 : hK S49 x0 = 2 := by rw [eS49]; exact g41
  refine g_iload C dX1_tryFrom_91 0 rfl ?_
  refine g_iconst (v := -1) C dX1_tryFrom_93 (by decide) ?_
  refine g_icmp_eq (tgt := 111) C dX1_tryFrom_94 (by decide) (fun z54 => ?_) (fun z54 => ?_)
  · replace h := h.1 z54
    obtain ⟨v55, ev55⟩ : ∃ y : Int32, y = x4 + 1 := ⟨_, rfl⟩
    replace h := h v55 ev55
    refine g_iinc (v := v55) (lv' := [(4, .int v55), (5, .int v40), (0, .ref x0), (1, .int x1), (2, .int x2), (3, .int x3)]) C dX1_tryFrom_111 (j := 5) rfl (by rw [ev55]; rfl) (by decide) rfl ?_
    refine g_goto (tgt := 29) C dX1_tryFrom_114 (by decide) ?_
    refine g_locals [2, 3, 4, 5, 0] rfl ?_
    exact hK29 x0 x1 x2 x3 v55 S49 L36 w50 w51 w52 g53 h
  · replace h := h.2 z54
    refine g_iload_n C dX1_tryFrom_97 rfl 3 rfl ?_
    refine g_iconst (v := -1) C dX1_tryFrom_98 (by decide) ?_
    refine g_icmp_eq (tgt := 108) C dX1_tryFrom_99 (by decide) (fun z56 => ?_) (fun z56 => ?_)
    · replace h := h.1 z56
      refine g_iload C dX1_tryFrom_108 0 rfl ?_
      refine g_istore_n (lv' := [(2, .int v40), (5, .int v40), (0, .ref x0), (1, .int x1), (3, .int x3), (4, .int x4)]) C dX1_tryFrom_110 rfl (by decide) rfl ?_
      obtain ⟨v57, ev57⟩ : ∃ y : Int32, y = x4 + 1 := ⟨_, rfl⟩
      replace h := h v57 ev57
      refine g_iinc (v := v57) (lv' := [(4, .int v57), (2, .int v40), (5, .int v40), (0, .ref x0), (1, .int x1), (3, .int x3)]) C dX1_tryFrom_111 (j := 5) rfl (by rw [ev57]; rfl) (by decide) rfl ?_
      refine g_goto (tgt := 29) C dX1_tryFrom_114 (by decide) ?_
      refine g_locals [3, 4, 1, 5, 0] rfl ?_
      exact hK29 x0 x1 v40 x3 v57 S49 L36 w50 w51 w52 g53 h
    · replace h := h.2 z56
      refine g_iload C dX1_tryFrom_102 0 rfl ?_
      refine g_iload_n C dX1_tryFrom_104 rfl 3 rfl ?_
      refine g_icmp_ge (tgt := 111) C dX1_tryFrom_105 (by decide) (fun z58 => ?_) (fun z58 => ?_)
      · replace h := h.1 z58
        obtain ⟨v59, ev59⟩ : ∃ y : Int32, y = x4 + 1 := ⟨_, rfl⟩
        replace h := h v59 ev59
        refine g_iinc (v := v59) (lv' := [(4, .int v59), (5, .int v40), (0, .ref x0), (1, .int x1), (2, .int x2), (3, .int x3)]) C dX1_tryFrom_111 (j := 5) rfl (by rw [ev59]; rfl) (by decide) rfl ?_
        refine g_goto (tgt := 29) C dX1_tryFrom_114 (by decide) ?_
        refine g_locals [2, 3, 4, 5, 0] rfl ?_
        exact hK29 x0 x1 x2 x3 v59 S49 L36 w50 w51 w52 g53 h
      · replace h := h.2 z58
        refine g_iload C dX1_tryFrom_108 0 rfl ?_
        refine g_istore_n (lv' := [(2, .int v40), (5, .int v40), (0, .ref x0), (1, .int x1), (3, .int x3), (4, .int x4)]) C dX1_tryFrom_110 rfl (by decide) rfl ?_
        obtain ⟨v60, ev60⟩ : ∃ y : Int32, y = x4 + 1 := ⟨_, rfl⟩
        replace h := h v60 ev60
        refine g_iinc (v := v60) (lv' := [(4, .int v60), (2, .int v40), (5, .int v40), (0, .ref x0), (1, .int x1), (3, .int x3)]) C dX1_tryFrom_111 (j := 5) rfl (by rw [ev60]; rfl) (by decide) rfl ?_
        refine g_goto (tgt := 29) C dX1_tryFrom_114 (by decide) ?_
        refine g_locals [3, 4, 1, 5, 0] rfl ?_
        exact hK29 x0 x1 v40 x3 v60 S49 L36 w50 w51 w52 g53 h
def wb_X1_tryFrom_29 (N : Nat) (rec : Nat → Int32 → Int32 → Int32 → Int32 → HS → Prop) (P : Int32 → HS → Prop) (x0 : Nat) (x1 : Int32) (x2 : Int32) (x3 : Int32) (x4 : Int32) (S : HS) : Prop := (x3 < x4 → (∀ S13 : HS, S13 = putI S 47 x0 x3 → (P x2 S13))) ∧ (¬ x3 < x4 → ((¬ x4 = x3 → (wp_X1_tryFrom_56 N (fun (y61_x0 : Nat) (y61_x1 : Int32) (y61_x2 : Int32) (y61_x3 : Int32) (y61_x4 : Int32) (Sy61_ : HS) => (hK Sy61_ y61_x0 = 2) → (rec y61_x0 y61_x1 y61_x2 y61_x3 y61_x4 Sy61_)) P x0 x1 x2 x3 x4 S)) ∧ (x4 = x3 → (∃ b63 : Nat, hR S 46 x0 = some b63 ∧ (hK S b63 = 22 → (vp_in x4 (hN S b63) ∧ (∀ S67 : HS, S67 = putA S b63 (Int32.toNatClampNeg x4) 0 → (∀ S73 : HS, S73 = putI S67 47 x0 (x3 + 1) → (wp_X1_tryFrom_56 N (fun (y78_x0 : Nat) (y78_x1 : Int32) (y78_x2 : Int32) (y78_x3 : Int32) (y78_x4 : Int32) (Sy78_ : HS) => (hK Sy78_ y78_x0 = 2) → (rec y78_x0 y78_x1 y78_x2 y78_x3 y78_x4 Sy78_)) P x0 x1 x2 x3 x4 S73)))))))))
def wp_X1_tryFrom_29 (N : Nat) (P : Int32 → HS → Prop) : Nat → Nat → Int32 → Int32 → Int32 → Int32 → HS → Prop
  | 0 => fun _ _ _ _ _ _ => False
  | n + 1 => fun x0 x1 x2 x3 x4 S => wb_X1_tryFrom_29 N (wp_X1_tryFrom_29 N  P n)  P x0 x1 x2 x3 x4 S
set_option maxRecDepth 100000 in
set_option maxHeartbeats 4000000 in
theorem t_X1_tryFrom_29 {p : Program} {l : Launch} {e : Env} {s : State} {m : MethodId} {args : Array Value} {below : List Frame} {meth : Method} {c : Code} {N : Nat} {D : va_G} {A : Nat → Prop} {T : Nat → ClassId} (C : GC p s m args meth c cX1_tryFrom "FreightRater$Plan" (ws_X1_tryFrom) 6 D A (zty T)) (E : GE T A s) (kr : KR_X1_tryFrom l D T N) (hr : meth.sig.returnType = (some .int)) (S0 : HS) (P : Int32 → HS → Prop) : ∀ (n : Nat) (x0 : Nat) (x1 : Int32) (x2 : Int32) (x3 : Int32) (x4 : Int32) (S : HS) (L : List Nat), wt S → hL S L → ext S0 S → (hK S x0 = 2) → wp_X1_tryFrom_29 N  P n x0 x1 x2 x3 x4 S → GW p l e { (rm_X1_tryFrom (N + 1)) with cells := 0, slots := 0 } s m args below meth c D A 6 0 0 (MQ below (va_Qi (fun v (u : HS × List Nat) => P v u.1 ∧ CO S0 u) (CE D T A) A) args s 0 0 A) (CW T S L) 0 0 29 [(0, .ref x0), (1, .int x1), (2, .int x2), (3, .int x3), (4, .int x4)] [] := by
  have hW : ∀ {w : Cond}, w ∈ W0 → w.before args s = true := fun h => C.2.2.2.2.1 _ (List.mem_cons_of_mem _ h)
  intro n
  induction n with
  | zero => intro x0 x1 x2 x3 x4 S L hw hL he hx0 h; exact h.elim
  | succ n ih =>
    intro x0 x1 x2 x3 x4 S L hw hL he hx0 h
    replace h : wb_X1_tryFrom_29 N (wp_X1_tryFrom_29 N  P n)  P x0 x1 x2 x3 x4 S := h
    unfold wb_X1_tryFrom_29 at h
    refine g_iload C dX1_tryFrom_29 4 rfl ?_
    refine g_iload_n C dX1_tryFrom_31 rfl 3 rfl ?_
    refine g_icmp_gt (tgt := 117) C dX1_tryFrom_32 (by decide) (fun z11 => ?_) (fun z11 => ?_)
    · replace h := h.1 z11
      refine g_aload_n C dX1_tryFrom_117 rfl 0 rfl ?_
      refine g_iload_n C dX1_tryFrom_118 rfl 3 rfl ?_
      refine gc_putI C iwx_X1 hL hx0 (by decide) (by decide) rfl 7 (by decide) (hW kw_223) rfl tyX1 tyX1_ok nmX1 rfl rfl rfl rfl rfl dX1_tryFrom_119 ?_
      have w12 := wt_putI hw 47 x3 (k_ne hx0 (by decide))
      refine gc_nS (fun S13 eS13 => ?_)
      replace h := h S13 eS13
      have w14 : wt S13 := by rw [eS13]; exact w12
      have w15 : isL S13 L := by rw [eS13]; exact hL
      have w16 : ext S0 S13 := by rw [eS13]; exact he
      have g17 : hK S13 x0 = 2 := by rw [eS13]; exact hx0
      refine g_iload_n C dX1_tryFrom_122 rfl 2 rfl ?_
      exact gc_iret C w14 w15 w16 hr dX1_tryFrom_123 h
    · replace h := h.2 z11
      refine g_iload C dX1_tryFrom_35 4 rfl ?_
      refine g_iload_n C dX1_tryFrom_37 rfl 3 rfl ?_
      refine g_icmp_ne (tgt := 56) C dX1_tryFrom_38 (by decide) (fun z18 => ?_) (fun z18 => ?_)
      · replace h := h.1 z18
        refine g_locals [0, 1, 2, 3, 4] rfl ?_
        refine t_X1_tryFrom_56 C E kr hr S0 _ P ?_ x0 x1 x2 x3 x4 S L hw hL he hx0 h
        · intro y61_x0 y61_x1 y61_x2 y61_x3 y61_x4 Sy61_ Ly61_ hwy61_ hLy61_ hey61_ hy61_x0 h
          replace h := h hy61_x0
          refine g_locals [0, 1, 2, 3, 4] rfl ?_
          exact ih y61_x0 y61_x1 y61_x2 y61_x3 y61_x4 Sy61_ Ly61_ hwy61_ hLy61_ hey61_ hy61_x0 h
      · replace h := h.2 z18
        refine g_aload_n C dX1_tryFrom_41 rfl 0 rfl ?_
        refine gc_getR C hw iwx_X1 hL hx0 (by decide) (by decide) rfl 6 (by decide) (hW kw_221) rfl rfl rfl dX1_tryFrom_42 (fun o62 eo62 ko62 => ?_)
        obtain ⟨b63, hb9, h⟩ := h
        have g64 : hK S b63 = 22 := ko62 b63 (eo62.trans hb9)
        replace h := h g64
        refine g_opt (eo62.trans hb9) ?_
        refine g_iload C dX1_tryFrom_45 4 rfl ?_
        refine g_iconst (v := 0) C dX1_tryFrom_47 (by decide) ?_
        obtain ⟨g65, h⟩ := h
        refine gc_iast C hL g64 g65 dX1_tryFrom_48 ?_
        have w66 := wt_putA hw (Int32.toNatClampNeg x4) 0 (k_ne g64 (by decide))
        refine gc_nS (fun S67 eS67 => ?_)
        replace h := h S67 eS67
        have w68 : wt S67 := by rw [eS67]; exact w66
        have w69 : isL S67 L := by rw [eS67]; exact hL
        have w70 : ext S0 S67 := by rw [eS67]; exact he
        have g71 : hK S67 x0 = 2 := by rw [eS67]; exact hx0
        refine g_aload_n C dX1_tryFrom_49 rfl 0 rfl ?_
        refine g_iload_n C dX1_tryFrom_50 rfl 3 rfl ?_
        refine g_iconst (v := 1) C dX1_tryFrom_51 (by decide) ?_
        refine g_iadd C dX1_tryFrom_52 ?_
        refine gc_putI C iwx_X1 w69 g71 (by decide) (by decide) rfl 7 (by decide) (hW kw_223) rfl tyX1 tyX1_ok nmX1 rfl rfl rfl rfl rfl dX1_tryFrom_53 ?_
        have w72 := wt_putI w68 47 (x3 + 1) (k_ne g71 (by decide))
        refine gc_nS (fun S73 eS73 => ?_)
        replace h := h S73 eS73
        have w74 : wt S73 := by rw [eS73]; exact w72
        have w75 : isL S73 L := by rw [eS73]; exact w69
        have w76 : ext S0 S73 := by rw [eS73]; exact w70
        have g77 : hK S73 x0 = 2 := by rw [eS73]; exact g71
        refine g_locals [0, 1, 2, 3, 4] rfl ?_
        refine t_X1_tryFrom_56 C E kr hr S0 _ P ?_ x0 x1 x2 x3 x4 S73 L w74 w75 w76 g77 h
        · intro y78_x0 y78_x1 y78_x2 y78_x3 y78_x4 Sy78_ Ly78_ hwy78_ hLy78_ hey78_ hy78_x0 h
          replace h := h hy78_x0
          refine g_locals [0, 1, 2, 3, 4] rfl ?_
          exact ih y78_x0 y78_x1 y78_x2 y78_x3 y78_x4 Sy78_ Ly78_ hwy78_ hLy78_ hey78_ hy78_x0 h
def wp_X1_tryFrom (N : Nat) (P : Int32 → HS → Prop) (p0 : Nat) (p1 : Int32) (S : HS) : Prop := ((hI S 40 p0) ≤ p1 → (∃ (m2 : Nat → Nat) (m3 : List Nat), ((PlO S p0 m2 ∧ PlP S p0 m2 m3) ∧ (P ((if raL (hA S (m2 1)) m3 = true then suL (hA S (m2 1)) m3 0 else -1)) S)))) ∧ (¬ (hI S 40 p0) ≤ p1 → ((p1 < 6 → (∀ v10 : Int32, v10 = (hI S 47 p0) → (∃ k79 : Nat, wp_X1_tryFrom_29 N  P k79 p0 p1 (-1) v10 0 S))) ∧ (¬ p1 < 6 → (∃ (m80 : Nat → Nat) (m81 : List Nat), ((PlO S p0 m80 ∧ PlP S p0 m80 m81) ∧ (P ((if raL (hA S (m80 1)) m81 = true then suL (hA S (m80 1)) m81 0 else -1)) S))))))
set_option maxRecDepth 100000 in
set_option maxHeartbeats 4000000 in
theorem t_X1_tryFrom {p : Program} {l : Launch} {e : Env} {s : State} {m : MethodId} {args : Array Value} {below : List Frame} {meth : Method} {c : Code} {N : Nat} {D : va_G} {A : Nat → Prop} {T : Nat → ClassId} (C : GC p s m args meth c cX1_tryFrom "FreightRater$Plan" (ws_X1_tryFrom) 6 D A (zty T)) (E : GE T A s) (kr : KR_X1_tryFrom l D T N) (hr : meth.sig.returnType = (some .int)) (P : Int32 → HS → Prop) : ∀ (p0 : Nat) (p1 : Int32) (S0 S : HS) (L : List Nat), S0 = S → wt S → hL S L → (hK S p0 = 2) → wp_X1_tryFrom N P p0 p1 S → GW p l e { (rm_X1_tryFrom (N + 1)) with cells := 0, slots := 0 } s m args below meth c D A 6 0 0 (MQ below (va_Qi (fun v (u : HS × List Nat) => P v u.1 ∧ CO S0 u) (CE D T A) A) args s 0 0 A) (CW T S L) 0 0 0 [(0, .ref p0), (1, .int p1)] [] := by
  have hW : ∀ {w : Cond}, w ∈ W0 → w.before args s = true := fun h => C.2.2.2.2.1 _ (List.mem_cons_of_mem _ h)
  intro p0 p1 S0 S L hS0 hw hL hp0 h
  have he : ext S0 S := by rw [hS0]; exact ext_rf
  unfold wp_X1_tryFrom at h
  refine g_iload_n C dX1_tryFrom_0 rfl 1 rfl ?_
  refine g_aload_n C dX1_tryFrom_1 rfl 0 rfl ?_
  refine gc_getI C iwx_X1 hL hp0 (by decide) (by decide) rfl 0 (by decide) (hW kw_213) rfl rfl rfl dX1_tryFrom_2 ?_
  refine g_icmp_ge (tgt := 14) C dX1_tryFrom_5 (by decide) (fun z1 => ?_) (fun z1 => ?_)
  · replace h := h.1 z1
    refine g_aload_n C dX1_tryFrom_14 rfl 0 rfl ?_
    obtain ⟨m2, m3, h⟩ := h
    obtain ⟨g4, h⟩ := h
    refine gc_calliV (host := "") C E hw hL hp0 (by decide) (by decide) rfl [] rfl (k_X1_totalIfRated l D T p0 S m2 m3 hp0 g4) (w0_V 0 C.2.2.2.2.1 kw_1394 kw_1396 ks_45 kw_8 kw_1397 rfl rfl (by decide +kernel) ⟨by dsimp only; omega, by dsimp only; omega⟩) rfl (Nat.le_of_ble_eq_true rfl) (Nat.le_refl _) (Nat.le_refl _) (Nat.zero_le _) (Nat.zero_le _) dX1_tryFrom_15 (fun v9 S9 L5 he9 hw9 hL9 hp => ?_)
    obtain ⟨hv9, hs9⟩ := hp
    replace hs9 := hs9.symm
    subst hs9
    replace hv9 := hv9.symm
    subst hv9
    have w8 := hL9
    exact gc_iret C hw w8 he hr dX1_tryFrom_18 h
  · replace h := h.2 z1
    refine g_iload_n C dX1_tryFrom_8 rfl 1 rfl ?_
    refine g_bipush (v := 6) C dX1_tryFrom_9 (by decide) ?_
    refine g_icmp_lt (tgt := 19) C dX1_tryFrom_11 (by decide) (fun z9 => ?_) (fun z9 => ?_)
    · replace h := h.1 z9
      refine g_iconst (v := -1) C dX1_tryFrom_19 (by decide) ?_
      refine g_istore_n (lv' := [(2, .int (-1)), (0, .ref p0), (1, .int p1)]) C dX1_tryFrom_20 rfl (by decide) rfl ?_
      refine g_aload_n C dX1_tryFrom_21 rfl 1 rfl ?_
      refine gc_getI C iwx_X1 hL hp0 (by decide) (by decide) rfl 7 (by decide) (hW kw_223) rfl rfl rfl dX1_tryFrom_22 ?_
      refine g_topi (fun v10 ev10 => ?_)
      replace h := h v10 ev10
      refine g_istore_n (lv' := [(3, .int v10), (2, .int (-1)), (0, .ref p0), (1, .int p1)]) C dX1_tryFrom_25 rfl (by decide) rfl ?_
      refine g_iconst (v := 0) C dX1_tryFrom_26 (by decide) ?_
      refine g_istore (lv' := [(4, .int 0), (3, .int v10), (2, .int (-1)), (0, .ref p0), (1, .int p1)]) C dX1_tryFrom_27 (by decide) rfl ?_
      refine g_locals [3, 4, 2, 1, 0] rfl ?_
      obtain ⟨k79, h⟩ := h
      refine t_X1_tryFrom_29 C E kr hr S0  P  k79 p0 p1 (-1) v10 0 S L hw hL he hp0 h
    · replace h := h.2 z9
      refine g_aload_n C dX1_tryFrom_14 rfl 0 rfl ?_
      obtain ⟨m80, m81, h⟩ := h
      obtain ⟨g82, h⟩ := h
      refine gc_calliV (host := "") C E hw hL hp0 (by decide) (by decide) rfl [] rfl (k_X1_totalIfRated l D T p0 S m80 m81 hp0 g82) (w0_V 0 C.2.2.2.2.1 kw_1394 kw_1396 ks_45 kw_8 kw_1397 rfl rfl (by decide +kernel) ⟨by dsimp only; omega, by dsimp only; omega⟩) rfl (Nat.le_of_ble_eq_true rfl) (Nat.le_refl _) (Nat.le_refl _) (Nat.zero_le _) (Nat.zero_le _) dX1_tryFrom_15 (fun v9 S9 L83 he9 hw9 hL9 hp => ?_)
      obtain ⟨hv9, hs9⟩ := hp
      replace hs9 := hs9.symm
      subst hs9
      replace hv9 := hv9.symm
      subst hv9
      have w86 := hL9
      exact gc_iret C hw w86 he hr dX1_tryFrom_18 h
theorem c_X1_tryFrom (l : Launch) (D : va_G) (T : Nat → ClassId) {N : Nat} (kr : KR_X1_tryFrom l D T N) (p0 : Nat) (p1 : Int32) (S : HS) (hp0 : hK S p0 = 2) (P : Int32 → HS → Prop) (h : wp_X1_tryFrom N P p0 p1 S) : CMi l yX1_tryFrom (ws_X1_tryFrom) (rm_X1_tryFrom (N + 1)) D T [.ref p0, .int p1] S 0 0 P := gc_meti (by decide) rfl rfl (Nat.le_of_ble_eq_true rfl) (fun p e s m args below meth c A L C E hnm hr hw hL => t_X1_tryFrom C E kr   hr P p0 p1 S S L rfl hw hL hp0 h)
theorem addG_l {G : List Nat} {i b : Nat} (hi : i ≤ G.length) : (addG G i b).length = if i < G.length then G.length else G.length + 1 := by
  unfold addG
  by_cases c : i < G.length
  · rw [if_pos c, if_pos c, List.length_set]
  · rw [if_neg c, if_neg c, List.length_append]; rfl
theorem addG_i {G : List Nat} {i b : Nat} (hi : i ≤ G.length) : gl (addG G i b) i = (if i < G.length then gl G i else 0) ||| b := by
  unfold addG
  by_cases c : i < G.length
  · rw [if_pos c, if_pos c, gl_set c, if_pos rfl]
  · rw [if_neg c, if_neg c, show i = G.length by omega, gl_ar, Nat.zero_or]
theorem addG_o {G : List Nat} {i b j : Nat} (hi : i ≤ G.length) (hj : j < (addG G i b).length) (c9 : j ≠ i) : gl (addG G i b) j = gl G j ∧ j < G.length := by
  rw [addG_l hi] at hj
  unfold addG
  by_cases c : i < G.length
  · rw [if_pos c] at hj ⊢
    rw [gl_set c, if_neg c9]
    exact ⟨rfl, hj⟩
  · rw [if_neg c] at hj ⊢
    rw [gl_al (by omega)]
    exact ⟨rfl, by omega⟩
theorem pow_or {g k : Nat} (h : g < 2 ^ k) : g ||| 2 ^ k = g + 2 ^ k := by
  have e := Nat.two_pow_add_eq_or_of_lt h 1
  rw [Nat.mul_one] at e
  rw [Nat.or_comm, ← e, Nat.add_comm]
theorem lsF_k {K : Int32 → Prop} {y f : Int32} (h : K (lsF y f)) : (f = -1 → K y) ∧ (¬ f = -1 → (y = -1 → K f) ∧ (¬ y = -1 → (y ≤ f → K y) ∧ (¬ y ≤ f → K f))) := by
  unfold lsF at h
  refine ⟨fun c => by rw [if_pos c] at h; exact h, fun c => ?_⟩
  rw [if_neg c] at h
  refine ⟨fun d => by rw [if_pos d] at h; exact h, fun d => ?_⟩
  rw [if_neg d] at h
  refine ⟨fun e => ?_, fun e => ?_⟩
  · rw [if_neg (Int32.not_lt.mpr e)] at h; exact h
  · rw [if_pos (Int32.not_le.mp e)] at h; exact h
theorem frP.a1 {S S1 : HS} {x : Nat} {a : Nat → Nat} {I : List Nat} (h : frP S S1 x a I [5]) (hO : PlO S x a) : hA S1 (a 1) = hA S (a 1) := h.2.2.2.2.2 _ (fun j hj => hO.ne (by omega) (by
      simp only [List.mem_cons, List.not_mem_nil, or_false] at hj; omega) (by
      simp only [List.mem_cons, List.not_mem_nil, or_false] at hj; omega))
theorem rl_t56 {K : Nat → Int32 → Int32 → Int32 → Int32 → HS → Prop} {P : Int32 → HS → Prop} {M : Nat} {S0 S : HS} {x n nx i g0 : Nat} {a : Nat → Nat} {G : List Nat} {y : Int32} (hO : PlO S x a) (h40 : hI S 40 x = nI n) (hn : n ≤ 6) (hx : nx < n) (hM : n < nx + 1 + M) (hi : i ≤ G.length) (hl : G.length ≤ nx) (hg : ∀ i, i < G.length → gl G i < 2 ^ nx) (hF : frP S0 S x a [47] [5]) (hO0 : PlO S0 x a) (h47 : hI S 47 x = nI (addG G i (2 ^ nx)).length) (h0 : g0 = if i < G.length then gl G i else 0) (ha : hA S (a 5) i = nI g0) (hh : ∀ j, j < (addG G i (2 ^ nx)).length → j ≠ i → hA S (a 5) j = nI (gl (addG G i (2 ^ nx)) j)) (hK : ∀ S1, frP S0 S1 x a [47] [5] → hI S1 47 x = nI (addG G i (2 ^ nx)).length → (∀ j, j < (addG G i (2 ^ nx)).length → j ≠ i → hA S1 (a 5) j = nI (gl (addG G i (2 ^ nx)) j)) → hA S1 (a 5) i = nI g0 → K x (nI nx) (lsF y (trF (hA S0 (a 1)) (n - (nx + 1)) (nx + 1) (addG G i (2 ^ nx)))) (nI G.length) (nI (i + 1)) S1) : wp_X1_tryFrom_56 M K P x (nI nx) y (nI G.length) (nI i) S := by
  have hp : 2 ^ nx ≤ 32 := Nat.pow_le_pow_right (n := 2) (by decide) (show nx ≤ 5 by omega)
  have hp1 : 2 ^ (nx + 1) = 2 ^ nx + 2 ^ nx := by rw [Nat.pow_succ]; omega
  have hq : 0 < 2 ^ nx := Nat.two_pow_pos nx
  have hg0 : g0 < 2 ^ nx := by
    rw [h0]
    by_cases c : i < G.length
    · rw [if_pos c]; exact hg i c
    · rw [if_neg c]; exact hq
  have hL := addG_l (b := 2 ^ nx) hi
  have hil : i < (addG G i (2 ^ nx)).length := by rw [hL]; by_cases c : i < G.length <;> (first | rw [if_pos c] | rw [if_neg c]) <;> omega
  have hL7 : (addG G i (2 ^ nx)).length ≤ nx + 1 := by rw [hL]; by_cases c : i < G.length <;> (first | rw [if_pos c] | rw [if_neg c]) <;> omega
  have hgi : gl (addG G i (2 ^ nx)) i = g0 + 2 ^ nx := by rw [addG_i hi, ← h0, pow_or hg0]
  have hgo : ∀ j, j < (addG G i (2 ^ nx)).length → gl (addG G i (2 ^ nx)) j < 2 ^ (nx + 1) := fun j hj => by
    by_cases c : j = i
    · rw [c, hgi]; omega
    · obtain ⟨e1, e2⟩ := addG_o hi hj c
      rw [e1]
      have := hg j e2
      omega
  unfold wp_X1_tryFrom_56
  refine ⟨a 5, hO.pts, fun _ => ?_⟩
  rw [hO.n5, nz_vp (by omega) (by decide), nI_clamp (n := i) (by omega), ha, sh1 (by omega), nI_or, pow_or hg0]
  refine ⟨by omega, by omega, fun S25 e25 => ?_⟩
  have F25 : frP S0 S25 x a [47] [5] := by rw [e25]; exact hF.A 5 _ _ (by decide)
  have F5 : frP S S25 x a [47] [5] := by rw [e25]; exact frP.rf.A 5 _ _ (by decide)
  have O25 := hO.fr F5
  have i25 : hI S25 47 x = nI (addG G i (2 ^ nx)).length := by rw [e25]; exact h47
  have A25 : ∀ j, j < (addG G i (2 ^ nx)).length → hA S25 (a 5) j = nI (gl (addG G i (2 ^ nx)) j) := fun j hj => by
    by_cases c : j = i
    · subst c; rw [e25, putA_s, hgi]
    · rw [e25, putA_n _ _ c]; exact hh j hj c
  refine ⟨a, addG G i (2 ^ nx), nx + 1, n, ⟨O25, ⟨i25, by omega, fun j hj => ⟨A25 j hj, ?_⟩⟩, by rw [e25]; exact h40, hn, nI_1 nx, by omega, hM, hL7, hgo⟩, fun v S35 _ h35 => ?_⟩
  · have := hgo j hj
    omega
  · obtain ⟨F35, P35, ev⟩ := h35
    rw [F25.a1 hO0] at ev
    subst ev
    have O35 := O25.fr F35
    refine ⟨a 5, O35.pts, fun _ => ?_⟩
    rw [O35.n5, nz_vp (by omega) (by decide), (P35.2.2 i hil).1, hgi, sub_k (by omega), Nat.add_sub_cancel]
    refine ⟨by omega, by omega, fun S49 e49 => ?_⟩
    have F49 : frP S0 S49 x a [47] [5] := by
      rw [e49]
      exact (F25.tr F35 (fun _ h => h) (fun _ h => h) (fun _ h => h) (fun _ h => h)).A 5 _ _ (by decide)
    have hk := hK S49 F49 (by rw [e49]; exact P35.1) (fun j hj c => by rw [e49, putA_n _ _ c]; exact (P35.2.2 j hj).1) (by rw [e49, putA_s])
    obtain ⟨k1, k2⟩ := lsF_k (K := fun y9 => K x (nI nx) y9 (nI G.length) (nI (i + 1)) S49) hk
    refine ⟨fun c y9 e9 => ?_, fun c => ⟨fun d y9 e9 => ?_, fun d => ⟨fun e y9 e9 => ?_, fun e y9 e9 => ?_⟩⟩⟩
    · rw [nI_1] at e9; subst e9; exact k1 c
    · rw [nI_1] at e9; subst e9; exact (k2 c).1 d
    · rw [nI_1] at e9; subst e9; exact ((k2 c).2 d).1 e
    · rw [nI_1] at e9; subst e9; exact ((k2 c).2 d).2 e
theorem rl_tf {P : Int32 → HS → Prop} {M : Nat} {S0 : HS} {x n nx k : Nat} {a : Nat → Nat} {G : List Nat} (hO : PlO S0 x a) (hG : PlP S0 x a G) (h40 : hI S0 40 x = nI n) (hn : n ≤ 6) (hx : nx < n) (hl : G.length ≤ nx) (hg : ∀ i, i < G.length → gl G i < 2 ^ nx) (hM : n < nx + 1 + M) (hk : n - (nx + 1) = k) (hP : ∀ S1, frP S0 S1 x a [47] [5] → PlP S1 x a G → P (trF (hA S0 (a 1)) (k + 1) nx G) S1) : ∀ (m i fuel : Nat) (S : HS) (y : Int32), i + m = G.length + 1 → m < fuel → frP S0 S x a [47] [5] → (i ≤ G.length → hI S 47 x = nI G.length) → (∀ j, j < G.length → hA S (a 5) j = nI (gl G j)) → trI (fun i => trF (hA S0 (a 1)) k (nx + 1) (addG G i (2 ^ nx))) m i y = trF (hA S0 (a 1)) (k + 1) nx G → wp_X1_tryFrom_29 M P fuel x (nI nx) y (nI G.length) (nI i) S := by
  intro m
  induction m with
  | zero =>
    intro i fuel S y hi hf hF h47 hh hr
    obtain ⟨f, rfl⟩ : ∃ f, fuel = f + 1 := ⟨fuel - 1, by omega⟩; rw [wp_X1_tryFrom_29]; unfold wb_X1_tryFrom_29; dsimp only
    rw [nI_ltI (by omega) (by omega)]
    refine ⟨fun _ S13 e13 => ?_, fun c => absurd (by omega) c⟩
    rw [trI] at hr
    rw [hr]
    refine hP S13 (by rw [e13]; exact hF.I 47 _ (by decide)) ⟨by rw [e13]; exact putI_s _ _ _ _, hG.2.1, fun j hj => ⟨by rw [e13]; exact hh j hj, (hG.2.2 j hj).2⟩⟩
  | succ m ih =>
    intro i fuel S y hi hf hF h47 hh hr
    rw [trI] at hr
    have hO1 := hO.fr hF
    have i40 : hI S 40 x = nI n := (hF.2.2.2.2.1 40 x (Or.inr (by decide))).trans h40
    obtain ⟨f, rfl⟩ : ∃ f, fuel = f + 1 := ⟨fuel - 1, by omega⟩; rw [wp_X1_tryFrom_29]; unfold wb_X1_tryFrom_29; dsimp only
    rw [nI_ltI (by omega) (by omega)]
    refine ⟨fun c => absurd c (by omega), fun _ => ⟨fun c => ?_, fun c => ?_⟩⟩
    · have hil : i < G.length := by
        rcases Nat.lt_or_ge i G.length with h | h
        · exact h
        · exact absurd (by rw [show i = G.length by omega]) c
      have eL : (addG G i (2 ^ nx)).length = G.length := by rw [addG_l (by omega), if_pos hil]
      refine rl_t56 (g0 := gl G i) hO1 i40 hn hx hM (by omega) hl hg hF hO (by rw [eL]; exact h47 (by omega)) (by rw [if_pos hil]) (hh i hil) (fun j hj c => by rw [(addG_o (by omega) hj c).1]; exact hh j (addG_o (by omega) hj c).2) (fun S1 f1 g1 g2 g3 _ => ?_)
      refine ih (i + 1) f S1 _ (by omega) (by omega) f1 (fun _ => by rw [g1, eL]) (fun j hj => ?_) (by rw [← hk] at hr ⊢; exact hr)
      by_cases c : j = i
      · rw [c]; exact g3
      · rw [g2 j (by rw [eL]; exact hj) c, (addG_o (by omega) (by rw [eL]; exact hj) c).1]
    · have hil : i = G.length := by
        rcases Nat.lt_or_ge i G.length with h | h
        · exact absurd ((nI_eq (by omega) (by omega)).mp c) (by omega)
        · omega
      subst hil
      have eL : (addG G G.length (2 ^ nx)).length = G.length + 1 := by rw [addG_l (by omega), if_neg (by omega)]
      refine ⟨a 5, hO1.pts, fun _ => ?_⟩
      rw [hO1.n5, nz_vp (by omega) (by decide), nI_clamp (n := G.length) (by omega), nI_1]
      refine ⟨by omega, fun S62 e62 S68 e68 => ?_⟩
      have F68 : frP S0 S68 x a [47] [5] := by rw [e68, e62]; exact (hF.A 5 _ _ (by decide)).I 47 _ (by decide)
      refine rl_t56 (g0 := 0) (hO.fr F68) (by rw [e68, e62]; exact i40) hn hx hM (by omega) hl hg F68 hO (by rw [eL, e68]; exact putI_s _ _ _ _) (by rw [if_neg (by omega)]) (by rw [e68, e62]; exact putA_s _ _ _ _) (fun j hj c => ?_) (fun S1 f1 g1 g2 g3 _ => ?_)
      · rw [(addG_o (by omega) hj c).1, e68, e62]
        exact (congrFun (show hA (putI (putA S (a 5) G.length 0) 47 x (nI (G.length + 1))) (a 5) = hA (putA S (a 5) G.length 0) (a 5) from rfl) j).trans ((putA_n _ _ c).trans (hh j (addG_o (by omega) hj c).2))
      refine ih (G.length + 1) f S1 _ (by omega) (by omega) f1 (fun c => absurd c (by omega)) (fun j hj => ?_) (by rw [← hk] at hr ⊢; exact hr)
      have c : j ≠ G.length := by omega
      rw [g2 j (by rw [eL]; omega) c, (addG_o (by omega) (by rw [eL]; omega) c).1]
theorem kx_X1_tryFrom {N : Nat} (l : Launch) (D : va_G) (T : Nat → ClassId) (kr : KR_X1_tryFrom l D T N) (p0 : Nat) (p1 : Int32) (S : HS) (e0 : Nat → Nat) (e1 : List Nat) (e2 : Nat) (e3 : Nat) (hp0 : hK S p0 = 2) (h : PlO S p0 e0 ∧ PlP S p0 e0 e1 ∧ hI S 40 p0 = nI e3 ∧ e3 ≤ 6 ∧ p1 = nI e2 ∧ e2 ≤ e3 ∧ e3 < e2 + (N + 1) ∧ e1.length ≤ e2 ∧ ∀ i, i < e1.length → gl e1 i < 2 ^ e2) : CMi l yX1_tryFrom (ws_X1_tryFrom) (rm_X1_tryFrom (N + 1)) D T [.ref p0, .int p1] S 0 0 (fun v S1 => (frP S S1 p0 e0 [47] [5] ∧ PlP S1 p0 e0 e1 ∧ v = trF (hA S (e0 1)) (e3 - e2) e2 e1)) := c_X1_tryFrom l D T kr p0 p1 S hp0 _ <|
  (by
    obtain ⟨hO, hG, h40, hn, e9, hnx, hN, hl, hg⟩ := h
    subst e9
    have h8 := hG.2.1
    have hG0 := hG
    obtain ⟨h47, _, hh⟩ := hG
    unfold wp_X1_tryFrom
    rw [h40, nI_leI (by omega) (by omega)]
    refine ⟨fun c => ⟨e0, e1, ⟨hO, hG0⟩, frP.rf, hG0, ?_⟩, fun c => ⟨fun _ v ev => ?_, fun c1 => absurd ((nI_ltI (a := e2) (b := 6) (by omega) (by decide)).mpr (by omega)) c1⟩⟩
    · rw [show e3 - e2 = 0 by omega, trF]
    · subst ev
      rw [h47]
      refine ⟨20, ?_⟩
      obtain ⟨k, ek⟩ : ∃ k, e3 - e2 = k + 1 := ⟨e3 - e2 - 1, by omega⟩
      rw [ek]
      exact rl_tf (k := k) hO hG0 h40 hn (by omega) hl hg (by omega) (by omega) (fun S1 f1 g1 => ⟨f1, g1, rfl⟩) (e1.length + 1) 0 20 S (-1) (by omega) (by omega) frP.rf (fun _ => h47) (fun j hj => (hh j hj).1) (by rw [trF]))
theorem k_X1_tryFrom : ∀ (N : Nat) (l : Launch) (D : va_G) (T : Nat → ClassId), KR_X1_tryFrom l D T N := by
  intro N
  induction N with
  | zero => intro l D T p0 p1 S e0 e1 e2 e3 hp0 h; exact absurd h.2.2.2.2.2.2.1 (by have := h.2.2.2.2.2.1; omega)
  | succ N ih => exact fun l D T p0 p1 S e0 e1 e2 e3 hp0 h => kx_X1_tryFrom l D T (ih l D T) p0 p1 S e0 e1 e2 e3 hp0 h

end S_C5A
