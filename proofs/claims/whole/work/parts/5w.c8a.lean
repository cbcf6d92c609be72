section S_C8A
abbrev ws_X3_readCondition : List Cond := Cond.code yX3_readCondition cX3_readCondition 4 none :: W0
abbrev rm_X3_readCondition : Room := ({ frames := 19, cells := 0, slots := 0, locals := 742 } : Room)
def wb_X3_readCondition_4 (T : Nat → ClassId) (rec : Nat → Nat → Int32 → Int32 → HS → Nat → Nat → Prop) (P : HS → Prop) (x0 : Nat) (x1 : Nat) (x2 : Int32) (x3 : Int32) (S : HS) (kc ks : Nat) : Prop := ((hI S 81 x0) < x3 → (P S)) ∧ (¬ (hI S 81 x0) < x3 → (∃ cc2 cc3 : Nat, (cc2 ≤ kc ∧ cc3 ≤ ks) ∧ (∃ (m5 : Nat → Int32) (m6 : Nat) (m7 : PS) (m8 : (Nat → Prop)), ((RdO S x0 m5 m6 m7 ∧ chO m5 m6 ∧ vz x2 ∧ (∀ b, m8 b → hK S b ≠ 0) ∧ 1 ≤ cc2 ∧ 5 ≤ cc3) ∧ (∀ (o15 : Option Nat) (S10 : HS), ext S S10 → (∀ b, o15 = some b → hK S10 b = 9) → (frM S S10 (fun b => b = x0) ∧ RdO S10 x0 m5 m6 (tsR m5 m6 m7).2 ∧ ∃ y, o15 = some y ∧ hK S y = 0 ∧ ((tsR m5 m6 m7).2.2 = false → RelX S10 m8 y (x2 = 1) (tsR m5 m6 m7).1)) → (∃ b19 : Nat, o15 = some b19 ∧ (hK S10 b19 = 9 → (∃ cc21 cc22 : Nat, (cc21 ≤ (kc - cc2) ∧ cc22 ≤ (ks - cc3)) ∧ (∃ (m24 : Nat → Nat) (m25 : Nat) (m26 : Nat), ((hR S10 24 x1 = some m26 ∧ LiO S10 (T 120) m26 m25 9 m24 ∧ m25 ≤ 100 ∧ hK S10 (T 120) = 30 ∧ hN S10 (T 120) = 0 ∧ 1 ≤ cc21 ∧ 400 ≤ cc22) ∧ (∀ (S28 : HS), ext S10 S28 → (frM S10 S28 (fun b => b = x1 ∨ liA S10 m26 b) ∧ LiO S28 (T 120) m26 (m25 + 1) 9 (fun j => if j = m25 then b19 else m24 j) ∧ hR S28 24 x1 = some m26 ∧ hI S28 23 x1 = (if hI S10 180 b19 = 0 then hI S10 23 x1 else hI S10 23 x1 + 1) ∧ (∀ i, i ≠ 23 → hI S28 i x1 = hI S10 i x1) ∧ ∃ b, hR S28 261 m26 = some b ∧ (hK S10 b = 0 ∨ liA S10 m26 b)) → (∃ (m36 : Nat → Int32) (m37 : Nat) (m38 : PS), ((RdO S28 x0 m36 m37 m38 ∧ ¬ 124 = (-1 : Int32)) ∧ (∀ (v45 : Int32) (S40 : HS), ext S28 S40 → (v45 = b2i (tkB m36 m37 m38 124) ∧ c3 S28 S40 x0 [82, 83] ∧ RdO S40 x0 m36 m37 (tkS m36 m37 m38 124)) → ((¬ v45 = 0 → (∀ v50 : Int32, v50 = x3 + 1 → (rec x0 x1 v45 v50 S40 ((kc - cc2) - cc21) ((ks - cc3) - cc22)))) ∧ (v45 = 0 → (∃ (m51 : Nat → Int32) (m52 : Nat) (m53 : PS), ((RdO S40 x0 m51 m52 m53 ∧ ¬ 38 = (-1 : Int32)) ∧ (∀ (v60 : Int32) (S55 : HS), ext S40 S55 → (v60 = b2i (tkB m51 m52 m53 38) ∧ c3 S40 S55 x0 [82, 83] ∧ RdO S55 x0 m51 m52 (tkS m51 m52 m53 38)) → ((¬ v60 = 0 → (∀ v65 : Int32, v65 = x3 + 1 → (rec x0 x1 v45 v65 S55 ((kc - cc2) - cc21) ((ks - cc3) - cc22)))) ∧ (v60 = 0 → (P S55))))))))))))))))))))))
def wp_X3_readCondition_4 (T : Nat → ClassId) (P : HS → Prop) : Nat → Nat → Nat → Int32 → Int32 → HS → Nat → Nat → Prop
  | 0 => fun _ _ _ _ _ _ _ => False
  | n + 1 => fun x0 x1 x2 x3 S kc ks => wb_X3_readCondition_4 T (wp_X3_readCondition_4 T  P n)  P x0 x1 x2 x3 S kc ks
set_option maxRecDepth 100000 in
set_option maxHeartbeats 4000000 in
theorem t_X3_readCondition_4 {p : Program} {l : Launch} {e : Env} {s : State} {m : MethodId} {args : Array Value} {below : List Frame} {meth : Method} {c : Code} {D : va_G} {A : Nat → Prop} {T : Nat → ClassId} {mc ms : Nat} (C : GC p s m args meth c cX3_readCondition "FreightRater$Reader" (ws_X3_readCondition) 4 D A (zty T)) (E : GE T A s) (hr : meth.sig.returnType = none) (S0 : HS) (P : HS → Prop) : ∀ (n : Nat) (x0 : Nat) (x1 : Nat) (x2 : Int32) (x3 : Int32) (S : HS) (kc ks : Nat) (L : List Nat), wt S → hL S L → ext S0 S → (hK S x0 = 4) → (hK S x1 = 1) → wp_X3_readCondition_4 T  P n x0 x1 x2 x3 S kc ks → GW p l e { rm_X3_readCondition with cells := mc, slots := ms } s m args below meth c D A 4 mc ms (MQ below (va_Qv (fun (u : HS × List Nat) => P u.1 ∧ CO S0 u) (CE D T A) A) args s mc ms A) (CW T S L) kc ks 4 [(0, .ref x0), (1, .ref x1), (2, .int x2), (3, .int x3)] [] := by
  have hW : ∀ {w : Cond}, w ∈ W0 → w.before args s = true := fun h => C.2.2.2.2.1 _ (List.mem_cons_of_mem _ h)
  intro n
  induction n with
  | zero => intro x0 x1 x2 x3 S kc ks L hw hL he hx0 hx1 h; exact h.elim
  | succ n ih =>
    intro x0 x1 x2 x3 S kc ks L hw hL he hx0 hx1 h
    replace h : wb_X3_readCondition_4 T (wp_X3_readCondition_4 T  P n)  P x0 x1 x2 x3 S kc ks := h
    unfold wb_X3_readCondition_4 at h
    refine g_iload_n C dX3_readCondition_4 rfl 3 rfl ?_
    refine g_aload_n C dX3_readCondition_5 rfl 0 rfl ?_
    refine gc_getI C iwx_X3 hL hx0 (by decide) (by decide) rfl 1 (by decide) (hW kw_544) rfl rfl rfl dX3_readCondition_6 ?_
    refine g_icmp_gt (tgt := 50) C dX3_readCondition_9 (by decide) (fun z1 => ?_) (fun z1 => ?_)
    · replace h := h.1 z1
      exact gc_vret C hw hL he hr dX3_readCondition_50 h
    · replace h := h.2 z1
      refine g_aload_n C dX3_readCondition_12 rfl 1 rfl ?_
      refine g_aload_n C dX3_readCondition_13 rfl 0 rfl ?_
      refine g_iload_n C dX3_readCondition_14 rfl 2 rfl ?_
      obtain ⟨cc2, cc3, g4, h⟩ := h
      obtain ⟨m5, m6, m7, m8, h⟩ := h
      obtain ⟨g9, h⟩ := h
      refine gc_callqV (host := "") C E hw hL hx0 (by decide) (by decide) rfl [.int x2] rfl (k_X3_readTest l D T x0 x2 S m5 m6 m7 m8 cc2 cc3 hx0 g9) (w0_V 1 C.2.2.2.2.1 kw_768 kw_770 ks_11 kw_19 kw_771 rfl rfl (by decide +kernel) ⟨Nat.le_of_ble_eq_true rfl, Nat.le_of_ble_eq_true rfl⟩) rfl (Nat.le_of_ble_eq_true rfl) (Nat.le_refl _) (Nat.le_refl _) g4.1 g4.2 dX3_readCondition_15 (fun o15 S10 L11 e12 w13 w14 ko15 hp => ?_)
      replace h := h o15 S10 e12 ko15 hp
      have g16 := ext_K e12 hx1 (by decide)
      have g17 := ext_K e12 hx0 (by decide)
      have w18 := ext_tr he e12
      obtain ⟨b19, rfl, h⟩ := h
      have g20 : hK S10 b19 = 9 := ko15 b19 rfl
      replace h := h g20
      obtain ⟨cc21, cc22, g23, h⟩ := h
      obtain ⟨m24, m25, m26, h⟩ := h
      obtain ⟨g27, h⟩ := h
      refine gc_callvV (host := "") C E w13 w14 g16 (by decide) (by decide) rfl [.ref b19] rfl (k_X0_addTest l D T x1 b19 S10 m24 m25 m26 cc21 cc22 g16 g20 g27) (w0_V 1 C.2.2.2.2.1 kw_801 kw_802 kw_803 kw_27 kw_804 rfl rfl (by decide +kernel) ⟨Nat.le_of_ble_eq_true rfl, Nat.le_of_ble_eq_true rfl⟩) rfl (Nat.le_of_ble_eq_true rfl) (Nat.le_refl _) (Nat.le_refl _) g23.1 g23.2 dX3_readCondition_18 (fun S28 L29 e30 w31 w32 hp => ?_)
      replace h := h S28 e30 hp
      have g33 := ext_K e30 g17 (by decide)
      have g34 := ext_K e30 g16 (by decide)
      have w35 := ext_tr w18 e30
      refine g_aload_n C dX3_readCondition_21 rfl 0 rfl ?_
      refine g_bipush (v := 124) C dX3_readCondition_22 (by decide) ?_
      obtain ⟨m36, m37, m38, h⟩ := h
      obtain ⟨g39, h⟩ := h
      refine gc_calliV (host := "") C E w31 w32 g33 (by decide) (by decide) rfl [.int 124] rfl (k_X3_take l D T x0 124 S28 m36 m37 m38 g33 g39) (w0_V 1 C.2.2.2.2.1 kw_719 kw_721 ks_7 kw_19 kw_722 rfl rfl (by decide +kernel) ⟨Nat.le_of_ble_eq_true rfl, Nat.le_of_ble_eq_true rfl⟩) rfl (Nat.le_of_ble_eq_true rfl) (Nat.le_refl _) (Nat.le_refl _) (Nat.zero_le _) (Nat.zero_le _) dX3_readCondition_24 (fun v45 S40 L41 e42 w43 w44 hp => ?_)
      replace h := h v45 S40 e42 hp
      have g46 := ext_K e42 g33 (by decide)
      have g47 := ext_K e42 g34 (by decide)
      have w48 := ext_tr w35 e42
      refine g_istore_n (lv' := [(2, .int v45), (0, .ref x0), (1, .ref x1), (3, .int x3)]) C dX3_readCondition_27 rfl (by decide) rfl ?_
      refine g_iload_n C dX3_readCondition_28 rfl 0 rfl ?_
      refine g_if_ne (tgt := 44) C dX3_readCondition_29 (by decide) (fun z49 => ?_) (fun z49 => ?_)
      · replace h := h.1 z49
        obtain ⟨v50, ev50⟩ : ∃ y : Int32, y = x3 + 1 := ⟨_, rfl⟩
        replace h := h v50 ev50
        refine g_iinc (v := v50) (lv' := [(3, .int v50), (2, .int v45), (0, .ref x0), (1, .ref x1)]) C dX3_readCondition_44 (j := 3) rfl (by rw [ev50]; rfl) (by decide) rfl ?_
        refine g_goto (tgt := 4) C dX3_readCondition_47 (by decide) ?_
        refine g_locals [2, 3, 1, 0] rfl ?_
        exact ih x0 x1 v45 v50 S40 ((kc - cc2) - cc21) ((ks - cc3) - cc22) L41 w43 w44 w48 g46 g47 h
      · replace h := h.2 z49
        refine g_aload_n C dX3_readCondition_32 rfl 1 rfl ?_
        refine g_bipush (v := 38) C dX3_readCondition_33 (by decide) ?_
        obtain ⟨m51, m52, m53, h⟩ := h
        obtain ⟨g54, h⟩ := h
        refine gc_calliV (host := "") C E w43 w44 g46 (by decide) (by decide) rfl [.int 38] rfl (k_X3_take l D T x0 38 S40 m51 m52 m53 g46 g54) (w0_V 1 C.2.2.2.2.1 kw_719 kw_721 ks_7 kw_19 kw_722 rfl rfl (by decide +kernel) ⟨Nat.le_of_ble_eq_true rfl, Nat.le_of_ble_eq_true rfl⟩) rfl (Nat.le_of_ble_eq_true rfl) (Nat.le_refl _) (Nat.le_refl _) (Nat.zero_le _) (Nat.zero_le _) dX3_readCondition_35 (fun v60 S55 L56 e57 w58 w59 hp => ?_)
        replace h := h v60 S55 e57 hp
        have g61 := ext_K e57 g46 (by decide)
        have g62 := ext_K e57 g47 (by decide)
        have w63 := ext_tr w48 e57
        refine g_if_ne (tgt := 44) C dX3_readCondition_38 (by decide) (fun z64 => ?_) (fun z64 => ?_)
        · replace h := h.1 z64
          obtain ⟨v65, ev65⟩ : ∃ y : Int32, y = x3 + 1 := ⟨_, rfl⟩
          replace h := h v65 ev65
          refine g_iinc (v := v65) (lv' := [(3, .int v65), (2, .int v45), (0, .ref x0), (1, .ref x1)]) C dX3_readCondition_44 (j := 3) rfl (by rw [ev65]; rfl) (by decide) rfl ?_
          refine g_goto (tgt := 4) C dX3_readCondition_47 (by decide) ?_
          refine g_locals [2, 3, 1, 0] rfl ?_
          exact ih x0 x1 v45 v65 S55 ((kc - cc2) - cc21) ((ks - cc3) - cc22) L56 w58 w59 w63 g61 g62 h
        · replace h := h.2 z64
          refine g_goto (tgt := 50) C dX3_readCondition_41 (by decide) ?_
          exact gc_vret C w58 w59 w63 hr dX3_readCondition_50 h
def wp_X3_readCondition (T : Nat → ClassId) (P : HS → Prop) (x0 : Nat) (p0 : Nat) (S : HS) (mc ms : Nat) : Prop := ∃ k66 : Nat, wp_X3_readCondition_4 T  P k66 x0 p0 1 0 S mc ms
set_option maxRecDepth 100000 in
set_option maxHeartbeats 4000000 in
theorem t_X3_readCondition {p : Program} {l : Launch} {e : Env} {s : State} {m : MethodId} {args : Array Value} {below : List Frame} {meth : Method} {c : Code} {D : va_G} {A : Nat → Prop} {T : Nat → ClassId} (C : GC p s m args meth c cX3_readCondition "FreightRater$Reader" (ws_X3_readCondition) 4 D A (zty T)) (E : GE T A s) (hr : meth.sig.returnType = none) (P : HS → Prop) : ∀ (x0 : Nat) (p0 : Nat) (S0 S : HS) (mc ms : Nat) (L : List Nat), S0 = S → wt S → hL S L → (hK S x0 = 4) → (hK S p0 = 1) → wp_X3_readCondition T P x0 p0 S mc ms → GW p l e { rm_X3_readCondition with cells := mc, slots := ms } s m args below meth c D A 4 mc ms (MQ below (va_Qv (fun (u : HS × List Nat) => P u.1 ∧ CO S0 u) (CE D T A) A) args s mc ms A) (CW T S L) mc ms 0 [(0, .ref x0), (1, .ref p0)] [] := by
  have hW : ∀ {w : Cond}, w ∈ W0 → w.before args s = true := fun h => C.2.2.2.2.1 _ (List.mem_cons_of_mem _ h)
  intro x0 p0 S0 S mc ms L hS0 hw hL hx0 hp0 h
  have he : ext S0 S := by rw [hS0]; exact ext_rf
  unfold wp_X3_readCondition at h
  refine g_iconst (v := 1) C dX3_readCondition_0 (by decide) ?_
  refine g_istore_n (lv' := [(2, .int 1), (0, .ref x0), (1, .ref p0)]) C dX3_readCondition_1 rfl (by decide) rfl ?_
  refine g_iconst (v := 0) C dX3_readCondition_2 (by decide) ?_
  refine g_istore_n (lv' := [(3, .int 0), (2, .int 1), (0, .ref x0), (1, .ref p0)]) C dX3_readCondition_3 rfl (by decide) rfl ?_
  refine g_locals [2, 3, 1, 0] rfl ?_
  obtain ⟨k66, h⟩ := h
  refine t_X3_readCondition_4 C E hr S0  P  k66 x0 p0 1 0 S mc ms L hw hL he hx0 hp0 h
theorem c_X3_readCondition (l : Launch) (D : va_G) (T : Nat → ClassId) (x0 : Nat) (p0 : Nat) (S : HS) (mc ms : Nat) (hx0 : hK S x0 = 4) (hp0 : hK S p0 = 1) (P : HS → Prop) (h : wp_X3_readCondition T P x0 p0 S mc ms) : CMv l yX3_readCondition (ws_X3_readCondition) rm_X3_readCondition D T [.ref x0, .ref p0] S mc ms P := gc_metv (by decide) rfl rfl (Nat.le_of_ble_eq_true rfl) (fun p e s m args below meth c A L C E hnm hr hw hL => t_X3_readCondition C E   hr P x0 p0 S S mc ms L rfl hw hL hx0 hp0 h)
/-- a list's element -/
def gtl (l : List (Nat × TS)) (j : Nat) : Nat × TS := (l[j]?).getD (0, (false, 0, 0, 0))
/-- whether a test opens its row -/
def opL (l : List (Nat × TS)) (j : Nat) : Prop := j = 0 ∨ ¬ (gtl l j).1 = (gtl l (j - 1)).1
/-- a condition's tests as objects in a list -/
def CdL (S : HS) (M : Nat → Prop) (d al : Nat) (l : List (Nat × TS)) : Prop := ∃ xs, LiO S d al l.length 9 xs ∧ ∀ j, j < l.length → RelX S M (xs j) (opL l j) (gtl l j).2
theorem gtl_lt {l : List (Nat × TS)} {y : Nat × TS} {j : Nat} (h : j < l.length) : gtl (l ++ [y]) j = gtl l j := by
  unfold gtl
  rw [List.getElem?_append_left h]
theorem gtl_s {l : List (Nat × TS)} {y : Nat × TS} : gtl (l ++ [y]) l.length = y := by
  unfold gtl
  rw [List.getElem?_append_right (Nat.le_refl _), Nat.sub_self]
  rfl
theorem opL_lt {l : List (Nat × TS)} {y : Nat × TS} {j : Nat} (h : j < l.length) : opL (l ++ [y]) j = opL l j := by
  unfold opL
  rw [gtl_lt h, gtl_lt (by omega)]
theorem opL_s {l : List (Nat × TS)} {y : Nat × TS} : opL (l ++ [y]) l.length = (l.length = 0 ∨ ¬ y.1 = (gtl l (l.length - 1)).1) := by
  unfold opL
  rw [gtl_s]
  by_cases c : l.length = 0
  · rw [eq_true c, true_or, true_or]
  · rw [gtl_lt (by omega)]
theorem RelX.fx {S S1 : HS} {M N : Nat → Prop} {q : Nat} {op : Prop} {t : TS} (h : RelX S M q op t) (hf : frM S S1 N) (hN : ¬ N q) : RelX S1 M q op t := by
  obtain ⟨h1, h2, h3, h4, h5, h6, h7, h8⟩ := h
  obtain ⟨k, _, e, _⟩ := hf q hN (nz_of h1 (by decide))
  exact ⟨by rw [k]; exact h1, h2, fun z => by rw [e]; exact h3 z, fun z => by rw [e]; exact h4 z, by rw [e]; exact h5, by rw [e]; exact h6, fun z => by rw [e]; exact h7 z, by rw [e]; exact h8⟩
theorem LiO.fx {S S1 : HS} {N : Nat → Prop} {d al c ke : Nat} {xs : Nat → Nat} (h : LiO S d al c ke xs) (hf : frM S S1 N) (he : ext S S1) (hal : ¬ N al) (har : ∀ ar, hR S 261 al = some ar → ¬ N ar) (hke : ke ≠ 0) : LiO S1 d al c ke xs := by
  obtain ⟨h13, hi, ar, r1, hk, hle, hle2, hz, hel, hno⟩ := h
  have sl := hf al hal (nz_of h13 (by decide))
  have sr := hf ar (har ar r1) (nz_of hk (by decide))
  refine ⟨by rw [sl.1]; exact h13, by rw [sl.2.2.1]; exact hi, ar, by rw [sl.2.2.2.1]; exact r1, by rw [sr.1]; exact hk, by rw [sr.2.1]; exact hle, by rw [sr.2.1]; exact hle2, fun z => hz (by rw [sr.2.1] at z; exact z), fun j hj => ?_, fun j hj hn => ?_⟩
  · obtain ⟨a1, a2⟩ := hel j hj
    refine ⟨by rw [sr.2.2.2.2.2]; exact a1, ?_⟩
    rw [(he _ (nz_of a2 hke)).1]
    exact a2
  · rw [sr.2.2.2.2.2]
    exact hno j hj (by rw [sr.2.1] at hn; exact hn)
/-- a condition's reading under way -/
def CdJ (S0 S : HS) (x0 x1 al d : Nat) (b : Nat → Int32) (n : Nat) (M : Nat → Prop) (l : List (Nat × TS)) (σ : PS) (rc : Nat) : Prop := ext S0 S ∧ frM S0 S (fun b => b = x0 ∨ b = x1 ∨ b = al) ∧ RdO S x0 b n σ ∧ hR S 24 x1 = some al ∧ (∀ i, i ≠ 23 → hI S i x1 = hI S0 i x1) ∧ (∃ xs, LiO S d al l.length 9 xs ∧ (σ.2 = false → ∀ j, j < l.length → RelX S M (xs j) (opL l j) (gtl l j).2)) ∧ (σ.2 = false → hI S 23 x1 = nI rc) ∧ ∃ ar, hR S 261 al = some ar ∧ (hK S0 ar = 0 ∨ (ar = d ∧ l = []))
theorem CdJ.tk {S0 S S1 : HS} {x0 x1 al d n rc : Nat} {b : Nat → Int32} {M : Nat → Prop} {l : List (Nat × TS)} {σ σ1 : PS} (h : CdJ S0 S x0 x1 al d b n M l σ rc) (kx0 : hK S0 x0 = 4) (kx1 : hK S0 x1 = 1) (kal : hK S0 al = 13) (he : ext S S1) (hc : c3 S S1 x0 [82, 83]) (hr : RdO S1 x0 b n σ1) (hs : σ1.2 = false → σ.2 = false) : CdJ S0 S1 x0 x1 al d b n M l σ1 rc := by
  obtain ⟨h1, h2, h3, h4, h5, ⟨xs, h6, h7⟩, h8, ar, h9, h10⟩ := h
  have kx0' : hK S x0 = 4 := ext_K h1 kx0 (by decide)
  have n10 : x1 ≠ x0 := fun z => by rw [z, kx0] at kx1; exact absurd kx1 (by decide)
  have nal : al ≠ x0 := fun z => by rw [z, kx0] at kal; exact absurd kal (by decide)
  have nk : ∀ {y k : Nat}, hK S y = k → k ≠ 4 → ¬ y = x0 := fun {y k} hy hk z => hk (by rw [← hy, z]; exact kx0')
  have e1 : ∀ i, hI S1 i x1 = hI S i x1 := fun i => hc.2.2.2.2.2 i x1 (Or.inl n10)
  have h6' := h6
  obtain ⟨g13, _, ar', g1, gk, _⟩ := h6'
  refine ⟨ext_tr h1 he, h2.nw hc.fm (fun b _ z => Or.inl z), hr, by rw [hc.2.2.1]; exact h4, fun i hi => by rw [e1]; exact h5 i hi, ⟨xs, h6.fx hc.fm he nal (fun a ha => ?_) (by decide), fun z j hj => ?_⟩, fun z => by rw [e1]; exact h8 (hs z), ar, by rw [hc.2.2.1]; exact h9, h10⟩
  · have := Option.some.inj (g1.symm.trans ha)
    subst this
    exact nk gk (by decide)
  · have q := h7 (hs z) j hj
    exact q.fx hc.fm (nk q.1 (by decide))
theorem CdJ.ad {T : Nat → ClassId} {S0 S S10 S28 : HS} {x0 x1 al n y row rc : Nat} {b : Nat → Int32} {M : Nat → Prop} {l : List (Nat × TS)} {σ σ1 : PS} {t : TS} {op : Prop} {xs : Nat → Nat} (h : CdJ S0 S x0 x1 al (T 120) b n M l σ rc) (k120 : hK S0 (T 120) = 30) (n120 : hN S0 (T 120) = 0) (kx0 : hK S0 x0 = 4) (kx1 : hK S0 x1 = 1) (kal : hK S0 al = 13) (he : ext S S10) (hf : frM S S10 (fun b => b = x0)) (hr : RdO S10 x0 b n σ1) (hs : σ1.2 = false → σ.2 = false) (y0 : hK S y = 0) (ky : hK S10 y = 9) (hX : σ1.2 = false → RelX S10 M y op t) (hop : σ.2 = false → (op ↔ l.length = 0 ∨ ¬ row = (gtl l (l.length - 1)).1)) (hrc : (op → rc = row) ∧ (¬ op → rc = row + 1)) (hxs : LiO S10 (T 120) al l.length 9 xs) (hxx : σ1.2 = false → ∀ j, j < l.length → RelX S10 M (xs j) (opL l j) (gtl l j).2) (he2 : ext S10 S28) (f28 : frM S10 S28 (fun b => b = x1 ∨ liA S10 al b)) (L28 : LiO S28 (T 120) al (l.length + 1) 9 (fun j => if j = l.length then y else xs j)) (r24 : hR S28 24 x1 = some al) (i23 : hI S28 23 x1 = if hI S10 180 y = 0 then hI S10 23 x1 else hI S10 23 x1 + 1) (ii : ∀ i, i ≠ 23 → hI S28 i x1 = hI S10 i x1) (hb : ∃ b, hR S28 261 al = some b ∧ (hK S10 b = 0 ∨ liA S10 al b)) : CdJ S0 S28 x0 x1 al (T 120) b n M (l ++ [(row, t)]) σ1 (row + 1) := by
  obtain ⟨h1, h2, h3, h4, h5, _, h8, ar, h9, h10⟩ := h
  have n10 : x1 ≠ x0 := fun z => by rw [z, kx0] at kx1; exact absurd kx1 (by decide)
  have nal : al ≠ x0 := fun z => by rw [z, kx0] at kal; exact absurd kal (by decide)
  have kal10 : hK S10 al = 13 := ext_K (ext_tr h1 he) kal (by decide)
  have kx10 : hK S10 x1 = 1 := ext_K (ext_tr h1 he) kx1 (by decide)
  have kx00 : hK S10 x0 = 4 := ext_K (ext_tr h1 he) kx0 (by decide)
  have k1210 : hK S10 (T 120) = 30 := ext_K (ext_tr h1 he) k120 (by decide)
  have n1210 : hN S10 (T 120) = 0 := by rw [(ext_tr h1 he _ (nz_of k120 (by decide))).2]; exact n120
  have r10 : hR S10 261 al = some ar := by rw [(hf al nal (nz_of (ext_K h1 kal (by decide)) (by decide))).2.2.2.1]; exact h9
  have fresh : ∀ c, hK S10 c = 0 → hK S0 c = 0 := fun c hc => by
    by_cases g : hK S0 c = 0
    · exact g
    · exact absurd (by rw [(ext_tr h1 he c g).1] at hc; exact hc) g
  have ar0 : hN S10 ar ≠ 0 → hK S0 ar = 0 := fun g => by
    rcases h10 with g1 | ⟨g1, _⟩
    · exact g1
    · rw [g1] at g; exact absurd n1210 g
  have kar : hK S10 ar = 30 := by
    obtain ⟨_, _, a9, q1, q2, _⟩ := hxs
    rw [Option.some.inj (r10.symm.trans q1)]
    exact q2
  have lA : ∀ c, liA S10 al c → c = al ∨ (c = ar ∧ hK S0 ar = 0) := fun c hc => by
    rcases hc with g | ⟨g1, g2⟩
    · exact Or.inl g
    · have e := Option.some.inj (r10.symm.trans g1)
      subst e
      exact Or.inr ⟨rfl, ar0 g2⟩
  have nN : ∀ {c k : Nat}, hK S10 c = k → k ≠ 1 → k ≠ 13 → k ≠ 30 → ¬ (c = x1 ∨ liA S10 al c) := fun {c k} hc a1 a2 a3 z => by
    rcases z with g | g
    · rw [g, kx10] at hc; exact a1 hc.symm
    · rcases lA c g with g | ⟨g, _⟩
      · rw [g, kal10] at hc; exact a2 hc.symm
      · rw [g, kar] at hc; exact a3 hc.symm
  refine ⟨ext_tr h1 (ext_tr he he2), (h2.nw hf (fun _ _ z => Or.inl z)).nw f28 (fun c hc z => ?_), hr.fm f28 kx00 (nN kx00 (by decide) (by decide) (by decide)) (fun c hc => nN hc (by decide) (by decide) (by decide)), r24, fun i hi => ?_, ⟨_, by rw [List.length_append]; exact L28, fun z j hj => ?_⟩, fun z => ?_, ?_⟩
  · rcases z with g | g
    · exact Or.inr (Or.inl g)
    · rcases lA c g with g | ⟨g, g1⟩
      · exact Or.inr (Or.inr g)
      · rw [g] at hc; exact absurd g1 hc
  · rw [ii i hi, (hf x1 n10 (nz_of (ext_K h1 kx1 (by decide)) (by decide))).2.2.1]
    exact h5 i hi
  · rw [List.length_append] at hj
    have hj : j < l.length + 1 := hj
    try dsimp only
    by_cases g : j = l.length
    · subst g
      rw [if_pos rfl, opL_s, gtl_s]
      have q := (hX z).fx f28 (nN ky (by decide) (by decide) (by decide))
      rw [show ((l.length = 0 ∨ ¬ (row, t).1 = (gtl l (l.length - 1)).1) : Prop) = op from propext (hop (hs z)).symm]
      exact q
    · rw [if_neg g, opL_lt (by omega), gtl_lt (by omega)]
      have q := hxx z j (by omega)
      exact q.fx f28 (nN q.1 (by decide) (by decide) (by decide))
  · have q := hX z
    have e23 : hI S10 23 x1 = nI rc := by
      rw [(hf x1 n10 (nz_of (ext_K h1 kx1 (by decide)) (by decide))).2.2.1]
      exact h8 (hs z)
    rw [i23, e23]
    by_cases g : op
    · rw [q.2.2.1 g, if_neg (by decide), hrc.1 g]
      exact nI_add row 1
    · rw [q.2.2.2.1 g, if_pos rfl, hrc.2 g]
  · obtain ⟨c, c1, c2⟩ := hb
    refine ⟨c, c1, Or.inl ?_⟩
    rcases c2 with g | g
    · exact fresh c g
    · rcases lA c g with g | ⟨g, g1⟩
      · exfalso
        obtain ⟨q13, _, a9, q1, q2, _⟩ := L28
        have e := Option.some.inj (q1.symm.trans c1)
        rw [e, g, q13] at q2
        exact absurd q2 (by decide)
      · rw [g]; exact g1
theorem rl_rc {T : Nat → ClassId} {P : HS → Prop} {S0 : HS} {x0 x1 al n : Nat} {b : Nat → Int32} {M : Nat → Prop} {R : List (Nat × TS) × Nat × PS} (k120 : hK S0 (T 120) = 30) (n120 : hN S0 (T 120) = 0) (kx0 : hK S0 x0 = 4) (kx1 : hK S0 x1 = 1) (kal : hK S0 al = 13) (hM : ∀ c, M c → hK S0 c ≠ 0) (hch : chO b n) (hP : ∀ S1, CdJ S0 S1 x0 x1 al (T 120) b n M R.1 R.2.2 (R.2.1 + 1) → ¬ R.1 = [] → P S1) : ∀ (fuel k i row : Nat) (pre : List (Nat × TS)) (x2 : Int32) (S : HS) (σ : PS) (kc ks : Nat), i + k = 80 → k < fuel → vz x2 → pre.length ≤ i → i ≤ σ.1 → CdJ S0 S x0 x1 al (T 120) b n M pre σ (if x2 = 1 then row else row + 1) → (σ.2 = false → (x2 = 1 ↔ pre.length = 0 ∨ ¬ row = (gtl pre (pre.length - 1)).1)) → (pre ++ (row, (tsR b n σ).1) :: (cnL b n k row (tsR b n σ).2).1, (cnL b n k row (tsR b n σ).2).2) = R → 2 * (1 + (cnL b n k row (tsR b n σ).2).1.length) ≤ kc → 405 * (1 + (cnL b n k row (tsR b n σ).2).1.length) ≤ ks → wp_X3_readCondition_4 T P fuel x0 x1 x2 (nI i) S kc ks := by
  intro fuel
  induction fuel with
  | zero => intro k i row pre x2 S σ kc ks hi hf; omega
  | succ f ih =>
    intro k i row pre x2 S σ kc ks hi hf hvz hpl hiσ hJ hop hR9 hkc hks
    have hJ0 := hJ
    obtain ⟨h1, h2, h3, h4, h5, ⟨xs, h6, h7⟩, h8, ar, h9, h10⟩ := hJ
    have hn80 : σ.1 ≤ n ∧ n ≤ 80 := ⟨h3.2.2.1, h3.2.2.2.2.1⟩
    have kx0' : hK S x0 = 4 := ext_K h1 kx0 (by decide)
    have kal' : hK S al = 13 := ext_K h1 kal (by decide)
    have ts := tsR_ok (b := b) hn80.1
    rw [wp_X3_readCondition_4]; unfold wb_X3_readCondition_4; dsimp only
    rw [h3.2.2.2.1, nI_ltI (by omega) (by omega)]
    refine ⟨fun z => absurd z (by omega), fun _ => ⟨1, 5, ⟨by omega, by omega⟩, b, n, σ, M, ⟨h3, hch, hvz, fun c hc => ?_, Nat.le_refl _, Nat.le_refl _⟩, fun o S10 he k9 h10' => ?_⟩⟩
    · rw [(h1 c (hM c hc)).1]; exact hM c hc
    obtain ⟨f10, R10, y, eo, y0, hX⟩ := h10'
    refine ⟨y, eo, fun ky => ⟨1, 400, ⟨by omega, by omega⟩, xs, pre.length, al, ⟨?_, ?_, by omega, ext_K (ext_tr h1 he) k120 (by decide), by rw [(ext_tr h1 he _ (nz_of k120 (by decide))).2]; exact n120, Nat.le_refl _, Nat.le_refl _⟩, fun S28 he2 h28 => ?_⟩⟩
    · have n10 : x1 ≠ x0 := fun z => by rw [z, kx0] at kx1; exact absurd kx1 (by decide)
      rw [(f10 x1 n10 (nz_of (ext_K h1 kx1 (by decide)) (by decide))).2.2.2.1]; exact h4
    · refine h6.fx f10 he (fun z => by rw [z, kx0'] at kal'; exact absurd kal' (by decide)) (fun a ha z => ?_) (by decide)
      obtain ⟨_, _, a9, q1, q2, _⟩ := h6
      have e := Option.some.inj (q1.symm.trans ha)
      rw [e, z, kx0'] at q2
      exact absurd q2 (by decide)
    obtain ⟨f28, L28, r24, i23, ii, hb⟩ := h28
    have hs1 : (tsR b n σ).2.2 = false → σ.2 = false := fun z => by
      cases hs : σ.2 with
      | false => rfl
      | true =>
        exfalso
        have e1 : tkB b n σ 45 = false := by unfold tkB; rw [hs]; rfl
        have e2 : tsR b n σ = ((false, 0, 0, 0), (σ.1, true)) := by
          unfold tsR
          dsimp only
          rw [tkS_no e1, hs, if_pos rfl, if_neg (by decide), e1]
        rw [e2] at z
        cases z
    have J28 : CdJ S0 S28 x0 x1 al (T 120) b n M (pre ++ [(row, (tsR b n σ).1)]) (tsR b n σ).2 (row + 1) := by
      refine hJ0.ad (op := (x2 = 1)) k120 n120 kx0 kx1 kal he f10 R10 hs1 y0 ky hX hop ⟨fun z => if_pos z, fun z => if_neg z⟩ ?_ (fun z j hj => ?_) he2 f28 L28 r24 i23 ii hb
      · refine h6.fx f10 he (fun z => by rw [z, kx0'] at kal'; exact absurd kal' (by decide)) (fun a ha z => ?_) (by decide)
        obtain ⟨_, _, a9, q1, q2, _⟩ := h6
        have e := Option.some.inj (q1.symm.trans ha)
        rw [e, z, kx0'] at q2
        exact absurd q2 (by decide)
      · have q := h7 (hs1 z) j hj
        exact q.fx f10 (fun z => by have q1 := q.1; rw [z, kx0'] at q1; exact absurd q1 (by decide))
    have lpre : (pre ++ [(row, (tsR b n σ).1)]).length = pre.length + 1 := by rw [List.length_append]; rfl
    have gpre : gtl (pre ++ [(row, (tsR b n σ).1)]) ((pre ++ [(row, (tsR b n σ).1)]).length - 1) = (row, (tsR b n σ).1) := by
      rw [lpre, Nat.add_sub_cancel]
      exact gtl_s
    have nx : ∀ (c : Int32), ¬ c = -1 → tkB b n (tsR b n σ).2 c = true → ∃ k', k = k' + 1 ∧ i + 1 ≤ (tkS b n (tsR b n σ).2 c).1 := fun c hc hB => by
      obtain ⟨g1, g2, g3⟩ := tkB_gd hc hB
      refine ⟨k - 1, by omega, ?_⟩
      rw [g3]
      have := ts.2.1
      dsimp only
      omega
    have ex : ∀ z : List (Nat × TS), pre ++ (row, (tsR b n σ).1) :: z = (pre ++ [(row, (tsR b n σ).1)]) ++ z := fun z => by rw [List.append_assoc]; rfl
    refine ⟨b, n, _, ⟨J28.2.2.1, by decide⟩, fun v45 S40 he40 h40 => ?_⟩
    obtain ⟨ev, c40, R40⟩ := h40
    subst ev
    have sk : ∀ c, ¬ c = (-1 : Int32) → (tkS b n (tsR b n σ).2 c).2 = false → (tsR b n σ).2.2 = false := fun c hc z => by
      rw [← (tkS_le (b := b) (n := n) hc ts.1).2.2]; exact z
    have J40 := J28.tk kx0 kx1 kal he40 c40 R40 (sk 124 (by decide))
    refine ⟨fun c v50 e50 => ?_, fun c => ?_⟩
    · have hB := b2i_nz c
      obtain ⟨k', rfl, hle⟩ := nx 124 (by decide) hB
      have h38 : tkB b n (tsR b n σ).2 38 = false := by
        obtain ⟨_, g⟩ := Bool.and_eq_true_iff.mp hB
        have g := of_decide_eq_true g
        unfold tkB
        rw [g, decide_eq_false (by decide), Bool.and_false]
      rw [cnL_or h38 hB] at hR9 hkc hks
      rw [e50, show nI i + 1 = nI (i + 1) from nI_add i 1]
      rw [List.length_cons] at hkc hks
      refine ih k' (i + 1) (row + 1) (pre ++ [(row, (tsR b n σ).1)]) _ S40 _ _ _ (by omega) (by omega) (b2i_vz _) (by rw [lpre]; omega) hle (by rw [if_pos (by rw [hB]; rfl)]; exact J40) (fun _ => ?_) (by rw [← hR9]; dsimp only; rw [ex (_ :: _)]) (by omega) (by omega)
      rw [gpre, hB]
      exact ⟨fun _ => Or.inr (by dsimp only; omega), fun _ => rfl⟩
    · have hB := b2i_z c
      refine ⟨b, n, _, ⟨J40.2.2.1, by decide⟩, fun v60 S55 he55 h55 => ?_⟩
      obtain ⟨ev2, c55, R55⟩ := h55
      subst ev2
      rw [tkS_no hB] at J40 R55 ⊢
      have J55 := J40.tk kx0 kx1 kal he55 c55 R55 (sk 38 (by decide))
      refine ⟨fun c2 v65 e65 => ?_, fun c2 => ?_⟩
      · have hB2 := b2i_nz c2
        obtain ⟨k', rfl, hle⟩ := nx 38 (by decide) hB2
        rw [cnL_and hB2] at hR9 hkc hks
        rw [e65, show nI i + 1 = nI (i + 1) from nI_add i 1, hB]
        rw [List.length_cons] at hkc hks
        refine ih k' (i + 1) row (pre ++ [(row, (tsR b n σ).1)]) _ S55 _ _ _ (by omega) (by omega) (b2i_vz _) (by rw [lpre]; omega) hle (by rw [if_neg (by decide)]; exact J55) (fun _ => ?_) (by rw [← hR9]; dsimp only; rw [ex (_ :: _)]) (by omega) (by omega)
        rw [gpre, lpre]
        exact ⟨fun z => absurd z (by decide), fun z => by
          rcases z with z | z
          · omega
          · exact absurd rfl z⟩
      · have hB2 := b2i_z c2
        rw [cnL_no hB2 hB] at hR9
        have J55 := J55
        rw [tkS_no hB2] at J55
        subst hR9
        refine hP S55 ?_ (fun z => ?_)
        · exact J55
        · have := congrArg List.length z
          rw [List.length_append] at this
          exact absurd this (by simp)
theorem k_X3_readCondition (l : Launch) (D : va_G) (T : Nat → ClassId) (x0 : Nat) (p0 : Nat) (S : HS) (e0 : Nat → Int32) (e1 : Nat) (e2 : PS) (e3 : Nat) (e4 : (Nat → Prop)) (mc ms : Nat) (hx0 : hK S x0 = 4) (hp0 : hK S p0 = 1) (h : RdO S x0 e0 e1 e2 ∧ chO e0 e1 ∧ hR S 24 p0 = some e3 ∧ LiO S (T 120) e3 0 9 (fun _ => 0) ∧ hR S 261 e3 = some (T 120) ∧ hI S 23 p0 = nI 0 ∧ hK S (T 120) = 30 ∧ hN S (T 120) = 0 ∧ (∀ b, e4 b → hK S b ≠ 0) ∧ 2 * (cnF e0 e1 e2).1.length ≤ mc ∧ 405 * (cnF e0 e1 e2).1.length ≤ ms) : CMv l yX3_readCondition (ws_X3_readCondition) rm_X3_readCondition D T [.ref x0, .ref p0] S mc ms (fun S1 => (frM S S1 (fun b => b = x0 ∨ b = p0 ∨ b = e3) ∧ RdO S1 x0 e0 e1 (cnF e0 e1 e2).2.2 ∧ hR S1 24 p0 = some e3 ∧ (∀ i, i ≠ 23 → hI S1 i p0 = hI S i p0) ∧ ((cnF e0 e1 e2).2.2.2 = false → hI S1 23 p0 = nI ((cnF e0 e1 e2).2.1 + 1) ∧ CdL S1 e4 (T 120) e3 (cnF e0 e1 e2).1) ∧ ∃ ar, hR S1 261 e3 = some ar ∧ hK S1 ar = 30 ∧ hK S ar = 0)) := c_X3_readCondition l D T x0 p0 S mc ms hx0 hp0 _ <|
  (by
    obtain ⟨h, hch, r24, hL, r61, i23, k120, n120, hM, hmc, hms⟩ := h
    unfold wp_X3_readCondition
    refine ⟨100, rl_rc (S0 := S) (x1 := p0) (al := e3) (b := e0) (n := e1) (M := e4) (R := cnF e0 e1 e2) k120 n120 hx0 hp0 hL.1 hM hch (fun S1 hJ hne => ?_) 100 80 0 0 [] 1 S e2 mc ms (by omega) (by omega) (Or.inr rfl) (Nat.le_refl _) (Nat.zero_le _) ⟨ext_rf, frM.rf, h, r24, fun _ _ => rfl, ⟨fun _ => 0, hL, fun _ j hj => absurd hj (Nat.not_lt_zero j)⟩, fun _ => by rw [if_pos rfl]; exact i23, T 120, r61, Or.inr ⟨rfl, rfl⟩⟩ (fun _ => ⟨fun _ => Or.inl rfl, fun _ => rfl⟩) rfl (by unfold cnF at hmc; rw [List.length_cons] at hmc; omega) (by unfold cnF at hms; rw [List.length_cons] at hms; omega)⟩
    obtain ⟨_, j2, j3, j4, j5, ⟨xs, j6, j7⟩, j8, ar, j9, j10⟩ := hJ
    have kar : hK S1 ar = 30 := by
      have j6' := j6
      obtain ⟨_, _, a9, q1, q2, _⟩ := j6'
      rw [← Option.some.inj (q1.symm.trans j9)]
      exact q2
    refine ⟨j2, j3, j4, j5, fun z => ⟨j8 z, xs, j6, j7 z⟩, ar, j9, kar, ?_⟩
    rcases j10 with g | ⟨_, g⟩
    · exact g
    · exact absurd g hne)

end S_C8A
