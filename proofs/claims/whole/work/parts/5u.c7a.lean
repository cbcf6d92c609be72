section S_C7A
abbrev ws_Jxa1e45_init_da8c8 : List Cond := Cond.code yJxa1e45_init_da8c8 cJxa1e45_init_da8c8 1 none :: W0
abbrev rm_Jxa1e45_init_da8c8 : Room := ({ frames := 2, cells := 0, slots := 0, locals := 100 } : Room)
theorem dJxa1e45_init_da8c8_0 : decode cJxa1e45_init_da8c8 0 = .ok (.aload_n 0, 1) := by decide +kernel
theorem dJxa1e45_init_da8c8_1 : decode cJxa1e45_init_da8c8 1 = .ok (.invokespecial 1, 3) := by decide +kernel
theorem dJxa1e45_init_da8c8_4 : decode cJxa1e45_init_da8c8 4 = .ok (.return_, 1) := by decide +kernel
def wp_Jxa1e45_init_da8c8 (P : HS → Prop) (x0 : Nat) (S : HS) : Prop := P S
set_option maxRecDepth 100000 in
set_option maxHeartbeats 4000000 in
theorem t_Jxa1e45_init_da8c8 {p : Program} {l : Launch} {e : Env} {s : State} {m : MethodId} {args : Array Value} {below : List Frame} {meth : Method} {c : Code} {D : va_G} {A : Nat → Prop} {T : Nat → ClassId} (C : GC p s m args meth c cJxa1e45_init_da8c8 "java/util/AbstractCollection" (ws_Jxa1e45_init_da8c8) 1 D A (zty T)) (E : GE T A s) (hr : meth.sig.returnType = none) (hin : meth.name = "<init>") (P : HS → Prop) : ∀ (x0 : Nat) (S0 S : HS) (L : List Nat), S0 = S → wt S → hL S L → (hK S x0 = 13) → wp_Jxa1e45_init_da8c8 P x0 S → GW p l e { rm_Jxa1e45_init_da8c8 with cells := 0, slots := 0 } s m args below meth c D A 1 0 0 (MQ below (va_Qv (fun (u : HS × List Nat) => P u.1 ∧ CO S0 u) (CE D T A) A) args s 0 0 A) (CW T S L) 0 0 0 [(0, .ref x0)] [] := by
  have hW : ∀ {w : Cond}, w ∈ W0 → w.before args s = true := fun h => C.2.2.2.2.1 _ (List.mem_cons_of_mem _ h)
  intro x0 S0 S L hS0 hw hL hx0 h
  have he : ext S0 S := by rw [hS0]; exact ext_rf
  unfold wp_Jxa1e45_init_da8c8 at h
  refine g_aload_n C dJxa1e45_init_da8c8_0 rfl 0 rfl ?_
  refine g_objInit C (hW kw_572) (hW kw_46) (hW kw_47) dJxa1e45_init_da8c8_1 (Nat.le_of_ble_eq_true rfl) (Nat.le_of_ble_eq_true rfl) ?_
  exact gc_vret C hw hL he hr dJxa1e45_init_da8c8_4 h
theorem c_Jxa1e45_init_da8c8 (l : Launch) (D : va_G) (T : Nat → ClassId) (x0 : Nat) (S : HS) (hx0 : hK S x0 = 13) (P : HS → Prop) (h : wp_Jxa1e45_init_da8c8 P x0 S) : CMv l yJxa1e45_init_da8c8 (ws_Jxa1e45_init_da8c8) rm_Jxa1e45_init_da8c8 D T [.ref x0] S 0 0 P := gc_metv (by decide) rfl rfl (Nat.le_of_ble_eq_true rfl) (fun p e s m args below meth c A L C E hnm hr hw hL => t_Jxa1e45_init_da8c8 C E   hr hnm P x0 S S L rfl hw hL hx0 h)
/-- a list's row has been made anew -/
def GrO (S S1 : HS) (x n q : Nat) : Prop := hK S q = 0 ∧ hK S1 q = 30 ∧ hN S1 q = n ∧ hR S1 261 x = some q ∧ hI S1 = hI S ∧ hA S1 = hA S ∧ (∀ i b, ¬ (b = x ∧ i = 261) → hR S1 i b = hR S i b) ∧ ∀ b, b ≠ q → hB S1 b = hB S b ∧ hK S1 b = hK S b ∧ hN S1 b = hN S b
theorem k_Jxa1e45_init_da8c8 (l : Launch) (D : va_G) (T : Nat → ClassId) (x0 : Nat) (S : HS) (hx0 : hK S x0 = 13) : CMv l yJxa1e45_init_da8c8 (ws_Jxa1e45_init_da8c8) rm_Jxa1e45_init_da8c8 D T [.ref x0] S 0 0 (fun S1 => (S1 = S)) := c_Jxa1e45_init_da8c8 l D T x0 S hx0 _ <|
  (by
    unfold wp_Jxa1e45_init_da8c8
    rfl)
abbrev ws_Jxc12de_init_da8c8 : List Cond := Cond.code yJxc12de_init_da8c8 cJxc12de_init_da8c8 1 none :: W0
abbrev rm_Jxc12de_init_da8c8 : Room := ({ frames := 4, cells := 0, slots := 0, locals := 200 } : Room)
theorem dJxc12de_init_da8c8_0 : decode cJxc12de_init_da8c8 0 = .ok (.aload_n 0, 1) := by decide +kernel
theorem dJxc12de_init_da8c8_1 : decode cJxc12de_init_da8c8 1 = .ok (.invokespecial 1, 3) := by decide +kernel
theorem dJxc12de_init_da8c8_4 : decode cJxc12de_init_da8c8 4 = .ok (.aload_n 0, 1) := by decide +kernel
theorem dJxc12de_init_da8c8_5 : decode cJxc12de_init_da8c8 5 = .ok (.iconst 0, 1) := by decide +kernel
theorem dJxc12de_init_da8c8_6 : decode cJxc12de_init_da8c8 6 = .ok (.putfield 7, 3) := by decide +kernel
theorem dJxc12de_init_da8c8_9 : decode cJxc12de_init_da8c8 9 = .ok (.return_, 1) := by decide +kernel
def wp_Jxc12de_init_da8c8 (P : HS → Prop) (x0 : Nat) (S : HS) : Prop := ∀ (S1 : HS), ext S S1 → (S1 = S) → (∀ S9 : HS, S9 = putI S1 260 x0 0 → (P S9))
set_option maxRecDepth 100000 in
set_option maxHeartbeats 4000000 in
theorem t_Jxc12de_init_da8c8 {p : Program} {l : Launch} {e : Env} {s : State} {m : MethodId} {args : Array Value} {below : List Frame} {meth : Method} {c : Code} {D : va_G} {A : Nat → Prop} {T : Nat → ClassId} (C : GC p s m args meth c cJxc12de_init_da8c8 "java/util/AbstractList" (ws_Jxc12de_init_da8c8) 1 D A (zty T)) (E : GE T A s) (hr : meth.sig.returnType = none) (hin : meth.name = "<init>") (P : HS → Prop) : ∀ (x0 : Nat) (S0 S : HS) (L : List Nat), S0 = S → wt S → hL S L → (hK S x0 = 13) → wp_Jxc12de_init_da8c8 P x0 S → GW p l e { rm_Jxc12de_init_da8c8 with cells := 0, slots := 0 } s m args below meth c D A 1 0 0 (MQ below (va_Qv (fun (u : HS × List Nat) => P u.1 ∧ CO S0 u) (CE D T A) A) args s 0 0 A) (CW T S L) 0 0 0 [(0, .ref x0)] [] := by
  have hW : ∀ {w : Cond}, w ∈ W0 → w.before args s = true := fun h => C.2.2.2.2.1 _ (List.mem_cons_of_mem _ h)
  intro x0 S0 S L hS0 hw hL hx0 h
  have he : ext S0 S := by rw [hS0]; exact ext_rf
  unfold wp_Jxc12de_init_da8c8 at h
  refine g_aload_n C dJxc12de_init_da8c8_0 rfl 0 rfl ?_
  refine gc_callvI (host := "") (ret := none) C E hw hL [] rfl (k_Jxa1e45_init_da8c8 l D T x0 S hx0) (w0_I 0 C.2.2.2.2.1 kw_569 kw_570 kw_20 kw_571 rfl rfl rfl (by decide +kernel) ⟨Nat.le_of_ble_eq_true rfl, Nat.le_of_ble_eq_true rfl⟩) rfl (Nat.le_of_ble_eq_true rfl) (Nat.le_refl _) (Nat.le_refl _) (Nat.zero_le _) (Nat.zero_le _) dJxc12de_init_da8c8_1 (fun S1 L2 e3 w4 w5 hp => ?_)
  replace h := h S1 e3 hp
  have g6 := ext_K e3 hx0 (by decide)
  have w7 := ext_tr he e3
  refine g_aload_n C dJxc12de_init_da8c8_4 rfl 0 rfl ?_
  refine g_iconst (v := 0) C dJxc12de_init_da8c8_5 (by decide) ?_
  refine gt_putI C iwx_Jx4a65c w5 g6 (by decide) (by decide) rfl 0 (by decide) (hW kw_577) (fun _ z => z) tyJx4a65c tyJx4a65c_ok nmJx4a65c rfl rfl rfl rfl rfl dJxc12de_init_da8c8_6 ?_
  have w8 := wt_putI w4 260 0 (k_ne g6 (by decide))
  refine gc_nS (fun S9 eS9 => ?_)
  replace h := h S9 eS9
  have w10 : wt S9 := by rw [eS9]; exact w8
  have w11 : isL S9 L2 := by rw [eS9]; exact w5
  have w12 : ext S0 S9 := by rw [eS9]; exact w7
  have g13 : hK S9 x0 = 13 := by rw [eS9]; exact g6
  exact gc_vret C w10 w11 w12 hr dJxc12de_init_da8c8_9 h
theorem c_Jxc12de_init_da8c8 (l : Launch) (D : va_G) (T : Nat → ClassId) (x0 : Nat) (S : HS) (hx0 : hK S x0 = 13) (P : HS → Prop) (h : wp_Jxc12de_init_da8c8 P x0 S) : CMv l yJxc12de_init_da8c8 (ws_Jxc12de_init_da8c8) rm_Jxc12de_init_da8c8 D T [.ref x0] S 0 0 P := gc_metv (by decide) rfl rfl (Nat.le_of_ble_eq_true rfl) (fun p e s m args below meth c A L C E hnm hr hw hL => t_Jxc12de_init_da8c8 C E   hr hnm P x0 S S L rfl hw hL hx0 h)
theorem k_Jxc12de_init_da8c8 (l : Launch) (D : va_G) (T : Nat → ClassId) (x0 : Nat) (S : HS) (hx0 : hK S x0 = 13) : CMv l yJxc12de_init_da8c8 (ws_Jxc12de_init_da8c8) rm_Jxc12de_init_da8c8 D T [.ref x0] S 0 0 (fun S1 => (S1 = putI S 260 x0 0)) := c_Jxc12de_init_da8c8 l D T x0 S hx0 _ <|
  (by
    unfold wp_Jxc12de_init_da8c8
    intro S1 _ e1 S9 e9
    rw [e9, e1])
abbrev ws_Jx4a65c_init_da8c8 : List Cond := Cond.code yJx4a65c_init_da8c8 cJx4a65c_init_da8c8 1 none :: W0
abbrev rm_Jx4a65c_init_da8c8 : Room := ({ frames := 6, cells := 0, slots := 0, locals := 300 } : Room)
theorem dJx4a65c_init_da8c8_0 : decode cJx4a65c_init_da8c8 0 = .ok (.aload_n 0, 1) := by decide +kernel
theorem dJx4a65c_init_da8c8_1 : decode cJx4a65c_init_da8c8 1 = .ok (.invokespecial 1, 3) := by decide +kernel
theorem dJx4a65c_init_da8c8_4 : decode cJx4a65c_init_da8c8 4 = .ok (.aload_n 0, 1) := by decide +kernel
theorem dJx4a65c_init_da8c8_5 : decode cJx4a65c_init_da8c8 5 = .ok (.getstatic 39, 3) := by decide +kernel
theorem dJx4a65c_init_da8c8_8 : decode cJx4a65c_init_da8c8 8 = .ok (.putfield 9, 3) := by decide +kernel
theorem dJx4a65c_init_da8c8_11 : decode cJx4a65c_init_da8c8 11 = .ok (.return_, 1) := by decide +kernel
def wp_Jx4a65c_init_da8c8 (T : Nat → ClassId) (P : HS → Prop) (x0 : Nat) (S : HS) : Prop := ∀ (S1 : HS), ext S S1 → (S1 = putI S 260 x0 0) → (hK S1 (T 120) = 30 ∧ (∀ S10 : HS, S10 = putR S1 261 x0 (some (T 120)) → (P S10)))
set_option maxRecDepth 100000 in
set_option maxHeartbeats 4000000 in
theorem t_Jx4a65c_init_da8c8 {p : Program} {l : Launch} {e : Env} {s : State} {m : MethodId} {args : Array Value} {below : List Frame} {meth : Method} {c : Code} {D : va_G} {A : Nat → Prop} {T : Nat → ClassId} (C : GC p s m args meth c cJx4a65c_init_da8c8 "java/util/ArrayList" (ws_Jx4a65c_init_da8c8) 1 D A (zty T)) (E : GE T A s) (hr : meth.sig.returnType = none) (hin : meth.name = "<init>") (P : HS → Prop) : ∀ (x0 : Nat) (S0 S : HS) (L : List Nat), S0 = S → wt S → hL S L → (hK S x0 = 13) → wp_Jx4a65c_init_da8c8 T P x0 S → GW p l e { rm_Jx4a65c_init_da8c8 with cells := 0, slots := 0 } s m args below meth c D A 1 0 0 (MQ below (va_Qv (fun (u : HS × List Nat) => P u.1 ∧ CO S0 u) (CE D T A) A) args s 0 0 A) (CW T S L) 0 0 0 [(0, .ref x0)] [] := by
  have hW : ∀ {w : Cond}, w ∈ W0 → w.before args s = true := fun h => C.2.2.2.2.1 _ (List.mem_cons_of_mem _ h)
  intro x0 S0 S L hS0 hw hL hx0 h
  have he : ext S0 S := by rw [hS0]; exact ext_rf
  unfold wp_Jx4a65c_init_da8c8 at h
  refine g_aload_n C dJx4a65c_init_da8c8_0 rfl 0 rfl ?_
  refine gc_callvI (host := "") (ret := none) C E hw hL [] rfl (k_Jxc12de_init_da8c8 l D T x0 S hx0) (w0_I 0 C.2.2.2.2.1 kw_566 kw_567 kw_21 kw_568 rfl rfl rfl (by decide +kernel) ⟨Nat.le_of_ble_eq_true rfl, Nat.le_of_ble_eq_true rfl⟩) rfl (Nat.le_of_ble_eq_true rfl) (Nat.le_refl _) (Nat.le_refl _) (Nat.zero_le _) (Nat.zero_le _) dJx4a65c_init_da8c8_1 (fun S1 L2 e3 w4 w5 hp => ?_)
  replace h := h S1 e3 hp
  have g6 := ext_K e3 hx0 (by decide)
  have w7 := ext_tr he e3
  refine g_aload_n C dJx4a65c_init_da8c8_4 rfl 0 rfl ?_
  obtain ⟨g8, h⟩ := h
  refine gt_gets C E.2.2.2.2.2.2.2.2.2.2.2.1 (hW kw_573) (fun _ z => z) dJx4a65c_init_da8c8_5 ?_
  refine gc_putR C iwx_Jx4a65c w5 g6 (by decide) (by decide) rfl 1 (by decide) (hW kw_575) rfl tyJx4a65c tyJx4a65c_ok nmJx4a65c rfl rfl rfl (some (T 120)) rfl rfl dJx4a65c_init_da8c8_8 ?_
  have w9 := wt_putR w4 261 (some (T 120)) (k_ne g6 (by decide)) (fun b hb => by cases hb; exact g8) (by decide)
  refine gc_nS (fun S10 eS10 => ?_)
  replace h := h S10 eS10
  have w11 : wt S10 := by rw [eS10]; exact w9
  have w12 : isL S10 L2 := by rw [eS10]; exact w5
  have w13 : ext S0 S10 := by rw [eS10]; exact w7
  have g14 : hK S10 x0 = 13 := by rw [eS10]; exact g6
  exact gc_vret C w11 w12 w13 hr dJx4a65c_init_da8c8_11 h
theorem c_Jx4a65c_init_da8c8 (l : Launch) (D : va_G) (T : Nat → ClassId) (x0 : Nat) (S : HS) (hx0 : hK S x0 = 13) (P : HS → Prop) (h : wp_Jx4a65c_init_da8c8 T P x0 S) : CMv l yJx4a65c_init_da8c8 (ws_Jx4a65c_init_da8c8) rm_Jx4a65c_init_da8c8 D T [.ref x0] S 0 0 P := gc_metv (by decide) rfl rfl (Nat.le_of_ble_eq_true rfl) (fun p e s m args below meth c A L C E hnm hr hw hL => t_Jx4a65c_init_da8c8 C E   hr hnm P x0 S S L rfl hw hL hx0 h)
theorem k_Jx4a65c_init_da8c8 (l : Launch) (D : va_G) (T : Nat → ClassId) (x0 : Nat) (S : HS) (hx0 : hK S x0 = 13) (h : hK S (T 120) = 30) : CMv l yJx4a65c_init_da8c8 (ws_Jx4a65c_init_da8c8) rm_Jx4a65c_init_da8c8 D T [.ref x0] S 0 0 (fun S1 => (S1 = putR (putI S 260 x0 0) 261 x0 (some (T 120)))) := c_Jx4a65c_init_da8c8 l D T x0 S hx0 _ <|
  (by
    unfold wp_Jx4a65c_init_da8c8
    intro S1 _ e1
    refine ⟨by rw [e1, px_KI]; exact h, fun S10 e10 => ?_⟩
    rw [e10, e1])
abbrev ws_J8_newLength_cabcc : List Cond := Cond.code yJ8_newLength_cabcc cJ8_newLength_cabcc 4 (some .int) :: W0
abbrev rm_J8_newLength_cabcc : Room := ({ frames := 3, cells := 0, slots := 0, locals := 100 } : Room)
theorem dJ8_newLength_cabcc_0 : decode cJ8_newLength_cabcc 0 = .ok (.iload_n 0, 1) := by decide +kernel
theorem dJ8_newLength_cabcc_1 : decode cJ8_newLength_cabcc 1 = .ok (.iload_n 1, 1) := by decide +kernel
theorem dJ8_newLength_cabcc_2 : decode cJ8_newLength_cabcc 2 = .ok (.iload_n 2, 1) := by decide +kernel
theorem dJ8_newLength_cabcc_3 : decode cJ8_newLength_cabcc 3 = .ok (.invokestatic 194, 3) := by decide +kernel
theorem dJ8_newLength_cabcc_6 : decode cJ8_newLength_cabcc 6 = .ok (.iadd, 1) := by decide +kernel
theorem dJ8_newLength_cabcc_7 : decode cJ8_newLength_cabcc 7 = .ok (.istore_n 3, 1) := by decide +kernel
theorem dJ8_newLength_cabcc_8 : decode cJ8_newLength_cabcc 8 = .ok (.iconst 0, 1) := by decide +kernel
theorem dJ8_newLength_cabcc_9 : decode cJ8_newLength_cabcc 9 = .ok (.iload_n 3, 1) := by decide +kernel
theorem dJ8_newLength_cabcc_10 : decode cJ8_newLength_cabcc 10 = .ok (.if_icmp .ge 11, 3) := by decide +kernel
theorem dJ8_newLength_cabcc_13 : decode cJ8_newLength_cabcc 13 = .ok (.iload_n 3, 1) := by decide +kernel
theorem dJ8_newLength_cabcc_14 : decode cJ8_newLength_cabcc 14 = .ok (.ldc 200, 2) := by decide +kernel
theorem dJ8_newLength_cabcc_16 : decode cJ8_newLength_cabcc 16 = .ok (.if_icmp .gt 5, 3) := by decide +kernel
theorem dJ8_newLength_cabcc_19 : decode cJ8_newLength_cabcc 19 = .ok (.iload_n 3, 1) := by decide +kernel
theorem dJ8_newLength_cabcc_20 : decode cJ8_newLength_cabcc 20 = .ok (.ireturn, 1) := by decide +kernel
theorem dJ8_newLength_cabcc_21 : decode cJ8_newLength_cabcc 21 = .ok (.iload_n 0, 1) := by decide +kernel
theorem dJ8_newLength_cabcc_22 : decode cJ8_newLength_cabcc 22 = .ok (.iload_n 1, 1) := by decide +kernel
theorem dJ8_newLength_cabcc_23 : decode cJ8_newLength_cabcc 23 = .ok (.invokestatic 201, 3) := by decide +kernel
theorem dJ8_newLength_cabcc_26 : decode cJ8_newLength_cabcc 26 = .ok (.ireturn, 1) := by decide +kernel
def wp_J8_newLength_cabcc (P : Int32 → HS → Prop) (p0 : Int32) (p1 : Int32) (p2 : Int32) (S : HS) : Prop := ∀ v1 : Int32, v1 = (p0 + (if p1 < p2 then p2 else p1)) → ((v1 ≤ 0 → (False)) ∧ (¬ v1 ≤ 0 → ((2147483639 < v1 → (False)) ∧ (¬ 2147483639 < v1 → (P v1 S)))))
set_option maxRecDepth 100000 in
set_option maxHeartbeats 4000000 in
theorem t_J8_newLength_cabcc {p : Program} {l : Launch} {e : Env} {s : State} {m : MethodId} {args : Array Value} {below : List Frame} {meth : Method} {c : Code} {D : va_G} {A : Nat → Prop} {T : Nat → ClassId} (C : GC p s m args meth c cJ8_newLength_cabcc "jdk/internal/util/ArraysSupport" (ws_J8_newLength_cabcc) 4 D A (zty T)) (E : GE T A s) (hr : meth.sig.returnType = (some .int)) (P : Int32 → HS → Prop) : ∀ (p0 : Int32) (p1 : Int32) (p2 : Int32) (S0 S : HS) (L : List Nat), S0 = S → wt S → hL S L → wp_J8_newLength_cabcc P p0 p1 p2 S → GW p l e { rm_J8_newLength_cabcc with cells := 0, slots := 0 } s m args below meth c D A 4 0 0 (MQ below (va_Qi (fun v (u : HS × List Nat) => P v u.1 ∧ CO S0 u) (CE D T A) A) args s 0 0 A) (CW T S L) 0 0 0 [(0, .int p0), (1, .int p1), (2, .int p2)] [] := by
  have hW : ∀ {w : Cond}, w ∈ W0 → w.before args s = true := fun h => C.2.2.2.2.1 _ (List.mem_cons_of_mem _ h)
  intro p0 p1 p2 S0 S L hS0 hw hL  h
  have he : ext S0 S := by rw [hS0]; exact ext_rf
  unfold wp_J8_newLength_cabcc at h
  refine g_iload_n C dJ8_newLength_cabcc_0 rfl 0 rfl ?_
  refine g_iload_n C dJ8_newLength_cabcc_1 rfl 1 rfl ?_
  refine g_iload_n C dJ8_newLength_cabcc_2 rfl 2 rfl ?_
  refine g_mmax C (hW kw_824) (hW kw_626) (hW kw_18) (hW kw_627) (Nat.le_of_ble_eq_true rfl) (Nat.le_of_ble_eq_true rfl) (Nat.le_refl _) (Nat.le_refl _) dJ8_newLength_cabcc_3 ?_
  refine g_iadd C dJ8_newLength_cabcc_6 ?_
  refine g_topi (fun v1 ev1 => ?_)
  replace h := h v1 ev1
  refine g_istore_n (lv' := [(3, .int v1), (0, .int p0), (1, .int p1), (2, .int p2)]) C dJ8_newLength_cabcc_7 rfl (by decide) rfl ?_
  refine g_iconst (v := 0) C dJ8_newLength_cabcc_8 (by decide) ?_
  refine g_iload_n C dJ8_newLength_cabcc_9 rfl 0 rfl ?_
  refine g_icmp_ge (tgt := 21) C dJ8_newLength_cabcc_10 (by decide) (fun z2 => ?_) (fun z2 => ?_)
  · replace h := h.1 z2
    exact False.elim h
  · replace h := h.2 z2
    refine g_iload_n C dJ8_newLength_cabcc_13 rfl 0 rfl ?_
    refine g_ldc (v := 2147483639) C dJ8_newLength_cabcc_14 (hW kw_825) ?_
    refine g_icmp_gt (tgt := 21) C dJ8_newLength_cabcc_16 (by decide) (fun z3 => ?_) (fun z3 => ?_)
    · replace h := h.1 z3
      exact False.elim h
    · replace h := h.2 z3
      refine g_iload_n C dJ8_newLength_cabcc_19 rfl 0 rfl ?_
      exact gc_iret C hw hL he hr dJ8_newLength_cabcc_20 h
theorem c_J8_newLength_cabcc (l : Launch) (D : va_G) (T : Nat → ClassId) (p0 : Int32) (p1 : Int32) (p2 : Int32) (S : HS)  (P : Int32 → HS → Prop) (h : wp_J8_newLength_cabcc P p0 p1 p2 S) : CMi l yJ8_newLength_cabcc (ws_J8_newLength_cabcc) rm_J8_newLength_cabcc D T [.int p0, .int p1, .int p2] S 0 0 P := gc_meti (by decide) rfl rfl (Nat.le_of_ble_eq_true rfl) (fun p e s m args below meth c A L C E hnm hr hw hL => t_J8_newLength_cabcc C E   hr P p0 p1 p2 S S L rfl hw hL  h)
theorem k_J8_newLength_cabcc (l : Launch) (D : va_G) (T : Nat → ClassId) (p0 : Int32) (p1 : Int32) (p2 : Int32) (S : HS) (e0 : Nat) (e1 : Nat) (e2 : Nat)  (h : p0 = nI e0 ∧ p1 = nI e1 ∧ p2 = nI e2 ∧ 0 < e1 ∧ e0 + e1 + e2 < 2 ^ 30) : CMi l yJ8_newLength_cabcc (ws_J8_newLength_cabcc) rm_J8_newLength_cabcc D T [.int p0, .int p1, .int p2] S 0 0 (fun v S1 => v = (nI (e0 + (if e1 < e2 then e2 else e1))) ∧ S1 = S) := c_J8_newLength_cabcc l D T p0 p1 p2 S  _ <|
  (by
    obtain ⟨a0, a1, a2, hp, hs⟩ := h
    subst a0 a1 a2
    have ei : (if nI e1 < nI e2 then nI e2 else nI e1) = nI (if e1 < e2 then e2 else e1) := by
      have l := nI_ltI (a := e1) (b := e2) (by omega) (by omega)
      by_cases c : e1 < e2
      · rw [if_pos c, if_pos (l.mpr c)]
      · rw [if_neg c, if_neg (fun z => c (l.mp z))]
    have hm : (if e1 < e2 then e2 else e1) ≤ e1 + e2 ∧ 0 < (if e1 < e2 then e2 else e1) := by split <;> omega
    unfold wp_J8_newLength_cabcc
    rw [ei, nI_add]
    intro v ev
    subst ev
    refine ⟨fun z => ?_, fun _ => ⟨fun z => ?_, fun _ => ⟨rfl, rfl⟩⟩⟩
    · have := (nI_leI (b := 0) (by omega) (by decide)).mp z
      omega
    · have := (nI_ltI (a := 2147483639) (by decide) (by omega)).mp z
      omega)
abbrev ws_J7_copyOf_6403c : List Cond := Cond.code yJ7_copyOf_6403c cJ7_copyOf_6403c 4 (some (.array (.object "java/lang/Object"))) :: W0
abbrev rm_J7_copyOf_6403c : Room := ({ frames := 4, cells := 0, slots := 0, locals := 200 } : Room)
theorem dJ7_copyOf_6403c_0 : decode cJ7_copyOf_6403c 0 = .ok (.aload_n 2, 1) := by decide +kernel
theorem dJ7_copyOf_6403c_1 : decode cJ7_copyOf_6403c 1 = .ok (.ldc 110, 2) := by decide +kernel
theorem dJ7_copyOf_6403c_3 : decode cJ7_copyOf_6403c 3 = .ok (.if_acmp .ne 10, 3) := by decide +kernel
theorem dJ7_copyOf_6403c_6 : decode cJ7_copyOf_6403c 6 = .ok (.iload_n 1, 1) := by decide +kernel
theorem dJ7_copyOf_6403c_7 : decode cJ7_copyOf_6403c 7 = .ok (.anewarray 2, 3) := by decide +kernel
theorem dJ7_copyOf_6403c_10 : decode cJ7_copyOf_6403c 10 = .ok (.goto 14, 3) := by decide +kernel
theorem dJ7_copyOf_6403c_13 : decode cJ7_copyOf_6403c 13 = .ok (.aload_n 2, 1) := by decide +kernel
theorem dJ7_copyOf_6403c_14 : decode cJ7_copyOf_6403c 14 = .ok (.invokevirtual 90, 3) := by decide +kernel
theorem dJ7_copyOf_6403c_17 : decode cJ7_copyOf_6403c 17 = .ok (.iload_n 1, 1) := by decide +kernel
theorem dJ7_copyOf_6403c_18 : decode cJ7_copyOf_6403c 18 = .ok (.invokestatic 95, 3) := by decide +kernel
theorem dJ7_copyOf_6403c_21 : decode cJ7_copyOf_6403c 21 = .ok (.checkcast 110, 3) := by decide +kernel
theorem dJ7_copyOf_6403c_24 : decode cJ7_copyOf_6403c 24 = .ok (.astore_n 3, 1) := by decide +kernel
theorem dJ7_copyOf_6403c_25 : decode cJ7_copyOf_6403c 25 = .ok (.aload_n 0, 1) := by decide +kernel
theorem dJ7_copyOf_6403c_26 : decode cJ7_copyOf_6403c 26 = .ok (.iconst 0, 1) := by decide +kernel
theorem dJ7_copyOf_6403c_27 : decode cJ7_copyOf_6403c 27 = .ok (.aload_n 3, 1) := by decide +kernel
theorem dJ7_copyOf_6403c_28 : decode cJ7_copyOf_6403c 28 = .ok (.iconst 0, 1) := by decide +kernel
theorem dJ7_copyOf_6403c_29 : decode cJ7_copyOf_6403c 29 = .ok (.aload_n 0, 1) := by decide +kernel
theorem dJ7_copyOf_6403c_30 : decode cJ7_copyOf_6403c 30 = .ok (.arraylength, 1) := by decide +kernel
theorem dJ7_copyOf_6403c_31 : decode cJ7_copyOf_6403c 31 = .ok (.iload_n 1, 1) := by decide +kernel
theorem dJ7_copyOf_6403c_32 : decode cJ7_copyOf_6403c 32 = .ok (.invokestatic 304, 3) := by decide +kernel
theorem dJ7_copyOf_6403c_35 : decode cJ7_copyOf_6403c 35 = .ok (.invokestatic 150, 3) := by decide +kernel
theorem dJ7_copyOf_6403c_38 : decode cJ7_copyOf_6403c 38 = .ok (.aload_n 3, 1) := by decide +kernel
theorem dJ7_copyOf_6403c_39 : decode cJ7_copyOf_6403c 39 = .ok (.areturn, 1) := by decide +kernel
def wp_J7_copyOf_6403c (P : Option Nat → HS → Prop) (p0 : Nat) (p1 : Int32) (S : HS) (mc ms : Nat) : Prop := ((¬ p1 < (0 : Int32) ∧ (Int32.toNatClampNeg p1) ≤ 100000000) ∧ 1 ≤ mc ∧ (Int32.toNatClampNeg p1) ≤ ms) ∧ (∀ q1 : Nat, hK S q1 = 0 → zr S q1 → (∀ S8 : HS, S8 = newA S q1 30 (Int32.toNatClampNeg p1) → (∃ u15 : Nat, (0 < hN S8 p0 ∧ 0 < hN S8 q1) ∧ ((u15 = 8 ∨ u15 = 9) ∧ ¬ (0 : Int32) < 0 ∧ ¬ (0 : Int32) < 0 ∧ ¬ (if p1 < (Int32.ofNat (hN S8 p0)) then p1 else (Int32.ofNat (hN S8 p0))) < 0 ∧ Int32.toNatClampNeg 0 + Int32.toNatClampNeg (if p1 < (Int32.ofNat (hN S8 p0)) then p1 else (Int32.ofNat (hN S8 p0))) ≤ hN S8 p0 ∧ Int32.toNatClampNeg 0 + Int32.toNatClampNeg (if p1 < (Int32.ofNat (hN S8 p0)) then p1 else (Int32.ofNat (hN S8 p0))) ≤ hN S8 q1 ∧ ∀ i : Nat, i < Int32.toNatClampNeg (if p1 < (Int32.ofNat (hN S8 p0)) then p1 else (Int32.ofNat (hN S8 p0))) → ∀ b : Nat, hB S8 p0 (Int32.toNatClampNeg 0 + i) = some b → hK S8 b = u15) ∧ (∀ S18 : HS, S18 = putBB S8 q1 (va_cpy (hB S8 p0) (hB S8 q1) (Int32.toNatClampNeg 0) (Int32.toNatClampNeg 0) (Int32.toNatClampNeg (if p1 < (Int32.ofNat (hN S8 p0)) then p1 else (Int32.ofNat (hN S8 p0))))) → (P (some q1) S18)))))
set_option maxRecDepth 100000 in
set_option maxHeartbeats 4000000 in
theorem t_J7_copyOf_6403c {p : Program} {l : Launch} {e : Env} {s : State} {m : MethodId} {args : Array Value} {below : List Frame} {meth : Method} {c : Code} {D : va_G} {A : Nat → Prop} {T : Nat → ClassId} (C : GC p s m args meth c cJ7_copyOf_6403c "java/util/Arrays" (ws_J7_copyOf_6403c) 4 D A (zty T)) (E : GE T A s) (hr : meth.sig.returnType = (some (.array (.object "java/lang/Object")))) (P : Option Nat → HS → Prop) : ∀ (p0 : Nat) (p1 : Int32) (S0 S : HS) (mc ms : Nat) (L : List Nat), S0 = S → wt S → hL S L → (hK S p0 = 30) → wp_J7_copyOf_6403c P p0 p1 S mc ms → GW p l e { rm_J7_copyOf_6403c with cells := mc, slots := ms } s m args below meth c D A 4 mc ms (MQ below (va_Qq (fun v (u : HS × List Nat) => (P v u.1 ∧ ∀ b, v = some b → hK u.1 b = 30) ∧ CO S0 u) (CE D T A) A) args s mc ms A) (CW T S L) mc ms 0 [(0, .ref p0), (1, .int p1), (2, .ref (T 121))] [] := by
  have hW : ∀ {w : Cond}, w ∈ W0 → w.before args s = true := fun h => C.2.2.2.2.1 _ (List.mem_cons_of_mem _ h)
  intro p0 p1 S0 S mc ms L hS0 hw hL hp0 h
  have he : ext S0 S := by rw [hS0]; exact ext_rf
  unfold wp_J7_copyOf_6403c at h
  refine g_aload_n C dJ7_copyOf_6403c_0 rfl 2 rfl ?_
  refine gt_cls C E (hW kw_861) dJ7_copyOf_6403c_1 ?_
  refine gt_acS (tgt := 13) C dJ7_copyOf_6403c_3 (by decide) ?_
  refine g_iload_n C dJ7_copyOf_6403c_6 rfl 1 rfl ?_
  obtain ⟨g2, h⟩ := h
  refine gc_anew (kd := 30) C E hw hL (Nat.le_refl _) (Nat.le_refl _) (show "java/lang/Object" ∈ overL by decide) (by decide) rfl (hW kw_863) g2.1.1 g2.1.2 g2.2.1 g2.2.2 dJ7_copyOf_6403c_7 (fun q1 h0q1 zq1 => ?_)
  replace h := h q1 h0q1 zq1
  have g3 := newA_old 30 (Int32.toNatClampNeg p1) hp0 (by decide) h0q1
  have w4 := wt_newA hw 30 (Int32.toNatClampNeg p1) h0q1 (by decide)
  have w5 := hL_new (S' := newA S q1 30 (Int32.toNatClampNeg p1)) hL (show 30 ≠ 0 by decide) rfl
  have w6 := ext_newA he h0q1 30 (Int32.toNatClampNeg p1)
  have g7 := newA_self S q1 30 (Int32.toNatClampNeg p1)
  refine gc_nS (fun S8 eS8 => ?_)
  replace h := h S8 eS8
  have w9 : wt S8 := by rw [eS8]; exact w4
  have w10 : isL S8 (L ++ [q1]) := by rw [eS8]; exact w5
  have w11 : ext S0 S8 := by rw [eS8]; exact w6
  have g12 : hK S8 q1 = 30 := by rw [eS8]; exact g7
  have g13 : hK S8 p0 = 30 := by rw [eS8]; exact g3
  refine g_goto (tgt := 24) C dJ7_copyOf_6403c_10 (by decide) ?_
  refine g_astore_n (lv' := [(3, .ref q1), (0, .ref p0), (1, .int p1), (2, .ref (T 121))]) C dJ7_copyOf_6403c_24 rfl (by decide) rfl ?_
  refine g_aload_n C dJ7_copyOf_6403c_25 rfl 1 rfl ?_
  refine g_iconst (v := 0) C dJ7_copyOf_6403c_26 (by decide) ?_
  refine g_aload_n C dJ7_copyOf_6403c_27 rfl 0 rfl ?_
  refine g_iconst (v := 0) C dJ7_copyOf_6403c_28 (by decide) ?_
  refine g_aload_n C dJ7_copyOf_6403c_29 rfl 1 rfl ?_
  refine gc_alen C E w10 g13 (by decide) rfl dJ7_copyOf_6403c_30 ?_
  refine g_iload_n C dJ7_copyOf_6403c_31 rfl 2 rfl ?_
  refine g_mmin C (hW kw_864) (hW kw_500) (hW kw_18) (hW kw_501) (Nat.le_of_ble_eq_true rfl) (Nat.le_of_ble_eq_true rfl) (Nat.le_refl _) (Nat.le_refl _) dJ7_copyOf_6403c_32 ?_
  obtain ⟨u15, g16, g14, h⟩ := h
  refine gt_cpyO C E w10 g13 g12 g16 g14.1 (hW kw_865) (hW kw_867) (hW kw_866) (hW kw_31) g14.2.1 g14.2.2.1 g14.2.2.2.1 g14.2.2.2.2.1 g14.2.2.2.2.2.1 g14.2.2.2.2.2.2 (Nat.le_of_ble_eq_true rfl) (Nat.le_of_ble_eq_true rfl) dJ7_copyOf_6403c_35 ?_
  have w17 := wt_bb (y := q1) (row := (va_cpy (hB S8 p0) (hB S8 q1) (Int32.toNatClampNeg 0) (Int32.toNatClampNeg 0) (Int32.toNatClampNeg (if p1 < (Int32.ofNat (hN S8 p0)) then p1 else (Int32.ofNat (hN S8 p0)))))) w9 (k_ne g12 (by decide)) (cpy_ok w9 g13 g12 _ _ _)
  refine gc_nS (fun S18 eS18 => ?_)
  replace h := h S18 eS18
  have w19 : wt S18 := by rw [eS18]; exact w17
  have w20 : isL S18 (L ++ [q1]) := by rw [eS18]; exact w10
  have w21 : ext S0 S18 := by rw [eS18]; exact w11
  have g22 : hK S18 q1 = 30 := by rw [eS18]; exact g12
  have g23 : hK S18 p0 = 30 := by rw [eS18]; exact g13
  refine g_aload_n C dJ7_copyOf_6403c_38 rfl 0 rfl ?_
  exact gc_aret (v := (some q1)) (kd := 30) C (Or.inr ⟨_, rfl⟩) (fun b hb => by cases hb; exact g22) w19 w20 w21 hr dJ7_copyOf_6403c_39 h
theorem c_J7_copyOf_6403c (l : Launch) (D : va_G) (T : Nat → ClassId) (p0 : Nat) (p1 : Int32) (S : HS) (mc ms : Nat) (hp0 : hK S p0 = 30) (P : Option Nat → HS → Prop) (h : wp_J7_copyOf_6403c P p0 p1 S mc ms) : CMq l yJ7_copyOf_6403c (ws_J7_copyOf_6403c) rm_J7_copyOf_6403c D T [.ref p0, .int p1, .ref (T 121)] S mc ms 30 P := gc_metq (by decide) rfl rfl (Nat.le_of_ble_eq_true rfl) (fun p e s m args below meth c A L C E hnm hr hw hL => t_J7_copyOf_6403c C E   hr P p0 p1 S S mc ms L rfl hw hL hp0 h)
theorem k_J7_copyOf_6403c (l : Launch) (D : va_G) (T : Nat → ClassId) (p0 : Nat) (p1 : Int32) (S : HS) (e0 : Nat) (e1 : Nat) (mc ms : Nat) (hp0 : hK S p0 = 30) (h : 0 < hN S p0 ∧ p1 = nI e0 ∧ hN S p0 ≤ e0 ∧ e0 ≤ 65536 ∧ (e1 = 8 ∨ e1 = 9) ∧ (∀ j, j < hN S p0 → ∀ b, hB S p0 j = some b → hK S b = e1) ∧ 1 ≤ mc ∧ e0 ≤ ms) : CMq l yJ7_copyOf_6403c (ws_J7_copyOf_6403c) rm_J7_copyOf_6403c D T [.ref p0, .int p1, .ref (T 121)] S mc ms 30 (fun v S1 => (∃ q, v = some q ∧ hK S q = 0 ∧ S1 = putBB (newA S q 30 e0) q (va_cpy (hB S p0) (fun _ => none) 0 0 (hN S p0)))) := c_J7_copyOf_6403c l D T p0 p1 S mc ms hp0 _ <|
  (by
    obtain ⟨hpos, a1, hl, h6, he, hel, hmc, hms⟩ := h
    subst a1
    have hx := hp0
    unfold wp_J7_copyOf_6403c
    rw [show Int32.toNatClampNeg (nI e0) = e0 from nI_clamp (by omega)]
    refine ⟨⟨⟨nI_pos (by omega), by omega⟩, hmc, hms⟩, fun q q0 qz S8 e8 => ?_⟩
    have hne : p0 ≠ q := fun z => by rw [z, q0] at hx; exact absurd hx (by decide)
    have n8 : hN S8 p0 = hN S p0 := by rw [e8, px_NW, if_neg hne]
    have nq : hN S8 q = e0 := by rw [e8, px_NW, if_pos rfl]
    have b8 : hB S8 = hB S := by rw [e8, px_BW]
    have em : (if nI e0 < Int32.ofNat (hN S8 p0) then nI e0 else Int32.ofNat (hN S8 p0)) = nI (hN S p0) := by
      rw [n8]
      exact if_neg (fun z => by have := (nI_ltI (a := e0) (b := hN S p0) (by omega) (by omega)).mp z; omega)
    rw [em, show Int32.toNatClampNeg (nI (hN S p0)) = hN S p0 from nI_clamp (by omega), n8, nq, b8, show Int32.toNatClampNeg 0 = 0 by decide]
    refine ⟨e1, ⟨hpos, by omega⟩, ⟨he, by decide, by decide, nI_pos (by omega), by omega, by omega, fun i hi b hb => ?_⟩, fun S17 e17 => ⟨q, rfl, q0, ?_⟩⟩
    · rw [Nat.zero_add] at hb
      have k := hel i hi b hb
      have hbq : b ≠ q := fun z => by rw [z, q0] at k; omega
      rw [e8, px_KW, if_neg hbq]
      exact k
    · have bq : hB S q = fun _ => none := by
        funext j
        exact qz.2.2.2 j
      rw [e17, bq, e8])
abbrev ws_J7_copyOf_1904c : List Cond := Cond.code yJ7_copyOf_1904c cJ7_copyOf_1904c 2 (some (.array (.object "java/lang/Object"))) :: W0
abbrev rm_J7_copyOf_1904c : Room := ({ frames := 6, cells := 0, slots := 0, locals := 300 } : Room)
theorem dJ7_copyOf_1904c_0 : decode cJ7_copyOf_1904c 0 = .ok (.aload_n 0, 1) := by decide +kernel
theorem dJ7_copyOf_1904c_1 : decode cJ7_copyOf_1904c 1 = .ok (.iload_n 1, 1) := by decide +kernel
theorem dJ7_copyOf_1904c_2 : decode cJ7_copyOf_1904c 2 = .ok (.aload_n 0, 1) := by decide +kernel
theorem dJ7_copyOf_1904c_3 : decode cJ7_copyOf_1904c 3 = .ok (.invokevirtual 86, 3) := by decide +kernel
theorem dJ7_copyOf_1904c_6 : decode cJ7_copyOf_1904c 6 = .ok (.invokestatic 300, 3) := by decide +kernel
theorem dJ7_copyOf_1904c_9 : decode cJ7_copyOf_1904c 9 = .ok (.areturn, 1) := by decide +kernel
def wp_J7_copyOf_1904c (P : Option Nat → HS → Prop) (p0 : Nat) (p1 : Int32) (S : HS) (mc ms : Nat) : Prop := 0 < hN S p0 ∧ (∃ cc2 cc3 : Nat, (cc2 ≤ mc ∧ cc3 ≤ ms) ∧ (∃ (m5 : Nat) (m6 : Nat), ((0 < hN S p0 ∧ p1 = nI m5 ∧ hN S p0 ≤ m5 ∧ m5 ≤ 65536 ∧ (m6 = 8 ∨ m6 = 9) ∧ (∀ j, j < hN S p0 → ∀ b, hB S p0 j = some b → hK S b = m6) ∧ 1 ≤ cc2 ∧ m5 ≤ cc3) ∧ (∀ (o13 : Option Nat) (S8 : HS), ext S S8 → (∀ b, o13 = some b → hK S8 b = 30) → (∃ q, o13 = some q ∧ hK S q = 0 ∧ S8 = putBB (newA S q 30 m5) q (va_cpy (hB S p0) (fun _ => none) 0 0 (hN S p0))) → (∃ b16 : Nat, o13 = some b16 ∧ (hK S8 b16 = 30 → (P (some b16) S8)))))))
set_option maxRecDepth 100000 in
set_option maxHeartbeats 4000000 in
theorem t_J7_copyOf_1904c {p : Program} {l : Launch} {e : Env} {s : State} {m : MethodId} {args : Array Value} {below : List Frame} {meth : Method} {c : Code} {D : va_G} {A : Nat → Prop} {T : Nat → ClassId} (C : GC p s m args meth c cJ7_copyOf_1904c "java/util/Arrays" (ws_J7_copyOf_1904c) 2 D A (zty T)) (E : GE T A s) (hr : meth.sig.returnType = (some (.array (.object "java/lang/Object")))) (P : Option Nat → HS → Prop) : ∀ (p0 : Nat) (p1 : Int32) (S0 S : HS) (mc ms : Nat) (L : List Nat), S0 = S → wt S → hL S L → (hK S p0 = 30) → wp_J7_copyOf_1904c P p0 p1 S mc ms → GW p l e { rm_J7_copyOf_1904c with cells := mc, slots := ms } s m args below meth c D A 2 mc ms (MQ below (va_Qq (fun v (u : HS × List Nat) => (P v u.1 ∧ ∀ b, v = some b → hK u.1 b = 30) ∧ CO S0 u) (CE D T A) A) args s mc ms A) (CW T S L) mc ms 0 [(0, .ref p0), (1, .int p1)] [] := by
  have hW : ∀ {w : Cond}, w ∈ W0 → w.before args s = true := fun h => C.2.2.2.2.1 _ (List.mem_cons_of_mem _ h)
  intro p0 p1 S0 S mc ms L hS0 hw hL hp0 h
  have he : ext S0 S := by rw [hS0]; exact ext_rf
  unfold wp_J7_copyOf_1904c at h
  refine g_aload_n C dJ7_copyOf_1904c_0 rfl 0 rfl ?_
  refine g_iload_n C dJ7_copyOf_1904c_1 rfl 1 rfl ?_
  refine g_aload_n C dJ7_copyOf_1904c_2 rfl 0 rfl ?_
  obtain ⟨g1, h⟩ := h
  refine gt_getC C E hL hp0 g1 (hW kw_832) (hW kw_2391) (hW kw_833) (hW kw_857) (Nat.le_of_ble_eq_true rfl) (Nat.le_of_ble_eq_true rfl) dJ7_copyOf_1904c_3 ?_
  obtain ⟨cc2, cc3, g4, h⟩ := h
  obtain ⟨m5, m6, h⟩ := h
  obtain ⟨g7, h⟩ := h
  refine gc_callqS (host := "") C E hw hL [.ref p0, .int p1, .ref (T 121)] rfl (k_J7_copyOf_6403c l D T p0 p1 S m5 m6 cc2 cc3 hp0 g7) (w0_S 3 C.2.2.2.2.1 kw_858 kw_859 kw_30 kw_860 rfl rfl (by decide +kernel) ⟨Nat.le_of_ble_eq_true rfl, Nat.le_of_ble_eq_true rfl⟩) rfl (Nat.le_of_ble_eq_true rfl) (Nat.le_refl _) (Nat.le_refl _) g4.1 g4.2 dJ7_copyOf_1904c_6 (fun o13 S8 L9 e10 w11 w12 ko13 hp => ?_)
  replace h := h o13 S8 e10 ko13 hp
  have g14 := ext_K e10 hp0 (by decide)
  have w15 := ext_tr he e10
  obtain ⟨b16, rfl, h⟩ := h
  have g17 : hK S8 b16 = 30 := ko13 b16 rfl
  replace h := h g17
  exact gc_aret (v := (some b16)) (kd := 30) C (Or.inr ⟨_, rfl⟩) (fun b hb => by cases hb; exact g17) w11 w12 w15 hr dJ7_copyOf_1904c_9 h
theorem c_J7_copyOf_1904c (l : Launch) (D : va_G) (T : Nat → ClassId) (p0 : Nat) (p1 : Int32) (S : HS) (mc ms : Nat) (hp0 : hK S p0 = 30) (P : Option Nat → HS → Prop) (h : wp_J7_copyOf_1904c P p0 p1 S mc ms) : CMq l yJ7_copyOf_1904c (ws_J7_copyOf_1904c) rm_J7_copyOf_1904c D T [.ref p0, .int p1] S mc ms 30 P := gc_metq (by decide) rfl rfl (Nat.le_of_ble_eq_true rfl) (fun p e s m args below meth c A L C E hnm hr hw hL => t_J7_copyOf_1904c C E   hr P p0 p1 S S mc ms L rfl hw hL hp0 h)
theorem k_J7_copyOf_1904c (l : Launch) (D : va_G) (T : Nat → ClassId) (p0 : Nat) (p1 : Int32) (S : HS) (e0 : Nat) (e1 : Nat) (mc ms : Nat) (hp0 : hK S p0 = 30) (h : 0 < hN S p0 ∧ p1 = nI e0 ∧ hN S p0 ≤ e0 ∧ e0 ≤ 65536 ∧ (e1 = 8 ∨ e1 = 9) ∧ (∀ j, j < hN S p0 → ∀ b, hB S p0 j = some b → hK S b = e1) ∧ 1 ≤ mc ∧ e0 ≤ ms) : CMq l yJ7_copyOf_1904c (ws_J7_copyOf_1904c) rm_J7_copyOf_1904c D T [.ref p0, .int p1] S mc ms 30 (fun v S1 => (∃ q, v = some q ∧ hK S q = 0 ∧ S1 = putBB (newA S q 30 e0) q (va_cpy (hB S p0) (fun _ => none) 0 0 (hN S p0)))) := c_J7_copyOf_1904c l D T p0 p1 S mc ms hp0 _ <|
  (by
    unfold wp_J7_copyOf_1904c
    refine ⟨h.1, mc, ms, ⟨Nat.le_refl _, Nat.le_refl _⟩, e0, e1, h, fun o S7 _ _ h7 => ?_⟩
    obtain ⟨q, eq, q0, e7⟩ := h7
    refine ⟨q, eq, fun _ => ⟨q, rfl, q0, e7⟩⟩)
abbrev ws_Jx4a65c_grow_92f84 : List Cond := Cond.code yJx4a65c_grow_92f84 cJx4a65c_grow_92f84 4 (some (.array (.object "java/lang/Object"))) :: W0
abbrev rm_Jx4a65c_grow_92f84 : Room := ({ frames := 9, cells := 0, slots := 0, locals := 400 } : Room)
theorem dJx4a65c_grow_92f84_0 : decode cJx4a65c_grow_92f84 0 = .ok (.aload_n 0, 1) := by decide +kernel
theorem dJx4a65c_grow_92f84_1 : decode cJx4a65c_grow_92f84 1 = .ok (.getfield 9, 3) := by decide +kernel
theorem dJx4a65c_grow_92f84_4 : decode cJx4a65c_grow_92f84 4 = .ok (.arraylength, 1) := by decide +kernel
theorem dJx4a65c_grow_92f84_5 : decode cJx4a65c_grow_92f84 5 = .ok (.istore_n 2, 1) := by decide +kernel
theorem dJx4a65c_grow_92f84_6 : decode cJx4a65c_grow_92f84 6 = .ok (.iload_n 2, 1) := by decide +kernel
theorem dJx4a65c_grow_92f84_7 : decode cJx4a65c_grow_92f84 7 = .ok (.ifCond .gt 13, 3) := by decide +kernel
theorem dJx4a65c_grow_92f84_10 : decode cJx4a65c_grow_92f84 10 = .ok (.aload_n 0, 1) := by decide +kernel
theorem dJx4a65c_grow_92f84_11 : decode cJx4a65c_grow_92f84 11 = .ok (.getfield 9, 3) := by decide +kernel
theorem dJx4a65c_grow_92f84_14 : decode cJx4a65c_grow_92f84 14 = .ok (.getstatic 39, 3) := by decide +kernel
theorem dJx4a65c_grow_92f84_17 : decode cJx4a65c_grow_92f84 17 = .ok (.if_acmp .eq 28, 3) := by decide +kernel
theorem dJx4a65c_grow_92f84_20 : decode cJx4a65c_grow_92f84 20 = .ok (.iload_n 2, 1) := by decide +kernel
theorem dJx4a65c_grow_92f84_21 : decode cJx4a65c_grow_92f84 21 = .ok (.iload_n 1, 1) := by decide +kernel
theorem dJx4a65c_grow_92f84_22 : decode cJx4a65c_grow_92f84 22 = .ok (.iload_n 2, 1) := by decide +kernel
theorem dJx4a65c_grow_92f84_23 : decode cJx4a65c_grow_92f84 23 = .ok (.isub, 1) := by decide +kernel
theorem dJx4a65c_grow_92f84_24 : decode cJx4a65c_grow_92f84 24 = .ok (.iload_n 2, 1) := by decide +kernel
theorem dJx4a65c_grow_92f84_25 : decode cJx4a65c_grow_92f84 25 = .ok (.iconst 1, 1) := by decide +kernel
theorem dJx4a65c_grow_92f84_26 : decode cJx4a65c_grow_92f84 26 = .ok (.ishr, 1) := by decide +kernel
theorem dJx4a65c_grow_92f84_27 : decode cJx4a65c_grow_92f84 27 = .ok (.invokestatic 73, 3) := by decide +kernel
theorem dJx4a65c_grow_92f84_30 : decode cJx4a65c_grow_92f84 30 = .ok (.istore_n 3, 1) := by decide +kernel
theorem dJx4a65c_grow_92f84_31 : decode cJx4a65c_grow_92f84 31 = .ok (.aload_n 0, 1) := by decide +kernel
theorem dJx4a65c_grow_92f84_32 : decode cJx4a65c_grow_92f84 32 = .ok (.aload_n 0, 1) := by decide +kernel
theorem dJx4a65c_grow_92f84_33 : decode cJx4a65c_grow_92f84 33 = .ok (.getfield 9, 3) := by decide +kernel
theorem dJx4a65c_grow_92f84_36 : decode cJx4a65c_grow_92f84 36 = .ok (.iload_n 3, 1) := by decide +kernel
theorem dJx4a65c_grow_92f84_37 : decode cJx4a65c_grow_92f84 37 = .ok (.invokestatic 66, 3) := by decide +kernel
theorem dJx4a65c_grow_92f84_40 : decode cJx4a65c_grow_92f84 40 = .ok (.dup_x1, 1) := by decide +kernel
theorem dJx4a65c_grow_92f84_41 : decode cJx4a65c_grow_92f84 41 = .ok (.putfield 9, 3) := by decide +kernel
theorem dJx4a65c_grow_92f84_44 : decode cJx4a65c_grow_92f84 44 = .ok (.areturn, 1) := by decide +kernel
theorem dJx4a65c_grow_92f84_45 : decode cJx4a65c_grow_92f84 45 = .ok (.aload_n 0, 1) := by decide +kernel
theorem dJx4a65c_grow_92f84_46 : decode cJx4a65c_grow_92f84 46 = .ok (.bipush 10, 2) := by decide +kernel
theorem dJx4a65c_grow_92f84_48 : decode cJx4a65c_grow_92f84 48 = .ok (.iload_n 1, 1) := by decide +kernel
theorem dJx4a65c_grow_92f84_49 : decode cJx4a65c_grow_92f84 49 = .ok (.invokestatic 79, 3) := by decide +kernel
theorem dJx4a65c_grow_92f84_52 : decode cJx4a65c_grow_92f84 52 = .ok (.anewarray 7, 3) := by decide +kernel
theorem dJx4a65c_grow_92f84_55 : decode cJx4a65c_grow_92f84 55 = .ok (.dup_x1, 1) := by decide +kernel
theorem dJx4a65c_grow_92f84_56 : decode cJx4a65c_grow_92f84 56 = .ok (.putfield 9, 3) := by decide +kernel
theorem dJx4a65c_grow_92f84_59 : decode cJx4a65c_grow_92f84 59 = .ok (.areturn, 1) := by decide +kernel
def wp_Jx4a65c_grow_92f84 (T : Nat → ClassId) (P : Option Nat → HS → Prop) (x0 : Nat) (p0 : Int32) (S : HS) (mc ms : Nat) : Prop := ∃ b2 : Nat, hR S 261 x0 = some b2 ∧ (hK S b2 = 30 → (∀ v4 : Int32, v4 = (Int32.ofNat (hN S b2)) → ((0 < v4 → (∃ (m6 : Nat) (m7 : Nat) (m8 : Nat), ((v4 = nI m6 ∧ (p0 - v4) = nI m7 ∧ (v4 >>> (1 &&& 31)) = nI m8 ∧ 0 < m7 ∧ m6 + m7 + m8 < 2 ^ 30) ∧ (∀ v14 : Int32, v14 = (nI (m6 + (if m7 < m8 then m8 else m7))) → (∃ b16 : Nat, hR S 261 x0 = some b16 ∧ (hK S b16 = 30 → (∃ cc18 cc19 : Nat, (cc18 ≤ mc ∧ cc19 ≤ ms) ∧ (∃ (m21 : Nat) (m22 : Nat), ((0 < hN S b16 ∧ v14 = nI m21 ∧ hN S b16 ≤ m21 ∧ m21 ≤ 65536 ∧ (m22 = 8 ∨ m22 = 9) ∧ (∀ j, j < hN S b16 → ∀ b, hB S b16 j = some b → hK S b = m22) ∧ 1 ≤ cc18 ∧ m21 ≤ cc19) ∧ (∀ (o29 : Option Nat) (S24 : HS), ext S S24 → (∀ b, o29 = some b → hK S24 b = 30) → (∃ q, o29 = some q ∧ hK S q = 0 ∧ S24 = putBB (newA S q 30 m21) q (va_cpy (hB S b16) (fun _ => none) 0 0 (hN S b16))) → (∃ b32 : Nat, o29 = some b32 ∧ (hK S24 b32 = 30 → (∀ S35 : HS, S35 = putR S24 261 x0 (some b32) → (P (some b32) S35)))))))))))))) ∧ (¬ 0 < v4 → (∃ b42 : Nat, hR S 261 x0 = some b42 ∧ (hK S b42 = 30 → (hK S (T 120) = 30 ∧ ((b42 = (T 120) → (((¬ (if 10 < p0 then p0 else 10) < (0 : Int32) ∧ (Int32.toNatClampNeg (if 10 < p0 then p0 else 10)) ≤ 100000000) ∧ 1 ≤ mc ∧ (Int32.toNatClampNeg (if 10 < p0 then p0 else 10)) ≤ ms) ∧ (∀ q46 : Nat, hK S q46 = 0 → zr S q46 → (∀ S53 : HS, S53 = newA S q46 30 (Int32.toNatClampNeg (if 10 < p0 then p0 else 10)) → (∀ S60 : HS, S60 = putR S53 261 x0 (some q46) → (P (some q46) S60)))))) ∧ (¬ b42 = (T 120) → (∃ (m66 : Nat) (m67 : Nat) (m68 : Nat), ((v4 = nI m66 ∧ (p0 - v4) = nI m67 ∧ (v4 >>> (1 &&& 31)) = nI m68 ∧ 0 < m67 ∧ m66 + m67 + m68 < 2 ^ 30) ∧ (∀ v74 : Int32, v74 = (nI (m66 + (if m67 < m68 then m68 else m67))) → (∃ b76 : Nat, hR S 261 x0 = some b76 ∧ (hK S b76 = 30 → (∃ cc78 cc79 : Nat, (cc78 ≤ mc ∧ cc79 ≤ ms) ∧ (∃ (m81 : Nat) (m82 : Nat), ((0 < hN S b76 ∧ v74 = nI m81 ∧ hN S b76 ≤ m81 ∧ m81 ≤ 65536 ∧ (m82 = 8 ∨ m82 = 9) ∧ (∀ j, j < hN S b76 → ∀ b, hB S b76 j = some b → hK S b = m82) ∧ 1 ≤ cc78 ∧ m81 ≤ cc79) ∧ (∀ (o89 : Option Nat) (S84 : HS), ext S S84 → (∀ b, o89 = some b → hK S84 b = 30) → (∃ q, o89 = some q ∧ hK S q = 0 ∧ S84 = putBB (newA S q 30 m81) q (va_cpy (hB S b76) (fun _ => none) 0 0 (hN S b76))) → (∃ b92 : Nat, o89 = some b92 ∧ (hK S84 b92 = 30 → (∀ S95 : HS, S95 = putR S84 261 x0 (some b92) → (P (some b92) S95))))))))))))))))))))))
set_option maxRecDepth 100000 in
set_option maxHeartbeats 4000000 in
theorem t_Jx4a65c_grow_92f84 {p : Program} {l : Launch} {e : Env} {s : State} {m : MethodId} {args : Array Value} {below : List Frame} {meth : Method} {c : Code} {D : va_G} {A : Nat → Prop} {T : Nat → ClassId} (C : GC p s m args meth c cJx4a65c_grow_92f84 "java/util/ArrayList" (ws_Jx4a65c_grow_92f84) 4 D A (zty T)) (E : GE T A s) (hr : meth.sig.returnType = (some (.array (.object "java/lang/Object")))) (P : Option Nat → HS → Prop) : ∀ (x0 : Nat) (p0 : Int32) (S0 S : HS) (mc ms : Nat) (L : List Nat), S0 = S → wt S → hL S L → (hK S x0 = 13) → wp_Jx4a65c_grow_92f84 T P x0 p0 S mc ms → GW p l e { rm_Jx4a65c_grow_92f84 with cells := mc, slots := ms } s m args below meth c D A 4 mc ms (MQ below (va_Qq (fun v (u : HS × List Nat) => (P v u.1 ∧ ∀ b, v = some b → hK u.1 b = 30) ∧ CO S0 u) (CE D T A) A) args s mc ms A) (CW T S L) mc ms 0 [(0, .ref x0), (1, .int p0)] [] := by
  have hW : ∀ {w : Cond}, w ∈ W0 → w.before args s = true := fun h => C.2.2.2.2.1 _ (List.mem_cons_of_mem _ h)
  intro x0 p0 S0 S mc ms L hS0 hw hL hx0 h
  have he : ext S0 S := by rw [hS0]; exact ext_rf
  unfold wp_Jx4a65c_grow_92f84 at h
  refine g_aload_n C dJx4a65c_grow_92f84_0 rfl 0 rfl ?_
  refine gc_getR C hw iwx_Jx4a65c hL hx0 (by decide) (by decide) rfl 1 (by decide) (hW kw_575) rfl rfl rfl dJx4a65c_grow_92f84_1 (fun o1 eo1 ko1 => ?_)
  obtain ⟨b2, hb9, h⟩ := h
  have g3 : hK S b2 = 30 := ko1 b2 (eo1.trans hb9)
  replace h := h g3
  refine g_opt (eo1.trans hb9) ?_
  refine gc_alen C E hL g3 (by decide) rfl dJx4a65c_grow_92f84_4 ?_
  refine g_topi (fun v4 ev4 => ?_)
  replace h := h v4 ev4
  refine g_istore_n (lv' := [(2, .int v4), (0, .ref x0), (1, .int p0)]) C dJx4a65c_grow_92f84_5 rfl (by decide) rfl ?_
  refine g_iload_n C dJx4a65c_grow_92f84_6 rfl 0 rfl ?_
  refine g_if_gt (tgt := 20) C dJx4a65c_grow_92f84_7 (by decide) (fun z5 => ?_) (fun z5 => ?_)
  · replace h := h.1 z5
    refine g_iload_n C dJx4a65c_grow_92f84_20 rfl 0 rfl ?_
    refine g_iload_n C dJx4a65c_grow_92f84_21 rfl 2 rfl ?_
    refine g_iload_n C dJx4a65c_grow_92f84_22 rfl 0 rfl ?_
    refine g_isub C dJx4a65c_grow_92f84_23 ?_
    refine g_iload_n C dJx4a65c_grow_92f84_24 rfl 0 rfl ?_
    refine g_iconst (v := 1) C dJx4a65c_grow_92f84_25 (by decide) ?_
    refine g_ishr C dJx4a65c_grow_92f84_26 ?_
    obtain ⟨m6, m7, m8, h⟩ := h
    obtain ⟨g9, h⟩ := h
    refine gc_calliS (host := "") C E hw hL [.int v4, .int (p0 - v4), .int (v4 >>> (1 &&& 31))] rfl (k_J8_newLength_cabcc l D T v4 (p0 - v4) (v4 >>> (1 &&& 31)) S m6 m7 m8  g9) (w0_S 3 C.2.2.2.2.1 kw_821 kw_822 kw_29 kw_823 rfl rfl (by decide +kernel) ⟨Nat.le_of_ble_eq_true rfl, Nat.le_of_ble_eq_true rfl⟩) rfl (Nat.le_of_ble_eq_true rfl) (Nat.le_refl _) (Nat.le_refl _) (Nat.zero_le _) (Nat.zero_le _) dJx4a65c_grow_92f84_27 (fun v9 S9 L10 he9 hw9 hL9 hp => ?_)
    obtain ⟨hv9, hs9⟩ := hp
    replace hs9 := hs9.symm
    subst hs9
    replace hv9 := hv9.symm
    subst hv9
    have w13 := hL9
    refine g_topi (fun v14 ev14 => ?_)
    replace h := h v14 ev14
    refine g_istore_n (lv' := [(3, .int v14), (2, .int v4), (0, .ref x0), (1, .int p0)]) C dJx4a65c_grow_92f84_30 rfl (by decide) rfl ?_
    refine g_aload_n C dJx4a65c_grow_92f84_31 rfl 2 rfl ?_
    refine g_aload_n C dJx4a65c_grow_92f84_32 rfl 2 rfl ?_
    refine gc_getR C hw iwx_Jx4a65c w13 hx0 (by decide) (by decide) rfl 1 (by decide) (hW kw_575) rfl rfl rfl dJx4a65c_grow_92f84_33 (fun o15 eo15 ko15 => ?_)
    obtain ⟨b16, hb9, h⟩ := h
    have g17 : hK S b16 = 30 := ko15 b16 (eo15.trans hb9)
    replace h := h g17
    refine g_opt (eo15.trans hb9) ?_
    refine g_iload_n C dJx4a65c_grow_92f84_36 rfl 0 rfl ?_
    obtain ⟨cc18, cc19, g20, h⟩ := h
    obtain ⟨m21, m22, h⟩ := h
    obtain ⟨g23, h⟩ := h
    refine gc_callqS (host := "") C E hw w13 [.ref b16, .int v14] rfl (k_J7_copyOf_1904c l D T b16 v14 S m21 m22 cc18 cc19 g17 g23) (w0_S 2 C.2.2.2.2.1 kw_829 kw_830 kw_30 kw_831 rfl rfl (by decide +kernel) ⟨Nat.le_of_ble_eq_true rfl, Nat.le_of_ble_eq_true rfl⟩) rfl (Nat.le_of_ble_eq_true rfl) (Nat.le_refl _) (Nat.le_refl _) g20.1 g20.2 dJx4a65c_grow_92f84_37 (fun o29 S24 L25 e26 w27 w28 ko29 hp => ?_)
    replace h := h o29 S24 e26 ko29 hp
    have g30 := ext_K e26 hx0 (by decide)
    have w31 := ext_tr he e26
    obtain ⟨b32, rfl, h⟩ := h
    have g33 : hK S24 b32 = 30 := ko29 b32 rfl
    replace h := h g33
    refine g_dup_x1 C dJx4a65c_grow_92f84_40 rfl rfl ?_
    refine gc_putR C iwx_Jx4a65c w28 g30 (by decide) (by decide) rfl 1 (by decide) (hW kw_575) rfl tyJx4a65c tyJx4a65c_ok nmJx4a65c rfl rfl rfl (some b32) rfl rfl dJx4a65c_grow_92f84_41 ?_
    have w34 := wt_putR w27 261 (some b32) (k_ne g30 (by decide)) (fun b hb => by cases hb; exact g33) (by decide)
    refine gc_nS (fun S35 eS35 => ?_)
    replace h := h S35 eS35
    have w36 : wt S35 := by rw [eS35]; exact w34
    have w37 : isL S35 L25 := by rw [eS35]; exact w28
    have w38 : ext S0 S35 := by rw [eS35]; exact w31
    have g39 : hK S35 b32 = 30 := by rw [eS35]; exact g33
    have g40 : hK S35 x0 = 13 := by rw [eS35]; exact g30
    exact gc_aret (v := (some b32)) (kd := 30) C (Or.inr ⟨_, rfl⟩) (fun b hb => by cases hb; exact g39) w36 w37 w38 hr dJx4a65c_grow_92f84_44 h
  · replace h := h.2 z5
    refine g_aload_n C dJx4a65c_grow_92f84_10 rfl 1 rfl ?_
    refine gc_getR C hw iwx_Jx4a65c hL hx0 (by decide) (by decide) rfl 1 (by decide) (hW kw_575) rfl rfl rfl dJx4a65c_grow_92f84_11 (fun o41 eo41 ko41 => ?_)
    obtain ⟨b42, hb9, h⟩ := h
    have g43 : hK S b42 = 30 := ko41 b42 (eo41.trans hb9)
    replace h := h g43
    refine g_opt (eo41.trans hb9) ?_
    obtain ⟨g44, h⟩ := h
    refine gt_gets C E.2.2.2.2.2.2.2.2.2.2.2.1 (hW kw_573) (fun _ z => z) dJx4a65c_grow_92f84_14 ?_
    refine gt_acE (tgt := 45) C dJx4a65c_grow_92f84_17 (by decide) (fun z45 => ?_) (fun z45 => ?_)
    · replace h := h.1 z45
      refine g_aload_n C dJx4a65c_grow_92f84_45 rfl 1 rfl ?_
      refine g_bipush (v := 10) C dJx4a65c_grow_92f84_46 (by decide) ?_
      refine g_iload_n C dJx4a65c_grow_92f84_48 rfl 2 rfl ?_
      refine g_mmax C (hW kw_868) (hW kw_626) (hW kw_18) (hW kw_627) (Nat.le_of_ble_eq_true rfl) (Nat.le_of_ble_eq_true rfl) (Nat.le_refl _) (Nat.le_refl _) dJx4a65c_grow_92f84_49 ?_
      obtain ⟨g47, h⟩ := h
      refine gc_anew (kd := 30) C E hw hL (Nat.le_refl _) (Nat.le_refl _) (show "java/lang/Object" ∈ overL by decide) (by decide) rfl (hW kw_869) g47.1.1 g47.1.2 g47.2.1 g47.2.2 dJx4a65c_grow_92f84_52 (fun q46 h0q46 zq46 => ?_)
      replace h := h q46 h0q46 zq46
      have g48 := newA_old 30 (Int32.toNatClampNeg (if 10 < p0 then p0 else 10)) hx0 (by decide) h0q46
      have w49 := wt_newA hw 30 (Int32.toNatClampNeg (if 10 < p0 then p0 else 10)) h0q46 (by decide)
      have w50 := hL_new (S' := newA S q46 30 (Int32.toNatClampNeg (if 10 < p0 then p0 else 10))) hL (show 30 ≠ 0 by decide) rfl
      have w51 := ext_newA he h0q46 30 (Int32.toNatClampNeg (if 10 < p0 then p0 else 10))
      have g52 := newA_self S q46 30 (Int32.toNatClampNeg (if 10 < p0 then p0 else 10))
      refine gc_nS (fun S53 eS53 => ?_)
      replace h := h S53 eS53
      have w54 : wt S53 := by rw [eS53]; exact w49
      have w55 : isL S53 (L ++ [q46]) := by rw [eS53]; exact w50
      have w56 : ext S0 S53 := by rw [eS53]; exact w51
      have g57 : hK S53 q46 = 30 := by rw [eS53]; exact g52
      have g58 : hK S53 x0 = 13 := by rw [eS53]; exact g48
      refine g_dup_x1 C dJx4a65c_grow_92f84_55 rfl rfl ?_
      refine gc_putR C iwx_Jx4a65c w55 g58 (by decide) (by decide) rfl 1 (by decide) (hW kw_575) rfl tyJx4a65c tyJx4a65c_ok nmJx4a65c rfl rfl rfl (some q46) rfl rfl dJx4a65c_grow_92f84_56 ?_
      have w59 := wt_putR w54 261 (some q46) (k_ne g58 (by decide)) (fun b hb => by cases hb; exact g57) (by decide)
      refine gc_nS (fun S60 eS60 => ?_)
      replace h := h S60 eS60
      have w61 : wt S60 := by rw [eS60]; exact w59
      have w62 : isL S60 (L ++ [q46]) := by rw [eS60]; exact w55
      have w63 : ext S0 S60 := by rw [eS60]; exact w56
      have g64 : hK S60 q46 = 30 := by rw [eS60]; exact g57
      have g65 : hK S60 x0 = 13 := by rw [eS60]; exact g58
      exact gc_aret (v := (some q46)) (kd := 30) C (Or.inr ⟨_, rfl⟩) (fun b hb => by cases hb; exact g64) w61 w62 w63 hr dJx4a65c_grow_92f84_59 h
    · replace h := h.2 z45
      refine g_iload_n C dJx4a65c_grow_92f84_20 rfl 0 rfl ?_
      refine g_iload_n C dJx4a65c_grow_92f84_21 rfl 2 rfl ?_
      refine g_iload_n C dJx4a65c_grow_92f84_22 rfl 0 rfl ?_
      refine g_isub C dJx4a65c_grow_92f84_23 ?_
      refine g_iload_n C dJx4a65c_grow_92f84_24 rfl 0 rfl ?_
      refine g_iconst (v := 1) C dJx4a65c_grow_92f84_25 (by decide) ?_
      refine g_ishr C dJx4a65c_grow_92f84_26 ?_
      obtain ⟨m66, m67, m68, h⟩ := h
      obtain ⟨g69, h⟩ := h
      refine gc_calliS (host := "") C E hw hL [.int v4, .int (p0 - v4), .int (v4 >>> (1 &&& 31))] rfl (k_J8_newLength_cabcc l D T v4 (p0 - v4) (v4 >>> (1 &&& 31)) S m66 m67 m68  g69) (w0_S 3 C.2.2.2.2.1 kw_821 kw_822 kw_29 kw_823 rfl rfl (by decide +kernel) ⟨Nat.le_of_ble_eq_true rfl, Nat.le_of_ble_eq_true rfl⟩) rfl (Nat.le_of_ble_eq_true rfl) (Nat.le_refl _) (Nat.le_refl _) (Nat.zero_le _) (Nat.zero_le _) dJx4a65c_grow_92f84_27 (fun v9 S9 L70 he9 hw9 hL9 hp => ?_)
      obtain ⟨hv9, hs9⟩ := hp
      replace hs9 := hs9.symm
      subst hs9
      replace hv9 := hv9.symm
      subst hv9
      have w73 := hL9
      refine g_topi (fun v74 ev74 => ?_)
      replace h := h v74 ev74
      refine g_istore_n (lv' := [(3, .int v74), (2, .int v4), (0, .ref x0), (1, .int p0)]) C dJx4a65c_grow_92f84_30 rfl (by decide) rfl ?_
      refine g_aload_n C dJx4a65c_grow_92f84_31 rfl 2 rfl ?_
      refine g_aload_n C dJx4a65c_grow_92f84_32 rfl 2 rfl ?_
      refine gc_getR C hw iwx_Jx4a65c w73 hx0 (by decide) (by decide) rfl 1 (by decide) (hW kw_575) rfl rfl rfl dJx4a65c_grow_92f84_33 (fun o75 eo75 ko75 => ?_)
      obtain ⟨b76, hb9, h⟩ := h
      have g77 : hK S b76 = 30 := ko75 b76 (eo75.trans hb9)
      replace h := h g77
      refine g_opt (eo75.trans hb9) ?_
      refine g_iload_n C dJx4a65c_grow_92f84_36 rfl 0 rfl ?_
      obtain ⟨cc78, cc79, g80, h⟩ := h
      obtain ⟨m81, m82, h⟩ := h
      obtain ⟨g83, h⟩ := h
      refine gc_callqS (host := "") C E hw w73 [.ref b76, .int v74] rfl (k_J7_copyOf_1904c l D T b76 v74 S m81 m82 cc78 cc79 g77 g83) (w0_S 2 C.2.2.2.2.1 kw_829 kw_830 kw_30 kw_831 rfl rfl (by decide +kernel) ⟨Nat.le_of_ble_eq_true rfl, Nat.le_of_ble_eq_true rfl⟩) rfl (Nat.le_of_ble_eq_true rfl) (Nat.le_refl _) (Nat.le_refl _) g80.1 g80.2 dJx4a65c_grow_92f84_37 (fun o89 S84 L85 e86 w87 w88 ko89 hp => ?_)
      replace h := h o89 S84 e86 ko89 hp
      have g90 := ext_K e86 hx0 (by decide)
      have w91 := ext_tr he e86
      obtain ⟨b92, rfl, h⟩ := h
      have g93 : hK S84 b92 = 30 := ko89 b92 rfl
      replace h := h g93
      refine g_dup_x1 C dJx4a65c_grow_92f84_40 rfl rfl ?_
      refine gc_putR C iwx_Jx4a65c w88 g90 (by decide) (by decide) rfl 1 (by decide) (hW kw_575) rfl tyJx4a65c tyJx4a65c_ok nmJx4a65c rfl rfl rfl (some b92) rfl rfl dJx4a65c_grow_92f84_41 ?_
      have w94 := wt_putR w87 261 (some b92) (k_ne g90 (by decide)) (fun b hb => by cases hb; exact g93) (by decide)
      refine gc_nS (fun S95 eS95 => ?_)
      replace h := h S95 eS95
      have w96 : wt S95 := by rw [eS95]; exact w94
      have w97 : isL S95 L85 := by rw [eS95]; exact w88
      have w98 : ext S0 S95 := by rw [eS95]; exact w91
      have g99 : hK S95 b92 = 30 := by rw [eS95]; exact g93
      have g100 : hK S95 x0 = 13 := by rw [eS95]; exact g90
      exact gc_aret (v := (some b92)) (kd := 30) C (Or.inr ⟨_, rfl⟩) (fun b hb => by cases hb; exact g99) w96 w97 w98 hr dJx4a65c_grow_92f84_44 h
theorem c_Jx4a65c_grow_92f84 (l : Launch) (D : va_G) (T : Nat → ClassId) (x0 : Nat) (p0 : Int32) (S : HS) (mc ms : Nat) (hx0 : hK S x0 = 13) (P : Option Nat → HS → Prop) (h : wp_Jx4a65c_grow_92f84 T P x0 p0 S mc ms) : CMq l yJx4a65c_grow_92f84 (ws_Jx4a65c_grow_92f84) rm_Jx4a65c_grow_92f84 D T [.ref x0, .int p0] S mc ms 30 P := gc_metq (by decide) rfl rfl (Nat.le_of_ble_eq_true rfl) (fun p e s m args below meth c A L C E hnm hr hw hL => t_Jx4a65c_grow_92f84 C E   hr P x0 p0 S S mc ms L rfl hw hL hx0 h)
theorem gr_cp {S S1 S2 : HS} {x ar q n m : Nat} (q0 : hK S q = 0) (hx : hK S x ≠ 0) (hm : hN S ar = m) (e1 : S1 = putBB (newA S q 30 n) q (va_cpy (hB S ar) (fun _ => none) 0 0 m)) (e2 : S2 = putR S1 261 x (some q)) : GrO S S2 x n q ∧ ∀ j, hB S2 q j = if j < m then hB S ar j else none := by
  refine ⟨⟨q0, ?_, ?_, ?_, ?_, ?_, fun i b hb => ?_, fun b hb => ⟨?_, ?_, ?_⟩⟩, fun j => ?_⟩
  · rw [e2, px_KR, e1, bb_K, px_KW, if_pos rfl]
  · rw [e2, px_NR, e1, bb_N, px_NW, if_pos rfl]
  · rw [e2, px_RR, if_pos ⟨rfl, rfl⟩]
  · rw [e2, px_IR, e1, bb_I, px_IW]
  · rw [e2, px_AR, e1, bb_A, px_AW]
  · rw [e2, px_RR, if_neg (fun z => hb ⟨z.2, z.1⟩), e1, bb_R, px_RW]
  · rw [e2, px_BR, e1, bb_B, if_neg hb, px_BW]
  · rw [e2, px_KR, e1, bb_K, px_KW, if_neg hb]
  · rw [e2, px_NR, e1, bb_N, px_NW, if_neg hb]
  · rw [e2, px_BR, e1, bb_B, if_pos rfl]
    unfold va_cpy
    by_cases c : j < m
    · rw [if_pos ⟨Nat.zero_le _, by omega⟩, if_pos c, Nat.zero_add, Nat.sub_zero]
    · rw [if_neg (by omega), if_neg c]
theorem k_Jx4a65c_grow_92f84 (l : Launch) (D : va_G) (T : Nat → ClassId) (x0 : Nat) (p0 : Int32) (S : HS) (e0 : Nat) (e1 : Nat) (e2 : Nat) (mc ms : Nat) (hx0 : hK S x0 = 13) (h : hR S 261 x0 = some e0 ∧ hK S e0 = 30 ∧ hN S e0 = e1 ∧ e1 ≤ 1000 ∧ (e1 = 0 → e0 = T 120) ∧ (e2 = 8 ∨ e2 = 9) ∧ (∀ j, j < e1 → ∀ b, hB S e0 j = some b → hK S b = e2) ∧ hK S (T 120) = 30 ∧ 1 ≤ mc ∧ e1 + e1 / 2 + 10 ≤ ms ∧ p0 = nI (e1 + 1)) : CMq l yJx4a65c_grow_92f84 (ws_Jx4a65c_grow_92f84) rm_Jx4a65c_grow_92f84 D T [.ref x0, .int p0] S mc ms 30 (fun v S1 => (∃ q, v = some q ∧ GrO S S1 x0 (if e1 = 0 then 10 else e1 + (if 1 < e1 / 2 then e1 / 2 else 1)) q ∧ ∀ j, hB S1 q j = if j < e1 then hB S e0 j else none)) := c_Jx4a65c_grow_92f84 l D T x0 p0 S mc ms hx0 _ <|
  (by
    obtain ⟨hR, hk, hn, h1000, h120, he, hel, k120, hmc, hms, ep⟩ := h
    subst ep
    unfold wp_Jx4a65c_grow_92f84
    refine ⟨e0, hR, fun _ v4 e4 => ?_⟩
    rw [hn] at e4
    have e4 : v4 = nI e1 := e4
    subst e4
    refine ⟨fun c => ?_, fun c => ?_⟩
    · have hp : 0 < e1 := (nI_ltI (a := 0) (by decide) (by omega)).mp c
      have es : nI e1 >>> ((1 : Int32) &&& 31) = nI (e1 / 2) := by
        have k := pk_shrN (n := e1) (by omega) ((1 : Int32) &&& 31) 1 (by decide)
        rw [Nat.pow_one] at k
        exact k
      refine ⟨e1, 1, e1 / 2, ⟨rfl, by rw [sub_k (by omega), Nat.add_sub_cancel_left], es, by decide, by omega⟩, fun v14 ev => ⟨e0, hR, fun _ => ⟨mc, ms, ⟨Nat.le_refl _, Nat.le_refl _⟩, _, e2, ⟨by rw [hn]; exact hp, ev, ?_, ?_, he, by rw [hn]; exact hel, hmc, ?_⟩, fun o S24 _ _ h24 => ?_⟩⟩⟩
      · rw [hn]; omega
      · split <;> omega
      · split <;> omega
      · obtain ⟨q, eq, q0, e24⟩ := h24
        refine ⟨q, eq, fun _ S35 e35 => ⟨q, rfl, ?_⟩⟩
        rw [if_neg (by omega)]
        exact gr_cp q0 (by rw [hx0]; decide) hn (by rw [e24, hn]) e35
    · have hz : e1 = 0 := by
        rcases Nat.eq_zero_or_pos e1 with g | g
        · exact g
        · exact absurd ((nI_ltI (a := 0) (by decide) (by omega)).mpr g) c
      subst hz
      refine ⟨e0, hR, fun _ => ⟨k120, fun _ => ?_, fun z => absurd (h120 rfl) z⟩⟩
      have e10 : (if (10 : Int32) < nI (0 + 1) then nI (0 + 1) else 10) = nI 10 := if_neg (by decide)
      rw [e10, show Int32.toNatClampNeg (nI 10) = 10 by decide]
      refine ⟨⟨⟨by decide, by decide⟩, hmc, by omega⟩, fun q q0 qz S53 e53 S60 e60 => ⟨q, rfl, ?_⟩⟩
      rw [if_pos rfl]
      refine ⟨⟨q0, ?_, ?_, ?_, ?_, ?_, fun i b hb => ?_, fun b hb => ⟨?_, ?_, ?_⟩⟩, fun j => ?_⟩
      · rw [e60, px_KR, e53, px_KW, if_pos rfl]
      · rw [e60, px_NR, e53, px_NW, if_pos rfl]
      · rw [e60, px_RR, if_pos ⟨rfl, rfl⟩]
      · rw [e60, px_IR, e53, px_IW]
      · rw [e60, px_AR, e53, px_AW]
      · rw [e60, px_RR, if_neg (fun z => hb ⟨z.2, z.1⟩), e53, px_RW]
      · rw [e60, px_BR, e53, px_BW]
      · rw [e60, px_KR, e53, px_KW, if_neg hb]
      · rw [e60, px_NR, e53, px_NW, if_neg hb]
      · rw [e60, px_BR, e53, px_BW, if_neg (Nat.not_lt_zero j)]
        exact qz.2.2.2 j)
abbrev ws_Jx4a65c_grow_d5877 : List Cond := Cond.code yJx4a65c_grow_d5877 cJx4a65c_grow_d5877 1 (some (.array (.object "java/lang/Object"))) :: W0
abbrev rm_Jx4a65c_grow_d5877 : Room := ({ frames := 11, cells := 0, slots := 0, locals := 500 } : Room)
theorem dJx4a65c_grow_d5877_0 : decode cJx4a65c_grow_d5877 0 = .ok (.aload_n 0, 1) := by decide +kernel
theorem dJx4a65c_grow_d5877_1 : decode cJx4a65c_grow_d5877 1 = .ok (.aload_n 0, 1) := by decide +kernel
theorem dJx4a65c_grow_d5877_2 : decode cJx4a65c_grow_d5877 2 = .ok (.getfield 48, 3) := by decide +kernel
theorem dJx4a65c_grow_d5877_5 : decode cJx4a65c_grow_d5877 5 = .ok (.iconst 1, 1) := by decide +kernel
theorem dJx4a65c_grow_d5877_6 : decode cJx4a65c_grow_d5877 6 = .ok (.iadd, 1) := by decide +kernel
theorem dJx4a65c_grow_d5877_7 : decode cJx4a65c_grow_d5877 7 = .ok (.invokevirtual 69, 3) := by decide +kernel
theorem dJx4a65c_grow_d5877_10 : decode cJx4a65c_grow_d5877 10 = .ok (.areturn, 1) := by decide +kernel
def wp_Jx4a65c_grow_d5877 (T : Nat → ClassId) (P : Option Nat → HS → Prop) (x0 : Nat) (S : HS) (mc ms : Nat) : Prop := ∃ cc1 cc2 : Nat, (cc1 ≤ mc ∧ cc2 ≤ ms) ∧ (∃ (m4 : Nat) (m5 : Nat) (m6 : Nat), ((hR S 261 x0 = some m4 ∧ hK S m4 = 30 ∧ hN S m4 = m5 ∧ m5 ≤ 1000 ∧ (m5 = 0 → m4 = T 120) ∧ (m6 = 8 ∨ m6 = 9) ∧ (∀ j, j < m5 → ∀ b, hB S m4 j = some b → hK S b = m6) ∧ hK S (T 120) = 30 ∧ 1 ≤ cc1 ∧ m5 + m5 / 2 + 10 ≤ cc2 ∧ ((hI S 262 x0) + 1) = nI (m5 + 1)) ∧ (∀ (o13 : Option Nat) (S8 : HS), ext S S8 → (∀ b, o13 = some b → hK S8 b = 30) → (∃ q, o13 = some q ∧ GrO S S8 x0 (if m5 = 0 then 10 else m5 + (if 1 < m5 / 2 then m5 / 2 else 1)) q ∧ ∀ j, hB S8 q j = if j < m5 then hB S m4 j else none) → (∃ b16 : Nat, o13 = some b16 ∧ (hK S8 b16 = 30 → (P (some b16) S8))))))
set_option maxRecDepth 100000 in
set_option maxHeartbeats 4000000 in
theorem t_Jx4a65c_grow_d5877 {p : Program} {l : Launch} {e : Env} {s : State} {m : MethodId} {args : Array Value} {below : List Frame} {meth : Method} {c : Code} {D : va_G} {A : Nat → Prop} {T : Nat → ClassId} (C : GC p s m args meth c cJx4a65c_grow_d5877 "java/util/ArrayList" (ws_Jx4a65c_grow_d5877) 1 D A (zty T)) (E : GE T A s) (hr : meth.sig.returnType = (some (.array (.object "java/lang/Object")))) (P : Option Nat → HS → Prop) : ∀ (x0 : Nat) (S0 S : HS) (mc ms : Nat) (L : List Nat), S0 = S → wt S → hL S L → (hK S x0 = 13) → wp_Jx4a65c_grow_d5877 T P x0 S mc ms → GW p l e { rm_Jx4a65c_grow_d5877 with cells := mc, slots := ms } s m args below meth c D A 1 mc ms (MQ below (va_Qq (fun v (u : HS × List Nat) => (P v u.1 ∧ ∀ b, v = some b → hK u.1 b = 30) ∧ CO S0 u) (CE D T A) A) args s mc ms A) (CW T S L) mc ms 0 [(0, .ref x0)] [] := by
  have hW : ∀ {w : Cond}, w ∈ W0 → w.before args s = true := fun h => C.2.2.2.2.1 _ (List.mem_cons_of_mem _ h)
  intro x0 S0 S mc ms L hS0 hw hL hx0 h
  have he : ext S0 S := by rw [hS0]; exact ext_rf
  unfold wp_Jx4a65c_grow_d5877 at h
  refine g_aload_n C dJx4a65c_grow_d5877_0 rfl 0 rfl ?_
  refine g_aload_n C dJx4a65c_grow_d5877_1 rfl 0 rfl ?_
  refine gc_getI C iwx_Jx4a65c hL hx0 (by decide) (by decide) rfl 2 (by decide) (hW kw_576) rfl rfl rfl dJx4a65c_grow_d5877_2 ?_
  refine g_iconst (v := 1) C dJx4a65c_grow_d5877_5 (by decide) ?_
  refine g_iadd C dJx4a65c_grow_d5877_6 ?_
  obtain ⟨cc1, cc2, g3, h⟩ := h
  obtain ⟨m4, m5, m6, h⟩ := h
  obtain ⟨g7, h⟩ := h
  refine gc_callqV (host := "") C E hw hL hx0 (by decide) (by decide) rfl [.int ((hI S 262 x0) + 1)] rfl (k_Jx4a65c_grow_92f84 l D T x0 ((hI S 262 x0) + 1) S m4 m5 m6 cc1 cc2 hx0 g7) (w0_V 1 C.2.2.2.2.1 kw_817 kw_819 ks_14 kw_22 kw_820 rfl rfl (by decide +kernel) ⟨Nat.le_of_ble_eq_true rfl, Nat.le_of_ble_eq_true rfl⟩) rfl (Nat.le_of_ble_eq_true rfl) (Nat.le_refl _) (Nat.le_refl _) g3.1 g3.2 dJx4a65c_grow_d5877_7 (fun o13 S8 L9 e10 w11 w12 ko13 hp => ?_)
  replace h := h o13 S8 e10 ko13 hp
  have g14 := ext_K e10 hx0 (by decide)
  have w15 := ext_tr he e10
  obtain ⟨b16, rfl, h⟩ := h
  have g17 : hK S8 b16 = 30 := ko13 b16 rfl
  replace h := h g17
  exact gc_aret (v := (some b16)) (kd := 30) C (Or.inr ⟨_, rfl⟩) (fun b hb => by cases hb; exact g17) w11 w12 w15 hr dJx4a65c_grow_d5877_10 h
theorem c_Jx4a65c_grow_d5877 (l : Launch) (D : va_G) (T : Nat → ClassId) (x0 : Nat) (S : HS) (mc ms : Nat) (hx0 : hK S x0 = 13) (P : Option Nat → HS → Prop) (h : wp_Jx4a65c_grow_d5877 T P x0 S mc ms) : CMq l yJx4a65c_grow_d5877 (ws_Jx4a65c_grow_d5877) rm_Jx4a65c_grow_d5877 D T [.ref x0] S mc ms 30 P := gc_metq (by decide) rfl rfl (Nat.le_of_ble_eq_true rfl) (fun p e s m args below meth c A L C E hnm hr hw hL => t_Jx4a65c_grow_d5877 C E   hr P x0 S S mc ms L rfl hw hL hx0 h)
theorem k_Jx4a65c_grow_d5877 (l : Launch) (D : va_G) (T : Nat → ClassId) (x0 : Nat) (S : HS) (e0 : Nat) (e1 : Nat) (e2 : Nat) (mc ms : Nat) (hx0 : hK S x0 = 13) (h : hR S 261 x0 = some e0 ∧ hK S e0 = 30 ∧ hN S e0 = e1 ∧ e1 ≤ 1000 ∧ (e1 = 0 → e0 = T 120) ∧ (e2 = 8 ∨ e2 = 9) ∧ (∀ j, j < e1 → ∀ b, hB S e0 j = some b → hK S b = e2) ∧ hK S (T 120) = 30 ∧ 1 ≤ mc ∧ e1 + e1 / 2 + 10 ≤ ms ∧ hI S 262 x0 = nI e1) : CMq l yJx4a65c_grow_d5877 (ws_Jx4a65c_grow_d5877) rm_Jx4a65c_grow_d5877 D T [.ref x0] S mc ms 30 (fun v S1 => (∃ q, v = some q ∧ GrO S S1 x0 (if e1 = 0 then 10 else e1 + (if 1 < e1 / 2 then e1 / 2 else 1)) q ∧ ∀ j, hB S1 q j = if j < e1 then hB S e0 j else none)) := c_Jx4a65c_grow_d5877 l D T x0 S mc ms hx0 _ <|
  (by
    obtain ⟨hR, hk, hn, h1000, h120, he, hel, k120, hmc, hms, ep⟩ := h
    unfold wp_Jx4a65c_grow_d5877
    refine ⟨mc, ms, ⟨Nat.le_refl _, Nat.le_refl _⟩, e0, e1, e2, ⟨hR, hk, hn, h1000, h120, he, hel, k120, hmc, hms, by rw [ep, nI_1]⟩, fun o S8 _ _ h8 => ?_⟩
    obtain ⟨q, eq, h9⟩ := h8
    exact ⟨q, eq, fun _ => ⟨q, rfl, h9⟩⟩)

end S_C7A
