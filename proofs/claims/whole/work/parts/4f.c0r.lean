section S_C0R
abbrev ws_Jx4a65c_elementData_915e3 : List Cond := Cond.code yJx4a65c_elementData_915e3 cJx4a65c_elementData_915e3 2 (some (.object "java/lang/Object")) :: W0
abbrev rm_Jx4a65c_elementData_915e3 : Room := ({ frames := 2, cells := 0, slots := 0, locals := 100 } : Room)
theorem dJx4a65c_elementData_915e3_0 : decode cJx4a65c_elementData_915e3 0 = .ok (.aload_n 0, 1) := by decide +kernel
theorem dJx4a65c_elementData_915e3_1 : decode cJx4a65c_elementData_915e3 1 = .ok (.getfield 9, 3) := by decide +kernel
theorem dJx4a65c_elementData_915e3_4 : decode cJx4a65c_elementData_915e3 4 = .ok (.iload_n 1, 1) := by decide +kernel
theorem dJx4a65c_elementData_915e3_5 : decode cJx4a65c_elementData_915e3 5 = .ok (.aaload, 1) := by decide +kernel
theorem dJx4a65c_elementData_915e3_6 : decode cJx4a65c_elementData_915e3 6 = .ok (.areturn, 1) := by decide +kernel
def wp_Jx4a65c_elementData_915e3 (P : Option Nat → HS → Prop) (x0 : Nat) (p0 : Int32) (S : HS) (kd : Nat) : Prop := ∃ b2 : Nat, hR S 261 x0 = some b2 ∧ (hK S b2 = 30 → (vp_in p0 (hN S b2) ∧ (∀ o5 : Option Nat, o5 = hB S b2 (Int32.toNatClampNeg p0) → ((∀ b, o5 = some b → hK S b = kd) ∧ (P o5 S)))))
set_option maxRecDepth 100000 in
set_option maxHeartbeats 4000000 in
theorem t_Jx4a65c_elementData_915e3 {p : Program} {l : Launch} {e : Env} {s : State} {m : MethodId} {args : Array Value} {below : List Frame} {meth : Method} {c : Code} {D : va_G} {A : Nat → Prop} {T : Nat → ClassId} (C : GC p s m args meth c cJx4a65c_elementData_915e3 "java/util/ArrayList" (ws_Jx4a65c_elementData_915e3) 2 D A (zty T)) (E : GE T A s) (hr : meth.sig.returnType = (some (.object "java/lang/Object"))) (P : Option Nat → HS → Prop) : ∀ (x0 : Nat) (p0 : Int32) (S0 S : HS) (kd : Nat) (L : List Nat), S0 = S → wt S → hL S L → (hK S x0 = 13) → wp_Jx4a65c_elementData_915e3 P x0 p0 S kd → GW p l e { rm_Jx4a65c_elementData_915e3 with cells := 0, slots := 0 } s m args below meth c D A 2 0 0 (MQ below (va_Qq (fun v (u : HS × List Nat) => (P v u.1 ∧ ∀ b, v = some b → hK u.1 b = kd) ∧ CO S0 u) (CE D T A) A) args s 0 0 A) (CW T S L) 0 0 0 [(0, .ref x0), (1, .int p0)] [] := by
  have hW : ∀ {w : Cond}, w ∈ W0 → w.before args s = true := fun h => C.2.2.2.2.1 _ (List.mem_cons_of_mem _ h)
  intro x0 p0 S0 S kd L hS0 hw hL hx0 h
  have he : ext S0 S := by rw [hS0]; exact ext_rf
  unfold wp_Jx4a65c_elementData_915e3 at h
  refine g_aload_n C dJx4a65c_elementData_915e3_0 rfl 0 rfl ?_
  refine gc_getR C hw iwx_Jx4a65c hL hx0 (by decide) (by decide) rfl 1 (by decide) (hW kw_575) rfl rfl rfl dJx4a65c_elementData_915e3_1 (fun o1 eo1 ko1 => ?_)
  obtain ⟨b2, hb9, h⟩ := h
  have g3 : hK S b2 = 30 := ko1 b2 (eo1.trans hb9)
  replace h := h g3
  refine g_opt (eo1.trans hb9) ?_
  refine g_iload_n C dJx4a65c_elementData_915e3_4 rfl 1 rfl ?_
  obtain ⟨g4, h⟩ := h
  refine gc_aald C hw hL g3 (by decide) rfl g4 dJx4a65c_elementData_915e3_5 (fun o5 eo5 ko5 => ?_)
  obtain ⟨k2o5, h⟩ := h o5 eo5
  exact gc_aret (v := o5) (kd := kd) C (Or.inl ⟨_, rfl⟩) k2o5 hw hL he hr dJx4a65c_elementData_915e3_6 h
theorem c_Jx4a65c_elementData_915e3 (l : Launch) (D : va_G) (T : Nat → ClassId) (x0 : Nat) (p0 : Int32) (S : HS) (kd : Nat) (hx0 : hK S x0 = 13) (P : Option Nat → HS → Prop) (h : wp_Jx4a65c_elementData_915e3 P x0 p0 S kd) : CMq l yJx4a65c_elementData_915e3 (ws_Jx4a65c_elementData_915e3) rm_Jx4a65c_elementData_915e3 D T [.ref x0, .int p0] S 0 0 kd P := gc_metq (by decide) rfl rfl (Nat.le_of_ble_eq_true rfl) (fun p e s m args below meth c A L C E hnm hr hw hL => t_Jx4a65c_elementData_915e3 C E   hr P x0 p0 S S kd L rfl hw hL hx0 h)
theorem vp_of {j N : Nat} (h : j < 2 ^ 31) (hN : j < N) : vp_in (nI j) N := by
  intro z
  rcases z with z | z
  · exact nI_pos h z
  · rw [nI_clamp h] at z
    omega
theorem k_Jx4a65c_elementData_915e3 (l : Launch) (D : va_G) (T : Nat → ClassId) (x0 : Nat) (p0 : Int32) (S : HS) (kd : Nat) (hx0 : hK S x0 = 13) (h : ∃ ar n j : Nat, hR S 261 x0 = some ar ∧ hK S ar = 30 ∧ hI S 262 x0 = nI n ∧ n < 2 ^ 31 ∧ j < n ∧ n ≤ hN S ar ∧ p0 = nI j ∧ ∃ b, hB S ar j = some b ∧ hK S b = kd) : CMq l yJx4a65c_elementData_915e3 (ws_Jx4a65c_elementData_915e3) rm_Jx4a65c_elementData_915e3 D T [.ref x0, .int p0] S 0 0 kd (fun v S1 => (S1 = S ∧ ∃ ar, hR S 261 x0 = some ar ∧ v = hB S ar (iv p0))) := c_Jx4a65c_elementData_915e3 l D T x0 p0 S kd hx0 _ <|
  (by
    obtain ⟨ar, n, j, r1, k1, i1, hn, hj, hl, ej, b, eb, kb⟩ := h
    subst ej
    unfold wp_Jx4a65c_elementData_915e3
    refine ⟨ar, r1, fun _ => ⟨vp_of (by omega) (by omega), fun o5 e5 => ⟨fun b2 eb2 => ?_, rfl, ar, r1, e5⟩⟩⟩
    rw [nI_clamp (n := j) (by omega)] at e5
    rw [e5, eb] at eb2
    rw [← Option.some.inj eb2]
    exact kb)
abbrev ws_Jx4a65c_get_915e3 : List Cond := Cond.code yJx4a65c_get_915e3 cJx4a65c_get_915e3 2 (some (.object "java/lang/Object")) :: W0
abbrev rm_Jx4a65c_get_915e3 : Room := ({ frames := 12, cells := 0, slots := 0, locals := 400 } : Room)
theorem dJx4a65c_get_915e3_0 : decode cJx4a65c_get_915e3 0 = .ok (.iload_n 1, 1) := by decide +kernel
theorem dJx4a65c_get_915e3_1 : decode cJx4a65c_get_915e3 1 = .ok (.aload_n 0, 1) := by decide +kernel
theorem dJx4a65c_get_915e3_2 : decode cJx4a65c_get_915e3 2 = .ok (.getfield 48, 3) := by decide +kernel
theorem dJx4a65c_get_915e3_5 : decode cJx4a65c_get_915e3 5 = .ok (.invokestatic 118, 3) := by decide +kernel
theorem dJx4a65c_get_915e3_8 : decode cJx4a65c_get_915e3 8 = .ok (.pop, 1) := by decide +kernel
theorem dJx4a65c_get_915e3_9 : decode cJx4a65c_get_915e3 9 = .ok (.aload_n 0, 1) := by decide +kernel
theorem dJx4a65c_get_915e3_10 : decode cJx4a65c_get_915e3 10 = .ok (.iload_n 1, 1) := by decide +kernel
theorem dJx4a65c_get_915e3_11 : decode cJx4a65c_get_915e3 11 = .ok (.invokevirtual 123, 3) := by decide +kernel
theorem dJx4a65c_get_915e3_14 : decode cJx4a65c_get_915e3 14 = .ok (.areturn, 1) := by decide +kernel
def wp_Jx4a65c_get_915e3 (P : Option Nat → HS → Prop) (x0 : Nat) (p0 : Int32) (S : HS) (kd : Nat) : Prop := (∃ n j : Nat, p0 = nI j ∧ (hI S 262 x0) = nI n ∧ j < n ∧ n < 2 ^ 31) ∧ ((∃ ar n j : Nat, hR S 261 x0 = some ar ∧ hK S ar = 30 ∧ hI S 262 x0 = nI n ∧ n < 2 ^ 31 ∧ j < n ∧ n ≤ hN S ar ∧ p0 = nI j ∧ ∃ b, hB S ar j = some b ∧ hK S b = kd) ∧ (∀ (o12 : Option Nat) (S7 : HS), ext S S7 → (∀ b, o12 = some b → hK S7 b = kd) → (S7 = S ∧ ∃ ar, hR S 261 x0 = some ar ∧ o12 = hB S ar (iv p0)) → (P o12 S7)))
set_option maxRecDepth 100000 in
set_option maxHeartbeats 4000000 in
theorem t_Jx4a65c_get_915e3 {p : Program} {l : Launch} {e : Env} {s : State} {m : MethodId} {args : Array Value} {below : List Frame} {meth : Method} {c : Code} {D : va_G} {A : Nat → Prop} {T : Nat → ClassId} (C : GC p s m args meth c cJx4a65c_get_915e3 "java/util/ArrayList" (ws_Jx4a65c_get_915e3) 2 D A (zty T)) (E : GE T A s) (hr : meth.sig.returnType = (some (.object "java/lang/Object"))) (P : Option Nat → HS → Prop) : ∀ (x0 : Nat) (p0 : Int32) (S0 S : HS) (kd : Nat) (L : List Nat), S0 = S → wt S → hL S L → (hK S x0 = 13) → wp_Jx4a65c_get_915e3 P x0 p0 S kd → GW p l e { rm_Jx4a65c_get_915e3 with cells := 0, slots := 0 } s m args below meth c D A 2 0 0 (MQ below (va_Qq (fun v (u : HS × List Nat) => (P v u.1 ∧ ∀ b, v = some b → hK u.1 b = kd) ∧ CO S0 u) (CE D T A) A) args s 0 0 A) (CW T S L) 0 0 0 [(0, .ref x0), (1, .int p0)] [] := by
  have hW : ∀ {w : Cond}, w ∈ W0 → w.before args s = true := fun h => C.2.2.2.2.1 _ (List.mem_cons_of_mem _ h)
  intro x0 p0 S0 S kd L hS0 hw hL hx0 h
  have he : ext S0 S := by rw [hS0]; exact ext_rf
  unfold wp_Jx4a65c_get_915e3 at h
  refine g_iload_n C dJx4a65c_get_915e3_0 rfl 1 rfl ?_
  refine g_aload_n C dJx4a65c_get_915e3_1 rfl 0 rfl ?_
  refine gc_getI C iwx_Jx4a65c hL hx0 (by decide) (by decide) rfl 2 (by decide) (hW kw_576) rfl rfl rfl dJx4a65c_get_915e3_2 ?_
  obtain ⟨g1, h⟩ := h
  refine gc_calliS (host := "") C E hw hL [.int p0, .int (hI S 262 x0)] rfl (k_J15_checkIndex_7cf53 l D T p0 (hI S 262 x0) S  g1) (w0_S 2 C.2.2.2.2.1 kw_883 kw_884 kw_32 kw_885 rfl rfl (by decide +kernel) ⟨Nat.le_of_ble_eq_true rfl, Nat.le_of_ble_eq_true rfl⟩) rfl (Nat.le_of_ble_eq_true rfl) (Nat.le_refl _) (Nat.le_refl _) (Nat.zero_le _) (Nat.zero_le _) dJx4a65c_get_915e3_5 (fun v9 S9 L2 he9 hw9 hL9 hp => ?_)
  obtain ⟨hv9, hs9⟩ := hp
  replace hs9 := hs9.symm
  subst hs9
  replace hv9 := hv9.symm
  subst hv9
  have w5 := hL9
  refine g_pop C dJx4a65c_get_915e3_8 rfl ?_
  refine g_aload_n C dJx4a65c_get_915e3_9 rfl 0 rfl ?_
  refine g_iload_n C dJx4a65c_get_915e3_10 rfl 1 rfl ?_
  obtain ⟨g6, h⟩ := h
  refine gc_callqV (host := "") C E hw w5 hx0 (by decide) (by decide) rfl [.int p0] rfl (k_Jx4a65c_elementData_915e3 l D T x0 p0 S kd hx0 g6) (w0_V 1 C.2.2.2.2.1 kw_889 kw_890 kw_891 kw_22 kw_892 rfl rfl (by decide +kernel) ⟨Nat.le_of_ble_eq_true rfl, Nat.le_of_ble_eq_true rfl⟩) rfl (Nat.le_of_ble_eq_true rfl) (Nat.le_refl _) (Nat.le_refl _) (Nat.zero_le _) (Nat.zero_le _) dJx4a65c_get_915e3_11 (fun o12 S7 L8 e9 w10 w11 ko12 hp => ?_)
  replace h := h o12 S7 e9 ko12 hp
  have g13 := ext_K e9 hx0 (by decide)
  have w14 := ext_tr he e9
  exact gc_aret (v := o12) (kd := kd) C (Or.inl ⟨_, rfl⟩) ko12 w10 w11 w14 hr dJx4a65c_get_915e3_14 h
theorem c_Jx4a65c_get_915e3 (l : Launch) (D : va_G) (T : Nat → ClassId) (x0 : Nat) (p0 : Int32) (S : HS) (kd : Nat) (hx0 : hK S x0 = 13) (P : Option Nat → HS → Prop) (h : wp_Jx4a65c_get_915e3 P x0 p0 S kd) : CMq l yJx4a65c_get_915e3 (ws_Jx4a65c_get_915e3) rm_Jx4a65c_get_915e3 D T [.ref x0, .int p0] S 0 0 kd P := gc_metq (by decide) rfl rfl (Nat.le_of_ble_eq_true rfl) (fun p e s m args below meth c A L C E hnm hr hw hL => t_Jx4a65c_get_915e3 C E   hr P x0 p0 S S kd L rfl hw hL hx0 h)
theorem k_Jx4a65c_get_915e3 (l : Launch) (D : va_G) (T : Nat → ClassId) (x0 : Nat) (p0 : Int32) (S : HS) (kd : Nat) (hx0 : hK S x0 = 13) (h : ∃ ar n j : Nat, hR S 261 x0 = some ar ∧ hK S ar = 30 ∧ hI S 262 x0 = nI n ∧ n < 2 ^ 31 ∧ j < n ∧ n ≤ hN S ar ∧ p0 = nI j ∧ ∃ b, hB S ar j = some b ∧ hK S b = kd) : CMq l yJx4a65c_get_915e3 (ws_Jx4a65c_get_915e3) rm_Jx4a65c_get_915e3 D T [.ref x0, .int p0] S 0 0 kd (fun v S1 => (S1 = S ∧ ∃ ar, hR S 261 x0 = some ar ∧ v = hB S ar (iv p0))) := c_Jx4a65c_get_915e3 l D T x0 p0 S kd hx0 _ <|
  (by
    have h0 := h
    obtain ⟨ar, n, j, r1, k1, i1, hn, hj, hl, ej, b, eb, kb⟩ := h
    unfold wp_Jx4a65c_get_915e3
    exact ⟨⟨n, j, ej, i1, hj, hn⟩, h0, fun o12 S7 _ _ hp => hp⟩)

end S_C0R
