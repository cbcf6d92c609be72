section S_C0Q
abbrev ws_J3_checkIndex_8e157 : List Cond := Cond.code yJ3_checkIndex_8e157 cJ3_checkIndex_8e157 3 (some .int) :: W0
abbrev rm_J3_checkIndex_8e157 : Room := ({ frames := 2, cells := 0, slots := 0, locals := 100 } : Room)
theorem dJ3_checkIndex_8e157_0 : decode cJ3_checkIndex_8e157 0 = .ok (.iload_n 0, 1) := by decide +kernel
theorem dJ3_checkIndex_8e157_1 : decode cJ3_checkIndex_8e157 1 = .ok (.ifCond .lt 8, 3) := by decide +kernel
theorem dJ3_checkIndex_8e157_4 : decode cJ3_checkIndex_8e157 4 = .ok (.iload_n 0, 1) := by decide +kernel
theorem dJ3_checkIndex_8e157_5 : decode cJ3_checkIndex_8e157 5 = .ok (.iload_n 1, 1) := by decide +kernel
theorem dJ3_checkIndex_8e157_6 : decode cJ3_checkIndex_8e157 6 = .ok (.if_icmp .lt 10, 3) := by decide +kernel
theorem dJ3_checkIndex_8e157_9 : decode cJ3_checkIndex_8e157 9 = .ok (.aload_n 2, 1) := by decide +kernel
theorem dJ3_checkIndex_8e157_10 : decode cJ3_checkIndex_8e157 10 = .ok (.iload_n 0, 1) := by decide +kernel
theorem dJ3_checkIndex_8e157_11 : decode cJ3_checkIndex_8e157 11 = .ok (.iload_n 1, 1) := by decide +kernel
theorem dJ3_checkIndex_8e157_12 : decode cJ3_checkIndex_8e157 12 = .ok (.invokestatic 95, 3) := by decide +kernel
theorem dJ3_checkIndex_8e157_15 : decode cJ3_checkIndex_8e157 15 = .ok (.athrow, 1) := by decide +kernel
theorem dJ3_checkIndex_8e157_16 : decode cJ3_checkIndex_8e157 16 = .ok (.iload_n 0, 1) := by decide +kernel
theorem dJ3_checkIndex_8e157_17 : decode cJ3_checkIndex_8e157 17 = .ok (.ireturn, 1) := by decide +kernel
def wp_J3_checkIndex_8e157 (P : Int32 → HS → Prop) (p0 : Int32) (p1 : Int32) (p2 : (Option Nat)) (S : HS) : Prop := (p0 < 0 → (False)) ∧ (¬ p0 < 0 → ((p0 < p1 → (P p0 S)) ∧ (¬ p0 < p1 → (False))))
set_option maxRecDepth 100000 in
set_option maxHeartbeats 4000000 in
theorem t_J3_checkIndex_8e157 {p : Program} {l : Launch} {e : Env} {s : State} {m : MethodId} {args : Array Value} {below : List Frame} {meth : Method} {c : Code} {D : va_G} {A : Nat → Prop} {T : Nat → ClassId} (C : GC p s m args meth c cJ3_checkIndex_8e157 "jdk/internal/util/Preconditions" (ws_J3_checkIndex_8e157) 3 D A (zty T)) (E : GE T A s) (hr : meth.sig.returnType = (some .int)) (P : Int32 → HS → Prop) : ∀ (p0 : Int32) (p1 : Int32) (p2 : (Option Nat)) (S0 S : HS) (L : List Nat), S0 = S → wt S → hL S L → wp_J3_checkIndex_8e157 P p0 p1 p2 S → GW p l e { rm_J3_checkIndex_8e157 with cells := 0, slots := 0 } s m args below meth c D A 3 0 0 (MQ below (va_Qi (fun v (u : HS × List Nat) => P v u.1 ∧ CO S0 u) (CE D T A) A) args s 0 0 A) (CW T S L) 0 0 0 [(0, .int p0), (1, .int p1), (2, va_rf p2)] [] := by
  have hW : ∀ {w : Cond}, w ∈ W0 → w.before args s = true := fun h => C.2.2.2.2.1 _ (List.mem_cons_of_mem _ h)
  intro p0 p1 p2 S0 S L hS0 hw hL  h
  have he : ext S0 S := by rw [hS0]; exact ext_rf
  unfold wp_J3_checkIndex_8e157 at h
  refine g_iload_n C dJ3_checkIndex_8e157_0 rfl 0 rfl ?_
  refine g_if_lt (tgt := 9) C dJ3_checkIndex_8e157_1 (by decide) (fun z1 => ?_) (fun z1 => ?_)
  · replace h := h.1 z1
    exact False.elim h
  · replace h := h.2 z1
    refine g_iload_n C dJ3_checkIndex_8e157_4 rfl 0 rfl ?_
    refine g_iload_n C dJ3_checkIndex_8e157_5 rfl 1 rfl ?_
    refine g_icmp_lt (tgt := 16) C dJ3_checkIndex_8e157_6 (by decide) (fun z2 => ?_) (fun z2 => ?_)
    · replace h := h.1 z2
      refine g_iload_n C dJ3_checkIndex_8e157_16 rfl 0 rfl ?_
      exact gc_iret C hw hL he hr dJ3_checkIndex_8e157_17 h
    · replace h := h.2 z2
      exact False.elim h
theorem c_J3_checkIndex_8e157 (l : Launch) (D : va_G) (T : Nat → ClassId) (p0 : Int32) (p1 : Int32) (p2 : (Option Nat)) (S : HS)  (P : Int32 → HS → Prop) (h : wp_J3_checkIndex_8e157 P p0 p1 p2 S) : CMi l yJ3_checkIndex_8e157 (ws_J3_checkIndex_8e157) rm_J3_checkIndex_8e157 D T [.int p0, .int p1, va_rf p2] S 0 0 P := gc_meti (by decide) rfl rfl (by cases p2 <;> exact Nat.le_of_ble_eq_true rfl) (fun p e s m args below meth c A L C E hnm hr hw hL => t_J3_checkIndex_8e157 C E   hr P p0 p1 p2 S S L rfl hw hL  h)
theorem k_J3_checkIndex_8e157 (l : Launch) (D : va_G) (T : Nat → ClassId) (p0 : Int32) (p1 : Int32) (p2 : (Option Nat)) (S : HS)  (h : ∃ n j : Nat, p0 = nI j ∧ p1 = nI n ∧ j < n ∧ n < 2 ^ 31) : CMi l yJ3_checkIndex_8e157 (ws_J3_checkIndex_8e157) rm_J3_checkIndex_8e157 D T [.int p0, .int p1, va_rf p2] S 0 0 (fun v S1 => v = (p0) ∧ S1 = S) := c_J3_checkIndex_8e157 l D T p0 p1 p2 S  _ <|
  (by
    obtain ⟨n, j, e0, e1, hj, hn⟩ := h
    subst e0 e1
    unfold wp_J3_checkIndex_8e157
    rw [nz_lt0 (by omega), nI_ltI (by omega) (by omega)]
    exact ⟨fun z => z, fun _ => ⟨fun _ => ⟨rfl, rfl⟩, fun z => z hj⟩⟩)
abbrev ws_J15_checkIndex_7cf53 : List Cond := Cond.code yJ15_checkIndex_7cf53 cJ15_checkIndex_7cf53 2 (some .int) :: W0
abbrev rm_J15_checkIndex_7cf53 : Room := ({ frames := 4, cells := 0, slots := 0, locals := 200 } : Room)
theorem dJ15_checkIndex_7cf53_0 : decode cJ15_checkIndex_7cf53 0 = .ok (.iload_n 0, 1) := by decide +kernel
theorem dJ15_checkIndex_7cf53_1 : decode cJ15_checkIndex_7cf53 1 = .ok (.iload_n 1, 1) := by decide +kernel
theorem dJ15_checkIndex_7cf53_2 : decode cJ15_checkIndex_7cf53 2 = .ok (.aconst_null, 1) := by decide +kernel
theorem dJ15_checkIndex_7cf53_3 : decode cJ15_checkIndex_7cf53 3 = .ok (.invokestatic 105, 3) := by decide +kernel
theorem dJ15_checkIndex_7cf53_6 : decode cJ15_checkIndex_7cf53 6 = .ok (.ireturn, 1) := by decide +kernel
def wp_J15_checkIndex_7cf53 (P : Int32 → HS → Prop) (p0 : Int32) (p1 : Int32) (S : HS) : Prop := (∃ n j : Nat, p0 = nI j ∧ p1 = nI n ∧ j < n ∧ n < 2 ^ 31) ∧ (P (p0) S)
set_option maxRecDepth 100000 in
set_option maxHeartbeats 4000000 in
theorem t_J15_checkIndex_7cf53 {p : Program} {l : Launch} {e : Env} {s : State} {m : MethodId} {args : Array Value} {below : List Frame} {meth : Method} {c : Code} {D : va_G} {A : Nat → Prop} {T : Nat → ClassId} (C : GC p s m args meth c cJ15_checkIndex_7cf53 "java/util/Objects" (ws_J15_checkIndex_7cf53) 2 D A (zty T)) (E : GE T A s) (hr : meth.sig.returnType = (some .int)) (P : Int32 → HS → Prop) : ∀ (p0 : Int32) (p1 : Int32) (S0 S : HS) (L : List Nat), S0 = S → wt S → hL S L → wp_J15_checkIndex_7cf53 P p0 p1 S → GW p l e { rm_J15_checkIndex_7cf53 with cells := 0, slots := 0 } s m args below meth c D A 2 0 0 (MQ below (va_Qi (fun v (u : HS × List Nat) => P v u.1 ∧ CO S0 u) (CE D T A) A) args s 0 0 A) (CW T S L) 0 0 0 [(0, .int p0), (1, .int p1)] [] := by
  have hW : ∀ {w : Cond}, w ∈ W0 → w.before args s = true := fun h => C.2.2.2.2.1 _ (List.mem_cons_of_mem _ h)
  intro p0 p1 S0 S L hS0 hw hL  h
  have he : ext S0 S := by rw [hS0]; exact ext_rf
  unfold wp_J15_checkIndex_7cf53 at h
  refine g_iload_n C dJ15_checkIndex_7cf53_0 rfl 0 rfl ?_
  refine g_iload_n C dJ15_checkIndex_7cf53_1 rfl 1 rfl ?_
  refine g_null C dJ15_checkIndex_7cf53_2 ?_
  obtain ⟨g1, h⟩ := h
  refine gc_calliS (host := "") C E hw hL [.int p0, .int p1, .null] rfl (k_J3_checkIndex_8e157 l D T p0 p1 none S  g1) (w0_S 3 C.2.2.2.2.1 kw_886 kw_887 kw_25 kw_888 rfl rfl (by decide +kernel) ⟨Nat.le_of_ble_eq_true rfl, Nat.le_of_ble_eq_true rfl⟩) rfl (Nat.le_of_ble_eq_true rfl) (Nat.le_refl _) (Nat.le_refl _) (Nat.zero_le _) (Nat.zero_le _) dJ15_checkIndex_7cf53_3 (fun v9 S9 L2 he9 hw9 hL9 hp => ?_)
  obtain ⟨hv9, hs9⟩ := hp
  replace hs9 := hs9.symm
  subst hs9
  replace hv9 := hv9.symm
  subst hv9
  have w5 := hL9
  exact gc_iret C hw w5 he hr dJ15_checkIndex_7cf53_6 h
theorem c_J15_checkIndex_7cf53 (l : Launch) (D : va_G) (T : Nat → ClassId) (p0 : Int32) (p1 : Int32) (S : HS)  (P : Int32 → HS → Prop) (h : wp_J15_checkIndex_7cf53 P p0 p1 S) : CMi l yJ15_checkIndex_7cf53 (ws_J15_checkIndex_7cf53) rm_J15_checkIndex_7cf53 D T [.int p0, .int p1] S 0 0 P := gc_meti (by decide) rfl rfl (Nat.le_of_ble_eq_true rfl) (fun p e s m args below meth c A L C E hnm hr hw hL => t_J15_checkIndex_7cf53 C E   hr P p0 p1 S S L rfl hw hL  h)
theorem k_J15_checkIndex_7cf53 (l : Launch) (D : va_G) (T : Nat → ClassId) (p0 : Int32) (p1 : Int32) (S : HS)  (h : ∃ n j : Nat, p0 = nI j ∧ p1 = nI n ∧ j < n ∧ n < 2 ^ 31) : CMi l yJ15_checkIndex_7cf53 (ws_J15_checkIndex_7cf53) rm_J15_checkIndex_7cf53 D T [.int p0, .int p1] S 0 0 (fun v S1 => v = (p0) ∧ S1 = S) := c_J15_checkIndex_7cf53 l D T p0 p1 S  _ <|
  (by
    unfold wp_J15_checkIndex_7cf53
    exact ⟨h, rfl, rfl⟩)

end S_C0Q
