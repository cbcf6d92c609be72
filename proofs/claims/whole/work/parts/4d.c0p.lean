section S_C0P
abbrev ws_Jx4a65c_size_8abf5 : List Cond := Cond.code yJx4a65c_size_8abf5 cJx4a65c_size_8abf5 1 (some .int) :: W0
abbrev rm_Jx4a65c_size_8abf5 : Room := ({ frames := 12, cells := 0, slots := 0, locals := 400 } : Room)
theorem dJx4a65c_size_8abf5_0 : decode cJx4a65c_size_8abf5 0 = .ok (.aload_n 0, 1) := by decide +kernel
theorem dJx4a65c_size_8abf5_1 : decode cJx4a65c_size_8abf5 1 = .ok (.getfield 48, 3) := by decide +kernel
theorem dJx4a65c_size_8abf5_4 : decode cJx4a65c_size_8abf5 4 = .ok (.ireturn, 1) := by decide +kernel
def wp_Jx4a65c_size_8abf5 (P : Int32 → HS → Prop) (x0 : Nat) (S : HS) : Prop := P (hI S 262 x0) S
set_option maxRecDepth 100000 in
set_option maxHeartbeats 4000000 in
theorem t_Jx4a65c_size_8abf5 {p : Program} {l : Launch} {e : Env} {s : State} {m : MethodId} {args : Array Value} {below : List Frame} {meth : Method} {c : Code} {D : va_G} {A : Nat → Prop} {T : Nat → ClassId} (C : GC p s m args meth c cJx4a65c_size_8abf5 "java/util/ArrayList" (ws_Jx4a65c_size_8abf5) 1 D A (zty T)) (E : GE T A s) (hr : meth.sig.returnType = (some .int)) (P : Int32 → HS → Prop) : ∀ (x0 : Nat) (S0 S : HS) (L : List Nat), S0 = S → wt S → hL S L → (hK S x0 = 13) → wp_Jx4a65c_size_8abf5 P x0 S → GW p l e { rm_Jx4a65c_size_8abf5 with cells := 0, slots := 0 } s m args below meth c D A 1 0 0 (MQ below (va_Qi (fun v (u : HS × List Nat) => P v u.1 ∧ CO S0 u) (CE D T A) A) args s 0 0 A) (CW T S L) 0 0 0 [(0, .ref x0)] [] := by
  have hW : ∀ {w : Cond}, w ∈ W0 → w.before args s = true := fun h => C.2.2.2.2.1 _ (List.mem_cons_of_mem _ h)
  intro x0 S0 S L hS0 hw hL hx0 h
  have he : ext S0 S := by rw [hS0]; exact ext_rf
  unfold wp_Jx4a65c_size_8abf5 at h
  refine g_aload_n C dJx4a65c_size_8abf5_0 rfl 0 rfl ?_
  refine gc_getI C iwx_Jx4a65c hL hx0 (by decide) (by decide) rfl 2 (by decide) (hW kw_576) rfl rfl rfl dJx4a65c_size_8abf5_1 ?_
  exact gc_iret C hw hL he hr dJx4a65c_size_8abf5_4 h
theorem c_Jx4a65c_size_8abf5 (l : Launch) (D : va_G) (T : Nat → ClassId) (x0 : Nat) (S : HS) (hx0 : hK S x0 = 13) (P : Int32 → HS → Prop) (h : wp_Jx4a65c_size_8abf5 P x0 S) : CMi l yJx4a65c_size_8abf5 (ws_Jx4a65c_size_8abf5) rm_Jx4a65c_size_8abf5 D T [.ref x0] S 0 0 P := gc_meti (by decide) rfl rfl (Nat.le_of_ble_eq_true rfl) (fun p e s m args below meth c A L C E hnm hr hw hL => t_Jx4a65c_size_8abf5 C E   hr P x0 S S L rfl hw hL hx0 h)
theorem k_Jx4a65c_size_8abf5 (l : Launch) (D : va_G) (T : Nat → ClassId) (x0 : Nat) (S : HS) (hx0 : hK S x0 = 13) : CMi l yJx4a65c_size_8abf5 (ws_Jx4a65c_size_8abf5) rm_Jx4a65c_size_8abf5 D T [.ref x0] S 0 0 (fun v S1 => v = (hI S 262 x0) ∧ S1 = S) := c_Jx4a65c_size_8abf5 l D T x0 S hx0 _ <|
  (by
    unfold wp_Jx4a65c_size_8abf5
    exact ⟨rfl, rfl⟩)
abbrev ws_Jx4a65c_isEmpty_aae02 : List Cond := Cond.code yJx4a65c_isEmpty_aae02 cJx4a65c_isEmpty_aae02 1 (some .boolean) :: W0
abbrev rm_Jx4a65c_isEmpty_aae02 : Room := ({ frames := 12, cells := 0, slots := 0, locals := 400 } : Room)
theorem dJx4a65c_isEmpty_aae02_0 : decode cJx4a65c_isEmpty_aae02 0 = .ok (.aload_n 0, 1) := by decide +kernel
theorem dJx4a65c_isEmpty_aae02_1 : decode cJx4a65c_isEmpty_aae02 1 = .ok (.getfield 48, 3) := by decide +kernel
theorem dJx4a65c_isEmpty_aae02_4 : decode cJx4a65c_isEmpty_aae02 4 = .ok (.ifCond .ne 7, 3) := by decide +kernel
theorem dJx4a65c_isEmpty_aae02_7 : decode cJx4a65c_isEmpty_aae02 7 = .ok (.iconst 1, 1) := by decide +kernel
theorem dJx4a65c_isEmpty_aae02_8 : decode cJx4a65c_isEmpty_aae02 8 = .ok (.goto 4, 3) := by decide +kernel
theorem dJx4a65c_isEmpty_aae02_11 : decode cJx4a65c_isEmpty_aae02 11 = .ok (.iconst 0, 1) := by decide +kernel
theorem dJx4a65c_isEmpty_aae02_12 : decode cJx4a65c_isEmpty_aae02 12 = .ok (.ireturn, 1) := by decide +kernel
def wp_Jx4a65c_isEmpty_aae02 (P : Int32 → HS → Prop) (x0 : Nat) (S : HS) : Prop := (¬ (hI S 262 x0) = 0 → (P 0 S)) ∧ ((hI S 262 x0) = 0 → (P 1 S))
set_option maxRecDepth 100000 in
set_option maxHeartbeats 4000000 in
theorem t_Jx4a65c_isEmpty_aae02 {p : Program} {l : Launch} {e : Env} {s : State} {m : MethodId} {args : Array Value} {below : List Frame} {meth : Method} {c : Code} {D : va_G} {A : Nat → Prop} {T : Nat → ClassId} (C : GC p s m args meth c cJx4a65c_isEmpty_aae02 "java/util/ArrayList" (ws_Jx4a65c_isEmpty_aae02) 1 D A (zty T)) (E : GE T A s) (hr : meth.sig.returnType = (some .boolean)) (P : Int32 → HS → Prop) : ∀ (x0 : Nat) (S0 S : HS) (L : List Nat), S0 = S → wt S → hL S L → (hK S x0 = 13) → wp_Jx4a65c_isEmpty_aae02 P x0 S → GW p l e { rm_Jx4a65c_isEmpty_aae02 with cells := 0, slots := 0 } s m args below meth c D A 1 0 0 (MQ below (va_Qi (fun v (u : HS × List Nat) => P v u.1 ∧ CO S0 u) (CE D T A) A) args s 0 0 A) (CW T S L) 0 0 0 [(0, .ref x0)] [] := by
  have hW : ∀ {w : Cond}, w ∈ W0 → w.before args s = true := fun h => C.2.2.2.2.1 _ (List.mem_cons_of_mem _ h)
  intro x0 S0 S L hS0 hw hL hx0 h
  have he : ext S0 S := by rw [hS0]; exact ext_rf
  unfold wp_Jx4a65c_isEmpty_aae02 at h
  refine g_aload_n C dJx4a65c_isEmpty_aae02_0 rfl 0 rfl ?_
  refine gc_getI C iwx_Jx4a65c hL hx0 (by decide) (by decide) rfl 2 (by decide) (hW kw_576) rfl rfl rfl dJx4a65c_isEmpty_aae02_1 ?_
  refine g_if_ne (tgt := 11) C dJx4a65c_isEmpty_aae02_4 (by decide) (fun z1 => ?_) (fun z1 => ?_)
  · replace h := h.1 z1
    refine g_iconst (v := 0) C dJx4a65c_isEmpty_aae02_11 (by decide) ?_
    exact gc_zret C vz0 hw hL he hr dJx4a65c_isEmpty_aae02_12 h
  · replace h := h.2 z1
    refine g_iconst (v := 1) C dJx4a65c_isEmpty_aae02_7 (by decide) ?_
    refine g_goto (tgt := 12) C dJx4a65c_isEmpty_aae02_8 (by decide) ?_
    exact gc_zret C vz1 hw hL he hr dJx4a65c_isEmpty_aae02_12 h
theorem c_Jx4a65c_isEmpty_aae02 (l : Launch) (D : va_G) (T : Nat → ClassId) (x0 : Nat) (S : HS) (hx0 : hK S x0 = 13) (P : Int32 → HS → Prop) (h : wp_Jx4a65c_isEmpty_aae02 P x0 S) : CMi l yJx4a65c_isEmpty_aae02 (ws_Jx4a65c_isEmpty_aae02) rm_Jx4a65c_isEmpty_aae02 D T [.ref x0] S 0 0 P := gc_meti (by decide) rfl rfl (Nat.le_of_ble_eq_true rfl) (fun p e s m args below meth c A L C E hnm hr hw hL => t_Jx4a65c_isEmpty_aae02 C E   hr P x0 S S L rfl hw hL hx0 h)
theorem k_Jx4a65c_isEmpty_aae02 (l : Launch) (D : va_G) (T : Nat → ClassId) (x0 : Nat) (S : HS) (hx0 : hK S x0 = 13) : CMi l yJx4a65c_isEmpty_aae02 (ws_Jx4a65c_isEmpty_aae02) rm_Jx4a65c_isEmpty_aae02 D T [.ref x0] S 0 0 (fun v S1 => v = ((if hI S 262 x0 = 0 then 1 else 0)) ∧ S1 = S) := c_Jx4a65c_isEmpty_aae02 l D T x0 S hx0 _ <|
  (by
    unfold wp_Jx4a65c_isEmpty_aae02
    exact ⟨fun c => ⟨by rw [if_neg c], rfl⟩, fun c => ⟨by rw [if_pos c], rfl⟩⟩)

end S_C0P
