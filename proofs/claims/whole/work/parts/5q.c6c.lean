section S_C6C
abbrev ws_J0_isLatin1_aae02 : List Cond := Cond.code yJ0_isLatin1_aae02 cJ0_isLatin1_aae02 1 (some .boolean) :: W0
abbrev rm_J0_isLatin1_aae02 : Room := ({ frames := 2, cells := 0, slots := 0, locals := 100 } : Room)
theorem dJ0_isLatin1_aae02_0 : decode cJ0_isLatin1_aae02 0 = .ok (.getstatic 38, 3) := by decide +kernel
theorem dJ0_isLatin1_aae02_3 : decode cJ0_isLatin1_aae02 3 = .ok (.ifCond .eq 14, 3) := by decide +kernel
theorem dJ0_isLatin1_aae02_6 : decode cJ0_isLatin1_aae02 6 = .ok (.aload_n 0, 1) := by decide +kernel
theorem dJ0_isLatin1_aae02_7 : decode cJ0_isLatin1_aae02 7 = .ok (.getfield 15, 3) := by decide +kernel
theorem dJ0_isLatin1_aae02_10 : decode cJ0_isLatin1_aae02 10 = .ok (.ifCond .ne 7, 3) := by decide +kernel
theorem dJ0_isLatin1_aae02_13 : decode cJ0_isLatin1_aae02 13 = .ok (.iconst 1, 1) := by decide +kernel
theorem dJ0_isLatin1_aae02_14 : decode cJ0_isLatin1_aae02 14 = .ok (.goto 4, 3) := by decide +kernel
theorem dJ0_isLatin1_aae02_17 : decode cJ0_isLatin1_aae02 17 = .ok (.iconst 0, 1) := by decide +kernel
theorem dJ0_isLatin1_aae02_18 : decode cJ0_isLatin1_aae02 18 = .ok (.ireturn, 1) := by decide +kernel
def wp_J0_isLatin1_aae02 (P : Int32 → HS → Prop) (x0 : Nat) (S : HS) : Prop := P 1 S
set_option maxRecDepth 100000 in
set_option maxHeartbeats 4000000 in
theorem t_J0_isLatin1_aae02 {p : Program} {l : Launch} {e : Env} {s : State} {m : MethodId} {args : Array Value} {below : List Frame} {meth : Method} {c : Code} {D : va_G} {A : Nat → Prop} {T : Nat → ClassId} (C : GC p s m args meth c cJ0_isLatin1_aae02 "java/lang/String" (ws_J0_isLatin1_aae02) 1 D A (zty T)) (E : GE T A s) (hr : meth.sig.returnType = (some .boolean)) (P : Int32 → HS → Prop) : ∀ (x0 : Nat) (S0 S : HS) (L : List Nat), S0 = S → wt S → hL S L → (x0 < 3) → wp_J0_isLatin1_aae02 P x0 S → GW p l e { rm_J0_isLatin1_aae02 with cells := 0, slots := 0 } s m args below meth c D A 1 0 0 (MQ below (va_Qi (fun v (u : HS × List Nat) => P v u.1 ∧ CO S0 u) (CE D T A) A) args s 0 0 A) (CW T S L) 0 0 0 [(0, .ref (T (100 + x0)))] [] := by
  have hW : ∀ {w : Cond}, w ∈ W0 → w.before args s = true := fun h => C.2.2.2.2.1 _ (List.mem_cons_of_mem _ h)
  intro x0 S0 S L hS0 hw hL hx0 h
  have he : ext S0 S := by rw [hS0]; exact ext_rf
  unfold wp_J0_isLatin1_aae02 at h
  refine gt_gets C E.2.2.2.2.2.2.2.2.2.2.1 (hW kw_610) (fun _ z => z) dJ0_isLatin1_aae02_0 ?_
  refine g_if_eq (tgt := 17) C dJ0_isLatin1_aae02_3 (by decide) (fun z => absurd z (by decide)) (fun _ => ?_)
  refine g_aload_n C dJ0_isLatin1_aae02_6 rfl 0 rfl ?_
  refine gt_cod C E hx0 (hW kw_1692) dJ0_isLatin1_aae02_7 ?_
  refine g_if_ne (tgt := 17) C dJ0_isLatin1_aae02_10 (by decide) (fun z => absurd z (by decide)) (fun _ => ?_)
  refine g_iconst (v := 1) C dJ0_isLatin1_aae02_13 (by decide) ?_
  refine g_goto (tgt := 18) C dJ0_isLatin1_aae02_14 (by decide) ?_
  exact gc_zret C vz1 hw hL he hr dJ0_isLatin1_aae02_18 h
theorem c_J0_isLatin1_aae02 (l : Launch) (D : va_G) (T : Nat → ClassId) (x0 : Nat) (S : HS) (hx0 : x0 < 3) (P : Int32 → HS → Prop) (h : wp_J0_isLatin1_aae02 P x0 S) : CMi l yJ0_isLatin1_aae02 (ws_J0_isLatin1_aae02) rm_J0_isLatin1_aae02 D T [.ref (T (100 + x0))] S 0 0 P := gc_meti (by decide) rfl rfl (Nat.le_of_ble_eq_true rfl) (fun p e s m args below meth c A L C E hnm hr hw hL => t_J0_isLatin1_aae02 C E   hr P x0 S S L rfl hw hL hx0 h)
/-- the first place of a sign in a literal -/
def ixL (c : Int32) : List Int32 → Nat → Int32
  | [], _ => -1
  | b :: l, k => if b = c then nI k else ixL c l (k + 1)
def ixZ (i : Nat) (c : Int32) : Int32 := ixL c (bytZ.getD i []) 0
/-- the signs of a text are signs -/
def chO (b : Nat → Int32) (n : Nat) : Prop := ∀ i, i < n → vc (b i) ∧ ∃ c : Nat, c < 65536 ∧ b i = nI c
/-- one sign out of a literal -/
def toB (b : Nat → Int32) (n : Nat) (σ : PS) (i : Nat) : Bool := !σ.2 && (decide (σ.1 < n) && decide (0 ≤ ixZ i (b σ.1)))
def toS (b : Nat → Int32) (n : Nat) (σ : PS) (i : Nat) : PS := if toB b n σ i = true then (σ.1 + 1, σ.2) else (σ.1, true)
theorem lz_len : ∀ i, i < 3 → lenZ.getD i 0 = (bytZ.getD i []).length ∧ lenZ.getD i 0 ≤ 9 := by decide
theorem ix_eq : ∀ c : Nat, c < 256 → ∀ b ∈ bytZ.flatten, (b = (Int32.ofNat c).toInt8.toInt32 ↔ b = Int32.ofNat c) := by decide +kernel
theorem ix_in : ∀ i, i < 3 → ∀ b ∈ bytZ.getD i [], b ∈ bytZ.flatten ∧ b < 256 ∧ 0 ≤ b := by decide +kernel
theorem k_J0_isLatin1_aae02 (l : Launch) (D : va_G) (T : Nat → ClassId) (x0 : Nat) (S : HS) (hx0 : x0 < 3) : CMi l yJ0_isLatin1_aae02 (ws_J0_isLatin1_aae02) rm_J0_isLatin1_aae02 D T [.ref (T (100 + x0))] S 0 0 (fun v S1 => v = (1) ∧ S1 = S) := c_J0_isLatin1_aae02 l D T x0 S hx0 _ <|
  (by
    unfold wp_J0_isLatin1_aae02
    exact ⟨rfl, rfl⟩)
abbrev ws_J0_coder_7d493 : List Cond := Cond.code yJ0_coder_7d493 cJ0_coder_7d493 1 (some .byte) :: W0
abbrev rm_J0_coder_7d493 : Room := ({ frames := 2, cells := 0, slots := 0, locals := 100 } : Room)
theorem dJ0_coder_7d493_0 : decode cJ0_coder_7d493 0 = .ok (.getstatic 38, 3) := by decide +kernel
theorem dJ0_coder_7d493_3 : decode cJ0_coder_7d493 3 = .ok (.ifCond .eq 10, 3) := by decide +kernel
theorem dJ0_coder_7d493_6 : decode cJ0_coder_7d493 6 = .ok (.aload_n 0, 1) := by decide +kernel
theorem dJ0_coder_7d493_7 : decode cJ0_coder_7d493 7 = .ok (.getfield 15, 3) := by decide +kernel
theorem dJ0_coder_7d493_10 : decode cJ0_coder_7d493 10 = .ok (.goto 4, 3) := by decide +kernel
theorem dJ0_coder_7d493_13 : decode cJ0_coder_7d493 13 = .ok (.iconst 1, 1) := by decide +kernel
theorem dJ0_coder_7d493_14 : decode cJ0_coder_7d493 14 = .ok (.ireturn, 1) := by decide +kernel
def wp_J0_coder_7d493 (P : Int32 → HS → Prop) (x0 : Nat) (S : HS) : Prop := vb9 0 ∧ P 0 S
set_option maxRecDepth 100000 in
set_option maxHeartbeats 4000000 in
theorem t_J0_coder_7d493 {p : Program} {l : Launch} {e : Env} {s : State} {m : MethodId} {args : Array Value} {below : List Frame} {meth : Method} {c : Code} {D : va_G} {A : Nat → Prop} {T : Nat → ClassId} (C : GC p s m args meth c cJ0_coder_7d493 "java/lang/String" (ws_J0_coder_7d493) 1 D A (zty T)) (E : GE T A s) (hr : meth.sig.returnType = (some .byte)) (P : Int32 → HS → Prop) : ∀ (x0 : Nat) (S0 S : HS) (L : List Nat), S0 = S → wt S → hL S L → (x0 < 3) → wp_J0_coder_7d493 P x0 S → GW p l e { rm_J0_coder_7d493 with cells := 0, slots := 0 } s m args below meth c D A 1 0 0 (MQ below (va_Qi (fun v (u : HS × List Nat) => P v u.1 ∧ CO S0 u) (CE D T A) A) args s 0 0 A) (CW T S L) 0 0 0 [(0, .ref (T (100 + x0)))] [] := by
  have hW : ∀ {w : Cond}, w ∈ W0 → w.before args s = true := fun h => C.2.2.2.2.1 _ (List.mem_cons_of_mem _ h)
  intro x0 S0 S L hS0 hw hL hx0 h
  have he : ext S0 S := by rw [hS0]; exact ext_rf
  unfold wp_J0_coder_7d493 at h
  refine gt_gets C E.2.2.2.2.2.2.2.2.2.2.1 (hW kw_610) (fun _ z => z) dJ0_coder_7d493_0 ?_
  refine g_if_eq (tgt := 13) C dJ0_coder_7d493_3 (by decide) (fun z => absurd z (by decide)) (fun _ => ?_)
  refine g_aload_n C dJ0_coder_7d493_6 rfl 0 rfl ?_
  refine gt_cod C E hx0 (hW kw_1692) dJ0_coder_7d493_7 ?_
  refine g_goto (tgt := 14) C dJ0_coder_7d493_10 (by decide) ?_
  exact gc_bret C h.1 hw hL he hr dJ0_coder_7d493_14 h.2
theorem c_J0_coder_7d493 (l : Launch) (D : va_G) (T : Nat → ClassId) (x0 : Nat) (S : HS) (hx0 : x0 < 3) (P : Int32 → HS → Prop) (h : wp_J0_coder_7d493 P x0 S) : CMi l yJ0_coder_7d493 (ws_J0_coder_7d493) rm_J0_coder_7d493 D T [.ref (T (100 + x0))] S 0 0 P := gc_meti (by decide) rfl rfl (Nat.le_of_ble_eq_true rfl) (fun p e s m args below meth c A L C E hnm hr hw hL => t_J0_coder_7d493 C E   hr P x0 S S L rfl hw hL hx0 h)
theorem k_J0_coder_7d493 (l : Launch) (D : va_G) (T : Nat → ClassId) (x0 : Nat) (S : HS) (hx0 : x0 < 3) : CMi l yJ0_coder_7d493 (ws_J0_coder_7d493) rm_J0_coder_7d493 D T [.ref (T (100 + x0))] S 0 0 (fun v S1 => v = (0) ∧ S1 = S) := c_J0_coder_7d493 l D T x0 S hx0 _ <|
  (by
    unfold wp_J0_coder_7d493
    exact ⟨rfl, rfl, rfl⟩)
abbrev ws_J0_length_8abf5 : List Cond := Cond.code yJ0_length_8abf5 cJ0_length_8abf5 1 (some .int) :: W0
abbrev rm_J0_length_8abf5 : Room := ({ frames := 4, cells := 0, slots := 0, locals := 200 } : Room)
theorem dJ0_length_8abf5_0 : decode cJ0_length_8abf5 0 = .ok (.aload_n 0, 1) := by decide +kernel
theorem dJ0_length_8abf5_1 : decode cJ0_length_8abf5 1 = .ok (.getfield 9, 3) := by decide +kernel
theorem dJ0_length_8abf5_4 : decode cJ0_length_8abf5 4 = .ok (.arraylength, 1) := by decide +kernel
theorem dJ0_length_8abf5_5 : decode cJ0_length_8abf5 5 = .ok (.aload_n 0, 1) := by decide +kernel
theorem dJ0_length_8abf5_6 : decode cJ0_length_8abf5 6 = .ok (.invokevirtual 335, 3) := by decide +kernel
theorem dJ0_length_8abf5_9 : decode cJ0_length_8abf5 9 = .ok (.ishr, 1) := by decide +kernel
theorem dJ0_length_8abf5_10 : decode cJ0_length_8abf5 10 = .ok (.ireturn, 1) := by decide +kernel
def wp_J0_length_8abf5 (P : Int32 → HS → Prop) (x0 : Nat) (S : HS) : Prop := P ((Int32.ofNat (lenZ.getD x0 0)) >>> ((0) &&& 31)) S
set_option maxRecDepth 100000 in
set_option maxHeartbeats 4000000 in
theorem t_J0_length_8abf5 {p : Program} {l : Launch} {e : Env} {s : State} {m : MethodId} {args : Array Value} {below : List Frame} {meth : Method} {c : Code} {D : va_G} {A : Nat → Prop} {T : Nat → ClassId} (C : GC p s m args meth c cJ0_length_8abf5 "java/lang/String" (ws_J0_length_8abf5) 1 D A (zty T)) (E : GE T A s) (hr : meth.sig.returnType = (some .int)) (P : Int32 → HS → Prop) : ∀ (x0 : Nat) (S0 S : HS) (L : List Nat), S0 = S → wt S → hL S L → (x0 < 3) → wp_J0_length_8abf5 P x0 S → GW p l e { rm_J0_length_8abf5 with cells := 0, slots := 0 } s m args below meth c D A 1 0 0 (MQ below (va_Qi (fun v (u : HS × List Nat) => P v u.1 ∧ CO S0 u) (CE D T A) A) args s 0 0 A) (CW T S L) 0 0 0 [(0, .ref (T (100 + x0)))] [] := by
  have hW : ∀ {w : Cond}, w ∈ W0 → w.before args s = true := fun h => C.2.2.2.2.1 _ (List.mem_cons_of_mem _ h)
  intro x0 S0 S L hS0 hw hL hx0 h
  have he : ext S0 S := by rw [hS0]; exact ext_rf
  unfold wp_J0_length_8abf5 at h
  refine g_aload_n C dJ0_length_8abf5_0 rfl 0 rfl ?_
  refine gt_val C E hx0 (hW kw_1691) dJ0_length_8abf5_1 ?_
  refine gt_len C E hx0 dJ0_length_8abf5_4 ?_
  refine g_aload_n C dJ0_length_8abf5_5 rfl 0 rfl ?_
  refine gt_calliV (host := "") C E hw hL hx0 [] rfl (k_J0_coder_7d493 l D T x0 S hx0) (w0_V 0 C.2.2.2.2.1 kw_615 kw_616 kw_617 kw_5 kw_618 rfl rfl (by decide +kernel) ⟨Nat.le_of_ble_eq_true rfl, Nat.le_of_ble_eq_true rfl⟩) rfl (Nat.le_of_ble_eq_true rfl) (Nat.le_refl _) (Nat.le_refl _) (Nat.zero_le _) (Nat.zero_le _) dJ0_length_8abf5_6 (fun v9 S9 L1 he9 hw9 hL9 hp => ?_)
  obtain ⟨hv9, hs9⟩ := hp
  replace hs9 := hs9.symm
  subst hs9
  replace hv9 := hv9.symm
  subst hv9
  have w4 := hL9
  refine g_ishr C dJ0_length_8abf5_9 ?_
  exact gc_iret C hw w4 he hr dJ0_length_8abf5_10 h
theorem c_J0_length_8abf5 (l : Launch) (D : va_G) (T : Nat → ClassId) (x0 : Nat) (S : HS) (hx0 : x0 < 3) (P : Int32 → HS → Prop) (h : wp_J0_length_8abf5 P x0 S) : CMi l yJ0_length_8abf5 (ws_J0_length_8abf5) rm_J0_length_8abf5 D T [.ref (T (100 + x0))] S 0 0 P := gc_meti (by decide) rfl rfl (Nat.le_of_ble_eq_true rfl) (fun p e s m args below meth c A L C E hnm hr hw hL => t_J0_length_8abf5 C E   hr P x0 S S L rfl hw hL hx0 h)
theorem k_J0_length_8abf5 (l : Launch) (D : va_G) (T : Nat → ClassId) (x0 : Nat) (S : HS) (hx0 : x0 < 3) : CMi l yJ0_length_8abf5 (ws_J0_length_8abf5) rm_J0_length_8abf5 D T [.ref (T (100 + x0))] S 0 0 (fun v S1 => v = ((Int32.ofNat (lenZ.getD x0 0)) >>> ((0 : Int32) &&& 31)) ∧ S1 = S) := c_J0_length_8abf5 l D T x0 S hx0 _ <|
  (by
    unfold wp_J0_length_8abf5
    exact ⟨rfl, rfl⟩)
abbrev ws_J1_canEncode_9a6ad : List Cond := Cond.code yJ1_canEncode_9a6ad cJ1_canEncode_9a6ad 1 (some .boolean) :: W0
abbrev rm_J1_canEncode_9a6ad : Room := ({ frames := 2, cells := 0, slots := 0, locals := 100 } : Room)
theorem dJ1_canEncode_9a6ad_0 : decode cJ1_canEncode_9a6ad 0 = .ok (.iload_n 0, 1) := by decide +kernel
theorem dJ1_canEncode_9a6ad_1 : decode cJ1_canEncode_9a6ad 1 = .ok (.ifCond .lt 14, 3) := by decide +kernel
theorem dJ1_canEncode_9a6ad_4 : decode cJ1_canEncode_9a6ad 4 = .ok (.iload_n 0, 1) := by decide +kernel
theorem dJ1_canEncode_9a6ad_5 : decode cJ1_canEncode_9a6ad 5 = .ok (.sipush 255, 3) := by decide +kernel
theorem dJ1_canEncode_9a6ad_8 : decode cJ1_canEncode_9a6ad 8 = .ok (.if_icmp .gt 7, 3) := by decide +kernel
theorem dJ1_canEncode_9a6ad_11 : decode cJ1_canEncode_9a6ad 11 = .ok (.iconst 1, 1) := by decide +kernel
theorem dJ1_canEncode_9a6ad_12 : decode cJ1_canEncode_9a6ad 12 = .ok (.goto 4, 3) := by decide +kernel
theorem dJ1_canEncode_9a6ad_15 : decode cJ1_canEncode_9a6ad 15 = .ok (.iconst 0, 1) := by decide +kernel
theorem dJ1_canEncode_9a6ad_16 : decode cJ1_canEncode_9a6ad 16 = .ok (.ireturn, 1) := by decide +kernel
def wp_J1_canEncode_9a6ad (P : Int32 → HS → Prop) (p0 : Int32) (S : HS) : Prop := (p0 < 0 → (P 0 S)) ∧ (¬ p0 < 0 → ((255 < p0 → (P 0 S)) ∧ (¬ 255 < p0 → (P 1 S))))
set_option maxRecDepth 100000 in
set_option maxHeartbeats 4000000 in
theorem t_J1_canEncode_9a6ad {p : Program} {l : Launch} {e : Env} {s : State} {m : MethodId} {args : Array Value} {below : List Frame} {meth : Method} {c : Code} {D : va_G} {A : Nat → Prop} {T : Nat → ClassId} (C : GC p s m args meth c cJ1_canEncode_9a6ad "java/lang/StringLatin1" (ws_J1_canEncode_9a6ad) 1 D A (zty T)) (E : GE T A s) (hr : meth.sig.returnType = (some .boolean)) (P : Int32 → HS → Prop) : ∀ (p0 : Int32) (S0 S : HS) (L : List Nat), S0 = S → wt S → hL S L → wp_J1_canEncode_9a6ad P p0 S → GW p l e { rm_J1_canEncode_9a6ad with cells := 0, slots := 0 } s m args below meth c D A 1 0 0 (MQ below (va_Qi (fun v (u : HS × List Nat) => P v u.1 ∧ CO S0 u) (CE D T A) A) args s 0 0 A) (CW T S L) 0 0 0 [(0, .int p0)] [] := by
  have hW : ∀ {w : Cond}, w ∈ W0 → w.before args s = true := fun h => C.2.2.2.2.1 _ (List.mem_cons_of_mem _ h)
  intro p0 S0 S L hS0 hw hL  h
  have he : ext S0 S := by rw [hS0]; exact ext_rf
  unfold wp_J1_canEncode_9a6ad at h
  refine g_iload_n C dJ1_canEncode_9a6ad_0 rfl 0 rfl ?_
  refine g_if_lt (tgt := 15) C dJ1_canEncode_9a6ad_1 (by decide) (fun z1 => ?_) (fun z1 => ?_)
  · replace h := h.1 z1
    refine g_iconst (v := 0) C dJ1_canEncode_9a6ad_15 (by decide) ?_
    exact gc_zret C vz0 hw hL he hr dJ1_canEncode_9a6ad_16 h
  · replace h := h.2 z1
    refine g_iload_n C dJ1_canEncode_9a6ad_4 rfl 0 rfl ?_
    refine g_sipush (v := 255) C dJ1_canEncode_9a6ad_5 (by decide) ?_
    refine g_icmp_gt (tgt := 15) C dJ1_canEncode_9a6ad_8 (by decide) (fun z2 => ?_) (fun z2 => ?_)
    · replace h := h.1 z2
      refine g_iconst (v := 0) C dJ1_canEncode_9a6ad_15 (by decide) ?_
      exact gc_zret C vz0 hw hL he hr dJ1_canEncode_9a6ad_16 h
    · replace h := h.2 z2
      refine g_iconst (v := 1) C dJ1_canEncode_9a6ad_11 (by decide) ?_
      refine g_goto (tgt := 16) C dJ1_canEncode_9a6ad_12 (by decide) ?_
      exact gc_zret C vz1 hw hL he hr dJ1_canEncode_9a6ad_16 h
theorem c_J1_canEncode_9a6ad (l : Launch) (D : va_G) (T : Nat → ClassId) (p0 : Int32) (S : HS)  (P : Int32 → HS → Prop) (h : wp_J1_canEncode_9a6ad P p0 S) : CMi l yJ1_canEncode_9a6ad (ws_J1_canEncode_9a6ad) rm_J1_canEncode_9a6ad D T [.int p0] S 0 0 P := gc_meti (by decide) rfl rfl (Nat.le_of_ble_eq_true rfl) (fun p e s m args below meth c A L C E hnm hr hw hL => t_J1_canEncode_9a6ad C E   hr P p0 S S L rfl hw hL  h)
theorem k_J1_canEncode_9a6ad (l : Launch) (D : va_G) (T : Nat → ClassId) (p0 : Int32) (S : HS)  (h : ∃ c : Nat, c < 65536 ∧ p0 = nI c) : CMi l yJ1_canEncode_9a6ad (ws_J1_canEncode_9a6ad) rm_J1_canEncode_9a6ad D T [.int p0] S 0 0 (fun v S1 => v = ((if p0 < 256 then (1 : Int32) else 0)) ∧ S1 = S) := c_J1_canEncode_9a6ad l D T p0 S  _ <|
  (by
    obtain ⟨c, hc, e⟩ := h
    subst e
    unfold wp_J1_canEncode_9a6ad
    have l5 : (255 : Int32) < nI c ↔ 255 < c := nI_ltI (a := 255) (by decide) (by omega)
    have l6 : nI c < (256 : Int32) ↔ c < 256 := nI_ltI (b := 256) (by omega) (by decide)
    refine ⟨fun c1 => absurd c1 (nI_pos (by omega)), fun _ => ⟨fun c2 => ⟨?_, rfl⟩, fun c2 => ⟨?_, rfl⟩⟩⟩
    · rw [if_neg (fun z => by have a := l6.mp z; have b := l5.mp c2; omega)]
    · rw [if_pos (l6.mpr (by
        rcases Nat.lt_or_ge c 256 with g | g
        · exact g
        · exact absurd (l5.mpr (by omega)) c2))])
abbrev ws_J1_indexOfChar_4cfef : List Cond := Cond.code yJ1_indexOfChar_4cfef cJ1_indexOfChar_4cfef 6 (some .int) :: W0
abbrev rm_J1_indexOfChar_4cfef : Room := ({ frames := 2, cells := 0, slots := 0, locals := 100 } : Room)
theorem dJ1_indexOfChar_4cfef_0 : decode cJ1_indexOfChar_4cfef 0 = .ok (.iload_n 1, 1) := by decide +kernel
theorem dJ1_indexOfChar_4cfef_1 : decode cJ1_indexOfChar_4cfef 1 = .ok (.i2b, 1) := by decide +kernel
theorem dJ1_indexOfChar_4cfef_2 : decode cJ1_indexOfChar_4cfef 2 = .ok (.istore 4, 2) := by decide +kernel
theorem dJ1_indexOfChar_4cfef_4 : decode cJ1_indexOfChar_4cfef 4 = .ok (.iload_n 2, 1) := by decide +kernel
theorem dJ1_indexOfChar_4cfef_5 : decode cJ1_indexOfChar_4cfef 5 = .ok (.istore 5, 2) := by decide +kernel
theorem dJ1_indexOfChar_4cfef_7 : decode cJ1_indexOfChar_4cfef 7 = .ok (.iload 5, 2) := by decide +kernel
theorem dJ1_indexOfChar_4cfef_9 : decode cJ1_indexOfChar_4cfef 9 = .ok (.iload_n 3, 1) := by decide +kernel
theorem dJ1_indexOfChar_4cfef_10 : decode cJ1_indexOfChar_4cfef 10 = .ok (.if_icmp .ge 21, 3) := by decide +kernel
theorem dJ1_indexOfChar_4cfef_13 : decode cJ1_indexOfChar_4cfef 13 = .ok (.aload_n 0, 1) := by decide +kernel
theorem dJ1_indexOfChar_4cfef_14 : decode cJ1_indexOfChar_4cfef 14 = .ok (.iload 5, 2) := by decide +kernel
theorem dJ1_indexOfChar_4cfef_16 : decode cJ1_indexOfChar_4cfef 16 = .ok (.baload, 1) := by decide +kernel
theorem dJ1_indexOfChar_4cfef_17 : decode cJ1_indexOfChar_4cfef 17 = .ok (.iload 4, 2) := by decide +kernel
theorem dJ1_indexOfChar_4cfef_19 : decode cJ1_indexOfChar_4cfef 19 = .ok (.if_icmp .ne 6, 3) := by decide +kernel
theorem dJ1_indexOfChar_4cfef_22 : decode cJ1_indexOfChar_4cfef 22 = .ok (.iload 5, 2) := by decide +kernel
theorem dJ1_indexOfChar_4cfef_24 : decode cJ1_indexOfChar_4cfef 24 = .ok (.ireturn, 1) := by decide +kernel
theorem dJ1_indexOfChar_4cfef_25 : decode cJ1_indexOfChar_4cfef 25 = .ok (.iinc 5 1, 3) := by decide +kernel
theorem dJ1_indexOfChar_4cfef_28 : decode cJ1_indexOfChar_4cfef 28 = .ok (.goto (-21), 3) := by decide +kernel
theorem dJ1_indexOfChar_4cfef_31 : decode cJ1_indexOfChar_4cfef 31 = .ok (.iconst (-1), 1) := by decide +kernel
theorem dJ1_indexOfChar_4cfef_32 : decode cJ1_indexOfChar_4cfef 32 = .ok (.ireturn, 1) := by decide +kernel
def wb_J1_indexOfChar_4cfef_7 (rec : Nat → Int32 → Int32 → Int32 → HS → Prop) (P : Int32 → HS → Prop) (x0 : Nat) (x3 : Int32) (x4 : Int32) (x5 : Int32) (S : HS) : Prop := (x3 ≤ x5 → (P (-1) S)) ∧ (¬ x3 ≤ x5 → (vp_in x5 (lenZ.getD x0 0) ∧ ((¬ ((bytZ.getD x0 []).getD (Int32.toNatClampNeg x5) 0) = x4 → (∀ v5 : Int32, v5 = x5 + 1 → (rec x0 x3 x4 v5 S))) ∧ (((bytZ.getD x0 []).getD (Int32.toNatClampNeg x5) 0) = x4 → (P x5 S)))))
def wp_J1_indexOfChar_4cfef_7 (P : Int32 → HS → Prop) : Nat → Nat → Int32 → Int32 → Int32 → HS → Prop
  | 0 => fun _ _ _ _ _ => False
  | n + 1 => fun x0 x3 x4 x5 S => wb_J1_indexOfChar_4cfef_7 (wp_J1_indexOfChar_4cfef_7  P n)  P x0 x3 x4 x5 S
set_option maxRecDepth 100000 in
set_option maxHeartbeats 4000000 in
theorem t_J1_indexOfChar_4cfef_7 {p : Program} {l : Launch} {e : Env} {s : State} {m : MethodId} {args : Array Value} {below : List Frame} {meth : Method} {c : Code} {D : va_G} {A : Nat → Prop} {T : Nat → ClassId} (C : GC p s m args meth c cJ1_indexOfChar_4cfef "java/lang/StringLatin1" (ws_J1_indexOfChar_4cfef) 6 D A (zty T)) (E : GE T A s) (hr : meth.sig.returnType = (some .int)) (S0 : HS) (P : Int32 → HS → Prop) : ∀ (n : Nat) (x0 : Nat) (x3 : Int32) (x4 : Int32) (x5 : Int32) (S : HS) (L : List Nat), wt S → hL S L → ext S0 S → (x0 < 3) → wp_J1_indexOfChar_4cfef_7  P n x0 x3 x4 x5 S → GW p l e { rm_J1_indexOfChar_4cfef with cells := 0, slots := 0 } s m args below meth c D A 6 0 0 (MQ below (va_Qi (fun v (u : HS × List Nat) => P v u.1 ∧ CO S0 u) (CE D T A) A) args s 0 0 A) (CW T S L) 0 0 7 [(0, .ref (T (110 + x0))), (3, .int x3), (4, .int x4), (5, .int x5)] [] := by
  have hW : ∀ {w : Cond}, w ∈ W0 → w.before args s = true := fun h => C.2.2.2.2.1 _ (List.mem_cons_of_mem _ h)
  intro n
  induction n with
  | zero => intro x0 x3 x4 x5 S L hw hL he hx0 h; exact h.elim
  | succ n ih =>
    intro x0 x3 x4 x5 S L hw hL he hx0 h
    replace h : wb_J1_indexOfChar_4cfef_7 (wp_J1_indexOfChar_4cfef_7  P n)  P x0 x3 x4 x5 S := h
    unfold wb_J1_indexOfChar_4cfef_7 at h
    refine g_iload C dJ1_indexOfChar_4cfef_7 3 rfl ?_
    refine g_iload_n C dJ1_indexOfChar_4cfef_9 rfl 1 rfl ?_
    refine g_icmp_ge (tgt := 31) C dJ1_indexOfChar_4cfef_10 (by decide) (fun z2 => ?_) (fun z2 => ?_)
    · replace h := h.1 z2
      refine g_iconst (v := -1) C dJ1_indexOfChar_4cfef_31 (by decide) ?_
      exact gc_iret C hw hL he hr dJ1_indexOfChar_4cfef_32 h
    · replace h := h.2 z2
      refine g_aload_n C dJ1_indexOfChar_4cfef_13 rfl 0 rfl ?_
      refine g_iload C dJ1_indexOfChar_4cfef_14 3 rfl ?_
      obtain ⟨g3, h⟩ := h
      refine gt_bald C E hx0 g3 dJ1_indexOfChar_4cfef_16 ?_
      refine g_iload C dJ1_indexOfChar_4cfef_17 2 rfl ?_
      refine g_icmp_ne (tgt := 25) C dJ1_indexOfChar_4cfef_19 (by decide) (fun z4 => ?_) (fun z4 => ?_)
      · replace h := h.1 z4
        obtain ⟨v5, ev5⟩ : ∃ y : Int32, y = x5 + 1 := ⟨_, rfl⟩
        replace h := h v5 ev5
        refine g_iinc (v := v5) (lv' := [(5, .int v5), (0, .ref (T (110 + x0))), (3, .int x3), (4, .int x4)]) C dJ1_indexOfChar_4cfef_25 (j := 3) rfl (by rw [ev5]; rfl) (by decide) rfl ?_
        refine g_goto (tgt := 7) C dJ1_indexOfChar_4cfef_28 (by decide) ?_
        refine g_locals [1, 2, 3, 0] rfl ?_
        exact ih x0 x3 x4 v5 S L hw hL he hx0 h
      · replace h := h.2 z4
        refine g_iload C dJ1_indexOfChar_4cfef_22 3 rfl ?_
        exact gc_iret C hw hL he hr dJ1_indexOfChar_4cfef_24 h
def wp_J1_indexOfChar_4cfef (P : Int32 → HS → Prop) (p0 : Nat) (p1 : Int32) (p2 : Int32) (p3 : Int32) (S : HS) : Prop := ∀ v1 : Int32, v1 = (Int32.toInt8 p1).toInt32 → (∃ k6 : Nat, wp_J1_indexOfChar_4cfef_7  P k6 p0 p3 v1 p2 S)
set_option maxRecDepth 100000 in
set_option maxHeartbeats 4000000 in
theorem t_J1_indexOfChar_4cfef {p : Program} {l : Launch} {e : Env} {s : State} {m : MethodId} {args : Array Value} {below : List Frame} {meth : Method} {c : Code} {D : va_G} {A : Nat → Prop} {T : Nat → ClassId} (C : GC p s m args meth c cJ1_indexOfChar_4cfef "java/lang/StringLatin1" (ws_J1_indexOfChar_4cfef) 6 D A (zty T)) (E : GE T A s) (hr : meth.sig.returnType = (some .int)) (P : Int32 → HS → Prop) : ∀ (p0 : Nat) (p1 : Int32) (p2 : Int32) (p3 : Int32) (S0 S : HS) (L : List Nat), S0 = S → wt S → hL S L → (p0 < 3) → wp_J1_indexOfChar_4cfef P p0 p1 p2 p3 S → GW p l e { rm_J1_indexOfChar_4cfef with cells := 0, slots := 0 } s m args below meth c D A 6 0 0 (MQ below (va_Qi (fun v (u : HS × List Nat) => P v u.1 ∧ CO S0 u) (CE D T A) A) args s 0 0 A) (CW T S L) 0 0 0 [(0, .ref (T (110 + p0))), (1, .int p1), (2, .int p2), (3, .int p3)] [] := by
  have hW : ∀ {w : Cond}, w ∈ W0 → w.before args s = true := fun h => C.2.2.2.2.1 _ (List.mem_cons_of_mem _ h)
  intro p0 p1 p2 p3 S0 S L hS0 hw hL hp0 h
  have he : ext S0 S := by rw [hS0]; exact ext_rf
  unfold wp_J1_indexOfChar_4cfef at h
  refine g_iload_n C dJ1_indexOfChar_4cfef_0 rfl 1 rfl ?_
  refine g_i2b C dJ1_indexOfChar_4cfef_1 rfl ?_
  refine g_topi (fun v1 ev1 => ?_)
  replace h := h v1 ev1
  refine g_istore (lv' := [(4, .int v1), (0, .ref (T (110 + p0))), (1, .int p1), (2, .int p2), (3, .int p3)]) C dJ1_indexOfChar_4cfef_2 (by decide) rfl ?_
  refine g_iload_n C dJ1_indexOfChar_4cfef_4 rfl 3 rfl ?_
  refine g_istore (lv' := [(5, .int p2), (4, .int v1), (0, .ref (T (110 + p0))), (1, .int p1), (2, .int p2), (3, .int p3)]) C dJ1_indexOfChar_4cfef_5 (by decide) rfl ?_
  refine g_locals [2, 5, 1, 0] rfl ?_
  obtain ⟨k6, h⟩ := h
  refine t_J1_indexOfChar_4cfef_7 C E hr S0  P  k6 p0 p3 v1 p2 S L hw hL he hp0 h
theorem c_J1_indexOfChar_4cfef (l : Launch) (D : va_G) (T : Nat → ClassId) (p0 : Nat) (p1 : Int32) (p2 : Int32) (p3 : Int32) (S : HS) (hp0 : p0 < 3) (P : Int32 → HS → Prop) (h : wp_J1_indexOfChar_4cfef P p0 p1 p2 p3 S) : CMi l yJ1_indexOfChar_4cfef (ws_J1_indexOfChar_4cfef) rm_J1_indexOfChar_4cfef D T [.ref (T (110 + p0)), .int p1, .int p2, .int p3] S 0 0 P := gc_meti (by decide) rfl rfl (Nat.le_of_ble_eq_true rfl) (fun p e s m args below meth c A L C E hnm hr hw hL => t_J1_indexOfChar_4cfef C E   hr P p0 p1 p2 p3 S S L rfl hw hL hp0 h)
theorem rl_ix {P : Int32 → HS → Prop} {S : HS} {i c : Nat} {t : Int32} (hi : i < 3) (hc : c < 256) (ht : t = (Int32.ofNat c).toInt8.toInt32) : ∀ (m k fuel : Nat), k + m = lenZ.getD i 0 → m < fuel → P (ixL (nI c) ((bytZ.getD i []).drop k) k) S → wp_J1_indexOfChar_4cfef_7 P fuel i (Int32.ofNat (lenZ.getD i 0)) t (nI k) S := by
  obtain ⟨hl, h9⟩ := lz_len i hi
  intro m
  induction m with
  | zero =>
    intro k fuel hk hf hP
    rw [List.drop_eq_nil_of_le (by omega), ixL] at hP
    obtain ⟨f, rfl⟩ : ∃ f, fuel = f + 1 := ⟨fuel - 1, by omega⟩; rw [wp_J1_indexOfChar_4cfef_7]; unfold wb_J1_indexOfChar_4cfef_7; dsimp only
    rw [show Int32.ofNat (lenZ.getD i 0) = nI (lenZ.getD i 0) from rfl, nI_leI (by omega) (by omega)]
    exact ⟨fun _ => hP, fun z9 => absurd (by omega) z9⟩
  | succ m ih =>
    intro k fuel hk hf hP
    have hkl : k < (bytZ.getD i []).length := by omega
    rw [List.drop_eq_getElem_cons hkl, ixL] at hP
    have ev : (bytZ.getD i []).getD k 0 = (bytZ.getD i [])[k]'hkl := by
      unfold List.getD
      rw [List.getElem?_eq_getElem (by exact hkl)]
      rfl
    have hm := (ix_in i hi _ (List.getElem_mem hkl)).1
    have he := ix_eq c hc _ hm
    obtain ⟨f, rfl⟩ : ∃ f, fuel = f + 1 := ⟨fuel - 1, by omega⟩; rw [wp_J1_indexOfChar_4cfef_7]; unfold wb_J1_indexOfChar_4cfef_7; dsimp only
    rw [show Int32.ofNat (lenZ.getD i 0) = nI (lenZ.getD i 0) from rfl, nI_leI (by omega) (by omega), nz_vp (by omega) (by omega), nI_clamp (n := k) (by omega), ev, nI_1, ht]
    refine ⟨fun z9 => absurd z9 (by omega), fun _ => ⟨by omega, fun c1 v5 e5 => ?_, fun c1 => ?_⟩⟩
    · subst e5
      rw [if_neg (show ¬ (bytZ.getD i [])[k] = nI c from fun z => c1 (he.mpr z))] at hP
      rw [← ht]
      exact ih (k + 1) f (by omega) (by omega) hP
    · rw [if_pos (show (bytZ.getD i [])[k] = nI c from he.mp c1)] at hP
      exact hP
theorem k_J1_indexOfChar_4cfef (l : Launch) (D : va_G) (T : Nat → ClassId) (p0 : Nat) (p1 : Int32) (p2 : Int32) (p3 : Int32) (S : HS) (hp0 : p0 < 3) (h : p2 = (0 : Int32) ∧ p3 = Int32.ofNat (lenZ.getD p0 0) ∧ ∃ c : Nat, c < 256 ∧ p1 = nI c) : CMi l yJ1_indexOfChar_4cfef (ws_J1_indexOfChar_4cfef) rm_J1_indexOfChar_4cfef D T [.ref (T (110 + p0)), .int p1, .int p2, .int p3] S 0 0 (fun v S1 => v = (ixZ p0 p1) ∧ S1 = S) := c_J1_indexOfChar_4cfef l D T p0 p1 p2 p3 S hp0 _ <|
  (by
    obtain ⟨e2, e3, c, hc, e1⟩ := h
    subst e1 e2 e3
    have h9 := lz_len p0 hp0
    unfold wp_J1_indexOfChar_4cfef
    exact fun v ev => ⟨20, rl_ix hp0 hc ev (lenZ.getD p0 0) 0 20 (by omega) (by omega) (by rw [List.drop_zero]; exact ⟨rfl, rfl⟩)⟩)
abbrev ws_J1_indexOf_4cfef : List Cond := Cond.code yJ1_indexOf_4cfef cJ1_indexOf_4cfef 4 (some .int) :: W0
abbrev rm_J1_indexOf_4cfef : Room := ({ frames := 6, cells := 0, slots := 0, locals := 300 } : Room)
theorem dJ1_indexOf_4cfef_0 : decode cJ1_indexOf_4cfef 0 = .ok (.iload_n 1, 1) := by decide +kernel
theorem dJ1_indexOf_4cfef_1 : decode cJ1_indexOf_4cfef 1 = .ok (.invokestatic 88, 3) := by decide +kernel
theorem dJ1_indexOf_4cfef_4 : decode cJ1_indexOf_4cfef 4 = .ok (.ifCond .ne 5, 3) := by decide +kernel
theorem dJ1_indexOf_4cfef_7 : decode cJ1_indexOf_4cfef 7 = .ok (.iconst (-1), 1) := by decide +kernel
theorem dJ1_indexOf_4cfef_8 : decode cJ1_indexOf_4cfef 8 = .ok (.ireturn, 1) := by decide +kernel
theorem dJ1_indexOf_4cfef_9 : decode cJ1_indexOf_4cfef 9 = .ok (.iload_n 2, 1) := by decide +kernel
theorem dJ1_indexOf_4cfef_10 : decode cJ1_indexOf_4cfef 10 = .ok (.iconst 0, 1) := by decide +kernel
theorem dJ1_indexOf_4cfef_11 : decode cJ1_indexOf_4cfef 11 = .ok (.invokestatic 92, 3) := by decide +kernel
theorem dJ1_indexOf_4cfef_14 : decode cJ1_indexOf_4cfef 14 = .ok (.istore_n 2, 1) := by decide +kernel
theorem dJ1_indexOf_4cfef_15 : decode cJ1_indexOf_4cfef 15 = .ok (.iload_n 3, 1) := by decide +kernel
theorem dJ1_indexOf_4cfef_16 : decode cJ1_indexOf_4cfef 16 = .ok (.aload_n 0, 1) := by decide +kernel
theorem dJ1_indexOf_4cfef_17 : decode cJ1_indexOf_4cfef 17 = .ok (.arraylength, 1) := by decide +kernel
theorem dJ1_indexOf_4cfef_18 : decode cJ1_indexOf_4cfef 18 = .ok (.invokestatic 38, 3) := by decide +kernel
theorem dJ1_indexOf_4cfef_21 : decode cJ1_indexOf_4cfef 21 = .ok (.istore_n 3, 1) := by decide +kernel
theorem dJ1_indexOf_4cfef_22 : decode cJ1_indexOf_4cfef 22 = .ok (.iload_n 2, 1) := by decide +kernel
theorem dJ1_indexOf_4cfef_23 : decode cJ1_indexOf_4cfef 23 = .ok (.iload_n 3, 1) := by decide +kernel
theorem dJ1_indexOf_4cfef_24 : decode cJ1_indexOf_4cfef 24 = .ok (.if_icmp .lt 5, 3) := by decide +kernel
theorem dJ1_indexOf_4cfef_27 : decode cJ1_indexOf_4cfef 27 = .ok (.iconst (-1), 1) := by decide +kernel
theorem dJ1_indexOf_4cfef_28 : decode cJ1_indexOf_4cfef 28 = .ok (.ireturn, 1) := by decide +kernel
theorem dJ1_indexOf_4cfef_29 : decode cJ1_indexOf_4cfef 29 = .ok (.aload_n 0, 1) := by decide +kernel
theorem dJ1_indexOf_4cfef_30 : decode cJ1_indexOf_4cfef 30 = .ok (.iload_n 1, 1) := by decide +kernel
theorem dJ1_indexOf_4cfef_31 : decode cJ1_indexOf_4cfef 31 = .ok (.iload_n 2, 1) := by decide +kernel
theorem dJ1_indexOf_4cfef_32 : decode cJ1_indexOf_4cfef 32 = .ok (.iload_n 3, 1) := by decide +kernel
theorem dJ1_indexOf_4cfef_33 : decode cJ1_indexOf_4cfef 33 = .ok (.invokestatic 95, 3) := by decide +kernel
theorem dJ1_indexOf_4cfef_36 : decode cJ1_indexOf_4cfef 36 = .ok (.ireturn, 1) := by decide +kernel
def wp_J1_indexOf_4cfef (P : Int32 → HS → Prop) (p0 : Nat) (p1 : Int32) (p2 : Int32) (p3 : Int32) (S : HS) : Prop := (∃ c : Nat, c < 65536 ∧ p1 = nI c) ∧ ((¬ ((if p1 < 256 then (1 : Int32) else 0)) = 0 → (∀ v7 : Int32, v7 = (if p2 < 0 then 0 else p2) → (∀ v8 : Int32, v8 = (if (Int32.ofNat (lenZ.getD p0 0)) < p3 then (Int32.ofNat (lenZ.getD p0 0)) else p3) → ((v7 < v8 → ((v7 = (0 : Int32) ∧ v8 = Int32.ofNat (lenZ.getD p0 0) ∧ ∃ c : Nat, c < 256 ∧ p1 = nI c) ∧ (P (ixZ p0 p1) S))) ∧ (¬ v7 < v8 → (P (-1) S)))))) ∧ (((if p1 < 256 then (1 : Int32) else 0)) = 0 → (P (-1) S)))
set_option maxRecDepth 100000 in
set_option maxHeartbeats 4000000 in
theorem t_J1_indexOf_4cfef {p : Program} {l : Launch} {e : Env} {s : State} {m : MethodId} {args : Array Value} {below : List Frame} {meth : Method} {c : Code} {D : va_G} {A : Nat → Prop} {T : Nat → ClassId} (C : GC p s m args meth c cJ1_indexOf_4cfef "java/lang/StringLatin1" (ws_J1_indexOf_4cfef) 4 D A (zty T)) (E : GE T A s) (hr : meth.sig.returnType = (some .int)) (P : Int32 → HS → Prop) : ∀ (p0 : Nat) (p1 : Int32) (p2 : Int32) (p3 : Int32) (S0 S : HS) (L : List Nat), S0 = S → wt S → hL S L → (p0 < 3) → wp_J1_indexOf_4cfef P p0 p1 p2 p3 S → GW p l e { rm_J1_indexOf_4cfef with cells := 0, slots := 0 } s m args below meth c D A 4 0 0 (MQ below (va_Qi (fun v (u : HS × List Nat) => P v u.1 ∧ CO S0 u) (CE D T A) A) args s 0 0 A) (CW T S L) 0 0 0 [(0, .ref (T (110 + p0))), (1, .int p1), (2, .int p2), (3, .int p3)] [] := by
  have hW : ∀ {w : Cond}, w ∈ W0 → w.before args s = true := fun h => C.2.2.2.2.1 _ (List.mem_cons_of_mem _ h)
  intro p0 p1 p2 p3 S0 S L hS0 hw hL hp0 h
  have he : ext S0 S := by rw [hS0]; exact ext_rf
  unfold wp_J1_indexOf_4cfef at h
  refine g_iload_n C dJ1_indexOf_4cfef_0 rfl 1 rfl ?_
  obtain ⟨g1, h⟩ := h
  refine gc_calliS (host := "") C E hw hL [.int p1] rfl (k_J1_canEncode_9a6ad l D T p1 S  g1) (w0_S 1 C.2.2.2.2.1 kw_622 kw_623 kw_24 kw_624 rfl rfl (by decide +kernel) ⟨Nat.le_of_ble_eq_true rfl, Nat.le_of_ble_eq_true rfl⟩) rfl (Nat.le_of_ble_eq_true rfl) (Nat.le_refl _) (Nat.le_refl _) (Nat.zero_le _) (Nat.zero_le _) dJ1_indexOf_4cfef_1 (fun v9 S9 L2 he9 hw9 hL9 hp => ?_)
  obtain ⟨hv9, hs9⟩ := hp
  replace hs9 := hs9.symm
  subst hs9
  replace hv9 := hv9.symm
  subst hv9
  have w5 := hL9
  refine g_if_ne (tgt := 9) C dJ1_indexOf_4cfef_4 (by decide) (fun z6 => ?_) (fun z6 => ?_)
  · replace h := h.1 z6
    refine g_iload_n C dJ1_indexOf_4cfef_9 rfl 2 rfl ?_
    refine g_iconst (v := 0) C dJ1_indexOf_4cfef_10 (by decide) ?_
    refine g_mmax C (hW kw_625) (hW kw_626) (hW kw_18) (hW kw_627) (Nat.le_of_ble_eq_true rfl) (Nat.le_of_ble_eq_true rfl) (Nat.le_refl _) (Nat.le_refl _) dJ1_indexOf_4cfef_11 ?_
    refine g_topi (fun v7 ev7 => ?_)
    replace h := h v7 ev7
    refine g_istore_n (lv' := [(2, .int v7), (0, .ref (T (110 + p0))), (1, .int p1), (3, .int p3)]) C dJ1_indexOf_4cfef_14 rfl (by decide) rfl ?_
    refine g_iload_n C dJ1_indexOf_4cfef_15 rfl 3 rfl ?_
    refine g_aload_n C dJ1_indexOf_4cfef_16 rfl 1 rfl ?_
    refine gt_len C E hp0 dJ1_indexOf_4cfef_17 ?_
    refine g_mmin C (hW kw_628) (hW kw_500) (hW kw_18) (hW kw_501) (Nat.le_of_ble_eq_true rfl) (Nat.le_of_ble_eq_true rfl) (Nat.le_refl _) (Nat.le_refl _) dJ1_indexOf_4cfef_18 ?_
    refine g_topi (fun v8 ev8 => ?_)
    replace h := h v8 ev8
    refine g_istore_n (lv' := [(3, .int v8), (2, .int v7), (0, .ref (T (110 + p0))), (1, .int p1)]) C dJ1_indexOf_4cfef_21 rfl (by decide) rfl ?_
    refine g_iload_n C dJ1_indexOf_4cfef_22 rfl 1 rfl ?_
    refine g_iload_n C dJ1_indexOf_4cfef_23 rfl 0 rfl ?_
    refine g_icmp_lt (tgt := 29) C dJ1_indexOf_4cfef_24 (by decide) (fun z9 => ?_) (fun z9 => ?_)
    · replace h := h.1 z9
      refine g_aload_n C dJ1_indexOf_4cfef_29 rfl 2 rfl ?_
      refine g_iload_n C dJ1_indexOf_4cfef_30 rfl 3 rfl ?_
      refine g_iload_n C dJ1_indexOf_4cfef_31 rfl 1 rfl ?_
      refine g_iload_n C dJ1_indexOf_4cfef_32 rfl 0 rfl ?_
      obtain ⟨g10, h⟩ := h
      refine gc_calliS (host := "") C E hw w5 [.ref (T (110 + p0)), .int p1, .int v7, .int v8] rfl (k_J1_indexOfChar_4cfef l D T p0 p1 v7 v8 S hp0 g10) (w0_S 4 C.2.2.2.2.1 kw_629 kw_630 kw_24 kw_631 rfl rfl (by decide +kernel) ⟨Nat.le_of_ble_eq_true rfl, Nat.le_of_ble_eq_true rfl⟩) rfl (Nat.le_of_ble_eq_true rfl) (Nat.le_refl _) (Nat.le_refl _) (Nat.zero_le _) (Nat.zero_le _) dJ1_indexOf_4cfef_33 (fun v9 S9 L11 he9 hw9 hL9 hp => ?_)
      obtain ⟨hv9, hs9⟩ := hp
      replace hs9 := hs9.symm
      subst hs9
      replace hv9 := hv9.symm
      subst hv9
      have w14 := hL9
      exact gc_iret C hw w14 he hr dJ1_indexOf_4cfef_36 h
    · replace h := h.2 z9
      refine g_iconst (v := -1) C dJ1_indexOf_4cfef_27 (by decide) ?_
      exact gc_iret C hw w5 he hr dJ1_indexOf_4cfef_28 h
  · replace h := h.2 z6
    refine g_iconst (v := -1) C dJ1_indexOf_4cfef_7 (by decide) ?_
    exact gc_iret C hw w5 he hr dJ1_indexOf_4cfef_8 h
theorem c_J1_indexOf_4cfef (l : Launch) (D : va_G) (T : Nat → ClassId) (p0 : Nat) (p1 : Int32) (p2 : Int32) (p3 : Int32) (S : HS) (hp0 : p0 < 3) (P : Int32 → HS → Prop) (h : wp_J1_indexOf_4cfef P p0 p1 p2 p3 S) : CMi l yJ1_indexOf_4cfef (ws_J1_indexOf_4cfef) rm_J1_indexOf_4cfef D T [.ref (T (110 + p0)), .int p1, .int p2, .int p3] S 0 0 P := gc_meti (by decide) rfl rfl (Nat.le_of_ble_eq_true rfl) (fun p e s m args below meth c A L C E hnm hr hw hL => t_J1_indexOf_4cfef C E   hr P p0 p1 p2 p3 S S L rfl hw hL hp0 h)
theorem ixL_no {c : Int32} : ∀ (l : List Int32) (k : Nat), (∀ b ∈ l, ¬ b = c) → ixL c l k = -1 := by
  intro l
  induction l with
  | nil => intro k _; rfl
  | cons b l ih =>
    intro k h
    rw [ixL, if_neg (h b (List.mem_cons_self ..)), ih _ (fun y hy => h y (List.mem_cons_of_mem _ hy))]
theorem k_J1_indexOf_4cfef (l : Launch) (D : va_G) (T : Nat → ClassId) (p0 : Nat) (p1 : Int32) (p2 : Int32) (p3 : Int32) (S : HS) (hp0 : p0 < 3) (h : p2 = (0 : Int32) ∧ p3 = Int32.ofNat (lenZ.getD p0 0) ∧ ∃ c : Nat, c < 65536 ∧ p1 = nI c) : CMi l yJ1_indexOf_4cfef (ws_J1_indexOf_4cfef) rm_J1_indexOf_4cfef D T [.ref (T (110 + p0)), .int p1, .int p2, .int p3] S 0 0 (fun v S1 => v = (ixZ p0 p1) ∧ S1 = S) := c_J1_indexOf_4cfef l D T p0 p1 p2 p3 S hp0 _ <|
  (by
    obtain ⟨e2, e3, c, hc, e1⟩ := h
    subst e1 e2 e3
    obtain ⟨hl, h9⟩ := lz_len p0 hp0
    have hpos : ∀ i, i < 3 → 0 < lenZ.getD i 0 := by decide
    have hp := hpos p0 hp0
    unfold wp_J1_indexOf_4cfef
    have l6 : nI c < (256 : Int32) ↔ c < 256 := nI_ltI (b := 256) (by omega) (by decide)
    refine ⟨⟨c, hc, rfl⟩, fun c1 v7 e7 v8 e8 => ?_, fun c1 => ⟨?_, rfl⟩⟩
    · have c256 : c < 256 := by
        by_cases g : c < 256
        · exact g
        · rw [if_neg (fun z => g (l6.mp z))] at c1; exact absurd rfl c1
      have e7' : v7 = 0 := e7.trans (if_neg (by decide))
      have e8' : v8 = Int32.ofNat (lenZ.getD p0 0) := e8.trans (if_neg Int32.lt_irrefl)
      subst e7' e8'
      refine ⟨fun _ => ⟨⟨rfl, rfl, c, c256, rfl⟩, rfl, rfl⟩, fun z => absurd ?_ z⟩
      rw [show (0 : Int32) = nI 0 from rfl, show Int32.ofNat (lenZ.getD p0 0) = nI (lenZ.getD p0 0) from rfl, nI_ltI (by decide) (by omega)]
      exact hp
    · have c256 : ¬ c < 256 := by
        intro g
        rw [if_pos (l6.mpr g)] at c1
        exact absurd c1 (by decide)
      unfold ixZ
      rw [ixL_no _ _ (fun b hb e => ?_)]
      have hb9 := (ix_in p0 hp0 b hb).2.1
      rw [e, show (256 : Int32) = nI 256 from rfl, nI_ltI (by omega) (by omega)] at hb9
      exact c256 hb9)
abbrev ws_J0_indexOf_7cf53 : List Cond := Cond.code yJ0_indexOf_7cf53 cJ0_indexOf_7cf53 3 (some .int) :: W0
abbrev rm_J0_indexOf_7cf53 : Room := ({ frames := 9, cells := 0, slots := 0, locals := 400 } : Room)
theorem dJ0_indexOf_7cf53_0 : decode cJ0_indexOf_7cf53 0 = .ok (.aload_n 0, 1) := by decide +kernel
theorem dJ0_indexOf_7cf53_1 : decode cJ0_indexOf_7cf53 1 = .ok (.invokevirtual 492, 3) := by decide +kernel
theorem dJ0_indexOf_7cf53_4 : decode cJ0_indexOf_7cf53 4 = .ok (.ifCond .eq 19, 3) := by decide +kernel
theorem dJ0_indexOf_7cf53_7 : decode cJ0_indexOf_7cf53 7 = .ok (.aload_n 0, 1) := by decide +kernel
theorem dJ0_indexOf_7cf53_8 : decode cJ0_indexOf_7cf53 8 = .ok (.getfield 9, 3) := by decide +kernel
theorem dJ0_indexOf_7cf53_11 : decode cJ0_indexOf_7cf53 11 = .ok (.iload_n 1, 1) := by decide +kernel
theorem dJ0_indexOf_7cf53_12 : decode cJ0_indexOf_7cf53 12 = .ok (.iload_n 2, 1) := by decide +kernel
theorem dJ0_indexOf_7cf53_13 : decode cJ0_indexOf_7cf53 13 = .ok (.aload_n 0, 1) := by decide +kernel
theorem dJ0_indexOf_7cf53_14 : decode cJ0_indexOf_7cf53 14 = .ok (.invokevirtual 505, 3) := by decide +kernel
theorem dJ0_indexOf_7cf53_17 : decode cJ0_indexOf_7cf53 17 = .ok (.invokestatic 637, 3) := by decide +kernel
theorem dJ0_indexOf_7cf53_20 : decode cJ0_indexOf_7cf53 20 = .ok (.goto 16, 3) := by decide +kernel
theorem dJ0_indexOf_7cf53_23 : decode cJ0_indexOf_7cf53 23 = .ok (.aload_n 0, 1) := by decide +kernel
theorem dJ0_indexOf_7cf53_24 : decode cJ0_indexOf_7cf53 24 = .ok (.getfield 9, 3) := by decide +kernel
theorem dJ0_indexOf_7cf53_27 : decode cJ0_indexOf_7cf53 27 = .ok (.iload_n 1, 1) := by decide +kernel
theorem dJ0_indexOf_7cf53_28 : decode cJ0_indexOf_7cf53 28 = .ok (.iload_n 2, 1) := by decide +kernel
theorem dJ0_indexOf_7cf53_29 : decode cJ0_indexOf_7cf53 29 = .ok (.aload_n 0, 1) := by decide +kernel
theorem dJ0_indexOf_7cf53_30 : decode cJ0_indexOf_7cf53 30 = .ok (.invokevirtual 505, 3) := by decide +kernel
theorem dJ0_indexOf_7cf53_33 : decode cJ0_indexOf_7cf53 33 = .ok (.invokestatic 640, 3) := by decide +kernel
theorem dJ0_indexOf_7cf53_36 : decode cJ0_indexOf_7cf53 36 = .ok (.ireturn, 1) := by decide +kernel
def wp_J0_indexOf_7cf53 (P : Int32 → HS → Prop) (x0 : Nat) (p0 : Int32) (p1 : Int32) (S : HS) : Prop := (p1 = (0 : Int32) ∧ ((Int32.ofNat (lenZ.getD x0 0)) >>> ((0 : Int32) &&& 31)) = Int32.ofNat (lenZ.getD x0 0) ∧ ∃ c : Nat, c < 65536 ∧ p0 = nI c) ∧ (P (ixZ x0 p0) S)
set_option maxRecDepth 100000 in
set_option maxHeartbeats 4000000 in
theorem t_J0_indexOf_7cf53 {p : Program} {l : Launch} {e : Env} {s : State} {m : MethodId} {args : Array Value} {below : List Frame} {meth : Method} {c : Code} {D : va_G} {A : Nat → Prop} {T : Nat → ClassId} (C : GC p s m args meth c cJ0_indexOf_7cf53 "java/lang/String" (ws_J0_indexOf_7cf53) 3 D A (zty T)) (E : GE T A s) (hr : meth.sig.returnType = (some .int)) (P : Int32 → HS → Prop) : ∀ (x0 : Nat) (p0 : Int32) (p1 : Int32) (S0 S : HS) (L : List Nat), S0 = S → wt S → hL S L → (x0 < 3) → wp_J0_indexOf_7cf53 P x0 p0 p1 S → GW p l e { rm_J0_indexOf_7cf53 with cells := 0, slots := 0 } s m args below meth c D A 3 0 0 (MQ below (va_Qi (fun v (u : HS × List Nat) => P v u.1 ∧ CO S0 u) (CE D T A) A) args s 0 0 A) (CW T S L) 0 0 0 [(0, .ref (T (100 + x0))), (1, .int p0), (2, .int p1)] [] := by
  have hW : ∀ {w : Cond}, w ∈ W0 → w.before args s = true := fun h => C.2.2.2.2.1 _ (List.mem_cons_of_mem _ h)
  intro x0 p0 p1 S0 S L hS0 hw hL hx0 h
  have he : ext S0 S := by rw [hS0]; exact ext_rf
  unfold wp_J0_indexOf_7cf53 at h
  refine g_aload_n C dJ0_indexOf_7cf53_0 rfl 0 rfl ?_
  refine gt_calliV (host := "") C E hw hL hx0 [] rfl (k_J0_isLatin1_aae02 l D T x0 S hx0) (w0_V 0 C.2.2.2.2.1 kw_606 kw_607 kw_608 kw_5 kw_609 rfl rfl (by decide +kernel) ⟨Nat.le_of_ble_eq_true rfl, Nat.le_of_ble_eq_true rfl⟩) rfl (Nat.le_of_ble_eq_true rfl) (Nat.le_refl _) (Nat.le_refl _) (Nat.zero_le _) (Nat.zero_le _) dJ0_indexOf_7cf53_1 (fun v9 S9 L1 he9 hw9 hL9 hp => ?_)
  obtain ⟨hv9, hs9⟩ := hp
  replace hs9 := hs9.symm
  subst hs9
  replace hv9 := hv9.symm
  subst hv9
  have w4 := hL9
  refine g_if_eq (tgt := 23) C dJ0_indexOf_7cf53_4 (by decide) (fun z => absurd z (by decide)) (fun _ => ?_)
  refine g_aload_n C dJ0_indexOf_7cf53_7 rfl 0 rfl ?_
  refine gt_val C E hx0 (hW kw_1691) dJ0_indexOf_7cf53_8 ?_
  refine g_iload_n C dJ0_indexOf_7cf53_11 rfl 1 rfl ?_
  refine g_iload_n C dJ0_indexOf_7cf53_12 rfl 2 rfl ?_
  refine g_aload_n C dJ0_indexOf_7cf53_13 rfl 0 rfl ?_
  refine gt_calliV (host := "") C E hw w4 hx0 [] rfl (k_J0_length_8abf5 l D T x0 S hx0) (w0_V 0 C.2.2.2.2.1 kw_611 kw_612 kw_613 kw_5 kw_614 rfl rfl (by decide +kernel) ⟨Nat.le_of_ble_eq_true rfl, Nat.le_of_ble_eq_true rfl⟩) rfl (Nat.le_of_ble_eq_true rfl) (Nat.le_refl _) (Nat.le_refl _) (Nat.zero_le _) (Nat.zero_le _) dJ0_indexOf_7cf53_14 (fun v9 S9 L5 he9 hw9 hL9 hp => ?_)
  obtain ⟨hv9, hs9⟩ := hp
  replace hs9 := hs9.symm
  subst hs9
  replace hv9 := hv9.symm
  subst hv9
  have w8 := hL9
  obtain ⟨g9, h⟩ := h
  refine gc_calliS (host := "") C E hw w8 [.ref (T (110 + x0)), .int p0, .int p1, .int ((Int32.ofNat (lenZ.getD x0 0)) >>> ((0 : Int32) &&& 31))] rfl (k_J1_indexOf_4cfef l D T x0 p0 p1 ((Int32.ofNat (lenZ.getD x0 0)) >>> ((0 : Int32) &&& 31)) S hx0 g9) (w0_S 4 C.2.2.2.2.1 kw_619 kw_620 kw_24 kw_621 rfl rfl (by decide +kernel) ⟨Nat.le_of_ble_eq_true rfl, Nat.le_of_ble_eq_true rfl⟩) rfl (Nat.le_of_ble_eq_true rfl) (Nat.le_refl _) (Nat.le_refl _) (Nat.zero_le _) (Nat.zero_le _) dJ0_indexOf_7cf53_17 (fun v9 S9 L10 he9 hw9 hL9 hp => ?_)
  obtain ⟨hv9, hs9⟩ := hp
  replace hs9 := hs9.symm
  subst hs9
  replace hv9 := hv9.symm
  subst hv9
  have w13 := hL9
  refine g_goto (tgt := 36) C dJ0_indexOf_7cf53_20 (by decide) ?_
  exact gc_iret C hw w13 he hr dJ0_indexOf_7cf53_36 h
theorem c_J0_indexOf_7cf53 (l : Launch) (D : va_G) (T : Nat → ClassId) (x0 : Nat) (p0 : Int32) (p1 : Int32) (S : HS) (hx0 : x0 < 3) (P : Int32 → HS → Prop) (h : wp_J0_indexOf_7cf53 P x0 p0 p1 S) : CMi l yJ0_indexOf_7cf53 (ws_J0_indexOf_7cf53) rm_J0_indexOf_7cf53 D T [.ref (T (100 + x0)), .int p0, .int p1] S 0 0 P := gc_meti (by decide) rfl rfl (Nat.le_of_ble_eq_true rfl) (fun p e s m args below meth c A L C E hnm hr hw hL => t_J0_indexOf_7cf53 C E   hr P x0 p0 p1 S S L rfl hw hL hx0 h)
theorem k_J0_indexOf_7cf53 (l : Launch) (D : va_G) (T : Nat → ClassId) (x0 : Nat) (p0 : Int32) (p1 : Int32) (S : HS) (hx0 : x0 < 3) (h : p1 = (0 : Int32) ∧ ∃ c : Nat, c < 65536 ∧ p0 = nI c) : CMi l yJ0_indexOf_7cf53 (ws_J0_indexOf_7cf53) rm_J0_indexOf_7cf53 D T [.ref (T (100 + x0)), .int p0, .int p1] S 0 0 (fun v S1 => v = (ixZ x0 p0) ∧ S1 = S) := c_J0_indexOf_7cf53 l D T x0 p0 p1 S hx0 _ <|
  (by
    obtain ⟨e2, hc⟩ := h
    obtain ⟨hl, h9⟩ := lz_len x0 hx0
    unfold wp_J0_indexOf_7cf53
    refine ⟨⟨e2, ?_, hc⟩, rfl, rfl⟩
    have hs : ∀ i, i < 3 → (Int32.ofNat (lenZ.getD i 0)) >>> ((0 : Int32) &&& 31) = Int32.ofNat (lenZ.getD i 0) := by decide
    exact hs x0 hx0)
abbrev ws_J0_indexOf_0f7a4 : List Cond := Cond.code yJ0_indexOf_0f7a4 cJ0_indexOf_0f7a4 2 (some .int) :: W0
abbrev rm_J0_indexOf_0f7a4 : Room := ({ frames := 11, cells := 0, slots := 0, locals := 500 } : Room)
theorem dJ0_indexOf_0f7a4_0 : decode cJ0_indexOf_0f7a4 0 = .ok (.aload_n 0, 1) := by decide +kernel
theorem dJ0_indexOf_0f7a4_1 : decode cJ0_indexOf_0f7a4 1 = .ok (.iload_n 1, 1) := by decide +kernel
theorem dJ0_indexOf_0f7a4_2 : decode cJ0_indexOf_0f7a4 2 = .ok (.iconst 0, 1) := by decide +kernel
theorem dJ0_indexOf_0f7a4_3 : decode cJ0_indexOf_0f7a4 3 = .ok (.invokevirtual 633, 3) := by decide +kernel
theorem dJ0_indexOf_0f7a4_6 : decode cJ0_indexOf_0f7a4 6 = .ok (.ireturn, 1) := by decide +kernel
def wp_J0_indexOf_0f7a4 (P : Int32 → HS → Prop) (x0 : Nat) (p0 : Int32) (S : HS) : Prop := (0 = (0 : Int32) ∧ ∃ c : Nat, c < 65536 ∧ p0 = nI c) ∧ (P (ixZ x0 p0) S)
set_option maxRecDepth 100000 in
set_option maxHeartbeats 4000000 in
theorem t_J0_indexOf_0f7a4 {p : Program} {l : Launch} {e : Env} {s : State} {m : MethodId} {args : Array Value} {below : List Frame} {meth : Method} {c : Code} {D : va_G} {A : Nat → Prop} {T : Nat → ClassId} (C : GC p s m args meth c cJ0_indexOf_0f7a4 "java/lang/String" (ws_J0_indexOf_0f7a4) 2 D A (zty T)) (E : GE T A s) (hr : meth.sig.returnType = (some .int)) (P : Int32 → HS → Prop) : ∀ (x0 : Nat) (p0 : Int32) (S0 S : HS) (L : List Nat), S0 = S → wt S → hL S L → (x0 < 3) → wp_J0_indexOf_0f7a4 P x0 p0 S → GW p l e { rm_J0_indexOf_0f7a4 with cells := 0, slots := 0 } s m args below meth c D A 2 0 0 (MQ below (va_Qi (fun v (u : HS × List Nat) => P v u.1 ∧ CO S0 u) (CE D T A) A) args s 0 0 A) (CW T S L) 0 0 0 [(0, .ref (T (100 + x0))), (1, .int p0)] [] := by
  have hW : ∀ {w : Cond}, w ∈ W0 → w.before args s = true := fun h => C.2.2.2.2.1 _ (List.mem_cons_of_mem _ h)
  intro x0 p0 S0 S L hS0 hw hL hx0 h
  have he : ext S0 S := by rw [hS0]; exact ext_rf
  unfold wp_J0_indexOf_0f7a4 at h
  refine g_aload_n C dJ0_indexOf_0f7a4_0 rfl 0 rfl ?_
  refine g_iload_n C dJ0_indexOf_0f7a4_1 rfl 1 rfl ?_
  refine g_iconst (v := 0) C dJ0_indexOf_0f7a4_2 (by decide) ?_
  obtain ⟨g1, h⟩ := h
  refine gt_calliV (host := "") C E hw hL hx0 [.int p0, .int 0] rfl (k_J0_indexOf_7cf53 l D T x0 p0 0 S hx0 g1) (w0_V 2 C.2.2.2.2.1 kw_602 kw_603 kw_604 kw_5 kw_605 rfl rfl (by decide +kernel) ⟨Nat.le_of_ble_eq_true rfl, Nat.le_of_ble_eq_true rfl⟩) rfl (Nat.le_of_ble_eq_true rfl) (Nat.le_refl _) (Nat.le_refl _) (Nat.zero_le _) (Nat.zero_le _) dJ0_indexOf_0f7a4_3 (fun v9 S9 L2 he9 hw9 hL9 hp => ?_)
  obtain ⟨hv9, hs9⟩ := hp
  replace hs9 := hs9.symm
  subst hs9
  replace hv9 := hv9.symm
  subst hv9
  have w5 := hL9
  exact gc_iret C hw w5 he hr dJ0_indexOf_0f7a4_6 h
theorem c_J0_indexOf_0f7a4 (l : Launch) (D : va_G) (T : Nat → ClassId) (x0 : Nat) (p0 : Int32) (S : HS) (hx0 : x0 < 3) (P : Int32 → HS → Prop) (h : wp_J0_indexOf_0f7a4 P x0 p0 S) : CMi l yJ0_indexOf_0f7a4 (ws_J0_indexOf_0f7a4) rm_J0_indexOf_0f7a4 D T [.ref (T (100 + x0)), .int p0] S 0 0 P := gc_meti (by decide) rfl rfl (Nat.le_of_ble_eq_true rfl) (fun p e s m args below meth c A L C E hnm hr hw hL => t_J0_indexOf_0f7a4 C E   hr P x0 p0 S S L rfl hw hL hx0 h)
theorem k_J0_indexOf_0f7a4 (l : Launch) (D : va_G) (T : Nat → ClassId) (x0 : Nat) (p0 : Int32) (S : HS) (hx0 : x0 < 3) (h : ∃ c : Nat, c < 65536 ∧ p0 = nI c) : CMi l yJ0_indexOf_0f7a4 (ws_J0_indexOf_0f7a4) rm_J0_indexOf_0f7a4 D T [.ref (T (100 + x0)), .int p0] S 0 0 (fun v S1 => v = (ixZ x0 p0) ∧ S1 = S) := c_J0_indexOf_0f7a4 l D T x0 p0 S hx0 _ <|
  (by
    unfold wp_J0_indexOf_0f7a4
    exact ⟨⟨rfl, h⟩, rfl, rfl⟩)
abbrev ws_X3_takeOneOf : List Cond := Cond.code yX3_takeOneOf cX3_takeOneOf 2 (some .char) :: W0
abbrev rm_X3_takeOneOf : Room := ({ frames := 12, cells := 0, slots := 0, locals := 521 } : Room)
def wp_X3_takeOneOf (P : Int32 → HS → Prop) (x0 : Nat) (p0 : Nat) (S : HS) : Prop := (¬ (hI S 83 x0) = 0 → (∀ S3 : HS, S3 = putI S 83 x0 1 → (vc 0 ∧ P 0 S3))) ∧ ((hI S 83 x0) = 0 → (((hI S 81 x0) ≤ (hI S 82 x0) → (∀ S10 : HS, S10 = putI S 83 x0 1 → (vc 0 ∧ P 0 S10))) ∧ (¬ (hI S 81 x0) ≤ (hI S 82 x0) → (∃ b16 : Nat, hR S 80 x0 = some b16 ∧ (hK S b16 = 21 → (vp_in (hI S 82 x0) (hN S b16) ∧ ((∃ c : Nat, c < 65536 ∧ (hA S b16 (Int32.toNatClampNeg (hI S 82 x0))) = nI c) ∧ ((0 ≤ (ixZ p0 (hA S b16 (Int32.toNatClampNeg (hI S 82 x0)))) → (∀ S26 : HS, S26 = putI S 82 x0 ((hI S 82 x0) + 1) → (∃ b32 : Nat, hR S26 80 x0 = some b32 ∧ (hK S26 b32 = 21 → (vp_in ((hI S26 82 x0) - 1) (hN S26 b32) ∧ (vc (hA S26 b32 (Int32.toNatClampNeg ((hI S26 82 x0) - 1))) ∧ P (hA S26 b32 (Int32.toNatClampNeg ((hI S26 82 x0) - 1))) S26)))))) ∧ (¬ 0 ≤ (ixZ p0 (hA S b16 (Int32.toNatClampNeg (hI S 82 x0)))) → (∀ S36 : HS, S36 = putI S 83 x0 1 → (vc 0 ∧ P 0 S36)))))))))))
set_option maxRecDepth 100000 in
set_option maxHeartbeats 4000000 in
theorem t_X3_takeOneOf {p : Program} {l : Launch} {e : Env} {s : State} {m : MethodId} {args : Array Value} {below : List Frame} {meth : Method} {c : Code} {D : va_G} {A : Nat → Prop} {T : Nat → ClassId} (C : GC p s m args meth c cX3_takeOneOf "FreightRater$Reader" (ws_X3_takeOneOf) 2 D A (zty T)) (E : GE T A s) (hr : meth.sig.returnType = (some .char)) (P : Int32 → HS → Prop) : ∀ (x0 : Nat) (p0 : Nat) (S0 S : HS) (L : List Nat), S0 = S → wt S → hL S L → (hK S x0 = 4) → (p0 < 3) → wp_X3_takeOneOf P x0 p0 S → GW p l e { rm_X3_takeOneOf with cells := 0, slots := 0 } s m args below meth c D A 2 0 0 (MQ below (va_Qi (fun v (u : HS × List Nat) => P v u.1 ∧ CO S0 u) (CE D T A) A) args s 0 0 A) (CW T S L) 0 0 0 [(0, .ref x0), (1, .ref (T (100 + p0)))] [] := by
  have hW : ∀ {w : Cond}, w ∈ W0 → w.before args s = true := fun h => C.2.2.2.2.1 _ (List.mem_cons_of_mem _ h)
  intro x0 p0 S0 S L hS0 hw hL hx0 hp0 h
  have he : ext S0 S := by rw [hS0]; exact ext_rf
  unfold wp_X3_takeOneOf at h
  refine g_aload_n C dX3_takeOneOf_0 rfl 0 rfl ?_
  refine gc_getI C iwx_X3 hL hx0 (by decide) (by decide) rfl 3 (by decide) (hW kw_547) rfl rfl rfl dX3_takeOneOf_1 ?_
  refine g_if_ne (tgt := 34) C dX3_takeOneOf_4 (by decide) (fun z1 => ?_) (fun z1 => ?_)
  · replace h := h.1 z1
    refine g_aload_n C dX3_takeOneOf_34 rfl 0 rfl ?_
    refine g_iconst (v := 1) C dX3_takeOneOf_35 (by decide) ?_
    refine gc_putI C iwx_X3 hL hx0 (by decide) (by decide) rfl 3 (by decide) (hW kw_547) rfl tyX3 tyX3_ok nmX3 rfl rfl rfl (vz_n vz1) (vz_f vz1) dX3_takeOneOf_36 ?_
    have w2 := wt_putI hw 83 1 (k_ne hx0 (by decide))
    refine gc_nS (fun S3 eS3 => ?_)
    replace h := h S3 eS3
    have w4 : wt S3 := by rw [eS3]; exact w2
    have w5 : isL S3 L := by rw [eS3]; exact hL
    have w6 : ext S0 S3 := by rw [eS3]; exact he
    have g7 : hK S3 x0 = 4 := by rw [eS3]; exact hx0
    refine g_iconst (v := 0) C dX3_takeOneOf_39 (by decide) ?_
    exact gc_cret C h.1 w4 w5 w6 hr dX3_takeOneOf_40 h.2
  · replace h := h.2 z1
    refine g_aload_n C dX3_takeOneOf_7 rfl 0 rfl ?_
    refine gc_getI C iwx_X3 hL hx0 (by decide) (by decide) rfl 2 (by decide) (hW kw_545) rfl rfl rfl dX3_takeOneOf_8 ?_
    refine g_aload_n C dX3_takeOneOf_11 rfl 0 rfl ?_
    refine gc_getI C iwx_X3 hL hx0 (by decide) (by decide) rfl 1 (by decide) (hW kw_544) rfl rfl rfl dX3_takeOneOf_12 ?_
    refine g_icmp_ge (tgt := 34) C dX3_takeOneOf_15 (by decide) (fun z8 => ?_) (fun z8 => ?_)
    · replace h := h.1 z8
      refine g_aload_n C dX3_takeOneOf_34 rfl 0 rfl ?_
      refine g_iconst (v := 1) C dX3_takeOneOf_35 (by decide) ?_
      refine gc_putI C iwx_X3 hL hx0 (by decide) (by decide) rfl 3 (by decide) (hW kw_547) rfl tyX3 tyX3_ok nmX3 rfl rfl rfl (vz_n vz1) (vz_f vz1) dX3_takeOneOf_36 ?_
      have w9 := wt_putI hw 83 1 (k_ne hx0 (by decide))
      refine gc_nS (fun S10 eS10 => ?_)
      replace h := h S10 eS10
      have w11 : wt S10 := by rw [eS10]; exact w9
      have w12 : isL S10 L := by rw [eS10]; exact hL
      have w13 : ext S0 S10 := by rw [eS10]; exact he
      have g14 : hK S10 x0 = 4 := by rw [eS10]; exact hx0
      refine g_iconst (v := 0) C dX3_takeOneOf_39 (by decide) ?_
      exact gc_cret C h.1 w11 w12 w13 hr dX3_takeOneOf_40 h.2
    · replace h := h.2 z8
      refine g_aload_n C dX3_takeOneOf_18 rfl 1 rfl ?_
      refine g_aload_n C dX3_takeOneOf_19 rfl 0 rfl ?_
      refine gc_getR C hw iwx_X3 hL hx0 (by decide) (by decide) rfl 0 (by decide) (hW kw_543) rfl rfl rfl dX3_takeOneOf_20 (fun o15 eo15 ko15 => ?_)
      obtain ⟨b16, hb9, h⟩ := h
      have g17 : hK S b16 = 21 := ko15 b16 (eo15.trans hb9)
      replace h := h g17
      refine g_opt (eo15.trans hb9) ?_
      refine g_aload_n C dX3_takeOneOf_23 rfl 0 rfl ?_
      refine gc_getI C iwx_X3 hL hx0 (by decide) (by decide) rfl 2 (by decide) (hW kw_545) rfl rfl rfl dX3_takeOneOf_24 ?_
      obtain ⟨g18, h⟩ := h
      refine gc_cald C hL g17 g18 dX3_takeOneOf_27 ?_
      obtain ⟨g19, h⟩ := h
      refine gt_calliV (host := "") C E hw hL hp0 [.int (hA S b16 (Int32.toNatClampNeg (hI S 82 x0)))] rfl (k_J0_indexOf_0f7a4 l D T p0 (hA S b16 (Int32.toNatClampNeg (hI S 82 x0))) S hp0 g19) (w0_V 1 C.2.2.2.2.1 kw_598 kw_599 kw_600 kw_5 kw_601 rfl rfl (by decide +kernel) ⟨Nat.le_of_ble_eq_true rfl, Nat.le_of_ble_eq_true rfl⟩) rfl (Nat.le_of_ble_eq_true rfl) (Nat.le_refl _) (Nat.le_refl _) (Nat.zero_le _) (Nat.zero_le _) dX3_takeOneOf_28 (fun v9 S9 L20 he9 hw9 hL9 hp => ?_)
      obtain ⟨hv9, hs9⟩ := hp
      replace hs9 := hs9.symm
      subst hs9
      replace hv9 := hv9.symm
      subst hv9
      have w23 := hL9
      refine g_if_ge (tgt := 41) C dX3_takeOneOf_31 (by decide) (fun z24 => ?_) (fun z24 => ?_)
      · replace h := h.1 z24
        refine g_aload_n C dX3_takeOneOf_41 rfl 0 rfl ?_
        refine g_dup C dX3_takeOneOf_42 rfl ?_
        refine gc_getI C iwx_X3 w23 hx0 (by decide) (by decide) rfl 2 (by decide) (hW kw_545) rfl rfl rfl dX3_takeOneOf_43 ?_
        refine g_iconst (v := 1) C dX3_takeOneOf_46 (by decide) ?_
        refine g_iadd C dX3_takeOneOf_47 ?_
        refine gc_putI C iwx_X3 w23 hx0 (by decide) (by decide) rfl 2 (by decide) (hW kw_545) rfl tyX3 tyX3_ok nmX3 rfl rfl rfl rfl rfl dX3_takeOneOf_48 ?_
        have w25 := wt_putI hw 82 ((hI S 82 x0) + 1) (k_ne hx0 (by decide))
        refine gc_nS (fun S26 eS26 => ?_)
        replace h := h S26 eS26
        have w27 : wt S26 := by rw [eS26]; exact w25
        have w28 : isL S26 L20 := by rw [eS26]; exact w23
        have w29 : ext S0 S26 := by rw [eS26]; exact he
        have g30 : hK S26 x0 = 4 := by rw [eS26]; exact hx0
        refine g_aload_n C dX3_takeOneOf_51 rfl 0 rfl ?_
        refine gc_getR C w27 iwx_X3 w28 g30 (by decide) (by decide) rfl 0 (by decide) (hW kw_543) rfl rfl rfl dX3_takeOneOf_52 (fun o31 eo31 ko31 => ?_)
        obtain ⟨b32, hb9, h⟩ := h
        have g33 : hK S26 b32 = 21 := ko31 b32 (eo31.trans hb9)
        replace h := h g33
        refine g_opt (eo31.trans hb9) ?_
        refine g_aload_n C dX3_takeOneOf_55 rfl 0 rfl ?_
        refine gc_getI C iwx_X3 w28 g30 (by decide) (by decide) rfl 2 (by decide) (hW kw_545) rfl rfl rfl dX3_takeOneOf_56 ?_
        refine g_iconst (v := 1) C dX3_takeOneOf_59 (by decide) ?_
        refine g_isub C dX3_takeOneOf_60 ?_
        obtain ⟨g34, h⟩ := h
        refine gc_cald C w28 g33 g34 dX3_takeOneOf_61 ?_
        exact gc_cret C h.1 w27 w28 w29 hr dX3_takeOneOf_62 h.2
      · replace h := h.2 z24
        refine g_aload_n C dX3_takeOneOf_34 rfl 0 rfl ?_
        refine g_iconst (v := 1) C dX3_takeOneOf_35 (by decide) ?_
        refine gc_putI C iwx_X3 w23 hx0 (by decide) (by decide) rfl 3 (by decide) (hW kw_547) rfl tyX3 tyX3_ok nmX3 rfl rfl rfl (vz_n vz1) (vz_f vz1) dX3_takeOneOf_36 ?_
        have w35 := wt_putI hw 83 1 (k_ne hx0 (by decide))
        refine gc_nS (fun S36 eS36 => ?_)
        replace h := h S36 eS36
        have w37 : wt S36 := by rw [eS36]; exact w35
        have w38 : isL S36 L20 := by rw [eS36]; exact w23
        have w39 : ext S0 S36 := by rw [eS36]; exact he
        have g40 : hK S36 x0 = 4 := by rw [eS36]; exact hx0
        refine g_iconst (v := 0) C dX3_takeOneOf_39 (by decide) ?_
        exact gc_cret C h.1 w37 w38 w39 hr dX3_takeOneOf_40 h.2
theorem c_X3_takeOneOf (l : Launch) (D : va_G) (T : Nat → ClassId) (x0 : Nat) (p0 : Nat) (S : HS) (hx0 : hK S x0 = 4) (hp0 : p0 < 3) (P : Int32 → HS → Prop) (h : wp_X3_takeOneOf P x0 p0 S) : CMi l yX3_takeOneOf (ws_X3_takeOneOf) rm_X3_takeOneOf D T [.ref x0, .ref (T (100 + p0))] S 0 0 P := gc_meti (by decide) rfl rfl (Nat.le_of_ble_eq_true rfl) (fun p e s m args below meth c A L C E hnm hr hw hL => t_X3_takeOneOf C E   hr P x0 p0 S S L rfl hw hL hx0 hp0 h)
theorem k_X3_takeOneOf (l : Launch) (D : va_G) (T : Nat → ClassId) (x0 : Nat) (p0 : Nat) (S : HS) (e0 : Nat → Int32) (e1 : Nat) (e2 : PS) (hx0 : hK S x0 = 4) (hp0 : p0 < 3) (h : RdO S x0 e0 e1 e2 ∧ chO e0 e1) : CMi l yX3_takeOneOf (ws_X3_takeOneOf) rm_X3_takeOneOf D T [.ref x0, .ref (T (100 + p0))] S 0 0 (fun v S1 => (v = (if toB e0 e1 e2 p0 = true then e0 e2.1 else 0) ∧ c3 S S1 x0 [82, 83] ∧ RdO S1 x0 e0 e1 (toS e0 e1 e2 p0))) := c_X3_takeOneOf l D T x0 p0 S hx0 hp0 _ <|
  (by
    obtain ⟨h, hch⟩ := h
    have h0 := h
    obtain ⟨h1, h2, h3, h4, h5, t, r1, r2, r3, r4⟩ := h0
    have no : toB e0 e1 e2 p0 = false → ∀ S3 : HS, S3 = putI S 83 x0 1 → vc 0 ∧ (0 : Int32) = (if toB e0 e1 e2 p0 = true then e0 e2.1 else 0) ∧ c3 S S3 x0 [82, 83] ∧ RdO S3 x0 e0 e1 (toS e0 e1 e2 p0) := fun e S3 es => by
      unfold toS
      rw [e]
      exact ⟨vc_n (n := 0) (by decide), rfl, h.bad es⟩
    unfold wp_X3_takeOneOf
    rw [h.lt]
    refine ⟨fun c => no ?_, fun c => ⟨fun c2 => no ?_, fun c2 => ⟨t, r1, fun _ => ?_⟩⟩⟩
    · unfold toB; rw [h.f1 c]; rfl
    · unfold toB; rw [decide_eq_false (by omega), Bool.false_and, Bool.and_false]
    · have hl : e2.1 < e1 := by omega
      obtain ⟨a1, a2⟩ := h.at hl r1
      have a3 : sg e0 e1 e2 = e0 e2.1 := by unfold sg; rw [if_pos hl]
      rw [show Int32.toNatClampNeg (hI S 82 x0) = iv (hI S 82 x0) from rfl, a2, a3]
      refine ⟨a1, (hch _ hl).2, fun c4 S26 e26 => ?_, fun c4 => no ?_⟩
      · rw [h1, nI_1] at e26
        have eB : toB e0 e1 e2 p0 = true := by
          unfold toB
          rw [h.f0 c, decide_eq_true hl, decide_eq_true c4]; rfl
        have k := h.nx hl (h.f0 c) e26
        refine ⟨t, by rw [e26, px_RI]; exact r1, fun _ => ?_⟩
        have e82 : hI S26 82 x0 - 1 = nI e2.1 := by rw [e26, putI_s]; exact sub_k (b := 1) (by omega)
        rw [e82, show hN S26 t = 80 by rw [e26, px_NI]; exact r3, nz_vp (by omega) (by decide), nI_clamp (n := e2.1) (by omega), show hA S26 t e2.1 = e0 e2.1 by rw [e26, px_AI]; exact r4 _ hl]
        unfold toS
        rw [eB]
        exact ⟨by omega, (hch _ hl).1, rfl, k⟩
      · unfold toB
        rw [decide_eq_false c4, Bool.and_false, Bool.and_false])

end S_C6C
