section S_CAL
abbrev ws_J5_isLatin1_aae02 : List Cond := Cond.code yJ5_isLatin1_aae02 cJ5_isLatin1_aae02 1 (some .boolean) :: W0
abbrev rm_J5_isLatin1_aae02 : Room := ({ frames := 2, cells := 0, slots := 0, locals := 100 } : Room)
theorem dJ5_isLatin1_aae02_0 : decode cJ5_isLatin1_aae02 0 = .ok (.getstatic 18, 3) := by decide +kernel
theorem dJ5_isLatin1_aae02_3 : decode cJ5_isLatin1_aae02 3 = .ok (.ifCond .eq 14, 3) := by decide +kernel
theorem dJ5_isLatin1_aae02_6 : decode cJ5_isLatin1_aae02 6 = .ok (.aload_n 0, 1) := by decide +kernel
theorem dJ5_isLatin1_aae02_7 : decode cJ5_isLatin1_aae02 7 = .ok (.getfield 22, 3) := by decide +kernel
theorem dJ5_isLatin1_aae02_10 : decode cJ5_isLatin1_aae02 10 = .ok (.ifCond .ne 7, 3) := by decide +kernel
theorem dJ5_isLatin1_aae02_13 : decode cJ5_isLatin1_aae02 13 = .ok (.iconst 1, 1) := by decide +kernel
theorem dJ5_isLatin1_aae02_14 : decode cJ5_isLatin1_aae02 14 = .ok (.goto 4, 3) := by decide +kernel
theorem dJ5_isLatin1_aae02_17 : decode cJ5_isLatin1_aae02 17 = .ok (.iconst 0, 1) := by decide +kernel
theorem dJ5_isLatin1_aae02_18 : decode cJ5_isLatin1_aae02 18 = .ok (.ireturn, 1) := by decide +kernel
def wp_J5_isLatin1_aae02 (P : Int32 → HS → Prop) (x0 : Nat) (S : HS) : Prop := (¬ (hI S 241 x0) = 0 → (P 0 S)) ∧ ((hI S 241 x0) = 0 → (P 1 S))
set_option maxRecDepth 100000 in
set_option maxHeartbeats 4000000 in
theorem t_J5_isLatin1_aae02 {p : Program} {l : Launch} {e : Env} {s : State} {m : MethodId} {args : Array Value} {below : List Frame} {meth : Method} {c : Code} {D : va_G} {A : Nat → Prop} {T : Nat → ClassId} (C : GC p s m args meth c cJ5_isLatin1_aae02 "java/lang/AbstractStringBuilder" (ws_J5_isLatin1_aae02) 1 D A (zty T)) (E : GE T A s) (hr : meth.sig.returnType = (some .boolean)) (P : Int32 → HS → Prop) : ∀ (x0 : Nat) (S0 S : HS) (L : List Nat), S0 = S → wt S → hL S L → (hK S x0 = 12) → wp_J5_isLatin1_aae02 P x0 S → GW p l e { rm_J5_isLatin1_aae02 with cells := 0, slots := 0 } s m args below meth c D A 1 0 0 (MQ below (va_Qi (fun v (u : HS × List Nat) => P v u.1 ∧ CO S0 u) (CE D T A) A) args s 0 0 A) (CW T S L) 0 0 0 [(0, .ref x0)] [] := by
  have hW : ∀ {w : Cond}, w ∈ W0 → w.before args s = true := fun h => C.2.2.2.2.1 _ (List.mem_cons_of_mem _ h)
  intro x0 S0 S L hS0 hw hL hx0 h
  have he : ext S0 S := by rw [hS0]; exact ext_rf
  unfold wp_J5_isLatin1_aae02 at h
  refine gt_gets C E.2.2.2.2.2.2.2.2.2.2.1 (hW kw_102) (fun _ z => z) dJ5_isLatin1_aae02_0 ?_
  refine g_if_eq (tgt := 17) C dJ5_isLatin1_aae02_3 (by decide) (fun z => absurd z (by decide)) (fun _ => ?_)
  refine g_aload_n C dJ5_isLatin1_aae02_6 rfl 0 rfl ?_
  refine gt_getI C iwx_J4 hL hx0 (by decide) (by decide) rfl 1 (by decide) (hW kw_112) (fun _ z => z) rfl rfl dJ5_isLatin1_aae02_7 ?_
  refine g_if_ne (tgt := 17) C dJ5_isLatin1_aae02_10 (by decide) (fun z1 => ?_) (fun z1 => ?_)
  · replace h := h.1 z1
    refine g_iconst (v := 0) C dJ5_isLatin1_aae02_17 (by decide) ?_
    exact gc_zret C vz0 hw hL he hr dJ5_isLatin1_aae02_18 h
  · replace h := h.2 z1
    refine g_iconst (v := 1) C dJ5_isLatin1_aae02_13 (by decide) ?_
    refine g_goto (tgt := 18) C dJ5_isLatin1_aae02_14 (by decide) ?_
    exact gc_zret C vz1 hw hL he hr dJ5_isLatin1_aae02_18 h
theorem c_J5_isLatin1_aae02 (l : Launch) (D : va_G) (T : Nat → ClassId) (x0 : Nat) (S : HS) (hx0 : hK S x0 = 12) (P : Int32 → HS → Prop) (h : wp_J5_isLatin1_aae02 P x0 S) : CMi l yJ5_isLatin1_aae02 (ws_J5_isLatin1_aae02) rm_J5_isLatin1_aae02 D T [.ref x0] S 0 0 P := gc_meti (by decide) rfl rfl (Nat.le_of_ble_eq_true rfl) (fun p e s m args below meth c A L C E hnm hr hw hL => t_J5_isLatin1_aae02 C E   hr P x0 S S L rfl hw hL hx0 h)
theorem by_cv : ∀ c, c < 128 → vp_nar .byte ((Int32.toInt8 (nI c)).toInt32) = nI c := by decide +kernel
theorem by_ch : ∀ c, c < 128 → (Int32.toUInt32 ((nI c) &&& 255) % 65536).toInt32 = nI c := by decide +kernel
theorem nuL_l (n : Nat) : (nuL n).length = if n < 10 then 1 else if n < 100 then 2 else if n < 1000 then 3 else 4 := by
  unfold nuL
  rw [dgL_len]
  repeat' split
  all_goals first | omega | rfl
theorem nu_1 {n : Nat} (h : n < 10) : nuL n = [nI (48 + n % 10)] := by
  unfold nuL
  rw [if_pos h]
  rfl
theorem nu_2 {n : Nat} (h : 10 ≤ n) (h2 : n < 100) : nuL n = [nI (48 + n / 10 % 10), nI (48 + n % 10)] := by
  unfold nuL
  rw [if_neg (by omega), if_pos h2]
  rfl
theorem nu_3 {n : Nat} (h : 100 ≤ n) (h2 : n < 1000) : nuL n = [nI (48 + n / 100 % 10), nI (48 + n / 10 % 10), nI (48 + n % 10)] := by
  unfold nuL
  rw [if_neg (by omega), if_neg (by omega), if_pos h2]
  rfl
theorem nu_4 {n : Nat} (h : 1000 ≤ n) : nuL n = [nI (48 + n / 1000 % 10), nI (48 + n / 100 % 10), nI (48 + n / 10 % 10), nI (48 + n % 10)] := by
  unfold nuL
  rw [if_neg (by omega), if_neg (by omega), if_neg (by omega)]
  rfl
theorem aoN.rf {S : HS} {r : Nat} : aoN S S r := ⟨rfl, rfl, rfl, rfl, rfl, fun _ _ => rfl⟩
theorem aoN.pA {S S1 : HS} {r : Nat} (h : aoN S S1 r) (i : Nat) (v : Int32) : aoN S (putA S1 r i v) r := by
  obtain ⟨h1, h2, h3, h4, h5, h6⟩ := h
  exact ⟨by rw [px_KA]; exact h1, by rw [px_NA]; exact h2, by rw [px_IA]; exact h3, by rw [px_RA]; exact h4, by rw [px_BA]; exact h5, fun b hb => by rw [putA_o _ _ _ hb]; exact h6 b hb⟩
theorem pa_at (S : HS) (r i : Nat) (v : Int32) (j : Nat) : hA (putA S r i v) r j = if j = i then v else hA S r j := by
  rw [px_AA]
  by_cases h : j = i
  · rw [if_pos ⟨rfl, h⟩, if_pos h]
  · rw [if_neg (fun z => h z.2), if_neg h]
theorem dg_n (k : Nat) : vp_nar .byte (dgO k) = nI (48 + k % 10) := by_nar (48 + k % 10) (by omega)
theorem dg_t {k : Nat} (h : k < 100) : vp_nar .byte (dgT k) = nI (48 + k / 10) := by_nar (48 + k / 10) (by omega)
theorem frM.aa {S S1 : HS} {M : Nat → Prop} (h : frM S S1 M) {q : Nat} (hq : hK S q = 0) (row : Nat → Int32) : frM S (putAA S1 q row) M := fun b hb h0 => by
  obtain ⟨k, n, e, r, c, d⟩ := h b hb h0
  exact ⟨k, n, e, r, by rw [aa_A, if_neg (fun z => h0 (by rw [z]; exact hq))]; exact c, d⟩
theorem k_J5_isLatin1_aae02 (l : Launch) (D : va_G) (T : Nat → ClassId) (x0 : Nat) (S : HS) (hx0 : hK S x0 = 12) (h : hI S 241 x0 = 0) : CMi l yJ5_isLatin1_aae02 (ws_J5_isLatin1_aae02) rm_J5_isLatin1_aae02 D T [.ref x0] S 0 0 (fun v S1 => v = (1) ∧ S1 = S) := c_J5_isLatin1_aae02 l D T x0 S hx0 _ <|
  (by
    unfold wp_J5_isLatin1_aae02
    exact ⟨fun z => absurd h z, fun _ => ⟨rfl, rfl⟩⟩)
abbrev ws_J1_canEncode_fc78d : List Cond := Cond.code yJ1_canEncode_fc78d cJ1_canEncode_fc78d 1 (some .boolean) :: W0
abbrev rm_J1_canEncode_fc78d : Room := ({ frames := 2, cells := 0, slots := 0, locals := 100 } : Room)
theorem dJ1_canEncode_fc78d_0 : decode cJ1_canEncode_fc78d 0 = .ok (.iload_n 0, 1) := by decide +kernel
theorem dJ1_canEncode_fc78d_1 : decode cJ1_canEncode_fc78d 1 = .ok (.sipush 255, 3) := by decide +kernel
theorem dJ1_canEncode_fc78d_4 : decode cJ1_canEncode_fc78d 4 = .ok (.if_icmp .gt 7, 3) := by decide +kernel
theorem dJ1_canEncode_fc78d_7 : decode cJ1_canEncode_fc78d 7 = .ok (.iconst 1, 1) := by decide +kernel
theorem dJ1_canEncode_fc78d_8 : decode cJ1_canEncode_fc78d 8 = .ok (.goto 4, 3) := by decide +kernel
theorem dJ1_canEncode_fc78d_11 : decode cJ1_canEncode_fc78d 11 = .ok (.iconst 0, 1) := by decide +kernel
theorem dJ1_canEncode_fc78d_12 : decode cJ1_canEncode_fc78d 12 = .ok (.ireturn, 1) := by decide +kernel
def wp_J1_canEncode_fc78d (P : Int32 → HS → Prop) (p0 : Int32) (S : HS) : Prop := (255 < p0 → (P 0 S)) ∧ (¬ 255 < p0 → (P 1 S))
set_option maxRecDepth 100000 in
set_option maxHeartbeats 4000000 in
theorem t_J1_canEncode_fc78d {p : Program} {l : Launch} {e : Env} {s : State} {m : MethodId} {args : Array Value} {below : List Frame} {meth : Method} {c : Code} {D : va_G} {A : Nat → Prop} {T : Nat → ClassId} (C : GC p s m args meth c cJ1_canEncode_fc78d "java/lang/StringLatin1" (ws_J1_canEncode_fc78d) 1 D A (zty T)) (E : GE T A s) (hr : meth.sig.returnType = (some .boolean)) (P : Int32 → HS → Prop) : ∀ (p0 : Int32) (S0 S : HS) (L : List Nat), S0 = S → wt S → hL S L → wp_J1_canEncode_fc78d P p0 S → GW p l e { rm_J1_canEncode_fc78d with cells := 0, slots := 0 } s m args below meth c D A 1 0 0 (MQ below (va_Qi (fun v (u : HS × List Nat) => P v u.1 ∧ CO S0 u) (CE D T A) A) args s 0 0 A) (CW T S L) 0 0 0 [(0, .int p0)] [] := by
  have hW : ∀ {w : Cond}, w ∈ W0 → w.before args s = true := fun h => C.2.2.2.2.1 _ (List.mem_cons_of_mem _ h)
  intro p0 S0 S L hS0 hw hL  h
  have he : ext S0 S := by rw [hS0]; exact ext_rf
  unfold wp_J1_canEncode_fc78d at h
  refine g_iload_n C dJ1_canEncode_fc78d_0 rfl 0 rfl ?_
  refine g_sipush (v := 255) C dJ1_canEncode_fc78d_1 (by decide) ?_
  refine g_icmp_gt (tgt := 11) C dJ1_canEncode_fc78d_4 (by decide) (fun z1 => ?_) (fun z1 => ?_)
  · replace h := h.1 z1
    refine g_iconst (v := 0) C dJ1_canEncode_fc78d_11 (by decide) ?_
    exact gc_zret C vz0 hw hL he hr dJ1_canEncode_fc78d_12 h
  · replace h := h.2 z1
    refine g_iconst (v := 1) C dJ1_canEncode_fc78d_7 (by decide) ?_
    refine g_goto (tgt := 12) C dJ1_canEncode_fc78d_8 (by decide) ?_
    exact gc_zret C vz1 hw hL he hr dJ1_canEncode_fc78d_12 h
theorem c_J1_canEncode_fc78d (l : Launch) (D : va_G) (T : Nat → ClassId) (p0 : Int32) (S : HS)  (P : Int32 → HS → Prop) (h : wp_J1_canEncode_fc78d P p0 S) : CMi l yJ1_canEncode_fc78d (ws_J1_canEncode_fc78d) rm_J1_canEncode_fc78d D T [.int p0] S 0 0 P := gc_meti (by decide) rfl rfl (Nat.le_of_ble_eq_true rfl) (fun p e s m args below meth c A L C E hnm hr hw hL => t_J1_canEncode_fc78d C E   hr P p0 S S L rfl hw hL  h)
theorem k_J1_canEncode_fc78d (l : Launch) (D : va_G) (T : Nat → ClassId) (p0 : Int32) (S : HS)  (h : ∃ c : Nat, c < 128 ∧ p0 = nI c) : CMi l yJ1_canEncode_fc78d (ws_J1_canEncode_fc78d) rm_J1_canEncode_fc78d D T [.int p0] S 0 0 (fun v S1 => v = (1) ∧ S1 = S) := c_J1_canEncode_fc78d l D T p0 S  _ <|
  (by
    obtain ⟨c, hc, e⟩ := h
    subst e
    unfold wp_J1_canEncode_fc78d
    exact ⟨fun z => absurd ((nI_ltI (a := 255) (by decide) (by omega)).mp z) (by omega), fun _ => ⟨rfl, rfl⟩⟩)
abbrev ws_J6_stringSize_0f7a4 : List Cond := Cond.code yJ6_stringSize_0f7a4 cJ6_stringSize_0f7a4 4 (some .int) :: W0
abbrev rm_J6_stringSize_0f7a4 : Room := ({ frames := 2, cells := 0, slots := 0, locals := 100 } : Room)
theorem dJ6_stringSize_0f7a4_0 : decode cJ6_stringSize_0f7a4 0 = .ok (.iconst 1, 1) := by decide +kernel
theorem dJ6_stringSize_0f7a4_1 : decode cJ6_stringSize_0f7a4 1 = .ok (.istore_n 1, 1) := by decide +kernel
theorem dJ6_stringSize_0f7a4_2 : decode cJ6_stringSize_0f7a4 2 = .ok (.iload_n 0, 1) := by decide +kernel
theorem dJ6_stringSize_0f7a4_3 : decode cJ6_stringSize_0f7a4 3 = .ok (.ifCond .lt 8, 3) := by decide +kernel
theorem dJ6_stringSize_0f7a4_6 : decode cJ6_stringSize_0f7a4 6 = .ok (.iconst 0, 1) := by decide +kernel
theorem dJ6_stringSize_0f7a4_7 : decode cJ6_stringSize_0f7a4 7 = .ok (.istore_n 1, 1) := by decide +kernel
theorem dJ6_stringSize_0f7a4_8 : decode cJ6_stringSize_0f7a4 8 = .ok (.iload_n 0, 1) := by decide +kernel
theorem dJ6_stringSize_0f7a4_9 : decode cJ6_stringSize_0f7a4 9 = .ok (.ineg, 1) := by decide +kernel
theorem dJ6_stringSize_0f7a4_10 : decode cJ6_stringSize_0f7a4 10 = .ok (.istore_n 0, 1) := by decide +kernel
theorem dJ6_stringSize_0f7a4_11 : decode cJ6_stringSize_0f7a4 11 = .ok (.bipush (-10), 2) := by decide +kernel
theorem dJ6_stringSize_0f7a4_13 : decode cJ6_stringSize_0f7a4 13 = .ok (.istore_n 2, 1) := by decide +kernel
theorem dJ6_stringSize_0f7a4_14 : decode cJ6_stringSize_0f7a4 14 = .ok (.iconst 1, 1) := by decide +kernel
theorem dJ6_stringSize_0f7a4_15 : decode cJ6_stringSize_0f7a4 15 = .ok (.istore_n 3, 1) := by decide +kernel
theorem dJ6_stringSize_0f7a4_16 : decode cJ6_stringSize_0f7a4 16 = .ok (.iload_n 3, 1) := by decide +kernel
theorem dJ6_stringSize_0f7a4_17 : decode cJ6_stringSize_0f7a4 17 = .ok (.bipush 10, 2) := by decide +kernel
theorem dJ6_stringSize_0f7a4_19 : decode cJ6_stringSize_0f7a4 19 = .ok (.if_icmp .ge 23, 3) := by decide +kernel
theorem dJ6_stringSize_0f7a4_22 : decode cJ6_stringSize_0f7a4 22 = .ok (.iload_n 0, 1) := by decide +kernel
theorem dJ6_stringSize_0f7a4_23 : decode cJ6_stringSize_0f7a4 23 = .ok (.iload_n 2, 1) := by decide +kernel
theorem dJ6_stringSize_0f7a4_24 : decode cJ6_stringSize_0f7a4 24 = .ok (.if_icmp .le 7, 3) := by decide +kernel
theorem dJ6_stringSize_0f7a4_27 : decode cJ6_stringSize_0f7a4 27 = .ok (.iload_n 3, 1) := by decide +kernel
theorem dJ6_stringSize_0f7a4_28 : decode cJ6_stringSize_0f7a4 28 = .ok (.iload_n 1, 1) := by decide +kernel
theorem dJ6_stringSize_0f7a4_29 : decode cJ6_stringSize_0f7a4 29 = .ok (.iadd, 1) := by decide +kernel
theorem dJ6_stringSize_0f7a4_30 : decode cJ6_stringSize_0f7a4 30 = .ok (.ireturn, 1) := by decide +kernel
theorem dJ6_stringSize_0f7a4_31 : decode cJ6_stringSize_0f7a4 31 = .ok (.bipush 10, 2) := by decide +kernel
theorem dJ6_stringSize_0f7a4_33 : decode cJ6_stringSize_0f7a4 33 = .ok (.iload_n 2, 1) := by decide +kernel
theorem dJ6_stringSize_0f7a4_34 : decode cJ6_stringSize_0f7a4 34 = .ok (.imul, 1) := by decide +kernel
theorem dJ6_stringSize_0f7a4_35 : decode cJ6_stringSize_0f7a4 35 = .ok (.istore_n 2, 1) := by decide +kernel
theorem dJ6_stringSize_0f7a4_36 : decode cJ6_stringSize_0f7a4 36 = .ok (.iinc 3 1, 3) := by decide +kernel
theorem dJ6_stringSize_0f7a4_39 : decode cJ6_stringSize_0f7a4 39 = .ok (.goto (-23), 3) := by decide +kernel
theorem dJ6_stringSize_0f7a4_42 : decode cJ6_stringSize_0f7a4 42 = .ok (.bipush 10, 2) := by decide +kernel
theorem dJ6_stringSize_0f7a4_44 : decode cJ6_stringSize_0f7a4 44 = .ok (.iload_n 1, 1) := by decide +kernel
theorem dJ6_stringSize_0f7a4_45 : decode cJ6_stringSize_0f7a4 45 = .ok (.iadd, 1) := by decide +kernel
theorem dJ6_stringSize_0f7a4_46 : decode cJ6_stringSize_0f7a4 46 = .ok (.ireturn, 1) := by decide +kernel
def wb_J6_stringSize_0f7a4_16 (rec : Int32 → Int32 → Int32 → Int32 → HS → Prop) (P : Int32 → HS → Prop) (x0 : Int32) (x1 : Int32) (x2 : Int32) (x3 : Int32) (S : HS) : Prop := (10 ≤ x3 → (P (10 + x1) S)) ∧ (¬ 10 ≤ x3 → ((x0 ≤ x2 → (∀ v4 : Int32, v4 = (10 * x2) → (∀ v5 : Int32, v5 = x3 + 1 → (rec x0 x1 v4 v5 S)))) ∧ (¬ x0 ≤ x2 → (P (x3 + x1) S))))
def wp_J6_stringSize_0f7a4_16 (P : Int32 → HS → Prop) : Nat → Int32 → Int32 → Int32 → Int32 → HS → Prop
  | 0 => fun _ _ _ _ _ => False
  | n + 1 => fun x0 x1 x2 x3 S => wb_J6_stringSize_0f7a4_16 (wp_J6_stringSize_0f7a4_16  P n)  P x0 x1 x2 x3 S
set_option maxRecDepth 100000 in
set_option maxHeartbeats 4000000 in
theorem t_J6_stringSize_0f7a4_16 {p : Program} {l : Launch} {e : Env} {s : State} {m : MethodId} {args : Array Value} {below : List Frame} {meth : Method} {c : Code} {D : va_G} {A : Nat → Prop} {T : Nat → ClassId} (C : GC p s m args meth c cJ6_stringSize_0f7a4 "java/lang/Integer" (ws_J6_stringSize_0f7a4) 4 D A (zty T)) (E : GE T A s) (hr : meth.sig.returnType = (some .int)) (S0 : HS) (P : Int32 → HS → Prop) : ∀ (n : Nat) (x0 : Int32) (x1 : Int32) (x2 : Int32) (x3 : Int32) (S : HS) (L : List Nat), wt S → hL S L → ext S0 S → wp_J6_stringSize_0f7a4_16  P n x0 x1 x2 x3 S → GW p l e { rm_J6_stringSize_0f7a4 with cells := 0, slots := 0 } s m args below meth c D A 4 0 0 (MQ below (va_Qi (fun v (u : HS × List Nat) => P v u.1 ∧ CO S0 u) (CE D T A) A) args s 0 0 A) (CW T S L) 0 0 16 [(0, .int x0), (1, .int x1), (2, .int x2), (3, .int x3)] [] := by
  have hW : ∀ {w : Cond}, w ∈ W0 → w.before args s = true := fun h => C.2.2.2.2.1 _ (List.mem_cons_of_mem _ h)
  intro n
  induction n with
  | zero => intro x0 x1 x2 x3 S L hw hL he  h; exact h.elim
  | succ n ih =>
    intro x0 x1 x2 x3 S L hw hL he  h
    replace h : wb_J6_stringSize_0f7a4_16 (wp_J6_stringSize_0f7a4_16  P n)  P x0 x1 x2 x3 S := h
    unfold wb_J6_stringSize_0f7a4_16 at h
    refine g_iload_n C dJ6_stringSize_0f7a4_16 rfl 3 rfl ?_
    refine g_bipush (v := 10) C dJ6_stringSize_0f7a4_17 (by decide) ?_
    refine g_icmp_ge (tgt := 42) C dJ6_stringSize_0f7a4_19 (by decide) (fun z2 => ?_) (fun z2 => ?_)
    · replace h := h.1 z2
      refine g_bipush (v := 10) C dJ6_stringSize_0f7a4_42 (by decide) ?_
      refine g_iload_n C dJ6_stringSize_0f7a4_44 rfl 1 rfl ?_
      refine g_iadd C dJ6_stringSize_0f7a4_45 ?_
      exact gc_iret C hw hL he hr dJ6_stringSize_0f7a4_46 h
    · replace h := h.2 z2
      refine g_iload_n C dJ6_stringSize_0f7a4_22 rfl 0 rfl ?_
      refine g_iload_n C dJ6_stringSize_0f7a4_23 rfl 2 rfl ?_
      refine g_icmp_le (tgt := 31) C dJ6_stringSize_0f7a4_24 (by decide) (fun z3 => ?_) (fun z3 => ?_)
      · replace h := h.1 z3
        refine g_bipush (v := 10) C dJ6_stringSize_0f7a4_31 (by decide) ?_
        refine g_iload_n C dJ6_stringSize_0f7a4_33 rfl 2 rfl ?_
        refine g_imul C dJ6_stringSize_0f7a4_34 ?_
        refine g_topi (fun v4 ev4 => ?_)
        replace h := h v4 ev4
        refine g_istore_n (lv' := [(2, .int v4), (0, .int x0), (1, .int x1), (3, .int x3)]) C dJ6_stringSize_0f7a4_35 rfl (by decide) rfl ?_
        obtain ⟨v5, ev5⟩ : ∃ y : Int32, y = x3 + 1 := ⟨_, rfl⟩
        replace h := h v5 ev5
        refine g_iinc (v := v5) (lv' := [(3, .int v5), (2, .int v4), (0, .int x0), (1, .int x1)]) C dJ6_stringSize_0f7a4_36 (j := 3) rfl (by rw [ev5]; rfl) (by decide) rfl ?_
        refine g_goto (tgt := 16) C dJ6_stringSize_0f7a4_39 (by decide) ?_
        refine g_locals [2, 3, 1, 0] rfl ?_
        exact ih x0 x1 v4 v5 S L hw hL he h
      · replace h := h.2 z3
        refine g_iload_n C dJ6_stringSize_0f7a4_27 rfl 3 rfl ?_
        refine g_iload_n C dJ6_stringSize_0f7a4_28 rfl 1 rfl ?_
        refine g_iadd C dJ6_stringSize_0f7a4_29 ?_
        exact gc_iret C hw hL he hr dJ6_stringSize_0f7a4_30 h
def wp_J6_stringSize_0f7a4 (P : Int32 → HS → Prop) (p0 : Int32) (S : HS) : Prop := (p0 < 0 → (∃ k6 : Nat, wp_J6_stringSize_0f7a4_16  P k6 p0 1 (-10) 1 S)) ∧ (¬ p0 < 0 → (∃ k7 : Nat, wp_J6_stringSize_0f7a4_16  P k7 (-p0) 0 (-10) 1 S))
set_option maxRecDepth 100000 in
set_option maxHeartbeats 4000000 in
theorem t_J6_stringSize_0f7a4 {p : Program} {l : Launch} {e : Env} {s : State} {m : MethodId} {args : Array Value} {below : List Frame} {meth : Method} {c : Code} {D : va_G} {A : Nat → Prop} {T : Nat → ClassId} (C : GC p s m args meth c cJ6_stringSize_0f7a4 "java/lang/Integer" (ws_J6_stringSize_0f7a4) 4 D A (zty T)) (E : GE T A s) (hr : meth.sig.returnType = (some .int)) (P : Int32 → HS → Prop) : ∀ (p0 : Int32) (S0 S : HS) (L : List Nat), S0 = S → wt S → hL S L → wp_J6_stringSize_0f7a4 P p0 S → GW p l e { rm_J6_stringSize_0f7a4 with cells := 0, slots := 0 } s m args below meth c D A 4 0 0 (MQ below (va_Qi (fun v (u : HS × List Nat) => P v u.1 ∧ CO S0 u) (CE D T A) A) args s 0 0 A) (CW T S L) 0 0 0 [(0, .int p0)] [] := by
  have hW : ∀ {w : Cond}, w ∈ W0 → w.before args s = true := fun h => C.2.2.2.2.1 _ (List.mem_cons_of_mem _ h)
  intro p0 S0 S L hS0 hw hL  h
  have he : ext S0 S := by rw [hS0]; exact ext_rf
  unfold wp_J6_stringSize_0f7a4 at h
  refine g_iconst (v := 1) C dJ6_stringSize_0f7a4_0 (by decide) ?_
  refine g_istore_n (lv' := [(1, .int 1), (0, .int p0)]) C dJ6_stringSize_0f7a4_1 rfl (by decide) rfl ?_
  refine g_iload_n C dJ6_stringSize_0f7a4_2 rfl 1 rfl ?_
  refine g_if_lt (tgt := 11) C dJ6_stringSize_0f7a4_3 (by decide) (fun z1 => ?_) (fun z1 => ?_)
  · replace h := h.1 z1
    refine g_bipush (v := -10) C dJ6_stringSize_0f7a4_11 (by decide) ?_
    refine g_istore_n (lv' := [(2, .int (-10)), (1, .int 1), (0, .int p0)]) C dJ6_stringSize_0f7a4_13 rfl (by decide) rfl ?_
    refine g_iconst (v := 1) C dJ6_stringSize_0f7a4_14 (by decide) ?_
    refine g_istore_n (lv' := [(3, .int 1), (2, .int (-10)), (1, .int 1), (0, .int p0)]) C dJ6_stringSize_0f7a4_15 rfl (by decide) rfl ?_
    refine g_locals [3, 2, 1, 0] rfl ?_
    obtain ⟨k6, h⟩ := h
    refine t_J6_stringSize_0f7a4_16 C E hr S0  P  k6 p0 1 (-10) 1 S L hw hL he h
  · replace h := h.2 z1
    refine g_iconst (v := 0) C dJ6_stringSize_0f7a4_6 (by decide) ?_
    refine g_istore_n (lv' := [(1, .int 0), (0, .int p0)]) C dJ6_stringSize_0f7a4_7 rfl (by decide) rfl ?_
    refine g_iload_n C dJ6_stringSize_0f7a4_8 rfl 1 rfl ?_
    refine g_ineg C dJ6_stringSize_0f7a4_9 ?_
    refine g_istore_n (lv' := [(0, .int (-p0)), (1, .int 0)]) C dJ6_stringSize_0f7a4_10 rfl (by decide) rfl ?_
    refine g_bipush (v := -10) C dJ6_stringSize_0f7a4_11 (by decide) ?_
    refine g_istore_n (lv' := [(2, .int (-10)), (0, .int (-p0)), (1, .int 0)]) C dJ6_stringSize_0f7a4_13 rfl (by decide) rfl ?_
    refine g_iconst (v := 1) C dJ6_stringSize_0f7a4_14 (by decide) ?_
    refine g_istore_n (lv' := [(3, .int 1), (2, .int (-10)), (0, .int (-p0)), (1, .int 0)]) C dJ6_stringSize_0f7a4_15 rfl (by decide) rfl ?_
    refine g_locals [2, 3, 1, 0] rfl ?_
    obtain ⟨k7, h⟩ := h
    refine t_J6_stringSize_0f7a4_16 C E hr S0  P  k7 (-p0) 0 (-10) 1 S L hw hL he h
theorem c_J6_stringSize_0f7a4 (l : Launch) (D : va_G) (T : Nat → ClassId) (p0 : Int32) (S : HS)  (P : Int32 → HS → Prop) (h : wp_J6_stringSize_0f7a4 P p0 S) : CMi l yJ6_stringSize_0f7a4 (ws_J6_stringSize_0f7a4) rm_J6_stringSize_0f7a4 D T [.int p0] S 0 0 P := gc_meti (by decide) rfl rfl (Nat.le_of_ble_eq_true rfl) (fun p e s m args below meth c A L C E hnm hr hw hL => t_J6_stringSize_0f7a4 C E   hr P p0 S S L rfl hw hL  h)
theorem rl_ss {P : Int32 → HS → Prop} {S : HS} {n : Nat} (hn : n ≤ 9999) (hP : ∀ d, (nuL n).length = d → P (nI d) S) : ∀ (j d fuel : Nat), d + j = 4 → 1 ≤ d → (d = 1 ∨ 10 ^ (d - 1) ≤ n) → j < fuel → wp_J6_stringSize_0f7a4_16 P fuel (-(nI n)) 0 (-(nI (10 ^ d))) (nI d) S := by
  have hl := nuL_l n
  have z0 : ∀ d : Nat, nI d + 0 = nI d := fun d => nI_a0 d
  intro j
  induction j with
  | zero =>
    intro d fuel hd h1 hc hf
    have e4 : d = 4 := hd
    subst e4
    obtain ⟨f, rfl⟩ : ∃ f, fuel = f + 1 := ⟨fuel - 1, by omega⟩; rw [wp_J6_stringSize_0f7a4_16]; unfold wb_J6_stringSize_0f7a4_16; dsimp only
    refine ⟨fun z => absurd z (by decide), fun _ => ⟨fun z => absurd ((sb_nle (by omega) (by decide)).mp z) (by omega), fun _ => ?_⟩⟩
    rw [z0]
    refine hP 4 ?_
    have : 1000 ≤ n := by rcases hc with c | c; exact absurd c (by decide); exact c
    rw [hl, if_neg (by omega), if_neg (by omega), if_neg (by omega)]
  | succ j ih =>
    intro d fuel hd h1 hc hf
    obtain ⟨f, rfl⟩ : ∃ f, fuel = f + 1 := ⟨fuel - 1, by omega⟩; rw [wp_J6_stringSize_0f7a4_16]; unfold wb_J6_stringSize_0f7a4_16; dsimp only
    have d3 : d ≤ 3 := by omega
    have p10 : 10 ^ d < 2 ^ 31 := by
      rcases (by omega : d = 1 ∨ d = 2 ∨ d = 3) with e | e | e <;> subst e <;> decide
    refine ⟨fun z => ?_, fun _ => ⟨fun z v4 e4 v5 e5 => ?_, fun z => ?_⟩⟩
    · have := (nI_leI (a := 10) (by decide) (by omega)).mp z
      omega
    · have hle := (sb_nle (by omega) p10).mp z
      have e4' : v4 = -(nI (10 ^ (d + 1))) := by
        rw [e4]
        rcases (by omega : d = 1 ∨ d = 2 ∨ d = 3) with e | e | e <;> subst e <;> decide
      rw [e4', e5, show nI d + 1 = nI (d + 1) from nI_add d 1]
      exact ih (d + 1) f (by omega) (by omega) (Or.inr hle) (by omega)
    · have hlt : n < 10 ^ d := by
        rcases Nat.lt_or_ge n (10 ^ d) with q | q
        · exact q
        · exact absurd ((sb_nle (by omega) p10).mpr q) z
      rw [z0]
      refine hP d ?_
      rw [hl]
      rcases (by omega : d = 1 ∨ d = 2 ∨ d = 3) with e | e | e
      · subst e
        rw [if_pos hlt]
      · subst e
        have c1 : 10 ≤ n := by rcases hc with c | c; exact absurd c (by decide); exact c
        have c2 : n < 100 := hlt
        rw [if_neg (by omega), if_pos c2]
      · subst e
        have c1 : 100 ≤ n := by rcases hc with c | c; exact absurd c (by decide); exact c
        have c2 : n < 1000 := hlt
        rw [if_neg (by omega), if_neg (by omega), if_pos c2]
theorem k_J6_stringSize_0f7a4 (l : Launch) (D : va_G) (T : Nat → ClassId) (p0 : Int32) (S : HS) (e0 : Nat)  (h : p0 = nI e0 ∧ e0 ≤ 9999) : CMi l yJ6_stringSize_0f7a4 (ws_J6_stringSize_0f7a4) rm_J6_stringSize_0f7a4 D T [.int p0] S 0 0 (fun v S1 => v = (nI (nuL e0).length) ∧ S1 = S) := c_J6_stringSize_0f7a4 l D T p0 S  _ <|
  (by
    obtain ⟨e, hn⟩ := h
    subst e
    unfold wp_J6_stringSize_0f7a4
    refine ⟨fun z => absurd z (nI_pos (by omega)), fun _ => ⟨4, ?_⟩⟩
    exact rl_ss hn (fun d hd => ⟨by rw [hd], rfl⟩) 3 1 4 rfl (by omega) (Or.inl rfl) (by omega))
abbrev ws_J6_getChars_ba4f3 : List Cond := Cond.code yJ6_getChars_ba4f3 cJ6_getChars_ba4f3 7 (some .int) :: W0
abbrev rm_J6_getChars_ba4f3 : Room := ({ frames := 2, cells := 0, slots := 0, locals := 100 } : Room)
theorem dJ6_getChars_ba4f3_0 : decode cJ6_getChars_ba4f3 0 = .ok (.iload_n 1, 1) := by decide +kernel
theorem dJ6_getChars_ba4f3_1 : decode cJ6_getChars_ba4f3 1 = .ok (.istore 5, 2) := by decide +kernel
theorem dJ6_getChars_ba4f3_3 : decode cJ6_getChars_ba4f3 3 = .ok (.iload_n 0, 1) := by decide +kernel
theorem dJ6_getChars_ba4f3_4 : decode cJ6_getChars_ba4f3 4 = .ok (.ifCond .ge 7, 3) := by decide +kernel
theorem dJ6_getChars_ba4f3_7 : decode cJ6_getChars_ba4f3 7 = .ok (.iconst 1, 1) := by decide +kernel
theorem dJ6_getChars_ba4f3_8 : decode cJ6_getChars_ba4f3 8 = .ok (.goto 4, 3) := by decide +kernel
theorem dJ6_getChars_ba4f3_11 : decode cJ6_getChars_ba4f3 11 = .ok (.iconst 0, 1) := by decide +kernel
theorem dJ6_getChars_ba4f3_12 : decode cJ6_getChars_ba4f3 12 = .ok (.istore 6, 2) := by decide +kernel
theorem dJ6_getChars_ba4f3_14 : decode cJ6_getChars_ba4f3 14 = .ok (.iload 6, 2) := by decide +kernel
theorem dJ6_getChars_ba4f3_16 : decode cJ6_getChars_ba4f3 16 = .ok (.ifCond .ne 6, 3) := by decide +kernel
theorem dJ6_getChars_ba4f3_19 : decode cJ6_getChars_ba4f3 19 = .ok (.iload_n 0, 1) := by decide +kernel
theorem dJ6_getChars_ba4f3_20 : decode cJ6_getChars_ba4f3 20 = .ok (.ineg, 1) := by decide +kernel
theorem dJ6_getChars_ba4f3_21 : decode cJ6_getChars_ba4f3 21 = .ok (.istore_n 0, 1) := by decide +kernel
theorem dJ6_getChars_ba4f3_22 : decode cJ6_getChars_ba4f3 22 = .ok (.iload_n 0, 1) := by decide +kernel
theorem dJ6_getChars_ba4f3_23 : decode cJ6_getChars_ba4f3 23 = .ok (.bipush (-100), 2) := by decide +kernel
theorem dJ6_getChars_ba4f3_25 : decode cJ6_getChars_ba4f3 25 = .ok (.if_icmp .gt 47, 3) := by decide +kernel
theorem dJ6_getChars_ba4f3_28 : decode cJ6_getChars_ba4f3 28 = .ok (.iload_n 0, 1) := by decide +kernel
theorem dJ6_getChars_ba4f3_29 : decode cJ6_getChars_ba4f3 29 = .ok (.bipush 100, 2) := by decide +kernel
theorem dJ6_getChars_ba4f3_31 : decode cJ6_getChars_ba4f3 31 = .ok (.idiv, 1) := by decide +kernel
theorem dJ6_getChars_ba4f3_32 : decode cJ6_getChars_ba4f3 32 = .ok (.istore_n 3, 1) := by decide +kernel
theorem dJ6_getChars_ba4f3_33 : decode cJ6_getChars_ba4f3 33 = .ok (.iload_n 3, 1) := by decide +kernel
theorem dJ6_getChars_ba4f3_34 : decode cJ6_getChars_ba4f3 34 = .ok (.bipush 100, 2) := by decide +kernel
theorem dJ6_getChars_ba4f3_36 : decode cJ6_getChars_ba4f3 36 = .ok (.imul, 1) := by decide +kernel
theorem dJ6_getChars_ba4f3_37 : decode cJ6_getChars_ba4f3 37 = .ok (.iload_n 0, 1) := by decide +kernel
theorem dJ6_getChars_ba4f3_38 : decode cJ6_getChars_ba4f3 38 = .ok (.isub, 1) := by decide +kernel
theorem dJ6_getChars_ba4f3_39 : decode cJ6_getChars_ba4f3 39 = .ok (.istore 4, 2) := by decide +kernel
theorem dJ6_getChars_ba4f3_41 : decode cJ6_getChars_ba4f3 41 = .ok (.iload_n 3, 1) := by decide +kernel
theorem dJ6_getChars_ba4f3_42 : decode cJ6_getChars_ba4f3 42 = .ok (.istore_n 0, 1) := by decide +kernel
theorem dJ6_getChars_ba4f3_43 : decode cJ6_getChars_ba4f3 43 = .ok (.aload_n 2, 1) := by decide +kernel
theorem dJ6_getChars_ba4f3_44 : decode cJ6_getChars_ba4f3 44 = .ok (.iinc 5 (-1), 3) := by decide +kernel
theorem dJ6_getChars_ba4f3_47 : decode cJ6_getChars_ba4f3 47 = .ok (.iload 5, 2) := by decide +kernel
theorem dJ6_getChars_ba4f3_49 : decode cJ6_getChars_ba4f3 49 = .ok (.getstatic 83, 3) := by decide +kernel
theorem dJ6_getChars_ba4f3_52 : decode cJ6_getChars_ba4f3 52 = .ok (.iload 4, 2) := by decide +kernel
theorem dJ6_getChars_ba4f3_54 : decode cJ6_getChars_ba4f3 54 = .ok (.baload, 1) := by decide +kernel
theorem dJ6_getChars_ba4f3_55 : decode cJ6_getChars_ba4f3 55 = .ok (.bastore, 1) := by decide +kernel
theorem dJ6_getChars_ba4f3_56 : decode cJ6_getChars_ba4f3 56 = .ok (.aload_n 2, 1) := by decide +kernel
theorem dJ6_getChars_ba4f3_57 : decode cJ6_getChars_ba4f3 57 = .ok (.iinc 5 (-1), 3) := by decide +kernel
theorem dJ6_getChars_ba4f3_60 : decode cJ6_getChars_ba4f3 60 = .ok (.iload 5, 2) := by decide +kernel
theorem dJ6_getChars_ba4f3_62 : decode cJ6_getChars_ba4f3 62 = .ok (.getstatic 87, 3) := by decide +kernel
theorem dJ6_getChars_ba4f3_65 : decode cJ6_getChars_ba4f3 65 = .ok (.iload 4, 2) := by decide +kernel
theorem dJ6_getChars_ba4f3_67 : decode cJ6_getChars_ba4f3 67 = .ok (.baload, 1) := by decide +kernel
theorem dJ6_getChars_ba4f3_68 : decode cJ6_getChars_ba4f3 68 = .ok (.bastore, 1) := by decide +kernel
theorem dJ6_getChars_ba4f3_69 : decode cJ6_getChars_ba4f3 69 = .ok (.goto (-47), 3) := by decide +kernel
theorem dJ6_getChars_ba4f3_72 : decode cJ6_getChars_ba4f3 72 = .ok (.aload_n 2, 1) := by decide +kernel
theorem dJ6_getChars_ba4f3_73 : decode cJ6_getChars_ba4f3 73 = .ok (.iinc 5 (-1), 3) := by decide +kernel
theorem dJ6_getChars_ba4f3_76 : decode cJ6_getChars_ba4f3 76 = .ok (.iload 5, 2) := by decide +kernel
theorem dJ6_getChars_ba4f3_78 : decode cJ6_getChars_ba4f3 78 = .ok (.getstatic 83, 3) := by decide +kernel
theorem dJ6_getChars_ba4f3_81 : decode cJ6_getChars_ba4f3 81 = .ok (.iload_n 0, 1) := by decide +kernel
theorem dJ6_getChars_ba4f3_82 : decode cJ6_getChars_ba4f3 82 = .ok (.ineg, 1) := by decide +kernel
theorem dJ6_getChars_ba4f3_83 : decode cJ6_getChars_ba4f3 83 = .ok (.baload, 1) := by decide +kernel
theorem dJ6_getChars_ba4f3_84 : decode cJ6_getChars_ba4f3 84 = .ok (.bastore, 1) := by decide +kernel
theorem dJ6_getChars_ba4f3_85 : decode cJ6_getChars_ba4f3 85 = .ok (.iload_n 0, 1) := by decide +kernel
theorem dJ6_getChars_ba4f3_86 : decode cJ6_getChars_ba4f3 86 = .ok (.bipush (-9), 2) := by decide +kernel
theorem dJ6_getChars_ba4f3_88 : decode cJ6_getChars_ba4f3 88 = .ok (.if_icmp .ge 16, 3) := by decide +kernel
theorem dJ6_getChars_ba4f3_91 : decode cJ6_getChars_ba4f3 91 = .ok (.aload_n 2, 1) := by decide +kernel
theorem dJ6_getChars_ba4f3_92 : decode cJ6_getChars_ba4f3 92 = .ok (.iinc 5 (-1), 3) := by decide +kernel
theorem dJ6_getChars_ba4f3_95 : decode cJ6_getChars_ba4f3 95 = .ok (.iload 5, 2) := by decide +kernel
theorem dJ6_getChars_ba4f3_97 : decode cJ6_getChars_ba4f3 97 = .ok (.getstatic 87, 3) := by decide +kernel
theorem dJ6_getChars_ba4f3_100 : decode cJ6_getChars_ba4f3 100 = .ok (.iload_n 0, 1) := by decide +kernel
theorem dJ6_getChars_ba4f3_101 : decode cJ6_getChars_ba4f3 101 = .ok (.ineg, 1) := by decide +kernel
theorem dJ6_getChars_ba4f3_102 : decode cJ6_getChars_ba4f3 102 = .ok (.baload, 1) := by decide +kernel
theorem dJ6_getChars_ba4f3_103 : decode cJ6_getChars_ba4f3 103 = .ok (.bastore, 1) := by decide +kernel
theorem dJ6_getChars_ba4f3_104 : decode cJ6_getChars_ba4f3 104 = .ok (.iload 6, 2) := by decide +kernel
theorem dJ6_getChars_ba4f3_106 : decode cJ6_getChars_ba4f3 106 = .ok (.ifCond .eq 12, 3) := by decide +kernel
theorem dJ6_getChars_ba4f3_109 : decode cJ6_getChars_ba4f3 109 = .ok (.aload_n 2, 1) := by decide +kernel
theorem dJ6_getChars_ba4f3_110 : decode cJ6_getChars_ba4f3 110 = .ok (.iinc 5 (-1), 3) := by decide +kernel
theorem dJ6_getChars_ba4f3_113 : decode cJ6_getChars_ba4f3 113 = .ok (.iload 5, 2) := by decide +kernel
theorem dJ6_getChars_ba4f3_115 : decode cJ6_getChars_ba4f3 115 = .ok (.bipush 45, 2) := by decide +kernel
theorem dJ6_getChars_ba4f3_117 : decode cJ6_getChars_ba4f3 117 = .ok (.bastore, 1) := by decide +kernel
theorem dJ6_getChars_ba4f3_118 : decode cJ6_getChars_ba4f3 118 = .ok (.iload 5, 2) := by decide +kernel
theorem dJ6_getChars_ba4f3_120 : decode cJ6_getChars_ba4f3 120 = .ok (.ireturn, 1) := by decide +kernel
def wb_J6_getChars_ba4f3_22 (rec : Int32 → Nat → Int32 → Int32 → HS → Prop) (K72 : Int32 → Nat → Int32 → Int32 → HS → Prop) (P : Int32 → HS → Prop) (x0 : Int32) (x2 : Nat) (x5 : Int32) (x6 : Int32) (S : HS) : Prop := ((-100) < x0 → (K72 x0 x2 x5 x6 S)) ∧ (¬ (-100) < x0 → (∀ v3 : Int32, v3 = (x0 / 100) → (∀ v4 : Int32, v4 = ((v3 * 100) - x0) → (∀ v5 : Int32, v5 = x5 + (-1) → (vp_in v4 100 ∧ (vp_in v5 (hN S x2) ∧ (∀ S9 : HS, S9 = putA S x2 (Int32.toNatClampNeg v5) (vp_nar .byte (dgO (Int32.toNatClampNeg v4))) → (∀ v14 : Int32, v14 = v5 + (-1) → (vp_in v4 100 ∧ (vp_in v14 (hN S9 x2) ∧ (∀ S18 : HS, S18 = putA S9 x2 (Int32.toNatClampNeg v14) (vp_nar .byte (dgT (Int32.toNatClampNeg v4))) → (rec v3 x2 v14 x6 S18))))))))))))
def wp_J6_getChars_ba4f3_22 (K72 : Int32 → Nat → Int32 → Int32 → HS → Prop) (P : Int32 → HS → Prop) : Nat → Int32 → Nat → Int32 → Int32 → HS → Prop
  | 0 => fun _ _ _ _ _ => False
  | n + 1 => fun x0 x2 x5 x6 S => wb_J6_getChars_ba4f3_22 (wp_J6_getChars_ba4f3_22 K72 P n) K72 P x0 x2 x5 x6 S
set_option maxRecDepth 100000 in
set_option maxHeartbeats 4000000 in
theorem t_J6_getChars_ba4f3_22 {p : Program} {l : Launch} {e : Env} {s : State} {m : MethodId} {args : Array Value} {below : List Frame} {meth : Method} {c : Code} {D : va_G} {A : Nat → Prop} {T : Nat → ClassId} (C : GC p s m args meth c cJ6_getChars_ba4f3 "java/lang/Integer" (ws_J6_getChars_ba4f3) 7 D A (zty T)) (E : GE T A s) (hr : meth.sig.returnType = (some .int)) (S0 : HS) (K72 : Int32 → Nat → Int32 → Int32 → HS → Prop) (P : Int32 → HS → Prop) (hK72 : ∀ (x0 : Int32) (x2 : Nat) (x5 : Int32) (x6 : Int32) (S : HS) (L : List Nat), wt S → hL S L → ext S0 S → (hK S x2 = 20) → K72 x0 x2 x5 x6 S → GW p l e { rm_J6_getChars_ba4f3 with cells := 0, slots := 0 } s m args below meth c D A 7 0 0 (MQ below (va_Qi (fun v (u : HS × List Nat) => P v u.1 ∧ CO S0 u) (CE D T A) A) args s 0 0 A) (CW T S L) 0 0 72 [(0, .int x0), (2, .ref x2), (5, .int x5), (6, .int x6)] []) : ∀ (n : Nat) (x0 : Int32) (x2 : Nat) (x5 : Int32) (x6 : Int32) (S : HS) (L : List Nat), wt S → hL S L → ext S0 S → (hK S x2 = 20) → wp_J6_getChars_ba4f3_22 K72 P n x0 x2 x5 x6 S → GW p l e { rm_J6_getChars_ba4f3 with cells := 0, slots := 0 } s m args below meth c D A 7 0 0 (MQ below (va_Qi (fun v (u : HS × List Nat) => P v u.1 ∧ CO S0 u) (CE D T A) A) args s 0 0 A) (CW T S L) 0 0 22 [(0, .int x0), (2, .ref x2), (5, .int x5), (6, .int x6)] [] := by
  have hW : ∀ {w : Cond}, w ∈ W0 → w.before args s = true := fun h => C.2.2.2.2.1 _ (List.mem_cons_of_mem _ h)
  intro n
  induction n with
  | zero => intro x0 x2 x5 x6 S L hw hL he hx2 h; exact h.elim
  | succ n ih =>
    intro x0 x2 x5 x6 S L hw hL he hx2 h
    replace h : wb_J6_getChars_ba4f3_22 (wp_J6_getChars_ba4f3_22 K72 P n) K72 P x0 x2 x5 x6 S := h
    unfold wb_J6_getChars_ba4f3_22 at h
    refine g_iload_n C dJ6_getChars_ba4f3_22 rfl 0 rfl ?_
    refine g_bipush (v := -100) C dJ6_getChars_ba4f3_23 (by decide) ?_
    refine g_icmp_gt (tgt := 72) C dJ6_getChars_ba4f3_25 (by decide) (fun z2 => ?_) (fun z2 => ?_)
    · replace h := h.1 z2
      refine g_locals [0, 1, 2, 3] rfl ?_
      exact hK72 x0 x2 x5 x6 S L hw hL he hx2 h
    · replace h := h.2 z2
      refine g_iload_n C dJ6_getChars_ba4f3_28 rfl 0 rfl ?_
      refine g_bipush (v := 100) C dJ6_getChars_ba4f3_29 (by decide) ?_
      refine g_idiv C dJ6_getChars_ba4f3_31 (by decide) ?_
      refine g_topi (fun v3 ev3 => ?_)
      replace h := h v3 ev3
      refine g_istore_n (lv' := [(3, .int v3), (0, .int x0), (2, .ref x2), (5, .int x5), (6, .int x6)]) C dJ6_getChars_ba4f3_32 rfl (by decide) rfl ?_
      refine g_iload_n C dJ6_getChars_ba4f3_33 rfl 0 rfl ?_
      refine g_bipush (v := 100) C dJ6_getChars_ba4f3_34 (by decide) ?_
      refine g_imul C dJ6_getChars_ba4f3_36 ?_
      refine g_iload_n C dJ6_getChars_ba4f3_37 rfl 1 rfl ?_
      refine g_isub C dJ6_getChars_ba4f3_38 ?_
      refine g_topi (fun v4 ev4 => ?_)
      replace h := h v4 ev4
      refine g_istore (lv' := [(4, .int v4), (3, .int v3), (0, .int x0), (2, .ref x2), (5, .int x5), (6, .int x6)]) C dJ6_getChars_ba4f3_39 (by decide) rfl ?_
      refine g_iload_n C dJ6_getChars_ba4f3_41 rfl 1 rfl ?_
      refine g_istore_n (lv' := [(0, .int v3), (4, .int v4), (3, .int v3), (2, .ref x2), (5, .int x5), (6, .int x6)]) C dJ6_getChars_ba4f3_42 rfl (by decide) rfl ?_
      refine g_aload_n C dJ6_getChars_ba4f3_43 rfl 3 rfl ?_
      obtain ⟨v5, ev5⟩ : ∃ y : Int32, y = x5 + (-1) := ⟨_, rfl⟩
      replace h := h v5 ev5
      refine g_iinc (v := v5) (lv' := [(5, .int v5), (0, .int v3), (4, .int v4), (3, .int v3), (2, .ref x2), (6, .int x6)]) C dJ6_getChars_ba4f3_44 (j := 4) rfl (by rw [ev5]; rfl) (by decide) rfl ?_
      refine g_iload C dJ6_getChars_ba4f3_47 0 rfl ?_
      refine gt_gets C E.2.2.2.2.2.2.2.2.2.2.2.2.2.1.1 (hW kw_1614) (fun _ z => z) dJ6_getChars_ba4f3_49 ?_
      refine g_iload C dJ6_getChars_ba4f3_52 2 rfl ?_
      obtain ⟨g6, h⟩ := h
      refine gt_dgO C E g6 dJ6_getChars_ba4f3_54 ?_
      obtain ⟨g7, h⟩ := h
      refine gc_bast C hL hx2 g7 dJ6_getChars_ba4f3_55 ?_
      have w8 := wt_putA hw (Int32.toNatClampNeg v5) (vp_nar .byte (dgO (Int32.toNatClampNeg v4))) (k_ne hx2 (by decide))
      refine gc_nS (fun S9 eS9 => ?_)
      replace h := h S9 eS9
      have w10 : wt S9 := by rw [eS9]; exact w8
      have w11 : isL S9 L := by rw [eS9]; exact hL
      have w12 : ext S0 S9 := by rw [eS9]; exact he
      have g13 : hK S9 x2 = 20 := by rw [eS9]; exact hx2
      refine g_aload_n C dJ6_getChars_ba4f3_56 rfl 4 rfl ?_
      obtain ⟨v14, ev14⟩ : ∃ y : Int32, y = v5 + (-1) := ⟨_, rfl⟩
      replace h := h v14 ev14
      refine g_iinc (v := v14) (lv' := [(5, .int v14), (0, .int v3), (4, .int v4), (3, .int v3), (2, .ref x2), (6, .int x6)]) C dJ6_getChars_ba4f3_57 (j := 0) rfl (by rw [ev14]; rfl) (by decide) rfl ?_
      refine g_iload C dJ6_getChars_ba4f3_60 0 rfl ?_
      refine gt_gets C E.2.2.2.2.2.2.2.2.2.2.2.2.2.2.1 (hW kw_1616) (fun _ z => z) dJ6_getChars_ba4f3_62 ?_
      refine g_iload C dJ6_getChars_ba4f3_65 2 rfl ?_
      obtain ⟨g15, h⟩ := h
      refine gt_dgT C E g15 dJ6_getChars_ba4f3_67 ?_
      obtain ⟨g16, h⟩ := h
      refine gc_bast C w11 g13 g16 dJ6_getChars_ba4f3_68 ?_
      have w17 := wt_putA w10 (Int32.toNatClampNeg v14) (vp_nar .byte (dgT (Int32.toNatClampNeg v4))) (k_ne g13 (by decide))
      refine gc_nS (fun S18 eS18 => ?_)
      replace h := h S18 eS18
      have w19 : wt S18 := by rw [eS18]; exact w17
      have w20 : isL S18 L := by rw [eS18]; exact w11
      have w21 : ext S0 S18 := by rw [eS18]; exact w12
      have g22 : hK S18 x2 = 20 := by rw [eS18]; exact g13
      refine g_goto (tgt := 22) C dJ6_getChars_ba4f3_69 (by decide) ?_
      refine g_locals [1, 4, 0, 5] rfl ?_
      exact ih v3 x2 v14 x6 S18 L w19 w20 w21 g22 h
def wp_J6_getChars_ba4f3 (P : Int32 → HS → Prop) (p0 : Int32) (p1 : Int32) (p2 : Nat) (S : HS) : Prop := (0 ≤ p0 → (∃ k61 : Nat, wp_J6_getChars_ba4f3_22 (fun (y23_x0 : Int32) (y23_x2 : Nat) (y23_x5 : Int32) (y23_x6 : Int32) (Sy23_ : HS) => (hK Sy23_ y23_x2 = 20) → (∀ v24 : Int32, v24 = y23_x5 + (-1) → (vp_in (-y23_x0) 100 ∧ (vp_in v24 (hN Sy23_ y23_x2) ∧ (∀ S28 : HS, S28 = putA Sy23_ y23_x2 (Int32.toNatClampNeg v24) (vp_nar .byte (dgO (Int32.toNatClampNeg (-y23_x0)))) → (((-9) ≤ y23_x0 → ((y23_x6 = 0 → (P v24 S28)) ∧ (¬ y23_x6 = 0 → (∀ v35 : Int32, v35 = v24 + (-1) → (vp_in v35 (hN S28 y23_x2) ∧ (∀ S38 : HS, S38 = putA S28 y23_x2 (Int32.toNatClampNeg v35) (vp_nar .byte 45) → (P v35 S38))))))) ∧ (¬ (-9) ≤ y23_x0 → (∀ v43 : Int32, v43 = v24 + (-1) → (vp_in (-y23_x0) 100 ∧ (vp_in v43 (hN S28 y23_x2) ∧ (∀ S47 : HS, S47 = putA S28 y23_x2 (Int32.toNatClampNeg v43) (vp_nar .byte (dgT (Int32.toNatClampNeg (-y23_x0)))) → ((y23_x6 = 0 → (P v43 S47)) ∧ (¬ y23_x6 = 0 → (∀ v53 : Int32, v53 = v43 + (-1) → (vp_in v53 (hN S47 y23_x2) ∧ (∀ S56 : HS, S56 = putA S47 y23_x2 (Int32.toNatClampNeg v53) (vp_nar .byte 45) → (P v53 S56))))))))))))))))) P k61 (-p0) p2 p1 0 S)) ∧ (¬ 0 ≤ p0 → (∃ k100 : Nat, wp_J6_getChars_ba4f3_22 (fun (y62_x0 : Int32) (y62_x2 : Nat) (y62_x5 : Int32) (y62_x6 : Int32) (Sy62_ : HS) => (hK Sy62_ y62_x2 = 20) → (∀ v63 : Int32, v63 = y62_x5 + (-1) → (vp_in (-y62_x0) 100 ∧ (vp_in v63 (hN Sy62_ y62_x2) ∧ (∀ S67 : HS, S67 = putA Sy62_ y62_x2 (Int32.toNatClampNeg v63) (vp_nar .byte (dgO (Int32.toNatClampNeg (-y62_x0)))) → (((-9) ≤ y62_x0 → ((y62_x6 = 0 → (P v63 S67)) ∧ (¬ y62_x6 = 0 → (∀ v74 : Int32, v74 = v63 + (-1) → (vp_in v74 (hN S67 y62_x2) ∧ (∀ S77 : HS, S77 = putA S67 y62_x2 (Int32.toNatClampNeg v74) (vp_nar .byte 45) → (P v74 S77))))))) ∧ (¬ (-9) ≤ y62_x0 → (∀ v82 : Int32, v82 = v63 + (-1) → (vp_in (-y62_x0) 100 ∧ (vp_in v82 (hN S67 y62_x2) ∧ (∀ S86 : HS, S86 = putA S67 y62_x2 (Int32.toNatClampNeg v82) (vp_nar .byte (dgT (Int32.toNatClampNeg (-y62_x0)))) → ((y62_x6 = 0 → (P v82 S86)) ∧ (¬ y62_x6 = 0 → (∀ v92 : Int32, v92 = v82 + (-1) → (vp_in v92 (hN S86 y62_x2) ∧ (∀ S95 : HS, S95 = putA S86 y62_x2 (Int32.toNatClampNeg v92) (vp_nar .byte 45) → (P v92 S95))))))))))))))))) P k100 p0 p2 p1 1 S))
set_option maxRecDepth 100000 in
set_option maxHeartbeats 4000000 in
theorem t_J6_getChars_ba4f3 {p : Program} {l : Launch} {e : Env} {s : State} {m : MethodId} {args : Array Value} {below : List Frame} {meth : Method} {c : Code} {D : va_G} {A : Nat → Prop} {T : Nat → ClassId} (C : GC p s m args meth c cJ6_getChars_ba4f3 "java/lang/Integer" (ws_J6_getChars_ba4f3) 7 D A (zty T)) (E : GE T A s) (hr : meth.sig.returnType = (some .int)) (P : Int32 → HS → Prop) : ∀ (p0 : Int32) (p1 : Int32) (p2 : Nat) (S0 S : HS) (L : List Nat), S0 = S → wt S → hL S L → (hK S p2 = 20) → wp_J6_getChars_ba4f3 P p0 p1 p2 S → GW p l e { rm_J6_getChars_ba4f3 with cells := 0, slots := 0 } s m args below meth c D A 7 0 0 (MQ below (va_Qi (fun v (u : HS × List Nat) => P v u.1 ∧ CO S0 u) (CE D T A) A) args s 0 0 A) (CW T S L) 0 0 0 [(0, .int p0), (1, .int p1), (2, .ref p2)] [] := by
  have hW : ∀ {w : Cond}, w ∈ W0 → w.before args s = true := fun h => C.2.2.2.2.1 _ (List.mem_cons_of_mem _ h)
  intro p0 p1 p2 S0 S L hS0 hw hL hp2 h
  have he : ext S0 S := by rw [hS0]; exact ext_rf
  unfold wp_J6_getChars_ba4f3 at h
  refine g_iload_n C dJ6_getChars_ba4f3_0 rfl 1 rfl ?_
  refine g_istore (lv' := [(5, .int p1), (0, .int p0), (1, .int p1), (2, .ref p2)]) C dJ6_getChars_ba4f3_1 (by decide) rfl ?_
  refine g_iload_n C dJ6_getChars_ba4f3_3 rfl 1 rfl ?_
  refine g_if_ge (tgt := 11) C dJ6_getChars_ba4f3_4 (by decide) (fun z1 => ?_) (fun z1 => ?_)
  · replace h := h.1 z1
    refine g_iconst (v := 0) C dJ6_getChars_ba4f3_11 (by decide) ?_
    refine g_istore (lv' := [(6, .int 0), (5, .int p1), (0, .int p0), (1, .int p1), (2, .ref p2)]) C dJ6_getChars_ba4f3_12 (by decide) rfl ?_
    refine g_iload C dJ6_getChars_ba4f3_14 0 rfl ?_
    refine g_if_ne (tgt := 22) C dJ6_getChars_ba4f3_16 (by decide) (fun z => absurd z (by decide)) (fun _ => ?_)
    refine g_iload_n C dJ6_getChars_ba4f3_19 rfl 2 rfl ?_
    refine g_ineg C dJ6_getChars_ba4f3_20 ?_
    refine g_istore_n (lv' := [(0, .int (-p0)), (6, .int 0), (5, .int p1), (1, .int p1), (2, .ref p2)]) C dJ6_getChars_ba4f3_21 rfl (by decide) rfl ?_
    refine g_locals [0, 4, 2, 1] rfl ?_
    obtain ⟨k61, h⟩ := h
    refine t_J6_getChars_ba4f3_22 C E hr S0 _ P ?_ k61 (-p0) p2 p1 0 S L hw hL he hp2 h
    · intro y23_x0 y23_x2 y23_x5 y23_x6 Sy23_ Ly23_ hwy23_ hLy23_ hey23_ hy23_x2 h
      replace h := h hy23_x2
      refine g_aload_n C dJ6_getChars_ba4f3_72 rfl 1 rfl ?_
      obtain ⟨v24, ev24⟩ : ∃ y : Int32, y = y23_x5 + (-1) := ⟨_, rfl⟩
      replace h := h v24 ev24
      refine g_iinc (v := v24) (lv' := [(5, .int v24), (0, .int y23_x0), (2, .ref y23_x2), (6, .int y23_x6)]) C dJ6_getChars_ba4f3_73 (j := 2) rfl (by rw [ev24]; rfl) (by decide) rfl ?_
      refine g_iload C dJ6_getChars_ba4f3_76 0 rfl ?_
      refine gt_gets C E.2.2.2.2.2.2.2.2.2.2.2.2.2.1.1 (hW kw_1614) (fun _ z => z) dJ6_getChars_ba4f3_78 ?_
      refine g_iload_n C dJ6_getChars_ba4f3_81 rfl 1 rfl ?_
      refine g_ineg C dJ6_getChars_ba4f3_82 ?_
      obtain ⟨g25, h⟩ := h
      refine gt_dgO C E g25 dJ6_getChars_ba4f3_83 ?_
      obtain ⟨g26, h⟩ := h
      refine gc_bast C hLy23_ hy23_x2 g26 dJ6_getChars_ba4f3_84 ?_
      have w27 := wt_putA hwy23_ (Int32.toNatClampNeg v24) (vp_nar .byte (dgO (Int32.toNatClampNeg (-y23_x0)))) (k_ne hy23_x2 (by decide))
      refine gc_nS (fun S28 eS28 => ?_)
      replace h := h S28 eS28
      have w29 : wt S28 := by rw [eS28]; exact w27
      have w30 : isL S28 Ly23_ := by rw [eS28]; exact hLy23_
      have w31 : ext S0 S28 := by rw [eS28]; exact hey23_
      have g32 : hK S28 y23_x2 = 20 := by rw [eS28]; exact hy23_x2
      refine g_iload_n C dJ6_getChars_ba4f3_85 rfl 1 rfl ?_
      refine g_bipush (v := -9) C dJ6_getChars_ba4f3_86 (by decide) ?_
      refine g_icmp_ge (tgt := 104) C dJ6_getChars_ba4f3_88 (by decide) (fun z33 => ?_) (fun z33 => ?_)
      · replace h := h.1 z33
        refine g_iload C dJ6_getChars_ba4f3_104 3 rfl ?_
        refine g_if_eq (tgt := 118) C dJ6_getChars_ba4f3_106 (by decide) (fun z34 => ?_) (fun z34 => ?_)
        · replace h := h.1 z34
          refine g_iload C dJ6_getChars_ba4f3_118 0 rfl ?_
          exact gc_iret C w29 w30 w31 hr dJ6_getChars_ba4f3_120 h
        · replace h := h.2 z34
          refine g_aload_n C dJ6_getChars_ba4f3_109 rfl 2 rfl ?_
          obtain ⟨v35, ev35⟩ : ∃ y : Int32, y = v24 + (-1) := ⟨_, rfl⟩
          replace h := h v35 ev35
          refine g_iinc (v := v35) (lv' := [(5, .int v35), (0, .int y23_x0), (2, .ref y23_x2), (6, .int y23_x6)]) C dJ6_getChars_ba4f3_110 (j := 0) rfl (by rw [ev35]; rfl) (by decide) rfl ?_
          refine g_iload C dJ6_getChars_ba4f3_113 0 rfl ?_
          refine g_bipush (v := 45) C dJ6_getChars_ba4f3_115 (by decide) ?_
          obtain ⟨g36, h⟩ := h
          refine gc_bast C w30 g32 g36 dJ6_getChars_ba4f3_117 ?_
          have w37 := wt_putA w29 (Int32.toNatClampNeg v35) (vp_nar .byte 45) (k_ne g32 (by decide))
          refine gc_nS (fun S38 eS38 => ?_)
          replace h := h S38 eS38
          have w39 : wt S38 := by rw [eS38]; exact w37
          have w40 : isL S38 Ly23_ := by rw [eS38]; exact w30
          have w41 : ext S0 S38 := by rw [eS38]; exact w31
          have g42 : hK S38 y23_x2 = 20 := by rw [eS38]; exact g32
          refine g_iload C dJ6_getChars_ba4f3_118 0 rfl ?_
          exact gc_iret C w39 w40 w41 hr dJ6_getChars_ba4f3_120 h
      · replace h := h.2 z33
        refine g_aload_n C dJ6_getChars_ba4f3_91 rfl 2 rfl ?_
        obtain ⟨v43, ev43⟩ : ∃ y : Int32, y = v24 + (-1) := ⟨_, rfl⟩
        replace h := h v43 ev43
        refine g_iinc (v := v43) (lv' := [(5, .int v43), (0, .int y23_x0), (2, .ref y23_x2), (6, .int y23_x6)]) C dJ6_getChars_ba4f3_92 (j := 0) rfl (by rw [ev43]; rfl) (by decide) rfl ?_
        refine g_iload C dJ6_getChars_ba4f3_95 0 rfl ?_
        refine gt_gets C E.2.2.2.2.2.2.2.2.2.2.2.2.2.2.1 (hW kw_1616) (fun _ z => z) dJ6_getChars_ba4f3_97 ?_
        refine g_iload_n C dJ6_getChars_ba4f3_100 rfl 1 rfl ?_
        refine g_ineg C dJ6_getChars_ba4f3_101 ?_
        obtain ⟨g44, h⟩ := h
        refine gt_dgT C E g44 dJ6_getChars_ba4f3_102 ?_
        obtain ⟨g45, h⟩ := h
        refine gc_bast C w30 g32 g45 dJ6_getChars_ba4f3_103 ?_
        have w46 := wt_putA w29 (Int32.toNatClampNeg v43) (vp_nar .byte (dgT (Int32.toNatClampNeg (-y23_x0)))) (k_ne g32 (by decide))
        refine gc_nS (fun S47 eS47 => ?_)
        replace h := h S47 eS47
        have w48 : wt S47 := by rw [eS47]; exact w46
        have w49 : isL S47 Ly23_ := by rw [eS47]; exact w30
        have w50 : ext S0 S47 := by rw [eS47]; exact w31
        have g51 : hK S47 y23_x2 = 20 := by rw [eS47]; exact g32
        refine g_iload C dJ6_getChars_ba4f3_104 3 rfl ?_
        refine g_if_eq (tgt := 118) C dJ6_getChars_ba4f3_106 (by decide) (fun z52 => ?_) (fun z52 => ?_)
        · replace h := h.1 z52
          refine g_iload C dJ6_getChars_ba4f3_118 0 rfl ?_
          exact gc_iret C w48 w49 w50 hr dJ6_getChars_ba4f3_120 h
        · replace h := h.2 z52
          refine g_aload_n C dJ6_getChars_ba4f3_109 rfl 2 rfl ?_
          obtain ⟨v53, ev53⟩ : ∃ y : Int32, y = v43 + (-1) := ⟨_, rfl⟩
          replace h := h v53 ev53
          refine g_iinc (v := v53) (lv' := [(5, .int v53), (0, .int y23_x0), (2, .ref y23_x2), (6, .int y23_x6)]) C dJ6_getChars_ba4f3_110 (j := 0) rfl (by rw [ev53]; rfl) (by decide) rfl ?_
          refine g_iload C dJ6_getChars_ba4f3_113 0 rfl ?_
          refine g_bipush (v := 45) C dJ6_getChars_ba4f3_115 (by decide) ?_
          obtain ⟨g54, h⟩ := h
          refine gc_bast C w49 g51 g54 dJ6_getChars_ba4f3_117 ?_
          have w55 := wt_putA w48 (Int32.toNatClampNeg v53) (vp_nar .byte 45) (k_ne g51 (by decide))
          refine gc_nS (fun S56 eS56 => ?_)
          replace h := h S56 eS56
          have w57 : wt S56 := by rw [eS56]; exact w55
          have w58 : isL S56 Ly23_ := by rw [eS56]; exact w49
          have w59 : ext S0 S56 := by rw [eS56]; exact w50
          have g60 : hK S56 y23_x2 = 20 := by rw [eS56]; exact g51
          refine g_iload C dJ6_getChars_ba4f3_118 0 rfl ?_
          exact gc_iret C w57 w58 w59 hr dJ6_getChars_ba4f3_120 h
  · replace h := h.2 z1
    refine g_iconst (v := 1) C dJ6_getChars_ba4f3_7 (by decide) ?_
    refine g_goto (tgt := 12) C dJ6_getChars_ba4f3_8 (by decide) ?_
    refine g_istore (lv' := [(6, .int 1), (5, .int p1), (0, .int p0), (1, .int p1), (2, .ref p2)]) C dJ6_getChars_ba4f3_12 (by decide) rfl ?_
    refine g_iload C dJ6_getChars_ba4f3_14 0 rfl ?_
    refine g_if_ne (tgt := 22) C dJ6_getChars_ba4f3_16 (by decide) (fun _ => ?_) (fun z => absurd z (by decide))
    refine g_locals [2, 4, 1, 0] rfl ?_
    obtain ⟨k100, h⟩ := h
    refine t_J6_getChars_ba4f3_22 C E hr S0 _ P ?_ k100 p0 p2 p1 1 S L hw hL he hp2 h
    · intro y62_x0 y62_x2 y62_x5 y62_x6 Sy62_ Ly62_ hwy62_ hLy62_ hey62_ hy62_x2 h
      replace h := h hy62_x2
      refine g_aload_n C dJ6_getChars_ba4f3_72 rfl 1 rfl ?_
      obtain ⟨v63, ev63⟩ : ∃ y : Int32, y = y62_x5 + (-1) := ⟨_, rfl⟩
      replace h := h v63 ev63
      refine g_iinc (v := v63) (lv' := [(5, .int v63), (0, .int y62_x0), (2, .ref y62_x2), (6, .int y62_x6)]) C dJ6_getChars_ba4f3_73 (j := 2) rfl (by rw [ev63]; rfl) (by decide) rfl ?_
      refine g_iload C dJ6_getChars_ba4f3_76 0 rfl ?_
      refine gt_gets C E.2.2.2.2.2.2.2.2.2.2.2.2.2.1.1 (hW kw_1614) (fun _ z => z) dJ6_getChars_ba4f3_78 ?_
      refine g_iload_n C dJ6_getChars_ba4f3_81 rfl 1 rfl ?_
      refine g_ineg C dJ6_getChars_ba4f3_82 ?_
      obtain ⟨g64, h⟩ := h
      refine gt_dgO C E g64 dJ6_getChars_ba4f3_83 ?_
      obtain ⟨g65, h⟩ := h
      refine gc_bast C hLy62_ hy62_x2 g65 dJ6_getChars_ba4f3_84 ?_
      have w66 := wt_putA hwy62_ (Int32.toNatClampNeg v63) (vp_nar .byte (dgO (Int32.toNatClampNeg (-y62_x0)))) (k_ne hy62_x2 (by decide))
      refine gc_nS (fun S67 eS67 => ?_)
      replace h := h S67 eS67
      have w68 : wt S67 := by rw [eS67]; exact w66
      have w69 : isL S67 Ly62_ := by rw [eS67]; exact hLy62_
      have w70 : ext S0 S67 := by rw [eS67]; exact hey62_
      have g71 : hK S67 y62_x2 = 20 := by rw [eS67]; exact hy62_x2
      refine g_iload_n C dJ6_getChars_ba4f3_85 rfl 1 rfl ?_
      refine g_bipush (v := -9) C dJ6_getChars_ba4f3_86 (by decide) ?_
      refine g_icmp_ge (tgt := 104) C dJ6_getChars_ba4f3_88 (by decide) (fun z72 => ?_) (fun z72 => ?_)
      · replace h := h.1 z72
        refine g_iload C dJ6_getChars_ba4f3_104 3 rfl ?_
        refine g_if_eq (tgt := 118) C dJ6_getChars_ba4f3_106 (by decide) (fun z73 => ?_) (fun z73 => ?_)
        · replace h := h.1 z73
          refine g_iload C dJ6_getChars_ba4f3_118 0 rfl ?_
          exact gc_iret C w68 w69 w70 hr dJ6_getChars_ba4f3_120 h
        · replace h := h.2 z73
          refine g_aload_n C dJ6_getChars_ba4f3_109 rfl 2 rfl ?_
          obtain ⟨v74, ev74⟩ : ∃ y : Int32, y = v63 + (-1) := ⟨_, rfl⟩
          replace h := h v74 ev74
          refine g_iinc (v := v74) (lv' := [(5, .int v74), (0, .int y62_x0), (2, .ref y62_x2), (6, .int y62_x6)]) C dJ6_getChars_ba4f3_110 (j := 0) rfl (by rw [ev74]; rfl) (by decide) rfl ?_
          refine g_iload C dJ6_getChars_ba4f3_113 0 rfl ?_
          refine g_bipush (v := 45) C dJ6_getChars_ba4f3_115 (by decide) ?_
          obtain ⟨g75, h⟩ := h
          refine gc_bast C w69 g71 g75 dJ6_getChars_ba4f3_117 ?_
          have w76 := wt_putA w68 (Int32.toNatClampNeg v74) (vp_nar .byte 45) (k_ne g71 (by decide))
          refine gc_nS (fun S77 eS77 => ?_)
          replace h := h S77 eS77
          have w78 : wt S77 := by rw [eS77]; exact w76
          have w79 : isL S77 Ly62_ := by rw [eS77]; exact w69
          have w80 : ext S0 S77 := by rw [eS77]; exact w70
          have g81 : hK S77 y62_x2 = 20 := by rw [eS77]; exact g71
          refine g_iload C dJ6_getChars_ba4f3_118 0 rfl ?_
          exact gc_iret C w78 w79 w80 hr dJ6_getChars_ba4f3_120 h
      · replace h := h.2 z72
        refine g_aload_n C dJ6_getChars_ba4f3_91 rfl 2 rfl ?_
        obtain ⟨v82, ev82⟩ : ∃ y : Int32, y = v63 + (-1) := ⟨_, rfl⟩
        replace h := h v82 ev82
        refine g_iinc (v := v82) (lv' := [(5, .int v82), (0, .int y62_x0), (2, .ref y62_x2), (6, .int y62_x6)]) C dJ6_getChars_ba4f3_92 (j := 0) rfl (by rw [ev82]; rfl) (by decide) rfl ?_
        refine g_iload C dJ6_getChars_ba4f3_95 0 rfl ?_
        refine gt_gets C E.2.2.2.2.2.2.2.2.2.2.2.2.2.2.1 (hW kw_1616) (fun _ z => z) dJ6_getChars_ba4f3_97 ?_
        refine g_iload_n C dJ6_getChars_ba4f3_100 rfl 1 rfl ?_
        refine g_ineg C dJ6_getChars_ba4f3_101 ?_
        obtain ⟨g83, h⟩ := h
        refine gt_dgT C E g83 dJ6_getChars_ba4f3_102 ?_
        obtain ⟨g84, h⟩ := h
        refine gc_bast C w69 g71 g84 dJ6_getChars_ba4f3_103 ?_
        have w85 := wt_putA w68 (Int32.toNatClampNeg v82) (vp_nar .byte (dgT (Int32.toNatClampNeg (-y62_x0)))) (k_ne g71 (by decide))
        refine gc_nS (fun S86 eS86 => ?_)
        replace h := h S86 eS86
        have w87 : wt S86 := by rw [eS86]; exact w85
        have w88 : isL S86 Ly62_ := by rw [eS86]; exact w69
        have w89 : ext S0 S86 := by rw [eS86]; exact w70
        have g90 : hK S86 y62_x2 = 20 := by rw [eS86]; exact g71
        refine g_iload C dJ6_getChars_ba4f3_104 3 rfl ?_
        refine g_if_eq (tgt := 118) C dJ6_getChars_ba4f3_106 (by decide) (fun z91 => ?_) (fun z91 => ?_)
        · replace h := h.1 z91
          refine g_iload C dJ6_getChars_ba4f3_118 0 rfl ?_
          exact gc_iret C w87 w88 w89 hr dJ6_getChars_ba4f3_120 h
        · replace h := h.2 z91
          refine g_aload_n C dJ6_getChars_ba4f3_109 rfl 2 rfl ?_
          obtain ⟨v92, ev92⟩ : ∃ y : Int32, y = v82 + (-1) := ⟨_, rfl⟩
          replace h := h v92 ev92
          refine g_iinc (v := v92) (lv' := [(5, .int v92), (0, .int y62_x0), (2, .ref y62_x2), (6, .int y62_x6)]) C dJ6_getChars_ba4f3_110 (j := 0) rfl (by rw [ev92]; rfl) (by decide) rfl ?_
          refine g_iload C dJ6_getChars_ba4f3_113 0 rfl ?_
          refine g_bipush (v := 45) C dJ6_getChars_ba4f3_115 (by decide) ?_
          obtain ⟨g93, h⟩ := h
          refine gc_bast C w88 g90 g93 dJ6_getChars_ba4f3_117 ?_
          have w94 := wt_putA w87 (Int32.toNatClampNeg v92) (vp_nar .byte 45) (k_ne g90 (by decide))
          refine gc_nS (fun S95 eS95 => ?_)
          replace h := h S95 eS95
          have w96 : wt S95 := by rw [eS95]; exact w94
          have w97 : isL S95 Ly62_ := by rw [eS95]; exact w88
          have w98 : ext S0 S95 := by rw [eS95]; exact w89
          have g99 : hK S95 y62_x2 = 20 := by rw [eS95]; exact g90
          refine g_iload C dJ6_getChars_ba4f3_118 0 rfl ?_
          exact gc_iret C w96 w97 w98 hr dJ6_getChars_ba4f3_120 h
theorem c_J6_getChars_ba4f3 (l : Launch) (D : va_G) (T : Nat → ClassId) (p0 : Int32) (p1 : Int32) (p2 : Nat) (S : HS) (hp2 : hK S p2 = 20) (P : Int32 → HS → Prop) (h : wp_J6_getChars_ba4f3 P p0 p1 p2 S) : CMi l yJ6_getChars_ba4f3 (ws_J6_getChars_ba4f3) rm_J6_getChars_ba4f3 D T [.int p0, .int p1, .ref p2] S 0 0 P := gc_meti (by decide) rfl rfl (Nat.le_of_ble_eq_true rfl) (fun p e s m args below meth c A L C E hnm hr hw hL => t_J6_getChars_ba4f3 C E   hr P p0 p1 p2 S S L rfl hw hL hp2 h)
theorem rl_gc {K : Int32 → Nat → Int32 → Int32 → HS → Prop} {P : Int32 → HS → Prop} {S : HS} {x n e : Nat} (hn : n ≤ 9999) (hm : e + (nuL n).length ≤ hN S x) (hx : hN S x ≤ 1000) (hK9 : ∀ w p S1, w < 100 → ((n < 100 ∧ w = n ∧ S1 = S ∧ p = e + (nuL n).length) ∨ (100 ≤ n ∧ w = n / 100 ∧ p + 2 = e + (nuL n).length ∧ S1 = putA (putA S x (p + 1) (nI (48 + n % 10))) x p (nI (48 + n / 10 % 10)))) → K (-nI w) x (nI p) 0 S1) : wp_J6_getChars_ba4f3_22 K P 3 (-nI n) x (nI (e + (nuL n).length)) 0 S := by
  have hl := nuL_l n
  rw [wp_J6_getChars_ba4f3_22]; unfold wb_J6_getChars_ba4f3_22
  refine ⟨fun z => ?_, fun z v3 e3 v4 e4 v5 e5 => ?_⟩
  · have h1 := (sb_nlt (a := 100) (by decide) (by omega)).mp z
    exact hK9 n _ S h1 (Or.inl ⟨h1, rfl, rfl, rfl⟩)
  have h1 : 100 ≤ n := by
    rcases Nat.lt_or_ge n 100 with q | q
    · exact absurd ((sb_nlt (a := 100) (by decide) (by omega)).mpr q) z
    · exact q
  obtain ⟨p, ep⟩ : ∃ p, p + 2 = e + (nuL n).length := ⟨e + (nuL n).length - 2, by
    rw [hl, if_neg (by omega), if_neg (by omega)]
    split <;> omega⟩
  rw [← ep] at e5 hm
  have e3' : v3 = -nI (n / 100) := e3.trans (sb_ndiv (by omega))
  have e4' : v4 = nI (n % 100) := by rw [e4, e3']; exact sb_nrem (by omega)
  have e5' : v5 = nI (p + 1) := by rw [e5, sb_m1 (by omega)]; rfl
  subst e3' e4' e5'
  have i4 : (nI (n % 100)).toNatClampNeg = n % 100 := nI_clamp (by omega)
  have i5 : (nI (p + 1)).toNatClampNeg = p + 1 := nI_clamp (by omega)
  rw [nz_vp (a := n % 100) (by omega) (by decide), nz_vp (a := p + 1) (by omega) (by omega), i4, i5]
  refine ⟨by omega, by omega, fun S9 e9 v14 e14 => ?_⟩
  have e14' : v14 = nI p := by rw [e14, sb_m1 (by omega)]; rfl
  subst e14'
  have i6 : (nI p).toNatClampNeg = p := nI_clamp (by omega)
  have n9 : hN S9 x = hN S x := by rw [e9, px_NA]
  rw [nz_vp (a := p) (by omega) (by omega), i6, n9]
  refine ⟨by omega, by omega, fun S18 e18 => ?_⟩
  rw [dg_n, show n % 100 % 10 = n % 10 by omega] at e9
  rw [dg_t (by omega), show n % 100 / 10 = n / 10 % 10 by omega, e9] at e18
  rw [wp_J6_getChars_ba4f3_22]; unfold wb_J6_getChars_ba4f3_22
  have h2 : n / 100 < 100 := by omega
  exact ⟨fun _ => hK9 (n / 100) p S18 h2 (Or.inr ⟨h1, rfl, ep, e18⟩), fun z => absurd ((sb_nlt (a := 100) (by decide) (by omega)).mpr h2) z⟩
theorem k_J6_getChars_ba4f3 (l : Launch) (D : va_G) (T : Nat → ClassId) (p0 : Int32) (p1 : Int32) (p2 : Nat) (S : HS) (e0 : Nat) (e1 : Nat) (hp2 : hK S p2 = 20) (h : p0 = nI e0 ∧ e0 ≤ 9999 ∧ p1 = nI (e1 + (nuL e0).length) ∧ e1 + (nuL e0).length ≤ hN S p2 ∧ hN S p2 ≤ 1000) : CMi l yJ6_getChars_ba4f3 (ws_J6_getChars_ba4f3) rm_J6_getChars_ba4f3 D T [.int p0, .int p1, .ref p2] S 0 0 (fun v S1 => (v = nI e1 ∧ aoN S S1 p2 ∧ ∀ j, hA S1 p2 j = if e1 ≤ j ∧ j < e1 + (nuL e0).length then (nuL e0).getD (j - e1) 0 else hA S p2 j)) := c_J6_getChars_ba4f3 l D T p0 p1 p2 S hp2 _ <|
  (by
    obtain ⟨e, hn, ei, hm, hx⟩ := h
    subst e ei
    have hl := nuL_l e0
    unfold wp_J6_getChars_ba4f3
    refine ⟨fun _ => ⟨3, rl_gc hn hm hx (fun w p S1 hw hc => ?_)⟩, fun z => absurd (nI_pos' (by omega)) z⟩
    have nS1 : hN S1 p2 = hN S p2 := by
      rcases hc with ⟨_, _, c, _⟩ | ⟨_, _, _, c⟩ <;> rw [c]
      rw [px_NA, px_NA]
    have aS1 : aoN S S1 p2 := by
      rcases hc with ⟨_, _, c, _⟩ | ⟨_, _, _, c⟩ <;> rw [c]
      · exact aoN.rf
      · exact (aoN.rf.pA _ _).pA _ _
    have hp : p ≤ hN S p2 ∧ p = e1 + (if w < 10 then 1 else 2) := by
      rcases hc with ⟨c1, c2, _, c4⟩ | ⟨c1, c2, c4, _⟩
      · subst c2
        refine ⟨by omega, ?_⟩
        rw [c4, hl]
        congr 1
        by_cases q : w < 10
        · rw [if_pos q, if_pos q]
        · rw [if_neg q, if_neg q, if_pos c1]
      · refine ⟨by omega, ?_⟩
        rw [hl, if_neg (by omega), if_neg (by omega)] at c4
        by_cases q : e0 < 1000
        · rw [if_pos q] at c4
          rw [if_pos (by omega)]
          omega
        · rw [if_neg q] at c4
          rw [if_neg (by omega)]
          omega
    obtain ⟨hp1, hp2⟩ := hp
    have p1 : 1 ≤ p := by rw [hp2]; split <;> omega
    intro _ v24 e24
    have e24' : v24 = nI (p - 1) := e24.trans (sb_m1 (by omega))
    subst e24'
    rw [show -(-nI w) = nI w from Int32.neg_neg, nz_vp (a := w) (by omega) (by decide), nz_vp (a := p - 1) (by omega) (by rw [nS1]; omega), show (nI w).toNatClampNeg = w from nI_clamp (by omega), show (nI (p - 1)).toNatClampNeg = p - 1 from nI_clamp (by omega), dg_n, dg_t hw, nS1]
    refine ⟨hw, by omega, fun S28 e28 => ⟨fun z => ⟨fun _ => ?_, fun z9 => absurd rfl z9⟩, fun z v43 e43 => ?_⟩⟩
    · have w9 : w ≤ 9 := (sb_nle (a := 9) (by decide) (by omega)).mp z
      rw [if_pos (by omega)] at hp2
      refine ⟨by rw [hp2]; rfl, by rw [e28]; exact aS1.pA _ _, fun j => ?_⟩
      rw [e28, pa_at]
      rcases hc with ⟨c1, c2, c3, c4⟩ | ⟨c1, c2, c4, c3⟩
      · subst c2 c3
        rw [nu_1 (show w < 10 by omega)]
        dsimp only [List.length_cons, List.length_nil]
        by_cases q : j = e1
        · rw [if_pos (by omega), if_pos (by omega), q, Nat.sub_self]; rfl
        · rw [if_neg (by omega), if_neg (by omega)]
      · have l3 : e0 < 1000 := by omega
        rw [nu_3 c1 l3] at c4 ⊢
        dsimp only [List.length_cons, List.length_nil] at c4 ⊢
        rw [c3, pa_at, pa_at, c2]
        rcases (by omega : j = e1 ∨ j = e1 + 1 ∨ j = e1 + 2 ∨ (j < e1 ∨ e1 + 3 ≤ j)) with q | q | q | q
        · rw [if_pos (by omega), if_pos (by omega), q, Nat.sub_self]; rfl
        · rw [if_neg (by omega), if_pos (by omega), if_pos (by omega), q, Nat.add_sub_cancel_left]; rfl
        · rw [if_neg (by omega), if_neg (by omega), if_pos (by omega), if_pos (by omega), q, Nat.add_sub_cancel_left]; rfl
        · rw [if_neg (by omega), if_neg (by omega), if_neg (by omega), if_neg (by omega)]
    · have w9 : ¬ w < 10 := fun q => z ((sb_nle (a := 9) (by decide) (by omega)).mpr (by omega))
      rw [if_neg w9] at hp2
      have e43' : v43 = nI (p - 2) := by rw [e43, sb_m1 (by omega)]; rfl
      subst e43'
      rw [nz_vp (a := p - 2) (by omega) (by rw [e28, px_NA, nS1]; omega), show (nI (p - 2)).toNatClampNeg = p - 2 from nI_clamp (by omega), show hN S28 p2 = hN S p2 by rw [e28, px_NA, nS1]]
      refine ⟨hw, by omega, fun S47 e47 => ⟨fun _ => ⟨by rw [hp2]; rfl, by rw [e47, e28]; exact (aS1.pA _ _).pA _ _, fun j => ?_⟩, fun z9 => absurd rfl z9⟩⟩
      rw [e47, pa_at, e28, pa_at]
      rcases hc with ⟨c1, c2, c3, c4⟩ | ⟨c1, c2, c4, c3⟩
      · subst c2 c3
        rw [nu_2 (show 10 ≤ w by omega) hw]
        dsimp only [List.length_cons, List.length_nil]
        rcases (by omega : j = e1 ∨ j = e1 + 1 ∨ (j < e1 ∨ e1 + 2 ≤ j)) with q | q | q
        · rw [if_pos (by omega), if_pos (by omega), q, Nat.sub_self]
          exact congrArg nI (show 48 + w / 10 = 48 + w / 10 % 10 by omega)
        · rw [if_neg (by omega), if_pos (by omega), if_pos (by omega), q, Nat.add_sub_cancel_left]; rfl
        · rw [if_neg (by omega), if_neg (by omega), if_neg (by omega)]
      · have l4 : 1000 ≤ e0 := by omega
        rw [nu_4 l4] at c4 ⊢
        dsimp only [List.length_cons, List.length_nil] at c4 ⊢
        rw [c3, pa_at, pa_at, c2]
        rcases (by omega : j = e1 ∨ j = e1 + 1 ∨ j = e1 + 2 ∨ j = e1 + 3 ∨ (j < e1 ∨ e1 + 4 ≤ j)) with q | q | q | q | q
        · rw [if_pos (by omega), if_pos (by omega), q, Nat.sub_self, show e0 / 100 / 10 = e0 / 1000 % 10 by omega]; rfl
        · rw [if_neg (by omega), if_pos (by omega), if_pos (by omega), q, Nat.add_sub_cancel_left]; rfl
        · rw [if_neg (by omega), if_neg (by omega), if_pos (by omega), if_pos (by omega), q, Nat.add_sub_cancel_left]; rfl
        · rw [if_neg (by omega), if_neg (by omega), if_neg (by omega), if_pos (by omega), if_pos (by omega), q, Nat.add_sub_cancel_left]; rfl
        · rw [if_neg (by omega), if_neg (by omega), if_neg (by omega), if_neg (by omega), if_neg (by omega)])
abbrev ws_J5_newCapacity_0f7a4 : List Cond := Cond.code yJ5_newCapacity_0f7a4 cJ5_newCapacity_0f7a4 6 (some .int) :: W0
abbrev rm_J5_newCapacity_0f7a4 : Room := ({ frames := 5, cells := 0, slots := 0, locals := 200 } : Room)
theorem dJ5_newCapacity_0f7a4_0 : decode cJ5_newCapacity_0f7a4 0 = .ok (.aload_n 0, 1) := by decide +kernel
theorem dJ5_newCapacity_0f7a4_1 : decode cJ5_newCapacity_0f7a4 1 = .ok (.getfield 15, 3) := by decide +kernel
theorem dJ5_newCapacity_0f7a4_4 : decode cJ5_newCapacity_0f7a4 4 = .ok (.arraylength, 1) := by decide +kernel
theorem dJ5_newCapacity_0f7a4_5 : decode cJ5_newCapacity_0f7a4 5 = .ok (.istore_n 2, 1) := by decide +kernel
theorem dJ5_newCapacity_0f7a4_6 : decode cJ5_newCapacity_0f7a4 6 = .ok (.iload_n 1, 1) := by decide +kernel
theorem dJ5_newCapacity_0f7a4_7 : decode cJ5_newCapacity_0f7a4 7 = .ok (.aload_n 0, 1) := by decide +kernel
theorem dJ5_newCapacity_0f7a4_8 : decode cJ5_newCapacity_0f7a4 8 = .ok (.getfield 22, 3) := by decide +kernel
theorem dJ5_newCapacity_0f7a4_11 : decode cJ5_newCapacity_0f7a4 11 = .ok (.ishl, 1) := by decide +kernel
theorem dJ5_newCapacity_0f7a4_12 : decode cJ5_newCapacity_0f7a4 12 = .ok (.istore_n 3, 1) := by decide +kernel
theorem dJ5_newCapacity_0f7a4_13 : decode cJ5_newCapacity_0f7a4 13 = .ok (.iload_n 3, 1) := by decide +kernel
theorem dJ5_newCapacity_0f7a4_14 : decode cJ5_newCapacity_0f7a4 14 = .ok (.iload_n 2, 1) := by decide +kernel
theorem dJ5_newCapacity_0f7a4_15 : decode cJ5_newCapacity_0f7a4 15 = .ok (.isub, 1) := by decide +kernel
theorem dJ5_newCapacity_0f7a4_16 : decode cJ5_newCapacity_0f7a4 16 = .ok (.istore 4, 2) := by decide +kernel
theorem dJ5_newCapacity_0f7a4_18 : decode cJ5_newCapacity_0f7a4 18 = .ok (.iload_n 2, 1) := by decide +kernel
theorem dJ5_newCapacity_0f7a4_19 : decode cJ5_newCapacity_0f7a4 19 = .ok (.iload 4, 2) := by decide +kernel
theorem dJ5_newCapacity_0f7a4_21 : decode cJ5_newCapacity_0f7a4 21 = .ok (.iload_n 2, 1) := by decide +kernel
theorem dJ5_newCapacity_0f7a4_22 : decode cJ5_newCapacity_0f7a4 22 = .ok (.iconst 2, 1) := by decide +kernel
theorem dJ5_newCapacity_0f7a4_23 : decode cJ5_newCapacity_0f7a4 23 = .ok (.aload_n 0, 1) := by decide +kernel
theorem dJ5_newCapacity_0f7a4_24 : decode cJ5_newCapacity_0f7a4 24 = .ok (.getfield 22, 3) := by decide +kernel
theorem dJ5_newCapacity_0f7a4_27 : decode cJ5_newCapacity_0f7a4 27 = .ok (.ishl, 1) := by decide +kernel
theorem dJ5_newCapacity_0f7a4_28 : decode cJ5_newCapacity_0f7a4 28 = .ok (.iadd, 1) := by decide +kernel
theorem dJ5_newCapacity_0f7a4_29 : decode cJ5_newCapacity_0f7a4 29 = .ok (.invokestatic 114, 3) := by decide +kernel
theorem dJ5_newCapacity_0f7a4_32 : decode cJ5_newCapacity_0f7a4 32 = .ok (.istore 5, 2) := by decide +kernel
theorem dJ5_newCapacity_0f7a4_34 : decode cJ5_newCapacity_0f7a4 34 = .ok (.iload 5, 2) := by decide +kernel
theorem dJ5_newCapacity_0f7a4_36 : decode cJ5_newCapacity_0f7a4 36 = .ok (.ldc 39, 2) := by decide +kernel
theorem dJ5_newCapacity_0f7a4_38 : decode cJ5_newCapacity_0f7a4 38 = .ok (.if_icmp .ne 13, 3) := by decide +kernel
theorem dJ5_newCapacity_0f7a4_41 : decode cJ5_newCapacity_0f7a4 41 = .ok (.new 120, 3) := by decide +kernel
theorem dJ5_newCapacity_0f7a4_44 : decode cJ5_newCapacity_0f7a4 44 = .ok (.dup, 1) := by decide +kernel
theorem dJ5_newCapacity_0f7a4_45 : decode cJ5_newCapacity_0f7a4 45 = .ok (.ldc 122, 2) := by decide +kernel
theorem dJ5_newCapacity_0f7a4_47 : decode cJ5_newCapacity_0f7a4 47 = .ok (.invokespecial 124, 3) := by decide +kernel
theorem dJ5_newCapacity_0f7a4_50 : decode cJ5_newCapacity_0f7a4 50 = .ok (.athrow, 1) := by decide +kernel
theorem dJ5_newCapacity_0f7a4_51 : decode cJ5_newCapacity_0f7a4 51 = .ok (.iload 5, 2) := by decide +kernel
theorem dJ5_newCapacity_0f7a4_53 : decode cJ5_newCapacity_0f7a4 53 = .ok (.aload_n 0, 1) := by decide +kernel
theorem dJ5_newCapacity_0f7a4_54 : decode cJ5_newCapacity_0f7a4 54 = .ok (.getfield 22, 3) := by decide +kernel
theorem dJ5_newCapacity_0f7a4_57 : decode cJ5_newCapacity_0f7a4 57 = .ok (.ishr, 1) := by decide +kernel
theorem dJ5_newCapacity_0f7a4_58 : decode cJ5_newCapacity_0f7a4 58 = .ok (.ireturn, 1) := by decide +kernel
def wp_J5_newCapacity_0f7a4 (P : Int32 → HS → Prop) (x0 : Nat) (p0 : Int32) (S : HS) : Prop := ∃ b2 : Nat, hR S 240 x0 = some b2 ∧ (hK S b2 = 20 → (∀ v4 : Int32, v4 = (Int32.ofNat (hN S b2)) → (∀ v5 : Int32, v5 = (p0 <<< ((hI S 241 x0) &&& 31)) → (∀ v6 : Int32, v6 = (v5 - v4) → (∃ (m7 : Nat) (m8 : Nat) (m9 : Nat), ((v4 = nI m7 ∧ v6 = nI m8 ∧ (v4 + ((2 : Int32) <<< ((hI S 241 x0) &&& 31))) = nI m9 ∧ 0 < m8 ∧ m7 + m8 + m9 < 2 ^ 30) ∧ (∀ v15 : Int32, v15 = (nI (m7 + (if m8 < m9 then m9 else m8))) → ((¬ v15 = 2147483647 → (P (v15 >>> ((hI S 241 x0) &&& 31)) S)) ∧ (v15 = 2147483647 → (False))))))))))
set_option maxRecDepth 100000 in
set_option maxHeartbeats 4000000 in
theorem t_J5_newCapacity_0f7a4 {p : Program} {l : Launch} {e : Env} {s : State} {m : MethodId} {args : Array Value} {below : List Frame} {meth : Method} {c : Code} {D : va_G} {A : Nat → Prop} {T : Nat → ClassId} (C : GC p s m args meth c cJ5_newCapacity_0f7a4 "java/lang/AbstractStringBuilder" (ws_J5_newCapacity_0f7a4) 6 D A (zty T)) (E : GE T A s) (hr : meth.sig.returnType = (some .int)) (P : Int32 → HS → Prop) : ∀ (x0 : Nat) (p0 : Int32) (S0 S : HS) (L : List Nat), S0 = S → wt S → hL S L → (hK S x0 = 12) → wp_J5_newCapacity_0f7a4 P x0 p0 S → GW p l e { rm_J5_newCapacity_0f7a4 with cells := 0, slots := 0 } s m args below meth c D A 6 0 0 (MQ below (va_Qi (fun v (u : HS × List Nat) => P v u.1 ∧ CO S0 u) (CE D T A) A) args s 0 0 A) (CW T S L) 0 0 0 [(0, .ref x0), (1, .int p0)] [] := by
  have hW : ∀ {w : Cond}, w ∈ W0 → w.before args s = true := fun h => C.2.2.2.2.1 _ (List.mem_cons_of_mem _ h)
  intro x0 p0 S0 S L hS0 hw hL hx0 h
  have he : ext S0 S := by rw [hS0]; exact ext_rf
  unfold wp_J5_newCapacity_0f7a4 at h
  refine g_aload_n C dJ5_newCapacity_0f7a4_0 rfl 0 rfl ?_
  refine gt_getR C hw iwx_J4 hL hx0 (by decide) (by decide) rfl 0 (by decide) (hW kw_111) (fun _ z => z) rfl rfl dJ5_newCapacity_0f7a4_1 (fun o1 eo1 ko1 => ?_)
  obtain ⟨b2, hb9, h⟩ := h
  have g3 : hK S b2 = 20 := ko1 b2 (eo1.trans hb9)
  replace h := h g3
  refine g_opt (eo1.trans hb9) ?_
  refine gc_alen C E hL g3 (by decide) rfl dJ5_newCapacity_0f7a4_4 ?_
  refine g_topi (fun v4 ev4 => ?_)
  replace h := h v4 ev4
  refine g_istore_n (lv' := [(2, .int v4), (0, .ref x0), (1, .int p0)]) C dJ5_newCapacity_0f7a4_5 rfl (by decide) rfl ?_
  refine g_iload_n C dJ5_newCapacity_0f7a4_6 rfl 2 rfl ?_
  refine g_aload_n C dJ5_newCapacity_0f7a4_7 rfl 1 rfl ?_
  refine gt_getI C iwx_J4 hL hx0 (by decide) (by decide) rfl 1 (by decide) (hW kw_112) (fun _ z => z) rfl rfl dJ5_newCapacity_0f7a4_8 ?_
  refine g_ishl C dJ5_newCapacity_0f7a4_11 ?_
  refine g_topi (fun v5 ev5 => ?_)
  replace h := h v5 ev5
  refine g_istore_n (lv' := [(3, .int v5), (2, .int v4), (0, .ref x0), (1, .int p0)]) C dJ5_newCapacity_0f7a4_12 rfl (by decide) rfl ?_
  refine g_iload_n C dJ5_newCapacity_0f7a4_13 rfl 0 rfl ?_
  refine g_iload_n C dJ5_newCapacity_0f7a4_14 rfl 1 rfl ?_
  refine g_isub C dJ5_newCapacity_0f7a4_15 ?_
  refine g_topi (fun v6 ev6 => ?_)
  replace h := h v6 ev6
  refine g_istore (lv' := [(4, .int v6), (3, .int v5), (2, .int v4), (0, .ref x0), (1, .int p0)]) C dJ5_newCapacity_0f7a4_16 (by decide) rfl ?_
  refine g_iload_n C dJ5_newCapacity_0f7a4_18 rfl 2 rfl ?_
  refine g_iload C dJ5_newCapacity_0f7a4_19 0 rfl ?_
  refine g_iload_n C dJ5_newCapacity_0f7a4_21 rfl 2 rfl ?_
  refine g_iconst (v := 2) C dJ5_newCapacity_0f7a4_22 (by decide) ?_
  refine g_aload_n C dJ5_newCapacity_0f7a4_23 rfl 3 rfl ?_
  refine gt_getI C iwx_J4 hL hx0 (by decide) (by decide) rfl 1 (by decide) (hW kw_112) (fun _ z => z) rfl rfl dJ5_newCapacity_0f7a4_24 ?_
  refine g_ishl C dJ5_newCapacity_0f7a4_27 ?_
  refine g_iadd C dJ5_newCapacity_0f7a4_28 ?_
  obtain ⟨m7, m8, m9, h⟩ := h
  obtain ⟨g10, h⟩ := h
  refine gc_calliS (host := "") C E hw hL [.int v4, .int v6, .int (v4 + ((2 : Int32) <<< ((hI S 241 x0) &&& 31)))] rfl (k_J8_newLength_cabcc l D T v4 v6 (v4 + ((2 : Int32) <<< ((hI S 241 x0) &&& 31))) S m7 m8 m9  g10) (w0_S 3 C.2.2.2.2.1 kw_1545 kw_822 kw_29 kw_823 rfl rfl (by decide +kernel) ⟨Nat.le_of_ble_eq_true rfl, Nat.le_of_ble_eq_true rfl⟩) rfl (Nat.le_of_ble_eq_true rfl) (Nat.le_refl _) (Nat.le_refl _) (Nat.zero_le _) (Nat.zero_le _) dJ5_newCapacity_0f7a4_29 (fun v9 S9 L11 he9 hw9 hL9 hp => ?_)
  obtain ⟨hv9, hs9⟩ := hp
  replace hs9 := hs9.symm
  subst hs9
  replace hv9 := hv9.symm
  subst hv9
  have w14 := hL9
  refine g_topi (fun v15 ev15 => ?_)
  replace h := h v15 ev15
  refine g_istore (lv' := [(5, .int v15), (4, .int v6), (3, .int v5), (2, .int v4), (0, .ref x0), (1, .int p0)]) C dJ5_newCapacity_0f7a4_32 (by decide) rfl ?_
  refine g_iload C dJ5_newCapacity_0f7a4_34 0 rfl ?_
  refine g_ldc (v := 2147483647) C dJ5_newCapacity_0f7a4_36 (hW kw_1546) ?_
  refine g_icmp_ne (tgt := 51) C dJ5_newCapacity_0f7a4_38 (by decide) (fun z16 => ?_) (fun z16 => ?_)
  · replace h := h.1 z16
    refine g_iload C dJ5_newCapacity_0f7a4_51 0 rfl ?_
    refine g_aload_n C dJ5_newCapacity_0f7a4_53 rfl 4 rfl ?_
    refine gt_getI C iwx_J4 w14 hx0 (by decide) (by decide) rfl 1 (by decide) (hW kw_112) (fun _ z => z) rfl rfl dJ5_newCapacity_0f7a4_54 ?_
    refine g_ishr C dJ5_newCapacity_0f7a4_57 ?_
    exact gc_iret C hw w14 he hr dJ5_newCapacity_0f7a4_58 h
  · replace h := h.2 z16
    exact False.elim h
theorem c_J5_newCapacity_0f7a4 (l : Launch) (D : va_G) (T : Nat → ClassId) (x0 : Nat) (p0 : Int32) (S : HS) (hx0 : hK S x0 = 12) (P : Int32 → HS → Prop) (h : wp_J5_newCapacity_0f7a4 P x0 p0 S) : CMi l yJ5_newCapacity_0f7a4 (ws_J5_newCapacity_0f7a4) rm_J5_newCapacity_0f7a4 D T [.ref x0, .int p0] S 0 0 P := gc_meti (by decide) rfl rfl (Nat.le_of_ble_eq_true rfl) (fun p e s m args below meth c A L C E hnm hr hw hL => t_J5_newCapacity_0f7a4 C E   hr P x0 p0 S S L rfl hw hL hx0 h)
theorem k_J5_newCapacity_0f7a4 (l : Launch) (D : va_G) (T : Nat → ClassId) (x0 : Nat) (p0 : Int32) (S : HS) (e0 : Nat) (e1 : Nat) (e2 : Nat) (hx0 : hK S x0 = 12) (h : hI S 241 x0 = 0 ∧ hR S 240 x0 = some e0 ∧ hN S e0 = e1 ∧ p0 = nI e2 ∧ e1 < e2 ∧ e2 ≤ 2 * e1 + 2 ∧ e1 ≤ 400) : CMi l yJ5_newCapacity_0f7a4 (ws_J5_newCapacity_0f7a4) rm_J5_newCapacity_0f7a4 D T [.ref x0, .int p0] S 0 0 (fun v S1 => v = (nI (2 * e1 + 2)) ∧ S1 = S) := c_J5_newCapacity_0f7a4 l D T x0 p0 S hx0 _ <|
  (by
    obtain ⟨i41, r1, en, e, h1, h2, h4⟩ := h
    subst e
    unfold wp_J5_newCapacity_0f7a4
    refine ⟨e0, r1, fun _ v4 e4 v5 e5 v6 e6 => ?_⟩
    rw [i41, sb_shl0] at e5
    have e4' : v4 = nI e1 := by rw [e4, en]; rfl
    have e6' : v6 = nI (e2 - e1) := by rw [e6, e5, e4']; exact pk_sub (by omega)
    rw [i41, sb_shl0]
    refine ⟨e1, e2 - e1, e1 + 2, ⟨e4', e6', by rw [e4']; exact nI_add e1 2, by omega, by omega⟩, fun v15 e15 => ?_⟩
    have e15' : v15 = nI (2 * e1 + 2) := by
      rw [e15]
      congr 1
      split <;> omega
    subst e15'
    refine ⟨fun _ => ?_, fun z => absurd ((nI_eq (b := 2147483647) (by omega) (by decide)).mp z) (by omega)⟩
    rw [sb_shr0]
    exact ⟨rfl, rfl⟩)
abbrev ws_J7_copyOf_9075b : List Cond := Cond.code yJ7_copyOf_9075b cJ7_copyOf_9075b 3 (some (.array .byte)) :: W0
abbrev rm_J7_copyOf_9075b : Room := ({ frames := 4, cells := 0, slots := 0, locals := 200 } : Room)
theorem dJ7_copyOf_9075b_0 : decode cJ7_copyOf_9075b 0 = .ok (.iload_n 1, 1) := by decide +kernel
theorem dJ7_copyOf_9075b_1 : decode cJ7_copyOf_9075b 1 = .ok (.aload_n 0, 1) := by decide +kernel
theorem dJ7_copyOf_9075b_2 : decode cJ7_copyOf_9075b 2 = .ok (.arraylength, 1) := by decide +kernel
theorem dJ7_copyOf_9075b_3 : decode cJ7_copyOf_9075b 3 = .ok (.if_icmp .ne 11, 3) := by decide +kernel
theorem dJ7_copyOf_9075b_6 : decode cJ7_copyOf_9075b 6 = .ok (.aload_n 0, 1) := by decide +kernel
theorem dJ7_copyOf_9075b_7 : decode cJ7_copyOf_9075b 7 = .ok (.invokevirtual 310, 3) := by decide +kernel
theorem dJ7_copyOf_9075b_10 : decode cJ7_copyOf_9075b 10 = .ok (.checkcast 311, 3) := by decide +kernel
theorem dJ7_copyOf_9075b_13 : decode cJ7_copyOf_9075b 13 = .ok (.areturn, 1) := by decide +kernel
theorem dJ7_copyOf_9075b_14 : decode cJ7_copyOf_9075b 14 = .ok (.iload_n 1, 1) := by decide +kernel
theorem dJ7_copyOf_9075b_15 : decode cJ7_copyOf_9075b 15 = .ok (.newarray .byte, 2) := by decide +kernel
theorem dJ7_copyOf_9075b_17 : decode cJ7_copyOf_9075b 17 = .ok (.astore_n 2, 1) := by decide +kernel
theorem dJ7_copyOf_9075b_18 : decode cJ7_copyOf_9075b 18 = .ok (.aload_n 0, 1) := by decide +kernel
theorem dJ7_copyOf_9075b_19 : decode cJ7_copyOf_9075b 19 = .ok (.iconst 0, 1) := by decide +kernel
theorem dJ7_copyOf_9075b_20 : decode cJ7_copyOf_9075b 20 = .ok (.aload_n 2, 1) := by decide +kernel
theorem dJ7_copyOf_9075b_21 : decode cJ7_copyOf_9075b 21 = .ok (.iconst 0, 1) := by decide +kernel
theorem dJ7_copyOf_9075b_22 : decode cJ7_copyOf_9075b 22 = .ok (.aload_n 0, 1) := by decide +kernel
theorem dJ7_copyOf_9075b_23 : decode cJ7_copyOf_9075b 23 = .ok (.arraylength, 1) := by decide +kernel
theorem dJ7_copyOf_9075b_24 : decode cJ7_copyOf_9075b 24 = .ok (.iload_n 1, 1) := by decide +kernel
theorem dJ7_copyOf_9075b_25 : decode cJ7_copyOf_9075b 25 = .ok (.invokestatic 304, 3) := by decide +kernel
theorem dJ7_copyOf_9075b_28 : decode cJ7_copyOf_9075b 28 = .ok (.invokestatic 150, 3) := by decide +kernel
theorem dJ7_copyOf_9075b_31 : decode cJ7_copyOf_9075b 31 = .ok (.aload_n 2, 1) := by decide +kernel
theorem dJ7_copyOf_9075b_32 : decode cJ7_copyOf_9075b 32 = .ok (.areturn, 1) := by decide +kernel
def wp_J7_copyOf_9075b (P : Option Nat → HS → Prop) (p0 : Nat) (p1 : Int32) (S : HS) (mc ms : Nat) : Prop := (¬ p1 = (Int32.ofNat (hN S p0)) → (((¬ p1 < (0 : Int32) ∧ (Int32.toNatClampNeg p1) ≤ 100000000) ∧ 1 ≤ mc ∧ (Int32.toNatClampNeg p1) ≤ ms) ∧ (∀ q2 : Nat, hK S q2 = 0 → zr S q2 → (∀ S9 : HS, S9 = newA S q2 20 (Int32.toNatClampNeg p1) → ((¬ (0 : Int32) < 0 ∧ ¬ (0 : Int32) < 0 ∧ ¬ (if p1 < (Int32.ofNat (hN S9 p0)) then p1 else (Int32.ofNat (hN S9 p0))) < 0 ∧ Int32.toNatClampNeg 0 + Int32.toNatClampNeg (if p1 < (Int32.ofNat (hN S9 p0)) then p1 else (Int32.ofNat (hN S9 p0))) ≤ hN S9 p0 ∧ Int32.toNatClampNeg 0 + Int32.toNatClampNeg (if p1 < (Int32.ofNat (hN S9 p0)) then p1 else (Int32.ofNat (hN S9 p0))) ≤ hN S9 q2 ∧ ∀ i : Nat, i < Int32.toNatClampNeg (if p1 < (Int32.ofNat (hN S9 p0)) then p1 else (Int32.ofNat (hN S9 p0))) → ∃ b : Nat, b < 128 ∧ hA S9 p0 (Int32.toNatClampNeg 0 + i) = nI b) ∧ (∀ S18 : HS, S18 = putAA S9 q2 (va_cpy (hA S9 p0) (hA S9 q2) (Int32.toNatClampNeg 0) (Int32.toNatClampNeg 0) (Int32.toNatClampNeg (if p1 < (Int32.ofNat (hN S9 p0)) then p1 else (Int32.ofNat (hN S9 p0))))) → (P (some q2) S18))))))) ∧ (p1 = (Int32.ofNat (hN S p0)) → (False))
set_option maxRecDepth 100000 in
set_option maxHeartbeats 4000000 in
theorem t_J7_copyOf_9075b {p : Program} {l : Launch} {e : Env} {s : State} {m : MethodId} {args : Array Value} {below : List Frame} {meth : Method} {c : Code} {D : va_G} {A : Nat → Prop} {T : Nat → ClassId} (C : GC p s m args meth c cJ7_copyOf_9075b "java/util/Arrays" (ws_J7_copyOf_9075b) 3 D A (zty T)) (E : GE T A s) (hr : meth.sig.returnType = (some (.array .byte))) (P : Option Nat → HS → Prop) : ∀ (p0 : Nat) (p1 : Int32) (S0 S : HS) (mc ms : Nat) (L : List Nat), S0 = S → wt S → hL S L → (hK S p0 = 20) → wp_J7_copyOf_9075b P p0 p1 S mc ms → GW p l e { rm_J7_copyOf_9075b with cells := mc, slots := ms } s m args below meth c D A 3 mc ms (MQ below (va_Qq (fun v (u : HS × List Nat) => (P v u.1 ∧ ∀ b, v = some b → hK u.1 b = 20) ∧ CO S0 u) (CE D T A) A) args s mc ms A) (CW T S L) mc ms 0 [(0, .ref p0), (1, .int p1)] [] := by
  have hW : ∀ {w : Cond}, w ∈ W0 → w.before args s = true := fun h => C.2.2.2.2.1 _ (List.mem_cons_of_mem _ h)
  intro p0 p1 S0 S mc ms L hS0 hw hL hp0 h
  have he : ext S0 S := by rw [hS0]; exact ext_rf
  unfold wp_J7_copyOf_9075b at h
  refine g_iload_n C dJ7_copyOf_9075b_0 rfl 1 rfl ?_
  refine g_aload_n C dJ7_copyOf_9075b_1 rfl 0 rfl ?_
  refine gc_alen C E hL hp0 (by decide) rfl dJ7_copyOf_9075b_2 ?_
  refine g_icmp_ne (tgt := 14) C dJ7_copyOf_9075b_3 (by decide) (fun z1 => ?_) (fun z1 => ?_)
  · replace h := h.1 z1
    refine g_iload_n C dJ7_copyOf_9075b_14 rfl 1 rfl ?_
    obtain ⟨g3, h⟩ := h
    refine gc_newb C E hw hL (Nat.le_refl _) (Nat.le_refl _) (hW kw_126) g3.1.1 g3.1.2 g3.2.1 g3.2.2 dJ7_copyOf_9075b_15 (fun q2 h0q2 zq2 => ?_)
    replace h := h q2 h0q2 zq2
    have g4 := newA_old 20 (Int32.toNatClampNeg p1) hp0 (by decide) h0q2
    have w5 := wt_newA hw 20 (Int32.toNatClampNeg p1) h0q2 (by decide)
    have w6 := hL_new (S' := newA S q2 20 (Int32.toNatClampNeg p1)) hL (show 20 ≠ 0 by decide) rfl
    have w7 := ext_newA he h0q2 20 (Int32.toNatClampNeg p1)
    have g8 := newA_self S q2 20 (Int32.toNatClampNeg p1)
    refine gc_nS (fun S9 eS9 => ?_)
    replace h := h S9 eS9
    have w10 : wt S9 := by rw [eS9]; exact w5
    have w11 : isL S9 (L ++ [q2]) := by rw [eS9]; exact w6
    have w12 : ext S0 S9 := by rw [eS9]; exact w7
    have g13 : hK S9 q2 = 20 := by rw [eS9]; exact g8
    have g14 : hK S9 p0 = 20 := by rw [eS9]; exact g4
    refine g_astore_n (lv' := [(2, .ref q2), (0, .ref p0), (1, .int p1)]) C dJ7_copyOf_9075b_17 rfl (by decide) rfl ?_
    refine g_aload_n C dJ7_copyOf_9075b_18 rfl 1 rfl ?_
    refine g_iconst (v := 0) C dJ7_copyOf_9075b_19 (by decide) ?_
    refine g_aload_n C dJ7_copyOf_9075b_20 rfl 0 rfl ?_
    refine g_iconst (v := 0) C dJ7_copyOf_9075b_21 (by decide) ?_
    refine g_aload_n C dJ7_copyOf_9075b_22 rfl 1 rfl ?_
    refine gc_alen C E w11 g14 (by decide) rfl dJ7_copyOf_9075b_23 ?_
    refine g_iload_n C dJ7_copyOf_9075b_24 rfl 2 rfl ?_
    refine g_mmin C (hW kw_864) (hW kw_500) (hW kw_18) (hW kw_501) (Nat.le_of_ble_eq_true rfl) (Nat.le_of_ble_eq_true rfl) (Nat.le_refl _) (Nat.le_refl _) dJ7_copyOf_9075b_25 ?_
    obtain ⟨g15, h⟩ := h
    refine gt_cpyB C w11 g14 g13 (hW kw_865) (hW kw_867) (hW kw_866) (hW kw_31) g15.1 g15.2.1 g15.2.2.1 g15.2.2.2.1 g15.2.2.2.2.1 g15.2.2.2.2.2 (Nat.le_of_ble_eq_true rfl) (Nat.le_of_ble_eq_true rfl) dJ7_copyOf_9075b_28 ?_
    have w17 := wt_aa (y := q2) (row := (va_cpy (hA S9 p0) (hA S9 q2) (Int32.toNatClampNeg 0) (Int32.toNatClampNeg 0) (Int32.toNatClampNeg (if p1 < (Int32.ofNat (hN S9 p0)) then p1 else (Int32.ofNat (hN S9 p0)))))) w10 (k_ne g13 (by decide))
    refine gc_nS (fun S18 eS18 => ?_)
    replace h := h S18 eS18
    have w19 : wt S18 := by rw [eS18]; exact w17
    have w20 : isL S18 (L ++ [q2]) := by rw [eS18]; exact w11
    have w21 : ext S0 S18 := by rw [eS18]; exact w12
    have g22 : hK S18 q2 = 20 := by rw [eS18]; exact g13
    have g23 : hK S18 p0 = 20 := by rw [eS18]; exact g14
    refine g_aload_n C dJ7_copyOf_9075b_31 rfl 0 rfl ?_
    exact gc_aret (v := (some q2)) (kd := 20) C (Or.inr ⟨_, rfl⟩) (fun b hb => by cases hb; exact g22) w19 w20 w21 hr dJ7_copyOf_9075b_32 h
  · replace h := h.2 z1
    exact False.elim h
theorem c_J7_copyOf_9075b (l : Launch) (D : va_G) (T : Nat → ClassId) (p0 : Nat) (p1 : Int32) (S : HS) (mc ms : Nat) (hp0 : hK S p0 = 20) (P : Option Nat → HS → Prop) (h : wp_J7_copyOf_9075b P p0 p1 S mc ms) : CMq l yJ7_copyOf_9075b (ws_J7_copyOf_9075b) rm_J7_copyOf_9075b D T [.ref p0, .int p1] S mc ms 20 P := gc_metq (by decide) rfl rfl (Nat.le_of_ble_eq_true rfl) (fun p e s m args below meth c A L C E hnm hr hw hL => t_J7_copyOf_9075b C E   hr P p0 p1 S S mc ms L rfl hw hL hp0 h)
theorem k_J7_copyOf_9075b (l : Launch) (D : va_G) (T : Nat → ClassId) (p0 : Nat) (p1 : Int32) (S : HS) (e0 : Nat) (mc ms : Nat) (hp0 : hK S p0 = 20) (h : p1 = nI e0 ∧ hN S p0 < e0 ∧ e0 ≤ 65536 ∧ (∀ j, ∃ c : Nat, c < 128 ∧ hA S p0 j = nI c) ∧ 1 ≤ mc ∧ e0 ≤ ms) : CMq l yJ7_copyOf_9075b (ws_J7_copyOf_9075b) rm_J7_copyOf_9075b D T [.ref p0, .int p1] S mc ms 20 (fun v S1 => (∃ q, v = some q ∧ hK S q = 0 ∧ S1 = putAA (newA S q 20 e0) q (va_cpy (hA S p0) (fun _ => 0) 0 0 (hN S p0)))) := c_J7_copyOf_9075b l D T p0 p1 S mc ms hp0 _ <|
  (by
    obtain ⟨e, hn, h6, hr, hmc, hms⟩ := h
    subst e
    unfold wp_J7_copyOf_9075b
    have ie : (nI e0).toNatClampNeg = e0 := nI_clamp (by omega)
    rw [ie]
    refine ⟨fun _ => ⟨⟨⟨nI_pos (by omega), by omega⟩, hmc, hms⟩, fun q q0 qz S9 e9 => ?_⟩, fun z => ?_⟩
    · have nq : p0 ≠ q := fun z => by rw [z, q0] at hp0; exact absurd hp0 (by decide)
      have n9 : hN S9 p0 = hN S p0 := by rw [e9, px_NW, if_neg nq]
      have nq9 : hN S9 q = e0 := by rw [e9, px_NW, if_pos rfl]
      have a9 : hA S9 = hA S := by rw [e9, px_AW]
      rw [n9, nq9, a9, show (if nI e0 < Int32.ofNat (hN S p0) then nI e0 else Int32.ofNat (hN S p0)) = nI (hN S p0) from if_neg (fun z => by have := (nI_ltI (by omega) (by omega)).mp (show nI e0 < nI (hN S p0) from z); omega), show (nI (hN S p0)).toNatClampNeg = hN S p0 from nI_clamp (by omega), show Int32.toNatClampNeg 0 = 0 from by decide]
      refine ⟨⟨by decide, by decide, nI_pos (by omega), by omega, by omega, fun i _ => hr _⟩, fun S18 e18 => ⟨q, rfl, q0, ?_⟩⟩
      have ez : hA S q = fun _ => 0 := by funext j; exact qz.2.2.1 j
      rw [e18, e9, ez]
    · have := (nI_eq (by omega) (by omega)).mp (show nI e0 = nI (hN S p0) from z)
      omega)
abbrev ws_J5_ensureCapacityInternal_d00df : List Cond := Cond.code yJ5_ensureCapacityInternal_d00df cJ5_ensureCapacityInternal_d00df 3 none :: W0
abbrev rm_J5_ensureCapacityInternal_d00df : Room := ({ frames := 7, cells := 0, slots := 0, locals := 300 } : Room)
theorem dJ5_ensureCapacityInternal_d00df_0 : decode cJ5_ensureCapacityInternal_d00df 0 = .ok (.aload_n 0, 1) := by decide +kernel
theorem dJ5_ensureCapacityInternal_d00df_1 : decode cJ5_ensureCapacityInternal_d00df 1 = .ok (.getfield 15, 3) := by decide +kernel
theorem dJ5_ensureCapacityInternal_d00df_4 : decode cJ5_ensureCapacityInternal_d00df 4 = .ok (.arraylength, 1) := by decide +kernel
theorem dJ5_ensureCapacityInternal_d00df_5 : decode cJ5_ensureCapacityInternal_d00df 5 = .ok (.aload_n 0, 1) := by decide +kernel
theorem dJ5_ensureCapacityInternal_d00df_6 : decode cJ5_ensureCapacityInternal_d00df 6 = .ok (.getfield 22, 3) := by decide +kernel
theorem dJ5_ensureCapacityInternal_d00df_9 : decode cJ5_ensureCapacityInternal_d00df 9 = .ok (.ishr, 1) := by decide +kernel
theorem dJ5_ensureCapacityInternal_d00df_10 : decode cJ5_ensureCapacityInternal_d00df 10 = .ok (.istore_n 2, 1) := by decide +kernel
theorem dJ5_ensureCapacityInternal_d00df_11 : decode cJ5_ensureCapacityInternal_d00df 11 = .ok (.iload_n 1, 1) := by decide +kernel
theorem dJ5_ensureCapacityInternal_d00df_12 : decode cJ5_ensureCapacityInternal_d00df 12 = .ok (.iload_n 2, 1) := by decide +kernel
theorem dJ5_ensureCapacityInternal_d00df_13 : decode cJ5_ensureCapacityInternal_d00df 13 = .ok (.isub, 1) := by decide +kernel
theorem dJ5_ensureCapacityInternal_d00df_14 : decode cJ5_ensureCapacityInternal_d00df 14 = .ok (.ifCond .le 24, 3) := by decide +kernel
theorem dJ5_ensureCapacityInternal_d00df_17 : decode cJ5_ensureCapacityInternal_d00df 17 = .ok (.aload_n 0, 1) := by decide +kernel
theorem dJ5_ensureCapacityInternal_d00df_18 : decode cJ5_ensureCapacityInternal_d00df 18 = .ok (.aload_n 0, 1) := by decide +kernel
theorem dJ5_ensureCapacityInternal_d00df_19 : decode cJ5_ensureCapacityInternal_d00df 19 = .ok (.getfield 15, 3) := by decide +kernel
theorem dJ5_ensureCapacityInternal_d00df_22 : decode cJ5_ensureCapacityInternal_d00df 22 = .ok (.aload_n 0, 1) := by decide +kernel
theorem dJ5_ensureCapacityInternal_d00df_23 : decode cJ5_ensureCapacityInternal_d00df 23 = .ok (.iload_n 1, 1) := by decide +kernel
theorem dJ5_ensureCapacityInternal_d00df_24 : decode cJ5_ensureCapacityInternal_d00df 24 = .ok (.invokevirtual 104, 3) := by decide +kernel
theorem dJ5_ensureCapacityInternal_d00df_27 : decode cJ5_ensureCapacityInternal_d00df 27 = .ok (.aload_n 0, 1) := by decide +kernel
theorem dJ5_ensureCapacityInternal_d00df_28 : decode cJ5_ensureCapacityInternal_d00df 28 = .ok (.getfield 22, 3) := by decide +kernel
theorem dJ5_ensureCapacityInternal_d00df_31 : decode cJ5_ensureCapacityInternal_d00df 31 = .ok (.ishl, 1) := by decide +kernel
theorem dJ5_ensureCapacityInternal_d00df_32 : decode cJ5_ensureCapacityInternal_d00df 32 = .ok (.invokestatic 108, 3) := by decide +kernel
theorem dJ5_ensureCapacityInternal_d00df_35 : decode cJ5_ensureCapacityInternal_d00df 35 = .ok (.putfield 15, 3) := by decide +kernel
theorem dJ5_ensureCapacityInternal_d00df_38 : decode cJ5_ensureCapacityInternal_d00df 38 = .ok (.return_, 1) := by decide +kernel
def wp_J5_ensureCapacityInternal_d00df (P : HS → Prop) (x0 : Nat) (p0 : Int32) (S : HS) (mc ms : Nat) : Prop := ∃ b2 : Nat, hR S 240 x0 = some b2 ∧ (hK S b2 = 20 → (∀ v4 : Int32, v4 = ((Int32.ofNat (hN S b2)) >>> ((hI S 241 x0) &&& 31)) → (((p0 - v4) ≤ 0 → (P S)) ∧ (¬ (p0 - v4) ≤ 0 → (∃ b7 : Nat, hR S 240 x0 = some b7 ∧ (hK S b7 = 20 → (∃ (m9 : Nat) (m10 : Nat) (m11 : Nat), ((hI S 241 x0 = 0 ∧ hR S 240 x0 = some m9 ∧ hN S m9 = m10 ∧ p0 = nI m11 ∧ m10 < m11 ∧ m11 ≤ 2 * m10 + 2 ∧ m10 ≤ 400) ∧ (∃ cc17 cc18 : Nat, (cc17 ≤ mc ∧ cc18 ≤ ms) ∧ (∃ (m20 : Nat), ((((nI (2 * m10 + 2)) <<< ((hI S 241 x0) &&& 31)) = nI m20 ∧ hN S b7 < m20 ∧ m20 ≤ 65536 ∧ (∀ j, ∃ c : Nat, c < 128 ∧ hA S b7 j = nI c) ∧ 1 ≤ cc17 ∧ m20 ≤ cc18) ∧ (∀ (o27 : Option Nat) (S22 : HS), ext S S22 → (∀ b, o27 = some b → hK S22 b = 20) → (∃ q, o27 = some q ∧ hK S q = 0 ∧ S22 = putAA (newA S q 20 m20) q (va_cpy (hA S b7) (fun _ => 0) 0 0 (hN S b7))) → (∃ b30 : Nat, o27 = some b30 ∧ (hK S22 b30 = 20 → (∀ S33 : HS, S33 = putR S22 240 x0 (some b30) → (P S33))))))))))))))))
set_option maxRecDepth 100000 in
set_option maxHeartbeats 4000000 in
theorem t_J5_ensureCapacityInternal_d00df {p : Program} {l : Launch} {e : Env} {s : State} {m : MethodId} {args : Array Value} {below : List Frame} {meth : Method} {c : Code} {D : va_G} {A : Nat → Prop} {T : Nat → ClassId} (C : GC p s m args meth c cJ5_ensureCapacityInternal_d00df "java/lang/AbstractStringBuilder" (ws_J5_ensureCapacityInternal_d00df) 3 D A (zty T)) (E : GE T A s) (hr : meth.sig.returnType = none) (P : HS → Prop) : ∀ (x0 : Nat) (p0 : Int32) (S0 S : HS) (mc ms : Nat) (L : List Nat), S0 = S → wt S → hL S L → (hK S x0 = 12) → wp_J5_ensureCapacityInternal_d00df P x0 p0 S mc ms → GW p l e { rm_J5_ensureCapacityInternal_d00df with cells := mc, slots := ms } s m args below meth c D A 3 mc ms (MQ below (va_Qv (fun (u : HS × List Nat) => P u.1 ∧ CO S0 u) (CE D T A) A) args s mc ms A) (CW T S L) mc ms 0 [(0, .ref x0), (1, .int p0)] [] := by
  have hW : ∀ {w : Cond}, w ∈ W0 → w.before args s = true := fun h => C.2.2.2.2.1 _ (List.mem_cons_of_mem _ h)
  intro x0 p0 S0 S mc ms L hS0 hw hL hx0 h
  have he : ext S0 S := by rw [hS0]; exact ext_rf
  unfold wp_J5_ensureCapacityInternal_d00df at h
  refine g_aload_n C dJ5_ensureCapacityInternal_d00df_0 rfl 0 rfl ?_
  refine gt_getR C hw iwx_J4 hL hx0 (by decide) (by decide) rfl 0 (by decide) (hW kw_111) (fun _ z => z) rfl rfl dJ5_ensureCapacityInternal_d00df_1 (fun o1 eo1 ko1 => ?_)
  obtain ⟨b2, hb9, h⟩ := h
  have g3 : hK S b2 = 20 := ko1 b2 (eo1.trans hb9)
  replace h := h g3
  refine g_opt (eo1.trans hb9) ?_
  refine gc_alen C E hL g3 (by decide) rfl dJ5_ensureCapacityInternal_d00df_4 ?_
  refine g_aload_n C dJ5_ensureCapacityInternal_d00df_5 rfl 0 rfl ?_
  refine gt_getI C iwx_J4 hL hx0 (by decide) (by decide) rfl 1 (by decide) (hW kw_112) (fun _ z => z) rfl rfl dJ5_ensureCapacityInternal_d00df_6 ?_
  refine g_ishr C dJ5_ensureCapacityInternal_d00df_9 ?_
  refine g_topi (fun v4 ev4 => ?_)
  replace h := h v4 ev4
  refine g_istore_n (lv' := [(2, .int v4), (0, .ref x0), (1, .int p0)]) C dJ5_ensureCapacityInternal_d00df_10 rfl (by decide) rfl ?_
  refine g_iload_n C dJ5_ensureCapacityInternal_d00df_11 rfl 2 rfl ?_
  refine g_iload_n C dJ5_ensureCapacityInternal_d00df_12 rfl 0 rfl ?_
  refine g_isub C dJ5_ensureCapacityInternal_d00df_13 ?_
  refine g_if_le (tgt := 38) C dJ5_ensureCapacityInternal_d00df_14 (by decide) (fun z5 => ?_) (fun z5 => ?_)
  · replace h := h.1 z5
    exact gc_vret C hw hL he hr dJ5_ensureCapacityInternal_d00df_38 h
  · replace h := h.2 z5
    refine g_aload_n C dJ5_ensureCapacityInternal_d00df_17 rfl 1 rfl ?_
    refine g_aload_n C dJ5_ensureCapacityInternal_d00df_18 rfl 1 rfl ?_
    refine gt_getR C hw iwx_J4 hL hx0 (by decide) (by decide) rfl 0 (by decide) (hW kw_111) (fun _ z => z) rfl rfl dJ5_ensureCapacityInternal_d00df_19 (fun o6 eo6 ko6 => ?_)
    obtain ⟨b7, hb9, h⟩ := h
    have g8 : hK S b7 = 20 := ko6 b7 (eo6.trans hb9)
    replace h := h g8
    refine g_opt (eo6.trans hb9) ?_
    refine g_aload_n C dJ5_ensureCapacityInternal_d00df_22 rfl 1 rfl ?_
    refine g_iload_n C dJ5_ensureCapacityInternal_d00df_23 rfl 2 rfl ?_
    obtain ⟨m9, m10, m11, h⟩ := h
    obtain ⟨g12, h⟩ := h
    refine gc_calliU (host := "") C E hw hL hx0 (by decide) (by decide) rfl [.int p0] rfl (k_J5_newCapacity_0f7a4 l D T x0 p0 S m9 m10 m11 hx0 g12) (w0_U 1 C.2.2.2.2.1 kw_1541 kw_2357 kw_1543 (w0_sub List.mem_cons_self) kw_3 kw_1544 rfl rfl (by decide +kernel) ⟨Nat.le_of_ble_eq_true rfl, Nat.le_of_ble_eq_true rfl⟩) rfl (Nat.le_of_ble_eq_true rfl) (Nat.le_refl _) (Nat.le_refl _) (Nat.zero_le _) (Nat.zero_le _) dJ5_ensureCapacityInternal_d00df_24 (fun v9 S9 L13 he9 hw9 hL9 hp => ?_)
    obtain ⟨hv9, hs9⟩ := hp
    replace hs9 := hs9.symm
    subst hs9
    replace hv9 := hv9.symm
    subst hv9
    have w16 := hL9
    refine g_aload_n C dJ5_ensureCapacityInternal_d00df_27 rfl 1 rfl ?_
    refine gt_getI C iwx_J4 w16 hx0 (by decide) (by decide) rfl 1 (by decide) (hW kw_112) (fun _ z => z) rfl rfl dJ5_ensureCapacityInternal_d00df_28 ?_
    refine g_ishl C dJ5_ensureCapacityInternal_d00df_31 ?_
    obtain ⟨cc17, cc18, g19, h⟩ := h
    obtain ⟨m20, h⟩ := h
    obtain ⟨g21, h⟩ := h
    refine gc_callqS (host := "") C E hw w16 [.ref b7, .int ((nI (2 * m10 + 2)) <<< ((hI S 241 x0) &&& 31))] rfl (k_J7_copyOf_9075b l D T b7 ((nI (2 * m10 + 2)) <<< ((hI S 241 x0) &&& 31)) S m20 cc17 cc18 g8 g21) (w0_S 2 C.2.2.2.2.1 kw_1547 kw_1548 kw_30 kw_1549 rfl rfl (by decide +kernel) ⟨Nat.le_of_ble_eq_true rfl, Nat.le_of_ble_eq_true rfl⟩) rfl (Nat.le_of_ble_eq_true rfl) (Nat.le_refl _) (Nat.le_refl _) g19.1 g19.2 dJ5_ensureCapacityInternal_d00df_32 (fun o27 S22 L23 e24 w25 w26 ko27 hp => ?_)
    replace h := h o27 S22 e24 ko27 hp
    have g28 := ext_K e24 hx0 (by decide)
    have w29 := ext_tr he e24
    obtain ⟨b30, rfl, h⟩ := h
    have g31 : hK S22 b30 = 20 := ko27 b30 rfl
    replace h := h g31
    refine gt_putR C iwx_J4 w26 g28 (by decide) (by decide) rfl 0 (by decide) (hW kw_111) (fun _ z => z) tyJ4 tyJ4_ok nmJ4 rfl rfl rfl (some b30) rfl rfl dJ5_ensureCapacityInternal_d00df_35 ?_
    have w32 := wt_putR w25 240 (some b30) (k_ne g28 (by decide)) (fun b hb => by cases hb; exact g31) (by decide)
    refine gc_nS (fun S33 eS33 => ?_)
    replace h := h S33 eS33
    have w34 : wt S33 := by rw [eS33]; exact w32
    have w35 : isL S33 L23 := by rw [eS33]; exact w26
    have w36 : ext S0 S33 := by rw [eS33]; exact w29
    have g37 : hK S33 x0 = 12 := by rw [eS33]; exact g28
    exact gc_vret C w34 w35 w36 hr dJ5_ensureCapacityInternal_d00df_38 h
theorem c_J5_ensureCapacityInternal_d00df (l : Launch) (D : va_G) (T : Nat → ClassId) (x0 : Nat) (p0 : Int32) (S : HS) (mc ms : Nat) (hx0 : hK S x0 = 12) (P : HS → Prop) (h : wp_J5_ensureCapacityInternal_d00df P x0 p0 S mc ms) : CMv l yJ5_ensureCapacityInternal_d00df (ws_J5_ensureCapacityInternal_d00df) rm_J5_ensureCapacityInternal_d00df D T [.ref x0, .int p0] S mc ms P := gc_metv (by decide) rfl rfl (Nat.le_of_ble_eq_true rfl) (fun p e s m args below meth c A L C E hnm hr hw hL => t_J5_ensureCapacityInternal_d00df C E   hr P x0 p0 S S mc ms L rfl hw hL hx0 h)
theorem k_J5_ensureCapacityInternal_d00df (l : Launch) (D : va_G) (T : Nat → ClassId) (x0 : Nat) (p0 : Int32) (S : HS) (e0 : List Int32) (e1 : Nat) (mc ms : Nat) (hx0 : hK S x0 = 12) (h : SbO S x0 e0 ∧ p0 = nI e1 ∧ e1 ≤ 200 ∧ e1 ≤ 2 * sbC S x0 + 2 ∧ sbB S x0 e1 mc ms) : CMv l yJ5_ensureCapacityInternal_d00df (ws_J5_ensureCapacityInternal_d00df) rm_J5_ensureCapacityInternal_d00df D T [.ref x0, .int p0] S mc ms (fun S1 => (SbO S1 x0 e0 ∧ frM S S1 (fun b => b = x0) ∧ sbC S1 x0 = gM (sbC S x0) e1 ∧ (∃ r, hR S1 240 x0 = some r ∧ (hK S r = 0 ∨ hR S 240 x0 = some r)))) := c_J5_ensureCapacityInternal_d00df l D T x0 p0 S mc ms hx0 _ <|
  (by
    obtain ⟨h0, e, h2, h3, hb⟩ := h
    subst e
    obtain ⟨r, r1, r2, r3, ⟨r4, r5, r6⟩, r7, r8⟩ := h0.C
    have i41 := h0.2.1
    unfold wp_J5_ensureCapacityInternal_d00df
    refine ⟨r, r1, fun _ v4 e4 => ?_⟩
    have e4' : v4 = nI (sbC S x0) := by rw [e4, i41, sb_shr0, r3]; rfl
    subst e4'
    have dd : (nI e1 - nI (sbC S x0)).toInt = (e1 : Int) - sbC S x0 := pk_sub_toInt (by omega) (by omega)
    refine ⟨fun c => ?_, fun c => ?_⟩
    · have hle : e1 ≤ sbC S x0 := by rw [Int32.le_iff_toInt_le, dd, Int32.toInt_zero] at c; omega
      exact ⟨h0, frM.rf, (gM_0 hle).symm, r, r1, Or.inr r1⟩
    have hlt : sbC S x0 < e1 := by
      rcases Nat.lt_or_ge (sbC S x0) e1 with q | q
      · exact q
      · exact absurd (by rw [Int32.le_iff_toInt_le, dd, Int32.toInt_zero]; omega) c
    have g1 := gM_1 hlt h3
    unfold sbB at hb
    rw [g1] at hb
    have gp := gM_pay r5 (show sbC S x0 < 200 by omega)
    refine ⟨r, r1, fun _ => ⟨r, sbC S x0, e1, ⟨i41, r1, r3, rfl, hlt, h3, r6⟩, 1, 2 * sbC S x0 + 2, ⟨by omega, by omega⟩, 2 * sbC S x0 + 2, ⟨by rw [i41, sb_shl0], by omega, by omega, r7, Nat.le_refl _, Nat.le_refl _⟩, fun o S22 _ ho h22 => ?_⟩⟩
    obtain ⟨q, eo, q0, e22⟩ := h22
    refine ⟨q, eo, fun _ S31 e31 => ?_⟩
    have xq : x0 ≠ q := fun z => by rw [z, q0] at hx0; exact absurd hx0 (by decide)
    have rq : r ≠ q := fun z => by rw [z, q0] at r2; exact absurd r2 (by decide)
    rw [e22, r3] at e31
    have hr31 : hR S31 240 x0 = some q := by rw [e31, px_RR, if_pos ⟨rfl, rfl⟩]
    have hn31 : hN S31 q = 2 * sbC S x0 + 2 := by rw [e31, px_NR, aa_N, px_NW, if_pos rfl]
    have ha31 : hA S31 q = va_cpy (hA S r) (fun _ => 0) 0 0 (sbC S x0) := by rw [e31, px_AR, aa_A, if_pos rfl]
    refine ⟨⟨?_, ?_, ?_, h0.2.2.2.1, q, hr31, ?_, ?_, fun j => ?_, fun j y hy => ?_⟩, ?_, ?_, q, hr31, Or.inl q0⟩
    · rw [e31, px_KR, aa_K, px_KW, if_neg xq]; exact hx0
    · rw [e31, px_IR, aa_I, px_IW]; exact i41
    · rw [e31, px_IR, aa_I, px_IW]; exact h0.2.2.1
    · rw [e31, px_KR, aa_K, px_KW, if_pos rfl]
    · rw [hn31]; omega
    · rw [ha31]
      unfold va_cpy
      split
      · exact r7 _
      · exact ⟨0, by decide, rfl⟩
    · have hj : j < e0.length := (List.getElem?_eq_some_iff.mp hy).1
      rw [ha31]
      unfold va_cpy
      rw [if_pos ⟨Nat.zero_le _, by omega⟩, Nat.zero_add, Nat.sub_zero]
      exact r8 j y hy
    · rw [e31]
      exact ((frM.rf.nW ext_rf q0 20 (2 * sbC S x0 + 2)).aa q0 _).pR (M := fun b => b = x0) rfl _ _
    · rw [g1]
      unfold sbC
      rw [hr31]
      exact hn31)
abbrev ws_J5_append_3fe6f : List Cond := Cond.code yJ5_append_3fe6f cJ5_append_3fe6f 2 (some (.object "java/lang/AbstractStringBuilder")) :: W0
abbrev rm_J5_append_3fe6f : Room := ({ frames := 9, cells := 0, slots := 0, locals := 400 } : Room)
theorem dJ5_append_3fe6f_0 : decode cJ5_append_3fe6f 0 = .ok (.aload_n 0, 1) := by decide +kernel
theorem dJ5_append_3fe6f_1 : decode cJ5_append_3fe6f 1 = .ok (.aload_n 0, 1) := by decide +kernel
theorem dJ5_append_3fe6f_2 : decode cJ5_append_3fe6f 2 = .ok (.getfield 79, 3) := by decide +kernel
theorem dJ5_append_3fe6f_5 : decode cJ5_append_3fe6f 5 = .ok (.iconst 1, 1) := by decide +kernel
theorem dJ5_append_3fe6f_6 : decode cJ5_append_3fe6f 6 = .ok (.iadd, 1) := by decide +kernel
theorem dJ5_append_3fe6f_7 : decode cJ5_append_3fe6f 7 = .ok (.invokevirtual 100, 3) := by decide +kernel
theorem dJ5_append_3fe6f_10 : decode cJ5_append_3fe6f 10 = .ok (.aload_n 0, 1) := by decide +kernel
theorem dJ5_append_3fe6f_11 : decode cJ5_append_3fe6f 11 = .ok (.invokevirtual 83, 3) := by decide +kernel
theorem dJ5_append_3fe6f_14 : decode cJ5_append_3fe6f 14 = .ok (.ifCond .eq 31, 3) := by decide +kernel
theorem dJ5_append_3fe6f_17 : decode cJ5_append_3fe6f 17 = .ok (.iload_n 1, 1) := by decide +kernel
theorem dJ5_append_3fe6f_18 : decode cJ5_append_3fe6f 18 = .ok (.invokestatic 191, 3) := by decide +kernel
theorem dJ5_append_3fe6f_21 : decode cJ5_append_3fe6f 21 = .ok (.ifCond .eq 24, 3) := by decide +kernel
theorem dJ5_append_3fe6f_24 : decode cJ5_append_3fe6f 24 = .ok (.aload_n 0, 1) := by decide +kernel
theorem dJ5_append_3fe6f_25 : decode cJ5_append_3fe6f 25 = .ok (.getfield 15, 3) := by decide +kernel
theorem dJ5_append_3fe6f_28 : decode cJ5_append_3fe6f 28 = .ok (.aload_n 0, 1) := by decide +kernel
theorem dJ5_append_3fe6f_29 : decode cJ5_append_3fe6f 29 = .ok (.dup, 1) := by decide +kernel
theorem dJ5_append_3fe6f_30 : decode cJ5_append_3fe6f 30 = .ok (.getfield 79, 3) := by decide +kernel
theorem dJ5_append_3fe6f_33 : decode cJ5_append_3fe6f 33 = .ok (.dup_x1, 1) := by decide +kernel
theorem dJ5_append_3fe6f_34 : decode cJ5_append_3fe6f 34 = .ok (.iconst 1, 1) := by decide +kernel
theorem dJ5_append_3fe6f_35 : decode cJ5_append_3fe6f 35 = .ok (.iadd, 1) := by decide +kernel
theorem dJ5_append_3fe6f_36 : decode cJ5_append_3fe6f 36 = .ok (.putfield 79, 3) := by decide +kernel
theorem dJ5_append_3fe6f_39 : decode cJ5_append_3fe6f 39 = .ok (.iload_n 1, 1) := by decide +kernel
theorem dJ5_append_3fe6f_40 : decode cJ5_append_3fe6f 40 = .ok (.i2b, 1) := by decide +kernel
theorem dJ5_append_3fe6f_41 : decode cJ5_append_3fe6f 41 = .ok (.bastore, 1) := by decide +kernel
theorem dJ5_append_3fe6f_42 : decode cJ5_append_3fe6f 42 = .ok (.goto 33, 3) := by decide +kernel
theorem dJ5_append_3fe6f_45 : decode cJ5_append_3fe6f 45 = .ok (.aload_n 0, 1) := by decide +kernel
theorem dJ5_append_3fe6f_46 : decode cJ5_append_3fe6f 46 = .ok (.invokevirtual 83, 3) := by decide +kernel
theorem dJ5_append_3fe6f_49 : decode cJ5_append_3fe6f 49 = .ok (.ifCond .eq 7, 3) := by decide +kernel
theorem dJ5_append_3fe6f_52 : decode cJ5_append_3fe6f 52 = .ok (.aload_n 0, 1) := by decide +kernel
theorem dJ5_append_3fe6f_53 : decode cJ5_append_3fe6f 53 = .ok (.invokevirtual 195, 3) := by decide +kernel
theorem dJ5_append_3fe6f_56 : decode cJ5_append_3fe6f 56 = .ok (.aload_n 0, 1) := by decide +kernel
theorem dJ5_append_3fe6f_57 : decode cJ5_append_3fe6f 57 = .ok (.getfield 15, 3) := by decide +kernel
theorem dJ5_append_3fe6f_60 : decode cJ5_append_3fe6f 60 = .ok (.aload_n 0, 1) := by decide +kernel
theorem dJ5_append_3fe6f_61 : decode cJ5_append_3fe6f 61 = .ok (.dup, 1) := by decide +kernel
theorem dJ5_append_3fe6f_62 : decode cJ5_append_3fe6f 62 = .ok (.getfield 79, 3) := by decide +kernel
theorem dJ5_append_3fe6f_65 : decode cJ5_append_3fe6f 65 = .ok (.dup_x1, 1) := by decide +kernel
theorem dJ5_append_3fe6f_66 : decode cJ5_append_3fe6f 66 = .ok (.iconst 1, 1) := by decide +kernel
theorem dJ5_append_3fe6f_67 : decode cJ5_append_3fe6f 67 = .ok (.iadd, 1) := by decide +kernel
theorem dJ5_append_3fe6f_68 : decode cJ5_append_3fe6f 68 = .ok (.putfield 79, 3) := by decide +kernel
theorem dJ5_append_3fe6f_71 : decode cJ5_append_3fe6f 71 = .ok (.iload_n 1, 1) := by decide +kernel
theorem dJ5_append_3fe6f_72 : decode cJ5_append_3fe6f 72 = .ok (.invokestatic 197, 3) := by decide +kernel
theorem dJ5_append_3fe6f_75 : decode cJ5_append_3fe6f 75 = .ok (.aload_n 0, 1) := by decide +kernel
theorem dJ5_append_3fe6f_76 : decode cJ5_append_3fe6f 76 = .ok (.areturn, 1) := by decide +kernel
def wp_J5_append_3fe6f (P : Option Nat → HS → Prop) (x0 : Nat) (p0 : Int32) (S : HS) (mc ms : Nat) : Prop := ∃ cc1 cc2 : Nat, (cc1 ≤ mc ∧ cc2 ≤ ms) ∧ (∃ (m4 : List Int32) (m5 : Nat), ((SbO S x0 m4 ∧ ((hI S 243 x0) + 1) = nI m5 ∧ m5 ≤ 200 ∧ m5 ≤ 2 * sbC S x0 + 2 ∧ sbB S x0 m5 cc1 cc2) ∧ (∀ (S7 : HS), ext S S7 → (SbO S7 x0 m4 ∧ frM S S7 (fun b => b = x0) ∧ sbC S7 x0 = gM (sbC S x0) m5 ∧ (∃ r, hR S7 240 x0 = some r ∧ (hK S r = 0 ∨ hR S 240 x0 = some r))) → ((hI S7 241 x0 = 0) ∧ ((∃ c : Nat, c < 128 ∧ p0 = nI c) ∧ (∃ b25 : Nat, hR S7 240 x0 = some b25 ∧ (hK S7 b25 = 20 → (∀ S28 : HS, S28 = putI S7 243 x0 ((hI S7 243 x0) + 1) → (vp_in (hI S7 243 x0) (hN S28 b25) ∧ (∀ S36 : HS, S36 = putA S28 b25 (Int32.toNatClampNeg (hI S7 243 x0)) (vp_nar .byte ((Int32.toInt8 p0).toInt32)) → (P (some x0) S36)))))))))))
set_option maxRecDepth 100000 in
set_option maxHeartbeats 4000000 in
theorem t_J5_append_3fe6f {p : Program} {l : Launch} {e : Env} {s : State} {m : MethodId} {args : Array Value} {below : List Frame} {meth : Method} {c : Code} {D : va_G} {A : Nat → Prop} {T : Nat → ClassId} (C : GC p s m args meth c cJ5_append_3fe6f "java/lang/AbstractStringBuilder" (ws_J5_append_3fe6f) 2 D A (zty T)) (E : GE T A s) (hr : meth.sig.returnType = (some (.object "java/lang/AbstractStringBuilder"))) (P : Option Nat → HS → Prop) : ∀ (x0 : Nat) (p0 : Int32) (S0 S : HS) (mc ms : Nat) (L : List Nat), S0 = S → wt S → hL S L → (hK S x0 = 12) → wp_J5_append_3fe6f P x0 p0 S mc ms → GW p l e { rm_J5_append_3fe6f with cells := mc, slots := ms } s m args below meth c D A 2 mc ms (MQ below (va_Qq (fun v (u : HS × List Nat) => (P v u.1 ∧ ∀ b, v = some b → hK u.1 b = 12) ∧ CO S0 u) (CE D T A) A) args s mc ms A) (CW T S L) mc ms 0 [(0, .ref x0), (1, .int p0)] [] := by
  have hW : ∀ {w : Cond}, w ∈ W0 → w.before args s = true := fun h => C.2.2.2.2.1 _ (List.mem_cons_of_mem _ h)
  intro x0 p0 S0 S mc ms L hS0 hw hL hx0 h
  have he : ext S0 S := by rw [hS0]; exact ext_rf
  unfold wp_J5_append_3fe6f at h
  refine g_aload_n C dJ5_append_3fe6f_0 rfl 0 rfl ?_
  refine g_aload_n C dJ5_append_3fe6f_1 rfl 0 rfl ?_
  refine gt_getI C iwx_J4 hL hx0 (by decide) (by decide) rfl 3 (by decide) (hW kw_115) (fun _ z => z) rfl rfl dJ5_append_3fe6f_2 ?_
  refine g_iconst (v := 1) C dJ5_append_3fe6f_5 (by decide) ?_
  refine g_iadd C dJ5_append_3fe6f_6 ?_
  obtain ⟨cc1, cc2, g3, h⟩ := h
  obtain ⟨m4, m5, h⟩ := h
  obtain ⟨g6, h⟩ := h
  refine gc_callvU (host := "") C E hw hL hx0 (by decide) (by decide) rfl [.int ((hI S 243 x0) + 1)] rfl (k_J5_ensureCapacityInternal_d00df l D T x0 ((hI S 243 x0) + 1) S m4 m5 cc1 cc2 hx0 g6) (w0_U 1 C.2.2.2.2.1 kw_1537 kw_2356 kw_1539 (w0_sub (List.mem_cons_of_mem _ List.mem_cons_self)) kw_3 kw_1540 rfl rfl (by decide +kernel) ⟨Nat.le_of_ble_eq_true rfl, Nat.le_of_ble_eq_true rfl⟩) rfl (Nat.le_of_ble_eq_true rfl) (Nat.le_refl _) (Nat.le_refl _) g3.1 g3.2 dJ5_append_3fe6f_7 (fun S7 L8 e9 w10 w11 hp => ?_)
  replace h := h S7 e9 hp
  have g12 := ext_K e9 hx0 (by decide)
  have w13 := ext_tr he e9
  refine g_aload_n C dJ5_append_3fe6f_10 rfl 0 rfl ?_
  obtain ⟨g14, h⟩ := h
  refine gc_calliU (host := "") C E w10 w11 g12 (by decide) (by decide) rfl [] rfl (k_J5_isLatin1_aae02 l D T x0 S7 g12 g14) (w0_U 0 C.2.2.2.2.1 kw_1555 kw_1557 kw_1556 kw_1558 kw_3 kw_1559 rfl rfl (by decide +kernel) ⟨Nat.le_of_ble_eq_true rfl, Nat.le_of_ble_eq_true rfl⟩) rfl (Nat.le_of_ble_eq_true rfl) (Nat.le_refl _) (Nat.le_refl _) (Nat.zero_le _) (Nat.zero_le _) dJ5_append_3fe6f_11 (fun v9 S9 L15 he9 hw9 hL9 hp => ?_)
  obtain ⟨hv9, hs9⟩ := hp
  replace hs9 := hs9.symm
  subst hs9
  replace hv9 := hv9.symm
  subst hv9
  have w18 := hL9
  refine g_if_eq (tgt := 45) C dJ5_append_3fe6f_14 (by decide) (fun z => absurd z (by decide)) (fun _ => ?_)
  refine g_iload_n C dJ5_append_3fe6f_17 rfl 1 rfl ?_
  obtain ⟨g19, h⟩ := h
  refine gc_calliS (host := "") C E w10 w18 [.int p0] rfl (k_J1_canEncode_fc78d l D T p0 S7  g19) (w0_S 1 C.2.2.2.2.1 kw_1759 kw_1760 kw_24 kw_1761 rfl rfl (by decide +kernel) ⟨Nat.le_of_ble_eq_true rfl, Nat.le_of_ble_eq_true rfl⟩) rfl (Nat.le_of_ble_eq_true rfl) (Nat.le_refl _) (Nat.le_refl _) (Nat.zero_le _) (Nat.zero_le _) dJ5_append_3fe6f_18 (fun v9 S9 L20 he9 hw9 hL9 hp => ?_)
  obtain ⟨hv9, hs9⟩ := hp
  replace hs9 := hs9.symm
  subst hs9
  replace hv9 := hv9.symm
  subst hv9
  have w23 := hL9
  refine g_if_eq (tgt := 45) C dJ5_append_3fe6f_21 (by decide) (fun z => absurd z (by decide)) (fun _ => ?_)
  refine g_aload_n C dJ5_append_3fe6f_24 rfl 0 rfl ?_
  refine gt_getR C w10 iwx_J4 w23 g12 (by decide) (by decide) rfl 0 (by decide) (hW kw_111) (fun _ z => z) rfl rfl dJ5_append_3fe6f_25 (fun o24 eo24 ko24 => ?_)
  obtain ⟨b25, hb9, h⟩ := h
  have g26 : hK S7 b25 = 20 := ko24 b25 (eo24.trans hb9)
  replace h := h g26
  refine g_opt (eo24.trans hb9) ?_
  refine g_aload_n C dJ5_append_3fe6f_28 rfl 0 rfl ?_
  refine g_dup C dJ5_append_3fe6f_29 rfl ?_
  refine gt_getI C iwx_J4 w23 g12 (by decide) (by decide) rfl 3 (by decide) (hW kw_115) (fun _ z => z) rfl rfl dJ5_append_3fe6f_30 ?_
  refine g_dup_x1 C dJ5_append_3fe6f_33 rfl rfl ?_
  refine g_iconst (v := 1) C dJ5_append_3fe6f_34 (by decide) ?_
  refine g_iadd C dJ5_append_3fe6f_35 ?_
  refine gt_putI C iwx_J4 w23 g12 (by decide) (by decide) rfl 3 (by decide) (hW kw_115) (fun _ z => z) tyJ4 tyJ4_ok nmJ4 rfl rfl rfl rfl rfl dJ5_append_3fe6f_36 ?_
  have w27 := wt_putI w10 243 ((hI S7 243 x0) + 1) (k_ne g12 (by decide))
  refine gc_nS (fun S28 eS28 => ?_)
  replace h := h S28 eS28
  have w29 : wt S28 := by rw [eS28]; exact w27
  have w30 : isL S28 L20 := by rw [eS28]; exact w23
  have w31 : ext S0 S28 := by rw [eS28]; exact w13
  have g32 : hK S28 b25 = 20 := by rw [eS28]; exact g26
  have g33 : hK S28 x0 = 12 := by rw [eS28]; exact g12
  refine g_iload_n C dJ5_append_3fe6f_39 rfl 1 rfl ?_
  refine g_i2b C dJ5_append_3fe6f_40 rfl ?_
  obtain ⟨g34, h⟩ := h
  refine gc_bast C w30 g32 g34 dJ5_append_3fe6f_41 ?_
  have w35 := wt_putA w29 (Int32.toNatClampNeg (hI S7 243 x0)) (vp_nar .byte ((Int32.toInt8 p0).toInt32)) (k_ne g32 (by decide))
  refine gc_nS (fun S36 eS36 => ?_)
  replace h := h S36 eS36
  have w37 : wt S36 := by rw [eS36]; exact w35
  have w38 : isL S36 L20 := by rw [eS36]; exact w30
  have w39 : ext S0 S36 := by rw [eS36]; exact w31
  have g40 : hK S36 x0 = 12 := by rw [eS36]; exact g33
  refine g_goto (tgt := 75) C dJ5_append_3fe6f_42 (by decide) ?_
  refine g_aload_n C dJ5_append_3fe6f_75 rfl 0 rfl ?_
  exact gc_aret (v := (some x0)) (kd := 12) C (Or.inl ⟨_, rfl⟩) (fun b hb => by cases hb; exact g40) w37 w38 w39 hr dJ5_append_3fe6f_76 h
theorem c_J5_append_3fe6f (l : Launch) (D : va_G) (T : Nat → ClassId) (x0 : Nat) (p0 : Int32) (S : HS) (mc ms : Nat) (hx0 : hK S x0 = 12) (P : Option Nat → HS → Prop) (h : wp_J5_append_3fe6f P x0 p0 S mc ms) : CMq l yJ5_append_3fe6f (ws_J5_append_3fe6f) rm_J5_append_3fe6f D T [.ref x0, .int p0] S mc ms 12 P := gc_metq (by decide) rfl rfl (Nat.le_of_ble_eq_true rfl) (fun p e s m args below meth c A L C E hnm hr hw hL => t_J5_append_3fe6f C E   hr P x0 p0 S S mc ms L rfl hw hL hx0 h)
theorem k_J5_append_3fe6f (l : Launch) (D : va_G) (T : Nat → ClassId) (x0 : Nat) (p0 : Int32) (S : HS) (e0 : List Int32) (mc ms : Nat) (hx0 : hK S x0 = 12) (h : SbO S x0 e0 ∧ e0.length + 1 ≤ 200 ∧ (∃ c : Nat, c < 128 ∧ p0 = nI c) ∧ sbB S x0 (e0.length + 1) mc ms) : CMq l yJ5_append_3fe6f (ws_J5_append_3fe6f) rm_J5_append_3fe6f D T [.ref x0, .int p0] S mc ms 12 (fun v S1 => (v = some x0 ∧ sbT S S1 x0 e0 (e0 ++ [p0]))) := c_J5_append_3fe6f l D T x0 p0 S mc ms hx0 _ <|
  (by
    obtain ⟨h0, hl, ⟨c, hc, ec⟩, hb⟩ := h
    subst ec
    obtain ⟨r, r1, r2, r3, ⟨r4, r5, r6⟩, r7, r8⟩ := h0.C
    have i43 := h0.2.2.1
    unfold wp_J5_append_3fe6f
    refine ⟨mc, ms, ⟨Nat.le_refl _, Nat.le_refl _⟩, e0, e0.length + 1, ⟨h0, by rw [i43]; exact nI_add _ 1, hl, by omega, hb⟩, fun S7 he7 h7 => ?_⟩
    obtain ⟨O7, f7, c7, r7', q1, q2⟩ := h7
    obtain ⟨u, u1, u2, u3, ⟨u4, u5, u6⟩, u7, u8⟩ := O7.C
    have eu : u = r7' := Option.some.inj (u1.symm.trans q1)
    subst eu
    have g2 := gM_ge r5 (show e0.length + 1 ≤ 200 from hl)
    have g3 : e0.length + 1 ≤ sbC S7 x0 := by rw [c7]; exact g2.2.1
    refine ⟨O7.2.1, ⟨c, hc, rfl⟩, u, u1, fun _ S28 e28 => ?_⟩
    rw [O7.2.2.1, show nI e0.length + 1 = nI (e0.length + 1) from nI_add _ 1] at e28
    rw [O7.2.2.1, show (nI e0.length).toNatClampNeg = e0.length from nI_clamp (by omega), nz_vp (a := e0.length) (by omega) (by rw [e28, px_NI, u3]; omega), by_cv c hc]
    refine ⟨by rw [e28, px_NI, u3]; omega, fun S36 e36 => ⟨rfl, ?_⟩⟩
    have hr36 : hR S36 240 x0 = some u := by rw [e36, px_RA, e28, px_RI]; exact u1
    have hn36 : hN S36 u = sbC S7 x0 := by rw [e36, px_NA, e28, px_NI]; exact u3
    have ha36 : ∀ j, hA S36 u j = if j = e0.length then nI c else hA S7 u j := fun j => by rw [e36, pa_at, e28, px_AI]
    have ls : (e0 ++ [nI c]).length = e0.length + 1 := by rw [List.length_append]; rfl
    have c36 : sbC S36 x0 = sbC S7 x0 := by unfold sbC; rw [hr36]; exact hn36
    have g4 : sbC S7 x0 ≤ 400 := by rw [c7]; exact g2.2.2 r6
    refine ⟨⟨?_, ?_, ?_, by rw [ls]; exact hl, u, hr36, ?_, ?_, fun j => ?_, fun j y hy => ?_⟩, ?_, ?_, u, hr36, q2⟩
    · rw [e36, px_KA, e28, px_KI]; exact O7.1
    · rw [e36, px_IA, e28, px_II, if_neg (by omega)]; exact O7.2.1
    · rw [e36, px_IA, e28, px_II, if_pos ⟨rfl, rfl⟩, ls]
    · rw [e36, px_KA, e28, px_KI]; exact u2
    · rw [hn36, ls]; omega
    · rw [ha36]
      split
      · exact ⟨c, hc, rfl⟩
      · exact u7 j
    · rw [ha36]
      have hj : j < e0.length + 1 := by rw [← ls]; exact (List.getElem?_eq_some_iff.mp hy).1
      by_cases q : j = e0.length
      · rw [if_pos q]
        rw [q, List.getElem?_append_right (Nat.le_refl _), Nat.sub_self] at hy
        exact Option.some.inj hy
      · rw [if_neg q]
        rw [List.getElem?_append_left (by omega)] at hy
        exact u8 j y hy
    · refine (f7.sub (N := sbM S x0) (fun b hb9 => Or.inl hb9)).nw (N := fun b => b = x0 ∨ b = u) ?_ (fun b hb9 z => ?_)
      · rw [e36, e28]
        exact (frM.pI (M := fun b => b = x0 ∨ b = u) frM.rf (Or.inl rfl) _ _).pA (M := fun b => b = x0 ∨ b = u) (Or.inr rfl) _ _
      · rcases z with z | z
        · exact Or.inl z
        · rw [z] at hb9 ⊢
          rcases q2 with q2 | q2
          · exact absurd q2 hb9
          · exact Or.inr q2
    · rw [c36, c7, ls])
abbrev ws_J4_append_cf468 : List Cond := Cond.code yJ4_append_cf468 cJ4_append_cf468 2 (some (.object "java/lang/StringBuilder")) :: W0
abbrev rm_J4_append_cf468 : Room := ({ frames := 11, cells := 0, slots := 0, locals := 500 } : Room)
theorem dJ4_append_cf468_0 : decode cJ4_append_cf468 0 = .ok (.aload_n 0, 1) := by decide +kernel
theorem dJ4_append_cf468_1 : decode cJ4_append_cf468 1 = .ok (.iload_n 1, 1) := by decide +kernel
theorem dJ4_append_cf468_2 : decode cJ4_append_cf468 2 = .ok (.invokespecial 50, 3) := by decide +kernel
theorem dJ4_append_cf468_5 : decode cJ4_append_cf468 5 = .ok (.pop, 1) := by decide +kernel
theorem dJ4_append_cf468_6 : decode cJ4_append_cf468 6 = .ok (.aload_n 0, 1) := by decide +kernel
theorem dJ4_append_cf468_7 : decode cJ4_append_cf468 7 = .ok (.areturn, 1) := by decide +kernel
def wp_J4_append_cf468 (P : Option Nat → HS → Prop) (x0 : Nat) (p0 : Int32) (S : HS) (mc ms : Nat) : Prop := ∃ cc1 cc2 : Nat, (cc1 ≤ mc ∧ cc2 ≤ ms) ∧ (∃ (m4 : List Int32), ((SbO S x0 m4 ∧ m4.length + 1 ≤ 200 ∧ (∃ c : Nat, c < 128 ∧ p0 = nI c) ∧ sbB S x0 (m4.length + 1) cc1 cc2) ∧ (∀ (o11 : Option Nat) (S6 : HS), ext S S6 → (∀ b, o11 = some b → hK S6 b = 12) → (o11 = some x0 ∧ sbT S S6 x0 m4 (m4 ++ [p0])) → (P (some x0) S6))))
set_option maxRecDepth 100000 in
set_option maxHeartbeats 4000000 in
theorem t_J4_append_cf468 {p : Program} {l : Launch} {e : Env} {s : State} {m : MethodId} {args : Array Value} {below : List Frame} {meth : Method} {c : Code} {D : va_G} {A : Nat → Prop} {T : Nat → ClassId} (C : GC p s m args meth c cJ4_append_cf468 "java/lang/StringBuilder" (ws_J4_append_cf468) 2 D A (zty T)) (E : GE T A s) (hr : meth.sig.returnType = (some (.object "java/lang/StringBuilder"))) (P : Option Nat → HS → Prop) : ∀ (x0 : Nat) (p0 : Int32) (S0 S : HS) (mc ms : Nat) (L : List Nat), S0 = S → wt S → hL S L → (hK S x0 = 12) → wp_J4_append_cf468 P x0 p0 S mc ms → GW p l e { rm_J4_append_cf468 with cells := mc, slots := ms } s m args below meth c D A 2 mc ms (MQ below (va_Qq (fun v (u : HS × List Nat) => (P v u.1 ∧ ∀ b, v = some b → hK u.1 b = 12) ∧ CO S0 u) (CE D T A) A) args s mc ms A) (CW T S L) mc ms 0 [(0, .ref x0), (1, .int p0)] [] := by
  have hW : ∀ {w : Cond}, w ∈ W0 → w.before args s = true := fun h => C.2.2.2.2.1 _ (List.mem_cons_of_mem _ h)
  intro x0 p0 S0 S mc ms L hS0 hw hL hx0 h
  have he : ext S0 S := by rw [hS0]; exact ext_rf
  unfold wp_J4_append_cf468 at h
  refine g_aload_n C dJ4_append_cf468_0 rfl 0 rfl ?_
  refine g_iload_n C dJ4_append_cf468_1 rfl 1 rfl ?_
  obtain ⟨cc1, cc2, g3, h⟩ := h
  obtain ⟨m4, h⟩ := h
  obtain ⟨g5, h⟩ := h
  refine gc_callqSU (host := "") C E hw hL hx0 (by decide) (by decide) rfl [.int p0] rfl (k_J5_append_3fe6f l D T x0 p0 S m4 cc1 cc2 hx0 g5) (w0_SU 1 C.2.2.2.2.1 kw_1756 kw_2362 kw_1757 kw_124 kw_3 kw_1758 rfl rfl (by decide +kernel) ⟨Nat.le_of_ble_eq_true rfl, Nat.le_of_ble_eq_true rfl⟩) rfl (Nat.le_of_ble_eq_true rfl) (Nat.le_refl _) (Nat.le_refl _) g3.1 g3.2 dJ4_append_cf468_2 (fun o11 S6 L7 e8 w9 w10 ko11 hp => ?_)
  replace h := h o11 S6 e8 ko11 hp
  have g12 := ext_K e8 hx0 (by decide)
  have w13 := ext_tr he e8
  refine g_pop C dJ4_append_cf468_5 (rf_cat _) ?_
  refine g_aload_n C dJ4_append_cf468_6 rfl 0 rfl ?_
  exact gc_aret (v := (some x0)) (kd := 12) C (Or.inl ⟨_, rfl⟩) (fun b hb => by cases hb; exact g12) w9 w10 w13 hr dJ4_append_cf468_7 h
theorem c_J4_append_cf468 (l : Launch) (D : va_G) (T : Nat → ClassId) (x0 : Nat) (p0 : Int32) (S : HS) (mc ms : Nat) (hx0 : hK S x0 = 12) (P : Option Nat → HS → Prop) (h : wp_J4_append_cf468 P x0 p0 S mc ms) : CMq l yJ4_append_cf468 (ws_J4_append_cf468) rm_J4_append_cf468 D T [.ref x0, .int p0] S mc ms 12 P := gc_metq (by decide) rfl rfl (Nat.le_of_ble_eq_true rfl) (fun p e s m args below meth c A L C E hnm hr hw hL => t_J4_append_cf468 C E   hr P x0 p0 S S mc ms L rfl hw hL hx0 h)
theorem k_J4_append_cf468 (l : Launch) (D : va_G) (T : Nat → ClassId) (x0 : Nat) (p0 : Int32) (S : HS) (e0 : List Int32) (mc ms : Nat) (hx0 : hK S x0 = 12) (h : SbO S x0 e0 ∧ e0.length + 1 ≤ 200 ∧ (∃ c : Nat, c < 128 ∧ p0 = nI c) ∧ sbB S x0 (e0.length + 1) mc ms) : CMq l yJ4_append_cf468 (ws_J4_append_cf468) rm_J4_append_cf468 D T [.ref x0, .int p0] S mc ms 12 (fun v S1 => (v = some x0 ∧ sbT S S1 x0 e0 (e0 ++ [p0]))) := c_J4_append_cf468 l D T x0 p0 S mc ms hx0 _ <|
  (by
    unfold wp_J4_append_cf468
    exact ⟨mc, ms, ⟨Nat.le_refl _, Nat.le_refl _⟩, e0, h, fun o S6 _ _ h6 => ⟨rfl, h6.2⟩⟩)
abbrev ws_J5_append_c97b9 : List Cond := Cond.code yJ5_append_c97b9 cJ5_append_c97b9 4 (some (.object "java/lang/AbstractStringBuilder")) :: W0
abbrev rm_J5_append_c97b9 : Room := ({ frames := 9, cells := 0, slots := 0, locals := 400 } : Room)
theorem dJ5_append_c97b9_0 : decode cJ5_append_c97b9 0 = .ok (.aload_n 0, 1) := by decide +kernel
theorem dJ5_append_c97b9_1 : decode cJ5_append_c97b9 1 = .ok (.getfield 79, 3) := by decide +kernel
theorem dJ5_append_c97b9_4 : decode cJ5_append_c97b9 4 = .ok (.istore_n 2, 1) := by decide +kernel
theorem dJ5_append_c97b9_5 : decode cJ5_append_c97b9 5 = .ok (.iload_n 2, 1) := by decide +kernel
theorem dJ5_append_c97b9_6 : decode cJ5_append_c97b9 6 = .ok (.iload_n 1, 1) := by decide +kernel
theorem dJ5_append_c97b9_7 : decode cJ5_append_c97b9 7 = .ok (.invokestatic 245, 3) := by decide +kernel
theorem dJ5_append_c97b9_10 : decode cJ5_append_c97b9 10 = .ok (.iadd, 1) := by decide +kernel
theorem dJ5_append_c97b9_11 : decode cJ5_append_c97b9 11 = .ok (.istore_n 3, 1) := by decide +kernel
theorem dJ5_append_c97b9_12 : decode cJ5_append_c97b9 12 = .ok (.aload_n 0, 1) := by decide +kernel
theorem dJ5_append_c97b9_13 : decode cJ5_append_c97b9 13 = .ok (.iload_n 3, 1) := by decide +kernel
theorem dJ5_append_c97b9_14 : decode cJ5_append_c97b9 14 = .ok (.invokevirtual 100, 3) := by decide +kernel
theorem dJ5_append_c97b9_17 : decode cJ5_append_c97b9 17 = .ok (.aload_n 0, 1) := by decide +kernel
theorem dJ5_append_c97b9_18 : decode cJ5_append_c97b9 18 = .ok (.invokevirtual 83, 3) := by decide +kernel
theorem dJ5_append_c97b9_21 : decode cJ5_append_c97b9 21 = .ok (.ifCond .eq 16, 3) := by decide +kernel
theorem dJ5_append_c97b9_24 : decode cJ5_append_c97b9 24 = .ok (.iload_n 1, 1) := by decide +kernel
theorem dJ5_append_c97b9_25 : decode cJ5_append_c97b9 25 = .ok (.iload_n 3, 1) := by decide +kernel
theorem dJ5_append_c97b9_26 : decode cJ5_append_c97b9 26 = .ok (.aload_n 0, 1) := by decide +kernel
theorem dJ5_append_c97b9_27 : decode cJ5_append_c97b9 27 = .ok (.getfield 15, 3) := by decide +kernel
theorem dJ5_append_c97b9_30 : decode cJ5_append_c97b9 30 = .ok (.invokestatic 248, 3) := by decide +kernel
theorem dJ5_append_c97b9_33 : decode cJ5_append_c97b9 33 = .ok (.pop, 1) := by decide +kernel
theorem dJ5_append_c97b9_34 : decode cJ5_append_c97b9 34 = .ok (.goto 14, 3) := by decide +kernel
theorem dJ5_append_c97b9_37 : decode cJ5_append_c97b9 37 = .ok (.iload_n 1, 1) := by decide +kernel
theorem dJ5_append_c97b9_38 : decode cJ5_append_c97b9 38 = .ok (.iload_n 2, 1) := by decide +kernel
theorem dJ5_append_c97b9_39 : decode cJ5_append_c97b9 39 = .ok (.iload_n 3, 1) := by decide +kernel
theorem dJ5_append_c97b9_40 : decode cJ5_append_c97b9 40 = .ok (.aload_n 0, 1) := by decide +kernel
theorem dJ5_append_c97b9_41 : decode cJ5_append_c97b9 41 = .ok (.getfield 15, 3) := by decide +kernel
theorem dJ5_append_c97b9_44 : decode cJ5_append_c97b9 44 = .ok (.invokestatic 251, 3) := by decide +kernel
theorem dJ5_append_c97b9_47 : decode cJ5_append_c97b9 47 = .ok (.pop, 1) := by decide +kernel
theorem dJ5_append_c97b9_48 : decode cJ5_append_c97b9 48 = .ok (.aload_n 0, 1) := by decide +kernel
theorem dJ5_append_c97b9_49 : decode cJ5_append_c97b9 49 = .ok (.iload_n 3, 1) := by decide +kernel
theorem dJ5_append_c97b9_50 : decode cJ5_append_c97b9 50 = .ok (.putfield 79, 3) := by decide +kernel
theorem dJ5_append_c97b9_53 : decode cJ5_append_c97b9 53 = .ok (.aload_n 0, 1) := by decide +kernel
theorem dJ5_append_c97b9_54 : decode cJ5_append_c97b9 54 = .ok (.areturn, 1) := by decide +kernel
def wp_J5_append_c97b9 (P : Option Nat → HS → Prop) (x0 : Nat) (p0 : Int32) (S : HS) (mc ms : Nat) : Prop := ∀ v1 : Int32, v1 = (hI S 243 x0) → (∃ (m2 : Nat), ((p0 = nI m2 ∧ m2 ≤ 9999) ∧ (∀ v8 : Int32, v8 = (v1 + (nI (nuL m2).length)) → (∃ cc9 cc10 : Nat, (cc9 ≤ mc ∧ cc10 ≤ ms) ∧ (∃ (m12 : List Int32) (m13 : Nat), ((SbO S x0 m12 ∧ v8 = nI m13 ∧ m13 ≤ 200 ∧ m13 ≤ 2 * sbC S x0 + 2 ∧ sbB S x0 m13 cc9 cc10) ∧ (∀ (S15 : HS), ext S S15 → (SbO S15 x0 m12 ∧ frM S S15 (fun b => b = x0) ∧ sbC S15 x0 = gM (sbC S x0) m13 ∧ (∃ r, hR S15 240 x0 = some r ∧ (hK S r = 0 ∨ hR S 240 x0 = some r))) → ((hI S15 241 x0 = 0) ∧ (∃ b28 : Nat, hR S15 240 x0 = some b28 ∧ (hK S15 b28 = 20 → (∃ (m30 : Nat) (m31 : Nat), ((p0 = nI m30 ∧ m30 ≤ 9999 ∧ v8 = nI (m31 + (nuL m30).length) ∧ m31 + (nuL m30).length ≤ hN S15 b28 ∧ hN S15 b28 ≤ 1000) ∧ (∀ (v38 : Int32) (S33 : HS), ext S15 S33 → (v38 = nI m31 ∧ aoN S15 S33 b28 ∧ ∀ j, hA S33 b28 j = if m31 ≤ j ∧ j < m31 + (nuL m30).length then (nuL m30).getD (j - m31) 0 else hA S15 b28 j) → (∀ S42 : HS, S42 = putI S33 243 x0 v8 → (P (some x0) S42)))))))))))))))
set_option maxRecDepth 100000 in
set_option maxHeartbeats 4000000 in
theorem t_J5_append_c97b9 {p : Program} {l : Launch} {e : Env} {s : State} {m : MethodId} {args : Array Value} {below : List Frame} {meth : Method} {c : Code} {D : va_G} {A : Nat → Prop} {T : Nat → ClassId} (C : GC p s m args meth c cJ5_append_c97b9 "java/lang/AbstractStringBuilder" (ws_J5_append_c97b9) 4 D A (zty T)) (E : GE T A s) (hr : meth.sig.returnType = (some (.object "java/lang/AbstractStringBuilder"))) (P : Option Nat → HS → Prop) : ∀ (x0 : Nat) (p0 : Int32) (S0 S : HS) (mc ms : Nat) (L : List Nat), S0 = S → wt S → hL S L → (hK S x0 = 12) → wp_J5_append_c97b9 P x0 p0 S mc ms → GW p l e { rm_J5_append_c97b9 with cells := mc, slots := ms } s m args below meth c D A 4 mc ms (MQ below (va_Qq (fun v (u : HS × List Nat) => (P v u.1 ∧ ∀ b, v = some b → hK u.1 b = 12) ∧ CO S0 u) (CE D T A) A) args s mc ms A) (CW T S L) mc ms 0 [(0, .ref x0), (1, .int p0)] [] := by
  have hW : ∀ {w : Cond}, w ∈ W0 → w.before args s = true := fun h => C.2.2.2.2.1 _ (List.mem_cons_of_mem _ h)
  intro x0 p0 S0 S mc ms L hS0 hw hL hx0 h
  have he : ext S0 S := by rw [hS0]; exact ext_rf
  unfold wp_J5_append_c97b9 at h
  refine g_aload_n C dJ5_append_c97b9_0 rfl 0 rfl ?_
  refine gt_getI C iwx_J4 hL hx0 (by decide) (by decide) rfl 3 (by decide) (hW kw_115) (fun _ z => z) rfl rfl dJ5_append_c97b9_1 ?_
  refine g_topi (fun v1 ev1 => ?_)
  replace h := h v1 ev1
  refine g_istore_n (lv' := [(2, .int v1), (0, .ref x0), (1, .int p0)]) C dJ5_append_c97b9_4 rfl (by decide) rfl ?_
  refine g_iload_n C dJ5_append_c97b9_5 rfl 0 rfl ?_
  refine g_iload_n C dJ5_append_c97b9_6 rfl 2 rfl ?_
  obtain ⟨m2, h⟩ := h
  obtain ⟨g3, h⟩ := h
  refine gc_calliS (host := "") C E hw hL [.int p0] rfl (k_J6_stringSize_0f7a4 l D T p0 S m2  g3) (w0_S 1 C.2.2.2.2.1 kw_1608 kw_1609 kw_37 kw_1610 rfl rfl (by decide +kernel) ⟨Nat.le_of_ble_eq_true rfl, Nat.le_of_ble_eq_true rfl⟩) rfl (Nat.le_of_ble_eq_true rfl) (Nat.le_refl _) (Nat.le_refl _) (Nat.zero_le _) (Nat.zero_le _) dJ5_append_c97b9_7 (fun v9 S9 L4 he9 hw9 hL9 hp => ?_)
  obtain ⟨hv9, hs9⟩ := hp
  replace hs9 := hs9.symm
  subst hs9
  replace hv9 := hv9.symm
  subst hv9
  have w7 := hL9
  refine g_iadd C dJ5_append_c97b9_10 ?_
  refine g_topi (fun v8 ev8 => ?_)
  replace h := h v8 ev8
  refine g_istore_n (lv' := [(3, .int v8), (2, .int v1), (0, .ref x0), (1, .int p0)]) C dJ5_append_c97b9_11 rfl (by decide) rfl ?_
  refine g_aload_n C dJ5_append_c97b9_12 rfl 2 rfl ?_
  refine g_iload_n C dJ5_append_c97b9_13 rfl 0 rfl ?_
  obtain ⟨cc9, cc10, g11, h⟩ := h
  obtain ⟨m12, m13, h⟩ := h
  obtain ⟨g14, h⟩ := h
  refine gc_callvU (host := "") C E hw w7 hx0 (by decide) (by decide) rfl [.int v8] rfl (k_J5_ensureCapacityInternal_d00df l D T x0 v8 S m12 m13 cc9 cc10 hx0 g14) (w0_U 1 C.2.2.2.2.1 kw_1537 kw_2356 kw_1539 (w0_sub (List.mem_cons_of_mem _ List.mem_cons_self)) kw_3 kw_1540 rfl rfl (by decide +kernel) ⟨Nat.le_of_ble_eq_true rfl, Nat.le_of_ble_eq_true rfl⟩) rfl (Nat.le_of_ble_eq_true rfl) (Nat.le_refl _) (Nat.le_refl _) g11.1 g11.2 dJ5_append_c97b9_14 (fun S15 L16 e17 w18 w19 hp => ?_)
  replace h := h S15 e17 hp
  have g20 := ext_K e17 hx0 (by decide)
  have w21 := ext_tr he e17
  refine g_aload_n C dJ5_append_c97b9_17 rfl 2 rfl ?_
  obtain ⟨g22, h⟩ := h
  refine gc_calliU (host := "") C E w18 w19 g20 (by decide) (by decide) rfl [] rfl (k_J5_isLatin1_aae02 l D T x0 S15 g20 g22) (w0_U 0 C.2.2.2.2.1 kw_1555 kw_1557 kw_1556 kw_1558 kw_3 kw_1559 rfl rfl (by decide +kernel) ⟨Nat.le_of_ble_eq_true rfl, Nat.le_of_ble_eq_true rfl⟩) rfl (Nat.le_of_ble_eq_true rfl) (Nat.le_refl _) (Nat.le_refl _) (Nat.zero_le _) (Nat.zero_le _) dJ5_append_c97b9_18 (fun v9 S9 L23 he9 hw9 hL9 hp => ?_)
  obtain ⟨hv9, hs9⟩ := hp
  replace hs9 := hs9.symm
  subst hs9
  replace hv9 := hv9.symm
  subst hv9
  have w26 := hL9
  refine g_if_eq (tgt := 37) C dJ5_append_c97b9_21 (by decide) (fun z => absurd z (by decide)) (fun _ => ?_)
  refine g_iload_n C dJ5_append_c97b9_24 rfl 3 rfl ?_
  refine g_iload_n C dJ5_append_c97b9_25 rfl 0 rfl ?_
  refine g_aload_n C dJ5_append_c97b9_26 rfl 2 rfl ?_
  refine gt_getR C w18 iwx_J4 w26 g20 (by decide) (by decide) rfl 0 (by decide) (hW kw_111) (fun _ z => z) rfl rfl dJ5_append_c97b9_27 (fun o27 eo27 ko27 => ?_)
  obtain ⟨b28, hb9, h⟩ := h
  have g29 : hK S15 b28 = 20 := ko27 b28 (eo27.trans hb9)
  replace h := h g29
  refine g_opt (eo27.trans hb9) ?_
  obtain ⟨m30, m31, h⟩ := h
  obtain ⟨g32, h⟩ := h
  refine gc_calliS (host := "") C E w18 w26 [.int p0, .int v8, .ref b28] rfl (k_J6_getChars_ba4f3 l D T p0 v8 b28 S15 m30 m31 g29 g32) (w0_S 3 C.2.2.2.2.1 kw_1611 kw_1612 kw_37 kw_1613 rfl rfl (by decide +kernel) ⟨Nat.le_of_ble_eq_true rfl, Nat.le_of_ble_eq_true rfl⟩) rfl (Nat.le_of_ble_eq_true rfl) (Nat.le_refl _) (Nat.le_refl _) (Nat.zero_le _) (Nat.zero_le _) dJ5_append_c97b9_30 (fun v38 S33 L34 e35 w36 w37 hp => ?_)
  replace h := h v38 S33 e35 hp
  have g39 := ext_K e35 g20 (by decide)
  have w40 := ext_tr w21 e35
  refine g_pop C dJ5_append_c97b9_33 rfl ?_
  refine g_goto (tgt := 48) C dJ5_append_c97b9_34 (by decide) ?_
  refine g_aload_n C dJ5_append_c97b9_48 rfl 2 rfl ?_
  refine g_iload_n C dJ5_append_c97b9_49 rfl 0 rfl ?_
  refine gt_putI C iwx_J4 w37 g39 (by decide) (by decide) rfl 3 (by decide) (hW kw_115) (fun _ z => z) tyJ4 tyJ4_ok nmJ4 rfl rfl rfl rfl rfl dJ5_append_c97b9_50 ?_
  have w41 := wt_putI w36 243 v8 (k_ne g39 (by decide))
  refine gc_nS (fun S42 eS42 => ?_)
  replace h := h S42 eS42
  have w43 : wt S42 := by rw [eS42]; exact w41
  have w44 : isL S42 L34 := by rw [eS42]; exact w37
  have w45 : ext S0 S42 := by rw [eS42]; exact w40
  have g46 : hK S42 x0 = 12 := by rw [eS42]; exact g39
  refine g_aload_n C dJ5_append_c97b9_53 rfl 2 rfl ?_
  exact gc_aret (v := (some x0)) (kd := 12) C (Or.inl ⟨_, rfl⟩) (fun b hb => by cases hb; exact g46) w43 w44 w45 hr dJ5_append_c97b9_54 h
theorem c_J5_append_c97b9 (l : Launch) (D : va_G) (T : Nat → ClassId) (x0 : Nat) (p0 : Int32) (S : HS) (mc ms : Nat) (hx0 : hK S x0 = 12) (P : Option Nat → HS → Prop) (h : wp_J5_append_c97b9 P x0 p0 S mc ms) : CMq l yJ5_append_c97b9 (ws_J5_append_c97b9) rm_J5_append_c97b9 D T [.ref x0, .int p0] S mc ms 12 P := gc_metq (by decide) rfl rfl (Nat.le_of_ble_eq_true rfl) (fun p e s m args below meth c A L C E hnm hr hw hL => t_J5_append_c97b9 C E   hr P x0 p0 S S mc ms L rfl hw hL hx0 h)
theorem k_J5_append_c97b9 (l : Launch) (D : va_G) (T : Nat → ClassId) (x0 : Nat) (p0 : Int32) (S : HS) (e0 : List Int32) (e1 : Nat) (mc ms : Nat) (hx0 : hK S x0 = 12) (h : SbO S x0 e0 ∧ p0 = nI e1 ∧ e1 ≤ 9999 ∧ e0.length + (nuL e1).length ≤ 200 ∧ sbB S x0 (e0.length + (nuL e1).length) mc ms) : CMq l yJ5_append_c97b9 (ws_J5_append_c97b9) rm_J5_append_c97b9 D T [.ref x0, .int p0] S mc ms 12 (fun v S1 => (v = some x0 ∧ sbT S S1 x0 e0 (e0 ++ nuL e1))) := c_J5_append_c97b9 l D T x0 p0 S mc ms hx0 _ <|
  (by
    obtain ⟨h0, e, hn, hl, hb⟩ := h
    subst e
    obtain ⟨r, r1, r2, r3, ⟨r4, r5, r6⟩, r7, r8⟩ := h0.C
    have i43 := h0.2.2.1
    have l4 := nuL_len e1
    unfold wp_J5_append_c97b9
    intro v1 ev1
    refine ⟨e1, ⟨rfl, hn⟩, fun v8 ev8 => ⟨mc, ms, ⟨Nat.le_refl _, Nat.le_refl _⟩, e0, e0.length + (nuL e1).length, ⟨h0, ?_, hl, by omega, hb⟩, fun S7 he7 h7 => ?_⟩⟩
    · rw [ev8, ev1, i43]; exact nI_add _ _
    have ev8' : v8 = nI (e0.length + (nuL e1).length) := by rw [ev8, ev1, i43]; exact nI_add _ _
    obtain ⟨O7, f7, c7, r7', q1, q2⟩ := h7
    obtain ⟨u, u1, u2, u3, ⟨u4, u5, u6⟩, u7, u8⟩ := O7.C
    have eu : u = r7' := Option.some.inj (u1.symm.trans q1)
    subst eu
    have g2 := gM_ge r5 hl
    have g3 : e0.length + (nuL e1).length ≤ sbC S7 x0 := by rw [c7]; exact g2.2.1
    have g4 : sbC S7 x0 ≤ 400 := by rw [c7]; exact g2.2.2 r6
    refine ⟨O7.2.1, u, u1, fun _ => ⟨e1, e0.length, ⟨rfl, hn, ev8', by rw [u3]; exact g3, by rw [u3]; omega⟩, fun v38 S33 _ h33 S42 e42 => ⟨rfl, ?_⟩⟩⟩
    obtain ⟨_, ⟨a1, a2, a3, a4, a5, a6⟩, a7⟩ := h33
    have hr42 : hR S42 240 x0 = some u := by rw [e42, px_RI, a4]; exact u1
    have hn42 : hN S42 u = sbC S7 x0 := by rw [e42, px_NI, a2]; exact u3
    have ha42 : ∀ j, hA S42 u j = if e0.length ≤ j ∧ j < e0.length + (nuL e1).length then (nuL e1).getD (j - e0.length) 0 else hA S7 u j := fun j => by rw [e42, px_AI]; exact a7 j
    have ls : (e0 ++ nuL e1).length = e0.length + (nuL e1).length := List.length_append
    have c42 : sbC S42 x0 = sbC S7 x0 := by unfold sbC; rw [hr42]; exact hn42
    refine ⟨⟨?_, ?_, ?_, by rw [ls]; exact hl, u, hr42, ?_, ?_, fun j => ?_, fun j y hy => ?_⟩, ?_, ?_, u, hr42, q2⟩
    · rw [e42, px_KI, a1]; exact O7.1
    · rw [e42, px_II, if_neg (by omega), a3]; exact O7.2.1
    · rw [e42, px_II, if_pos ⟨rfl, rfl⟩, ls]; exact ev8'
    · rw [e42, px_KI, a1]; exact u2
    · rw [hn42, ls]; omega
    · rw [ha42]
      split
      · rename_i z
        rcases Nat.lt_or_ge e1 10 with k | k
        · rw [nu_1 k] at z ⊢
          dsimp only [List.length_cons, List.length_nil] at z
          rw [show j - e0.length = 0 by omega]
          exact ⟨48 + e1 % 10, by omega, rfl⟩
        rcases Nat.lt_or_ge e1 100 with k2 | k2
        · rw [nu_2 k k2] at z ⊢
          dsimp only [List.length_cons, List.length_nil] at z
          rcases (by omega : j - e0.length = 0 ∨ j - e0.length = 1) with t | t <;> rw [t]
          · exact ⟨48 + e1 / 10 % 10, by omega, rfl⟩
          · exact ⟨48 + e1 % 10, by omega, rfl⟩
        rcases Nat.lt_or_ge e1 1000 with k3 | k3
        · rw [nu_3 k2 k3] at z ⊢
          dsimp only [List.length_cons, List.length_nil] at z
          rcases (by omega : j - e0.length = 0 ∨ j - e0.length = 1 ∨ j - e0.length = 2) with t | t | t <;> rw [t]
          · exact ⟨48 + e1 / 100 % 10, by omega, rfl⟩
          · exact ⟨48 + e1 / 10 % 10, by omega, rfl⟩
          · exact ⟨48 + e1 % 10, by omega, rfl⟩
        · rw [nu_4 k3] at z ⊢
          dsimp only [List.length_cons, List.length_nil] at z
          rcases (by omega : j - e0.length = 0 ∨ j - e0.length = 1 ∨ j - e0.length = 2 ∨ j - e0.length = 3) with t | t | t | t <;> rw [t]
          · exact ⟨48 + e1 / 1000 % 10, by omega, rfl⟩
          · exact ⟨48 + e1 / 100 % 10, by omega, rfl⟩
          · exact ⟨48 + e1 / 10 % 10, by omega, rfl⟩
          · exact ⟨48 + e1 % 10, by omega, rfl⟩
      · exact u7 j
    · rw [ha42]
      have hj : j < e0.length + (nuL e1).length := by rw [← ls]; exact (List.getElem?_eq_some_iff.mp hy).1
      rcases Nat.lt_or_ge j e0.length with q | q
      · rw [if_neg (by omega)]
        rw [List.getElem?_append_left q] at hy
        exact u8 j y hy
      · rw [if_pos ⟨q, hj⟩]
        rw [List.getElem?_append_right q] at hy
        rw [List.getD_eq_getElem?_getD, hy]
        rfl
    · refine (f7.sub (N := sbM S x0) (fun b hb9 => Or.inl hb9)).nw (N := fun b => b = x0 ∨ b = u) ?_ (fun b hb9 z => ?_)
      · rw [e42]
        refine frM.pI (M := fun b => b = x0 ∨ b = u) (fun b hb9 _ => ?_) (Or.inl rfl) _ _
        exact ⟨by rw [a1], by rw [a2], fun i => by rw [a3], fun i => by rw [a4], a6 b (fun z => hb9 (Or.inr z)), by rw [a5]⟩
      · rcases z with z | z
        · exact Or.inl z
        · rw [z] at hb9 ⊢
          rcases q2 with q2 | q2
          · exact absurd q2 hb9
          · exact Or.inr q2
    · rw [c42, c7, ls])
abbrev ws_J4_append_bf812 : List Cond := Cond.code yJ4_append_bf812 cJ4_append_bf812 2 (some (.object "java/lang/StringBuilder")) :: W0
abbrev rm_J4_append_bf812 : Room := ({ frames := 11, cells := 0, slots := 0, locals := 500 } : Room)
theorem dJ4_append_bf812_0 : decode cJ4_append_bf812 0 = .ok (.aload_n 0, 1) := by decide +kernel
theorem dJ4_append_bf812_1 : decode cJ4_append_bf812 1 = .ok (.iload_n 1, 1) := by decide +kernel
theorem dJ4_append_bf812_2 : decode cJ4_append_bf812 2 = .ok (.invokespecial 53, 3) := by decide +kernel
theorem dJ4_append_bf812_5 : decode cJ4_append_bf812 5 = .ok (.pop, 1) := by decide +kernel
theorem dJ4_append_bf812_6 : decode cJ4_append_bf812 6 = .ok (.aload_n 0, 1) := by decide +kernel
theorem dJ4_append_bf812_7 : decode cJ4_append_bf812 7 = .ok (.areturn, 1) := by decide +kernel
def wp_J4_append_bf812 (P : Option Nat → HS → Prop) (x0 : Nat) (p0 : Int32) (S : HS) (mc ms : Nat) : Prop := ∃ cc1 cc2 : Nat, (cc1 ≤ mc ∧ cc2 ≤ ms) ∧ (∃ (m4 : List Int32) (m5 : Nat), ((SbO S x0 m4 ∧ p0 = nI m5 ∧ m5 ≤ 9999 ∧ m4.length + (nuL m5).length ≤ 200 ∧ sbB S x0 (m4.length + (nuL m5).length) cc1 cc2) ∧ (∀ (o12 : Option Nat) (S7 : HS), ext S S7 → (∀ b, o12 = some b → hK S7 b = 12) → (o12 = some x0 ∧ sbT S S7 x0 m4 (m4 ++ nuL m5)) → (P (some x0) S7))))
set_option maxRecDepth 100000 in
set_option maxHeartbeats 4000000 in
theorem t_J4_append_bf812 {p : Program} {l : Launch} {e : Env} {s : State} {m : MethodId} {args : Array Value} {below : List Frame} {meth : Method} {c : Code} {D : va_G} {A : Nat → Prop} {T : Nat → ClassId} (C : GC p s m args meth c cJ4_append_bf812 "java/lang/StringBuilder" (ws_J4_append_bf812) 2 D A (zty T)) (E : GE T A s) (hr : meth.sig.returnType = (some (.object "java/lang/StringBuilder"))) (P : Option Nat → HS → Prop) : ∀ (x0 : Nat) (p0 : Int32) (S0 S : HS) (mc ms : Nat) (L : List Nat), S0 = S → wt S → hL S L → (hK S x0 = 12) → wp_J4_append_bf812 P x0 p0 S mc ms → GW p l e { rm_J4_append_bf812 with cells := mc, slots := ms } s m args below meth c D A 2 mc ms (MQ below (va_Qq (fun v (u : HS × List Nat) => (P v u.1 ∧ ∀ b, v = some b → hK u.1 b = 12) ∧ CO S0 u) (CE D T A) A) args s mc ms A) (CW T S L) mc ms 0 [(0, .ref x0), (1, .int p0)] [] := by
  have hW : ∀ {w : Cond}, w ∈ W0 → w.before args s = true := fun h => C.2.2.2.2.1 _ (List.mem_cons_of_mem _ h)
  intro x0 p0 S0 S mc ms L hS0 hw hL hx0 h
  have he : ext S0 S := by rw [hS0]; exact ext_rf
  unfold wp_J4_append_bf812 at h
  refine g_aload_n C dJ4_append_bf812_0 rfl 0 rfl ?_
  refine g_iload_n C dJ4_append_bf812_1 rfl 1 rfl ?_
  obtain ⟨cc1, cc2, g3, h⟩ := h
  obtain ⟨m4, m5, h⟩ := h
  obtain ⟨g6, h⟩ := h
  refine gc_callqSU (host := "") C E hw hL hx0 (by decide) (by decide) rfl [.int p0] rfl (k_J5_append_c97b9 l D T x0 p0 S m4 m5 cc1 cc2 hx0 g6) (w0_SU 1 C.2.2.2.2.1 kw_1605 kw_2361 kw_1606 kw_124 kw_3 kw_1607 rfl rfl (by decide +kernel) ⟨Nat.le_of_ble_eq_true rfl, Nat.le_of_ble_eq_true rfl⟩) rfl (Nat.le_of_ble_eq_true rfl) (Nat.le_refl _) (Nat.le_refl _) g3.1 g3.2 dJ4_append_bf812_2 (fun o12 S7 L8 e9 w10 w11 ko12 hp => ?_)
  replace h := h o12 S7 e9 ko12 hp
  have g13 := ext_K e9 hx0 (by decide)
  have w14 := ext_tr he e9
  refine g_pop C dJ4_append_bf812_5 (rf_cat _) ?_
  refine g_aload_n C dJ4_append_bf812_6 rfl 0 rfl ?_
  exact gc_aret (v := (some x0)) (kd := 12) C (Or.inl ⟨_, rfl⟩) (fun b hb => by cases hb; exact g13) w10 w11 w14 hr dJ4_append_bf812_7 h
theorem c_J4_append_bf812 (l : Launch) (D : va_G) (T : Nat → ClassId) (x0 : Nat) (p0 : Int32) (S : HS) (mc ms : Nat) (hx0 : hK S x0 = 12) (P : Option Nat → HS → Prop) (h : wp_J4_append_bf812 P x0 p0 S mc ms) : CMq l yJ4_append_bf812 (ws_J4_append_bf812) rm_J4_append_bf812 D T [.ref x0, .int p0] S mc ms 12 P := gc_metq (by decide) rfl rfl (Nat.le_of_ble_eq_true rfl) (fun p e s m args below meth c A L C E hnm hr hw hL => t_J4_append_bf812 C E   hr P x0 p0 S S mc ms L rfl hw hL hx0 h)
theorem k_J4_append_bf812 (l : Launch) (D : va_G) (T : Nat → ClassId) (x0 : Nat) (p0 : Int32) (S : HS) (e0 : List Int32) (e1 : Nat) (mc ms : Nat) (hx0 : hK S x0 = 12) (h : SbO S x0 e0 ∧ p0 = nI e1 ∧ e1 ≤ 9999 ∧ e0.length + (nuL e1).length ≤ 200 ∧ sbB S x0 (e0.length + (nuL e1).length) mc ms) : CMq l yJ4_append_bf812 (ws_J4_append_bf812) rm_J4_append_bf812 D T [.ref x0, .int p0] S mc ms 12 (fun v S1 => (v = some x0 ∧ sbT S S1 x0 e0 (e0 ++ nuL e1))) := c_J4_append_bf812 l D T x0 p0 S mc ms hx0 _ <|
  (by
    unfold wp_J4_append_bf812
    exact ⟨mc, ms, ⟨Nat.le_refl _, Nat.le_refl _⟩, e0, e1, h, fun o S7 _ _ h7 => ⟨rfl, h7.2⟩⟩)
abbrev ws_J0_checkIndex_df160 : List Cond := Cond.code yJ0_checkIndex_df160 cJ0_checkIndex_df160 2 none :: W0
abbrev rm_J0_checkIndex_df160 : Room := ({ frames := 4, cells := 0, slots := 0, locals := 200 } : Room)
theorem dJ0_checkIndex_df160_0 : decode cJ0_checkIndex_df160 0 = .ok (.iload_n 0, 1) := by decide +kernel
theorem dJ0_checkIndex_df160_1 : decode cJ0_checkIndex_df160 1 = .ok (.iload_n 1, 1) := by decide +kernel
theorem dJ0_checkIndex_df160_2 : decode cJ0_checkIndex_df160 2 = .ok (.getstatic 1053, 3) := by decide +kernel
theorem dJ0_checkIndex_df160_5 : decode cJ0_checkIndex_df160 5 = .ok (.invokestatic 1059, 3) := by decide +kernel
theorem dJ0_checkIndex_df160_8 : decode cJ0_checkIndex_df160 8 = .ok (.pop, 1) := by decide +kernel
theorem dJ0_checkIndex_df160_9 : decode cJ0_checkIndex_df160 9 = .ok (.return_, 1) := by decide +kernel
def wp_J0_checkIndex_df160 (P : HS → Prop) (p0 : Int32) (p1 : Int32) (S : HS) : Prop := (∃ n j : Nat, p0 = nI j ∧ p1 = nI n ∧ j < n ∧ n < 2 ^ 31) ∧ (P S)
set_option maxRecDepth 100000 in
set_option maxHeartbeats 4000000 in
theorem t_J0_checkIndex_df160 {p : Program} {l : Launch} {e : Env} {s : State} {m : MethodId} {args : Array Value} {below : List Frame} {meth : Method} {c : Code} {D : va_G} {A : Nat → Prop} {T : Nat → ClassId} (C : GC p s m args meth c cJ0_checkIndex_df160 "java/lang/String" (ws_J0_checkIndex_df160) 2 D A (zty T)) (E : GE T A s) (hr : meth.sig.returnType = none) (P : HS → Prop) : ∀ (p0 : Int32) (p1 : Int32) (S0 S : HS) (L : List Nat), S0 = S → wt S → hL S L → wp_J0_checkIndex_df160 P p0 p1 S → GW p l e { rm_J0_checkIndex_df160 with cells := 0, slots := 0 } s m args below meth c D A 2 0 0 (MQ below (va_Qv (fun (u : HS × List Nat) => P u.1 ∧ CO S0 u) (CE D T A) A) args s 0 0 A) (CW T S L) 0 0 0 [(0, .int p0), (1, .int p1)] [] := by
  have hW : ∀ {w : Cond}, w ∈ W0 → w.before args s = true := fun h => C.2.2.2.2.1 _ (List.mem_cons_of_mem _ h)
  intro p0 p1 S0 S L hS0 hw hL  h
  have he : ext S0 S := by rw [hS0]; exact ext_rf
  unfold wp_J0_checkIndex_df160 at h
  refine g_iload_n C dJ0_checkIndex_df160_0 rfl 0 rfl ?_
  refine g_iload_n C dJ0_checkIndex_df160_1 rfl 1 rfl ?_
  obtain ⟨o1, ho1⟩ := vq_rf E.2.2.2.2.2.2.2.2.2.2.2.2.2.2.2.2.1
  refine gt_gets C ho1 (hW kw_650) (fun _ z => z) dJ0_checkIndex_df160_2 ?_
  obtain ⟨g2, h⟩ := h
  refine gc_calliS (host := "") C E hw hL [.int p0, .int p1, va_rf o1] rfl (k_J3_checkIndex_8e157 l D T p0 p1 o1 S  g2) (w0_S 3 C.2.2.2.2.1 kw_1771 kw_887 kw_25 kw_888 rfl rfl (by decide +kernel) ⟨Nat.le_of_ble_eq_true rfl, Nat.le_of_ble_eq_true rfl⟩) rfl (Nat.le_of_ble_eq_true rfl) (Nat.le_refl _) (Nat.le_refl _) (Nat.zero_le _) (Nat.zero_le _) dJ0_checkIndex_df160_5 (fun v9 S9 L3 he9 hw9 hL9 hp => ?_)
  obtain ⟨hv9, hs9⟩ := hp
  replace hs9 := hs9.symm
  subst hs9
  replace hv9 := hv9.symm
  subst hv9
  have w6 := hL9
  refine g_pop C dJ0_checkIndex_df160_8 rfl ?_
  exact gc_vret C hw w6 he hr dJ0_checkIndex_df160_9 h
theorem c_J0_checkIndex_df160 (l : Launch) (D : va_G) (T : Nat → ClassId) (p0 : Int32) (p1 : Int32) (S : HS)  (P : HS → Prop) (h : wp_J0_checkIndex_df160 P p0 p1 S) : CMv l yJ0_checkIndex_df160 (ws_J0_checkIndex_df160) rm_J0_checkIndex_df160 D T [.int p0, .int p1] S 0 0 P := gc_metv (by decide) rfl rfl (Nat.le_of_ble_eq_true rfl) (fun p e s m args below meth c A L C E hnm hr hw hL => t_J0_checkIndex_df160 C E   hr P p0 p1 S S L rfl hw hL  h)
theorem k_J0_checkIndex_df160 (l : Launch) (D : va_G) (T : Nat → ClassId) (p0 : Int32) (p1 : Int32) (S : HS)  (h : ∃ n j : Nat, p0 = nI j ∧ p1 = nI n ∧ j < n ∧ n < 2 ^ 31) : CMv l yJ0_checkIndex_df160 (ws_J0_checkIndex_df160) rm_J0_checkIndex_df160 D T [.int p0, .int p1] S 0 0 (fun S1 => (S1 = S)) := c_J0_checkIndex_df160 l D T p0 p1 S  _ <|
  (by
    unfold wp_J0_checkIndex_df160
    exact ⟨h, rfl⟩)
abbrev ws_J5_charAt_5068e : List Cond := Cond.code yJ5_charAt_5068e cJ5_charAt_5068e 5 (some .char) :: W0
abbrev rm_J5_charAt_5068e : Room := ({ frames := 6, cells := 0, slots := 0, locals := 300 } : Room)
theorem dJ5_charAt_5068e_0 : decode cJ5_charAt_5068e 0 = .ok (.aload_n 0, 1) := by decide +kernel
theorem dJ5_charAt_5068e_1 : decode cJ5_charAt_5068e 1 = .ok (.getfield 22, 3) := by decide +kernel
theorem dJ5_charAt_5068e_4 : decode cJ5_charAt_5068e 4 = .ok (.istore_n 2, 1) := by decide +kernel
theorem dJ5_charAt_5068e_5 : decode cJ5_charAt_5068e 5 = .ok (.aload_n 0, 1) := by decide +kernel
theorem dJ5_charAt_5068e_6 : decode cJ5_charAt_5068e 6 = .ok (.getfield 15, 3) := by decide +kernel
theorem dJ5_charAt_5068e_9 : decode cJ5_charAt_5068e 9 = .ok (.astore_n 3, 1) := by decide +kernel
theorem dJ5_charAt_5068e_10 : decode cJ5_charAt_5068e 10 = .ok (.aload_n 0, 1) := by decide +kernel
theorem dJ5_charAt_5068e_11 : decode cJ5_charAt_5068e 11 = .ok (.getfield 79, 3) := by decide +kernel
theorem dJ5_charAt_5068e_14 : decode cJ5_charAt_5068e 14 = .ok (.aload_n 3, 1) := by decide +kernel
theorem dJ5_charAt_5068e_15 : decode cJ5_charAt_5068e 15 = .ok (.arraylength, 1) := by decide +kernel
theorem dJ5_charAt_5068e_16 : decode cJ5_charAt_5068e 16 = .ok (.iload_n 2, 1) := by decide +kernel
theorem dJ5_charAt_5068e_17 : decode cJ5_charAt_5068e 17 = .ok (.ishr, 1) := by decide +kernel
theorem dJ5_charAt_5068e_18 : decode cJ5_charAt_5068e 18 = .ok (.invokestatic 138, 3) := by decide +kernel
theorem dJ5_charAt_5068e_21 : decode cJ5_charAt_5068e 21 = .ok (.istore 4, 2) := by decide +kernel
theorem dJ5_charAt_5068e_23 : decode cJ5_charAt_5068e 23 = .ok (.iload_n 1, 1) := by decide +kernel
theorem dJ5_charAt_5068e_24 : decode cJ5_charAt_5068e 24 = .ok (.iload 4, 2) := by decide +kernel
theorem dJ5_charAt_5068e_26 : decode cJ5_charAt_5068e 26 = .ok (.invokestatic 144, 3) := by decide +kernel
theorem dJ5_charAt_5068e_29 : decode cJ5_charAt_5068e 29 = .ok (.iload_n 2, 1) := by decide +kernel
theorem dJ5_charAt_5068e_30 : decode cJ5_charAt_5068e 30 = .ok (.ifCond .ne 12, 3) := by decide +kernel
theorem dJ5_charAt_5068e_33 : decode cJ5_charAt_5068e 33 = .ok (.aload_n 3, 1) := by decide +kernel
theorem dJ5_charAt_5068e_34 : decode cJ5_charAt_5068e 34 = .ok (.iload_n 1, 1) := by decide +kernel
theorem dJ5_charAt_5068e_35 : decode cJ5_charAt_5068e 35 = .ok (.baload, 1) := by decide +kernel
theorem dJ5_charAt_5068e_36 : decode cJ5_charAt_5068e 36 = .ok (.sipush 255, 3) := by decide +kernel
theorem dJ5_charAt_5068e_39 : decode cJ5_charAt_5068e 39 = .ok (.iand, 1) := by decide +kernel
theorem dJ5_charAt_5068e_40 : decode cJ5_charAt_5068e 40 = .ok (.i2c, 1) := by decide +kernel
theorem dJ5_charAt_5068e_41 : decode cJ5_charAt_5068e 41 = .ok (.ireturn, 1) := by decide +kernel
theorem dJ5_charAt_5068e_42 : decode cJ5_charAt_5068e 42 = .ok (.aload_n 3, 1) := by decide +kernel
theorem dJ5_charAt_5068e_43 : decode cJ5_charAt_5068e 43 = .ok (.iload_n 1, 1) := by decide +kernel
theorem dJ5_charAt_5068e_44 : decode cJ5_charAt_5068e 44 = .ok (.invokestatic 148, 3) := by decide +kernel
theorem dJ5_charAt_5068e_47 : decode cJ5_charAt_5068e 47 = .ok (.ireturn, 1) := by decide +kernel
def wp_J5_charAt_5068e (P : Int32 → HS → Prop) (x0 : Nat) (p0 : Int32) (S : HS) : Prop := ∀ v1 : Int32, v1 = (hI S 241 x0) → (∃ b3 : Nat, hR S 240 x0 = some b3 ∧ (hK S b3 = 20 → (∀ v5 : Int32, v5 = (if ((Int32.ofNat (hN S b3)) >>> (v1 &&& 31)) < (hI S 243 x0) then ((Int32.ofNat (hN S b3)) >>> (v1 &&& 31)) else (hI S 243 x0)) → ((∃ n j : Nat, p0 = nI j ∧ v5 = nI n ∧ j < n ∧ n < 2 ^ 31) ∧ (∀ (S7 : HS), ext S S7 → (S7 = S) → ((¬ v1 = 0 → (False)) ∧ (v1 = 0 → (vp_in p0 (hN S7 b3) ∧ (vc ((Int32.toUInt32 ((hA S7 b3 (Int32.toNatClampNeg p0)) &&& 255) % 65536).toInt32) ∧ P ((Int32.toUInt32 ((hA S7 b3 (Int32.toNatClampNeg p0)) &&& 255) % 65536).toInt32) S7)))))))))
set_option maxRecDepth 100000 in
set_option maxHeartbeats 4000000 in
theorem t_J5_charAt_5068e {p : Program} {l : Launch} {e : Env} {s : State} {m : MethodId} {args : Array Value} {below : List Frame} {meth : Method} {c : Code} {D : va_G} {A : Nat → Prop} {T : Nat → ClassId} (C : GC p s m args meth c cJ5_charAt_5068e "java/lang/AbstractStringBuilder" (ws_J5_charAt_5068e) 5 D A (zty T)) (E : GE T A s) (hr : meth.sig.returnType = (some .char)) (P : Int32 → HS → Prop) : ∀ (x0 : Nat) (p0 : Int32) (S0 S : HS) (L : List Nat), S0 = S → wt S → hL S L → (hK S x0 = 12) → wp_J5_charAt_5068e P x0 p0 S → GW p l e { rm_J5_charAt_5068e with cells := 0, slots := 0 } s m args below meth c D A 5 0 0 (MQ below (va_Qi (fun v (u : HS × List Nat) => P v u.1 ∧ CO S0 u) (CE D T A) A) args s 0 0 A) (CW T S L) 0 0 0 [(0, .ref x0), (1, .int p0)] [] := by
  have hW : ∀ {w : Cond}, w ∈ W0 → w.before args s = true := fun h => C.2.2.2.2.1 _ (List.mem_cons_of_mem _ h)
  intro x0 p0 S0 S L hS0 hw hL hx0 h
  have he : ext S0 S := by rw [hS0]; exact ext_rf
  unfold wp_J5_charAt_5068e at h
  refine g_aload_n C dJ5_charAt_5068e_0 rfl 0 rfl ?_
  refine gt_getI C iwx_J4 hL hx0 (by decide) (by decide) rfl 1 (by decide) (hW kw_112) (fun _ z => z) rfl rfl dJ5_charAt_5068e_1 ?_
  refine g_topi (fun v1 ev1 => ?_)
  replace h := h v1 ev1
  refine g_istore_n (lv' := [(2, .int v1), (0, .ref x0), (1, .int p0)]) C dJ5_charAt_5068e_4 rfl (by decide) rfl ?_
  refine g_aload_n C dJ5_charAt_5068e_5 rfl 1 rfl ?_
  refine gt_getR C hw iwx_J4 hL hx0 (by decide) (by decide) rfl 0 (by decide) (hW kw_111) (fun _ z => z) rfl rfl dJ5_charAt_5068e_6 (fun o2 eo2 ko2 => ?_)
  obtain ⟨b3, hb9, h⟩ := h
  have g4 : hK S b3 = 20 := ko2 b3 (eo2.trans hb9)
  replace h := h g4
  refine g_opt (eo2.trans hb9) ?_
  refine g_astore_n (lv' := [(3, .ref b3), (2, .int v1), (0, .ref x0), (1, .int p0)]) C dJ5_charAt_5068e_9 rfl (by decide) rfl ?_
  refine g_aload_n C dJ5_charAt_5068e_10 rfl 2 rfl ?_
  refine gt_getI C iwx_J4 hL hx0 (by decide) (by decide) rfl 3 (by decide) (hW kw_115) (fun _ z => z) rfl rfl dJ5_charAt_5068e_11 ?_
  refine g_aload_n C dJ5_charAt_5068e_14 rfl 0 rfl ?_
  refine gc_alen C E hL g4 (by decide) rfl dJ5_charAt_5068e_15 ?_
  refine g_iload_n C dJ5_charAt_5068e_16 rfl 1 rfl ?_
  refine g_ishr C dJ5_charAt_5068e_17 ?_
  refine g_mmin C (hW kw_1800) (hW kw_500) (hW kw_18) (hW kw_501) (Nat.le_of_ble_eq_true rfl) (Nat.le_of_ble_eq_true rfl) (Nat.le_refl _) (Nat.le_refl _) dJ5_charAt_5068e_18 ?_
  refine g_topi (fun v5 ev5 => ?_)
  replace h := h v5 ev5
  refine g_istore (lv' := [(4, .int v5), (3, .ref b3), (2, .int v1), (0, .ref x0), (1, .int p0)]) C dJ5_charAt_5068e_21 (by decide) rfl ?_
  refine g_iload_n C dJ5_charAt_5068e_23 rfl 4 rfl ?_
  refine g_iload C dJ5_charAt_5068e_24 0 rfl ?_
  obtain ⟨g6, h⟩ := h
  refine gc_callvS (host := "") C E hw hL [.int p0, .int v5] rfl (k_J0_checkIndex_df160 l D T p0 v5 S  g6) (w0_S 2 C.2.2.2.2.1 kw_1801 kw_1769 kw_5 kw_1770 rfl rfl (by decide +kernel) ⟨Nat.le_of_ble_eq_true rfl, Nat.le_of_ble_eq_true rfl⟩) rfl (Nat.le_of_ble_eq_true rfl) (Nat.le_refl _) (Nat.le_refl _) (Nat.zero_le _) (Nat.zero_le _) dJ5_charAt_5068e_26 (fun S7 L8 e9 w10 w11 hp => ?_)
  replace h := h S7 e9 hp
  have g12 := ext_K e9 g4 (by decide)
  have g13 := ext_K e9 hx0 (by decide)
  have w14 := ext_tr he e9
  refine g_iload_n C dJ5_charAt_5068e_29 rfl 2 rfl ?_
  refine g_if_ne (tgt := 42) C dJ5_charAt_5068e_30 (by decide) (fun z15 => ?_) (fun z15 => ?_)
  · replace h := h.1 z15
    exact False.elim h
  · replace h := h.2 z15
    refine g_aload_n C dJ5_charAt_5068e_33 rfl 1 rfl ?_
    refine g_iload_n C dJ5_charAt_5068e_34 rfl 4 rfl ?_
    obtain ⟨g16, h⟩ := h
    refine gc_bald C w11 g12 g16 dJ5_charAt_5068e_35 ?_
    refine g_sipush (v := 255) C dJ5_charAt_5068e_36 (by decide) ?_
    refine g_iand C dJ5_charAt_5068e_39 ?_
    refine g_i2c C dJ5_charAt_5068e_40 rfl ?_
    exact gc_cret C h.1 w10 w11 w14 hr dJ5_charAt_5068e_41 h.2
theorem c_J5_charAt_5068e (l : Launch) (D : va_G) (T : Nat → ClassId) (x0 : Nat) (p0 : Int32) (S : HS) (hx0 : hK S x0 = 12) (P : Int32 → HS → Prop) (h : wp_J5_charAt_5068e P x0 p0 S) : CMi l yJ5_charAt_5068e (ws_J5_charAt_5068e) rm_J5_charAt_5068e D T [.ref x0, .int p0] S 0 0 P := gc_meti (by decide) rfl rfl (Nat.le_of_ble_eq_true rfl) (fun p e s m args below meth c A L C E hnm hr hw hL => t_J5_charAt_5068e C E   hr P x0 p0 S S L rfl hw hL hx0 h)
theorem k_J5_charAt_5068e (l : Launch) (D : va_G) (T : Nat → ClassId) (x0 : Nat) (p0 : Int32) (S : HS) (e0 : List Int32) (hx0 : hK S x0 = 12) (h : SbO S x0 e0 ∧ ∃ j : Nat, p0 = nI j ∧ j < e0.length) : CMi l yJ5_charAt_5068e (ws_J5_charAt_5068e) rm_J5_charAt_5068e D T [.ref x0, .int p0] S 0 0 (fun v S1 => v = (e0.getD (Int32.toNatClampNeg p0) 0) ∧ S1 = S) := c_J5_charAt_5068e l D T x0 p0 S hx0 _ <|
  (by
    obtain ⟨h0, j, ej, hj⟩ := h
    subst ej
    obtain ⟨r, r1, r2, r3, ⟨r4, r5, r6⟩, r7, r8⟩ := h0.C
    have l2 := h0.2.2.2.1
    have ij : (nI j).toNatClampNeg = j := nI_clamp (by omega)
    unfold wp_J5_charAt_5068e
    intro v1 e1
    have e1' : v1 = 0 := e1.trans h0.2.1
    subst e1'
    refine ⟨r, r1, fun _ v5 e5 => ?_⟩
    have e5' : v5 = nI e0.length := by
      rw [e5, sb_shr0, h0.2.2.1, r3]
      exact if_neg (fun z => by have := (nI_ltI (by omega) (by omega)).mp (show nI (sbC S x0) < nI e0.length from z); omega)
    subst e5'
    refine ⟨⟨e0.length, j, rfl, rfl, hj, by omega⟩, fun S7 _ e7 => ?_⟩
    subst e7
    refine ⟨fun z => absurd rfl z, fun _ => ?_⟩
    rw [ij, r3, nz_vp (a := j) (by omega) (by omega)]
    obtain ⟨y, hy⟩ : ∃ y, e0[j]? = some y := ⟨_, List.getElem?_eq_getElem hj⟩
    obtain ⟨c, hc, ec⟩ := r7 j
    have ey := r8 j y hy
    have eD : e0.getD j 0 = nI c := by rw [List.getD_eq_getElem?_getD, hy]; exact ey.symm.trans ec
    rw [ec, by_ch c hc, eD]
    exact ⟨by omega, vc_n hc, rfl, rfl⟩)
abbrev ws_J4_charAt_5068e : List Cond := Cond.code yJ4_charAt_5068e cJ4_charAt_5068e 2 (some .char) :: W0
abbrev rm_J4_charAt_5068e : Room := ({ frames := 8, cells := 0, slots := 0, locals := 400 } : Room)
theorem dJ4_charAt_5068e_0 : decode cJ4_charAt_5068e 0 = .ok (.aload_n 0, 1) := by decide +kernel
theorem dJ4_charAt_5068e_1 : decode cJ4_charAt_5068e 1 = .ok (.iload_n 1, 1) := by decide +kernel
theorem dJ4_charAt_5068e_2 : decode cJ4_charAt_5068e 2 = .ok (.invokespecial 329, 3) := by decide +kernel
theorem dJ4_charAt_5068e_5 : decode cJ4_charAt_5068e 5 = .ok (.ireturn, 1) := by decide +kernel
def wp_J4_charAt_5068e (P : Int32 → HS → Prop) (x0 : Nat) (p0 : Int32) (S : HS) : Prop := ∃ (m1 : List Int32), ((SbO S x0 m1 ∧ ∃ j : Nat, p0 = nI j ∧ j < m1.length) ∧ (vc (m1.getD (Int32.toNatClampNeg p0) 0) ∧ P (m1.getD (Int32.toNatClampNeg p0) 0) S))
set_option maxRecDepth 100000 in
set_option maxHeartbeats 4000000 in
theorem t_J4_charAt_5068e {p : Program} {l : Launch} {e : Env} {s : State} {m : MethodId} {args : Array Value} {below : List Frame} {meth : Method} {c : Code} {D : va_G} {A : Nat → Prop} {T : Nat → ClassId} (C : GC p s m args meth c cJ4_charAt_5068e "java/lang/StringBuilder" (ws_J4_charAt_5068e) 2 D A (zty T)) (E : GE T A s) (hr : meth.sig.returnType = (some .char)) (P : Int32 → HS → Prop) : ∀ (x0 : Nat) (p0 : Int32) (S0 S : HS) (L : List Nat), S0 = S → wt S → hL S L → (hK S x0 = 12) → wp_J4_charAt_5068e P x0 p0 S → GW p l e { rm_J4_charAt_5068e with cells := 0, slots := 0 } s m args below meth c D A 2 0 0 (MQ below (va_Qi (fun v (u : HS × List Nat) => P v u.1 ∧ CO S0 u) (CE D T A) A) args s 0 0 A) (CW T S L) 0 0 0 [(0, .ref x0), (1, .int p0)] [] := by
  have hW : ∀ {w : Cond}, w ∈ W0 → w.before args s = true := fun h => C.2.2.2.2.1 _ (List.mem_cons_of_mem _ h)
  intro x0 p0 S0 S L hS0 hw hL hx0 h
  have he : ext S0 S := by rw [hS0]; exact ext_rf
  unfold wp_J4_charAt_5068e at h
  refine g_aload_n C dJ4_charAt_5068e_0 rfl 0 rfl ?_
  refine g_iload_n C dJ4_charAt_5068e_1 rfl 1 rfl ?_
  obtain ⟨m1, h⟩ := h
  obtain ⟨g2, h⟩ := h
  refine gc_calliSU (host := "") C E hw hL hx0 (by decide) (by decide) rfl [.int p0] rfl (k_J5_charAt_5068e l D T x0 p0 S m1 hx0 g2) (w0_SU 1 C.2.2.2.2.1 kw_1797 kw_2364 kw_1798 kw_124 kw_3 kw_1799 rfl rfl (by decide +kernel) ⟨Nat.le_of_ble_eq_true rfl, Nat.le_of_ble_eq_true rfl⟩) rfl (Nat.le_of_ble_eq_true rfl) (Nat.le_refl _) (Nat.le_refl _) (Nat.zero_le _) (Nat.zero_le _) dJ4_charAt_5068e_2 (fun v9 S9 L3 he9 hw9 hL9 hp => ?_)
  obtain ⟨hv9, hs9⟩ := hp
  replace hs9 := hs9.symm
  subst hs9
  replace hv9 := hv9.symm
  subst hv9
  have w6 := hL9
  exact gc_cret C h.1 hw w6 he hr dJ4_charAt_5068e_5 h.2
theorem c_J4_charAt_5068e (l : Launch) (D : va_G) (T : Nat → ClassId) (x0 : Nat) (p0 : Int32) (S : HS) (hx0 : hK S x0 = 12) (P : Int32 → HS → Prop) (h : wp_J4_charAt_5068e P x0 p0 S) : CMi l yJ4_charAt_5068e (ws_J4_charAt_5068e) rm_J4_charAt_5068e D T [.ref x0, .int p0] S 0 0 P := gc_meti (by decide) rfl rfl (Nat.le_of_ble_eq_true rfl) (fun p e s m args below meth c A L C E hnm hr hw hL => t_J4_charAt_5068e C E   hr P x0 p0 S S L rfl hw hL hx0 h)
theorem k_J4_charAt_5068e (l : Launch) (D : va_G) (T : Nat → ClassId) (x0 : Nat) (p0 : Int32) (S : HS) (e0 : List Int32) (hx0 : hK S x0 = 12) (h : SbO S x0 e0 ∧ ∃ j : Nat, p0 = nI j ∧ j < e0.length) : CMi l yJ4_charAt_5068e (ws_J4_charAt_5068e) rm_J4_charAt_5068e D T [.ref x0, .int p0] S 0 0 (fun v S1 => v = (e0.getD (Int32.toNatClampNeg p0) 0) ∧ S1 = S) := c_J4_charAt_5068e l D T x0 p0 S hx0 _ <|
  (by
    have h9 := h
    obtain ⟨h0, j, ej, hj⟩ := h
    obtain ⟨r, r1, r2, r3, r4, r7, r8⟩ := h0.C
    have l2 := h0.2.2.2.1
    unfold wp_J4_charAt_5068e
    refine ⟨e0, h9, ?_, rfl, rfl⟩
    rw [ej, show (nI j).toNatClampNeg = j from nI_clamp (by omega)]
    obtain ⟨y, hy⟩ : ∃ y, e0[j]? = some y := ⟨_, List.getElem?_eq_getElem hj⟩
    obtain ⟨c, hc, ec⟩ := r7 j
    have ey := r8 j y hy
    rw [List.getD_eq_getElem?_getD, hy, show (some y).getD 0 = nI c from ey.symm.trans ec]
    exact vc_n hc)
abbrev ws_J5_length_8abf5 : List Cond := Cond.code yJ5_length_8abf5 cJ5_length_8abf5 1 (some .int) :: W0
abbrev rm_J5_length_8abf5 : Room := ({ frames := 2, cells := 0, slots := 0, locals := 100 } : Room)
theorem dJ5_length_8abf5_0 : decode cJ5_length_8abf5 0 = .ok (.aload_n 0, 1) := by decide +kernel
theorem dJ5_length_8abf5_1 : decode cJ5_length_8abf5 1 = .ok (.getfield 79, 3) := by decide +kernel
theorem dJ5_length_8abf5_4 : decode cJ5_length_8abf5 4 = .ok (.ireturn, 1) := by decide +kernel
def wp_J5_length_8abf5 (P : Int32 → HS → Prop) (x0 : Nat) (S : HS) : Prop := P (hI S 243 x0) S
set_option maxRecDepth 100000 in
set_option maxHeartbeats 4000000 in
theorem t_J5_length_8abf5 {p : Program} {l : Launch} {e : Env} {s : State} {m : MethodId} {args : Array Value} {below : List Frame} {meth : Method} {c : Code} {D : va_G} {A : Nat → Prop} {T : Nat → ClassId} (C : GC p s m args meth c cJ5_length_8abf5 "java/lang/AbstractStringBuilder" (ws_J5_length_8abf5) 1 D A (zty T)) (E : GE T A s) (hr : meth.sig.returnType = (some .int)) (P : Int32 → HS → Prop) : ∀ (x0 : Nat) (S0 S : HS) (L : List Nat), S0 = S → wt S → hL S L → (hK S x0 = 12) → wp_J5_length_8abf5 P x0 S → GW p l e { rm_J5_length_8abf5 with cells := 0, slots := 0 } s m args below meth c D A 1 0 0 (MQ below (va_Qi (fun v (u : HS × List Nat) => P v u.1 ∧ CO S0 u) (CE D T A) A) args s 0 0 A) (CW T S L) 0 0 0 [(0, .ref x0)] [] := by
  have hW : ∀ {w : Cond}, w ∈ W0 → w.before args s = true := fun h => C.2.2.2.2.1 _ (List.mem_cons_of_mem _ h)
  intro x0 S0 S L hS0 hw hL hx0 h
  have he : ext S0 S := by rw [hS0]; exact ext_rf
  unfold wp_J5_length_8abf5 at h
  refine g_aload_n C dJ5_length_8abf5_0 rfl 0 rfl ?_
  refine gt_getI C iwx_J4 hL hx0 (by decide) (by decide) rfl 3 (by decide) (hW kw_115) (fun _ z => z) rfl rfl dJ5_length_8abf5_1 ?_
  exact gc_iret C hw hL he hr dJ5_length_8abf5_4 h
theorem c_J5_length_8abf5 (l : Launch) (D : va_G) (T : Nat → ClassId) (x0 : Nat) (S : HS) (hx0 : hK S x0 = 12) (P : Int32 → HS → Prop) (h : wp_J5_length_8abf5 P x0 S) : CMi l yJ5_length_8abf5 (ws_J5_length_8abf5) rm_J5_length_8abf5 D T [.ref x0] S 0 0 P := gc_meti (by decide) rfl rfl (Nat.le_of_ble_eq_true rfl) (fun p e s m args below meth c A L C E hnm hr hw hL => t_J5_length_8abf5 C E   hr P x0 S S L rfl hw hL hx0 h)
theorem k_J5_length_8abf5 (l : Launch) (D : va_G) (T : Nat → ClassId) (x0 : Nat) (S : HS) (hx0 : hK S x0 = 12) : CMi l yJ5_length_8abf5 (ws_J5_length_8abf5) rm_J5_length_8abf5 D T [.ref x0] S 0 0 (fun v S1 => v = (hI S 243 x0) ∧ S1 = S) := c_J5_length_8abf5 l D T x0 S hx0 _ <|
  (by
    unfold wp_J5_length_8abf5
    exact ⟨rfl, rfl⟩)
abbrev ws_J4_length_8abf5 : List Cond := Cond.code yJ4_length_8abf5 cJ4_length_8abf5 1 (some .int) :: W0
abbrev rm_J4_length_8abf5 : Room := ({ frames := 4, cells := 0, slots := 0, locals := 200 } : Room)
theorem dJ4_length_8abf5_0 : decode cJ4_length_8abf5 0 = .ok (.aload_n 0, 1) := by decide +kernel
theorem dJ4_length_8abf5_1 : decode cJ4_length_8abf5 1 = .ok (.invokespecial 343, 3) := by decide +kernel
theorem dJ4_length_8abf5_4 : decode cJ4_length_8abf5 4 = .ok (.ireturn, 1) := by decide +kernel
def wp_J4_length_8abf5 (P : Int32 → HS → Prop) (x0 : Nat) (S : HS) : Prop := P (hI S 243 x0) S
set_option maxRecDepth 100000 in
set_option maxHeartbeats 4000000 in
theorem t_J4_length_8abf5 {p : Program} {l : Launch} {e : Env} {s : State} {m : MethodId} {args : Array Value} {below : List Frame} {meth : Method} {c : Code} {D : va_G} {A : Nat → Prop} {T : Nat → ClassId} (C : GC p s m args meth c cJ4_length_8abf5 "java/lang/StringBuilder" (ws_J4_length_8abf5) 1 D A (zty T)) (E : GE T A s) (hr : meth.sig.returnType = (some .int)) (P : Int32 → HS → Prop) : ∀ (x0 : Nat) (S0 S : HS) (L : List Nat), S0 = S → wt S → hL S L → (hK S x0 = 12) → wp_J4_length_8abf5 P x0 S → GW p l e { rm_J4_length_8abf5 with cells := 0, slots := 0 } s m args below meth c D A 1 0 0 (MQ below (va_Qi (fun v (u : HS × List Nat) => P v u.1 ∧ CO S0 u) (CE D T A) A) args s 0 0 A) (CW T S L) 0 0 0 [(0, .ref x0)] [] := by
  have hW : ∀ {w : Cond}, w ∈ W0 → w.before args s = true := fun h => C.2.2.2.2.1 _ (List.mem_cons_of_mem _ h)
  intro x0 S0 S L hS0 hw hL hx0 h
  have he : ext S0 S := by rw [hS0]; exact ext_rf
  unfold wp_J4_length_8abf5 at h
  refine g_aload_n C dJ4_length_8abf5_0 rfl 0 rfl ?_
  refine gc_calliSU (host := "") C E hw hL hx0 (by decide) (by decide) rfl [] rfl (k_J5_length_8abf5 l D T x0 S hx0) (w0_SU 0 C.2.2.2.2.1 kw_1650 kw_1646 kw_1645 kw_124 kw_3 kw_1651 rfl rfl (by decide +kernel) ⟨Nat.le_of_ble_eq_true rfl, Nat.le_of_ble_eq_true rfl⟩) rfl (Nat.le_of_ble_eq_true rfl) (Nat.le_refl _) (Nat.le_refl _) (Nat.zero_le _) (Nat.zero_le _) dJ4_length_8abf5_1 (fun v9 S9 L1 he9 hw9 hL9 hp => ?_)
  obtain ⟨hv9, hs9⟩ := hp
  replace hs9 := hs9.symm
  subst hs9
  replace hv9 := hv9.symm
  subst hv9
  have w4 := hL9
  exact gc_iret C hw w4 he hr dJ4_length_8abf5_4 h
theorem c_J4_length_8abf5 (l : Launch) (D : va_G) (T : Nat → ClassId) (x0 : Nat) (S : HS) (hx0 : hK S x0 = 12) (P : Int32 → HS → Prop) (h : wp_J4_length_8abf5 P x0 S) : CMi l yJ4_length_8abf5 (ws_J4_length_8abf5) rm_J4_length_8abf5 D T [.ref x0] S 0 0 P := gc_meti (by decide) rfl rfl (Nat.le_of_ble_eq_true rfl) (fun p e s m args below meth c A L C E hnm hr hw hL => t_J4_length_8abf5 C E   hr P x0 S S L rfl hw hL hx0 h)
theorem k_J4_length_8abf5 (l : Launch) (D : va_G) (T : Nat → ClassId) (x0 : Nat) (S : HS) (hx0 : hK S x0 = 12) : CMi l yJ4_length_8abf5 (ws_J4_length_8abf5) rm_J4_length_8abf5 D T [.ref x0] S 0 0 (fun v S1 => v = (hI S 243 x0) ∧ S1 = S) := c_J4_length_8abf5 l D T x0 S hx0 _ <|
  (by
    unfold wp_J4_length_8abf5
    exact ⟨rfl, rfl⟩)
abbrev ws_J5_setLength_d00df : List Cond := Cond.code yJ5_setLength_d00df cJ5_setLength_d00df 2 none :: W0
abbrev rm_J5_setLength_d00df : Room := ({ frames := 9, cells := 0, slots := 0, locals := 400 } : Room)
theorem dJ5_setLength_d00df_0 : decode cJ5_setLength_d00df 0 = .ok (.iload_n 1, 1) := by decide +kernel
theorem dJ5_setLength_d00df_1 : decode cJ5_setLength_d00df 1 = .ok (.ifCond .ge 12, 3) := by decide +kernel
theorem dJ5_setLength_d00df_4 : decode cJ5_setLength_d00df 4 = .ok (.new 129, 3) := by decide +kernel
theorem dJ5_setLength_d00df_7 : decode cJ5_setLength_d00df 7 = .ok (.dup, 1) := by decide +kernel
theorem dJ5_setLength_d00df_8 : decode cJ5_setLength_d00df 8 = .ok (.iload_n 1, 1) := by decide +kernel
theorem dJ5_setLength_d00df_9 : decode cJ5_setLength_d00df 9 = .ok (.invokespecial 131, 3) := by decide +kernel
theorem dJ5_setLength_d00df_12 : decode cJ5_setLength_d00df 12 = .ok (.athrow, 1) := by decide +kernel
theorem dJ5_setLength_d00df_13 : decode cJ5_setLength_d00df 13 = .ok (.aload_n 0, 1) := by decide +kernel
theorem dJ5_setLength_d00df_14 : decode cJ5_setLength_d00df 14 = .ok (.iload_n 1, 1) := by decide +kernel
theorem dJ5_setLength_d00df_15 : decode cJ5_setLength_d00df 15 = .ok (.invokevirtual 100, 3) := by decide +kernel
theorem dJ5_setLength_d00df_18 : decode cJ5_setLength_d00df 18 = .ok (.aload_n 0, 1) := by decide +kernel
theorem dJ5_setLength_d00df_19 : decode cJ5_setLength_d00df 19 = .ok (.getfield 79, 3) := by decide +kernel
theorem dJ5_setLength_d00df_22 : decode cJ5_setLength_d00df 22 = .ok (.iload_n 1, 1) := by decide +kernel
theorem dJ5_setLength_d00df_23 : decode cJ5_setLength_d00df 23 = .ok (.if_icmp .ge 40, 3) := by decide +kernel
theorem dJ5_setLength_d00df_26 : decode cJ5_setLength_d00df 26 = .ok (.aload_n 0, 1) := by decide +kernel
theorem dJ5_setLength_d00df_27 : decode cJ5_setLength_d00df 27 = .ok (.invokevirtual 83, 3) := by decide +kernel
theorem dJ5_setLength_d00df_30 : decode cJ5_setLength_d00df 30 = .ok (.ifCond .eq 18, 3) := by decide +kernel
theorem dJ5_setLength_d00df_33 : decode cJ5_setLength_d00df 33 = .ok (.aload_n 0, 1) := by decide +kernel
theorem dJ5_setLength_d00df_34 : decode cJ5_setLength_d00df 34 = .ok (.getfield 15, 3) := by decide +kernel
theorem dJ5_setLength_d00df_37 : decode cJ5_setLength_d00df 37 = .ok (.aload_n 0, 1) := by decide +kernel
theorem dJ5_setLength_d00df_38 : decode cJ5_setLength_d00df 38 = .ok (.getfield 79, 3) := by decide +kernel
theorem dJ5_setLength_d00df_41 : decode cJ5_setLength_d00df 41 = .ok (.iload_n 1, 1) := by decide +kernel
theorem dJ5_setLength_d00df_42 : decode cJ5_setLength_d00df 42 = .ok (.invokestatic 133, 3) := by decide +kernel
theorem dJ5_setLength_d00df_45 : decode cJ5_setLength_d00df 45 = .ok (.goto 31, 3) := by decide +kernel
theorem dJ5_setLength_d00df_48 : decode cJ5_setLength_d00df 48 = .ok (.aload_n 0, 1) := by decide +kernel
theorem dJ5_setLength_d00df_49 : decode cJ5_setLength_d00df 49 = .ok (.getfield 15, 3) := by decide +kernel
theorem dJ5_setLength_d00df_52 : decode cJ5_setLength_d00df 52 = .ok (.aload_n 0, 1) := by decide +kernel
theorem dJ5_setLength_d00df_53 : decode cJ5_setLength_d00df 53 = .ok (.getfield 79, 3) := by decide +kernel
theorem dJ5_setLength_d00df_56 : decode cJ5_setLength_d00df 56 = .ok (.iload_n 1, 1) := by decide +kernel
theorem dJ5_setLength_d00df_57 : decode cJ5_setLength_d00df 57 = .ok (.invokestatic 137, 3) := by decide +kernel
theorem dJ5_setLength_d00df_60 : decode cJ5_setLength_d00df 60 = .ok (.goto 16, 3) := by decide +kernel
theorem dJ5_setLength_d00df_63 : decode cJ5_setLength_d00df 63 = .ok (.aload_n 0, 1) := by decide +kernel
theorem dJ5_setLength_d00df_64 : decode cJ5_setLength_d00df 64 = .ok (.getfield 79, 3) := by decide +kernel
theorem dJ5_setLength_d00df_67 : decode cJ5_setLength_d00df 67 = .ok (.iload_n 1, 1) := by decide +kernel
theorem dJ5_setLength_d00df_68 : decode cJ5_setLength_d00df 68 = .ok (.if_icmp .le 8, 3) := by decide +kernel
theorem dJ5_setLength_d00df_71 : decode cJ5_setLength_d00df 71 = .ok (.aload_n 0, 1) := by decide +kernel
theorem dJ5_setLength_d00df_72 : decode cJ5_setLength_d00df 72 = .ok (.iconst 1, 1) := by decide +kernel
theorem dJ5_setLength_d00df_73 : decode cJ5_setLength_d00df 73 = .ok (.putfield 73, 3) := by decide +kernel
theorem dJ5_setLength_d00df_76 : decode cJ5_setLength_d00df 76 = .ok (.aload_n 0, 1) := by decide +kernel
theorem dJ5_setLength_d00df_77 : decode cJ5_setLength_d00df 77 = .ok (.iload_n 1, 1) := by decide +kernel
theorem dJ5_setLength_d00df_78 : decode cJ5_setLength_d00df 78 = .ok (.putfield 79, 3) := by decide +kernel
theorem dJ5_setLength_d00df_81 : decode cJ5_setLength_d00df 81 = .ok (.return_, 1) := by decide +kernel
def wp_J5_setLength_d00df (P : HS → Prop) (x0 : Nat) (p0 : Int32) (S : HS) (mc ms : Nat) : Prop := (0 ≤ p0 → (∃ cc2 cc3 : Nat, (cc2 ≤ mc ∧ cc3 ≤ ms) ∧ (∃ (m5 : List Int32) (m6 : Nat), ((SbO S x0 m5 ∧ p0 = nI m6 ∧ m6 ≤ 200 ∧ m6 ≤ 2 * sbC S x0 + 2 ∧ sbB S x0 m6 cc2 cc3) ∧ (∀ (S8 : HS), ext S S8 → (SbO S8 x0 m5 ∧ frM S S8 (fun b => b = x0) ∧ sbC S8 x0 = gM (sbC S x0) m6 ∧ (∃ r, hR S8 240 x0 = some r ∧ (hK S r = 0 ∨ hR S 240 x0 = some r))) → ((p0 ≤ (hI S8 243 x0) → (((hI S8 243 x0) ≤ p0 → (∀ S18 : HS, S18 = putI S8 243 x0 p0 → (P S18))) ∧ (¬ (hI S8 243 x0) ≤ p0 → (∀ S24 : HS, S24 = putI S8 242 x0 1 → (∀ S30 : HS, S30 = putI S24 243 x0 p0 → (P S30)))))) ∧ (¬ p0 ≤ (hI S8 243 x0) → (False)))))))) ∧ (¬ 0 ≤ p0 → (False))
set_option maxRecDepth 100000 in
set_option maxHeartbeats 4000000 in
theorem t_J5_setLength_d00df {p : Program} {l : Launch} {e : Env} {s : State} {m : MethodId} {args : Array Value} {below : List Frame} {meth : Method} {c : Code} {D : va_G} {A : Nat → Prop} {T : Nat → ClassId} (C : GC p s m args meth c cJ5_setLength_d00df "java/lang/AbstractStringBuilder" (ws_J5_setLength_d00df) 2 D A (zty T)) (E : GE T A s) (hr : meth.sig.returnType = none) (P : HS → Prop) : ∀ (x0 : Nat) (p0 : Int32) (S0 S : HS) (mc ms : Nat) (L : List Nat), S0 = S → wt S → hL S L → (hK S x0 = 12) → wp_J5_setLength_d00df P x0 p0 S mc ms → GW p l e { rm_J5_setLength_d00df with cells := mc, slots := ms } s m args below meth c D A 2 mc ms (MQ below (va_Qv (fun (u : HS × List Nat) => P u.1 ∧ CO S0 u) (CE D T A) A) args s mc ms A) (CW T S L) mc ms 0 [(0, .ref x0), (1, .int p0)] [] := by
  have hW : ∀ {w : Cond}, w ∈ W0 → w.before args s = true := fun h => C.2.2.2.2.1 _ (List.mem_cons_of_mem _ h)
  intro x0 p0 S0 S mc ms L hS0 hw hL hx0 h
  have he : ext S0 S := by rw [hS0]; exact ext_rf
  unfold wp_J5_setLength_d00df at h
  refine g_iload_n C dJ5_setLength_d00df_0 rfl 1 rfl ?_
  refine g_if_ge (tgt := 13) C dJ5_setLength_d00df_1 (by decide) (fun z1 => ?_) (fun z1 => ?_)
  · replace h := h.1 z1
    refine g_aload_n C dJ5_setLength_d00df_13 rfl 0 rfl ?_
    refine g_iload_n C dJ5_setLength_d00df_14 rfl 1 rfl ?_
    obtain ⟨cc2, cc3, g4, h⟩ := h
    obtain ⟨m5, m6, h⟩ := h
    obtain ⟨g7, h⟩ := h
    refine gc_callvU (host := "") C E hw hL hx0 (by decide) (by decide) rfl [.int p0] rfl (k_J5_ensureCapacityInternal_d00df l D T x0 p0 S m5 m6 cc2 cc3 hx0 g7) (w0_U 1 C.2.2.2.2.1 kw_1537 kw_2356 kw_1539 (w0_sub (List.mem_cons_of_mem _ List.mem_cons_self)) kw_3 kw_1540 rfl rfl (by decide +kernel) ⟨Nat.le_of_ble_eq_true rfl, Nat.le_of_ble_eq_true rfl⟩) rfl (Nat.le_of_ble_eq_true rfl) (Nat.le_refl _) (Nat.le_refl _) g4.1 g4.2 dJ5_setLength_d00df_15 (fun S8 L9 e10 w11 w12 hp => ?_)
    replace h := h S8 e10 hp
    have g13 := ext_K e10 hx0 (by decide)
    have w14 := ext_tr he e10
    refine g_aload_n C dJ5_setLength_d00df_18 rfl 0 rfl ?_
    refine gt_getI C iwx_J4 w12 g13 (by decide) (by decide) rfl 3 (by decide) (hW kw_115) (fun _ z => z) rfl rfl dJ5_setLength_d00df_19 ?_
    refine g_iload_n C dJ5_setLength_d00df_22 rfl 1 rfl ?_
    refine g_icmp_ge (tgt := 63) C dJ5_setLength_d00df_23 (by decide) (fun z15 => ?_) (fun z15 => ?_)
    · replace h := h.1 z15
      refine g_aload_n C dJ5_setLength_d00df_63 rfl 0 rfl ?_
      refine gt_getI C iwx_J4 w12 g13 (by decide) (by decide) rfl 3 (by decide) (hW kw_115) (fun _ z => z) rfl rfl dJ5_setLength_d00df_64 ?_
      refine g_iload_n C dJ5_setLength_d00df_67 rfl 1 rfl ?_
      refine g_icmp_le (tgt := 76) C dJ5_setLength_d00df_68 (by decide) (fun z16 => ?_) (fun z16 => ?_)
      · replace h := h.1 z16
        refine g_aload_n C dJ5_setLength_d00df_76 rfl 0 rfl ?_
        refine g_iload_n C dJ5_setLength_d00df_77 rfl 1 rfl ?_
        refine gt_putI C iwx_J4 w12 g13 (by decide) (by decide) rfl 3 (by decide) (hW kw_115) (fun _ z => z) tyJ4 tyJ4_ok nmJ4 rfl rfl rfl rfl rfl dJ5_setLength_d00df_78 ?_
        have w17 := wt_putI w11 243 p0 (k_ne g13 (by decide))
        refine gc_nS (fun S18 eS18 => ?_)
        replace h := h S18 eS18
        have w19 : wt S18 := by rw [eS18]; exact w17
        have w20 : isL S18 L9 := by rw [eS18]; exact w12
        have w21 : ext S0 S18 := by rw [eS18]; exact w14
        have g22 : hK S18 x0 = 12 := by rw [eS18]; exact g13
        exact gc_vret C w19 w20 w21 hr dJ5_setLength_d00df_81 h
      · replace h := h.2 z16
        refine g_aload_n C dJ5_setLength_d00df_71 rfl 0 rfl ?_
        refine g_iconst (v := 1) C dJ5_setLength_d00df_72 (by decide) ?_
        refine gt_putI C iwx_J4 w12 g13 (by decide) (by decide) rfl 2 (by decide) (hW kw_113) (fun _ z => z) tyJ4 tyJ4_ok nmJ4 rfl rfl rfl (vz_n vz1) (vz_f vz1) dJ5_setLength_d00df_73 ?_
        have w23 := wt_putI w11 242 1 (k_ne g13 (by decide))
        refine gc_nS (fun S24 eS24 => ?_)
        replace h := h S24 eS24
        have w25 : wt S24 := by rw [eS24]; exact w23
        have w26 : isL S24 L9 := by rw [eS24]; exact w12
        have w27 : ext S0 S24 := by rw [eS24]; exact w14
        have g28 : hK S24 x0 = 12 := by rw [eS24]; exact g13
        refine g_aload_n C dJ5_setLength_d00df_76 rfl 0 rfl ?_
        refine g_iload_n C dJ5_setLength_d00df_77 rfl 1 rfl ?_
        refine gt_putI C iwx_J4 w26 g28 (by decide) (by decide) rfl 3 (by decide) (hW kw_115) (fun _ z => z) tyJ4 tyJ4_ok nmJ4 rfl rfl rfl rfl rfl dJ5_setLength_d00df_78 ?_
        have w29 := wt_putI w25 243 p0 (k_ne g28 (by decide))
        refine gc_nS (fun S30 eS30 => ?_)
        replace h := h S30 eS30
        have w31 : wt S30 := by rw [eS30]; exact w29
        have w32 : isL S30 L9 := by rw [eS30]; exact w26
        have w33 : ext S0 S30 := by rw [eS30]; exact w27
        have g34 : hK S30 x0 = 12 := by rw [eS30]; exact g28
        exact gc_vret C w31 w32 w33 hr dJ5_setLength_d00df_81 h
    · replace h := h.2 z15
      exact False.elim h
  · replace h := h.2 z1
    exact False.elim h
theorem c_J5_setLength_d00df (l : Launch) (D : va_G) (T : Nat → ClassId) (x0 : Nat) (p0 : Int32) (S : HS) (mc ms : Nat) (hx0 : hK S x0 = 12) (P : HS → Prop) (h : wp_J5_setLength_d00df P x0 p0 S mc ms) : CMv l yJ5_setLength_d00df (ws_J5_setLength_d00df) rm_J5_setLength_d00df D T [.ref x0, .int p0] S mc ms P := gc_metv (by decide) rfl rfl (Nat.le_of_ble_eq_true rfl) (fun p e s m args below meth c A L C E hnm hr hw hL => t_J5_setLength_d00df C E   hr P x0 p0 S S mc ms L rfl hw hL hx0 h)
theorem k_J5_setLength_d00df (l : Launch) (D : va_G) (T : Nat → ClassId) (x0 : Nat) (p0 : Int32) (S : HS) (e0 : List Int32) (mc ms : Nat) (hx0 : hK S x0 = 12) (h : SbO S x0 e0 ∧ p0 = (0 : Int32)) : CMv l yJ5_setLength_d00df (ws_J5_setLength_d00df) rm_J5_setLength_d00df D T [.ref x0, .int p0] S mc ms (fun S1 => (sbT S S1 x0 e0 [])) := c_J5_setLength_d00df l D T x0 p0 S mc ms hx0 _ <|
  (by
    obtain ⟨h0, e⟩ := h
    subst e
    obtain ⟨r, r1, r2, r3, ⟨r4, r5, r6⟩, r7, r8⟩ := h0.C
    have l2 := h0.2.2.2.1
    have g0 : gM (sbC S x0) 0 = sbC S x0 := gM_0 (Nat.zero_le _)
    unfold wp_J5_setLength_d00df
    refine ⟨fun _ => ⟨mc, ms, ⟨Nat.le_refl _, Nat.le_refl _⟩, e0, 0, ⟨h0, rfl, by omega, by omega, ?_⟩, fun S8 he8 h8 => ?_⟩, fun z => absurd (by decide) z⟩
    · unfold sbB
      rw [g0]
      omega
    obtain ⟨O8, f8, c8, u, q1, q2⟩ := h8
    have i43 := O8.2.2.1
    have fin : ∀ S9, (S9 = putI S8 243 x0 0 ∨ S9 = putI (putI S8 242 x0 1) 243 x0 0) → sbT S S9 x0 e0 [] := fun S9 e9 => by
      obtain ⟨u', u1, u2, u3, u4, u7, u8⟩ := O8.C
      have eu : u' = u := Option.some.inj (u1.symm.trans q1)
      subst eu
      have hr9 : hR S9 240 x0 = some u' := by rcases e9 with e9 | e9 <;> rw [e9]; exact u1; exact u1
      have hn9 : hN S9 u' = sbC S8 x0 := by rcases e9 with e9 | e9 <;> rw [e9]; exact u3; exact u3
      have hk9 : hK S9 = hK S8 := by rcases e9 with e9 | e9 <;> rw [e9] <;> rfl
      have ha9 : hA S9 = hA S8 := by rcases e9 with e9 | e9 <;> rw [e9] <;> rfl
      have hf9 : frM S8 S9 (fun b => b = x0) := by
        rcases e9 with e9 | e9 <;> rw [e9]
        · exact frM.pI (M := fun b => b = x0) frM.rf rfl _ _
        · exact (frM.pI (M := fun b => b = x0) frM.rf rfl _ _).pI (M := fun b => b = x0) rfl _ _
      refine ⟨⟨by rw [hk9]; exact O8.1, ?_, ?_, Nat.zero_le _, u', hr9, by rw [hk9]; exact u2, by rw [hn9]; exact ⟨Nat.zero_le _, u4.2⟩, fun j => by rw [ha9]; exact u7 j, fun j y hy => by simp at hy⟩, (f8.tr hf9).sub (fun b hb => Or.inl hb), ?_, u', hr9, q2⟩
      · rcases e9 with e9 | e9 <;> rw [e9, px_II, if_neg (by omega)]
        · exact O8.2.1
        · rw [px_II, if_neg (by omega)]; exact O8.2.1
      · rcases e9 with e9 | e9 <;> rw [e9, px_II, if_pos ⟨rfl, rfl⟩] <;> rfl
      · have : sbC S9 x0 = sbC S8 x0 := by unfold sbC; rw [hr9]; exact hn9
        rw [this]; exact c8
    refine ⟨fun _ => ⟨fun _ S18 e18 => fin S18 (Or.inl e18), fun _ S24 e24 S30 e30 => fin S30 (Or.inr (by rw [e30, e24]))⟩, fun z => ?_⟩
    rw [i43] at z
    exact z (nI_pos' (by omega)))
abbrev ws_J4_setLength_d00df : List Cond := Cond.code yJ4_setLength_d00df cJ4_setLength_d00df 2 none :: W0
abbrev rm_J4_setLength_d00df : Room := ({ frames := 11, cells := 0, slots := 0, locals := 500 } : Room)
theorem dJ4_setLength_d00df_0 : decode cJ4_setLength_d00df 0 = .ok (.aload_n 0, 1) := by decide +kernel
theorem dJ4_setLength_d00df_1 : decode cJ4_setLength_d00df 1 = .ok (.iload_n 1, 1) := by decide +kernel
theorem dJ4_setLength_d00df_2 : decode cJ4_setLength_d00df 2 = .ok (.invokespecial 333, 3) := by decide +kernel
theorem dJ4_setLength_d00df_5 : decode cJ4_setLength_d00df 5 = .ok (.return_, 1) := by decide +kernel
def wp_J4_setLength_d00df (P : HS → Prop) (x0 : Nat) (p0 : Int32) (S : HS) (mc ms : Nat) : Prop := ∃ cc1 cc2 : Nat, (cc1 ≤ mc ∧ cc2 ≤ ms) ∧ (∃ (m4 : List Int32), ((SbO S x0 m4 ∧ p0 = (0 : Int32)) ∧ (∀ (S6 : HS), ext S S6 → (sbT S S6 x0 m4 []) → (P S6))))
set_option maxRecDepth 100000 in
set_option maxHeartbeats 4000000 in
theorem t_J4_setLength_d00df {p : Program} {l : Launch} {e : Env} {s : State} {m : MethodId} {args : Array Value} {below : List Frame} {meth : Method} {c : Code} {D : va_G} {A : Nat → Prop} {T : Nat → ClassId} (C : GC p s m args meth c cJ4_setLength_d00df "java/lang/StringBuilder" (ws_J4_setLength_d00df) 2 D A (zty T)) (E : GE T A s) (hr : meth.sig.returnType = none) (P : HS → Prop) : ∀ (x0 : Nat) (p0 : Int32) (S0 S : HS) (mc ms : Nat) (L : List Nat), S0 = S → wt S → hL S L → (hK S x0 = 12) → wp_J4_setLength_d00df P x0 p0 S mc ms → GW p l e { rm_J4_setLength_d00df with cells := mc, slots := ms } s m args below meth c D A 2 mc ms (MQ below (va_Qv (fun (u : HS × List Nat) => P u.1 ∧ CO S0 u) (CE D T A) A) args s mc ms A) (CW T S L) mc ms 0 [(0, .ref x0), (1, .int p0)] [] := by
  have hW : ∀ {w : Cond}, w ∈ W0 → w.before args s = true := fun h => C.2.2.2.2.1 _ (List.mem_cons_of_mem _ h)
  intro x0 p0 S0 S mc ms L hS0 hw hL hx0 h
  have he : ext S0 S := by rw [hS0]; exact ext_rf
  unfold wp_J4_setLength_d00df at h
  refine g_aload_n C dJ4_setLength_d00df_0 rfl 0 rfl ?_
  refine g_iload_n C dJ4_setLength_d00df_1 rfl 1 rfl ?_
  obtain ⟨cc1, cc2, g3, h⟩ := h
  obtain ⟨m4, h⟩ := h
  obtain ⟨g5, h⟩ := h
  refine gc_callvSU (host := "") C E hw hL hx0 (by decide) (by decide) rfl [.int p0] rfl (k_J5_setLength_d00df l D T x0 p0 S m4 cc1 cc2 hx0 g5) (w0_SU 1 C.2.2.2.2.1 kw_1515 kw_2353 kw_1516 kw_124 kw_3 kw_1517 rfl rfl (by decide +kernel) ⟨Nat.le_of_ble_eq_true rfl, Nat.le_of_ble_eq_true rfl⟩) rfl (Nat.le_of_ble_eq_true rfl) (Nat.le_refl _) (Nat.le_refl _) g3.1 g3.2 dJ4_setLength_d00df_2 (fun S6 L7 e8 w9 w10 hp => ?_)
  replace h := h S6 e8 hp
  have g11 := ext_K e8 hx0 (by decide)
  have w12 := ext_tr he e8
  exact gc_vret C w9 w10 w12 hr dJ4_setLength_d00df_5 h
theorem c_J4_setLength_d00df (l : Launch) (D : va_G) (T : Nat → ClassId) (x0 : Nat) (p0 : Int32) (S : HS) (mc ms : Nat) (hx0 : hK S x0 = 12) (P : HS → Prop) (h : wp_J4_setLength_d00df P x0 p0 S mc ms) : CMv l yJ4_setLength_d00df (ws_J4_setLength_d00df) rm_J4_setLength_d00df D T [.ref x0, .int p0] S mc ms P := gc_metv (by decide) rfl rfl (Nat.le_of_ble_eq_true rfl) (fun p e s m args below meth c A L C E hnm hr hw hL => t_J4_setLength_d00df C E   hr P x0 p0 S S mc ms L rfl hw hL hx0 h)
theorem k_J4_setLength_d00df (l : Launch) (D : va_G) (T : Nat → ClassId) (x0 : Nat) (p0 : Int32) (S : HS) (e0 : List Int32) (mc ms : Nat) (hx0 : hK S x0 = 12) (h : SbO S x0 e0 ∧ p0 = (0 : Int32)) : CMv l yJ4_setLength_d00df (ws_J4_setLength_d00df) rm_J4_setLength_d00df D T [.ref x0, .int p0] S mc ms (fun S1 => (sbT S S1 x0 e0 [])) := c_J4_setLength_d00df l D T x0 p0 S mc ms hx0 _ <|
  (by
    unfold wp_J4_setLength_d00df
    exact ⟨mc, ms, ⟨Nat.le_refl _, Nat.le_refl _⟩, e0, h, fun S6 _ h6 => h6⟩)
abbrev ws_J5_init_d00df : List Cond := Cond.code yJ5_init_d00df cJ5_init_d00df 2 none :: W0
abbrev rm_J5_init_d00df : Room := ({ frames := 3, cells := 0, slots := 0, locals := 100 } : Room)
theorem dJ5_init_d00df_0 : decode cJ5_init_d00df 0 = .ok (.aload_n 0, 1) := by decide +kernel
theorem dJ5_init_d00df_1 : decode cJ5_init_d00df 1 = .ok (.invokespecial 3, 3) := by decide +kernel
theorem dJ5_init_d00df_4 : decode cJ5_init_d00df 4 = .ok (.getstatic 18, 3) := by decide +kernel
theorem dJ5_init_d00df_7 : decode cJ5_init_d00df 7 = .ok (.ifCond .eq 18, 3) := by decide +kernel
theorem dJ5_init_d00df_10 : decode cJ5_init_d00df 10 = .ok (.aload_n 0, 1) := by decide +kernel
theorem dJ5_init_d00df_11 : decode cJ5_init_d00df 11 = .ok (.iload_n 1, 1) := by decide +kernel
theorem dJ5_init_d00df_12 : decode cJ5_init_d00df 12 = .ok (.newarray .byte, 2) := by decide +kernel
theorem dJ5_init_d00df_14 : decode cJ5_init_d00df 14 = .ok (.putfield 15, 3) := by decide +kernel
theorem dJ5_init_d00df_17 : decode cJ5_init_d00df 17 = .ok (.aload_n 0, 1) := by decide +kernel
theorem dJ5_init_d00df_18 : decode cJ5_init_d00df 18 = .ok (.iconst 0, 1) := by decide +kernel
theorem dJ5_init_d00df_19 : decode cJ5_init_d00df 19 = .ok (.putfield 22, 3) := by decide +kernel
theorem dJ5_init_d00df_22 : decode cJ5_init_d00df 22 = .ok (.goto 16, 3) := by decide +kernel
theorem dJ5_init_d00df_25 : decode cJ5_init_d00df 25 = .ok (.aload_n 0, 1) := by decide +kernel
theorem dJ5_init_d00df_26 : decode cJ5_init_d00df 26 = .ok (.iload_n 1, 1) := by decide +kernel
theorem dJ5_init_d00df_27 : decode cJ5_init_d00df 27 = .ok (.invokestatic 26, 3) := by decide +kernel
theorem dJ5_init_d00df_30 : decode cJ5_init_d00df 30 = .ok (.putfield 15, 3) := by decide +kernel
theorem dJ5_init_d00df_33 : decode cJ5_init_d00df 33 = .ok (.aload_n 0, 1) := by decide +kernel
theorem dJ5_init_d00df_34 : decode cJ5_init_d00df 34 = .ok (.iconst 1, 1) := by decide +kernel
theorem dJ5_init_d00df_35 : decode cJ5_init_d00df 35 = .ok (.putfield 22, 3) := by decide +kernel
theorem dJ5_init_d00df_38 : decode cJ5_init_d00df 38 = .ok (.return_, 1) := by decide +kernel
def wp_J5_init_d00df (P : HS → Prop) (x0 : Nat) (p0 : Int32) (S : HS) (mc ms : Nat) : Prop := ((¬ p0 < (0 : Int32) ∧ (Int32.toNatClampNeg p0) ≤ 100000000) ∧ 1 ≤ mc ∧ (Int32.toNatClampNeg p0) ≤ ms) ∧ (∀ q1 : Nat, hK S q1 = 0 → zr S q1 → (∀ S8 : HS, S8 = newA S q1 20 (Int32.toNatClampNeg p0) → (∀ S15 : HS, S15 = putR S8 240 x0 (some q1) → (∀ S21 : HS, S21 = putI S15 241 x0 0 → (P S21)))))
set_option maxRecDepth 100000 in
set_option maxHeartbeats 4000000 in
theorem t_J5_init_d00df {p : Program} {l : Launch} {e : Env} {s : State} {m : MethodId} {args : Array Value} {below : List Frame} {meth : Method} {c : Code} {D : va_G} {A : Nat → Prop} {T : Nat → ClassId} (C : GC p s m args meth c cJ5_init_d00df "java/lang/AbstractStringBuilder" (ws_J5_init_d00df) 2 D A (zty T)) (E : GE T A s) (hr : meth.sig.returnType = none) (hin : meth.name = "<init>") (P : HS → Prop) : ∀ (x0 : Nat) (p0 : Int32) (S0 S : HS) (mc ms : Nat) (L : List Nat), S0 = S → wt S → hL S L → (hK S x0 = 12) → wp_J5_init_d00df P x0 p0 S mc ms → GW p l e { rm_J5_init_d00df with cells := mc, slots := ms } s m args below meth c D A 2 mc ms (MQ below (va_Qv (fun (u : HS × List Nat) => P u.1 ∧ CO S0 u) (CE D T A) A) args s mc ms A) (CW T S L) mc ms 0 [(0, .ref x0), (1, .int p0)] [] := by
  have hW : ∀ {w : Cond}, w ∈ W0 → w.before args s = true := fun h => C.2.2.2.2.1 _ (List.mem_cons_of_mem _ h)
  intro x0 p0 S0 S mc ms L hS0 hw hL hx0 h
  have he : ext S0 S := by rw [hS0]; exact ext_rf
  unfold wp_J5_init_d00df at h
  refine g_aload_n C dJ5_init_d00df_0 rfl 0 rfl ?_
  refine g_objInit C (hW kw_101) (hW kw_46) (hW kw_47) dJ5_init_d00df_1 (Nat.le_of_ble_eq_true rfl) (Nat.le_of_ble_eq_true rfl) ?_
  refine gt_gets C E.2.2.2.2.2.2.2.2.2.2.1 (hW kw_102) (fun _ z => z) dJ5_init_d00df_4 ?_
  refine g_if_eq (tgt := 25) C dJ5_init_d00df_7 (by decide) (fun z => absurd z (by decide)) (fun _ => ?_)
  refine g_aload_n C dJ5_init_d00df_10 rfl 0 rfl ?_
  refine g_iload_n C dJ5_init_d00df_11 rfl 1 rfl ?_
  obtain ⟨g2, h⟩ := h
  refine gc_newb C E hw hL (Nat.le_refl _) (Nat.le_refl _) (hW kw_126) g2.1.1 g2.1.2 g2.2.1 g2.2.2 dJ5_init_d00df_12 (fun q1 h0q1 zq1 => ?_)
  replace h := h q1 h0q1 zq1
  have g3 := newA_old 20 (Int32.toNatClampNeg p0) hx0 (by decide) h0q1
  have w4 := wt_newA hw 20 (Int32.toNatClampNeg p0) h0q1 (by decide)
  have w5 := hL_new (S' := newA S q1 20 (Int32.toNatClampNeg p0)) hL (show 20 ≠ 0 by decide) rfl
  have w6 := ext_newA he h0q1 20 (Int32.toNatClampNeg p0)
  have g7 := newA_self S q1 20 (Int32.toNatClampNeg p0)
  refine gc_nS (fun S8 eS8 => ?_)
  replace h := h S8 eS8
  have w9 : wt S8 := by rw [eS8]; exact w4
  have w10 : isL S8 (L ++ [q1]) := by rw [eS8]; exact w5
  have w11 : ext S0 S8 := by rw [eS8]; exact w6
  have g12 : hK S8 q1 = 20 := by rw [eS8]; exact g7
  have g13 : hK S8 x0 = 12 := by rw [eS8]; exact g3
  refine gt_putR C iwx_J4 w10 g13 (by decide) (by decide) rfl 0 (by decide) (hW kw_111) (fun _ z => z) tyJ4 tyJ4_ok nmJ4 rfl rfl rfl (some q1) rfl rfl dJ5_init_d00df_14 ?_
  have w14 := wt_putR w9 240 (some q1) (k_ne g13 (by decide)) (fun b hb => by cases hb; exact g12) (by decide)
  refine gc_nS (fun S15 eS15 => ?_)
  replace h := h S15 eS15
  have w16 : wt S15 := by rw [eS15]; exact w14
  have w17 : isL S15 (L ++ [q1]) := by rw [eS15]; exact w10
  have w18 : ext S0 S15 := by rw [eS15]; exact w11
  have g19 : hK S15 x0 = 12 := by rw [eS15]; exact g13
  refine g_aload_n C dJ5_init_d00df_17 rfl 0 rfl ?_
  refine g_iconst (v := 0) C dJ5_init_d00df_18 (by decide) ?_
  refine gt_putI C iwx_J4 w17 g19 (by decide) (by decide) rfl 1 (by decide) (hW kw_112) (fun _ z => z) tyJ4 tyJ4_ok nmJ4 rfl rfl rfl rfl rfl dJ5_init_d00df_19 ?_
  have w20 := wt_putI w16 241 0 (k_ne g19 (by decide))
  refine gc_nS (fun S21 eS21 => ?_)
  replace h := h S21 eS21
  have w22 : wt S21 := by rw [eS21]; exact w20
  have w23 : isL S21 (L ++ [q1]) := by rw [eS21]; exact w17
  have w24 : ext S0 S21 := by rw [eS21]; exact w18
  have g25 : hK S21 x0 = 12 := by rw [eS21]; exact g19
  refine g_goto (tgt := 38) C dJ5_init_d00df_22 (by decide) ?_
  exact gc_vret C w22 w23 w24 hr dJ5_init_d00df_38 h
theorem c_J5_init_d00df (l : Launch) (D : va_G) (T : Nat → ClassId) (x0 : Nat) (p0 : Int32) (S : HS) (mc ms : Nat) (hx0 : hK S x0 = 12) (P : HS → Prop) (h : wp_J5_init_d00df P x0 p0 S mc ms) : CMv l yJ5_init_d00df (ws_J5_init_d00df) rm_J5_init_d00df D T [.ref x0, .int p0] S mc ms P := gc_metv (by decide) rfl rfl (Nat.le_of_ble_eq_true rfl) (fun p e s m args below meth c A L C E hnm hr hw hL => t_J5_init_d00df C E   hr hnm P x0 p0 S S mc ms L rfl hw hL hx0 h)
theorem k_J5_init_d00df (l : Launch) (D : va_G) (T : Nat → ClassId) (x0 : Nat) (p0 : Int32) (S : HS) (mc ms : Nat) (hx0 : hK S x0 = 12) (h : (∀ i, hI S i x0 = 0) ∧ p0 = (16 : Int32) ∧ 1 ≤ mc ∧ 16 ≤ ms) : CMv l yJ5_init_d00df (ws_J5_init_d00df) rm_J5_init_d00df D T [.ref x0, .int p0] S mc ms (fun S1 => (SbO S1 x0 [] ∧ sbC S1 x0 = 16 ∧ frM S S1 (fun b => b = x0) ∧ ∃ r, hR S1 240 x0 = some r ∧ hK S r = 0)) := c_J5_init_d00df l D T x0 p0 S mc ms hx0 _ <|
  (by
    obtain ⟨hz, e, hmc, hms⟩ := h
    subst e
    unfold wp_J5_init_d00df
    have i16 : Int32.toNatClampNeg 16 = 16 := by decide
    rw [i16]
    refine ⟨⟨⟨by decide, by decide⟩, hmc, hms⟩, fun q q0 qz S8 e8 S15 e15 S21 e21 => ?_⟩
    have xq : x0 ≠ q := fun z => by rw [z, q0] at hx0; exact absurd hx0 (by decide)
    have hr : hR S21 240 x0 = some q := by rw [e21, px_RI, e15, px_RR, if_pos ⟨rfl, rfl⟩]
    have hn : hN S21 q = 16 := by rw [e21, px_NI, e15, px_NR, e8, px_NW, if_pos rfl]
    refine ⟨⟨?_, ?_, ?_, Nat.zero_le _, q, hr, ?_, ?_, fun j => ?_, fun j y hy => by simp at hy⟩, ?_, ?_, q, hr, q0⟩
    · rw [e21, px_KI, e15, px_KR, e8, px_KW, if_neg xq]; exact hx0
    · rw [e21, px_II, if_pos ⟨rfl, rfl⟩]
    · rw [e21, px_II, if_neg (by omega), e15, px_IR, e8, px_IW, hz]; rfl
    · rw [e21, px_KI, e15, px_KR, e8, px_KW, if_pos rfl]
    · rw [hn]; exact ⟨Nat.zero_le _, by omega, by omega⟩
    · rw [e21, px_AI, e15, px_AR, e8, px_AW, qz.2.2.1 j]
      exact ⟨0, by decide, rfl⟩
    · unfold sbC; rw [hr]; exact hn
    · rw [e21, e15, e8]
      exact ((frM.rf.nW ext_rf q0 20 16).pR (M := fun b => b = x0) rfl _ _).pI (M := fun b => b = x0) rfl _ _)
abbrev ws_J4_init_da8c8 : List Cond := Cond.code yJ4_init_da8c8 cJ4_init_da8c8 1 none :: W0
abbrev rm_J4_init_da8c8 : Room := ({ frames := 5, cells := 0, slots := 0, locals := 200 } : Room)
theorem dJ4_init_da8c8_0 : decode cJ4_init_da8c8 0 = .ok (.aload_n 0, 1) := by decide +kernel
theorem dJ4_init_da8c8_1 : decode cJ4_init_da8c8 1 = .ok (.bipush 16, 2) := by decide +kernel
theorem dJ4_init_da8c8_3 : decode cJ4_init_da8c8 3 = .ok (.invokespecial 1, 3) := by decide +kernel
theorem dJ4_init_da8c8_6 : decode cJ4_init_da8c8 6 = .ok (.return_, 1) := by decide +kernel
def wp_J4_init_da8c8 (P : HS → Prop) (x0 : Nat) (S : HS) (mc ms : Nat) : Prop := ∃ cc1 cc2 : Nat, (cc1 ≤ mc ∧ cc2 ≤ ms) ∧ (((∀ i, hI S i x0 = 0) ∧ 16 = (16 : Int32) ∧ 1 ≤ cc1 ∧ 16 ≤ cc2) ∧ (∀ (S5 : HS), ext S S5 → (SbO S5 x0 [] ∧ sbC S5 x0 = 16 ∧ frM S S5 (fun b => b = x0) ∧ ∃ r, hR S5 240 x0 = some r ∧ hK S r = 0) → (P S5)))
set_option maxRecDepth 100000 in
set_option maxHeartbeats 4000000 in
theorem t_J4_init_da8c8 {p : Program} {l : Launch} {e : Env} {s : State} {m : MethodId} {args : Array Value} {below : List Frame} {meth : Method} {c : Code} {D : va_G} {A : Nat → Prop} {T : Nat → ClassId} (C : GC p s m args meth c cJ4_init_da8c8 "java/lang/StringBuilder" (ws_J4_init_da8c8) 1 D A (zty T)) (E : GE T A s) (hr : meth.sig.returnType = none) (hin : meth.name = "<init>") (P : HS → Prop) : ∀ (x0 : Nat) (S0 S : HS) (mc ms : Nat) (L : List Nat), S0 = S → wt S → hL S L → (hK S x0 = 12) → wp_J4_init_da8c8 P x0 S mc ms → GW p l e { rm_J4_init_da8c8 with cells := mc, slots := ms } s m args below meth c D A 1 mc ms (MQ below (va_Qv (fun (u : HS × List Nat) => P u.1 ∧ CO S0 u) (CE D T A) A) args s mc ms A) (CW T S L) mc ms 0 [(0, .ref x0)] [] := by
  have hW : ∀ {w : Cond}, w ∈ W0 → w.before args s = true := fun h => C.2.2.2.2.1 _ (List.mem_cons_of_mem _ h)
  intro x0 S0 S mc ms L hS0 hw hL hx0 h
  have he : ext S0 S := by rw [hS0]; exact ext_rf
  unfold wp_J4_init_da8c8 at h
  refine g_aload_n C dJ4_init_da8c8_0 rfl 0 rfl ?_
  refine g_bipush (v := 16) C dJ4_init_da8c8_1 (by decide) ?_
  obtain ⟨cc1, cc2, g3, h⟩ := h
  obtain ⟨g4, h⟩ := h
  refine gc_callvI (host := "") (ret := none) C E hw hL [.int 16] rfl (k_J5_init_d00df l D T x0 16 S cc1 cc2 hx0 g4) (w0_I 1 C.2.2.2.2.1 kw_98 kw_99 kw_3 kw_100 rfl rfl rfl (by decide +kernel) ⟨Nat.le_of_ble_eq_true rfl, Nat.le_of_ble_eq_true rfl⟩) rfl (Nat.le_of_ble_eq_true rfl) (Nat.le_refl _) (Nat.le_refl _) g3.1 g3.2 dJ4_init_da8c8_3 (fun S5 L6 e7 w8 w9 hp => ?_)
  replace h := h S5 e7 hp
  have g10 := ext_K e7 hx0 (by decide)
  have w11 := ext_tr he e7
  exact gc_vret C w8 w9 w11 hr dJ4_init_da8c8_6 h
theorem c_J4_init_da8c8 (l : Launch) (D : va_G) (T : Nat → ClassId) (x0 : Nat) (S : HS) (mc ms : Nat) (hx0 : hK S x0 = 12) (P : HS → Prop) (h : wp_J4_init_da8c8 P x0 S mc ms) : CMv l yJ4_init_da8c8 (ws_J4_init_da8c8) rm_J4_init_da8c8 D T [.ref x0] S mc ms P := gc_metv (by decide) rfl rfl (Nat.le_of_ble_eq_true rfl) (fun p e s m args below meth c A L C E hnm hr hw hL => t_J4_init_da8c8 C E   hr hnm P x0 S S mc ms L rfl hw hL hx0 h)
theorem k_J4_init_da8c8 (l : Launch) (D : va_G) (T : Nat → ClassId) (x0 : Nat) (S : HS) (mc ms : Nat) (hx0 : hK S x0 = 12) (h : (∀ i, hI S i x0 = 0) ∧ 1 ≤ mc ∧ 16 ≤ ms) : CMv l yJ4_init_da8c8 (ws_J4_init_da8c8) rm_J4_init_da8c8 D T [.ref x0] S mc ms (fun S1 => (SbO S1 x0 [] ∧ sbC S1 x0 = 16 ∧ frM S S1 (fun b => b = x0) ∧ ∃ r, hR S1 240 x0 = some r ∧ hK S r = 0)) := c_J4_init_da8c8 l D T x0 S mc ms hx0 _ <|
  (by
    unfold wp_J4_init_da8c8
    exact ⟨mc, ms, ⟨Nat.le_refl _, Nat.le_refl _⟩, ⟨h.1, rfl, h.2⟩, fun S5 _ h5 => h5⟩)

end S_CAL
