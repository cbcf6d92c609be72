section S_RUS
abbrev ws_X11_amend : List Cond := Cond.code yX11_amend cX11_amend 6 (some .int) :: W0
abbrev rm_X11_amend : Room := ({ frames := 7, cells := 0, slots := 0, locals := 158 } : Room)
def wb_X11_amend_31 (rec : Int32 → Int32 → (Nat → Int32) → (Nat → Nat → Int32) → Prop) (K49 : Int32 → (Nat → Int32) → (Nat → Nat → Int32) → Prop) (P : Int32 → RST → Prop) (x1 : Int32) (x2 : Int32) (r : Nat → Int32) (q : Nat → Nat → Int32) : Prop := (x2 = 0 → (K49 x1 r q)) ∧ (¬ x2 = 0 → ((psO r ∧ (pσ r).2 = false ∧ tsL r ∧ smX r) ∧ (∀ (r9 : Nat → Int32) (q10 : Nat → Nat → Int32), (smP r q r9 q10) → ((psO r9 ∧ ¬ 59 = (-1 : Int32)) ∧ (∀ (v12 : Int32) (r13 : Nat → Int32) (q14 : Nat → Nat → Int32), (v12 = b2i (tkB (q10 4) (iv (r9 8)) (pσ r9) 59) ∧ q14 = q10 ∧ kR r9 r13 [10] ∧ psO r13 ∧ pσ r13 = tkS (q10 4) (iv (r9 8)) (pσ r9) 59) → (rec x1 v12 r13 q14))))))
def wp_X11_amend_31 (K49 : Int32 → (Nat → Int32) → (Nat → Nat → Int32) → Prop) (P : Int32 → RST → Prop) : Nat → Int32 → Int32 → (Nat → Int32) → (Nat → Nat → Int32) → Prop
  | 0 => fun _ _ _ _ => False
  | n + 1 => fun x1 x2 r q => wb_X11_amend_31 (wp_X11_amend_31 K49 P n) K49 P x1 x2 r q
set_option maxRecDepth 100000 in
set_option maxHeartbeats 4000000 in
theorem t_X11_amend_31 {p : Program} {l : Launch} {e : Env} {s : State} {m : MethodId} {args : Array Value} {below : List Frame} {meth : Method} {c : Code} {D : va_G} {A : Nat → Prop} {T : Nat → ClassId} {m0 : Nat} {a : Nat → Nat} (C : GC p s m args meth c cX11_amend "FreightRaterModel" (ws_X11_amend) 6 D A (zty T)) (hr : meth.sig.returnType = (some .int)) (K49 : Int32 → (Nat → Int32) → (Nat → Nat → Int32) → Prop) (P : Int32 → RST → Prop) (hK49 : ∀ (x1 : Int32) (r : Nat → Int32) (q : Nat → Nat → Int32), K49 x1 r q → GW p l e rm_X11_amend s m args below meth c D A 6 0 0 (MQ below (va_Qi P (RE D T m0 a A) A) args s 0 0 A) (RW m0 a T r q) 0 0 49 [(0, .ref m0), (1, .int x1)] []) : ∀ (n : Nat) (x1 : Int32) (x2 : Int32) (r : Nat → Int32) (q : Nat → Nat → Int32), wp_X11_amend_31 K49 P n x1 x2 r q → GW p l e rm_X11_amend s m args below meth c D A 6 0 0 (MQ below (va_Qi P (RE D T m0 a A) A) args s 0 0 A) (RW m0 a T r q) 0 0 31 [(0, .ref m0), (1, .int x1), (2, .int x2)] [] := by
  have hw : ∀ {w : Cond}, w ∈ W0 → w.before args s = true := fun h => C.2.2.2.2.1 _ (List.mem_cons_of_mem _ h)
  intro n
  induction n with
  | zero => intro x1 x2 r q h; exact h.elim
  | succ n ih =>
    intro x1 x2 r q h
    replace h : wb_X11_amend_31 (wp_X11_amend_31 K49 P n) K49 P x1 x2 r q := h
    unfold wb_X11_amend_31 at h
    refine g_iload_n C dX11_amend_31 rfl 2 rfl ?_
    refine g_if_eq (tgt := 49) C dX11_amend_32 (by decide) (fun z7 => ?_) (fun z7 => ?_)
    · replace h := h.1 z7
      refine g_locals [0, 1] rfl ?_
      exact hK49 x1 r q h
    · replace h := h.2 z7
      refine g_aload_n C dX11_amend_35 rfl 0 rfl ?_
      obtain ⟨g11, h⟩ := h
      refine gr_callvV C [] rfl (k_X11_readStatement l D T m0 a  r q g11) (w0_V 0 C.2.2.2.2.1 kw_2034 kw_2036 ks_61 kw_9 kw_2037 rfl rfl (by decide +kernel) ⟨by decide, by decide⟩) rfl (Nat.le_of_ble_eq_true rfl) (Nat.zero_le _) (Nat.zero_le _) dX11_amend_36 (fun r9 q10 hp => ?_)
      replace h := h r9 q10 hp
      refine g_aload_n C dX11_amend_39 rfl 0 rfl ?_
      refine g_bipush (v := 59) C dX11_amend_40 (by decide) ?_
      obtain ⟨g15, h⟩ := h
      refine gr_calliV C [.int 59] rfl (k_X11_takes l D T m0 a 59 r9 q10 g15) (w0_V 1 C.2.2.2.2.1 kw_2054 kw_2056 ks_66 kw_9 kw_2057 rfl rfl (by decide +kernel) ⟨by decide, by decide⟩) rfl (Nat.le_of_ble_eq_true rfl) (Nat.zero_le _) (Nat.zero_le _) dX11_amend_42 (fun v12 r13 q14 hp => ?_)
      replace h := h v12 r13 q14 hp
      refine g_istore_n (lv' := [(2, .int v12), (0, .ref m0), (1, .int x1)]) C dX11_amend_45 rfl (by decide) rfl ?_
      refine g_goto (tgt := 31) C dX11_amend_46 (by decide) ?_
      refine g_locals [1, 2, 0] rfl ?_
      exact ih x1 v12 r13 q14 h
def wb_X11_amend_99 (rec : Int32 → Int32 → (Nat → Int32) → (Nat → Nat → Int32) → Prop) (K127 : Int32 → (Nat → Int32) → (Nat → Nat → Int32) → Prop) (P : Int32 → RST → Prop) (x1 : Int32) (x4 : Int32) (r : Nat → Int32) (q : Nat → Nat → Int32) : Prop := (3334 ≤ x4 → (K127 x1 r q)) ∧ (¬ 3334 ≤ x4 → (vp_in x4 3334 ∧ (vp_in x4 3334 ∧ (∀ q27 : Nat → Nat → Int32, q27 = va_up q 2 (upd (q 2) (Int32.toNatClampNeg x4) (q 0 (Int32.toNatClampNeg x4))) → (∀ v28 : Int32, v28 = x4 + 1 → (rec x1 v28 r q27))))))
def wp_X11_amend_99 (K127 : Int32 → (Nat → Int32) → (Nat → Nat → Int32) → Prop) (P : Int32 → RST → Prop) : Nat → Int32 → Int32 → (Nat → Int32) → (Nat → Nat → Int32) → Prop
  | 0 => fun _ _ _ _ => False
  | n + 1 => fun x1 x4 r q => wb_X11_amend_99 (wp_X11_amend_99 K127 P n) K127 P x1 x4 r q
set_option maxRecDepth 100000 in
set_option maxHeartbeats 4000000 in
theorem t_X11_amend_99 {p : Program} {l : Launch} {e : Env} {s : State} {m : MethodId} {args : Array Value} {below : List Frame} {meth : Method} {c : Code} {D : va_G} {A : Nat → Prop} {T : Nat → ClassId} {m0 : Nat} {a : Nat → Nat} (C : GC p s m args meth c cX11_amend "FreightRaterModel" (ws_X11_amend) 6 D A (zty T)) (hr : meth.sig.returnType = (some .int)) (K127 : Int32 → (Nat → Int32) → (Nat → Nat → Int32) → Prop) (P : Int32 → RST → Prop) (hK127 : ∀ (x1 : Int32) (r : Nat → Int32) (q : Nat → Nat → Int32), K127 x1 r q → GW p l e rm_X11_amend s m args below meth c D A 6 0 0 (MQ below (va_Qi P (RE D T m0 a A) A) args s 0 0 A) (RW m0 a T r q) 0 0 127 [(0, .ref m0), (1, .int x1)] []) : ∀ (n : Nat) (x1 : Int32) (x4 : Int32) (r : Nat → Int32) (q : Nat → Nat → Int32), wp_X11_amend_99 K127 P n x1 x4 r q → GW p l e rm_X11_amend s m args below meth c D A 6 0 0 (MQ below (va_Qi P (RE D T m0 a A) A) args s 0 0 A) (RW m0 a T r q) 0 0 99 [(0, .ref m0), (1, .int x1), (4, .int x4)] [] := by
  have hw : ∀ {w : Cond}, w ∈ W0 → w.before args s = true := fun h => C.2.2.2.2.1 _ (List.mem_cons_of_mem _ h)
  intro n
  induction n with
  | zero => intro x1 x4 r q h; exact h.elim
  | succ n ih =>
    intro x1 x4 r q h
    replace h : wb_X11_amend_99 (wp_X11_amend_99 K127 P n) K127 P x1 x4 r q := h
    unfold wb_X11_amend_99 at h
    refine g_iload C dX11_amend_99 2 rfl ?_
    refine g_sipush (v := 3334) C dX11_amend_101 (by decide) ?_
    refine g_icmp_ge (tgt := 127) C dX11_amend_104 (by decide) (fun z24 => ?_) (fun z24 => ?_)
    · replace h := h.1 z24
      refine g_locals [0, 1] rfl ?_
      exact hK127 x1 r q h
    · replace h := h.2 z24
      refine g_aload_n C dX11_amend_107 rfl 0 rfl ?_
      refine gr_get C iwx_X11 2 (hw kw_1811) (by decide) rfl rfl dX11_amend_108 ?_
      refine g_iload C dX11_amend_111 2 rfl ?_
      refine g_aload_n C dX11_amend_113 rfl 0 rfl ?_
      refine gr_get C iwx_X11 0 (hw kw_1809) (by decide) rfl rfl dX11_amend_114 ?_
      refine g_iload C dX11_amend_117 2 rfl ?_
      obtain ⟨g25, h⟩ := h
      refine gr_ald_0 C g25 dX11_amend_119 ?_
      obtain ⟨g26, h⟩ := h
      refine gr_ast_2 C g26 dX11_amend_120 ?_
      refine gr_nq (fun q27 eq27 => ?_)
      replace h := h q27 eq27
      obtain ⟨v28, ev28⟩ : ∃ y : Int32, y = x4 + 1 := ⟨_, rfl⟩
      replace h := h v28 ev28
      refine g_iinc (v := v28) (lv' := [(4, .int v28), (0, .ref m0), (1, .int x1)]) C dX11_amend_121 (j := 2) rfl (by rw [ev28]; rfl) (by decide) rfl ?_
      refine g_goto (tgt := 99) C dX11_amend_124 (by decide) ?_
      refine g_locals [1, 2, 0] rfl ?_
      exact ih x1 v28 r q27 h
def wb_X11_amend_130 (rec : Int32 → Int32 → (Nat → Int32) → (Nat → Nat → Int32) → Prop) (K152 : Int32 → (Nat → Int32) → (Nat → Nat → Int32) → Prop) (P : Int32 → RST → Prop) (x1 : Int32) (x4 : Int32) (r : Nat → Int32) (q : Nat → Nat → Int32) : Prop := ((r 13) ≤ x4 → ((CW8 r) ∧ (∀ (r34 : Nat → Int32) (q35 : Nat → Nat → Int32), (kR r r34 [5] ∧ kQ q q35 [3] ∧ psh (q 3) (q35 3) (q 2) (r 5) (r34 5)) → (P (r34 13) (r34, q35))))) ∧ (¬ (r 13) ≤ x4 → ((WF (q 0) ∧ vix x1 ∧ s8 (8 * x4) ∧ crO (q 5) (iv (8 * x4))) ∧ (∀ (v37 : Int32) (r38 : Nat → Int32) (q39 : Nat → Nat → Int32), (v37 = b2i (crB (q 0) (iv x1) (q 5 (iv (8 * x4))) (q 5 (iv (8 * x4) + 1)) (q 5 (iv (8 * x4) + 2)) (q 5 (iv (8 * x4) + 3))) ∧ r38 = r ∧ kQ q q39 [0] ∧ (crB (q 0) (iv x1) (q 5 (iv (8 * x4))) (q 5 (iv (8 * x4) + 1)) (q 5 (iv (8 * x4) + 2)) (q 5 (iv (8 * x4) + 3)) = true → q39 0 = crS (q 0) (iv x1) (q 5 (iv (8 * x4))) (q 5 (iv (8 * x4) + 1)) (q 5 (iv (8 * x4) + 2)) (q 5 (iv (8 * x4) + 3)) (q 5 (iv (8 * x4) + 5)) (q 5 (iv (8 * x4) + 6) - q 5 (iv (8 * x4) + 4)) (fun j => q 6 (iv (q 5 (iv (8 * x4) + 4)) + j)) (q 5 (iv (8 * x4) + 7)))) → ((¬ v37 = 0 → (∀ v42 : Int32, v42 = x4 + 1 → (rec x1 v42 r38 q39))) ∧ (v37 = 0 → (K152 x4 r38 q39))))))
def wp_X11_amend_130 (K152 : Int32 → (Nat → Int32) → (Nat → Nat → Int32) → Prop) (P : Int32 → RST → Prop) : Nat → Int32 → Int32 → (Nat → Int32) → (Nat → Nat → Int32) → Prop
  | 0 => fun _ _ _ _ => False
  | n + 1 => fun x1 x4 r q => wb_X11_amend_130 (wp_X11_amend_130 K152 P n) K152 P x1 x4 r q
set_option maxRecDepth 100000 in
set_option maxHeartbeats 4000000 in
theorem t_X11_amend_130 {p : Program} {l : Launch} {e : Env} {s : State} {m : MethodId} {args : Array Value} {below : List Frame} {meth : Method} {c : Code} {D : va_G} {A : Nat → Prop} {T : Nat → ClassId} {m0 : Nat} {a : Nat → Nat} (C : GC p s m args meth c cX11_amend "FreightRaterModel" (ws_X11_amend) 6 D A (zty T)) (hr : meth.sig.returnType = (some .int)) (K152 : Int32 → (Nat → Int32) → (Nat → Nat → Int32) → Prop) (P : Int32 → RST → Prop) (hK152 : ∀ (x4 : Int32) (r : Nat → Int32) (q : Nat → Nat → Int32), K152 x4 r q → GW p l e rm_X11_amend s m args below meth c D A 6 0 0 (MQ below (va_Qi P (RE D T m0 a A) A) args s 0 0 A) (RW m0 a T r q) 0 0 152 [(0, .ref m0), (4, .int x4)] []) : ∀ (n : Nat) (x1 : Int32) (x4 : Int32) (r : Nat → Int32) (q : Nat → Nat → Int32), wp_X11_amend_130 K152 P n x1 x4 r q → GW p l e rm_X11_amend s m args below meth c D A 6 0 0 (MQ below (va_Qi P (RE D T m0 a A) A) args s 0 0 A) (RW m0 a T r q) 0 0 130 [(0, .ref m0), (1, .int x1), (4, .int x4)] [] := by
  have hw : ∀ {w : Cond}, w ∈ W0 → w.before args s = true := fun h => C.2.2.2.2.1 _ (List.mem_cons_of_mem _ h)
  intro n
  induction n with
  | zero => intro x1 x4 r q h; exact h.elim
  | succ n ih =>
    intro x1 x4 r q h
    replace h : wb_X11_amend_130 (wp_X11_amend_130 K152 P n) K152 P x1 x4 r q := h
    unfold wb_X11_amend_130 at h
    refine g_iload C dX11_amend_130 2 rfl ?_
    refine g_aload_n C dX11_amend_132 rfl 0 rfl ?_
    refine gr_get C iwx_X11 13 (hw kw_1822) (by decide) rfl rfl dX11_amend_133 ?_
    refine g_icmp_ge (tgt := 201) C dX11_amend_136 (by decide) (fun z32 => ?_) (fun z32 => ?_)
    · replace h := h.1 z32
      refine g_aload_n C dX11_amend_201 rfl 0 rfl ?_
      refine g_aload_n C dX11_amend_202 rfl 0 rfl ?_
      refine gr_get C iwx_X11 2 (hw kw_1811) (by decide) rfl rfl dX11_amend_203 ?_
      obtain ⟨g36, h⟩ := h
      refine gr_callvV C [.ref (a 2)] rfl (k_X11_keepAs_2 l D T m0 a  r q g36) (w0_V 1 C.2.2.2.2.1 kw_1958 kw_1960 ks_52 kw_9 kw_1961 rfl rfl (by decide +kernel) ⟨by decide, by decide⟩) rfl (Nat.le_of_ble_eq_true rfl) (Nat.zero_le _) (Nat.zero_le _) dX11_amend_206 (fun r34 q35 hp => ?_)
      replace h := h r34 q35 hp
      refine g_aload_n C dX11_amend_209 rfl 0 rfl ?_
      refine gr_get C iwx_X11 13 (hw kw_1822) (by decide) rfl rfl dX11_amend_210 ?_
      exact gr_iret C hr dX11_amend_213 h
    · replace h := h.2 z32
      refine g_aload_n C dX11_amend_139 rfl 0 rfl ?_
      refine g_iload_n C dX11_amend_140 rfl 1 rfl ?_
      refine g_bipush (v := 8) C dX11_amend_141 (by decide) ?_
      refine g_iload C dX11_amend_143 2 rfl ?_
      refine g_imul C dX11_amend_145 ?_
      obtain ⟨g40, h⟩ := h
      refine gr_calliV C [.int x1, .int (8 * x4)] rfl (k_X11_carries l D T m0 a x1 (8 * x4) r q g40) (w0_V 2 C.2.2.2.2.1 kw_2080 kw_2082 ks_71 kw_9 kw_2083 rfl rfl (by decide +kernel) ⟨by decide, by decide⟩) rfl (Nat.le_of_ble_eq_true rfl) (Nat.zero_le _) (Nat.zero_le _) dX11_amend_146 (fun v37 r38 q39 hp => ?_)
      replace h := h v37 r38 q39 hp
      refine g_if_ne (tgt := 195) C dX11_amend_149 (by decide) (fun z41 => ?_) (fun z41 => ?_)
      · replace h := h.1 z41
        obtain ⟨v42, ev42⟩ : ∃ y : Int32, y = x4 + 1 := ⟨_, rfl⟩
        replace h := h v42 ev42
        refine g_iinc (v := v42) (lv' := [(4, .int v42), (0, .ref m0), (1, .int x1)]) C dX11_amend_195 (j := 2) rfl (by rw [ev42]; rfl) (by decide) rfl ?_
        refine g_goto (tgt := 130) C dX11_amend_198 (by decide) ?_
        refine g_locals [1, 2, 0] rfl ?_
        exact ih x1 v42 r38 q39 h
      · replace h := h.2 z41
        refine g_locals [0, 2] rfl ?_
        exact hK152 x4 r38 q39 h
def wb_X11_amend_161 (rec : Int32 → (Nat → Int32) → (Nat → Nat → Int32) → Prop) (P : Int32 → RST → Prop) (x5 : Int32) (r : Nat → Int32) (q : Nat → Nat → Int32) : Prop := (3334 ≤ x5 → (∀ (v48 : Int32) (r49 : Nat → Int32) (q50 : Nat → Nat → Int32), (v48 = 0 ∧ r49 = va_up r 6 2 ∧ q50 = q) → (P v48 (r49, q50)))) ∧ (¬ 3334 ≤ x5 → (vp_in x5 3334 ∧ (vp_in x5 3334 ∧ (∀ q53 : Nat → Nat → Int32, q53 = va_up q 0 (upd (q 0) (Int32.toNatClampNeg x5) (q 2 (Int32.toNatClampNeg x5))) → (∀ v54 : Int32, v54 = x5 + 1 → (rec v54 r q53))))))
def wp_X11_amend_161 (P : Int32 → RST → Prop) : Nat → Int32 → (Nat → Int32) → (Nat → Nat → Int32) → Prop
  | 0 => fun _ _ _ => False
  | n + 1 => fun x5 r q => wb_X11_amend_161 (wp_X11_amend_161  P n)  P x5 r q
set_option maxRecDepth 100000 in
set_option maxHeartbeats 4000000 in
theorem t_X11_amend_161 {p : Program} {l : Launch} {e : Env} {s : State} {m : MethodId} {args : Array Value} {below : List Frame} {meth : Method} {c : Code} {D : va_G} {A : Nat → Prop} {T : Nat → ClassId} {m0 : Nat} {a : Nat → Nat} (C : GC p s m args meth c cX11_amend "FreightRaterModel" (ws_X11_amend) 6 D A (zty T)) (hr : meth.sig.returnType = (some .int)) (P : Int32 → RST → Prop) : ∀ (n : Nat) (x5 : Int32) (r : Nat → Int32) (q : Nat → Nat → Int32), wp_X11_amend_161  P n x5 r q → GW p l e rm_X11_amend s m args below meth c D A 6 0 0 (MQ below (va_Qi P (RE D T m0 a A) A) args s 0 0 A) (RW m0 a T r q) 0 0 161 [(0, .ref m0), (5, .int x5)] [] := by
  have hw : ∀ {w : Cond}, w ∈ W0 → w.before args s = true := fun h => C.2.2.2.2.1 _ (List.mem_cons_of_mem _ h)
  intro n
  induction n with
  | zero => intro x5 r q h; exact h.elim
  | succ n ih =>
    intro x5 r q h
    replace h : wb_X11_amend_161 (wp_X11_amend_161  P n)  P x5 r q := h
    unfold wb_X11_amend_161 at h
    refine g_iload C dX11_amend_161 1 rfl ?_
    refine g_sipush (v := 3334) C dX11_amend_163 (by decide) ?_
    refine g_icmp_ge (tgt := 189) C dX11_amend_166 (by decide) (fun z47 => ?_) (fun z47 => ?_)
    · replace h := h.1 z47
      refine g_aload_n C dX11_amend_189 rfl 0 rfl ?_
      refine g_iconst (v := 2) C dX11_amend_190 (by decide) ?_
      refine gr_calliV C [.int 2] rfl (k_X11_refuse l D T m0 a 2 r q) (w0_V 1 C.2.2.2.2.1 kw_1950 kw_1952 ks_50 kw_9 kw_1953 rfl rfl (by decide +kernel) ⟨by decide, by decide⟩) rfl (Nat.le_of_ble_eq_true rfl) (Nat.zero_le _) (Nat.zero_le _) dX11_amend_191 (fun v48 r49 q50 hp => ?_)
      replace h := h v48 r49 q50 hp
      exact gr_iret C hr dX11_amend_194 h
    · replace h := h.2 z47
      refine g_aload_n C dX11_amend_169 rfl 0 rfl ?_
      refine gr_get C iwx_X11 0 (hw kw_1809) (by decide) rfl rfl dX11_amend_170 ?_
      refine g_iload C dX11_amend_173 1 rfl ?_
      refine g_aload_n C dX11_amend_175 rfl 0 rfl ?_
      refine gr_get C iwx_X11 2 (hw kw_1811) (by decide) rfl rfl dX11_amend_176 ?_
      refine g_iload C dX11_amend_179 1 rfl ?_
      obtain ⟨g51, h⟩ := h
      refine gr_ald_2 C g51 dX11_amend_181 ?_
      obtain ⟨g52, h⟩ := h
      refine gr_ast_0 C g52 dX11_amend_182 ?_
      refine gr_nq (fun q53 eq53 => ?_)
      replace h := h q53 eq53
      obtain ⟨v54, ev54⟩ : ∃ y : Int32, y = x5 + 1 := ⟨_, rfl⟩
      replace h := h v54 ev54
      refine g_iinc (v := v54) (lv' := [(5, .int v54), (0, .ref m0)]) C dX11_amend_183 (j := 1) rfl (by rw [ev54]; rfl) (by decide) rfl ?_
      refine g_goto (tgt := 161) C dX11_amend_186 (by decide) ?_
      refine g_locals [1, 0] rfl ?_
      exact ih v54 r q53 h
def wp_X11_amend (P : Int32 → RST → Prop) (p0 : Int32) (r : Nat → Int32) (q : Nat → Nat → Int32) : Prop := ∀ r1 : Nat → Int32, r1 = va_up r 6 0 → (∀ r2 : Nat → Int32, r2 = va_up r1 10 0 → (∀ r3 : Nat → Int32, r3 = va_up r2 11 0 → (∀ r4 : Nat → Int32, r4 = va_up r3 13 0 → (∀ r5 : Nat → Int32, r5 = va_up r4 15 0 → (∀ v6 : Int32, v6 = (zin p0 0 (q 0 0 - 1)) → (∃ k61 : Nat, wp_X11_amend_31 (fun (y16 : Int32) (r17 : Nat → Int32) (q18 : Nat → Nat → Int32) => ∀ v19 : Int32, v19 = (r17 8) → (∀ r20 : Nat → Int32, r20 = va_up r17 8 0 → ((¬ (zin y16 0 (q18 0 0 - 1)) = 0 → ((¬ (r20 11) = 0 → (P ((-100) - (r20 10)) (r20, q18))) ∧ ((r20 11) = 0 → ((v19 ≤ (r20 10) → (∃ k57 : Nat, wp_X11_amend_99 (fun (y29 : Int32) (r30 : Nat → Int32) (q31 : Nat → Nat → Int32) => ∃ k56 : Nat, wp_X11_amend_130 (fun (y43 : Int32) (r44 : Nat → Int32) (q45 : Nat → Nat → Int32) => ∀ r46 : Nat → Int32, r46 = va_up r44 12 y43 → (∃ k55 : Nat, wp_X11_amend_161  P k55 0 r46 q45)) P k56 y29 0 r30 q31) P k57 y16 0 r20 q18)) ∧ (¬ v19 ≤ (r20 10) → (P ((-100) - (r20 10)) (r20, q18))))))) ∧ ((zin y16 0 (q18 0 0 - 1)) = 0 → (∀ (v58 : Int32) (r59 : Nat → Int32) (q60 : Nat → Nat → Int32), (v58 = 0 ∧ r59 = va_up r20 6 1 ∧ q60 = q18) → (P v58 (r59, q60))))))) P k61 p0 v6 r5 q))))))
set_option maxRecDepth 100000 in
set_option maxHeartbeats 4000000 in
theorem t_X11_amend {p : Program} {l : Launch} {e : Env} {s : State} {m : MethodId} {args : Array Value} {below : List Frame} {meth : Method} {c : Code} {D : va_G} {A : Nat → Prop} {T : Nat → ClassId} {m0 : Nat} {a : Nat → Nat} (C : GC p s m args meth c cX11_amend "FreightRaterModel" (ws_X11_amend) 6 D A (zty T)) (hr : meth.sig.returnType = (some .int)) (P : Int32 → RST → Prop) : ∀ (p0 : Int32) (r : Nat → Int32) (q : Nat → Nat → Int32), wp_X11_amend P p0 r q → GW p l e rm_X11_amend s m args below meth c D A 6 0 0 (MQ below (va_Qi P (RE D T m0 a A) A) args s 0 0 A) (RW m0 a T r q) 0 0 0 [(0, .ref m0), (1, .int p0)] [] := by
  have hw : ∀ {w : Cond}, w ∈ W0 → w.before args s = true := fun h => C.2.2.2.2.1 _ (List.mem_cons_of_mem _ h)
  intro p0 r q h
  unfold wp_X11_amend at h
  refine g_aload_n C dX11_amend_0 rfl 0 rfl ?_
  refine g_iconst (v := 0) C dX11_amend_1 (by decide) ?_
  refine gr_put_6 C iwx_X11 (hw kw_1815) dX11_amend_2 ?_
  refine gr_nr (fun r1 er1 => ?_)
  replace h := h r1 er1
  refine g_aload_n C dX11_amend_5 rfl 0 rfl ?_
  refine g_iconst (v := 0) C dX11_amend_6 (by decide) ?_
  refine gr_put_10 C iwx_X11 (hw kw_1819) dX11_amend_7 ?_
  refine gr_nr (fun r2 er2 => ?_)
  replace h := h r2 er2
  refine g_aload_n C dX11_amend_10 rfl 0 rfl ?_
  refine g_iconst (v := 0) C dX11_amend_11 (by decide) ?_
  refine gr_put_11 C iwx_X11 vz0 (hw kw_1820) dX11_amend_12 ?_
  refine gr_nr (fun r3 er3 => ?_)
  replace h := h r3 er3
  refine g_aload_n C dX11_amend_15 rfl 0 rfl ?_
  refine g_iconst (v := 0) C dX11_amend_16 (by decide) ?_
  refine gr_put_13 C iwx_X11 (hw kw_1822) dX11_amend_17 ?_
  refine gr_nr (fun r4 er4 => ?_)
  replace h := h r4 er4
  refine g_aload_n C dX11_amend_20 rfl 0 rfl ?_
  refine g_iconst (v := 0) C dX11_amend_21 (by decide) ?_
  refine gr_put_15 C iwx_X11 (hw kw_1824) dX11_amend_22 ?_
  refine gr_nr (fun r5 er5 => ?_)
  replace h := h r5 er5
  refine g_aload_n C dX11_amend_25 rfl 0 rfl ?_
  refine g_iload_n C dX11_amend_26 rfl 1 rfl ?_
  refine gr_callVf C [.int p0] rfl (k_X11_isVersion l D T m0 a p0 r5 q) (w0_V 1 C.2.2.2.2.1 kw_1954 kw_1956 ks_51 kw_9 kw_1957 rfl rfl (by decide +kernel) ⟨by decide, by decide⟩) rfl (Nat.le_of_ble_eq_true rfl) (Nat.zero_le _) (Nat.zero_le _) dX11_amend_27 ?_
  refine g_topi (fun v6 ev6 => ?_)
  replace h := h v6 ev6
  refine g_istore_n (lv' := [(2, .int v6), (0, .ref m0), (1, .int p0)]) C dX11_amend_30 rfl (by decide) rfl ?_
  refine g_locals [1, 2, 0] rfl ?_
  obtain ⟨k61, h⟩ := h
  refine t_X11_amend_31 C hr _ P ?_ k61 p0 v6 r5 q h
  · intro y16 r17 q18 h
    refine g_aload_n C dX11_amend_49 rfl 0 rfl ?_
    refine gr_get C iwx_X11 8 (hw kw_1817) (by decide) rfl rfl dX11_amend_50 ?_
    refine g_topi (fun v19 ev19 => ?_)
    replace h := h v19 ev19
    refine g_istore_n (lv' := [(3, .int v19), (0, .ref m0), (1, .int y16)]) C dX11_amend_53 rfl (by decide) rfl ?_
    refine g_aload_n C dX11_amend_54 rfl 1 rfl ?_
    refine g_iconst (v := 0) C dX11_amend_55 (by decide) ?_
    refine gr_put_8 C iwx_X11 (hw kw_1817) dX11_amend_56 ?_
    refine gr_nr (fun r20 er20 => ?_)
    replace h := h r20 er20
    refine g_aload_n C dX11_amend_59 rfl 1 rfl ?_
    refine g_iload_n C dX11_amend_60 rfl 2 rfl ?_
    refine gr_callVf C [.int y16] rfl (k_X11_isVersion l D T m0 a y16 r20 q18) (w0_V 1 C.2.2.2.2.1 kw_1954 kw_1956 ks_51 kw_9 kw_1957 rfl rfl (by decide +kernel) ⟨by decide, by decide⟩) rfl (Nat.le_of_ble_eq_true rfl) (Nat.zero_le _) (Nat.zero_le _) dX11_amend_61 ?_
    refine g_if_ne (tgt := 73) C dX11_amend_64 (by decide) (fun z21 => ?_) (fun z21 => ?_)
    · replace h := h.1 z21
      refine g_aload_n C dX11_amend_73 rfl 1 rfl ?_
      refine gr_get C iwx_X11 11 (hw kw_1820) (by decide) rfl rfl dX11_amend_74 ?_
      refine g_if_ne (tgt := 88) C dX11_amend_77 (by decide) (fun z22 => ?_) (fun z22 => ?_)
      · replace h := h.1 z22
        refine g_bipush (v := -100) C dX11_amend_88 (by decide) ?_
        refine g_aload_n C dX11_amend_90 rfl 1 rfl ?_
        refine gr_get C iwx_X11 10 (hw kw_1819) (by decide) rfl rfl dX11_amend_91 ?_
        refine g_isub C dX11_amend_94 ?_
        exact gr_iret C hr dX11_amend_95 h
      · replace h := h.2 z22
        refine g_aload_n C dX11_amend_80 rfl 1 rfl ?_
        refine gr_get C iwx_X11 10 (hw kw_1819) (by decide) rfl rfl dX11_amend_81 ?_
        refine g_iload_n C dX11_amend_84 rfl 0 rfl ?_
        refine g_icmp_ge (tgt := 96) C dX11_amend_85 (by decide) (fun z23 => ?_) (fun z23 => ?_)
        · replace h := h.1 z23
          refine g_iconst (v := 0) C dX11_amend_96 (by decide) ?_
          refine g_istore (lv' := [(4, .int 0), (3, .int v19), (0, .ref m0), (1, .int y16)]) C dX11_amend_97 (by decide) rfl ?_
          refine g_locals [2, 3, 0] rfl ?_
          obtain ⟨k57, h⟩ := h
          refine t_X11_amend_99 C hr _ P ?_ k57 y16 0 r20 q18 h
          · intro y29 r30 q31 h
            refine g_iconst (v := 0) C dX11_amend_127 (by decide) ?_
            refine g_istore (lv' := [(4, .int 0), (0, .ref m0), (1, .int y29)]) C dX11_amend_128 (by decide) rfl ?_
            refine g_locals [1, 2, 0] rfl ?_
            obtain ⟨k56, h⟩ := h
            refine t_X11_amend_130 C hr _ P ?_ k56 y29 0 r30 q31 h
            · intro y43 r44 q45 h
              refine g_aload_n C dX11_amend_152 rfl 0 rfl ?_
              refine g_iload C dX11_amend_153 1 rfl ?_
              refine gr_put_12 C iwx_X11 (hw kw_1821) dX11_amend_155 ?_
              refine gr_nr (fun r46 er46 => ?_)
              replace h := h r46 er46
              refine g_iconst (v := 0) C dX11_amend_158 (by decide) ?_
              refine g_istore (lv' := [(5, .int 0), (0, .ref m0), (4, .int y43)]) C dX11_amend_159 (by decide) rfl ?_
              refine g_locals [1, 0] rfl ?_
              obtain ⟨k55, h⟩ := h
              refine t_X11_amend_161 C hr  P  k55 0 r46 q45 h
        · replace h := h.2 z23
          refine g_bipush (v := -100) C dX11_amend_88 (by decide) ?_
          refine g_aload_n C dX11_amend_90 rfl 1 rfl ?_
          refine gr_get C iwx_X11 10 (hw kw_1819) (by decide) rfl rfl dX11_amend_91 ?_
          refine g_isub C dX11_amend_94 ?_
          exact gr_iret C hr dX11_amend_95 h
    · replace h := h.2 z21
      refine g_aload_n C dX11_amend_67 rfl 1 rfl ?_
      refine g_iconst (v := 1) C dX11_amend_68 (by decide) ?_
      refine gr_calliV C [.int 1] rfl (k_X11_refuse l D T m0 a 1 r20 q18) (w0_V 1 C.2.2.2.2.1 kw_1950 kw_1952 ks_50 kw_9 kw_1953 rfl rfl (by decide +kernel) ⟨by decide, by decide⟩) rfl (Nat.le_of_ble_eq_true rfl) (Nat.zero_le _) (Nat.zero_le _) dX11_amend_69 (fun v58 r59 q60 hp => ?_)
      replace h := h v58 r59 q60 hp
      exact gr_iret C hr dX11_amend_72 h
theorem c_X11_amend (l : Launch) (D : va_G) (T : Nat → ClassId) (m0 : Nat) (a : Nat → Nat) (p0 : Int32) (r : Nat → Int32) (q : Nat → Nat → Int32) (P : Int32 → RST → Prop) (h : wp_X11_amend P p0 r q) : RMi l yX11_amend (ws_X11_amend) rm_X11_amend D T m0 a [.ref m0, .int p0] r q P := gr_meti (by decide) rfl rfl (Nat.le_of_ble_eq_true rfl) (fun p e s m args below meth c A C hr => t_X11_amend C hr P p0 r q h)
/-- the statements stand in their rows -/
def stL (w u : Nat → Int32) (hi : Nat) (l : List STM) : Prop := ∀ j x, l[j]? = some x → stK w u (8 * j) hi x
theorem stK.kp {w u w1 u1 : Nat → Int32} {s hi hi1 m : Nat} {x : STM} (h : stK w u s hi x) (hw : ∀ i, i < m → w1 i = w i) (hm : s + 8 ≤ m) (hu : ∀ i, i < hi → u1 i = u i) (hh : hi ≤ hi1) : stK w1 u1 s hi1 x := by
  obtain ⟨h1, h2, h3, h4, h5⟩ := h
  refine ⟨by rw [hw _ (by omega)]; exact h1, by rw [hw _ (by omega)]; exact h2, fun c => by rw [hw _ (by omega)]; exact h3 c, fun c => by rw [hw _ (by omega)]; exact h4 c, fun c => ?_⟩
  obtain ⟨t, t1, t2, t3, t4, t5, t6⟩ := h5 c
  refine ⟨t, by omega, by rw [hw _ (by omega)]; exact t2, by rw [hw _ (by omega)]; exact t3, by rw [hw _ (by omega)]; exact t4, by rw [hw _ (by omega)]; exact t5, fun j y hy => ?_⟩
  have hj : j < x.2.1.1.length := (List.getElem?_eq_some_iff.mp hy).1
  rw [hu _ (by omega)]
  exact t6 j y hy
/-- what reading the text leaves -/
def amQ (A : List STM × PS) (r : Nat → Int32) (q : Nat → Nat → Int32) (L : List STM) (r1 : Nat → Int32) (q1 : Nat → Nat → Int32) : Prop := kR r r1 [10, 11, 13, 15] ∧ kQ q q1 [5, 6] ∧ psO r1 ∧ pσ r1 = A.2 ∧ ((pσ r1).2 = false → r1 13 = nI (L.length + A.1.length) ∧ L.length + A.1.length ≤ 81 ∧ iv (r1 15) ≤ 80 ∧ stL (q1 5) (q1 6) (iv (r1 15)) (L ++ A.1))
theorem rl_am {P : Int32 → RST → Prop} {K : Int32 → (Nat → Int32) → (Nat → Nat → Int32) → Prop} {b : Nat → Int32} {n : Nat} {p : Int32} : ∀ (k fuel : Nat) (L : List STM) (r : Nat → Int32) (q : Nat → Nat → Int32), q 4 = b → iv (r 8) = n → n ≤ (pσ r).1 + k → k + 1 < fuel → psO r → (pσ r).2 = false → tsL r → r 13 = nI L.length → 2 * L.length ≤ (pσ r).1 → stL (q 5) (q 6) (iv (r 15)) L → (∀ r1 q1, amQ (amL b n (k + 1) (pσ r)) r q L r1 q1 → K p r1 q1) → wp_X11_amend_31 K P fuel p 1 r q := by
  intro k
  induction k using Nat.strongRecOn with
  | ind k ih =>
    intro fuel L r q hb hn hle hf hp hg hT h13 hL hst hK
    obtain ⟨p1, p2, p3⟩ := ps_1 hp
    have e10 : iv (r 10) = (pσ r).1 := rfl
    have il : iv (r 13) = L.length := by rw [h13]; exact nI_clamp (by omega)
    have it : iv (r 15) ≤ (pσ r).1 := by
      obtain ⟨t, ht, et⟩ := hT
      rw [et, show iv (nI t) = t from nI_clamp (by omega)]
      omega
    obtain ⟨f, rfl⟩ : ∃ f, fuel = f + 1 := ⟨fuel - 1, by omega⟩; rw [wp_X11_amend_31]; unfold wb_X11_amend_31; dsimp only
    refine ⟨fun z9 => absurd z9 (by decide), fun _ => ⟨⟨hp, hg, hT, ⟨L.length, by omega, h13⟩⟩, fun r9 q10 hs => ?_⟩⟩
    obtain ⟨s1, s2, s3, s4, s5, s6⟩ := hs
    rw [hb, hn] at s4 s6
    rw [il] at s5 s6
    have e98 : iv (r9 8) = n := by rw [s1 8 (by decide)]; exact hn
    have e104 : q10 4 = b := (s2 4 (by decide)).trans hb
    refine ⟨⟨s3, by decide⟩, fun v12 r13 q14 hh => ?_⟩
    obtain ⟨a1, a2, a3, a4, a5⟩ := hh
    subst a2
    rw [e104, e98] at a1 a5
    have k13 : kR r r13 [10, 11, 13, 15] := s1.tr a3 (fun _ h => h) (by decide)
    have e15 : r13 15 = r9 15 := a3 15 (by decide)
    have e13 : r13 13 = nI (L.length + 1) := (a3 13 (by decide)).trans s5
    have l9 := ps_1 s3
    have t9 : (pσ r9).2 = false → iv (r9 15) ≤ (pσ r9).1 := fun z9 => by
      obtain ⟨_, _, _, ⟨t, ht, et⟩, _⟩ := s6 z9
      have e9 : iv (r9 10) = (pσ r9).1 := rfl
      rw [et, show iv (nI t) = t from nI_clamp (by omega)]
      omega
    have hnew : (pσ r9).2 = false → stL (q14 5) (q14 6) (iv (r9 15)) (L ++ [(stR b n (pσ r)).1]) := fun z9 => by
      obtain ⟨_, u1, u2, _, u4, u5⟩ := s6 z9
      intro j x hx
      rcases Nat.lt_or_ge j L.length with hj | hj
      · rw [List.getElem?_append_left hj] at hx
        exact (hst j x hx).kp (m := 8 * L.length) u1 (by omega) u2 u4
      · rw [List.getElem?_append_right hj] at hx
        have ej : j = L.length := by
          rcases Nat.eq_or_lt_of_le hj with e | e
          · exact e.symm
          · rw [List.getElem?_eq_none (by rw [List.length_singleton]; omega)] at hx
            cases hx
        subst ej
        rw [Nat.sub_self] at hx
        have hx' : (stR b n (pσ r)).1 = x := by simpa using hx
        rw [← hx']
        exact u5
    cases ht : tkB b n (pσ r9) 59 with
    | false =>
      have hA : amL b n (k + 1) (pσ r) = ([(stR b n (pσ r)).1], (stR b n (pσ r)).2) := by
        rw [amL, ← s4, ht]
        rfl
      rw [hA] at hK
      rw [ht] at a1
      rw [tkS_no ht] at a5
      obtain ⟨f, rfl⟩ : ∃ g, f = g + 1 := ⟨f - 1, by omega⟩
      rw [a1, wp_X11_amend_31]; unfold wb_X11_amend_31; dsimp only
      refine ⟨fun _ => hK r13 q14 ⟨k13, s2, a4, by rw [a5]; exact s4, fun z9 => ?_⟩, fun z9 => absurd rfl z9⟩
      rw [a5] at z9
      rw [List.length_singleton, e15]
      have := t9 z9
      exact ⟨e13, by omega, by omega, hnew z9⟩
    | true =>
      obtain ⟨t1, t2, t3⟩ := tkB_gd (by decide) ht
      have u0 := (s6 t1).1
      have h13p : (pσ r13).1 = (pσ r9).1 + 1 := by rw [a5, t3]
      obtain ⟨k, rfl⟩ : ∃ k', k = k' + 1 := ⟨k - 1, by omega⟩
      have hA : amL b n (k + 1 + 1) (pσ r) = ((stR b n (pσ r)).1 :: (amL b n (k + 1) (pσ r13)).1, (amL b n (k + 1) (pσ r13)).2) := by
        rw [amL, ← s4, if_pos ht, ← a5]
      rw [hA] at hK
      rw [ht] at a1
      rw [a1]
      have tl : tsL r13 := by
        obtain ⟨t, ht9, et⟩ := (s6 t1).2.2.2.1
        refine ⟨t, ?_, by rw [e15]; exact et⟩
        have e9 : iv (r9 10) = (pσ r9).1 := rfl
        have e139 : iv (r13 10) = (pσ r13).1 := rfl
        omega
      refine ih k (by omega) f (L ++ [(stR b n (pσ r)).1]) r13 q14 e104 (by rw [a3 8 (by decide)]; exact e98) (by omega) (by omega) a4 (by rw [a5, t3]; exact t1) tl (by rw [List.length_append, List.length_singleton]; exact e13) (by rw [List.length_append, List.length_singleton]; omega) (by rw [e15]; exact hnew t1) (fun r1 q1 hq => hK r1 q1 ?_)
      obtain ⟨b1, b2, b3, b4, b5⟩ := hq
      refine ⟨k13.tr b1 (fun _ h => h) (fun _ h => h), s2.tr b2 (fun _ h => h) (fun _ h => h), b3, b4, fun z9 => ?_⟩
      obtain ⟨c1, c2, c3, c4⟩ := b5 z9
      rw [List.length_append, List.length_singleton] at c1 c2
      rw [List.append_assoc, List.singleton_append] at c4
      refine ⟨by rw [c1, List.length_cons]; congr 1; omega, by rw [List.length_cons]; omega, c3, c4⟩
theorem am_gd {b : Nat → Int32} {n : Nat} (h80 : n ≤ 80) : ∀ (k : Nat) (σ : PS), σ.1 ≤ n → σ.2 = false → (amL b n k σ).2.2 = false → ∀ x, x ∈ (amL b n k σ).1 → stW x := by
  intro k
  induction k with
  | zero => intro σ _ _ _ x hx; simp [amL] at hx
  | succ k ih =>
    intro σ h h0 hg x hx
    rw [amL] at hg hx
    by_cases ht : tkB b n (stR b n σ).2 59 = true
    · rw [if_pos ht] at hg hx
      obtain ⟨t1, t2, t3⟩ := tkB_gd (by decide) ht
      rcases List.mem_cons.mp hx with e | e
      · subst e; exact st_gd h80 h t1
      · exact ih _ (by rw [t3]; exact t2) (by rw [t3]; exact t1) hg x e
    · rw [if_neg ht] at hg hx
      have e : x = (stR b n σ).1 := by simpa using hx
      subst e
      exact st_gd h80 h hg
/-- a row copied -/
theorem rl_a99 {P : Int32 → RST → Prop} {K : Int32 → (Nat → Int32) → (Nat → Nat → Int32) → Prop} {r : Nat → Int32} {q0 : Nat → Nat → Int32} {p : Int32} : ∀ (m j fuel : Nat) (q : Nat → Nat → Int32), j + m = 3334 → m < fuel → kQ q0 q [2] → (∀ k, k < j → q 2 k = q0 0 k) → (∀ q1, kQ q0 q1 [2] → (∀ k, k < 3334 → q1 2 k = q0 0 k) → K p r q1) → wp_X11_amend_99 K P fuel p (nI j) r q := by
  intro m
  induction m with
  | zero =>
    intro j fuel q hj hf hk hc hK
    obtain ⟨f, rfl⟩ : ∃ f, fuel = f + 1 := ⟨fuel - 1, by omega⟩; rw [wp_X11_amend_99]; unfold wb_X11_amend_99; dsimp only
    simp (disch := omega) only [li_2, li_3, li_4, li_5, li_6, li_7, li_8, li_9, li_10, li_12, li_14, li_20, li_26, li_30, li_31, li_36, li_38, li_47, li_48, li_50, li_57, li_58, li_80, li_98, li_99, li_100, li_102, li_104, li_105, li_108, li_109, li_110, li_114, li_115, li_119, li_122, li_137, li_146, li_147, li_148, li_149, li_150, li_200, li_255, li_256, li_274, li_510, li_512, li_640, li_999, li_1000, li_1024, li_3334, li_5000, li_9999, li_10000, li_23338, li_26672, li_30000, li_99999, li_150000, li_300000, pk_mul, nI_add, pk_sub, nI_clamp, nI_1, nI_p1, nI_a0, nI_0a, nI_m0, nI_m1, cl_0, cl_1, z01, z11, nI_leI, nI_ltI, nI_eq, nz_lt0, nz_le, nz_eq0, nz_pos, nz_le0, nz_eq1, nz_lt1, nz_ge1, nz_le1, nz_gt1, nz_vp, nz_vp0, nz_vp1, six_nI, vix_nI, bix_nI, pix_nI, fix_nI, gix_nI, rix_nI, zix_nI, pix_0, pix_1, bix_0, fix_0, fix_1, rix_1, true_and, and_true]
    refine ⟨fun _ => hK q hk (fun k hk9 => hc k (by omega)), fun z9 => absurd (by omega) z9⟩
  | succ m ih =>
    intro j fuel q hj hf hk hc hK
    obtain ⟨f, rfl⟩ : ∃ f, fuel = f + 1 := ⟨fuel - 1, by omega⟩; rw [wp_X11_amend_99]; unfold wb_X11_amend_99; dsimp only
    simp (disch := omega) only [li_2, li_3, li_4, li_5, li_6, li_7, li_8, li_9, li_10, li_12, li_14, li_20, li_26, li_30, li_31, li_36, li_38, li_47, li_48, li_50, li_57, li_58, li_80, li_98, li_99, li_100, li_102, li_104, li_105, li_108, li_109, li_110, li_114, li_115, li_119, li_122, li_137, li_146, li_147, li_148, li_149, li_150, li_200, li_255, li_256, li_274, li_510, li_512, li_640, li_999, li_1000, li_1024, li_3334, li_5000, li_9999, li_10000, li_23338, li_26672, li_30000, li_99999, li_150000, li_300000, pk_mul, nI_add, pk_sub, nI_clamp, nI_1, nI_p1, nI_a0, nI_0a, nI_m0, nI_m1, cl_0, cl_1, z01, z11, nI_leI, nI_ltI, nI_eq, nz_lt0, nz_le, nz_eq0, nz_pos, nz_le0, nz_eq1, nz_lt1, nz_ge1, nz_le1, nz_gt1, nz_vp, nz_vp0, nz_vp1, six_nI, vix_nI, bix_nI, pix_nI, fix_nI, gix_nI, rix_nI, zix_nI, pix_0, pix_1, bix_0, fix_0, fix_1, rix_1, true_and, and_true]
    refine ⟨fun z9 => absurd z9 (by omega), fun _ => ⟨by omega, by omega, fun q27 e27 v28 e28 => ?_⟩⟩
    subst e28
    refine ih (j + 1) f q27 (by omega) (by omega) (by rw [e27]; exact hk.up (by decide) _) (fun k hk9 => ?_) hK
    rw [e27, va_up_self]
    by_cases e : k = j
    · subst e; rw [pk_us, hk 0 (by decide)]
    · rw [pk_un e]; exact hc k (by omega)
theorem rl_a161 {P : Int32 → RST → Prop} {r : Nat → Int32} {q0 : Nat → Nat → Int32} : ∀ (m j fuel : Nat) (q : Nat → Nat → Int32), j + m = 3334 → m < fuel → kQ q0 q [0] → (∀ k, k < j → q 0 k = q0 2 k) → (∀ q1, kQ q0 q1 [0] → (∀ k, k < 3334 → q1 0 k = q0 2 k) → P 0 (va_up r 6 2, q1)) → wp_X11_amend_161 P fuel (nI j) r q := by
  intro m
  induction m with
  | zero =>
    intro j fuel q hj hf hk hc hK
    obtain ⟨f, rfl⟩ : ∃ f, fuel = f + 1 := ⟨fuel - 1, by omega⟩; rw [wp_X11_amend_161]; unfold wb_X11_amend_161; dsimp only
    simp (disch := omega) only [li_2, li_3, li_4, li_5, li_6, li_7, li_8, li_9, li_10, li_12, li_14, li_20, li_26, li_30, li_31, li_36, li_38, li_47, li_48, li_50, li_57, li_58, li_80, li_98, li_99, li_100, li_102, li_104, li_105, li_108, li_109, li_110, li_114, li_115, li_119, li_122, li_137, li_146, li_147, li_148, li_149, li_150, li_200, li_255, li_256, li_274, li_510, li_512, li_640, li_999, li_1000, li_1024, li_3334, li_5000, li_9999, li_10000, li_23338, li_26672, li_30000, li_99999, li_150000, li_300000, pk_mul, nI_add, pk_sub, nI_clamp, nI_1, nI_p1, nI_a0, nI_0a, nI_m0, nI_m1, cl_0, cl_1, z01, z11, nI_leI, nI_ltI, nI_eq, nz_lt0, nz_le, nz_eq0, nz_pos, nz_le0, nz_eq1, nz_lt1, nz_ge1, nz_le1, nz_gt1, nz_vp, nz_vp0, nz_vp1, six_nI, vix_nI, bix_nI, pix_nI, fix_nI, gix_nI, rix_nI, zix_nI, pix_0, pix_1, bix_0, fix_0, fix_1, rix_1, true_and, and_true]
    refine ⟨fun _ v48 r49 q50 hh => ?_, fun z9 => absurd (by omega) z9⟩
    obtain ⟨h1, h2, h3⟩ := hh
    subst h3
    rw [h1, h2]
    exact hK q50 hk (fun k hk9 => hc k (by omega))
  | succ m ih =>
    intro j fuel q hj hf hk hc hK
    obtain ⟨f, rfl⟩ : ∃ f, fuel = f + 1 := ⟨fuel - 1, by omega⟩; rw [wp_X11_amend_161]; unfold wb_X11_amend_161; dsimp only
    simp (disch := omega) only [li_2, li_3, li_4, li_5, li_6, li_7, li_8, li_9, li_10, li_12, li_14, li_20, li_26, li_30, li_31, li_36, li_38, li_47, li_48, li_50, li_57, li_58, li_80, li_98, li_99, li_100, li_102, li_104, li_105, li_108, li_109, li_110, li_114, li_115, li_119, li_122, li_137, li_146, li_147, li_148, li_149, li_150, li_200, li_255, li_256, li_274, li_510, li_512, li_640, li_999, li_1000, li_1024, li_3334, li_5000, li_9999, li_10000, li_23338, li_26672, li_30000, li_99999, li_150000, li_300000, pk_mul, nI_add, pk_sub, nI_clamp, nI_1, nI_p1, nI_a0, nI_0a, nI_m0, nI_m1, cl_0, cl_1, z01, z11, nI_leI, nI_ltI, nI_eq, nz_lt0, nz_le, nz_eq0, nz_pos, nz_le0, nz_eq1, nz_lt1, nz_ge1, nz_le1, nz_gt1, nz_vp, nz_vp0, nz_vp1, six_nI, vix_nI, bix_nI, pix_nI, fix_nI, gix_nI, rix_nI, zix_nI, pix_0, pix_1, bix_0, fix_0, fix_1, rix_1, true_and, and_true]
    refine ⟨fun z9 => absurd z9 (by omega), fun _ => ⟨by omega, by omega, fun q27 e27 v28 e28 => ?_⟩⟩
    subst e28
    refine ih (j + 1) f q27 (by omega) (by omega) (by rw [e27]; exact hk.up (by decide) _) (fun k hk9 => ?_) hK
    rw [e27, va_up_self]
    by_cases e : k = j
    · subst e; rw [pk_us, hk 2 (by decide)]
    · rw [pk_un e]; exact hc k (by omega)
theorem st_le {b : Nat → Int32} {n : Nat} {σ : PS} (h : σ.1 ≤ n) (hg : (stR b n σ).2.2 = false) : σ.1 + 1 ≤ (stR b n σ).2.1 := by
  have hlt : ∀ m : Int32, sg b n σ = m → ¬ m = -1 → σ.1 + 1 ≤ n := fun m hm hc => sg_in hc hm
  unfold stR at hg ⊢
  split
  · rename_i c
    have hl : σ.1 + 1 ≤ n := by rcases c with c | c | c <;> exact hlt _ c (by decide)
    exact (zoR_le (σ := (σ.1 + 1, σ.2)) hl).2
  rename_i c1
  rw [if_neg c1] at hg
  split
  · rename_i c
    have hl : σ.1 + 1 ≤ n := by rcases c with c | c | c | c <;> exact hlt _ c (by decide)
    exact (nbF_ok (b := b) (σ := (σ.1 + 1, σ.2)) hl).2.1
  rename_i c2
  rw [if_neg c2] at hg
  split
  · rename_i c
    exact (exR_le (b := b) (σ := (σ.1 + 1, σ.2)) (hlt _ c (by decide))).2
  rename_i c3
  rw [if_neg c3] at hg
  split
  · rename_i c
    exact (dgS_le (b := b) (σ := (σ.1 + 1, σ.2)) dix09 (hlt _ c (by decide))).2
  · rename_i c
    rw [if_neg c] at hg
    cases hg
theorem am_len {b : Nat → Int32} {n : Nat} : ∀ (k : Nat) (σ : PS), σ.1 ≤ n → σ.2 = false → (amL b n k σ).2.2 = false → σ.1 + 2 * (amL b n k σ).1.length ≤ (amL b n k σ).2.1 + 1 := by
  intro k
  induction k with
  | zero => intro σ _ _ _; show σ.1 + 2 * 0 ≤ σ.1 + 1; omega
  | succ k ih =>
    intro σ h h0 hg
    have one : (stR b n σ).2.2 = false → σ.1 + 1 ≤ (stR b n σ).2.1 := fun z9 => st_le h z9
    rw [amL] at hg ⊢
    by_cases ht : tkB b n (stR b n σ).2 59 = true
    · rw [if_pos ht] at hg ⊢
      obtain ⟨t1, t2, t3⟩ := tkB_gd (by decide) ht
      have := ih (tkS b n (stR b n σ).2 59) (by rw [t3]; exact t2) (by rw [t3]; exact t1) hg
      have h1 := one t1
      have e3 : (tkS b n (stR b n σ).2 59).1 = (stR b n σ).2.1 + 1 := by rw [t3]
      dsimp only
      rw [List.length_cons]
      omega
    · rw [if_neg ht] at hg ⊢
      have h1 := one hg
      dsimp only
      rw [List.length_singleton]
      omega
theorem psh_cg {Pa P1 row row1 : Nat → Int32} {c c1 : Int32} (h : psh Pa P1 row c c1) (e : ∀ k, k < 3334 → row k = row1 k) : psh Pa P1 row1 c c1 := by
  obtain ⟨n, hn, ec, h⟩ := h
  refine ⟨n, hn, ec, ?_⟩
  split at h
  · rename_i c9
    rw [if_pos c9]
    exact ⟨h.1, h.2.1, fun k hk => (h.2.2 k hk).trans (e k hk)⟩
  · rename_i c9
    rw [if_neg c9]
    exact ⟨h.1, h.2.1, fun k hk => (h.2.2 k hk).trans (e k hk)⟩
theorem crO_of {w u : Nat → Int32} {s hi : Nat} {x : STM} (h : stK w u s hi x) (hx : stW x) (hh : hi ≤ 80) : crO w s := by
  obtain ⟨h1, h2, h3, h4, h5⟩ := h
  unfold crO
  rw [h1, h2]
  rcases hx with ⟨c, g1, g2, g3⟩ | ⟨c, g1, g2, g3⟩ | ⟨c, g1, g2⟩ | ⟨c, g1⟩ | ⟨c, g1, g2, g3, g4, g5, g6, g7, g8⟩ | ⟨c, g1⟩
  · rw [c]
    exact ⟨fun z9 => absurd z9 (by decide), fun z9 => absurd z9 (by decide), fun z9 => absurd z9 (by decide), fun z9 => absurd rfl z9.1⟩
  · have e3 := h4 (Or.inr (Or.inl c))
    rw [e3, c]
    exact ⟨fun _ => g1, fun _ => g3, fun z9 => absurd z9 (by decide), fun z9 => absurd rfl z9.2.1⟩
  · rw [c]
    exact ⟨fun _ => g1, fun z9 => absurd z9 (by decide), fun z9 => absurd z9 (by decide), fun z9 => absurd rfl z9.2.2.1⟩
  · rcases c with c | c | c | c <;> rw [c]
    · exact ⟨fun z9 => absurd z9 (by decide), fun z9 => absurd z9 (by decide), fun z9 => absurd z9 (by decide), fun z9 => absurd rfl z9.2.2.2.1⟩
    · exact ⟨fun z9 => absurd z9 (by decide), fun z9 => absurd z9 (by decide), fun z9 => absurd z9 (by decide), fun z9 => absurd rfl z9.2.2.2.2.1⟩
    · exact ⟨fun z9 => absurd z9 (by decide), fun z9 => absurd z9 (by decide), fun z9 => absurd z9 (by decide), fun z9 => absurd rfl z9.2.2.2.2.2.1⟩
    · exact ⟨fun z9 => absurd z9 (by decide), fun z9 => absurd z9 (by decide), fun z9 => absurd z9 (by decide), fun z9 => absurd rfl z9.2.2.2.2.2.2.1⟩
  · obtain ⟨t, t1, t2, t3, t4, t5, t6⟩ := h5 c
    rw [c]
    exact ⟨fun z9 => absurd z9 (by decide), fun z9 => absurd z9 (by decide), fun _ => ⟨g1, ⟨t, x.2.1.1.length, by omega, t2, t4⟩⟩, fun z9 => absurd rfl z9.2.2.2.2.2.2.2⟩
  · rw [c]
    exact ⟨fun z9 => absurd z9 (by decide), fun z9 => absurd z9 (by decide), fun z9 => absurd z9 (by decide), fun _ => g1⟩
theorem seF_cg {μ : Nat → Int32} {v a : Nat} {x2 x3 rows tested excl : Int32} {tv tv' : Nat → Int32} (h : ∀ j, j < iv tested → tv j = tv' j) : seF μ v a x2 x3 rows tested tv excl = seF μ v a x2 x3 rows tested tv' excl := by
  funext k
  unfold seF
  split
  · split
    · rename_i c; exact h _ c
    · rfl
  · rfl
theorem crB_122 {μ : Nat → Int32} {v : Nat} {x1 x2 x3 : Int32} : crB μ v 122 x1 x2 x3 = ptB μ v x2 x3 := by
  unfold crB
  rw [if_pos rfl]
theorem crS_122 {μ : Nat → Int32} {v : Nat} {x1 x2 x3 rows tested excl : Int32} {tv : Nat → Int32} : crS μ v 122 x1 x2 x3 rows tested tv excl = ptS μ v x1 x2 x3 := by
  unfold crS
  rw [if_pos rfl]
theorem crB_98 {μ : Nat → Int32} {v : Nat} {x1 x2 x3 : Int32} : crB μ v 98 x1 x2 x3 = bkB μ v (iv x1) x2 x3 := by
  unfold crB
  rw [if_neg (by decide), if_pos rfl]
theorem crS_98 {μ : Nat → Int32} {v : Nat} {x1 x2 x3 rows tested excl : Int32} {tv : Nat → Int32} : crS μ v 98 x1 x2 x3 rows tested tv excl = bkS μ v (iv x1) x2 x3 := by
  unfold crS
  rw [if_neg (by decide), if_pos rfl]
theorem crB_109 {μ : Nat → Int32} {v : Nat} {x1 x2 x3 : Int32} : crB μ v 109 x1 x2 x3 = decide (¬ zin x2 0 9999 = 0) := by
  unfold crB
  rw [if_neg (by decide), if_neg (by decide), if_pos rfl]
theorem crS_109 {μ : Nat → Int32} {v : Nat} {x1 x2 x3 rows tested excl : Int32} {tv : Nat → Int32} : crS μ v 109 x1 x2 x3 rows tested tv excl = upd μ (274 + 510 * v + 137 + iv x1 - 1) x2 := by
  unfold crS
  rw [if_neg (by decide), if_neg (by decide), if_pos rfl]
theorem crB_100 {μ : Nat → Int32} {v : Nat} {x1 x2 x3 : Int32} : crB μ v 100 x1 x2 x3 = decide (¬ zin x1 1000 9999 = 0) := by
  unfold crB
  rw [if_neg (by decide), if_neg (by decide), if_neg (by decide), if_pos rfl]
theorem crS_100 {μ : Nat → Int32} {v : Nat} {x1 x2 x3 rows tested excl : Int32} {tv : Nat → Int32} : crS μ v 100 x1 x2 x3 rows tested tv excl = upd μ (274 + 510 * v + 146) x1 := by
  unfold crS
  rw [if_neg (by decide), if_neg (by decide), if_neg (by decide), if_pos rfl]
theorem crB_102 {μ : Nat → Int32} {v : Nat} {x1 x2 x3 : Int32} : crB μ v 102 x1 x2 x3 = decide (¬ zin x1 0 99 = 0) := by
  unfold crB
  rw [if_neg (by decide), if_neg (by decide), if_neg (by decide), if_neg (by decide), if_pos rfl]
theorem crS_102 {μ : Nat → Int32} {v : Nat} {x1 x2 x3 rows tested excl : Int32} {tv : Nat → Int32} : crS μ v 102 x1 x2 x3 rows tested tv excl = upd μ (274 + 510 * v + 147) x1 := by
  unfold crS
  rw [if_neg (by decide), if_neg (by decide), if_neg (by decide), if_neg (by decide), if_pos rfl]
theorem crB_115 {μ : Nat → Int32} {v : Nat} {x1 x2 x3 : Int32} : crB μ v 115 x1 x2 x3 = decide (¬ zin x1 0 9999 = 0) := by
  unfold crB
  rw [if_neg (by decide), if_neg (by decide), if_neg (by decide), if_neg (by decide), if_neg (by decide), if_pos rfl]
theorem crS_115 {μ : Nat → Int32} {v : Nat} {x1 x2 x3 rows tested excl : Int32} {tv : Nat → Int32} : crS μ v 115 x1 x2 x3 rows tested tv excl = upd μ (274 + 510 * v + 148) x1 := by
  unfold crS
  rw [if_neg (by decide), if_neg (by decide), if_neg (by decide), if_neg (by decide), if_neg (by decide), if_pos rfl]
theorem crB_99 {μ : Nat → Int32} {v : Nat} {x1 x2 x3 : Int32} : crB μ v 99 x1 x2 x3 = decide (¬ zin x1 0 9999 = 0) := by
  unfold crB
  rw [if_neg (by decide), if_neg (by decide), if_neg (by decide), if_neg (by decide), if_neg (by decide), if_neg (by decide), if_pos rfl]
theorem crS_99 {μ : Nat → Int32} {v : Nat} {x1 x2 x3 rows tested excl : Int32} {tv : Nat → Int32} : crS μ v 99 x1 x2 x3 rows tested tv excl = upd μ (274 + 510 * v + 149) x1 := by
  unfold crS
  rw [if_neg (by decide), if_neg (by decide), if_neg (by decide), if_neg (by decide), if_neg (by decide), if_neg (by decide), if_pos rfl]
theorem crB_97 {μ : Nat → Int32} {v : Nat} {x1 x2 x3 : Int32} : crB μ v 97 x1 x2 x3 = seB x2 x3 := by
  unfold crB
  rw [if_neg (by decide), if_neg (by decide), if_neg (by decide), if_neg (by decide), if_neg (by decide), if_neg (by decide), if_neg (by decide), if_pos rfl]
theorem crS_97 {μ : Nat → Int32} {v : Nat} {x1 x2 x3 rows tested excl : Int32} {tv : Nat → Int32} : crS μ v 97 x1 x2 x3 rows tested tv excl = seF μ v (iv x1) x2 x3 rows tested tv excl := by
  unfold crS
  rw [if_neg (by decide), if_neg (by decide), if_neg (by decide), if_neg (by decide), if_neg (by decide), if_neg (by decide), if_neg (by decide), if_pos rfl]
theorem crB_114 {μ : Nat → Int32} {v : Nat} {x1 x2 x3 : Int32} : crB μ v 114 x1 x2 x3 = decide (μ (274 + 510 * v + 150 + 36 * iv x1) = 1) := by
  unfold crB
  rw [if_neg (by decide), if_neg (by decide), if_neg (by decide), if_neg (by decide), if_neg (by decide), if_neg (by decide), if_neg (by decide), if_neg (by decide)]
theorem crS_114 {μ : Nat → Int32} {v : Nat} {x1 x2 x3 rows tested excl : Int32} {tv : Nat → Int32} : crS μ v 114 x1 x2 x3 rows tested tv excl = zf μ (274 + 510 * v + 150 + 36 * iv x1) 36 := by
  unfold crS
  rw [if_neg (by decide), if_neg (by decide), if_neg (by decide), if_neg (by decide), if_neg (by decide), if_neg (by decide), if_neg (by decide), if_neg (by decide)]
theorem cr_of {μ w u : Nat → Int32} {v s hi : Nat} {x : STM} (h : stK w u s hi x) (hx : stW x) (hh : hi ≤ 80) : crB μ v (w s) (w (s + 1)) (w (s + 2)) (w (s + 3)) = crBx μ v x ∧ crS μ v (w s) (w (s + 1)) (w (s + 2)) (w (s + 3)) (w (s + 5)) (w (s + 6) - w (s + 4)) (fun j => u (iv (w (s + 4)) + j)) (w (s + 7)) = crSx μ v x := by
  obtain ⟨h1, h2, h3, h4, h5⟩ := h
  unfold crBx crSx
  rw [h1, h2]
  rcases hx with ⟨c, g1, g2, g3⟩ | ⟨c, g1, g2, g3⟩ | ⟨c, g1, g2⟩ | ⟨c, g1⟩ | ⟨c, g1, g2, g3, g4, g5, g6, g7, g8⟩ | ⟨c, g1⟩
  · rw [h3 (Or.inl c), h4 (Or.inl c), c, crB_122, crS_122, crS_122]
    exact ⟨rfl, rfl⟩
  · rw [h3 (Or.inr (Or.inl c)), h4 (Or.inr (Or.inl c)), c, crB_98, crS_98, crS_98]
    exact ⟨rfl, rfl⟩
  · rw [h3 (Or.inr (Or.inr (Or.inl c))), c, crB_109, crB_109, crS_109, crS_109]
    exact ⟨rfl, rfl⟩
  · rcases c with c | c | c | c <;> rw [c]
    · rw [crB_100, crB_100, crS_100, crS_100]; exact ⟨rfl, rfl⟩
    · rw [crB_102, crB_102, crS_102, crS_102]; exact ⟨rfl, rfl⟩
    · rw [crB_115, crB_115, crS_115, crS_115]; exact ⟨rfl, rfl⟩
    · rw [crB_99, crB_99, crS_99, crS_99]; exact ⟨rfl, rfl⟩
  · rw [h3 (Or.inr (Or.inr (Or.inr c))), h4 (Or.inr (Or.inr c))]
    obtain ⟨t, t1, t2, t3, t4, t5, t6⟩ := h5 c
    refine ⟨rfl, ?_⟩
    rw [t2, t3, t4, t5, pk_sub (by omega), show t + x.2.1.1.length - t = x.2.1.1.length by omega, show iv (nI t) = t from nI_clamp (by omega), c, crS_97, crS_97]
    refine seF_cg (fun j hj => ?_)
    rw [show iv (nI x.2.1.1.length) = x.2.1.1.length from nI_clamp (by omega)] at hj
    unfold tvF
    have hg : x.2.1.1[j]? = some x.2.1.1[j] := List.getElem?_eq_getElem hj
    rw [hg]
    exact t6 j _ hg
  · rw [c, crB_114, crB_114, crS_114, crS_114]
    exact ⟨rfl, rfl⟩
theorem rl_a130 {P : Int32 → RST → Prop} {K : Int32 → (Nat → Int32) → (Nat → Nat → Int32) → Prop} {r : Nat → Int32} {v n hi : Nat} (hv : v < 6) (hh : hi ≤ 80) (hn : n ≤ 81) (h13 : r 13 = nI n) (hc8 : CW8 r) : ∀ (l : List STM) (i fuel : Nat) (q : Nat → Nat → Int32), i + l.length = n → l.length < fuel → 8 * n + 8 ≤ 640 → WF (q 0) → (∀ j x, l[j]? = some x → stK (q 5) (q 6) (8 * (i + j)) hi x) → (∀ x, x ∈ l → stW x) → (∀ q', kQ q q' [0] → (amG v l i (q 0)).1 = none → q' 0 = (amG v l i (q 0)).2 → ∀ (r34 : Nat → Int32) (q35 : Nat → Nat → Int32), (kR r r34 [5] ∧ kQ q' q35 [3] ∧ psh (q' 3) (q35 3) (q' 2) (r 5) (r34 5)) → P (r34 13) (r34, q35)) → (∀ q' j, kQ q q' [0] → (amG v l i (q 0)).1 = some j → K (nI j) r q') → wp_X11_amend_130 K P fuel (nI v) (nI i) r q := by
  intro l
  induction l with
  | nil =>
    intro i fuel q hi9 hf h64 hw hst hgd hN hS
    obtain ⟨f, rfl⟩ : ∃ f, fuel = f + 1 := ⟨fuel - 1, by omega⟩; rw [wp_X11_amend_130]; unfold wb_X11_amend_130; dsimp only
    rw [h13, nI_leI (by omega) (by omega)]
    rw [List.length_nil] at hi9
    refine ⟨fun _ => ⟨hc8, fun r34 q35 hh => ?_⟩, fun z9 => absurd (by omega) z9⟩
    exact hN q kQ.rf rfl rfl r34 q35 hh
  | cons x l ih =>
    intro i fuel q hi9 hf h64 hw hst hgd hN hS
    rw [List.length_cons] at hi9 hf
    have hx := hst 0 x (by simp)
    rw [Nat.add_zero] at hx
    have hxW := hgd x (List.mem_cons_self ..)
    have e8 : (8 : Int32) * nI i = nI (8 * i) := pk_mul 8 i
    have ie : iv (nI (8 * i)) = 8 * i := nI_clamp (by omega)
    have iev : iv (nI v) = v := nI_clamp (by omega)
    obtain ⟨eB, eS⟩ := cr_of (μ := q 0) (v := v) hx hxW hh
    obtain ⟨f, rfl⟩ : ∃ f, fuel = f + 1 := ⟨fuel - 1, by omega⟩; rw [wp_X11_amend_130]; unfold wb_X11_amend_130; dsimp only
    rw [h13, nI_leI (by omega) (by omega), e8, ie, iev, eB, eS]
    refine ⟨fun z9 => absurd z9 (by omega), fun _ => ⟨⟨hw, ⟨v, hv, rfl⟩, ⟨8 * i, by omega, rfl⟩, crO_of hx hxW hh⟩, fun v37 r38 q39 hr => ?_⟩⟩
    obtain ⟨a1, a2, a3, a4⟩ := hr
    subst a2
    rw [amG] at hN hS
    cases hb : crBx (q 0) v x with
    | true =>
      rw [hb] at a1 hN hS
      rw [if_pos rfl] at hN hS
      have e0 := a4 hb
      refine ⟨fun _ v42 e42 => ?_, fun z9 => absurd (a1.symm.trans z9) (by decide)⟩
      rw [nI_1] at e42
      subst e42
      have e5 : q39 5 = q 5 := a3 5 (by decide)
      have e6 : q39 6 = q 6 := a3 6 (by decide)
      refine ih (i + 1) f q39 (by omega) (by omega) h64 (by rw [e0]; exact cr_wf hw hv hxW hb) (fun j y hy => ?_) (fun y hy => hgd y (List.mem_cons_of_mem _ hy)) (fun q' g1 g2 g3 => hN q' (a3.tr g1 (fun _ h => h) (fun _ h => h)) (by rw [← e0]; exact g2) (by rw [← e0]; exact g3)) (fun q' j g1 g2 => hS q' j (a3.tr g1 (fun _ h => h) (fun _ h => h)) (by rw [← e0]; exact g2))
      rw [e5, e6]
      have := hst (j + 1) y (by simpa using hy)
      rw [show i + 1 + j = i + (j + 1) by omega]
      exact this
    | false =>
      rw [hb] at a1 hN hS
      rw [if_neg (by decide)] at hN hS
      refine ⟨fun z9 => absurd a1 z9, fun _ => hS q39 i a3 rfl⟩
theorem k_X11_amend (l : Launch) (D : va_G) (T : Nat → ClassId) (m0 : Nat) (a : Nat → Nat) (p0 : Int32) (r : Nat → Int32) (q : Nat → Nat → Int32) (h : WF (q 0) ∧ FW r ∧ CW8 r) : RMi l yX11_amend (ws_X11_amend) rm_X11_amend D T m0 a [.ref m0, .int p0] r q (fun v u => (amP r q p0 v u.1 u.2)) := c_X11_amend l D T m0 a p0 r q _ <|
  (by
    obtain ⟨hw, ⟨n, hn, e8⟩, hc8⟩ := h
    have ien : iv (r 8) = n := by rw [e8]; exact nI_clamp (by omega)
    unfold wp_X11_amend
    intro r1 e1 r2 e2 r3 e3 r4 e4 r5 e5 v6 e6
    have g5 : ∀ j, j ≠ 6 → j ≠ 10 → j ≠ 11 → j ≠ 13 → j ≠ 15 → r5 j = r j := fun j h6 h10 h11 h13 h15 => by rw [e5, va_up_ne _ _ h15, e4, va_up_ne _ _ h13, e3, va_up_ne _ _ h11, e2, va_up_ne _ _ h10, e1, va_up_ne _ _ h6]
    have k5 : kR r r5 (5 :: 8 :: 12 :: SC) := by rw [e5, e4, e3, e2, e1]; exact ((((kR.rf.up (by decide) _).up (by decide) _).up (by decide) _).up (by decide) _).up (by decide) _
    have s6 : r5 6 = 0 := by rw [e5, va_up_ne _ _ (by decide), e4, va_up_ne _ _ (by decide), e3, va_up_ne _ _ (by decide), e2, va_up_ne _ _ (by decide), e1, va_up_self]
    have s10 : r5 10 = 0 := by rw [e5, va_up_ne _ _ (by decide), e4, va_up_ne _ _ (by decide), e3, va_up_ne _ _ (by decide), e2, va_up_self]
    have s11 : r5 11 = 0 := by rw [e5, va_up_ne _ _ (by decide), e4, va_up_ne _ _ (by decide), e3, va_up_self]
    have s13 : r5 13 = 0 := by rw [e5, va_up_ne _ _ (by decide), e4, va_up_self]
    have s15 : r5 15 = 0 := by rw [e5, va_up_self]
    have s8 : r5 8 = nI n := (g5 8 (by decide) (by decide) (by decide) (by decide) (by decide)).trans e8
    have i8 : iv (r5 8) = n := by rw [s8]; exact nI_clamp (by omega)
    have hp5 : psO r5 := ⟨⟨n, hn, s8⟩, ⟨0, Nat.zero_le _, s10⟩, by rw [s11]; exact vz0⟩
    have hσ5 : pσ r5 = (0, false) := by unfold pσ; rw [s10, s11]; rfl
    have hnil : stL (q 5) (q 6) (iv (r5 15)) [] := fun j x hx => by simp at hx
    by_cases c0 : zin p0 0 (q 0 0 - 1) = 0
    · rw [c0] at e6
      subst e6
      refine ⟨1, ?_⟩
      rw [wp_X11_amend_31]; unfold wb_X11_amend_31; dsimp only
      refine ⟨fun _ v19 e19 r20 e20 => ⟨fun z9 => absurd c0 z9, fun _ v58 r59 q60 hh => ?_⟩, fun z9 => absurd rfl z9⟩
      obtain ⟨h1, h2, h3⟩ := hh
      subst h3
      refine ⟨by (try dsimp only); rw [h2, e20]; exact (k5.up (by decide) _).up (by decide) _, kQ.rf, ?_, fun _ => ⟨?_, ?_, ?_, rfl, rfl⟩, fun z9 => absurd c0 z9, fun z9 => absurd c0 z9⟩
      · (try dsimp only); rw [h2, va_up_ne _ _ (by decide), e20, va_up_self]
      · (try dsimp only); rw [h2, va_up_self]
      · (try dsimp only); rw [h2, va_up_ne _ _ (by decide), e20, va_up_ne _ _ (by decide)]; exact g5 5 (by decide) (by decide) (by decide) (by decide) (by decide)
      · (try dsimp only); rw [h2, va_up_ne _ _ (by decide), e20, va_up_ne _ _ (by decide)]; exact g5 12 (by decide) (by decide) (by decide) (by decide) (by decide)
    · obtain ⟨v, nv, hv, hnv, env, ev⟩ := vers_ix hw c0
      have e6' : v6 = 1 := by
        rw [e6]
        unfold zin at c0 ⊢
        split at c0
        · exact absurd rfl c0
        split at c0
        · exact absurd rfl c0
        · rename_i h1 h2; rw [if_neg h1, if_neg h2]
      subst e6'
      have iv0 : iv p0 = v := by rw [ev]; exact nI_clamp (by omega)
      refine ⟨200, rl_am (b := q 4) (n := n) 80 200 [] r5 q rfl i8 (by omega) (by omega) hp5 (by rw [hσ5]) ⟨0, Nat.zero_le _, s15⟩ s13 (Nat.zero_le _) hnil (fun r17 q18 hq => ?_)⟩
      rw [hσ5] at hq
      obtain ⟨b1, b2, b3, b4, b5⟩ := hq
      have hA : amL (q 4) n (80 + 1) (0, false) = amF (q 4) n := rfl
      rw [hA] at b4 b5
      rw [List.nil_append, List.length_nil, Nat.zero_add] at b5
      have k17 : kR r r17 (5 :: 8 :: 12 :: SC) := k5.tr b1 (fun _ h => h) (by decide)
      have m17 : kQ q q18 [0, 2, 3, 5, 6] := b2.mn (by decide)
      intro v19 e19 r20 e20
      have e17 : r17 8 = nI n := (b1 8 (by decide)).trans s8
      rw [e17] at e19
      have k20 : kR r r20 (5 :: 8 :: 12 :: SC) := by rw [e20]; exact k17.up (by decide) _
      have f : ∀ j, j ≠ 8 → r20 j = r17 j := fun j hj => by rw [e20, va_up_ne _ _ hj]
      have f8 : r20 8 = 0 := by rw [e20, va_up_self]
      have f6 : r20 6 = 0 := by rw [f 6 (by decide), b1 6 (by decide)]; exact s6
      have f5 : r20 5 = r 5 := by rw [f 5 (by decide), b1 5 (by decide)]; exact g5 5 (by decide) (by decide) (by decide) (by decide) (by decide)
      have f12 : r20 12 = r 12 := by rw [f 12 (by decide), b1 12 (by decide)]; exact g5 12 (by decide) (by decide) (by decide) (by decide) (by decide)
      have pl := ps_1 b3
      have f10 : r20 10 = nI (amF (q 4) n).2.1 := by rw [f 10 (by decide), pl.2.2, b4]
      have h11 : r20 11 = r17 11 := f 11 (by decide)
      have q0e : q18 0 = q 0 := b2 0 (by decide)
      have q3e : q18 3 = q 3 := b2 3 (by decide)
      have hpl : (amF (q 4) n).2.1 ≤ n := by
        have := pl.1
        rw [b4, e17, show iv (nI n) = n from nI_clamp (by omega)] at this
        exact this
      rw [q0e]
      -- what stands still
      have stop : ((amF (q 4) n).2.2 = true ∨ (amF (q 4) n).2.1 < n) → amP r q p0 ((-100) - r20 10) r20 q18 := by
        intro hs
        refine ⟨k20, m17, f8, fun z9 => absurd z9 c0, fun _ _ => ⟨f6, by rw [f10, ien], f5, f12, q0e, q3e⟩, fun _ z9 z8 => ?_⟩
        rw [ien] at z9 z8
        rcases hs with hs | hs
        · rw [hs] at z9; cases z9
        · omega
      have mb := pb_of b3.2.2
      rw [h11]
      refine ⟨fun _ => ⟨fun z9 => stop (Or.inl ?_), fun z9 => ⟨fun z8 => ?_, fun z8 => stop (Or.inr ?_)⟩⟩, fun z9 => absurd z9 c0⟩
      · rw [← b4]; exact bd_of b3.2.2 z9
      · have hgd := mb.mp z9
        have hgA : (amF (q 4) n).2.2 = false := by rw [← b4]; exact hgd
        rw [e19, f10, nI_leI (by omega) (by omega)] at z8
        obtain ⟨c1, c2, c3, c4⟩ := b5 hgd
        have hst := am_gd (b := q 4) hn 81 (0, false) (Nat.zero_le _) rfl hgA
        -- at most forty statements
        have c40 : 8 * (amF (q 4) n).1.length + 8 ≤ 640 := by
          have := am_len (b := q 4) (n := n) 81 (0, false) (Nat.zero_le _) rfl hgA
          rw [show ((0 : Nat), false).1 = 0 from rfl, Nat.zero_add] at this
          have h9 : 2 * (amF (q 4) n).1.length ≤ (amF (q 4) n).2.1 + 1 := this
          omega
        refine ⟨4000, rl_a99 (q0 := q18) 3334 0 4000 q18 (by omega) (by omega) kQ.rf (fun k hk => by omega) (fun q31 d1 d2 => ?_)⟩
        have q31e : q31 0 = q 0 := (d1 0 (by decide)).trans q0e
        have cw : CW8 r20 := by
          obtain ⟨m, hm, em⟩ := hc8
          exact ⟨m, hm, f5.trans em⟩
        refine ⟨200, ?_⟩
        rw [ev]
        refine rl_a130 (hi := iv (r17 15)) (n := (amF (q 4) n).1.length) (by omega) c3 c2 (by rw [f 13 (by decide)]; exact c1) cw (amF (q 4) n).1 0 200 q31 (Nat.zero_add _) (by omega) c40 (by rw [q31e]; exact hw) (fun j x hx => ?_) hst (fun q' g1 g2 g3 r34 q35 hh => ?_) (fun q' j g1 g2 => ?_)
        · rw [d1 5 (by decide), d1 6 (by decide), Nat.zero_add]
          exact c4 j x hx
        · obtain ⟨y1, y2, y3⟩ := hh
          rw [q31e] at g2 g3
          have e2' : q' 2 = q31 2 := g1 2 (by decide)
          have m35 : kQ q q35 [0, 2, 3, 5, 6] := ((m17.tr d1 (fun _ h => h) (by decide)).tr g1 (L := [0, 2, 3, 5, 6]) (fun _ h => h) (by decide)).tr y2 (fun _ h => h) (by decide)
          have k34 : kR r r34 (5 :: 8 :: 12 :: SC) := k20.tr y1 (fun _ h => h) (by decide)
          refine ⟨k34, m35, by (try dsimp only); rw [y1 8 (by decide)]; exact f8, fun z9 => absurd z9 (by rw [← ev]; exact c0), fun _ z9 => ?_, fun _ _ _ => ⟨fun i hi9 => ?_, fun _ => ⟨?_, ?_, ?_, ?_, ?_⟩⟩⟩
          · rw [ien] at z9
            rcases z9 with z9 | z9
            · rw [hgA] at z9; cases z9
            · omega
          · rw [ien, show iv (nI v) = v from nI_clamp (by omega), g2] at hi9
            cases hi9
          · (try dsimp only); rw [y1 6 (by decide)]; exact f6
          · (try dsimp only); rw [y1 12 (by decide)]; exact f12
          · (try dsimp only); rw [y1 13 (by decide), f 13 (by decide), ien]; exact c1
          · (try dsimp only); rw [ien, show iv (nI v) = v from nI_clamp (by omega), y2 0 (by decide)]; exact g3
          · (try dsimp only)
            rw [e2', g1 3 (by decide), d1 3 (by decide), q3e, f5] at y3
            exact psh_cg y3 (fun k hk => by rw [d2 k hk, q0e])
        · rw [q31e] at g2
          intro r46 e46
          refine ⟨4000, rl_a161 (q0 := q') 3334 0 4000 q' (by omega) (by omega) kQ.rf (fun k hk => by omega) (fun q1 y1 y2 => ?_)⟩
          have e2' : q' 2 = q31 2 := g1 2 (by decide)
          have m1 : kQ q q1 [0, 2, 3, 5, 6] := ((m17.tr d1 (fun _ h => h) (by decide)).tr g1 (L := [0, 2, 3, 5, 6]) (fun _ h => h) (by decide)).tr y1 (fun _ h => h) (by decide)
          have k46 : kR r (va_up r46 6 2) (5 :: 8 :: 12 :: SC) := by rw [e46]; exact (k20.up (by decide) _).up (by decide) _
          have h46 : ∀ i, i ≠ 6 → i ≠ 12 → va_up r46 6 2 i = r20 i := fun i h6 h12 => by rw [va_up_ne _ _ h6, e46, va_up_ne _ _ h12]
          refine ⟨k46, m1, by (try dsimp only); rw [h46 8 (by decide) (by decide)]; exact f8, fun z9 => absurd z9 (by rw [← ev]; exact c0), fun _ z9 => ?_, fun _ _ _ => ⟨fun i hi9 => ?_, fun z9 => ?_⟩⟩
          · rw [ien] at z9
            rcases z9 with z9 | z9
            · rw [hgA] at z9; cases z9
            · omega
          · rw [ien, show iv (nI v) = v from nI_clamp (by omega), g2] at hi9
            have e9 : j = i := Option.some.inj hi9
            subst e9
            refine ⟨by (try dsimp only); rw [va_up_self], by (try dsimp only); rw [va_up_ne _ _ (by decide), e46, va_up_self], by (try dsimp only); rw [h46 5 (by decide) (by decide)]; exact f5, fun k hk => ?_, ?_⟩
            · (try dsimp only); rw [y2 k hk, e2', d2 k hk, q0e]
            · (try dsimp only); rw [y1 3 (by decide), g1 3 (by decide), d1 3 (by decide)]; exact q3e
          · rw [ien, show iv (nI v) = v from nI_clamp (by omega), g2] at z9
            cases z9
      · rw [e19, f10, nI_leI (by omega) (by omega)] at z8
        omega)

end S_RUS
